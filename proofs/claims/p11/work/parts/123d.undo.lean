set_option maxHeartbeats 4000000 in
set_option maxRecDepth 100000 in
theorem C_undo {l : Launch} {G : GT} {mi : Nat} {sk : Nat → Nat} {L : List Nat} {cl ln : Nat → Nat} {iv : Nat → Nat → Int} {rv : Nat → Nat → Option Nat}  {a0 : Nat} (hW : WT (g0 G) sk L cl ln iv rv) (hS : SKL sk L cl) (t_a0 : ty L cl a0 1) (hmr : MRK sk cl iv rv) : Mc l G mi (Phi (g0 G) sk) PHM yX11_undo cX11_undo 1 (some .int) 5 [.ref a0] L cl ln iv rv 0 (fun v L2 cl2 ln2 iv2 rv2 => ∃ f : Int, v = some (.int (iI f)) ∧ L = L2 ∧ cl = cl2 ∧ ln = ln2 ∧ fT [1, 22, 1000, 23, 1001, 26, 1004, 12, 20, 68, 100] L cl iv rv iv2 rv2 ∧ WT (g0 G) sk L2 cl2 ln2 iv2 rv2 ∧ (-2147483648 ≤ f ∧ f ≤ 2147483647) ∧ (iv2 (sk 23) 2 ≤ iv (sk 23) 2 + 1 ∧ MRK sk cl2 iv2 rv2) ∧ iv2 a0 14 = iv a0 14 ∧ (PUNX f sk iv rv iv2 rv2)) := by
  refine Mc.mk (by decide) (Nat.le_of_ble_eq_true rfl) ?_
  intro p e s m args below meth c A C hM
  have hph := Phi.le hW hS
  have tsk2 : ty L cl (sk 2) 2 := ⟨(hS 2 rfl).1, by rw [(hS 2 rfl).2]; rfl⟩
  have tsk3 : ty L cl (sk 3) 3 := ⟨(hS 3 rfl).1, by rw [(hS 3 rfl).2]; rfl⟩
  have tsk4 : ty L cl (sk 4) 4 := ⟨(hS 4 rfl).1, by rw [(hS 4 rfl).2]; rfl⟩
  have tsk5 : ty L cl (sk 5) 5 := ⟨(hS 5 rfl).1, by rw [(hS 5 rfl).2]; rfl⟩
  have tsk13 : ty L cl (sk 13) 13 := ⟨(hS 13 rfl).1, by rw [(hS 13 rfl).2]; rfl⟩
  have tsk14 : ty L cl (sk 14) 14 := ⟨(hS 14 rfl).1, by rw [(hS 14 rfl).2]; rfl⟩
  have tsk15 : ty L cl (sk 15) 15 := ⟨(hS 15 rfl).1, by rw [(hS 15 rfl).2]; rfl⟩
  have tsk16 : ty L cl (sk 16) 16 := ⟨(hS 16 rfl).1, by rw [(hS 16 rfl).2]; rfl⟩
  have tsk17 : ty L cl (sk 17) 17 := ⟨(hS 17 rfl).1, by rw [(hS 17 rfl).2]; rfl⟩
  have tsk22 : ty L cl (sk 22) 22 := ⟨(hS 22 rfl).1, by rw [(hS 22 rfl).2]; rfl⟩
  have tsk23 : ty L cl (sk 23) 23 := ⟨(hS 23 rfl).1, by rw [(hS 23 rfl).2]; rfl⟩
  have hX0 : XT L cl ln L cl ln := XT.refl
  have hF0 : fT [1, 22, 1000, 23, 1001, 26, 1004, 12, 20, 68, 100] L cl iv rv iv rv := fT.refl
  have ri1 : 0 ≤ iv (sk 23) 2 ∧ iv (sk 23) 2 ≤ 512 := hW.int tsk23 2
  refine c_aload_n (j := 0) (x := a0) C dX11_undo_0 rfl ?_
  refine c_aload_n (j := 0) (x := a0) C dX11_undo_1 rfl ?_
  obtain ⟨rb1, rq1, trb1⟩ := hW.ref t_a0 4 rfl rfl rfl
  have erb1 := hW.sk trb1 (by decide) rfl
  subst erb1
  refine c_getr (k := 4) C ck_12 dX11_undo_2 w2_48 (by decide) t_a0 rfl rfl (by decide) rfl rq1 ?_
  refine c_st (st2 := [.ref (sk 13), .ref a0]) rfl ?_
  have ri2 : 0 ≤ iv (sk 22) 2 ∧ iv (sk 22) 2 ≤ 30 := hW.int tsk22 2
  refine d_callV (As := []) (rest := [.ref a0]) C hM (C_takeBack (a0 := (sk 13)) hW hS tsk13  hmr) dX11_undo_5 kV_X11_218 rfl tsk13 rfl rfl (by decide) ck_11 rfl (Nat.le_of_ble_eq_true rfl) ⟨(Nat.le_of_ble_eq_true rfl), (Nat.le_of_ble_eq_true rfl)⟩ hph hph (show 0 + 0 = 0 from rfl) (by decide) (fun rh1 Lh1 clh1 lnh1 ivh1 rvh1 h1 => ?_)
  obtain ⟨f1, rfl, rfl, rfl, rfl, fl1, W1, rgf1, exf1, tbkf1⟩ := h1
  have F1 := hF0.call hX0 fl1 rfl
  refine c_st (st2 := [.int (iI f1), .ref a0]) rfl ?_
  have ri3 : 0 ≤ ivh1 (sk 22) 2 ∧ ivh1 (sk 22) 2 ≤ 30 := W1.int tsk22 2
  have ri4 : 0 ≤ ivh1 (sk 23) 2 ∧ ivh1 (sk 23) 2 ≤ 512 := W1.int tsk23 2
  have gf1 : ivh1 (sk 22) 2 ≤ iv (sk 22) 2 ∧ ivh1 (sk 23) 2 ≤ iv (sk 23) 2 ∧ MRK sk cl ivh1 rvh1 := exf1
  refine c_if_eq (tgt := 15) C ⟨by omega, by omega⟩ dX11_undo_8 (by decide) (fun c1 => ?_) (fun c1 => ?_)
  · refine c_iconst C dX11_undo_15 ?_
    have pl1 := Phi.le W1 hS
    refine d_callV (As := [.int (iI 0)]) (rest := []) C hM (C_done (a0 := a0) (x := 0) W1 hS t_a0 ⟨by decide, by decide⟩ ) dX11_undo_16 kV_X11_109 rfl t_a0 rfl rfl (by decide) ck_12 rfl (Nat.le_of_ble_eq_true rfl) ⟨(Nat.le_of_ble_eq_true rfl), (Nat.le_of_ble_eq_true rfl)⟩ hph pl1 (show 0 + 0 = 0 from rfl) (by decide) (fun rh2 Lh2 clh2 lnh2 ivh2 rvh2 h2 => ?_)
    obtain ⟨f2, rfl, rfl, rfl, rfl, rfl, fl2, W2, rgf2, exf2, kp14f2⟩ := h2
    have ri5 : (-2147483648) ≤ ivh1 a0 14 ∧ ivh1 a0 14 ≤ 2147483647 := W1.int t_a0 14
    have ie3 : ivh1 a0 14 = iv a0 14 := fl1.i t_a0 rfl 14
    have F2 := F1.call hX0 fl2 rfl
    have mr1 := MRK.call exf1.2.2 W1 hS XT.refl fl2 rfl rfl
    refine c_st (st2 := [.int (iI f2)]) rfl ?_
    have gk14f2 : ivh2 a0 14 = ivh1 a0 14 := kp14f2
    have gf2 : f2 = (0 : Int) := exf2
    have ri6 : (-2147483648) ≤ ivh2 a0 14 ∧ ivh2 a0 14 ≤ 2147483647 := W2.int t_a0 14
    have ri7 : 0 ≤ ivh2 (sk 23) 2 ∧ ivh2 (sk 23) 2 ≤ 512 := W2.int tsk23 2
    have ie5 : ivh2 (sk 23) 2 = ivh1 (sk 23) 2 := fl2.i tsk23 rfl 2
    exact c_iret C dX11_undo_19 rfl (by decide) (rom0 hph pl1 (by decide)) ⟨f2, rfl, rfl, rfl, rfl, F2, W2, ⟨by omega, by omega⟩, ⟨(by omega), mr1⟩, (by omega), (by
        rcases tbkf1 with ⟨u1, u2, u3⟩ | ⟨u1, u2, ch, u3, u4⟩
        · exact Or.inl ⟨by omega, u2, u3.trans (PSAME.fr W1 hS fl2 rfl rfl rfl rfl rfl rfl rfl)⟩
        · exact Or.inr ⟨by omega, u2, ch, u3, PUND.after hW hS ⟨_, by omega, u3⟩ u4 (PSAME.fr W1 hS fl2 rfl rfl rfl rfl rfl rfl rfl) fl2 rfl rfl⟩)⟩
  · refine c_iconst C dX11_undo_11 ?_
    refine c_goto (tgt := 16) C dX11_undo_12 (by decide) ?_
    have pl2 := Phi.le W1 hS
    refine d_callV (As := [.int (iI 1)]) (rest := []) C hM (C_done (a0 := a0) (x := 1) W1 hS t_a0 ⟨by decide, by decide⟩ ) dX11_undo_16 kV_X11_109 rfl t_a0 rfl rfl (by decide) ck_12 rfl (Nat.le_of_ble_eq_true rfl) ⟨(Nat.le_of_ble_eq_true rfl), (Nat.le_of_ble_eq_true rfl)⟩ hph pl2 (show 0 + 0 = 0 from rfl) (by decide) (fun rh3 Lh3 clh3 lnh3 ivh3 rvh3 h3 => ?_)
    obtain ⟨f3, rfl, rfl, rfl, rfl, rfl, fl3, W3, rgf3, exf3, kp14f3⟩ := h3
    have ri8 : (-2147483648) ≤ ivh1 a0 14 ∧ ivh1 a0 14 ≤ 2147483647 := W1.int t_a0 14
    have ie6 : ivh1 a0 14 = iv a0 14 := fl1.i t_a0 rfl 14
    have F3 := F1.call hX0 fl3 rfl
    have mr2 := MRK.call exf1.2.2 W1 hS XT.refl fl3 rfl rfl
    refine c_st (st2 := [.int (iI f3)]) rfl ?_
    have gk14f3 : ivh3 a0 14 = ivh1 a0 14 := kp14f3
    have gf3 : f3 = (1 : Int) := exf3
    have ri9 : (-2147483648) ≤ ivh3 a0 14 ∧ ivh3 a0 14 ≤ 2147483647 := W3.int t_a0 14
    have ri10 : 0 ≤ ivh3 (sk 23) 2 ∧ ivh3 (sk 23) 2 ≤ 512 := W3.int tsk23 2
    have ie8 : ivh3 (sk 23) 2 = ivh1 (sk 23) 2 := fl3.i tsk23 rfl 2
    exact c_iret C dX11_undo_19 rfl (by decide) (rom0 hph pl2 (by decide)) ⟨f3, rfl, rfl, rfl, rfl, F3, W3, ⟨by omega, by omega⟩, ⟨(by omega), mr2⟩, (by omega), (by
        rcases tbkf1 with ⟨u1, u2, u3⟩ | ⟨u1, u2, ch, u3, u4⟩
        · exact Or.inl ⟨by omega, u2, u3.trans (PSAME.fr W1 hS fl3 rfl rfl rfl rfl rfl rfl rfl)⟩
        · exact Or.inr ⟨by omega, u2, ch, u3, PUND.after hW hS ⟨_, by omega, u3⟩ u4 (PSAME.fr W1 hS fl3 rfl rfl rfl rfl rfl rfl rfl) fl3 rfl rfl⟩)⟩
