def KNW (L : List Nat) (sk : Nat → Nat) (b s : Option Nat) (iv : Nat → Nat → Int) (iv2 : Nat → Nat → Int) (rv2 : Nat → Nat → Option Nat) : Prop := ∃ q r s5 x n, el rv2 (sk 22) (iv (sk 22) 2).toNat = some q ∧ (q ∉ L ∧ r ∉ L ∧ s5 ∉ L ∧ x ∉ L ∧ n ∉ L) ∧ (rv2 q 2 = b ∧ rv2 q 3 = s ∧ rv2 q 4 = some r ∧ rv2 q 5 = some s5 ∧ rv2 q 6 = some n ∧ rv2 s5 1 = some x) ∧ iv2 s5 2 = 0 ∧ (∀ k, rv2 n k = none)
set_option maxHeartbeats 4000000 in
set_option maxRecDepth 100000 in
theorem C_table {l : Launch} {G : GT} {mi : Nat} {sk : Nat → Nat} {L : List Nat} {cl ln : Nat → Nat} {iv : Nat → Nat → Int} {rv : Nat → Nat → Option Nat}  {a0 : Nat} {x : Int} {y : Int} {i : Int} (hW : WT (g0 G) sk L cl ln iv rv) (hS : SKL sk L cl) (t_a0 : ty L cl a0 1) (h_x : -2147483648 ≤ x ∧ x ≤ 2147483647) (h_y : -2147483648 ≤ y ∧ y ≤ 2147483647) (h_i : -2147483648 ≤ i ∧ i ≤ 2147483647) (hmr : MRK sk cl iv rv) (hch : iv (sk 23) 2 < 512) : Mc l G mi (Phi (g0 G) sk) PHM yX11_table cX11_table 5 (some .int) 9 [.ref a0, .int (iI x), .int (iI y), .int (iI i)] L cl ln iv rv 1434 (fun v L2 cl2 ln2 iv2 rv2 => ∃ f : Int, v = some (.int (iI f)) ∧ XT L cl ln L2 cl2 ln2 ∧ fT [1, 22, 1000, 23, 1001, 201, 210, 200, 202] L cl iv rv iv2 rv2 ∧ WT (g0 G) sk L2 cl2 ln2 iv2 rv2 ∧ (-2147483648 ≤ f ∧ f ≤ 2147483647) ∧ (iv2 (sk 23) 2 ≤ iv (sk 23) 2 + 1 ∧ MRK sk cl2 iv2 rv2) ∧ iv2 a0 11 = iv a0 11 ∧ iv2 a0 12 = iv a0 12 ∧ iv2 a0 13 = iv a0 13 ∧ iv2 a0 14 = iv a0 14 ∧ iv2 a0 15 = iv a0 15 ∧ iv2 a0 16 = iv a0 16 ∧ (PTBL x y i f sk iv rv iv2 rv2) ∧ ((f = -1 ∧ KP L cl (fun _ => False) (fun _ => False) (fun _ => False) (fun _ => False) (fun _ _ => False) iv rv iv2 rv2) ∨ (f ≠ -1 ∧ KP L cl (fun _ => False) (fun _ => False) (fun _ => False) (fun _ => False) (fun _ _ => False) iv rv iv2 rv2 ∧ ∃ b, (((x < 1 ∨ 3 < x) ∧ b = none) ∨ ((1 ≤ x ∧ x ≤ 3) ∧ ∃ t, ALV sk iv rv i t ∧ b = some t)) ∧ KNW L sk b none iv iv2 rv2)) ∧ rv2 a0 9 = rv a0 9 ∧ rv2 a0 10 = rv a0 10) := by
  refine Mc.mk (by decide) (Nat.le_of_ble_eq_true rfl) ?_
  intro p e s m args below meth c A C hM
  have hph := Phi.le hW hS
  have tsk2 : ty L cl (sk 2) 2 := ⟨(hS 2 rfl).1, by rw [(hS 2 rfl).2]; rfl⟩
  have tsk3 : ty L cl (sk 3) 3 := ⟨(hS 3 rfl).1, by rw [(hS 3 rfl).2]; rfl⟩
  have tsk4 : ty L cl (sk 4) 4 := ⟨(hS 4 rfl).1, by rw [(hS 4 rfl).2]; rfl⟩
  have tsk5 : ty L cl (sk 5) 5 := ⟨(hS 5 rfl).1, by rw [(hS 5 rfl).2]; rfl⟩
  have tsk13 : ty L cl (sk 13) 13 := ⟨(hS 13 rfl).1, by rw [(hS 13 rfl).2]; rfl⟩
  have tsk14 : ty L cl (sk 14) 14 := ⟨(hS 14 rfl).1, by rw [(hS 14 rfl).2]; rfl⟩
  have tsk15 : ty L cl (sk 15) 15 := ⟨(hS 15 rfl).1, by rw [(hS 15 rfl).2]; rfl⟩
  have tsk16 : ty L cl (sk 16) 16 := ⟨(hS 16 rfl).1, by rw [(hS 16 rfl).2]; rfl⟩
  have tsk17 : ty L cl (sk 17) 17 := ⟨(hS 17 rfl).1, by rw [(hS 17 rfl).2]; rfl⟩
  have tsk22 : ty L cl (sk 22) 22 := ⟨(hS 22 rfl).1, by rw [(hS 22 rfl).2]; rfl⟩
  have tsk23 : ty L cl (sk 23) 23 := ⟨(hS 23 rfl).1, by rw [(hS 23 rfl).2]; rfl⟩
  have hX0 : XT L cl ln L cl ln := XT.refl
  have hF0 : fT [1, 22, 1000, 23, 1001, 201, 210, 200, 202] L cl iv rv iv rv := fT.refl
  have kp1 : KP L cl (fun _ => False) (fun _ => False) (fun _ => False) (fun _ => False) (fun _ _ => False) iv rv iv rv := KP.refl
  refine c_iload_n (j := 1) C dX11_table_0 rfl ?_
  refine c_if_lt (tgt := 31) C ⟨by omega, by omega⟩ dX11_table_1 (by decide) (fun c1 => ?_) (fun c1 => ?_)
  · refine c_aload_n (j := 0) (x := a0) C dX11_table_31 rfl ?_
    refine c_bipush (z := 6) C dX11_table_32 (by decide) ?_
    refine d_callV (As := [.int (iI 6)]) (rest := []) C hM (C_refuse (a0 := a0) (x := 6) hW hS t_a0 ⟨by decide, by decide⟩ ) dX11_table_34 kV_X11_102 rfl t_a0 rfl rfl (by decide) ck_12 rfl (Nat.le_of_ble_eq_true rfl) ⟨(Nat.le_of_ble_eq_true rfl), (Nat.le_of_ble_eq_true rfl)⟩ hph hph (show 0 + 0 = 0 from rfl) (by decide) (fun rh1 Lh1 clh1 lnh1 ivh1 rvh1 h1 => ?_)
    obtain ⟨f1, rfl, rfl, rfl, rfl, rfl, fl1, W1, rgf1, exf1, kp11f1, kp12f1, kp13f1, kp14f1, kp15f1, kp16f1⟩ := h1
    have ri1 : 1 ≤ iv a0 11 ∧ iv a0 11 ≤ 100 := hW.int t_a0 11
    have ri2 : 1 ≤ iv a0 12 ∧ iv a0 12 ≤ 50 := hW.int t_a0 12
    have ri3 : (-2147483648) ≤ iv a0 13 ∧ iv a0 13 ≤ 2147483647 := hW.int t_a0 13
    have ri4 : (-2147483648) ≤ iv a0 14 ∧ iv a0 14 ≤ 2147483647 := hW.int t_a0 14
    have ri5 : (-2147483648) ≤ iv a0 15 ∧ iv a0 15 ≤ 2147483647 := hW.int t_a0 15
    have ri6 : (-2147483648) ≤ iv a0 16 ∧ iv a0 16 ≤ 2147483647 := hW.int t_a0 16
    have F1 := hF0.call hX0 fl1 rfl
    have mr1 := MRK.call hmr hW hS XT.refl fl1 rfl rfl
    have kp2 := kp1.call TX.refl hW fl1 rfl
    refine c_st (st2 := [.int (iI f1)]) rfl ?_
    have gk11f1 : ivh1 a0 11 = iv a0 11 := kp11f1
    have gk12f1 : ivh1 a0 12 = iv a0 12 := kp12f1
    have gk13f1 : ivh1 a0 13 = iv a0 13 := kp13f1
    have gk14f1 : ivh1 a0 14 = iv a0 14 := kp14f1
    have gk15f1 : ivh1 a0 15 = iv a0 15 := kp15f1
    have gk16f1 : ivh1 a0 16 = iv a0 16 := kp16f1
    have gf1 : f1 = -1 := exf1
    have ri7 : 1 ≤ ivh1 a0 11 ∧ ivh1 a0 11 ≤ 100 := W1.int t_a0 11
    have ri8 : 1 ≤ ivh1 a0 12 ∧ ivh1 a0 12 ≤ 50 := W1.int t_a0 12
    have ri9 : (-2147483648) ≤ ivh1 a0 13 ∧ ivh1 a0 13 ≤ 2147483647 := W1.int t_a0 13
    have ri10 : (-2147483648) ≤ ivh1 a0 14 ∧ ivh1 a0 14 ≤ 2147483647 := W1.int t_a0 14
    have ri11 : (-2147483648) ≤ ivh1 a0 15 ∧ ivh1 a0 15 ≤ 2147483647 := W1.int t_a0 15
    have ri12 : (-2147483648) ≤ ivh1 a0 16 ∧ ivh1 a0 16 ≤ 2147483647 := W1.int t_a0 16
    have ri13 : 0 ≤ ivh1 (sk 23) 2 ∧ ivh1 (sk 23) 2 ≤ 512 := W1.int tsk23 2
    have ie7 : ivh1 (sk 23) 2 = iv (sk 23) 2 := fl1.i tsk23 rfl 2
    have ri14 : 0 ≤ ivh1 (sk 22) 2 ∧ ivh1 (sk 22) 2 ≤ 30 := W1.int tsk22 2
    have ie8 : ivh1 (sk 22) 2 = iv (sk 22) 2 := fl1.i tsk22 rfl 2
    exact c_iret C dX11_table_37 rfl (by decide) (rom0 hph hph (by decide)) ⟨f1, rfl, hX0, F1, W1, ⟨by omega, by omega⟩, ⟨(by omega), mr1⟩, (by omega), (by omega), (by omega), (by omega), (by omega), (by omega), (Or.inl ⟨by omega, PSAME.fr hW hS fl1 rfl rfl rfl rfl rfl rfl rfl, (fun q => by obtain ⟨q1, -⟩ := q; omega)⟩), (Or.inl ⟨by omega, kp2⟩), rfl, rfl⟩
  · refine c_iload_n (j := 1) C dX11_table_4 rfl ?_
    refine c_iconst C dX11_table_5 ?_
    refine c_icmp_gt (tgt := 31) C ⟨by omega, by omega⟩ ⟨by decide, by decide⟩ dX11_table_6 (by decide) (fun c2 => ?_) (fun c2 => ?_)
    · refine c_aload_n (j := 0) (x := a0) C dX11_table_31 rfl ?_
      refine c_bipush (z := 6) C dX11_table_32 (by decide) ?_
      refine d_callV (As := [.int (iI 6)]) (rest := []) C hM (C_refuse (a0 := a0) (x := 6) hW hS t_a0 ⟨by decide, by decide⟩ ) dX11_table_34 kV_X11_102 rfl t_a0 rfl rfl (by decide) ck_12 rfl (Nat.le_of_ble_eq_true rfl) ⟨(Nat.le_of_ble_eq_true rfl), (Nat.le_of_ble_eq_true rfl)⟩ hph hph (show 0 + 0 = 0 from rfl) (by decide) (fun rh2 Lh2 clh2 lnh2 ivh2 rvh2 h2 => ?_)
      obtain ⟨f2, rfl, rfl, rfl, rfl, rfl, fl2, W2, rgf2, exf2, kp11f2, kp12f2, kp13f2, kp14f2, kp15f2, kp16f2⟩ := h2
      have ri15 : 1 ≤ iv a0 11 ∧ iv a0 11 ≤ 100 := hW.int t_a0 11
      have ri16 : 1 ≤ iv a0 12 ∧ iv a0 12 ≤ 50 := hW.int t_a0 12
      have ri17 : (-2147483648) ≤ iv a0 13 ∧ iv a0 13 ≤ 2147483647 := hW.int t_a0 13
      have ri18 : (-2147483648) ≤ iv a0 14 ∧ iv a0 14 ≤ 2147483647 := hW.int t_a0 14
      have ri19 : (-2147483648) ≤ iv a0 15 ∧ iv a0 15 ≤ 2147483647 := hW.int t_a0 15
      have ri20 : (-2147483648) ≤ iv a0 16 ∧ iv a0 16 ≤ 2147483647 := hW.int t_a0 16
      have F2 := hF0.call hX0 fl2 rfl
      have mr2 := MRK.call hmr hW hS XT.refl fl2 rfl rfl
      have kp3 := kp1.call TX.refl hW fl2 rfl
      refine c_st (st2 := [.int (iI f2)]) rfl ?_
      have gk11f2 : ivh2 a0 11 = iv a0 11 := kp11f2
      have gk12f2 : ivh2 a0 12 = iv a0 12 := kp12f2
      have gk13f2 : ivh2 a0 13 = iv a0 13 := kp13f2
      have gk14f2 : ivh2 a0 14 = iv a0 14 := kp14f2
      have gk15f2 : ivh2 a0 15 = iv a0 15 := kp15f2
      have gk16f2 : ivh2 a0 16 = iv a0 16 := kp16f2
      have gf2 : f2 = -1 := exf2
      have ri21 : 1 ≤ ivh2 a0 11 ∧ ivh2 a0 11 ≤ 100 := W2.int t_a0 11
      have ri22 : 1 ≤ ivh2 a0 12 ∧ ivh2 a0 12 ≤ 50 := W2.int t_a0 12
      have ri23 : (-2147483648) ≤ ivh2 a0 13 ∧ ivh2 a0 13 ≤ 2147483647 := W2.int t_a0 13
      have ri24 : (-2147483648) ≤ ivh2 a0 14 ∧ ivh2 a0 14 ≤ 2147483647 := W2.int t_a0 14
      have ri25 : (-2147483648) ≤ ivh2 a0 15 ∧ ivh2 a0 15 ≤ 2147483647 := W2.int t_a0 15
      have ri26 : (-2147483648) ≤ ivh2 a0 16 ∧ ivh2 a0 16 ≤ 2147483647 := W2.int t_a0 16
      have ri27 : 0 ≤ ivh2 (sk 23) 2 ∧ ivh2 (sk 23) 2 ≤ 512 := W2.int tsk23 2
      have ie15 : ivh2 (sk 23) 2 = iv (sk 23) 2 := fl2.i tsk23 rfl 2
      have ri28 : 0 ≤ ivh2 (sk 22) 2 ∧ ivh2 (sk 22) 2 ≤ 30 := W2.int tsk22 2
      have ie16 : ivh2 (sk 22) 2 = iv (sk 22) 2 := fl2.i tsk22 rfl 2
      exact c_iret C dX11_table_37 rfl (by decide) (rom0 hph hph (by decide)) ⟨f2, rfl, hX0, F2, W2, ⟨by omega, by omega⟩, ⟨(by omega), mr2⟩, (by omega), (by omega), (by omega), (by omega), (by omega), (by omega), (Or.inl ⟨by omega, PSAME.fr hW hS fl2 rfl rfl rfl rfl rfl rfl rfl, (fun q => by obtain ⟨q1, -⟩ := q; omega)⟩), (Or.inl ⟨by omega, kp3⟩), rfl, rfl⟩
    · refine c_iload_n (j := 2) C dX11_table_9 rfl ?_
      refine c_bipush (z := 6) C dX11_table_10 (by decide) ?_
      refine c_icmp_eq (tgt := 21) C ⟨by omega, by omega⟩ ⟨by decide, by decide⟩ dX11_table_12 (by decide) (fun c3 => ?_) (fun c3 => ?_)
      · refine c_aload_n (j := 0) (x := a0) C dX11_table_21 rfl ?_
        obtain ⟨rb1, rq1, trb1⟩ := hW.ref t_a0 4 rfl rfl rfl
        have erb1 := hW.sk trb1 (by decide) rfl
        subst erb1
        refine c_getr (k := 4) C ck_12 dX11_table_22 w2_48 (by decide) t_a0 rfl rfl (by decide) rfl rq1 ?_
        refine c_st (st2 := [.ref (sk 13)]) rfl ?_
        have ri29 : 0 ≤ iv (sk 22) 2 ∧ iv (sk 22) 2 ≤ 30 := hW.int tsk22 2
        refine d_callV (As := []) (rest := []) C hM (C_isFull (a0 := (sk 13)) hW hS tsk13  ) dX11_table_25 kV_X11_118 rfl tsk13 rfl rfl (by decide) ck_11 rfl (Nat.le_of_ble_eq_true rfl) ⟨(Nat.le_of_ble_eq_true rfl), (Nat.le_of_ble_eq_true rfl)⟩ hph hph (show 0 + 0 = 0 from rfl) (by decide) (fun rh3 Lh3 clh3 lnh3 ivh3 rvh3 h3 => ?_)
        obtain ⟨f3, rfl, rfl, rfl, rfl, rfl, rfl, rgf3, exf3⟩ := h3
        refine c_st (st2 := [.int (iI f3)]) rfl ?_
        have gf3 : (f3 = 1 ∧ 30 ≤ iv (sk 22) 2) ∨ (f3 = 0 ∧ iv (sk 22) 2 < 30) := exf3
        refine c_if_eq (tgt := 38) C ⟨by omega, by omega⟩ dX11_table_28 (by decide) (fun c4 => ?_) (fun c4 => ?_)
        · refine c_iload_n (j := 1) C dX11_table_38 rfl ?_
          refine c_if_eq (tgt := 47) C ⟨by omega, by omega⟩ dX11_table_39 (by decide) (fun c5 => ?_) (fun c5 => ?_)
          · refine c_aload_n (j := 0) (x := a0) C dX11_table_47 rfl ?_
            refine c_aload_n (j := 0) (x := a0) C dX11_table_48 rfl ?_
            refine c_getr (k := 4) C ck_12 dX11_table_49 w2_48 (by decide) t_a0 rfl rfl (by decide) rfl rq1 ?_
            refine c_st (st2 := [.ref (sk 13), .ref a0]) rfl ?_
            refine c_new C ck_10 dv_10 ⟨rfl, rfl⟩ rfl (by decide) dX11_table_52 w2_162 w2_163 w1_16 (rom2 hph hph (by decide)) (fun qn1 cln1 lnn1 ivn1 rvn1 hqn1 hcn1 hln1 hin1 hrn1 => ⟨24, (p_in (Phi.new hW hS hqn1 (fun b _ => by rw [hln1]) hrn1) (by omega)), ?_⟩)
            refine c_g0 C (fun hg1 => ?_)
            have hxn1 : ∀ b, b ≠ qn1 → lnn1 b = ln b := (fun b _ => by rw [hln1])
            have W4 := hW.new (ln2 := lnn1) hqn1 (hg1 qn1 (List.mem_append_right _ List.mem_cons_self)) hcn1 hxn1 hin1 hrn1 (fun _ => ⟨(show (-2147483648 : Int) ≤ 0 by decide), (show (0 : Int) ≤ 2147483647 by decide)⟩) (Or.inl rfl) (fun q => by cases q) rfl rfl
            have xl4 := XT.new hqn1 hcn1 hxn1
            have X1 := hX0.trans xl4
            have sk1 := xl4.skl hS
            have F3 := hF0.new hX0 hqn1 hin1 hrn1
            have mr3 := MRK.call hmr hW hS xl4 ((fT.refl (ls := [])).new (XT.refl (ln := ln)) hqn1 hin1 hrn1) rfl rfl
            have tqn1 : ty (L ++ [qn1]) cln1 qn1 210 := ty_new hcn1
            have kp4 := kp1.new TX.refl hW hqn1 hin1 hrn1
            have h0qn1 : qn1 ∉ L := fun h => hqn1 ((hX0 qn1 h).1)
            refine c_dup C dX11_table_55 rfl ?_
            refine c_iload_n (j := 1) C dX11_table_56 rfl ?_
            refine c_iload_n (j := 2) C dX11_table_57 rfl ?_
            refine c_null C dX11_table_58 ?_
            refine c_null C dX11_table_59 ?_
            have pl1 := Phi.le W4 sk1
            refine c_callI (As := [.int (iI x), .int (iI y), .null, .null]) (rest := [.ref qn1, .ref (sk 13), .ref a0]) C hM (Z_table (a0 := qn1) (i := x) (n := y) (r := none) (r2 := none) W4 sk1 tqn1 (fun _ q => by cases q) (fun _ q => by cases q) (by omega) (by omega) ) dX11_table_60 kI_X11_124 rfl rfl (Nat.le_of_ble_eq_true rfl) ⟨(Nat.le_of_ble_eq_true rfl), (Nat.le_of_ble_eq_true rfl)⟩ (rz1 hph pl1 (by decide)) (fun rh4 Lh4 clh4 lnh4 ivh4 rvh4 h4 => ⟨114, (zk1 (by obtain ⟨_, xlh4x, flh4x, Wh4x, _⟩ := h4; exact Phi.fr W4 sk1 xlh4x flh4x rfl)), ?_⟩)
            obtain ⟨rfl, xl5, fl4, W5, exf4⟩ := h4
            have F4 := F3.call X1 fl4 rfl
            have mr4 := MRK.call mr3 W4 sk1 xl5 fl4 rfl rfl
            have tx1 := TX.xt TX.refl xl4
            have kp5 := kp4.call tx1 W4 fl4 rfl
            have ty1 := xl4.ty t_a0
            have ty2 := xl4.ty tsk2
            have ty3 := xl4.ty tsk3
            have ty4 := xl4.ty tsk4
            have ty5 := xl4.ty tsk5
            have ty6 := xl4.ty tsk13
            have ty7 := xl4.ty tsk14
            have ty8 := xl4.ty tsk15
            have ty9 := xl4.ty tsk16
            have ty10 := xl4.ty tsk17
            have ty11 := xl4.ty tsk22
            have ty12 := xl4.ty tsk23
            have X2 := X1.trans xl5
            have sk2 := xl5.skl sk1
            refine c_st (st2 := [.ref qn1, .ref (sk 13), .ref a0]) rfl ?_
            obtain ⟨b4exf4, b5exf4, b6exf4, exf4x, exf4r4, exf4t4, exf4r5, exf4t5, exf4r6, exf4t6, exf4r2, exf4r3, exf4i7, exf4i0, exf4i1, exf4nn, exf4zz, exf4n5, exf4n6, ⟨x5exf4, exf4rx, exf4tx, exf4nx⟩, exf4z5, exf4nn6⟩ := exf4
            have rn1 : ∀ k, ([2, 3, 4, 5, 6] : List Nat).contains k = false → rvh4 qn1 k = none := fun k hk => (Eq.trans (show rvh4 qn1 k = rvn1 qn1 k from (exf4x k hk)) (show rvn1 qn1 k = none from (by rw [hrn1]; exact up0_s)))
            have ty13 := xl5.ty ty11
            have ri30 : 0 ≤ ivh4 (sk 22) 2 ∧ ivh4 (sk 22) 2 ≤ 30 := W5.int ty13 2
            have ie17 : ivh4 (sk 22) 2 = ivn1 (sk 22) 2 := fl4.i ty11 rfl 2
            have ie18 : ivn1 (sk 22) 2 = iv (sk 22) 2 := by rw [hin1]; exact congrFun (up0_a (ne_in tsk22.1 hqn1)) _
            have ty14 := xl5.ty tqn1
            have btexf4 : bt (100 + (ivh4 (sk 22) 2).toNat) = 100 := bt_tab (by omega)
            refine c_retag (q := qn1) (t := (100 + (ivh4 (sk 22) 2).toNat)) (by rw [ty14.2, btexf4]; rfl) (fun clr1 hcr1 => ?_)
            have ty15 := xl5.ty ty1
            have ty16 := ty_rt ty15 hcr1 (ne_ty ty15 ty14 (by decide))
            have ty17 := xl5.ty ty2
            have ty18 := ty_rt ty17 hcr1 (ne_ty ty17 ty14 (by decide))
            have ty19 := xl5.ty ty3
            have ty20 := ty_rt ty19 hcr1 (ne_ty ty19 ty14 (by decide))
            have ty21 := xl5.ty ty4
            have ty22 := ty_rt ty21 hcr1 (ne_ty ty21 ty14 (by decide))
            have ty23 := xl5.ty ty5
            have ty24 := ty_rt ty23 hcr1 (ne_ty ty23 ty14 (by decide))
            have ty25 := xl5.ty ty6
            have ty26 := ty_rt ty25 hcr1 (ne_ty ty25 ty14 (by decide))
            have ty27 := xl5.ty ty7
            have ty28 := ty_rt ty27 hcr1 (ne_ty ty27 ty14 (by decide))
            have ty29 := xl5.ty ty8
            have ty30 := ty_rt ty29 hcr1 (ne_ty ty29 ty14 (by decide))
            have ty31 := xl5.ty ty9
            have ty32 := ty_rt ty31 hcr1 (ne_ty ty31 ty14 (by decide))
            have ty33 := xl5.ty ty10
            have ty34 := ty_rt ty33 hcr1 (ne_ty ty33 ty14 (by decide))
            have ty35 := ty_rt ty13 hcr1 (ne_ty ty13 ty14 (by decide))
            have ty36 := xl5.ty ty12
            have ty37 := ty_rt ty36 hcr1 (ne_ty ty36 ty14 (by decide))
            have ty38 := ty_rt exf4t4 hcr1 (ne_ty exf4t4 ty14 (by decide))
            have ty39 := ty_rt exf4t5 hcr1 (ne_ty exf4t5 ty14 (by decide))
            have ty40 := ty_rt exf4t6 hcr1 (ne_ty exf4t6 ty14 (by decide))
            have ty41 := ty_rt exf4tx hcr1 (ne_ty exf4tx ty14 (by decide))
            have tqr1 : ty Lh4 clr1 qn1 100 := ⟨ty14.1, by rw [hcr1, va_up_self]; exact btexf4⟩
            have W6 := W5.retag ty14.1 (by rw [ty14.2]; rfl) hcr1 (fun k => by
                  rcases k with _ | _ | _ | _ | _ | _ | _ | _ | k
                  · rw [btexf4]; exact W5.int ty14 0
                  · rw [btexf4]; exact W5.int ty14 1
                  · rw [btexf4]; exact W5.int ty14 2
                  · rw [btexf4]; exact W5.int ty14 3
                  · rw [btexf4]; exact W5.int ty14 4
                  · rw [btexf4]; exact W5.int ty14 5
                  · rw [btexf4]; exact W5.int ty14 6
                  · rw [btexf4]; exact ⟨(by show 0 ≤ ivh4 qn1 7; omega), (by show ivh4 qn1 7 ≤ 1; omega)⟩
                  · rw [btexf4]; exact W5.int ty14 (k + 8)) (fun k => by
                  rcases k with _ | _ | _ | _ | _ | _ | _ | _ | k
                  · rw [rn1 0 (by decide)]; exact rok_none tqr1 rfl
                  · rw [rn1 1 (by decide)]; exact rok_none tqr1 rfl
                  · rw [exf4r2]; exact rok_tab tqr1 (by decide) (fun _ q => by cases q)
                  · rw [exf4r3]; exact rok_tab tqr1 (by decide) (fun _ q => by cases q)
                  · rw [exf4r4]; exact rok_tb tqr1 ty38 (by decide) rfl
                  · rw [exf4r5]; exact rok_tb tqr1 ty39 (by decide) rfl
                  · rw [exf4r6]; exact rok_tb tqr1 ty40 (by decide) rfl
                  · rw [rn1 7 (by decide)]; exact rok_none tqr1 rfl
                  · rw [rn1 (k + 8) (by simp)]; exact rok_none tqr1 rfl) (by rw [btexf4]; rfl) (fun z => by rw [btexf4] at z; cases z) (fun z => by rw [btexf4] at z; cases z) uq_tab
            have X3 := X2.rt hcr1 h0qn1
            have sk3 := sk2.rt hcr1 (by rw [ty14.2]; rfl)
            have mr5 := MRK.rt mr4 W5 sk2 hcr1 (by rw [ty14.2]; rfl)
            have cqexf4 : clr1 qn1 = (100 + (ivh4 (sk 22) 2).toNat) := by rw [hcr1]; exact va_up_self _ _ _
            have tm1a : ∀ i : Nat, (i : Int) < iv (sk 22) 2 → el rvh4 (sk 22) i = el rv (sk 22) i := (fun i hi => el_ch hW (tysk22 hS) rfl rfl ((show ∀ bb, ty L cl bb 22 → rvh4 bb 1 = rv bb 1 from fun bb tbb => by have tb1 := xl4.ty tbb; exact (Eq.trans (show rvh4 bb 1 = rvn1 bb 1 from (fl4.r tb1 rfl 1)) (show rvn1 bb 1 = rv bb 1 from (by rw [hrn1]; exact congrFun (up0_a (ne_in tbb.1 hqn1)) _)))) (sk 22) (tysk22 hS)) (fun bb tbb kk => by have tb1 := xl4.ty tbb; exact (Eq.trans (show rvh4 bb kk = rvn1 bb kk from (fl4.r tb1 rfl kk)) (show rvn1 bb kk = rv bb kk from (by rw [hrn1]; exact congrFun (up0_a (ne_in tbb.1 hqn1)) _)))) hi)
            have tm1b : CS0 (iv (sk 23) 2) sk iv rv ivh4 rvh4 := CS0.of hW hS (Int.le_refl _) (fun i hi => el_ch hW (tysk23 hS) rfl rfl ((show ∀ bb, ty L cl bb 23 → rvh4 bb 1 = rv bb 1 from fun bb tbb => by have tb1 := xl4.ty tbb; exact (Eq.trans (show rvh4 bb 1 = rvn1 bb 1 from (fl4.r tb1 rfl 1)) (show rvn1 bb 1 = rv bb 1 from (by rw [hrn1]; exact congrFun (up0_a (ne_in tbb.1 hqn1)) _)))) (sk 23) (tysk23 hS)) (fun bb tbb kk => by have tb1 := xl4.ty tbb; exact (Eq.trans (show rvh4 bb kk = rvn1 bb kk from (fl4.r tb1 rfl kk)) (show rvn1 bb kk = rv bb kk from (by rw [hrn1]; exact congrFun (up0_a (ne_in tbb.1 hqn1)) _)))) hi) (fun bb tbb => by have tb1 := xl4.ty tbb; exact (Eq.trans (show ivh4 bb 0 = ivn1 bb 0 from (fl4.i tb1 rfl 0)) (show ivn1 bb 0 = iv bb 0 from (by rw [hin1]; exact congrFun (up0_a (ne_in tbb.1 hqn1)) _)))) (fun bb tbb => by have tb1 := xl4.ty tbb; exact (Eq.trans (show rvh4 bb 1 = rvn1 bb 1 from (fl4.r tb1 rfl 1)) (show rvn1 bb 1 = rv bb 1 from (by rw [hrn1]; exact congrFun (up0_a (ne_in tbb.1 hqn1)) _))))
            have ri31 : 0 ≤ ivh4 (sk 23) 2 ∧ ivh4 (sk 23) 2 ≤ 512 := W6.int ty37 2
            have ie19 : ivh4 (sk 23) 2 = ivn1 (sk 23) 2 := fl4.i ty12 rfl 2
            have ie20 : ivn1 (sk 23) 2 = iv (sk 23) 2 := by rw [hin1]; exact congrFun (up0_a (ne_in tsk23.1 hqn1)) _
            have pl2 := Phi.le W6 sk3
            refine d_callV (As := [.ref qn1]) (rest := [.ref a0]) C hM (C_make (a0 := (sk 13)) (a1 := qn1) W6 sk3 ty26 tqr1  mr5 (by show ivh4 (sk 22) 2 < 30 ∧ ivh4 (sk 23) 2 < 512 ∧ ((clr1 qn1 : Nat) : Int) ≤ 100 + ivh4 (sk 22) 2; omega)) dX11_table_63 kV_X11_127 rfl ty26 rfl rfl (by decide) ck_11 rfl (Nat.le_of_ble_eq_true rfl) ⟨(Nat.le_of_ble_eq_true rfl), (Nat.le_of_ble_eq_true rfl)⟩ hph pl2 (show 114 + 1320 = 1434 from rfl) (by decide) (fun rh5 Lh5 clh5 lnh5 ivh5 rvh5 h5 => ?_)
            obtain ⟨f5, rfl, xl6, fl5, W7, rgf5, exf5, mkef5⟩ := h5
            have F5 := F4.call X3 fl5 rfl
            have tx2 := TX.xt tx1 xl5
            have tx3 := TX.rt tx2 hcr1 ty14 rfl
            have kp6 := kp5.call tx3 W6 fl5 rfl
            have X4 := X3.trans xl6
            have sk4 := xl6.skl sk3
            refine c_st (st2 := [.int (iI f5), .ref a0]) rfl ?_
            have ty42 := xl6.ty ty35
            have ri32 : 0 ≤ ivh5 (sk 22) 2 ∧ ivh5 (sk 22) 2 ≤ 30 := W7.int ty42 2
            have ty43 := xl6.ty ty37
            have ri33 : 0 ≤ ivh5 (sk 23) 2 ∧ ivh5 (sk 23) 2 ≤ 512 := W7.int ty43 2
            have gf5 : f5 = ivh4 (sk 22) 2 ∧ ivh5 (sk 22) 2 = ivh4 (sk 22) 2 + 1 ∧ ivh5 (sk 23) 2 = ivh4 (sk 23) 2 + 1 ∧ MRK sk clh5 ivh5 rvh5 := exf5
            have ty44 := xl6.ty ty16
            have pl3 := Phi.le W7 sk4
            refine d_callV (As := [.int (iI f5)]) (rest := []) C hM (C_done (a0 := a0) (x := f5) W7 sk4 ty44 (by omega) ) dX11_table_66 kV_X11_109 rfl ty44 rfl rfl (by decide) ck_12 rfl (Nat.le_of_ble_eq_true rfl) ⟨(Nat.le_of_ble_eq_true rfl), (Nat.le_of_ble_eq_true rfl)⟩ hph pl3 (show 1434 + 0 = 1434 from rfl) (by decide) (fun rh6 Lh6 clh6 lnh6 ivh6 rvh6 h6 => ?_)
            obtain ⟨f6, rfl, rfl, rfl, rfl, rfl, fl6, W8, rgf6, exf6, kp11f6, kp12f6, kp13f6, kp14f6, kp15f6, kp16f6⟩ := h6
            have ri34 : 1 ≤ ivh5 a0 11 ∧ ivh5 a0 11 ≤ 100 := W7.int ty44 11
            have ie23 : ivh5 a0 11 = ivh4 a0 11 := fl5.i ty16 rfl 11
            have ie24 : ivh4 a0 11 = ivn1 a0 11 := fl4.i ty1 rfl 11
            have ie25 : ivn1 a0 11 = iv a0 11 := by rw [hin1]; exact congrFun (up0_a (ne_in t_a0.1 hqn1)) _
            have ri35 : 1 ≤ ivh5 a0 12 ∧ ivh5 a0 12 ≤ 50 := W7.int ty44 12
            have ie26 : ivh5 a0 12 = ivh4 a0 12 := fl5.i ty16 rfl 12
            have ie27 : ivh4 a0 12 = ivn1 a0 12 := fl4.i ty1 rfl 12
            have ie28 : ivn1 a0 12 = iv a0 12 := by rw [hin1]; exact congrFun (up0_a (ne_in t_a0.1 hqn1)) _
            have ri36 : (-2147483648) ≤ ivh5 a0 13 ∧ ivh5 a0 13 ≤ 2147483647 := W7.int ty44 13
            have ie29 : ivh5 a0 13 = ivh4 a0 13 := fl5.i ty16 rfl 13
            have ie30 : ivh4 a0 13 = ivn1 a0 13 := fl4.i ty1 rfl 13
            have ie31 : ivn1 a0 13 = iv a0 13 := by rw [hin1]; exact congrFun (up0_a (ne_in t_a0.1 hqn1)) _
            have ri37 : (-2147483648) ≤ ivh5 a0 14 ∧ ivh5 a0 14 ≤ 2147483647 := W7.int ty44 14
            have ie32 : ivh5 a0 14 = ivh4 a0 14 := fl5.i ty16 rfl 14
            have ie33 : ivh4 a0 14 = ivn1 a0 14 := fl4.i ty1 rfl 14
            have ie34 : ivn1 a0 14 = iv a0 14 := by rw [hin1]; exact congrFun (up0_a (ne_in t_a0.1 hqn1)) _
            have ri38 : (-2147483648) ≤ ivh5 a0 15 ∧ ivh5 a0 15 ≤ 2147483647 := W7.int ty44 15
            have ie35 : ivh5 a0 15 = ivh4 a0 15 := fl5.i ty16 rfl 15
            have ie36 : ivh4 a0 15 = ivn1 a0 15 := fl4.i ty1 rfl 15
            have ie37 : ivn1 a0 15 = iv a0 15 := by rw [hin1]; exact congrFun (up0_a (ne_in t_a0.1 hqn1)) _
            have ri39 : (-2147483648) ≤ ivh5 a0 16 ∧ ivh5 a0 16 ≤ 2147483647 := W7.int ty44 16
            have ie38 : ivh5 a0 16 = ivh4 a0 16 := fl5.i ty16 rfl 16
            have ie39 : ivh4 a0 16 = ivn1 a0 16 := fl4.i ty1 rfl 16
            have ie40 : ivn1 a0 16 = iv a0 16 := by rw [hin1]; exact congrFun (up0_a (ne_in t_a0.1 hqn1)) _
            have F6 := F5.call X4 fl6 rfl
            have mr6 := MRK.call exf5.2.2.2 W7 sk4 XT.refl fl6 rfl rfl
            have tx4 := TX.xt tx3 xl6
            have kp7 := kp6.call tx4 W7 fl6 rfl
            refine c_st (st2 := [.int (iI f6)]) rfl ?_
            have gk11f6 : ivh6 a0 11 = ivh5 a0 11 := kp11f6
            have gk12f6 : ivh6 a0 12 = ivh5 a0 12 := kp12f6
            have gk13f6 : ivh6 a0 13 = ivh5 a0 13 := kp13f6
            have gk14f6 : ivh6 a0 14 = ivh5 a0 14 := kp14f6
            have gk15f6 : ivh6 a0 15 = ivh5 a0 15 := kp15f6
            have gk16f6 : ivh6 a0 16 = ivh5 a0 16 := kp16f6
            have gf6 : f6 = f5 := exf6
            have ri40 : 1 ≤ ivh6 a0 11 ∧ ivh6 a0 11 ≤ 100 := W8.int ty44 11
            have ri41 : 1 ≤ ivh6 a0 12 ∧ ivh6 a0 12 ≤ 50 := W8.int ty44 12
            have ri42 : (-2147483648) ≤ ivh6 a0 13 ∧ ivh6 a0 13 ≤ 2147483647 := W8.int ty44 13
            have ri43 : (-2147483648) ≤ ivh6 a0 14 ∧ ivh6 a0 14 ≤ 2147483647 := W8.int ty44 14
            have ri44 : (-2147483648) ≤ ivh6 a0 15 ∧ ivh6 a0 15 ≤ 2147483647 := W8.int ty44 15
            have ri45 : (-2147483648) ≤ ivh6 a0 16 ∧ ivh6 a0 16 ≤ 2147483647 := W8.int ty44 16
            have ri46 : 0 ≤ ivh6 (sk 23) 2 ∧ ivh6 (sk 23) 2 ≤ 512 := W8.int ty43 2
            have ie47 : ivh6 (sk 23) 2 = ivh5 (sk 23) 2 := fl6.i ty43 rfl 2
            have ri47 : 0 ≤ ivh6 (sk 22) 2 ∧ ivh6 (sk 22) 2 ≤ 30 := W8.int ty42 2
            have ie48 : ivh6 (sk 22) 2 = ivh5 (sk 22) 2 := fl6.i ty42 rfl 2
            have ty45 := xl6.ty tqr1
            have ri48 : (-2147483648) ≤ ivh6 qn1 0 ∧ ivh6 qn1 0 ≤ 2147483647 := W8.int ty45 0
            have ie49 : ivh6 qn1 0 = ivh5 qn1 0 := fl6.i ty45 rfl 0
            have ie50 : ivh5 qn1 0 = ivh4 qn1 0 := fl5.i tqr1 rfl 0
            have ri49 : (-2147483648) ≤ ivh6 qn1 1 ∧ ivh6 qn1 1 ≤ 2147483647 := W8.int ty45 1
            have ie51 : ivh6 qn1 1 = ivh5 qn1 1 := fl6.i ty45 rfl 1
            have ie52 : ivh5 qn1 1 = ivh4 qn1 1 := fl5.i tqr1 rfl 1
            have ri50 : 0 ≤ ivh6 qn1 7 ∧ ivh6 qn1 7 ≤ 1 := W8.int ty45 7
            have ie53 : ivh6 qn1 7 = ivh5 qn1 7 := fl6.i ty45 rfl 7
            have ie54 : ivh5 qn1 7 = ivh4 qn1 7 := fl5.i tqr1 rfl 7
            have ty46 := xl6.ty ty38
            have ri51 : 0 ≤ ivh6 b4exf4 2 ∧ ivh6 b4exf4 2 ≤ 200 := W8.int ty46 2
            have ie55 : ivh6 b4exf4 2 = ivh5 b4exf4 2 := fl6.i ty46 rfl 2
            have ie56 : ivh5 b4exf4 2 = ivh4 b4exf4 2 := fl5.i ty38 rfl 2
            have re1 : rvh5 qn1 4 = rvh4 qn1 4 := (fl5.r tqr1 rfl 4)
            rw [exf4r4] at re1
            have re2 : rvh5 qn1 5 = rvh4 qn1 5 := (fl5.r tqr1 rfl 5)
            rw [exf4r5] at re2
            have re3 : rvh5 qn1 6 = rvh4 qn1 6 := (fl5.r tqr1 rfl 6)
            rw [exf4r6] at re3
            have ty47 := xl6.ty ty39
            have ri52 : 0 ≤ ivh6 b5exf4 2 ∧ ivh6 b5exf4 2 ≤ 200 := W8.int ty47 2
            have ie58 : ivh6 b5exf4 2 = ivh5 b5exf4 2 := fl6.i ty47 rfl 2
            have ie59 : ivh5 b5exf4 2 = ivh4 b5exf4 2 := fl5.i ty39 rfl 2
            have re4 : rvh5 qn1 2 = rvh4 qn1 2 := (fl5.r tqr1 rfl 2)
            rw [exf4r2] at re4
            have re5 : rvh5 qn1 3 = rvh4 qn1 3 := (fl5.r tqr1 rfl 3)
            rw [exf4r3] at re5
            have re6 : rvh5 b5exf4 1 = rvh4 b5exf4 1 := (fl5.r ty39 rfl 1)
            rw [exf4rx] at re6
            exact c_iret C dX11_table_69 rfl (by decide) (rom0 hph pl3 (by decide)) ⟨f6, rfl, X4, F6, W8, ⟨by omega, by omega⟩, ⟨(by omega), mr6⟩, (by omega), (by omega), (by omega), (by omega), (by omega), (by omega), (Or.inr ⟨by omega, ⟨⟨by omega, by omega, by omega, by omega⟩, (by first | exact Or.inl (by omega) | exact Or.inr (Or.inl (by omega)))⟩, ⟨qn1, b4exf4, (by rw [show (iv (sk 22) 2).toNat = (ivh4 (sk 22) 2).toNat from congrArg Int.toNat (by omega)]; exact mkef5.1), (by omega), (by omega), (by omega), re1, (by omega), (fun i t hi ht e => by
                obtain ⟨b9, w1, w2⟩ := hW.ref (el22 hW hS hi ht) 4 rfl rfl rfl
                rw [w1] at e
                cases e
                exact exf4nn (X1 _ w2.1).1), (by omega), ⟨(fun i hi => (mkef5.2.1 i (by omega)).trans (tm1a i hi)), TSF.of hW hS (fun bb tbb hbb => by have tb1 := xl4.ty tbb; have tb2 := xl5.ty tb1; have tb3 := ty_rt tb2 hcr1 (ne_ty tb2 ty14 (by decide)); have tb4 := xl6.ty tb3; exact (Eq.trans (show ivh6 bb 7 = ivh5 bb 7 from (fl6.i tb4 rfl 7)) (Eq.trans (show ivh5 bb 7 = ivh4 bb 7 from (fl5.i tb3 rfl 7)) (Eq.trans (show ivh4 bb 7 = ivn1 bb 7 from (fl4.i tb1 rfl 7)) (show ivn1 bb 7 = iv bb 7 from (by rw [hin1]; exact congrFun (up0_a (ne_in tbb.1 hqn1)) _)))))) (fun bb tbb => by have tb1 := xl4.ty tbb; have tb2 := xl5.ty tb1; have tb3 := ty_rt tb2 hcr1 (ne_ty tb2 ty14 (by decide)); have tb4 := xl6.ty tb3; exact (Eq.trans (show ivh6 bb 0 = ivh5 bb 0 from (fl6.i tb4 rfl 0)) (Eq.trans (show ivh5 bb 0 = ivh4 bb 0 from (fl5.i tb3 rfl 0)) (Eq.trans (show ivh4 bb 0 = ivn1 bb 0 from (fl4.i tb1 rfl 0)) (show ivn1 bb 0 = iv bb 0 from (by rw [hin1]; exact congrFun (up0_a (ne_in tbb.1 hqn1)) _)))))) (fun bb tbb => by have tb1 := xl4.ty tbb; have tb2 := xl5.ty tb1; have tb3 := ty_rt tb2 hcr1 (ne_ty tb2 ty14 (by decide)); have tb4 := xl6.ty tb3; exact (Eq.trans (show ivh6 bb 1 = ivh5 bb 1 from (fl6.i tb4 rfl 1)) (Eq.trans (show ivh5 bb 1 = ivh4 bb 1 from (fl5.i tb3 rfl 1)) (Eq.trans (show ivh4 bb 1 = ivn1 bb 1 from (fl4.i tb1 rfl 1)) (show ivn1 bb 1 = iv bb 1 from (by rw [hin1]; exact congrFun (up0_a (ne_in tbb.1 hqn1)) _)))))) (fun bb tbb => by have tb1 := xl4.ty tbb; have tb2 := xl5.ty tb1; have tb3 := ty_rt tb2 hcr1 (ne_ty tb2 ty14 (by decide)); exact (Eq.trans (show rvh5 bb 4 = rvh4 bb 4 from (fl5.r tb3 rfl 4)) (Eq.trans (show rvh4 bb 4 = rvn1 bb 4 from (fl4.r tb1 rfl 4)) (show rvn1 bb 4 = rv bb 4 from (by rw [hrn1]; exact congrFun (up0_a (ne_in tbb.1 hqn1)) _))))), TSQ.of hW hS (fun bb tbb hbb => by have tb1 := xl4.ty tbb; have tb2 := xl5.ty tb1; have tb3 := ty_rt tb2 hcr1 (ne_ty tb2 ty14 (by decide)); have tb4 := xl6.ty tb3; exact (Eq.trans (show ivh6 bb 2 = ivh5 bb 2 from (fl6.i tb4 rfl 2)) (Eq.trans (show ivh5 bb 2 = ivh4 bb 2 from (fl5.i tb3 rfl 2)) (Eq.trans (show ivh4 bb 2 = ivn1 bb 2 from (fl4.i tb1 rfl 2)) (show ivn1 bb 2 = iv bb 2 from (by rw [hin1]; exact congrFun (up0_a (ne_in tbb.1 hqn1)) _))))))⟩, ((mkef5.2.2.pre (by omega) tm1b).after (by omega) (PSAME.fr W7 sk4 fl6 rfl rfl rfl rfl rfl rfl rfl))⟩⟩), (Or.inr ⟨by omega, kp7, none, Or.inl ⟨by omega, rfl⟩, ⟨qn1, b4exf4, b5exf4, x5exf4, b6exf4, (by rw [show (iv (sk 22) 2).toNat = (ivh4 (sk 22) 2).toNat from congrArg Int.toNat (by omega)]; exact mkef5.1), ⟨(fun hm => hqn1 (hX0 _ hm).1), (fun hm => exf4nn (X1 _ hm).1), (fun hm => exf4n5 (X1 _ hm).1), (fun hm => exf4nx (X1 _ hm).1), (fun hm => exf4n6 (X1 _ hm).1)⟩, ⟨re4, re5, re1, re2, re3, re6⟩, (by omega), (fun kk => Eq.trans ((show ∀ bb, ty Lh4 clh4 bb 68 → rvh5 bb kk = rvh4 bb kk from fun bb tbb => by have tb3 := ty_rt tbb hcr1 (ne_ty tbb ty14 (by decide)); exact (show rvh5 bb kk = rvh4 bb kk from (fl5.r tb3 rfl kk))) b6exf4 exf4t6) (exf4nn6 kk))⟩⟩), (Eq.trans (show rvh5 a0 9 = rvh4 a0 9 from (fl5.r ty16 rfl 9)) (Eq.trans (show rvh4 a0 9 = rvn1 a0 9 from (fl4.r ty1 rfl 9)) (show rvn1 a0 9 = rv a0 9 from (by rw [hrn1]; exact congrFun (up0_a (ne_in t_a0.1 hqn1)) _)))), (Eq.trans (show rvh5 a0 10 = rvh4 a0 10 from (fl5.r ty16 rfl 10)) (Eq.trans (show rvh4 a0 10 = rvn1 a0 10 from (fl4.r ty1 rfl 10)) (show rvn1 a0 10 = rv a0 10 from (by rw [hrn1]; exact congrFun (up0_a (ne_in t_a0.1 hqn1)) _))))⟩
          · refine c_iload_n (j := 1) C dX11_table_42 rfl ?_
            refine c_iconst C dX11_table_43 ?_
            refine c_icmp_ne (tgt := 70) C ⟨by omega, by omega⟩ ⟨by decide, by decide⟩ dX11_table_44 (by decide) (fun c6 => ?_) (fun c6 => ?_)
            · refine c_aload_n (j := 0) (x := a0) C dX11_table_70 rfl ?_
              refine c_getr (k := 4) C ck_12 dX11_table_71 w2_48 (by decide) t_a0 rfl rfl (by decide) rfl rq1 ?_
              refine c_st (st2 := [.ref (sk 13)]) rfl ?_
              refine c_iload_n (j := 3) C dX11_table_74 rfl ?_
              refine d_callV (As := [.int (iI i)]) (rest := []) C hM (C_alive (a0 := (sk 13)) (i := i) hW hS tsk13 (by omega) hmr) dX11_table_75 kV_X11_131 rfl tsk13 rfl rfl (by decide) ck_11 rfl (Nat.le_of_ble_eq_true rfl) ⟨(Nat.le_of_ble_eq_true rfl), (Nat.le_of_ble_eq_true rfl)⟩ hph hph (show 0 + 0 = 0 from rfl) (by decide) (fun rh7 Lh7 clh7 lnh7 ivh7 rvh7 h7 => ?_)
              obtain ⟨f7, rfl, rfl, rfl, rfl, rfl, rfl, rgf7, exf7⟩ := h7
              refine c_st (st2 := [(va_rf f7)]) rfl ?_
              have gf7 : (∀ b, f7 = some b → ((cl b : Nat) : Int) < 100 + iv (sk 22) 2 ∧ ALV sk iv rv i b) ∧ (f7 = none → ∀ b, ¬ ALV sk iv rv i b) := exf7
              refine c_astorer (r := f7) (lv2 := [(4, (va_rf f7)), (0, .ref a0), (1, .int (iI x)), (2, .int (iI y)), (3, .int (iI i))]) C dX11_table_78 (by decide) rfl ?_
              refine c_aloadr (j := 0) (r := f7) C dX11_table_80 rfl ?_
              refine c_ifnull (r := f7) (tgt := 94) C dX11_table_82 (by decide) (fun oq1 => ?_) (fun ob1 oq1 => ?_)
              · subst oq1
                refine c_lv (lv2 := [(4, .null), (0, .ref a0), (1, .int (iI x)), (2, .int (iI y)), (3, .int (iI i))]) [0, 1, 2, 3, 4] rfl ?_
                refine c_st (st2 := []) rfl ?_
                refine c_aload_n (j := 1) (x := a0) C dX11_table_94 rfl ?_
                refine c_aloadr (j := 0) (r := none) C dX11_table_95 rfl ?_
                refine c_st (st2 := [.null, .ref a0]) rfl ?_
                refine c_ifnonnull (r := none) (tgt := 104) C dX11_table_97 (by decide) (fun _ q => by cases q) (fun _ => ?_)
                refine c_iconst C dX11_table_100 ?_
                refine c_goto (tgt := 105) C dX11_table_101 (by decide) ?_
                refine d_callV (As := [.int (iI 3)]) (rest := []) C hM (C_refuse (a0 := a0) (x := 3) hW hS t_a0 ⟨by decide, by decide⟩ ) dX11_table_105 kV_X11_102 rfl t_a0 rfl rfl (by decide) ck_12 rfl (Nat.le_of_ble_eq_true rfl) ⟨(Nat.le_of_ble_eq_true rfl), (Nat.le_of_ble_eq_true rfl)⟩ hph hph (show 0 + 0 = 0 from rfl) (by decide) (fun rh8 Lh8 clh8 lnh8 ivh8 rvh8 h8 => ?_)
                obtain ⟨f8, rfl, rfl, rfl, rfl, rfl, fl8, W10, rgf8, exf8, kp11f8, kp12f8, kp13f8, kp14f8, kp15f8, kp16f8⟩ := h8
                have ri53 : 1 ≤ iv a0 11 ∧ iv a0 11 ≤ 100 := hW.int t_a0 11
                have ri54 : 1 ≤ iv a0 12 ∧ iv a0 12 ≤ 50 := hW.int t_a0 12
                have ri55 : (-2147483648) ≤ iv a0 13 ∧ iv a0 13 ≤ 2147483647 := hW.int t_a0 13
                have ri56 : (-2147483648) ≤ iv a0 14 ∧ iv a0 14 ≤ 2147483647 := hW.int t_a0 14
                have ri57 : (-2147483648) ≤ iv a0 15 ∧ iv a0 15 ≤ 2147483647 := hW.int t_a0 15
                have ri58 : (-2147483648) ≤ iv a0 16 ∧ iv a0 16 ≤ 2147483647 := hW.int t_a0 16
                have F7 := hF0.call hX0 fl8 rfl
                have mr7 := MRK.call hmr hW hS XT.refl fl8 rfl rfl
                have kp8 := kp1.call TX.refl hW fl8 rfl
                refine c_st (st2 := [.int (iI f8)]) rfl ?_
                have gk11f8 : ivh8 a0 11 = iv a0 11 := kp11f8
                have gk12f8 : ivh8 a0 12 = iv a0 12 := kp12f8
                have gk13f8 : ivh8 a0 13 = iv a0 13 := kp13f8
                have gk14f8 : ivh8 a0 14 = iv a0 14 := kp14f8
                have gk15f8 : ivh8 a0 15 = iv a0 15 := kp15f8
                have gk16f8 : ivh8 a0 16 = iv a0 16 := kp16f8
                have gf8 : f8 = -1 := exf8
                have ri59 : 1 ≤ ivh8 a0 11 ∧ ivh8 a0 11 ≤ 100 := W10.int t_a0 11
                have ri60 : 1 ≤ ivh8 a0 12 ∧ ivh8 a0 12 ≤ 50 := W10.int t_a0 12
                have ri61 : (-2147483648) ≤ ivh8 a0 13 ∧ ivh8 a0 13 ≤ 2147483647 := W10.int t_a0 13
                have ri62 : (-2147483648) ≤ ivh8 a0 14 ∧ ivh8 a0 14 ≤ 2147483647 := W10.int t_a0 14
                have ri63 : (-2147483648) ≤ ivh8 a0 15 ∧ ivh8 a0 15 ≤ 2147483647 := W10.int t_a0 15
                have ri64 : (-2147483648) ≤ ivh8 a0 16 ∧ ivh8 a0 16 ≤ 2147483647 := W10.int t_a0 16
                have ri65 : 0 ≤ ivh8 (sk 23) 2 ∧ ivh8 (sk 23) 2 ≤ 512 := W10.int tsk23 2
                have ie67 : ivh8 (sk 23) 2 = iv (sk 23) 2 := fl8.i tsk23 rfl 2
                have ri66 : 0 ≤ ivh8 (sk 22) 2 ∧ ivh8 (sk 22) 2 ≤ 30 := W10.int tsk22 2
                have ie68 : ivh8 (sk 22) 2 = iv (sk 22) 2 := fl8.i tsk22 rfl 2
                exact c_iret C dX11_table_108 rfl (by decide) (rom0 hph hph (by decide)) ⟨f8, rfl, hX0, F7, W10, ⟨by omega, by omega⟩, ⟨(by omega), mr7⟩, (by omega), (by omega), (by omega), (by omega), (by omega), (by omega), (Or.inl ⟨by omega, PSAME.fr hW hS fl8 rfl rfl rfl rfl rfl rfl rfl, (fun q => by
                    rcases q.2 with h | h | ⟨t, h1, h2⟩
                    · omega
                    · omega
                    · exact gf7.2 rfl t h1)⟩), (Or.inl ⟨by omega, kp8⟩), rfl, rfl⟩
              · subst oq1
                have tob1 := rgf7 ob1 rfl
                have akob1 := gf7.1 ob1 rfl
                refine c_lv (lv2 := [(4, .ref ob1), (0, .ref a0), (1, .int (iI x)), (2, .int (iI y)), (3, .int (iI i))]) [0, 1, 2, 3, 4] rfl ?_
                refine c_st (st2 := []) rfl ?_
                refine c_aload (j := 0) (x := ob1) C dX11_table_85 rfl ?_
                have ri67 : (-2147483648) ≤ iv ob1 0 ∧ iv ob1 0 ≤ 2147483647 := hW.int tob1 0
                refine c_get (k := 0) C ck_10 dX11_table_87 w2_176 (by decide) tob1 rfl rfl (by decide) rfl ?_
                refine c_iconst C dX11_table_90 ?_
                refine c_icmp_le (tgt := 109) C ⟨by omega, by omega⟩ ⟨by decide, by decide⟩ dX11_table_91 (by decide) (fun c7 => ?_) (fun c7 => ?_)
                · refine c_aload_n (j := 1) (x := a0) C dX11_table_109 rfl ?_
                  refine c_aload_n (j := 1) (x := a0) C dX11_table_110 rfl ?_
                  refine c_getr (k := 4) C ck_12 dX11_table_111 w2_48 (by decide) t_a0 rfl rfl (by decide) rfl rq1 ?_
                  refine c_st (st2 := [.ref (sk 13), .ref a0]) rfl ?_
                  refine c_new C ck_10 dv_10 ⟨rfl, rfl⟩ rfl (by decide) dX11_table_114 w2_162 w2_163 w1_16 (rom2 hph hph (by decide)) (fun qn2 cln2 lnn2 ivn2 rvn2 hqn2 hcn2 hln2 hin2 hrn2 => ⟨24, (p_in (Phi.new hW hS hqn2 (fun b _ => by rw [hln2]) hrn2) (by omega)), ?_⟩)
                  refine c_g0 C (fun hg2 => ?_)
                  have hxn2 : ∀ b, b ≠ qn2 → lnn2 b = ln b := (fun b _ => by rw [hln2])
                  have W11 := hW.new (ln2 := lnn2) hqn2 (hg2 qn2 (List.mem_append_right _ List.mem_cons_self)) hcn2 hxn2 hin2 hrn2 (fun _ => ⟨(show (-2147483648 : Int) ≤ 0 by decide), (show (0 : Int) ≤ 2147483647 by decide)⟩) (Or.inl rfl) (fun q => by cases q) rfl rfl
                  have xl10 := XT.new hqn2 hcn2 hxn2
                  have X5 := hX0.trans xl10
                  have sk5 := xl10.skl hS
                  have F8 := hF0.new hX0 hqn2 hin2 hrn2
                  have mr8 := MRK.call hmr hW hS xl10 ((fT.refl (ls := [])).new (XT.refl (ln := ln)) hqn2 hin2 hrn2) rfl rfl
                  have tqn2 : ty (L ++ [qn2]) cln2 qn2 210 := ty_new hcn2
                  have kp9 := kp1.new TX.refl hW hqn2 hin2 hrn2
                  have h0qn2 : qn2 ∉ L := fun h => hqn2 ((hX0 qn2 h).1)
                  refine c_dup C dX11_table_117 rfl ?_
                  refine c_iload_n (j := 2) C dX11_table_118 rfl ?_
                  refine c_iload_n (j := 3) C dX11_table_119 rfl ?_
                  refine c_aload (j := 0) (x := ob1) C dX11_table_120 rfl ?_
                  refine c_null C dX11_table_122 ?_
                  have ty48 := xl10.ty tob1
                  have pl4 := Phi.le W11 sk5
                  refine c_callI (As := [.int (iI x), .int (iI y), .ref ob1, .null]) (rest := [.ref qn2, .ref (sk 13), .ref a0]) C hM (Z_table (a0 := qn2) (i := x) (n := y) (r := (some ob1)) (r2 := none) W11 sk5 tqn2 (fun _ q => by cases q; exact ty48) (fun _ q => by cases q) (by omega) (by omega) ) dX11_table_123 kI_X11_124 rfl rfl (Nat.le_of_ble_eq_true rfl) ⟨(Nat.le_of_ble_eq_true rfl), (Nat.le_of_ble_eq_true rfl)⟩ (rz1 hph pl4 (by decide)) (fun rh9 Lh9 clh9 lnh9 ivh9 rvh9 h9 => ⟨114, (zk1 (by obtain ⟨_, xlh9x, flh9x, Wh9x, _⟩ := h9; exact Phi.fr W11 sk5 xlh9x flh9x rfl)), ?_⟩)
                  obtain ⟨rfl, xl11, fl9, W12, exf9⟩ := h9
                  have F9 := F8.call X5 fl9 rfl
                  have mr9 := MRK.call mr8 W11 sk5 xl11 fl9 rfl rfl
                  have tx5 := TX.xt TX.refl xl10
                  have kp10 := kp9.call tx5 W11 fl9 rfl
                  have ty49 := xl10.ty t_a0
                  have ty50 := xl10.ty tsk2
                  have ty51 := xl10.ty tsk3
                  have ty52 := xl10.ty tsk4
                  have ty53 := xl10.ty tsk5
                  have ty54 := xl10.ty tsk13
                  have ty55 := xl10.ty tsk14
                  have ty56 := xl10.ty tsk15
                  have ty57 := xl10.ty tsk16
                  have ty58 := xl10.ty tsk17
                  have ty59 := xl10.ty tsk22
                  have ty60 := xl10.ty tsk23
                  have X6 := X5.trans xl11
                  have sk6 := xl11.skl sk5
                  refine c_st (st2 := [.ref qn2, .ref (sk 13), .ref a0]) rfl ?_
                  obtain ⟨b4exf9, b5exf9, b6exf9, exf9x, exf9r4, exf9t4, exf9r5, exf9t5, exf9r6, exf9t6, exf9r2, exf9r3, exf9i7, exf9i0, exf9i1, exf9nn, exf9zz, exf9n5, exf9n6, ⟨x5exf9, exf9rx, exf9tx, exf9nx⟩, exf9z5, exf9nn6⟩ := exf9
                  have rn2 : ∀ k, ([2, 3, 4, 5, 6] : List Nat).contains k = false → rvh9 qn2 k = none := fun k hk => (Eq.trans (show rvh9 qn2 k = rvn2 qn2 k from (exf9x k hk)) (show rvn2 qn2 k = none from (by rw [hrn2]; exact up0_s)))
                  have ty61 := xl11.ty ty59
                  have ri68 : 0 ≤ ivh9 (sk 22) 2 ∧ ivh9 (sk 22) 2 ≤ 30 := W12.int ty61 2
                  have ie69 : ivh9 (sk 22) 2 = ivn2 (sk 22) 2 := fl9.i ty59 rfl 2
                  have ie70 : ivn2 (sk 22) 2 = iv (sk 22) 2 := by rw [hin2]; exact congrFun (up0_a (ne_in tsk22.1 hqn2)) _
                  have ty62 := xl11.ty ty48
                  have ce1 : cln2 ob1 = cl ob1 := (xl10 ob1 tob1.1).2.1
                  have ce2 : clh9 ob1 = cln2 ob1 := (xl11 ob1 ty48.1).2.1
                  have ty63 := xl11.ty tqn2
                  have btexf9 : bt (100 + (ivh9 (sk 22) 2).toNat) = 100 := bt_tab (by omega)
                  refine c_retag (q := qn2) (t := (100 + (ivh9 (sk 22) 2).toNat)) (by rw [ty63.2, btexf9]; rfl) (fun clr2 hcr2 => ?_)
                  have ty64 := xl11.ty ty49
                  have ty65 := ty_rt ty64 hcr2 (ne_ty ty64 ty63 (by decide))
                  have ty66 := xl11.ty ty50
                  have ty67 := ty_rt ty66 hcr2 (ne_ty ty66 ty63 (by decide))
                  have ty68 := xl11.ty ty51
                  have ty69 := ty_rt ty68 hcr2 (ne_ty ty68 ty63 (by decide))
                  have ty70 := xl11.ty ty52
                  have ty71 := ty_rt ty70 hcr2 (ne_ty ty70 ty63 (by decide))
                  have ty72 := xl11.ty ty53
                  have ty73 := ty_rt ty72 hcr2 (ne_ty ty72 ty63 (by decide))
                  have ty74 := xl11.ty ty54
                  have ty75 := ty_rt ty74 hcr2 (ne_ty ty74 ty63 (by decide))
                  have ty76 := xl11.ty ty55
                  have ty77 := ty_rt ty76 hcr2 (ne_ty ty76 ty63 (by decide))
                  have ty78 := xl11.ty ty56
                  have ty79 := ty_rt ty78 hcr2 (ne_ty ty78 ty63 (by decide))
                  have ty80 := xl11.ty ty57
                  have ty81 := ty_rt ty80 hcr2 (ne_ty ty80 ty63 (by decide))
                  have ty82 := xl11.ty ty58
                  have ty83 := ty_rt ty82 hcr2 (ne_ty ty82 ty63 (by decide))
                  have ty84 := ty_rt ty61 hcr2 (ne_ty ty61 ty63 (by decide))
                  have ty85 := xl11.ty ty60
                  have ty86 := ty_rt ty85 hcr2 (ne_ty ty85 ty63 (by decide))
                  have ty87 := ty_rt ty62 hcr2 (ne_ty ty62 ty63 (by decide))
                  have ty88 := ty_rt exf9t4 hcr2 (ne_ty exf9t4 ty63 (by decide))
                  have ty89 := ty_rt exf9t5 hcr2 (ne_ty exf9t5 ty63 (by decide))
                  have ty90 := ty_rt exf9t6 hcr2 (ne_ty exf9t6 ty63 (by decide))
                  have ty91 := ty_rt exf9tx hcr2 (ne_ty exf9tx ty63 (by decide))
                  have tqr2 : ty Lh9 clr2 qn2 100 := ⟨ty63.1, by rw [hcr2, va_up_self]; exact btexf9⟩
                  have W13 := W12.retag ty63.1 (by rw [ty63.2]; rfl) hcr2 (fun k => by
                        rcases k with _ | _ | _ | _ | _ | _ | _ | _ | k
                        · rw [btexf9]; exact W12.int ty63 0
                        · rw [btexf9]; exact W12.int ty63 1
                        · rw [btexf9]; exact W12.int ty63 2
                        · rw [btexf9]; exact W12.int ty63 3
                        · rw [btexf9]; exact W12.int ty63 4
                        · rw [btexf9]; exact W12.int ty63 5
                        · rw [btexf9]; exact W12.int ty63 6
                        · rw [btexf9]; exact ⟨(by show 0 ≤ ivh9 qn2 7; omega), (by show ivh9 qn2 7 ≤ 1; omega)⟩
                        · rw [btexf9]; exact W12.int ty63 (k + 8)) (fun k => by
                        rcases k with _ | _ | _ | _ | _ | _ | _ | _ | k
                        · rw [rn2 0 (by decide)]; exact rok_none tqr2 rfl
                        · rw [rn2 1 (by decide)]; exact rok_none tqr2 rfl
                        · rw [exf9r2]; exact rok_tab tqr2 (by decide) (fun _ q => by cases q; exact ⟨ty87, by rw [hcr2, va_up_self, va_up_ne _ _ (ne_ty ty62 ty63 (by decide))]; omega⟩)
                        · rw [exf9r3]; exact rok_tab tqr2 (by decide) (fun _ q => by cases q)
                        · rw [exf9r4]; exact rok_tb tqr2 ty88 (by decide) rfl
                        · rw [exf9r5]; exact rok_tb tqr2 ty89 (by decide) rfl
                        · rw [exf9r6]; exact rok_tb tqr2 ty90 (by decide) rfl
                        · rw [rn2 7 (by decide)]; exact rok_none tqr2 rfl
                        · rw [rn2 (k + 8) (by simp)]; exact rok_none tqr2 rfl) (by rw [btexf9]; rfl) (fun z => by rw [btexf9] at z; cases z) (fun z => by rw [btexf9] at z; cases z) uq_tab
                  have X7 := X6.rt hcr2 h0qn2
                  have sk7 := sk6.rt hcr2 (by rw [ty63.2]; rfl)
                  have mr10 := MRK.rt mr9 W12 sk6 hcr2 (by rw [ty63.2]; rfl)
                  have on1 := fun b hb => xl10.ty (rgf7 b hb)
                  have on2 := fun b hb => xl11.ty (on1 b hb)
                  have on3 := fun b hb => ty_rt (on2 b hb) hcr2 (ne_ty (on2 b hb) ty63 (by decide))
                  have cqexf9 : clr2 qn2 = (100 + (ivh9 (sk 22) 2).toNat) := by rw [hcr2]; exact va_up_self _ _ _
                  have tm2a : ∀ i : Nat, (i : Int) < iv (sk 22) 2 → el rvh9 (sk 22) i = el rv (sk 22) i := (fun i hi => el_ch hW (tysk22 hS) rfl rfl ((show ∀ bb, ty L cl bb 22 → rvh9 bb 1 = rv bb 1 from fun bb tbb => by have tb1 := xl10.ty tbb; exact (Eq.trans (show rvh9 bb 1 = rvn2 bb 1 from (fl9.r tb1 rfl 1)) (show rvn2 bb 1 = rv bb 1 from (by rw [hrn2]; exact congrFun (up0_a (ne_in tbb.1 hqn2)) _)))) (sk 22) (tysk22 hS)) (fun bb tbb kk => by have tb1 := xl10.ty tbb; exact (Eq.trans (show rvh9 bb kk = rvn2 bb kk from (fl9.r tb1 rfl kk)) (show rvn2 bb kk = rv bb kk from (by rw [hrn2]; exact congrFun (up0_a (ne_in tbb.1 hqn2)) _)))) hi)
                  have tm2b : CS0 (iv (sk 23) 2) sk iv rv ivh9 rvh9 := CS0.of hW hS (Int.le_refl _) (fun i hi => el_ch hW (tysk23 hS) rfl rfl ((show ∀ bb, ty L cl bb 23 → rvh9 bb 1 = rv bb 1 from fun bb tbb => by have tb1 := xl10.ty tbb; exact (Eq.trans (show rvh9 bb 1 = rvn2 bb 1 from (fl9.r tb1 rfl 1)) (show rvn2 bb 1 = rv bb 1 from (by rw [hrn2]; exact congrFun (up0_a (ne_in tbb.1 hqn2)) _)))) (sk 23) (tysk23 hS)) (fun bb tbb kk => by have tb1 := xl10.ty tbb; exact (Eq.trans (show rvh9 bb kk = rvn2 bb kk from (fl9.r tb1 rfl kk)) (show rvn2 bb kk = rv bb kk from (by rw [hrn2]; exact congrFun (up0_a (ne_in tbb.1 hqn2)) _)))) hi) (fun bb tbb => by have tb1 := xl10.ty tbb; exact (Eq.trans (show ivh9 bb 0 = ivn2 bb 0 from (fl9.i tb1 rfl 0)) (show ivn2 bb 0 = iv bb 0 from (by rw [hin2]; exact congrFun (up0_a (ne_in tbb.1 hqn2)) _)))) (fun bb tbb => by have tb1 := xl10.ty tbb; exact (Eq.trans (show rvh9 bb 1 = rvn2 bb 1 from (fl9.r tb1 rfl 1)) (show rvn2 bb 1 = rv bb 1 from (by rw [hrn2]; exact congrFun (up0_a (ne_in tbb.1 hqn2)) _))))
                  have ri69 : 0 ≤ ivh9 (sk 23) 2 ∧ ivh9 (sk 23) 2 ≤ 512 := W13.int ty86 2
                  have ie71 : ivh9 (sk 23) 2 = ivn2 (sk 23) 2 := fl9.i ty60 rfl 2
                  have ie72 : ivn2 (sk 23) 2 = iv (sk 23) 2 := by rw [hin2]; exact congrFun (up0_a (ne_in tsk23.1 hqn2)) _
                  have pl5 := Phi.le W13 sk7
                  refine d_callV (As := [.ref qn2]) (rest := [.ref a0]) C hM (C_make (a0 := (sk 13)) (a1 := qn2) W13 sk7 ty75 tqr2  mr10 (by show ivh9 (sk 22) 2 < 30 ∧ ivh9 (sk 23) 2 < 512 ∧ ((clr2 qn2 : Nat) : Int) ≤ 100 + ivh9 (sk 22) 2; omega)) dX11_table_126 kV_X11_127 rfl ty75 rfl rfl (by decide) ck_11 rfl (Nat.le_of_ble_eq_true rfl) ⟨(Nat.le_of_ble_eq_true rfl), (Nat.le_of_ble_eq_true rfl)⟩ hph pl5 (show 114 + 1320 = 1434 from rfl) (by decide) (fun rh10 Lh10 clh10 lnh10 ivh10 rvh10 h10 => ?_)
                  obtain ⟨f10, rfl, xl12, fl10, W14, rgf10, exf10, mkef10⟩ := h10
                  have F10 := F9.call X7 fl10 rfl
                  have tx6 := TX.xt tx5 xl11
                  have tx7 := TX.rt tx6 hcr2 ty63 rfl
                  have kp11 := kp10.call tx7 W13 fl10 rfl
                  have X8 := X7.trans xl12
                  have sk8 := xl12.skl sk7
                  refine c_st (st2 := [.int (iI f10), .ref a0]) rfl ?_
                  have ty92 := xl12.ty ty84
                  have ri70 : 0 ≤ ivh10 (sk 22) 2 ∧ ivh10 (sk 22) 2 ≤ 30 := W14.int ty92 2
                  have ty93 := xl12.ty ty86
                  have ri71 : 0 ≤ ivh10 (sk 23) 2 ∧ ivh10 (sk 23) 2 ≤ 512 := W14.int ty93 2
                  have gf10 : f10 = ivh9 (sk 22) 2 ∧ ivh10 (sk 22) 2 = ivh9 (sk 22) 2 + 1 ∧ ivh10 (sk 23) 2 = ivh9 (sk 23) 2 + 1 ∧ MRK sk clh10 ivh10 rvh10 := exf10
                  have ty94 := xl12.ty ty65
                  have pl6 := Phi.le W14 sk8
                  refine d_callV (As := [.int (iI f10)]) (rest := []) C hM (C_done (a0 := a0) (x := f10) W14 sk8 ty94 (by omega) ) dX11_table_129 kV_X11_109 rfl ty94 rfl rfl (by decide) ck_12 rfl (Nat.le_of_ble_eq_true rfl) ⟨(Nat.le_of_ble_eq_true rfl), (Nat.le_of_ble_eq_true rfl)⟩ hph pl6 (show 1434 + 0 = 1434 from rfl) (by decide) (fun rh11 Lh11 clh11 lnh11 ivh11 rvh11 h11 => ?_)
                  obtain ⟨f11, rfl, rfl, rfl, rfl, rfl, fl11, W15, rgf11, exf11, kp11f11, kp12f11, kp13f11, kp14f11, kp15f11, kp16f11⟩ := h11
                  have ri72 : 1 ≤ ivh10 a0 11 ∧ ivh10 a0 11 ≤ 100 := W14.int ty94 11
                  have ie75 : ivh10 a0 11 = ivh9 a0 11 := fl10.i ty65 rfl 11
                  have ie76 : ivh9 a0 11 = ivn2 a0 11 := fl9.i ty49 rfl 11
                  have ie77 : ivn2 a0 11 = iv a0 11 := by rw [hin2]; exact congrFun (up0_a (ne_in t_a0.1 hqn2)) _
                  have ri73 : 1 ≤ ivh10 a0 12 ∧ ivh10 a0 12 ≤ 50 := W14.int ty94 12
                  have ie78 : ivh10 a0 12 = ivh9 a0 12 := fl10.i ty65 rfl 12
                  have ie79 : ivh9 a0 12 = ivn2 a0 12 := fl9.i ty49 rfl 12
                  have ie80 : ivn2 a0 12 = iv a0 12 := by rw [hin2]; exact congrFun (up0_a (ne_in t_a0.1 hqn2)) _
                  have ri74 : (-2147483648) ≤ ivh10 a0 13 ∧ ivh10 a0 13 ≤ 2147483647 := W14.int ty94 13
                  have ie81 : ivh10 a0 13 = ivh9 a0 13 := fl10.i ty65 rfl 13
                  have ie82 : ivh9 a0 13 = ivn2 a0 13 := fl9.i ty49 rfl 13
                  have ie83 : ivn2 a0 13 = iv a0 13 := by rw [hin2]; exact congrFun (up0_a (ne_in t_a0.1 hqn2)) _
                  have ri75 : (-2147483648) ≤ ivh10 a0 14 ∧ ivh10 a0 14 ≤ 2147483647 := W14.int ty94 14
                  have ie84 : ivh10 a0 14 = ivh9 a0 14 := fl10.i ty65 rfl 14
                  have ie85 : ivh9 a0 14 = ivn2 a0 14 := fl9.i ty49 rfl 14
                  have ie86 : ivn2 a0 14 = iv a0 14 := by rw [hin2]; exact congrFun (up0_a (ne_in t_a0.1 hqn2)) _
                  have ri76 : (-2147483648) ≤ ivh10 a0 15 ∧ ivh10 a0 15 ≤ 2147483647 := W14.int ty94 15
                  have ie87 : ivh10 a0 15 = ivh9 a0 15 := fl10.i ty65 rfl 15
                  have ie88 : ivh9 a0 15 = ivn2 a0 15 := fl9.i ty49 rfl 15
                  have ie89 : ivn2 a0 15 = iv a0 15 := by rw [hin2]; exact congrFun (up0_a (ne_in t_a0.1 hqn2)) _
                  have ri77 : (-2147483648) ≤ ivh10 a0 16 ∧ ivh10 a0 16 ≤ 2147483647 := W14.int ty94 16
                  have ie90 : ivh10 a0 16 = ivh9 a0 16 := fl10.i ty65 rfl 16
                  have ie91 : ivh9 a0 16 = ivn2 a0 16 := fl9.i ty49 rfl 16
                  have ie92 : ivn2 a0 16 = iv a0 16 := by rw [hin2]; exact congrFun (up0_a (ne_in t_a0.1 hqn2)) _
                  have F11 := F10.call X8 fl11 rfl
                  have mr11 := MRK.call exf10.2.2.2 W14 sk8 XT.refl fl11 rfl rfl
                  have tx8 := TX.xt tx7 xl12
                  have kp12 := kp11.call tx8 W14 fl11 rfl
                  refine c_st (st2 := [.int (iI f11)]) rfl ?_
                  have gk11f11 : ivh11 a0 11 = ivh10 a0 11 := kp11f11
                  have gk12f11 : ivh11 a0 12 = ivh10 a0 12 := kp12f11
                  have gk13f11 : ivh11 a0 13 = ivh10 a0 13 := kp13f11
                  have gk14f11 : ivh11 a0 14 = ivh10 a0 14 := kp14f11
                  have gk15f11 : ivh11 a0 15 = ivh10 a0 15 := kp15f11
                  have gk16f11 : ivh11 a0 16 = ivh10 a0 16 := kp16f11
                  have gf11 : f11 = f10 := exf11
                  have ri78 : 1 ≤ ivh11 a0 11 ∧ ivh11 a0 11 ≤ 100 := W15.int ty94 11
                  have ri79 : 1 ≤ ivh11 a0 12 ∧ ivh11 a0 12 ≤ 50 := W15.int ty94 12
                  have ri80 : (-2147483648) ≤ ivh11 a0 13 ∧ ivh11 a0 13 ≤ 2147483647 := W15.int ty94 13
                  have ri81 : (-2147483648) ≤ ivh11 a0 14 ∧ ivh11 a0 14 ≤ 2147483647 := W15.int ty94 14
                  have ri82 : (-2147483648) ≤ ivh11 a0 15 ∧ ivh11 a0 15 ≤ 2147483647 := W15.int ty94 15
                  have ri83 : (-2147483648) ≤ ivh11 a0 16 ∧ ivh11 a0 16 ≤ 2147483647 := W15.int ty94 16
                  have ri84 : 0 ≤ ivh11 (sk 23) 2 ∧ ivh11 (sk 23) 2 ≤ 512 := W15.int ty93 2
                  have ie99 : ivh11 (sk 23) 2 = ivh10 (sk 23) 2 := fl11.i ty93 rfl 2
                  have ri85 : 0 ≤ ivh11 (sk 22) 2 ∧ ivh11 (sk 22) 2 ≤ 30 := W15.int ty92 2
                  have ie100 : ivh11 (sk 22) 2 = ivh10 (sk 22) 2 := fl11.i ty92 rfl 2
                  have ty95 := xl12.ty ty87
                  have ri86 : (-2147483648) ≤ ivh11 ob1 0 ∧ ivh11 ob1 0 ≤ 2147483647 := W15.int ty95 0
                  have ie101 : ivh11 ob1 0 = ivh10 ob1 0 := fl11.i ty95 rfl 0
                  have ie102 : ivh10 ob1 0 = ivh9 ob1 0 := fl10.i ty87 rfl 0
                  have ie103 : ivh9 ob1 0 = ivn2 ob1 0 := fl9.i ty48 rfl 0
                  have ie104 : ivn2 ob1 0 = iv ob1 0 := by rw [hin2]; exact congrFun (up0_a (ne_in tob1.1 hqn2)) _
                  have ty96 := xl12.ty tqr2
                  have ri87 : (-2147483648) ≤ ivh11 qn2 0 ∧ ivh11 qn2 0 ≤ 2147483647 := W15.int ty96 0
                  have ie105 : ivh11 qn2 0 = ivh10 qn2 0 := fl11.i ty96 rfl 0
                  have ie106 : ivh10 qn2 0 = ivh9 qn2 0 := fl10.i tqr2 rfl 0
                  have ri88 : (-2147483648) ≤ ivh11 qn2 1 ∧ ivh11 qn2 1 ≤ 2147483647 := W15.int ty96 1
                  have ie107 : ivh11 qn2 1 = ivh10 qn2 1 := fl11.i ty96 rfl 1
                  have ie108 : ivh10 qn2 1 = ivh9 qn2 1 := fl10.i tqr2 rfl 1
                  have ri89 : 0 ≤ ivh11 qn2 7 ∧ ivh11 qn2 7 ≤ 1 := W15.int ty96 7
                  have ie109 : ivh11 qn2 7 = ivh10 qn2 7 := fl11.i ty96 rfl 7
                  have ie110 : ivh10 qn2 7 = ivh9 qn2 7 := fl10.i tqr2 rfl 7
                  have ty97 := xl12.ty ty88
                  have ri90 : 0 ≤ ivh11 b4exf9 2 ∧ ivh11 b4exf9 2 ≤ 200 := W15.int ty97 2
                  have ie111 : ivh11 b4exf9 2 = ivh10 b4exf9 2 := fl11.i ty97 rfl 2
                  have ie112 : ivh10 b4exf9 2 = ivh9 b4exf9 2 := fl10.i ty88 rfl 2
                  have re7 : rvh10 qn2 4 = rvh9 qn2 4 := (fl10.r tqr2 rfl 4)
                  rw [exf9r4] at re7
                  have re8 : rvh10 qn2 5 = rvh9 qn2 5 := (fl10.r tqr2 rfl 5)
                  rw [exf9r5] at re8
                  have re9 : rvh10 qn2 6 = rvh9 qn2 6 := (fl10.r tqr2 rfl 6)
                  rw [exf9r6] at re9
                  have ty98 := xl12.ty ty89
                  have ri91 : 0 ≤ ivh11 b5exf9 2 ∧ ivh11 b5exf9 2 ≤ 200 := W15.int ty98 2
                  have ie114 : ivh11 b5exf9 2 = ivh10 b5exf9 2 := fl11.i ty98 rfl 2
                  have ie115 : ivh10 b5exf9 2 = ivh9 b5exf9 2 := fl10.i ty89 rfl 2
                  have re10 : rvh10 qn2 2 = rvh9 qn2 2 := (fl10.r tqr2 rfl 2)
                  rw [exf9r2] at re10
                  have re11 : rvh10 qn2 3 = rvh9 qn2 3 := (fl10.r tqr2 rfl 3)
                  rw [exf9r3] at re11
                  have re12 : rvh10 b5exf9 1 = rvh9 b5exf9 1 := (fl10.r ty89 rfl 1)
                  rw [exf9rx] at re12
                  exact c_iret C dX11_table_132 rfl (by decide) (rom0 hph pl6 (by decide)) ⟨f11, rfl, X8, F11, W15, ⟨by omega, by omega⟩, ⟨(by omega), mr11⟩, (by omega), (by omega), (by omega), (by omega), (by omega), (by omega), (Or.inr ⟨by omega, ⟨⟨by omega, by omega, by omega, by omega⟩, Or.inr (Or.inr ⟨ob1, akob1.2, by omega⟩)⟩, ⟨qn2, b4exf9, (by rw [show (iv (sk 22) 2).toNat = (ivh9 (sk 22) 2).toNat from congrArg Int.toNat (by omega)]; exact mkef10.1), (by omega), (by omega), (by omega), re7, (by omega), (fun i t hi ht e => by
                      obtain ⟨b9, w1, w2⟩ := hW.ref (el22 hW hS hi ht) 4 rfl rfl rfl
                      rw [w1] at e
                      cases e
                      exact exf9nn (X5 _ w2.1).1), (by omega), ⟨(fun i hi => (mkef10.2.1 i (by omega)).trans (tm2a i hi)), TSF.of hW hS (fun bb tbb hbb => by have tb1 := xl10.ty tbb; have tb2 := xl11.ty tb1; have tb3 := ty_rt tb2 hcr2 (ne_ty tb2 ty63 (by decide)); have tb4 := xl12.ty tb3; exact (Eq.trans (show ivh11 bb 7 = ivh10 bb 7 from (fl11.i tb4 rfl 7)) (Eq.trans (show ivh10 bb 7 = ivh9 bb 7 from (fl10.i tb3 rfl 7)) (Eq.trans (show ivh9 bb 7 = ivn2 bb 7 from (fl9.i tb1 rfl 7)) (show ivn2 bb 7 = iv bb 7 from (by rw [hin2]; exact congrFun (up0_a (ne_in tbb.1 hqn2)) _)))))) (fun bb tbb => by have tb1 := xl10.ty tbb; have tb2 := xl11.ty tb1; have tb3 := ty_rt tb2 hcr2 (ne_ty tb2 ty63 (by decide)); have tb4 := xl12.ty tb3; exact (Eq.trans (show ivh11 bb 0 = ivh10 bb 0 from (fl11.i tb4 rfl 0)) (Eq.trans (show ivh10 bb 0 = ivh9 bb 0 from (fl10.i tb3 rfl 0)) (Eq.trans (show ivh9 bb 0 = ivn2 bb 0 from (fl9.i tb1 rfl 0)) (show ivn2 bb 0 = iv bb 0 from (by rw [hin2]; exact congrFun (up0_a (ne_in tbb.1 hqn2)) _)))))) (fun bb tbb => by have tb1 := xl10.ty tbb; have tb2 := xl11.ty tb1; have tb3 := ty_rt tb2 hcr2 (ne_ty tb2 ty63 (by decide)); have tb4 := xl12.ty tb3; exact (Eq.trans (show ivh11 bb 1 = ivh10 bb 1 from (fl11.i tb4 rfl 1)) (Eq.trans (show ivh10 bb 1 = ivh9 bb 1 from (fl10.i tb3 rfl 1)) (Eq.trans (show ivh9 bb 1 = ivn2 bb 1 from (fl9.i tb1 rfl 1)) (show ivn2 bb 1 = iv bb 1 from (by rw [hin2]; exact congrFun (up0_a (ne_in tbb.1 hqn2)) _)))))) (fun bb tbb => by have tb1 := xl10.ty tbb; have tb2 := xl11.ty tb1; have tb3 := ty_rt tb2 hcr2 (ne_ty tb2 ty63 (by decide)); exact (Eq.trans (show rvh10 bb 4 = rvh9 bb 4 from (fl10.r tb3 rfl 4)) (Eq.trans (show rvh9 bb 4 = rvn2 bb 4 from (fl9.r tb1 rfl 4)) (show rvn2 bb 4 = rv bb 4 from (by rw [hrn2]; exact congrFun (up0_a (ne_in tbb.1 hqn2)) _))))), TSQ.of hW hS (fun bb tbb hbb => by have tb1 := xl10.ty tbb; have tb2 := xl11.ty tb1; have tb3 := ty_rt tb2 hcr2 (ne_ty tb2 ty63 (by decide)); have tb4 := xl12.ty tb3; exact (Eq.trans (show ivh11 bb 2 = ivh10 bb 2 from (fl11.i tb4 rfl 2)) (Eq.trans (show ivh10 bb 2 = ivh9 bb 2 from (fl10.i tb3 rfl 2)) (Eq.trans (show ivh9 bb 2 = ivn2 bb 2 from (fl9.i tb1 rfl 2)) (show ivn2 bb 2 = iv bb 2 from (by rw [hin2]; exact congrFun (up0_a (ne_in tbb.1 hqn2)) _))))))⟩, ((mkef10.2.2.pre (by omega) tm2b).after (by omega) (PSAME.fr W14 sk8 fl11 rfl rfl rfl rfl rfl rfl rfl))⟩⟩), (Or.inr ⟨by omega, kp12, (some ob1), Or.inr ⟨⟨by omega, by omega⟩, ob1, akob1.2, rfl⟩, ⟨qn2, b4exf9, b5exf9, x5exf9, b6exf9, (by rw [show (iv (sk 22) 2).toNat = (ivh9 (sk 22) 2).toNat from congrArg Int.toNat (by omega)]; exact mkef10.1), ⟨(fun hm => hqn2 (hX0 _ hm).1), (fun hm => exf9nn (X5 _ hm).1), (fun hm => exf9n5 (X5 _ hm).1), (fun hm => exf9nx (X5 _ hm).1), (fun hm => exf9n6 (X5 _ hm).1)⟩, ⟨re10, re11, re7, re8, re9, re12⟩, (by omega), (fun kk => Eq.trans ((show ∀ bb, ty Lh9 clh9 bb 68 → rvh10 bb kk = rvh9 bb kk from fun bb tbb => by have tb3 := ty_rt tbb hcr2 (ne_ty tbb ty63 (by decide)); exact (show rvh10 bb kk = rvh9 bb kk from (fl10.r tb3 rfl kk))) b6exf9 exf9t6) (exf9nn6 kk))⟩⟩), (Eq.trans (show rvh10 a0 9 = rvh9 a0 9 from (fl10.r ty65 rfl 9)) (Eq.trans (show rvh9 a0 9 = rvn2 a0 9 from (fl9.r ty49 rfl 9)) (show rvn2 a0 9 = rv a0 9 from (by rw [hrn2]; exact congrFun (up0_a (ne_in t_a0.1 hqn2)) _)))), (Eq.trans (show rvh10 a0 10 = rvh9 a0 10 from (fl10.r ty65 rfl 10)) (Eq.trans (show rvh9 a0 10 = rvn2 a0 10 from (fl9.r ty49 rfl 10)) (show rvn2 a0 10 = rv a0 10 from (by rw [hrn2]; exact congrFun (up0_a (ne_in t_a0.1 hqn2)) _))))⟩
                · refine c_aload_n (j := 1) (x := a0) C dX11_table_94 rfl ?_
                  refine c_aload (j := 0) (x := ob1) C dX11_table_95 rfl ?_
                  refine c_ifnonnull (r := (some ob1)) (tgt := 104) C dX11_table_97 (by decide) (fun _ _ => ?_) (fun q => by cases q)
                  refine c_iconst C dX11_table_104 ?_
                  refine d_callV (As := [.int (iI 4)]) (rest := []) C hM (C_refuse (a0 := a0) (x := 4) hW hS t_a0 ⟨by decide, by decide⟩ ) dX11_table_105 kV_X11_102 rfl t_a0 rfl rfl (by decide) ck_12 rfl (Nat.le_of_ble_eq_true rfl) ⟨(Nat.le_of_ble_eq_true rfl), (Nat.le_of_ble_eq_true rfl)⟩ hph hph (show 0 + 0 = 0 from rfl) (by decide) (fun rh12 Lh12 clh12 lnh12 ivh12 rvh12 h12 => ?_)
                  obtain ⟨f12, rfl, rfl, rfl, rfl, rfl, fl12, W16, rgf12, exf12, kp11f12, kp12f12, kp13f12, kp14f12, kp15f12, kp16f12⟩ := h12
                  have ri92 : 1 ≤ iv a0 11 ∧ iv a0 11 ≤ 100 := hW.int t_a0 11
                  have ri93 : 1 ≤ iv a0 12 ∧ iv a0 12 ≤ 50 := hW.int t_a0 12
                  have ri94 : (-2147483648) ≤ iv a0 13 ∧ iv a0 13 ≤ 2147483647 := hW.int t_a0 13
                  have ri95 : (-2147483648) ≤ iv a0 14 ∧ iv a0 14 ≤ 2147483647 := hW.int t_a0 14
                  have ri96 : (-2147483648) ≤ iv a0 15 ∧ iv a0 15 ≤ 2147483647 := hW.int t_a0 15
                  have ri97 : (-2147483648) ≤ iv a0 16 ∧ iv a0 16 ≤ 2147483647 := hW.int t_a0 16
                  have F12 := hF0.call hX0 fl12 rfl
                  have mr12 := MRK.call hmr hW hS XT.refl fl12 rfl rfl
                  have kp13 := kp1.call TX.refl hW fl12 rfl
                  refine c_st (st2 := [.int (iI f12)]) rfl ?_
                  have gk11f12 : ivh12 a0 11 = iv a0 11 := kp11f12
                  have gk12f12 : ivh12 a0 12 = iv a0 12 := kp12f12
                  have gk13f12 : ivh12 a0 13 = iv a0 13 := kp13f12
                  have gk14f12 : ivh12 a0 14 = iv a0 14 := kp14f12
                  have gk15f12 : ivh12 a0 15 = iv a0 15 := kp15f12
                  have gk16f12 : ivh12 a0 16 = iv a0 16 := kp16f12
                  have gf12 : f12 = -1 := exf12
                  have ri98 : 1 ≤ ivh12 a0 11 ∧ ivh12 a0 11 ≤ 100 := W16.int t_a0 11
                  have ri99 : 1 ≤ ivh12 a0 12 ∧ ivh12 a0 12 ≤ 50 := W16.int t_a0 12
                  have ri100 : (-2147483648) ≤ ivh12 a0 13 ∧ ivh12 a0 13 ≤ 2147483647 := W16.int t_a0 13
                  have ri101 : (-2147483648) ≤ ivh12 a0 14 ∧ ivh12 a0 14 ≤ 2147483647 := W16.int t_a0 14
                  have ri102 : (-2147483648) ≤ ivh12 a0 15 ∧ ivh12 a0 15 ≤ 2147483647 := W16.int t_a0 15
                  have ri103 : (-2147483648) ≤ ivh12 a0 16 ∧ ivh12 a0 16 ≤ 2147483647 := W16.int t_a0 16
                  have ri104 : 0 ≤ ivh12 (sk 23) 2 ∧ ivh12 (sk 23) 2 ≤ 512 := W16.int tsk23 2
                  have ie123 : ivh12 (sk 23) 2 = iv (sk 23) 2 := fl12.i tsk23 rfl 2
                  have ri105 : 0 ≤ ivh12 (sk 22) 2 ∧ ivh12 (sk 22) 2 ≤ 30 := W16.int tsk22 2
                  have ie124 : ivh12 (sk 22) 2 = iv (sk 22) 2 := fl12.i tsk22 rfl 2
                  have ri106 : (-2147483648) ≤ ivh12 ob1 0 ∧ ivh12 ob1 0 ≤ 2147483647 := W16.int tob1 0
                  have ie125 : ivh12 ob1 0 = iv ob1 0 := fl12.i tob1 rfl 0
                  exact c_iret C dX11_table_108 rfl (by decide) (rom0 hph hph (by decide)) ⟨f12, rfl, hX0, F12, W16, ⟨by omega, by omega⟩, ⟨(by omega), mr12⟩, (by omega), (by omega), (by omega), (by omega), (by omega), (by omega), (Or.inl ⟨by omega, PSAME.fr hW hS fl12 rfl rfl rfl rfl rfl rfl rfl, (fun q => by
                      rcases q.2 with h | h | ⟨t, h1, h2⟩
                      · omega
                      · omega
                      · have e := h1.uni akob1.2
                        subst e
                        omega)⟩), (Or.inl ⟨by omega, kp13⟩), rfl, rfl⟩
            · refine c_aload_n (j := 0) (x := a0) C dX11_table_47 rfl ?_
              refine c_aload_n (j := 0) (x := a0) C dX11_table_48 rfl ?_
              refine c_getr (k := 4) C ck_12 dX11_table_49 w2_48 (by decide) t_a0 rfl rfl (by decide) rfl rq1 ?_
              refine c_st (st2 := [.ref (sk 13), .ref a0]) rfl ?_
              refine c_new C ck_10 dv_10 ⟨rfl, rfl⟩ rfl (by decide) dX11_table_52 w2_162 w2_163 w1_16 (rom2 hph hph (by decide)) (fun qn3 cln3 lnn3 ivn3 rvn3 hqn3 hcn3 hln3 hin3 hrn3 => ⟨24, (p_in (Phi.new hW hS hqn3 (fun b _ => by rw [hln3]) hrn3) (by omega)), ?_⟩)
              refine c_g0 C (fun hg3 => ?_)
              have hxn3 : ∀ b, b ≠ qn3 → lnn3 b = ln b := (fun b _ => by rw [hln3])
              have W17 := hW.new (ln2 := lnn3) hqn3 (hg3 qn3 (List.mem_append_right _ List.mem_cons_self)) hcn3 hxn3 hin3 hrn3 (fun _ => ⟨(show (-2147483648 : Int) ≤ 0 by decide), (show (0 : Int) ≤ 2147483647 by decide)⟩) (Or.inl rfl) (fun q => by cases q) rfl rfl
              have xl15 := XT.new hqn3 hcn3 hxn3
              have X9 := hX0.trans xl15
              have sk9 := xl15.skl hS
              have F13 := hF0.new hX0 hqn3 hin3 hrn3
              have mr13 := MRK.call hmr hW hS xl15 ((fT.refl (ls := [])).new (XT.refl (ln := ln)) hqn3 hin3 hrn3) rfl rfl
              have tqn3 : ty (L ++ [qn3]) cln3 qn3 210 := ty_new hcn3
              have kp14 := kp1.new TX.refl hW hqn3 hin3 hrn3
              have h0qn3 : qn3 ∉ L := fun h => hqn3 ((hX0 qn3 h).1)
              refine c_dup C dX11_table_55 rfl ?_
              refine c_iload_n (j := 1) C dX11_table_56 rfl ?_
              refine c_iload_n (j := 2) C dX11_table_57 rfl ?_
              refine c_null C dX11_table_58 ?_
              refine c_null C dX11_table_59 ?_
              have pl7 := Phi.le W17 sk9
              refine c_callI (As := [.int (iI x), .int (iI y), .null, .null]) (rest := [.ref qn3, .ref (sk 13), .ref a0]) C hM (Z_table (a0 := qn3) (i := x) (n := y) (r := none) (r2 := none) W17 sk9 tqn3 (fun _ q => by cases q) (fun _ q => by cases q) (by omega) (by omega) ) dX11_table_60 kI_X11_124 rfl rfl (Nat.le_of_ble_eq_true rfl) ⟨(Nat.le_of_ble_eq_true rfl), (Nat.le_of_ble_eq_true rfl)⟩ (rz1 hph pl7 (by decide)) (fun rh13 Lh13 clh13 lnh13 ivh13 rvh13 h13 => ⟨114, (zk1 (by obtain ⟨_, xlh13x, flh13x, Wh13x, _⟩ := h13; exact Phi.fr W17 sk9 xlh13x flh13x rfl)), ?_⟩)
              obtain ⟨rfl, xl16, fl13, W18, exf13⟩ := h13
              have F14 := F13.call X9 fl13 rfl
              have mr14 := MRK.call mr13 W17 sk9 xl16 fl13 rfl rfl
              have tx9 := TX.xt TX.refl xl15
              have kp15 := kp14.call tx9 W17 fl13 rfl
              have ty99 := xl15.ty t_a0
              have ty100 := xl15.ty tsk2
              have ty101 := xl15.ty tsk3
              have ty102 := xl15.ty tsk4
              have ty103 := xl15.ty tsk5
              have ty104 := xl15.ty tsk13
              have ty105 := xl15.ty tsk14
              have ty106 := xl15.ty tsk15
              have ty107 := xl15.ty tsk16
              have ty108 := xl15.ty tsk17
              have ty109 := xl15.ty tsk22
              have ty110 := xl15.ty tsk23
              have X10 := X9.trans xl16
              have sk10 := xl16.skl sk9
              refine c_st (st2 := [.ref qn3, .ref (sk 13), .ref a0]) rfl ?_
              obtain ⟨b4exf13, b5exf13, b6exf13, exf13x, exf13r4, exf13t4, exf13r5, exf13t5, exf13r6, exf13t6, exf13r2, exf13r3, exf13i7, exf13i0, exf13i1, exf13nn, exf13zz, exf13n5, exf13n6, ⟨x5exf13, exf13rx, exf13tx, exf13nx⟩, exf13z5, exf13nn6⟩ := exf13
              have rn3 : ∀ k, ([2, 3, 4, 5, 6] : List Nat).contains k = false → rvh13 qn3 k = none := fun k hk => (Eq.trans (show rvh13 qn3 k = rvn3 qn3 k from (exf13x k hk)) (show rvn3 qn3 k = none from (by rw [hrn3]; exact up0_s)))
              have ty111 := xl16.ty ty109
              have ri107 : 0 ≤ ivh13 (sk 22) 2 ∧ ivh13 (sk 22) 2 ≤ 30 := W18.int ty111 2
              have ie126 : ivh13 (sk 22) 2 = ivn3 (sk 22) 2 := fl13.i ty109 rfl 2
              have ie127 : ivn3 (sk 22) 2 = iv (sk 22) 2 := by rw [hin3]; exact congrFun (up0_a (ne_in tsk22.1 hqn3)) _
              have ty112 := xl16.ty tqn3
              have btexf13 : bt (100 + (ivh13 (sk 22) 2).toNat) = 100 := bt_tab (by omega)
              refine c_retag (q := qn3) (t := (100 + (ivh13 (sk 22) 2).toNat)) (by rw [ty112.2, btexf13]; rfl) (fun clr3 hcr3 => ?_)
              have ty113 := xl16.ty ty99
              have ty114 := ty_rt ty113 hcr3 (ne_ty ty113 ty112 (by decide))
              have ty115 := xl16.ty ty100
              have ty116 := ty_rt ty115 hcr3 (ne_ty ty115 ty112 (by decide))
              have ty117 := xl16.ty ty101
              have ty118 := ty_rt ty117 hcr3 (ne_ty ty117 ty112 (by decide))
              have ty119 := xl16.ty ty102
              have ty120 := ty_rt ty119 hcr3 (ne_ty ty119 ty112 (by decide))
              have ty121 := xl16.ty ty103
              have ty122 := ty_rt ty121 hcr3 (ne_ty ty121 ty112 (by decide))
              have ty123 := xl16.ty ty104
              have ty124 := ty_rt ty123 hcr3 (ne_ty ty123 ty112 (by decide))
              have ty125 := xl16.ty ty105
              have ty126 := ty_rt ty125 hcr3 (ne_ty ty125 ty112 (by decide))
              have ty127 := xl16.ty ty106
              have ty128 := ty_rt ty127 hcr3 (ne_ty ty127 ty112 (by decide))
              have ty129 := xl16.ty ty107
              have ty130 := ty_rt ty129 hcr3 (ne_ty ty129 ty112 (by decide))
              have ty131 := xl16.ty ty108
              have ty132 := ty_rt ty131 hcr3 (ne_ty ty131 ty112 (by decide))
              have ty133 := ty_rt ty111 hcr3 (ne_ty ty111 ty112 (by decide))
              have ty134 := xl16.ty ty110
              have ty135 := ty_rt ty134 hcr3 (ne_ty ty134 ty112 (by decide))
              have ty136 := ty_rt exf13t4 hcr3 (ne_ty exf13t4 ty112 (by decide))
              have ty137 := ty_rt exf13t5 hcr3 (ne_ty exf13t5 ty112 (by decide))
              have ty138 := ty_rt exf13t6 hcr3 (ne_ty exf13t6 ty112 (by decide))
              have ty139 := ty_rt exf13tx hcr3 (ne_ty exf13tx ty112 (by decide))
              have tqr3 : ty Lh13 clr3 qn3 100 := ⟨ty112.1, by rw [hcr3, va_up_self]; exact btexf13⟩
              have W19 := W18.retag ty112.1 (by rw [ty112.2]; rfl) hcr3 (fun k => by
                    rcases k with _ | _ | _ | _ | _ | _ | _ | _ | k
                    · rw [btexf13]; exact W18.int ty112 0
                    · rw [btexf13]; exact W18.int ty112 1
                    · rw [btexf13]; exact W18.int ty112 2
                    · rw [btexf13]; exact W18.int ty112 3
                    · rw [btexf13]; exact W18.int ty112 4
                    · rw [btexf13]; exact W18.int ty112 5
                    · rw [btexf13]; exact W18.int ty112 6
                    · rw [btexf13]; exact ⟨(by show 0 ≤ ivh13 qn3 7; omega), (by show ivh13 qn3 7 ≤ 1; omega)⟩
                    · rw [btexf13]; exact W18.int ty112 (k + 8)) (fun k => by
                    rcases k with _ | _ | _ | _ | _ | _ | _ | _ | k
                    · rw [rn3 0 (by decide)]; exact rok_none tqr3 rfl
                    · rw [rn3 1 (by decide)]; exact rok_none tqr3 rfl
                    · rw [exf13r2]; exact rok_tab tqr3 (by decide) (fun _ q => by cases q)
                    · rw [exf13r3]; exact rok_tab tqr3 (by decide) (fun _ q => by cases q)
                    · rw [exf13r4]; exact rok_tb tqr3 ty136 (by decide) rfl
                    · rw [exf13r5]; exact rok_tb tqr3 ty137 (by decide) rfl
                    · rw [exf13r6]; exact rok_tb tqr3 ty138 (by decide) rfl
                    · rw [rn3 7 (by decide)]; exact rok_none tqr3 rfl
                    · rw [rn3 (k + 8) (by simp)]; exact rok_none tqr3 rfl) (by rw [btexf13]; rfl) (fun z => by rw [btexf13] at z; cases z) (fun z => by rw [btexf13] at z; cases z) uq_tab
              have X11 := X10.rt hcr3 h0qn3
              have sk11 := sk10.rt hcr3 (by rw [ty112.2]; rfl)
              have mr15 := MRK.rt mr14 W18 sk10 hcr3 (by rw [ty112.2]; rfl)
              have cqexf13 : clr3 qn3 = (100 + (ivh13 (sk 22) 2).toNat) := by rw [hcr3]; exact va_up_self _ _ _
              have tm3a : ∀ i : Nat, (i : Int) < iv (sk 22) 2 → el rvh13 (sk 22) i = el rv (sk 22) i := (fun i hi => el_ch hW (tysk22 hS) rfl rfl ((show ∀ bb, ty L cl bb 22 → rvh13 bb 1 = rv bb 1 from fun bb tbb => by have tb1 := xl15.ty tbb; exact (Eq.trans (show rvh13 bb 1 = rvn3 bb 1 from (fl13.r tb1 rfl 1)) (show rvn3 bb 1 = rv bb 1 from (by rw [hrn3]; exact congrFun (up0_a (ne_in tbb.1 hqn3)) _)))) (sk 22) (tysk22 hS)) (fun bb tbb kk => by have tb1 := xl15.ty tbb; exact (Eq.trans (show rvh13 bb kk = rvn3 bb kk from (fl13.r tb1 rfl kk)) (show rvn3 bb kk = rv bb kk from (by rw [hrn3]; exact congrFun (up0_a (ne_in tbb.1 hqn3)) _)))) hi)
              have tm3b : CS0 (iv (sk 23) 2) sk iv rv ivh13 rvh13 := CS0.of hW hS (Int.le_refl _) (fun i hi => el_ch hW (tysk23 hS) rfl rfl ((show ∀ bb, ty L cl bb 23 → rvh13 bb 1 = rv bb 1 from fun bb tbb => by have tb1 := xl15.ty tbb; exact (Eq.trans (show rvh13 bb 1 = rvn3 bb 1 from (fl13.r tb1 rfl 1)) (show rvn3 bb 1 = rv bb 1 from (by rw [hrn3]; exact congrFun (up0_a (ne_in tbb.1 hqn3)) _)))) (sk 23) (tysk23 hS)) (fun bb tbb kk => by have tb1 := xl15.ty tbb; exact (Eq.trans (show rvh13 bb kk = rvn3 bb kk from (fl13.r tb1 rfl kk)) (show rvn3 bb kk = rv bb kk from (by rw [hrn3]; exact congrFun (up0_a (ne_in tbb.1 hqn3)) _)))) hi) (fun bb tbb => by have tb1 := xl15.ty tbb; exact (Eq.trans (show ivh13 bb 0 = ivn3 bb 0 from (fl13.i tb1 rfl 0)) (show ivn3 bb 0 = iv bb 0 from (by rw [hin3]; exact congrFun (up0_a (ne_in tbb.1 hqn3)) _)))) (fun bb tbb => by have tb1 := xl15.ty tbb; exact (Eq.trans (show rvh13 bb 1 = rvn3 bb 1 from (fl13.r tb1 rfl 1)) (show rvn3 bb 1 = rv bb 1 from (by rw [hrn3]; exact congrFun (up0_a (ne_in tbb.1 hqn3)) _))))
              have ri108 : 0 ≤ ivh13 (sk 23) 2 ∧ ivh13 (sk 23) 2 ≤ 512 := W19.int ty135 2
              have ie128 : ivh13 (sk 23) 2 = ivn3 (sk 23) 2 := fl13.i ty110 rfl 2
              have ie129 : ivn3 (sk 23) 2 = iv (sk 23) 2 := by rw [hin3]; exact congrFun (up0_a (ne_in tsk23.1 hqn3)) _
              have pl8 := Phi.le W19 sk11
              refine d_callV (As := [.ref qn3]) (rest := [.ref a0]) C hM (C_make (a0 := (sk 13)) (a1 := qn3) W19 sk11 ty124 tqr3  mr15 (by show ivh13 (sk 22) 2 < 30 ∧ ivh13 (sk 23) 2 < 512 ∧ ((clr3 qn3 : Nat) : Int) ≤ 100 + ivh13 (sk 22) 2; omega)) dX11_table_63 kV_X11_127 rfl ty124 rfl rfl (by decide) ck_11 rfl (Nat.le_of_ble_eq_true rfl) ⟨(Nat.le_of_ble_eq_true rfl), (Nat.le_of_ble_eq_true rfl)⟩ hph pl8 (show 114 + 1320 = 1434 from rfl) (by decide) (fun rh14 Lh14 clh14 lnh14 ivh14 rvh14 h14 => ?_)
              obtain ⟨f14, rfl, xl17, fl14, W20, rgf14, exf14, mkef14⟩ := h14
              have F15 := F14.call X11 fl14 rfl
              have tx10 := TX.xt tx9 xl16
              have tx11 := TX.rt tx10 hcr3 ty112 rfl
              have kp16 := kp15.call tx11 W19 fl14 rfl
              have X12 := X11.trans xl17
              have sk12 := xl17.skl sk11
              refine c_st (st2 := [.int (iI f14), .ref a0]) rfl ?_
              have ty140 := xl17.ty ty133
              have ri109 : 0 ≤ ivh14 (sk 22) 2 ∧ ivh14 (sk 22) 2 ≤ 30 := W20.int ty140 2
              have ty141 := xl17.ty ty135
              have ri110 : 0 ≤ ivh14 (sk 23) 2 ∧ ivh14 (sk 23) 2 ≤ 512 := W20.int ty141 2
              have gf14 : f14 = ivh13 (sk 22) 2 ∧ ivh14 (sk 22) 2 = ivh13 (sk 22) 2 + 1 ∧ ivh14 (sk 23) 2 = ivh13 (sk 23) 2 + 1 ∧ MRK sk clh14 ivh14 rvh14 := exf14
              have ty142 := xl17.ty ty114
              have pl9 := Phi.le W20 sk12
              refine d_callV (As := [.int (iI f14)]) (rest := []) C hM (C_done (a0 := a0) (x := f14) W20 sk12 ty142 (by omega) ) dX11_table_66 kV_X11_109 rfl ty142 rfl rfl (by decide) ck_12 rfl (Nat.le_of_ble_eq_true rfl) ⟨(Nat.le_of_ble_eq_true rfl), (Nat.le_of_ble_eq_true rfl)⟩ hph pl9 (show 1434 + 0 = 1434 from rfl) (by decide) (fun rh15 Lh15 clh15 lnh15 ivh15 rvh15 h15 => ?_)
              obtain ⟨f15, rfl, rfl, rfl, rfl, rfl, fl15, W21, rgf15, exf15, kp11f15, kp12f15, kp13f15, kp14f15, kp15f15, kp16f15⟩ := h15
              have ri111 : 1 ≤ ivh14 a0 11 ∧ ivh14 a0 11 ≤ 100 := W20.int ty142 11
              have ie132 : ivh14 a0 11 = ivh13 a0 11 := fl14.i ty114 rfl 11
              have ie133 : ivh13 a0 11 = ivn3 a0 11 := fl13.i ty99 rfl 11
              have ie134 : ivn3 a0 11 = iv a0 11 := by rw [hin3]; exact congrFun (up0_a (ne_in t_a0.1 hqn3)) _
              have ri112 : 1 ≤ ivh14 a0 12 ∧ ivh14 a0 12 ≤ 50 := W20.int ty142 12
              have ie135 : ivh14 a0 12 = ivh13 a0 12 := fl14.i ty114 rfl 12
              have ie136 : ivh13 a0 12 = ivn3 a0 12 := fl13.i ty99 rfl 12
              have ie137 : ivn3 a0 12 = iv a0 12 := by rw [hin3]; exact congrFun (up0_a (ne_in t_a0.1 hqn3)) _
              have ri113 : (-2147483648) ≤ ivh14 a0 13 ∧ ivh14 a0 13 ≤ 2147483647 := W20.int ty142 13
              have ie138 : ivh14 a0 13 = ivh13 a0 13 := fl14.i ty114 rfl 13
              have ie139 : ivh13 a0 13 = ivn3 a0 13 := fl13.i ty99 rfl 13
              have ie140 : ivn3 a0 13 = iv a0 13 := by rw [hin3]; exact congrFun (up0_a (ne_in t_a0.1 hqn3)) _
              have ri114 : (-2147483648) ≤ ivh14 a0 14 ∧ ivh14 a0 14 ≤ 2147483647 := W20.int ty142 14
              have ie141 : ivh14 a0 14 = ivh13 a0 14 := fl14.i ty114 rfl 14
              have ie142 : ivh13 a0 14 = ivn3 a0 14 := fl13.i ty99 rfl 14
              have ie143 : ivn3 a0 14 = iv a0 14 := by rw [hin3]; exact congrFun (up0_a (ne_in t_a0.1 hqn3)) _
              have ri115 : (-2147483648) ≤ ivh14 a0 15 ∧ ivh14 a0 15 ≤ 2147483647 := W20.int ty142 15
              have ie144 : ivh14 a0 15 = ivh13 a0 15 := fl14.i ty114 rfl 15
              have ie145 : ivh13 a0 15 = ivn3 a0 15 := fl13.i ty99 rfl 15
              have ie146 : ivn3 a0 15 = iv a0 15 := by rw [hin3]; exact congrFun (up0_a (ne_in t_a0.1 hqn3)) _
              have ri116 : (-2147483648) ≤ ivh14 a0 16 ∧ ivh14 a0 16 ≤ 2147483647 := W20.int ty142 16
              have ie147 : ivh14 a0 16 = ivh13 a0 16 := fl14.i ty114 rfl 16
              have ie148 : ivh13 a0 16 = ivn3 a0 16 := fl13.i ty99 rfl 16
              have ie149 : ivn3 a0 16 = iv a0 16 := by rw [hin3]; exact congrFun (up0_a (ne_in t_a0.1 hqn3)) _
              have F16 := F15.call X12 fl15 rfl
              have mr16 := MRK.call exf14.2.2.2 W20 sk12 XT.refl fl15 rfl rfl
              have tx12 := TX.xt tx11 xl17
              have kp17 := kp16.call tx12 W20 fl15 rfl
              refine c_st (st2 := [.int (iI f15)]) rfl ?_
              have gk11f15 : ivh15 a0 11 = ivh14 a0 11 := kp11f15
              have gk12f15 : ivh15 a0 12 = ivh14 a0 12 := kp12f15
              have gk13f15 : ivh15 a0 13 = ivh14 a0 13 := kp13f15
              have gk14f15 : ivh15 a0 14 = ivh14 a0 14 := kp14f15
              have gk15f15 : ivh15 a0 15 = ivh14 a0 15 := kp15f15
              have gk16f15 : ivh15 a0 16 = ivh14 a0 16 := kp16f15
              have gf15 : f15 = f14 := exf15
              have ri117 : 1 ≤ ivh15 a0 11 ∧ ivh15 a0 11 ≤ 100 := W21.int ty142 11
              have ri118 : 1 ≤ ivh15 a0 12 ∧ ivh15 a0 12 ≤ 50 := W21.int ty142 12
              have ri119 : (-2147483648) ≤ ivh15 a0 13 ∧ ivh15 a0 13 ≤ 2147483647 := W21.int ty142 13
              have ri120 : (-2147483648) ≤ ivh15 a0 14 ∧ ivh15 a0 14 ≤ 2147483647 := W21.int ty142 14
              have ri121 : (-2147483648) ≤ ivh15 a0 15 ∧ ivh15 a0 15 ≤ 2147483647 := W21.int ty142 15
              have ri122 : (-2147483648) ≤ ivh15 a0 16 ∧ ivh15 a0 16 ≤ 2147483647 := W21.int ty142 16
              have ri123 : 0 ≤ ivh15 (sk 23) 2 ∧ ivh15 (sk 23) 2 ≤ 512 := W21.int ty141 2
              have ie156 : ivh15 (sk 23) 2 = ivh14 (sk 23) 2 := fl15.i ty141 rfl 2
              have ri124 : 0 ≤ ivh15 (sk 22) 2 ∧ ivh15 (sk 22) 2 ≤ 30 := W21.int ty140 2
              have ie157 : ivh15 (sk 22) 2 = ivh14 (sk 22) 2 := fl15.i ty140 rfl 2
              have ty143 := xl17.ty tqr3
              have ri125 : (-2147483648) ≤ ivh15 qn3 0 ∧ ivh15 qn3 0 ≤ 2147483647 := W21.int ty143 0
              have ie158 : ivh15 qn3 0 = ivh14 qn3 0 := fl15.i ty143 rfl 0
              have ie159 : ivh14 qn3 0 = ivh13 qn3 0 := fl14.i tqr3 rfl 0
              have ri126 : (-2147483648) ≤ ivh15 qn3 1 ∧ ivh15 qn3 1 ≤ 2147483647 := W21.int ty143 1
              have ie160 : ivh15 qn3 1 = ivh14 qn3 1 := fl15.i ty143 rfl 1
              have ie161 : ivh14 qn3 1 = ivh13 qn3 1 := fl14.i tqr3 rfl 1
              have ri127 : 0 ≤ ivh15 qn3 7 ∧ ivh15 qn3 7 ≤ 1 := W21.int ty143 7
              have ie162 : ivh15 qn3 7 = ivh14 qn3 7 := fl15.i ty143 rfl 7
              have ie163 : ivh14 qn3 7 = ivh13 qn3 7 := fl14.i tqr3 rfl 7
              have ty144 := xl17.ty ty136
              have ri128 : 0 ≤ ivh15 b4exf13 2 ∧ ivh15 b4exf13 2 ≤ 200 := W21.int ty144 2
              have ie164 : ivh15 b4exf13 2 = ivh14 b4exf13 2 := fl15.i ty144 rfl 2
              have ie165 : ivh14 b4exf13 2 = ivh13 b4exf13 2 := fl14.i ty136 rfl 2
              have re13 : rvh14 qn3 4 = rvh13 qn3 4 := (fl14.r tqr3 rfl 4)
              rw [exf13r4] at re13
              have re14 : rvh14 qn3 5 = rvh13 qn3 5 := (fl14.r tqr3 rfl 5)
              rw [exf13r5] at re14
              have re15 : rvh14 qn3 6 = rvh13 qn3 6 := (fl14.r tqr3 rfl 6)
              rw [exf13r6] at re15
              have ty145 := xl17.ty ty137
              have ri129 : 0 ≤ ivh15 b5exf13 2 ∧ ivh15 b5exf13 2 ≤ 200 := W21.int ty145 2
              have ie167 : ivh15 b5exf13 2 = ivh14 b5exf13 2 := fl15.i ty145 rfl 2
              have ie168 : ivh14 b5exf13 2 = ivh13 b5exf13 2 := fl14.i ty137 rfl 2
              have re16 : rvh14 qn3 2 = rvh13 qn3 2 := (fl14.r tqr3 rfl 2)
              rw [exf13r2] at re16
              have re17 : rvh14 qn3 3 = rvh13 qn3 3 := (fl14.r tqr3 rfl 3)
              rw [exf13r3] at re17
              have re18 : rvh14 b5exf13 1 = rvh13 b5exf13 1 := (fl14.r ty137 rfl 1)
              rw [exf13rx] at re18
              exact c_iret C dX11_table_69 rfl (by decide) (rom0 hph pl9 (by decide)) ⟨f15, rfl, X12, F16, W21, ⟨by omega, by omega⟩, ⟨(by omega), mr16⟩, (by omega), (by omega), (by omega), (by omega), (by omega), (by omega), (Or.inr ⟨by omega, ⟨⟨by omega, by omega, by omega, by omega⟩, (by first | exact Or.inl (by omega) | exact Or.inr (Or.inl (by omega)))⟩, ⟨qn3, b4exf13, (by rw [show (iv (sk 22) 2).toNat = (ivh13 (sk 22) 2).toNat from congrArg Int.toNat (by omega)]; exact mkef14.1), (by omega), (by omega), (by omega), re13, (by omega), (fun i t hi ht e => by
                  obtain ⟨b9, w1, w2⟩ := hW.ref (el22 hW hS hi ht) 4 rfl rfl rfl
                  rw [w1] at e
                  cases e
                  exact exf13nn (X9 _ w2.1).1), (by omega), ⟨(fun i hi => (mkef14.2.1 i (by omega)).trans (tm3a i hi)), TSF.of hW hS (fun bb tbb hbb => by have tb1 := xl15.ty tbb; have tb2 := xl16.ty tb1; have tb3 := ty_rt tb2 hcr3 (ne_ty tb2 ty112 (by decide)); have tb4 := xl17.ty tb3; exact (Eq.trans (show ivh15 bb 7 = ivh14 bb 7 from (fl15.i tb4 rfl 7)) (Eq.trans (show ivh14 bb 7 = ivh13 bb 7 from (fl14.i tb3 rfl 7)) (Eq.trans (show ivh13 bb 7 = ivn3 bb 7 from (fl13.i tb1 rfl 7)) (show ivn3 bb 7 = iv bb 7 from (by rw [hin3]; exact congrFun (up0_a (ne_in tbb.1 hqn3)) _)))))) (fun bb tbb => by have tb1 := xl15.ty tbb; have tb2 := xl16.ty tb1; have tb3 := ty_rt tb2 hcr3 (ne_ty tb2 ty112 (by decide)); have tb4 := xl17.ty tb3; exact (Eq.trans (show ivh15 bb 0 = ivh14 bb 0 from (fl15.i tb4 rfl 0)) (Eq.trans (show ivh14 bb 0 = ivh13 bb 0 from (fl14.i tb3 rfl 0)) (Eq.trans (show ivh13 bb 0 = ivn3 bb 0 from (fl13.i tb1 rfl 0)) (show ivn3 bb 0 = iv bb 0 from (by rw [hin3]; exact congrFun (up0_a (ne_in tbb.1 hqn3)) _)))))) (fun bb tbb => by have tb1 := xl15.ty tbb; have tb2 := xl16.ty tb1; have tb3 := ty_rt tb2 hcr3 (ne_ty tb2 ty112 (by decide)); have tb4 := xl17.ty tb3; exact (Eq.trans (show ivh15 bb 1 = ivh14 bb 1 from (fl15.i tb4 rfl 1)) (Eq.trans (show ivh14 bb 1 = ivh13 bb 1 from (fl14.i tb3 rfl 1)) (Eq.trans (show ivh13 bb 1 = ivn3 bb 1 from (fl13.i tb1 rfl 1)) (show ivn3 bb 1 = iv bb 1 from (by rw [hin3]; exact congrFun (up0_a (ne_in tbb.1 hqn3)) _)))))) (fun bb tbb => by have tb1 := xl15.ty tbb; have tb2 := xl16.ty tb1; have tb3 := ty_rt tb2 hcr3 (ne_ty tb2 ty112 (by decide)); exact (Eq.trans (show rvh14 bb 4 = rvh13 bb 4 from (fl14.r tb3 rfl 4)) (Eq.trans (show rvh13 bb 4 = rvn3 bb 4 from (fl13.r tb1 rfl 4)) (show rvn3 bb 4 = rv bb 4 from (by rw [hrn3]; exact congrFun (up0_a (ne_in tbb.1 hqn3)) _))))), TSQ.of hW hS (fun bb tbb hbb => by have tb1 := xl15.ty tbb; have tb2 := xl16.ty tb1; have tb3 := ty_rt tb2 hcr3 (ne_ty tb2 ty112 (by decide)); have tb4 := xl17.ty tb3; exact (Eq.trans (show ivh15 bb 2 = ivh14 bb 2 from (fl15.i tb4 rfl 2)) (Eq.trans (show ivh14 bb 2 = ivh13 bb 2 from (fl14.i tb3 rfl 2)) (Eq.trans (show ivh13 bb 2 = ivn3 bb 2 from (fl13.i tb1 rfl 2)) (show ivn3 bb 2 = iv bb 2 from (by rw [hin3]; exact congrFun (up0_a (ne_in tbb.1 hqn3)) _))))))⟩, ((mkef14.2.2.pre (by omega) tm3b).after (by omega) (PSAME.fr W20 sk12 fl15 rfl rfl rfl rfl rfl rfl rfl))⟩⟩), (Or.inr ⟨by omega, kp17, none, Or.inl ⟨by omega, rfl⟩, ⟨qn3, b4exf13, b5exf13, x5exf13, b6exf13, (by rw [show (iv (sk 22) 2).toNat = (ivh13 (sk 22) 2).toNat from congrArg Int.toNat (by omega)]; exact mkef14.1), ⟨(fun hm => hqn3 (hX0 _ hm).1), (fun hm => exf13nn (X9 _ hm).1), (fun hm => exf13n5 (X9 _ hm).1), (fun hm => exf13nx (X9 _ hm).1), (fun hm => exf13n6 (X9 _ hm).1)⟩, ⟨re16, re17, re13, re14, re15, re18⟩, (by omega), (fun kk => Eq.trans ((show ∀ bb, ty Lh13 clh13 bb 68 → rvh14 bb kk = rvh13 bb kk from fun bb tbb => by have tb3 := ty_rt tbb hcr3 (ne_ty tbb ty112 (by decide)); exact (show rvh14 bb kk = rvh13 bb kk from (fl14.r tb3 rfl kk))) b6exf13 exf13t6) (exf13nn6 kk))⟩⟩), (Eq.trans (show rvh14 a0 9 = rvh13 a0 9 from (fl14.r ty114 rfl 9)) (Eq.trans (show rvh13 a0 9 = rvn3 a0 9 from (fl13.r ty99 rfl 9)) (show rvn3 a0 9 = rv a0 9 from (by rw [hrn3]; exact congrFun (up0_a (ne_in t_a0.1 hqn3)) _)))), (Eq.trans (show rvh14 a0 10 = rvh13 a0 10 from (fl14.r ty114 rfl 10)) (Eq.trans (show rvh13 a0 10 = rvn3 a0 10 from (fl13.r ty99 rfl 10)) (show rvn3 a0 10 = rv a0 10 from (by rw [hrn3]; exact congrFun (up0_a (ne_in t_a0.1 hqn3)) _))))⟩
        · refine c_aload_n (j := 0) (x := a0) C dX11_table_31 rfl ?_
          refine c_bipush (z := 6) C dX11_table_32 (by decide) ?_
          refine d_callV (As := [.int (iI 6)]) (rest := []) C hM (C_refuse (a0 := a0) (x := 6) hW hS t_a0 ⟨by decide, by decide⟩ ) dX11_table_34 kV_X11_102 rfl t_a0 rfl rfl (by decide) ck_12 rfl (Nat.le_of_ble_eq_true rfl) ⟨(Nat.le_of_ble_eq_true rfl), (Nat.le_of_ble_eq_true rfl)⟩ hph hph (show 0 + 0 = 0 from rfl) (by decide) (fun rh16 Lh16 clh16 lnh16 ivh16 rvh16 h16 => ?_)
          obtain ⟨f16, rfl, rfl, rfl, rfl, rfl, fl16, W22, rgf16, exf16, kp11f16, kp12f16, kp13f16, kp14f16, kp15f16, kp16f16⟩ := h16
          have ri130 : 1 ≤ iv a0 11 ∧ iv a0 11 ≤ 100 := hW.int t_a0 11
          have ri131 : 1 ≤ iv a0 12 ∧ iv a0 12 ≤ 50 := hW.int t_a0 12
          have ri132 : (-2147483648) ≤ iv a0 13 ∧ iv a0 13 ≤ 2147483647 := hW.int t_a0 13
          have ri133 : (-2147483648) ≤ iv a0 14 ∧ iv a0 14 ≤ 2147483647 := hW.int t_a0 14
          have ri134 : (-2147483648) ≤ iv a0 15 ∧ iv a0 15 ≤ 2147483647 := hW.int t_a0 15
          have ri135 : (-2147483648) ≤ iv a0 16 ∧ iv a0 16 ≤ 2147483647 := hW.int t_a0 16
          have F17 := hF0.call hX0 fl16 rfl
          have mr17 := MRK.call hmr hW hS XT.refl fl16 rfl rfl
          have kp18 := kp1.call TX.refl hW fl16 rfl
          refine c_st (st2 := [.int (iI f16)]) rfl ?_
          have gk11f16 : ivh16 a0 11 = iv a0 11 := kp11f16
          have gk12f16 : ivh16 a0 12 = iv a0 12 := kp12f16
          have gk13f16 : ivh16 a0 13 = iv a0 13 := kp13f16
          have gk14f16 : ivh16 a0 14 = iv a0 14 := kp14f16
          have gk15f16 : ivh16 a0 15 = iv a0 15 := kp15f16
          have gk16f16 : ivh16 a0 16 = iv a0 16 := kp16f16
          have gf16 : f16 = -1 := exf16
          have ri136 : 1 ≤ ivh16 a0 11 ∧ ivh16 a0 11 ≤ 100 := W22.int t_a0 11
          have ri137 : 1 ≤ ivh16 a0 12 ∧ ivh16 a0 12 ≤ 50 := W22.int t_a0 12
          have ri138 : (-2147483648) ≤ ivh16 a0 13 ∧ ivh16 a0 13 ≤ 2147483647 := W22.int t_a0 13
          have ri139 : (-2147483648) ≤ ivh16 a0 14 ∧ ivh16 a0 14 ≤ 2147483647 := W22.int t_a0 14
          have ri140 : (-2147483648) ≤ ivh16 a0 15 ∧ ivh16 a0 15 ≤ 2147483647 := W22.int t_a0 15
          have ri141 : (-2147483648) ≤ ivh16 a0 16 ∧ ivh16 a0 16 ≤ 2147483647 := W22.int t_a0 16
          have ri142 : 0 ≤ ivh16 (sk 23) 2 ∧ ivh16 (sk 23) 2 ≤ 512 := W22.int tsk23 2
          have ie176 : ivh16 (sk 23) 2 = iv (sk 23) 2 := fl16.i tsk23 rfl 2
          have ri143 : 0 ≤ ivh16 (sk 22) 2 ∧ ivh16 (sk 22) 2 ≤ 30 := W22.int tsk22 2
          have ie177 : ivh16 (sk 22) 2 = iv (sk 22) 2 := fl16.i tsk22 rfl 2
          exact c_iret C dX11_table_37 rfl (by decide) (rom0 hph hph (by decide)) ⟨f16, rfl, hX0, F17, W22, ⟨by omega, by omega⟩, ⟨(by omega), mr17⟩, (by omega), (by omega), (by omega), (by omega), (by omega), (by omega), (Or.inl ⟨by omega, PSAME.fr hW hS fl16 rfl rfl rfl rfl rfl rfl rfl, (fun q => by obtain ⟨q1, -⟩ := q; omega)⟩), (Or.inl ⟨by omega, kp18⟩), rfl, rfl⟩
      · refine c_iload_n (j := 2) C dX11_table_15 rfl ?_
        refine c_bipush (z := 8) C dX11_table_16 (by decide) ?_
        refine c_icmp_ne (tgt := 31) C ⟨by omega, by omega⟩ ⟨by decide, by decide⟩ dX11_table_18 (by decide) (fun c8 => ?_) (fun c8 => ?_)
        · refine c_aload_n (j := 0) (x := a0) C dX11_table_31 rfl ?_
          refine c_bipush (z := 6) C dX11_table_32 (by decide) ?_
          refine d_callV (As := [.int (iI 6)]) (rest := []) C hM (C_refuse (a0 := a0) (x := 6) hW hS t_a0 ⟨by decide, by decide⟩ ) dX11_table_34 kV_X11_102 rfl t_a0 rfl rfl (by decide) ck_12 rfl (Nat.le_of_ble_eq_true rfl) ⟨(Nat.le_of_ble_eq_true rfl), (Nat.le_of_ble_eq_true rfl)⟩ hph hph (show 0 + 0 = 0 from rfl) (by decide) (fun rh17 Lh17 clh17 lnh17 ivh17 rvh17 h17 => ?_)
          obtain ⟨f17, rfl, rfl, rfl, rfl, rfl, fl17, W23, rgf17, exf17, kp11f17, kp12f17, kp13f17, kp14f17, kp15f17, kp16f17⟩ := h17
          have ri144 : 1 ≤ iv a0 11 ∧ iv a0 11 ≤ 100 := hW.int t_a0 11
          have ri145 : 1 ≤ iv a0 12 ∧ iv a0 12 ≤ 50 := hW.int t_a0 12
          have ri146 : (-2147483648) ≤ iv a0 13 ∧ iv a0 13 ≤ 2147483647 := hW.int t_a0 13
          have ri147 : (-2147483648) ≤ iv a0 14 ∧ iv a0 14 ≤ 2147483647 := hW.int t_a0 14
          have ri148 : (-2147483648) ≤ iv a0 15 ∧ iv a0 15 ≤ 2147483647 := hW.int t_a0 15
          have ri149 : (-2147483648) ≤ iv a0 16 ∧ iv a0 16 ≤ 2147483647 := hW.int t_a0 16
          have F18 := hF0.call hX0 fl17 rfl
          have mr18 := MRK.call hmr hW hS XT.refl fl17 rfl rfl
          have kp19 := kp1.call TX.refl hW fl17 rfl
          refine c_st (st2 := [.int (iI f17)]) rfl ?_
          have gk11f17 : ivh17 a0 11 = iv a0 11 := kp11f17
          have gk12f17 : ivh17 a0 12 = iv a0 12 := kp12f17
          have gk13f17 : ivh17 a0 13 = iv a0 13 := kp13f17
          have gk14f17 : ivh17 a0 14 = iv a0 14 := kp14f17
          have gk15f17 : ivh17 a0 15 = iv a0 15 := kp15f17
          have gk16f17 : ivh17 a0 16 = iv a0 16 := kp16f17
          have gf17 : f17 = -1 := exf17
          have ri150 : 1 ≤ ivh17 a0 11 ∧ ivh17 a0 11 ≤ 100 := W23.int t_a0 11
          have ri151 : 1 ≤ ivh17 a0 12 ∧ ivh17 a0 12 ≤ 50 := W23.int t_a0 12
          have ri152 : (-2147483648) ≤ ivh17 a0 13 ∧ ivh17 a0 13 ≤ 2147483647 := W23.int t_a0 13
          have ri153 : (-2147483648) ≤ ivh17 a0 14 ∧ ivh17 a0 14 ≤ 2147483647 := W23.int t_a0 14
          have ri154 : (-2147483648) ≤ ivh17 a0 15 ∧ ivh17 a0 15 ≤ 2147483647 := W23.int t_a0 15
          have ri155 : (-2147483648) ≤ ivh17 a0 16 ∧ ivh17 a0 16 ≤ 2147483647 := W23.int t_a0 16
          have ri156 : 0 ≤ ivh17 (sk 23) 2 ∧ ivh17 (sk 23) 2 ≤ 512 := W23.int tsk23 2
          have ie184 : ivh17 (sk 23) 2 = iv (sk 23) 2 := fl17.i tsk23 rfl 2
          have ri157 : 0 ≤ ivh17 (sk 22) 2 ∧ ivh17 (sk 22) 2 ≤ 30 := W23.int tsk22 2
          have ie185 : ivh17 (sk 22) 2 = iv (sk 22) 2 := fl17.i tsk22 rfl 2
          exact c_iret C dX11_table_37 rfl (by decide) (rom0 hph hph (by decide)) ⟨f17, rfl, hX0, F18, W23, ⟨by omega, by omega⟩, ⟨(by omega), mr18⟩, (by omega), (by omega), (by omega), (by omega), (by omega), (by omega), (Or.inl ⟨by omega, PSAME.fr hW hS fl17 rfl rfl rfl rfl rfl rfl rfl, (fun q => by obtain ⟨q1, -⟩ := q; omega)⟩), (Or.inl ⟨by omega, kp19⟩), rfl, rfl⟩
        · refine c_aload_n (j := 0) (x := a0) C dX11_table_21 rfl ?_
          obtain ⟨rb2, rq2, trb2⟩ := hW.ref t_a0 4 rfl rfl rfl
          have erb2 := hW.sk trb2 (by decide) rfl
          subst erb2
          refine c_getr (k := 4) C ck_12 dX11_table_22 w2_48 (by decide) t_a0 rfl rfl (by decide) rfl rq2 ?_
          refine c_st (st2 := [.ref (sk 13)]) rfl ?_
          have ri158 : 0 ≤ iv (sk 22) 2 ∧ iv (sk 22) 2 ≤ 30 := hW.int tsk22 2
          refine d_callV (As := []) (rest := []) C hM (C_isFull (a0 := (sk 13)) hW hS tsk13  ) dX11_table_25 kV_X11_118 rfl tsk13 rfl rfl (by decide) ck_11 rfl (Nat.le_of_ble_eq_true rfl) ⟨(Nat.le_of_ble_eq_true rfl), (Nat.le_of_ble_eq_true rfl)⟩ hph hph (show 0 + 0 = 0 from rfl) (by decide) (fun rh18 Lh18 clh18 lnh18 ivh18 rvh18 h18 => ?_)
          obtain ⟨f18, rfl, rfl, rfl, rfl, rfl, rfl, rgf18, exf18⟩ := h18
          refine c_st (st2 := [.int (iI f18)]) rfl ?_
          have gf18 : (f18 = 1 ∧ 30 ≤ iv (sk 22) 2) ∨ (f18 = 0 ∧ iv (sk 22) 2 < 30) := exf18
          refine c_if_eq (tgt := 38) C ⟨by omega, by omega⟩ dX11_table_28 (by decide) (fun c9 => ?_) (fun c9 => ?_)
          · refine c_iload_n (j := 1) C dX11_table_38 rfl ?_
            refine c_if_eq (tgt := 47) C ⟨by omega, by omega⟩ dX11_table_39 (by decide) (fun c10 => ?_) (fun c10 => ?_)
            · refine c_aload_n (j := 0) (x := a0) C dX11_table_47 rfl ?_
              refine c_aload_n (j := 0) (x := a0) C dX11_table_48 rfl ?_
              refine c_getr (k := 4) C ck_12 dX11_table_49 w2_48 (by decide) t_a0 rfl rfl (by decide) rfl rq2 ?_
              refine c_st (st2 := [.ref (sk 13), .ref a0]) rfl ?_
              refine c_new C ck_10 dv_10 ⟨rfl, rfl⟩ rfl (by decide) dX11_table_52 w2_162 w2_163 w1_16 (rom2 hph hph (by decide)) (fun qn4 cln4 lnn4 ivn4 rvn4 hqn4 hcn4 hln4 hin4 hrn4 => ⟨24, (p_in (Phi.new hW hS hqn4 (fun b _ => by rw [hln4]) hrn4) (by omega)), ?_⟩)
              refine c_g0 C (fun hg4 => ?_)
              have hxn4 : ∀ b, b ≠ qn4 → lnn4 b = ln b := (fun b _ => by rw [hln4])
              have W25 := hW.new (ln2 := lnn4) hqn4 (hg4 qn4 (List.mem_append_right _ List.mem_cons_self)) hcn4 hxn4 hin4 hrn4 (fun _ => ⟨(show (-2147483648 : Int) ≤ 0 by decide), (show (0 : Int) ≤ 2147483647 by decide)⟩) (Or.inl rfl) (fun q => by cases q) rfl rfl
              have xl22 := XT.new hqn4 hcn4 hxn4
              have X13 := hX0.trans xl22
              have sk13 := xl22.skl hS
              have F19 := hF0.new hX0 hqn4 hin4 hrn4
              have mr19 := MRK.call hmr hW hS xl22 ((fT.refl (ls := [])).new (XT.refl (ln := ln)) hqn4 hin4 hrn4) rfl rfl
              have tqn4 : ty (L ++ [qn4]) cln4 qn4 210 := ty_new hcn4
              have kp20 := kp1.new TX.refl hW hqn4 hin4 hrn4
              have h0qn4 : qn4 ∉ L := fun h => hqn4 ((hX0 qn4 h).1)
              refine c_dup C dX11_table_55 rfl ?_
              refine c_iload_n (j := 1) C dX11_table_56 rfl ?_
              refine c_iload_n (j := 2) C dX11_table_57 rfl ?_
              refine c_null C dX11_table_58 ?_
              refine c_null C dX11_table_59 ?_
              have pl10 := Phi.le W25 sk13
              refine c_callI (As := [.int (iI x), .int (iI y), .null, .null]) (rest := [.ref qn4, .ref (sk 13), .ref a0]) C hM (Z_table (a0 := qn4) (i := x) (n := y) (r := none) (r2 := none) W25 sk13 tqn4 (fun _ q => by cases q) (fun _ q => by cases q) (by omega) (by omega) ) dX11_table_60 kI_X11_124 rfl rfl (Nat.le_of_ble_eq_true rfl) ⟨(Nat.le_of_ble_eq_true rfl), (Nat.le_of_ble_eq_true rfl)⟩ (rz1 hph pl10 (by decide)) (fun rh19 Lh19 clh19 lnh19 ivh19 rvh19 h19 => ⟨114, (zk1 (by obtain ⟨_, xlh19x, flh19x, Wh19x, _⟩ := h19; exact Phi.fr W25 sk13 xlh19x flh19x rfl)), ?_⟩)
              obtain ⟨rfl, xl23, fl19, W26, exf19⟩ := h19
              have F20 := F19.call X13 fl19 rfl
              have mr20 := MRK.call mr19 W25 sk13 xl23 fl19 rfl rfl
              have tx13 := TX.xt TX.refl xl22
              have kp21 := kp20.call tx13 W25 fl19 rfl
              have ty146 := xl22.ty t_a0
              have ty147 := xl22.ty tsk2
              have ty148 := xl22.ty tsk3
              have ty149 := xl22.ty tsk4
              have ty150 := xl22.ty tsk5
              have ty151 := xl22.ty tsk13
              have ty152 := xl22.ty tsk14
              have ty153 := xl22.ty tsk15
              have ty154 := xl22.ty tsk16
              have ty155 := xl22.ty tsk17
              have ty156 := xl22.ty tsk22
              have ty157 := xl22.ty tsk23
              have X14 := X13.trans xl23
              have sk14 := xl23.skl sk13
              refine c_st (st2 := [.ref qn4, .ref (sk 13), .ref a0]) rfl ?_
              obtain ⟨b4exf19, b5exf19, b6exf19, exf19x, exf19r4, exf19t4, exf19r5, exf19t5, exf19r6, exf19t6, exf19r2, exf19r3, exf19i7, exf19i0, exf19i1, exf19nn, exf19zz, exf19n5, exf19n6, ⟨x5exf19, exf19rx, exf19tx, exf19nx⟩, exf19z5, exf19nn6⟩ := exf19
              have rn4 : ∀ k, ([2, 3, 4, 5, 6] : List Nat).contains k = false → rvh19 qn4 k = none := fun k hk => (Eq.trans (show rvh19 qn4 k = rvn4 qn4 k from (exf19x k hk)) (show rvn4 qn4 k = none from (by rw [hrn4]; exact up0_s)))
              have ty158 := xl23.ty ty156
              have ri159 : 0 ≤ ivh19 (sk 22) 2 ∧ ivh19 (sk 22) 2 ≤ 30 := W26.int ty158 2
              have ie186 : ivh19 (sk 22) 2 = ivn4 (sk 22) 2 := fl19.i ty156 rfl 2
              have ie187 : ivn4 (sk 22) 2 = iv (sk 22) 2 := by rw [hin4]; exact congrFun (up0_a (ne_in tsk22.1 hqn4)) _
              have ty159 := xl23.ty tqn4
              have btexf19 : bt (100 + (ivh19 (sk 22) 2).toNat) = 100 := bt_tab (by omega)
              refine c_retag (q := qn4) (t := (100 + (ivh19 (sk 22) 2).toNat)) (by rw [ty159.2, btexf19]; rfl) (fun clr4 hcr4 => ?_)
              have ty160 := xl23.ty ty146
              have ty161 := ty_rt ty160 hcr4 (ne_ty ty160 ty159 (by decide))
              have ty162 := xl23.ty ty147
              have ty163 := ty_rt ty162 hcr4 (ne_ty ty162 ty159 (by decide))
              have ty164 := xl23.ty ty148
              have ty165 := ty_rt ty164 hcr4 (ne_ty ty164 ty159 (by decide))
              have ty166 := xl23.ty ty149
              have ty167 := ty_rt ty166 hcr4 (ne_ty ty166 ty159 (by decide))
              have ty168 := xl23.ty ty150
              have ty169 := ty_rt ty168 hcr4 (ne_ty ty168 ty159 (by decide))
              have ty170 := xl23.ty ty151
              have ty171 := ty_rt ty170 hcr4 (ne_ty ty170 ty159 (by decide))
              have ty172 := xl23.ty ty152
              have ty173 := ty_rt ty172 hcr4 (ne_ty ty172 ty159 (by decide))
              have ty174 := xl23.ty ty153
              have ty175 := ty_rt ty174 hcr4 (ne_ty ty174 ty159 (by decide))
              have ty176 := xl23.ty ty154
              have ty177 := ty_rt ty176 hcr4 (ne_ty ty176 ty159 (by decide))
              have ty178 := xl23.ty ty155
              have ty179 := ty_rt ty178 hcr4 (ne_ty ty178 ty159 (by decide))
              have ty180 := ty_rt ty158 hcr4 (ne_ty ty158 ty159 (by decide))
              have ty181 := xl23.ty ty157
              have ty182 := ty_rt ty181 hcr4 (ne_ty ty181 ty159 (by decide))
              have ty183 := ty_rt exf19t4 hcr4 (ne_ty exf19t4 ty159 (by decide))
              have ty184 := ty_rt exf19t5 hcr4 (ne_ty exf19t5 ty159 (by decide))
              have ty185 := ty_rt exf19t6 hcr4 (ne_ty exf19t6 ty159 (by decide))
              have ty186 := ty_rt exf19tx hcr4 (ne_ty exf19tx ty159 (by decide))
              have tqr4 : ty Lh19 clr4 qn4 100 := ⟨ty159.1, by rw [hcr4, va_up_self]; exact btexf19⟩
              have W27 := W26.retag ty159.1 (by rw [ty159.2]; rfl) hcr4 (fun k => by
                    rcases k with _ | _ | _ | _ | _ | _ | _ | _ | k
                    · rw [btexf19]; exact W26.int ty159 0
                    · rw [btexf19]; exact W26.int ty159 1
                    · rw [btexf19]; exact W26.int ty159 2
                    · rw [btexf19]; exact W26.int ty159 3
                    · rw [btexf19]; exact W26.int ty159 4
                    · rw [btexf19]; exact W26.int ty159 5
                    · rw [btexf19]; exact W26.int ty159 6
                    · rw [btexf19]; exact ⟨(by show 0 ≤ ivh19 qn4 7; omega), (by show ivh19 qn4 7 ≤ 1; omega)⟩
                    · rw [btexf19]; exact W26.int ty159 (k + 8)) (fun k => by
                    rcases k with _ | _ | _ | _ | _ | _ | _ | _ | k
                    · rw [rn4 0 (by decide)]; exact rok_none tqr4 rfl
                    · rw [rn4 1 (by decide)]; exact rok_none tqr4 rfl
                    · rw [exf19r2]; exact rok_tab tqr4 (by decide) (fun _ q => by cases q)
                    · rw [exf19r3]; exact rok_tab tqr4 (by decide) (fun _ q => by cases q)
                    · rw [exf19r4]; exact rok_tb tqr4 ty183 (by decide) rfl
                    · rw [exf19r5]; exact rok_tb tqr4 ty184 (by decide) rfl
                    · rw [exf19r6]; exact rok_tb tqr4 ty185 (by decide) rfl
                    · rw [rn4 7 (by decide)]; exact rok_none tqr4 rfl
                    · rw [rn4 (k + 8) (by simp)]; exact rok_none tqr4 rfl) (by rw [btexf19]; rfl) (fun z => by rw [btexf19] at z; cases z) (fun z => by rw [btexf19] at z; cases z) uq_tab
              have X15 := X14.rt hcr4 h0qn4
              have sk15 := sk14.rt hcr4 (by rw [ty159.2]; rfl)
              have mr21 := MRK.rt mr20 W26 sk14 hcr4 (by rw [ty159.2]; rfl)
              have cqexf19 : clr4 qn4 = (100 + (ivh19 (sk 22) 2).toNat) := by rw [hcr4]; exact va_up_self _ _ _
              have tm4a : ∀ i : Nat, (i : Int) < iv (sk 22) 2 → el rvh19 (sk 22) i = el rv (sk 22) i := (fun i hi => el_ch hW (tysk22 hS) rfl rfl ((show ∀ bb, ty L cl bb 22 → rvh19 bb 1 = rv bb 1 from fun bb tbb => by have tb1 := xl22.ty tbb; exact (Eq.trans (show rvh19 bb 1 = rvn4 bb 1 from (fl19.r tb1 rfl 1)) (show rvn4 bb 1 = rv bb 1 from (by rw [hrn4]; exact congrFun (up0_a (ne_in tbb.1 hqn4)) _)))) (sk 22) (tysk22 hS)) (fun bb tbb kk => by have tb1 := xl22.ty tbb; exact (Eq.trans (show rvh19 bb kk = rvn4 bb kk from (fl19.r tb1 rfl kk)) (show rvn4 bb kk = rv bb kk from (by rw [hrn4]; exact congrFun (up0_a (ne_in tbb.1 hqn4)) _)))) hi)
              have tm4b : CS0 (iv (sk 23) 2) sk iv rv ivh19 rvh19 := CS0.of hW hS (Int.le_refl _) (fun i hi => el_ch hW (tysk23 hS) rfl rfl ((show ∀ bb, ty L cl bb 23 → rvh19 bb 1 = rv bb 1 from fun bb tbb => by have tb1 := xl22.ty tbb; exact (Eq.trans (show rvh19 bb 1 = rvn4 bb 1 from (fl19.r tb1 rfl 1)) (show rvn4 bb 1 = rv bb 1 from (by rw [hrn4]; exact congrFun (up0_a (ne_in tbb.1 hqn4)) _)))) (sk 23) (tysk23 hS)) (fun bb tbb kk => by have tb1 := xl22.ty tbb; exact (Eq.trans (show rvh19 bb kk = rvn4 bb kk from (fl19.r tb1 rfl kk)) (show rvn4 bb kk = rv bb kk from (by rw [hrn4]; exact congrFun (up0_a (ne_in tbb.1 hqn4)) _)))) hi) (fun bb tbb => by have tb1 := xl22.ty tbb; exact (Eq.trans (show ivh19 bb 0 = ivn4 bb 0 from (fl19.i tb1 rfl 0)) (show ivn4 bb 0 = iv bb 0 from (by rw [hin4]; exact congrFun (up0_a (ne_in tbb.1 hqn4)) _)))) (fun bb tbb => by have tb1 := xl22.ty tbb; exact (Eq.trans (show rvh19 bb 1 = rvn4 bb 1 from (fl19.r tb1 rfl 1)) (show rvn4 bb 1 = rv bb 1 from (by rw [hrn4]; exact congrFun (up0_a (ne_in tbb.1 hqn4)) _))))
              have ri160 : 0 ≤ ivh19 (sk 23) 2 ∧ ivh19 (sk 23) 2 ≤ 512 := W27.int ty182 2
              have ie188 : ivh19 (sk 23) 2 = ivn4 (sk 23) 2 := fl19.i ty157 rfl 2
              have ie189 : ivn4 (sk 23) 2 = iv (sk 23) 2 := by rw [hin4]; exact congrFun (up0_a (ne_in tsk23.1 hqn4)) _
              have pl11 := Phi.le W27 sk15
              refine d_callV (As := [.ref qn4]) (rest := [.ref a0]) C hM (C_make (a0 := (sk 13)) (a1 := qn4) W27 sk15 ty171 tqr4  mr21 (by show ivh19 (sk 22) 2 < 30 ∧ ivh19 (sk 23) 2 < 512 ∧ ((clr4 qn4 : Nat) : Int) ≤ 100 + ivh19 (sk 22) 2; omega)) dX11_table_63 kV_X11_127 rfl ty171 rfl rfl (by decide) ck_11 rfl (Nat.le_of_ble_eq_true rfl) ⟨(Nat.le_of_ble_eq_true rfl), (Nat.le_of_ble_eq_true rfl)⟩ hph pl11 (show 114 + 1320 = 1434 from rfl) (by decide) (fun rh20 Lh20 clh20 lnh20 ivh20 rvh20 h20 => ?_)
              obtain ⟨f20, rfl, xl24, fl20, W28, rgf20, exf20, mkef20⟩ := h20
              have F21 := F20.call X15 fl20 rfl
              have tx14 := TX.xt tx13 xl23
              have tx15 := TX.rt tx14 hcr4 ty159 rfl
              have kp22 := kp21.call tx15 W27 fl20 rfl
              have X16 := X15.trans xl24
              have sk16 := xl24.skl sk15
              refine c_st (st2 := [.int (iI f20), .ref a0]) rfl ?_
              have ty187 := xl24.ty ty180
              have ri161 : 0 ≤ ivh20 (sk 22) 2 ∧ ivh20 (sk 22) 2 ≤ 30 := W28.int ty187 2
              have ty188 := xl24.ty ty182
              have ri162 : 0 ≤ ivh20 (sk 23) 2 ∧ ivh20 (sk 23) 2 ≤ 512 := W28.int ty188 2
              have gf20 : f20 = ivh19 (sk 22) 2 ∧ ivh20 (sk 22) 2 = ivh19 (sk 22) 2 + 1 ∧ ivh20 (sk 23) 2 = ivh19 (sk 23) 2 + 1 ∧ MRK sk clh20 ivh20 rvh20 := exf20
              have ty189 := xl24.ty ty161
              have pl12 := Phi.le W28 sk16
              refine d_callV (As := [.int (iI f20)]) (rest := []) C hM (C_done (a0 := a0) (x := f20) W28 sk16 ty189 (by omega) ) dX11_table_66 kV_X11_109 rfl ty189 rfl rfl (by decide) ck_12 rfl (Nat.le_of_ble_eq_true rfl) ⟨(Nat.le_of_ble_eq_true rfl), (Nat.le_of_ble_eq_true rfl)⟩ hph pl12 (show 1434 + 0 = 1434 from rfl) (by decide) (fun rh21 Lh21 clh21 lnh21 ivh21 rvh21 h21 => ?_)
              obtain ⟨f21, rfl, rfl, rfl, rfl, rfl, fl21, W29, rgf21, exf21, kp11f21, kp12f21, kp13f21, kp14f21, kp15f21, kp16f21⟩ := h21
              have ri163 : 1 ≤ ivh20 a0 11 ∧ ivh20 a0 11 ≤ 100 := W28.int ty189 11
              have ie192 : ivh20 a0 11 = ivh19 a0 11 := fl20.i ty161 rfl 11
              have ie193 : ivh19 a0 11 = ivn4 a0 11 := fl19.i ty146 rfl 11
              have ie194 : ivn4 a0 11 = iv a0 11 := by rw [hin4]; exact congrFun (up0_a (ne_in t_a0.1 hqn4)) _
              have ri164 : 1 ≤ ivh20 a0 12 ∧ ivh20 a0 12 ≤ 50 := W28.int ty189 12
              have ie195 : ivh20 a0 12 = ivh19 a0 12 := fl20.i ty161 rfl 12
              have ie196 : ivh19 a0 12 = ivn4 a0 12 := fl19.i ty146 rfl 12
              have ie197 : ivn4 a0 12 = iv a0 12 := by rw [hin4]; exact congrFun (up0_a (ne_in t_a0.1 hqn4)) _
              have ri165 : (-2147483648) ≤ ivh20 a0 13 ∧ ivh20 a0 13 ≤ 2147483647 := W28.int ty189 13
              have ie198 : ivh20 a0 13 = ivh19 a0 13 := fl20.i ty161 rfl 13
              have ie199 : ivh19 a0 13 = ivn4 a0 13 := fl19.i ty146 rfl 13
              have ie200 : ivn4 a0 13 = iv a0 13 := by rw [hin4]; exact congrFun (up0_a (ne_in t_a0.1 hqn4)) _
              have ri166 : (-2147483648) ≤ ivh20 a0 14 ∧ ivh20 a0 14 ≤ 2147483647 := W28.int ty189 14
              have ie201 : ivh20 a0 14 = ivh19 a0 14 := fl20.i ty161 rfl 14
              have ie202 : ivh19 a0 14 = ivn4 a0 14 := fl19.i ty146 rfl 14
              have ie203 : ivn4 a0 14 = iv a0 14 := by rw [hin4]; exact congrFun (up0_a (ne_in t_a0.1 hqn4)) _
              have ri167 : (-2147483648) ≤ ivh20 a0 15 ∧ ivh20 a0 15 ≤ 2147483647 := W28.int ty189 15
              have ie204 : ivh20 a0 15 = ivh19 a0 15 := fl20.i ty161 rfl 15
              have ie205 : ivh19 a0 15 = ivn4 a0 15 := fl19.i ty146 rfl 15
              have ie206 : ivn4 a0 15 = iv a0 15 := by rw [hin4]; exact congrFun (up0_a (ne_in t_a0.1 hqn4)) _
              have ri168 : (-2147483648) ≤ ivh20 a0 16 ∧ ivh20 a0 16 ≤ 2147483647 := W28.int ty189 16
              have ie207 : ivh20 a0 16 = ivh19 a0 16 := fl20.i ty161 rfl 16
              have ie208 : ivh19 a0 16 = ivn4 a0 16 := fl19.i ty146 rfl 16
              have ie209 : ivn4 a0 16 = iv a0 16 := by rw [hin4]; exact congrFun (up0_a (ne_in t_a0.1 hqn4)) _
              have F22 := F21.call X16 fl21 rfl
              have mr22 := MRK.call exf20.2.2.2 W28 sk16 XT.refl fl21 rfl rfl
              have tx16 := TX.xt tx15 xl24
              have kp23 := kp22.call tx16 W28 fl21 rfl
              refine c_st (st2 := [.int (iI f21)]) rfl ?_
              have gk11f21 : ivh21 a0 11 = ivh20 a0 11 := kp11f21
              have gk12f21 : ivh21 a0 12 = ivh20 a0 12 := kp12f21
              have gk13f21 : ivh21 a0 13 = ivh20 a0 13 := kp13f21
              have gk14f21 : ivh21 a0 14 = ivh20 a0 14 := kp14f21
              have gk15f21 : ivh21 a0 15 = ivh20 a0 15 := kp15f21
              have gk16f21 : ivh21 a0 16 = ivh20 a0 16 := kp16f21
              have gf21 : f21 = f20 := exf21
              have ri169 : 1 ≤ ivh21 a0 11 ∧ ivh21 a0 11 ≤ 100 := W29.int ty189 11
              have ri170 : 1 ≤ ivh21 a0 12 ∧ ivh21 a0 12 ≤ 50 := W29.int ty189 12
              have ri171 : (-2147483648) ≤ ivh21 a0 13 ∧ ivh21 a0 13 ≤ 2147483647 := W29.int ty189 13
              have ri172 : (-2147483648) ≤ ivh21 a0 14 ∧ ivh21 a0 14 ≤ 2147483647 := W29.int ty189 14
              have ri173 : (-2147483648) ≤ ivh21 a0 15 ∧ ivh21 a0 15 ≤ 2147483647 := W29.int ty189 15
              have ri174 : (-2147483648) ≤ ivh21 a0 16 ∧ ivh21 a0 16 ≤ 2147483647 := W29.int ty189 16
              have ri175 : 0 ≤ ivh21 (sk 23) 2 ∧ ivh21 (sk 23) 2 ≤ 512 := W29.int ty188 2
              have ie216 : ivh21 (sk 23) 2 = ivh20 (sk 23) 2 := fl21.i ty188 rfl 2
              have ri176 : 0 ≤ ivh21 (sk 22) 2 ∧ ivh21 (sk 22) 2 ≤ 30 := W29.int ty187 2
              have ie217 : ivh21 (sk 22) 2 = ivh20 (sk 22) 2 := fl21.i ty187 rfl 2
              have ty190 := xl24.ty tqr4
              have ri177 : (-2147483648) ≤ ivh21 qn4 0 ∧ ivh21 qn4 0 ≤ 2147483647 := W29.int ty190 0
              have ie218 : ivh21 qn4 0 = ivh20 qn4 0 := fl21.i ty190 rfl 0
              have ie219 : ivh20 qn4 0 = ivh19 qn4 0 := fl20.i tqr4 rfl 0
              have ri178 : (-2147483648) ≤ ivh21 qn4 1 ∧ ivh21 qn4 1 ≤ 2147483647 := W29.int ty190 1
              have ie220 : ivh21 qn4 1 = ivh20 qn4 1 := fl21.i ty190 rfl 1
              have ie221 : ivh20 qn4 1 = ivh19 qn4 1 := fl20.i tqr4 rfl 1
              have ri179 : 0 ≤ ivh21 qn4 7 ∧ ivh21 qn4 7 ≤ 1 := W29.int ty190 7
              have ie222 : ivh21 qn4 7 = ivh20 qn4 7 := fl21.i ty190 rfl 7
              have ie223 : ivh20 qn4 7 = ivh19 qn4 7 := fl20.i tqr4 rfl 7
              have ty191 := xl24.ty ty183
              have ri180 : 0 ≤ ivh21 b4exf19 2 ∧ ivh21 b4exf19 2 ≤ 200 := W29.int ty191 2
              have ie224 : ivh21 b4exf19 2 = ivh20 b4exf19 2 := fl21.i ty191 rfl 2
              have ie225 : ivh20 b4exf19 2 = ivh19 b4exf19 2 := fl20.i ty183 rfl 2
              have re19 : rvh20 qn4 4 = rvh19 qn4 4 := (fl20.r tqr4 rfl 4)
              rw [exf19r4] at re19
              have re20 : rvh20 qn4 5 = rvh19 qn4 5 := (fl20.r tqr4 rfl 5)
              rw [exf19r5] at re20
              have re21 : rvh20 qn4 6 = rvh19 qn4 6 := (fl20.r tqr4 rfl 6)
              rw [exf19r6] at re21
              have ty192 := xl24.ty ty184
              have ri181 : 0 ≤ ivh21 b5exf19 2 ∧ ivh21 b5exf19 2 ≤ 200 := W29.int ty192 2
              have ie227 : ivh21 b5exf19 2 = ivh20 b5exf19 2 := fl21.i ty192 rfl 2
              have ie228 : ivh20 b5exf19 2 = ivh19 b5exf19 2 := fl20.i ty184 rfl 2
              have re22 : rvh20 qn4 2 = rvh19 qn4 2 := (fl20.r tqr4 rfl 2)
              rw [exf19r2] at re22
              have re23 : rvh20 qn4 3 = rvh19 qn4 3 := (fl20.r tqr4 rfl 3)
              rw [exf19r3] at re23
              have re24 : rvh20 b5exf19 1 = rvh19 b5exf19 1 := (fl20.r ty184 rfl 1)
              rw [exf19rx] at re24
              exact c_iret C dX11_table_69 rfl (by decide) (rom0 hph pl12 (by decide)) ⟨f21, rfl, X16, F22, W29, ⟨by omega, by omega⟩, ⟨(by omega), mr22⟩, (by omega), (by omega), (by omega), (by omega), (by omega), (by omega), (Or.inr ⟨by omega, ⟨⟨by omega, by omega, by omega, by omega⟩, (by first | exact Or.inl (by omega) | exact Or.inr (Or.inl (by omega)))⟩, ⟨qn4, b4exf19, (by rw [show (iv (sk 22) 2).toNat = (ivh19 (sk 22) 2).toNat from congrArg Int.toNat (by omega)]; exact mkef20.1), (by omega), (by omega), (by omega), re19, (by omega), (fun i t hi ht e => by
                  obtain ⟨b9, w1, w2⟩ := hW.ref (el22 hW hS hi ht) 4 rfl rfl rfl
                  rw [w1] at e
                  cases e
                  exact exf19nn (X13 _ w2.1).1), (by omega), ⟨(fun i hi => (mkef20.2.1 i (by omega)).trans (tm4a i hi)), TSF.of hW hS (fun bb tbb hbb => by have tb1 := xl22.ty tbb; have tb2 := xl23.ty tb1; have tb3 := ty_rt tb2 hcr4 (ne_ty tb2 ty159 (by decide)); have tb4 := xl24.ty tb3; exact (Eq.trans (show ivh21 bb 7 = ivh20 bb 7 from (fl21.i tb4 rfl 7)) (Eq.trans (show ivh20 bb 7 = ivh19 bb 7 from (fl20.i tb3 rfl 7)) (Eq.trans (show ivh19 bb 7 = ivn4 bb 7 from (fl19.i tb1 rfl 7)) (show ivn4 bb 7 = iv bb 7 from (by rw [hin4]; exact congrFun (up0_a (ne_in tbb.1 hqn4)) _)))))) (fun bb tbb => by have tb1 := xl22.ty tbb; have tb2 := xl23.ty tb1; have tb3 := ty_rt tb2 hcr4 (ne_ty tb2 ty159 (by decide)); have tb4 := xl24.ty tb3; exact (Eq.trans (show ivh21 bb 0 = ivh20 bb 0 from (fl21.i tb4 rfl 0)) (Eq.trans (show ivh20 bb 0 = ivh19 bb 0 from (fl20.i tb3 rfl 0)) (Eq.trans (show ivh19 bb 0 = ivn4 bb 0 from (fl19.i tb1 rfl 0)) (show ivn4 bb 0 = iv bb 0 from (by rw [hin4]; exact congrFun (up0_a (ne_in tbb.1 hqn4)) _)))))) (fun bb tbb => by have tb1 := xl22.ty tbb; have tb2 := xl23.ty tb1; have tb3 := ty_rt tb2 hcr4 (ne_ty tb2 ty159 (by decide)); have tb4 := xl24.ty tb3; exact (Eq.trans (show ivh21 bb 1 = ivh20 bb 1 from (fl21.i tb4 rfl 1)) (Eq.trans (show ivh20 bb 1 = ivh19 bb 1 from (fl20.i tb3 rfl 1)) (Eq.trans (show ivh19 bb 1 = ivn4 bb 1 from (fl19.i tb1 rfl 1)) (show ivn4 bb 1 = iv bb 1 from (by rw [hin4]; exact congrFun (up0_a (ne_in tbb.1 hqn4)) _)))))) (fun bb tbb => by have tb1 := xl22.ty tbb; have tb2 := xl23.ty tb1; have tb3 := ty_rt tb2 hcr4 (ne_ty tb2 ty159 (by decide)); exact (Eq.trans (show rvh20 bb 4 = rvh19 bb 4 from (fl20.r tb3 rfl 4)) (Eq.trans (show rvh19 bb 4 = rvn4 bb 4 from (fl19.r tb1 rfl 4)) (show rvn4 bb 4 = rv bb 4 from (by rw [hrn4]; exact congrFun (up0_a (ne_in tbb.1 hqn4)) _))))), TSQ.of hW hS (fun bb tbb hbb => by have tb1 := xl22.ty tbb; have tb2 := xl23.ty tb1; have tb3 := ty_rt tb2 hcr4 (ne_ty tb2 ty159 (by decide)); have tb4 := xl24.ty tb3; exact (Eq.trans (show ivh21 bb 2 = ivh20 bb 2 from (fl21.i tb4 rfl 2)) (Eq.trans (show ivh20 bb 2 = ivh19 bb 2 from (fl20.i tb3 rfl 2)) (Eq.trans (show ivh19 bb 2 = ivn4 bb 2 from (fl19.i tb1 rfl 2)) (show ivn4 bb 2 = iv bb 2 from (by rw [hin4]; exact congrFun (up0_a (ne_in tbb.1 hqn4)) _))))))⟩, ((mkef20.2.2.pre (by omega) tm4b).after (by omega) (PSAME.fr W28 sk16 fl21 rfl rfl rfl rfl rfl rfl rfl))⟩⟩), (Or.inr ⟨by omega, kp23, none, Or.inl ⟨by omega, rfl⟩, ⟨qn4, b4exf19, b5exf19, x5exf19, b6exf19, (by rw [show (iv (sk 22) 2).toNat = (ivh19 (sk 22) 2).toNat from congrArg Int.toNat (by omega)]; exact mkef20.1), ⟨(fun hm => hqn4 (hX0 _ hm).1), (fun hm => exf19nn (X13 _ hm).1), (fun hm => exf19n5 (X13 _ hm).1), (fun hm => exf19nx (X13 _ hm).1), (fun hm => exf19n6 (X13 _ hm).1)⟩, ⟨re22, re23, re19, re20, re21, re24⟩, (by omega), (fun kk => Eq.trans ((show ∀ bb, ty Lh19 clh19 bb 68 → rvh20 bb kk = rvh19 bb kk from fun bb tbb => by have tb3 := ty_rt tbb hcr4 (ne_ty tbb ty159 (by decide)); exact (show rvh20 bb kk = rvh19 bb kk from (fl20.r tb3 rfl kk))) b6exf19 exf19t6) (exf19nn6 kk))⟩⟩), (Eq.trans (show rvh20 a0 9 = rvh19 a0 9 from (fl20.r ty161 rfl 9)) (Eq.trans (show rvh19 a0 9 = rvn4 a0 9 from (fl19.r ty146 rfl 9)) (show rvn4 a0 9 = rv a0 9 from (by rw [hrn4]; exact congrFun (up0_a (ne_in t_a0.1 hqn4)) _)))), (Eq.trans (show rvh20 a0 10 = rvh19 a0 10 from (fl20.r ty161 rfl 10)) (Eq.trans (show rvh19 a0 10 = rvn4 a0 10 from (fl19.r ty146 rfl 10)) (show rvn4 a0 10 = rv a0 10 from (by rw [hrn4]; exact congrFun (up0_a (ne_in t_a0.1 hqn4)) _))))⟩
            · refine c_iload_n (j := 1) C dX11_table_42 rfl ?_
              refine c_iconst C dX11_table_43 ?_
              refine c_icmp_ne (tgt := 70) C ⟨by omega, by omega⟩ ⟨by decide, by decide⟩ dX11_table_44 (by decide) (fun c11 => ?_) (fun c11 => ?_)
              · refine c_aload_n (j := 0) (x := a0) C dX11_table_70 rfl ?_
                refine c_getr (k := 4) C ck_12 dX11_table_71 w2_48 (by decide) t_a0 rfl rfl (by decide) rfl rq2 ?_
                refine c_st (st2 := [.ref (sk 13)]) rfl ?_
                refine c_iload_n (j := 3) C dX11_table_74 rfl ?_
                refine d_callV (As := [.int (iI i)]) (rest := []) C hM (C_alive (a0 := (sk 13)) (i := i) hW hS tsk13 (by omega) hmr) dX11_table_75 kV_X11_131 rfl tsk13 rfl rfl (by decide) ck_11 rfl (Nat.le_of_ble_eq_true rfl) ⟨(Nat.le_of_ble_eq_true rfl), (Nat.le_of_ble_eq_true rfl)⟩ hph hph (show 0 + 0 = 0 from rfl) (by decide) (fun rh22 Lh22 clh22 lnh22 ivh22 rvh22 h22 => ?_)
                obtain ⟨f22, rfl, rfl, rfl, rfl, rfl, rfl, rgf22, exf22⟩ := h22
                refine c_st (st2 := [(va_rf f22)]) rfl ?_
                have gf22 : (∀ b, f22 = some b → ((cl b : Nat) : Int) < 100 + iv (sk 22) 2 ∧ ALV sk iv rv i b) ∧ (f22 = none → ∀ b, ¬ ALV sk iv rv i b) := exf22
                refine c_astorer (r := f22) (lv2 := [(4, (va_rf f22)), (0, .ref a0), (1, .int (iI x)), (2, .int (iI y)), (3, .int (iI i))]) C dX11_table_78 (by decide) rfl ?_
                refine c_aloadr (j := 0) (r := f22) C dX11_table_80 rfl ?_
                refine c_ifnull (r := f22) (tgt := 94) C dX11_table_82 (by decide) (fun oq2 => ?_) (fun ob2 oq2 => ?_)
                · subst oq2
                  refine c_lv (lv2 := [(4, .null), (0, .ref a0), (1, .int (iI x)), (2, .int (iI y)), (3, .int (iI i))]) [0, 1, 2, 3, 4] rfl ?_
                  refine c_st (st2 := []) rfl ?_
                  refine c_aload_n (j := 1) (x := a0) C dX11_table_94 rfl ?_
                  refine c_aloadr (j := 0) (r := none) C dX11_table_95 rfl ?_
                  refine c_st (st2 := [.null, .ref a0]) rfl ?_
                  refine c_ifnonnull (r := none) (tgt := 104) C dX11_table_97 (by decide) (fun _ q => by cases q) (fun _ => ?_)
                  refine c_iconst C dX11_table_100 ?_
                  refine c_goto (tgt := 105) C dX11_table_101 (by decide) ?_
                  refine d_callV (As := [.int (iI 3)]) (rest := []) C hM (C_refuse (a0 := a0) (x := 3) hW hS t_a0 ⟨by decide, by decide⟩ ) dX11_table_105 kV_X11_102 rfl t_a0 rfl rfl (by decide) ck_12 rfl (Nat.le_of_ble_eq_true rfl) ⟨(Nat.le_of_ble_eq_true rfl), (Nat.le_of_ble_eq_true rfl)⟩ hph hph (show 0 + 0 = 0 from rfl) (by decide) (fun rh23 Lh23 clh23 lnh23 ivh23 rvh23 h23 => ?_)
                  obtain ⟨f23, rfl, rfl, rfl, rfl, rfl, fl23, W31, rgf23, exf23, kp11f23, kp12f23, kp13f23, kp14f23, kp15f23, kp16f23⟩ := h23
                  have ri182 : 1 ≤ iv a0 11 ∧ iv a0 11 ≤ 100 := hW.int t_a0 11
                  have ri183 : 1 ≤ iv a0 12 ∧ iv a0 12 ≤ 50 := hW.int t_a0 12
                  have ri184 : (-2147483648) ≤ iv a0 13 ∧ iv a0 13 ≤ 2147483647 := hW.int t_a0 13
                  have ri185 : (-2147483648) ≤ iv a0 14 ∧ iv a0 14 ≤ 2147483647 := hW.int t_a0 14
                  have ri186 : (-2147483648) ≤ iv a0 15 ∧ iv a0 15 ≤ 2147483647 := hW.int t_a0 15
                  have ri187 : (-2147483648) ≤ iv a0 16 ∧ iv a0 16 ≤ 2147483647 := hW.int t_a0 16
                  have F23 := hF0.call hX0 fl23 rfl
                  have mr23 := MRK.call hmr hW hS XT.refl fl23 rfl rfl
                  have kp24 := kp1.call TX.refl hW fl23 rfl
                  refine c_st (st2 := [.int (iI f23)]) rfl ?_
                  have gk11f23 : ivh23 a0 11 = iv a0 11 := kp11f23
                  have gk12f23 : ivh23 a0 12 = iv a0 12 := kp12f23
                  have gk13f23 : ivh23 a0 13 = iv a0 13 := kp13f23
                  have gk14f23 : ivh23 a0 14 = iv a0 14 := kp14f23
                  have gk15f23 : ivh23 a0 15 = iv a0 15 := kp15f23
                  have gk16f23 : ivh23 a0 16 = iv a0 16 := kp16f23
                  have gf23 : f23 = -1 := exf23
                  have ri188 : 1 ≤ ivh23 a0 11 ∧ ivh23 a0 11 ≤ 100 := W31.int t_a0 11
                  have ri189 : 1 ≤ ivh23 a0 12 ∧ ivh23 a0 12 ≤ 50 := W31.int t_a0 12
                  have ri190 : (-2147483648) ≤ ivh23 a0 13 ∧ ivh23 a0 13 ≤ 2147483647 := W31.int t_a0 13
                  have ri191 : (-2147483648) ≤ ivh23 a0 14 ∧ ivh23 a0 14 ≤ 2147483647 := W31.int t_a0 14
                  have ri192 : (-2147483648) ≤ ivh23 a0 15 ∧ ivh23 a0 15 ≤ 2147483647 := W31.int t_a0 15
                  have ri193 : (-2147483648) ≤ ivh23 a0 16 ∧ ivh23 a0 16 ≤ 2147483647 := W31.int t_a0 16
                  have ri194 : 0 ≤ ivh23 (sk 23) 2 ∧ ivh23 (sk 23) 2 ≤ 512 := W31.int tsk23 2
                  have ie236 : ivh23 (sk 23) 2 = iv (sk 23) 2 := fl23.i tsk23 rfl 2
                  have ri195 : 0 ≤ ivh23 (sk 22) 2 ∧ ivh23 (sk 22) 2 ≤ 30 := W31.int tsk22 2
                  have ie237 : ivh23 (sk 22) 2 = iv (sk 22) 2 := fl23.i tsk22 rfl 2
                  exact c_iret C dX11_table_108 rfl (by decide) (rom0 hph hph (by decide)) ⟨f23, rfl, hX0, F23, W31, ⟨by omega, by omega⟩, ⟨(by omega), mr23⟩, (by omega), (by omega), (by omega), (by omega), (by omega), (by omega), (Or.inl ⟨by omega, PSAME.fr hW hS fl23 rfl rfl rfl rfl rfl rfl rfl, (fun q => by
                      rcases q.2 with h | h | ⟨t, h1, h2⟩
                      · omega
                      · omega
                      · exact gf22.2 rfl t h1)⟩), (Or.inl ⟨by omega, kp24⟩), rfl, rfl⟩
                · subst oq2
                  have tob2 := rgf22 ob2 rfl
                  have akob2 := gf22.1 ob2 rfl
                  refine c_lv (lv2 := [(4, .ref ob2), (0, .ref a0), (1, .int (iI x)), (2, .int (iI y)), (3, .int (iI i))]) [0, 1, 2, 3, 4] rfl ?_
                  refine c_st (st2 := []) rfl ?_
                  refine c_aload (j := 0) (x := ob2) C dX11_table_85 rfl ?_
                  have ri196 : (-2147483648) ≤ iv ob2 0 ∧ iv ob2 0 ≤ 2147483647 := hW.int tob2 0
                  refine c_get (k := 0) C ck_10 dX11_table_87 w2_176 (by decide) tob2 rfl rfl (by decide) rfl ?_
                  refine c_iconst C dX11_table_90 ?_
                  refine c_icmp_le (tgt := 109) C ⟨by omega, by omega⟩ ⟨by decide, by decide⟩ dX11_table_91 (by decide) (fun c12 => ?_) (fun c12 => ?_)
                  · refine c_aload_n (j := 1) (x := a0) C dX11_table_109 rfl ?_
                    refine c_aload_n (j := 1) (x := a0) C dX11_table_110 rfl ?_
                    refine c_getr (k := 4) C ck_12 dX11_table_111 w2_48 (by decide) t_a0 rfl rfl (by decide) rfl rq2 ?_
                    refine c_st (st2 := [.ref (sk 13), .ref a0]) rfl ?_
                    refine c_new C ck_10 dv_10 ⟨rfl, rfl⟩ rfl (by decide) dX11_table_114 w2_162 w2_163 w1_16 (rom2 hph hph (by decide)) (fun qn5 cln5 lnn5 ivn5 rvn5 hqn5 hcn5 hln5 hin5 hrn5 => ⟨24, (p_in (Phi.new hW hS hqn5 (fun b _ => by rw [hln5]) hrn5) (by omega)), ?_⟩)
                    refine c_g0 C (fun hg5 => ?_)
                    have hxn5 : ∀ b, b ≠ qn5 → lnn5 b = ln b := (fun b _ => by rw [hln5])
                    have W32 := hW.new (ln2 := lnn5) hqn5 (hg5 qn5 (List.mem_append_right _ List.mem_cons_self)) hcn5 hxn5 hin5 hrn5 (fun _ => ⟨(show (-2147483648 : Int) ≤ 0 by decide), (show (0 : Int) ≤ 2147483647 by decide)⟩) (Or.inl rfl) (fun q => by cases q) rfl rfl
                    have xl28 := XT.new hqn5 hcn5 hxn5
                    have X17 := hX0.trans xl28
                    have sk17 := xl28.skl hS
                    have F24 := hF0.new hX0 hqn5 hin5 hrn5
                    have mr24 := MRK.call hmr hW hS xl28 ((fT.refl (ls := [])).new (XT.refl (ln := ln)) hqn5 hin5 hrn5) rfl rfl
                    have tqn5 : ty (L ++ [qn5]) cln5 qn5 210 := ty_new hcn5
                    have kp25 := kp1.new TX.refl hW hqn5 hin5 hrn5
                    have h0qn5 : qn5 ∉ L := fun h => hqn5 ((hX0 qn5 h).1)
                    refine c_dup C dX11_table_117 rfl ?_
                    refine c_iload_n (j := 2) C dX11_table_118 rfl ?_
                    refine c_iload_n (j := 3) C dX11_table_119 rfl ?_
                    refine c_aload (j := 0) (x := ob2) C dX11_table_120 rfl ?_
                    refine c_null C dX11_table_122 ?_
                    have ty193 := xl28.ty tob2
                    have pl13 := Phi.le W32 sk17
                    refine c_callI (As := [.int (iI x), .int (iI y), .ref ob2, .null]) (rest := [.ref qn5, .ref (sk 13), .ref a0]) C hM (Z_table (a0 := qn5) (i := x) (n := y) (r := (some ob2)) (r2 := none) W32 sk17 tqn5 (fun _ q => by cases q; exact ty193) (fun _ q => by cases q) (by omega) (by omega) ) dX11_table_123 kI_X11_124 rfl rfl (Nat.le_of_ble_eq_true rfl) ⟨(Nat.le_of_ble_eq_true rfl), (Nat.le_of_ble_eq_true rfl)⟩ (rz1 hph pl13 (by decide)) (fun rh24 Lh24 clh24 lnh24 ivh24 rvh24 h24 => ⟨114, (zk1 (by obtain ⟨_, xlh24x, flh24x, Wh24x, _⟩ := h24; exact Phi.fr W32 sk17 xlh24x flh24x rfl)), ?_⟩)
                    obtain ⟨rfl, xl29, fl24, W33, exf24⟩ := h24
                    have F25 := F24.call X17 fl24 rfl
                    have mr25 := MRK.call mr24 W32 sk17 xl29 fl24 rfl rfl
                    have tx17 := TX.xt TX.refl xl28
                    have kp26 := kp25.call tx17 W32 fl24 rfl
                    have ty194 := xl28.ty t_a0
                    have ty195 := xl28.ty tsk2
                    have ty196 := xl28.ty tsk3
                    have ty197 := xl28.ty tsk4
                    have ty198 := xl28.ty tsk5
                    have ty199 := xl28.ty tsk13
                    have ty200 := xl28.ty tsk14
                    have ty201 := xl28.ty tsk15
                    have ty202 := xl28.ty tsk16
                    have ty203 := xl28.ty tsk17
                    have ty204 := xl28.ty tsk22
                    have ty205 := xl28.ty tsk23
                    have X18 := X17.trans xl29
                    have sk18 := xl29.skl sk17
                    refine c_st (st2 := [.ref qn5, .ref (sk 13), .ref a0]) rfl ?_
                    obtain ⟨b4exf24, b5exf24, b6exf24, exf24x, exf24r4, exf24t4, exf24r5, exf24t5, exf24r6, exf24t6, exf24r2, exf24r3, exf24i7, exf24i0, exf24i1, exf24nn, exf24zz, exf24n5, exf24n6, ⟨x5exf24, exf24rx, exf24tx, exf24nx⟩, exf24z5, exf24nn6⟩ := exf24
                    have rn5 : ∀ k, ([2, 3, 4, 5, 6] : List Nat).contains k = false → rvh24 qn5 k = none := fun k hk => (Eq.trans (show rvh24 qn5 k = rvn5 qn5 k from (exf24x k hk)) (show rvn5 qn5 k = none from (by rw [hrn5]; exact up0_s)))
                    have ty206 := xl29.ty ty204
                    have ri197 : 0 ≤ ivh24 (sk 22) 2 ∧ ivh24 (sk 22) 2 ≤ 30 := W33.int ty206 2
                    have ie238 : ivh24 (sk 22) 2 = ivn5 (sk 22) 2 := fl24.i ty204 rfl 2
                    have ie239 : ivn5 (sk 22) 2 = iv (sk 22) 2 := by rw [hin5]; exact congrFun (up0_a (ne_in tsk22.1 hqn5)) _
                    have ty207 := xl29.ty ty193
                    have ce3 : cln5 ob2 = cl ob2 := (xl28 ob2 tob2.1).2.1
                    have ce4 : clh24 ob2 = cln5 ob2 := (xl29 ob2 ty193.1).2.1
                    have ty208 := xl29.ty tqn5
                    have btexf24 : bt (100 + (ivh24 (sk 22) 2).toNat) = 100 := bt_tab (by omega)
                    refine c_retag (q := qn5) (t := (100 + (ivh24 (sk 22) 2).toNat)) (by rw [ty208.2, btexf24]; rfl) (fun clr5 hcr5 => ?_)
                    have ty209 := xl29.ty ty194
                    have ty210 := ty_rt ty209 hcr5 (ne_ty ty209 ty208 (by decide))
                    have ty211 := xl29.ty ty195
                    have ty212 := ty_rt ty211 hcr5 (ne_ty ty211 ty208 (by decide))
                    have ty213 := xl29.ty ty196
                    have ty214 := ty_rt ty213 hcr5 (ne_ty ty213 ty208 (by decide))
                    have ty215 := xl29.ty ty197
                    have ty216 := ty_rt ty215 hcr5 (ne_ty ty215 ty208 (by decide))
                    have ty217 := xl29.ty ty198
                    have ty218 := ty_rt ty217 hcr5 (ne_ty ty217 ty208 (by decide))
                    have ty219 := xl29.ty ty199
                    have ty220 := ty_rt ty219 hcr5 (ne_ty ty219 ty208 (by decide))
                    have ty221 := xl29.ty ty200
                    have ty222 := ty_rt ty221 hcr5 (ne_ty ty221 ty208 (by decide))
                    have ty223 := xl29.ty ty201
                    have ty224 := ty_rt ty223 hcr5 (ne_ty ty223 ty208 (by decide))
                    have ty225 := xl29.ty ty202
                    have ty226 := ty_rt ty225 hcr5 (ne_ty ty225 ty208 (by decide))
                    have ty227 := xl29.ty ty203
                    have ty228 := ty_rt ty227 hcr5 (ne_ty ty227 ty208 (by decide))
                    have ty229 := ty_rt ty206 hcr5 (ne_ty ty206 ty208 (by decide))
                    have ty230 := xl29.ty ty205
                    have ty231 := ty_rt ty230 hcr5 (ne_ty ty230 ty208 (by decide))
                    have ty232 := ty_rt ty207 hcr5 (ne_ty ty207 ty208 (by decide))
                    have ty233 := ty_rt exf24t4 hcr5 (ne_ty exf24t4 ty208 (by decide))
                    have ty234 := ty_rt exf24t5 hcr5 (ne_ty exf24t5 ty208 (by decide))
                    have ty235 := ty_rt exf24t6 hcr5 (ne_ty exf24t6 ty208 (by decide))
                    have ty236 := ty_rt exf24tx hcr5 (ne_ty exf24tx ty208 (by decide))
                    have tqr5 : ty Lh24 clr5 qn5 100 := ⟨ty208.1, by rw [hcr5, va_up_self]; exact btexf24⟩
                    have W34 := W33.retag ty208.1 (by rw [ty208.2]; rfl) hcr5 (fun k => by
                          rcases k with _ | _ | _ | _ | _ | _ | _ | _ | k
                          · rw [btexf24]; exact W33.int ty208 0
                          · rw [btexf24]; exact W33.int ty208 1
                          · rw [btexf24]; exact W33.int ty208 2
                          · rw [btexf24]; exact W33.int ty208 3
                          · rw [btexf24]; exact W33.int ty208 4
                          · rw [btexf24]; exact W33.int ty208 5
                          · rw [btexf24]; exact W33.int ty208 6
                          · rw [btexf24]; exact ⟨(by show 0 ≤ ivh24 qn5 7; omega), (by show ivh24 qn5 7 ≤ 1; omega)⟩
                          · rw [btexf24]; exact W33.int ty208 (k + 8)) (fun k => by
                          rcases k with _ | _ | _ | _ | _ | _ | _ | _ | k
                          · rw [rn5 0 (by decide)]; exact rok_none tqr5 rfl
                          · rw [rn5 1 (by decide)]; exact rok_none tqr5 rfl
                          · rw [exf24r2]; exact rok_tab tqr5 (by decide) (fun _ q => by cases q; exact ⟨ty232, by rw [hcr5, va_up_self, va_up_ne _ _ (ne_ty ty207 ty208 (by decide))]; omega⟩)
                          · rw [exf24r3]; exact rok_tab tqr5 (by decide) (fun _ q => by cases q)
                          · rw [exf24r4]; exact rok_tb tqr5 ty233 (by decide) rfl
                          · rw [exf24r5]; exact rok_tb tqr5 ty234 (by decide) rfl
                          · rw [exf24r6]; exact rok_tb tqr5 ty235 (by decide) rfl
                          · rw [rn5 7 (by decide)]; exact rok_none tqr5 rfl
                          · rw [rn5 (k + 8) (by simp)]; exact rok_none tqr5 rfl) (by rw [btexf24]; rfl) (fun z => by rw [btexf24] at z; cases z) (fun z => by rw [btexf24] at z; cases z) uq_tab
                    have X19 := X18.rt hcr5 h0qn5
                    have sk19 := sk18.rt hcr5 (by rw [ty208.2]; rfl)
                    have mr26 := MRK.rt mr25 W33 sk18 hcr5 (by rw [ty208.2]; rfl)
                    have on4 := fun b hb => xl28.ty (rgf22 b hb)
                    have on5 := fun b hb => xl29.ty (on4 b hb)
                    have on6 := fun b hb => ty_rt (on5 b hb) hcr5 (ne_ty (on5 b hb) ty208 (by decide))
                    have cqexf24 : clr5 qn5 = (100 + (ivh24 (sk 22) 2).toNat) := by rw [hcr5]; exact va_up_self _ _ _
                    have tm5a : ∀ i : Nat, (i : Int) < iv (sk 22) 2 → el rvh24 (sk 22) i = el rv (sk 22) i := (fun i hi => el_ch hW (tysk22 hS) rfl rfl ((show ∀ bb, ty L cl bb 22 → rvh24 bb 1 = rv bb 1 from fun bb tbb => by have tb1 := xl28.ty tbb; exact (Eq.trans (show rvh24 bb 1 = rvn5 bb 1 from (fl24.r tb1 rfl 1)) (show rvn5 bb 1 = rv bb 1 from (by rw [hrn5]; exact congrFun (up0_a (ne_in tbb.1 hqn5)) _)))) (sk 22) (tysk22 hS)) (fun bb tbb kk => by have tb1 := xl28.ty tbb; exact (Eq.trans (show rvh24 bb kk = rvn5 bb kk from (fl24.r tb1 rfl kk)) (show rvn5 bb kk = rv bb kk from (by rw [hrn5]; exact congrFun (up0_a (ne_in tbb.1 hqn5)) _)))) hi)
                    have tm5b : CS0 (iv (sk 23) 2) sk iv rv ivh24 rvh24 := CS0.of hW hS (Int.le_refl _) (fun i hi => el_ch hW (tysk23 hS) rfl rfl ((show ∀ bb, ty L cl bb 23 → rvh24 bb 1 = rv bb 1 from fun bb tbb => by have tb1 := xl28.ty tbb; exact (Eq.trans (show rvh24 bb 1 = rvn5 bb 1 from (fl24.r tb1 rfl 1)) (show rvn5 bb 1 = rv bb 1 from (by rw [hrn5]; exact congrFun (up0_a (ne_in tbb.1 hqn5)) _)))) (sk 23) (tysk23 hS)) (fun bb tbb kk => by have tb1 := xl28.ty tbb; exact (Eq.trans (show rvh24 bb kk = rvn5 bb kk from (fl24.r tb1 rfl kk)) (show rvn5 bb kk = rv bb kk from (by rw [hrn5]; exact congrFun (up0_a (ne_in tbb.1 hqn5)) _)))) hi) (fun bb tbb => by have tb1 := xl28.ty tbb; exact (Eq.trans (show ivh24 bb 0 = ivn5 bb 0 from (fl24.i tb1 rfl 0)) (show ivn5 bb 0 = iv bb 0 from (by rw [hin5]; exact congrFun (up0_a (ne_in tbb.1 hqn5)) _)))) (fun bb tbb => by have tb1 := xl28.ty tbb; exact (Eq.trans (show rvh24 bb 1 = rvn5 bb 1 from (fl24.r tb1 rfl 1)) (show rvn5 bb 1 = rv bb 1 from (by rw [hrn5]; exact congrFun (up0_a (ne_in tbb.1 hqn5)) _))))
                    have ri198 : 0 ≤ ivh24 (sk 23) 2 ∧ ivh24 (sk 23) 2 ≤ 512 := W34.int ty231 2
                    have ie240 : ivh24 (sk 23) 2 = ivn5 (sk 23) 2 := fl24.i ty205 rfl 2
                    have ie241 : ivn5 (sk 23) 2 = iv (sk 23) 2 := by rw [hin5]; exact congrFun (up0_a (ne_in tsk23.1 hqn5)) _
                    have pl14 := Phi.le W34 sk19
                    refine d_callV (As := [.ref qn5]) (rest := [.ref a0]) C hM (C_make (a0 := (sk 13)) (a1 := qn5) W34 sk19 ty220 tqr5  mr26 (by show ivh24 (sk 22) 2 < 30 ∧ ivh24 (sk 23) 2 < 512 ∧ ((clr5 qn5 : Nat) : Int) ≤ 100 + ivh24 (sk 22) 2; omega)) dX11_table_126 kV_X11_127 rfl ty220 rfl rfl (by decide) ck_11 rfl (Nat.le_of_ble_eq_true rfl) ⟨(Nat.le_of_ble_eq_true rfl), (Nat.le_of_ble_eq_true rfl)⟩ hph pl14 (show 114 + 1320 = 1434 from rfl) (by decide) (fun rh25 Lh25 clh25 lnh25 ivh25 rvh25 h25 => ?_)
                    obtain ⟨f25, rfl, xl30, fl25, W35, rgf25, exf25, mkef25⟩ := h25
                    have F26 := F25.call X19 fl25 rfl
                    have tx18 := TX.xt tx17 xl29
                    have tx19 := TX.rt tx18 hcr5 ty208 rfl
                    have kp27 := kp26.call tx19 W34 fl25 rfl
                    have X20 := X19.trans xl30
                    have sk20 := xl30.skl sk19
                    refine c_st (st2 := [.int (iI f25), .ref a0]) rfl ?_
                    have ty237 := xl30.ty ty229
                    have ri199 : 0 ≤ ivh25 (sk 22) 2 ∧ ivh25 (sk 22) 2 ≤ 30 := W35.int ty237 2
                    have ty238 := xl30.ty ty231
                    have ri200 : 0 ≤ ivh25 (sk 23) 2 ∧ ivh25 (sk 23) 2 ≤ 512 := W35.int ty238 2
                    have gf25 : f25 = ivh24 (sk 22) 2 ∧ ivh25 (sk 22) 2 = ivh24 (sk 22) 2 + 1 ∧ ivh25 (sk 23) 2 = ivh24 (sk 23) 2 + 1 ∧ MRK sk clh25 ivh25 rvh25 := exf25
                    have ty239 := xl30.ty ty210
                    have pl15 := Phi.le W35 sk20
                    refine d_callV (As := [.int (iI f25)]) (rest := []) C hM (C_done (a0 := a0) (x := f25) W35 sk20 ty239 (by omega) ) dX11_table_129 kV_X11_109 rfl ty239 rfl rfl (by decide) ck_12 rfl (Nat.le_of_ble_eq_true rfl) ⟨(Nat.le_of_ble_eq_true rfl), (Nat.le_of_ble_eq_true rfl)⟩ hph pl15 (show 1434 + 0 = 1434 from rfl) (by decide) (fun rh26 Lh26 clh26 lnh26 ivh26 rvh26 h26 => ?_)
                    obtain ⟨f26, rfl, rfl, rfl, rfl, rfl, fl26, W36, rgf26, exf26, kp11f26, kp12f26, kp13f26, kp14f26, kp15f26, kp16f26⟩ := h26
                    have ri201 : 1 ≤ ivh25 a0 11 ∧ ivh25 a0 11 ≤ 100 := W35.int ty239 11
                    have ie244 : ivh25 a0 11 = ivh24 a0 11 := fl25.i ty210 rfl 11
                    have ie245 : ivh24 a0 11 = ivn5 a0 11 := fl24.i ty194 rfl 11
                    have ie246 : ivn5 a0 11 = iv a0 11 := by rw [hin5]; exact congrFun (up0_a (ne_in t_a0.1 hqn5)) _
                    have ri202 : 1 ≤ ivh25 a0 12 ∧ ivh25 a0 12 ≤ 50 := W35.int ty239 12
                    have ie247 : ivh25 a0 12 = ivh24 a0 12 := fl25.i ty210 rfl 12
                    have ie248 : ivh24 a0 12 = ivn5 a0 12 := fl24.i ty194 rfl 12
                    have ie249 : ivn5 a0 12 = iv a0 12 := by rw [hin5]; exact congrFun (up0_a (ne_in t_a0.1 hqn5)) _
                    have ri203 : (-2147483648) ≤ ivh25 a0 13 ∧ ivh25 a0 13 ≤ 2147483647 := W35.int ty239 13
                    have ie250 : ivh25 a0 13 = ivh24 a0 13 := fl25.i ty210 rfl 13
                    have ie251 : ivh24 a0 13 = ivn5 a0 13 := fl24.i ty194 rfl 13
                    have ie252 : ivn5 a0 13 = iv a0 13 := by rw [hin5]; exact congrFun (up0_a (ne_in t_a0.1 hqn5)) _
                    have ri204 : (-2147483648) ≤ ivh25 a0 14 ∧ ivh25 a0 14 ≤ 2147483647 := W35.int ty239 14
                    have ie253 : ivh25 a0 14 = ivh24 a0 14 := fl25.i ty210 rfl 14
                    have ie254 : ivh24 a0 14 = ivn5 a0 14 := fl24.i ty194 rfl 14
                    have ie255 : ivn5 a0 14 = iv a0 14 := by rw [hin5]; exact congrFun (up0_a (ne_in t_a0.1 hqn5)) _
                    have ri205 : (-2147483648) ≤ ivh25 a0 15 ∧ ivh25 a0 15 ≤ 2147483647 := W35.int ty239 15
                    have ie256 : ivh25 a0 15 = ivh24 a0 15 := fl25.i ty210 rfl 15
                    have ie257 : ivh24 a0 15 = ivn5 a0 15 := fl24.i ty194 rfl 15
                    have ie258 : ivn5 a0 15 = iv a0 15 := by rw [hin5]; exact congrFun (up0_a (ne_in t_a0.1 hqn5)) _
                    have ri206 : (-2147483648) ≤ ivh25 a0 16 ∧ ivh25 a0 16 ≤ 2147483647 := W35.int ty239 16
                    have ie259 : ivh25 a0 16 = ivh24 a0 16 := fl25.i ty210 rfl 16
                    have ie260 : ivh24 a0 16 = ivn5 a0 16 := fl24.i ty194 rfl 16
                    have ie261 : ivn5 a0 16 = iv a0 16 := by rw [hin5]; exact congrFun (up0_a (ne_in t_a0.1 hqn5)) _
                    have F27 := F26.call X20 fl26 rfl
                    have mr27 := MRK.call exf25.2.2.2 W35 sk20 XT.refl fl26 rfl rfl
                    have tx20 := TX.xt tx19 xl30
                    have kp28 := kp27.call tx20 W35 fl26 rfl
                    refine c_st (st2 := [.int (iI f26)]) rfl ?_
                    have gk11f26 : ivh26 a0 11 = ivh25 a0 11 := kp11f26
                    have gk12f26 : ivh26 a0 12 = ivh25 a0 12 := kp12f26
                    have gk13f26 : ivh26 a0 13 = ivh25 a0 13 := kp13f26
                    have gk14f26 : ivh26 a0 14 = ivh25 a0 14 := kp14f26
                    have gk15f26 : ivh26 a0 15 = ivh25 a0 15 := kp15f26
                    have gk16f26 : ivh26 a0 16 = ivh25 a0 16 := kp16f26
                    have gf26 : f26 = f25 := exf26
                    have ri207 : 1 ≤ ivh26 a0 11 ∧ ivh26 a0 11 ≤ 100 := W36.int ty239 11
                    have ri208 : 1 ≤ ivh26 a0 12 ∧ ivh26 a0 12 ≤ 50 := W36.int ty239 12
                    have ri209 : (-2147483648) ≤ ivh26 a0 13 ∧ ivh26 a0 13 ≤ 2147483647 := W36.int ty239 13
                    have ri210 : (-2147483648) ≤ ivh26 a0 14 ∧ ivh26 a0 14 ≤ 2147483647 := W36.int ty239 14
                    have ri211 : (-2147483648) ≤ ivh26 a0 15 ∧ ivh26 a0 15 ≤ 2147483647 := W36.int ty239 15
                    have ri212 : (-2147483648) ≤ ivh26 a0 16 ∧ ivh26 a0 16 ≤ 2147483647 := W36.int ty239 16
                    have ri213 : 0 ≤ ivh26 (sk 23) 2 ∧ ivh26 (sk 23) 2 ≤ 512 := W36.int ty238 2
                    have ie268 : ivh26 (sk 23) 2 = ivh25 (sk 23) 2 := fl26.i ty238 rfl 2
                    have ri214 : 0 ≤ ivh26 (sk 22) 2 ∧ ivh26 (sk 22) 2 ≤ 30 := W36.int ty237 2
                    have ie269 : ivh26 (sk 22) 2 = ivh25 (sk 22) 2 := fl26.i ty237 rfl 2
                    have ty240 := xl30.ty ty232
                    have ri215 : (-2147483648) ≤ ivh26 ob2 0 ∧ ivh26 ob2 0 ≤ 2147483647 := W36.int ty240 0
                    have ie270 : ivh26 ob2 0 = ivh25 ob2 0 := fl26.i ty240 rfl 0
                    have ie271 : ivh25 ob2 0 = ivh24 ob2 0 := fl25.i ty232 rfl 0
                    have ie272 : ivh24 ob2 0 = ivn5 ob2 0 := fl24.i ty193 rfl 0
                    have ie273 : ivn5 ob2 0 = iv ob2 0 := by rw [hin5]; exact congrFun (up0_a (ne_in tob2.1 hqn5)) _
                    have ty241 := xl30.ty tqr5
                    have ri216 : (-2147483648) ≤ ivh26 qn5 0 ∧ ivh26 qn5 0 ≤ 2147483647 := W36.int ty241 0
                    have ie274 : ivh26 qn5 0 = ivh25 qn5 0 := fl26.i ty241 rfl 0
                    have ie275 : ivh25 qn5 0 = ivh24 qn5 0 := fl25.i tqr5 rfl 0
                    have ri217 : (-2147483648) ≤ ivh26 qn5 1 ∧ ivh26 qn5 1 ≤ 2147483647 := W36.int ty241 1
                    have ie276 : ivh26 qn5 1 = ivh25 qn5 1 := fl26.i ty241 rfl 1
                    have ie277 : ivh25 qn5 1 = ivh24 qn5 1 := fl25.i tqr5 rfl 1
                    have ri218 : 0 ≤ ivh26 qn5 7 ∧ ivh26 qn5 7 ≤ 1 := W36.int ty241 7
                    have ie278 : ivh26 qn5 7 = ivh25 qn5 7 := fl26.i ty241 rfl 7
                    have ie279 : ivh25 qn5 7 = ivh24 qn5 7 := fl25.i tqr5 rfl 7
                    have ty242 := xl30.ty ty233
                    have ri219 : 0 ≤ ivh26 b4exf24 2 ∧ ivh26 b4exf24 2 ≤ 200 := W36.int ty242 2
                    have ie280 : ivh26 b4exf24 2 = ivh25 b4exf24 2 := fl26.i ty242 rfl 2
                    have ie281 : ivh25 b4exf24 2 = ivh24 b4exf24 2 := fl25.i ty233 rfl 2
                    have re25 : rvh25 qn5 4 = rvh24 qn5 4 := (fl25.r tqr5 rfl 4)
                    rw [exf24r4] at re25
                    have re26 : rvh25 qn5 5 = rvh24 qn5 5 := (fl25.r tqr5 rfl 5)
                    rw [exf24r5] at re26
                    have re27 : rvh25 qn5 6 = rvh24 qn5 6 := (fl25.r tqr5 rfl 6)
                    rw [exf24r6] at re27
                    have ty243 := xl30.ty ty234
                    have ri220 : 0 ≤ ivh26 b5exf24 2 ∧ ivh26 b5exf24 2 ≤ 200 := W36.int ty243 2
                    have ie283 : ivh26 b5exf24 2 = ivh25 b5exf24 2 := fl26.i ty243 rfl 2
                    have ie284 : ivh25 b5exf24 2 = ivh24 b5exf24 2 := fl25.i ty234 rfl 2
                    have re28 : rvh25 qn5 2 = rvh24 qn5 2 := (fl25.r tqr5 rfl 2)
                    rw [exf24r2] at re28
                    have re29 : rvh25 qn5 3 = rvh24 qn5 3 := (fl25.r tqr5 rfl 3)
                    rw [exf24r3] at re29
                    have re30 : rvh25 b5exf24 1 = rvh24 b5exf24 1 := (fl25.r ty234 rfl 1)
                    rw [exf24rx] at re30
                    exact c_iret C dX11_table_132 rfl (by decide) (rom0 hph pl15 (by decide)) ⟨f26, rfl, X20, F27, W36, ⟨by omega, by omega⟩, ⟨(by omega), mr27⟩, (by omega), (by omega), (by omega), (by omega), (by omega), (by omega), (Or.inr ⟨by omega, ⟨⟨by omega, by omega, by omega, by omega⟩, Or.inr (Or.inr ⟨ob2, akob2.2, by omega⟩)⟩, ⟨qn5, b4exf24, (by rw [show (iv (sk 22) 2).toNat = (ivh24 (sk 22) 2).toNat from congrArg Int.toNat (by omega)]; exact mkef25.1), (by omega), (by omega), (by omega), re25, (by omega), (fun i t hi ht e => by
                        obtain ⟨b9, w1, w2⟩ := hW.ref (el22 hW hS hi ht) 4 rfl rfl rfl
                        rw [w1] at e
                        cases e
                        exact exf24nn (X17 _ w2.1).1), (by omega), ⟨(fun i hi => (mkef25.2.1 i (by omega)).trans (tm5a i hi)), TSF.of hW hS (fun bb tbb hbb => by have tb1 := xl28.ty tbb; have tb2 := xl29.ty tb1; have tb3 := ty_rt tb2 hcr5 (ne_ty tb2 ty208 (by decide)); have tb4 := xl30.ty tb3; exact (Eq.trans (show ivh26 bb 7 = ivh25 bb 7 from (fl26.i tb4 rfl 7)) (Eq.trans (show ivh25 bb 7 = ivh24 bb 7 from (fl25.i tb3 rfl 7)) (Eq.trans (show ivh24 bb 7 = ivn5 bb 7 from (fl24.i tb1 rfl 7)) (show ivn5 bb 7 = iv bb 7 from (by rw [hin5]; exact congrFun (up0_a (ne_in tbb.1 hqn5)) _)))))) (fun bb tbb => by have tb1 := xl28.ty tbb; have tb2 := xl29.ty tb1; have tb3 := ty_rt tb2 hcr5 (ne_ty tb2 ty208 (by decide)); have tb4 := xl30.ty tb3; exact (Eq.trans (show ivh26 bb 0 = ivh25 bb 0 from (fl26.i tb4 rfl 0)) (Eq.trans (show ivh25 bb 0 = ivh24 bb 0 from (fl25.i tb3 rfl 0)) (Eq.trans (show ivh24 bb 0 = ivn5 bb 0 from (fl24.i tb1 rfl 0)) (show ivn5 bb 0 = iv bb 0 from (by rw [hin5]; exact congrFun (up0_a (ne_in tbb.1 hqn5)) _)))))) (fun bb tbb => by have tb1 := xl28.ty tbb; have tb2 := xl29.ty tb1; have tb3 := ty_rt tb2 hcr5 (ne_ty tb2 ty208 (by decide)); have tb4 := xl30.ty tb3; exact (Eq.trans (show ivh26 bb 1 = ivh25 bb 1 from (fl26.i tb4 rfl 1)) (Eq.trans (show ivh25 bb 1 = ivh24 bb 1 from (fl25.i tb3 rfl 1)) (Eq.trans (show ivh24 bb 1 = ivn5 bb 1 from (fl24.i tb1 rfl 1)) (show ivn5 bb 1 = iv bb 1 from (by rw [hin5]; exact congrFun (up0_a (ne_in tbb.1 hqn5)) _)))))) (fun bb tbb => by have tb1 := xl28.ty tbb; have tb2 := xl29.ty tb1; have tb3 := ty_rt tb2 hcr5 (ne_ty tb2 ty208 (by decide)); exact (Eq.trans (show rvh25 bb 4 = rvh24 bb 4 from (fl25.r tb3 rfl 4)) (Eq.trans (show rvh24 bb 4 = rvn5 bb 4 from (fl24.r tb1 rfl 4)) (show rvn5 bb 4 = rv bb 4 from (by rw [hrn5]; exact congrFun (up0_a (ne_in tbb.1 hqn5)) _))))), TSQ.of hW hS (fun bb tbb hbb => by have tb1 := xl28.ty tbb; have tb2 := xl29.ty tb1; have tb3 := ty_rt tb2 hcr5 (ne_ty tb2 ty208 (by decide)); have tb4 := xl30.ty tb3; exact (Eq.trans (show ivh26 bb 2 = ivh25 bb 2 from (fl26.i tb4 rfl 2)) (Eq.trans (show ivh25 bb 2 = ivh24 bb 2 from (fl25.i tb3 rfl 2)) (Eq.trans (show ivh24 bb 2 = ivn5 bb 2 from (fl24.i tb1 rfl 2)) (show ivn5 bb 2 = iv bb 2 from (by rw [hin5]; exact congrFun (up0_a (ne_in tbb.1 hqn5)) _))))))⟩, ((mkef25.2.2.pre (by omega) tm5b).after (by omega) (PSAME.fr W35 sk20 fl26 rfl rfl rfl rfl rfl rfl rfl))⟩⟩), (Or.inr ⟨by omega, kp28, (some ob2), Or.inr ⟨⟨by omega, by omega⟩, ob2, akob2.2, rfl⟩, ⟨qn5, b4exf24, b5exf24, x5exf24, b6exf24, (by rw [show (iv (sk 22) 2).toNat = (ivh24 (sk 22) 2).toNat from congrArg Int.toNat (by omega)]; exact mkef25.1), ⟨(fun hm => hqn5 (hX0 _ hm).1), (fun hm => exf24nn (X17 _ hm).1), (fun hm => exf24n5 (X17 _ hm).1), (fun hm => exf24nx (X17 _ hm).1), (fun hm => exf24n6 (X17 _ hm).1)⟩, ⟨re28, re29, re25, re26, re27, re30⟩, (by omega), (fun kk => Eq.trans ((show ∀ bb, ty Lh24 clh24 bb 68 → rvh25 bb kk = rvh24 bb kk from fun bb tbb => by have tb3 := ty_rt tbb hcr5 (ne_ty tbb ty208 (by decide)); exact (show rvh25 bb kk = rvh24 bb kk from (fl25.r tb3 rfl kk))) b6exf24 exf24t6) (exf24nn6 kk))⟩⟩), (Eq.trans (show rvh25 a0 9 = rvh24 a0 9 from (fl25.r ty210 rfl 9)) (Eq.trans (show rvh24 a0 9 = rvn5 a0 9 from (fl24.r ty194 rfl 9)) (show rvn5 a0 9 = rv a0 9 from (by rw [hrn5]; exact congrFun (up0_a (ne_in t_a0.1 hqn5)) _)))), (Eq.trans (show rvh25 a0 10 = rvh24 a0 10 from (fl25.r ty210 rfl 10)) (Eq.trans (show rvh24 a0 10 = rvn5 a0 10 from (fl24.r ty194 rfl 10)) (show rvn5 a0 10 = rv a0 10 from (by rw [hrn5]; exact congrFun (up0_a (ne_in t_a0.1 hqn5)) _))))⟩
                  · refine c_aload_n (j := 1) (x := a0) C dX11_table_94 rfl ?_
                    refine c_aload (j := 0) (x := ob2) C dX11_table_95 rfl ?_
                    refine c_ifnonnull (r := (some ob2)) (tgt := 104) C dX11_table_97 (by decide) (fun _ _ => ?_) (fun q => by cases q)
                    refine c_iconst C dX11_table_104 ?_
                    refine d_callV (As := [.int (iI 4)]) (rest := []) C hM (C_refuse (a0 := a0) (x := 4) hW hS t_a0 ⟨by decide, by decide⟩ ) dX11_table_105 kV_X11_102 rfl t_a0 rfl rfl (by decide) ck_12 rfl (Nat.le_of_ble_eq_true rfl) ⟨(Nat.le_of_ble_eq_true rfl), (Nat.le_of_ble_eq_true rfl)⟩ hph hph (show 0 + 0 = 0 from rfl) (by decide) (fun rh27 Lh27 clh27 lnh27 ivh27 rvh27 h27 => ?_)
                    obtain ⟨f27, rfl, rfl, rfl, rfl, rfl, fl27, W37, rgf27, exf27, kp11f27, kp12f27, kp13f27, kp14f27, kp15f27, kp16f27⟩ := h27
                    have ri221 : 1 ≤ iv a0 11 ∧ iv a0 11 ≤ 100 := hW.int t_a0 11
                    have ri222 : 1 ≤ iv a0 12 ∧ iv a0 12 ≤ 50 := hW.int t_a0 12
                    have ri223 : (-2147483648) ≤ iv a0 13 ∧ iv a0 13 ≤ 2147483647 := hW.int t_a0 13
                    have ri224 : (-2147483648) ≤ iv a0 14 ∧ iv a0 14 ≤ 2147483647 := hW.int t_a0 14
                    have ri225 : (-2147483648) ≤ iv a0 15 ∧ iv a0 15 ≤ 2147483647 := hW.int t_a0 15
                    have ri226 : (-2147483648) ≤ iv a0 16 ∧ iv a0 16 ≤ 2147483647 := hW.int t_a0 16
                    have F28 := hF0.call hX0 fl27 rfl
                    have mr28 := MRK.call hmr hW hS XT.refl fl27 rfl rfl
                    have kp29 := kp1.call TX.refl hW fl27 rfl
                    refine c_st (st2 := [.int (iI f27)]) rfl ?_
                    have gk11f27 : ivh27 a0 11 = iv a0 11 := kp11f27
                    have gk12f27 : ivh27 a0 12 = iv a0 12 := kp12f27
                    have gk13f27 : ivh27 a0 13 = iv a0 13 := kp13f27
                    have gk14f27 : ivh27 a0 14 = iv a0 14 := kp14f27
                    have gk15f27 : ivh27 a0 15 = iv a0 15 := kp15f27
                    have gk16f27 : ivh27 a0 16 = iv a0 16 := kp16f27
                    have gf27 : f27 = -1 := exf27
                    have ri227 : 1 ≤ ivh27 a0 11 ∧ ivh27 a0 11 ≤ 100 := W37.int t_a0 11
                    have ri228 : 1 ≤ ivh27 a0 12 ∧ ivh27 a0 12 ≤ 50 := W37.int t_a0 12
                    have ri229 : (-2147483648) ≤ ivh27 a0 13 ∧ ivh27 a0 13 ≤ 2147483647 := W37.int t_a0 13
                    have ri230 : (-2147483648) ≤ ivh27 a0 14 ∧ ivh27 a0 14 ≤ 2147483647 := W37.int t_a0 14
                    have ri231 : (-2147483648) ≤ ivh27 a0 15 ∧ ivh27 a0 15 ≤ 2147483647 := W37.int t_a0 15
                    have ri232 : (-2147483648) ≤ ivh27 a0 16 ∧ ivh27 a0 16 ≤ 2147483647 := W37.int t_a0 16
                    have ri233 : 0 ≤ ivh27 (sk 23) 2 ∧ ivh27 (sk 23) 2 ≤ 512 := W37.int tsk23 2
                    have ie292 : ivh27 (sk 23) 2 = iv (sk 23) 2 := fl27.i tsk23 rfl 2
                    have ri234 : 0 ≤ ivh27 (sk 22) 2 ∧ ivh27 (sk 22) 2 ≤ 30 := W37.int tsk22 2
                    have ie293 : ivh27 (sk 22) 2 = iv (sk 22) 2 := fl27.i tsk22 rfl 2
                    have ri235 : (-2147483648) ≤ ivh27 ob2 0 ∧ ivh27 ob2 0 ≤ 2147483647 := W37.int tob2 0
                    have ie294 : ivh27 ob2 0 = iv ob2 0 := fl27.i tob2 rfl 0
                    exact c_iret C dX11_table_108 rfl (by decide) (rom0 hph hph (by decide)) ⟨f27, rfl, hX0, F28, W37, ⟨by omega, by omega⟩, ⟨(by omega), mr28⟩, (by omega), (by omega), (by omega), (by omega), (by omega), (by omega), (Or.inl ⟨by omega, PSAME.fr hW hS fl27 rfl rfl rfl rfl rfl rfl rfl, (fun q => by
                        rcases q.2 with h | h | ⟨t, h1, h2⟩
                        · omega
                        · omega
                        · have e := h1.uni akob2.2
                          subst e
                          omega)⟩), (Or.inl ⟨by omega, kp29⟩), rfl, rfl⟩
              · refine c_aload_n (j := 0) (x := a0) C dX11_table_47 rfl ?_
                refine c_aload_n (j := 0) (x := a0) C dX11_table_48 rfl ?_
                refine c_getr (k := 4) C ck_12 dX11_table_49 w2_48 (by decide) t_a0 rfl rfl (by decide) rfl rq2 ?_
                refine c_st (st2 := [.ref (sk 13), .ref a0]) rfl ?_
                refine c_new C ck_10 dv_10 ⟨rfl, rfl⟩ rfl (by decide) dX11_table_52 w2_162 w2_163 w1_16 (rom2 hph hph (by decide)) (fun qn6 cln6 lnn6 ivn6 rvn6 hqn6 hcn6 hln6 hin6 hrn6 => ⟨24, (p_in (Phi.new hW hS hqn6 (fun b _ => by rw [hln6]) hrn6) (by omega)), ?_⟩)
                refine c_g0 C (fun hg6 => ?_)
                have hxn6 : ∀ b, b ≠ qn6 → lnn6 b = ln b := (fun b _ => by rw [hln6])
                have W38 := hW.new (ln2 := lnn6) hqn6 (hg6 qn6 (List.mem_append_right _ List.mem_cons_self)) hcn6 hxn6 hin6 hrn6 (fun _ => ⟨(show (-2147483648 : Int) ≤ 0 by decide), (show (0 : Int) ≤ 2147483647 by decide)⟩) (Or.inl rfl) (fun q => by cases q) rfl rfl
                have xl33 := XT.new hqn6 hcn6 hxn6
                have X21 := hX0.trans xl33
                have sk21 := xl33.skl hS
                have F29 := hF0.new hX0 hqn6 hin6 hrn6
                have mr29 := MRK.call hmr hW hS xl33 ((fT.refl (ls := [])).new (XT.refl (ln := ln)) hqn6 hin6 hrn6) rfl rfl
                have tqn6 : ty (L ++ [qn6]) cln6 qn6 210 := ty_new hcn6
                have kp30 := kp1.new TX.refl hW hqn6 hin6 hrn6
                have h0qn6 : qn6 ∉ L := fun h => hqn6 ((hX0 qn6 h).1)
                refine c_dup C dX11_table_55 rfl ?_
                refine c_iload_n (j := 1) C dX11_table_56 rfl ?_
                refine c_iload_n (j := 2) C dX11_table_57 rfl ?_
                refine c_null C dX11_table_58 ?_
                refine c_null C dX11_table_59 ?_
                have pl16 := Phi.le W38 sk21
                refine c_callI (As := [.int (iI x), .int (iI y), .null, .null]) (rest := [.ref qn6, .ref (sk 13), .ref a0]) C hM (Z_table (a0 := qn6) (i := x) (n := y) (r := none) (r2 := none) W38 sk21 tqn6 (fun _ q => by cases q) (fun _ q => by cases q) (by omega) (by omega) ) dX11_table_60 kI_X11_124 rfl rfl (Nat.le_of_ble_eq_true rfl) ⟨(Nat.le_of_ble_eq_true rfl), (Nat.le_of_ble_eq_true rfl)⟩ (rz1 hph pl16 (by decide)) (fun rh28 Lh28 clh28 lnh28 ivh28 rvh28 h28 => ⟨114, (zk1 (by obtain ⟨_, xlh28x, flh28x, Wh28x, _⟩ := h28; exact Phi.fr W38 sk21 xlh28x flh28x rfl)), ?_⟩)
                obtain ⟨rfl, xl34, fl28, W39, exf28⟩ := h28
                have F30 := F29.call X21 fl28 rfl
                have mr30 := MRK.call mr29 W38 sk21 xl34 fl28 rfl rfl
                have tx21 := TX.xt TX.refl xl33
                have kp31 := kp30.call tx21 W38 fl28 rfl
                have ty244 := xl33.ty t_a0
                have ty245 := xl33.ty tsk2
                have ty246 := xl33.ty tsk3
                have ty247 := xl33.ty tsk4
                have ty248 := xl33.ty tsk5
                have ty249 := xl33.ty tsk13
                have ty250 := xl33.ty tsk14
                have ty251 := xl33.ty tsk15
                have ty252 := xl33.ty tsk16
                have ty253 := xl33.ty tsk17
                have ty254 := xl33.ty tsk22
                have ty255 := xl33.ty tsk23
                have X22 := X21.trans xl34
                have sk22 := xl34.skl sk21
                refine c_st (st2 := [.ref qn6, .ref (sk 13), .ref a0]) rfl ?_
                obtain ⟨b4exf28, b5exf28, b6exf28, exf28x, exf28r4, exf28t4, exf28r5, exf28t5, exf28r6, exf28t6, exf28r2, exf28r3, exf28i7, exf28i0, exf28i1, exf28nn, exf28zz, exf28n5, exf28n6, ⟨x5exf28, exf28rx, exf28tx, exf28nx⟩, exf28z5, exf28nn6⟩ := exf28
                have rn6 : ∀ k, ([2, 3, 4, 5, 6] : List Nat).contains k = false → rvh28 qn6 k = none := fun k hk => (Eq.trans (show rvh28 qn6 k = rvn6 qn6 k from (exf28x k hk)) (show rvn6 qn6 k = none from (by rw [hrn6]; exact up0_s)))
                have ty256 := xl34.ty ty254
                have ri236 : 0 ≤ ivh28 (sk 22) 2 ∧ ivh28 (sk 22) 2 ≤ 30 := W39.int ty256 2
                have ie295 : ivh28 (sk 22) 2 = ivn6 (sk 22) 2 := fl28.i ty254 rfl 2
                have ie296 : ivn6 (sk 22) 2 = iv (sk 22) 2 := by rw [hin6]; exact congrFun (up0_a (ne_in tsk22.1 hqn6)) _
                have ty257 := xl34.ty tqn6
                have btexf28 : bt (100 + (ivh28 (sk 22) 2).toNat) = 100 := bt_tab (by omega)
                refine c_retag (q := qn6) (t := (100 + (ivh28 (sk 22) 2).toNat)) (by rw [ty257.2, btexf28]; rfl) (fun clr6 hcr6 => ?_)
                have ty258 := xl34.ty ty244
                have ty259 := ty_rt ty258 hcr6 (ne_ty ty258 ty257 (by decide))
                have ty260 := xl34.ty ty245
                have ty261 := ty_rt ty260 hcr6 (ne_ty ty260 ty257 (by decide))
                have ty262 := xl34.ty ty246
                have ty263 := ty_rt ty262 hcr6 (ne_ty ty262 ty257 (by decide))
                have ty264 := xl34.ty ty247
                have ty265 := ty_rt ty264 hcr6 (ne_ty ty264 ty257 (by decide))
                have ty266 := xl34.ty ty248
                have ty267 := ty_rt ty266 hcr6 (ne_ty ty266 ty257 (by decide))
                have ty268 := xl34.ty ty249
                have ty269 := ty_rt ty268 hcr6 (ne_ty ty268 ty257 (by decide))
                have ty270 := xl34.ty ty250
                have ty271 := ty_rt ty270 hcr6 (ne_ty ty270 ty257 (by decide))
                have ty272 := xl34.ty ty251
                have ty273 := ty_rt ty272 hcr6 (ne_ty ty272 ty257 (by decide))
                have ty274 := xl34.ty ty252
                have ty275 := ty_rt ty274 hcr6 (ne_ty ty274 ty257 (by decide))
                have ty276 := xl34.ty ty253
                have ty277 := ty_rt ty276 hcr6 (ne_ty ty276 ty257 (by decide))
                have ty278 := ty_rt ty256 hcr6 (ne_ty ty256 ty257 (by decide))
                have ty279 := xl34.ty ty255
                have ty280 := ty_rt ty279 hcr6 (ne_ty ty279 ty257 (by decide))
                have ty281 := ty_rt exf28t4 hcr6 (ne_ty exf28t4 ty257 (by decide))
                have ty282 := ty_rt exf28t5 hcr6 (ne_ty exf28t5 ty257 (by decide))
                have ty283 := ty_rt exf28t6 hcr6 (ne_ty exf28t6 ty257 (by decide))
                have ty284 := ty_rt exf28tx hcr6 (ne_ty exf28tx ty257 (by decide))
                have tqr6 : ty Lh28 clr6 qn6 100 := ⟨ty257.1, by rw [hcr6, va_up_self]; exact btexf28⟩
                have W40 := W39.retag ty257.1 (by rw [ty257.2]; rfl) hcr6 (fun k => by
                      rcases k with _ | _ | _ | _ | _ | _ | _ | _ | k
                      · rw [btexf28]; exact W39.int ty257 0
                      · rw [btexf28]; exact W39.int ty257 1
                      · rw [btexf28]; exact W39.int ty257 2
                      · rw [btexf28]; exact W39.int ty257 3
                      · rw [btexf28]; exact W39.int ty257 4
                      · rw [btexf28]; exact W39.int ty257 5
                      · rw [btexf28]; exact W39.int ty257 6
                      · rw [btexf28]; exact ⟨(by show 0 ≤ ivh28 qn6 7; omega), (by show ivh28 qn6 7 ≤ 1; omega)⟩
                      · rw [btexf28]; exact W39.int ty257 (k + 8)) (fun k => by
                      rcases k with _ | _ | _ | _ | _ | _ | _ | _ | k
                      · rw [rn6 0 (by decide)]; exact rok_none tqr6 rfl
                      · rw [rn6 1 (by decide)]; exact rok_none tqr6 rfl
                      · rw [exf28r2]; exact rok_tab tqr6 (by decide) (fun _ q => by cases q)
                      · rw [exf28r3]; exact rok_tab tqr6 (by decide) (fun _ q => by cases q)
                      · rw [exf28r4]; exact rok_tb tqr6 ty281 (by decide) rfl
                      · rw [exf28r5]; exact rok_tb tqr6 ty282 (by decide) rfl
                      · rw [exf28r6]; exact rok_tb tqr6 ty283 (by decide) rfl
                      · rw [rn6 7 (by decide)]; exact rok_none tqr6 rfl
                      · rw [rn6 (k + 8) (by simp)]; exact rok_none tqr6 rfl) (by rw [btexf28]; rfl) (fun z => by rw [btexf28] at z; cases z) (fun z => by rw [btexf28] at z; cases z) uq_tab
                have X23 := X22.rt hcr6 h0qn6
                have sk23 := sk22.rt hcr6 (by rw [ty257.2]; rfl)
                have mr31 := MRK.rt mr30 W39 sk22 hcr6 (by rw [ty257.2]; rfl)
                have cqexf28 : clr6 qn6 = (100 + (ivh28 (sk 22) 2).toNat) := by rw [hcr6]; exact va_up_self _ _ _
                have tm6a : ∀ i : Nat, (i : Int) < iv (sk 22) 2 → el rvh28 (sk 22) i = el rv (sk 22) i := (fun i hi => el_ch hW (tysk22 hS) rfl rfl ((show ∀ bb, ty L cl bb 22 → rvh28 bb 1 = rv bb 1 from fun bb tbb => by have tb1 := xl33.ty tbb; exact (Eq.trans (show rvh28 bb 1 = rvn6 bb 1 from (fl28.r tb1 rfl 1)) (show rvn6 bb 1 = rv bb 1 from (by rw [hrn6]; exact congrFun (up0_a (ne_in tbb.1 hqn6)) _)))) (sk 22) (tysk22 hS)) (fun bb tbb kk => by have tb1 := xl33.ty tbb; exact (Eq.trans (show rvh28 bb kk = rvn6 bb kk from (fl28.r tb1 rfl kk)) (show rvn6 bb kk = rv bb kk from (by rw [hrn6]; exact congrFun (up0_a (ne_in tbb.1 hqn6)) _)))) hi)
                have tm6b : CS0 (iv (sk 23) 2) sk iv rv ivh28 rvh28 := CS0.of hW hS (Int.le_refl _) (fun i hi => el_ch hW (tysk23 hS) rfl rfl ((show ∀ bb, ty L cl bb 23 → rvh28 bb 1 = rv bb 1 from fun bb tbb => by have tb1 := xl33.ty tbb; exact (Eq.trans (show rvh28 bb 1 = rvn6 bb 1 from (fl28.r tb1 rfl 1)) (show rvn6 bb 1 = rv bb 1 from (by rw [hrn6]; exact congrFun (up0_a (ne_in tbb.1 hqn6)) _)))) (sk 23) (tysk23 hS)) (fun bb tbb kk => by have tb1 := xl33.ty tbb; exact (Eq.trans (show rvh28 bb kk = rvn6 bb kk from (fl28.r tb1 rfl kk)) (show rvn6 bb kk = rv bb kk from (by rw [hrn6]; exact congrFun (up0_a (ne_in tbb.1 hqn6)) _)))) hi) (fun bb tbb => by have tb1 := xl33.ty tbb; exact (Eq.trans (show ivh28 bb 0 = ivn6 bb 0 from (fl28.i tb1 rfl 0)) (show ivn6 bb 0 = iv bb 0 from (by rw [hin6]; exact congrFun (up0_a (ne_in tbb.1 hqn6)) _)))) (fun bb tbb => by have tb1 := xl33.ty tbb; exact (Eq.trans (show rvh28 bb 1 = rvn6 bb 1 from (fl28.r tb1 rfl 1)) (show rvn6 bb 1 = rv bb 1 from (by rw [hrn6]; exact congrFun (up0_a (ne_in tbb.1 hqn6)) _))))
                have ri237 : 0 ≤ ivh28 (sk 23) 2 ∧ ivh28 (sk 23) 2 ≤ 512 := W40.int ty280 2
                have ie297 : ivh28 (sk 23) 2 = ivn6 (sk 23) 2 := fl28.i ty255 rfl 2
                have ie298 : ivn6 (sk 23) 2 = iv (sk 23) 2 := by rw [hin6]; exact congrFun (up0_a (ne_in tsk23.1 hqn6)) _
                have pl17 := Phi.le W40 sk23
                refine d_callV (As := [.ref qn6]) (rest := [.ref a0]) C hM (C_make (a0 := (sk 13)) (a1 := qn6) W40 sk23 ty269 tqr6  mr31 (by show ivh28 (sk 22) 2 < 30 ∧ ivh28 (sk 23) 2 < 512 ∧ ((clr6 qn6 : Nat) : Int) ≤ 100 + ivh28 (sk 22) 2; omega)) dX11_table_63 kV_X11_127 rfl ty269 rfl rfl (by decide) ck_11 rfl (Nat.le_of_ble_eq_true rfl) ⟨(Nat.le_of_ble_eq_true rfl), (Nat.le_of_ble_eq_true rfl)⟩ hph pl17 (show 114 + 1320 = 1434 from rfl) (by decide) (fun rh29 Lh29 clh29 lnh29 ivh29 rvh29 h29 => ?_)
                obtain ⟨f29, rfl, xl35, fl29, W41, rgf29, exf29, mkef29⟩ := h29
                have F31 := F30.call X23 fl29 rfl
                have tx22 := TX.xt tx21 xl34
                have tx23 := TX.rt tx22 hcr6 ty257 rfl
                have kp32 := kp31.call tx23 W40 fl29 rfl
                have X24 := X23.trans xl35
                have sk24 := xl35.skl sk23
                refine c_st (st2 := [.int (iI f29), .ref a0]) rfl ?_
                have ty285 := xl35.ty ty278
                have ri238 : 0 ≤ ivh29 (sk 22) 2 ∧ ivh29 (sk 22) 2 ≤ 30 := W41.int ty285 2
                have ty286 := xl35.ty ty280
                have ri239 : 0 ≤ ivh29 (sk 23) 2 ∧ ivh29 (sk 23) 2 ≤ 512 := W41.int ty286 2
                have gf29 : f29 = ivh28 (sk 22) 2 ∧ ivh29 (sk 22) 2 = ivh28 (sk 22) 2 + 1 ∧ ivh29 (sk 23) 2 = ivh28 (sk 23) 2 + 1 ∧ MRK sk clh29 ivh29 rvh29 := exf29
                have ty287 := xl35.ty ty259
                have pl18 := Phi.le W41 sk24
                refine d_callV (As := [.int (iI f29)]) (rest := []) C hM (C_done (a0 := a0) (x := f29) W41 sk24 ty287 (by omega) ) dX11_table_66 kV_X11_109 rfl ty287 rfl rfl (by decide) ck_12 rfl (Nat.le_of_ble_eq_true rfl) ⟨(Nat.le_of_ble_eq_true rfl), (Nat.le_of_ble_eq_true rfl)⟩ hph pl18 (show 1434 + 0 = 1434 from rfl) (by decide) (fun rh30 Lh30 clh30 lnh30 ivh30 rvh30 h30 => ?_)
                obtain ⟨f30, rfl, rfl, rfl, rfl, rfl, fl30, W42, rgf30, exf30, kp11f30, kp12f30, kp13f30, kp14f30, kp15f30, kp16f30⟩ := h30
                have ri240 : 1 ≤ ivh29 a0 11 ∧ ivh29 a0 11 ≤ 100 := W41.int ty287 11
                have ie301 : ivh29 a0 11 = ivh28 a0 11 := fl29.i ty259 rfl 11
                have ie302 : ivh28 a0 11 = ivn6 a0 11 := fl28.i ty244 rfl 11
                have ie303 : ivn6 a0 11 = iv a0 11 := by rw [hin6]; exact congrFun (up0_a (ne_in t_a0.1 hqn6)) _
                have ri241 : 1 ≤ ivh29 a0 12 ∧ ivh29 a0 12 ≤ 50 := W41.int ty287 12
                have ie304 : ivh29 a0 12 = ivh28 a0 12 := fl29.i ty259 rfl 12
                have ie305 : ivh28 a0 12 = ivn6 a0 12 := fl28.i ty244 rfl 12
                have ie306 : ivn6 a0 12 = iv a0 12 := by rw [hin6]; exact congrFun (up0_a (ne_in t_a0.1 hqn6)) _
                have ri242 : (-2147483648) ≤ ivh29 a0 13 ∧ ivh29 a0 13 ≤ 2147483647 := W41.int ty287 13
                have ie307 : ivh29 a0 13 = ivh28 a0 13 := fl29.i ty259 rfl 13
                have ie308 : ivh28 a0 13 = ivn6 a0 13 := fl28.i ty244 rfl 13
                have ie309 : ivn6 a0 13 = iv a0 13 := by rw [hin6]; exact congrFun (up0_a (ne_in t_a0.1 hqn6)) _
                have ri243 : (-2147483648) ≤ ivh29 a0 14 ∧ ivh29 a0 14 ≤ 2147483647 := W41.int ty287 14
                have ie310 : ivh29 a0 14 = ivh28 a0 14 := fl29.i ty259 rfl 14
                have ie311 : ivh28 a0 14 = ivn6 a0 14 := fl28.i ty244 rfl 14
                have ie312 : ivn6 a0 14 = iv a0 14 := by rw [hin6]; exact congrFun (up0_a (ne_in t_a0.1 hqn6)) _
                have ri244 : (-2147483648) ≤ ivh29 a0 15 ∧ ivh29 a0 15 ≤ 2147483647 := W41.int ty287 15
                have ie313 : ivh29 a0 15 = ivh28 a0 15 := fl29.i ty259 rfl 15
                have ie314 : ivh28 a0 15 = ivn6 a0 15 := fl28.i ty244 rfl 15
                have ie315 : ivn6 a0 15 = iv a0 15 := by rw [hin6]; exact congrFun (up0_a (ne_in t_a0.1 hqn6)) _
                have ri245 : (-2147483648) ≤ ivh29 a0 16 ∧ ivh29 a0 16 ≤ 2147483647 := W41.int ty287 16
                have ie316 : ivh29 a0 16 = ivh28 a0 16 := fl29.i ty259 rfl 16
                have ie317 : ivh28 a0 16 = ivn6 a0 16 := fl28.i ty244 rfl 16
                have ie318 : ivn6 a0 16 = iv a0 16 := by rw [hin6]; exact congrFun (up0_a (ne_in t_a0.1 hqn6)) _
                have F32 := F31.call X24 fl30 rfl
                have mr32 := MRK.call exf29.2.2.2 W41 sk24 XT.refl fl30 rfl rfl
                have tx24 := TX.xt tx23 xl35
                have kp33 := kp32.call tx24 W41 fl30 rfl
                refine c_st (st2 := [.int (iI f30)]) rfl ?_
                have gk11f30 : ivh30 a0 11 = ivh29 a0 11 := kp11f30
                have gk12f30 : ivh30 a0 12 = ivh29 a0 12 := kp12f30
                have gk13f30 : ivh30 a0 13 = ivh29 a0 13 := kp13f30
                have gk14f30 : ivh30 a0 14 = ivh29 a0 14 := kp14f30
                have gk15f30 : ivh30 a0 15 = ivh29 a0 15 := kp15f30
                have gk16f30 : ivh30 a0 16 = ivh29 a0 16 := kp16f30
                have gf30 : f30 = f29 := exf30
                have ri246 : 1 ≤ ivh30 a0 11 ∧ ivh30 a0 11 ≤ 100 := W42.int ty287 11
                have ri247 : 1 ≤ ivh30 a0 12 ∧ ivh30 a0 12 ≤ 50 := W42.int ty287 12
                have ri248 : (-2147483648) ≤ ivh30 a0 13 ∧ ivh30 a0 13 ≤ 2147483647 := W42.int ty287 13
                have ri249 : (-2147483648) ≤ ivh30 a0 14 ∧ ivh30 a0 14 ≤ 2147483647 := W42.int ty287 14
                have ri250 : (-2147483648) ≤ ivh30 a0 15 ∧ ivh30 a0 15 ≤ 2147483647 := W42.int ty287 15
                have ri251 : (-2147483648) ≤ ivh30 a0 16 ∧ ivh30 a0 16 ≤ 2147483647 := W42.int ty287 16
                have ri252 : 0 ≤ ivh30 (sk 23) 2 ∧ ivh30 (sk 23) 2 ≤ 512 := W42.int ty286 2
                have ie325 : ivh30 (sk 23) 2 = ivh29 (sk 23) 2 := fl30.i ty286 rfl 2
                have ri253 : 0 ≤ ivh30 (sk 22) 2 ∧ ivh30 (sk 22) 2 ≤ 30 := W42.int ty285 2
                have ie326 : ivh30 (sk 22) 2 = ivh29 (sk 22) 2 := fl30.i ty285 rfl 2
                have ty288 := xl35.ty tqr6
                have ri254 : (-2147483648) ≤ ivh30 qn6 0 ∧ ivh30 qn6 0 ≤ 2147483647 := W42.int ty288 0
                have ie327 : ivh30 qn6 0 = ivh29 qn6 0 := fl30.i ty288 rfl 0
                have ie328 : ivh29 qn6 0 = ivh28 qn6 0 := fl29.i tqr6 rfl 0
                have ri255 : (-2147483648) ≤ ivh30 qn6 1 ∧ ivh30 qn6 1 ≤ 2147483647 := W42.int ty288 1
                have ie329 : ivh30 qn6 1 = ivh29 qn6 1 := fl30.i ty288 rfl 1
                have ie330 : ivh29 qn6 1 = ivh28 qn6 1 := fl29.i tqr6 rfl 1
                have ri256 : 0 ≤ ivh30 qn6 7 ∧ ivh30 qn6 7 ≤ 1 := W42.int ty288 7
                have ie331 : ivh30 qn6 7 = ivh29 qn6 7 := fl30.i ty288 rfl 7
                have ie332 : ivh29 qn6 7 = ivh28 qn6 7 := fl29.i tqr6 rfl 7
                have ty289 := xl35.ty ty281
                have ri257 : 0 ≤ ivh30 b4exf28 2 ∧ ivh30 b4exf28 2 ≤ 200 := W42.int ty289 2
                have ie333 : ivh30 b4exf28 2 = ivh29 b4exf28 2 := fl30.i ty289 rfl 2
                have ie334 : ivh29 b4exf28 2 = ivh28 b4exf28 2 := fl29.i ty281 rfl 2
                have re31 : rvh29 qn6 4 = rvh28 qn6 4 := (fl29.r tqr6 rfl 4)
                rw [exf28r4] at re31
                have re32 : rvh29 qn6 5 = rvh28 qn6 5 := (fl29.r tqr6 rfl 5)
                rw [exf28r5] at re32
                have re33 : rvh29 qn6 6 = rvh28 qn6 6 := (fl29.r tqr6 rfl 6)
                rw [exf28r6] at re33
                have ty290 := xl35.ty ty282
                have ri258 : 0 ≤ ivh30 b5exf28 2 ∧ ivh30 b5exf28 2 ≤ 200 := W42.int ty290 2
                have ie336 : ivh30 b5exf28 2 = ivh29 b5exf28 2 := fl30.i ty290 rfl 2
                have ie337 : ivh29 b5exf28 2 = ivh28 b5exf28 2 := fl29.i ty282 rfl 2
                have re34 : rvh29 qn6 2 = rvh28 qn6 2 := (fl29.r tqr6 rfl 2)
                rw [exf28r2] at re34
                have re35 : rvh29 qn6 3 = rvh28 qn6 3 := (fl29.r tqr6 rfl 3)
                rw [exf28r3] at re35
                have re36 : rvh29 b5exf28 1 = rvh28 b5exf28 1 := (fl29.r ty282 rfl 1)
                rw [exf28rx] at re36
                exact c_iret C dX11_table_69 rfl (by decide) (rom0 hph pl18 (by decide)) ⟨f30, rfl, X24, F32, W42, ⟨by omega, by omega⟩, ⟨(by omega), mr32⟩, (by omega), (by omega), (by omega), (by omega), (by omega), (by omega), (Or.inr ⟨by omega, ⟨⟨by omega, by omega, by omega, by omega⟩, (by first | exact Or.inl (by omega) | exact Or.inr (Or.inl (by omega)))⟩, ⟨qn6, b4exf28, (by rw [show (iv (sk 22) 2).toNat = (ivh28 (sk 22) 2).toNat from congrArg Int.toNat (by omega)]; exact mkef29.1), (by omega), (by omega), (by omega), re31, (by omega), (fun i t hi ht e => by
                    obtain ⟨b9, w1, w2⟩ := hW.ref (el22 hW hS hi ht) 4 rfl rfl rfl
                    rw [w1] at e
                    cases e
                    exact exf28nn (X21 _ w2.1).1), (by omega), ⟨(fun i hi => (mkef29.2.1 i (by omega)).trans (tm6a i hi)), TSF.of hW hS (fun bb tbb hbb => by have tb1 := xl33.ty tbb; have tb2 := xl34.ty tb1; have tb3 := ty_rt tb2 hcr6 (ne_ty tb2 ty257 (by decide)); have tb4 := xl35.ty tb3; exact (Eq.trans (show ivh30 bb 7 = ivh29 bb 7 from (fl30.i tb4 rfl 7)) (Eq.trans (show ivh29 bb 7 = ivh28 bb 7 from (fl29.i tb3 rfl 7)) (Eq.trans (show ivh28 bb 7 = ivn6 bb 7 from (fl28.i tb1 rfl 7)) (show ivn6 bb 7 = iv bb 7 from (by rw [hin6]; exact congrFun (up0_a (ne_in tbb.1 hqn6)) _)))))) (fun bb tbb => by have tb1 := xl33.ty tbb; have tb2 := xl34.ty tb1; have tb3 := ty_rt tb2 hcr6 (ne_ty tb2 ty257 (by decide)); have tb4 := xl35.ty tb3; exact (Eq.trans (show ivh30 bb 0 = ivh29 bb 0 from (fl30.i tb4 rfl 0)) (Eq.trans (show ivh29 bb 0 = ivh28 bb 0 from (fl29.i tb3 rfl 0)) (Eq.trans (show ivh28 bb 0 = ivn6 bb 0 from (fl28.i tb1 rfl 0)) (show ivn6 bb 0 = iv bb 0 from (by rw [hin6]; exact congrFun (up0_a (ne_in tbb.1 hqn6)) _)))))) (fun bb tbb => by have tb1 := xl33.ty tbb; have tb2 := xl34.ty tb1; have tb3 := ty_rt tb2 hcr6 (ne_ty tb2 ty257 (by decide)); have tb4 := xl35.ty tb3; exact (Eq.trans (show ivh30 bb 1 = ivh29 bb 1 from (fl30.i tb4 rfl 1)) (Eq.trans (show ivh29 bb 1 = ivh28 bb 1 from (fl29.i tb3 rfl 1)) (Eq.trans (show ivh28 bb 1 = ivn6 bb 1 from (fl28.i tb1 rfl 1)) (show ivn6 bb 1 = iv bb 1 from (by rw [hin6]; exact congrFun (up0_a (ne_in tbb.1 hqn6)) _)))))) (fun bb tbb => by have tb1 := xl33.ty tbb; have tb2 := xl34.ty tb1; have tb3 := ty_rt tb2 hcr6 (ne_ty tb2 ty257 (by decide)); exact (Eq.trans (show rvh29 bb 4 = rvh28 bb 4 from (fl29.r tb3 rfl 4)) (Eq.trans (show rvh28 bb 4 = rvn6 bb 4 from (fl28.r tb1 rfl 4)) (show rvn6 bb 4 = rv bb 4 from (by rw [hrn6]; exact congrFun (up0_a (ne_in tbb.1 hqn6)) _))))), TSQ.of hW hS (fun bb tbb hbb => by have tb1 := xl33.ty tbb; have tb2 := xl34.ty tb1; have tb3 := ty_rt tb2 hcr6 (ne_ty tb2 ty257 (by decide)); have tb4 := xl35.ty tb3; exact (Eq.trans (show ivh30 bb 2 = ivh29 bb 2 from (fl30.i tb4 rfl 2)) (Eq.trans (show ivh29 bb 2 = ivh28 bb 2 from (fl29.i tb3 rfl 2)) (Eq.trans (show ivh28 bb 2 = ivn6 bb 2 from (fl28.i tb1 rfl 2)) (show ivn6 bb 2 = iv bb 2 from (by rw [hin6]; exact congrFun (up0_a (ne_in tbb.1 hqn6)) _))))))⟩, ((mkef29.2.2.pre (by omega) tm6b).after (by omega) (PSAME.fr W41 sk24 fl30 rfl rfl rfl rfl rfl rfl rfl))⟩⟩), (Or.inr ⟨by omega, kp33, none, Or.inl ⟨by omega, rfl⟩, ⟨qn6, b4exf28, b5exf28, x5exf28, b6exf28, (by rw [show (iv (sk 22) 2).toNat = (ivh28 (sk 22) 2).toNat from congrArg Int.toNat (by omega)]; exact mkef29.1), ⟨(fun hm => hqn6 (hX0 _ hm).1), (fun hm => exf28nn (X21 _ hm).1), (fun hm => exf28n5 (X21 _ hm).1), (fun hm => exf28nx (X21 _ hm).1), (fun hm => exf28n6 (X21 _ hm).1)⟩, ⟨re34, re35, re31, re32, re33, re36⟩, (by omega), (fun kk => Eq.trans ((show ∀ bb, ty Lh28 clh28 bb 68 → rvh29 bb kk = rvh28 bb kk from fun bb tbb => by have tb3 := ty_rt tbb hcr6 (ne_ty tbb ty257 (by decide)); exact (show rvh29 bb kk = rvh28 bb kk from (fl29.r tb3 rfl kk))) b6exf28 exf28t6) (exf28nn6 kk))⟩⟩), (Eq.trans (show rvh29 a0 9 = rvh28 a0 9 from (fl29.r ty259 rfl 9)) (Eq.trans (show rvh28 a0 9 = rvn6 a0 9 from (fl28.r ty244 rfl 9)) (show rvn6 a0 9 = rv a0 9 from (by rw [hrn6]; exact congrFun (up0_a (ne_in t_a0.1 hqn6)) _)))), (Eq.trans (show rvh29 a0 10 = rvh28 a0 10 from (fl29.r ty259 rfl 10)) (Eq.trans (show rvh28 a0 10 = rvn6 a0 10 from (fl28.r ty244 rfl 10)) (show rvn6 a0 10 = rv a0 10 from (by rw [hrn6]; exact congrFun (up0_a (ne_in t_a0.1 hqn6)) _))))⟩
          · refine c_aload_n (j := 0) (x := a0) C dX11_table_31 rfl ?_
            refine c_bipush (z := 6) C dX11_table_32 (by decide) ?_
            refine d_callV (As := [.int (iI 6)]) (rest := []) C hM (C_refuse (a0 := a0) (x := 6) hW hS t_a0 ⟨by decide, by decide⟩ ) dX11_table_34 kV_X11_102 rfl t_a0 rfl rfl (by decide) ck_12 rfl (Nat.le_of_ble_eq_true rfl) ⟨(Nat.le_of_ble_eq_true rfl), (Nat.le_of_ble_eq_true rfl)⟩ hph hph (show 0 + 0 = 0 from rfl) (by decide) (fun rh31 Lh31 clh31 lnh31 ivh31 rvh31 h31 => ?_)
            obtain ⟨f31, rfl, rfl, rfl, rfl, rfl, fl31, W43, rgf31, exf31, kp11f31, kp12f31, kp13f31, kp14f31, kp15f31, kp16f31⟩ := h31
            have ri259 : 1 ≤ iv a0 11 ∧ iv a0 11 ≤ 100 := hW.int t_a0 11
            have ri260 : 1 ≤ iv a0 12 ∧ iv a0 12 ≤ 50 := hW.int t_a0 12
            have ri261 : (-2147483648) ≤ iv a0 13 ∧ iv a0 13 ≤ 2147483647 := hW.int t_a0 13
            have ri262 : (-2147483648) ≤ iv a0 14 ∧ iv a0 14 ≤ 2147483647 := hW.int t_a0 14
            have ri263 : (-2147483648) ≤ iv a0 15 ∧ iv a0 15 ≤ 2147483647 := hW.int t_a0 15
            have ri264 : (-2147483648) ≤ iv a0 16 ∧ iv a0 16 ≤ 2147483647 := hW.int t_a0 16
            have F33 := hF0.call hX0 fl31 rfl
            have mr33 := MRK.call hmr hW hS XT.refl fl31 rfl rfl
            have kp34 := kp1.call TX.refl hW fl31 rfl
            refine c_st (st2 := [.int (iI f31)]) rfl ?_
            have gk11f31 : ivh31 a0 11 = iv a0 11 := kp11f31
            have gk12f31 : ivh31 a0 12 = iv a0 12 := kp12f31
            have gk13f31 : ivh31 a0 13 = iv a0 13 := kp13f31
            have gk14f31 : ivh31 a0 14 = iv a0 14 := kp14f31
            have gk15f31 : ivh31 a0 15 = iv a0 15 := kp15f31
            have gk16f31 : ivh31 a0 16 = iv a0 16 := kp16f31
            have gf31 : f31 = -1 := exf31
            have ri265 : 1 ≤ ivh31 a0 11 ∧ ivh31 a0 11 ≤ 100 := W43.int t_a0 11
            have ri266 : 1 ≤ ivh31 a0 12 ∧ ivh31 a0 12 ≤ 50 := W43.int t_a0 12
            have ri267 : (-2147483648) ≤ ivh31 a0 13 ∧ ivh31 a0 13 ≤ 2147483647 := W43.int t_a0 13
            have ri268 : (-2147483648) ≤ ivh31 a0 14 ∧ ivh31 a0 14 ≤ 2147483647 := W43.int t_a0 14
            have ri269 : (-2147483648) ≤ ivh31 a0 15 ∧ ivh31 a0 15 ≤ 2147483647 := W43.int t_a0 15
            have ri270 : (-2147483648) ≤ ivh31 a0 16 ∧ ivh31 a0 16 ≤ 2147483647 := W43.int t_a0 16
            have ri271 : 0 ≤ ivh31 (sk 23) 2 ∧ ivh31 (sk 23) 2 ≤ 512 := W43.int tsk23 2
            have ie345 : ivh31 (sk 23) 2 = iv (sk 23) 2 := fl31.i tsk23 rfl 2
            have ri272 : 0 ≤ ivh31 (sk 22) 2 ∧ ivh31 (sk 22) 2 ≤ 30 := W43.int tsk22 2
            have ie346 : ivh31 (sk 22) 2 = iv (sk 22) 2 := fl31.i tsk22 rfl 2
            exact c_iret C dX11_table_37 rfl (by decide) (rom0 hph hph (by decide)) ⟨f31, rfl, hX0, F33, W43, ⟨by omega, by omega⟩, ⟨(by omega), mr33⟩, (by omega), (by omega), (by omega), (by omega), (by omega), (by omega), (Or.inl ⟨by omega, PSAME.fr hW hS fl31 rfl rfl rfl rfl rfl rfl rfl, (fun q => by obtain ⟨q1, -⟩ := q; omega)⟩), (Or.inl ⟨by omega, kp34⟩), rfl, rfl⟩
set_option maxHeartbeats 4000000 in
set_option maxRecDepth 100000 in
theorem C_join {l : Launch} {G : GT} {mi : Nat} {sk : Nat → Nat} {L : List Nat} {cl ln : Nat → Nat} {iv : Nat → Nat → Int} {rv : Nat → Nat → Option Nat}  {a0 : Nat} {i : Int} {j : Int} (hW : WT (g0 G) sk L cl ln iv rv) (hS : SKL sk L cl) (t_a0 : ty L cl a0 1) (h_i : -2147483648 ≤ i ∧ i ≤ 2147483647) (h_j : -2147483648 ≤ j ∧ j ≤ 2147483647) (hmr : MRK sk cl iv rv) (hch : iv (sk 23) 2 < 512) : Mc l G mi (Phi (g0 G) sk) PHM yX11_join cX11_join 5 (some .int) 9 [.ref a0, .int (iI i), .int (iI j)] L cl ln iv rv 1434 (fun v L2 cl2 ln2 iv2 rv2 => ∃ f : Int, v = some (.int (iI f)) ∧ XT L cl ln L2 cl2 ln2 ∧ fT [1, 22, 1000, 23, 1001, 201, 210, 200, 202] L cl iv rv iv2 rv2 ∧ WT (g0 G) sk L2 cl2 ln2 iv2 rv2 ∧ (-2147483648 ≤ f ∧ f ≤ 2147483647) ∧ (iv2 (sk 23) 2 ≤ iv (sk 23) 2 + 1 ∧ MRK sk cl2 iv2 rv2) ∧ iv2 a0 11 = iv a0 11 ∧ iv2 a0 12 = iv a0 12 ∧ iv2 a0 13 = iv a0 13 ∧ iv2 a0 14 = iv a0 14 ∧ iv2 a0 15 = iv a0 15 ∧ iv2 a0 16 = iv a0 16 ∧ (PJOI i j f sk iv rv iv2 rv2) ∧ ((f = -1 ∧ KP L cl (fun _ => False) (fun _ => False) (fun _ => False) (fun _ => False) (fun _ _ => False) iv rv iv2 rv2) ∨ (f ≠ -1 ∧ KP L cl (fun _ => False) (fun _ => False) (fun _ => False) (fun _ => False) (fun _ _ => False) iv rv iv2 rv2 ∧ ∃ t u, ALV sk iv rv i t ∧ ALV sk iv rv j u ∧ KNW L sk (some t) (some u) iv iv2 rv2)) ∧ rv2 a0 9 = rv a0 9 ∧ rv2 a0 10 = rv a0 10) := by
  refine Mc.mk (by decide) (Nat.le_of_ble_eq_true rfl) ?_
  intro p e s m args below meth c A C hM
  have hph := Phi.le hW hS
  have tsk2 : ty L cl (sk 2) 2 := ⟨(hS 2 rfl).1, by rw [(hS 2 rfl).2]; rfl⟩
  have tsk3 : ty L cl (sk 3) 3 := ⟨(hS 3 rfl).1, by rw [(hS 3 rfl).2]; rfl⟩
  have tsk4 : ty L cl (sk 4) 4 := ⟨(hS 4 rfl).1, by rw [(hS 4 rfl).2]; rfl⟩
  have tsk5 : ty L cl (sk 5) 5 := ⟨(hS 5 rfl).1, by rw [(hS 5 rfl).2]; rfl⟩
  have tsk13 : ty L cl (sk 13) 13 := ⟨(hS 13 rfl).1, by rw [(hS 13 rfl).2]; rfl⟩
  have tsk14 : ty L cl (sk 14) 14 := ⟨(hS 14 rfl).1, by rw [(hS 14 rfl).2]; rfl⟩
  have tsk15 : ty L cl (sk 15) 15 := ⟨(hS 15 rfl).1, by rw [(hS 15 rfl).2]; rfl⟩
  have tsk16 : ty L cl (sk 16) 16 := ⟨(hS 16 rfl).1, by rw [(hS 16 rfl).2]; rfl⟩
  have tsk17 : ty L cl (sk 17) 17 := ⟨(hS 17 rfl).1, by rw [(hS 17 rfl).2]; rfl⟩
  have tsk22 : ty L cl (sk 22) 22 := ⟨(hS 22 rfl).1, by rw [(hS 22 rfl).2]; rfl⟩
  have tsk23 : ty L cl (sk 23) 23 := ⟨(hS 23 rfl).1, by rw [(hS 23 rfl).2]; rfl⟩
  have hX0 : XT L cl ln L cl ln := XT.refl
  have hF0 : fT [1, 22, 1000, 23, 1001, 201, 210, 200, 202] L cl iv rv iv rv := fT.refl
  have kp1 : KP L cl (fun _ => False) (fun _ => False) (fun _ => False) (fun _ => False) (fun _ _ => False) iv rv iv rv := KP.refl
  refine c_aload_n (j := 0) (x := a0) C dX11_join_0 rfl ?_
  obtain ⟨rb1, rq1, trb1⟩ := hW.ref t_a0 4 rfl rfl rfl
  have erb1 := hW.sk trb1 (by decide) rfl
  subst erb1
  refine c_getr (k := 4) C ck_12 dX11_join_1 w2_48 (by decide) t_a0 rfl rfl (by decide) rfl rq1 ?_
  refine c_st (st2 := [.ref (sk 13)]) rfl ?_
  refine c_iload_n (j := 1) C dX11_join_4 rfl ?_
  have ri1 : 0 ≤ iv (sk 22) 2 ∧ iv (sk 22) 2 ≤ 30 := hW.int tsk22 2
  refine d_callV (As := [.int (iI i)]) (rest := []) C hM (C_alive (a0 := (sk 13)) (i := i) hW hS tsk13 (by omega) hmr) dX11_join_5 kV_X11_131 rfl tsk13 rfl rfl (by decide) ck_11 rfl (Nat.le_of_ble_eq_true rfl) ⟨(Nat.le_of_ble_eq_true rfl), (Nat.le_of_ble_eq_true rfl)⟩ hph hph (show 0 + 0 = 0 from rfl) (by decide) (fun rh1 Lh1 clh1 lnh1 ivh1 rvh1 h1 => ?_)
  obtain ⟨f1, rfl, rfl, rfl, rfl, rfl, rfl, rgf1, exf1⟩ := h1
  refine c_st (st2 := [(va_rf f1)]) rfl ?_
  have gf1 : (∀ b, f1 = some b → ((cl b : Nat) : Int) < 100 + iv (sk 22) 2 ∧ ALV sk iv rv i b) ∧ (f1 = none → ∀ b, ¬ ALV sk iv rv i b) := exf1
  refine c_astorer_n (r := f1) (lv2 := [(3, (va_rf f1)), (0, .ref a0), (1, .int (iI i)), (2, .int (iI j))]) C dX11_join_8 (by decide) rfl ?_
  refine c_aloadr_n (j := 0) (r := f1) C dX11_join_9 rfl ?_
  refine c_ifnull (r := f1) (tgt := 21) C dX11_join_10 (by decide) (fun oq1 => ?_) (fun ob1 oq1 => ?_)
  · subst oq1
    refine c_lv (lv2 := [(3, .null), (0, .ref a0), (1, .int (iI i)), (2, .int (iI j))]) [0, 1, 2, 3] rfl ?_
    refine c_st (st2 := []) rfl ?_
    refine c_aload_n (j := 1) (x := a0) C dX11_join_21 rfl ?_
    refine c_aloadr_n (j := 0) (r := none) C dX11_join_22 rfl ?_
    refine c_st (st2 := [.null, .ref a0]) rfl ?_
    refine c_ifnonnull (r := none) (tgt := 30) C dX11_join_23 (by decide) (fun _ q => by cases q) (fun _ => ?_)
    refine c_iconst C dX11_join_26 ?_
    refine c_goto (tgt := 31) C dX11_join_27 (by decide) ?_
    refine d_callV (As := [.int (iI 3)]) (rest := []) C hM (C_refuse (a0 := a0) (x := 3) hW hS t_a0 ⟨by decide, by decide⟩ ) dX11_join_31 kV_X11_102 rfl t_a0 rfl rfl (by decide) ck_12 rfl (Nat.le_of_ble_eq_true rfl) ⟨(Nat.le_of_ble_eq_true rfl), (Nat.le_of_ble_eq_true rfl)⟩ hph hph (show 0 + 0 = 0 from rfl) (by decide) (fun rh2 Lh2 clh2 lnh2 ivh2 rvh2 h2 => ?_)
    obtain ⟨f2, rfl, rfl, rfl, rfl, rfl, fl2, W2, rgf2, exf2, kp11f2, kp12f2, kp13f2, kp14f2, kp15f2, kp16f2⟩ := h2
    have ri2 : 1 ≤ iv a0 11 ∧ iv a0 11 ≤ 100 := hW.int t_a0 11
    have ri3 : 1 ≤ iv a0 12 ∧ iv a0 12 ≤ 50 := hW.int t_a0 12
    have ri4 : (-2147483648) ≤ iv a0 13 ∧ iv a0 13 ≤ 2147483647 := hW.int t_a0 13
    have ri5 : (-2147483648) ≤ iv a0 14 ∧ iv a0 14 ≤ 2147483647 := hW.int t_a0 14
    have ri6 : (-2147483648) ≤ iv a0 15 ∧ iv a0 15 ≤ 2147483647 := hW.int t_a0 15
    have ri7 : (-2147483648) ≤ iv a0 16 ∧ iv a0 16 ≤ 2147483647 := hW.int t_a0 16
    have F1 := hF0.call hX0 fl2 rfl
    have mr1 := MRK.call hmr hW hS XT.refl fl2 rfl rfl
    have kp2 := kp1.call TX.refl hW fl2 rfl
    refine c_st (st2 := [.int (iI f2)]) rfl ?_
    have gk11f2 : ivh2 a0 11 = iv a0 11 := kp11f2
    have gk12f2 : ivh2 a0 12 = iv a0 12 := kp12f2
    have gk13f2 : ivh2 a0 13 = iv a0 13 := kp13f2
    have gk14f2 : ivh2 a0 14 = iv a0 14 := kp14f2
    have gk15f2 : ivh2 a0 15 = iv a0 15 := kp15f2
    have gk16f2 : ivh2 a0 16 = iv a0 16 := kp16f2
    have gf2 : f2 = -1 := exf2
    have ri8 : 1 ≤ ivh2 a0 11 ∧ ivh2 a0 11 ≤ 100 := W2.int t_a0 11
    have ri9 : 1 ≤ ivh2 a0 12 ∧ ivh2 a0 12 ≤ 50 := W2.int t_a0 12
    have ri10 : (-2147483648) ≤ ivh2 a0 13 ∧ ivh2 a0 13 ≤ 2147483647 := W2.int t_a0 13
    have ri11 : (-2147483648) ≤ ivh2 a0 14 ∧ ivh2 a0 14 ≤ 2147483647 := W2.int t_a0 14
    have ri12 : (-2147483648) ≤ ivh2 a0 15 ∧ ivh2 a0 15 ≤ 2147483647 := W2.int t_a0 15
    have ri13 : (-2147483648) ≤ ivh2 a0 16 ∧ ivh2 a0 16 ≤ 2147483647 := W2.int t_a0 16
    have ri14 : 0 ≤ ivh2 (sk 23) 2 ∧ ivh2 (sk 23) 2 ≤ 512 := W2.int tsk23 2
    have ie7 : ivh2 (sk 23) 2 = iv (sk 23) 2 := fl2.i tsk23 rfl 2
    have ri15 : 0 ≤ ivh2 (sk 22) 2 ∧ ivh2 (sk 22) 2 ≤ 30 := W2.int tsk22 2
    have ie8 : ivh2 (sk 22) 2 = iv (sk 22) 2 := fl2.i tsk22 rfl 2
    exact c_iret C dX11_join_34 rfl (by decide) (rom0 hph hph (by decide)) ⟨f2, rfl, hX0, F1, W2, ⟨by omega, by omega⟩, ⟨(by omega), mr1⟩, (by omega), (by omega), (by omega), (by omega), (by omega), (by omega), (Or.inl ⟨by omega, PSAME.fr hW hS fl2 rfl rfl rfl rfl rfl rfl rfl, (fun q => by
        obtain ⟨t, h1, h2⟩ := q.2.1
        exact gf1.2 rfl t h1)⟩), (Or.inl ⟨by omega, kp2⟩), rfl, rfl⟩
  · subst oq1
    have tob1 := rgf1 ob1 rfl
    have akob1 := gf1.1 ob1 rfl
    refine c_lv (lv2 := [(3, .ref ob1), (0, .ref a0), (1, .int (iI i)), (2, .int (iI j))]) [0, 1, 2, 3] rfl ?_
    refine c_st (st2 := []) rfl ?_
    refine c_aload_n (j := 0) (x := ob1) C dX11_join_13 rfl ?_
    have ri16 : (-2147483648) ≤ iv ob1 0 ∧ iv ob1 0 ≤ 2147483647 := hW.int tob1 0
    refine c_get (k := 0) C ck_10 dX11_join_14 w2_176 (by decide) tob1 rfl rfl (by decide) rfl ?_
    refine c_iconst C dX11_join_17 ?_
    refine c_icmp_le (tgt := 35) C ⟨by omega, by omega⟩ ⟨by decide, by decide⟩ dX11_join_18 (by decide) (fun c1 => ?_) (fun c1 => ?_)
    · refine c_aload_n (j := 1) (x := a0) C dX11_join_35 rfl ?_
      refine c_getr (k := 4) C ck_12 dX11_join_36 w2_48 (by decide) t_a0 rfl rfl (by decide) rfl rq1 ?_
      refine c_st (st2 := [.ref (sk 13)]) rfl ?_
      refine c_iload_n (j := 3) C dX11_join_39 rfl ?_
      refine d_callV (As := [.int (iI j)]) (rest := []) C hM (C_alive (a0 := (sk 13)) (i := j) hW hS tsk13 (by omega) hmr) dX11_join_40 kV_X11_131 rfl tsk13 rfl rfl (by decide) ck_11 rfl (Nat.le_of_ble_eq_true rfl) ⟨(Nat.le_of_ble_eq_true rfl), (Nat.le_of_ble_eq_true rfl)⟩ hph hph (show 0 + 0 = 0 from rfl) (by decide) (fun rh3 Lh3 clh3 lnh3 ivh3 rvh3 h3 => ?_)
      obtain ⟨f3, rfl, rfl, rfl, rfl, rfl, rfl, rgf3, exf3⟩ := h3
      refine c_st (st2 := [(va_rf f3)]) rfl ?_
      have gf3 : (∀ b, f3 = some b → ((cl b : Nat) : Int) < 100 + iv (sk 22) 2 ∧ ALV sk iv rv j b) ∧ (f3 = none → ∀ b, ¬ ALV sk iv rv j b) := exf3
      refine c_astorer (r := f3) (lv2 := [(4, (va_rf f3)), (3, .ref ob1), (0, .ref a0), (1, .int (iI i)), (2, .int (iI j))]) C dX11_join_43 (by decide) rfl ?_
      refine c_aloadr (j := 0) (r := f3) C dX11_join_45 rfl ?_
      refine c_ifnull (r := f3) (tgt := 59) C dX11_join_47 (by decide) (fun oq2 => ?_) (fun ob2 oq2 => ?_)
      · subst oq2
        refine c_lv (lv2 := [(4, .null), (3, .ref ob1), (0, .ref a0), (1, .int (iI i)), (2, .int (iI j))]) [0, 1, 2, 3, 4] rfl ?_
        refine c_st (st2 := []) rfl ?_
        refine c_aload_n (j := 2) (x := a0) C dX11_join_59 rfl ?_
        refine c_aloadr (j := 0) (r := none) C dX11_join_60 rfl ?_
        refine c_st (st2 := [.null, .ref a0]) rfl ?_
        refine c_ifnonnull (r := none) (tgt := 69) C dX11_join_62 (by decide) (fun _ q => by cases q) (fun _ => ?_)
        refine c_iconst C dX11_join_65 ?_
        refine c_goto (tgt := 70) C dX11_join_66 (by decide) ?_
        refine d_callV (As := [.int (iI 3)]) (rest := []) C hM (C_refuse (a0 := a0) (x := 3) hW hS t_a0 ⟨by decide, by decide⟩ ) dX11_join_70 kV_X11_102 rfl t_a0 rfl rfl (by decide) ck_12 rfl (Nat.le_of_ble_eq_true rfl) ⟨(Nat.le_of_ble_eq_true rfl), (Nat.le_of_ble_eq_true rfl)⟩ hph hph (show 0 + 0 = 0 from rfl) (by decide) (fun rh4 Lh4 clh4 lnh4 ivh4 rvh4 h4 => ?_)
        obtain ⟨f4, rfl, rfl, rfl, rfl, rfl, fl4, W4, rgf4, exf4, kp11f4, kp12f4, kp13f4, kp14f4, kp15f4, kp16f4⟩ := h4
        have ri17 : 1 ≤ iv a0 11 ∧ iv a0 11 ≤ 100 := hW.int t_a0 11
        have ri18 : 1 ≤ iv a0 12 ∧ iv a0 12 ≤ 50 := hW.int t_a0 12
        have ri19 : (-2147483648) ≤ iv a0 13 ∧ iv a0 13 ≤ 2147483647 := hW.int t_a0 13
        have ri20 : (-2147483648) ≤ iv a0 14 ∧ iv a0 14 ≤ 2147483647 := hW.int t_a0 14
        have ri21 : (-2147483648) ≤ iv a0 15 ∧ iv a0 15 ≤ 2147483647 := hW.int t_a0 15
        have ri22 : (-2147483648) ≤ iv a0 16 ∧ iv a0 16 ≤ 2147483647 := hW.int t_a0 16
        have F2 := hF0.call hX0 fl4 rfl
        have mr2 := MRK.call hmr hW hS XT.refl fl4 rfl rfl
        have kp3 := kp1.call TX.refl hW fl4 rfl
        refine c_st (st2 := [.int (iI f4)]) rfl ?_
        have gk11f4 : ivh4 a0 11 = iv a0 11 := kp11f4
        have gk12f4 : ivh4 a0 12 = iv a0 12 := kp12f4
        have gk13f4 : ivh4 a0 13 = iv a0 13 := kp13f4
        have gk14f4 : ivh4 a0 14 = iv a0 14 := kp14f4
        have gk15f4 : ivh4 a0 15 = iv a0 15 := kp15f4
        have gk16f4 : ivh4 a0 16 = iv a0 16 := kp16f4
        have gf4 : f4 = -1 := exf4
        have ri23 : 1 ≤ ivh4 a0 11 ∧ ivh4 a0 11 ≤ 100 := W4.int t_a0 11
        have ri24 : 1 ≤ ivh4 a0 12 ∧ ivh4 a0 12 ≤ 50 := W4.int t_a0 12
        have ri25 : (-2147483648) ≤ ivh4 a0 13 ∧ ivh4 a0 13 ≤ 2147483647 := W4.int t_a0 13
        have ri26 : (-2147483648) ≤ ivh4 a0 14 ∧ ivh4 a0 14 ≤ 2147483647 := W4.int t_a0 14
        have ri27 : (-2147483648) ≤ ivh4 a0 15 ∧ ivh4 a0 15 ≤ 2147483647 := W4.int t_a0 15
        have ri28 : (-2147483648) ≤ ivh4 a0 16 ∧ ivh4 a0 16 ≤ 2147483647 := W4.int t_a0 16
        have ri29 : 0 ≤ ivh4 (sk 23) 2 ∧ ivh4 (sk 23) 2 ≤ 512 := W4.int tsk23 2
        have ie15 : ivh4 (sk 23) 2 = iv (sk 23) 2 := fl4.i tsk23 rfl 2
        have ri30 : 0 ≤ ivh4 (sk 22) 2 ∧ ivh4 (sk 22) 2 ≤ 30 := W4.int tsk22 2
        have ie16 : ivh4 (sk 22) 2 = iv (sk 22) 2 := fl4.i tsk22 rfl 2
        have ri31 : (-2147483648) ≤ ivh4 ob1 0 ∧ ivh4 ob1 0 ≤ 2147483647 := W4.int tob1 0
        have ie17 : ivh4 ob1 0 = iv ob1 0 := fl4.i tob1 rfl 0
        have ri32 : (-2147483648) ≤ ivh4 ob1 1 ∧ ivh4 ob1 1 ≤ 2147483647 := W4.int tob1 1
        have ie18 : ivh4 ob1 1 = iv ob1 1 := fl4.i tob1 rfl 1
        exact c_iret C dX11_join_73 rfl (by decide) (rom0 hph hph (by decide)) ⟨f4, rfl, hX0, F2, W4, ⟨by omega, by omega⟩, ⟨(by omega), mr2⟩, (by omega), (by omega), (by omega), (by omega), (by omega), (by omega), (Or.inl ⟨by omega, PSAME.fr hW hS fl4 rfl rfl rfl rfl rfl rfl rfl, (fun q => by
            obtain ⟨t, h1, h2⟩ := q.2.2
            exact gf3.2 rfl t h1)⟩), (Or.inl ⟨by omega, kp3⟩), rfl, rfl⟩
      · subst oq2
        have tob2 := rgf3 ob2 rfl
        have akob2 := gf3.1 ob2 rfl
        refine c_lv (lv2 := [(4, .ref ob2), (3, .ref ob1), (0, .ref a0), (1, .int (iI i)), (2, .int (iI j))]) [0, 1, 2, 3, 4] rfl ?_
        refine c_st (st2 := []) rfl ?_
        refine c_aload (j := 0) (x := ob2) C dX11_join_50 rfl ?_
        have ri33 : (-2147483648) ≤ iv ob2 0 ∧ iv ob2 0 ≤ 2147483647 := hW.int tob2 0
        refine c_get (k := 0) C ck_10 dX11_join_52 w2_176 (by decide) tob2 rfl rfl (by decide) rfl ?_
        refine c_iconst C dX11_join_55 ?_
        refine c_icmp_le (tgt := 74) C ⟨by omega, by omega⟩ ⟨by decide, by decide⟩ dX11_join_56 (by decide) (fun c2 => ?_) (fun c2 => ?_)
        · refine c_aload_n (j := 2) (x := a0) C dX11_join_74 rfl ?_
          refine c_getr (k := 4) C ck_12 dX11_join_75 w2_48 (by decide) t_a0 rfl rfl (by decide) rfl rq1 ?_
          refine c_st (st2 := [.ref (sk 13)]) rfl ?_
          refine d_callV (As := []) (rest := []) C hM (C_isFull (a0 := (sk 13)) hW hS tsk13  ) dX11_join_78 kV_X11_118 rfl tsk13 rfl rfl (by decide) ck_11 rfl (Nat.le_of_ble_eq_true rfl) ⟨(Nat.le_of_ble_eq_true rfl), (Nat.le_of_ble_eq_true rfl)⟩ hph hph (show 0 + 0 = 0 from rfl) (by decide) (fun rh5 Lh5 clh5 lnh5 ivh5 rvh5 h5 => ?_)
          obtain ⟨f5, rfl, rfl, rfl, rfl, rfl, rfl, rgf5, exf5⟩ := h5
          refine c_st (st2 := [.int (iI f5)]) rfl ?_
          have gf5 : (f5 = 1 ∧ 30 ≤ iv (sk 22) 2) ∨ (f5 = 0 ∧ iv (sk 22) 2 < 30) := exf5
          refine c_if_eq (tgt := 91) C ⟨by omega, by omega⟩ dX11_join_81 (by decide) (fun c3 => ?_) (fun c3 => ?_)
          · refine c_aload_n (j := 2) (x := a0) C dX11_join_91 rfl ?_
            refine c_aload_n (j := 2) (x := a0) C dX11_join_92 rfl ?_
            refine c_getr (k := 4) C ck_12 dX11_join_93 w2_48 (by decide) t_a0 rfl rfl (by decide) rfl rq1 ?_
            refine c_st (st2 := [.ref (sk 13), .ref a0]) rfl ?_
            refine c_new C ck_10 dv_10 ⟨rfl, rfl⟩ rfl (by decide) dX11_join_96 w2_162 w2_163 w1_16 (rom2 hph hph (by decide)) (fun qn1 cln1 lnn1 ivn1 rvn1 hqn1 hcn1 hln1 hin1 hrn1 => ⟨24, (p_in (Phi.new hW hS hqn1 (fun b _ => by rw [hln1]) hrn1) (by omega)), ?_⟩)
            refine c_g0 C (fun hg1 => ?_)
            have hxn1 : ∀ b, b ≠ qn1 → lnn1 b = ln b := (fun b _ => by rw [hln1])
            have W6 := hW.new (ln2 := lnn1) hqn1 (hg1 qn1 (List.mem_append_right _ List.mem_cons_self)) hcn1 hxn1 hin1 hrn1 (fun _ => ⟨(show (-2147483648 : Int) ≤ 0 by decide), (show (0 : Int) ≤ 2147483647 by decide)⟩) (Or.inl rfl) (fun q => by cases q) rfl rfl
            have xl6 := XT.new hqn1 hcn1 hxn1
            have X1 := hX0.trans xl6
            have sk1 := xl6.skl hS
            have F3 := hF0.new hX0 hqn1 hin1 hrn1
            have mr3 := MRK.call hmr hW hS xl6 ((fT.refl (ls := [])).new (XT.refl (ln := ln)) hqn1 hin1 hrn1) rfl rfl
            have tqn1 : ty (L ++ [qn1]) cln1 qn1 210 := ty_new hcn1
            have kp4 := kp1.new TX.refl hW hqn1 hin1 hrn1
            have h0qn1 : qn1 ∉ L := fun h => hqn1 ((hX0 qn1 h).1)
            refine c_dup C dX11_join_99 rfl ?_
            refine c_iconst C dX11_join_100 ?_
            refine c_aload_n (j := 1) (x := ob1) C dX11_join_101 rfl ?_
            have ty1 := xl6.ty tob1
            have ri34 : (-2147483648) ≤ ivn1 ob1 1 ∧ ivn1 ob1 1 ≤ 2147483647 := W6.int ty1 1
            have ie19 : ivn1 ob1 1 = iv ob1 1 := by rw [hin1]; exact congrFun (up0_a (ne_in tob1.1 hqn1)) _
            refine c_get (k := 1) C ck_10 dX11_join_102 w2_179 (by decide) ty1 rfl rfl (by decide) rfl ?_
            refine c_aload (j := 0) (x := ob2) C dX11_join_105 rfl ?_
            have ty2 := xl6.ty tob2
            have ri35 : (-2147483648) ≤ ivn1 ob2 1 ∧ ivn1 ob2 1 ≤ 2147483647 := W6.int ty2 1
            have ie20 : ivn1 ob2 1 = iv ob2 1 := by rw [hin1]; exact congrFun (up0_a (ne_in tob2.1 hqn1)) _
            refine c_get (k := 1) C ck_10 dX11_join_107 w2_179 (by decide) ty2 rfl rfl (by decide) rfl ?_
            obtain ⟨mn1, hmn1, emn1⟩ := mmax_c (x := ivn1 ob1 1) (y := ivn1 ob2 1) ⟨by omega, by omega⟩ ⟨by omega, by omega⟩
            have pl1 := Phi.le W6 sk1
            refine c_mmax (w := iI mn1) C dX11_join_110 w3_93 w2_148 w1_14 w2_149 (by decide) (rom0 hph pl1 (by decide)) (Nat.le_of_ble_eq_true rfl) emn1 ?_
            refine c_aload_n (j := 1) (x := ob1) C dX11_join_113 rfl ?_
            refine c_aload (j := 0) (x := ob2) C dX11_join_114 rfl ?_
            refine c_callI (As := [.int (iI 5), .int (iI mn1), .ref ob1, .ref ob2]) (rest := [.ref qn1, .ref (sk 13), .ref a0]) C hM (Z_table (a0 := qn1) (i := 5) (n := mn1) (r := (some ob1)) (r2 := (some ob2)) W6 sk1 tqn1 (fun _ q => by cases q; exact ty1) (fun _ q => by cases q; exact ty2) ⟨by decide, by decide⟩ (by omega) ) dX11_join_116 kI_X11_124 rfl rfl (Nat.le_of_ble_eq_true rfl) ⟨(Nat.le_of_ble_eq_true rfl), (Nat.le_of_ble_eq_true rfl)⟩ (rz1 hph pl1 (by decide)) (fun rh6 Lh6 clh6 lnh6 ivh6 rvh6 h6 => ⟨114, (zk1 (by obtain ⟨_, xlh6x, flh6x, Wh6x, _⟩ := h6; exact Phi.fr W6 sk1 xlh6x flh6x rfl)), ?_⟩)
            obtain ⟨rfl, xl7, fl6, W7, exf6⟩ := h6
            have F4 := F3.call X1 fl6 rfl
            have mr4 := MRK.call mr3 W6 sk1 xl7 fl6 rfl rfl
            have tx1 := TX.xt TX.refl xl6
            have kp5 := kp4.call tx1 W6 fl6 rfl
            have ty3 := xl6.ty t_a0
            have ty4 := xl6.ty tsk2
            have ty5 := xl6.ty tsk3
            have ty6 := xl6.ty tsk4
            have ty7 := xl6.ty tsk5
            have ty8 := xl6.ty tsk13
            have ty9 := xl6.ty tsk14
            have ty10 := xl6.ty tsk15
            have ty11 := xl6.ty tsk16
            have ty12 := xl6.ty tsk17
            have ty13 := xl6.ty tsk22
            have ty14 := xl6.ty tsk23
            have X2 := X1.trans xl7
            have sk2 := xl7.skl sk1
            refine c_st (st2 := [.ref qn1, .ref (sk 13), .ref a0]) rfl ?_
            obtain ⟨b4exf6, b5exf6, b6exf6, exf6x, exf6r4, exf6t4, exf6r5, exf6t5, exf6r6, exf6t6, exf6r2, exf6r3, exf6i7, exf6i0, exf6i1, exf6nn, exf6zz, exf6n5, exf6n6, ⟨x5exf6, exf6rx, exf6tx, exf6nx⟩, exf6z5, exf6nn6⟩ := exf6
            have rn1 : ∀ k, ([2, 3, 4, 5, 6] : List Nat).contains k = false → rvh6 qn1 k = none := fun k hk => (Eq.trans (show rvh6 qn1 k = rvn1 qn1 k from (exf6x k hk)) (show rvn1 qn1 k = none from (by rw [hrn1]; exact up0_s)))
            have ty15 := xl7.ty ty13
            have ri36 : 0 ≤ ivh6 (sk 22) 2 ∧ ivh6 (sk 22) 2 ≤ 30 := W7.int ty15 2
            have ie21 : ivh6 (sk 22) 2 = ivn1 (sk 22) 2 := fl6.i ty13 rfl 2
            have ie22 : ivn1 (sk 22) 2 = iv (sk 22) 2 := by rw [hin1]; exact congrFun (up0_a (ne_in tsk22.1 hqn1)) _
            have ty16 := xl7.ty ty1
            have ce1 : cln1 ob1 = cl ob1 := (xl6 ob1 tob1.1).2.1
            have ce2 : clh6 ob1 = cln1 ob1 := (xl7 ob1 ty1.1).2.1
            have ty17 := xl7.ty ty2
            have ce3 : cln1 ob2 = cl ob2 := (xl6 ob2 tob2.1).2.1
            have ce4 : clh6 ob2 = cln1 ob2 := (xl7 ob2 ty2.1).2.1
            have ty18 := xl7.ty tqn1
            have btexf6 : bt (100 + (ivh6 (sk 22) 2).toNat) = 100 := bt_tab (by omega)
            refine c_retag (q := qn1) (t := (100 + (ivh6 (sk 22) 2).toNat)) (by rw [ty18.2, btexf6]; rfl) (fun clr1 hcr1 => ?_)
            have ty19 := xl7.ty ty3
            have ty20 := ty_rt ty19 hcr1 (ne_ty ty19 ty18 (by decide))
            have ty21 := xl7.ty ty4
            have ty22 := ty_rt ty21 hcr1 (ne_ty ty21 ty18 (by decide))
            have ty23 := xl7.ty ty5
            have ty24 := ty_rt ty23 hcr1 (ne_ty ty23 ty18 (by decide))
            have ty25 := xl7.ty ty6
            have ty26 := ty_rt ty25 hcr1 (ne_ty ty25 ty18 (by decide))
            have ty27 := xl7.ty ty7
            have ty28 := ty_rt ty27 hcr1 (ne_ty ty27 ty18 (by decide))
            have ty29 := xl7.ty ty8
            have ty30 := ty_rt ty29 hcr1 (ne_ty ty29 ty18 (by decide))
            have ty31 := xl7.ty ty9
            have ty32 := ty_rt ty31 hcr1 (ne_ty ty31 ty18 (by decide))
            have ty33 := xl7.ty ty10
            have ty34 := ty_rt ty33 hcr1 (ne_ty ty33 ty18 (by decide))
            have ty35 := xl7.ty ty11
            have ty36 := ty_rt ty35 hcr1 (ne_ty ty35 ty18 (by decide))
            have ty37 := xl7.ty ty12
            have ty38 := ty_rt ty37 hcr1 (ne_ty ty37 ty18 (by decide))
            have ty39 := ty_rt ty15 hcr1 (ne_ty ty15 ty18 (by decide))
            have ty40 := xl7.ty ty14
            have ty41 := ty_rt ty40 hcr1 (ne_ty ty40 ty18 (by decide))
            have ty42 := ty_rt ty16 hcr1 (ne_ty ty16 ty18 (by decide))
            have ty43 := ty_rt ty17 hcr1 (ne_ty ty17 ty18 (by decide))
            have ty44 := ty_rt exf6t4 hcr1 (ne_ty exf6t4 ty18 (by decide))
            have ty45 := ty_rt exf6t5 hcr1 (ne_ty exf6t5 ty18 (by decide))
            have ty46 := ty_rt exf6t6 hcr1 (ne_ty exf6t6 ty18 (by decide))
            have ty47 := ty_rt exf6tx hcr1 (ne_ty exf6tx ty18 (by decide))
            have tqr1 : ty Lh6 clr1 qn1 100 := ⟨ty18.1, by rw [hcr1, va_up_self]; exact btexf6⟩
            have W8 := W7.retag ty18.1 (by rw [ty18.2]; rfl) hcr1 (fun k => by
                  rcases k with _ | _ | _ | _ | _ | _ | _ | _ | k
                  · rw [btexf6]; exact W7.int ty18 0
                  · rw [btexf6]; exact W7.int ty18 1
                  · rw [btexf6]; exact W7.int ty18 2
                  · rw [btexf6]; exact W7.int ty18 3
                  · rw [btexf6]; exact W7.int ty18 4
                  · rw [btexf6]; exact W7.int ty18 5
                  · rw [btexf6]; exact W7.int ty18 6
                  · rw [btexf6]; exact ⟨(by show 0 ≤ ivh6 qn1 7; omega), (by show ivh6 qn1 7 ≤ 1; omega)⟩
                  · rw [btexf6]; exact W7.int ty18 (k + 8)) (fun k => by
                  rcases k with _ | _ | _ | _ | _ | _ | _ | _ | k
                  · rw [rn1 0 (by decide)]; exact rok_none tqr1 rfl
                  · rw [rn1 1 (by decide)]; exact rok_none tqr1 rfl
                  · rw [exf6r2]; exact rok_tab tqr1 (by decide) (fun _ q => by cases q; exact ⟨ty42, by rw [hcr1, va_up_self, va_up_ne _ _ (ne_ty ty16 ty18 (by decide))]; omega⟩)
                  · rw [exf6r3]; exact rok_tab tqr1 (by decide) (fun _ q => by cases q; exact ⟨ty43, by rw [hcr1, va_up_self, va_up_ne _ _ (ne_ty ty17 ty18 (by decide))]; omega⟩)
                  · rw [exf6r4]; exact rok_tb tqr1 ty44 (by decide) rfl
                  · rw [exf6r5]; exact rok_tb tqr1 ty45 (by decide) rfl
                  · rw [exf6r6]; exact rok_tb tqr1 ty46 (by decide) rfl
                  · rw [rn1 7 (by decide)]; exact rok_none tqr1 rfl
                  · rw [rn1 (k + 8) (by simp)]; exact rok_none tqr1 rfl) (by rw [btexf6]; rfl) (fun z => by rw [btexf6] at z; cases z) (fun z => by rw [btexf6] at z; cases z) uq_tab
            have X3 := X2.rt hcr1 h0qn1
            have sk3 := sk2.rt hcr1 (by rw [ty18.2]; rfl)
            have mr5 := MRK.rt mr4 W7 sk2 hcr1 (by rw [ty18.2]; rfl)
            have on1 := fun b hb => xl6.ty (rgf1 b hb)
            have on2 := fun b hb => xl7.ty (on1 b hb)
            have on3 := fun b hb => ty_rt (on2 b hb) hcr1 (ne_ty (on2 b hb) ty18 (by decide))
            have on4 := fun b hb => xl6.ty (rgf3 b hb)
            have on5 := fun b hb => xl7.ty (on4 b hb)
            have on6 := fun b hb => ty_rt (on5 b hb) hcr1 (ne_ty (on5 b hb) ty18 (by decide))
            have cqexf6 : clr1 qn1 = (100 + (ivh6 (sk 22) 2).toNat) := by rw [hcr1]; exact va_up_self _ _ _
            have tm1a : ∀ i : Nat, (i : Int) < iv (sk 22) 2 → el rvh6 (sk 22) i = el rv (sk 22) i := (fun i hi => el_ch hW (tysk22 hS) rfl rfl ((show ∀ bb, ty L cl bb 22 → rvh6 bb 1 = rv bb 1 from fun bb tbb => by have tb1 := xl6.ty tbb; exact (Eq.trans (show rvh6 bb 1 = rvn1 bb 1 from (fl6.r tb1 rfl 1)) (show rvn1 bb 1 = rv bb 1 from (by rw [hrn1]; exact congrFun (up0_a (ne_in tbb.1 hqn1)) _)))) (sk 22) (tysk22 hS)) (fun bb tbb kk => by have tb1 := xl6.ty tbb; exact (Eq.trans (show rvh6 bb kk = rvn1 bb kk from (fl6.r tb1 rfl kk)) (show rvn1 bb kk = rv bb kk from (by rw [hrn1]; exact congrFun (up0_a (ne_in tbb.1 hqn1)) _)))) hi)
            have tm1b : CS0 (iv (sk 23) 2) sk iv rv ivh6 rvh6 := CS0.of hW hS (Int.le_refl _) (fun i hi => el_ch hW (tysk23 hS) rfl rfl ((show ∀ bb, ty L cl bb 23 → rvh6 bb 1 = rv bb 1 from fun bb tbb => by have tb1 := xl6.ty tbb; exact (Eq.trans (show rvh6 bb 1 = rvn1 bb 1 from (fl6.r tb1 rfl 1)) (show rvn1 bb 1 = rv bb 1 from (by rw [hrn1]; exact congrFun (up0_a (ne_in tbb.1 hqn1)) _)))) (sk 23) (tysk23 hS)) (fun bb tbb kk => by have tb1 := xl6.ty tbb; exact (Eq.trans (show rvh6 bb kk = rvn1 bb kk from (fl6.r tb1 rfl kk)) (show rvn1 bb kk = rv bb kk from (by rw [hrn1]; exact congrFun (up0_a (ne_in tbb.1 hqn1)) _)))) hi) (fun bb tbb => by have tb1 := xl6.ty tbb; exact (Eq.trans (show ivh6 bb 0 = ivn1 bb 0 from (fl6.i tb1 rfl 0)) (show ivn1 bb 0 = iv bb 0 from (by rw [hin1]; exact congrFun (up0_a (ne_in tbb.1 hqn1)) _)))) (fun bb tbb => by have tb1 := xl6.ty tbb; exact (Eq.trans (show rvh6 bb 1 = rvn1 bb 1 from (fl6.r tb1 rfl 1)) (show rvn1 bb 1 = rv bb 1 from (by rw [hrn1]; exact congrFun (up0_a (ne_in tbb.1 hqn1)) _))))
            have ri37 : 0 ≤ ivh6 (sk 23) 2 ∧ ivh6 (sk 23) 2 ≤ 512 := W8.int ty41 2
            have ie23 : ivh6 (sk 23) 2 = ivn1 (sk 23) 2 := fl6.i ty14 rfl 2
            have ie24 : ivn1 (sk 23) 2 = iv (sk 23) 2 := by rw [hin1]; exact congrFun (up0_a (ne_in tsk23.1 hqn1)) _
            have pl2 := Phi.le W8 sk3
            refine d_callV (As := [.ref qn1]) (rest := [.ref a0]) C hM (C_make (a0 := (sk 13)) (a1 := qn1) W8 sk3 ty30 tqr1  mr5 (by show ivh6 (sk 22) 2 < 30 ∧ ivh6 (sk 23) 2 < 512 ∧ ((clr1 qn1 : Nat) : Int) ≤ 100 + ivh6 (sk 22) 2; omega)) dX11_join_119 kV_X11_127 rfl ty30 rfl rfl (by decide) ck_11 rfl (Nat.le_of_ble_eq_true rfl) ⟨(Nat.le_of_ble_eq_true rfl), (Nat.le_of_ble_eq_true rfl)⟩ hph pl2 (show 114 + 1320 = 1434 from rfl) (by decide) (fun rh7 Lh7 clh7 lnh7 ivh7 rvh7 h7 => ?_)
            obtain ⟨f7, rfl, xl8, fl7, W9, rgf7, exf7, mkef7⟩ := h7
            have F5 := F4.call X3 fl7 rfl
            have tx2 := TX.xt tx1 xl7
            have tx3 := TX.rt tx2 hcr1 ty18 rfl
            have kp6 := kp5.call tx3 W8 fl7 rfl
            have X4 := X3.trans xl8
            have sk4 := xl8.skl sk3
            refine c_st (st2 := [.int (iI f7), .ref a0]) rfl ?_
            have ty48 := xl8.ty ty39
            have ri38 : 0 ≤ ivh7 (sk 22) 2 ∧ ivh7 (sk 22) 2 ≤ 30 := W9.int ty48 2
            have ty49 := xl8.ty ty41
            have ri39 : 0 ≤ ivh7 (sk 23) 2 ∧ ivh7 (sk 23) 2 ≤ 512 := W9.int ty49 2
            have gf7 : f7 = ivh6 (sk 22) 2 ∧ ivh7 (sk 22) 2 = ivh6 (sk 22) 2 + 1 ∧ ivh7 (sk 23) 2 = ivh6 (sk 23) 2 + 1 ∧ MRK sk clh7 ivh7 rvh7 := exf7
            have ty50 := xl8.ty ty20
            have pl3 := Phi.le W9 sk4
            refine d_callV (As := [.int (iI f7)]) (rest := []) C hM (C_done (a0 := a0) (x := f7) W9 sk4 ty50 (by omega) ) dX11_join_122 kV_X11_109 rfl ty50 rfl rfl (by decide) ck_12 rfl (Nat.le_of_ble_eq_true rfl) ⟨(Nat.le_of_ble_eq_true rfl), (Nat.le_of_ble_eq_true rfl)⟩ hph pl3 (show 1434 + 0 = 1434 from rfl) (by decide) (fun rh8 Lh8 clh8 lnh8 ivh8 rvh8 h8 => ?_)
            obtain ⟨f8, rfl, rfl, rfl, rfl, rfl, fl8, W10, rgf8, exf8, kp11f8, kp12f8, kp13f8, kp14f8, kp15f8, kp16f8⟩ := h8
            have ri40 : 1 ≤ ivh7 a0 11 ∧ ivh7 a0 11 ≤ 100 := W9.int ty50 11
            have ie27 : ivh7 a0 11 = ivh6 a0 11 := fl7.i ty20 rfl 11
            have ie28 : ivh6 a0 11 = ivn1 a0 11 := fl6.i ty3 rfl 11
            have ie29 : ivn1 a0 11 = iv a0 11 := by rw [hin1]; exact congrFun (up0_a (ne_in t_a0.1 hqn1)) _
            have ri41 : 1 ≤ ivh7 a0 12 ∧ ivh7 a0 12 ≤ 50 := W9.int ty50 12
            have ie30 : ivh7 a0 12 = ivh6 a0 12 := fl7.i ty20 rfl 12
            have ie31 : ivh6 a0 12 = ivn1 a0 12 := fl6.i ty3 rfl 12
            have ie32 : ivn1 a0 12 = iv a0 12 := by rw [hin1]; exact congrFun (up0_a (ne_in t_a0.1 hqn1)) _
            have ri42 : (-2147483648) ≤ ivh7 a0 13 ∧ ivh7 a0 13 ≤ 2147483647 := W9.int ty50 13
            have ie33 : ivh7 a0 13 = ivh6 a0 13 := fl7.i ty20 rfl 13
            have ie34 : ivh6 a0 13 = ivn1 a0 13 := fl6.i ty3 rfl 13
            have ie35 : ivn1 a0 13 = iv a0 13 := by rw [hin1]; exact congrFun (up0_a (ne_in t_a0.1 hqn1)) _
            have ri43 : (-2147483648) ≤ ivh7 a0 14 ∧ ivh7 a0 14 ≤ 2147483647 := W9.int ty50 14
            have ie36 : ivh7 a0 14 = ivh6 a0 14 := fl7.i ty20 rfl 14
            have ie37 : ivh6 a0 14 = ivn1 a0 14 := fl6.i ty3 rfl 14
            have ie38 : ivn1 a0 14 = iv a0 14 := by rw [hin1]; exact congrFun (up0_a (ne_in t_a0.1 hqn1)) _
            have ri44 : (-2147483648) ≤ ivh7 a0 15 ∧ ivh7 a0 15 ≤ 2147483647 := W9.int ty50 15
            have ie39 : ivh7 a0 15 = ivh6 a0 15 := fl7.i ty20 rfl 15
            have ie40 : ivh6 a0 15 = ivn1 a0 15 := fl6.i ty3 rfl 15
            have ie41 : ivn1 a0 15 = iv a0 15 := by rw [hin1]; exact congrFun (up0_a (ne_in t_a0.1 hqn1)) _
            have ri45 : (-2147483648) ≤ ivh7 a0 16 ∧ ivh7 a0 16 ≤ 2147483647 := W9.int ty50 16
            have ie42 : ivh7 a0 16 = ivh6 a0 16 := fl7.i ty20 rfl 16
            have ie43 : ivh6 a0 16 = ivn1 a0 16 := fl6.i ty3 rfl 16
            have ie44 : ivn1 a0 16 = iv a0 16 := by rw [hin1]; exact congrFun (up0_a (ne_in t_a0.1 hqn1)) _
            have F6 := F5.call X4 fl8 rfl
            have mr6 := MRK.call exf7.2.2.2 W9 sk4 XT.refl fl8 rfl rfl
            have tx4 := TX.xt tx3 xl8
            have kp7 := kp6.call tx4 W9 fl8 rfl
            refine c_st (st2 := [.int (iI f8)]) rfl ?_
            have gk11f8 : ivh8 a0 11 = ivh7 a0 11 := kp11f8
            have gk12f8 : ivh8 a0 12 = ivh7 a0 12 := kp12f8
            have gk13f8 : ivh8 a0 13 = ivh7 a0 13 := kp13f8
            have gk14f8 : ivh8 a0 14 = ivh7 a0 14 := kp14f8
            have gk15f8 : ivh8 a0 15 = ivh7 a0 15 := kp15f8
            have gk16f8 : ivh8 a0 16 = ivh7 a0 16 := kp16f8
            have gf8 : f8 = f7 := exf8
            have ri46 : 1 ≤ ivh8 a0 11 ∧ ivh8 a0 11 ≤ 100 := W10.int ty50 11
            have ri47 : 1 ≤ ivh8 a0 12 ∧ ivh8 a0 12 ≤ 50 := W10.int ty50 12
            have ri48 : (-2147483648) ≤ ivh8 a0 13 ∧ ivh8 a0 13 ≤ 2147483647 := W10.int ty50 13
            have ri49 : (-2147483648) ≤ ivh8 a0 14 ∧ ivh8 a0 14 ≤ 2147483647 := W10.int ty50 14
            have ri50 : (-2147483648) ≤ ivh8 a0 15 ∧ ivh8 a0 15 ≤ 2147483647 := W10.int ty50 15
            have ri51 : (-2147483648) ≤ ivh8 a0 16 ∧ ivh8 a0 16 ≤ 2147483647 := W10.int ty50 16
            have ri52 : 0 ≤ ivh8 (sk 23) 2 ∧ ivh8 (sk 23) 2 ≤ 512 := W10.int ty49 2
            have ie51 : ivh8 (sk 23) 2 = ivh7 (sk 23) 2 := fl8.i ty49 rfl 2
            have ri53 : 0 ≤ ivh8 (sk 22) 2 ∧ ivh8 (sk 22) 2 ≤ 30 := W10.int ty48 2
            have ie52 : ivh8 (sk 22) 2 = ivh7 (sk 22) 2 := fl8.i ty48 rfl 2
            have ty51 := xl8.ty ty42
            have ri54 : (-2147483648) ≤ ivh8 ob1 0 ∧ ivh8 ob1 0 ≤ 2147483647 := W10.int ty51 0
            have ie53 : ivh8 ob1 0 = ivh7 ob1 0 := fl8.i ty51 rfl 0
            have ie54 : ivh7 ob1 0 = ivh6 ob1 0 := fl7.i ty42 rfl 0
            have ie55 : ivh6 ob1 0 = ivn1 ob1 0 := fl6.i ty1 rfl 0
            have ie56 : ivn1 ob1 0 = iv ob1 0 := by rw [hin1]; exact congrFun (up0_a (ne_in tob1.1 hqn1)) _
            have ri55 : (-2147483648) ≤ ivh8 ob1 1 ∧ ivh8 ob1 1 ≤ 2147483647 := W10.int ty51 1
            have ie57 : ivh8 ob1 1 = ivh7 ob1 1 := fl8.i ty51 rfl 1
            have ie58 : ivh7 ob1 1 = ivh6 ob1 1 := fl7.i ty42 rfl 1
            have ie59 : ivh6 ob1 1 = ivn1 ob1 1 := fl6.i ty1 rfl 1
            have ty52 := xl8.ty ty43
            have ri56 : (-2147483648) ≤ ivh8 ob2 0 ∧ ivh8 ob2 0 ≤ 2147483647 := W10.int ty52 0
            have ie60 : ivh8 ob2 0 = ivh7 ob2 0 := fl8.i ty52 rfl 0
            have ie61 : ivh7 ob2 0 = ivh6 ob2 0 := fl7.i ty43 rfl 0
            have ie62 : ivh6 ob2 0 = ivn1 ob2 0 := fl6.i ty2 rfl 0
            have ie63 : ivn1 ob2 0 = iv ob2 0 := by rw [hin1]; exact congrFun (up0_a (ne_in tob2.1 hqn1)) _
            have ri57 : (-2147483648) ≤ ivh8 ob2 1 ∧ ivh8 ob2 1 ≤ 2147483647 := W10.int ty52 1
            have ie64 : ivh8 ob2 1 = ivh7 ob2 1 := fl8.i ty52 rfl 1
            have ie65 : ivh7 ob2 1 = ivh6 ob2 1 := fl7.i ty43 rfl 1
            have ie66 : ivh6 ob2 1 = ivn1 ob2 1 := fl6.i ty2 rfl 1
            have mx9 : max (iv ob1 1) (iv ob2 1) = mn1 := by omega
            have ty53 := xl8.ty tqr1
            have ri58 : (-2147483648) ≤ ivh8 qn1 0 ∧ ivh8 qn1 0 ≤ 2147483647 := W10.int ty53 0
            have ie67 : ivh8 qn1 0 = ivh7 qn1 0 := fl8.i ty53 rfl 0
            have ie68 : ivh7 qn1 0 = ivh6 qn1 0 := fl7.i tqr1 rfl 0
            have ri59 : (-2147483648) ≤ ivh8 qn1 1 ∧ ivh8 qn1 1 ≤ 2147483647 := W10.int ty53 1
            have ie69 : ivh8 qn1 1 = ivh7 qn1 1 := fl8.i ty53 rfl 1
            have ie70 : ivh7 qn1 1 = ivh6 qn1 1 := fl7.i tqr1 rfl 1
            have ri60 : 0 ≤ ivh8 qn1 7 ∧ ivh8 qn1 7 ≤ 1 := W10.int ty53 7
            have ie71 : ivh8 qn1 7 = ivh7 qn1 7 := fl8.i ty53 rfl 7
            have ie72 : ivh7 qn1 7 = ivh6 qn1 7 := fl7.i tqr1 rfl 7
            have ty54 := xl8.ty ty44
            have ri61 : 0 ≤ ivh8 b4exf6 2 ∧ ivh8 b4exf6 2 ≤ 200 := W10.int ty54 2
            have ie73 : ivh8 b4exf6 2 = ivh7 b4exf6 2 := fl8.i ty54 rfl 2
            have ie74 : ivh7 b4exf6 2 = ivh6 b4exf6 2 := fl7.i ty44 rfl 2
            have re1 : rvh7 qn1 4 = rvh6 qn1 4 := (fl7.r tqr1 rfl 4)
            rw [exf6r4] at re1
            have re2 : rvh7 qn1 5 = rvh6 qn1 5 := (fl7.r tqr1 rfl 5)
            rw [exf6r5] at re2
            have re3 : rvh7 qn1 6 = rvh6 qn1 6 := (fl7.r tqr1 rfl 6)
            rw [exf6r6] at re3
            have ty55 := xl8.ty ty45
            have ri62 : 0 ≤ ivh8 b5exf6 2 ∧ ivh8 b5exf6 2 ≤ 200 := W10.int ty55 2
            have ie76 : ivh8 b5exf6 2 = ivh7 b5exf6 2 := fl8.i ty55 rfl 2
            have ie77 : ivh7 b5exf6 2 = ivh6 b5exf6 2 := fl7.i ty45 rfl 2
            have re4 : rvh7 qn1 2 = rvh6 qn1 2 := (fl7.r tqr1 rfl 2)
            rw [exf6r2] at re4
            have re5 : rvh7 qn1 3 = rvh6 qn1 3 := (fl7.r tqr1 rfl 3)
            rw [exf6r3] at re5
            have re6 : rvh7 b5exf6 1 = rvh6 b5exf6 1 := (fl7.r ty45 rfl 1)
            rw [exf6rx] at re6
            exact c_iret C dX11_join_125 rfl (by decide) (rom0 hph pl3 (by decide)) ⟨f8, rfl, X4, F6, W10, ⟨by omega, by omega⟩, ⟨(by omega), mr6⟩, (by omega), (by omega), (by omega), (by omega), (by omega), (by omega), (Or.inr ⟨by omega, by omega, ob1, ob2, ⟨akob1.2, by omega⟩, ⟨akob2.2, by omega⟩, (by rw [mx9]; exact ⟨qn1, b4exf6, (by rw [show (iv (sk 22) 2).toNat = (ivh6 (sk 22) 2).toNat from congrArg Int.toNat (by omega)]; exact mkef7.1), (by omega), (by omega), (by omega), re1, (by omega), (fun i t hi ht e => by
                obtain ⟨b9, w1, w2⟩ := hW.ref (el22 hW hS hi ht) 4 rfl rfl rfl
                rw [w1] at e
                cases e
                exact exf6nn (X1 _ w2.1).1), (by omega), ⟨(fun i hi => (mkef7.2.1 i (by omega)).trans (tm1a i hi)), TSF.of hW hS (fun bb tbb hbb => by have tb1 := xl6.ty tbb; have tb2 := xl7.ty tb1; have tb3 := ty_rt tb2 hcr1 (ne_ty tb2 ty18 (by decide)); have tb4 := xl8.ty tb3; exact (Eq.trans (show ivh8 bb 7 = ivh7 bb 7 from (fl8.i tb4 rfl 7)) (Eq.trans (show ivh7 bb 7 = ivh6 bb 7 from (fl7.i tb3 rfl 7)) (Eq.trans (show ivh6 bb 7 = ivn1 bb 7 from (fl6.i tb1 rfl 7)) (show ivn1 bb 7 = iv bb 7 from (by rw [hin1]; exact congrFun (up0_a (ne_in tbb.1 hqn1)) _)))))) (fun bb tbb => by have tb1 := xl6.ty tbb; have tb2 := xl7.ty tb1; have tb3 := ty_rt tb2 hcr1 (ne_ty tb2 ty18 (by decide)); have tb4 := xl8.ty tb3; exact (Eq.trans (show ivh8 bb 0 = ivh7 bb 0 from (fl8.i tb4 rfl 0)) (Eq.trans (show ivh7 bb 0 = ivh6 bb 0 from (fl7.i tb3 rfl 0)) (Eq.trans (show ivh6 bb 0 = ivn1 bb 0 from (fl6.i tb1 rfl 0)) (show ivn1 bb 0 = iv bb 0 from (by rw [hin1]; exact congrFun (up0_a (ne_in tbb.1 hqn1)) _)))))) (fun bb tbb => by have tb1 := xl6.ty tbb; have tb2 := xl7.ty tb1; have tb3 := ty_rt tb2 hcr1 (ne_ty tb2 ty18 (by decide)); have tb4 := xl8.ty tb3; exact (Eq.trans (show ivh8 bb 1 = ivh7 bb 1 from (fl8.i tb4 rfl 1)) (Eq.trans (show ivh7 bb 1 = ivh6 bb 1 from (fl7.i tb3 rfl 1)) (Eq.trans (show ivh6 bb 1 = ivn1 bb 1 from (fl6.i tb1 rfl 1)) (show ivn1 bb 1 = iv bb 1 from (by rw [hin1]; exact congrFun (up0_a (ne_in tbb.1 hqn1)) _)))))) (fun bb tbb => by have tb1 := xl6.ty tbb; have tb2 := xl7.ty tb1; have tb3 := ty_rt tb2 hcr1 (ne_ty tb2 ty18 (by decide)); exact (Eq.trans (show rvh7 bb 4 = rvh6 bb 4 from (fl7.r tb3 rfl 4)) (Eq.trans (show rvh6 bb 4 = rvn1 bb 4 from (fl6.r tb1 rfl 4)) (show rvn1 bb 4 = rv bb 4 from (by rw [hrn1]; exact congrFun (up0_a (ne_in tbb.1 hqn1)) _))))), TSQ.of hW hS (fun bb tbb hbb => by have tb1 := xl6.ty tbb; have tb2 := xl7.ty tb1; have tb3 := ty_rt tb2 hcr1 (ne_ty tb2 ty18 (by decide)); have tb4 := xl8.ty tb3; exact (Eq.trans (show ivh8 bb 2 = ivh7 bb 2 from (fl8.i tb4 rfl 2)) (Eq.trans (show ivh7 bb 2 = ivh6 bb 2 from (fl7.i tb3 rfl 2)) (Eq.trans (show ivh6 bb 2 = ivn1 bb 2 from (fl6.i tb1 rfl 2)) (show ivn1 bb 2 = iv bb 2 from (by rw [hin1]; exact congrFun (up0_a (ne_in tbb.1 hqn1)) _))))))⟩, ((mkef7.2.2.pre (by omega) tm1b).after (by omega) (PSAME.fr W9 sk4 fl8 rfl rfl rfl rfl rfl rfl rfl))⟩)⟩), (Or.inr ⟨by omega, kp7, ob1, ob2, akob1.2, akob2.2, ⟨qn1, b4exf6, b5exf6, x5exf6, b6exf6, (by rw [show (iv (sk 22) 2).toNat = (ivh6 (sk 22) 2).toNat from congrArg Int.toNat (by omega)]; exact mkef7.1), ⟨(fun hm => hqn1 (hX0 _ hm).1), (fun hm => exf6nn (X1 _ hm).1), (fun hm => exf6n5 (X1 _ hm).1), (fun hm => exf6nx (X1 _ hm).1), (fun hm => exf6n6 (X1 _ hm).1)⟩, ⟨re4, re5, re1, re2, re3, re6⟩, (by omega), (fun kk => Eq.trans ((show ∀ bb, ty Lh6 clh6 bb 68 → rvh7 bb kk = rvh6 bb kk from fun bb tbb => by have tb3 := ty_rt tbb hcr1 (ne_ty tbb ty18 (by decide)); exact (show rvh7 bb kk = rvh6 bb kk from (fl7.r tb3 rfl kk))) b6exf6 exf6t6) (exf6nn6 kk))⟩⟩), (Eq.trans (show rvh7 a0 9 = rvh6 a0 9 from (fl7.r ty20 rfl 9)) (Eq.trans (show rvh6 a0 9 = rvn1 a0 9 from (fl6.r ty3 rfl 9)) (show rvn1 a0 9 = rv a0 9 from (by rw [hrn1]; exact congrFun (up0_a (ne_in t_a0.1 hqn1)) _)))), (Eq.trans (show rvh7 a0 10 = rvh6 a0 10 from (fl7.r ty20 rfl 10)) (Eq.trans (show rvh6 a0 10 = rvn1 a0 10 from (fl6.r ty3 rfl 10)) (show rvn1 a0 10 = rv a0 10 from (by rw [hrn1]; exact congrFun (up0_a (ne_in t_a0.1 hqn1)) _))))⟩
          · refine c_aload_n (j := 2) (x := a0) C dX11_join_84 rfl ?_
            refine c_bipush (z := 6) C dX11_join_85 (by decide) ?_
            refine d_callV (As := [.int (iI 6)]) (rest := []) C hM (C_refuse (a0 := a0) (x := 6) hW hS t_a0 ⟨by decide, by decide⟩ ) dX11_join_87 kV_X11_102 rfl t_a0 rfl rfl (by decide) ck_12 rfl (Nat.le_of_ble_eq_true rfl) ⟨(Nat.le_of_ble_eq_true rfl), (Nat.le_of_ble_eq_true rfl)⟩ hph hph (show 0 + 0 = 0 from rfl) (by decide) (fun rh9 Lh9 clh9 lnh9 ivh9 rvh9 h9 => ?_)
            obtain ⟨f9, rfl, rfl, rfl, rfl, rfl, fl9, W11, rgf9, exf9, kp11f9, kp12f9, kp13f9, kp14f9, kp15f9, kp16f9⟩ := h9
            have ri63 : 1 ≤ iv a0 11 ∧ iv a0 11 ≤ 100 := hW.int t_a0 11
            have ri64 : 1 ≤ iv a0 12 ∧ iv a0 12 ≤ 50 := hW.int t_a0 12
            have ri65 : (-2147483648) ≤ iv a0 13 ∧ iv a0 13 ≤ 2147483647 := hW.int t_a0 13
            have ri66 : (-2147483648) ≤ iv a0 14 ∧ iv a0 14 ≤ 2147483647 := hW.int t_a0 14
            have ri67 : (-2147483648) ≤ iv a0 15 ∧ iv a0 15 ≤ 2147483647 := hW.int t_a0 15
            have ri68 : (-2147483648) ≤ iv a0 16 ∧ iv a0 16 ≤ 2147483647 := hW.int t_a0 16
            have F7 := hF0.call hX0 fl9 rfl
            have mr7 := MRK.call hmr hW hS XT.refl fl9 rfl rfl
            have kp8 := kp1.call TX.refl hW fl9 rfl
            refine c_st (st2 := [.int (iI f9)]) rfl ?_
            have gk11f9 : ivh9 a0 11 = iv a0 11 := kp11f9
            have gk12f9 : ivh9 a0 12 = iv a0 12 := kp12f9
            have gk13f9 : ivh9 a0 13 = iv a0 13 := kp13f9
            have gk14f9 : ivh9 a0 14 = iv a0 14 := kp14f9
            have gk15f9 : ivh9 a0 15 = iv a0 15 := kp15f9
            have gk16f9 : ivh9 a0 16 = iv a0 16 := kp16f9
            have gf9 : f9 = -1 := exf9
            have ri69 : 1 ≤ ivh9 a0 11 ∧ ivh9 a0 11 ≤ 100 := W11.int t_a0 11
            have ri70 : 1 ≤ ivh9 a0 12 ∧ ivh9 a0 12 ≤ 50 := W11.int t_a0 12
            have ri71 : (-2147483648) ≤ ivh9 a0 13 ∧ ivh9 a0 13 ≤ 2147483647 := W11.int t_a0 13
            have ri72 : (-2147483648) ≤ ivh9 a0 14 ∧ ivh9 a0 14 ≤ 2147483647 := W11.int t_a0 14
            have ri73 : (-2147483648) ≤ ivh9 a0 15 ∧ ivh9 a0 15 ≤ 2147483647 := W11.int t_a0 15
            have ri74 : (-2147483648) ≤ ivh9 a0 16 ∧ ivh9 a0 16 ≤ 2147483647 := W11.int t_a0 16
            have ri75 : 0 ≤ ivh9 (sk 23) 2 ∧ ivh9 (sk 23) 2 ≤ 512 := W11.int tsk23 2
            have ie85 : ivh9 (sk 23) 2 = iv (sk 23) 2 := fl9.i tsk23 rfl 2
            have ri76 : 0 ≤ ivh9 (sk 22) 2 ∧ ivh9 (sk 22) 2 ≤ 30 := W11.int tsk22 2
            have ie86 : ivh9 (sk 22) 2 = iv (sk 22) 2 := fl9.i tsk22 rfl 2
            have ri77 : (-2147483648) ≤ ivh9 ob1 0 ∧ ivh9 ob1 0 ≤ 2147483647 := W11.int tob1 0
            have ie87 : ivh9 ob1 0 = iv ob1 0 := fl9.i tob1 rfl 0
            have ri78 : (-2147483648) ≤ ivh9 ob1 1 ∧ ivh9 ob1 1 ≤ 2147483647 := W11.int tob1 1
            have ie88 : ivh9 ob1 1 = iv ob1 1 := fl9.i tob1 rfl 1
            have ri79 : (-2147483648) ≤ ivh9 ob2 0 ∧ ivh9 ob2 0 ≤ 2147483647 := W11.int tob2 0
            have ie89 : ivh9 ob2 0 = iv ob2 0 := fl9.i tob2 rfl 0
            have ri80 : (-2147483648) ≤ ivh9 ob2 1 ∧ ivh9 ob2 1 ≤ 2147483647 := W11.int tob2 1
            have ie90 : ivh9 ob2 1 = iv ob2 1 := fl9.i tob2 rfl 1
            exact c_iret C dX11_join_90 rfl (by decide) (rom0 hph hph (by decide)) ⟨f9, rfl, hX0, F7, W11, ⟨by omega, by omega⟩, ⟨(by omega), mr7⟩, (by omega), (by omega), (by omega), (by omega), (by omega), (by omega), (Or.inl ⟨by omega, PSAME.fr hW hS fl9 rfl rfl rfl rfl rfl rfl rfl, (fun q => by obtain ⟨q1, -⟩ := q; omega)⟩), (Or.inl ⟨by omega, kp8⟩), rfl, rfl⟩
        · refine c_aload_n (j := 2) (x := a0) C dX11_join_59 rfl ?_
          refine c_aload (j := 0) (x := ob2) C dX11_join_60 rfl ?_
          refine c_ifnonnull (r := (some ob2)) (tgt := 69) C dX11_join_62 (by decide) (fun _ _ => ?_) (fun q => by cases q)
          refine c_iconst C dX11_join_69 ?_
          refine d_callV (As := [.int (iI 4)]) (rest := []) C hM (C_refuse (a0 := a0) (x := 4) hW hS t_a0 ⟨by decide, by decide⟩ ) dX11_join_70 kV_X11_102 rfl t_a0 rfl rfl (by decide) ck_12 rfl (Nat.le_of_ble_eq_true rfl) ⟨(Nat.le_of_ble_eq_true rfl), (Nat.le_of_ble_eq_true rfl)⟩ hph hph (show 0 + 0 = 0 from rfl) (by decide) (fun rh10 Lh10 clh10 lnh10 ivh10 rvh10 h10 => ?_)
          obtain ⟨f10, rfl, rfl, rfl, rfl, rfl, fl10, W12, rgf10, exf10, kp11f10, kp12f10, kp13f10, kp14f10, kp15f10, kp16f10⟩ := h10
          have ri81 : 1 ≤ iv a0 11 ∧ iv a0 11 ≤ 100 := hW.int t_a0 11
          have ri82 : 1 ≤ iv a0 12 ∧ iv a0 12 ≤ 50 := hW.int t_a0 12
          have ri83 : (-2147483648) ≤ iv a0 13 ∧ iv a0 13 ≤ 2147483647 := hW.int t_a0 13
          have ri84 : (-2147483648) ≤ iv a0 14 ∧ iv a0 14 ≤ 2147483647 := hW.int t_a0 14
          have ri85 : (-2147483648) ≤ iv a0 15 ∧ iv a0 15 ≤ 2147483647 := hW.int t_a0 15
          have ri86 : (-2147483648) ≤ iv a0 16 ∧ iv a0 16 ≤ 2147483647 := hW.int t_a0 16
          have F8 := hF0.call hX0 fl10 rfl
          have mr8 := MRK.call hmr hW hS XT.refl fl10 rfl rfl
          have kp9 := kp1.call TX.refl hW fl10 rfl
          refine c_st (st2 := [.int (iI f10)]) rfl ?_
          have gk11f10 : ivh10 a0 11 = iv a0 11 := kp11f10
          have gk12f10 : ivh10 a0 12 = iv a0 12 := kp12f10
          have gk13f10 : ivh10 a0 13 = iv a0 13 := kp13f10
          have gk14f10 : ivh10 a0 14 = iv a0 14 := kp14f10
          have gk15f10 : ivh10 a0 15 = iv a0 15 := kp15f10
          have gk16f10 : ivh10 a0 16 = iv a0 16 := kp16f10
          have gf10 : f10 = -1 := exf10
          have ri87 : 1 ≤ ivh10 a0 11 ∧ ivh10 a0 11 ≤ 100 := W12.int t_a0 11
          have ri88 : 1 ≤ ivh10 a0 12 ∧ ivh10 a0 12 ≤ 50 := W12.int t_a0 12
          have ri89 : (-2147483648) ≤ ivh10 a0 13 ∧ ivh10 a0 13 ≤ 2147483647 := W12.int t_a0 13
          have ri90 : (-2147483648) ≤ ivh10 a0 14 ∧ ivh10 a0 14 ≤ 2147483647 := W12.int t_a0 14
          have ri91 : (-2147483648) ≤ ivh10 a0 15 ∧ ivh10 a0 15 ≤ 2147483647 := W12.int t_a0 15
          have ri92 : (-2147483648) ≤ ivh10 a0 16 ∧ ivh10 a0 16 ≤ 2147483647 := W12.int t_a0 16
          have ri93 : 0 ≤ ivh10 (sk 23) 2 ∧ ivh10 (sk 23) 2 ≤ 512 := W12.int tsk23 2
          have ie97 : ivh10 (sk 23) 2 = iv (sk 23) 2 := fl10.i tsk23 rfl 2
          have ri94 : 0 ≤ ivh10 (sk 22) 2 ∧ ivh10 (sk 22) 2 ≤ 30 := W12.int tsk22 2
          have ie98 : ivh10 (sk 22) 2 = iv (sk 22) 2 := fl10.i tsk22 rfl 2
          have ri95 : (-2147483648) ≤ ivh10 ob1 0 ∧ ivh10 ob1 0 ≤ 2147483647 := W12.int tob1 0
          have ie99 : ivh10 ob1 0 = iv ob1 0 := fl10.i tob1 rfl 0
          have ri96 : (-2147483648) ≤ ivh10 ob1 1 ∧ ivh10 ob1 1 ≤ 2147483647 := W12.int tob1 1
          have ie100 : ivh10 ob1 1 = iv ob1 1 := fl10.i tob1 rfl 1
          have ri97 : (-2147483648) ≤ ivh10 ob2 0 ∧ ivh10 ob2 0 ≤ 2147483647 := W12.int tob2 0
          have ie101 : ivh10 ob2 0 = iv ob2 0 := fl10.i tob2 rfl 0
          have ri98 : (-2147483648) ≤ ivh10 ob2 1 ∧ ivh10 ob2 1 ≤ 2147483647 := W12.int tob2 1
          have ie102 : ivh10 ob2 1 = iv ob2 1 := fl10.i tob2 rfl 1
          exact c_iret C dX11_join_73 rfl (by decide) (rom0 hph hph (by decide)) ⟨f10, rfl, hX0, F8, W12, ⟨by omega, by omega⟩, ⟨(by omega), mr8⟩, (by omega), (by omega), (by omega), (by omega), (by omega), (by omega), (Or.inl ⟨by omega, PSAME.fr hW hS fl10 rfl rfl rfl rfl rfl rfl rfl, (fun q => by
              obtain ⟨t, h1, h2⟩ := q.2.2
              have e := h1.uni akob2.2
              subst e
              omega)⟩), (Or.inl ⟨by omega, kp9⟩), rfl, rfl⟩
    · refine c_aload_n (j := 1) (x := a0) C dX11_join_21 rfl ?_
      refine c_aload_n (j := 0) (x := ob1) C dX11_join_22 rfl ?_
      refine c_ifnonnull (r := (some ob1)) (tgt := 30) C dX11_join_23 (by decide) (fun _ _ => ?_) (fun q => by cases q)
      refine c_iconst C dX11_join_30 ?_
      refine d_callV (As := [.int (iI 4)]) (rest := []) C hM (C_refuse (a0 := a0) (x := 4) hW hS t_a0 ⟨by decide, by decide⟩ ) dX11_join_31 kV_X11_102 rfl t_a0 rfl rfl (by decide) ck_12 rfl (Nat.le_of_ble_eq_true rfl) ⟨(Nat.le_of_ble_eq_true rfl), (Nat.le_of_ble_eq_true rfl)⟩ hph hph (show 0 + 0 = 0 from rfl) (by decide) (fun rh11 Lh11 clh11 lnh11 ivh11 rvh11 h11 => ?_)
      obtain ⟨f11, rfl, rfl, rfl, rfl, rfl, fl11, W13, rgf11, exf11, kp11f11, kp12f11, kp13f11, kp14f11, kp15f11, kp16f11⟩ := h11
      have ri99 : 1 ≤ iv a0 11 ∧ iv a0 11 ≤ 100 := hW.int t_a0 11
      have ri100 : 1 ≤ iv a0 12 ∧ iv a0 12 ≤ 50 := hW.int t_a0 12
      have ri101 : (-2147483648) ≤ iv a0 13 ∧ iv a0 13 ≤ 2147483647 := hW.int t_a0 13
      have ri102 : (-2147483648) ≤ iv a0 14 ∧ iv a0 14 ≤ 2147483647 := hW.int t_a0 14
      have ri103 : (-2147483648) ≤ iv a0 15 ∧ iv a0 15 ≤ 2147483647 := hW.int t_a0 15
      have ri104 : (-2147483648) ≤ iv a0 16 ∧ iv a0 16 ≤ 2147483647 := hW.int t_a0 16
      have F9 := hF0.call hX0 fl11 rfl
      have mr9 := MRK.call hmr hW hS XT.refl fl11 rfl rfl
      have kp10 := kp1.call TX.refl hW fl11 rfl
      refine c_st (st2 := [.int (iI f11)]) rfl ?_
      have gk11f11 : ivh11 a0 11 = iv a0 11 := kp11f11
      have gk12f11 : ivh11 a0 12 = iv a0 12 := kp12f11
      have gk13f11 : ivh11 a0 13 = iv a0 13 := kp13f11
      have gk14f11 : ivh11 a0 14 = iv a0 14 := kp14f11
      have gk15f11 : ivh11 a0 15 = iv a0 15 := kp15f11
      have gk16f11 : ivh11 a0 16 = iv a0 16 := kp16f11
      have gf11 : f11 = -1 := exf11
      have ri105 : 1 ≤ ivh11 a0 11 ∧ ivh11 a0 11 ≤ 100 := W13.int t_a0 11
      have ri106 : 1 ≤ ivh11 a0 12 ∧ ivh11 a0 12 ≤ 50 := W13.int t_a0 12
      have ri107 : (-2147483648) ≤ ivh11 a0 13 ∧ ivh11 a0 13 ≤ 2147483647 := W13.int t_a0 13
      have ri108 : (-2147483648) ≤ ivh11 a0 14 ∧ ivh11 a0 14 ≤ 2147483647 := W13.int t_a0 14
      have ri109 : (-2147483648) ≤ ivh11 a0 15 ∧ ivh11 a0 15 ≤ 2147483647 := W13.int t_a0 15
      have ri110 : (-2147483648) ≤ ivh11 a0 16 ∧ ivh11 a0 16 ≤ 2147483647 := W13.int t_a0 16
      have ri111 : 0 ≤ ivh11 (sk 23) 2 ∧ ivh11 (sk 23) 2 ≤ 512 := W13.int tsk23 2
      have ie109 : ivh11 (sk 23) 2 = iv (sk 23) 2 := fl11.i tsk23 rfl 2
      have ri112 : 0 ≤ ivh11 (sk 22) 2 ∧ ivh11 (sk 22) 2 ≤ 30 := W13.int tsk22 2
      have ie110 : ivh11 (sk 22) 2 = iv (sk 22) 2 := fl11.i tsk22 rfl 2
      have ri113 : (-2147483648) ≤ ivh11 ob1 0 ∧ ivh11 ob1 0 ≤ 2147483647 := W13.int tob1 0
      have ie111 : ivh11 ob1 0 = iv ob1 0 := fl11.i tob1 rfl 0
      have ri114 : (-2147483648) ≤ ivh11 ob1 1 ∧ ivh11 ob1 1 ≤ 2147483647 := W13.int tob1 1
      have ie112 : ivh11 ob1 1 = iv ob1 1 := fl11.i tob1 rfl 1
      exact c_iret C dX11_join_34 rfl (by decide) (rom0 hph hph (by decide)) ⟨f11, rfl, hX0, F9, W13, ⟨by omega, by omega⟩, ⟨(by omega), mr9⟩, (by omega), (by omega), (by omega), (by omega), (by omega), (by omega), (Or.inl ⟨by omega, PSAME.fr hW hS fl11 rfl rfl rfl rfl rfl rfl rfl, (fun q => by
          obtain ⟨t, h1, h2⟩ := q.2.1
          have e := h1.uni akob1.2
          subst e
          omega)⟩), (Or.inl ⟨by omega, kp10⟩), rfl, rfl⟩
