set_option maxHeartbeats 4000000 in
set_option maxRecDepth 100000 in
theorem C_condition {l : Launch} {G : GT} {mi : Nat} {sk : Nat → Nat} {L : List Nat} {cl ln : Nat → Nat} {iv : Nat → Nat → Int} {rv : Nat → Nat → Option Nat}  {a0 : Nat} {i : Int} {j : Int} {cnd : Int} (hW : WT (g0 G) sk L cl ln iv rv) (hS : SKL sk L cl) (t_a0 : ty L cl a0 1) (h_i : -2147483648 ≤ i ∧ i ≤ 2147483647) (h_j : -2147483648 ≤ j ∧ j ≤ 2147483647) (h_cnd : -2147483648 ≤ cnd ∧ cnd ≤ 2147483647) (hmr : MRK sk cl iv rv) (hch : iv (sk 23) 2 < 512) : Mc l G mi (Phi (g0 G) sk) PHM yX11_condition cX11_condition 7 (some .int) 8 [.ref a0, .int (iI i), .int (iI j), .int (iI cnd)] L cl ln iv rv 1236 (fun v L2 cl2 ln2 iv2 rv2 => ∃ f : Int, v = some (.int (iI f)) ∧ XT L cl ln L2 cl2 ln2 ∧ fT [1, 20, 23, 1001, 201] L cl iv rv iv2 rv2 ∧ WT (g0 G) sk L2 cl2 ln2 iv2 rv2 ∧ (-2147483648 ≤ f ∧ f ≤ 2147483647) ∧ (iv2 (sk 23) 2 ≤ iv (sk 23) 2 + 1 ∧ MRK sk cl2 iv2 rv2) ∧ iv2 a0 11 = iv a0 11 ∧ iv2 a0 12 = iv a0 12 ∧ iv2 a0 13 = iv a0 13 ∧ iv2 a0 14 = iv a0 14 ∧ iv2 a0 15 = iv a0 15 ∧ iv2 a0 16 = iv a0 16 ∧ (PCND i j cnd f sk iv rv iv2 rv2) ∧ (KCN L cl sk iv rv iv2 rv2 i j cnd f) ∧ rv2 a0 9 = rv a0 9 ∧ rv2 a0 10 = rv a0 10) := by
  refine Mc.mk (by decide) (Nat.le_of_ble_eq_true rfl) ?_
  intro p e s m args below meth c A C hM
  have hph := Phi.le hW hS
  have tsk2 : ty L cl (sk 2) 2 := ⟨(hS 2 rfl).1, by rw [(hS 2 rfl).2]; rfl⟩
  have tsk3 : ty L cl (sk 3) 3 := ⟨(hS 3 rfl).1, by rw [(hS 3 rfl).2]; rfl⟩
  have tsk4 : ty L cl (sk 4) 4 := ⟨(hS 4 rfl).1, by rw [(hS 4 rfl).2]; rfl⟩
  have tsk5 : ty L cl (sk 5) 5 := ⟨(hS 5 rfl).1, by rw [(hS 5 rfl).2]; rfl⟩
  have tsk13 : ty L cl (sk 13) 13 := ⟨(hS 13 rfl).1, by rw [(hS 13 rfl).2]; rfl⟩
  have tsk14 : ty L cl (sk 14) 14 := ⟨(hS 14 rfl).1, by rw [(hS 14 rfl).2]; rfl⟩
  have tsk15 : ty L cl (sk 15) 15 := ⟨(hS 15 rfl).1, by rw [(hS 15 rfl).2]; rfl⟩
  have tsk16 : ty L cl (sk 16) 16 := ⟨(hS 16 rfl).1, by rw [(hS 16 rfl).2]; rfl⟩
  have tsk17 : ty L cl (sk 17) 17 := ⟨(hS 17 rfl).1, by rw [(hS 17 rfl).2]; rfl⟩
  have tsk22 : ty L cl (sk 22) 22 := ⟨(hS 22 rfl).1, by rw [(hS 22 rfl).2]; rfl⟩
  have tsk23 : ty L cl (sk 23) 23 := ⟨(hS 23 rfl).1, by rw [(hS 23 rfl).2]; rfl⟩
  have hX0 : XT L cl ln L cl ln := XT.refl
  have hF0 : fT [1, 20, 23, 1001, 201] L cl iv rv iv rv := fT.refl
  refine c_aload_n (j := 0) (x := a0) C dX11_condition_0 rfl ?_
  obtain ⟨rb1, rq1, trb1⟩ := hW.ref t_a0 4 rfl rfl rfl
  have erb1 := hW.sk trb1 (by decide) rfl
  subst erb1
  refine c_getr (k := 4) C ck_12 dX11_condition_1 w2_48 (by decide) t_a0 rfl rfl (by decide) rfl rq1 ?_
  refine c_st (st2 := [.ref (sk 13)]) rfl ?_
  refine c_iload_n (j := 1) C dX11_condition_4 rfl ?_
  have ri1 : 0 ≤ iv (sk 22) 2 ∧ iv (sk 22) 2 ≤ 30 := hW.int tsk22 2
  refine d_callV (As := [.int (iI i)]) (rest := []) C hM (C_alive (a0 := (sk 13)) (i := i) hW hS tsk13 (by omega) hmr) dX11_condition_5 kV_X11_131 rfl tsk13 rfl rfl (by decide) ck_11 rfl (Nat.le_of_ble_eq_true rfl) ⟨(Nat.le_of_ble_eq_true rfl), (Nat.le_of_ble_eq_true rfl)⟩ hph hph (show 0 + 0 = 0 from rfl) (by decide) (fun rh1 Lh1 clh1 lnh1 ivh1 rvh1 h1 => ?_)
  obtain ⟨f1, rfl, rfl, rfl, rfl, rfl, rfl, rgf1, exf1⟩ := h1
  refine c_st (st2 := [(va_rf f1)]) rfl ?_
  have gf1 : (∀ b, f1 = some b → ((cl b : Nat) : Int) < 100 + iv (sk 22) 2 ∧ ALV sk iv rv i b) ∧ (f1 = none → ∀ b, ¬ ALV sk iv rv i b) := exf1
  refine c_astorer (r := f1) (lv2 := [(4, (va_rf f1)), (0, .ref a0), (1, .int (iI i)), (2, .int (iI j)), (3, .int (iI cnd))]) C dX11_condition_8 (by decide) rfl ?_
  refine c_aloadr (j := 0) (r := f1) C dX11_condition_10 rfl ?_
  refine c_ifnonnull (r := f1) (tgt := 21) C dX11_condition_12 (by decide) (fun ob1 oq1 => ?_) (fun oq1 => ?_)
  · subst oq1
    have tob1 := rgf1 ob1 rfl
    have akob1 := gf1.1 ob1 rfl
    refine c_lv (lv2 := [(4, .ref ob1), (0, .ref a0), (1, .int (iI i)), (2, .int (iI j)), (3, .int (iI cnd))]) [0, 1, 2, 3, 4] rfl ?_
    refine c_st (st2 := []) rfl ?_
    refine c_aload (j := 0) (x := ob1) C dX11_condition_21 rfl ?_
    have ri2 : (-2147483648) ≤ iv ob1 0 ∧ iv ob1 0 ≤ 2147483647 := hW.int tob1 0
    refine c_get (k := 0) C ck_10 dX11_condition_23 w2_176 (by decide) tob1 rfl rfl (by decide) rfl ?_
    refine c_iconst C dX11_condition_26 ?_
    refine c_icmp_ne (tgt := 36) C ⟨by omega, by omega⟩ ⟨by decide, by decide⟩ dX11_condition_27 (by decide) (fun c1 => ?_) (fun c1 => ?_)
    · refine c_iload_n (j := 3) C dX11_condition_36 rfl ?_
      refine c_if_lt (tgt := 52) C ⟨by omega, by omega⟩ dX11_condition_37 (by decide) (fun c2 => ?_) (fun c2 => ?_)
      · refine c_aload_n (j := 1) (x := a0) C dX11_condition_52 rfl ?_
        refine c_iconst C dX11_condition_53 ?_
        refine d_callV (As := [.int (iI 2)]) (rest := []) C hM (C_refuse (a0 := a0) (x := 2) hW hS t_a0 ⟨by decide, by decide⟩ ) dX11_condition_54 kV_X11_102 rfl t_a0 rfl rfl (by decide) ck_12 rfl (Nat.le_of_ble_eq_true rfl) ⟨(Nat.le_of_ble_eq_true rfl), (Nat.le_of_ble_eq_true rfl)⟩ hph hph (show 0 + 0 = 0 from rfl) (by decide) (fun rh2 Lh2 clh2 lnh2 ivh2 rvh2 h2 => ?_)
        obtain ⟨f2, rfl, rfl, rfl, rfl, rfl, fl2, W2, rgf2, exf2, kp11f2, kp12f2, kp13f2, kp14f2, kp15f2, kp16f2⟩ := h2
        have ri3 : 1 ≤ iv a0 11 ∧ iv a0 11 ≤ 100 := hW.int t_a0 11
        have ri4 : 1 ≤ iv a0 12 ∧ iv a0 12 ≤ 50 := hW.int t_a0 12
        have ri5 : (-2147483648) ≤ iv a0 13 ∧ iv a0 13 ≤ 2147483647 := hW.int t_a0 13
        have ri6 : (-2147483648) ≤ iv a0 14 ∧ iv a0 14 ≤ 2147483647 := hW.int t_a0 14
        have ri7 : (-2147483648) ≤ iv a0 15 ∧ iv a0 15 ≤ 2147483647 := hW.int t_a0 15
        have ri8 : (-2147483648) ≤ iv a0 16 ∧ iv a0 16 ≤ 2147483647 := hW.int t_a0 16
        have F1 := hF0.call hX0 fl2 rfl
        have mr1 := MRK.call hmr hW hS XT.refl fl2 rfl rfl
        refine c_st (st2 := [.int (iI f2)]) rfl ?_
        have gk11f2 : ivh2 a0 11 = iv a0 11 := kp11f2
        have gk12f2 : ivh2 a0 12 = iv a0 12 := kp12f2
        have gk13f2 : ivh2 a0 13 = iv a0 13 := kp13f2
        have gk14f2 : ivh2 a0 14 = iv a0 14 := kp14f2
        have gk15f2 : ivh2 a0 15 = iv a0 15 := kp15f2
        have gk16f2 : ivh2 a0 16 = iv a0 16 := kp16f2
        have gf2 : f2 = -1 := exf2
        have ri9 : 1 ≤ ivh2 a0 11 ∧ ivh2 a0 11 ≤ 100 := W2.int t_a0 11
        have ri10 : 1 ≤ ivh2 a0 12 ∧ ivh2 a0 12 ≤ 50 := W2.int t_a0 12
        have ri11 : (-2147483648) ≤ ivh2 a0 13 ∧ ivh2 a0 13 ≤ 2147483647 := W2.int t_a0 13
        have ri12 : (-2147483648) ≤ ivh2 a0 14 ∧ ivh2 a0 14 ≤ 2147483647 := W2.int t_a0 14
        have ri13 : (-2147483648) ≤ ivh2 a0 15 ∧ ivh2 a0 15 ≤ 2147483647 := W2.int t_a0 15
        have ri14 : (-2147483648) ≤ ivh2 a0 16 ∧ ivh2 a0 16 ≤ 2147483647 := W2.int t_a0 16
        have ri15 : 0 ≤ ivh2 (sk 23) 2 ∧ ivh2 (sk 23) 2 ≤ 512 := W2.int tsk23 2
        have ie7 : ivh2 (sk 23) 2 = iv (sk 23) 2 := fl2.i tsk23 rfl 2
        have ri16 : 0 ≤ ivh2 (sk 22) 2 ∧ ivh2 (sk 22) 2 ≤ 30 := W2.int tsk22 2
        have ie8 : ivh2 (sk 22) 2 = iv (sk 22) 2 := fl2.i tsk22 rfl 2
        have ri17 : (-2147483648) ≤ ivh2 ob1 0 ∧ ivh2 ob1 0 ≤ 2147483647 := W2.int tob1 0
        have ie9 : ivh2 ob1 0 = iv ob1 0 := fl2.i tob1 rfl 0
        exact c_iret C dX11_condition_57 rfl (by decide) (rom0 hph hph (by decide)) ⟨f2, rfl, hX0, F1, W2, ⟨by omega, by omega⟩, ⟨(by omega), mr1⟩, (by omega), (by omega), (by omega), (by omega), (by omega), (by omega), (Or.inl ⟨by omega, PSAME.fr hW hS fl2 rfl rfl rfl rfl rfl rfl rfl, (fun t q ht hq h => by
            have e := ht.uni akob1.2
            subst e
            obtain ⟨h1, h2, h3, h4, h5⟩ := h
            first | omega)⟩), (Or.inl ⟨by omega, KP.fr hW fl2 rfl, by omega⟩), rfl, rfl⟩
      · refine c_iload_n (j := 3) C dX11_condition_40 rfl ?_
        refine c_aload (j := 0) (x := ob1) C dX11_condition_41 rfl ?_
        obtain ⟨rb2, rq2, trb2⟩ := hW.ref tob1 4 rfl rfl rfl
        refine c_getr (k := 4) C ck_10 dX11_condition_43 w2_188 (by decide) tob1 rfl rfl (by decide) rfl rq2 ?_
        refine c_st (st2 := [.ref rb2, .int (iI j)]) rfl ?_
        have ri18 : 0 ≤ iv rb2 2 ∧ iv rb2 2 ≤ 200 := hW.int trb2 2
        refine d_callV (As := []) (rest := [.int (iI j)]) C hM (C_size_26 (a0 := rb2) hW hS trb2  ) dX11_condition_46 kV_X11_183 rfl trb2 rfl rfl (by decide) ck_0 rfl (Nat.le_of_ble_eq_true rfl) ⟨(Nat.le_of_ble_eq_true rfl), (Nat.le_of_ble_eq_true rfl)⟩ hph hph (show 0 + 0 = 0 from rfl) (by decide) (fun rh3 Lh3 clh3 lnh3 ivh3 rvh3 h3 => ?_)
        obtain ⟨f3, rfl, rfl, rfl, rfl, rfl, rfl, rgf3, exf3⟩ := h3
        refine c_st (st2 := [.int (iI f3), .int (iI j)]) rfl ?_
        have gf3 : f3 = iv rb2 2 := exf3
        refine c_icmp_lt (tgt := 58) C ⟨by omega, by omega⟩ ⟨by omega, by omega⟩ dX11_condition_49 (by decide) (fun c3 => ?_) (fun c3 => ?_)
        · refine c_iload_n (j := 4) C dX11_condition_58 rfl ?_
          refine c_callS0 (As := [.int (iI cnd)]) (rest := []) C (fun L E => s11_isCondition (iI cnd)) dX11_condition_59 kS_X11_167 rfl rfl (Nat.le_of_ble_eq_true rfl) ⟨(Nat.le_of_ble_eq_true rfl), (Nat.le_of_ble_eq_true rfl)⟩ (rom0 hph hph (by decide)) ?_
          rcases inn_c (x := cnd) (lo := 0) (hi := 5) ⟨by omega, by omega⟩ ⟨by decide, by decide⟩ ⟨by decide, by decide⟩ with ⟨hs1a, hs1b, hs1e⟩ | ⟨hs1a, hs1e⟩
          · refine c_st (st2 := [.int (iI 1)]) (by rw [show inn (iI cnd) 0 5 = iI 1 from hs1e]) ?_
            refine c_if_ne (tgt := 72) C ⟨by decide, by decide⟩ dX11_condition_62 (by decide) (fun _ => ?_) (fun z => absurd z (by omega))
            refine c_aload (j := 0) (x := ob1) C dX11_condition_72 rfl ?_
            refine c_getr (k := 4) C ck_10 dX11_condition_74 w2_188 (by decide) tob1 rfl rfl (by decide) rfl rq2 ?_
            refine c_st (st2 := [.ref rb2]) rfl ?_
            refine c_iload_n (j := 3) C dX11_condition_77 rfl ?_
            refine d_callV (As := [.int (iI j)]) (rest := []) C hM (C_get_26 (a0 := rb2) (i := j) hW hS trb2 (by omega) (by show 0 ≤ j ∧ j < iv rb2 2; omega)) dX11_condition_78 kV_X11_204 rfl trb2 rfl rfl (by decide) ck_0 rfl (Nat.le_of_ble_eq_true rfl) ⟨(Nat.le_of_ble_eq_true rfl), (Nat.le_of_ble_eq_true rfl)⟩ hph hph (show 0 + 0 = 0 from rfl) (by decide) (fun rh4 Lh4 clh4 lnh4 ivh4 rvh4 h4 => ?_)
            obtain ⟨f4, rfl, rfl, rfl, rfl, rfl, rfl, rgf4, exf4⟩ := h4
            refine c_st (st2 := [.ref f4]) rfl ?_
            have gf4 : el rv rb2 j.toNat = some f4 := exf4
            refine c_cast C ck_6 dX11_condition_81 w3_125 w8_169t rgf4 rfl rfl (by decide) ?_
            refine c_astore (lv2 := [(5, .ref f4), (4, .ref ob1), (0, .ref a0), (1, .int (iI i)), (2, .int (iI j)), (3, .int (iI cnd))]) C dX11_condition_84 (by decide) rfl ?_
            refine c_aload (j := 0) (x := f4) C dX11_condition_86 rfl ?_
            have ri19 : 0 ≤ iv f4 3 ∧ iv f4 3 ≤ 5 := hW.int rgf4 3
            refine c_get (k := 3) C ck_6 dX11_condition_88 w3_149 (by decide) rgf4 rfl rfl (by decide) rfl ?_
            refine c_istore (lv2 := [(6, .int (iI (iv f4 3))), (5, .ref f4), (4, .ref ob1), (0, .ref a0), (1, .int (iI i)), (2, .int (iI j)), (3, .int (iI cnd))]) C dX11_condition_91 (by decide) rfl ?_
            refine c_aload_n (j := 3) (x := a0) C dX11_condition_93 rfl ?_
            refine c_getr (k := 4) C ck_12 dX11_condition_94 w2_48 (by decide) t_a0 rfl rfl (by decide) rfl rq1 ?_
            refine c_st (st2 := [.ref (sk 13)]) rfl ?_
            have kp1 : KP L cl (fun b => b = f4) (fun _ => False) (fun _ => False) (fun _ => False) (fun _ _ => False) iv rv iv rv := KP.refl
            refine c_new C ck_1 dv_1 ⟨rfl, rfl⟩ rfl (by decide) dX11_condition_97 w3_98 w3_35 w1_18 (rom2 hph hph (by decide)) (fun qn1 cln1 lnn1 ivn1 rvn1 hqn1 hcn1 hln1 hin1 hrn1 => ⟨20, (p_in (Phi.new hW hS hqn1 (fun b _ => by rw [hln1]) hrn1) (by omega)), ?_⟩)
            refine c_g0 C (fun hg1 => ?_)
            have hxn1 : ∀ b, b ≠ qn1 → lnn1 b = ln b := (fun b _ => by rw [hln1])
            have W5 := hW.new (ln2 := lnn1) hqn1 (hg1 qn1 (List.mem_append_right _ List.mem_cons_self)) hcn1 hxn1 hin1 hrn1 (fun _ => ⟨(show (-2147483648 : Int) ≤ 0 by decide), (show (0 : Int) ≤ 2147483647 by decide)⟩) (Or.inl rfl) (fun q => by cases q) rfl rfl
            have xl5 := XT.new hqn1 hcn1 hxn1
            have X1 := hX0.trans xl5
            have sk1 := xl5.skl hS
            have F2 := hF0.new hX0 hqn1 hin1 hrn1
            have mr2 := MRK.call hmr hW hS xl5 ((fT.refl (ls := [])).new (XT.refl (ln := ln)) hqn1 hin1 hrn1) rfl rfl
            have tqn1 : ty (L ++ [qn1]) cln1 qn1 201 := ty_new hcn1
            have kp2 := kp1.new TX.refl hW hqn1 hin1 hrn1
            have h0qn1 : qn1 ∉ L := fun h => hqn1 ((hX0 qn1 h).1)
            refine c_dup C dX11_condition_100 rfl ?_
            refine c_iconst C dX11_condition_101 ?_
            refine c_aload (j := 2) (x := ob1) C dX11_condition_102 rfl ?_
            refine c_aload (j := 1) (x := f4) C dX11_condition_104 rfl ?_
            refine c_iload (j := 0) C dX11_condition_106 rfl ?_
            have ty1 := xl5.ty tob1
            have ty2 := xl5.ty rgf4
            have pl1 := Phi.le W5 sk1
            refine c_callI (As := [.int (iI 3), .ref ob1, .ref f4, .int (iI (iv f4 3))]) (rest := [.ref qn1, .ref (sk 13)]) C hM (Z_change (a0 := qn1) (i := 3) (a2 := ob1) (r := (some f4)) (n := iv f4 3) W5 sk1 tqn1 ty1 (fun _ q => by cases q; exact ty2) ⟨by decide, by decide⟩ (by omega) ) dX11_condition_108 kI_X11_149 rfl rfl (Nat.le_of_ble_eq_true rfl) ⟨(Nat.le_of_ble_eq_true rfl), (Nat.le_of_ble_eq_true rfl)⟩ (rz1 hph pl1 (by decide)) (fun rh5 Lh5 clh5 lnh5 ivh5 rvh5 h5 => ⟨20, (zk1 (by obtain ⟨_, _, _, e3, flh5x, Wh5x, _⟩ := h5; subst e3; exact Phi.frn sk1 flh5x rfl)), ?_⟩)
            obtain ⟨rfl, rfl, rfl, rfl, fl5, W6, exf5⟩ := h5
            have F3 := F2.call X1 fl5 rfl
            have mr3 := MRK.call mr2 W5 sk1 XT.refl fl5 rfl rfl
            have tx1 := TX.xt TX.refl xl5
            have kp3 := kp2.call tx1 W5 fl5 rfl
            refine c_st (st2 := [.ref qn1, .ref (sk 13)]) rfl ?_
            obtain ⟨exf5x, exf5r, exf5p, exf5i, exf5j⟩ := exf5
            have rn1 : ∀ k, ([1, 2] : List Nat).contains k = false → rvh5 qn1 k = none := fun k hk => (Eq.trans (show rvh5 qn1 k = rvn1 qn1 k from (exf5x k hk)) (show rvn1 qn1 k = none from (by rw [hrn1]; exact up0_s)))
            refine c_retag (q := qn1) (t := 21) (by rw [tqn1.2]; rfl) (fun clr1 hcr1 => ?_)
            have ty3 := xl5.ty t_a0
            have ty4 := ty_rt ty3 hcr1 (ne_ty ty3 tqn1 (by decide))
            have ty5 := xl5.ty tsk2
            have ty6 := ty_rt ty5 hcr1 (ne_ty ty5 tqn1 (by decide))
            have ty7 := xl5.ty tsk3
            have ty8 := ty_rt ty7 hcr1 (ne_ty ty7 tqn1 (by decide))
            have ty9 := xl5.ty tsk4
            have ty10 := ty_rt ty9 hcr1 (ne_ty ty9 tqn1 (by decide))
            have ty11 := xl5.ty tsk5
            have ty12 := ty_rt ty11 hcr1 (ne_ty ty11 tqn1 (by decide))
            have ty13 := xl5.ty tsk13
            have ty14 := ty_rt ty13 hcr1 (ne_ty ty13 tqn1 (by decide))
            have ty15 := xl5.ty tsk14
            have ty16 := ty_rt ty15 hcr1 (ne_ty ty15 tqn1 (by decide))
            have ty17 := xl5.ty tsk15
            have ty18 := ty_rt ty17 hcr1 (ne_ty ty17 tqn1 (by decide))
            have ty19 := xl5.ty tsk16
            have ty20 := ty_rt ty19 hcr1 (ne_ty ty19 tqn1 (by decide))
            have ty21 := xl5.ty tsk17
            have ty22 := ty_rt ty21 hcr1 (ne_ty ty21 tqn1 (by decide))
            have ty23 := xl5.ty tsk22
            have ty24 := ty_rt ty23 hcr1 (ne_ty ty23 tqn1 (by decide))
            have ty25 := xl5.ty tsk23
            have ty26 := ty_rt ty25 hcr1 (ne_ty ty25 tqn1 (by decide))
            have ty27 := ty_rt ty1 hcr1 (ne_ty ty1 tqn1 (by decide))
            have ty28 := xl5.ty trb2
            have ty29 := ty_rt ty28 hcr1 (ne_ty ty28 tqn1 (by decide))
            have ty30 := ty_rt ty2 hcr1 (ne_ty ty2 tqn1 (by decide))
            have tqr1 : ty (L ++ [qn1]) clr1 qn1 21 := ⟨tqn1.1, by rw [hcr1, va_up_self]; rfl⟩
            have W7 := W6.retag tqn1.1 (by rw [tqn1.2]; rfl) hcr1 (fun k => by
                  rcases k with _ | _ | _ | _ | k
                  · exact W6.int tqn1 0
                  · exact W6.int tqn1 1
                  · exact W6.int tqn1 2
                  · exact ⟨(by show 0 ≤ ivh5 qn1 3; omega), (by show ivh5 qn1 3 ≤ 5; omega)⟩
                  · exact W6.int tqn1 (k + 4)) (fun k => by
                  rcases k with _ | _ | _ | _ | k
                  · rw [rn1 0 (by decide)]; exact rok_none tqr1 rfl
                  · rw [exf5r]; exact rok_some tqr1 ty27 rfl (by decide) rfl
                  · rw [exf5p]; exact rok_ch tqr1 (fun _ q => by cases q; exact ty30)
                  · rw [rn1 3 (by decide)]; exact rok_none tqr1 rfl
                  · rw [rn1 (k + 4) (by simp)]; exact rok_none tqr1 rfl) rfl (fun z => by cases z) (fun z => by cases z) rfl
            have X2 := X1.rt hcr1 h0qn1
            have sk2 := sk1.rt hcr1 (by rw [tqn1.2]; rfl)
            have mr4 := MRK.rt mr3 W6 sk1 hcr1 (by rw [tqn1.2]; rfl)
            have on1 := fun b hb => xl5.ty (rgf1 b hb)
            have on2 := fun b hb => ty_rt (on1 b hb) hcr1 (ne_ty (on1 b hb) tqn1 (by decide))
            have ce1 : ∀ i : Nat, (i : Int) < iv (sk 23) 2 → el rvh5 (sk 23) i = el rv (sk 23) i := (fun i hi => el_ch hW (tysk23 hS) rfl rfl ((show ∀ bb, ty L cl bb 23 → rvh5 bb 1 = rv bb 1 from fun bb tbb => by have tb1 := xl5.ty tbb; exact (Eq.trans (show rvh5 bb 1 = rvn1 bb 1 from (fl5.r tb1 rfl 1)) (show rvn1 bb 1 = rv bb 1 from (by rw [hrn1]; exact congrFun (up0_a (ne_in tbb.1 hqn1)) _)))) (sk 23) (tysk23 hS)) (fun bb tbb kk => by have tb1 := xl5.ty tbb; exact (Eq.trans (show rvh5 bb kk = rvn1 bb kk from (fl5.r tb1 rfl kk)) (show rvn1 bb kk = rv bb kk from (by rw [hrn1]; exact congrFun (up0_a (ne_in tbb.1 hqn1)) _)))) hi)
            have ri20 : 0 ≤ ivh5 (sk 23) 2 ∧ ivh5 (sk 23) 2 ≤ 512 := W7.int ty26 2
            have ie10 : ivh5 (sk 23) 2 = ivn1 (sk 23) 2 := fl5.i ty25 rfl 2
            have ie11 : ivn1 (sk 23) 2 = iv (sk 23) 2 := by rw [hin1]; exact congrFun (up0_a (ne_in tsk23.1 hqn1)) _
            have pl2 := Phi.le W7 sk2
            refine d_callV (As := [.ref qn1]) (rest := []) C hM (C_remember (a0 := (sk 13)) (a1 := qn1) W7 sk2 ty14 tqr1  (by show ivh5 (sk 23) 2 < 512; omega)) dX11_condition_111 kV_X11_152 rfl ty14 rfl rfl (by decide) ck_11 rfl (Nat.le_of_ble_eq_true rfl) ⟨(Nat.le_of_ble_eq_true rfl), (Nat.le_of_ble_eq_true rfl)⟩ hph pl2 (show 20 + 1216 = 1236 from rfl) (by decide) (fun rh6 Lh6 clh6 lnh6 ivh6 rvh6 h6 => ?_)
            obtain ⟨rfl, xl7, fl6, W8, exf6, rmef6⟩ := h6
            have F4 := F3.call X2 fl6 rfl
            have mr5 := MRK.call mr4 W7 sk2 xl7 fl6 rfl rfl
            have tx2 := TX.rt tx1 hcr1 tqn1 rfl
            have kp4 := kp3.call tx2 W7 fl6 rfl
            have X3 := X2.trans xl7
            have sk3 := xl7.skl sk2
            refine c_st (st2 := []) rfl ?_
            have ty31 := xl7.ty ty26
            have ri21 : 0 ≤ ivh6 (sk 23) 2 ∧ ivh6 (sk 23) 2 ≤ 512 := W8.int ty31 2
            have gf6 : ivh6 (sk 23) 2 = ivh5 (sk 23) 2 + 1 := exf6
            refine c_aload (j := 1) (x := f4) C dX11_condition_114 rfl ?_
            refine c_iload_n (j := 6) C dX11_condition_116 rfl ?_
            have ty32 := xl7.ty ty30
            refine c_put (z := cnd) (k := 3) C ck_6 dX11_condition_117 w3_149 (by decide) rfl ty32 rfl rfl (by decide) rfl (by rfl) (by rfl) (fun iv1 pq1 => ?_)
            have tx3 := TX.xt tx2 xl7
            have kp5 := kp4.putiC tx3 pq1 ty32 rfl
            have W9 := W8.puti pq1 ty32 (show 0 ≤ cnd ∧ cnd ≤ 5 by omega) rfl
            have F5 := F4.puti X3 pq1 ty32 rfl
            have mr6 := MRK.puti mr5 sk3 pq1 ty32 (by decide)
            refine c_aload_n (j := 3) (x := a0) C dX11_condition_120 rfl ?_
            refine c_iload (j := 0) C dX11_condition_121 rfl ?_
            have ty33 := xl7.ty ty4
            have pl3 := Phi.le W9 sk3
            refine d_callV (As := [.int (iI (iv f4 3))]) (rest := []) C hM (C_done (a0 := a0) (x := iv f4 3) W9 sk3 ty33 (by omega) ) dX11_condition_123 kV_X11_109 rfl ty33 rfl rfl (by decide) ck_12 rfl (Nat.le_of_ble_eq_true rfl) ⟨(Nat.le_of_ble_eq_true rfl), (Nat.le_of_ble_eq_true rfl)⟩ hph pl3 (show 1236 + 0 = 1236 from rfl) (by decide) (fun rh7 Lh7 clh7 lnh7 ivh7 rvh7 h7 => ?_)
            obtain ⟨f7, rfl, rfl, rfl, rfl, rfl, fl7, W10, rgf7, exf7, kp11f7, kp12f7, kp13f7, kp14f7, kp15f7, kp16f7⟩ := h7
            have ri22 : 1 ≤ iv1 a0 11 ∧ iv1 a0 11 ≤ 100 := W9.int ty33 11
            have ie13 : iv1 a0 11 = ivh6 a0 11 := by rw [pq1]; exact up2_k (ne_ty ty33 ty32 (by decide))
            have ie14 : ivh6 a0 11 = ivh5 a0 11 := fl6.i ty4 rfl 11
            have ie15 : ivh5 a0 11 = ivn1 a0 11 := fl5.i ty3 rfl 11
            have ie16 : ivn1 a0 11 = iv a0 11 := by rw [hin1]; exact congrFun (up0_a (ne_in t_a0.1 hqn1)) _
            have ri23 : 1 ≤ iv1 a0 12 ∧ iv1 a0 12 ≤ 50 := W9.int ty33 12
            have ie17 : iv1 a0 12 = ivh6 a0 12 := by rw [pq1]; exact up2_k (ne_ty ty33 ty32 (by decide))
            have ie18 : ivh6 a0 12 = ivh5 a0 12 := fl6.i ty4 rfl 12
            have ie19 : ivh5 a0 12 = ivn1 a0 12 := fl5.i ty3 rfl 12
            have ie20 : ivn1 a0 12 = iv a0 12 := by rw [hin1]; exact congrFun (up0_a (ne_in t_a0.1 hqn1)) _
            have ri24 : (-2147483648) ≤ iv1 a0 13 ∧ iv1 a0 13 ≤ 2147483647 := W9.int ty33 13
            have ie21 : iv1 a0 13 = ivh6 a0 13 := by rw [pq1]; exact up2_k (ne_ty ty33 ty32 (by decide))
            have ie22 : ivh6 a0 13 = ivh5 a0 13 := fl6.i ty4 rfl 13
            have ie23 : ivh5 a0 13 = ivn1 a0 13 := fl5.i ty3 rfl 13
            have ie24 : ivn1 a0 13 = iv a0 13 := by rw [hin1]; exact congrFun (up0_a (ne_in t_a0.1 hqn1)) _
            have ri25 : (-2147483648) ≤ iv1 a0 14 ∧ iv1 a0 14 ≤ 2147483647 := W9.int ty33 14
            have ie25 : iv1 a0 14 = ivh6 a0 14 := by rw [pq1]; exact up2_k (ne_ty ty33 ty32 (by decide))
            have ie26 : ivh6 a0 14 = ivh5 a0 14 := fl6.i ty4 rfl 14
            have ie27 : ivh5 a0 14 = ivn1 a0 14 := fl5.i ty3 rfl 14
            have ie28 : ivn1 a0 14 = iv a0 14 := by rw [hin1]; exact congrFun (up0_a (ne_in t_a0.1 hqn1)) _
            have ri26 : (-2147483648) ≤ iv1 a0 15 ∧ iv1 a0 15 ≤ 2147483647 := W9.int ty33 15
            have ie29 : iv1 a0 15 = ivh6 a0 15 := by rw [pq1]; exact up2_k (ne_ty ty33 ty32 (by decide))
            have ie30 : ivh6 a0 15 = ivh5 a0 15 := fl6.i ty4 rfl 15
            have ie31 : ivh5 a0 15 = ivn1 a0 15 := fl5.i ty3 rfl 15
            have ie32 : ivn1 a0 15 = iv a0 15 := by rw [hin1]; exact congrFun (up0_a (ne_in t_a0.1 hqn1)) _
            have ri27 : (-2147483648) ≤ iv1 a0 16 ∧ iv1 a0 16 ≤ 2147483647 := W9.int ty33 16
            have ie33 : iv1 a0 16 = ivh6 a0 16 := by rw [pq1]; exact up2_k (ne_ty ty33 ty32 (by decide))
            have ie34 : ivh6 a0 16 = ivh5 a0 16 := fl6.i ty4 rfl 16
            have ie35 : ivh5 a0 16 = ivn1 a0 16 := fl5.i ty3 rfl 16
            have ie36 : ivn1 a0 16 = iv a0 16 := by rw [hin1]; exact congrFun (up0_a (ne_in t_a0.1 hqn1)) _
            have F6 := F5.call X3 fl7 rfl
            have mr7 := MRK.call mr6 W9 sk3 XT.refl fl7 rfl rfl
            have kp6 := kp5.call tx3 W9 fl7 rfl
            refine c_st (st2 := [.int (iI f7)]) rfl ?_
            have gk11f7 : ivh7 a0 11 = iv1 a0 11 := kp11f7
            have gk12f7 : ivh7 a0 12 = iv1 a0 12 := kp12f7
            have gk13f7 : ivh7 a0 13 = iv1 a0 13 := kp13f7
            have gk14f7 : ivh7 a0 14 = iv1 a0 14 := kp14f7
            have gk15f7 : ivh7 a0 15 = iv1 a0 15 := kp15f7
            have gk16f7 : ivh7 a0 16 = iv1 a0 16 := kp16f7
            have gf7 : f7 = (iv f4 3) := exf7
            have ri28 : 1 ≤ ivh7 a0 11 ∧ ivh7 a0 11 ≤ 100 := W10.int ty33 11
            have ri29 : 1 ≤ ivh7 a0 12 ∧ ivh7 a0 12 ≤ 50 := W10.int ty33 12
            have ri30 : (-2147483648) ≤ ivh7 a0 13 ∧ ivh7 a0 13 ≤ 2147483647 := W10.int ty33 13
            have ri31 : (-2147483648) ≤ ivh7 a0 14 ∧ ivh7 a0 14 ≤ 2147483647 := W10.int ty33 14
            have ri32 : (-2147483648) ≤ ivh7 a0 15 ∧ ivh7 a0 15 ≤ 2147483647 := W10.int ty33 15
            have ri33 : (-2147483648) ≤ ivh7 a0 16 ∧ ivh7 a0 16 ≤ 2147483647 := W10.int ty33 16
            have ri34 : 0 ≤ ivh7 (sk 23) 2 ∧ ivh7 (sk 23) 2 ≤ 512 := W10.int ty31 2
            have ie43 : ivh7 (sk 23) 2 = iv1 (sk 23) 2 := fl7.i ty31 rfl 2
            have ie44 : iv1 (sk 23) 2 = ivh6 (sk 23) 2 := by rw [pq1]; exact up2_k (ne_ty ty31 ty32 (by decide))
            have ty34 := xl7.ty ty24
            have ri35 : 0 ≤ ivh7 (sk 22) 2 ∧ ivh7 (sk 22) 2 ≤ 30 := W10.int ty34 2
            have ie45 : ivh7 (sk 22) 2 = iv1 (sk 22) 2 := fl7.i ty34 rfl 2
            have ie46 : iv1 (sk 22) 2 = ivh6 (sk 22) 2 := by rw [pq1]; exact up2_k (ne_ty ty34 ty32 (by decide))
            have ie47 : ivh6 (sk 22) 2 = ivh5 (sk 22) 2 := fl6.i ty24 rfl 2
            have ie48 : ivh5 (sk 22) 2 = ivn1 (sk 22) 2 := fl5.i ty23 rfl 2
            have ie49 : ivn1 (sk 22) 2 = iv (sk 22) 2 := by rw [hin1]; exact congrFun (up0_a (ne_in tsk22.1 hqn1)) _
            have ty35 := xl7.ty ty29
            have ri36 : 0 ≤ ivh7 rb2 2 ∧ ivh7 rb2 2 ≤ 200 := W10.int ty35 2
            have ie50 : ivh7 rb2 2 = iv1 rb2 2 := fl7.i ty35 rfl 2
            have ie51 : iv1 rb2 2 = ivh6 rb2 2 := by rw [pq1]; exact up2_k (ne_ty ty35 ty32 (by decide))
            have ie52 : ivh6 rb2 2 = ivh5 rb2 2 := fl6.i ty29 rfl 2
            have ie53 : ivh5 rb2 2 = ivn1 rb2 2 := fl5.i ty28 rfl 2
            have ie54 : ivn1 rb2 2 = iv rb2 2 := by rw [hin1]; exact congrFun (up0_a (ne_in trb2.1 hqn1)) _
            have ty36 := xl7.ty tqr1
            have ri37 : (-2147483648) ≤ ivh7 qn1 0 ∧ ivh7 qn1 0 ≤ 2147483647 := W10.int ty36 0
            have ie55 : ivh7 qn1 0 = iv1 qn1 0 := fl7.i ty36 rfl 0
            have ie56 : iv1 qn1 0 = ivh6 qn1 0 := by rw [pq1]; exact up2_k (ne_ty ty36 ty32 (by decide))
            have ie57 : ivh6 qn1 0 = ivh5 qn1 0 := fl6.i tqr1 rfl 0
            have re1 : rvh6 qn1 1 = rvh5 qn1 1 := (fl6.r tqr1 rfl 1)
            rw [exf5r] at re1
            have ri38 : 0 ≤ ivh7 f4 3 ∧ ivh7 f4 3 ≤ 5 := W10.int ty32 3
            have ie58 : ivh7 f4 3 = iv1 f4 3 := fl7.i ty32 rfl 3
            have ie59 : iv1 f4 3 = cnd := by rw [pq1]; exact up2_s
            have ri39 : 0 ≤ ivh7 qn1 3 ∧ ivh7 qn1 3 ≤ 5 := W10.int ty36 3
            have ie60 : ivh7 qn1 3 = iv1 qn1 3 := fl7.i ty36 rfl 3
            have ie61 : iv1 qn1 3 = ivh6 qn1 3 := by rw [pq1]; exact up2_k (ne_ty ty36 ty32 (by decide))
            have ie62 : ivh6 qn1 3 = ivh5 qn1 3 := fl6.i tqr1 rfl 3
            have re2 : rvh6 qn1 2 = rvh5 qn1 2 := (fl6.r tqr1 rfl 2)
            rw [exf5p] at re2
            exact c_iret C dX11_condition_126 rfl (by decide) (rom0 hph pl3 (by decide)) ⟨f7, rfl, X3, F6, W10, ⟨by omega, by omega⟩, ⟨(by omega), mr7⟩, (by omega), (by omega), (by omega), (by omega), (by omega), (by omega), (Or.inr ⟨ob1, rb2, akob1.2, rq2, ⟨by omega, by omega, by omega, by omega, by omega⟩, by omega, ⟨(fun i hi => el_fr hW (tysk22 hS) rfl rfl F6 rfl rfl hi), TSF.of hW hS (fun bb tbb hbb => by have tb1 := xl5.ty tbb; have tb2 := ty_rt tb1 hcr1 (ne_ty tb1 tqn1 (by decide)); have tb3 := xl7.ty tb2; exact (Eq.trans (show ivh7 bb 7 = iv1 bb 7 from (fl7.i tb3 rfl 7)) (Eq.trans (show iv1 bb 7 = ivh6 bb 7 from (by rw [pq1]; exact up2_k (ne_ty tb3 ty32 (by decide)))) (Eq.trans (show ivh6 bb 7 = ivh5 bb 7 from (fl6.i tb2 rfl 7)) (Eq.trans (show ivh5 bb 7 = ivn1 bb 7 from (fl5.i tb1 rfl 7)) (show ivn1 bb 7 = iv bb 7 from (by rw [hin1]; exact congrFun (up0_a (ne_in tbb.1 hqn1)) _))))))) (fun bb tbb => by have tb1 := xl5.ty tbb; have tb2 := ty_rt tb1 hcr1 (ne_ty tb1 tqn1 (by decide)); have tb3 := xl7.ty tb2; exact (Eq.trans (show ivh7 bb 0 = iv1 bb 0 from (fl7.i tb3 rfl 0)) (Eq.trans (show iv1 bb 0 = ivh6 bb 0 from (by rw [pq1]; exact up2_k (ne_ty tb3 ty32 (by decide)))) (Eq.trans (show ivh6 bb 0 = ivh5 bb 0 from (fl6.i tb2 rfl 0)) (Eq.trans (show ivh5 bb 0 = ivn1 bb 0 from (fl5.i tb1 rfl 0)) (show ivn1 bb 0 = iv bb 0 from (by rw [hin1]; exact congrFun (up0_a (ne_in tbb.1 hqn1)) _))))))) (fun bb tbb => by have tb1 := xl5.ty tbb; have tb2 := ty_rt tb1 hcr1 (ne_ty tb1 tqn1 (by decide)); have tb3 := xl7.ty tb2; exact (Eq.trans (show ivh7 bb 1 = iv1 bb 1 from (fl7.i tb3 rfl 1)) (Eq.trans (show iv1 bb 1 = ivh6 bb 1 from (by rw [pq1]; exact up2_k (ne_ty tb3 ty32 (by decide)))) (Eq.trans (show ivh6 bb 1 = ivh5 bb 1 from (fl6.i tb2 rfl 1)) (Eq.trans (show ivh5 bb 1 = ivn1 bb 1 from (fl5.i tb1 rfl 1)) (show ivn1 bb 1 = iv bb 1 from (by rw [hin1]; exact congrFun (up0_a (ne_in tbb.1 hqn1)) _))))))) (fun bb tbb => by have tb1 := xl5.ty tbb; have tb2 := ty_rt tb1 hcr1 (ne_ty tb1 tqn1 (by decide)); exact (Eq.trans (show rvh6 bb 4 = rvh5 bb 4 from (fl6.r tb2 rfl 4)) (Eq.trans (show rvh5 bb 4 = rvn1 bb 4 from (fl5.r tb1 rfl 4)) (show rvn1 bb 4 = rv bb 4 from (by rw [hrn1]; exact congrFun (up0_a (ne_in tbb.1 hqn1)) _))))), TSQ.of hW hS (fun bb tbb hbb => by have tb1 := xl5.ty tbb; have tb2 := ty_rt tb1 hcr1 (ne_ty tb1 tqn1 (by decide)); have tb3 := xl7.ty tb2; exact (Eq.trans (show ivh7 bb 2 = iv1 bb 2 from (fl7.i tb3 rfl 2)) (Eq.trans (show iv1 bb 2 = ivh6 bb 2 from (by rw [pq1]; exact up2_k (ne_ty tb3 ty32 (by decide)))) (Eq.trans (show ivh6 bb 2 = ivh5 bb 2 from (fl6.i tb2 rfl 2)) (Eq.trans (show ivh5 bb 2 = ivn1 bb 2 from (fl5.i tb1 rfl 2)) (show ivn1 bb 2 = iv bb 2 from (by rw [hin1]; exact congrFun (up0_a (ne_in tbb.1 hqn1)) _)))))))⟩, ⟨(by omega), CS0.of hW hS (Int.le_refl _) (fun i hi => (rmef6.2 i (by omega)).trans (ce1 i hi)) (fun bb tbb => by have tb1 := xl5.ty tbb; have tb2 := ty_rt tb1 hcr1 (ne_ty tb1 tqn1 (by decide)); have tb3 := xl7.ty tb2; exact (Eq.trans (show ivh7 bb 0 = iv1 bb 0 from (fl7.i tb3 rfl 0)) (Eq.trans (show iv1 bb 0 = ivh6 bb 0 from (by rw [pq1]; exact up2_k (ne_ty tb3 ty32 (by decide)))) (Eq.trans (show ivh6 bb 0 = ivh5 bb 0 from (fl6.i tb2 rfl 0)) (Eq.trans (show ivh5 bb 0 = ivn1 bb 0 from (fl5.i tb1 rfl 0)) (show ivn1 bb 0 = iv bb 0 from (by rw [hin1]; exact congrFun (up0_a (ne_in tbb.1 hqn1)) _))))))) (fun bb tbb => by have tb1 := xl5.ty tbb; have tb2 := ty_rt tb1 hcr1 (ne_ty tb1 tqn1 (by decide)); exact (Eq.trans (show rvh6 bb 1 = rvh5 bb 1 from (fl6.r tb2 rfl 1)) (Eq.trans (show rvh5 bb 1 = rvn1 bb 1 from (fl5.r tb1 rfl 1)) (show rvn1 bb 1 = rv bb 1 from (by rw [hrn1]; exact congrFun (up0_a (ne_in tbb.1 hqn1)) _))))), ⟨qn1, (by rw [show (iv (sk 23) 2).toNat = (ivh5 (sk 23) 2).toNat from congrArg Int.toNat (by omega)]; exact rmef6.1), (by omega), re1⟩⟩⟩), (Or.inr ⟨ob1, rb2, f4, ⟨akob1.2, rq2, exf4, by omega⟩, kp6, by omega, ⟨(by omega), qn1, (by rw [show (iv (sk 23) 2).toNat = (ivh5 (sk 23) 2).toNat from congrArg Int.toNat (by omega)]; exact rmef6.1), re1, re2, (by omega)⟩⟩), (Eq.trans (show rvh6 a0 9 = rvh5 a0 9 from (fl6.r ty4 rfl 9)) (Eq.trans (show rvh5 a0 9 = rvn1 a0 9 from (fl5.r ty3 rfl 9)) (show rvn1 a0 9 = rv a0 9 from (by rw [hrn1]; exact congrFun (up0_a (ne_in t_a0.1 hqn1)) _)))), (Eq.trans (show rvh6 a0 10 = rvh5 a0 10 from (fl6.r ty4 rfl 10)) (Eq.trans (show rvh5 a0 10 = rvn1 a0 10 from (fl5.r ty3 rfl 10)) (show rvn1 a0 10 = rv a0 10 from (by rw [hrn1]; exact congrFun (up0_a (ne_in t_a0.1 hqn1)) _))))⟩
          · refine c_st (st2 := [.int (iI 0)]) (by rw [show inn (iI cnd) 0 5 = iI 0 from hs1e]) ?_
            refine c_if_ne (tgt := 72) C ⟨by decide, by decide⟩ dX11_condition_62 (by decide) (fun z => absurd z (by omega)) (fun _ => ?_)
            refine c_aload_n (j := 1) (x := a0) C dX11_condition_65 rfl ?_
            refine c_bipush (z := 6) C dX11_condition_66 (by decide) ?_
            refine d_callV (As := [.int (iI 6)]) (rest := []) C hM (C_refuse (a0 := a0) (x := 6) hW hS t_a0 ⟨by decide, by decide⟩ ) dX11_condition_68 kV_X11_102 rfl t_a0 rfl rfl (by decide) ck_12 rfl (Nat.le_of_ble_eq_true rfl) ⟨(Nat.le_of_ble_eq_true rfl), (Nat.le_of_ble_eq_true rfl)⟩ hph hph (show 0 + 0 = 0 from rfl) (by decide) (fun rh8 Lh8 clh8 lnh8 ivh8 rvh8 h8 => ?_)
            obtain ⟨f8, rfl, rfl, rfl, rfl, rfl, fl8, W11, rgf8, exf8, kp11f8, kp12f8, kp13f8, kp14f8, kp15f8, kp16f8⟩ := h8
            have ri40 : 1 ≤ iv a0 11 ∧ iv a0 11 ≤ 100 := hW.int t_a0 11
            have ri41 : 1 ≤ iv a0 12 ∧ iv a0 12 ≤ 50 := hW.int t_a0 12
            have ri42 : (-2147483648) ≤ iv a0 13 ∧ iv a0 13 ≤ 2147483647 := hW.int t_a0 13
            have ri43 : (-2147483648) ≤ iv a0 14 ∧ iv a0 14 ≤ 2147483647 := hW.int t_a0 14
            have ri44 : (-2147483648) ≤ iv a0 15 ∧ iv a0 15 ≤ 2147483647 := hW.int t_a0 15
            have ri45 : (-2147483648) ≤ iv a0 16 ∧ iv a0 16 ≤ 2147483647 := hW.int t_a0 16
            have F7 := hF0.call hX0 fl8 rfl
            have mr8 := MRK.call hmr hW hS XT.refl fl8 rfl rfl
            refine c_st (st2 := [.int (iI f8)]) rfl ?_
            have gk11f8 : ivh8 a0 11 = iv a0 11 := kp11f8
            have gk12f8 : ivh8 a0 12 = iv a0 12 := kp12f8
            have gk13f8 : ivh8 a0 13 = iv a0 13 := kp13f8
            have gk14f8 : ivh8 a0 14 = iv a0 14 := kp14f8
            have gk15f8 : ivh8 a0 15 = iv a0 15 := kp15f8
            have gk16f8 : ivh8 a0 16 = iv a0 16 := kp16f8
            have gf8 : f8 = -1 := exf8
            have ri46 : 1 ≤ ivh8 a0 11 ∧ ivh8 a0 11 ≤ 100 := W11.int t_a0 11
            have ri47 : 1 ≤ ivh8 a0 12 ∧ ivh8 a0 12 ≤ 50 := W11.int t_a0 12
            have ri48 : (-2147483648) ≤ ivh8 a0 13 ∧ ivh8 a0 13 ≤ 2147483647 := W11.int t_a0 13
            have ri49 : (-2147483648) ≤ ivh8 a0 14 ∧ ivh8 a0 14 ≤ 2147483647 := W11.int t_a0 14
            have ri50 : (-2147483648) ≤ ivh8 a0 15 ∧ ivh8 a0 15 ≤ 2147483647 := W11.int t_a0 15
            have ri51 : (-2147483648) ≤ ivh8 a0 16 ∧ ivh8 a0 16 ≤ 2147483647 := W11.int t_a0 16
            have ri52 : 0 ≤ ivh8 (sk 23) 2 ∧ ivh8 (sk 23) 2 ≤ 512 := W11.int tsk23 2
            have ie69 : ivh8 (sk 23) 2 = iv (sk 23) 2 := fl8.i tsk23 rfl 2
            have ri53 : 0 ≤ ivh8 (sk 22) 2 ∧ ivh8 (sk 22) 2 ≤ 30 := W11.int tsk22 2
            have ie70 : ivh8 (sk 22) 2 = iv (sk 22) 2 := fl8.i tsk22 rfl 2
            have ri54 : (-2147483648) ≤ ivh8 ob1 0 ∧ ivh8 ob1 0 ≤ 2147483647 := W11.int tob1 0
            have ie71 : ivh8 ob1 0 = iv ob1 0 := fl8.i tob1 rfl 0
            have ri55 : 0 ≤ ivh8 rb2 2 ∧ ivh8 rb2 2 ≤ 200 := W11.int trb2 2
            have ie72 : ivh8 rb2 2 = iv rb2 2 := fl8.i trb2 rfl 2
            exact c_iret C dX11_condition_71 rfl (by decide) (rom0 hph hph (by decide)) ⟨f8, rfl, hX0, F7, W11, ⟨by omega, by omega⟩, ⟨(by omega), mr8⟩, (by omega), (by omega), (by omega), (by omega), (by omega), (by omega), (Or.inl ⟨by omega, PSAME.fr hW hS fl8 rfl rfl rfl rfl rfl rfl rfl, (fun t q ht hq h => by
                have e := ht.uni akob1.2
                subst e
                obtain ⟨h1, h2, h3, h4, h5⟩ := h
                first | omega | (rw [rq2] at hq; cases hq; omega))⟩), (Or.inl ⟨by omega, KP.fr hW fl8 rfl, by omega⟩), rfl, rfl⟩
        · refine c_aload_n (j := 1) (x := a0) C dX11_condition_52 rfl ?_
          refine c_iconst C dX11_condition_53 ?_
          refine d_callV (As := [.int (iI 2)]) (rest := []) C hM (C_refuse (a0 := a0) (x := 2) hW hS t_a0 ⟨by decide, by decide⟩ ) dX11_condition_54 kV_X11_102 rfl t_a0 rfl rfl (by decide) ck_12 rfl (Nat.le_of_ble_eq_true rfl) ⟨(Nat.le_of_ble_eq_true rfl), (Nat.le_of_ble_eq_true rfl)⟩ hph hph (show 0 + 0 = 0 from rfl) (by decide) (fun rh9 Lh9 clh9 lnh9 ivh9 rvh9 h9 => ?_)
          obtain ⟨f9, rfl, rfl, rfl, rfl, rfl, fl9, W12, rgf9, exf9, kp11f9, kp12f9, kp13f9, kp14f9, kp15f9, kp16f9⟩ := h9
          have ri56 : 1 ≤ iv a0 11 ∧ iv a0 11 ≤ 100 := hW.int t_a0 11
          have ri57 : 1 ≤ iv a0 12 ∧ iv a0 12 ≤ 50 := hW.int t_a0 12
          have ri58 : (-2147483648) ≤ iv a0 13 ∧ iv a0 13 ≤ 2147483647 := hW.int t_a0 13
          have ri59 : (-2147483648) ≤ iv a0 14 ∧ iv a0 14 ≤ 2147483647 := hW.int t_a0 14
          have ri60 : (-2147483648) ≤ iv a0 15 ∧ iv a0 15 ≤ 2147483647 := hW.int t_a0 15
          have ri61 : (-2147483648) ≤ iv a0 16 ∧ iv a0 16 ≤ 2147483647 := hW.int t_a0 16
          have F8 := hF0.call hX0 fl9 rfl
          have mr9 := MRK.call hmr hW hS XT.refl fl9 rfl rfl
          refine c_st (st2 := [.int (iI f9)]) rfl ?_
          have gk11f9 : ivh9 a0 11 = iv a0 11 := kp11f9
          have gk12f9 : ivh9 a0 12 = iv a0 12 := kp12f9
          have gk13f9 : ivh9 a0 13 = iv a0 13 := kp13f9
          have gk14f9 : ivh9 a0 14 = iv a0 14 := kp14f9
          have gk15f9 : ivh9 a0 15 = iv a0 15 := kp15f9
          have gk16f9 : ivh9 a0 16 = iv a0 16 := kp16f9
          have gf9 : f9 = -1 := exf9
          have ri62 : 1 ≤ ivh9 a0 11 ∧ ivh9 a0 11 ≤ 100 := W12.int t_a0 11
          have ri63 : 1 ≤ ivh9 a0 12 ∧ ivh9 a0 12 ≤ 50 := W12.int t_a0 12
          have ri64 : (-2147483648) ≤ ivh9 a0 13 ∧ ivh9 a0 13 ≤ 2147483647 := W12.int t_a0 13
          have ri65 : (-2147483648) ≤ ivh9 a0 14 ∧ ivh9 a0 14 ≤ 2147483647 := W12.int t_a0 14
          have ri66 : (-2147483648) ≤ ivh9 a0 15 ∧ ivh9 a0 15 ≤ 2147483647 := W12.int t_a0 15
          have ri67 : (-2147483648) ≤ ivh9 a0 16 ∧ ivh9 a0 16 ≤ 2147483647 := W12.int t_a0 16
          have ri68 : 0 ≤ ivh9 (sk 23) 2 ∧ ivh9 (sk 23) 2 ≤ 512 := W12.int tsk23 2
          have ie79 : ivh9 (sk 23) 2 = iv (sk 23) 2 := fl9.i tsk23 rfl 2
          have ri69 : 0 ≤ ivh9 (sk 22) 2 ∧ ivh9 (sk 22) 2 ≤ 30 := W12.int tsk22 2
          have ie80 : ivh9 (sk 22) 2 = iv (sk 22) 2 := fl9.i tsk22 rfl 2
          have ri70 : (-2147483648) ≤ ivh9 ob1 0 ∧ ivh9 ob1 0 ≤ 2147483647 := W12.int tob1 0
          have ie81 : ivh9 ob1 0 = iv ob1 0 := fl9.i tob1 rfl 0
          have ri71 : 0 ≤ ivh9 rb2 2 ∧ ivh9 rb2 2 ≤ 200 := W12.int trb2 2
          have ie82 : ivh9 rb2 2 = iv rb2 2 := fl9.i trb2 rfl 2
          exact c_iret C dX11_condition_57 rfl (by decide) (rom0 hph hph (by decide)) ⟨f9, rfl, hX0, F8, W12, ⟨by omega, by omega⟩, ⟨(by omega), mr9⟩, (by omega), (by omega), (by omega), (by omega), (by omega), (by omega), (Or.inl ⟨by omega, PSAME.fr hW hS fl9 rfl rfl rfl rfl rfl rfl rfl, (fun t q ht hq h => by
              have e := ht.uni akob1.2
              subst e
              obtain ⟨h1, h2, h3, h4, h5⟩ := h
              first | omega | (rw [rq2] at hq; cases hq; omega))⟩), (Or.inl ⟨by omega, KP.fr hW fl9 rfl, by omega⟩), rfl, rfl⟩
    · refine c_aload_n (j := 1) (x := a0) C dX11_condition_30 rfl ?_
      refine c_iconst C dX11_condition_31 ?_
      refine d_callV (As := [.int (iI 4)]) (rest := []) C hM (C_refuse (a0 := a0) (x := 4) hW hS t_a0 ⟨by decide, by decide⟩ ) dX11_condition_32 kV_X11_102 rfl t_a0 rfl rfl (by decide) ck_12 rfl (Nat.le_of_ble_eq_true rfl) ⟨(Nat.le_of_ble_eq_true rfl), (Nat.le_of_ble_eq_true rfl)⟩ hph hph (show 0 + 0 = 0 from rfl) (by decide) (fun rh10 Lh10 clh10 lnh10 ivh10 rvh10 h10 => ?_)
      obtain ⟨f10, rfl, rfl, rfl, rfl, rfl, fl10, W13, rgf10, exf10, kp11f10, kp12f10, kp13f10, kp14f10, kp15f10, kp16f10⟩ := h10
      have ri72 : 1 ≤ iv a0 11 ∧ iv a0 11 ≤ 100 := hW.int t_a0 11
      have ri73 : 1 ≤ iv a0 12 ∧ iv a0 12 ≤ 50 := hW.int t_a0 12
      have ri74 : (-2147483648) ≤ iv a0 13 ∧ iv a0 13 ≤ 2147483647 := hW.int t_a0 13
      have ri75 : (-2147483648) ≤ iv a0 14 ∧ iv a0 14 ≤ 2147483647 := hW.int t_a0 14
      have ri76 : (-2147483648) ≤ iv a0 15 ∧ iv a0 15 ≤ 2147483647 := hW.int t_a0 15
      have ri77 : (-2147483648) ≤ iv a0 16 ∧ iv a0 16 ≤ 2147483647 := hW.int t_a0 16
      have F9 := hF0.call hX0 fl10 rfl
      have mr10 := MRK.call hmr hW hS XT.refl fl10 rfl rfl
      refine c_st (st2 := [.int (iI f10)]) rfl ?_
      have gk11f10 : ivh10 a0 11 = iv a0 11 := kp11f10
      have gk12f10 : ivh10 a0 12 = iv a0 12 := kp12f10
      have gk13f10 : ivh10 a0 13 = iv a0 13 := kp13f10
      have gk14f10 : ivh10 a0 14 = iv a0 14 := kp14f10
      have gk15f10 : ivh10 a0 15 = iv a0 15 := kp15f10
      have gk16f10 : ivh10 a0 16 = iv a0 16 := kp16f10
      have gf10 : f10 = -1 := exf10
      have ri78 : 1 ≤ ivh10 a0 11 ∧ ivh10 a0 11 ≤ 100 := W13.int t_a0 11
      have ri79 : 1 ≤ ivh10 a0 12 ∧ ivh10 a0 12 ≤ 50 := W13.int t_a0 12
      have ri80 : (-2147483648) ≤ ivh10 a0 13 ∧ ivh10 a0 13 ≤ 2147483647 := W13.int t_a0 13
      have ri81 : (-2147483648) ≤ ivh10 a0 14 ∧ ivh10 a0 14 ≤ 2147483647 := W13.int t_a0 14
      have ri82 : (-2147483648) ≤ ivh10 a0 15 ∧ ivh10 a0 15 ≤ 2147483647 := W13.int t_a0 15
      have ri83 : (-2147483648) ≤ ivh10 a0 16 ∧ ivh10 a0 16 ≤ 2147483647 := W13.int t_a0 16
      have ri84 : 0 ≤ ivh10 (sk 23) 2 ∧ ivh10 (sk 23) 2 ≤ 512 := W13.int tsk23 2
      have ie89 : ivh10 (sk 23) 2 = iv (sk 23) 2 := fl10.i tsk23 rfl 2
      have ri85 : 0 ≤ ivh10 (sk 22) 2 ∧ ivh10 (sk 22) 2 ≤ 30 := W13.int tsk22 2
      have ie90 : ivh10 (sk 22) 2 = iv (sk 22) 2 := fl10.i tsk22 rfl 2
      have ri86 : (-2147483648) ≤ ivh10 ob1 0 ∧ ivh10 ob1 0 ≤ 2147483647 := W13.int tob1 0
      have ie91 : ivh10 ob1 0 = iv ob1 0 := fl10.i tob1 rfl 0
      exact c_iret C dX11_condition_35 rfl (by decide) (rom0 hph hph (by decide)) ⟨f10, rfl, hX0, F9, W13, ⟨by omega, by omega⟩, ⟨(by omega), mr10⟩, (by omega), (by omega), (by omega), (by omega), (by omega), (by omega), (Or.inl ⟨by omega, PSAME.fr hW hS fl10 rfl rfl rfl rfl rfl rfl rfl, (fun t q ht hq h => by
          have e := ht.uni akob1.2
          subst e
          obtain ⟨h1, h2, h3, h4, h5⟩ := h
          first | omega)⟩), (Or.inl ⟨by omega, KP.fr hW fl10 rfl, by omega⟩), rfl, rfl⟩
  · subst oq1
    refine c_lv (lv2 := [(4, .null), (0, .ref a0), (1, .int (iI i)), (2, .int (iI j)), (3, .int (iI cnd))]) [0, 1, 2, 3, 4] rfl ?_
    refine c_st (st2 := []) rfl ?_
    refine c_aload_n (j := 1) (x := a0) C dX11_condition_15 rfl ?_
    refine c_iconst C dX11_condition_16 ?_
    refine d_callV (As := [.int (iI 3)]) (rest := []) C hM (C_refuse (a0 := a0) (x := 3) hW hS t_a0 ⟨by decide, by decide⟩ ) dX11_condition_17 kV_X11_102 rfl t_a0 rfl rfl (by decide) ck_12 rfl (Nat.le_of_ble_eq_true rfl) ⟨(Nat.le_of_ble_eq_true rfl), (Nat.le_of_ble_eq_true rfl)⟩ hph hph (show 0 + 0 = 0 from rfl) (by decide) (fun rh11 Lh11 clh11 lnh11 ivh11 rvh11 h11 => ?_)
    obtain ⟨f11, rfl, rfl, rfl, rfl, rfl, fl11, W14, rgf11, exf11, kp11f11, kp12f11, kp13f11, kp14f11, kp15f11, kp16f11⟩ := h11
    have ri87 : 1 ≤ iv a0 11 ∧ iv a0 11 ≤ 100 := hW.int t_a0 11
    have ri88 : 1 ≤ iv a0 12 ∧ iv a0 12 ≤ 50 := hW.int t_a0 12
    have ri89 : (-2147483648) ≤ iv a0 13 ∧ iv a0 13 ≤ 2147483647 := hW.int t_a0 13
    have ri90 : (-2147483648) ≤ iv a0 14 ∧ iv a0 14 ≤ 2147483647 := hW.int t_a0 14
    have ri91 : (-2147483648) ≤ iv a0 15 ∧ iv a0 15 ≤ 2147483647 := hW.int t_a0 15
    have ri92 : (-2147483648) ≤ iv a0 16 ∧ iv a0 16 ≤ 2147483647 := hW.int t_a0 16
    have F10 := hF0.call hX0 fl11 rfl
    have mr11 := MRK.call hmr hW hS XT.refl fl11 rfl rfl
    refine c_st (st2 := [.int (iI f11)]) rfl ?_
    have gk11f11 : ivh11 a0 11 = iv a0 11 := kp11f11
    have gk12f11 : ivh11 a0 12 = iv a0 12 := kp12f11
    have gk13f11 : ivh11 a0 13 = iv a0 13 := kp13f11
    have gk14f11 : ivh11 a0 14 = iv a0 14 := kp14f11
    have gk15f11 : ivh11 a0 15 = iv a0 15 := kp15f11
    have gk16f11 : ivh11 a0 16 = iv a0 16 := kp16f11
    have gf11 : f11 = -1 := exf11
    have ri93 : 1 ≤ ivh11 a0 11 ∧ ivh11 a0 11 ≤ 100 := W14.int t_a0 11
    have ri94 : 1 ≤ ivh11 a0 12 ∧ ivh11 a0 12 ≤ 50 := W14.int t_a0 12
    have ri95 : (-2147483648) ≤ ivh11 a0 13 ∧ ivh11 a0 13 ≤ 2147483647 := W14.int t_a0 13
    have ri96 : (-2147483648) ≤ ivh11 a0 14 ∧ ivh11 a0 14 ≤ 2147483647 := W14.int t_a0 14
    have ri97 : (-2147483648) ≤ ivh11 a0 15 ∧ ivh11 a0 15 ≤ 2147483647 := W14.int t_a0 15
    have ri98 : (-2147483648) ≤ ivh11 a0 16 ∧ ivh11 a0 16 ≤ 2147483647 := W14.int t_a0 16
    have ri99 : 0 ≤ ivh11 (sk 23) 2 ∧ ivh11 (sk 23) 2 ≤ 512 := W14.int tsk23 2
    have ie98 : ivh11 (sk 23) 2 = iv (sk 23) 2 := fl11.i tsk23 rfl 2
    have ri100 : 0 ≤ ivh11 (sk 22) 2 ∧ ivh11 (sk 22) 2 ≤ 30 := W14.int tsk22 2
    have ie99 : ivh11 (sk 22) 2 = iv (sk 22) 2 := fl11.i tsk22 rfl 2
    exact c_iret C dX11_condition_20 rfl (by decide) (rom0 hph hph (by decide)) ⟨f11, rfl, hX0, F10, W14, ⟨by omega, by omega⟩, ⟨(by omega), mr11⟩, (by omega), (by omega), (by omega), (by omega), (by omega), (by omega), (Or.inl ⟨by omega, PSAME.fr hW hS fl11 rfl rfl rfl rfl rfl rfl rfl, (fun t q ht hq _ => gf1.2 rfl t ht)⟩), (Or.inl ⟨by omega, KP.fr hW fl11 rfl, by omega⟩), rfl, rfl⟩
