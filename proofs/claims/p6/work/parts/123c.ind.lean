set_option maxHeartbeats 4000000 in
set_option maxRecDepth 100000 in
theorem C_changeInd {l : Launch} {G : GT} {mi : Nat} {sk : Nat → Nat} {L : List Nat} {cl ln : Nat → Nat} {iv : Nat → Nat → Int} {rv : Nat → Nat → Option Nat}  {a0 : Nat} {i : Int} {j : Int} (hW : WT (g0 G) sk L cl ln iv rv) (hS : SKL sk L cl) (t_a0 : ty L cl a0 1) (h_i : -2147483648 ≤ i ∧ i ≤ 2147483647) (h_j : -2147483648 ≤ j ∧ j ≤ 2147483647) (hmr : MRK sk cl iv rv) (hch : iv (sk 23) 2 < 512) : Mc l G mi (Phi (g0 G) sk) PHM yX11_changeIndicator cX11_changeIndicator 4 (some .int) 8 [.ref a0, .int (iI i), .int (iI j)] L cl ln iv rv 1300 (fun v L2 cl2 ln2 iv2 rv2 => ∃ f : Int, v = some (.int (iI f)) ∧ XT L cl ln L2 cl2 ln2 ∧ fT [1, 65, 66, 206, 68, 23, 1001, 201] L cl iv rv iv2 rv2 ∧ WT (g0 G) sk L2 cl2 ln2 iv2 rv2 ∧ (-2147483648 ≤ f ∧ f ≤ 2147483647) ∧ (iv2 (sk 23) 2 ≤ iv (sk 23) 2 + 1 ∧ MRK sk cl2 iv2 rv2) ∧ iv2 a0 11 = iv a0 11 ∧ iv2 a0 12 = iv a0 12 ∧ iv2 a0 13 = iv a0 13 ∧ iv2 a0 14 = iv a0 14 ∧ iv2 a0 15 = iv a0 15 ∧ iv2 a0 16 = iv a0 16 ∧ (PIND i j f sk iv rv iv2 rv2) ∧ (KIN L cl sk iv rv L2 cl2 ln2 iv2 rv2 i j f) ∧ rv2 a0 9 = rv a0 9 ∧ rv2 a0 10 = rv a0 10) := by
  refine Mc.mk (by decide) (Nat.le_of_ble_eq_true rfl) ?_
  intro p e s m args below meth c A C hM
  have hph := Phi.le hW hS
  have tsk2 : ty L cl (sk 2) 2 := ⟨(hS 2 rfl).1, by rw [(hS 2 rfl).2]; rfl⟩
  have tsk3 : ty L cl (sk 3) 3 := ⟨(hS 3 rfl).1, by rw [(hS 3 rfl).2]; rfl⟩
  have tsk4 : ty L cl (sk 4) 4 := ⟨(hS 4 rfl).1, by rw [(hS 4 rfl).2]; rfl⟩
  have tsk5 : ty L cl (sk 5) 5 := ⟨(hS 5 rfl).1, by rw [(hS 5 rfl).2]; rfl⟩
  have tsk13 : ty L cl (sk 13) 13 := ⟨(hS 13 rfl).1, by rw [(hS 13 rfl).2]; rfl⟩
  have tsk14 : ty L cl (sk 14) 14 := ⟨(hS 14 rfl).1, by rw [(hS 14 rfl).2]; rfl⟩
  have tsk15 : ty L cl (sk 15) 15 := ⟨(hS 15 rfl).1, by rw [(hS 15 rfl).2]; rfl⟩
  have tsk16 : ty L cl (sk 16) 16 := ⟨(hS 16 rfl).1, by rw [(hS 16 rfl).2]; rfl⟩
  have tsk17 : ty L cl (sk 17) 17 := ⟨(hS 17 rfl).1, by rw [(hS 17 rfl).2]; rfl⟩
  have tsk22 : ty L cl (sk 22) 22 := ⟨(hS 22 rfl).1, by rw [(hS 22 rfl).2]; rfl⟩
  have tsk23 : ty L cl (sk 23) 23 := ⟨(hS 23 rfl).1, by rw [(hS 23 rfl).2]; rfl⟩
  have hX0 : XT L cl ln L cl ln := XT.refl
  have hF0 : fT [1, 65, 66, 206, 68, 23, 1001, 201] L cl iv rv iv rv := fT.refl
  refine c_iload_n (j := 2) C dX11_changeIndicator_0 rfl ?_
  refine c_if_lt (tgt := 9) C ⟨by omega, by omega⟩ dX11_changeIndicator_1 (by decide) (fun c1 => ?_) (fun c1 => ?_)
  · refine c_aload_n (j := 0) (x := a0) C dX11_changeIndicator_9 rfl ?_
    refine c_bipush (z := 6) C dX11_changeIndicator_10 (by decide) ?_
    refine d_callV (As := [.int (iI 6)]) (rest := []) C hM (C_refuse (a0 := a0) (x := 6) hW hS t_a0 ⟨by decide, by decide⟩ ) dX11_changeIndicator_12 kV_X11_102 rfl t_a0 rfl rfl (by decide) ck_12 rfl (Nat.le_of_ble_eq_true rfl) ⟨(Nat.le_of_ble_eq_true rfl), (Nat.le_of_ble_eq_true rfl)⟩ hph hph (show 0 + 0 = 0 from rfl) (by decide) (fun rh1 Lh1 clh1 lnh1 ivh1 rvh1 h1 => ?_)
    obtain ⟨f1, rfl, rfl, rfl, rfl, rfl, fl1, W1, rgf1, exf1, kp11f1, kp12f1, kp13f1, kp14f1, kp15f1, kp16f1⟩ := h1
    have ri1 : 1 ≤ iv a0 11 ∧ iv a0 11 ≤ 100 := hW.int t_a0 11
    have ri2 : 1 ≤ iv a0 12 ∧ iv a0 12 ≤ 50 := hW.int t_a0 12
    have ri3 : (-2147483648) ≤ iv a0 13 ∧ iv a0 13 ≤ 2147483647 := hW.int t_a0 13
    have ri4 : (-2147483648) ≤ iv a0 14 ∧ iv a0 14 ≤ 2147483647 := hW.int t_a0 14
    have ri5 : (-2147483648) ≤ iv a0 15 ∧ iv a0 15 ≤ 2147483647 := hW.int t_a0 15
    have ri6 : (-2147483648) ≤ iv a0 16 ∧ iv a0 16 ≤ 2147483647 := hW.int t_a0 16
    have F1 := hF0.call hX0 fl1 rfl
    have mr1 := MRK.call hmr hW hS XT.refl fl1 rfl rfl
    refine c_st (st2 := [.int (iI f1)]) rfl ?_
    have gk11f1 : ivh1 a0 11 = iv a0 11 := kp11f1
    have gk12f1 : ivh1 a0 12 = iv a0 12 := kp12f1
    have gk13f1 : ivh1 a0 13 = iv a0 13 := kp13f1
    have gk14f1 : ivh1 a0 14 = iv a0 14 := kp14f1
    have gk15f1 : ivh1 a0 15 = iv a0 15 := kp15f1
    have gk16f1 : ivh1 a0 16 = iv a0 16 := kp16f1
    have gf1 : f1 = -1 := exf1
    have ri7 : 1 ≤ ivh1 a0 11 ∧ ivh1 a0 11 ≤ 100 := W1.int t_a0 11
    have ri8 : 1 ≤ ivh1 a0 12 ∧ ivh1 a0 12 ≤ 50 := W1.int t_a0 12
    have ri9 : (-2147483648) ≤ ivh1 a0 13 ∧ ivh1 a0 13 ≤ 2147483647 := W1.int t_a0 13
    have ri10 : (-2147483648) ≤ ivh1 a0 14 ∧ ivh1 a0 14 ≤ 2147483647 := W1.int t_a0 14
    have ri11 : (-2147483648) ≤ ivh1 a0 15 ∧ ivh1 a0 15 ≤ 2147483647 := W1.int t_a0 15
    have ri12 : (-2147483648) ≤ ivh1 a0 16 ∧ ivh1 a0 16 ≤ 2147483647 := W1.int t_a0 16
    have ri13 : 0 ≤ ivh1 (sk 23) 2 ∧ ivh1 (sk 23) 2 ≤ 512 := W1.int tsk23 2
    have ie7 : ivh1 (sk 23) 2 = iv (sk 23) 2 := fl1.i tsk23 rfl 2
    have ri14 : 0 ≤ ivh1 (sk 22) 2 ∧ ivh1 (sk 22) 2 ≤ 30 := W1.int tsk22 2
    have ie8 : ivh1 (sk 22) 2 = iv (sk 22) 2 := fl1.i tsk22 rfl 2
    have ri15 : 0 ≤ ivh1 (sk 2) 2 ∧ ivh1 (sk 2) 2 ≤ 3000 := W1.int tsk2 2
    have ie9 : ivh1 (sk 2) 2 = iv (sk 2) 2 := fl1.i tsk2 rfl 2
    exact c_iret C dX11_changeIndicator_15 rfl (by decide) (rom0 hph hph (by decide)) ⟨f1, rfl, hX0, F1, W1, ⟨by omega, by omega⟩, ⟨(by omega), mr1⟩, (by omega), (by omega), (by omega), (by omega), (by omega), (by omega), (Or.inl ⟨by omega, PSAME.fr hW hS fl1 rfl rfl rfl rfl rfl rfl rfl, (fun ss t hs ht hd h => by
        obtain ⟨h1, h2, h3, h4⟩ := h.1
        omega)⟩), (Or.inl ⟨by omega, KP.fr hW fl1 rfl⟩), rfl, rfl⟩
  · refine c_iload_n (j := 2) C dX11_changeIndicator_4 rfl ?_
    refine c_iconst C dX11_changeIndicator_5 ?_
    refine c_icmp_le (tgt := 16) C ⟨by omega, by omega⟩ ⟨by decide, by decide⟩ dX11_changeIndicator_6 (by decide) (fun c2 => ?_) (fun c2 => ?_)
    · refine c_aload_n (j := 0) (x := a0) C dX11_changeIndicator_16 rfl ?_
      obtain ⟨rb1, rq1, trb1⟩ := hW.ref t_a0 4 rfl rfl rfl
      have erb1 := hW.sk trb1 (by decide) rfl
      subst erb1
      refine c_getr (k := 4) C ck_12 dX11_changeIndicator_17 w2_48 (by decide) t_a0 rfl rfl (by decide) rfl rq1 ?_
      refine c_st (st2 := [.ref (sk 13)]) rfl ?_
      refine c_iload_n (j := 1) C dX11_changeIndicator_20 rfl ?_
      have ri16 : 0 ≤ iv (sk 22) 2 ∧ iv (sk 22) 2 ≤ 30 := hW.int tsk22 2
      refine d_callV (As := [.int (iI i)]) (rest := []) C hM (C_alive (a0 := (sk 13)) (i := i) hW hS tsk13 (by omega) hmr) dX11_changeIndicator_21 kV_X11_131 rfl tsk13 rfl rfl (by decide) ck_11 rfl (Nat.le_of_ble_eq_true rfl) ⟨(Nat.le_of_ble_eq_true rfl), (Nat.le_of_ble_eq_true rfl)⟩ hph hph (show 0 + 0 = 0 from rfl) (by decide) (fun rh2 Lh2 clh2 lnh2 ivh2 rvh2 h2 => ?_)
      obtain ⟨f2, rfl, rfl, rfl, rfl, rfl, rfl, rgf2, exf2⟩ := h2
      refine c_st (st2 := [(va_rf f2)]) rfl ?_
      have gf2 : (∀ b, f2 = some b → ((cl b : Nat) : Int) < 100 + iv (sk 22) 2 ∧ ALV sk iv rv i b) ∧ (f2 = none → ∀ b, ¬ ALV sk iv rv i b) := exf2
      refine c_astorer_n (r := f2) (lv2 := [(3, (va_rf f2)), (0, .ref a0), (1, .int (iI i)), (2, .int (iI j))]) C dX11_changeIndicator_24 (by decide) rfl ?_
      refine c_aloadr_n (j := 0) (r := f2) C dX11_changeIndicator_25 rfl ?_
      refine c_ifnonnull (r := f2) (tgt := 35) C dX11_changeIndicator_26 (by decide) (fun ob1 oq1 => ?_) (fun oq1 => ?_)
      · subst oq1
        have tob1 := rgf2 ob1 rfl
        have akob1 := gf2.1 ob1 rfl
        refine c_lv (lv2 := [(3, .ref ob1), (0, .ref a0), (1, .int (iI i)), (2, .int (iI j))]) [0, 1, 2, 3] rfl ?_
        refine c_st (st2 := []) rfl ?_
        refine c_aload_n (j := 0) (x := ob1) C dX11_changeIndicator_35 rfl ?_
        refine c_iload_n (j := 3) C dX11_changeIndicator_36 rfl ?_
        have ri17 : (-2147483648) ≤ iv ob1 0 ∧ iv ob1 0 ≤ 2147483647 := hW.int tob1 0
        refine d_callV (As := [.int (iI j)]) (rest := []) C hM (C_mayHave (a0 := ob1) (i := j) hW hS tob1 (by omega) ) dX11_changeIndicator_37 kV_X11_211 rfl tob1 rfl rfl (by decide) ck_10 rfl (Nat.le_of_ble_eq_true rfl) ⟨(Nat.le_of_ble_eq_true rfl), (Nat.le_of_ble_eq_true rfl)⟩ hph hph (show 0 + 0 = 0 from rfl) (by decide) (fun rh3 Lh3 clh3 lnh3 ivh3 rvh3 h3 => ?_)
        obtain ⟨f3, rfl, rfl, rfl, rfl, rfl, rfl, rgf3, exf3⟩ := h3
        refine c_st (st2 := [.int (iI f3)]) rfl ?_
        have gf3 : MH f3 j (iv ob1 0) := exf3
        refine c_if_ne (tgt := 49) C ⟨by omega, by omega⟩ dX11_changeIndicator_40 (by decide) (fun c3 => ?_) (fun c3 => ?_)
        · refine c_aload_n (j := 1) (x := a0) C dX11_changeIndicator_49 rfl ?_
          refine c_iconst C dX11_changeIndicator_50 ?_
          refine c_aload_n (j := 0) (x := ob1) C dX11_changeIndicator_51 rfl ?_
          have ri18 : (-2147483648) ≤ iv ob1 1 ∧ iv ob1 1 ≤ 2147483647 := hW.int tob1 1
          refine c_get (k := 1) C ck_10 dX11_changeIndicator_52 w2_179 (by decide) tob1 rfl rfl (by decide) rfl ?_
          have ri19 : 0 ≤ iv (sk 2) 2 ∧ iv (sk 2) 2 ≤ 3000 := hW.int tsk2 2
          refine d_callV (As := [.int (iI 0), .int (iI (iv ob1 1))]) (rest := []) C hM (C_isRow (a0 := a0) (i := 0) (n := iv ob1 1) hW hS t_a0 ⟨by decide, by decide⟩ (by omega) (by show 0 ≤ (0 : Int); omega)) dX11_changeIndicator_55 kV_X11_175 rfl t_a0 rfl rfl (by decide) ck_12 rfl (Nat.le_of_ble_eq_true rfl) ⟨(Nat.le_of_ble_eq_true rfl), (Nat.le_of_ble_eq_true rfl)⟩ hph hph (show 0 + 0 = 0 from rfl) (by decide) (fun rh4 Lh4 clh4 lnh4 ivh4 rvh4 h4 => ?_)
          obtain ⟨f4, rfl, rfl, rfl, rfl, rfl, rfl, rgf4, exf4, irxf4⟩ := h4
          refine c_st (st2 := [.int (iI f4)]) rfl ?_
          have gf4 : f4 = 0 ∨ iv (sk 2) 2 - (0 : Int) ≤ 4 := exf4
          refine c_if_ne (tgt := 68) C ⟨by omega, by omega⟩ dX11_changeIndicator_58 (by decide) (fun c4 => ?_) (fun c4 => ?_)
          · refine c_aload_n (j := 1) (x := a0) C dX11_changeIndicator_68 rfl ?_
            refine c_getr (k := 4) C ck_12 dX11_changeIndicator_69 w2_48 (by decide) t_a0 rfl rfl (by decide) rfl rq1 ?_
            refine c_st (st2 := [.ref (sk 13)]) rfl ?_
            obtain ⟨n6, hn6, tn6⟩ := hW.ref tob1 6 rfl rfl rfl
            have kp1 : KP L cl (fun _ => False) (fun _ => False) (fun _ => False) (fun _ => False) (fun b k => b = n6 ∧ k = j.toNat) iv rv iv rv := KP.refl
            refine c_new C ck_1 dv_1 ⟨rfl, rfl⟩ rfl (by decide) dX11_changeIndicator_72 w3_98 w3_35 w1_18 (rom2 hph hph (by decide)) (fun qn1 cln1 lnn1 ivn1 rvn1 hqn1 hcn1 hln1 hin1 hrn1 => ⟨20, (p_in (Phi.new hW hS hqn1 (fun b _ => by rw [hln1]) hrn1) (by omega)), ?_⟩)
            refine c_g0 C (fun hg1 => ?_)
            have hxn1 : ∀ b, b ≠ qn1 → lnn1 b = ln b := (fun b _ => by rw [hln1])
            have W5 := hW.new (ln2 := lnn1) hqn1 (hg1 qn1 (List.mem_append_right _ List.mem_cons_self)) hcn1 hxn1 hin1 hrn1 (fun _ => ⟨(show (-2147483648 : Int) ≤ 0 by decide), (show (0 : Int) ≤ 2147483647 by decide)⟩) (Or.inl rfl) (fun q => by cases q) rfl rfl
            have xl5 := XT.new hqn1 hcn1 hxn1
            have X1 := hX0.trans xl5
            have sk1 := xl5.skl hS
            have F2 := hF0.new hX0 hqn1 hin1 hrn1
            have mr2 := MRK.call hmr hW hS xl5 ((fT.refl (ls := [])).new (XT.refl (ln := ln)) hqn1 hin1 hrn1) rfl rfl
            have tqn1 : ty (L ++ [qn1]) cln1 qn1 201 := ty_new hcn1
            have kp2 := kp1.new TX.refl hW hqn1 hin1 hrn1
            have h0qn1 : qn1 ∉ L := fun h => hqn1 ((hX0 qn1 h).1)
            refine c_dup C dX11_changeIndicator_75 rfl ?_
            refine c_iconst C dX11_changeIndicator_76 ?_
            refine c_aload_n (j := 0) (x := ob1) C dX11_changeIndicator_77 rfl ?_
            refine c_aload_n (j := 0) (x := ob1) C dX11_changeIndicator_78 rfl ?_
            have ty1 := xl5.ty tob1
            have re1 : rvn1 ob1 6 = rv ob1 6 := (by rw [hrn1]; exact congrFun (up0_a (ne_in tob1.1 hqn1)) _)
            rw [hn6] at re1
            refine c_getr (k := 6) C ck_10 dX11_changeIndicator_79 w2_196 (by decide) ty1 rfl rfl (by decide) rfl re1 ?_
            refine c_st (st2 := [.ref n6, .ref ob1, .int (iI 4), .ref qn1, .ref qn1, .ref (sk 13)]) rfl ?_
            refine c_iload_n (j := 3) C dX11_changeIndicator_82 rfl ?_
            have ty2 := xl5.ty tn6
            have ll1 : 4 ≤ lnn1 n6 ∧ lnn1 n6 ≤ 4 := W5.len ty2 rfl
            rcases W5.opt ty2 (j.toNat) rfl rfl with ⟨nq1, _⟩ | ⟨nb1, nq1, tnb1⟩
            · refine c_aaldR C dX11_changeIndicator_83 ty2 rfl (by omega) (by omega) (by omega) nq1 ?_
              refine c_st (st2 := [.null, .ref ob1, .int (iI 4), .ref qn1, .ref qn1, .ref (sk 13)]) rfl ?_
              refine c_iload_n (j := 3) C dX11_changeIndicator_84 rfl ?_
              have oi1 := Eq.trans ((show ∀ bb, ty L cl bb 68 → ∀ kk, rvn1 bb kk = rv bb kk from fun bb tbb kk => by exact (show rvn1 bb kk = rv bb kk from (by rw [hrn1]; exact congrFun (up0_a (ne_in tbb.1 hqn1)) _))) n6 tn6 j.toNat).symm nq1
              have pl1 := Phi.le W5 sk1
              refine c_callI (As := [.int (iI 4), .ref ob1, .null, .int (iI j)]) (rest := [.ref qn1, .ref (sk 13)]) C hM (Z_change (a0 := qn1) (i := 4) (a2 := ob1) (r := none) (n := j) W5 sk1 tqn1 ty1 (fun _ q => by cases q) ⟨by decide, by decide⟩ (by omega) ) dX11_changeIndicator_85 kI_X11_149 rfl rfl (Nat.le_of_ble_eq_true rfl) ⟨(Nat.le_of_ble_eq_true rfl), (Nat.le_of_ble_eq_true rfl)⟩ (rz1 hph pl1 (by decide)) (fun rh5 Lh5 clh5 lnh5 ivh5 rvh5 h5 => ⟨20, (zk1 (by obtain ⟨_, _, _, e3, flh5x, Wh5x, _⟩ := h5; subst e3; exact Phi.frn sk1 flh5x rfl)), ?_⟩)
              obtain ⟨rfl, rfl, rfl, rfl, fl5, W6, exf5⟩ := h5
              have F3 := F2.call X1 fl5 rfl
              have mr3 := MRK.call mr2 W5 sk1 XT.refl fl5 rfl rfl
              have tx1 := TX.xt TX.refl xl5
              have kp3 := kp2.call tx1 W5 fl5 rfl
              refine c_st (st2 := [.ref qn1, .ref (sk 13)]) rfl ?_
              obtain ⟨exf5x, exf5r, exf5p, exf5i, exf5j⟩ := exf5
              have rn1 : ∀ k, ([1, 2] : List Nat).contains k = false → rvh5 qn1 k = none := fun k hk => (Eq.trans (show rvh5 qn1 k = rvn1 qn1 k from (exf5x k hk)) (show rvn1 qn1 k = none from (by rw [hrn1]; exact up0_s)))
              refine c_retag (q := qn1) (t := 21) (by rw [tqn1.2]; rfl) (fun clr1 hcr1 => ?_)
              have ty3 := xl5.ty t_a0
              have ty4 := ty_rt ty3 hcr1 (ne_ty ty3 tqn1 (by decide))
              have ty5 := xl5.ty tsk2
              have ty6 := ty_rt ty5 hcr1 (ne_ty ty5 tqn1 (by decide))
              have ty7 := xl5.ty tsk3
              have ty8 := ty_rt ty7 hcr1 (ne_ty ty7 tqn1 (by decide))
              have ty9 := xl5.ty tsk4
              have ty10 := ty_rt ty9 hcr1 (ne_ty ty9 tqn1 (by decide))
              have ty11 := xl5.ty tsk5
              have ty12 := ty_rt ty11 hcr1 (ne_ty ty11 tqn1 (by decide))
              have ty13 := xl5.ty tsk13
              have ty14 := ty_rt ty13 hcr1 (ne_ty ty13 tqn1 (by decide))
              have ty15 := xl5.ty tsk14
              have ty16 := ty_rt ty15 hcr1 (ne_ty ty15 tqn1 (by decide))
              have ty17 := xl5.ty tsk15
              have ty18 := ty_rt ty17 hcr1 (ne_ty ty17 tqn1 (by decide))
              have ty19 := xl5.ty tsk16
              have ty20 := ty_rt ty19 hcr1 (ne_ty ty19 tqn1 (by decide))
              have ty21 := xl5.ty tsk17
              have ty22 := ty_rt ty21 hcr1 (ne_ty ty21 tqn1 (by decide))
              have ty23 := xl5.ty tsk22
              have ty24 := ty_rt ty23 hcr1 (ne_ty ty23 tqn1 (by decide))
              have ty25 := xl5.ty tsk23
              have ty26 := ty_rt ty25 hcr1 (ne_ty ty25 tqn1 (by decide))
              have ty27 := ty_rt ty1 hcr1 (ne_ty ty1 tqn1 (by decide))
              have ty28 := ty_rt ty2 hcr1 (ne_ty ty2 tqn1 (by decide))
              have tqr1 : ty (L ++ [qn1]) clr1 qn1 21 := ⟨tqn1.1, by rw [hcr1, va_up_self]; rfl⟩
              have W7 := W6.retag tqn1.1 (by rw [tqn1.2]; rfl) hcr1 (fun k => by
                    rcases k with _ | _ | _ | _ | k
                    · exact W6.int tqn1 0
                    · exact W6.int tqn1 1
                    · exact W6.int tqn1 2
                    · exact ⟨(by show 0 ≤ ivh5 qn1 3; omega), (by show ivh5 qn1 3 ≤ 5; omega)⟩
                    · exact W6.int tqn1 (k + 4)) (fun k => by
                    rcases k with _ | _ | _ | _ | k
                    · rw [rn1 0 (by decide)]; exact rok_none tqr1 rfl
                    · rw [exf5r]; exact rok_some tqr1 ty27 rfl (by decide) rfl
                    · rw [exf5p]; exact rok_ch tqr1 (fun _ q => by cases q)
                    · rw [rn1 3 (by decide)]; exact rok_none tqr1 rfl
                    · rw [rn1 (k + 4) (by simp)]; exact rok_none tqr1 rfl) rfl (fun z => by cases z) (fun z => by cases z) rfl
              have X2 := X1.rt hcr1 h0qn1
              have sk2 := sk1.rt hcr1 (by rw [tqn1.2]; rfl)
              have mr4 := MRK.rt mr3 W6 sk1 hcr1 (by rw [tqn1.2]; rfl)
              have on1 := fun b hb => xl5.ty (rgf2 b hb)
              have on2 := fun b hb => ty_rt (on1 b hb) hcr1 (ne_ty (on1 b hb) tqn1 (by decide))
              have ce1 : ∀ i : Nat, (i : Int) < iv (sk 23) 2 → el rvh5 (sk 23) i = el rv (sk 23) i := (fun i hi => el_ch hW (tysk23 hS) rfl rfl ((show ∀ bb, ty L cl bb 23 → rvh5 bb 1 = rv bb 1 from fun bb tbb => by have tb1 := xl5.ty tbb; exact (Eq.trans (show rvh5 bb 1 = rvn1 bb 1 from (fl5.r tb1 rfl 1)) (show rvn1 bb 1 = rv bb 1 from (by rw [hrn1]; exact congrFun (up0_a (ne_in tbb.1 hqn1)) _)))) (sk 23) (tysk23 hS)) (fun bb tbb kk => by have tb1 := xl5.ty tbb; exact (Eq.trans (show rvh5 bb kk = rvn1 bb kk from (fl5.r tb1 rfl kk)) (show rvn1 bb kk = rv bb kk from (by rw [hrn1]; exact congrFun (up0_a (ne_in tbb.1 hqn1)) _)))) hi)
              have ri20 : 0 ≤ ivh5 (sk 23) 2 ∧ ivh5 (sk 23) 2 ≤ 512 := W7.int ty26 2
              have ie10 : ivh5 (sk 23) 2 = ivn1 (sk 23) 2 := fl5.i ty25 rfl 2
              have ie11 : ivn1 (sk 23) 2 = iv (sk 23) 2 := by rw [hin1]; exact congrFun (up0_a (ne_in tsk23.1 hqn1)) _
              have pl2 := Phi.le W7 sk2
              refine d_callV (As := [.ref qn1]) (rest := []) C hM (C_remember (a0 := (sk 13)) (a1 := qn1) W7 sk2 ty14 tqr1  (by show ivh5 (sk 23) 2 < 512; omega)) dX11_changeIndicator_88 kV_X11_152 rfl ty14 rfl rfl (by decide) ck_11 rfl (Nat.le_of_ble_eq_true rfl) ⟨(Nat.le_of_ble_eq_true rfl), (Nat.le_of_ble_eq_true rfl)⟩ hph pl2 (show 20 + 1216 = 1236 from rfl) (by decide) (fun rh6 Lh6 clh6 lnh6 ivh6 rvh6 h6 => ?_)
              obtain ⟨rfl, xl7, fl6, W8, exf6, rmef6⟩ := h6
              have F4 := F3.call X2 fl6 rfl
              have mr5 := MRK.call mr4 W7 sk2 xl7 fl6 rfl rfl
              have tx2 := TX.rt tx1 hcr1 tqn1 rfl
              have kp4 := kp3.call tx2 W7 fl6 rfl
              have X3 := X2.trans xl7
              have sk3 := xl7.skl sk2
              refine c_st (st2 := []) rfl ?_
              have ty29 := xl7.ty ty26
              have ri21 : 0 ≤ ivh6 (sk 23) 2 ∧ ivh6 (sk 23) 2 ≤ 512 := W8.int ty29 2
              have gf6 : ivh6 (sk 23) 2 = ivh5 (sk 23) 2 + 1 := exf6
              refine c_aload_n (j := 0) (x := ob1) C dX11_changeIndicator_91 rfl ?_
              have ty30 := xl7.ty ty27
              have re2 : rvh5 ob1 6 = rvn1 ob1 6 := (fl5.r ty1 rfl 6)
              rw [re1] at re2
              have re3 : rvh6 ob1 6 = rvh5 ob1 6 := (fl6.r ty27 rfl 6)
              rw [re2] at re3
              refine c_getr (k := 6) C ck_10 dX11_changeIndicator_92 w2_196 (by decide) ty30 rfl rfl (by decide) rfl re3 ?_
              refine c_st (st2 := [.ref n6]) rfl ?_
              refine c_iload_n (j := 3) C dX11_changeIndicator_95 rfl ?_
              refine c_aload_n (j := 1) (x := a0) C dX11_changeIndicator_96 rfl ?_
              have ty31 := xl7.ty ty4
              obtain ⟨rb2, rq2, trb2⟩ := W8.ref ty31 0 rfl rfl rfl
              have erb2 := W8.sk trb2 (by decide) rfl
              subst erb2
              refine c_getr (k := 0) C ck_12 dX11_changeIndicator_97 w2_44 (by decide) ty31 rfl rfl (by decide) rfl rq2 ?_
              refine c_st (st2 := [.ref (sk 2), .int (iI j), .ref n6]) rfl ?_
              have ty32 := xl7.ty ty6
              have ri22 : 0 ≤ ivh6 (sk 2) 2 ∧ ivh6 (sk 2) 2 ≤ 3000 := W8.int ty32 2
              have ie13 : ivh6 (sk 2) 2 = ivh5 (sk 2) 2 := fl6.i ty6 rfl 2
              have ie14 : ivh5 (sk 2) 2 = ivn1 (sk 2) 2 := fl5.i ty5 rfl 2
              have ie15 : ivn1 (sk 2) 2 = iv (sk 2) 2 := by rw [hin1]; exact congrFun (up0_a (ne_in tsk2.1 hqn1)) _
              refine c_get (k := 2) C ck_2 dX11_changeIndicator_100 w1_44 (by decide) ty32 rfl rfl (by decide) rfl ?_
              refine c_if_ne (tgt := 110) C ⟨by omega, by omega⟩ dX11_changeIndicator_103 (by decide) (fun c5 => ?_) (fun c5 => ?_)
              · have ty33 := xl7.ty ty8
                have ty34 := xl7.ty ty10
                have ty35 := xl7.ty ty12
                have ty36 := xl7.ty ty14
                have ty37 := xl7.ty ty16
                have ty38 := xl7.ty ty18
                have ty39 := xl7.ty ty20
                have ty40 := xl7.ty ty22
                have ty41 := xl7.ty ty24
                have ty42 := xl7.ty ty28
                have ty43 := xl7.ty tqr1
                have pl3 := Phi.le W8 sk3
                refine c_new C ck_6 dv_6 ⟨rfl, rfl⟩ rfl (by decide) dX11_changeIndicator_110 w3_125 w3_126 w1_21 (rom2 hph pl3 (by decide)) (fun qn2 cln2 lnn2 ivn2 rvn2 hqn2 hcn2 hln2 hin2 hrn2 => ⟨1256, (p_in (Phi.new W8 sk3 hqn2 (fun b _ => by rw [hln2]) hrn2) (by omega)), ?_⟩)
                refine c_g0 C (fun hg2 => ?_)
                have hxn2 : ∀ b, b ≠ qn2 → lnn2 b = lnh6 b := (fun b _ => by rw [hln2])
                have W9 := W8.new (ln2 := lnn2) hqn2 (hg2 qn2 (List.mem_append_right _ List.mem_cons_self)) hcn2 hxn2 hin2 hrn2 (fun _ => ⟨(show (-2147483648 : Int) ≤ 0 by decide), (show (0 : Int) ≤ 2147483647 by decide)⟩) (Or.inl rfl) (fun q => by cases q) rfl rfl
                have xl8 := XT.new hqn2 hcn2 hxn2
                have X4 := X3.trans xl8
                have sk4 := xl8.skl sk3
                have F5 := F4.new X3 hqn2 hin2 hrn2
                have mr6 := MRK.call mr5 W8 sk3 xl8 ((fT.refl (ls := [])).new (XT.refl (ln := lnh6)) hqn2 hin2 hrn2) rfl rfl
                have tqn2 : ty (Lh6 ++ [qn2]) cln2 qn2 206 := ty_new hcn2
                have tx3 := TX.xt tx2 xl7
                have kp5 := kp4.new tx3 W8 hqn2 hin2 hrn2
                have h0qn2 : qn2 ∉ L := fun h => hqn2 ((X3 qn2 h).1)
                refine c_dup C dX11_changeIndicator_113 rfl ?_
                refine c_iload_n (j := 3) C dX11_changeIndicator_114 rfl ?_
                refine c_aload_n (j := 1) (x := a0) C dX11_changeIndicator_115 rfl ?_
                have ty44 := xl8.ty ty31
                have re4 : rvn2 a0 0 = rvh6 a0 0 := (by rw [hrn2]; exact congrFun (up0_a (ne_in ty31.1 hqn2)) _)
                rw [rq2] at re4
                refine c_getr (k := 0) C ck_12 dX11_changeIndicator_116 w2_44 (by decide) ty44 rfl rfl (by decide) rfl re4 ?_
                refine c_st (st2 := [.ref (sk 2), .int (iI j), .ref qn2, .ref qn2, .int (iI j), .ref n6]) rfl ?_
                refine c_iconst C dX11_changeIndicator_119 ?_
                refine c_iconst C dX11_changeIndicator_120 ?_
                have ty45 := xl8.ty ty32
                have pl4 := Phi.le W9 sk4
                refine d_callV (As := [.int (iI 0), .int (iI 0)]) (rest := [.int (iI j), .ref qn2, .ref qn2, .int (iI j), .ref n6]) C hM (C_slice_65 (a0 := (sk 2)) (i := 0) (j := 0) W9 sk4 ty45 ⟨by decide, by decide⟩ ⟨by decide, by decide⟩ (by show 0 ≤ (0 : Int) ∧ (0 : Int) ≤ 3000 ∧ 0 ≤ (0 : Int) - (0 : Int) ∧ (0 : Int) - (0 : Int) ≤ 8; omega)) dX11_changeIndicator_121 kV_X11_190 rfl ty45 rfl rfl (by decide) ck_2 rfl (Nat.le_of_ble_eq_true rfl) ⟨(Nat.le_of_ble_eq_true rfl), (Nat.le_of_ble_eq_true rfl)⟩ hph pl4 (show 1256 + 24 = 1280 from rfl) (by decide) (fun rh7 Lh7 clh7 lnh7 ivh7 rvh7 h7 => ?_)
                obtain ⟨f7, rfl, xl9, fl7, W10, rgf7, exf7, slnf7⟩ := h7
                have F6 := F5.call X4 fl7 rfl
                have mr7 := MRK.call mr6 W9 sk4 xl9 fl7 rfl rfl
                have tx4 := TX.xt tx3 xl8
                have kp6 := kp5.trans tx4 (KP.sl W9 fl7 (by decide) slnf7.2.1)
                have ty46 := xl8.ty ty33
                have ty47 := xl8.ty ty34
                have ty48 := xl8.ty ty35
                have ty49 := xl8.ty ty36
                have ty50 := xl8.ty ty37
                have ty51 := xl8.ty ty38
                have ty52 := xl8.ty ty39
                have ty53 := xl8.ty ty40
                have ty54 := xl8.ty ty41
                have ty55 := xl8.ty ty29
                have ty56 := xl8.ty ty30
                have ty57 := xl8.ty ty42
                have ty58 := xl8.ty ty43
                have X5 := X4.trans xl9
                have sk5 := xl9.skl sk4
                refine c_st (st2 := [.ref f7, .int (iI j), .ref qn2, .ref qn2, .int (iI j), .ref n6]) rfl ?_
                have gf7 : lnh7 f7 = ((0 : Int) - (0 : Int)).toNat := exf7
                refine c_aload_n (j := 1) (x := a0) C dX11_changeIndicator_124 rfl ?_
                have ty59 := xl9.ty ty44
                have re5 : rvh7 a0 0 = rvn2 a0 0 := (fl7.r ty44 rfl 0)
                rw [re4] at re5
                refine c_getr (k := 0) C ck_12 dX11_changeIndicator_125 w2_44 (by decide) ty59 rfl rfl (by decide) rfl re5 ?_
                refine c_st (st2 := [.ref (sk 2), .ref f7, .int (iI j), .ref qn2, .ref qn2, .int (iI j), .ref n6]) rfl ?_
                refine c_iconst C dX11_changeIndicator_128 ?_
                refine c_aload_n (j := 1) (x := a0) C dX11_changeIndicator_129 rfl ?_
                refine c_getr (k := 0) C ck_12 dX11_changeIndicator_130 w2_44 (by decide) ty59 rfl rfl (by decide) rfl re5 ?_
                refine c_st (st2 := [.ref (sk 2), .int (iI 0), .ref (sk 2), .ref f7, .int (iI j), .ref qn2, .ref qn2, .int (iI j), .ref n6]) rfl ?_
                have ty60 := xl9.ty ty45
                have ri23 : 0 ≤ ivh7 (sk 2) 2 ∧ ivh7 (sk 2) 2 ≤ 3000 := W10.int ty60 2
                have ie16 : ivh7 (sk 2) 2 = ivn2 (sk 2) 2 := fl7.i ty45 rfl 2
                have ie17 : ivn2 (sk 2) 2 = ivh6 (sk 2) 2 := by rw [hin2]; exact congrFun (up0_a (ne_in ty32.1 hqn2)) _
                refine c_get (k := 2) C ck_2 dX11_changeIndicator_133 w1_44 (by decide) ty60 rfl rfl (by decide) rfl ?_
                have pl5 := Phi.le W10 sk5
                refine d_callV (As := [.int (iI 0), .int (iI (ivh7 (sk 2) 2))]) (rest := [.ref f7, .int (iI j), .ref qn2, .ref qn2, .int (iI j), .ref n6]) C hM (C_slice_66 (a0 := (sk 2)) (i := 0) (j := ivh7 (sk 2) 2) W10 sk5 ty60 ⟨by decide, by decide⟩ (by omega) (by show 0 ≤ (0 : Int) ∧ (0 : Int) ≤ 3000 ∧ 1 ≤ (ivh7 (sk 2) 2) - (0 : Int) ∧ (ivh7 (sk 2) 2) - (0 : Int) ≤ 4; omega)) dX11_changeIndicator_136 kV_X11_190 rfl ty60 rfl rfl (by decide) ck_2 rfl (Nat.le_of_ble_eq_true rfl) ⟨(Nat.le_of_ble_eq_true rfl), (Nat.le_of_ble_eq_true rfl)⟩ hph pl5 (show 1280 + 20 = 1300 from rfl) (by decide) (fun rh8 Lh8 clh8 lnh8 ivh8 rvh8 h8 => ?_)
                obtain ⟨f8, rfl, xl10, fl8, W11, rgf8, exf8, slnf8⟩ := h8
                have F7 := F6.call X5 fl8 rfl
                have mr8 := MRK.call mr7 W10 sk5 xl10 fl8 rfl rfl
                have tx5 := TX.xt tx4 xl9
                have kp7 := kp6.trans tx5 (KP.sl W10 fl8 (by decide) slnf8.2.1)
                have ty61 := xl9.ty ty46
                have ty62 := xl9.ty ty47
                have ty63 := xl9.ty ty48
                have ty64 := xl9.ty ty49
                have ty65 := xl9.ty ty50
                have ty66 := xl9.ty ty51
                have ty67 := xl9.ty ty52
                have ty68 := xl9.ty ty53
                have ty69 := xl9.ty ty54
                have ty70 := xl9.ty ty55
                have ty71 := xl9.ty ty56
                have ty72 := xl9.ty ty57
                have ty73 := xl9.ty ty58
                have ty74 := xl9.ty tqn2
                have X6 := X5.trans xl10
                have sk6 := xl10.skl sk5
                refine c_st (st2 := [.ref f8, .ref f7, .int (iI j), .ref qn2, .ref qn2, .int (iI j), .ref n6]) rfl ?_
                have gf8 : lnh8 f8 = ((ivh7 (sk 2) 2) - (0 : Int)).toNat := exf8
                have ty75 := xl10.ty ty74
                have ty76 := xl10.ty rgf7
                have pl6 := Phi.le W11 sk6
                refine c_callI (As := [.int (iI j), .ref f7, .ref f8]) (rest := [.ref qn2, .int (iI j), .ref n6]) C hM (Z_row (a0 := qn2) (i := j) (a2 := f7) (a3 := f8) W11 sk6 ty75 ty76 rgf8 (by omega) ) dX11_changeIndicator_139 kI_X11_194 rfl rfl (Nat.le_of_ble_eq_true rfl) ⟨(Nat.le_of_ble_eq_true rfl), (Nat.le_of_ble_eq_true rfl)⟩ (rz1 hph pl6 (by decide)) (fun rh9 Lh9 clh9 lnh9 ivh9 rvh9 h9 => ⟨1300, (zk1 (by obtain ⟨_, _, _, e3, flh9x, Wh9x, _⟩ := h9; subst e3; exact Phi.frn sk6 flh9x rfl)), ?_⟩)
                obtain ⟨rfl, rfl, rfl, rfl, fl9, W12, exf9⟩ := h9
                have F8 := F7.call X6 fl9 rfl
                have mr9 := MRK.call mr8 W11 sk6 XT.refl fl9 rfl rfl
                have tx6 := TX.xt tx5 xl10
                have kp8 := kp7.call tx6 W11 fl9 rfl
                refine c_st (st2 := [.ref qn2, .int (iI j), .ref n6]) rfl ?_
                obtain ⟨exf9x, exf9r, exf9p, exf9i, exf9j⟩ := exf9
                have rn2 : ∀ k, ([1, 2] : List Nat).contains k = false → rvh9 qn2 k = none := fun k hk => (Eq.trans (show rvh9 qn2 k = rvh8 qn2 k from (exf9x k hk)) (Eq.trans (show rvh8 qn2 k = rvh7 qn2 k from (fl8.r ty74 rfl k)) (Eq.trans (show rvh7 qn2 k = rvn2 qn2 k from (fl7.r tqn2 rfl k)) (show rvn2 qn2 k = none from (by rw [hrn2]; exact up0_s)))))
                refine c_retag (q := qn2) (t := 20) (by rw [ty75.2]; rfl) (fun clr2 hcr2 => ?_)
                have ty77 := xl10.ty ty59
                have ty78 := ty_rt ty77 hcr2 (ne_ty ty77 ty75 (by decide))
                have ty79 := xl10.ty ty60
                have ty80 := ty_rt ty79 hcr2 (ne_ty ty79 ty75 (by decide))
                have ty81 := xl10.ty ty61
                have ty82 := ty_rt ty81 hcr2 (ne_ty ty81 ty75 (by decide))
                have ty83 := xl10.ty ty62
                have ty84 := ty_rt ty83 hcr2 (ne_ty ty83 ty75 (by decide))
                have ty85 := xl10.ty ty63
                have ty86 := ty_rt ty85 hcr2 (ne_ty ty85 ty75 (by decide))
                have ty87 := xl10.ty ty64
                have ty88 := ty_rt ty87 hcr2 (ne_ty ty87 ty75 (by decide))
                have ty89 := xl10.ty ty65
                have ty90 := ty_rt ty89 hcr2 (ne_ty ty89 ty75 (by decide))
                have ty91 := xl10.ty ty66
                have ty92 := ty_rt ty91 hcr2 (ne_ty ty91 ty75 (by decide))
                have ty93 := xl10.ty ty67
                have ty94 := ty_rt ty93 hcr2 (ne_ty ty93 ty75 (by decide))
                have ty95 := xl10.ty ty68
                have ty96 := ty_rt ty95 hcr2 (ne_ty ty95 ty75 (by decide))
                have ty97 := xl10.ty ty69
                have ty98 := ty_rt ty97 hcr2 (ne_ty ty97 ty75 (by decide))
                have ty99 := xl10.ty ty70
                have ty100 := ty_rt ty99 hcr2 (ne_ty ty99 ty75 (by decide))
                have ty101 := xl10.ty ty71
                have ty102 := ty_rt ty101 hcr2 (ne_ty ty101 ty75 (by decide))
                have ty103 := xl10.ty ty72
                have ty104 := ty_rt ty103 hcr2 (ne_ty ty103 ty75 (by decide))
                have ty105 := xl10.ty ty73
                have ty106 := ty_rt ty105 hcr2 (ne_ty ty105 ty75 (by decide))
                have ty107 := ty_rt ty76 hcr2 (ne_ty ty76 ty75 (by decide))
                have ty108 := ty_rt rgf8 hcr2 (ne_ty rgf8 ty75 (by decide))
                have tqr2 : ty Lh8 clr2 qn2 20 := ⟨ty75.1, by rw [hcr2, va_up_self]; rfl⟩
                have W13 := W12.retag ty75.1 (by rw [ty75.2]; rfl) hcr2 (fun k => by
                      rcases k with _ | _ | _ | _ | k
                      · exact W12.int ty75 0
                      · exact W12.int ty75 1
                      · exact W12.int ty75 2
                      · exact ⟨(by show 0 ≤ ivh9 qn2 3; omega), (by show ivh9 qn2 3 ≤ 5; omega)⟩
                      · exact W12.int ty75 (k + 4)) (fun k => by
                      rcases k with _ | _ | _ | _ | k
                      · rw [rn2 0 (by decide)]; exact rok_none tqr2 rfl
                      · rw [exf9r]; exact rok_some tqr2 ty107 rfl (by decide) rfl
                      · rw [exf9p]; exact rok_some tqr2 ty108 rfl (by decide) rfl
                      · rw [rn2 3 (by decide)]; exact rok_none tqr2 rfl
                      · rw [rn2 (k + 4) (by simp)]; exact rok_none tqr2 rfl) rfl (fun z => by cases z) (fun z => by cases z) rfl
                have X7 := X6.rt hcr2 h0qn2
                have sk7 := sk6.rt hcr2 (by rw [ty75.2]; rfl)
                have mr10 := MRK.rt mr9 W12 sk6 hcr2 (by rw [ty75.2]; rfl)
                have on3 := fun b hb => xl7.ty (on2 b hb)
                have on4 := fun b hb => xl8.ty (on3 b hb)
                have on5 := fun b hb => xl9.ty (on4 b hb)
                have on6 := fun b hb => xl10.ty (on5 b hb)
                have on7 := fun b hb => ty_rt (on6 b hb) hcr2 (ne_ty (on6 b hb) ty75 (by decide))
                have ll2 : 4 ≤ lnh8 n6 ∧ lnh8 n6 ≤ 4 := W13.len ty104 rfl
                refine c_aastR (z := j) C ck_6 dX11_changeIndicator_142 ty104 rfl tqr2 rfl rfl (by decide) (by omega) (by omega) (by omega) (fun rv1 pq1 => ⟨1300, (by rw [Phi.putr sk7 pq1 ty104 rfl]; exact Nat.le_refl _), ?_⟩)
                have W14 := W13.putr pq1 ty104 (rok_some ty104 tqr2 rfl (by decide) rfl) rfl (by decide)
                have F9 := F8.putr X7 pq1 ty104 rfl
                have mr11 := MRK.putr mr10 W13 sk7 pq1 ty104 (by decide) (by decide)
                have tx7 := TX.rt tx6 hcr2 ty75 rfl
                have kp9 := kp8.putrI tx7 W13 pq1 ty104 ⟨rfl, rfl⟩
                refine c_aload_n (j := 1) (x := a0) C dX11_changeIndicator_143 rfl ?_
                refine c_aload_n (j := 1) (x := a0) C dX11_changeIndicator_144 rfl ?_
                have re6 : rvh8 a0 0 = rvh7 a0 0 := (fl8.r ty59 rfl 0)
                rw [re5] at re6
                have re7 : rvh9 a0 0 = rvh8 a0 0 := (fl9.r ty77 rfl 0)
                rw [re6] at re7
                have re8 : rv1 a0 0 = rvh9 a0 0 := (by rw [pq1]; exact congrFun (upr_a (ne_ty ty78 ty104 (by decide))) _)
                rw [re7] at re8
                refine c_getr (k := 0) C ck_12 dX11_changeIndicator_145 w2_44 (by decide) ty78 rfl rfl (by decide) rfl re8 ?_
                refine c_st (st2 := [.ref (sk 2), .ref a0]) rfl ?_
                have ri24 : 0 ≤ ivh9 (sk 2) 2 ∧ ivh9 (sk 2) 2 ≤ 3000 := W14.int ty80 2
                have ie18 : ivh9 (sk 2) 2 = ivh8 (sk 2) 2 := fl9.i ty79 rfl 2
                have ie19 : ivh8 (sk 2) 2 = ivh7 (sk 2) 2 := fl8.i ty60 rfl 2
                refine c_get (k := 2) C ck_2 dX11_changeIndicator_148 w1_44 (by decide) ty80 rfl rfl (by decide) rfl ?_
                have pl7 := Phi.le W14 sk7
                refine d_callV (As := [.int (iI (ivh9 (sk 2) 2))]) (rest := []) C hM (C_done (a0 := a0) (x := ivh9 (sk 2) 2) W14 sk7 ty78 (by omega) ) dX11_changeIndicator_151 kV_X11_109 rfl ty78 rfl rfl (by decide) ck_12 rfl (Nat.le_of_ble_eq_true rfl) ⟨(Nat.le_of_ble_eq_true rfl), (Nat.le_of_ble_eq_true rfl)⟩ hph pl7 (show 1300 + 0 = 1300 from rfl) (by decide) (fun rh10 Lh10 clh10 lnh10 ivh10 rvh10 h10 => ?_)
                obtain ⟨f10, rfl, rfl, rfl, rfl, rfl, fl10, W15, rgf10, exf10, kp11f10, kp12f10, kp13f10, kp14f10, kp15f10, kp16f10⟩ := h10
                have ri25 : 1 ≤ ivh9 a0 11 ∧ ivh9 a0 11 ≤ 100 := W14.int ty78 11
                have ie20 : ivh9 a0 11 = ivh8 a0 11 := fl9.i ty77 rfl 11
                have ie21 : ivh8 a0 11 = ivh7 a0 11 := fl8.i ty59 rfl 11
                have ie22 : ivh7 a0 11 = ivn2 a0 11 := fl7.i ty44 rfl 11
                have ie23 : ivn2 a0 11 = ivh6 a0 11 := by rw [hin2]; exact congrFun (up0_a (ne_in ty31.1 hqn2)) _
                have ie24 : ivh6 a0 11 = ivh5 a0 11 := fl6.i ty4 rfl 11
                have ie25 : ivh5 a0 11 = ivn1 a0 11 := fl5.i ty3 rfl 11
                have ie26 : ivn1 a0 11 = iv a0 11 := by rw [hin1]; exact congrFun (up0_a (ne_in t_a0.1 hqn1)) _
                have ri26 : 1 ≤ ivh9 a0 12 ∧ ivh9 a0 12 ≤ 50 := W14.int ty78 12
                have ie27 : ivh9 a0 12 = ivh8 a0 12 := fl9.i ty77 rfl 12
                have ie28 : ivh8 a0 12 = ivh7 a0 12 := fl8.i ty59 rfl 12
                have ie29 : ivh7 a0 12 = ivn2 a0 12 := fl7.i ty44 rfl 12
                have ie30 : ivn2 a0 12 = ivh6 a0 12 := by rw [hin2]; exact congrFun (up0_a (ne_in ty31.1 hqn2)) _
                have ie31 : ivh6 a0 12 = ivh5 a0 12 := fl6.i ty4 rfl 12
                have ie32 : ivh5 a0 12 = ivn1 a0 12 := fl5.i ty3 rfl 12
                have ie33 : ivn1 a0 12 = iv a0 12 := by rw [hin1]; exact congrFun (up0_a (ne_in t_a0.1 hqn1)) _
                have ri27 : (-2147483648) ≤ ivh9 a0 13 ∧ ivh9 a0 13 ≤ 2147483647 := W14.int ty78 13
                have ie34 : ivh9 a0 13 = ivh8 a0 13 := fl9.i ty77 rfl 13
                have ie35 : ivh8 a0 13 = ivh7 a0 13 := fl8.i ty59 rfl 13
                have ie36 : ivh7 a0 13 = ivn2 a0 13 := fl7.i ty44 rfl 13
                have ie37 : ivn2 a0 13 = ivh6 a0 13 := by rw [hin2]; exact congrFun (up0_a (ne_in ty31.1 hqn2)) _
                have ie38 : ivh6 a0 13 = ivh5 a0 13 := fl6.i ty4 rfl 13
                have ie39 : ivh5 a0 13 = ivn1 a0 13 := fl5.i ty3 rfl 13
                have ie40 : ivn1 a0 13 = iv a0 13 := by rw [hin1]; exact congrFun (up0_a (ne_in t_a0.1 hqn1)) _
                have ri28 : (-2147483648) ≤ ivh9 a0 14 ∧ ivh9 a0 14 ≤ 2147483647 := W14.int ty78 14
                have ie41 : ivh9 a0 14 = ivh8 a0 14 := fl9.i ty77 rfl 14
                have ie42 : ivh8 a0 14 = ivh7 a0 14 := fl8.i ty59 rfl 14
                have ie43 : ivh7 a0 14 = ivn2 a0 14 := fl7.i ty44 rfl 14
                have ie44 : ivn2 a0 14 = ivh6 a0 14 := by rw [hin2]; exact congrFun (up0_a (ne_in ty31.1 hqn2)) _
                have ie45 : ivh6 a0 14 = ivh5 a0 14 := fl6.i ty4 rfl 14
                have ie46 : ivh5 a0 14 = ivn1 a0 14 := fl5.i ty3 rfl 14
                have ie47 : ivn1 a0 14 = iv a0 14 := by rw [hin1]; exact congrFun (up0_a (ne_in t_a0.1 hqn1)) _
                have ri29 : (-2147483648) ≤ ivh9 a0 15 ∧ ivh9 a0 15 ≤ 2147483647 := W14.int ty78 15
                have ie48 : ivh9 a0 15 = ivh8 a0 15 := fl9.i ty77 rfl 15
                have ie49 : ivh8 a0 15 = ivh7 a0 15 := fl8.i ty59 rfl 15
                have ie50 : ivh7 a0 15 = ivn2 a0 15 := fl7.i ty44 rfl 15
                have ie51 : ivn2 a0 15 = ivh6 a0 15 := by rw [hin2]; exact congrFun (up0_a (ne_in ty31.1 hqn2)) _
                have ie52 : ivh6 a0 15 = ivh5 a0 15 := fl6.i ty4 rfl 15
                have ie53 : ivh5 a0 15 = ivn1 a0 15 := fl5.i ty3 rfl 15
                have ie54 : ivn1 a0 15 = iv a0 15 := by rw [hin1]; exact congrFun (up0_a (ne_in t_a0.1 hqn1)) _
                have ri30 : (-2147483648) ≤ ivh9 a0 16 ∧ ivh9 a0 16 ≤ 2147483647 := W14.int ty78 16
                have ie55 : ivh9 a0 16 = ivh8 a0 16 := fl9.i ty77 rfl 16
                have ie56 : ivh8 a0 16 = ivh7 a0 16 := fl8.i ty59 rfl 16
                have ie57 : ivh7 a0 16 = ivn2 a0 16 := fl7.i ty44 rfl 16
                have ie58 : ivn2 a0 16 = ivh6 a0 16 := by rw [hin2]; exact congrFun (up0_a (ne_in ty31.1 hqn2)) _
                have ie59 : ivh6 a0 16 = ivh5 a0 16 := fl6.i ty4 rfl 16
                have ie60 : ivh5 a0 16 = ivn1 a0 16 := fl5.i ty3 rfl 16
                have ie61 : ivn1 a0 16 = iv a0 16 := by rw [hin1]; exact congrFun (up0_a (ne_in t_a0.1 hqn1)) _
                have F10 := F9.call X7 fl10 rfl
                have mr12 := MRK.call mr11 W14 sk7 XT.refl fl10 rfl rfl
                have kp10 := kp9.call tx7 W14 fl10 rfl
                refine c_st (st2 := [.int (iI f10)]) rfl ?_
                have gk11f10 : ivh10 a0 11 = ivh9 a0 11 := kp11f10
                have gk12f10 : ivh10 a0 12 = ivh9 a0 12 := kp12f10
                have gk13f10 : ivh10 a0 13 = ivh9 a0 13 := kp13f10
                have gk14f10 : ivh10 a0 14 = ivh9 a0 14 := kp14f10
                have gk15f10 : ivh10 a0 15 = ivh9 a0 15 := kp15f10
                have gk16f10 : ivh10 a0 16 = ivh9 a0 16 := kp16f10
                have gf10 : f10 = (ivh9 (sk 2) 2) := exf10
                have ri31 : 1 ≤ ivh10 a0 11 ∧ ivh10 a0 11 ≤ 100 := W15.int ty78 11
                have ri32 : 1 ≤ ivh10 a0 12 ∧ ivh10 a0 12 ≤ 50 := W15.int ty78 12
                have ri33 : (-2147483648) ≤ ivh10 a0 13 ∧ ivh10 a0 13 ≤ 2147483647 := W15.int ty78 13
                have ri34 : (-2147483648) ≤ ivh10 a0 14 ∧ ivh10 a0 14 ≤ 2147483647 := W15.int ty78 14
                have ri35 : (-2147483648) ≤ ivh10 a0 15 ∧ ivh10 a0 15 ≤ 2147483647 := W15.int ty78 15
                have ri36 : (-2147483648) ≤ ivh10 a0 16 ∧ ivh10 a0 16 ≤ 2147483647 := W15.int ty78 16
                have ri37 : 0 ≤ ivh10 (sk 23) 2 ∧ ivh10 (sk 23) 2 ≤ 512 := W15.int ty100 2
                have ie68 : ivh10 (sk 23) 2 = ivh9 (sk 23) 2 := fl10.i ty100 rfl 2
                have ie69 : ivh9 (sk 23) 2 = ivh8 (sk 23) 2 := fl9.i ty99 rfl 2
                have ie70 : ivh8 (sk 23) 2 = ivh7 (sk 23) 2 := fl8.i ty70 rfl 2
                have ie71 : ivh7 (sk 23) 2 = ivn2 (sk 23) 2 := fl7.i ty55 rfl 2
                have ie72 : ivn2 (sk 23) 2 = ivh6 (sk 23) 2 := by rw [hin2]; exact congrFun (up0_a (ne_in ty29.1 hqn2)) _
                have ri38 : 0 ≤ ivh10 (sk 22) 2 ∧ ivh10 (sk 22) 2 ≤ 30 := W15.int ty98 2
                have ie73 : ivh10 (sk 22) 2 = ivh9 (sk 22) 2 := fl10.i ty98 rfl 2
                have ie74 : ivh9 (sk 22) 2 = ivh8 (sk 22) 2 := fl9.i ty97 rfl 2
                have ie75 : ivh8 (sk 22) 2 = ivh7 (sk 22) 2 := fl8.i ty69 rfl 2
                have ie76 : ivh7 (sk 22) 2 = ivn2 (sk 22) 2 := fl7.i ty54 rfl 2
                have ie77 : ivn2 (sk 22) 2 = ivh6 (sk 22) 2 := by rw [hin2]; exact congrFun (up0_a (ne_in ty41.1 hqn2)) _
                have ie78 : ivh6 (sk 22) 2 = ivh5 (sk 22) 2 := fl6.i ty24 rfl 2
                have ie79 : ivh5 (sk 22) 2 = ivn1 (sk 22) 2 := fl5.i ty23 rfl 2
                have ie80 : ivn1 (sk 22) 2 = iv (sk 22) 2 := by rw [hin1]; exact congrFun (up0_a (ne_in tsk22.1 hqn1)) _
                have ri39 : 0 ≤ ivh10 (sk 2) 2 ∧ ivh10 (sk 2) 2 ≤ 3000 := W15.int ty80 2
                have ie81 : ivh10 (sk 2) 2 = ivh9 (sk 2) 2 := fl10.i ty80 rfl 2
                have ri40 : (-2147483648) ≤ ivh10 qn1 0 ∧ ivh10 qn1 0 ≤ 2147483647 := W15.int ty106 0
                have ie82 : ivh10 qn1 0 = ivh9 qn1 0 := fl10.i ty106 rfl 0
                have ie83 : ivh9 qn1 0 = ivh8 qn1 0 := fl9.i ty105 rfl 0
                have ie84 : ivh8 qn1 0 = ivh7 qn1 0 := fl8.i ty73 rfl 0
                have ie85 : ivh7 qn1 0 = ivn2 qn1 0 := fl7.i ty58 rfl 0
                have ie86 : ivn2 qn1 0 = ivh6 qn1 0 := by rw [hin2]; exact congrFun (up0_a (ne_in ty43.1 hqn2)) _
                have ie87 : ivh6 qn1 0 = ivh5 qn1 0 := fl6.i tqr1 rfl 0
                have re9 : rvh6 qn1 1 = rvh5 qn1 1 := (fl6.r tqr1 rfl 1)
                rw [exf5r] at re9
                have re10 : rvn2 qn1 1 = rvh6 qn1 1 := (by rw [hrn2]; exact congrFun (up0_a (ne_in ty43.1 hqn2)) _)
                rw [re9] at re10
                have re11 : rvh7 qn1 1 = rvn2 qn1 1 := (fl7.r ty58 rfl 1)
                rw [re10] at re11
                have re12 : rvh8 qn1 1 = rvh7 qn1 1 := (fl8.r ty73 rfl 1)
                rw [re11] at re12
                have re13 : rvh9 qn1 1 = rvh8 qn1 1 := (fl9.r ty105 rfl 1)
                rw [re12] at re13
                have re14 : rv1 qn1 1 = rvh9 qn1 1 := (by rw [pq1]; exact congrFun (upr_a (ne_ty ty106 ty104 (by decide))) _)
                rw [re13] at re14
                have re15 : rvh6 qn1 2 = rvh5 qn1 2 := (fl6.r tqr1 rfl 2)
                rw [exf5p] at re15
                have re16 : rvn2 qn1 2 = rvh6 qn1 2 := (by rw [hrn2]; exact congrFun (up0_a (ne_in ty43.1 hqn2)) _)
                rw [re15] at re16
                have re17 : rvh7 qn1 2 = rvn2 qn1 2 := (fl7.r ty58 rfl 2)
                rw [re16] at re17
                have re18 : rvh8 qn1 2 = rvh7 qn1 2 := (fl8.r ty73 rfl 2)
                rw [re17] at re18
                have re19 : rvh9 qn1 2 = rvh8 qn1 2 := (fl9.r ty105 rfl 2)
                rw [re18] at re19
                have re20 : rv1 qn1 2 = rvh9 qn1 2 := (by rw [pq1]; exact congrFun (upr_a (ne_ty ty106 ty104 (by decide))) _)
                rw [re19] at re20
                have ri41 : 0 ≤ ivh10 qn1 3 ∧ ivh10 qn1 3 ≤ 5 := W15.int ty106 3
                have ie88 : ivh10 qn1 3 = ivh9 qn1 3 := fl10.i ty106 rfl 3
                have ie89 : ivh9 qn1 3 = ivh8 qn1 3 := fl9.i ty105 rfl 3
                have ie90 : ivh8 qn1 3 = ivh7 qn1 3 := fl8.i ty73 rfl 3
                have ie91 : ivh7 qn1 3 = ivn2 qn1 3 := fl7.i ty58 rfl 3
                have ie92 : ivn2 qn1 3 = ivh6 qn1 3 := by rw [hin2]; exact congrFun (up0_a (ne_in ty43.1 hqn2)) _
                have ie93 : ivh6 qn1 3 = ivh5 qn1 3 := fl6.i tqr1 rfl 3
                have rp1 : rv1 n6 j.toNat = (some qn2) := by rw [pq1]; exact upr_s
                have ri42 : (-2147483648) ≤ ivh10 qn2 0 ∧ ivh10 qn2 0 ≤ 2147483647 := W15.int tqr2 0
                have ie94 : ivh10 qn2 0 = ivh9 qn2 0 := fl10.i tqr2 rfl 0
                have re21 : rv1 qn2 1 = rvh9 qn2 1 := (by rw [pq1]; exact congrFun (upr_a (ne_ty tqr2 ty104 (by decide))) _)
                rw [exf9r] at re21
                have le1 : lnh8 f7 = lnh7 f7 := (xl10 f7 rgf7.1).2.2
                have re22 : rv1 qn2 2 = rvh9 qn2 2 := (by rw [pq1]; exact congrFun (upr_a (ne_ty tqr2 ty104 (by decide))) _)
                rw [exf9p] at re22
                exact c_iret C dX11_changeIndicator_154 rfl (by decide) (rom0 hph pl7 (by decide)) ⟨f10, rfl, X7, F10, W15, ⟨by omega, by omega⟩, ⟨(by omega), mr12⟩, (by omega), (by omega), (by omega), (by omega), (by omega), (by omega), (Or.inr ⟨by omega, ob1, akob1.2, (fun ss hs hd => by
                    have e2 := irxf4 ss hs (by omega) hd
                    have e3 := e2.mp (by omega)
                    rw [Int.sub_zero] at e3
                    exact ⟨⟨by omega, by omega, gf3.mp (by omega), by omega⟩, e3.2⟩), by omega, ⟨(fun i hi => el_fr hW (tysk22 hS) rfl rfl F10 rfl rfl hi), TSF.of hW hS (fun bb tbb hbb => by have tb1 := xl5.ty tbb; have tb2 := ty_rt tb1 hcr1 (ne_ty tb1 tqn1 (by decide)); have tb3 := xl7.ty tb2; have tb4 := xl8.ty tb3; have tb5 := xl9.ty tb4; have tb6 := xl10.ty tb5; have tb7 := ty_rt tb6 hcr2 (ne_ty tb6 ty75 (by decide)); exact (Eq.trans (show ivh10 bb 7 = ivh9 bb 7 from (fl10.i tb7 rfl 7)) (Eq.trans (show ivh9 bb 7 = ivh8 bb 7 from (fl9.i tb6 rfl 7)) (Eq.trans (show ivh8 bb 7 = ivh7 bb 7 from (fl8.i tb5 rfl 7)) (Eq.trans (show ivh7 bb 7 = ivn2 bb 7 from (fl7.i tb4 rfl 7)) (Eq.trans (show ivn2 bb 7 = ivh6 bb 7 from (by rw [hin2]; exact congrFun (up0_a (ne_in tb3.1 hqn2)) _)) (Eq.trans (show ivh6 bb 7 = ivh5 bb 7 from (fl6.i tb2 rfl 7)) (Eq.trans (show ivh5 bb 7 = ivn1 bb 7 from (fl5.i tb1 rfl 7)) (show ivn1 bb 7 = iv bb 7 from (by rw [hin1]; exact congrFun (up0_a (ne_in tbb.1 hqn1)) _)))))))))) (fun bb tbb => by have tb1 := xl5.ty tbb; have tb2 := ty_rt tb1 hcr1 (ne_ty tb1 tqn1 (by decide)); have tb3 := xl7.ty tb2; have tb4 := xl8.ty tb3; have tb5 := xl9.ty tb4; have tb6 := xl10.ty tb5; have tb7 := ty_rt tb6 hcr2 (ne_ty tb6 ty75 (by decide)); exact (Eq.trans (show ivh10 bb 0 = ivh9 bb 0 from (fl10.i tb7 rfl 0)) (Eq.trans (show ivh9 bb 0 = ivh8 bb 0 from (fl9.i tb6 rfl 0)) (Eq.trans (show ivh8 bb 0 = ivh7 bb 0 from (fl8.i tb5 rfl 0)) (Eq.trans (show ivh7 bb 0 = ivn2 bb 0 from (fl7.i tb4 rfl 0)) (Eq.trans (show ivn2 bb 0 = ivh6 bb 0 from (by rw [hin2]; exact congrFun (up0_a (ne_in tb3.1 hqn2)) _)) (Eq.trans (show ivh6 bb 0 = ivh5 bb 0 from (fl6.i tb2 rfl 0)) (Eq.trans (show ivh5 bb 0 = ivn1 bb 0 from (fl5.i tb1 rfl 0)) (show ivn1 bb 0 = iv bb 0 from (by rw [hin1]; exact congrFun (up0_a (ne_in tbb.1 hqn1)) _)))))))))) (fun bb tbb => by have tb1 := xl5.ty tbb; have tb2 := ty_rt tb1 hcr1 (ne_ty tb1 tqn1 (by decide)); have tb3 := xl7.ty tb2; have tb4 := xl8.ty tb3; have tb5 := xl9.ty tb4; have tb6 := xl10.ty tb5; have tb7 := ty_rt tb6 hcr2 (ne_ty tb6 ty75 (by decide)); exact (Eq.trans (show ivh10 bb 1 = ivh9 bb 1 from (fl10.i tb7 rfl 1)) (Eq.trans (show ivh9 bb 1 = ivh8 bb 1 from (fl9.i tb6 rfl 1)) (Eq.trans (show ivh8 bb 1 = ivh7 bb 1 from (fl8.i tb5 rfl 1)) (Eq.trans (show ivh7 bb 1 = ivn2 bb 1 from (fl7.i tb4 rfl 1)) (Eq.trans (show ivn2 bb 1 = ivh6 bb 1 from (by rw [hin2]; exact congrFun (up0_a (ne_in tb3.1 hqn2)) _)) (Eq.trans (show ivh6 bb 1 = ivh5 bb 1 from (fl6.i tb2 rfl 1)) (Eq.trans (show ivh5 bb 1 = ivn1 bb 1 from (fl5.i tb1 rfl 1)) (show ivn1 bb 1 = iv bb 1 from (by rw [hin1]; exact congrFun (up0_a (ne_in tbb.1 hqn1)) _)))))))))) (fun bb tbb => by have tb1 := xl5.ty tbb; have tb2 := ty_rt tb1 hcr1 (ne_ty tb1 tqn1 (by decide)); have tb3 := xl7.ty tb2; have tb4 := xl8.ty tb3; have tb5 := xl9.ty tb4; have tb6 := xl10.ty tb5; have tb7 := ty_rt tb6 hcr2 (ne_ty tb6 ty75 (by decide)); exact (Eq.trans (show rv1 bb 4 = rvh9 bb 4 from (by rw [pq1]; exact congrFun (upr_a (ne_ty tb7 ty104 (by decide))) _)) (Eq.trans (show rvh9 bb 4 = rvh8 bb 4 from (fl9.r tb6 rfl 4)) (Eq.trans (show rvh8 bb 4 = rvh7 bb 4 from (fl8.r tb5 rfl 4)) (Eq.trans (show rvh7 bb 4 = rvn2 bb 4 from (fl7.r tb4 rfl 4)) (Eq.trans (show rvn2 bb 4 = rvh6 bb 4 from (by rw [hrn2]; exact congrFun (up0_a (ne_in tb3.1 hqn2)) _)) (Eq.trans (show rvh6 bb 4 = rvh5 bb 4 from (fl6.r tb2 rfl 4)) (Eq.trans (show rvh5 bb 4 = rvn1 bb 4 from (fl5.r tb1 rfl 4)) (show rvn1 bb 4 = rv bb 4 from (by rw [hrn1]; exact congrFun (up0_a (ne_in tbb.1 hqn1)) _)))))))))), TSQ.of hW hS (fun bb tbb hbb => by have tb1 := xl5.ty tbb; have tb2 := ty_rt tb1 hcr1 (ne_ty tb1 tqn1 (by decide)); have tb3 := xl7.ty tb2; have tb4 := xl8.ty tb3; have tb5 := xl9.ty tb4; have tb6 := xl10.ty tb5; have tb7 := ty_rt tb6 hcr2 (ne_ty tb6 ty75 (by decide)); exact (Eq.trans (show ivh10 bb 2 = ivh9 bb 2 from (fl10.i tb7 rfl 2)) (Eq.trans (show ivh9 bb 2 = ivh8 bb 2 from (fl9.i tb6 rfl 2)) (Eq.trans (show ivh8 bb 2 = ivh7 bb 2 from (fl8.i tb5 rfl 2)) (Eq.trans (show ivh7 bb 2 = ivn2 bb 2 from (fl7.i tb4 rfl 2)) (Eq.trans (show ivn2 bb 2 = ivh6 bb 2 from (by rw [hin2]; exact congrFun (up0_a (ne_in tb3.1 hqn2)) _)) (Eq.trans (show ivh6 bb 2 = ivh5 bb 2 from (fl6.i tb2 rfl 2)) (Eq.trans (show ivh5 bb 2 = ivn1 bb 2 from (fl5.i tb1 rfl 2)) (show ivn1 bb 2 = iv bb 2 from (by rw [hin1]; exact congrFun (up0_a (ne_in tbb.1 hqn1)) _))))))))))⟩, ⟨(by omega), CS0.of hW hS (Int.le_refl _) (fun i hi => ((fun i hi => el_ch W8 (tysk23 sk3) rfl rfl ((show ∀ bb, ty Lh6 clh6 bb 23 → rv1 bb 1 = rvh6 bb 1 from fun bb tbb => by have tb4 := xl8.ty tbb; have tb5 := xl9.ty tb4; have tb6 := xl10.ty tb5; have tb7 := ty_rt tb6 hcr2 (ne_ty tb6 ty75 (by decide)); exact (Eq.trans (show rv1 bb 1 = rvh9 bb 1 from (by rw [pq1]; exact congrFun (upr_a (ne_ty tb7 ty104 (by decide))) _)) (Eq.trans (show rvh9 bb 1 = rvh8 bb 1 from (fl9.r tb6 rfl 1)) (Eq.trans (show rvh8 bb 1 = rvh7 bb 1 from (fl8.r tb5 rfl 1)) (Eq.trans (show rvh7 bb 1 = rvn2 bb 1 from (fl7.r tb4 rfl 1)) (show rvn2 bb 1 = rvh6 bb 1 from (by rw [hrn2]; exact congrFun (up0_a (ne_in tbb.1 hqn2)) _))))))) (sk 23) (tysk23 sk3)) (fun bb tbb kk => by have tb4 := xl8.ty tbb; have tb5 := xl9.ty tb4; have tb6 := xl10.ty tb5; have tb7 := ty_rt tb6 hcr2 (ne_ty tb6 ty75 (by decide)); exact (Eq.trans (show rv1 bb kk = rvh9 bb kk from (by rw [pq1]; exact congrFun (upr_a (ne_ty tb7 ty104 (by decide))) _)) (Eq.trans (show rvh9 bb kk = rvh8 bb kk from (fl9.r tb6 rfl kk)) (Eq.trans (show rvh8 bb kk = rvh7 bb kk from (fl8.r tb5 rfl kk)) (Eq.trans (show rvh7 bb kk = rvn2 bb kk from (fl7.r tb4 rfl kk)) (show rvn2 bb kk = rvh6 bb kk from (by rw [hrn2]; exact congrFun (up0_a (ne_in tbb.1 hqn2)) _))))))) hi) i (by omega)).trans ((rmef6.2 i (by omega)).trans (ce1 i hi))) (fun bb tbb => by have tb1 := xl5.ty tbb; have tb2 := ty_rt tb1 hcr1 (ne_ty tb1 tqn1 (by decide)); have tb3 := xl7.ty tb2; have tb4 := xl8.ty tb3; have tb5 := xl9.ty tb4; have tb6 := xl10.ty tb5; have tb7 := ty_rt tb6 hcr2 (ne_ty tb6 ty75 (by decide)); exact (Eq.trans (show ivh10 bb 0 = ivh9 bb 0 from (fl10.i tb7 rfl 0)) (Eq.trans (show ivh9 bb 0 = ivh8 bb 0 from (fl9.i tb6 rfl 0)) (Eq.trans (show ivh8 bb 0 = ivh7 bb 0 from (fl8.i tb5 rfl 0)) (Eq.trans (show ivh7 bb 0 = ivn2 bb 0 from (fl7.i tb4 rfl 0)) (Eq.trans (show ivn2 bb 0 = ivh6 bb 0 from (by rw [hin2]; exact congrFun (up0_a (ne_in tb3.1 hqn2)) _)) (Eq.trans (show ivh6 bb 0 = ivh5 bb 0 from (fl6.i tb2 rfl 0)) (Eq.trans (show ivh5 bb 0 = ivn1 bb 0 from (fl5.i tb1 rfl 0)) (show ivn1 bb 0 = iv bb 0 from (by rw [hin1]; exact congrFun (up0_a (ne_in tbb.1 hqn1)) _)))))))))) (fun bb tbb => by have tb1 := xl5.ty tbb; have tb2 := ty_rt tb1 hcr1 (ne_ty tb1 tqn1 (by decide)); have tb3 := xl7.ty tb2; have tb4 := xl8.ty tb3; have tb5 := xl9.ty tb4; have tb6 := xl10.ty tb5; have tb7 := ty_rt tb6 hcr2 (ne_ty tb6 ty75 (by decide)); exact (Eq.trans (show rv1 bb 1 = rvh9 bb 1 from (by rw [pq1]; exact congrFun (upr_a (ne_ty tb7 ty104 (by decide))) _)) (Eq.trans (show rvh9 bb 1 = rvh8 bb 1 from (fl9.r tb6 rfl 1)) (Eq.trans (show rvh8 bb 1 = rvh7 bb 1 from (fl8.r tb5 rfl 1)) (Eq.trans (show rvh7 bb 1 = rvn2 bb 1 from (fl7.r tb4 rfl 1)) (Eq.trans (show rvn2 bb 1 = rvh6 bb 1 from (by rw [hrn2]; exact congrFun (up0_a (ne_in tb3.1 hqn2)) _)) (Eq.trans (show rvh6 bb 1 = rvh5 bb 1 from (fl6.r tb2 rfl 1)) (Eq.trans (show rvh5 bb 1 = rvn1 bb 1 from (fl5.r tb1 rfl 1)) (show rvn1 bb 1 = rv bb 1 from (by rw [hrn1]; exact congrFun (up0_a (ne_in tbb.1 hqn1)) _)))))))))), ⟨qn1, (by rw [show (iv (sk 23) 2).toNat = (ivh5 (sk 23) 2).toNat from congrArg Int.toNat (by omega)]; exact ((fun i hi => el_ch W8 (tysk23 sk3) rfl rfl ((show ∀ bb, ty Lh6 clh6 bb 23 → rv1 bb 1 = rvh6 bb 1 from fun bb tbb => by have tb4 := xl8.ty tbb; have tb5 := xl9.ty tb4; have tb6 := xl10.ty tb5; have tb7 := ty_rt tb6 hcr2 (ne_ty tb6 ty75 (by decide)); exact (Eq.trans (show rv1 bb 1 = rvh9 bb 1 from (by rw [pq1]; exact congrFun (upr_a (ne_ty tb7 ty104 (by decide))) _)) (Eq.trans (show rvh9 bb 1 = rvh8 bb 1 from (fl9.r tb6 rfl 1)) (Eq.trans (show rvh8 bb 1 = rvh7 bb 1 from (fl8.r tb5 rfl 1)) (Eq.trans (show rvh7 bb 1 = rvn2 bb 1 from (fl7.r tb4 rfl 1)) (show rvn2 bb 1 = rvh6 bb 1 from (by rw [hrn2]; exact congrFun (up0_a (ne_in tbb.1 hqn2)) _))))))) (sk 23) (tysk23 sk3)) (fun bb tbb kk => by have tb4 := xl8.ty tbb; have tb5 := xl9.ty tb4; have tb6 := xl10.ty tb5; have tb7 := ty_rt tb6 hcr2 (ne_ty tb6 ty75 (by decide)); exact (Eq.trans (show rv1 bb kk = rvh9 bb kk from (by rw [pq1]; exact congrFun (upr_a (ne_ty tb7 ty104 (by decide))) _)) (Eq.trans (show rvh9 bb kk = rvh8 bb kk from (fl9.r tb6 rfl kk)) (Eq.trans (show rvh8 bb kk = rvh7 bb kk from (fl8.r tb5 rfl kk)) (Eq.trans (show rvh7 bb kk = rvn2 bb kk from (fl7.r tb4 rfl kk)) (show rvn2 bb kk = rvh6 bb kk from (by rw [hrn2]; exact congrFun (up0_a (ne_in tbb.1 hqn2)) _))))))) hi) _ (by omega)).trans rmef6.1), (by omega), re14⟩⟩⟩), (Or.inr ⟨ob1, n6, ⟨akob1.2, hn6, by omega⟩, kp10, Or.inr ⟨qn2, f8, rp1, ⟨tqr2, ⟨by omega, f7, re21, by omega⟩, re22⟩, ty108, by omega, by omega, (fun ss hs kk hk => Eq.trans ((show ∀ bb, ty Lh8 clh8 bb 66 → ivh10 bb kk = ivh8 bb kk from fun bb tbb => by have tb7 := ty_rt tbb hcr2 (ne_ty tbb ty75 (by decide)); exact (Eq.trans (show ivh10 bb kk = ivh9 bb kk from (fl10.i tb7 rfl kk)) (show ivh9 bb kk = ivh8 bb kk from (fl9.i tbb rfl kk)))) f8 rgf8) (Eq.trans (slnf8.2.2 ss (CT.fr hs hW tsk2 F6 rfl rfl rfl rfl rfl) (by omega) kk (by omega)) (congrArg ss (by omega))))⟩, ⟨(by omega), qn1, (by rw [show (iv (sk 23) 2).toNat = (ivh5 (sk 23) 2).toNat from congrArg Int.toNat (by omega)]; exact ((fun i hi => el_ch W8 (tysk23 sk3) rfl rfl ((show ∀ bb, ty Lh6 clh6 bb 23 → rv1 bb 1 = rvh6 bb 1 from fun bb tbb => by have tb4 := xl8.ty tbb; have tb5 := xl9.ty tb4; have tb6 := xl10.ty tb5; have tb7 := ty_rt tb6 hcr2 (ne_ty tb6 ty75 (by decide)); exact (Eq.trans (show rv1 bb 1 = rvh9 bb 1 from (by rw [pq1]; exact congrFun (upr_a (ne_ty tb7 ty104 (by decide))) _)) (Eq.trans (show rvh9 bb 1 = rvh8 bb 1 from (fl9.r tb6 rfl 1)) (Eq.trans (show rvh8 bb 1 = rvh7 bb 1 from (fl8.r tb5 rfl 1)) (Eq.trans (show rvh7 bb 1 = rvn2 bb 1 from (fl7.r tb4 rfl 1)) (show rvn2 bb 1 = rvh6 bb 1 from (by rw [hrn2]; exact congrFun (up0_a (ne_in tbb.1 hqn2)) _))))))) (sk 23) (tysk23 sk3)) (fun bb tbb kk => by have tb4 := xl8.ty tbb; have tb5 := xl9.ty tb4; have tb6 := xl10.ty tb5; have tb7 := ty_rt tb6 hcr2 (ne_ty tb6 ty75 (by decide)); exact (Eq.trans (show rv1 bb kk = rvh9 bb kk from (by rw [pq1]; exact congrFun (upr_a (ne_ty tb7 ty104 (by decide))) _)) (Eq.trans (show rvh9 bb kk = rvh8 bb kk from (fl9.r tb6 rfl kk)) (Eq.trans (show rvh8 bb kk = rvh7 bb kk from (fl8.r tb5 rfl kk)) (Eq.trans (show rvh7 bb kk = rvn2 bb kk from (fl7.r tb4 rfl kk)) (show rvn2 bb kk = rvh6 bb kk from (by rw [hrn2]; exact congrFun (up0_a (ne_in tbb.1 hqn2)) _))))))) hi) _ (by omega)).trans rmef6.1), re14, (Eq.trans re20 oi1.symm), (by omega)⟩⟩), (Eq.trans (show rv1 a0 9 = rvh9 a0 9 from (by rw [pq1]; exact congrFun (upr_a (ne_ty ty78 ty104 (by decide))) _)) (Eq.trans (show rvh9 a0 9 = rvh8 a0 9 from (fl9.r ty77 rfl 9)) (Eq.trans (show rvh8 a0 9 = rvh7 a0 9 from (fl8.r ty59 rfl 9)) (Eq.trans (show rvh7 a0 9 = rvn2 a0 9 from (fl7.r ty44 rfl 9)) (Eq.trans (show rvn2 a0 9 = rvh6 a0 9 from (by rw [hrn2]; exact congrFun (up0_a (ne_in ty31.1 hqn2)) _)) (Eq.trans (show rvh6 a0 9 = rvh5 a0 9 from (fl6.r ty4 rfl 9)) (Eq.trans (show rvh5 a0 9 = rvn1 a0 9 from (fl5.r ty3 rfl 9)) (show rvn1 a0 9 = rv a0 9 from (by rw [hrn1]; exact congrFun (up0_a (ne_in t_a0.1 hqn1)) _))))))))), (Eq.trans (show rv1 a0 10 = rvh9 a0 10 from (by rw [pq1]; exact congrFun (upr_a (ne_ty ty78 ty104 (by decide))) _)) (Eq.trans (show rvh9 a0 10 = rvh8 a0 10 from (fl9.r ty77 rfl 10)) (Eq.trans (show rvh8 a0 10 = rvh7 a0 10 from (fl8.r ty59 rfl 10)) (Eq.trans (show rvh7 a0 10 = rvn2 a0 10 from (fl7.r ty44 rfl 10)) (Eq.trans (show rvn2 a0 10 = rvh6 a0 10 from (by rw [hrn2]; exact congrFun (up0_a (ne_in ty31.1 hqn2)) _)) (Eq.trans (show rvh6 a0 10 = rvh5 a0 10 from (fl6.r ty4 rfl 10)) (Eq.trans (show rvh5 a0 10 = rvn1 a0 10 from (fl5.r ty3 rfl 10)) (show rvn1 a0 10 = rv a0 10 from (by rw [hrn1]; exact congrFun (up0_a (ne_in t_a0.1 hqn1)) _)))))))))⟩
              · refine c_null C dX11_changeIndicator_106 ?_
                refine c_goto (tgt := 142) C dX11_changeIndicator_107 (by decide) ?_
                have ty109 := xl7.ty ty28
                have ll3 : 4 ≤ lnh6 n6 ∧ lnh6 n6 ≤ 4 := W8.len ty109 rfl
                refine c_aastNR (z := j) C dX11_changeIndicator_142 ty109 rfl (by omega) (by omega) (by omega) (fun rv2 pq2 => ⟨1236, (by rw [Phi.putr sk3 pq2 ty109 rfl]; exact Nat.le_refl _), ?_⟩)
                have W16 := W8.putr pq2 ty109 (fun _ => ⟨fun _ => by rw [ty109.2]; rfl, fun _ qq => by cases qq⟩) rfl (by decide)
                have F11 := F4.putr X3 pq2 ty109 rfl
                have mr13 := MRK.putr mr5 W8 sk3 pq2 ty109 (by decide) (by decide)
                have tx8 := TX.xt tx2 xl7
                have kp11 := kp4.putrI tx8 W8 pq2 ty109 ⟨rfl, rfl⟩
                refine c_aload_n (j := 1) (x := a0) C dX11_changeIndicator_143 rfl ?_
                refine c_aload_n (j := 1) (x := a0) C dX11_changeIndicator_144 rfl ?_
                have re23 : rv2 a0 0 = rvh6 a0 0 := (by rw [pq2]; exact congrFun (upr_a (ne_ty ty31 ty109 (by decide))) _)
                rw [rq2] at re23
                refine c_getr (k := 0) C ck_12 dX11_changeIndicator_145 w2_44 (by decide) ty31 rfl rfl (by decide) rfl re23 ?_
                refine c_st (st2 := [.ref (sk 2), .ref a0]) rfl ?_
                refine c_get (k := 2) C ck_2 dX11_changeIndicator_148 w1_44 (by decide) ty32 rfl rfl (by decide) rfl ?_
                have pl8 := Phi.le W16 sk3
                refine d_callV (As := [.int (iI (ivh6 (sk 2) 2))]) (rest := []) C hM (C_done (a0 := a0) (x := ivh6 (sk 2) 2) W16 sk3 ty31 (by omega) ) dX11_changeIndicator_151 kV_X11_109 rfl ty31 rfl rfl (by decide) ck_12 rfl (Nat.le_of_ble_eq_true rfl) ⟨(Nat.le_of_ble_eq_true rfl), (Nat.le_of_ble_eq_true rfl)⟩ hph pl8 (show 1236 + 0 = 1236 from rfl) (by decide) (fun rh11 Lh11 clh11 lnh11 ivh11 rvh11 h11 => ?_)
                obtain ⟨f11, rfl, rfl, rfl, rfl, rfl, fl11, W17, rgf11, exf11, kp11f11, kp12f11, kp13f11, kp14f11, kp15f11, kp16f11⟩ := h11
                have ri43 : 1 ≤ ivh6 a0 11 ∧ ivh6 a0 11 ≤ 100 := W16.int ty31 11
                have ie95 : ivh6 a0 11 = ivh5 a0 11 := fl6.i ty4 rfl 11
                have ie96 : ivh5 a0 11 = ivn1 a0 11 := fl5.i ty3 rfl 11
                have ie97 : ivn1 a0 11 = iv a0 11 := by rw [hin1]; exact congrFun (up0_a (ne_in t_a0.1 hqn1)) _
                have ri44 : 1 ≤ ivh6 a0 12 ∧ ivh6 a0 12 ≤ 50 := W16.int ty31 12
                have ie98 : ivh6 a0 12 = ivh5 a0 12 := fl6.i ty4 rfl 12
                have ie99 : ivh5 a0 12 = ivn1 a0 12 := fl5.i ty3 rfl 12
                have ie100 : ivn1 a0 12 = iv a0 12 := by rw [hin1]; exact congrFun (up0_a (ne_in t_a0.1 hqn1)) _
                have ri45 : (-2147483648) ≤ ivh6 a0 13 ∧ ivh6 a0 13 ≤ 2147483647 := W16.int ty31 13
                have ie101 : ivh6 a0 13 = ivh5 a0 13 := fl6.i ty4 rfl 13
                have ie102 : ivh5 a0 13 = ivn1 a0 13 := fl5.i ty3 rfl 13
                have ie103 : ivn1 a0 13 = iv a0 13 := by rw [hin1]; exact congrFun (up0_a (ne_in t_a0.1 hqn1)) _
                have ri46 : (-2147483648) ≤ ivh6 a0 14 ∧ ivh6 a0 14 ≤ 2147483647 := W16.int ty31 14
                have ie104 : ivh6 a0 14 = ivh5 a0 14 := fl6.i ty4 rfl 14
                have ie105 : ivh5 a0 14 = ivn1 a0 14 := fl5.i ty3 rfl 14
                have ie106 : ivn1 a0 14 = iv a0 14 := by rw [hin1]; exact congrFun (up0_a (ne_in t_a0.1 hqn1)) _
                have ri47 : (-2147483648) ≤ ivh6 a0 15 ∧ ivh6 a0 15 ≤ 2147483647 := W16.int ty31 15
                have ie107 : ivh6 a0 15 = ivh5 a0 15 := fl6.i ty4 rfl 15
                have ie108 : ivh5 a0 15 = ivn1 a0 15 := fl5.i ty3 rfl 15
                have ie109 : ivn1 a0 15 = iv a0 15 := by rw [hin1]; exact congrFun (up0_a (ne_in t_a0.1 hqn1)) _
                have ri48 : (-2147483648) ≤ ivh6 a0 16 ∧ ivh6 a0 16 ≤ 2147483647 := W16.int ty31 16
                have ie110 : ivh6 a0 16 = ivh5 a0 16 := fl6.i ty4 rfl 16
                have ie111 : ivh5 a0 16 = ivn1 a0 16 := fl5.i ty3 rfl 16
                have ie112 : ivn1 a0 16 = iv a0 16 := by rw [hin1]; exact congrFun (up0_a (ne_in t_a0.1 hqn1)) _
                have F12 := F11.call X3 fl11 rfl
                have mr14 := MRK.call mr13 W16 sk3 XT.refl fl11 rfl rfl
                have kp12 := kp11.call tx8 W16 fl11 rfl
                refine c_st (st2 := [.int (iI f11)]) rfl ?_
                have gk11f11 : ivh11 a0 11 = ivh6 a0 11 := kp11f11
                have gk12f11 : ivh11 a0 12 = ivh6 a0 12 := kp12f11
                have gk13f11 : ivh11 a0 13 = ivh6 a0 13 := kp13f11
                have gk14f11 : ivh11 a0 14 = ivh6 a0 14 := kp14f11
                have gk15f11 : ivh11 a0 15 = ivh6 a0 15 := kp15f11
                have gk16f11 : ivh11 a0 16 = ivh6 a0 16 := kp16f11
                have gf11 : f11 = (ivh6 (sk 2) 2) := exf11
                have ri49 : 1 ≤ ivh11 a0 11 ∧ ivh11 a0 11 ≤ 100 := W17.int ty31 11
                have ri50 : 1 ≤ ivh11 a0 12 ∧ ivh11 a0 12 ≤ 50 := W17.int ty31 12
                have ri51 : (-2147483648) ≤ ivh11 a0 13 ∧ ivh11 a0 13 ≤ 2147483647 := W17.int ty31 13
                have ri52 : (-2147483648) ≤ ivh11 a0 14 ∧ ivh11 a0 14 ≤ 2147483647 := W17.int ty31 14
                have ri53 : (-2147483648) ≤ ivh11 a0 15 ∧ ivh11 a0 15 ≤ 2147483647 := W17.int ty31 15
                have ri54 : (-2147483648) ≤ ivh11 a0 16 ∧ ivh11 a0 16 ≤ 2147483647 := W17.int ty31 16
                have ri55 : 0 ≤ ivh11 (sk 23) 2 ∧ ivh11 (sk 23) 2 ≤ 512 := W17.int ty29 2
                have ie119 : ivh11 (sk 23) 2 = ivh6 (sk 23) 2 := fl11.i ty29 rfl 2
                have ty110 := xl7.ty ty24
                have ri56 : 0 ≤ ivh11 (sk 22) 2 ∧ ivh11 (sk 22) 2 ≤ 30 := W17.int ty110 2
                have ie120 : ivh11 (sk 22) 2 = ivh6 (sk 22) 2 := fl11.i ty110 rfl 2
                have ie121 : ivh6 (sk 22) 2 = ivh5 (sk 22) 2 := fl6.i ty24 rfl 2
                have ie122 : ivh5 (sk 22) 2 = ivn1 (sk 22) 2 := fl5.i ty23 rfl 2
                have ie123 : ivn1 (sk 22) 2 = iv (sk 22) 2 := by rw [hin1]; exact congrFun (up0_a (ne_in tsk22.1 hqn1)) _
                have ri57 : 0 ≤ ivh11 (sk 2) 2 ∧ ivh11 (sk 2) 2 ≤ 3000 := W17.int ty32 2
                have ie124 : ivh11 (sk 2) 2 = ivh6 (sk 2) 2 := fl11.i ty32 rfl 2
                have ty111 := xl7.ty tqr1
                have ri58 : (-2147483648) ≤ ivh11 qn1 0 ∧ ivh11 qn1 0 ≤ 2147483647 := W17.int ty111 0
                have ie125 : ivh11 qn1 0 = ivh6 qn1 0 := fl11.i ty111 rfl 0
                have ie126 : ivh6 qn1 0 = ivh5 qn1 0 := fl6.i tqr1 rfl 0
                have re24 : rvh6 qn1 1 = rvh5 qn1 1 := (fl6.r tqr1 rfl 1)
                rw [exf5r] at re24
                have re25 : rv2 qn1 1 = rvh6 qn1 1 := (by rw [pq2]; exact congrFun (upr_a (ne_ty ty111 ty109 (by decide))) _)
                rw [re24] at re25
                have re26 : rvh6 qn1 2 = rvh5 qn1 2 := (fl6.r tqr1 rfl 2)
                rw [exf5p] at re26
                have re27 : rv2 qn1 2 = rvh6 qn1 2 := (by rw [pq2]; exact congrFun (upr_a (ne_ty ty111 ty109 (by decide))) _)
                rw [re26] at re27
                have ri59 : 0 ≤ ivh11 qn1 3 ∧ ivh11 qn1 3 ≤ 5 := W17.int ty111 3
                have ie127 : ivh11 qn1 3 = ivh6 qn1 3 := fl11.i ty111 rfl 3
                have ie128 : ivh6 qn1 3 = ivh5 qn1 3 := fl6.i tqr1 rfl 3
                have rp2 : rv2 n6 j.toNat = none := by rw [pq2]; exact upr_s
                exact c_iret C dX11_changeIndicator_154 rfl (by decide) (rom0 hph pl8 (by decide)) ⟨f11, rfl, X3, F12, W17, ⟨by omega, by omega⟩, ⟨(by omega), mr14⟩, (by omega), (by omega), (by omega), (by omega), (by omega), (by omega), (Or.inr ⟨by omega, ob1, akob1.2, (fun ss hs hd => by
                    have e2 := irxf4 ss hs (by omega) hd
                    have e3 := e2.mp (by omega)
                    rw [Int.sub_zero] at e3
                    exact ⟨⟨by omega, by omega, gf3.mp (by omega), by omega⟩, e3.2⟩), by omega, ⟨(fun i hi => el_fr hW (tysk22 hS) rfl rfl F12 rfl rfl hi), TSF.of hW hS (fun bb tbb hbb => by have tb1 := xl5.ty tbb; have tb2 := ty_rt tb1 hcr1 (ne_ty tb1 tqn1 (by decide)); have tb3 := xl7.ty tb2; exact (Eq.trans (show ivh11 bb 7 = ivh6 bb 7 from (fl11.i tb3 rfl 7)) (Eq.trans (show ivh6 bb 7 = ivh5 bb 7 from (fl6.i tb2 rfl 7)) (Eq.trans (show ivh5 bb 7 = ivn1 bb 7 from (fl5.i tb1 rfl 7)) (show ivn1 bb 7 = iv bb 7 from (by rw [hin1]; exact congrFun (up0_a (ne_in tbb.1 hqn1)) _)))))) (fun bb tbb => by have tb1 := xl5.ty tbb; have tb2 := ty_rt tb1 hcr1 (ne_ty tb1 tqn1 (by decide)); have tb3 := xl7.ty tb2; exact (Eq.trans (show ivh11 bb 0 = ivh6 bb 0 from (fl11.i tb3 rfl 0)) (Eq.trans (show ivh6 bb 0 = ivh5 bb 0 from (fl6.i tb2 rfl 0)) (Eq.trans (show ivh5 bb 0 = ivn1 bb 0 from (fl5.i tb1 rfl 0)) (show ivn1 bb 0 = iv bb 0 from (by rw [hin1]; exact congrFun (up0_a (ne_in tbb.1 hqn1)) _)))))) (fun bb tbb => by have tb1 := xl5.ty tbb; have tb2 := ty_rt tb1 hcr1 (ne_ty tb1 tqn1 (by decide)); have tb3 := xl7.ty tb2; exact (Eq.trans (show ivh11 bb 1 = ivh6 bb 1 from (fl11.i tb3 rfl 1)) (Eq.trans (show ivh6 bb 1 = ivh5 bb 1 from (fl6.i tb2 rfl 1)) (Eq.trans (show ivh5 bb 1 = ivn1 bb 1 from (fl5.i tb1 rfl 1)) (show ivn1 bb 1 = iv bb 1 from (by rw [hin1]; exact congrFun (up0_a (ne_in tbb.1 hqn1)) _)))))) (fun bb tbb => by have tb1 := xl5.ty tbb; have tb2 := ty_rt tb1 hcr1 (ne_ty tb1 tqn1 (by decide)); have tb3 := xl7.ty tb2; exact (Eq.trans (show rv2 bb 4 = rvh6 bb 4 from (by rw [pq2]; exact congrFun (upr_a (ne_ty tb3 ty109 (by decide))) _)) (Eq.trans (show rvh6 bb 4 = rvh5 bb 4 from (fl6.r tb2 rfl 4)) (Eq.trans (show rvh5 bb 4 = rvn1 bb 4 from (fl5.r tb1 rfl 4)) (show rvn1 bb 4 = rv bb 4 from (by rw [hrn1]; exact congrFun (up0_a (ne_in tbb.1 hqn1)) _)))))), TSQ.of hW hS (fun bb tbb hbb => by have tb1 := xl5.ty tbb; have tb2 := ty_rt tb1 hcr1 (ne_ty tb1 tqn1 (by decide)); have tb3 := xl7.ty tb2; exact (Eq.trans (show ivh11 bb 2 = ivh6 bb 2 from (fl11.i tb3 rfl 2)) (Eq.trans (show ivh6 bb 2 = ivh5 bb 2 from (fl6.i tb2 rfl 2)) (Eq.trans (show ivh5 bb 2 = ivn1 bb 2 from (fl5.i tb1 rfl 2)) (show ivn1 bb 2 = iv bb 2 from (by rw [hin1]; exact congrFun (up0_a (ne_in tbb.1 hqn1)) _))))))⟩, ⟨(by omega), CS0.of hW hS (Int.le_refl _) (fun i hi => ((fun i hi => el_ch W8 (tysk23 sk3) rfl rfl ((show ∀ bb, ty Lh6 clh6 bb 23 → rv2 bb 1 = rvh6 bb 1 from fun bb tbb => by exact (show rv2 bb 1 = rvh6 bb 1 from (by rw [pq2]; exact congrFun (upr_a (ne_ty tbb ty109 (by decide))) _))) (sk 23) (tysk23 sk3)) (fun bb tbb kk => by exact (show rv2 bb kk = rvh6 bb kk from (by rw [pq2]; exact congrFun (upr_a (ne_ty tbb ty109 (by decide))) _))) hi) i (by omega)).trans ((rmef6.2 i (by omega)).trans (ce1 i hi))) (fun bb tbb => by have tb1 := xl5.ty tbb; have tb2 := ty_rt tb1 hcr1 (ne_ty tb1 tqn1 (by decide)); have tb3 := xl7.ty tb2; exact (Eq.trans (show ivh11 bb 0 = ivh6 bb 0 from (fl11.i tb3 rfl 0)) (Eq.trans (show ivh6 bb 0 = ivh5 bb 0 from (fl6.i tb2 rfl 0)) (Eq.trans (show ivh5 bb 0 = ivn1 bb 0 from (fl5.i tb1 rfl 0)) (show ivn1 bb 0 = iv bb 0 from (by rw [hin1]; exact congrFun (up0_a (ne_in tbb.1 hqn1)) _)))))) (fun bb tbb => by have tb1 := xl5.ty tbb; have tb2 := ty_rt tb1 hcr1 (ne_ty tb1 tqn1 (by decide)); have tb3 := xl7.ty tb2; exact (Eq.trans (show rv2 bb 1 = rvh6 bb 1 from (by rw [pq2]; exact congrFun (upr_a (ne_ty tb3 ty109 (by decide))) _)) (Eq.trans (show rvh6 bb 1 = rvh5 bb 1 from (fl6.r tb2 rfl 1)) (Eq.trans (show rvh5 bb 1 = rvn1 bb 1 from (fl5.r tb1 rfl 1)) (show rvn1 bb 1 = rv bb 1 from (by rw [hrn1]; exact congrFun (up0_a (ne_in tbb.1 hqn1)) _)))))), ⟨qn1, (by rw [show (iv (sk 23) 2).toNat = (ivh5 (sk 23) 2).toNat from congrArg Int.toNat (by omega)]; exact ((fun i hi => el_ch W8 (tysk23 sk3) rfl rfl ((show ∀ bb, ty Lh6 clh6 bb 23 → rv2 bb 1 = rvh6 bb 1 from fun bb tbb => by exact (show rv2 bb 1 = rvh6 bb 1 from (by rw [pq2]; exact congrFun (upr_a (ne_ty tbb ty109 (by decide))) _))) (sk 23) (tysk23 sk3)) (fun bb tbb kk => by exact (show rv2 bb kk = rvh6 bb kk from (by rw [pq2]; exact congrFun (upr_a (ne_ty tbb ty109 (by decide))) _))) hi) _ (by omega)).trans rmef6.1), (by omega), re25⟩⟩⟩), (Or.inr ⟨ob1, n6, ⟨akob1.2, hn6, by omega⟩, kp12, Or.inl ⟨by omega, rp2⟩, ⟨(by omega), qn1, (by rw [show (iv (sk 23) 2).toNat = (ivh5 (sk 23) 2).toNat from congrArg Int.toNat (by omega)]; exact ((fun i hi => el_ch W8 (tysk23 sk3) rfl rfl ((show ∀ bb, ty Lh6 clh6 bb 23 → rv2 bb 1 = rvh6 bb 1 from fun bb tbb => by exact (show rv2 bb 1 = rvh6 bb 1 from (by rw [pq2]; exact congrFun (upr_a (ne_ty tbb ty109 (by decide))) _))) (sk 23) (tysk23 sk3)) (fun bb tbb kk => by exact (show rv2 bb kk = rvh6 bb kk from (by rw [pq2]; exact congrFun (upr_a (ne_ty tbb ty109 (by decide))) _))) hi) _ (by omega)).trans rmef6.1), re25, (Eq.trans re27 oi1.symm), (by omega)⟩⟩), (Eq.trans (show rv2 a0 9 = rvh6 a0 9 from (by rw [pq2]; exact congrFun (upr_a (ne_ty ty31 ty109 (by decide))) _)) (Eq.trans (show rvh6 a0 9 = rvh5 a0 9 from (fl6.r ty4 rfl 9)) (Eq.trans (show rvh5 a0 9 = rvn1 a0 9 from (fl5.r ty3 rfl 9)) (show rvn1 a0 9 = rv a0 9 from (by rw [hrn1]; exact congrFun (up0_a (ne_in t_a0.1 hqn1)) _))))), (Eq.trans (show rv2 a0 10 = rvh6 a0 10 from (by rw [pq2]; exact congrFun (upr_a (ne_ty ty31 ty109 (by decide))) _)) (Eq.trans (show rvh6 a0 10 = rvh5 a0 10 from (fl6.r ty4 rfl 10)) (Eq.trans (show rvh5 a0 10 = rvn1 a0 10 from (fl5.r ty3 rfl 10)) (show rvn1 a0 10 = rv a0 10 from (by rw [hrn1]; exact congrFun (up0_a (ne_in t_a0.1 hqn1)) _)))))⟩
            · have tnb1 : ty (L ++ [qn1]) cln1 nb1 20 := tnb1
              refine c_aaldR C dX11_changeIndicator_83 ty2 rfl (by omega) (by omega) (by omega) nq1 ?_
              refine c_st (st2 := [.ref nb1, .ref ob1, .int (iI 4), .ref qn1, .ref qn1, .ref (sk 13)]) rfl ?_
              refine c_iload_n (j := 3) C dX11_changeIndicator_84 rfl ?_
              have oi2 := Eq.trans ((show ∀ bb, ty L cl bb 68 → ∀ kk, rvn1 bb kk = rv bb kk from fun bb tbb kk => by exact (show rvn1 bb kk = rv bb kk from (by rw [hrn1]; exact congrFun (up0_a (ne_in tbb.1 hqn1)) _))) n6 tn6 j.toNat).symm nq1
              have pl9 := Phi.le W5 sk1
              refine c_callI (As := [.int (iI 4), .ref ob1, .ref nb1, .int (iI j)]) (rest := [.ref qn1, .ref (sk 13)]) C hM (Z_change (a0 := qn1) (i := 4) (a2 := ob1) (r := (some nb1)) (n := j) W5 sk1 tqn1 ty1 (fun _ q => by cases q; exact tnb1) ⟨by decide, by decide⟩ (by omega) ) dX11_changeIndicator_85 kI_X11_149 rfl rfl (Nat.le_of_ble_eq_true rfl) ⟨(Nat.le_of_ble_eq_true rfl), (Nat.le_of_ble_eq_true rfl)⟩ (rz1 hph pl9 (by decide)) (fun rh12 Lh12 clh12 lnh12 ivh12 rvh12 h12 => ⟨20, (zk1 (by obtain ⟨_, _, _, e3, flh12x, Wh12x, _⟩ := h12; subst e3; exact Phi.frn sk1 flh12x rfl)), ?_⟩)
              obtain ⟨rfl, rfl, rfl, rfl, fl12, W18, exf12⟩ := h12
              have F13 := F2.call X1 fl12 rfl
              have mr15 := MRK.call mr2 W5 sk1 XT.refl fl12 rfl rfl
              have tx9 := TX.xt TX.refl xl5
              have kp13 := kp2.call tx9 W5 fl12 rfl
              refine c_st (st2 := [.ref qn1, .ref (sk 13)]) rfl ?_
              obtain ⟨exf12x, exf12r, exf12p, exf12i, exf12j⟩ := exf12
              have rn3 : ∀ k, ([1, 2] : List Nat).contains k = false → rvh12 qn1 k = none := fun k hk => (Eq.trans (show rvh12 qn1 k = rvn1 qn1 k from (exf12x k hk)) (show rvn1 qn1 k = none from (by rw [hrn1]; exact up0_s)))
              refine c_retag (q := qn1) (t := 21) (by rw [tqn1.2]; rfl) (fun clr3 hcr3 => ?_)
              have ty112 := xl5.ty t_a0
              have ty113 := ty_rt ty112 hcr3 (ne_ty ty112 tqn1 (by decide))
              have ty114 := xl5.ty tsk2
              have ty115 := ty_rt ty114 hcr3 (ne_ty ty114 tqn1 (by decide))
              have ty116 := xl5.ty tsk3
              have ty117 := ty_rt ty116 hcr3 (ne_ty ty116 tqn1 (by decide))
              have ty118 := xl5.ty tsk4
              have ty119 := ty_rt ty118 hcr3 (ne_ty ty118 tqn1 (by decide))
              have ty120 := xl5.ty tsk5
              have ty121 := ty_rt ty120 hcr3 (ne_ty ty120 tqn1 (by decide))
              have ty122 := xl5.ty tsk13
              have ty123 := ty_rt ty122 hcr3 (ne_ty ty122 tqn1 (by decide))
              have ty124 := xl5.ty tsk14
              have ty125 := ty_rt ty124 hcr3 (ne_ty ty124 tqn1 (by decide))
              have ty126 := xl5.ty tsk15
              have ty127 := ty_rt ty126 hcr3 (ne_ty ty126 tqn1 (by decide))
              have ty128 := xl5.ty tsk16
              have ty129 := ty_rt ty128 hcr3 (ne_ty ty128 tqn1 (by decide))
              have ty130 := xl5.ty tsk17
              have ty131 := ty_rt ty130 hcr3 (ne_ty ty130 tqn1 (by decide))
              have ty132 := xl5.ty tsk22
              have ty133 := ty_rt ty132 hcr3 (ne_ty ty132 tqn1 (by decide))
              have ty134 := xl5.ty tsk23
              have ty135 := ty_rt ty134 hcr3 (ne_ty ty134 tqn1 (by decide))
              have ty136 := ty_rt ty1 hcr3 (ne_ty ty1 tqn1 (by decide))
              have ty137 := ty_rt ty2 hcr3 (ne_ty ty2 tqn1 (by decide))
              have ty138 := ty_rt tnb1 hcr3 (ne_ty tnb1 tqn1 (by decide))
              have tqr3 : ty (L ++ [qn1]) clr3 qn1 21 := ⟨tqn1.1, by rw [hcr3, va_up_self]; rfl⟩
              have W19 := W18.retag tqn1.1 (by rw [tqn1.2]; rfl) hcr3 (fun k => by
                    rcases k with _ | _ | _ | _ | k
                    · exact W18.int tqn1 0
                    · exact W18.int tqn1 1
                    · exact W18.int tqn1 2
                    · exact ⟨(by show 0 ≤ ivh12 qn1 3; omega), (by show ivh12 qn1 3 ≤ 5; omega)⟩
                    · exact W18.int tqn1 (k + 4)) (fun k => by
                    rcases k with _ | _ | _ | _ | k
                    · rw [rn3 0 (by decide)]; exact rok_none tqr3 rfl
                    · rw [exf12r]; exact rok_some tqr3 ty136 rfl (by decide) rfl
                    · rw [exf12p]; exact rok_ch tqr3 (fun _ q => by cases q; exact ty138)
                    · rw [rn3 3 (by decide)]; exact rok_none tqr3 rfl
                    · rw [rn3 (k + 4) (by simp)]; exact rok_none tqr3 rfl) rfl (fun z => by cases z) (fun z => by cases z) rfl
              have X8 := X1.rt hcr3 h0qn1
              have sk8 := sk1.rt hcr3 (by rw [tqn1.2]; rfl)
              have mr16 := MRK.rt mr15 W18 sk1 hcr3 (by rw [tqn1.2]; rfl)
              have on8 := fun b hb => xl5.ty (rgf2 b hb)
              have on9 := fun b hb => ty_rt (on8 b hb) hcr3 (ne_ty (on8 b hb) tqn1 (by decide))
              have ce2 : ∀ i : Nat, (i : Int) < iv (sk 23) 2 → el rvh12 (sk 23) i = el rv (sk 23) i := (fun i hi => el_ch hW (tysk23 hS) rfl rfl ((show ∀ bb, ty L cl bb 23 → rvh12 bb 1 = rv bb 1 from fun bb tbb => by have tb1 := xl5.ty tbb; exact (Eq.trans (show rvh12 bb 1 = rvn1 bb 1 from (fl12.r tb1 rfl 1)) (show rvn1 bb 1 = rv bb 1 from (by rw [hrn1]; exact congrFun (up0_a (ne_in tbb.1 hqn1)) _)))) (sk 23) (tysk23 hS)) (fun bb tbb kk => by have tb1 := xl5.ty tbb; exact (Eq.trans (show rvh12 bb kk = rvn1 bb kk from (fl12.r tb1 rfl kk)) (show rvn1 bb kk = rv bb kk from (by rw [hrn1]; exact congrFun (up0_a (ne_in tbb.1 hqn1)) _)))) hi)
              have ri60 : 0 ≤ ivh12 (sk 23) 2 ∧ ivh12 (sk 23) 2 ≤ 512 := W19.int ty135 2
              have ie129 : ivh12 (sk 23) 2 = ivn1 (sk 23) 2 := fl12.i ty134 rfl 2
              have ie130 : ivn1 (sk 23) 2 = iv (sk 23) 2 := by rw [hin1]; exact congrFun (up0_a (ne_in tsk23.1 hqn1)) _
              have pl10 := Phi.le W19 sk8
              refine d_callV (As := [.ref qn1]) (rest := []) C hM (C_remember (a0 := (sk 13)) (a1 := qn1) W19 sk8 ty123 tqr3  (by show ivh12 (sk 23) 2 < 512; omega)) dX11_changeIndicator_88 kV_X11_152 rfl ty123 rfl rfl (by decide) ck_11 rfl (Nat.le_of_ble_eq_true rfl) ⟨(Nat.le_of_ble_eq_true rfl), (Nat.le_of_ble_eq_true rfl)⟩ hph pl10 (show 20 + 1216 = 1236 from rfl) (by decide) (fun rh13 Lh13 clh13 lnh13 ivh13 rvh13 h13 => ?_)
              obtain ⟨rfl, xl15, fl13, W20, exf13, rmef13⟩ := h13
              have F14 := F13.call X8 fl13 rfl
              have mr17 := MRK.call mr16 W19 sk8 xl15 fl13 rfl rfl
              have tx10 := TX.rt tx9 hcr3 tqn1 rfl
              have kp14 := kp13.call tx10 W19 fl13 rfl
              have X9 := X8.trans xl15
              have sk9 := xl15.skl sk8
              refine c_st (st2 := []) rfl ?_
              have ty139 := xl15.ty ty135
              have ri61 : 0 ≤ ivh13 (sk 23) 2 ∧ ivh13 (sk 23) 2 ≤ 512 := W20.int ty139 2
              have gf13 : ivh13 (sk 23) 2 = ivh12 (sk 23) 2 + 1 := exf13
              refine c_aload_n (j := 0) (x := ob1) C dX11_changeIndicator_91 rfl ?_
              have ty140 := xl15.ty ty136
              have re28 : rvh12 ob1 6 = rvn1 ob1 6 := (fl12.r ty1 rfl 6)
              rw [re1] at re28
              have re29 : rvh13 ob1 6 = rvh12 ob1 6 := (fl13.r ty136 rfl 6)
              rw [re28] at re29
              refine c_getr (k := 6) C ck_10 dX11_changeIndicator_92 w2_196 (by decide) ty140 rfl rfl (by decide) rfl re29 ?_
              refine c_st (st2 := [.ref n6]) rfl ?_
              refine c_iload_n (j := 3) C dX11_changeIndicator_95 rfl ?_
              refine c_aload_n (j := 1) (x := a0) C dX11_changeIndicator_96 rfl ?_
              have ty141 := xl15.ty ty113
              obtain ⟨rb3, rq3, trb3⟩ := W20.ref ty141 0 rfl rfl rfl
              have erb3 := W20.sk trb3 (by decide) rfl
              subst erb3
              refine c_getr (k := 0) C ck_12 dX11_changeIndicator_97 w2_44 (by decide) ty141 rfl rfl (by decide) rfl rq3 ?_
              refine c_st (st2 := [.ref (sk 2), .int (iI j), .ref n6]) rfl ?_
              have ty142 := xl15.ty ty115
              have ri62 : 0 ≤ ivh13 (sk 2) 2 ∧ ivh13 (sk 2) 2 ≤ 3000 := W20.int ty142 2
              have ie132 : ivh13 (sk 2) 2 = ivh12 (sk 2) 2 := fl13.i ty115 rfl 2
              have ie133 : ivh12 (sk 2) 2 = ivn1 (sk 2) 2 := fl12.i ty114 rfl 2
              have ie134 : ivn1 (sk 2) 2 = iv (sk 2) 2 := by rw [hin1]; exact congrFun (up0_a (ne_in tsk2.1 hqn1)) _
              refine c_get (k := 2) C ck_2 dX11_changeIndicator_100 w1_44 (by decide) ty142 rfl rfl (by decide) rfl ?_
              refine c_if_ne (tgt := 110) C ⟨by omega, by omega⟩ dX11_changeIndicator_103 (by decide) (fun c6 => ?_) (fun c6 => ?_)
              · have ty143 := xl15.ty ty117
                have ty144 := xl15.ty ty119
                have ty145 := xl15.ty ty121
                have ty146 := xl15.ty ty123
                have ty147 := xl15.ty ty125
                have ty148 := xl15.ty ty127
                have ty149 := xl15.ty ty129
                have ty150 := xl15.ty ty131
                have ty151 := xl15.ty ty133
                have ty152 := xl15.ty ty137
                have ty153 := xl15.ty tqr3
                have ty154 := xl15.ty ty138
                have pl11 := Phi.le W20 sk9
                refine c_new C ck_6 dv_6 ⟨rfl, rfl⟩ rfl (by decide) dX11_changeIndicator_110 w3_125 w3_126 w1_21 (rom2 hph pl11 (by decide)) (fun qn3 cln3 lnn3 ivn3 rvn3 hqn3 hcn3 hln3 hin3 hrn3 => ⟨1256, (p_in (Phi.new W20 sk9 hqn3 (fun b _ => by rw [hln3]) hrn3) (by omega)), ?_⟩)
                refine c_g0 C (fun hg3 => ?_)
                have hxn3 : ∀ b, b ≠ qn3 → lnn3 b = lnh13 b := (fun b _ => by rw [hln3])
                have W21 := W20.new (ln2 := lnn3) hqn3 (hg3 qn3 (List.mem_append_right _ List.mem_cons_self)) hcn3 hxn3 hin3 hrn3 (fun _ => ⟨(show (-2147483648 : Int) ≤ 0 by decide), (show (0 : Int) ≤ 2147483647 by decide)⟩) (Or.inl rfl) (fun q => by cases q) rfl rfl
                have xl16 := XT.new hqn3 hcn3 hxn3
                have X10 := X9.trans xl16
                have sk10 := xl16.skl sk9
                have F15 := F14.new X9 hqn3 hin3 hrn3
                have mr18 := MRK.call mr17 W20 sk9 xl16 ((fT.refl (ls := [])).new (XT.refl (ln := lnh13)) hqn3 hin3 hrn3) rfl rfl
                have tqn3 : ty (Lh13 ++ [qn3]) cln3 qn3 206 := ty_new hcn3
                have tx11 := TX.xt tx10 xl15
                have kp15 := kp14.new tx11 W20 hqn3 hin3 hrn3
                have h0qn3 : qn3 ∉ L := fun h => hqn3 ((X9 qn3 h).1)
                refine c_dup C dX11_changeIndicator_113 rfl ?_
                refine c_iload_n (j := 3) C dX11_changeIndicator_114 rfl ?_
                refine c_aload_n (j := 1) (x := a0) C dX11_changeIndicator_115 rfl ?_
                have ty155 := xl16.ty ty141
                have re30 : rvn3 a0 0 = rvh13 a0 0 := (by rw [hrn3]; exact congrFun (up0_a (ne_in ty141.1 hqn3)) _)
                rw [rq3] at re30
                refine c_getr (k := 0) C ck_12 dX11_changeIndicator_116 w2_44 (by decide) ty155 rfl rfl (by decide) rfl re30 ?_
                refine c_st (st2 := [.ref (sk 2), .int (iI j), .ref qn3, .ref qn3, .int (iI j), .ref n6]) rfl ?_
                refine c_iconst C dX11_changeIndicator_119 ?_
                refine c_iconst C dX11_changeIndicator_120 ?_
                have ty156 := xl16.ty ty142
                have pl12 := Phi.le W21 sk10
                refine d_callV (As := [.int (iI 0), .int (iI 0)]) (rest := [.int (iI j), .ref qn3, .ref qn3, .int (iI j), .ref n6]) C hM (C_slice_65 (a0 := (sk 2)) (i := 0) (j := 0) W21 sk10 ty156 ⟨by decide, by decide⟩ ⟨by decide, by decide⟩ (by show 0 ≤ (0 : Int) ∧ (0 : Int) ≤ 3000 ∧ 0 ≤ (0 : Int) - (0 : Int) ∧ (0 : Int) - (0 : Int) ≤ 8; omega)) dX11_changeIndicator_121 kV_X11_190 rfl ty156 rfl rfl (by decide) ck_2 rfl (Nat.le_of_ble_eq_true rfl) ⟨(Nat.le_of_ble_eq_true rfl), (Nat.le_of_ble_eq_true rfl)⟩ hph pl12 (show 1256 + 24 = 1280 from rfl) (by decide) (fun rh14 Lh14 clh14 lnh14 ivh14 rvh14 h14 => ?_)
                obtain ⟨f14, rfl, xl17, fl14, W22, rgf14, exf14, slnf14⟩ := h14
                have F16 := F15.call X10 fl14 rfl
                have mr19 := MRK.call mr18 W21 sk10 xl17 fl14 rfl rfl
                have tx12 := TX.xt tx11 xl16
                have kp16 := kp15.trans tx12 (KP.sl W21 fl14 (by decide) slnf14.2.1)
                have ty157 := xl16.ty ty143
                have ty158 := xl16.ty ty144
                have ty159 := xl16.ty ty145
                have ty160 := xl16.ty ty146
                have ty161 := xl16.ty ty147
                have ty162 := xl16.ty ty148
                have ty163 := xl16.ty ty149
                have ty164 := xl16.ty ty150
                have ty165 := xl16.ty ty151
                have ty166 := xl16.ty ty139
                have ty167 := xl16.ty ty140
                have ty168 := xl16.ty ty152
                have ty169 := xl16.ty ty153
                have ty170 := xl16.ty ty154
                have X11 := X10.trans xl17
                have sk11 := xl17.skl sk10
                refine c_st (st2 := [.ref f14, .int (iI j), .ref qn3, .ref qn3, .int (iI j), .ref n6]) rfl ?_
                have gf14 : lnh14 f14 = ((0 : Int) - (0 : Int)).toNat := exf14
                refine c_aload_n (j := 1) (x := a0) C dX11_changeIndicator_124 rfl ?_
                have ty171 := xl17.ty ty155
                have re31 : rvh14 a0 0 = rvn3 a0 0 := (fl14.r ty155 rfl 0)
                rw [re30] at re31
                refine c_getr (k := 0) C ck_12 dX11_changeIndicator_125 w2_44 (by decide) ty171 rfl rfl (by decide) rfl re31 ?_
                refine c_st (st2 := [.ref (sk 2), .ref f14, .int (iI j), .ref qn3, .ref qn3, .int (iI j), .ref n6]) rfl ?_
                refine c_iconst C dX11_changeIndicator_128 ?_
                refine c_aload_n (j := 1) (x := a0) C dX11_changeIndicator_129 rfl ?_
                refine c_getr (k := 0) C ck_12 dX11_changeIndicator_130 w2_44 (by decide) ty171 rfl rfl (by decide) rfl re31 ?_
                refine c_st (st2 := [.ref (sk 2), .int (iI 0), .ref (sk 2), .ref f14, .int (iI j), .ref qn3, .ref qn3, .int (iI j), .ref n6]) rfl ?_
                have ty172 := xl17.ty ty156
                have ri63 : 0 ≤ ivh14 (sk 2) 2 ∧ ivh14 (sk 2) 2 ≤ 3000 := W22.int ty172 2
                have ie135 : ivh14 (sk 2) 2 = ivn3 (sk 2) 2 := fl14.i ty156 rfl 2
                have ie136 : ivn3 (sk 2) 2 = ivh13 (sk 2) 2 := by rw [hin3]; exact congrFun (up0_a (ne_in ty142.1 hqn3)) _
                refine c_get (k := 2) C ck_2 dX11_changeIndicator_133 w1_44 (by decide) ty172 rfl rfl (by decide) rfl ?_
                have pl13 := Phi.le W22 sk11
                refine d_callV (As := [.int (iI 0), .int (iI (ivh14 (sk 2) 2))]) (rest := [.ref f14, .int (iI j), .ref qn3, .ref qn3, .int (iI j), .ref n6]) C hM (C_slice_66 (a0 := (sk 2)) (i := 0) (j := ivh14 (sk 2) 2) W22 sk11 ty172 ⟨by decide, by decide⟩ (by omega) (by show 0 ≤ (0 : Int) ∧ (0 : Int) ≤ 3000 ∧ 1 ≤ (ivh14 (sk 2) 2) - (0 : Int) ∧ (ivh14 (sk 2) 2) - (0 : Int) ≤ 4; omega)) dX11_changeIndicator_136 kV_X11_190 rfl ty172 rfl rfl (by decide) ck_2 rfl (Nat.le_of_ble_eq_true rfl) ⟨(Nat.le_of_ble_eq_true rfl), (Nat.le_of_ble_eq_true rfl)⟩ hph pl13 (show 1280 + 20 = 1300 from rfl) (by decide) (fun rh15 Lh15 clh15 lnh15 ivh15 rvh15 h15 => ?_)
                obtain ⟨f15, rfl, xl18, fl15, W23, rgf15, exf15, slnf15⟩ := h15
                have F17 := F16.call X11 fl15 rfl
                have mr20 := MRK.call mr19 W22 sk11 xl18 fl15 rfl rfl
                have tx13 := TX.xt tx12 xl17
                have kp17 := kp16.trans tx13 (KP.sl W22 fl15 (by decide) slnf15.2.1)
                have ty173 := xl17.ty ty157
                have ty174 := xl17.ty ty158
                have ty175 := xl17.ty ty159
                have ty176 := xl17.ty ty160
                have ty177 := xl17.ty ty161
                have ty178 := xl17.ty ty162
                have ty179 := xl17.ty ty163
                have ty180 := xl17.ty ty164
                have ty181 := xl17.ty ty165
                have ty182 := xl17.ty ty166
                have ty183 := xl17.ty ty167
                have ty184 := xl17.ty ty168
                have ty185 := xl17.ty ty169
                have ty186 := xl17.ty ty170
                have ty187 := xl17.ty tqn3
                have X12 := X11.trans xl18
                have sk12 := xl18.skl sk11
                refine c_st (st2 := [.ref f15, .ref f14, .int (iI j), .ref qn3, .ref qn3, .int (iI j), .ref n6]) rfl ?_
                have gf15 : lnh15 f15 = ((ivh14 (sk 2) 2) - (0 : Int)).toNat := exf15
                have ty188 := xl18.ty ty187
                have ty189 := xl18.ty rgf14
                have pl14 := Phi.le W23 sk12
                refine c_callI (As := [.int (iI j), .ref f14, .ref f15]) (rest := [.ref qn3, .int (iI j), .ref n6]) C hM (Z_row (a0 := qn3) (i := j) (a2 := f14) (a3 := f15) W23 sk12 ty188 ty189 rgf15 (by omega) ) dX11_changeIndicator_139 kI_X11_194 rfl rfl (Nat.le_of_ble_eq_true rfl) ⟨(Nat.le_of_ble_eq_true rfl), (Nat.le_of_ble_eq_true rfl)⟩ (rz1 hph pl14 (by decide)) (fun rh16 Lh16 clh16 lnh16 ivh16 rvh16 h16 => ⟨1300, (zk1 (by obtain ⟨_, _, _, e3, flh16x, Wh16x, _⟩ := h16; subst e3; exact Phi.frn sk12 flh16x rfl)), ?_⟩)
                obtain ⟨rfl, rfl, rfl, rfl, fl16, W24, exf16⟩ := h16
                have F18 := F17.call X12 fl16 rfl
                have mr21 := MRK.call mr20 W23 sk12 XT.refl fl16 rfl rfl
                have tx14 := TX.xt tx13 xl18
                have kp18 := kp17.call tx14 W23 fl16 rfl
                refine c_st (st2 := [.ref qn3, .int (iI j), .ref n6]) rfl ?_
                obtain ⟨exf16x, exf16r, exf16p, exf16i, exf16j⟩ := exf16
                have rn4 : ∀ k, ([1, 2] : List Nat).contains k = false → rvh16 qn3 k = none := fun k hk => (Eq.trans (show rvh16 qn3 k = rvh15 qn3 k from (exf16x k hk)) (Eq.trans (show rvh15 qn3 k = rvh14 qn3 k from (fl15.r ty187 rfl k)) (Eq.trans (show rvh14 qn3 k = rvn3 qn3 k from (fl14.r tqn3 rfl k)) (show rvn3 qn3 k = none from (by rw [hrn3]; exact up0_s)))))
                refine c_retag (q := qn3) (t := 20) (by rw [ty188.2]; rfl) (fun clr4 hcr4 => ?_)
                have ty190 := xl18.ty ty171
                have ty191 := ty_rt ty190 hcr4 (ne_ty ty190 ty188 (by decide))
                have ty192 := xl18.ty ty172
                have ty193 := ty_rt ty192 hcr4 (ne_ty ty192 ty188 (by decide))
                have ty194 := xl18.ty ty173
                have ty195 := ty_rt ty194 hcr4 (ne_ty ty194 ty188 (by decide))
                have ty196 := xl18.ty ty174
                have ty197 := ty_rt ty196 hcr4 (ne_ty ty196 ty188 (by decide))
                have ty198 := xl18.ty ty175
                have ty199 := ty_rt ty198 hcr4 (ne_ty ty198 ty188 (by decide))
                have ty200 := xl18.ty ty176
                have ty201 := ty_rt ty200 hcr4 (ne_ty ty200 ty188 (by decide))
                have ty202 := xl18.ty ty177
                have ty203 := ty_rt ty202 hcr4 (ne_ty ty202 ty188 (by decide))
                have ty204 := xl18.ty ty178
                have ty205 := ty_rt ty204 hcr4 (ne_ty ty204 ty188 (by decide))
                have ty206 := xl18.ty ty179
                have ty207 := ty_rt ty206 hcr4 (ne_ty ty206 ty188 (by decide))
                have ty208 := xl18.ty ty180
                have ty209 := ty_rt ty208 hcr4 (ne_ty ty208 ty188 (by decide))
                have ty210 := xl18.ty ty181
                have ty211 := ty_rt ty210 hcr4 (ne_ty ty210 ty188 (by decide))
                have ty212 := xl18.ty ty182
                have ty213 := ty_rt ty212 hcr4 (ne_ty ty212 ty188 (by decide))
                have ty214 := xl18.ty ty183
                have ty215 := ty_rt ty214 hcr4 (ne_ty ty214 ty188 (by decide))
                have ty216 := xl18.ty ty184
                have ty217 := ty_rt ty216 hcr4 (ne_ty ty216 ty188 (by decide))
                have ty218 := xl18.ty ty185
                have ty219 := ty_rt ty218 hcr4 (ne_ty ty218 ty188 (by decide))
                have ty220 := xl18.ty ty186
                have ty221 := ty_rt ty220 hcr4 (ne_ty ty220 ty188 (by decide))
                have ty222 := ty_rt ty189 hcr4 (ne_ty ty189 ty188 (by decide))
                have ty223 := ty_rt rgf15 hcr4 (ne_ty rgf15 ty188 (by decide))
                have tqr4 : ty Lh15 clr4 qn3 20 := ⟨ty188.1, by rw [hcr4, va_up_self]; rfl⟩
                have W25 := W24.retag ty188.1 (by rw [ty188.2]; rfl) hcr4 (fun k => by
                      rcases k with _ | _ | _ | _ | k
                      · exact W24.int ty188 0
                      · exact W24.int ty188 1
                      · exact W24.int ty188 2
                      · exact ⟨(by show 0 ≤ ivh16 qn3 3; omega), (by show ivh16 qn3 3 ≤ 5; omega)⟩
                      · exact W24.int ty188 (k + 4)) (fun k => by
                      rcases k with _ | _ | _ | _ | k
                      · rw [rn4 0 (by decide)]; exact rok_none tqr4 rfl
                      · rw [exf16r]; exact rok_some tqr4 ty222 rfl (by decide) rfl
                      · rw [exf16p]; exact rok_some tqr4 ty223 rfl (by decide) rfl
                      · rw [rn4 3 (by decide)]; exact rok_none tqr4 rfl
                      · rw [rn4 (k + 4) (by simp)]; exact rok_none tqr4 rfl) rfl (fun z => by cases z) (fun z => by cases z) rfl
                have X13 := X12.rt hcr4 h0qn3
                have sk13 := sk12.rt hcr4 (by rw [ty188.2]; rfl)
                have mr22 := MRK.rt mr21 W24 sk12 hcr4 (by rw [ty188.2]; rfl)
                have on10 := fun b hb => xl15.ty (on9 b hb)
                have on11 := fun b hb => xl16.ty (on10 b hb)
                have on12 := fun b hb => xl17.ty (on11 b hb)
                have on13 := fun b hb => xl18.ty (on12 b hb)
                have on14 := fun b hb => ty_rt (on13 b hb) hcr4 (ne_ty (on13 b hb) ty188 (by decide))
                have ll4 : 4 ≤ lnh15 n6 ∧ lnh15 n6 ≤ 4 := W25.len ty217 rfl
                refine c_aastR (z := j) C ck_6 dX11_changeIndicator_142 ty217 rfl tqr4 rfl rfl (by decide) (by omega) (by omega) (by omega) (fun rv3 pq3 => ⟨1300, (by rw [Phi.putr sk13 pq3 ty217 rfl]; exact Nat.le_refl _), ?_⟩)
                have W26 := W25.putr pq3 ty217 (rok_some ty217 tqr4 rfl (by decide) rfl) rfl (by decide)
                have F19 := F18.putr X13 pq3 ty217 rfl
                have mr23 := MRK.putr mr22 W25 sk13 pq3 ty217 (by decide) (by decide)
                have tx15 := TX.rt tx14 hcr4 ty188 rfl
                have kp19 := kp18.putrI tx15 W25 pq3 ty217 ⟨rfl, rfl⟩
                refine c_aload_n (j := 1) (x := a0) C dX11_changeIndicator_143 rfl ?_
                refine c_aload_n (j := 1) (x := a0) C dX11_changeIndicator_144 rfl ?_
                have re32 : rvh15 a0 0 = rvh14 a0 0 := (fl15.r ty171 rfl 0)
                rw [re31] at re32
                have re33 : rvh16 a0 0 = rvh15 a0 0 := (fl16.r ty190 rfl 0)
                rw [re32] at re33
                have re34 : rv3 a0 0 = rvh16 a0 0 := (by rw [pq3]; exact congrFun (upr_a (ne_ty ty191 ty217 (by decide))) _)
                rw [re33] at re34
                refine c_getr (k := 0) C ck_12 dX11_changeIndicator_145 w2_44 (by decide) ty191 rfl rfl (by decide) rfl re34 ?_
                refine c_st (st2 := [.ref (sk 2), .ref a0]) rfl ?_
                have ri64 : 0 ≤ ivh16 (sk 2) 2 ∧ ivh16 (sk 2) 2 ≤ 3000 := W26.int ty193 2
                have ie137 : ivh16 (sk 2) 2 = ivh15 (sk 2) 2 := fl16.i ty192 rfl 2
                have ie138 : ivh15 (sk 2) 2 = ivh14 (sk 2) 2 := fl15.i ty172 rfl 2
                refine c_get (k := 2) C ck_2 dX11_changeIndicator_148 w1_44 (by decide) ty193 rfl rfl (by decide) rfl ?_
                have pl15 := Phi.le W26 sk13
                refine d_callV (As := [.int (iI (ivh16 (sk 2) 2))]) (rest := []) C hM (C_done (a0 := a0) (x := ivh16 (sk 2) 2) W26 sk13 ty191 (by omega) ) dX11_changeIndicator_151 kV_X11_109 rfl ty191 rfl rfl (by decide) ck_12 rfl (Nat.le_of_ble_eq_true rfl) ⟨(Nat.le_of_ble_eq_true rfl), (Nat.le_of_ble_eq_true rfl)⟩ hph pl15 (show 1300 + 0 = 1300 from rfl) (by decide) (fun rh17 Lh17 clh17 lnh17 ivh17 rvh17 h17 => ?_)
                obtain ⟨f17, rfl, rfl, rfl, rfl, rfl, fl17, W27, rgf17, exf17, kp11f17, kp12f17, kp13f17, kp14f17, kp15f17, kp16f17⟩ := h17
                have ri65 : 1 ≤ ivh16 a0 11 ∧ ivh16 a0 11 ≤ 100 := W26.int ty191 11
                have ie139 : ivh16 a0 11 = ivh15 a0 11 := fl16.i ty190 rfl 11
                have ie140 : ivh15 a0 11 = ivh14 a0 11 := fl15.i ty171 rfl 11
                have ie141 : ivh14 a0 11 = ivn3 a0 11 := fl14.i ty155 rfl 11
                have ie142 : ivn3 a0 11 = ivh13 a0 11 := by rw [hin3]; exact congrFun (up0_a (ne_in ty141.1 hqn3)) _
                have ie143 : ivh13 a0 11 = ivh12 a0 11 := fl13.i ty113 rfl 11
                have ie144 : ivh12 a0 11 = ivn1 a0 11 := fl12.i ty112 rfl 11
                have ie145 : ivn1 a0 11 = iv a0 11 := by rw [hin1]; exact congrFun (up0_a (ne_in t_a0.1 hqn1)) _
                have ri66 : 1 ≤ ivh16 a0 12 ∧ ivh16 a0 12 ≤ 50 := W26.int ty191 12
                have ie146 : ivh16 a0 12 = ivh15 a0 12 := fl16.i ty190 rfl 12
                have ie147 : ivh15 a0 12 = ivh14 a0 12 := fl15.i ty171 rfl 12
                have ie148 : ivh14 a0 12 = ivn3 a0 12 := fl14.i ty155 rfl 12
                have ie149 : ivn3 a0 12 = ivh13 a0 12 := by rw [hin3]; exact congrFun (up0_a (ne_in ty141.1 hqn3)) _
                have ie150 : ivh13 a0 12 = ivh12 a0 12 := fl13.i ty113 rfl 12
                have ie151 : ivh12 a0 12 = ivn1 a0 12 := fl12.i ty112 rfl 12
                have ie152 : ivn1 a0 12 = iv a0 12 := by rw [hin1]; exact congrFun (up0_a (ne_in t_a0.1 hqn1)) _
                have ri67 : (-2147483648) ≤ ivh16 a0 13 ∧ ivh16 a0 13 ≤ 2147483647 := W26.int ty191 13
                have ie153 : ivh16 a0 13 = ivh15 a0 13 := fl16.i ty190 rfl 13
                have ie154 : ivh15 a0 13 = ivh14 a0 13 := fl15.i ty171 rfl 13
                have ie155 : ivh14 a0 13 = ivn3 a0 13 := fl14.i ty155 rfl 13
                have ie156 : ivn3 a0 13 = ivh13 a0 13 := by rw [hin3]; exact congrFun (up0_a (ne_in ty141.1 hqn3)) _
                have ie157 : ivh13 a0 13 = ivh12 a0 13 := fl13.i ty113 rfl 13
                have ie158 : ivh12 a0 13 = ivn1 a0 13 := fl12.i ty112 rfl 13
                have ie159 : ivn1 a0 13 = iv a0 13 := by rw [hin1]; exact congrFun (up0_a (ne_in t_a0.1 hqn1)) _
                have ri68 : (-2147483648) ≤ ivh16 a0 14 ∧ ivh16 a0 14 ≤ 2147483647 := W26.int ty191 14
                have ie160 : ivh16 a0 14 = ivh15 a0 14 := fl16.i ty190 rfl 14
                have ie161 : ivh15 a0 14 = ivh14 a0 14 := fl15.i ty171 rfl 14
                have ie162 : ivh14 a0 14 = ivn3 a0 14 := fl14.i ty155 rfl 14
                have ie163 : ivn3 a0 14 = ivh13 a0 14 := by rw [hin3]; exact congrFun (up0_a (ne_in ty141.1 hqn3)) _
                have ie164 : ivh13 a0 14 = ivh12 a0 14 := fl13.i ty113 rfl 14
                have ie165 : ivh12 a0 14 = ivn1 a0 14 := fl12.i ty112 rfl 14
                have ie166 : ivn1 a0 14 = iv a0 14 := by rw [hin1]; exact congrFun (up0_a (ne_in t_a0.1 hqn1)) _
                have ri69 : (-2147483648) ≤ ivh16 a0 15 ∧ ivh16 a0 15 ≤ 2147483647 := W26.int ty191 15
                have ie167 : ivh16 a0 15 = ivh15 a0 15 := fl16.i ty190 rfl 15
                have ie168 : ivh15 a0 15 = ivh14 a0 15 := fl15.i ty171 rfl 15
                have ie169 : ivh14 a0 15 = ivn3 a0 15 := fl14.i ty155 rfl 15
                have ie170 : ivn3 a0 15 = ivh13 a0 15 := by rw [hin3]; exact congrFun (up0_a (ne_in ty141.1 hqn3)) _
                have ie171 : ivh13 a0 15 = ivh12 a0 15 := fl13.i ty113 rfl 15
                have ie172 : ivh12 a0 15 = ivn1 a0 15 := fl12.i ty112 rfl 15
                have ie173 : ivn1 a0 15 = iv a0 15 := by rw [hin1]; exact congrFun (up0_a (ne_in t_a0.1 hqn1)) _
                have ri70 : (-2147483648) ≤ ivh16 a0 16 ∧ ivh16 a0 16 ≤ 2147483647 := W26.int ty191 16
                have ie174 : ivh16 a0 16 = ivh15 a0 16 := fl16.i ty190 rfl 16
                have ie175 : ivh15 a0 16 = ivh14 a0 16 := fl15.i ty171 rfl 16
                have ie176 : ivh14 a0 16 = ivn3 a0 16 := fl14.i ty155 rfl 16
                have ie177 : ivn3 a0 16 = ivh13 a0 16 := by rw [hin3]; exact congrFun (up0_a (ne_in ty141.1 hqn3)) _
                have ie178 : ivh13 a0 16 = ivh12 a0 16 := fl13.i ty113 rfl 16
                have ie179 : ivh12 a0 16 = ivn1 a0 16 := fl12.i ty112 rfl 16
                have ie180 : ivn1 a0 16 = iv a0 16 := by rw [hin1]; exact congrFun (up0_a (ne_in t_a0.1 hqn1)) _
                have F20 := F19.call X13 fl17 rfl
                have mr24 := MRK.call mr23 W26 sk13 XT.refl fl17 rfl rfl
                have kp20 := kp19.call tx15 W26 fl17 rfl
                refine c_st (st2 := [.int (iI f17)]) rfl ?_
                have gk11f17 : ivh17 a0 11 = ivh16 a0 11 := kp11f17
                have gk12f17 : ivh17 a0 12 = ivh16 a0 12 := kp12f17
                have gk13f17 : ivh17 a0 13 = ivh16 a0 13 := kp13f17
                have gk14f17 : ivh17 a0 14 = ivh16 a0 14 := kp14f17
                have gk15f17 : ivh17 a0 15 = ivh16 a0 15 := kp15f17
                have gk16f17 : ivh17 a0 16 = ivh16 a0 16 := kp16f17
                have gf17 : f17 = (ivh16 (sk 2) 2) := exf17
                have ri71 : 1 ≤ ivh17 a0 11 ∧ ivh17 a0 11 ≤ 100 := W27.int ty191 11
                have ri72 : 1 ≤ ivh17 a0 12 ∧ ivh17 a0 12 ≤ 50 := W27.int ty191 12
                have ri73 : (-2147483648) ≤ ivh17 a0 13 ∧ ivh17 a0 13 ≤ 2147483647 := W27.int ty191 13
                have ri74 : (-2147483648) ≤ ivh17 a0 14 ∧ ivh17 a0 14 ≤ 2147483647 := W27.int ty191 14
                have ri75 : (-2147483648) ≤ ivh17 a0 15 ∧ ivh17 a0 15 ≤ 2147483647 := W27.int ty191 15
                have ri76 : (-2147483648) ≤ ivh17 a0 16 ∧ ivh17 a0 16 ≤ 2147483647 := W27.int ty191 16
                have ri77 : 0 ≤ ivh17 (sk 23) 2 ∧ ivh17 (sk 23) 2 ≤ 512 := W27.int ty213 2
                have ie187 : ivh17 (sk 23) 2 = ivh16 (sk 23) 2 := fl17.i ty213 rfl 2
                have ie188 : ivh16 (sk 23) 2 = ivh15 (sk 23) 2 := fl16.i ty212 rfl 2
                have ie189 : ivh15 (sk 23) 2 = ivh14 (sk 23) 2 := fl15.i ty182 rfl 2
                have ie190 : ivh14 (sk 23) 2 = ivn3 (sk 23) 2 := fl14.i ty166 rfl 2
                have ie191 : ivn3 (sk 23) 2 = ivh13 (sk 23) 2 := by rw [hin3]; exact congrFun (up0_a (ne_in ty139.1 hqn3)) _
                have ri78 : 0 ≤ ivh17 (sk 22) 2 ∧ ivh17 (sk 22) 2 ≤ 30 := W27.int ty211 2
                have ie192 : ivh17 (sk 22) 2 = ivh16 (sk 22) 2 := fl17.i ty211 rfl 2
                have ie193 : ivh16 (sk 22) 2 = ivh15 (sk 22) 2 := fl16.i ty210 rfl 2
                have ie194 : ivh15 (sk 22) 2 = ivh14 (sk 22) 2 := fl15.i ty181 rfl 2
                have ie195 : ivh14 (sk 22) 2 = ivn3 (sk 22) 2 := fl14.i ty165 rfl 2
                have ie196 : ivn3 (sk 22) 2 = ivh13 (sk 22) 2 := by rw [hin3]; exact congrFun (up0_a (ne_in ty151.1 hqn3)) _
                have ie197 : ivh13 (sk 22) 2 = ivh12 (sk 22) 2 := fl13.i ty133 rfl 2
                have ie198 : ivh12 (sk 22) 2 = ivn1 (sk 22) 2 := fl12.i ty132 rfl 2
                have ie199 : ivn1 (sk 22) 2 = iv (sk 22) 2 := by rw [hin1]; exact congrFun (up0_a (ne_in tsk22.1 hqn1)) _
                have ri79 : 0 ≤ ivh17 (sk 2) 2 ∧ ivh17 (sk 2) 2 ≤ 3000 := W27.int ty193 2
                have ie200 : ivh17 (sk 2) 2 = ivh16 (sk 2) 2 := fl17.i ty193 rfl 2
                have ri80 : (-2147483648) ≤ ivh17 qn1 0 ∧ ivh17 qn1 0 ≤ 2147483647 := W27.int ty219 0
                have ie201 : ivh17 qn1 0 = ivh16 qn1 0 := fl17.i ty219 rfl 0
                have ie202 : ivh16 qn1 0 = ivh15 qn1 0 := fl16.i ty218 rfl 0
                have ie203 : ivh15 qn1 0 = ivh14 qn1 0 := fl15.i ty185 rfl 0
                have ie204 : ivh14 qn1 0 = ivn3 qn1 0 := fl14.i ty169 rfl 0
                have ie205 : ivn3 qn1 0 = ivh13 qn1 0 := by rw [hin3]; exact congrFun (up0_a (ne_in ty153.1 hqn3)) _
                have ie206 : ivh13 qn1 0 = ivh12 qn1 0 := fl13.i tqr3 rfl 0
                have re35 : rvh13 qn1 1 = rvh12 qn1 1 := (fl13.r tqr3 rfl 1)
                rw [exf12r] at re35
                have re36 : rvn3 qn1 1 = rvh13 qn1 1 := (by rw [hrn3]; exact congrFun (up0_a (ne_in ty153.1 hqn3)) _)
                rw [re35] at re36
                have re37 : rvh14 qn1 1 = rvn3 qn1 1 := (fl14.r ty169 rfl 1)
                rw [re36] at re37
                have re38 : rvh15 qn1 1 = rvh14 qn1 1 := (fl15.r ty185 rfl 1)
                rw [re37] at re38
                have re39 : rvh16 qn1 1 = rvh15 qn1 1 := (fl16.r ty218 rfl 1)
                rw [re38] at re39
                have re40 : rv3 qn1 1 = rvh16 qn1 1 := (by rw [pq3]; exact congrFun (upr_a (ne_ty ty219 ty217 (by decide))) _)
                rw [re39] at re40
                have re41 : rvh13 qn1 2 = rvh12 qn1 2 := (fl13.r tqr3 rfl 2)
                rw [exf12p] at re41
                have re42 : rvn3 qn1 2 = rvh13 qn1 2 := (by rw [hrn3]; exact congrFun (up0_a (ne_in ty153.1 hqn3)) _)
                rw [re41] at re42
                have re43 : rvh14 qn1 2 = rvn3 qn1 2 := (fl14.r ty169 rfl 2)
                rw [re42] at re43
                have re44 : rvh15 qn1 2 = rvh14 qn1 2 := (fl15.r ty185 rfl 2)
                rw [re43] at re44
                have re45 : rvh16 qn1 2 = rvh15 qn1 2 := (fl16.r ty218 rfl 2)
                rw [re44] at re45
                have re46 : rv3 qn1 2 = rvh16 qn1 2 := (by rw [pq3]; exact congrFun (upr_a (ne_ty ty219 ty217 (by decide))) _)
                rw [re45] at re46
                have ri81 : 0 ≤ ivh17 qn1 3 ∧ ivh17 qn1 3 ≤ 5 := W27.int ty219 3
                have ie207 : ivh17 qn1 3 = ivh16 qn1 3 := fl17.i ty219 rfl 3
                have ie208 : ivh16 qn1 3 = ivh15 qn1 3 := fl16.i ty218 rfl 3
                have ie209 : ivh15 qn1 3 = ivh14 qn1 3 := fl15.i ty185 rfl 3
                have ie210 : ivh14 qn1 3 = ivn3 qn1 3 := fl14.i ty169 rfl 3
                have ie211 : ivn3 qn1 3 = ivh13 qn1 3 := by rw [hin3]; exact congrFun (up0_a (ne_in ty153.1 hqn3)) _
                have ie212 : ivh13 qn1 3 = ivh12 qn1 3 := fl13.i tqr3 rfl 3
                have rp3 : rv3 n6 j.toNat = (some qn3) := by rw [pq3]; exact upr_s
                have ri82 : (-2147483648) ≤ ivh17 qn3 0 ∧ ivh17 qn3 0 ≤ 2147483647 := W27.int tqr4 0
                have ie213 : ivh17 qn3 0 = ivh16 qn3 0 := fl17.i tqr4 rfl 0
                have re47 : rv3 qn3 1 = rvh16 qn3 1 := (by rw [pq3]; exact congrFun (upr_a (ne_ty tqr4 ty217 (by decide))) _)
                rw [exf16r] at re47
                have le2 : lnh15 f14 = lnh14 f14 := (xl18 f14 rgf14.1).2.2
                have re48 : rv3 qn3 2 = rvh16 qn3 2 := (by rw [pq3]; exact congrFun (upr_a (ne_ty tqr4 ty217 (by decide))) _)
                rw [exf16p] at re48
                exact c_iret C dX11_changeIndicator_154 rfl (by decide) (rom0 hph pl15 (by decide)) ⟨f17, rfl, X13, F20, W27, ⟨by omega, by omega⟩, ⟨(by omega), mr24⟩, (by omega), (by omega), (by omega), (by omega), (by omega), (by omega), (Or.inr ⟨by omega, ob1, akob1.2, (fun ss hs hd => by
                    have e2 := irxf4 ss hs (by omega) hd
                    have e3 := e2.mp (by omega)
                    rw [Int.sub_zero] at e3
                    exact ⟨⟨by omega, by omega, gf3.mp (by omega), by omega⟩, e3.2⟩), by omega, ⟨(fun i hi => el_fr hW (tysk22 hS) rfl rfl F20 rfl rfl hi), TSF.of hW hS (fun bb tbb hbb => by have tb1 := xl5.ty tbb; have tb2 := ty_rt tb1 hcr3 (ne_ty tb1 tqn1 (by decide)); have tb3 := xl15.ty tb2; have tb4 := xl16.ty tb3; have tb5 := xl17.ty tb4; have tb6 := xl18.ty tb5; have tb7 := ty_rt tb6 hcr4 (ne_ty tb6 ty188 (by decide)); exact (Eq.trans (show ivh17 bb 7 = ivh16 bb 7 from (fl17.i tb7 rfl 7)) (Eq.trans (show ivh16 bb 7 = ivh15 bb 7 from (fl16.i tb6 rfl 7)) (Eq.trans (show ivh15 bb 7 = ivh14 bb 7 from (fl15.i tb5 rfl 7)) (Eq.trans (show ivh14 bb 7 = ivn3 bb 7 from (fl14.i tb4 rfl 7)) (Eq.trans (show ivn3 bb 7 = ivh13 bb 7 from (by rw [hin3]; exact congrFun (up0_a (ne_in tb3.1 hqn3)) _)) (Eq.trans (show ivh13 bb 7 = ivh12 bb 7 from (fl13.i tb2 rfl 7)) (Eq.trans (show ivh12 bb 7 = ivn1 bb 7 from (fl12.i tb1 rfl 7)) (show ivn1 bb 7 = iv bb 7 from (by rw [hin1]; exact congrFun (up0_a (ne_in tbb.1 hqn1)) _)))))))))) (fun bb tbb => by have tb1 := xl5.ty tbb; have tb2 := ty_rt tb1 hcr3 (ne_ty tb1 tqn1 (by decide)); have tb3 := xl15.ty tb2; have tb4 := xl16.ty tb3; have tb5 := xl17.ty tb4; have tb6 := xl18.ty tb5; have tb7 := ty_rt tb6 hcr4 (ne_ty tb6 ty188 (by decide)); exact (Eq.trans (show ivh17 bb 0 = ivh16 bb 0 from (fl17.i tb7 rfl 0)) (Eq.trans (show ivh16 bb 0 = ivh15 bb 0 from (fl16.i tb6 rfl 0)) (Eq.trans (show ivh15 bb 0 = ivh14 bb 0 from (fl15.i tb5 rfl 0)) (Eq.trans (show ivh14 bb 0 = ivn3 bb 0 from (fl14.i tb4 rfl 0)) (Eq.trans (show ivn3 bb 0 = ivh13 bb 0 from (by rw [hin3]; exact congrFun (up0_a (ne_in tb3.1 hqn3)) _)) (Eq.trans (show ivh13 bb 0 = ivh12 bb 0 from (fl13.i tb2 rfl 0)) (Eq.trans (show ivh12 bb 0 = ivn1 bb 0 from (fl12.i tb1 rfl 0)) (show ivn1 bb 0 = iv bb 0 from (by rw [hin1]; exact congrFun (up0_a (ne_in tbb.1 hqn1)) _)))))))))) (fun bb tbb => by have tb1 := xl5.ty tbb; have tb2 := ty_rt tb1 hcr3 (ne_ty tb1 tqn1 (by decide)); have tb3 := xl15.ty tb2; have tb4 := xl16.ty tb3; have tb5 := xl17.ty tb4; have tb6 := xl18.ty tb5; have tb7 := ty_rt tb6 hcr4 (ne_ty tb6 ty188 (by decide)); exact (Eq.trans (show ivh17 bb 1 = ivh16 bb 1 from (fl17.i tb7 rfl 1)) (Eq.trans (show ivh16 bb 1 = ivh15 bb 1 from (fl16.i tb6 rfl 1)) (Eq.trans (show ivh15 bb 1 = ivh14 bb 1 from (fl15.i tb5 rfl 1)) (Eq.trans (show ivh14 bb 1 = ivn3 bb 1 from (fl14.i tb4 rfl 1)) (Eq.trans (show ivn3 bb 1 = ivh13 bb 1 from (by rw [hin3]; exact congrFun (up0_a (ne_in tb3.1 hqn3)) _)) (Eq.trans (show ivh13 bb 1 = ivh12 bb 1 from (fl13.i tb2 rfl 1)) (Eq.trans (show ivh12 bb 1 = ivn1 bb 1 from (fl12.i tb1 rfl 1)) (show ivn1 bb 1 = iv bb 1 from (by rw [hin1]; exact congrFun (up0_a (ne_in tbb.1 hqn1)) _)))))))))) (fun bb tbb => by have tb1 := xl5.ty tbb; have tb2 := ty_rt tb1 hcr3 (ne_ty tb1 tqn1 (by decide)); have tb3 := xl15.ty tb2; have tb4 := xl16.ty tb3; have tb5 := xl17.ty tb4; have tb6 := xl18.ty tb5; have tb7 := ty_rt tb6 hcr4 (ne_ty tb6 ty188 (by decide)); exact (Eq.trans (show rv3 bb 4 = rvh16 bb 4 from (by rw [pq3]; exact congrFun (upr_a (ne_ty tb7 ty217 (by decide))) _)) (Eq.trans (show rvh16 bb 4 = rvh15 bb 4 from (fl16.r tb6 rfl 4)) (Eq.trans (show rvh15 bb 4 = rvh14 bb 4 from (fl15.r tb5 rfl 4)) (Eq.trans (show rvh14 bb 4 = rvn3 bb 4 from (fl14.r tb4 rfl 4)) (Eq.trans (show rvn3 bb 4 = rvh13 bb 4 from (by rw [hrn3]; exact congrFun (up0_a (ne_in tb3.1 hqn3)) _)) (Eq.trans (show rvh13 bb 4 = rvh12 bb 4 from (fl13.r tb2 rfl 4)) (Eq.trans (show rvh12 bb 4 = rvn1 bb 4 from (fl12.r tb1 rfl 4)) (show rvn1 bb 4 = rv bb 4 from (by rw [hrn1]; exact congrFun (up0_a (ne_in tbb.1 hqn1)) _)))))))))), TSQ.of hW hS (fun bb tbb hbb => by have tb1 := xl5.ty tbb; have tb2 := ty_rt tb1 hcr3 (ne_ty tb1 tqn1 (by decide)); have tb3 := xl15.ty tb2; have tb4 := xl16.ty tb3; have tb5 := xl17.ty tb4; have tb6 := xl18.ty tb5; have tb7 := ty_rt tb6 hcr4 (ne_ty tb6 ty188 (by decide)); exact (Eq.trans (show ivh17 bb 2 = ivh16 bb 2 from (fl17.i tb7 rfl 2)) (Eq.trans (show ivh16 bb 2 = ivh15 bb 2 from (fl16.i tb6 rfl 2)) (Eq.trans (show ivh15 bb 2 = ivh14 bb 2 from (fl15.i tb5 rfl 2)) (Eq.trans (show ivh14 bb 2 = ivn3 bb 2 from (fl14.i tb4 rfl 2)) (Eq.trans (show ivn3 bb 2 = ivh13 bb 2 from (by rw [hin3]; exact congrFun (up0_a (ne_in tb3.1 hqn3)) _)) (Eq.trans (show ivh13 bb 2 = ivh12 bb 2 from (fl13.i tb2 rfl 2)) (Eq.trans (show ivh12 bb 2 = ivn1 bb 2 from (fl12.i tb1 rfl 2)) (show ivn1 bb 2 = iv bb 2 from (by rw [hin1]; exact congrFun (up0_a (ne_in tbb.1 hqn1)) _))))))))))⟩, ⟨(by omega), CS0.of hW hS (Int.le_refl _) (fun i hi => ((fun i hi => el_ch W20 (tysk23 sk9) rfl rfl ((show ∀ bb, ty Lh13 clh13 bb 23 → rv3 bb 1 = rvh13 bb 1 from fun bb tbb => by have tb4 := xl16.ty tbb; have tb5 := xl17.ty tb4; have tb6 := xl18.ty tb5; have tb7 := ty_rt tb6 hcr4 (ne_ty tb6 ty188 (by decide)); exact (Eq.trans (show rv3 bb 1 = rvh16 bb 1 from (by rw [pq3]; exact congrFun (upr_a (ne_ty tb7 ty217 (by decide))) _)) (Eq.trans (show rvh16 bb 1 = rvh15 bb 1 from (fl16.r tb6 rfl 1)) (Eq.trans (show rvh15 bb 1 = rvh14 bb 1 from (fl15.r tb5 rfl 1)) (Eq.trans (show rvh14 bb 1 = rvn3 bb 1 from (fl14.r tb4 rfl 1)) (show rvn3 bb 1 = rvh13 bb 1 from (by rw [hrn3]; exact congrFun (up0_a (ne_in tbb.1 hqn3)) _))))))) (sk 23) (tysk23 sk9)) (fun bb tbb kk => by have tb4 := xl16.ty tbb; have tb5 := xl17.ty tb4; have tb6 := xl18.ty tb5; have tb7 := ty_rt tb6 hcr4 (ne_ty tb6 ty188 (by decide)); exact (Eq.trans (show rv3 bb kk = rvh16 bb kk from (by rw [pq3]; exact congrFun (upr_a (ne_ty tb7 ty217 (by decide))) _)) (Eq.trans (show rvh16 bb kk = rvh15 bb kk from (fl16.r tb6 rfl kk)) (Eq.trans (show rvh15 bb kk = rvh14 bb kk from (fl15.r tb5 rfl kk)) (Eq.trans (show rvh14 bb kk = rvn3 bb kk from (fl14.r tb4 rfl kk)) (show rvn3 bb kk = rvh13 bb kk from (by rw [hrn3]; exact congrFun (up0_a (ne_in tbb.1 hqn3)) _))))))) hi) i (by omega)).trans ((rmef13.2 i (by omega)).trans (ce2 i hi))) (fun bb tbb => by have tb1 := xl5.ty tbb; have tb2 := ty_rt tb1 hcr3 (ne_ty tb1 tqn1 (by decide)); have tb3 := xl15.ty tb2; have tb4 := xl16.ty tb3; have tb5 := xl17.ty tb4; have tb6 := xl18.ty tb5; have tb7 := ty_rt tb6 hcr4 (ne_ty tb6 ty188 (by decide)); exact (Eq.trans (show ivh17 bb 0 = ivh16 bb 0 from (fl17.i tb7 rfl 0)) (Eq.trans (show ivh16 bb 0 = ivh15 bb 0 from (fl16.i tb6 rfl 0)) (Eq.trans (show ivh15 bb 0 = ivh14 bb 0 from (fl15.i tb5 rfl 0)) (Eq.trans (show ivh14 bb 0 = ivn3 bb 0 from (fl14.i tb4 rfl 0)) (Eq.trans (show ivn3 bb 0 = ivh13 bb 0 from (by rw [hin3]; exact congrFun (up0_a (ne_in tb3.1 hqn3)) _)) (Eq.trans (show ivh13 bb 0 = ivh12 bb 0 from (fl13.i tb2 rfl 0)) (Eq.trans (show ivh12 bb 0 = ivn1 bb 0 from (fl12.i tb1 rfl 0)) (show ivn1 bb 0 = iv bb 0 from (by rw [hin1]; exact congrFun (up0_a (ne_in tbb.1 hqn1)) _)))))))))) (fun bb tbb => by have tb1 := xl5.ty tbb; have tb2 := ty_rt tb1 hcr3 (ne_ty tb1 tqn1 (by decide)); have tb3 := xl15.ty tb2; have tb4 := xl16.ty tb3; have tb5 := xl17.ty tb4; have tb6 := xl18.ty tb5; have tb7 := ty_rt tb6 hcr4 (ne_ty tb6 ty188 (by decide)); exact (Eq.trans (show rv3 bb 1 = rvh16 bb 1 from (by rw [pq3]; exact congrFun (upr_a (ne_ty tb7 ty217 (by decide))) _)) (Eq.trans (show rvh16 bb 1 = rvh15 bb 1 from (fl16.r tb6 rfl 1)) (Eq.trans (show rvh15 bb 1 = rvh14 bb 1 from (fl15.r tb5 rfl 1)) (Eq.trans (show rvh14 bb 1 = rvn3 bb 1 from (fl14.r tb4 rfl 1)) (Eq.trans (show rvn3 bb 1 = rvh13 bb 1 from (by rw [hrn3]; exact congrFun (up0_a (ne_in tb3.1 hqn3)) _)) (Eq.trans (show rvh13 bb 1 = rvh12 bb 1 from (fl13.r tb2 rfl 1)) (Eq.trans (show rvh12 bb 1 = rvn1 bb 1 from (fl12.r tb1 rfl 1)) (show rvn1 bb 1 = rv bb 1 from (by rw [hrn1]; exact congrFun (up0_a (ne_in tbb.1 hqn1)) _)))))))))), ⟨qn1, (by rw [show (iv (sk 23) 2).toNat = (ivh12 (sk 23) 2).toNat from congrArg Int.toNat (by omega)]; exact ((fun i hi => el_ch W20 (tysk23 sk9) rfl rfl ((show ∀ bb, ty Lh13 clh13 bb 23 → rv3 bb 1 = rvh13 bb 1 from fun bb tbb => by have tb4 := xl16.ty tbb; have tb5 := xl17.ty tb4; have tb6 := xl18.ty tb5; have tb7 := ty_rt tb6 hcr4 (ne_ty tb6 ty188 (by decide)); exact (Eq.trans (show rv3 bb 1 = rvh16 bb 1 from (by rw [pq3]; exact congrFun (upr_a (ne_ty tb7 ty217 (by decide))) _)) (Eq.trans (show rvh16 bb 1 = rvh15 bb 1 from (fl16.r tb6 rfl 1)) (Eq.trans (show rvh15 bb 1 = rvh14 bb 1 from (fl15.r tb5 rfl 1)) (Eq.trans (show rvh14 bb 1 = rvn3 bb 1 from (fl14.r tb4 rfl 1)) (show rvn3 bb 1 = rvh13 bb 1 from (by rw [hrn3]; exact congrFun (up0_a (ne_in tbb.1 hqn3)) _))))))) (sk 23) (tysk23 sk9)) (fun bb tbb kk => by have tb4 := xl16.ty tbb; have tb5 := xl17.ty tb4; have tb6 := xl18.ty tb5; have tb7 := ty_rt tb6 hcr4 (ne_ty tb6 ty188 (by decide)); exact (Eq.trans (show rv3 bb kk = rvh16 bb kk from (by rw [pq3]; exact congrFun (upr_a (ne_ty tb7 ty217 (by decide))) _)) (Eq.trans (show rvh16 bb kk = rvh15 bb kk from (fl16.r tb6 rfl kk)) (Eq.trans (show rvh15 bb kk = rvh14 bb kk from (fl15.r tb5 rfl kk)) (Eq.trans (show rvh14 bb kk = rvn3 bb kk from (fl14.r tb4 rfl kk)) (show rvn3 bb kk = rvh13 bb kk from (by rw [hrn3]; exact congrFun (up0_a (ne_in tbb.1 hqn3)) _))))))) hi) _ (by omega)).trans rmef13.1), (by omega), re40⟩⟩⟩), (Or.inr ⟨ob1, n6, ⟨akob1.2, hn6, by omega⟩, kp20, Or.inr ⟨qn3, f15, rp3, ⟨tqr4, ⟨by omega, f14, re47, by omega⟩, re48⟩, ty223, by omega, by omega, (fun ss hs kk hk => Eq.trans ((show ∀ bb, ty Lh15 clh15 bb 66 → ivh17 bb kk = ivh15 bb kk from fun bb tbb => by have tb7 := ty_rt tbb hcr4 (ne_ty tbb ty188 (by decide)); exact (Eq.trans (show ivh17 bb kk = ivh16 bb kk from (fl17.i tb7 rfl kk)) (show ivh16 bb kk = ivh15 bb kk from (fl16.i tbb rfl kk)))) f15 rgf15) (Eq.trans (slnf15.2.2 ss (CT.fr hs hW tsk2 F16 rfl rfl rfl rfl rfl) (by omega) kk (by omega)) (congrArg ss (by omega))))⟩, ⟨(by omega), qn1, (by rw [show (iv (sk 23) 2).toNat = (ivh12 (sk 23) 2).toNat from congrArg Int.toNat (by omega)]; exact ((fun i hi => el_ch W20 (tysk23 sk9) rfl rfl ((show ∀ bb, ty Lh13 clh13 bb 23 → rv3 bb 1 = rvh13 bb 1 from fun bb tbb => by have tb4 := xl16.ty tbb; have tb5 := xl17.ty tb4; have tb6 := xl18.ty tb5; have tb7 := ty_rt tb6 hcr4 (ne_ty tb6 ty188 (by decide)); exact (Eq.trans (show rv3 bb 1 = rvh16 bb 1 from (by rw [pq3]; exact congrFun (upr_a (ne_ty tb7 ty217 (by decide))) _)) (Eq.trans (show rvh16 bb 1 = rvh15 bb 1 from (fl16.r tb6 rfl 1)) (Eq.trans (show rvh15 bb 1 = rvh14 bb 1 from (fl15.r tb5 rfl 1)) (Eq.trans (show rvh14 bb 1 = rvn3 bb 1 from (fl14.r tb4 rfl 1)) (show rvn3 bb 1 = rvh13 bb 1 from (by rw [hrn3]; exact congrFun (up0_a (ne_in tbb.1 hqn3)) _))))))) (sk 23) (tysk23 sk9)) (fun bb tbb kk => by have tb4 := xl16.ty tbb; have tb5 := xl17.ty tb4; have tb6 := xl18.ty tb5; have tb7 := ty_rt tb6 hcr4 (ne_ty tb6 ty188 (by decide)); exact (Eq.trans (show rv3 bb kk = rvh16 bb kk from (by rw [pq3]; exact congrFun (upr_a (ne_ty tb7 ty217 (by decide))) _)) (Eq.trans (show rvh16 bb kk = rvh15 bb kk from (fl16.r tb6 rfl kk)) (Eq.trans (show rvh15 bb kk = rvh14 bb kk from (fl15.r tb5 rfl kk)) (Eq.trans (show rvh14 bb kk = rvn3 bb kk from (fl14.r tb4 rfl kk)) (show rvn3 bb kk = rvh13 bb kk from (by rw [hrn3]; exact congrFun (up0_a (ne_in tbb.1 hqn3)) _))))))) hi) _ (by omega)).trans rmef13.1), re40, (Eq.trans re46 oi2.symm), (by omega)⟩⟩), (Eq.trans (show rv3 a0 9 = rvh16 a0 9 from (by rw [pq3]; exact congrFun (upr_a (ne_ty ty191 ty217 (by decide))) _)) (Eq.trans (show rvh16 a0 9 = rvh15 a0 9 from (fl16.r ty190 rfl 9)) (Eq.trans (show rvh15 a0 9 = rvh14 a0 9 from (fl15.r ty171 rfl 9)) (Eq.trans (show rvh14 a0 9 = rvn3 a0 9 from (fl14.r ty155 rfl 9)) (Eq.trans (show rvn3 a0 9 = rvh13 a0 9 from (by rw [hrn3]; exact congrFun (up0_a (ne_in ty141.1 hqn3)) _)) (Eq.trans (show rvh13 a0 9 = rvh12 a0 9 from (fl13.r ty113 rfl 9)) (Eq.trans (show rvh12 a0 9 = rvn1 a0 9 from (fl12.r ty112 rfl 9)) (show rvn1 a0 9 = rv a0 9 from (by rw [hrn1]; exact congrFun (up0_a (ne_in t_a0.1 hqn1)) _))))))))), (Eq.trans (show rv3 a0 10 = rvh16 a0 10 from (by rw [pq3]; exact congrFun (upr_a (ne_ty ty191 ty217 (by decide))) _)) (Eq.trans (show rvh16 a0 10 = rvh15 a0 10 from (fl16.r ty190 rfl 10)) (Eq.trans (show rvh15 a0 10 = rvh14 a0 10 from (fl15.r ty171 rfl 10)) (Eq.trans (show rvh14 a0 10 = rvn3 a0 10 from (fl14.r ty155 rfl 10)) (Eq.trans (show rvn3 a0 10 = rvh13 a0 10 from (by rw [hrn3]; exact congrFun (up0_a (ne_in ty141.1 hqn3)) _)) (Eq.trans (show rvh13 a0 10 = rvh12 a0 10 from (fl13.r ty113 rfl 10)) (Eq.trans (show rvh12 a0 10 = rvn1 a0 10 from (fl12.r ty112 rfl 10)) (show rvn1 a0 10 = rv a0 10 from (by rw [hrn1]; exact congrFun (up0_a (ne_in t_a0.1 hqn1)) _)))))))))⟩
              · refine c_null C dX11_changeIndicator_106 ?_
                refine c_goto (tgt := 142) C dX11_changeIndicator_107 (by decide) ?_
                have ty224 := xl15.ty ty137
                have ll5 : 4 ≤ lnh13 n6 ∧ lnh13 n6 ≤ 4 := W20.len ty224 rfl
                refine c_aastNR (z := j) C dX11_changeIndicator_142 ty224 rfl (by omega) (by omega) (by omega) (fun rv4 pq4 => ⟨1236, (by rw [Phi.putr sk9 pq4 ty224 rfl]; exact Nat.le_refl _), ?_⟩)
                have W28 := W20.putr pq4 ty224 (fun _ => ⟨fun _ => by rw [ty224.2]; rfl, fun _ qq => by cases qq⟩) rfl (by decide)
                have F21 := F14.putr X9 pq4 ty224 rfl
                have mr25 := MRK.putr mr17 W20 sk9 pq4 ty224 (by decide) (by decide)
                have tx16 := TX.xt tx10 xl15
                have kp21 := kp14.putrI tx16 W20 pq4 ty224 ⟨rfl, rfl⟩
                refine c_aload_n (j := 1) (x := a0) C dX11_changeIndicator_143 rfl ?_
                refine c_aload_n (j := 1) (x := a0) C dX11_changeIndicator_144 rfl ?_
                have re49 : rv4 a0 0 = rvh13 a0 0 := (by rw [pq4]; exact congrFun (upr_a (ne_ty ty141 ty224 (by decide))) _)
                rw [rq3] at re49
                refine c_getr (k := 0) C ck_12 dX11_changeIndicator_145 w2_44 (by decide) ty141 rfl rfl (by decide) rfl re49 ?_
                refine c_st (st2 := [.ref (sk 2), .ref a0]) rfl ?_
                refine c_get (k := 2) C ck_2 dX11_changeIndicator_148 w1_44 (by decide) ty142 rfl rfl (by decide) rfl ?_
                have pl16 := Phi.le W28 sk9
                refine d_callV (As := [.int (iI (ivh13 (sk 2) 2))]) (rest := []) C hM (C_done (a0 := a0) (x := ivh13 (sk 2) 2) W28 sk9 ty141 (by omega) ) dX11_changeIndicator_151 kV_X11_109 rfl ty141 rfl rfl (by decide) ck_12 rfl (Nat.le_of_ble_eq_true rfl) ⟨(Nat.le_of_ble_eq_true rfl), (Nat.le_of_ble_eq_true rfl)⟩ hph pl16 (show 1236 + 0 = 1236 from rfl) (by decide) (fun rh18 Lh18 clh18 lnh18 ivh18 rvh18 h18 => ?_)
                obtain ⟨f18, rfl, rfl, rfl, rfl, rfl, fl18, W29, rgf18, exf18, kp11f18, kp12f18, kp13f18, kp14f18, kp15f18, kp16f18⟩ := h18
                have ri83 : 1 ≤ ivh13 a0 11 ∧ ivh13 a0 11 ≤ 100 := W28.int ty141 11
                have ie214 : ivh13 a0 11 = ivh12 a0 11 := fl13.i ty113 rfl 11
                have ie215 : ivh12 a0 11 = ivn1 a0 11 := fl12.i ty112 rfl 11
                have ie216 : ivn1 a0 11 = iv a0 11 := by rw [hin1]; exact congrFun (up0_a (ne_in t_a0.1 hqn1)) _
                have ri84 : 1 ≤ ivh13 a0 12 ∧ ivh13 a0 12 ≤ 50 := W28.int ty141 12
                have ie217 : ivh13 a0 12 = ivh12 a0 12 := fl13.i ty113 rfl 12
                have ie218 : ivh12 a0 12 = ivn1 a0 12 := fl12.i ty112 rfl 12
                have ie219 : ivn1 a0 12 = iv a0 12 := by rw [hin1]; exact congrFun (up0_a (ne_in t_a0.1 hqn1)) _
                have ri85 : (-2147483648) ≤ ivh13 a0 13 ∧ ivh13 a0 13 ≤ 2147483647 := W28.int ty141 13
                have ie220 : ivh13 a0 13 = ivh12 a0 13 := fl13.i ty113 rfl 13
                have ie221 : ivh12 a0 13 = ivn1 a0 13 := fl12.i ty112 rfl 13
                have ie222 : ivn1 a0 13 = iv a0 13 := by rw [hin1]; exact congrFun (up0_a (ne_in t_a0.1 hqn1)) _
                have ri86 : (-2147483648) ≤ ivh13 a0 14 ∧ ivh13 a0 14 ≤ 2147483647 := W28.int ty141 14
                have ie223 : ivh13 a0 14 = ivh12 a0 14 := fl13.i ty113 rfl 14
                have ie224 : ivh12 a0 14 = ivn1 a0 14 := fl12.i ty112 rfl 14
                have ie225 : ivn1 a0 14 = iv a0 14 := by rw [hin1]; exact congrFun (up0_a (ne_in t_a0.1 hqn1)) _
                have ri87 : (-2147483648) ≤ ivh13 a0 15 ∧ ivh13 a0 15 ≤ 2147483647 := W28.int ty141 15
                have ie226 : ivh13 a0 15 = ivh12 a0 15 := fl13.i ty113 rfl 15
                have ie227 : ivh12 a0 15 = ivn1 a0 15 := fl12.i ty112 rfl 15
                have ie228 : ivn1 a0 15 = iv a0 15 := by rw [hin1]; exact congrFun (up0_a (ne_in t_a0.1 hqn1)) _
                have ri88 : (-2147483648) ≤ ivh13 a0 16 ∧ ivh13 a0 16 ≤ 2147483647 := W28.int ty141 16
                have ie229 : ivh13 a0 16 = ivh12 a0 16 := fl13.i ty113 rfl 16
                have ie230 : ivh12 a0 16 = ivn1 a0 16 := fl12.i ty112 rfl 16
                have ie231 : ivn1 a0 16 = iv a0 16 := by rw [hin1]; exact congrFun (up0_a (ne_in t_a0.1 hqn1)) _
                have F22 := F21.call X9 fl18 rfl
                have mr26 := MRK.call mr25 W28 sk9 XT.refl fl18 rfl rfl
                have kp22 := kp21.call tx16 W28 fl18 rfl
                refine c_st (st2 := [.int (iI f18)]) rfl ?_
                have gk11f18 : ivh18 a0 11 = ivh13 a0 11 := kp11f18
                have gk12f18 : ivh18 a0 12 = ivh13 a0 12 := kp12f18
                have gk13f18 : ivh18 a0 13 = ivh13 a0 13 := kp13f18
                have gk14f18 : ivh18 a0 14 = ivh13 a0 14 := kp14f18
                have gk15f18 : ivh18 a0 15 = ivh13 a0 15 := kp15f18
                have gk16f18 : ivh18 a0 16 = ivh13 a0 16 := kp16f18
                have gf18 : f18 = (ivh13 (sk 2) 2) := exf18
                have ri89 : 1 ≤ ivh18 a0 11 ∧ ivh18 a0 11 ≤ 100 := W29.int ty141 11
                have ri90 : 1 ≤ ivh18 a0 12 ∧ ivh18 a0 12 ≤ 50 := W29.int ty141 12
                have ri91 : (-2147483648) ≤ ivh18 a0 13 ∧ ivh18 a0 13 ≤ 2147483647 := W29.int ty141 13
                have ri92 : (-2147483648) ≤ ivh18 a0 14 ∧ ivh18 a0 14 ≤ 2147483647 := W29.int ty141 14
                have ri93 : (-2147483648) ≤ ivh18 a0 15 ∧ ivh18 a0 15 ≤ 2147483647 := W29.int ty141 15
                have ri94 : (-2147483648) ≤ ivh18 a0 16 ∧ ivh18 a0 16 ≤ 2147483647 := W29.int ty141 16
                have ri95 : 0 ≤ ivh18 (sk 23) 2 ∧ ivh18 (sk 23) 2 ≤ 512 := W29.int ty139 2
                have ie238 : ivh18 (sk 23) 2 = ivh13 (sk 23) 2 := fl18.i ty139 rfl 2
                have ty225 := xl15.ty ty133
                have ri96 : 0 ≤ ivh18 (sk 22) 2 ∧ ivh18 (sk 22) 2 ≤ 30 := W29.int ty225 2
                have ie239 : ivh18 (sk 22) 2 = ivh13 (sk 22) 2 := fl18.i ty225 rfl 2
                have ie240 : ivh13 (sk 22) 2 = ivh12 (sk 22) 2 := fl13.i ty133 rfl 2
                have ie241 : ivh12 (sk 22) 2 = ivn1 (sk 22) 2 := fl12.i ty132 rfl 2
                have ie242 : ivn1 (sk 22) 2 = iv (sk 22) 2 := by rw [hin1]; exact congrFun (up0_a (ne_in tsk22.1 hqn1)) _
                have ri97 : 0 ≤ ivh18 (sk 2) 2 ∧ ivh18 (sk 2) 2 ≤ 3000 := W29.int ty142 2
                have ie243 : ivh18 (sk 2) 2 = ivh13 (sk 2) 2 := fl18.i ty142 rfl 2
                have ty226 := xl15.ty tqr3
                have ri98 : (-2147483648) ≤ ivh18 qn1 0 ∧ ivh18 qn1 0 ≤ 2147483647 := W29.int ty226 0
                have ie244 : ivh18 qn1 0 = ivh13 qn1 0 := fl18.i ty226 rfl 0
                have ie245 : ivh13 qn1 0 = ivh12 qn1 0 := fl13.i tqr3 rfl 0
                have re50 : rvh13 qn1 1 = rvh12 qn1 1 := (fl13.r tqr3 rfl 1)
                rw [exf12r] at re50
                have re51 : rv4 qn1 1 = rvh13 qn1 1 := (by rw [pq4]; exact congrFun (upr_a (ne_ty ty226 ty224 (by decide))) _)
                rw [re50] at re51
                have re52 : rvh13 qn1 2 = rvh12 qn1 2 := (fl13.r tqr3 rfl 2)
                rw [exf12p] at re52
                have re53 : rv4 qn1 2 = rvh13 qn1 2 := (by rw [pq4]; exact congrFun (upr_a (ne_ty ty226 ty224 (by decide))) _)
                rw [re52] at re53
                have ri99 : 0 ≤ ivh18 qn1 3 ∧ ivh18 qn1 3 ≤ 5 := W29.int ty226 3
                have ie246 : ivh18 qn1 3 = ivh13 qn1 3 := fl18.i ty226 rfl 3
                have ie247 : ivh13 qn1 3 = ivh12 qn1 3 := fl13.i tqr3 rfl 3
                have rp4 : rv4 n6 j.toNat = none := by rw [pq4]; exact upr_s
                exact c_iret C dX11_changeIndicator_154 rfl (by decide) (rom0 hph pl16 (by decide)) ⟨f18, rfl, X9, F22, W29, ⟨by omega, by omega⟩, ⟨(by omega), mr26⟩, (by omega), (by omega), (by omega), (by omega), (by omega), (by omega), (Or.inr ⟨by omega, ob1, akob1.2, (fun ss hs hd => by
                    have e2 := irxf4 ss hs (by omega) hd
                    have e3 := e2.mp (by omega)
                    rw [Int.sub_zero] at e3
                    exact ⟨⟨by omega, by omega, gf3.mp (by omega), by omega⟩, e3.2⟩), by omega, ⟨(fun i hi => el_fr hW (tysk22 hS) rfl rfl F22 rfl rfl hi), TSF.of hW hS (fun bb tbb hbb => by have tb1 := xl5.ty tbb; have tb2 := ty_rt tb1 hcr3 (ne_ty tb1 tqn1 (by decide)); have tb3 := xl15.ty tb2; exact (Eq.trans (show ivh18 bb 7 = ivh13 bb 7 from (fl18.i tb3 rfl 7)) (Eq.trans (show ivh13 bb 7 = ivh12 bb 7 from (fl13.i tb2 rfl 7)) (Eq.trans (show ivh12 bb 7 = ivn1 bb 7 from (fl12.i tb1 rfl 7)) (show ivn1 bb 7 = iv bb 7 from (by rw [hin1]; exact congrFun (up0_a (ne_in tbb.1 hqn1)) _)))))) (fun bb tbb => by have tb1 := xl5.ty tbb; have tb2 := ty_rt tb1 hcr3 (ne_ty tb1 tqn1 (by decide)); have tb3 := xl15.ty tb2; exact (Eq.trans (show ivh18 bb 0 = ivh13 bb 0 from (fl18.i tb3 rfl 0)) (Eq.trans (show ivh13 bb 0 = ivh12 bb 0 from (fl13.i tb2 rfl 0)) (Eq.trans (show ivh12 bb 0 = ivn1 bb 0 from (fl12.i tb1 rfl 0)) (show ivn1 bb 0 = iv bb 0 from (by rw [hin1]; exact congrFun (up0_a (ne_in tbb.1 hqn1)) _)))))) (fun bb tbb => by have tb1 := xl5.ty tbb; have tb2 := ty_rt tb1 hcr3 (ne_ty tb1 tqn1 (by decide)); have tb3 := xl15.ty tb2; exact (Eq.trans (show ivh18 bb 1 = ivh13 bb 1 from (fl18.i tb3 rfl 1)) (Eq.trans (show ivh13 bb 1 = ivh12 bb 1 from (fl13.i tb2 rfl 1)) (Eq.trans (show ivh12 bb 1 = ivn1 bb 1 from (fl12.i tb1 rfl 1)) (show ivn1 bb 1 = iv bb 1 from (by rw [hin1]; exact congrFun (up0_a (ne_in tbb.1 hqn1)) _)))))) (fun bb tbb => by have tb1 := xl5.ty tbb; have tb2 := ty_rt tb1 hcr3 (ne_ty tb1 tqn1 (by decide)); have tb3 := xl15.ty tb2; exact (Eq.trans (show rv4 bb 4 = rvh13 bb 4 from (by rw [pq4]; exact congrFun (upr_a (ne_ty tb3 ty224 (by decide))) _)) (Eq.trans (show rvh13 bb 4 = rvh12 bb 4 from (fl13.r tb2 rfl 4)) (Eq.trans (show rvh12 bb 4 = rvn1 bb 4 from (fl12.r tb1 rfl 4)) (show rvn1 bb 4 = rv bb 4 from (by rw [hrn1]; exact congrFun (up0_a (ne_in tbb.1 hqn1)) _)))))), TSQ.of hW hS (fun bb tbb hbb => by have tb1 := xl5.ty tbb; have tb2 := ty_rt tb1 hcr3 (ne_ty tb1 tqn1 (by decide)); have tb3 := xl15.ty tb2; exact (Eq.trans (show ivh18 bb 2 = ivh13 bb 2 from (fl18.i tb3 rfl 2)) (Eq.trans (show ivh13 bb 2 = ivh12 bb 2 from (fl13.i tb2 rfl 2)) (Eq.trans (show ivh12 bb 2 = ivn1 bb 2 from (fl12.i tb1 rfl 2)) (show ivn1 bb 2 = iv bb 2 from (by rw [hin1]; exact congrFun (up0_a (ne_in tbb.1 hqn1)) _))))))⟩, ⟨(by omega), CS0.of hW hS (Int.le_refl _) (fun i hi => ((fun i hi => el_ch W20 (tysk23 sk9) rfl rfl ((show ∀ bb, ty Lh13 clh13 bb 23 → rv4 bb 1 = rvh13 bb 1 from fun bb tbb => by exact (show rv4 bb 1 = rvh13 bb 1 from (by rw [pq4]; exact congrFun (upr_a (ne_ty tbb ty224 (by decide))) _))) (sk 23) (tysk23 sk9)) (fun bb tbb kk => by exact (show rv4 bb kk = rvh13 bb kk from (by rw [pq4]; exact congrFun (upr_a (ne_ty tbb ty224 (by decide))) _))) hi) i (by omega)).trans ((rmef13.2 i (by omega)).trans (ce2 i hi))) (fun bb tbb => by have tb1 := xl5.ty tbb; have tb2 := ty_rt tb1 hcr3 (ne_ty tb1 tqn1 (by decide)); have tb3 := xl15.ty tb2; exact (Eq.trans (show ivh18 bb 0 = ivh13 bb 0 from (fl18.i tb3 rfl 0)) (Eq.trans (show ivh13 bb 0 = ivh12 bb 0 from (fl13.i tb2 rfl 0)) (Eq.trans (show ivh12 bb 0 = ivn1 bb 0 from (fl12.i tb1 rfl 0)) (show ivn1 bb 0 = iv bb 0 from (by rw [hin1]; exact congrFun (up0_a (ne_in tbb.1 hqn1)) _)))))) (fun bb tbb => by have tb1 := xl5.ty tbb; have tb2 := ty_rt tb1 hcr3 (ne_ty tb1 tqn1 (by decide)); have tb3 := xl15.ty tb2; exact (Eq.trans (show rv4 bb 1 = rvh13 bb 1 from (by rw [pq4]; exact congrFun (upr_a (ne_ty tb3 ty224 (by decide))) _)) (Eq.trans (show rvh13 bb 1 = rvh12 bb 1 from (fl13.r tb2 rfl 1)) (Eq.trans (show rvh12 bb 1 = rvn1 bb 1 from (fl12.r tb1 rfl 1)) (show rvn1 bb 1 = rv bb 1 from (by rw [hrn1]; exact congrFun (up0_a (ne_in tbb.1 hqn1)) _)))))), ⟨qn1, (by rw [show (iv (sk 23) 2).toNat = (ivh12 (sk 23) 2).toNat from congrArg Int.toNat (by omega)]; exact ((fun i hi => el_ch W20 (tysk23 sk9) rfl rfl ((show ∀ bb, ty Lh13 clh13 bb 23 → rv4 bb 1 = rvh13 bb 1 from fun bb tbb => by exact (show rv4 bb 1 = rvh13 bb 1 from (by rw [pq4]; exact congrFun (upr_a (ne_ty tbb ty224 (by decide))) _))) (sk 23) (tysk23 sk9)) (fun bb tbb kk => by exact (show rv4 bb kk = rvh13 bb kk from (by rw [pq4]; exact congrFun (upr_a (ne_ty tbb ty224 (by decide))) _))) hi) _ (by omega)).trans rmef13.1), (by omega), re51⟩⟩⟩), (Or.inr ⟨ob1, n6, ⟨akob1.2, hn6, by omega⟩, kp22, Or.inl ⟨by omega, rp4⟩, ⟨(by omega), qn1, (by rw [show (iv (sk 23) 2).toNat = (ivh12 (sk 23) 2).toNat from congrArg Int.toNat (by omega)]; exact ((fun i hi => el_ch W20 (tysk23 sk9) rfl rfl ((show ∀ bb, ty Lh13 clh13 bb 23 → rv4 bb 1 = rvh13 bb 1 from fun bb tbb => by exact (show rv4 bb 1 = rvh13 bb 1 from (by rw [pq4]; exact congrFun (upr_a (ne_ty tbb ty224 (by decide))) _))) (sk 23) (tysk23 sk9)) (fun bb tbb kk => by exact (show rv4 bb kk = rvh13 bb kk from (by rw [pq4]; exact congrFun (upr_a (ne_ty tbb ty224 (by decide))) _))) hi) _ (by omega)).trans rmef13.1), re51, (Eq.trans re53 oi2.symm), (by omega)⟩⟩), (Eq.trans (show rv4 a0 9 = rvh13 a0 9 from (by rw [pq4]; exact congrFun (upr_a (ne_ty ty141 ty224 (by decide))) _)) (Eq.trans (show rvh13 a0 9 = rvh12 a0 9 from (fl13.r ty113 rfl 9)) (Eq.trans (show rvh12 a0 9 = rvn1 a0 9 from (fl12.r ty112 rfl 9)) (show rvn1 a0 9 = rv a0 9 from (by rw [hrn1]; exact congrFun (up0_a (ne_in t_a0.1 hqn1)) _))))), (Eq.trans (show rv4 a0 10 = rvh13 a0 10 from (by rw [pq4]; exact congrFun (upr_a (ne_ty ty141 ty224 (by decide))) _)) (Eq.trans (show rvh13 a0 10 = rvh12 a0 10 from (fl13.r ty113 rfl 10)) (Eq.trans (show rvh12 a0 10 = rvn1 a0 10 from (fl12.r ty112 rfl 10)) (show rvn1 a0 10 = rv a0 10 from (by rw [hrn1]; exact congrFun (up0_a (ne_in t_a0.1 hqn1)) _)))))⟩
          · refine c_aload_n (j := 1) (x := a0) C dX11_changeIndicator_61 rfl ?_
            refine c_bipush (z := 6) C dX11_changeIndicator_62 (by decide) ?_
            refine d_callV (As := [.int (iI 6)]) (rest := []) C hM (C_refuse (a0 := a0) (x := 6) hW hS t_a0 ⟨by decide, by decide⟩ ) dX11_changeIndicator_64 kV_X11_102 rfl t_a0 rfl rfl (by decide) ck_12 rfl (Nat.le_of_ble_eq_true rfl) ⟨(Nat.le_of_ble_eq_true rfl), (Nat.le_of_ble_eq_true rfl)⟩ hph hph (show 0 + 0 = 0 from rfl) (by decide) (fun rh19 Lh19 clh19 lnh19 ivh19 rvh19 h19 => ?_)
            obtain ⟨f19, rfl, rfl, rfl, rfl, rfl, fl19, W30, rgf19, exf19, kp11f19, kp12f19, kp13f19, kp14f19, kp15f19, kp16f19⟩ := h19
            have ri100 : 1 ≤ iv a0 11 ∧ iv a0 11 ≤ 100 := hW.int t_a0 11
            have ri101 : 1 ≤ iv a0 12 ∧ iv a0 12 ≤ 50 := hW.int t_a0 12
            have ri102 : (-2147483648) ≤ iv a0 13 ∧ iv a0 13 ≤ 2147483647 := hW.int t_a0 13
            have ri103 : (-2147483648) ≤ iv a0 14 ∧ iv a0 14 ≤ 2147483647 := hW.int t_a0 14
            have ri104 : (-2147483648) ≤ iv a0 15 ∧ iv a0 15 ≤ 2147483647 := hW.int t_a0 15
            have ri105 : (-2147483648) ≤ iv a0 16 ∧ iv a0 16 ≤ 2147483647 := hW.int t_a0 16
            have F23 := hF0.call hX0 fl19 rfl
            have mr27 := MRK.call hmr hW hS XT.refl fl19 rfl rfl
            refine c_st (st2 := [.int (iI f19)]) rfl ?_
            have gk11f19 : ivh19 a0 11 = iv a0 11 := kp11f19
            have gk12f19 : ivh19 a0 12 = iv a0 12 := kp12f19
            have gk13f19 : ivh19 a0 13 = iv a0 13 := kp13f19
            have gk14f19 : ivh19 a0 14 = iv a0 14 := kp14f19
            have gk15f19 : ivh19 a0 15 = iv a0 15 := kp15f19
            have gk16f19 : ivh19 a0 16 = iv a0 16 := kp16f19
            have gf19 : f19 = -1 := exf19
            have ri106 : 1 ≤ ivh19 a0 11 ∧ ivh19 a0 11 ≤ 100 := W30.int t_a0 11
            have ri107 : 1 ≤ ivh19 a0 12 ∧ ivh19 a0 12 ≤ 50 := W30.int t_a0 12
            have ri108 : (-2147483648) ≤ ivh19 a0 13 ∧ ivh19 a0 13 ≤ 2147483647 := W30.int t_a0 13
            have ri109 : (-2147483648) ≤ ivh19 a0 14 ∧ ivh19 a0 14 ≤ 2147483647 := W30.int t_a0 14
            have ri110 : (-2147483648) ≤ ivh19 a0 15 ∧ ivh19 a0 15 ≤ 2147483647 := W30.int t_a0 15
            have ri111 : (-2147483648) ≤ ivh19 a0 16 ∧ ivh19 a0 16 ≤ 2147483647 := W30.int t_a0 16
            have ri112 : 0 ≤ ivh19 (sk 23) 2 ∧ ivh19 (sk 23) 2 ≤ 512 := W30.int tsk23 2
            have ie254 : ivh19 (sk 23) 2 = iv (sk 23) 2 := fl19.i tsk23 rfl 2
            have ri113 : 0 ≤ ivh19 (sk 22) 2 ∧ ivh19 (sk 22) 2 ≤ 30 := W30.int tsk22 2
            have ie255 : ivh19 (sk 22) 2 = iv (sk 22) 2 := fl19.i tsk22 rfl 2
            have ri114 : 0 ≤ ivh19 (sk 2) 2 ∧ ivh19 (sk 2) 2 ≤ 3000 := W30.int tsk2 2
            have ie256 : ivh19 (sk 2) 2 = iv (sk 2) 2 := fl19.i tsk2 rfl 2
            have ri115 : (-2147483648) ≤ ivh19 ob1 0 ∧ ivh19 ob1 0 ≤ 2147483647 := W30.int tob1 0
            have ie257 : ivh19 ob1 0 = iv ob1 0 := fl19.i tob1 rfl 0
            exact c_iret C dX11_changeIndicator_67 rfl (by decide) (rom0 hph hph (by decide)) ⟨f19, rfl, hX0, F23, W30, ⟨by omega, by omega⟩, ⟨(by omega), mr27⟩, (by omega), (by omega), (by omega), (by omega), (by omega), (by omega), (Or.inl ⟨by omega, PSAME.fr hW hS fl19 rfl rfl rfl rfl rfl rfl rfl, (fun ss t hs ht hd h => by
                have e := ht.uni akob1.2
                subst e
                obtain ⟨⟨h1, h2, -, h4⟩, h5⟩ := h
                have e1 := irxf4 ss hs (by omega) hd
                have e2 := e1.mpr ⟨by omega, by rw [Int.sub_zero]; exact h5⟩
                clear e1
                omega)⟩), (Or.inl ⟨by omega, KP.fr hW fl19 rfl⟩), rfl, rfl⟩
        · refine c_aload_n (j := 1) (x := a0) C dX11_changeIndicator_43 rfl ?_
          refine c_iconst C dX11_changeIndicator_44 ?_
          refine d_callV (As := [.int (iI 4)]) (rest := []) C hM (C_refuse (a0 := a0) (x := 4) hW hS t_a0 ⟨by decide, by decide⟩ ) dX11_changeIndicator_45 kV_X11_102 rfl t_a0 rfl rfl (by decide) ck_12 rfl (Nat.le_of_ble_eq_true rfl) ⟨(Nat.le_of_ble_eq_true rfl), (Nat.le_of_ble_eq_true rfl)⟩ hph hph (show 0 + 0 = 0 from rfl) (by decide) (fun rh20 Lh20 clh20 lnh20 ivh20 rvh20 h20 => ?_)
          obtain ⟨f20, rfl, rfl, rfl, rfl, rfl, fl20, W31, rgf20, exf20, kp11f20, kp12f20, kp13f20, kp14f20, kp15f20, kp16f20⟩ := h20
          have ri116 : 1 ≤ iv a0 11 ∧ iv a0 11 ≤ 100 := hW.int t_a0 11
          have ri117 : 1 ≤ iv a0 12 ∧ iv a0 12 ≤ 50 := hW.int t_a0 12
          have ri118 : (-2147483648) ≤ iv a0 13 ∧ iv a0 13 ≤ 2147483647 := hW.int t_a0 13
          have ri119 : (-2147483648) ≤ iv a0 14 ∧ iv a0 14 ≤ 2147483647 := hW.int t_a0 14
          have ri120 : (-2147483648) ≤ iv a0 15 ∧ iv a0 15 ≤ 2147483647 := hW.int t_a0 15
          have ri121 : (-2147483648) ≤ iv a0 16 ∧ iv a0 16 ≤ 2147483647 := hW.int t_a0 16
          have F24 := hF0.call hX0 fl20 rfl
          have mr28 := MRK.call hmr hW hS XT.refl fl20 rfl rfl
          refine c_st (st2 := [.int (iI f20)]) rfl ?_
          have gk11f20 : ivh20 a0 11 = iv a0 11 := kp11f20
          have gk12f20 : ivh20 a0 12 = iv a0 12 := kp12f20
          have gk13f20 : ivh20 a0 13 = iv a0 13 := kp13f20
          have gk14f20 : ivh20 a0 14 = iv a0 14 := kp14f20
          have gk15f20 : ivh20 a0 15 = iv a0 15 := kp15f20
          have gk16f20 : ivh20 a0 16 = iv a0 16 := kp16f20
          have gf20 : f20 = -1 := exf20
          have ri122 : 1 ≤ ivh20 a0 11 ∧ ivh20 a0 11 ≤ 100 := W31.int t_a0 11
          have ri123 : 1 ≤ ivh20 a0 12 ∧ ivh20 a0 12 ≤ 50 := W31.int t_a0 12
          have ri124 : (-2147483648) ≤ ivh20 a0 13 ∧ ivh20 a0 13 ≤ 2147483647 := W31.int t_a0 13
          have ri125 : (-2147483648) ≤ ivh20 a0 14 ∧ ivh20 a0 14 ≤ 2147483647 := W31.int t_a0 14
          have ri126 : (-2147483648) ≤ ivh20 a0 15 ∧ ivh20 a0 15 ≤ 2147483647 := W31.int t_a0 15
          have ri127 : (-2147483648) ≤ ivh20 a0 16 ∧ ivh20 a0 16 ≤ 2147483647 := W31.int t_a0 16
          have ri128 : 0 ≤ ivh20 (sk 23) 2 ∧ ivh20 (sk 23) 2 ≤ 512 := W31.int tsk23 2
          have ie264 : ivh20 (sk 23) 2 = iv (sk 23) 2 := fl20.i tsk23 rfl 2
          have ri129 : 0 ≤ ivh20 (sk 22) 2 ∧ ivh20 (sk 22) 2 ≤ 30 := W31.int tsk22 2
          have ie265 : ivh20 (sk 22) 2 = iv (sk 22) 2 := fl20.i tsk22 rfl 2
          have ri130 : 0 ≤ ivh20 (sk 2) 2 ∧ ivh20 (sk 2) 2 ≤ 3000 := W31.int tsk2 2
          have ie266 : ivh20 (sk 2) 2 = iv (sk 2) 2 := fl20.i tsk2 rfl 2
          have ri131 : (-2147483648) ≤ ivh20 ob1 0 ∧ ivh20 ob1 0 ≤ 2147483647 := W31.int tob1 0
          have ie267 : ivh20 ob1 0 = iv ob1 0 := fl20.i tob1 rfl 0
          exact c_iret C dX11_changeIndicator_48 rfl (by decide) (rom0 hph hph (by decide)) ⟨f20, rfl, hX0, F24, W31, ⟨by omega, by omega⟩, ⟨(by omega), mr28⟩, (by omega), (by omega), (by omega), (by omega), (by omega), (by omega), (Or.inl ⟨by omega, PSAME.fr hW hS fl20 rfl rfl rfl rfl rfl rfl rfl, (fun ss t hs ht hd h => by
              have e := ht.uni akob1.2
              subst e
              obtain ⟨⟨h1, h2, h3, h4⟩, -⟩ := h
              have m := gf3
              have m2 : f3 = 1 := m.mpr h3
              omega)⟩), (Or.inl ⟨by omega, KP.fr hW fl20 rfl⟩), rfl, rfl⟩
      · subst oq1
        refine c_lv (lv2 := [(3, .null), (0, .ref a0), (1, .int (iI i)), (2, .int (iI j))]) [0, 1, 2, 3] rfl ?_
        refine c_st (st2 := []) rfl ?_
        refine c_aload_n (j := 1) (x := a0) C dX11_changeIndicator_29 rfl ?_
        refine c_iconst C dX11_changeIndicator_30 ?_
        refine d_callV (As := [.int (iI 3)]) (rest := []) C hM (C_refuse (a0 := a0) (x := 3) hW hS t_a0 ⟨by decide, by decide⟩ ) dX11_changeIndicator_31 kV_X11_102 rfl t_a0 rfl rfl (by decide) ck_12 rfl (Nat.le_of_ble_eq_true rfl) ⟨(Nat.le_of_ble_eq_true rfl), (Nat.le_of_ble_eq_true rfl)⟩ hph hph (show 0 + 0 = 0 from rfl) (by decide) (fun rh21 Lh21 clh21 lnh21 ivh21 rvh21 h21 => ?_)
        obtain ⟨f21, rfl, rfl, rfl, rfl, rfl, fl21, W32, rgf21, exf21, kp11f21, kp12f21, kp13f21, kp14f21, kp15f21, kp16f21⟩ := h21
        have ri132 : 1 ≤ iv a0 11 ∧ iv a0 11 ≤ 100 := hW.int t_a0 11
        have ri133 : 1 ≤ iv a0 12 ∧ iv a0 12 ≤ 50 := hW.int t_a0 12
        have ri134 : (-2147483648) ≤ iv a0 13 ∧ iv a0 13 ≤ 2147483647 := hW.int t_a0 13
        have ri135 : (-2147483648) ≤ iv a0 14 ∧ iv a0 14 ≤ 2147483647 := hW.int t_a0 14
        have ri136 : (-2147483648) ≤ iv a0 15 ∧ iv a0 15 ≤ 2147483647 := hW.int t_a0 15
        have ri137 : (-2147483648) ≤ iv a0 16 ∧ iv a0 16 ≤ 2147483647 := hW.int t_a0 16
        have F25 := hF0.call hX0 fl21 rfl
        have mr29 := MRK.call hmr hW hS XT.refl fl21 rfl rfl
        refine c_st (st2 := [.int (iI f21)]) rfl ?_
        have gk11f21 : ivh21 a0 11 = iv a0 11 := kp11f21
        have gk12f21 : ivh21 a0 12 = iv a0 12 := kp12f21
        have gk13f21 : ivh21 a0 13 = iv a0 13 := kp13f21
        have gk14f21 : ivh21 a0 14 = iv a0 14 := kp14f21
        have gk15f21 : ivh21 a0 15 = iv a0 15 := kp15f21
        have gk16f21 : ivh21 a0 16 = iv a0 16 := kp16f21
        have gf21 : f21 = -1 := exf21
        have ri138 : 1 ≤ ivh21 a0 11 ∧ ivh21 a0 11 ≤ 100 := W32.int t_a0 11
        have ri139 : 1 ≤ ivh21 a0 12 ∧ ivh21 a0 12 ≤ 50 := W32.int t_a0 12
        have ri140 : (-2147483648) ≤ ivh21 a0 13 ∧ ivh21 a0 13 ≤ 2147483647 := W32.int t_a0 13
        have ri141 : (-2147483648) ≤ ivh21 a0 14 ∧ ivh21 a0 14 ≤ 2147483647 := W32.int t_a0 14
        have ri142 : (-2147483648) ≤ ivh21 a0 15 ∧ ivh21 a0 15 ≤ 2147483647 := W32.int t_a0 15
        have ri143 : (-2147483648) ≤ ivh21 a0 16 ∧ ivh21 a0 16 ≤ 2147483647 := W32.int t_a0 16
        have ri144 : 0 ≤ ivh21 (sk 23) 2 ∧ ivh21 (sk 23) 2 ≤ 512 := W32.int tsk23 2
        have ie274 : ivh21 (sk 23) 2 = iv (sk 23) 2 := fl21.i tsk23 rfl 2
        have ri145 : 0 ≤ ivh21 (sk 22) 2 ∧ ivh21 (sk 22) 2 ≤ 30 := W32.int tsk22 2
        have ie275 : ivh21 (sk 22) 2 = iv (sk 22) 2 := fl21.i tsk22 rfl 2
        have ri146 : 0 ≤ ivh21 (sk 2) 2 ∧ ivh21 (sk 2) 2 ≤ 3000 := W32.int tsk2 2
        have ie276 : ivh21 (sk 2) 2 = iv (sk 2) 2 := fl21.i tsk2 rfl 2
        exact c_iret C dX11_changeIndicator_34 rfl (by decide) (rom0 hph hph (by decide)) ⟨f21, rfl, hX0, F25, W32, ⟨by omega, by omega⟩, ⟨(by omega), mr29⟩, (by omega), (by omega), (by omega), (by omega), (by omega), (by omega), (Or.inl ⟨by omega, PSAME.fr hW hS fl21 rfl rfl rfl rfl rfl rfl rfl, (fun ss t hs ht hd _ => gf2.2 rfl t ht)⟩), (Or.inl ⟨by omega, KP.fr hW fl21 rfl⟩), rfl, rfl⟩
    · refine c_aload_n (j := 0) (x := a0) C dX11_changeIndicator_9 rfl ?_
      refine c_bipush (z := 6) C dX11_changeIndicator_10 (by decide) ?_
      refine d_callV (As := [.int (iI 6)]) (rest := []) C hM (C_refuse (a0 := a0) (x := 6) hW hS t_a0 ⟨by decide, by decide⟩ ) dX11_changeIndicator_12 kV_X11_102 rfl t_a0 rfl rfl (by decide) ck_12 rfl (Nat.le_of_ble_eq_true rfl) ⟨(Nat.le_of_ble_eq_true rfl), (Nat.le_of_ble_eq_true rfl)⟩ hph hph (show 0 + 0 = 0 from rfl) (by decide) (fun rh22 Lh22 clh22 lnh22 ivh22 rvh22 h22 => ?_)
      obtain ⟨f22, rfl, rfl, rfl, rfl, rfl, fl22, W33, rgf22, exf22, kp11f22, kp12f22, kp13f22, kp14f22, kp15f22, kp16f22⟩ := h22
      have ri147 : 1 ≤ iv a0 11 ∧ iv a0 11 ≤ 100 := hW.int t_a0 11
      have ri148 : 1 ≤ iv a0 12 ∧ iv a0 12 ≤ 50 := hW.int t_a0 12
      have ri149 : (-2147483648) ≤ iv a0 13 ∧ iv a0 13 ≤ 2147483647 := hW.int t_a0 13
      have ri150 : (-2147483648) ≤ iv a0 14 ∧ iv a0 14 ≤ 2147483647 := hW.int t_a0 14
      have ri151 : (-2147483648) ≤ iv a0 15 ∧ iv a0 15 ≤ 2147483647 := hW.int t_a0 15
      have ri152 : (-2147483648) ≤ iv a0 16 ∧ iv a0 16 ≤ 2147483647 := hW.int t_a0 16
      have F26 := hF0.call hX0 fl22 rfl
      have mr30 := MRK.call hmr hW hS XT.refl fl22 rfl rfl
      refine c_st (st2 := [.int (iI f22)]) rfl ?_
      have gk11f22 : ivh22 a0 11 = iv a0 11 := kp11f22
      have gk12f22 : ivh22 a0 12 = iv a0 12 := kp12f22
      have gk13f22 : ivh22 a0 13 = iv a0 13 := kp13f22
      have gk14f22 : ivh22 a0 14 = iv a0 14 := kp14f22
      have gk15f22 : ivh22 a0 15 = iv a0 15 := kp15f22
      have gk16f22 : ivh22 a0 16 = iv a0 16 := kp16f22
      have gf22 : f22 = -1 := exf22
      have ri153 : 1 ≤ ivh22 a0 11 ∧ ivh22 a0 11 ≤ 100 := W33.int t_a0 11
      have ri154 : 1 ≤ ivh22 a0 12 ∧ ivh22 a0 12 ≤ 50 := W33.int t_a0 12
      have ri155 : (-2147483648) ≤ ivh22 a0 13 ∧ ivh22 a0 13 ≤ 2147483647 := W33.int t_a0 13
      have ri156 : (-2147483648) ≤ ivh22 a0 14 ∧ ivh22 a0 14 ≤ 2147483647 := W33.int t_a0 14
      have ri157 : (-2147483648) ≤ ivh22 a0 15 ∧ ivh22 a0 15 ≤ 2147483647 := W33.int t_a0 15
      have ri158 : (-2147483648) ≤ ivh22 a0 16 ∧ ivh22 a0 16 ≤ 2147483647 := W33.int t_a0 16
      have ri159 : 0 ≤ ivh22 (sk 23) 2 ∧ ivh22 (sk 23) 2 ≤ 512 := W33.int tsk23 2
      have ie283 : ivh22 (sk 23) 2 = iv (sk 23) 2 := fl22.i tsk23 rfl 2
      have ri160 : 0 ≤ ivh22 (sk 22) 2 ∧ ivh22 (sk 22) 2 ≤ 30 := W33.int tsk22 2
      have ie284 : ivh22 (sk 22) 2 = iv (sk 22) 2 := fl22.i tsk22 rfl 2
      have ri161 : 0 ≤ ivh22 (sk 2) 2 ∧ ivh22 (sk 2) 2 ≤ 3000 := W33.int tsk2 2
      have ie285 : ivh22 (sk 2) 2 = iv (sk 2) 2 := fl22.i tsk2 rfl 2
      exact c_iret C dX11_changeIndicator_15 rfl (by decide) (rom0 hph hph (by decide)) ⟨f22, rfl, hX0, F26, W33, ⟨by omega, by omega⟩, ⟨(by omega), mr30⟩, (by omega), (by omega), (by omega), (by omega), (by omega), (by omega), (Or.inl ⟨by omega, PSAME.fr hW hS fl22 rfl rfl rfl rfl rfl rfl rfl, (fun ss t hs ht hd h => by
          obtain ⟨h1, h2, h3, h4⟩ := h.1
          omega)⟩), (Or.inl ⟨by omega, KP.fr hW fl22 rfl⟩), rfl, rfl⟩
set_option maxHeartbeats 4000000 in
set_option maxRecDepth 100000 in
theorem C_indicator {l : Launch} {G : GT} {mi : Nat} {sk : Nat → Nat} {L : List Nat} {cl ln : Nat → Nat} {iv : Nat → Nat → Int} {rv : Nat → Nat → Option Nat}  {a0 : Nat} {i : Int} {j : Int} (hW : WT (g0 G) sk L cl ln iv rv) (hS : SKL sk L cl) (t_a0 : ty L cl a0 1) (h_i : -2147483648 ≤ i ∧ i ≤ 2147483647) (h_j : -2147483648 ≤ j ∧ j ≤ 2147483647) (hmr : MRK sk cl iv rv) (hch : iv (sk 23) 2 < 512) : Mc l G mi (Phi (g0 G) sk) PHM yX11_indicator cX11_indicator 4 (some .int) 9 [.ref a0, .int (iI i), .int (iI j)] L cl ln iv rv 1300 (fun v L2 cl2 ln2 iv2 rv2 => ∃ f : Int, v = some (.int (iI f)) ∧ XT L cl ln L2 cl2 ln2 ∧ fT [1, 65, 66, 206, 68, 23, 1001, 201, 2] L cl iv rv iv2 rv2 ∧ WT (g0 G) sk L2 cl2 ln2 iv2 rv2 ∧ (-2147483648 ≤ f ∧ f ≤ 2147483647) ∧ (iv2 (sk 23) 2 ≤ iv (sk 23) 2 + 1 ∧ MRK sk cl2 iv2 rv2) ∧ iv2 a0 11 = iv a0 11 ∧ iv2 a0 12 = iv a0 12 ∧ iv2 a0 13 = iv a0 13 ∧ iv2 a0 14 = iv a0 14 ∧ iv2 a0 15 = iv a0 15 ∧ iv2 a0 16 = iv a0 16 ∧ iv2 (sk 2) 2 = 0 ∧ (PIND i j f sk iv rv iv2 rv2) ∧ (KIN L cl sk iv rv L2 cl2 ln2 iv2 rv2 i j f) ∧ rv2 a0 9 = rv a0 9 ∧ rv2 a0 10 = rv a0 10) := by
  refine Mc.mk (by decide) (Nat.le_of_ble_eq_true rfl) ?_
  intro p e s m args below meth c A C hM
  have hph := Phi.le hW hS
  have tsk2 : ty L cl (sk 2) 2 := ⟨(hS 2 rfl).1, by rw [(hS 2 rfl).2]; rfl⟩
  have tsk3 : ty L cl (sk 3) 3 := ⟨(hS 3 rfl).1, by rw [(hS 3 rfl).2]; rfl⟩
  have tsk4 : ty L cl (sk 4) 4 := ⟨(hS 4 rfl).1, by rw [(hS 4 rfl).2]; rfl⟩
  have tsk5 : ty L cl (sk 5) 5 := ⟨(hS 5 rfl).1, by rw [(hS 5 rfl).2]; rfl⟩
  have tsk13 : ty L cl (sk 13) 13 := ⟨(hS 13 rfl).1, by rw [(hS 13 rfl).2]; rfl⟩
  have tsk14 : ty L cl (sk 14) 14 := ⟨(hS 14 rfl).1, by rw [(hS 14 rfl).2]; rfl⟩
  have tsk15 : ty L cl (sk 15) 15 := ⟨(hS 15 rfl).1, by rw [(hS 15 rfl).2]; rfl⟩
  have tsk16 : ty L cl (sk 16) 16 := ⟨(hS 16 rfl).1, by rw [(hS 16 rfl).2]; rfl⟩
  have tsk17 : ty L cl (sk 17) 17 := ⟨(hS 17 rfl).1, by rw [(hS 17 rfl).2]; rfl⟩
  have tsk22 : ty L cl (sk 22) 22 := ⟨(hS 22 rfl).1, by rw [(hS 22 rfl).2]; rfl⟩
  have tsk23 : ty L cl (sk 23) 23 := ⟨(hS 23 rfl).1, by rw [(hS 23 rfl).2]; rfl⟩
  have hX0 : XT L cl ln L cl ln := XT.refl
  have hF0 : fT [1, 65, 66, 206, 68, 23, 1001, 201, 2] L cl iv rv iv rv := fT.refl
  have ri1 : 0 ≤ iv (sk 23) 2 ∧ iv (sk 23) 2 ≤ 512 := hW.int tsk23 2
  refine c_aload_n (j := 0) (x := a0) C dX11_indicator_0 rfl ?_
  refine c_iload_n (j := 1) C dX11_indicator_1 rfl ?_
  refine c_iload_n (j := 2) C dX11_indicator_2 rfl ?_
  refine d_callV (As := [.int (iI i), .int (iI j)]) (rest := []) C hM (C_changeInd (a0 := a0) (i := i) (j := j) hW hS t_a0 (by omega) (by omega) hmr (by show iv (sk 23) 2 < 512; omega)) dX11_indicator_3 kV_X11_208 rfl t_a0 rfl rfl (by decide) ck_12 rfl (Nat.le_of_ble_eq_true rfl) ⟨(Nat.le_of_ble_eq_true rfl), (Nat.le_of_ble_eq_true rfl)⟩ hph hph (show 0 + 1300 = 1300 from rfl) (by decide) (fun rh1 Lh1 clh1 lnh1 ivh1 rvh1 h1 => ?_)
  obtain ⟨f1, rfl, xl1, fl1, W1, rgf1, exf1, kp11f1, kp12f1, kp13f1, kp14f1, kp15f1, kp16f1, tbxf1, kbxf1, kr9f1, kr10f1⟩ := h1
  have ri2 : 1 ≤ iv a0 11 ∧ iv a0 11 ≤ 100 := hW.int t_a0 11
  have ri3 : 1 ≤ iv a0 12 ∧ iv a0 12 ≤ 50 := hW.int t_a0 12
  have ri4 : (-2147483648) ≤ iv a0 13 ∧ iv a0 13 ≤ 2147483647 := hW.int t_a0 13
  have ri5 : (-2147483648) ≤ iv a0 14 ∧ iv a0 14 ≤ 2147483647 := hW.int t_a0 14
  have ri6 : (-2147483648) ≤ iv a0 15 ∧ iv a0 15 ≤ 2147483647 := hW.int t_a0 15
  have ri7 : (-2147483648) ≤ iv a0 16 ∧ iv a0 16 ≤ 2147483647 := hW.int t_a0 16
  have F1 := hF0.call hX0 fl1 rfl
  have mr1 := MRK.call hmr hW hS xl1 fl1 rfl rfl
  have X1 := hX0.trans xl1
  have sk1 := xl1.skl hS
  refine c_st (st2 := [.int (iI f1)]) rfl ?_
  have gk11f1 : ivh1 a0 11 = iv a0 11 := kp11f1
  have gk12f1 : ivh1 a0 12 = iv a0 12 := kp12f1
  have gk13f1 : ivh1 a0 13 = iv a0 13 := kp13f1
  have gk14f1 : ivh1 a0 14 = iv a0 14 := kp14f1
  have gk15f1 : ivh1 a0 15 = iv a0 15 := kp15f1
  have gk16f1 : ivh1 a0 16 = iv a0 16 := kp16f1
  have ty1 := xl1.ty tsk23
  have ri8 : 0 ≤ ivh1 (sk 23) 2 ∧ ivh1 (sk 23) 2 ≤ 512 := W1.int ty1 2
  have gf1 : ivh1 (sk 23) 2 ≤ iv (sk 23) 2 + 1 ∧ MRK sk clh1 ivh1 rvh1 := exf1
  refine c_istore_n (lv2 := [(3, .int (iI f1)), (0, .ref a0), (1, .int (iI i)), (2, .int (iI j))]) C dX11_indicator_6 (by decide) rfl ?_
  refine c_aload_n (j := 1) (x := a0) C dX11_indicator_7 rfl ?_
  have ty2 := xl1.ty t_a0
  obtain ⟨rb1, rq1, trb1⟩ := W1.ref ty2 0 rfl rfl rfl
  have erb1 := W1.sk trb1 (by decide) rfl
  subst erb1
  refine c_getr (k := 0) C ck_12 dX11_indicator_8 w2_44 (by decide) ty2 rfl rfl (by decide) rfl rq1 ?_
  refine c_st (st2 := [.ref (sk 2)]) rfl ?_
  have ty3 := xl1.ty tsk2
  have pl1 := Phi.le W1 sk1
  refine d_callV (As := []) (rest := []) C hM (C_clear_2 (a0 := (sk 2)) W1 sk1 ty3  ) dX11_indicator_11 kV_X11_164 rfl ty3 rfl rfl (by decide) ck_2 rfl (Nat.le_of_ble_eq_true rfl) ⟨(Nat.le_of_ble_eq_true rfl), (Nat.le_of_ble_eq_true rfl)⟩ hph pl1 (show 1300 + 0 = 1300 from rfl) (by decide) (fun rh2 Lh2 clh2 lnh2 ivh2 rvh2 h2 => ?_)
  obtain ⟨rfl, rfl, rfl, rfl, rfl, fl2, W2, exf2⟩ := h2
  have F2 := F1.call X1 fl2 rfl
  have mr2 := MRK.call mr1 W1 sk1 XT.refl fl2 rfl rfl
  refine c_st (st2 := []) rfl ?_
  have ri9 : 0 ≤ ivh2 (sk 2) 2 ∧ ivh2 (sk 2) 2 ≤ 3000 := W2.int ty3 2
  have gf2 : ivh2 (sk 2) 2 = 0 := exf2
  refine c_iload_n (j := 0) C dX11_indicator_14 rfl ?_
  have ri10 : 1 ≤ ivh2 a0 11 ∧ ivh2 a0 11 ≤ 100 := W2.int ty2 11
  have ie3 : ivh2 a0 11 = ivh1 a0 11 := fl2.i ty2 rfl 11
  have ri11 : 1 ≤ ivh2 a0 12 ∧ ivh2 a0 12 ≤ 50 := W2.int ty2 12
  have ie5 : ivh2 a0 12 = ivh1 a0 12 := fl2.i ty2 rfl 12
  have ri12 : (-2147483648) ≤ ivh2 a0 13 ∧ ivh2 a0 13 ≤ 2147483647 := W2.int ty2 13
  have ie7 : ivh2 a0 13 = ivh1 a0 13 := fl2.i ty2 rfl 13
  have ri13 : (-2147483648) ≤ ivh2 a0 14 ∧ ivh2 a0 14 ≤ 2147483647 := W2.int ty2 14
  have ie9 : ivh2 a0 14 = ivh1 a0 14 := fl2.i ty2 rfl 14
  have ri14 : (-2147483648) ≤ ivh2 a0 15 ∧ ivh2 a0 15 ≤ 2147483647 := W2.int ty2 15
  have ie11 : ivh2 a0 15 = ivh1 a0 15 := fl2.i ty2 rfl 15
  have ri15 : (-2147483648) ≤ ivh2 a0 16 ∧ ivh2 a0 16 ≤ 2147483647 := W2.int ty2 16
  have ie13 : ivh2 a0 16 = ivh1 a0 16 := fl2.i ty2 rfl 16
  have ri16 : 0 ≤ ivh2 (sk 23) 2 ∧ ivh2 (sk 23) 2 ≤ 512 := W2.int ty1 2
  have ie15 : ivh2 (sk 23) 2 = ivh1 (sk 23) 2 := fl2.i ty1 rfl 2
  have tx1 := TX.xt TX.refl xl1
  exact c_iret C dX11_indicator_15 rfl (by decide) (rom0 hph pl1 (by decide)) ⟨f1, rfl, X1, F2, W2, ⟨by omega, by omega⟩, ⟨(by omega), mr2⟩, (by omega), (by omega), (by omega), (by omega), (by omega), (by omega), (by omega), (PIND.after tbxf1 (by omega) (PSAME.fr W1 sk1 fl2 rfl rfl rfl rfl rfl rfl rfl)), (KIN.after kbxf1 (by omega) hW hS tx1 W1 sk1 fl2 rfl rfl rfl), (show rvh1 a0 9 = rv a0 9 from kr9f1), (show rvh1 a0 10 = rv a0 10 from kr10f1)⟩
