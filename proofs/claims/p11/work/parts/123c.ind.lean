set_option maxHeartbeats 4000000 in
set_option maxRecDepth 100000 in
theorem C_changeInd {l : Launch} {G : GT} {mi : Nat} {sk : Nat → Nat} {L : List Nat} {cl ln : Nat → Nat} {iv : Nat → Nat → Int} {rv : Nat → Nat → Option Nat}  {a0 : Nat} {i : Int} {j : Int} (hW : WT (g0 G) sk L cl ln iv rv) (hS : SKL sk L cl) (t_a0 : ty L cl a0 1) (h_i : -2147483648 ≤ i ∧ i ≤ 2147483647) (h_j : -2147483648 ≤ j ∧ j ≤ 2147483647) (hmr : MRK sk cl iv rv) (hch : iv (sk 23) 2 < 512) : Mc l G mi (Phi (g0 G) sk) PHM yX11_changeIndicator cX11_changeIndicator 4 (some .int) 8 [.ref a0, .int (iI i), .int (iI j)] L cl ln iv rv 1300 (fun v L2 cl2 ln2 iv2 rv2 => ∃ f : Int, v = some (.int (iI f)) ∧ XT L cl ln L2 cl2 ln2 ∧ fT [1, 65, 66, 206, 68, 23, 1001, 201] L cl iv rv iv2 rv2 ∧ WT (g0 G) sk L2 cl2 ln2 iv2 rv2 ∧ (-2147483648 ≤ f ∧ f ≤ 2147483647) ∧ (iv2 (sk 23) 2 ≤ iv (sk 23) 2 + 1 ∧ MRK sk cl2 iv2 rv2) ∧ iv2 a0 14 = iv a0 14 ∧ (PIND i j f sk iv rv iv2 rv2)) := by
  refine Mc.mk (by decide) (Nat.le_of_ble_eq_true rfl) ?_
  intro p e s m args below meth c A C hM
  have hph := Phi.le hW hS
  have tsk2 : ty L cl (sk 2) 2 := ⟨(hS 2 rfl).1, by rw [(hS 2 rfl).2]; rfl⟩
  have tsk3 : ty L cl (sk 3) 3 := ⟨(hS 3 rfl).1, by rw [(hS 3 rfl).2]; rfl⟩
  have tsk4 : ty L cl (sk 4) 4 := ⟨(hS 4 rfl).1, by rw [(hS 4 rfl).2]; rfl⟩
  have tsk5 : ty L cl (sk 5) 5 := ⟨(hS 5 rfl).1, by rw [(hS 5 rfl).2]; rfl⟩
  have tsk13 : ty L cl (sk 13) 13 := ⟨(hS 13 rfl).1, by rw [(hS 13 rfl).2]; rfl⟩
  have tsk14 : ty L cl (sk 14) 14 := ⟨(hS 14 rfl).1, by rw [(hS 14 rfl).2]; rfl⟩
  have tsk15 : ty L cl (sk 15) 15 := ⟨(hS 15 rfl).1, by rw [(hS 15 rfl).2]; rfl⟩
  have tsk16 : ty L cl (sk 16) 16 := ⟨(hS 16 rfl).1, by rw [(hS 16 rfl).2]; rfl⟩
  have tsk17 : ty L cl (sk 17) 17 := ⟨(hS 17 rfl).1, by rw [(hS 17 rfl).2]; rfl⟩
  have tsk22 : ty L cl (sk 22) 22 := ⟨(hS 22 rfl).1, by rw [(hS 22 rfl).2]; rfl⟩
  have tsk23 : ty L cl (sk 23) 23 := ⟨(hS 23 rfl).1, by rw [(hS 23 rfl).2]; rfl⟩
  have hX0 : XT L cl ln L cl ln := XT.refl
  have hF0 : fT [1, 65, 66, 206, 68, 23, 1001, 201] L cl iv rv iv rv := fT.refl
  refine c_iload_n (j := 2) C dX11_changeIndicator_0 rfl ?_
  refine c_if_lt (tgt := 9) C ⟨by omega, by omega⟩ dX11_changeIndicator_1 (by decide) (fun c1 => ?_) (fun c1 => ?_)
  · refine c_aload_n (j := 0) (x := a0) C dX11_changeIndicator_9 rfl ?_
    refine c_bipush (z := 6) C dX11_changeIndicator_10 (by decide) ?_
    refine d_callV (As := [.int (iI 6)]) (rest := []) C hM (C_refuse (a0 := a0) (x := 6) hW hS t_a0 ⟨by decide, by decide⟩ ) dX11_changeIndicator_12 kV_X11_102 rfl t_a0 rfl rfl (by decide) ck_12 rfl (Nat.le_of_ble_eq_true rfl) ⟨(Nat.le_of_ble_eq_true rfl), (Nat.le_of_ble_eq_true rfl)⟩ hph hph (show 0 + 0 = 0 from rfl) (by decide) (fun rh1 Lh1 clh1 lnh1 ivh1 rvh1 h1 => ?_)
    obtain ⟨f1, rfl, rfl, rfl, rfl, rfl, fl1, W1, rgf1, exf1, kp14f1⟩ := h1
    have ri1 : (-2147483648) ≤ iv a0 14 ∧ iv a0 14 ≤ 2147483647 := hW.int t_a0 14
    have F1 := hF0.call hX0 fl1 rfl
    have mr1 := MRK.call hmr hW hS XT.refl fl1 rfl rfl
    refine c_st (st2 := [.int (iI f1)]) rfl ?_
    have gk14f1 : ivh1 a0 14 = iv a0 14 := kp14f1
    have gf1 : f1 = -1 := exf1
    have ri2 : (-2147483648) ≤ ivh1 a0 14 ∧ ivh1 a0 14 ≤ 2147483647 := W1.int t_a0 14
    have ri3 : 0 ≤ ivh1 (sk 23) 2 ∧ ivh1 (sk 23) 2 ≤ 512 := W1.int tsk23 2
    have ie2 : ivh1 (sk 23) 2 = iv (sk 23) 2 := fl1.i tsk23 rfl 2
    have ri4 : 0 ≤ ivh1 (sk 22) 2 ∧ ivh1 (sk 22) 2 ≤ 30 := W1.int tsk22 2
    have ie3 : ivh1 (sk 22) 2 = iv (sk 22) 2 := fl1.i tsk22 rfl 2
    have ri5 : 0 ≤ ivh1 (sk 2) 2 ∧ ivh1 (sk 2) 2 ≤ 3000 := W1.int tsk2 2
    have ie4 : ivh1 (sk 2) 2 = iv (sk 2) 2 := fl1.i tsk2 rfl 2
    exact c_iret C dX11_changeIndicator_15 rfl (by decide) (rom0 hph hph (by decide)) ⟨f1, rfl, hX0, F1, W1, ⟨by omega, by omega⟩, ⟨(by omega), mr1⟩, (by omega), (Or.inl ⟨by omega, PSAME.fr hW hS fl1 rfl rfl rfl rfl rfl rfl rfl, (fun ss t hs ht hd h => by
        obtain ⟨h1, h2, h3, h4⟩ := h.1
        omega)⟩)⟩
  · refine c_iload_n (j := 2) C dX11_changeIndicator_4 rfl ?_
    refine c_iconst C dX11_changeIndicator_5 ?_
    refine c_icmp_le (tgt := 16) C ⟨by omega, by omega⟩ ⟨by decide, by decide⟩ dX11_changeIndicator_6 (by decide) (fun c2 => ?_) (fun c2 => ?_)
    · refine c_aload_n (j := 0) (x := a0) C dX11_changeIndicator_16 rfl ?_
      obtain ⟨rb1, rq1, trb1⟩ := hW.ref t_a0 4 rfl rfl rfl
      have erb1 := hW.sk trb1 (by decide) rfl
      subst erb1
      refine c_getr (k := 4) C ck_12 dX11_changeIndicator_17 w2_48 (by decide) t_a0 rfl rfl (by decide) rfl rq1 ?_
      refine c_st (st2 := [.ref (sk 13)]) rfl ?_
      refine c_iload_n (j := 1) C dX11_changeIndicator_20 rfl ?_
      have ri6 : 0 ≤ iv (sk 22) 2 ∧ iv (sk 22) 2 ≤ 30 := hW.int tsk22 2
      refine d_callV (As := [.int (iI i)]) (rest := []) C hM (C_alive (a0 := (sk 13)) (i := i) hW hS tsk13 (by omega) hmr) dX11_changeIndicator_21 kV_X11_131 rfl tsk13 rfl rfl (by decide) ck_11 rfl (Nat.le_of_ble_eq_true rfl) ⟨(Nat.le_of_ble_eq_true rfl), (Nat.le_of_ble_eq_true rfl)⟩ hph hph (show 0 + 0 = 0 from rfl) (by decide) (fun rh2 Lh2 clh2 lnh2 ivh2 rvh2 h2 => ?_)
      obtain ⟨f2, rfl, rfl, rfl, rfl, rfl, rfl, rgf2, exf2⟩ := h2
      refine c_st (st2 := [(va_rf f2)]) rfl ?_
      have gf2 : (∀ b, f2 = some b → ((cl b : Nat) : Int) < 100 + iv (sk 22) 2 ∧ ALV sk iv rv i b) ∧ (f2 = none → ∀ b, ¬ ALV sk iv rv i b) := exf2
      refine c_astorer_n (r := f2) (lv2 := [(3, (va_rf f2)), (0, .ref a0), (1, .int (iI i)), (2, .int (iI j))]) C dX11_changeIndicator_24 (by decide) rfl ?_
      refine c_aloadr_n (j := 0) (r := f2) C dX11_changeIndicator_25 rfl ?_
      refine c_ifnonnull (r := f2) (tgt := 35) C dX11_changeIndicator_26 (by decide) (fun ob1 oq1 => ?_) (fun oq1 => ?_)
      · subst oq1
        have tob1 := rgf2 ob1 rfl
        have akob1 := gf2.1 ob1 rfl
        refine c_lv (lv2 := [(3, .ref ob1), (0, .ref a0), (1, .int (iI i)), (2, .int (iI j))]) [0, 1, 2, 3] rfl ?_
        refine c_st (st2 := []) rfl ?_
        refine c_aload_n (j := 0) (x := ob1) C dX11_changeIndicator_35 rfl ?_
        refine c_iload_n (j := 3) C dX11_changeIndicator_36 rfl ?_
        have ri7 : (-2147483648) ≤ iv ob1 0 ∧ iv ob1 0 ≤ 2147483647 := hW.int tob1 0
        refine d_callV (As := [.int (iI j)]) (rest := []) C hM (C_mayHave (a0 := ob1) (i := j) hW hS tob1 (by omega) ) dX11_changeIndicator_37 kV_X11_211 rfl tob1 rfl rfl (by decide) ck_10 rfl (Nat.le_of_ble_eq_true rfl) ⟨(Nat.le_of_ble_eq_true rfl), (Nat.le_of_ble_eq_true rfl)⟩ hph hph (show 0 + 0 = 0 from rfl) (by decide) (fun rh3 Lh3 clh3 lnh3 ivh3 rvh3 h3 => ?_)
        obtain ⟨f3, rfl, rfl, rfl, rfl, rfl, rfl, rgf3, exf3⟩ := h3
        refine c_st (st2 := [.int (iI f3)]) rfl ?_
        have gf3 : MH f3 j (iv ob1 0) := exf3
        refine c_if_ne (tgt := 49) C ⟨by omega, by omega⟩ dX11_changeIndicator_40 (by decide) (fun c3 => ?_) (fun c3 => ?_)
        · refine c_aload_n (j := 1) (x := a0) C dX11_changeIndicator_49 rfl ?_
          refine c_iconst C dX11_changeIndicator_50 ?_
          refine c_aload_n (j := 0) (x := ob1) C dX11_changeIndicator_51 rfl ?_
          have ri8 : (-2147483648) ≤ iv ob1 1 ∧ iv ob1 1 ≤ 2147483647 := hW.int tob1 1
          refine c_get (k := 1) C ck_10 dX11_changeIndicator_52 w2_179 (by decide) tob1 rfl rfl (by decide) rfl ?_
          have ri9 : 0 ≤ iv (sk 2) 2 ∧ iv (sk 2) 2 ≤ 3000 := hW.int tsk2 2
          refine d_callV (As := [.int (iI 0), .int (iI (iv ob1 1))]) (rest := []) C hM (C_isRow (a0 := a0) (i := 0) (n := iv ob1 1) hW hS t_a0 ⟨by decide, by decide⟩ (by omega) (by show 0 ≤ (0 : Int); omega)) dX11_changeIndicator_55 kV_X11_175 rfl t_a0 rfl rfl (by decide) ck_12 rfl (Nat.le_of_ble_eq_true rfl) ⟨(Nat.le_of_ble_eq_true rfl), (Nat.le_of_ble_eq_true rfl)⟩ hph hph (show 0 + 0 = 0 from rfl) (by decide) (fun rh4 Lh4 clh4 lnh4 ivh4 rvh4 h4 => ?_)
          obtain ⟨f4, rfl, rfl, rfl, rfl, rfl, rfl, rgf4, exf4, irxf4⟩ := h4
          refine c_st (st2 := [.int (iI f4)]) rfl ?_
          have gf4 : f4 = 0 ∨ iv (sk 2) 2 - (0 : Int) ≤ 4 := exf4
          refine c_if_ne (tgt := 68) C ⟨by omega, by omega⟩ dX11_changeIndicator_58 (by decide) (fun c4 => ?_) (fun c4 => ?_)
          · refine c_aload_n (j := 1) (x := a0) C dX11_changeIndicator_68 rfl ?_
            refine c_getr (k := 4) C ck_12 dX11_changeIndicator_69 w2_48 (by decide) t_a0 rfl rfl (by decide) rfl rq1 ?_
            refine c_st (st2 := [.ref (sk 13)]) rfl ?_
            refine c_new C ck_1 dv_1 ⟨rfl, rfl⟩ rfl (by decide) dX11_changeIndicator_72 w3_98 w3_35 w1_18 (rom2 hph hph (by decide)) (fun qn1 cln1 lnn1 ivn1 rvn1 hqn1 hcn1 hln1 hin1 hrn1 => ⟨20, (p_in (Phi.new hW hS hqn1 (fun b _ => by rw [hln1]) hrn1) (by omega)), ?_⟩)
            refine c_g0 C (fun hg1 => ?_)
            have hxn1 : ∀ b, b ≠ qn1 → lnn1 b = ln b := (fun b _ => by rw [hln1])
            have W5 := hW.new (ln2 := lnn1) hqn1 (hg1 qn1 (List.mem_append_right _ List.mem_cons_self)) hcn1 hxn1 hin1 hrn1 (fun _ => ⟨(show (-2147483648 : Int) ≤ 0 by decide), (show (0 : Int) ≤ 2147483647 by decide)⟩) (Or.inl rfl) (fun q => by cases q) rfl rfl
            have xl5 := XT.new hqn1 hcn1 hxn1
            have X1 := hX0.trans xl5
            have sk1 := xl5.skl hS
            have F2 := hF0.new hX0 hqn1 hin1 hrn1
            have mr2 := MRK.call hmr hW hS xl5 ((fT.refl (ls := [])).new (XT.refl (ln := ln)) hqn1 hin1 hrn1) rfl rfl
            have tqn1 : ty (L ++ [qn1]) cln1 qn1 201 := ty_new hcn1
            have h0qn1 : qn1 ∉ L := fun h => hqn1 ((hX0 qn1 h).1)
            refine c_dup C dX11_changeIndicator_75 rfl ?_
            refine c_iconst C dX11_changeIndicator_76 ?_
            refine c_aload_n (j := 0) (x := ob1) C dX11_changeIndicator_77 rfl ?_
            refine c_aload_n (j := 0) (x := ob1) C dX11_changeIndicator_78 rfl ?_
            have ty1 := xl5.ty tob1
            obtain ⟨rb2, rq2, trb2⟩ := W5.ref ty1 6 rfl rfl rfl
            have lnrb2 : 4 ≤ lnn1 rb2 ∧ lnn1 rb2 ≤ 4 := W5.len trb2 rfl
            refine c_getr (k := 6) C ck_10 dX11_changeIndicator_79 w2_196 (by decide) ty1 rfl rfl (by decide) rfl rq2 ?_
            refine c_st (st2 := [.ref rb2, .ref ob1, .int (iI 4), .ref qn1, .ref qn1, .ref (sk 13)]) rfl ?_
            refine c_iload_n (j := 3) C dX11_changeIndicator_82 rfl ?_
            have ll1 : 4 ≤ lnn1 rb2 ∧ lnn1 rb2 ≤ 4 := W5.len trb2 rfl
            rcases W5.opt trb2 (j.toNat) rfl rfl with ⟨nq1, _⟩ | ⟨nb1, nq1, tnb1⟩
            · refine c_aaldR C dX11_changeIndicator_83 trb2 rfl (by omega) (by omega) (by omega) nq1 ?_
              refine c_st (st2 := [.null, .ref ob1, .int (iI 4), .ref qn1, .ref qn1, .ref (sk 13)]) rfl ?_
              refine c_iload_n (j := 3) C dX11_changeIndicator_84 rfl ?_
              have pl1 := Phi.le W5 sk1
              refine c_callI (As := [.int (iI 4), .ref ob1, .null, .int (iI j)]) (rest := [.ref qn1, .ref (sk 13)]) C hM (Z_change (a0 := qn1) (i := 4) (a2 := ob1) (r := none) (n := j) W5 sk1 tqn1 ty1 (fun _ q => by cases q) ⟨by decide, by decide⟩ (by omega) ) dX11_changeIndicator_85 kI_X11_149 rfl rfl (Nat.le_of_ble_eq_true rfl) ⟨(Nat.le_of_ble_eq_true rfl), (Nat.le_of_ble_eq_true rfl)⟩ (rz1 hph pl1 (by decide)) (fun rh5 Lh5 clh5 lnh5 ivh5 rvh5 h5 => ⟨20, (zk1 (by obtain ⟨_, _, _, e3, flh5x, Wh5x, _⟩ := h5; subst e3; exact Phi.frn sk1 flh5x rfl)), ?_⟩)
              obtain ⟨rfl, rfl, rfl, rfl, fl5, W6, exf5⟩ := h5
              have F3 := F2.call X1 fl5 rfl
              have mr3 := MRK.call mr2 W5 sk1 XT.refl fl5 rfl rfl
              refine c_st (st2 := [.ref qn1, .ref (sk 13)]) rfl ?_
              obtain ⟨exf5x, exf5r, exf5p, exf5i, exf5j⟩ := exf5
              have rn1 : ∀ k, ([1, 2] : List Nat).contains k = false → rvh5 qn1 k = none := fun k hk => (Eq.trans (show rvh5 qn1 k = rvn1 qn1 k from (exf5x k hk)) (show rvn1 qn1 k = none from (by rw [hrn1]; exact up0_s)))
              refine c_retag (q := qn1) (t := 21) (by rw [tqn1.2]; rfl) (fun clr1 hcr1 => ?_)
              have ty2 := xl5.ty t_a0
              have ty3 := ty_rt ty2 hcr1 (ne_ty ty2 tqn1 (by decide))
              have ty4 := xl5.ty tsk2
              have ty5 := ty_rt ty4 hcr1 (ne_ty ty4 tqn1 (by decide))
              have ty6 := xl5.ty tsk3
              have ty7 := ty_rt ty6 hcr1 (ne_ty ty6 tqn1 (by decide))
              have ty8 := xl5.ty tsk4
              have ty9 := ty_rt ty8 hcr1 (ne_ty ty8 tqn1 (by decide))
              have ty10 := xl5.ty tsk5
              have ty11 := ty_rt ty10 hcr1 (ne_ty ty10 tqn1 (by decide))
              have ty12 := xl5.ty tsk13
              have ty13 := ty_rt ty12 hcr1 (ne_ty ty12 tqn1 (by decide))
              have ty14 := xl5.ty tsk14
              have ty15 := ty_rt ty14 hcr1 (ne_ty ty14 tqn1 (by decide))
              have ty16 := xl5.ty tsk15
              have ty17 := ty_rt ty16 hcr1 (ne_ty ty16 tqn1 (by decide))
              have ty18 := xl5.ty tsk16
              have ty19 := ty_rt ty18 hcr1 (ne_ty ty18 tqn1 (by decide))
              have ty20 := xl5.ty tsk17
              have ty21 := ty_rt ty20 hcr1 (ne_ty ty20 tqn1 (by decide))
              have ty22 := xl5.ty tsk22
              have ty23 := ty_rt ty22 hcr1 (ne_ty ty22 tqn1 (by decide))
              have ty24 := xl5.ty tsk23
              have ty25 := ty_rt ty24 hcr1 (ne_ty ty24 tqn1 (by decide))
              have ty26 := ty_rt ty1 hcr1 (ne_ty ty1 tqn1 (by decide))
              have ty27 := ty_rt trb2 hcr1 (ne_ty trb2 tqn1 (by decide))
              have tqr1 : ty (L ++ [qn1]) clr1 qn1 21 := ⟨tqn1.1, by rw [hcr1, va_up_self]; rfl⟩
              have W7 := W6.retag tqn1.1 (by rw [tqn1.2]; rfl) hcr1 (fun k => by
                    rcases k with _ | _ | _ | _ | k
                    · exact W6.int tqn1 0
                    · exact W6.int tqn1 1
                    · exact W6.int tqn1 2
                    · exact W6.int tqn1 3
                    · exact W6.int tqn1 (k + 4)) (fun k => by
                    rcases k with _ | _ | _ | _ | k
                    · rw [rn1 0 (by decide)]; exact rok_none tqr1 rfl
                    · rw [exf5r]; exact rok_some tqr1 ty26 rfl (by decide) rfl
                    · rw [exf5p]; exact rok_ch tqr1 (fun _ q => by cases q)
                    · rw [rn1 3 (by decide)]; exact rok_none tqr1 rfl
                    · rw [rn1 (k + 4) (by simp)]; exact rok_none tqr1 rfl) rfl (fun z => by cases z) (fun z => by cases z) rfl
              have X2 := X1.rt hcr1 h0qn1
              have sk2 := sk1.rt hcr1 (by rw [tqn1.2]; rfl)
              have mr4 := MRK.rt mr3 W6 sk1 hcr1 (by rw [tqn1.2]; rfl)
              have on1 := fun b hb => xl5.ty (rgf2 b hb)
              have on2 := fun b hb => ty_rt (on1 b hb) hcr1 (ne_ty (on1 b hb) tqn1 (by decide))
              have ce1 : ∀ i : Nat, (i : Int) < iv (sk 23) 2 → el rvh5 (sk 23) i = el rv (sk 23) i := (fun i hi => el_ch hW (tysk23 hS) rfl rfl ((show ∀ bb, ty L cl bb 23 → rvh5 bb 1 = rv bb 1 from fun bb tbb => by have tb1 := xl5.ty tbb; exact (Eq.trans (show rvh5 bb 1 = rvn1 bb 1 from (fl5.r tb1 rfl 1)) (show rvn1 bb 1 = rv bb 1 from (by rw [hrn1]; exact congrFun (up0_a (ne_in tbb.1 hqn1)) _)))) (sk 23) (tysk23 hS)) (fun bb tbb kk => by have tb1 := xl5.ty tbb; exact (Eq.trans (show rvh5 bb kk = rvn1 bb kk from (fl5.r tb1 rfl kk)) (show rvn1 bb kk = rv bb kk from (by rw [hrn1]; exact congrFun (up0_a (ne_in tbb.1 hqn1)) _)))) hi)
              have ri10 : 0 ≤ ivh5 (sk 23) 2 ∧ ivh5 (sk 23) 2 ≤ 512 := W7.int ty25 2
              have ie5 : ivh5 (sk 23) 2 = ivn1 (sk 23) 2 := fl5.i ty24 rfl 2
              have ie6 : ivn1 (sk 23) 2 = iv (sk 23) 2 := by rw [hin1]; exact congrFun (up0_a (ne_in tsk23.1 hqn1)) _
              have pl2 := Phi.le W7 sk2
              refine d_callV (As := [.ref qn1]) (rest := []) C hM (C_remember (a0 := (sk 13)) (a1 := qn1) W7 sk2 ty13 tqr1  (by show ivh5 (sk 23) 2 < 512; omega)) dX11_changeIndicator_88 kV_X11_152 rfl ty13 rfl rfl (by decide) ck_11 rfl (Nat.le_of_ble_eq_true rfl) ⟨(Nat.le_of_ble_eq_true rfl), (Nat.le_of_ble_eq_true rfl)⟩ hph pl2 (show 20 + 1216 = 1236 from rfl) (by decide) (fun rh6 Lh6 clh6 lnh6 ivh6 rvh6 h6 => ?_)
              obtain ⟨rfl, xl7, fl6, W8, exf6, rmef6⟩ := h6
              have F4 := F3.call X2 fl6 rfl
              have mr5 := MRK.call mr4 W7 sk2 xl7 fl6 rfl rfl
              have X3 := X2.trans xl7
              have sk3 := xl7.skl sk2
              refine c_st (st2 := []) rfl ?_
              have ty28 := xl7.ty ty25
              have ri11 : 0 ≤ ivh6 (sk 23) 2 ∧ ivh6 (sk 23) 2 ≤ 512 := W8.int ty28 2
              have gf6 : ivh6 (sk 23) 2 = ivh5 (sk 23) 2 + 1 := exf6
              refine c_aload_n (j := 0) (x := ob1) C dX11_changeIndicator_91 rfl ?_
              have ty29 := xl7.ty ty26
              have re1 : rvh5 ob1 6 = rvn1 ob1 6 := (fl5.r ty1 rfl 6)
              rw [rq2] at re1
              have re2 : rvh6 ob1 6 = rvh5 ob1 6 := (fl6.r ty26 rfl 6)
              rw [re1] at re2
              refine c_getr (k := 6) C ck_10 dX11_changeIndicator_92 w2_196 (by decide) ty29 rfl rfl (by decide) rfl re2 ?_
              refine c_st (st2 := [.ref rb2]) rfl ?_
              refine c_iload_n (j := 3) C dX11_changeIndicator_95 rfl ?_
              refine c_aload_n (j := 1) (x := a0) C dX11_changeIndicator_96 rfl ?_
              have ty30 := xl7.ty ty3
              obtain ⟨rb3, rq3, trb3⟩ := W8.ref ty30 0 rfl rfl rfl
              have erb3 := W8.sk trb3 (by decide) rfl
              subst erb3
              refine c_getr (k := 0) C ck_12 dX11_changeIndicator_97 w2_44 (by decide) ty30 rfl rfl (by decide) rfl rq3 ?_
              refine c_st (st2 := [.ref (sk 2), .int (iI j), .ref rb2]) rfl ?_
              have ty31 := xl7.ty ty5
              have ri12 : 0 ≤ ivh6 (sk 2) 2 ∧ ivh6 (sk 2) 2 ≤ 3000 := W8.int ty31 2
              have ie8 : ivh6 (sk 2) 2 = ivh5 (sk 2) 2 := fl6.i ty5 rfl 2
              have ie9 : ivh5 (sk 2) 2 = ivn1 (sk 2) 2 := fl5.i ty4 rfl 2
              have ie10 : ivn1 (sk 2) 2 = iv (sk 2) 2 := by rw [hin1]; exact congrFun (up0_a (ne_in tsk2.1 hqn1)) _
              refine c_get (k := 2) C ck_2 dX11_changeIndicator_100 w1_44 (by decide) ty31 rfl rfl (by decide) rfl ?_
              refine c_if_ne (tgt := 110) C ⟨by omega, by omega⟩ dX11_changeIndicator_103 (by decide) (fun c5 => ?_) (fun c5 => ?_)
              · have ty32 := xl7.ty ty7
                have ty33 := xl7.ty ty9
                have ty34 := xl7.ty ty11
                have ty35 := xl7.ty ty13
                have ty36 := xl7.ty ty15
                have ty37 := xl7.ty ty17
                have ty38 := xl7.ty ty19
                have ty39 := xl7.ty ty21
                have ty40 := xl7.ty ty23
                have ty41 := xl7.ty tqr1
                have ty42 := xl7.ty ty27
                have pl3 := Phi.le W8 sk3
                refine c_new C ck_6 dv_6 ⟨rfl, rfl⟩ rfl (by decide) dX11_changeIndicator_110 w3_125 w3_126 w1_21 (rom2 hph pl3 (by decide)) (fun qn2 cln2 lnn2 ivn2 rvn2 hqn2 hcn2 hln2 hin2 hrn2 => ⟨1256, (p_in (Phi.new W8 sk3 hqn2 (fun b _ => by rw [hln2]) hrn2) (by omega)), ?_⟩)
                refine c_g0 C (fun hg2 => ?_)
                have hxn2 : ∀ b, b ≠ qn2 → lnn2 b = lnh6 b := (fun b _ => by rw [hln2])
                have W9 := W8.new (ln2 := lnn2) hqn2 (hg2 qn2 (List.mem_append_right _ List.mem_cons_self)) hcn2 hxn2 hin2 hrn2 (fun _ => ⟨(show (-2147483648 : Int) ≤ 0 by decide), (show (0 : Int) ≤ 2147483647 by decide)⟩) (Or.inl rfl) (fun q => by cases q) rfl rfl
                have xl8 := XT.new hqn2 hcn2 hxn2
                have X4 := X3.trans xl8
                have sk4 := xl8.skl sk3
                have F5 := F4.new X3 hqn2 hin2 hrn2
                have mr6 := MRK.call mr5 W8 sk3 xl8 ((fT.refl (ls := [])).new (XT.refl (ln := lnh6)) hqn2 hin2 hrn2) rfl rfl
                have tqn2 : ty (Lh6 ++ [qn2]) cln2 qn2 206 := ty_new hcn2
                have h0qn2 : qn2 ∉ L := fun h => hqn2 ((X3 qn2 h).1)
                refine c_dup C dX11_changeIndicator_113 rfl ?_
                refine c_iload_n (j := 3) C dX11_changeIndicator_114 rfl ?_
                refine c_aload_n (j := 1) (x := a0) C dX11_changeIndicator_115 rfl ?_
                have ty43 := xl8.ty ty30
                have re3 : rvn2 a0 0 = rvh6 a0 0 := (by rw [hrn2]; exact congrFun (up0_a (ne_in ty30.1 hqn2)) _)
                rw [rq3] at re3
                refine c_getr (k := 0) C ck_12 dX11_changeIndicator_116 w2_44 (by decide) ty43 rfl rfl (by decide) rfl re3 ?_
                refine c_st (st2 := [.ref (sk 2), .int (iI j), .ref qn2, .ref qn2, .int (iI j), .ref rb2]) rfl ?_
                refine c_iconst C dX11_changeIndicator_119 ?_
                refine c_iconst C dX11_changeIndicator_120 ?_
                have ty44 := xl8.ty ty31
                have pl4 := Phi.le W9 sk4
                refine d_callV (As := [.int (iI 0), .int (iI 0)]) (rest := [.int (iI j), .ref qn2, .ref qn2, .int (iI j), .ref rb2]) C hM (C_slice_65 (a0 := (sk 2)) (i := 0) (j := 0) W9 sk4 ty44 ⟨by decide, by decide⟩ ⟨by decide, by decide⟩ (by show 0 ≤ (0 : Int) ∧ (0 : Int) ≤ 3000 ∧ 0 ≤ (0 : Int) - (0 : Int) ∧ (0 : Int) - (0 : Int) ≤ 8; omega)) dX11_changeIndicator_121 kV_X11_190 rfl ty44 rfl rfl (by decide) ck_2 rfl (Nat.le_of_ble_eq_true rfl) ⟨(Nat.le_of_ble_eq_true rfl), (Nat.le_of_ble_eq_true rfl)⟩ hph pl4 (show 1256 + 24 = 1280 from rfl) (by decide) (fun rh7 Lh7 clh7 lnh7 ivh7 rvh7 h7 => ?_)
                obtain ⟨f7, rfl, xl9, fl7, W10, rgf7, exf7⟩ := h7
                have F6 := F5.call X4 fl7 rfl
                have mr7 := MRK.call mr6 W9 sk4 xl9 fl7 rfl rfl
                have ty45 := xl8.ty ty32
                have ty46 := xl8.ty ty33
                have ty47 := xl8.ty ty34
                have ty48 := xl8.ty ty35
                have ty49 := xl8.ty ty36
                have ty50 := xl8.ty ty37
                have ty51 := xl8.ty ty38
                have ty52 := xl8.ty ty39
                have ty53 := xl8.ty ty40
                have ty54 := xl8.ty ty28
                have ty55 := xl8.ty ty29
                have ty56 := xl8.ty ty41
                have ty57 := xl8.ty ty42
                have X5 := X4.trans xl9
                have sk5 := xl9.skl sk4
                refine c_st (st2 := [.ref f7, .int (iI j), .ref qn2, .ref qn2, .int (iI j), .ref rb2]) rfl ?_
                have gf7 : lnh7 f7 = ((0 : Int) - (0 : Int)).toNat := exf7
                refine c_aload_n (j := 1) (x := a0) C dX11_changeIndicator_124 rfl ?_
                have ty58 := xl9.ty ty43
                have re4 : rvh7 a0 0 = rvn2 a0 0 := (fl7.r ty43 rfl 0)
                rw [re3] at re4
                refine c_getr (k := 0) C ck_12 dX11_changeIndicator_125 w2_44 (by decide) ty58 rfl rfl (by decide) rfl re4 ?_
                refine c_st (st2 := [.ref (sk 2), .ref f7, .int (iI j), .ref qn2, .ref qn2, .int (iI j), .ref rb2]) rfl ?_
                refine c_iconst C dX11_changeIndicator_128 ?_
                refine c_aload_n (j := 1) (x := a0) C dX11_changeIndicator_129 rfl ?_
                refine c_getr (k := 0) C ck_12 dX11_changeIndicator_130 w2_44 (by decide) ty58 rfl rfl (by decide) rfl re4 ?_
                refine c_st (st2 := [.ref (sk 2), .int (iI 0), .ref (sk 2), .ref f7, .int (iI j), .ref qn2, .ref qn2, .int (iI j), .ref rb2]) rfl ?_
                have ty59 := xl9.ty ty44
                have ri13 : 0 ≤ ivh7 (sk 2) 2 ∧ ivh7 (sk 2) 2 ≤ 3000 := W10.int ty59 2
                have ie11 : ivh7 (sk 2) 2 = ivn2 (sk 2) 2 := fl7.i ty44 rfl 2
                have ie12 : ivn2 (sk 2) 2 = ivh6 (sk 2) 2 := by rw [hin2]; exact congrFun (up0_a (ne_in ty31.1 hqn2)) _
                refine c_get (k := 2) C ck_2 dX11_changeIndicator_133 w1_44 (by decide) ty59 rfl rfl (by decide) rfl ?_
                have pl5 := Phi.le W10 sk5
                refine d_callV (As := [.int (iI 0), .int (iI (ivh7 (sk 2) 2))]) (rest := [.ref f7, .int (iI j), .ref qn2, .ref qn2, .int (iI j), .ref rb2]) C hM (C_slice_66 (a0 := (sk 2)) (i := 0) (j := ivh7 (sk 2) 2) W10 sk5 ty59 ⟨by decide, by decide⟩ (by omega) (by show 0 ≤ (0 : Int) ∧ (0 : Int) ≤ 3000 ∧ 1 ≤ (ivh7 (sk 2) 2) - (0 : Int) ∧ (ivh7 (sk 2) 2) - (0 : Int) ≤ 4; omega)) dX11_changeIndicator_136 kV_X11_190 rfl ty59 rfl rfl (by decide) ck_2 rfl (Nat.le_of_ble_eq_true rfl) ⟨(Nat.le_of_ble_eq_true rfl), (Nat.le_of_ble_eq_true rfl)⟩ hph pl5 (show 1280 + 20 = 1300 from rfl) (by decide) (fun rh8 Lh8 clh8 lnh8 ivh8 rvh8 h8 => ?_)
                obtain ⟨f8, rfl, xl10, fl8, W11, rgf8, exf8⟩ := h8
                have F7 := F6.call X5 fl8 rfl
                have mr8 := MRK.call mr7 W10 sk5 xl10 fl8 rfl rfl
                have ty60 := xl9.ty ty45
                have ty61 := xl9.ty ty46
                have ty62 := xl9.ty ty47
                have ty63 := xl9.ty ty48
                have ty64 := xl9.ty ty49
                have ty65 := xl9.ty ty50
                have ty66 := xl9.ty ty51
                have ty67 := xl9.ty ty52
                have ty68 := xl9.ty ty53
                have ty69 := xl9.ty ty54
                have ty70 := xl9.ty ty55
                have ty71 := xl9.ty ty56
                have ty72 := xl9.ty ty57
                have ty73 := xl9.ty tqn2
                have X6 := X5.trans xl10
                have sk6 := xl10.skl sk5
                refine c_st (st2 := [.ref f8, .ref f7, .int (iI j), .ref qn2, .ref qn2, .int (iI j), .ref rb2]) rfl ?_
                have gf8 : lnh8 f8 = ((ivh7 (sk 2) 2) - (0 : Int)).toNat := exf8
                have ty74 := xl10.ty ty73
                have ty75 := xl10.ty rgf7
                have pl6 := Phi.le W11 sk6
                refine c_callI (As := [.int (iI j), .ref f7, .ref f8]) (rest := [.ref qn2, .int (iI j), .ref rb2]) C hM (Z_row (a0 := qn2) (i := j) (a2 := f7) (a3 := f8) W11 sk6 ty74 ty75 rgf8 (by omega) ) dX11_changeIndicator_139 kI_X11_194 rfl rfl (Nat.le_of_ble_eq_true rfl) ⟨(Nat.le_of_ble_eq_true rfl), (Nat.le_of_ble_eq_true rfl)⟩ (rz1 hph pl6 (by decide)) (fun rh9 Lh9 clh9 lnh9 ivh9 rvh9 h9 => ⟨1300, (zk1 (by obtain ⟨_, _, _, e3, flh9x, Wh9x, _⟩ := h9; subst e3; exact Phi.frn sk6 flh9x rfl)), ?_⟩)
                obtain ⟨rfl, rfl, rfl, rfl, fl9, W12, exf9⟩ := h9
                have F8 := F7.call X6 fl9 rfl
                have mr9 := MRK.call mr8 W11 sk6 XT.refl fl9 rfl rfl
                refine c_st (st2 := [.ref qn2, .int (iI j), .ref rb2]) rfl ?_
                obtain ⟨exf9x, exf9r, exf9p, exf9i, exf9j⟩ := exf9
                have rn2 : ∀ k, ([1, 2] : List Nat).contains k = false → rvh9 qn2 k = none := fun k hk => (Eq.trans (show rvh9 qn2 k = rvh8 qn2 k from (exf9x k hk)) (Eq.trans (show rvh8 qn2 k = rvh7 qn2 k from (fl8.r ty73 rfl k)) (Eq.trans (show rvh7 qn2 k = rvn2 qn2 k from (fl7.r tqn2 rfl k)) (show rvn2 qn2 k = none from (by rw [hrn2]; exact up0_s)))))
                refine c_retag (q := qn2) (t := 20) (by rw [ty74.2]; rfl) (fun clr2 hcr2 => ?_)
                have ty76 := xl10.ty ty58
                have ty77 := ty_rt ty76 hcr2 (ne_ty ty76 ty74 (by decide))
                have ty78 := xl10.ty ty59
                have ty79 := ty_rt ty78 hcr2 (ne_ty ty78 ty74 (by decide))
                have ty80 := xl10.ty ty60
                have ty81 := ty_rt ty80 hcr2 (ne_ty ty80 ty74 (by decide))
                have ty82 := xl10.ty ty61
                have ty83 := ty_rt ty82 hcr2 (ne_ty ty82 ty74 (by decide))
                have ty84 := xl10.ty ty62
                have ty85 := ty_rt ty84 hcr2 (ne_ty ty84 ty74 (by decide))
                have ty86 := xl10.ty ty63
                have ty87 := ty_rt ty86 hcr2 (ne_ty ty86 ty74 (by decide))
                have ty88 := xl10.ty ty64
                have ty89 := ty_rt ty88 hcr2 (ne_ty ty88 ty74 (by decide))
                have ty90 := xl10.ty ty65
                have ty91 := ty_rt ty90 hcr2 (ne_ty ty90 ty74 (by decide))
                have ty92 := xl10.ty ty66
                have ty93 := ty_rt ty92 hcr2 (ne_ty ty92 ty74 (by decide))
                have ty94 := xl10.ty ty67
                have ty95 := ty_rt ty94 hcr2 (ne_ty ty94 ty74 (by decide))
                have ty96 := xl10.ty ty68
                have ty97 := ty_rt ty96 hcr2 (ne_ty ty96 ty74 (by decide))
                have ty98 := xl10.ty ty69
                have ty99 := ty_rt ty98 hcr2 (ne_ty ty98 ty74 (by decide))
                have ty100 := xl10.ty ty70
                have ty101 := ty_rt ty100 hcr2 (ne_ty ty100 ty74 (by decide))
                have ty102 := xl10.ty ty71
                have ty103 := ty_rt ty102 hcr2 (ne_ty ty102 ty74 (by decide))
                have ty104 := xl10.ty ty72
                have ty105 := ty_rt ty104 hcr2 (ne_ty ty104 ty74 (by decide))
                have ty106 := ty_rt ty75 hcr2 (ne_ty ty75 ty74 (by decide))
                have ty107 := ty_rt rgf8 hcr2 (ne_ty rgf8 ty74 (by decide))
                have tqr2 : ty Lh8 clr2 qn2 20 := ⟨ty74.1, by rw [hcr2, va_up_self]; rfl⟩
                have W13 := W12.retag ty74.1 (by rw [ty74.2]; rfl) hcr2 (fun k => by
                      rcases k with _ | _ | _ | _ | k
                      · exact W12.int ty74 0
                      · exact W12.int ty74 1
                      · exact W12.int ty74 2
                      · exact W12.int ty74 3
                      · exact W12.int ty74 (k + 4)) (fun k => by
                      rcases k with _ | _ | _ | _ | k
                      · rw [rn2 0 (by decide)]; exact rok_none tqr2 rfl
                      · rw [exf9r]; exact rok_some tqr2 ty106 rfl (by decide) rfl
                      · rw [exf9p]; exact rok_some tqr2 ty107 rfl (by decide) rfl
                      · rw [rn2 3 (by decide)]; exact rok_none tqr2 rfl
                      · rw [rn2 (k + 4) (by simp)]; exact rok_none tqr2 rfl) rfl (fun z => by cases z) (fun z => by cases z) rfl
                have X7 := X6.rt hcr2 h0qn2
                have sk7 := sk6.rt hcr2 (by rw [ty74.2]; rfl)
                have mr10 := MRK.rt mr9 W12 sk6 hcr2 (by rw [ty74.2]; rfl)
                have on3 := fun b hb => xl7.ty (on2 b hb)
                have on4 := fun b hb => xl8.ty (on3 b hb)
                have on5 := fun b hb => xl9.ty (on4 b hb)
                have on6 := fun b hb => xl10.ty (on5 b hb)
                have on7 := fun b hb => ty_rt (on6 b hb) hcr2 (ne_ty (on6 b hb) ty74 (by decide))
                have ll2 : 4 ≤ lnh8 rb2 ∧ lnh8 rb2 ≤ 4 := W13.len ty105 rfl
                refine c_aastR (z := j) C ck_6 dX11_changeIndicator_142 ty105 rfl tqr2 rfl rfl (by decide) (by omega) (by omega) (by omega) (fun rv1 pq1 => ⟨1300, (by rw [Phi.putr sk7 pq1 ty105 rfl]; exact Nat.le_refl _), ?_⟩)
                have W14 := W13.putr pq1 ty105 (rok_some ty105 tqr2 rfl (by decide) rfl) rfl (by decide)
                have F9 := F8.putr X7 pq1 ty105 rfl
                have mr11 := MRK.putr mr10 W13 sk7 pq1 ty105 (by decide) (by decide)
                refine c_aload_n (j := 1) (x := a0) C dX11_changeIndicator_143 rfl ?_
                refine c_aload_n (j := 1) (x := a0) C dX11_changeIndicator_144 rfl ?_
                have re5 : rvh8 a0 0 = rvh7 a0 0 := (fl8.r ty58 rfl 0)
                rw [re4] at re5
                have re6 : rvh9 a0 0 = rvh8 a0 0 := (fl9.r ty76 rfl 0)
                rw [re5] at re6
                have re7 : rv1 a0 0 = rvh9 a0 0 := (by rw [pq1]; exact congrFun (upr_a (ne_ty ty77 ty105 (by decide))) _)
                rw [re6] at re7
                refine c_getr (k := 0) C ck_12 dX11_changeIndicator_145 w2_44 (by decide) ty77 rfl rfl (by decide) rfl re7 ?_
                refine c_st (st2 := [.ref (sk 2), .ref a0]) rfl ?_
                have ri14 : 0 ≤ ivh9 (sk 2) 2 ∧ ivh9 (sk 2) 2 ≤ 3000 := W14.int ty79 2
                have ie13 : ivh9 (sk 2) 2 = ivh8 (sk 2) 2 := fl9.i ty78 rfl 2
                have ie14 : ivh8 (sk 2) 2 = ivh7 (sk 2) 2 := fl8.i ty59 rfl 2
                refine c_get (k := 2) C ck_2 dX11_changeIndicator_148 w1_44 (by decide) ty79 rfl rfl (by decide) rfl ?_
                have pl7 := Phi.le W14 sk7
                refine d_callV (As := [.int (iI (ivh9 (sk 2) 2))]) (rest := []) C hM (C_done (a0 := a0) (x := ivh9 (sk 2) 2) W14 sk7 ty77 (by omega) ) dX11_changeIndicator_151 kV_X11_109 rfl ty77 rfl rfl (by decide) ck_12 rfl (Nat.le_of_ble_eq_true rfl) ⟨(Nat.le_of_ble_eq_true rfl), (Nat.le_of_ble_eq_true rfl)⟩ hph pl7 (show 1300 + 0 = 1300 from rfl) (by decide) (fun rh10 Lh10 clh10 lnh10 ivh10 rvh10 h10 => ?_)
                obtain ⟨f10, rfl, rfl, rfl, rfl, rfl, fl10, W15, rgf10, exf10, kp14f10⟩ := h10
                have ri15 : (-2147483648) ≤ ivh9 a0 14 ∧ ivh9 a0 14 ≤ 2147483647 := W14.int ty77 14
                have ie15 : ivh9 a0 14 = ivh8 a0 14 := fl9.i ty76 rfl 14
                have ie16 : ivh8 a0 14 = ivh7 a0 14 := fl8.i ty58 rfl 14
                have ie17 : ivh7 a0 14 = ivn2 a0 14 := fl7.i ty43 rfl 14
                have ie18 : ivn2 a0 14 = ivh6 a0 14 := by rw [hin2]; exact congrFun (up0_a (ne_in ty30.1 hqn2)) _
                have ie19 : ivh6 a0 14 = ivh5 a0 14 := fl6.i ty3 rfl 14
                have ie20 : ivh5 a0 14 = ivn1 a0 14 := fl5.i ty2 rfl 14
                have ie21 : ivn1 a0 14 = iv a0 14 := by rw [hin1]; exact congrFun (up0_a (ne_in t_a0.1 hqn1)) _
                have F10 := F9.call X7 fl10 rfl
                have mr12 := MRK.call mr11 W14 sk7 XT.refl fl10 rfl rfl
                refine c_st (st2 := [.int (iI f10)]) rfl ?_
                have gk14f10 : ivh10 a0 14 = ivh9 a0 14 := kp14f10
                have gf10 : f10 = (ivh9 (sk 2) 2) := exf10
                have ri16 : (-2147483648) ≤ ivh10 a0 14 ∧ ivh10 a0 14 ≤ 2147483647 := W15.int ty77 14
                have ri17 : 0 ≤ ivh10 (sk 23) 2 ∧ ivh10 (sk 23) 2 ≤ 512 := W15.int ty99 2
                have ie23 : ivh10 (sk 23) 2 = ivh9 (sk 23) 2 := fl10.i ty99 rfl 2
                have ie24 : ivh9 (sk 23) 2 = ivh8 (sk 23) 2 := fl9.i ty98 rfl 2
                have ie25 : ivh8 (sk 23) 2 = ivh7 (sk 23) 2 := fl8.i ty69 rfl 2
                have ie26 : ivh7 (sk 23) 2 = ivn2 (sk 23) 2 := fl7.i ty54 rfl 2
                have ie27 : ivn2 (sk 23) 2 = ivh6 (sk 23) 2 := by rw [hin2]; exact congrFun (up0_a (ne_in ty28.1 hqn2)) _
                have ri18 : 0 ≤ ivh10 (sk 22) 2 ∧ ivh10 (sk 22) 2 ≤ 30 := W15.int ty97 2
                have ie28 : ivh10 (sk 22) 2 = ivh9 (sk 22) 2 := fl10.i ty97 rfl 2
                have ie29 : ivh9 (sk 22) 2 = ivh8 (sk 22) 2 := fl9.i ty96 rfl 2
                have ie30 : ivh8 (sk 22) 2 = ivh7 (sk 22) 2 := fl8.i ty68 rfl 2
                have ie31 : ivh7 (sk 22) 2 = ivn2 (sk 22) 2 := fl7.i ty53 rfl 2
                have ie32 : ivn2 (sk 22) 2 = ivh6 (sk 22) 2 := by rw [hin2]; exact congrFun (up0_a (ne_in ty40.1 hqn2)) _
                have ie33 : ivh6 (sk 22) 2 = ivh5 (sk 22) 2 := fl6.i ty23 rfl 2
                have ie34 : ivh5 (sk 22) 2 = ivn1 (sk 22) 2 := fl5.i ty22 rfl 2
                have ie35 : ivn1 (sk 22) 2 = iv (sk 22) 2 := by rw [hin1]; exact congrFun (up0_a (ne_in tsk22.1 hqn1)) _
                have ri19 : 0 ≤ ivh10 (sk 2) 2 ∧ ivh10 (sk 2) 2 ≤ 3000 := W15.int ty79 2
                have ie36 : ivh10 (sk 2) 2 = ivh9 (sk 2) 2 := fl10.i ty79 rfl 2
                have ri20 : (-2147483648) ≤ ivh10 qn1 0 ∧ ivh10 qn1 0 ≤ 2147483647 := W15.int ty103 0
                have ie37 : ivh10 qn1 0 = ivh9 qn1 0 := fl10.i ty103 rfl 0
                have ie38 : ivh9 qn1 0 = ivh8 qn1 0 := fl9.i ty102 rfl 0
                have ie39 : ivh8 qn1 0 = ivh7 qn1 0 := fl8.i ty71 rfl 0
                have ie40 : ivh7 qn1 0 = ivn2 qn1 0 := fl7.i ty56 rfl 0
                have ie41 : ivn2 qn1 0 = ivh6 qn1 0 := by rw [hin2]; exact congrFun (up0_a (ne_in ty41.1 hqn2)) _
                have ie42 : ivh6 qn1 0 = ivh5 qn1 0 := fl6.i tqr1 rfl 0
                have re8 : rvh6 qn1 1 = rvh5 qn1 1 := (fl6.r tqr1 rfl 1)
                rw [exf5r] at re8
                have re9 : rvn2 qn1 1 = rvh6 qn1 1 := (by rw [hrn2]; exact congrFun (up0_a (ne_in ty41.1 hqn2)) _)
                rw [re8] at re9
                have re10 : rvh7 qn1 1 = rvn2 qn1 1 := (fl7.r ty56 rfl 1)
                rw [re9] at re10
                have re11 : rvh8 qn1 1 = rvh7 qn1 1 := (fl8.r ty71 rfl 1)
                rw [re10] at re11
                have re12 : rvh9 qn1 1 = rvh8 qn1 1 := (fl9.r ty102 rfl 1)
                rw [re11] at re12
                have re13 : rv1 qn1 1 = rvh9 qn1 1 := (by rw [pq1]; exact congrFun (upr_a (ne_ty ty103 ty105 (by decide))) _)
                rw [re12] at re13
                exact c_iret C dX11_changeIndicator_154 rfl (by decide) (rom0 hph pl7 (by decide)) ⟨f10, rfl, X7, F10, W15, ⟨by omega, by omega⟩, ⟨(by omega), mr12⟩, (by omega), (Or.inr ⟨by omega, ob1, akob1.2, (fun ss hs hd => by
                    have e2 := irxf4 ss hs (by omega) hd
                    have e3 := e2.mp (by omega)
                    rw [Int.sub_zero] at e3
                    exact ⟨⟨by omega, by omega, gf3.mp (by omega), by omega⟩, e3.2⟩), by omega, ⟨(fun i hi => el_fr hW (tysk22 hS) rfl rfl F10 rfl rfl hi), TSF.of hW hS (fun bb tbb hbb => by have tb1 := xl5.ty tbb; have tb2 := ty_rt tb1 hcr1 (ne_ty tb1 tqn1 (by decide)); have tb3 := xl7.ty tb2; have tb4 := xl8.ty tb3; have tb5 := xl9.ty tb4; have tb6 := xl10.ty tb5; have tb7 := ty_rt tb6 hcr2 (ne_ty tb6 ty74 (by decide)); exact (Eq.trans (show ivh10 bb 7 = ivh9 bb 7 from (fl10.i tb7 rfl 7)) (Eq.trans (show ivh9 bb 7 = ivh8 bb 7 from (fl9.i tb6 rfl 7)) (Eq.trans (show ivh8 bb 7 = ivh7 bb 7 from (fl8.i tb5 rfl 7)) (Eq.trans (show ivh7 bb 7 = ivn2 bb 7 from (fl7.i tb4 rfl 7)) (Eq.trans (show ivn2 bb 7 = ivh6 bb 7 from (by rw [hin2]; exact congrFun (up0_a (ne_in tb3.1 hqn2)) _)) (Eq.trans (show ivh6 bb 7 = ivh5 bb 7 from (fl6.i tb2 rfl 7)) (Eq.trans (show ivh5 bb 7 = ivn1 bb 7 from (fl5.i tb1 rfl 7)) (show ivn1 bb 7 = iv bb 7 from (by rw [hin1]; exact congrFun (up0_a (ne_in tbb.1 hqn1)) _)))))))))) (fun bb tbb => by have tb1 := xl5.ty tbb; have tb2 := ty_rt tb1 hcr1 (ne_ty tb1 tqn1 (by decide)); have tb3 := xl7.ty tb2; have tb4 := xl8.ty tb3; have tb5 := xl9.ty tb4; have tb6 := xl10.ty tb5; have tb7 := ty_rt tb6 hcr2 (ne_ty tb6 ty74 (by decide)); exact (Eq.trans (show ivh10 bb 0 = ivh9 bb 0 from (fl10.i tb7 rfl 0)) (Eq.trans (show ivh9 bb 0 = ivh8 bb 0 from (fl9.i tb6 rfl 0)) (Eq.trans (show ivh8 bb 0 = ivh7 bb 0 from (fl8.i tb5 rfl 0)) (Eq.trans (show ivh7 bb 0 = ivn2 bb 0 from (fl7.i tb4 rfl 0)) (Eq.trans (show ivn2 bb 0 = ivh6 bb 0 from (by rw [hin2]; exact congrFun (up0_a (ne_in tb3.1 hqn2)) _)) (Eq.trans (show ivh6 bb 0 = ivh5 bb 0 from (fl6.i tb2 rfl 0)) (Eq.trans (show ivh5 bb 0 = ivn1 bb 0 from (fl5.i tb1 rfl 0)) (show ivn1 bb 0 = iv bb 0 from (by rw [hin1]; exact congrFun (up0_a (ne_in tbb.1 hqn1)) _)))))))))) (fun bb tbb => by have tb1 := xl5.ty tbb; have tb2 := ty_rt tb1 hcr1 (ne_ty tb1 tqn1 (by decide)); have tb3 := xl7.ty tb2; have tb4 := xl8.ty tb3; have tb5 := xl9.ty tb4; have tb6 := xl10.ty tb5; have tb7 := ty_rt tb6 hcr2 (ne_ty tb6 ty74 (by decide)); exact (Eq.trans (show ivh10 bb 1 = ivh9 bb 1 from (fl10.i tb7 rfl 1)) (Eq.trans (show ivh9 bb 1 = ivh8 bb 1 from (fl9.i tb6 rfl 1)) (Eq.trans (show ivh8 bb 1 = ivh7 bb 1 from (fl8.i tb5 rfl 1)) (Eq.trans (show ivh7 bb 1 = ivn2 bb 1 from (fl7.i tb4 rfl 1)) (Eq.trans (show ivn2 bb 1 = ivh6 bb 1 from (by rw [hin2]; exact congrFun (up0_a (ne_in tb3.1 hqn2)) _)) (Eq.trans (show ivh6 bb 1 = ivh5 bb 1 from (fl6.i tb2 rfl 1)) (Eq.trans (show ivh5 bb 1 = ivn1 bb 1 from (fl5.i tb1 rfl 1)) (show ivn1 bb 1 = iv bb 1 from (by rw [hin1]; exact congrFun (up0_a (ne_in tbb.1 hqn1)) _)))))))))) (fun bb tbb => by have tb1 := xl5.ty tbb; have tb2 := ty_rt tb1 hcr1 (ne_ty tb1 tqn1 (by decide)); have tb3 := xl7.ty tb2; have tb4 := xl8.ty tb3; have tb5 := xl9.ty tb4; have tb6 := xl10.ty tb5; have tb7 := ty_rt tb6 hcr2 (ne_ty tb6 ty74 (by decide)); exact (Eq.trans (show rv1 bb 4 = rvh9 bb 4 from (by rw [pq1]; exact congrFun (upr_a (ne_ty tb7 ty105 (by decide))) _)) (Eq.trans (show rvh9 bb 4 = rvh8 bb 4 from (fl9.r tb6 rfl 4)) (Eq.trans (show rvh8 bb 4 = rvh7 bb 4 from (fl8.r tb5 rfl 4)) (Eq.trans (show rvh7 bb 4 = rvn2 bb 4 from (fl7.r tb4 rfl 4)) (Eq.trans (show rvn2 bb 4 = rvh6 bb 4 from (by rw [hrn2]; exact congrFun (up0_a (ne_in tb3.1 hqn2)) _)) (Eq.trans (show rvh6 bb 4 = rvh5 bb 4 from (fl6.r tb2 rfl 4)) (Eq.trans (show rvh5 bb 4 = rvn1 bb 4 from (fl5.r tb1 rfl 4)) (show rvn1 bb 4 = rv bb 4 from (by rw [hrn1]; exact congrFun (up0_a (ne_in tbb.1 hqn1)) _)))))))))), TSQ.of hW hS (fun bb tbb hbb => by have tb1 := xl5.ty tbb; have tb2 := ty_rt tb1 hcr1 (ne_ty tb1 tqn1 (by decide)); have tb3 := xl7.ty tb2; have tb4 := xl8.ty tb3; have tb5 := xl9.ty tb4; have tb6 := xl10.ty tb5; have tb7 := ty_rt tb6 hcr2 (ne_ty tb6 ty74 (by decide)); exact (Eq.trans (show ivh10 bb 2 = ivh9 bb 2 from (fl10.i tb7 rfl 2)) (Eq.trans (show ivh9 bb 2 = ivh8 bb 2 from (fl9.i tb6 rfl 2)) (Eq.trans (show ivh8 bb 2 = ivh7 bb 2 from (fl8.i tb5 rfl 2)) (Eq.trans (show ivh7 bb 2 = ivn2 bb 2 from (fl7.i tb4 rfl 2)) (Eq.trans (show ivn2 bb 2 = ivh6 bb 2 from (by rw [hin2]; exact congrFun (up0_a (ne_in tb3.1 hqn2)) _)) (Eq.trans (show ivh6 bb 2 = ivh5 bb 2 from (fl6.i tb2 rfl 2)) (Eq.trans (show ivh5 bb 2 = ivn1 bb 2 from (fl5.i tb1 rfl 2)) (show ivn1 bb 2 = iv bb 2 from (by rw [hin1]; exact congrFun (up0_a (ne_in tbb.1 hqn1)) _))))))))))⟩, ⟨(by omega), CS0.of hW hS (Int.le_refl _) (fun i hi => ((fun i hi => el_ch W8 (tysk23 sk3) rfl rfl ((show ∀ bb, ty Lh6 clh6 bb 23 → rv1 bb 1 = rvh6 bb 1 from fun bb tbb => by have tb4 := xl8.ty tbb; have tb5 := xl9.ty tb4; have tb6 := xl10.ty tb5; have tb7 := ty_rt tb6 hcr2 (ne_ty tb6 ty74 (by decide)); exact (Eq.trans (show rv1 bb 1 = rvh9 bb 1 from (by rw [pq1]; exact congrFun (upr_a (ne_ty tb7 ty105 (by decide))) _)) (Eq.trans (show rvh9 bb 1 = rvh8 bb 1 from (fl9.r tb6 rfl 1)) (Eq.trans (show rvh8 bb 1 = rvh7 bb 1 from (fl8.r tb5 rfl 1)) (Eq.trans (show rvh7 bb 1 = rvn2 bb 1 from (fl7.r tb4 rfl 1)) (show rvn2 bb 1 = rvh6 bb 1 from (by rw [hrn2]; exact congrFun (up0_a (ne_in tbb.1 hqn2)) _))))))) (sk 23) (tysk23 sk3)) (fun bb tbb kk => by have tb4 := xl8.ty tbb; have tb5 := xl9.ty tb4; have tb6 := xl10.ty tb5; have tb7 := ty_rt tb6 hcr2 (ne_ty tb6 ty74 (by decide)); exact (Eq.trans (show rv1 bb kk = rvh9 bb kk from (by rw [pq1]; exact congrFun (upr_a (ne_ty tb7 ty105 (by decide))) _)) (Eq.trans (show rvh9 bb kk = rvh8 bb kk from (fl9.r tb6 rfl kk)) (Eq.trans (show rvh8 bb kk = rvh7 bb kk from (fl8.r tb5 rfl kk)) (Eq.trans (show rvh7 bb kk = rvn2 bb kk from (fl7.r tb4 rfl kk)) (show rvn2 bb kk = rvh6 bb kk from (by rw [hrn2]; exact congrFun (up0_a (ne_in tbb.1 hqn2)) _))))))) hi) i (by omega)).trans ((rmef6.2 i (by omega)).trans (ce1 i hi))) (fun bb tbb => by have tb1 := xl5.ty tbb; have tb2 := ty_rt tb1 hcr1 (ne_ty tb1 tqn1 (by decide)); have tb3 := xl7.ty tb2; have tb4 := xl8.ty tb3; have tb5 := xl9.ty tb4; have tb6 := xl10.ty tb5; have tb7 := ty_rt tb6 hcr2 (ne_ty tb6 ty74 (by decide)); exact (Eq.trans (show ivh10 bb 0 = ivh9 bb 0 from (fl10.i tb7 rfl 0)) (Eq.trans (show ivh9 bb 0 = ivh8 bb 0 from (fl9.i tb6 rfl 0)) (Eq.trans (show ivh8 bb 0 = ivh7 bb 0 from (fl8.i tb5 rfl 0)) (Eq.trans (show ivh7 bb 0 = ivn2 bb 0 from (fl7.i tb4 rfl 0)) (Eq.trans (show ivn2 bb 0 = ivh6 bb 0 from (by rw [hin2]; exact congrFun (up0_a (ne_in tb3.1 hqn2)) _)) (Eq.trans (show ivh6 bb 0 = ivh5 bb 0 from (fl6.i tb2 rfl 0)) (Eq.trans (show ivh5 bb 0 = ivn1 bb 0 from (fl5.i tb1 rfl 0)) (show ivn1 bb 0 = iv bb 0 from (by rw [hin1]; exact congrFun (up0_a (ne_in tbb.1 hqn1)) _)))))))))) (fun bb tbb => by have tb1 := xl5.ty tbb; have tb2 := ty_rt tb1 hcr1 (ne_ty tb1 tqn1 (by decide)); have tb3 := xl7.ty tb2; have tb4 := xl8.ty tb3; have tb5 := xl9.ty tb4; have tb6 := xl10.ty tb5; have tb7 := ty_rt tb6 hcr2 (ne_ty tb6 ty74 (by decide)); exact (Eq.trans (show rv1 bb 1 = rvh9 bb 1 from (by rw [pq1]; exact congrFun (upr_a (ne_ty tb7 ty105 (by decide))) _)) (Eq.trans (show rvh9 bb 1 = rvh8 bb 1 from (fl9.r tb6 rfl 1)) (Eq.trans (show rvh8 bb 1 = rvh7 bb 1 from (fl8.r tb5 rfl 1)) (Eq.trans (show rvh7 bb 1 = rvn2 bb 1 from (fl7.r tb4 rfl 1)) (Eq.trans (show rvn2 bb 1 = rvh6 bb 1 from (by rw [hrn2]; exact congrFun (up0_a (ne_in tb3.1 hqn2)) _)) (Eq.trans (show rvh6 bb 1 = rvh5 bb 1 from (fl6.r tb2 rfl 1)) (Eq.trans (show rvh5 bb 1 = rvn1 bb 1 from (fl5.r tb1 rfl 1)) (show rvn1 bb 1 = rv bb 1 from (by rw [hrn1]; exact congrFun (up0_a (ne_in tbb.1 hqn1)) _)))))))))), ⟨qn1, (by rw [show (iv (sk 23) 2).toNat = (ivh5 (sk 23) 2).toNat from congrArg Int.toNat (by omega)]; exact ((fun i hi => el_ch W8 (tysk23 sk3) rfl rfl ((show ∀ bb, ty Lh6 clh6 bb 23 → rv1 bb 1 = rvh6 bb 1 from fun bb tbb => by have tb4 := xl8.ty tbb; have tb5 := xl9.ty tb4; have tb6 := xl10.ty tb5; have tb7 := ty_rt tb6 hcr2 (ne_ty tb6 ty74 (by decide)); exact (Eq.trans (show rv1 bb 1 = rvh9 bb 1 from (by rw [pq1]; exact congrFun (upr_a (ne_ty tb7 ty105 (by decide))) _)) (Eq.trans (show rvh9 bb 1 = rvh8 bb 1 from (fl9.r tb6 rfl 1)) (Eq.trans (show rvh8 bb 1 = rvh7 bb 1 from (fl8.r tb5 rfl 1)) (Eq.trans (show rvh7 bb 1 = rvn2 bb 1 from (fl7.r tb4 rfl 1)) (show rvn2 bb 1 = rvh6 bb 1 from (by rw [hrn2]; exact congrFun (up0_a (ne_in tbb.1 hqn2)) _))))))) (sk 23) (tysk23 sk3)) (fun bb tbb kk => by have tb4 := xl8.ty tbb; have tb5 := xl9.ty tb4; have tb6 := xl10.ty tb5; have tb7 := ty_rt tb6 hcr2 (ne_ty tb6 ty74 (by decide)); exact (Eq.trans (show rv1 bb kk = rvh9 bb kk from (by rw [pq1]; exact congrFun (upr_a (ne_ty tb7 ty105 (by decide))) _)) (Eq.trans (show rvh9 bb kk = rvh8 bb kk from (fl9.r tb6 rfl kk)) (Eq.trans (show rvh8 bb kk = rvh7 bb kk from (fl8.r tb5 rfl kk)) (Eq.trans (show rvh7 bb kk = rvn2 bb kk from (fl7.r tb4 rfl kk)) (show rvn2 bb kk = rvh6 bb kk from (by rw [hrn2]; exact congrFun (up0_a (ne_in tbb.1 hqn2)) _))))))) hi) _ (by omega)).trans rmef6.1), (by omega), re13⟩⟩⟩)⟩
              · refine c_null C dX11_changeIndicator_106 ?_
                refine c_goto (tgt := 142) C dX11_changeIndicator_107 (by decide) ?_
                have ty108 := xl7.ty ty27
                have ll3 : 4 ≤ lnh6 rb2 ∧ lnh6 rb2 ≤ 4 := W8.len ty108 rfl
                refine c_aastNR (z := j) C dX11_changeIndicator_142 ty108 rfl (by omega) (by omega) (by omega) (fun rv2 pq2 => ⟨1236, (by rw [Phi.putr sk3 pq2 ty108 rfl]; exact Nat.le_refl _), ?_⟩)
                have W16 := W8.putr pq2 ty108 (fun _ => ⟨fun _ => by rw [ty108.2]; rfl, fun _ qq => by cases qq⟩) rfl (by decide)
                have F11 := F4.putr X3 pq2 ty108 rfl
                have mr13 := MRK.putr mr5 W8 sk3 pq2 ty108 (by decide) (by decide)
                refine c_aload_n (j := 1) (x := a0) C dX11_changeIndicator_143 rfl ?_
                refine c_aload_n (j := 1) (x := a0) C dX11_changeIndicator_144 rfl ?_
                have re14 : rv2 a0 0 = rvh6 a0 0 := (by rw [pq2]; exact congrFun (upr_a (ne_ty ty30 ty108 (by decide))) _)
                rw [rq3] at re14
                refine c_getr (k := 0) C ck_12 dX11_changeIndicator_145 w2_44 (by decide) ty30 rfl rfl (by decide) rfl re14 ?_
                refine c_st (st2 := [.ref (sk 2), .ref a0]) rfl ?_
                refine c_get (k := 2) C ck_2 dX11_changeIndicator_148 w1_44 (by decide) ty31 rfl rfl (by decide) rfl ?_
                have pl8 := Phi.le W16 sk3
                refine d_callV (As := [.int (iI (ivh6 (sk 2) 2))]) (rest := []) C hM (C_done (a0 := a0) (x := ivh6 (sk 2) 2) W16 sk3 ty30 (by omega) ) dX11_changeIndicator_151 kV_X11_109 rfl ty30 rfl rfl (by decide) ck_12 rfl (Nat.le_of_ble_eq_true rfl) ⟨(Nat.le_of_ble_eq_true rfl), (Nat.le_of_ble_eq_true rfl)⟩ hph pl8 (show 1236 + 0 = 1236 from rfl) (by decide) (fun rh11 Lh11 clh11 lnh11 ivh11 rvh11 h11 => ?_)
                obtain ⟨f11, rfl, rfl, rfl, rfl, rfl, fl11, W17, rgf11, exf11, kp14f11⟩ := h11
                have ri21 : (-2147483648) ≤ ivh6 a0 14 ∧ ivh6 a0 14 ≤ 2147483647 := W16.int ty30 14
                have ie43 : ivh6 a0 14 = ivh5 a0 14 := fl6.i ty3 rfl 14
                have ie44 : ivh5 a0 14 = ivn1 a0 14 := fl5.i ty2 rfl 14
                have ie45 : ivn1 a0 14 = iv a0 14 := by rw [hin1]; exact congrFun (up0_a (ne_in t_a0.1 hqn1)) _
                have F12 := F11.call X3 fl11 rfl
                have mr14 := MRK.call mr13 W16 sk3 XT.refl fl11 rfl rfl
                refine c_st (st2 := [.int (iI f11)]) rfl ?_
                have gk14f11 : ivh11 a0 14 = ivh6 a0 14 := kp14f11
                have gf11 : f11 = (ivh6 (sk 2) 2) := exf11
                have ri22 : (-2147483648) ≤ ivh11 a0 14 ∧ ivh11 a0 14 ≤ 2147483647 := W17.int ty30 14
                have ri23 : 0 ≤ ivh11 (sk 23) 2 ∧ ivh11 (sk 23) 2 ≤ 512 := W17.int ty28 2
                have ie47 : ivh11 (sk 23) 2 = ivh6 (sk 23) 2 := fl11.i ty28 rfl 2
                have ty109 := xl7.ty ty23
                have ri24 : 0 ≤ ivh11 (sk 22) 2 ∧ ivh11 (sk 22) 2 ≤ 30 := W17.int ty109 2
                have ie48 : ivh11 (sk 22) 2 = ivh6 (sk 22) 2 := fl11.i ty109 rfl 2
                have ie49 : ivh6 (sk 22) 2 = ivh5 (sk 22) 2 := fl6.i ty23 rfl 2
                have ie50 : ivh5 (sk 22) 2 = ivn1 (sk 22) 2 := fl5.i ty22 rfl 2
                have ie51 : ivn1 (sk 22) 2 = iv (sk 22) 2 := by rw [hin1]; exact congrFun (up0_a (ne_in tsk22.1 hqn1)) _
                have ri25 : 0 ≤ ivh11 (sk 2) 2 ∧ ivh11 (sk 2) 2 ≤ 3000 := W17.int ty31 2
                have ie52 : ivh11 (sk 2) 2 = ivh6 (sk 2) 2 := fl11.i ty31 rfl 2
                have ty110 := xl7.ty tqr1
                have ri26 : (-2147483648) ≤ ivh11 qn1 0 ∧ ivh11 qn1 0 ≤ 2147483647 := W17.int ty110 0
                have ie53 : ivh11 qn1 0 = ivh6 qn1 0 := fl11.i ty110 rfl 0
                have ie54 : ivh6 qn1 0 = ivh5 qn1 0 := fl6.i tqr1 rfl 0
                have re15 : rvh6 qn1 1 = rvh5 qn1 1 := (fl6.r tqr1 rfl 1)
                rw [exf5r] at re15
                have re16 : rv2 qn1 1 = rvh6 qn1 1 := (by rw [pq2]; exact congrFun (upr_a (ne_ty ty110 ty108 (by decide))) _)
                rw [re15] at re16
                exact c_iret C dX11_changeIndicator_154 rfl (by decide) (rom0 hph pl8 (by decide)) ⟨f11, rfl, X3, F12, W17, ⟨by omega, by omega⟩, ⟨(by omega), mr14⟩, (by omega), (Or.inr ⟨by omega, ob1, akob1.2, (fun ss hs hd => by
                    have e2 := irxf4 ss hs (by omega) hd
                    have e3 := e2.mp (by omega)
                    rw [Int.sub_zero] at e3
                    exact ⟨⟨by omega, by omega, gf3.mp (by omega), by omega⟩, e3.2⟩), by omega, ⟨(fun i hi => el_fr hW (tysk22 hS) rfl rfl F12 rfl rfl hi), TSF.of hW hS (fun bb tbb hbb => by have tb1 := xl5.ty tbb; have tb2 := ty_rt tb1 hcr1 (ne_ty tb1 tqn1 (by decide)); have tb3 := xl7.ty tb2; exact (Eq.trans (show ivh11 bb 7 = ivh6 bb 7 from (fl11.i tb3 rfl 7)) (Eq.trans (show ivh6 bb 7 = ivh5 bb 7 from (fl6.i tb2 rfl 7)) (Eq.trans (show ivh5 bb 7 = ivn1 bb 7 from (fl5.i tb1 rfl 7)) (show ivn1 bb 7 = iv bb 7 from (by rw [hin1]; exact congrFun (up0_a (ne_in tbb.1 hqn1)) _)))))) (fun bb tbb => by have tb1 := xl5.ty tbb; have tb2 := ty_rt tb1 hcr1 (ne_ty tb1 tqn1 (by decide)); have tb3 := xl7.ty tb2; exact (Eq.trans (show ivh11 bb 0 = ivh6 bb 0 from (fl11.i tb3 rfl 0)) (Eq.trans (show ivh6 bb 0 = ivh5 bb 0 from (fl6.i tb2 rfl 0)) (Eq.trans (show ivh5 bb 0 = ivn1 bb 0 from (fl5.i tb1 rfl 0)) (show ivn1 bb 0 = iv bb 0 from (by rw [hin1]; exact congrFun (up0_a (ne_in tbb.1 hqn1)) _)))))) (fun bb tbb => by have tb1 := xl5.ty tbb; have tb2 := ty_rt tb1 hcr1 (ne_ty tb1 tqn1 (by decide)); have tb3 := xl7.ty tb2; exact (Eq.trans (show ivh11 bb 1 = ivh6 bb 1 from (fl11.i tb3 rfl 1)) (Eq.trans (show ivh6 bb 1 = ivh5 bb 1 from (fl6.i tb2 rfl 1)) (Eq.trans (show ivh5 bb 1 = ivn1 bb 1 from (fl5.i tb1 rfl 1)) (show ivn1 bb 1 = iv bb 1 from (by rw [hin1]; exact congrFun (up0_a (ne_in tbb.1 hqn1)) _)))))) (fun bb tbb => by have tb1 := xl5.ty tbb; have tb2 := ty_rt tb1 hcr1 (ne_ty tb1 tqn1 (by decide)); have tb3 := xl7.ty tb2; exact (Eq.trans (show rv2 bb 4 = rvh6 bb 4 from (by rw [pq2]; exact congrFun (upr_a (ne_ty tb3 ty108 (by decide))) _)) (Eq.trans (show rvh6 bb 4 = rvh5 bb 4 from (fl6.r tb2 rfl 4)) (Eq.trans (show rvh5 bb 4 = rvn1 bb 4 from (fl5.r tb1 rfl 4)) (show rvn1 bb 4 = rv bb 4 from (by rw [hrn1]; exact congrFun (up0_a (ne_in tbb.1 hqn1)) _)))))), TSQ.of hW hS (fun bb tbb hbb => by have tb1 := xl5.ty tbb; have tb2 := ty_rt tb1 hcr1 (ne_ty tb1 tqn1 (by decide)); have tb3 := xl7.ty tb2; exact (Eq.trans (show ivh11 bb 2 = ivh6 bb 2 from (fl11.i tb3 rfl 2)) (Eq.trans (show ivh6 bb 2 = ivh5 bb 2 from (fl6.i tb2 rfl 2)) (Eq.trans (show ivh5 bb 2 = ivn1 bb 2 from (fl5.i tb1 rfl 2)) (show ivn1 bb 2 = iv bb 2 from (by rw [hin1]; exact congrFun (up0_a (ne_in tbb.1 hqn1)) _))))))⟩, ⟨(by omega), CS0.of hW hS (Int.le_refl _) (fun i hi => ((fun i hi => el_ch W8 (tysk23 sk3) rfl rfl ((show ∀ bb, ty Lh6 clh6 bb 23 → rv2 bb 1 = rvh6 bb 1 from fun bb tbb => by exact (show rv2 bb 1 = rvh6 bb 1 from (by rw [pq2]; exact congrFun (upr_a (ne_ty tbb ty108 (by decide))) _))) (sk 23) (tysk23 sk3)) (fun bb tbb kk => by exact (show rv2 bb kk = rvh6 bb kk from (by rw [pq2]; exact congrFun (upr_a (ne_ty tbb ty108 (by decide))) _))) hi) i (by omega)).trans ((rmef6.2 i (by omega)).trans (ce1 i hi))) (fun bb tbb => by have tb1 := xl5.ty tbb; have tb2 := ty_rt tb1 hcr1 (ne_ty tb1 tqn1 (by decide)); have tb3 := xl7.ty tb2; exact (Eq.trans (show ivh11 bb 0 = ivh6 bb 0 from (fl11.i tb3 rfl 0)) (Eq.trans (show ivh6 bb 0 = ivh5 bb 0 from (fl6.i tb2 rfl 0)) (Eq.trans (show ivh5 bb 0 = ivn1 bb 0 from (fl5.i tb1 rfl 0)) (show ivn1 bb 0 = iv bb 0 from (by rw [hin1]; exact congrFun (up0_a (ne_in tbb.1 hqn1)) _)))))) (fun bb tbb => by have tb1 := xl5.ty tbb; have tb2 := ty_rt tb1 hcr1 (ne_ty tb1 tqn1 (by decide)); have tb3 := xl7.ty tb2; exact (Eq.trans (show rv2 bb 1 = rvh6 bb 1 from (by rw [pq2]; exact congrFun (upr_a (ne_ty tb3 ty108 (by decide))) _)) (Eq.trans (show rvh6 bb 1 = rvh5 bb 1 from (fl6.r tb2 rfl 1)) (Eq.trans (show rvh5 bb 1 = rvn1 bb 1 from (fl5.r tb1 rfl 1)) (show rvn1 bb 1 = rv bb 1 from (by rw [hrn1]; exact congrFun (up0_a (ne_in tbb.1 hqn1)) _)))))), ⟨qn1, (by rw [show (iv (sk 23) 2).toNat = (ivh5 (sk 23) 2).toNat from congrArg Int.toNat (by omega)]; exact ((fun i hi => el_ch W8 (tysk23 sk3) rfl rfl ((show ∀ bb, ty Lh6 clh6 bb 23 → rv2 bb 1 = rvh6 bb 1 from fun bb tbb => by exact (show rv2 bb 1 = rvh6 bb 1 from (by rw [pq2]; exact congrFun (upr_a (ne_ty tbb ty108 (by decide))) _))) (sk 23) (tysk23 sk3)) (fun bb tbb kk => by exact (show rv2 bb kk = rvh6 bb kk from (by rw [pq2]; exact congrFun (upr_a (ne_ty tbb ty108 (by decide))) _))) hi) _ (by omega)).trans rmef6.1), (by omega), re16⟩⟩⟩)⟩
            · have tnb1 : ty (L ++ [qn1]) cln1 nb1 20 := tnb1
              refine c_aaldR C dX11_changeIndicator_83 trb2 rfl (by omega) (by omega) (by omega) nq1 ?_
              refine c_st (st2 := [.ref nb1, .ref ob1, .int (iI 4), .ref qn1, .ref qn1, .ref (sk 13)]) rfl ?_
              refine c_iload_n (j := 3) C dX11_changeIndicator_84 rfl ?_
              have pl9 := Phi.le W5 sk1
              refine c_callI (As := [.int (iI 4), .ref ob1, .ref nb1, .int (iI j)]) (rest := [.ref qn1, .ref (sk 13)]) C hM (Z_change (a0 := qn1) (i := 4) (a2 := ob1) (r := (some nb1)) (n := j) W5 sk1 tqn1 ty1 (fun _ q => by cases q; exact tnb1) ⟨by decide, by decide⟩ (by omega) ) dX11_changeIndicator_85 kI_X11_149 rfl rfl (Nat.le_of_ble_eq_true rfl) ⟨(Nat.le_of_ble_eq_true rfl), (Nat.le_of_ble_eq_true rfl)⟩ (rz1 hph pl9 (by decide)) (fun rh12 Lh12 clh12 lnh12 ivh12 rvh12 h12 => ⟨20, (zk1 (by obtain ⟨_, _, _, e3, flh12x, Wh12x, _⟩ := h12; subst e3; exact Phi.frn sk1 flh12x rfl)), ?_⟩)
              obtain ⟨rfl, rfl, rfl, rfl, fl12, W18, exf12⟩ := h12
              have F13 := F2.call X1 fl12 rfl
              have mr15 := MRK.call mr2 W5 sk1 XT.refl fl12 rfl rfl
              refine c_st (st2 := [.ref qn1, .ref (sk 13)]) rfl ?_
              obtain ⟨exf12x, exf12r, exf12p, exf12i, exf12j⟩ := exf12
              have rn3 : ∀ k, ([1, 2] : List Nat).contains k = false → rvh12 qn1 k = none := fun k hk => (Eq.trans (show rvh12 qn1 k = rvn1 qn1 k from (exf12x k hk)) (show rvn1 qn1 k = none from (by rw [hrn1]; exact up0_s)))
              refine c_retag (q := qn1) (t := 21) (by rw [tqn1.2]; rfl) (fun clr3 hcr3 => ?_)
              have ty111 := xl5.ty t_a0
              have ty112 := ty_rt ty111 hcr3 (ne_ty ty111 tqn1 (by decide))
              have ty113 := xl5.ty tsk2
              have ty114 := ty_rt ty113 hcr3 (ne_ty ty113 tqn1 (by decide))
              have ty115 := xl5.ty tsk3
              have ty116 := ty_rt ty115 hcr3 (ne_ty ty115 tqn1 (by decide))
              have ty117 := xl5.ty tsk4
              have ty118 := ty_rt ty117 hcr3 (ne_ty ty117 tqn1 (by decide))
              have ty119 := xl5.ty tsk5
              have ty120 := ty_rt ty119 hcr3 (ne_ty ty119 tqn1 (by decide))
              have ty121 := xl5.ty tsk13
              have ty122 := ty_rt ty121 hcr3 (ne_ty ty121 tqn1 (by decide))
              have ty123 := xl5.ty tsk14
              have ty124 := ty_rt ty123 hcr3 (ne_ty ty123 tqn1 (by decide))
              have ty125 := xl5.ty tsk15
              have ty126 := ty_rt ty125 hcr3 (ne_ty ty125 tqn1 (by decide))
              have ty127 := xl5.ty tsk16
              have ty128 := ty_rt ty127 hcr3 (ne_ty ty127 tqn1 (by decide))
              have ty129 := xl5.ty tsk17
              have ty130 := ty_rt ty129 hcr3 (ne_ty ty129 tqn1 (by decide))
              have ty131 := xl5.ty tsk22
              have ty132 := ty_rt ty131 hcr3 (ne_ty ty131 tqn1 (by decide))
              have ty133 := xl5.ty tsk23
              have ty134 := ty_rt ty133 hcr3 (ne_ty ty133 tqn1 (by decide))
              have ty135 := ty_rt ty1 hcr3 (ne_ty ty1 tqn1 (by decide))
              have ty136 := ty_rt trb2 hcr3 (ne_ty trb2 tqn1 (by decide))
              have ty137 := ty_rt tnb1 hcr3 (ne_ty tnb1 tqn1 (by decide))
              have tqr3 : ty (L ++ [qn1]) clr3 qn1 21 := ⟨tqn1.1, by rw [hcr3, va_up_self]; rfl⟩
              have W19 := W18.retag tqn1.1 (by rw [tqn1.2]; rfl) hcr3 (fun k => by
                    rcases k with _ | _ | _ | _ | k
                    · exact W18.int tqn1 0
                    · exact W18.int tqn1 1
                    · exact W18.int tqn1 2
                    · exact W18.int tqn1 3
                    · exact W18.int tqn1 (k + 4)) (fun k => by
                    rcases k with _ | _ | _ | _ | k
                    · rw [rn3 0 (by decide)]; exact rok_none tqr3 rfl
                    · rw [exf12r]; exact rok_some tqr3 ty135 rfl (by decide) rfl
                    · rw [exf12p]; exact rok_ch tqr3 (fun _ q => by cases q; exact ty137)
                    · rw [rn3 3 (by decide)]; exact rok_none tqr3 rfl
                    · rw [rn3 (k + 4) (by simp)]; exact rok_none tqr3 rfl) rfl (fun z => by cases z) (fun z => by cases z) rfl
              have X8 := X1.rt hcr3 h0qn1
              have sk8 := sk1.rt hcr3 (by rw [tqn1.2]; rfl)
              have mr16 := MRK.rt mr15 W18 sk1 hcr3 (by rw [tqn1.2]; rfl)
              have on8 := fun b hb => xl5.ty (rgf2 b hb)
              have on9 := fun b hb => ty_rt (on8 b hb) hcr3 (ne_ty (on8 b hb) tqn1 (by decide))
              have ce2 : ∀ i : Nat, (i : Int) < iv (sk 23) 2 → el rvh12 (sk 23) i = el rv (sk 23) i := (fun i hi => el_ch hW (tysk23 hS) rfl rfl ((show ∀ bb, ty L cl bb 23 → rvh12 bb 1 = rv bb 1 from fun bb tbb => by have tb1 := xl5.ty tbb; exact (Eq.trans (show rvh12 bb 1 = rvn1 bb 1 from (fl12.r tb1 rfl 1)) (show rvn1 bb 1 = rv bb 1 from (by rw [hrn1]; exact congrFun (up0_a (ne_in tbb.1 hqn1)) _)))) (sk 23) (tysk23 hS)) (fun bb tbb kk => by have tb1 := xl5.ty tbb; exact (Eq.trans (show rvh12 bb kk = rvn1 bb kk from (fl12.r tb1 rfl kk)) (show rvn1 bb kk = rv bb kk from (by rw [hrn1]; exact congrFun (up0_a (ne_in tbb.1 hqn1)) _)))) hi)
              have ri27 : 0 ≤ ivh12 (sk 23) 2 ∧ ivh12 (sk 23) 2 ≤ 512 := W19.int ty134 2
              have ie55 : ivh12 (sk 23) 2 = ivn1 (sk 23) 2 := fl12.i ty133 rfl 2
              have ie56 : ivn1 (sk 23) 2 = iv (sk 23) 2 := by rw [hin1]; exact congrFun (up0_a (ne_in tsk23.1 hqn1)) _
              have pl10 := Phi.le W19 sk8
              refine d_callV (As := [.ref qn1]) (rest := []) C hM (C_remember (a0 := (sk 13)) (a1 := qn1) W19 sk8 ty122 tqr3  (by show ivh12 (sk 23) 2 < 512; omega)) dX11_changeIndicator_88 kV_X11_152 rfl ty122 rfl rfl (by decide) ck_11 rfl (Nat.le_of_ble_eq_true rfl) ⟨(Nat.le_of_ble_eq_true rfl), (Nat.le_of_ble_eq_true rfl)⟩ hph pl10 (show 20 + 1216 = 1236 from rfl) (by decide) (fun rh13 Lh13 clh13 lnh13 ivh13 rvh13 h13 => ?_)
              obtain ⟨rfl, xl15, fl13, W20, exf13, rmef13⟩ := h13
              have F14 := F13.call X8 fl13 rfl
              have mr17 := MRK.call mr16 W19 sk8 xl15 fl13 rfl rfl
              have X9 := X8.trans xl15
              have sk9 := xl15.skl sk8
              refine c_st (st2 := []) rfl ?_
              have ty138 := xl15.ty ty134
              have ri28 : 0 ≤ ivh13 (sk 23) 2 ∧ ivh13 (sk 23) 2 ≤ 512 := W20.int ty138 2
              have gf13 : ivh13 (sk 23) 2 = ivh12 (sk 23) 2 + 1 := exf13
              refine c_aload_n (j := 0) (x := ob1) C dX11_changeIndicator_91 rfl ?_
              have ty139 := xl15.ty ty135
              have re17 : rvh12 ob1 6 = rvn1 ob1 6 := (fl12.r ty1 rfl 6)
              rw [rq2] at re17
              have re18 : rvh13 ob1 6 = rvh12 ob1 6 := (fl13.r ty135 rfl 6)
              rw [re17] at re18
              refine c_getr (k := 6) C ck_10 dX11_changeIndicator_92 w2_196 (by decide) ty139 rfl rfl (by decide) rfl re18 ?_
              refine c_st (st2 := [.ref rb2]) rfl ?_
              refine c_iload_n (j := 3) C dX11_changeIndicator_95 rfl ?_
              refine c_aload_n (j := 1) (x := a0) C dX11_changeIndicator_96 rfl ?_
              have ty140 := xl15.ty ty112
              obtain ⟨rb4, rq4, trb4⟩ := W20.ref ty140 0 rfl rfl rfl
              have erb4 := W20.sk trb4 (by decide) rfl
              subst erb4
              refine c_getr (k := 0) C ck_12 dX11_changeIndicator_97 w2_44 (by decide) ty140 rfl rfl (by decide) rfl rq4 ?_
              refine c_st (st2 := [.ref (sk 2), .int (iI j), .ref rb2]) rfl ?_
              have ty141 := xl15.ty ty114
              have ri29 : 0 ≤ ivh13 (sk 2) 2 ∧ ivh13 (sk 2) 2 ≤ 3000 := W20.int ty141 2
              have ie58 : ivh13 (sk 2) 2 = ivh12 (sk 2) 2 := fl13.i ty114 rfl 2
              have ie59 : ivh12 (sk 2) 2 = ivn1 (sk 2) 2 := fl12.i ty113 rfl 2
              have ie60 : ivn1 (sk 2) 2 = iv (sk 2) 2 := by rw [hin1]; exact congrFun (up0_a (ne_in tsk2.1 hqn1)) _
              refine c_get (k := 2) C ck_2 dX11_changeIndicator_100 w1_44 (by decide) ty141 rfl rfl (by decide) rfl ?_
              refine c_if_ne (tgt := 110) C ⟨by omega, by omega⟩ dX11_changeIndicator_103 (by decide) (fun c6 => ?_) (fun c6 => ?_)
              · have ty142 := xl15.ty ty116
                have ty143 := xl15.ty ty118
                have ty144 := xl15.ty ty120
                have ty145 := xl15.ty ty122
                have ty146 := xl15.ty ty124
                have ty147 := xl15.ty ty126
                have ty148 := xl15.ty ty128
                have ty149 := xl15.ty ty130
                have ty150 := xl15.ty ty132
                have ty151 := xl15.ty tqr3
                have ty152 := xl15.ty ty136
                have ty153 := xl15.ty ty137
                have pl11 := Phi.le W20 sk9
                refine c_new C ck_6 dv_6 ⟨rfl, rfl⟩ rfl (by decide) dX11_changeIndicator_110 w3_125 w3_126 w1_21 (rom2 hph pl11 (by decide)) (fun qn3 cln3 lnn3 ivn3 rvn3 hqn3 hcn3 hln3 hin3 hrn3 => ⟨1256, (p_in (Phi.new W20 sk9 hqn3 (fun b _ => by rw [hln3]) hrn3) (by omega)), ?_⟩)
                refine c_g0 C (fun hg3 => ?_)
                have hxn3 : ∀ b, b ≠ qn3 → lnn3 b = lnh13 b := (fun b _ => by rw [hln3])
                have W21 := W20.new (ln2 := lnn3) hqn3 (hg3 qn3 (List.mem_append_right _ List.mem_cons_self)) hcn3 hxn3 hin3 hrn3 (fun _ => ⟨(show (-2147483648 : Int) ≤ 0 by decide), (show (0 : Int) ≤ 2147483647 by decide)⟩) (Or.inl rfl) (fun q => by cases q) rfl rfl
                have xl16 := XT.new hqn3 hcn3 hxn3
                have X10 := X9.trans xl16
                have sk10 := xl16.skl sk9
                have F15 := F14.new X9 hqn3 hin3 hrn3
                have mr18 := MRK.call mr17 W20 sk9 xl16 ((fT.refl (ls := [])).new (XT.refl (ln := lnh13)) hqn3 hin3 hrn3) rfl rfl
                have tqn3 : ty (Lh13 ++ [qn3]) cln3 qn3 206 := ty_new hcn3
                have h0qn3 : qn3 ∉ L := fun h => hqn3 ((X9 qn3 h).1)
                refine c_dup C dX11_changeIndicator_113 rfl ?_
                refine c_iload_n (j := 3) C dX11_changeIndicator_114 rfl ?_
                refine c_aload_n (j := 1) (x := a0) C dX11_changeIndicator_115 rfl ?_
                have ty154 := xl16.ty ty140
                have re19 : rvn3 a0 0 = rvh13 a0 0 := (by rw [hrn3]; exact congrFun (up0_a (ne_in ty140.1 hqn3)) _)
                rw [rq4] at re19
                refine c_getr (k := 0) C ck_12 dX11_changeIndicator_116 w2_44 (by decide) ty154 rfl rfl (by decide) rfl re19 ?_
                refine c_st (st2 := [.ref (sk 2), .int (iI j), .ref qn3, .ref qn3, .int (iI j), .ref rb2]) rfl ?_
                refine c_iconst C dX11_changeIndicator_119 ?_
                refine c_iconst C dX11_changeIndicator_120 ?_
                have ty155 := xl16.ty ty141
                have pl12 := Phi.le W21 sk10
                refine d_callV (As := [.int (iI 0), .int (iI 0)]) (rest := [.int (iI j), .ref qn3, .ref qn3, .int (iI j), .ref rb2]) C hM (C_slice_65 (a0 := (sk 2)) (i := 0) (j := 0) W21 sk10 ty155 ⟨by decide, by decide⟩ ⟨by decide, by decide⟩ (by show 0 ≤ (0 : Int) ∧ (0 : Int) ≤ 3000 ∧ 0 ≤ (0 : Int) - (0 : Int) ∧ (0 : Int) - (0 : Int) ≤ 8; omega)) dX11_changeIndicator_121 kV_X11_190 rfl ty155 rfl rfl (by decide) ck_2 rfl (Nat.le_of_ble_eq_true rfl) ⟨(Nat.le_of_ble_eq_true rfl), (Nat.le_of_ble_eq_true rfl)⟩ hph pl12 (show 1256 + 24 = 1280 from rfl) (by decide) (fun rh14 Lh14 clh14 lnh14 ivh14 rvh14 h14 => ?_)
                obtain ⟨f14, rfl, xl17, fl14, W22, rgf14, exf14⟩ := h14
                have F16 := F15.call X10 fl14 rfl
                have mr19 := MRK.call mr18 W21 sk10 xl17 fl14 rfl rfl
                have ty156 := xl16.ty ty142
                have ty157 := xl16.ty ty143
                have ty158 := xl16.ty ty144
                have ty159 := xl16.ty ty145
                have ty160 := xl16.ty ty146
                have ty161 := xl16.ty ty147
                have ty162 := xl16.ty ty148
                have ty163 := xl16.ty ty149
                have ty164 := xl16.ty ty150
                have ty165 := xl16.ty ty138
                have ty166 := xl16.ty ty139
                have ty167 := xl16.ty ty151
                have ty168 := xl16.ty ty152
                have ty169 := xl16.ty ty153
                have X11 := X10.trans xl17
                have sk11 := xl17.skl sk10
                refine c_st (st2 := [.ref f14, .int (iI j), .ref qn3, .ref qn3, .int (iI j), .ref rb2]) rfl ?_
                have gf14 : lnh14 f14 = ((0 : Int) - (0 : Int)).toNat := exf14
                refine c_aload_n (j := 1) (x := a0) C dX11_changeIndicator_124 rfl ?_
                have ty170 := xl17.ty ty154
                have re20 : rvh14 a0 0 = rvn3 a0 0 := (fl14.r ty154 rfl 0)
                rw [re19] at re20
                refine c_getr (k := 0) C ck_12 dX11_changeIndicator_125 w2_44 (by decide) ty170 rfl rfl (by decide) rfl re20 ?_
                refine c_st (st2 := [.ref (sk 2), .ref f14, .int (iI j), .ref qn3, .ref qn3, .int (iI j), .ref rb2]) rfl ?_
                refine c_iconst C dX11_changeIndicator_128 ?_
                refine c_aload_n (j := 1) (x := a0) C dX11_changeIndicator_129 rfl ?_
                refine c_getr (k := 0) C ck_12 dX11_changeIndicator_130 w2_44 (by decide) ty170 rfl rfl (by decide) rfl re20 ?_
                refine c_st (st2 := [.ref (sk 2), .int (iI 0), .ref (sk 2), .ref f14, .int (iI j), .ref qn3, .ref qn3, .int (iI j), .ref rb2]) rfl ?_
                have ty171 := xl17.ty ty155
                have ri30 : 0 ≤ ivh14 (sk 2) 2 ∧ ivh14 (sk 2) 2 ≤ 3000 := W22.int ty171 2
                have ie61 : ivh14 (sk 2) 2 = ivn3 (sk 2) 2 := fl14.i ty155 rfl 2
                have ie62 : ivn3 (sk 2) 2 = ivh13 (sk 2) 2 := by rw [hin3]; exact congrFun (up0_a (ne_in ty141.1 hqn3)) _
                refine c_get (k := 2) C ck_2 dX11_changeIndicator_133 w1_44 (by decide) ty171 rfl rfl (by decide) rfl ?_
                have pl13 := Phi.le W22 sk11
                refine d_callV (As := [.int (iI 0), .int (iI (ivh14 (sk 2) 2))]) (rest := [.ref f14, .int (iI j), .ref qn3, .ref qn3, .int (iI j), .ref rb2]) C hM (C_slice_66 (a0 := (sk 2)) (i := 0) (j := ivh14 (sk 2) 2) W22 sk11 ty171 ⟨by decide, by decide⟩ (by omega) (by show 0 ≤ (0 : Int) ∧ (0 : Int) ≤ 3000 ∧ 1 ≤ (ivh14 (sk 2) 2) - (0 : Int) ∧ (ivh14 (sk 2) 2) - (0 : Int) ≤ 4; omega)) dX11_changeIndicator_136 kV_X11_190 rfl ty171 rfl rfl (by decide) ck_2 rfl (Nat.le_of_ble_eq_true rfl) ⟨(Nat.le_of_ble_eq_true rfl), (Nat.le_of_ble_eq_true rfl)⟩ hph pl13 (show 1280 + 20 = 1300 from rfl) (by decide) (fun rh15 Lh15 clh15 lnh15 ivh15 rvh15 h15 => ?_)
                obtain ⟨f15, rfl, xl18, fl15, W23, rgf15, exf15⟩ := h15
                have F17 := F16.call X11 fl15 rfl
                have mr20 := MRK.call mr19 W22 sk11 xl18 fl15 rfl rfl
                have ty172 := xl17.ty ty156
                have ty173 := xl17.ty ty157
                have ty174 := xl17.ty ty158
                have ty175 := xl17.ty ty159
                have ty176 := xl17.ty ty160
                have ty177 := xl17.ty ty161
                have ty178 := xl17.ty ty162
                have ty179 := xl17.ty ty163
                have ty180 := xl17.ty ty164
                have ty181 := xl17.ty ty165
                have ty182 := xl17.ty ty166
                have ty183 := xl17.ty ty167
                have ty184 := xl17.ty ty168
                have ty185 := xl17.ty ty169
                have ty186 := xl17.ty tqn3
                have X12 := X11.trans xl18
                have sk12 := xl18.skl sk11
                refine c_st (st2 := [.ref f15, .ref f14, .int (iI j), .ref qn3, .ref qn3, .int (iI j), .ref rb2]) rfl ?_
                have gf15 : lnh15 f15 = ((ivh14 (sk 2) 2) - (0 : Int)).toNat := exf15
                have ty187 := xl18.ty ty186
                have ty188 := xl18.ty rgf14
                have pl14 := Phi.le W23 sk12
                refine c_callI (As := [.int (iI j), .ref f14, .ref f15]) (rest := [.ref qn3, .int (iI j), .ref rb2]) C hM (Z_row (a0 := qn3) (i := j) (a2 := f14) (a3 := f15) W23 sk12 ty187 ty188 rgf15 (by omega) ) dX11_changeIndicator_139 kI_X11_194 rfl rfl (Nat.le_of_ble_eq_true rfl) ⟨(Nat.le_of_ble_eq_true rfl), (Nat.le_of_ble_eq_true rfl)⟩ (rz1 hph pl14 (by decide)) (fun rh16 Lh16 clh16 lnh16 ivh16 rvh16 h16 => ⟨1300, (zk1 (by obtain ⟨_, _, _, e3, flh16x, Wh16x, _⟩ := h16; subst e3; exact Phi.frn sk12 flh16x rfl)), ?_⟩)
                obtain ⟨rfl, rfl, rfl, rfl, fl16, W24, exf16⟩ := h16
                have F18 := F17.call X12 fl16 rfl
                have mr21 := MRK.call mr20 W23 sk12 XT.refl fl16 rfl rfl
                refine c_st (st2 := [.ref qn3, .int (iI j), .ref rb2]) rfl ?_
                obtain ⟨exf16x, exf16r, exf16p, exf16i, exf16j⟩ := exf16
                have rn4 : ∀ k, ([1, 2] : List Nat).contains k = false → rvh16 qn3 k = none := fun k hk => (Eq.trans (show rvh16 qn3 k = rvh15 qn3 k from (exf16x k hk)) (Eq.trans (show rvh15 qn3 k = rvh14 qn3 k from (fl15.r ty186 rfl k)) (Eq.trans (show rvh14 qn3 k = rvn3 qn3 k from (fl14.r tqn3 rfl k)) (show rvn3 qn3 k = none from (by rw [hrn3]; exact up0_s)))))
                refine c_retag (q := qn3) (t := 20) (by rw [ty187.2]; rfl) (fun clr4 hcr4 => ?_)
                have ty189 := xl18.ty ty170
                have ty190 := ty_rt ty189 hcr4 (ne_ty ty189 ty187 (by decide))
                have ty191 := xl18.ty ty171
                have ty192 := ty_rt ty191 hcr4 (ne_ty ty191 ty187 (by decide))
                have ty193 := xl18.ty ty172
                have ty194 := ty_rt ty193 hcr4 (ne_ty ty193 ty187 (by decide))
                have ty195 := xl18.ty ty173
                have ty196 := ty_rt ty195 hcr4 (ne_ty ty195 ty187 (by decide))
                have ty197 := xl18.ty ty174
                have ty198 := ty_rt ty197 hcr4 (ne_ty ty197 ty187 (by decide))
                have ty199 := xl18.ty ty175
                have ty200 := ty_rt ty199 hcr4 (ne_ty ty199 ty187 (by decide))
                have ty201 := xl18.ty ty176
                have ty202 := ty_rt ty201 hcr4 (ne_ty ty201 ty187 (by decide))
                have ty203 := xl18.ty ty177
                have ty204 := ty_rt ty203 hcr4 (ne_ty ty203 ty187 (by decide))
                have ty205 := xl18.ty ty178
                have ty206 := ty_rt ty205 hcr4 (ne_ty ty205 ty187 (by decide))
                have ty207 := xl18.ty ty179
                have ty208 := ty_rt ty207 hcr4 (ne_ty ty207 ty187 (by decide))
                have ty209 := xl18.ty ty180
                have ty210 := ty_rt ty209 hcr4 (ne_ty ty209 ty187 (by decide))
                have ty211 := xl18.ty ty181
                have ty212 := ty_rt ty211 hcr4 (ne_ty ty211 ty187 (by decide))
                have ty213 := xl18.ty ty182
                have ty214 := ty_rt ty213 hcr4 (ne_ty ty213 ty187 (by decide))
                have ty215 := xl18.ty ty183
                have ty216 := ty_rt ty215 hcr4 (ne_ty ty215 ty187 (by decide))
                have ty217 := xl18.ty ty184
                have ty218 := ty_rt ty217 hcr4 (ne_ty ty217 ty187 (by decide))
                have ty219 := xl18.ty ty185
                have ty220 := ty_rt ty219 hcr4 (ne_ty ty219 ty187 (by decide))
                have ty221 := ty_rt ty188 hcr4 (ne_ty ty188 ty187 (by decide))
                have ty222 := ty_rt rgf15 hcr4 (ne_ty rgf15 ty187 (by decide))
                have tqr4 : ty Lh15 clr4 qn3 20 := ⟨ty187.1, by rw [hcr4, va_up_self]; rfl⟩
                have W25 := W24.retag ty187.1 (by rw [ty187.2]; rfl) hcr4 (fun k => by
                      rcases k with _ | _ | _ | _ | k
                      · exact W24.int ty187 0
                      · exact W24.int ty187 1
                      · exact W24.int ty187 2
                      · exact W24.int ty187 3
                      · exact W24.int ty187 (k + 4)) (fun k => by
                      rcases k with _ | _ | _ | _ | k
                      · rw [rn4 0 (by decide)]; exact rok_none tqr4 rfl
                      · rw [exf16r]; exact rok_some tqr4 ty221 rfl (by decide) rfl
                      · rw [exf16p]; exact rok_some tqr4 ty222 rfl (by decide) rfl
                      · rw [rn4 3 (by decide)]; exact rok_none tqr4 rfl
                      · rw [rn4 (k + 4) (by simp)]; exact rok_none tqr4 rfl) rfl (fun z => by cases z) (fun z => by cases z) rfl
                have X13 := X12.rt hcr4 h0qn3
                have sk13 := sk12.rt hcr4 (by rw [ty187.2]; rfl)
                have mr22 := MRK.rt mr21 W24 sk12 hcr4 (by rw [ty187.2]; rfl)
                have on10 := fun b hb => xl15.ty (on9 b hb)
                have on11 := fun b hb => xl16.ty (on10 b hb)
                have on12 := fun b hb => xl17.ty (on11 b hb)
                have on13 := fun b hb => xl18.ty (on12 b hb)
                have on14 := fun b hb => ty_rt (on13 b hb) hcr4 (ne_ty (on13 b hb) ty187 (by decide))
                have ll4 : 4 ≤ lnh15 rb2 ∧ lnh15 rb2 ≤ 4 := W25.len ty218 rfl
                refine c_aastR (z := j) C ck_6 dX11_changeIndicator_142 ty218 rfl tqr4 rfl rfl (by decide) (by omega) (by omega) (by omega) (fun rv3 pq3 => ⟨1300, (by rw [Phi.putr sk13 pq3 ty218 rfl]; exact Nat.le_refl _), ?_⟩)
                have W26 := W25.putr pq3 ty218 (rok_some ty218 tqr4 rfl (by decide) rfl) rfl (by decide)
                have F19 := F18.putr X13 pq3 ty218 rfl
                have mr23 := MRK.putr mr22 W25 sk13 pq3 ty218 (by decide) (by decide)
                refine c_aload_n (j := 1) (x := a0) C dX11_changeIndicator_143 rfl ?_
                refine c_aload_n (j := 1) (x := a0) C dX11_changeIndicator_144 rfl ?_
                have re21 : rvh15 a0 0 = rvh14 a0 0 := (fl15.r ty170 rfl 0)
                rw [re20] at re21
                have re22 : rvh16 a0 0 = rvh15 a0 0 := (fl16.r ty189 rfl 0)
                rw [re21] at re22
                have re23 : rv3 a0 0 = rvh16 a0 0 := (by rw [pq3]; exact congrFun (upr_a (ne_ty ty190 ty218 (by decide))) _)
                rw [re22] at re23
                refine c_getr (k := 0) C ck_12 dX11_changeIndicator_145 w2_44 (by decide) ty190 rfl rfl (by decide) rfl re23 ?_
                refine c_st (st2 := [.ref (sk 2), .ref a0]) rfl ?_
                have ri31 : 0 ≤ ivh16 (sk 2) 2 ∧ ivh16 (sk 2) 2 ≤ 3000 := W26.int ty192 2
                have ie63 : ivh16 (sk 2) 2 = ivh15 (sk 2) 2 := fl16.i ty191 rfl 2
                have ie64 : ivh15 (sk 2) 2 = ivh14 (sk 2) 2 := fl15.i ty171 rfl 2
                refine c_get (k := 2) C ck_2 dX11_changeIndicator_148 w1_44 (by decide) ty192 rfl rfl (by decide) rfl ?_
                have pl15 := Phi.le W26 sk13
                refine d_callV (As := [.int (iI (ivh16 (sk 2) 2))]) (rest := []) C hM (C_done (a0 := a0) (x := ivh16 (sk 2) 2) W26 sk13 ty190 (by omega) ) dX11_changeIndicator_151 kV_X11_109 rfl ty190 rfl rfl (by decide) ck_12 rfl (Nat.le_of_ble_eq_true rfl) ⟨(Nat.le_of_ble_eq_true rfl), (Nat.le_of_ble_eq_true rfl)⟩ hph pl15 (show 1300 + 0 = 1300 from rfl) (by decide) (fun rh17 Lh17 clh17 lnh17 ivh17 rvh17 h17 => ?_)
                obtain ⟨f17, rfl, rfl, rfl, rfl, rfl, fl17, W27, rgf17, exf17, kp14f17⟩ := h17
                have ri32 : (-2147483648) ≤ ivh16 a0 14 ∧ ivh16 a0 14 ≤ 2147483647 := W26.int ty190 14
                have ie65 : ivh16 a0 14 = ivh15 a0 14 := fl16.i ty189 rfl 14
                have ie66 : ivh15 a0 14 = ivh14 a0 14 := fl15.i ty170 rfl 14
                have ie67 : ivh14 a0 14 = ivn3 a0 14 := fl14.i ty154 rfl 14
                have ie68 : ivn3 a0 14 = ivh13 a0 14 := by rw [hin3]; exact congrFun (up0_a (ne_in ty140.1 hqn3)) _
                have ie69 : ivh13 a0 14 = ivh12 a0 14 := fl13.i ty112 rfl 14
                have ie70 : ivh12 a0 14 = ivn1 a0 14 := fl12.i ty111 rfl 14
                have ie71 : ivn1 a0 14 = iv a0 14 := by rw [hin1]; exact congrFun (up0_a (ne_in t_a0.1 hqn1)) _
                have F20 := F19.call X13 fl17 rfl
                have mr24 := MRK.call mr23 W26 sk13 XT.refl fl17 rfl rfl
                refine c_st (st2 := [.int (iI f17)]) rfl ?_
                have gk14f17 : ivh17 a0 14 = ivh16 a0 14 := kp14f17
                have gf17 : f17 = (ivh16 (sk 2) 2) := exf17
                have ri33 : (-2147483648) ≤ ivh17 a0 14 ∧ ivh17 a0 14 ≤ 2147483647 := W27.int ty190 14
                have ri34 : 0 ≤ ivh17 (sk 23) 2 ∧ ivh17 (sk 23) 2 ≤ 512 := W27.int ty212 2
                have ie73 : ivh17 (sk 23) 2 = ivh16 (sk 23) 2 := fl17.i ty212 rfl 2
                have ie74 : ivh16 (sk 23) 2 = ivh15 (sk 23) 2 := fl16.i ty211 rfl 2
                have ie75 : ivh15 (sk 23) 2 = ivh14 (sk 23) 2 := fl15.i ty181 rfl 2
                have ie76 : ivh14 (sk 23) 2 = ivn3 (sk 23) 2 := fl14.i ty165 rfl 2
                have ie77 : ivn3 (sk 23) 2 = ivh13 (sk 23) 2 := by rw [hin3]; exact congrFun (up0_a (ne_in ty138.1 hqn3)) _
                have ri35 : 0 ≤ ivh17 (sk 22) 2 ∧ ivh17 (sk 22) 2 ≤ 30 := W27.int ty210 2
                have ie78 : ivh17 (sk 22) 2 = ivh16 (sk 22) 2 := fl17.i ty210 rfl 2
                have ie79 : ivh16 (sk 22) 2 = ivh15 (sk 22) 2 := fl16.i ty209 rfl 2
                have ie80 : ivh15 (sk 22) 2 = ivh14 (sk 22) 2 := fl15.i ty180 rfl 2
                have ie81 : ivh14 (sk 22) 2 = ivn3 (sk 22) 2 := fl14.i ty164 rfl 2
                have ie82 : ivn3 (sk 22) 2 = ivh13 (sk 22) 2 := by rw [hin3]; exact congrFun (up0_a (ne_in ty150.1 hqn3)) _
                have ie83 : ivh13 (sk 22) 2 = ivh12 (sk 22) 2 := fl13.i ty132 rfl 2
                have ie84 : ivh12 (sk 22) 2 = ivn1 (sk 22) 2 := fl12.i ty131 rfl 2
                have ie85 : ivn1 (sk 22) 2 = iv (sk 22) 2 := by rw [hin1]; exact congrFun (up0_a (ne_in tsk22.1 hqn1)) _
                have ri36 : 0 ≤ ivh17 (sk 2) 2 ∧ ivh17 (sk 2) 2 ≤ 3000 := W27.int ty192 2
                have ie86 : ivh17 (sk 2) 2 = ivh16 (sk 2) 2 := fl17.i ty192 rfl 2
                have ri37 : (-2147483648) ≤ ivh17 qn1 0 ∧ ivh17 qn1 0 ≤ 2147483647 := W27.int ty216 0
                have ie87 : ivh17 qn1 0 = ivh16 qn1 0 := fl17.i ty216 rfl 0
                have ie88 : ivh16 qn1 0 = ivh15 qn1 0 := fl16.i ty215 rfl 0
                have ie89 : ivh15 qn1 0 = ivh14 qn1 0 := fl15.i ty183 rfl 0
                have ie90 : ivh14 qn1 0 = ivn3 qn1 0 := fl14.i ty167 rfl 0
                have ie91 : ivn3 qn1 0 = ivh13 qn1 0 := by rw [hin3]; exact congrFun (up0_a (ne_in ty151.1 hqn3)) _
                have ie92 : ivh13 qn1 0 = ivh12 qn1 0 := fl13.i tqr3 rfl 0
                have re24 : rvh13 qn1 1 = rvh12 qn1 1 := (fl13.r tqr3 rfl 1)
                rw [exf12r] at re24
                have re25 : rvn3 qn1 1 = rvh13 qn1 1 := (by rw [hrn3]; exact congrFun (up0_a (ne_in ty151.1 hqn3)) _)
                rw [re24] at re25
                have re26 : rvh14 qn1 1 = rvn3 qn1 1 := (fl14.r ty167 rfl 1)
                rw [re25] at re26
                have re27 : rvh15 qn1 1 = rvh14 qn1 1 := (fl15.r ty183 rfl 1)
                rw [re26] at re27
                have re28 : rvh16 qn1 1 = rvh15 qn1 1 := (fl16.r ty215 rfl 1)
                rw [re27] at re28
                have re29 : rv3 qn1 1 = rvh16 qn1 1 := (by rw [pq3]; exact congrFun (upr_a (ne_ty ty216 ty218 (by decide))) _)
                rw [re28] at re29
                exact c_iret C dX11_changeIndicator_154 rfl (by decide) (rom0 hph pl15 (by decide)) ⟨f17, rfl, X13, F20, W27, ⟨by omega, by omega⟩, ⟨(by omega), mr24⟩, (by omega), (Or.inr ⟨by omega, ob1, akob1.2, (fun ss hs hd => by
                    have e2 := irxf4 ss hs (by omega) hd
                    have e3 := e2.mp (by omega)
                    rw [Int.sub_zero] at e3
                    exact ⟨⟨by omega, by omega, gf3.mp (by omega), by omega⟩, e3.2⟩), by omega, ⟨(fun i hi => el_fr hW (tysk22 hS) rfl rfl F20 rfl rfl hi), TSF.of hW hS (fun bb tbb hbb => by have tb1 := xl5.ty tbb; have tb2 := ty_rt tb1 hcr3 (ne_ty tb1 tqn1 (by decide)); have tb3 := xl15.ty tb2; have tb4 := xl16.ty tb3; have tb5 := xl17.ty tb4; have tb6 := xl18.ty tb5; have tb7 := ty_rt tb6 hcr4 (ne_ty tb6 ty187 (by decide)); exact (Eq.trans (show ivh17 bb 7 = ivh16 bb 7 from (fl17.i tb7 rfl 7)) (Eq.trans (show ivh16 bb 7 = ivh15 bb 7 from (fl16.i tb6 rfl 7)) (Eq.trans (show ivh15 bb 7 = ivh14 bb 7 from (fl15.i tb5 rfl 7)) (Eq.trans (show ivh14 bb 7 = ivn3 bb 7 from (fl14.i tb4 rfl 7)) (Eq.trans (show ivn3 bb 7 = ivh13 bb 7 from (by rw [hin3]; exact congrFun (up0_a (ne_in tb3.1 hqn3)) _)) (Eq.trans (show ivh13 bb 7 = ivh12 bb 7 from (fl13.i tb2 rfl 7)) (Eq.trans (show ivh12 bb 7 = ivn1 bb 7 from (fl12.i tb1 rfl 7)) (show ivn1 bb 7 = iv bb 7 from (by rw [hin1]; exact congrFun (up0_a (ne_in tbb.1 hqn1)) _)))))))))) (fun bb tbb => by have tb1 := xl5.ty tbb; have tb2 := ty_rt tb1 hcr3 (ne_ty tb1 tqn1 (by decide)); have tb3 := xl15.ty tb2; have tb4 := xl16.ty tb3; have tb5 := xl17.ty tb4; have tb6 := xl18.ty tb5; have tb7 := ty_rt tb6 hcr4 (ne_ty tb6 ty187 (by decide)); exact (Eq.trans (show ivh17 bb 0 = ivh16 bb 0 from (fl17.i tb7 rfl 0)) (Eq.trans (show ivh16 bb 0 = ivh15 bb 0 from (fl16.i tb6 rfl 0)) (Eq.trans (show ivh15 bb 0 = ivh14 bb 0 from (fl15.i tb5 rfl 0)) (Eq.trans (show ivh14 bb 0 = ivn3 bb 0 from (fl14.i tb4 rfl 0)) (Eq.trans (show ivn3 bb 0 = ivh13 bb 0 from (by rw [hin3]; exact congrFun (up0_a (ne_in tb3.1 hqn3)) _)) (Eq.trans (show ivh13 bb 0 = ivh12 bb 0 from (fl13.i tb2 rfl 0)) (Eq.trans (show ivh12 bb 0 = ivn1 bb 0 from (fl12.i tb1 rfl 0)) (show ivn1 bb 0 = iv bb 0 from (by rw [hin1]; exact congrFun (up0_a (ne_in tbb.1 hqn1)) _)))))))))) (fun bb tbb => by have tb1 := xl5.ty tbb; have tb2 := ty_rt tb1 hcr3 (ne_ty tb1 tqn1 (by decide)); have tb3 := xl15.ty tb2; have tb4 := xl16.ty tb3; have tb5 := xl17.ty tb4; have tb6 := xl18.ty tb5; have tb7 := ty_rt tb6 hcr4 (ne_ty tb6 ty187 (by decide)); exact (Eq.trans (show ivh17 bb 1 = ivh16 bb 1 from (fl17.i tb7 rfl 1)) (Eq.trans (show ivh16 bb 1 = ivh15 bb 1 from (fl16.i tb6 rfl 1)) (Eq.trans (show ivh15 bb 1 = ivh14 bb 1 from (fl15.i tb5 rfl 1)) (Eq.trans (show ivh14 bb 1 = ivn3 bb 1 from (fl14.i tb4 rfl 1)) (Eq.trans (show ivn3 bb 1 = ivh13 bb 1 from (by rw [hin3]; exact congrFun (up0_a (ne_in tb3.1 hqn3)) _)) (Eq.trans (show ivh13 bb 1 = ivh12 bb 1 from (fl13.i tb2 rfl 1)) (Eq.trans (show ivh12 bb 1 = ivn1 bb 1 from (fl12.i tb1 rfl 1)) (show ivn1 bb 1 = iv bb 1 from (by rw [hin1]; exact congrFun (up0_a (ne_in tbb.1 hqn1)) _)))))))))) (fun bb tbb => by have tb1 := xl5.ty tbb; have tb2 := ty_rt tb1 hcr3 (ne_ty tb1 tqn1 (by decide)); have tb3 := xl15.ty tb2; have tb4 := xl16.ty tb3; have tb5 := xl17.ty tb4; have tb6 := xl18.ty tb5; have tb7 := ty_rt tb6 hcr4 (ne_ty tb6 ty187 (by decide)); exact (Eq.trans (show rv3 bb 4 = rvh16 bb 4 from (by rw [pq3]; exact congrFun (upr_a (ne_ty tb7 ty218 (by decide))) _)) (Eq.trans (show rvh16 bb 4 = rvh15 bb 4 from (fl16.r tb6 rfl 4)) (Eq.trans (show rvh15 bb 4 = rvh14 bb 4 from (fl15.r tb5 rfl 4)) (Eq.trans (show rvh14 bb 4 = rvn3 bb 4 from (fl14.r tb4 rfl 4)) (Eq.trans (show rvn3 bb 4 = rvh13 bb 4 from (by rw [hrn3]; exact congrFun (up0_a (ne_in tb3.1 hqn3)) _)) (Eq.trans (show rvh13 bb 4 = rvh12 bb 4 from (fl13.r tb2 rfl 4)) (Eq.trans (show rvh12 bb 4 = rvn1 bb 4 from (fl12.r tb1 rfl 4)) (show rvn1 bb 4 = rv bb 4 from (by rw [hrn1]; exact congrFun (up0_a (ne_in tbb.1 hqn1)) _)))))))))), TSQ.of hW hS (fun bb tbb hbb => by have tb1 := xl5.ty tbb; have tb2 := ty_rt tb1 hcr3 (ne_ty tb1 tqn1 (by decide)); have tb3 := xl15.ty tb2; have tb4 := xl16.ty tb3; have tb5 := xl17.ty tb4; have tb6 := xl18.ty tb5; have tb7 := ty_rt tb6 hcr4 (ne_ty tb6 ty187 (by decide)); exact (Eq.trans (show ivh17 bb 2 = ivh16 bb 2 from (fl17.i tb7 rfl 2)) (Eq.trans (show ivh16 bb 2 = ivh15 bb 2 from (fl16.i tb6 rfl 2)) (Eq.trans (show ivh15 bb 2 = ivh14 bb 2 from (fl15.i tb5 rfl 2)) (Eq.trans (show ivh14 bb 2 = ivn3 bb 2 from (fl14.i tb4 rfl 2)) (Eq.trans (show ivn3 bb 2 = ivh13 bb 2 from (by rw [hin3]; exact congrFun (up0_a (ne_in tb3.1 hqn3)) _)) (Eq.trans (show ivh13 bb 2 = ivh12 bb 2 from (fl13.i tb2 rfl 2)) (Eq.trans (show ivh12 bb 2 = ivn1 bb 2 from (fl12.i tb1 rfl 2)) (show ivn1 bb 2 = iv bb 2 from (by rw [hin1]; exact congrFun (up0_a (ne_in tbb.1 hqn1)) _))))))))))⟩, ⟨(by omega), CS0.of hW hS (Int.le_refl _) (fun i hi => ((fun i hi => el_ch W20 (tysk23 sk9) rfl rfl ((show ∀ bb, ty Lh13 clh13 bb 23 → rv3 bb 1 = rvh13 bb 1 from fun bb tbb => by have tb4 := xl16.ty tbb; have tb5 := xl17.ty tb4; have tb6 := xl18.ty tb5; have tb7 := ty_rt tb6 hcr4 (ne_ty tb6 ty187 (by decide)); exact (Eq.trans (show rv3 bb 1 = rvh16 bb 1 from (by rw [pq3]; exact congrFun (upr_a (ne_ty tb7 ty218 (by decide))) _)) (Eq.trans (show rvh16 bb 1 = rvh15 bb 1 from (fl16.r tb6 rfl 1)) (Eq.trans (show rvh15 bb 1 = rvh14 bb 1 from (fl15.r tb5 rfl 1)) (Eq.trans (show rvh14 bb 1 = rvn3 bb 1 from (fl14.r tb4 rfl 1)) (show rvn3 bb 1 = rvh13 bb 1 from (by rw [hrn3]; exact congrFun (up0_a (ne_in tbb.1 hqn3)) _))))))) (sk 23) (tysk23 sk9)) (fun bb tbb kk => by have tb4 := xl16.ty tbb; have tb5 := xl17.ty tb4; have tb6 := xl18.ty tb5; have tb7 := ty_rt tb6 hcr4 (ne_ty tb6 ty187 (by decide)); exact (Eq.trans (show rv3 bb kk = rvh16 bb kk from (by rw [pq3]; exact congrFun (upr_a (ne_ty tb7 ty218 (by decide))) _)) (Eq.trans (show rvh16 bb kk = rvh15 bb kk from (fl16.r tb6 rfl kk)) (Eq.trans (show rvh15 bb kk = rvh14 bb kk from (fl15.r tb5 rfl kk)) (Eq.trans (show rvh14 bb kk = rvn3 bb kk from (fl14.r tb4 rfl kk)) (show rvn3 bb kk = rvh13 bb kk from (by rw [hrn3]; exact congrFun (up0_a (ne_in tbb.1 hqn3)) _))))))) hi) i (by omega)).trans ((rmef13.2 i (by omega)).trans (ce2 i hi))) (fun bb tbb => by have tb1 := xl5.ty tbb; have tb2 := ty_rt tb1 hcr3 (ne_ty tb1 tqn1 (by decide)); have tb3 := xl15.ty tb2; have tb4 := xl16.ty tb3; have tb5 := xl17.ty tb4; have tb6 := xl18.ty tb5; have tb7 := ty_rt tb6 hcr4 (ne_ty tb6 ty187 (by decide)); exact (Eq.trans (show ivh17 bb 0 = ivh16 bb 0 from (fl17.i tb7 rfl 0)) (Eq.trans (show ivh16 bb 0 = ivh15 bb 0 from (fl16.i tb6 rfl 0)) (Eq.trans (show ivh15 bb 0 = ivh14 bb 0 from (fl15.i tb5 rfl 0)) (Eq.trans (show ivh14 bb 0 = ivn3 bb 0 from (fl14.i tb4 rfl 0)) (Eq.trans (show ivn3 bb 0 = ivh13 bb 0 from (by rw [hin3]; exact congrFun (up0_a (ne_in tb3.1 hqn3)) _)) (Eq.trans (show ivh13 bb 0 = ivh12 bb 0 from (fl13.i tb2 rfl 0)) (Eq.trans (show ivh12 bb 0 = ivn1 bb 0 from (fl12.i tb1 rfl 0)) (show ivn1 bb 0 = iv bb 0 from (by rw [hin1]; exact congrFun (up0_a (ne_in tbb.1 hqn1)) _)))))))))) (fun bb tbb => by have tb1 := xl5.ty tbb; have tb2 := ty_rt tb1 hcr3 (ne_ty tb1 tqn1 (by decide)); have tb3 := xl15.ty tb2; have tb4 := xl16.ty tb3; have tb5 := xl17.ty tb4; have tb6 := xl18.ty tb5; have tb7 := ty_rt tb6 hcr4 (ne_ty tb6 ty187 (by decide)); exact (Eq.trans (show rv3 bb 1 = rvh16 bb 1 from (by rw [pq3]; exact congrFun (upr_a (ne_ty tb7 ty218 (by decide))) _)) (Eq.trans (show rvh16 bb 1 = rvh15 bb 1 from (fl16.r tb6 rfl 1)) (Eq.trans (show rvh15 bb 1 = rvh14 bb 1 from (fl15.r tb5 rfl 1)) (Eq.trans (show rvh14 bb 1 = rvn3 bb 1 from (fl14.r tb4 rfl 1)) (Eq.trans (show rvn3 bb 1 = rvh13 bb 1 from (by rw [hrn3]; exact congrFun (up0_a (ne_in tb3.1 hqn3)) _)) (Eq.trans (show rvh13 bb 1 = rvh12 bb 1 from (fl13.r tb2 rfl 1)) (Eq.trans (show rvh12 bb 1 = rvn1 bb 1 from (fl12.r tb1 rfl 1)) (show rvn1 bb 1 = rv bb 1 from (by rw [hrn1]; exact congrFun (up0_a (ne_in tbb.1 hqn1)) _)))))))))), ⟨qn1, (by rw [show (iv (sk 23) 2).toNat = (ivh12 (sk 23) 2).toNat from congrArg Int.toNat (by omega)]; exact ((fun i hi => el_ch W20 (tysk23 sk9) rfl rfl ((show ∀ bb, ty Lh13 clh13 bb 23 → rv3 bb 1 = rvh13 bb 1 from fun bb tbb => by have tb4 := xl16.ty tbb; have tb5 := xl17.ty tb4; have tb6 := xl18.ty tb5; have tb7 := ty_rt tb6 hcr4 (ne_ty tb6 ty187 (by decide)); exact (Eq.trans (show rv3 bb 1 = rvh16 bb 1 from (by rw [pq3]; exact congrFun (upr_a (ne_ty tb7 ty218 (by decide))) _)) (Eq.trans (show rvh16 bb 1 = rvh15 bb 1 from (fl16.r tb6 rfl 1)) (Eq.trans (show rvh15 bb 1 = rvh14 bb 1 from (fl15.r tb5 rfl 1)) (Eq.trans (show rvh14 bb 1 = rvn3 bb 1 from (fl14.r tb4 rfl 1)) (show rvn3 bb 1 = rvh13 bb 1 from (by rw [hrn3]; exact congrFun (up0_a (ne_in tbb.1 hqn3)) _))))))) (sk 23) (tysk23 sk9)) (fun bb tbb kk => by have tb4 := xl16.ty tbb; have tb5 := xl17.ty tb4; have tb6 := xl18.ty tb5; have tb7 := ty_rt tb6 hcr4 (ne_ty tb6 ty187 (by decide)); exact (Eq.trans (show rv3 bb kk = rvh16 bb kk from (by rw [pq3]; exact congrFun (upr_a (ne_ty tb7 ty218 (by decide))) _)) (Eq.trans (show rvh16 bb kk = rvh15 bb kk from (fl16.r tb6 rfl kk)) (Eq.trans (show rvh15 bb kk = rvh14 bb kk from (fl15.r tb5 rfl kk)) (Eq.trans (show rvh14 bb kk = rvn3 bb kk from (fl14.r tb4 rfl kk)) (show rvn3 bb kk = rvh13 bb kk from (by rw [hrn3]; exact congrFun (up0_a (ne_in tbb.1 hqn3)) _))))))) hi) _ (by omega)).trans rmef13.1), (by omega), re29⟩⟩⟩)⟩
              · refine c_null C dX11_changeIndicator_106 ?_
                refine c_goto (tgt := 142) C dX11_changeIndicator_107 (by decide) ?_
                have ty223 := xl15.ty ty136
                have ll5 : 4 ≤ lnh13 rb2 ∧ lnh13 rb2 ≤ 4 := W20.len ty223 rfl
                refine c_aastNR (z := j) C dX11_changeIndicator_142 ty223 rfl (by omega) (by omega) (by omega) (fun rv4 pq4 => ⟨1236, (by rw [Phi.putr sk9 pq4 ty223 rfl]; exact Nat.le_refl _), ?_⟩)
                have W28 := W20.putr pq4 ty223 (fun _ => ⟨fun _ => by rw [ty223.2]; rfl, fun _ qq => by cases qq⟩) rfl (by decide)
                have F21 := F14.putr X9 pq4 ty223 rfl
                have mr25 := MRK.putr mr17 W20 sk9 pq4 ty223 (by decide) (by decide)
                refine c_aload_n (j := 1) (x := a0) C dX11_changeIndicator_143 rfl ?_
                refine c_aload_n (j := 1) (x := a0) C dX11_changeIndicator_144 rfl ?_
                have re30 : rv4 a0 0 = rvh13 a0 0 := (by rw [pq4]; exact congrFun (upr_a (ne_ty ty140 ty223 (by decide))) _)
                rw [rq4] at re30
                refine c_getr (k := 0) C ck_12 dX11_changeIndicator_145 w2_44 (by decide) ty140 rfl rfl (by decide) rfl re30 ?_
                refine c_st (st2 := [.ref (sk 2), .ref a0]) rfl ?_
                refine c_get (k := 2) C ck_2 dX11_changeIndicator_148 w1_44 (by decide) ty141 rfl rfl (by decide) rfl ?_
                have pl16 := Phi.le W28 sk9
                refine d_callV (As := [.int (iI (ivh13 (sk 2) 2))]) (rest := []) C hM (C_done (a0 := a0) (x := ivh13 (sk 2) 2) W28 sk9 ty140 (by omega) ) dX11_changeIndicator_151 kV_X11_109 rfl ty140 rfl rfl (by decide) ck_12 rfl (Nat.le_of_ble_eq_true rfl) ⟨(Nat.le_of_ble_eq_true rfl), (Nat.le_of_ble_eq_true rfl)⟩ hph pl16 (show 1236 + 0 = 1236 from rfl) (by decide) (fun rh18 Lh18 clh18 lnh18 ivh18 rvh18 h18 => ?_)
                obtain ⟨f18, rfl, rfl, rfl, rfl, rfl, fl18, W29, rgf18, exf18, kp14f18⟩ := h18
                have ri38 : (-2147483648) ≤ ivh13 a0 14 ∧ ivh13 a0 14 ≤ 2147483647 := W28.int ty140 14
                have ie93 : ivh13 a0 14 = ivh12 a0 14 := fl13.i ty112 rfl 14
                have ie94 : ivh12 a0 14 = ivn1 a0 14 := fl12.i ty111 rfl 14
                have ie95 : ivn1 a0 14 = iv a0 14 := by rw [hin1]; exact congrFun (up0_a (ne_in t_a0.1 hqn1)) _
                have F22 := F21.call X9 fl18 rfl
                have mr26 := MRK.call mr25 W28 sk9 XT.refl fl18 rfl rfl
                refine c_st (st2 := [.int (iI f18)]) rfl ?_
                have gk14f18 : ivh18 a0 14 = ivh13 a0 14 := kp14f18
                have gf18 : f18 = (ivh13 (sk 2) 2) := exf18
                have ri39 : (-2147483648) ≤ ivh18 a0 14 ∧ ivh18 a0 14 ≤ 2147483647 := W29.int ty140 14
                have ri40 : 0 ≤ ivh18 (sk 23) 2 ∧ ivh18 (sk 23) 2 ≤ 512 := W29.int ty138 2
                have ie97 : ivh18 (sk 23) 2 = ivh13 (sk 23) 2 := fl18.i ty138 rfl 2
                have ty224 := xl15.ty ty132
                have ri41 : 0 ≤ ivh18 (sk 22) 2 ∧ ivh18 (sk 22) 2 ≤ 30 := W29.int ty224 2
                have ie98 : ivh18 (sk 22) 2 = ivh13 (sk 22) 2 := fl18.i ty224 rfl 2
                have ie99 : ivh13 (sk 22) 2 = ivh12 (sk 22) 2 := fl13.i ty132 rfl 2
                have ie100 : ivh12 (sk 22) 2 = ivn1 (sk 22) 2 := fl12.i ty131 rfl 2
                have ie101 : ivn1 (sk 22) 2 = iv (sk 22) 2 := by rw [hin1]; exact congrFun (up0_a (ne_in tsk22.1 hqn1)) _
                have ri42 : 0 ≤ ivh18 (sk 2) 2 ∧ ivh18 (sk 2) 2 ≤ 3000 := W29.int ty141 2
                have ie102 : ivh18 (sk 2) 2 = ivh13 (sk 2) 2 := fl18.i ty141 rfl 2
                have ty225 := xl15.ty tqr3
                have ri43 : (-2147483648) ≤ ivh18 qn1 0 ∧ ivh18 qn1 0 ≤ 2147483647 := W29.int ty225 0
                have ie103 : ivh18 qn1 0 = ivh13 qn1 0 := fl18.i ty225 rfl 0
                have ie104 : ivh13 qn1 0 = ivh12 qn1 0 := fl13.i tqr3 rfl 0
                have re31 : rvh13 qn1 1 = rvh12 qn1 1 := (fl13.r tqr3 rfl 1)
                rw [exf12r] at re31
                have re32 : rv4 qn1 1 = rvh13 qn1 1 := (by rw [pq4]; exact congrFun (upr_a (ne_ty ty225 ty223 (by decide))) _)
                rw [re31] at re32
                exact c_iret C dX11_changeIndicator_154 rfl (by decide) (rom0 hph pl16 (by decide)) ⟨f18, rfl, X9, F22, W29, ⟨by omega, by omega⟩, ⟨(by omega), mr26⟩, (by omega), (Or.inr ⟨by omega, ob1, akob1.2, (fun ss hs hd => by
                    have e2 := irxf4 ss hs (by omega) hd
                    have e3 := e2.mp (by omega)
                    rw [Int.sub_zero] at e3
                    exact ⟨⟨by omega, by omega, gf3.mp (by omega), by omega⟩, e3.2⟩), by omega, ⟨(fun i hi => el_fr hW (tysk22 hS) rfl rfl F22 rfl rfl hi), TSF.of hW hS (fun bb tbb hbb => by have tb1 := xl5.ty tbb; have tb2 := ty_rt tb1 hcr3 (ne_ty tb1 tqn1 (by decide)); have tb3 := xl15.ty tb2; exact (Eq.trans (show ivh18 bb 7 = ivh13 bb 7 from (fl18.i tb3 rfl 7)) (Eq.trans (show ivh13 bb 7 = ivh12 bb 7 from (fl13.i tb2 rfl 7)) (Eq.trans (show ivh12 bb 7 = ivn1 bb 7 from (fl12.i tb1 rfl 7)) (show ivn1 bb 7 = iv bb 7 from (by rw [hin1]; exact congrFun (up0_a (ne_in tbb.1 hqn1)) _)))))) (fun bb tbb => by have tb1 := xl5.ty tbb; have tb2 := ty_rt tb1 hcr3 (ne_ty tb1 tqn1 (by decide)); have tb3 := xl15.ty tb2; exact (Eq.trans (show ivh18 bb 0 = ivh13 bb 0 from (fl18.i tb3 rfl 0)) (Eq.trans (show ivh13 bb 0 = ivh12 bb 0 from (fl13.i tb2 rfl 0)) (Eq.trans (show ivh12 bb 0 = ivn1 bb 0 from (fl12.i tb1 rfl 0)) (show ivn1 bb 0 = iv bb 0 from (by rw [hin1]; exact congrFun (up0_a (ne_in tbb.1 hqn1)) _)))))) (fun bb tbb => by have tb1 := xl5.ty tbb; have tb2 := ty_rt tb1 hcr3 (ne_ty tb1 tqn1 (by decide)); have tb3 := xl15.ty tb2; exact (Eq.trans (show ivh18 bb 1 = ivh13 bb 1 from (fl18.i tb3 rfl 1)) (Eq.trans (show ivh13 bb 1 = ivh12 bb 1 from (fl13.i tb2 rfl 1)) (Eq.trans (show ivh12 bb 1 = ivn1 bb 1 from (fl12.i tb1 rfl 1)) (show ivn1 bb 1 = iv bb 1 from (by rw [hin1]; exact congrFun (up0_a (ne_in tbb.1 hqn1)) _)))))) (fun bb tbb => by have tb1 := xl5.ty tbb; have tb2 := ty_rt tb1 hcr3 (ne_ty tb1 tqn1 (by decide)); have tb3 := xl15.ty tb2; exact (Eq.trans (show rv4 bb 4 = rvh13 bb 4 from (by rw [pq4]; exact congrFun (upr_a (ne_ty tb3 ty223 (by decide))) _)) (Eq.trans (show rvh13 bb 4 = rvh12 bb 4 from (fl13.r tb2 rfl 4)) (Eq.trans (show rvh12 bb 4 = rvn1 bb 4 from (fl12.r tb1 rfl 4)) (show rvn1 bb 4 = rv bb 4 from (by rw [hrn1]; exact congrFun (up0_a (ne_in tbb.1 hqn1)) _)))))), TSQ.of hW hS (fun bb tbb hbb => by have tb1 := xl5.ty tbb; have tb2 := ty_rt tb1 hcr3 (ne_ty tb1 tqn1 (by decide)); have tb3 := xl15.ty tb2; exact (Eq.trans (show ivh18 bb 2 = ivh13 bb 2 from (fl18.i tb3 rfl 2)) (Eq.trans (show ivh13 bb 2 = ivh12 bb 2 from (fl13.i tb2 rfl 2)) (Eq.trans (show ivh12 bb 2 = ivn1 bb 2 from (fl12.i tb1 rfl 2)) (show ivn1 bb 2 = iv bb 2 from (by rw [hin1]; exact congrFun (up0_a (ne_in tbb.1 hqn1)) _))))))⟩, ⟨(by omega), CS0.of hW hS (Int.le_refl _) (fun i hi => ((fun i hi => el_ch W20 (tysk23 sk9) rfl rfl ((show ∀ bb, ty Lh13 clh13 bb 23 → rv4 bb 1 = rvh13 bb 1 from fun bb tbb => by exact (show rv4 bb 1 = rvh13 bb 1 from (by rw [pq4]; exact congrFun (upr_a (ne_ty tbb ty223 (by decide))) _))) (sk 23) (tysk23 sk9)) (fun bb tbb kk => by exact (show rv4 bb kk = rvh13 bb kk from (by rw [pq4]; exact congrFun (upr_a (ne_ty tbb ty223 (by decide))) _))) hi) i (by omega)).trans ((rmef13.2 i (by omega)).trans (ce2 i hi))) (fun bb tbb => by have tb1 := xl5.ty tbb; have tb2 := ty_rt tb1 hcr3 (ne_ty tb1 tqn1 (by decide)); have tb3 := xl15.ty tb2; exact (Eq.trans (show ivh18 bb 0 = ivh13 bb 0 from (fl18.i tb3 rfl 0)) (Eq.trans (show ivh13 bb 0 = ivh12 bb 0 from (fl13.i tb2 rfl 0)) (Eq.trans (show ivh12 bb 0 = ivn1 bb 0 from (fl12.i tb1 rfl 0)) (show ivn1 bb 0 = iv bb 0 from (by rw [hin1]; exact congrFun (up0_a (ne_in tbb.1 hqn1)) _)))))) (fun bb tbb => by have tb1 := xl5.ty tbb; have tb2 := ty_rt tb1 hcr3 (ne_ty tb1 tqn1 (by decide)); have tb3 := xl15.ty tb2; exact (Eq.trans (show rv4 bb 1 = rvh13 bb 1 from (by rw [pq4]; exact congrFun (upr_a (ne_ty tb3 ty223 (by decide))) _)) (Eq.trans (show rvh13 bb 1 = rvh12 bb 1 from (fl13.r tb2 rfl 1)) (Eq.trans (show rvh12 bb 1 = rvn1 bb 1 from (fl12.r tb1 rfl 1)) (show rvn1 bb 1 = rv bb 1 from (by rw [hrn1]; exact congrFun (up0_a (ne_in tbb.1 hqn1)) _)))))), ⟨qn1, (by rw [show (iv (sk 23) 2).toNat = (ivh12 (sk 23) 2).toNat from congrArg Int.toNat (by omega)]; exact ((fun i hi => el_ch W20 (tysk23 sk9) rfl rfl ((show ∀ bb, ty Lh13 clh13 bb 23 → rv4 bb 1 = rvh13 bb 1 from fun bb tbb => by exact (show rv4 bb 1 = rvh13 bb 1 from (by rw [pq4]; exact congrFun (upr_a (ne_ty tbb ty223 (by decide))) _))) (sk 23) (tysk23 sk9)) (fun bb tbb kk => by exact (show rv4 bb kk = rvh13 bb kk from (by rw [pq4]; exact congrFun (upr_a (ne_ty tbb ty223 (by decide))) _))) hi) _ (by omega)).trans rmef13.1), (by omega), re32⟩⟩⟩)⟩
          · refine c_aload_n (j := 1) (x := a0) C dX11_changeIndicator_61 rfl ?_
            refine c_bipush (z := 6) C dX11_changeIndicator_62 (by decide) ?_
            refine d_callV (As := [.int (iI 6)]) (rest := []) C hM (C_refuse (a0 := a0) (x := 6) hW hS t_a0 ⟨by decide, by decide⟩ ) dX11_changeIndicator_64 kV_X11_102 rfl t_a0 rfl rfl (by decide) ck_12 rfl (Nat.le_of_ble_eq_true rfl) ⟨(Nat.le_of_ble_eq_true rfl), (Nat.le_of_ble_eq_true rfl)⟩ hph hph (show 0 + 0 = 0 from rfl) (by decide) (fun rh19 Lh19 clh19 lnh19 ivh19 rvh19 h19 => ?_)
            obtain ⟨f19, rfl, rfl, rfl, rfl, rfl, fl19, W30, rgf19, exf19, kp14f19⟩ := h19
            have ri44 : (-2147483648) ≤ iv a0 14 ∧ iv a0 14 ≤ 2147483647 := hW.int t_a0 14
            have F23 := hF0.call hX0 fl19 rfl
            have mr27 := MRK.call hmr hW hS XT.refl fl19 rfl rfl
            refine c_st (st2 := [.int (iI f19)]) rfl ?_
            have gk14f19 : ivh19 a0 14 = iv a0 14 := kp14f19
            have gf19 : f19 = -1 := exf19
            have ri45 : (-2147483648) ≤ ivh19 a0 14 ∧ ivh19 a0 14 ≤ 2147483647 := W30.int t_a0 14
            have ri46 : 0 ≤ ivh19 (sk 23) 2 ∧ ivh19 (sk 23) 2 ≤ 512 := W30.int tsk23 2
            have ie106 : ivh19 (sk 23) 2 = iv (sk 23) 2 := fl19.i tsk23 rfl 2
            have ri47 : 0 ≤ ivh19 (sk 22) 2 ∧ ivh19 (sk 22) 2 ≤ 30 := W30.int tsk22 2
            have ie107 : ivh19 (sk 22) 2 = iv (sk 22) 2 := fl19.i tsk22 rfl 2
            have ri48 : 0 ≤ ivh19 (sk 2) 2 ∧ ivh19 (sk 2) 2 ≤ 3000 := W30.int tsk2 2
            have ie108 : ivh19 (sk 2) 2 = iv (sk 2) 2 := fl19.i tsk2 rfl 2
            have ri49 : (-2147483648) ≤ ivh19 ob1 0 ∧ ivh19 ob1 0 ≤ 2147483647 := W30.int tob1 0
            have ie109 : ivh19 ob1 0 = iv ob1 0 := fl19.i tob1 rfl 0
            exact c_iret C dX11_changeIndicator_67 rfl (by decide) (rom0 hph hph (by decide)) ⟨f19, rfl, hX0, F23, W30, ⟨by omega, by omega⟩, ⟨(by omega), mr27⟩, (by omega), (Or.inl ⟨by omega, PSAME.fr hW hS fl19 rfl rfl rfl rfl rfl rfl rfl, (fun ss t hs ht hd h => by
                have e := ht.uni akob1.2
                subst e
                obtain ⟨⟨h1, h2, -, h4⟩, h5⟩ := h
                have e1 := irxf4 ss hs (by omega) hd
                have e2 := e1.mpr ⟨by omega, by rw [Int.sub_zero]; exact h5⟩
                clear e1
                omega)⟩)⟩
        · refine c_aload_n (j := 1) (x := a0) C dX11_changeIndicator_43 rfl ?_
          refine c_iconst C dX11_changeIndicator_44 ?_
          refine d_callV (As := [.int (iI 4)]) (rest := []) C hM (C_refuse (a0 := a0) (x := 4) hW hS t_a0 ⟨by decide, by decide⟩ ) dX11_changeIndicator_45 kV_X11_102 rfl t_a0 rfl rfl (by decide) ck_12 rfl (Nat.le_of_ble_eq_true rfl) ⟨(Nat.le_of_ble_eq_true rfl), (Nat.le_of_ble_eq_true rfl)⟩ hph hph (show 0 + 0 = 0 from rfl) (by decide) (fun rh20 Lh20 clh20 lnh20 ivh20 rvh20 h20 => ?_)
          obtain ⟨f20, rfl, rfl, rfl, rfl, rfl, fl20, W31, rgf20, exf20, kp14f20⟩ := h20
          have ri50 : (-2147483648) ≤ iv a0 14 ∧ iv a0 14 ≤ 2147483647 := hW.int t_a0 14
          have F24 := hF0.call hX0 fl20 rfl
          have mr28 := MRK.call hmr hW hS XT.refl fl20 rfl rfl
          refine c_st (st2 := [.int (iI f20)]) rfl ?_
          have gk14f20 : ivh20 a0 14 = iv a0 14 := kp14f20
          have gf20 : f20 = -1 := exf20
          have ri51 : (-2147483648) ≤ ivh20 a0 14 ∧ ivh20 a0 14 ≤ 2147483647 := W31.int t_a0 14
          have ri52 : 0 ≤ ivh20 (sk 23) 2 ∧ ivh20 (sk 23) 2 ≤ 512 := W31.int tsk23 2
          have ie111 : ivh20 (sk 23) 2 = iv (sk 23) 2 := fl20.i tsk23 rfl 2
          have ri53 : 0 ≤ ivh20 (sk 22) 2 ∧ ivh20 (sk 22) 2 ≤ 30 := W31.int tsk22 2
          have ie112 : ivh20 (sk 22) 2 = iv (sk 22) 2 := fl20.i tsk22 rfl 2
          have ri54 : 0 ≤ ivh20 (sk 2) 2 ∧ ivh20 (sk 2) 2 ≤ 3000 := W31.int tsk2 2
          have ie113 : ivh20 (sk 2) 2 = iv (sk 2) 2 := fl20.i tsk2 rfl 2
          have ri55 : (-2147483648) ≤ ivh20 ob1 0 ∧ ivh20 ob1 0 ≤ 2147483647 := W31.int tob1 0
          have ie114 : ivh20 ob1 0 = iv ob1 0 := fl20.i tob1 rfl 0
          exact c_iret C dX11_changeIndicator_48 rfl (by decide) (rom0 hph hph (by decide)) ⟨f20, rfl, hX0, F24, W31, ⟨by omega, by omega⟩, ⟨(by omega), mr28⟩, (by omega), (Or.inl ⟨by omega, PSAME.fr hW hS fl20 rfl rfl rfl rfl rfl rfl rfl, (fun ss t hs ht hd h => by
              have e := ht.uni akob1.2
              subst e
              obtain ⟨⟨h1, h2, h3, h4⟩, -⟩ := h
              have m := gf3
              have m2 : f3 = 1 := m.mpr h3
              omega)⟩)⟩
      · subst oq1
        refine c_lv (lv2 := [(3, .null), (0, .ref a0), (1, .int (iI i)), (2, .int (iI j))]) [0, 1, 2, 3] rfl ?_
        refine c_st (st2 := []) rfl ?_
        refine c_aload_n (j := 1) (x := a0) C dX11_changeIndicator_29 rfl ?_
        refine c_iconst C dX11_changeIndicator_30 ?_
        refine d_callV (As := [.int (iI 3)]) (rest := []) C hM (C_refuse (a0 := a0) (x := 3) hW hS t_a0 ⟨by decide, by decide⟩ ) dX11_changeIndicator_31 kV_X11_102 rfl t_a0 rfl rfl (by decide) ck_12 rfl (Nat.le_of_ble_eq_true rfl) ⟨(Nat.le_of_ble_eq_true rfl), (Nat.le_of_ble_eq_true rfl)⟩ hph hph (show 0 + 0 = 0 from rfl) (by decide) (fun rh21 Lh21 clh21 lnh21 ivh21 rvh21 h21 => ?_)
        obtain ⟨f21, rfl, rfl, rfl, rfl, rfl, fl21, W32, rgf21, exf21, kp14f21⟩ := h21
        have ri56 : (-2147483648) ≤ iv a0 14 ∧ iv a0 14 ≤ 2147483647 := hW.int t_a0 14
        have F25 := hF0.call hX0 fl21 rfl
        have mr29 := MRK.call hmr hW hS XT.refl fl21 rfl rfl
        refine c_st (st2 := [.int (iI f21)]) rfl ?_
        have gk14f21 : ivh21 a0 14 = iv a0 14 := kp14f21
        have gf21 : f21 = -1 := exf21
        have ri57 : (-2147483648) ≤ ivh21 a0 14 ∧ ivh21 a0 14 ≤ 2147483647 := W32.int t_a0 14
        have ri58 : 0 ≤ ivh21 (sk 23) 2 ∧ ivh21 (sk 23) 2 ≤ 512 := W32.int tsk23 2
        have ie116 : ivh21 (sk 23) 2 = iv (sk 23) 2 := fl21.i tsk23 rfl 2
        have ri59 : 0 ≤ ivh21 (sk 22) 2 ∧ ivh21 (sk 22) 2 ≤ 30 := W32.int tsk22 2
        have ie117 : ivh21 (sk 22) 2 = iv (sk 22) 2 := fl21.i tsk22 rfl 2
        have ri60 : 0 ≤ ivh21 (sk 2) 2 ∧ ivh21 (sk 2) 2 ≤ 3000 := W32.int tsk2 2
        have ie118 : ivh21 (sk 2) 2 = iv (sk 2) 2 := fl21.i tsk2 rfl 2
        exact c_iret C dX11_changeIndicator_34 rfl (by decide) (rom0 hph hph (by decide)) ⟨f21, rfl, hX0, F25, W32, ⟨by omega, by omega⟩, ⟨(by omega), mr29⟩, (by omega), (Or.inl ⟨by omega, PSAME.fr hW hS fl21 rfl rfl rfl rfl rfl rfl rfl, (fun ss t hs ht hd _ => gf2.2 rfl t ht)⟩)⟩
    · refine c_aload_n (j := 0) (x := a0) C dX11_changeIndicator_9 rfl ?_
      refine c_bipush (z := 6) C dX11_changeIndicator_10 (by decide) ?_
      refine d_callV (As := [.int (iI 6)]) (rest := []) C hM (C_refuse (a0 := a0) (x := 6) hW hS t_a0 ⟨by decide, by decide⟩ ) dX11_changeIndicator_12 kV_X11_102 rfl t_a0 rfl rfl (by decide) ck_12 rfl (Nat.le_of_ble_eq_true rfl) ⟨(Nat.le_of_ble_eq_true rfl), (Nat.le_of_ble_eq_true rfl)⟩ hph hph (show 0 + 0 = 0 from rfl) (by decide) (fun rh22 Lh22 clh22 lnh22 ivh22 rvh22 h22 => ?_)
      obtain ⟨f22, rfl, rfl, rfl, rfl, rfl, fl22, W33, rgf22, exf22, kp14f22⟩ := h22
      have ri61 : (-2147483648) ≤ iv a0 14 ∧ iv a0 14 ≤ 2147483647 := hW.int t_a0 14
      have F26 := hF0.call hX0 fl22 rfl
      have mr30 := MRK.call hmr hW hS XT.refl fl22 rfl rfl
      refine c_st (st2 := [.int (iI f22)]) rfl ?_
      have gk14f22 : ivh22 a0 14 = iv a0 14 := kp14f22
      have gf22 : f22 = -1 := exf22
      have ri62 : (-2147483648) ≤ ivh22 a0 14 ∧ ivh22 a0 14 ≤ 2147483647 := W33.int t_a0 14
      have ri63 : 0 ≤ ivh22 (sk 23) 2 ∧ ivh22 (sk 23) 2 ≤ 512 := W33.int tsk23 2
      have ie120 : ivh22 (sk 23) 2 = iv (sk 23) 2 := fl22.i tsk23 rfl 2
      have ri64 : 0 ≤ ivh22 (sk 22) 2 ∧ ivh22 (sk 22) 2 ≤ 30 := W33.int tsk22 2
      have ie121 : ivh22 (sk 22) 2 = iv (sk 22) 2 := fl22.i tsk22 rfl 2
      have ri65 : 0 ≤ ivh22 (sk 2) 2 ∧ ivh22 (sk 2) 2 ≤ 3000 := W33.int tsk2 2
      have ie122 : ivh22 (sk 2) 2 = iv (sk 2) 2 := fl22.i tsk2 rfl 2
      exact c_iret C dX11_changeIndicator_15 rfl (by decide) (rom0 hph hph (by decide)) ⟨f22, rfl, hX0, F26, W33, ⟨by omega, by omega⟩, ⟨(by omega), mr30⟩, (by omega), (Or.inl ⟨by omega, PSAME.fr hW hS fl22 rfl rfl rfl rfl rfl rfl rfl, (fun ss t hs ht hd h => by
          obtain ⟨h1, h2, h3, h4⟩ := h.1
          omega)⟩)⟩
set_option maxHeartbeats 4000000 in
set_option maxRecDepth 100000 in
theorem C_indicator {l : Launch} {G : GT} {mi : Nat} {sk : Nat → Nat} {L : List Nat} {cl ln : Nat → Nat} {iv : Nat → Nat → Int} {rv : Nat → Nat → Option Nat}  {a0 : Nat} {i : Int} {j : Int} (hW : WT (g0 G) sk L cl ln iv rv) (hS : SKL sk L cl) (t_a0 : ty L cl a0 1) (h_i : -2147483648 ≤ i ∧ i ≤ 2147483647) (h_j : -2147483648 ≤ j ∧ j ≤ 2147483647) (hmr : MRK sk cl iv rv) (hch : iv (sk 23) 2 < 512) : Mc l G mi (Phi (g0 G) sk) PHM yX11_indicator cX11_indicator 4 (some .int) 9 [.ref a0, .int (iI i), .int (iI j)] L cl ln iv rv 1300 (fun v L2 cl2 ln2 iv2 rv2 => ∃ f : Int, v = some (.int (iI f)) ∧ XT L cl ln L2 cl2 ln2 ∧ fT [1, 65, 66, 206, 68, 23, 1001, 201, 2] L cl iv rv iv2 rv2 ∧ WT (g0 G) sk L2 cl2 ln2 iv2 rv2 ∧ (-2147483648 ≤ f ∧ f ≤ 2147483647) ∧ (iv2 (sk 23) 2 ≤ iv (sk 23) 2 + 1 ∧ MRK sk cl2 iv2 rv2) ∧ iv2 a0 14 = iv a0 14 ∧ iv2 (sk 2) 2 = 0 ∧ (PIND i j f sk iv rv iv2 rv2)) := by
  refine Mc.mk (by decide) (Nat.le_of_ble_eq_true rfl) ?_
  intro p e s m args below meth c A C hM
  have hph := Phi.le hW hS
  have tsk2 : ty L cl (sk 2) 2 := ⟨(hS 2 rfl).1, by rw [(hS 2 rfl).2]; rfl⟩
  have tsk3 : ty L cl (sk 3) 3 := ⟨(hS 3 rfl).1, by rw [(hS 3 rfl).2]; rfl⟩
  have tsk4 : ty L cl (sk 4) 4 := ⟨(hS 4 rfl).1, by rw [(hS 4 rfl).2]; rfl⟩
  have tsk5 : ty L cl (sk 5) 5 := ⟨(hS 5 rfl).1, by rw [(hS 5 rfl).2]; rfl⟩
  have tsk13 : ty L cl (sk 13) 13 := ⟨(hS 13 rfl).1, by rw [(hS 13 rfl).2]; rfl⟩
  have tsk14 : ty L cl (sk 14) 14 := ⟨(hS 14 rfl).1, by rw [(hS 14 rfl).2]; rfl⟩
  have tsk15 : ty L cl (sk 15) 15 := ⟨(hS 15 rfl).1, by rw [(hS 15 rfl).2]; rfl⟩
  have tsk16 : ty L cl (sk 16) 16 := ⟨(hS 16 rfl).1, by rw [(hS 16 rfl).2]; rfl⟩
  have tsk17 : ty L cl (sk 17) 17 := ⟨(hS 17 rfl).1, by rw [(hS 17 rfl).2]; rfl⟩
  have tsk22 : ty L cl (sk 22) 22 := ⟨(hS 22 rfl).1, by rw [(hS 22 rfl).2]; rfl⟩
  have tsk23 : ty L cl (sk 23) 23 := ⟨(hS 23 rfl).1, by rw [(hS 23 rfl).2]; rfl⟩
  have hX0 : XT L cl ln L cl ln := XT.refl
  have hF0 : fT [1, 65, 66, 206, 68, 23, 1001, 201, 2] L cl iv rv iv rv := fT.refl
  have ri1 : 0 ≤ iv (sk 23) 2 ∧ iv (sk 23) 2 ≤ 512 := hW.int tsk23 2
  refine c_aload_n (j := 0) (x := a0) C dX11_indicator_0 rfl ?_
  refine c_iload_n (j := 1) C dX11_indicator_1 rfl ?_
  refine c_iload_n (j := 2) C dX11_indicator_2 rfl ?_
  refine d_callV (As := [.int (iI i), .int (iI j)]) (rest := []) C hM (C_changeInd (a0 := a0) (i := i) (j := j) hW hS t_a0 (by omega) (by omega) hmr (by show iv (sk 23) 2 < 512; omega)) dX11_indicator_3 kV_X11_208 rfl t_a0 rfl rfl (by decide) ck_12 rfl (Nat.le_of_ble_eq_true rfl) ⟨(Nat.le_of_ble_eq_true rfl), (Nat.le_of_ble_eq_true rfl)⟩ hph hph (show 0 + 1300 = 1300 from rfl) (by decide) (fun rh1 Lh1 clh1 lnh1 ivh1 rvh1 h1 => ?_)
  obtain ⟨f1, rfl, xl1, fl1, W1, rgf1, exf1, kp14f1, tbxf1⟩ := h1
  have ri2 : (-2147483648) ≤ iv a0 14 ∧ iv a0 14 ≤ 2147483647 := hW.int t_a0 14
  have F1 := hF0.call hX0 fl1 rfl
  have mr1 := MRK.call hmr hW hS xl1 fl1 rfl rfl
  have X1 := hX0.trans xl1
  have sk1 := xl1.skl hS
  refine c_st (st2 := [.int (iI f1)]) rfl ?_
  have gk14f1 : ivh1 a0 14 = iv a0 14 := kp14f1
  have ty1 := xl1.ty tsk23
  have ri3 : 0 ≤ ivh1 (sk 23) 2 ∧ ivh1 (sk 23) 2 ≤ 512 := W1.int ty1 2
  have gf1 : ivh1 (sk 23) 2 ≤ iv (sk 23) 2 + 1 ∧ MRK sk clh1 ivh1 rvh1 := exf1
  refine c_istore_n (lv2 := [(3, .int (iI f1)), (0, .ref a0), (1, .int (iI i)), (2, .int (iI j))]) C dX11_indicator_6 (by decide) rfl ?_
  refine c_aload_n (j := 1) (x := a0) C dX11_indicator_7 rfl ?_
  have ty2 := xl1.ty t_a0
  obtain ⟨rb1, rq1, trb1⟩ := W1.ref ty2 0 rfl rfl rfl
  have erb1 := W1.sk trb1 (by decide) rfl
  subst erb1
  refine c_getr (k := 0) C ck_12 dX11_indicator_8 w2_44 (by decide) ty2 rfl rfl (by decide) rfl rq1 ?_
  refine c_st (st2 := [.ref (sk 2)]) rfl ?_
  have ty3 := xl1.ty tsk2
  have pl1 := Phi.le W1 sk1
  refine d_callV (As := []) (rest := []) C hM (C_clear_2 (a0 := (sk 2)) W1 sk1 ty3  ) dX11_indicator_11 kV_X11_164 rfl ty3 rfl rfl (by decide) ck_2 rfl (Nat.le_of_ble_eq_true rfl) ⟨(Nat.le_of_ble_eq_true rfl), (Nat.le_of_ble_eq_true rfl)⟩ hph pl1 (show 1300 + 0 = 1300 from rfl) (by decide) (fun rh2 Lh2 clh2 lnh2 ivh2 rvh2 h2 => ?_)
  obtain ⟨rfl, rfl, rfl, rfl, rfl, fl2, W2, exf2⟩ := h2
  have F2 := F1.call X1 fl2 rfl
  have mr2 := MRK.call mr1 W1 sk1 XT.refl fl2 rfl rfl
  refine c_st (st2 := []) rfl ?_
  have ri4 : 0 ≤ ivh2 (sk 2) 2 ∧ ivh2 (sk 2) 2 ≤ 3000 := W2.int ty3 2
  have gf2 : ivh2 (sk 2) 2 = 0 := exf2
  refine c_iload_n (j := 0) C dX11_indicator_14 rfl ?_
  have ri5 : (-2147483648) ≤ ivh2 a0 14 ∧ ivh2 a0 14 ≤ 2147483647 := W2.int ty2 14
  have ie3 : ivh2 a0 14 = ivh1 a0 14 := fl2.i ty2 rfl 14
  have ri6 : 0 ≤ ivh2 (sk 23) 2 ∧ ivh2 (sk 23) 2 ≤ 512 := W2.int ty1 2
  have ie5 : ivh2 (sk 23) 2 = ivh1 (sk 23) 2 := fl2.i ty1 rfl 2
  exact c_iret C dX11_indicator_15 rfl (by decide) (rom0 hph pl1 (by decide)) ⟨f1, rfl, X1, F2, W2, ⟨by omega, by omega⟩, ⟨(by omega), mr2⟩, (by omega), (by omega), (PIND.after tbxf1 (by omega) (PSAME.fr W1 sk1 fl2 rfl rfl rfl rfl rfl rfl rfl))⟩
