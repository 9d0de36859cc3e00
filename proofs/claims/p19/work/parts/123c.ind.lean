section
set_option maxHeartbeats 4000000 in
set_option maxRecDepth 100000 in
theorem C_changeInd {l : Launch} {G : GT} {mi : Nat} {sk : Nat → Nat} {L : List Nat} {cl ln : Nat → Nat} {iv : Nat → Nat → Int} {rv : Nat → Nat → Option Nat}  {a0 : Nat} {i : Int} {j : Int} (hW : WT (g0 G) sk L cl ln iv rv) (hS : SKL sk L cl) (t_a0 : ty L cl a0 1) (h_i : -2147483648 ≤ i ∧ i ≤ 2147483647) (h_j : -2147483648 ≤ j ∧ j ≤ 2147483647) (hmr : MRK sk cl iv rv) (hch : iv (sk 23) 2 < 512) : Mc l G mi (Phi (g0 G) sk) PHM yX11_changeIndicator cX11_changeIndicator 4 (some .int) 8 [.ref a0, .int (iI i), .int (iI j)] L cl ln iv rv 1300 (fun v L2 cl2 ln2 iv2 rv2 => ∃ f : Int, v = some (.int (iI f)) ∧ XT L cl ln L2 cl2 ln2 ∧ fT [1, 65, 66, 206, 68, 23, 1001, 201] L cl iv rv iv2 rv2 ∧ WT (g0 G) sk L2 cl2 ln2 iv2 rv2 ∧ (-2147483648 ≤ f ∧ f ≤ 2147483647) ∧ (iv2 (sk 23) 2 ≤ iv (sk 23) 2 + 1 ∧ MRK sk cl2 iv2 rv2) ∧ iv2 a0 11 = iv a0 11 ∧ iv2 a0 12 = iv a0 12 ∧ iv2 a0 13 = iv a0 13 ∧ iv2 a0 14 = iv a0 14 ∧ iv2 a0 15 = iv a0 15 ∧ iv2 a0 16 = iv a0 16 ∧ (PIND i j f sk iv rv iv2 rv2) ∧ (KIN L cl sk iv rv L2 cl2 ln2 iv2 rv2 i j f) ∧ rv2 a0 9 = rv a0 9 ∧ rv2 a0 10 = rv a0 10) := by
  refine Mc.mk (by decide) (Nat.le_of_ble_eq_true rfl) ?_
  intro p e s m args below meth c A C hM
  refine hv14 (Phi.le hW hS) (show ty L cl (sk 2) 2 from ⟨(hS 2 rfl).1, by rw [(hS 2 rfl).2]; rfl⟩) (show ty L cl (sk 3) 3 from ⟨(hS 3 rfl).1, by rw [(hS 3 rfl).2]; rfl⟩) (show ty L cl (sk 4) 4 from ⟨(hS 4 rfl).1, by rw [(hS 4 rfl).2]; rfl⟩) (show ty L cl (sk 5) 5 from ⟨(hS 5 rfl).1, by rw [(hS 5 rfl).2]; rfl⟩) (show ty L cl (sk 13) 13 from ⟨(hS 13 rfl).1, by rw [(hS 13 rfl).2]; rfl⟩) (show ty L cl (sk 14) 14 from ⟨(hS 14 rfl).1, by rw [(hS 14 rfl).2]; rfl⟩) (show ty L cl (sk 15) 15 from ⟨(hS 15 rfl).1, by rw [(hS 15 rfl).2]; rfl⟩) (show ty L cl (sk 16) 16 from ⟨(hS 16 rfl).1, by rw [(hS 16 rfl).2]; rfl⟩) (show ty L cl (sk 17) 17 from ⟨(hS 17 rfl).1, by rw [(hS 17 rfl).2]; rfl⟩) (show ty L cl (sk 22) 22 from ⟨(hS 22 rfl).1, by rw [(hS 22 rfl).2]; rfl⟩) (show ty L cl (sk 23) 23 from ⟨(hS 23 rfl).1, by rw [(hS 23 rfl).2]; rfl⟩) (show XT L cl ln L cl ln from XT.refl) (show fT [1, 65, 66, 206, 68, 23, 1001, 201] L cl iv rv iv rv from fT.refl) (fun hph tsk2 tsk3 tsk4 tsk5 tsk13 tsk14 tsk15 tsk16 tsk17 tsk22 tsk23 hX0 hF0 => ?_)
  refine c_iload_n (j := 2) C dX11_changeIndicator_0 rfl ?_
  refine c_if_lt (tgt := 9) C ⟨by omega, by omega⟩ dX11_changeIndicator_1 (by decide) (fun c1 => ?_) (fun c1 => ?_)
  · refine c_aload_n (j := 0) (x := a0) C dX11_changeIndicator_9 rfl ?_
    refine c_bipush (z := 6) C dX11_changeIndicator_10 (by decide) ?_
    refine d_callV (As := [.int (iI 6)]) (rest := []) C hM (C_refuse (a0 := a0) (x := 6) hW hS t_a0 ⟨by decide, by decide⟩ ) dX11_changeIndicator_12 kV_X11_102 rfl t_a0 rfl rfl (by decide) ck_12 rfl (Nat.le_of_ble_eq_true rfl) ⟨(Nat.le_of_ble_eq_true rfl), (Nat.le_of_ble_eq_true rfl)⟩ hph hph (show 0 + 0 = 0 from rfl) (by decide) (fun rh1 Lh1 clh1 lnh1 ivh1 rvh1 h1 => ?_)
    obtain ⟨f1, rfl, rfl, rfl, rfl, rfl, fl1, W1, rgf1, exf1, kp11f1, kp12f1, kp13f1, kp14f1, kp15f1, kp16f1⟩ := h1
    refine hv8 (show 1 ≤ iv a0 11 ∧ iv a0 11 ≤ 100 from hW.int t_a0 11) (show 1 ≤ iv a0 12 ∧ iv a0 12 ≤ 50 from hW.int t_a0 12) (show (-2147483648) ≤ iv a0 13 ∧ iv a0 13 ≤ 2147483647 from hW.int t_a0 13) (show (-2147483648) ≤ iv a0 14 ∧ iv a0 14 ≤ 2147483647 from hW.int t_a0 14) (show (-2147483648) ≤ iv a0 15 ∧ iv a0 15 ≤ 2147483647 from hW.int t_a0 15) (show (-2147483648) ≤ iv a0 16 ∧ iv a0 16 ≤ 2147483647 from hW.int t_a0 16) (hF0.call hX0 fl1 rfl) (MRK.call hmr hW hS XT.refl fl1 rfl rfl) (fun ri1 ri2 ri3 ri4 ri5 ri6 F1 mr1 => ?_)
    refine c_st (st2 := [.int (iI f1)]) rfl ?_
    refine hv19 (show ivh1 a0 11 = iv a0 11 from kp11f1) (show ivh1 a0 12 = iv a0 12 from kp12f1) (show ivh1 a0 13 = iv a0 13 from kp13f1) (show ivh1 a0 14 = iv a0 14 from kp14f1) (show ivh1 a0 15 = iv a0 15 from kp15f1) (show ivh1 a0 16 = iv a0 16 from kp16f1) (show f1 = -1 from exf1) (show 1 ≤ ivh1 a0 11 ∧ ivh1 a0 11 ≤ 100 from W1.int t_a0 11) (show 1 ≤ ivh1 a0 12 ∧ ivh1 a0 12 ≤ 50 from W1.int t_a0 12) (show (-2147483648) ≤ ivh1 a0 13 ∧ ivh1 a0 13 ≤ 2147483647 from W1.int t_a0 13) (show (-2147483648) ≤ ivh1 a0 14 ∧ ivh1 a0 14 ≤ 2147483647 from W1.int t_a0 14) (show (-2147483648) ≤ ivh1 a0 15 ∧ ivh1 a0 15 ≤ 2147483647 from W1.int t_a0 15) (show (-2147483648) ≤ ivh1 a0 16 ∧ ivh1 a0 16 ≤ 2147483647 from W1.int t_a0 16) (show 0 ≤ ivh1 (sk 23) 2 ∧ ivh1 (sk 23) 2 ≤ 512 from W1.int tsk23 2) (show ivh1 (sk 23) 2 = iv (sk 23) 2 from fl1.i tsk23 rfl 2) (show 0 ≤ ivh1 (sk 22) 2 ∧ ivh1 (sk 22) 2 ≤ 30 from W1.int tsk22 2) (show ivh1 (sk 22) 2 = iv (sk 22) 2 from fl1.i tsk22 rfl 2) (show 0 ≤ ivh1 (sk 2) 2 ∧ ivh1 (sk 2) 2 ≤ 3000 from W1.int tsk2 2) (show ivh1 (sk 2) 2 = iv (sk 2) 2 from fl1.i tsk2 rfl 2) (fun gk11f1 gk12f1 gk13f1 gk14f1 gk15f1 gk16f1 gf1 ri7 ri8 ri9 ri10 ri11 ri12 ri13 ie7 ri14 ie8 ri15 ie9 => ?_)
    exact c_iret C dX11_changeIndicator_15 rfl (by decide) (rom0 hph hph (by decide)) ⟨f1, rfl, hX0, F1, W1, ⟨by omega, by omega⟩, ⟨(by omega), mr1⟩, gk11f1, gk12f1, gk13f1, gk14f1, gk15f1, gk16f1, (Or.inl ⟨by omega, PSAME.fr hW hS fl1 rfl rfl rfl rfl rfl rfl rfl, (fun ss t hs ht hd h => by
        obtain ⟨h1, h2, h3, h4⟩ := h.1
        omega)⟩), (Or.inl ⟨by omega, KP.fr hW fl1 rfl⟩), rfl, rfl⟩
  · refine c_iload_n (j := 2) C dX11_changeIndicator_4 rfl ?_
    refine c_iconst C dX11_changeIndicator_5 ?_
    refine c_icmp_le (tgt := 16) C ⟨by omega, by omega⟩ ⟨by decide, by decide⟩ dX11_changeIndicator_6 (by decide) (fun c2 => ?_) (fun c2 => ?_)
    · refine c_aload_n (j := 0) (x := a0) C dX11_changeIndicator_16 rfl ?_
      obtain ⟨rb1, rq1, trb1⟩ := hW.ref t_a0 4 rfl rfl rfl
      have erb1 := hW.sk trb1 (by decide) rfl
      subst erb1
      refine c_getr (k := 4) C ck_12 dX11_changeIndicator_17 w2_48 (by decide) t_a0 rfl rfl (by decide) rfl rq1 ?_
      refine c_st (st2 := [.ref (sk 13)]) rfl ?_
      refine c_iload_n (j := 1) C dX11_changeIndicator_20 rfl ?_
      have ri16 : 0 ≤ iv (sk 22) 2 ∧ iv (sk 22) 2 ≤ 30 := hW.int tsk22 2
      refine d_callV (As := [.int (iI i)]) (rest := []) C hM (C_alive (a0 := (sk 13)) (i := i) hW hS tsk13 (by omega) hmr) dX11_changeIndicator_21 kV_X11_131 rfl tsk13 rfl rfl (by decide) ck_11 rfl (Nat.le_of_ble_eq_true rfl) ⟨(Nat.le_of_ble_eq_true rfl), (Nat.le_of_ble_eq_true rfl)⟩ hph hph (show 0 + 0 = 0 from rfl) (by decide) (fun rh2 Lh2 clh2 lnh2 ivh2 rvh2 h2 => ?_)
      obtain ⟨f2, rfl, rfl, rfl, rfl, rfl, rfl, rgf2, exf2⟩ := h2
      refine c_st (st2 := [(va_rf f2)]) rfl ?_
      have gf2 : (∀ b, f2 = some b → ((cl b : Nat) : Int) < 100 + iv (sk 22) 2 ∧ ALV sk iv rv i b) ∧ (f2 = none → ∀ b, ¬ ALV sk iv rv i b) := exf2
      refine c_astorer_n (r := f2) (lv2 := [(3, (va_rf f2)), (0, .ref a0), (1, .int (iI i)), (2, .int (iI j))]) C dX11_changeIndicator_24 (by decide) rfl ?_
      refine c_aloadr_n (j := 0) (r := f2) C dX11_changeIndicator_25 rfl ?_
      refine c_ifnonnull (r := f2) (tgt := 35) C dX11_changeIndicator_26 (by decide) (fun ob1 oq1 => ?_) (fun oq1 => ?_)
      · subst oq1
        refine hv2 (rgf2 ob1 rfl) (gf2.1 ob1 rfl) (fun tob1 akob1 => ?_)
        refine c_lv (lv2 := [(3, .ref ob1), (0, .ref a0), (1, .int (iI i)), (2, .int (iI j))]) [0, 1, 2, 3] rfl ?_
        refine c_st (st2 := []) rfl ?_
        refine c_aload_n (j := 0) (x := ob1) C dX11_changeIndicator_35 rfl ?_
        refine c_iload_n (j := 3) C dX11_changeIndicator_36 rfl ?_
        have ri17 : (-2147483648) ≤ iv ob1 0 ∧ iv ob1 0 ≤ 2147483647 := hW.int tob1 0
        refine d_callV (As := [.int (iI j)]) (rest := []) C hM (C_mayHave (a0 := ob1) (i := j) hW hS tob1 (by omega) ) dX11_changeIndicator_37 kV_X11_211 rfl tob1 rfl rfl (by decide) ck_10 rfl (Nat.le_of_ble_eq_true rfl) ⟨(Nat.le_of_ble_eq_true rfl), (Nat.le_of_ble_eq_true rfl)⟩ hph hph (show 0 + 0 = 0 from rfl) (by decide) (fun rh3 Lh3 clh3 lnh3 ivh3 rvh3 h3 => ?_)
        obtain ⟨f3, rfl, rfl, rfl, rfl, rfl, rfl, rgf3, exf3⟩ := h3
        refine c_st (st2 := [.int (iI f3)]) rfl ?_
        have gf3 : MH f3 j (iv ob1 0) := exf3
        refine c_if_ne (tgt := 49) C ⟨by omega, by omega⟩ dX11_changeIndicator_40 (by decide) (fun c3 => ?_) (fun c3 => ?_)
        · refine c_aload_n (j := 1) (x := a0) C dX11_changeIndicator_49 rfl ?_
          refine c_iconst C dX11_changeIndicator_50 ?_
          refine c_aload_n (j := 0) (x := ob1) C dX11_changeIndicator_51 rfl ?_
          have ri18 : (-2147483648) ≤ iv ob1 1 ∧ iv ob1 1 ≤ 2147483647 := hW.int tob1 1
          refine c_get (k := 1) C ck_10 dX11_changeIndicator_52 w2_179 (by decide) tob1 rfl rfl (by decide) rfl ?_
          have ri19 : 0 ≤ iv (sk 2) 2 ∧ iv (sk 2) 2 ≤ 3000 := hW.int tsk2 2
          refine d_callV (As := [.int (iI 0), .int (iI (iv ob1 1))]) (rest := []) C hM (C_isRow (a0 := a0) (i := 0) (n := iv ob1 1) hW hS t_a0 ⟨by decide, by decide⟩ (by omega) (by show 0 ≤ (0 : Int); omega)) dX11_changeIndicator_55 kV_X11_175 rfl t_a0 rfl rfl (by decide) ck_12 rfl (Nat.le_of_ble_eq_true rfl) ⟨(Nat.le_of_ble_eq_true rfl), (Nat.le_of_ble_eq_true rfl)⟩ hph hph (show 0 + 0 = 0 from rfl) (by decide) (fun rh4 Lh4 clh4 lnh4 ivh4 rvh4 h4 => ?_)
          obtain ⟨f4, rfl, rfl, rfl, rfl, rfl, rfl, rgf4, exf4, irxf4⟩ := h4
          refine c_st (st2 := [.int (iI f4)]) rfl ?_
          have gf4 : f4 = 0 ∨ iv (sk 2) 2 - (0 : Int) ≤ 4 := exf4
          refine c_if_ne (tgt := 68) C ⟨by omega, by omega⟩ dX11_changeIndicator_58 (by decide) (fun c4 => ?_) (fun c4 => ?_)
          · replace gf4 := (gf4.resolve_left c4)
            refine c_aload_n (j := 1) (x := a0) C dX11_changeIndicator_68 rfl ?_
            refine c_getr (k := 4) C ck_12 dX11_changeIndicator_69 w2_48 (by decide) t_a0 rfl rfl (by decide) rfl rq1 ?_
            refine c_st (st2 := [.ref (sk 13)]) rfl ?_
            obtain ⟨n6, hn6, tn6⟩ := hW.ref tob1 6 rfl rfl rfl
            have kp1 : KP L cl (fun _ => False) (fun _ => False) (fun _ => False) (fun _ => False) (fun b k => b = n6 ∧ k = j.toNat) iv rv iv rv := KP.refl
            refine c_new C ck_1 dv_1 ⟨rfl, rfl⟩ rfl (by decide) dX11_changeIndicator_72 w3_98 w3_35 w1_18 (rom2 hph hph (by decide)) (fun qn1 cln1 lnn1 ivn1 rvn1 hqn1 hcn1 hln1 hin1 hrn1 => ⟨20, (p_in (Phi.new hW hS hqn1 (fun b _ => by rw [hln1]) hrn1) (by omega)), ?_⟩)
            refine c_g0 C (fun hg1 => ?_)
            refine hv5 (show ∀ b, b ≠ qn1 → lnn1 b = ln b from (fun b _ => by rw [hln1])) (hF0.new hX0 hqn1 hin1 hrn1) (show ty (L ++ [qn1]) cln1 qn1 201 from ty_new hcn1) (kp1.new TX.refl hW hqn1 hin1 hrn1) (show qn1 ∉ L from fun h => hqn1 ((hX0 qn1 h).1)) (fun hxn1 F2 tqn1 kp2 h0qn1 => ?_)
            refine hv2 (hW.new (ln2 := lnn1) hqn1 (hg1 qn1 (List.mem_append_right _ List.mem_cons_self)) hcn1 hxn1 hin1 hrn1 (fun _ => ⟨(show (-2147483648 : Int) ≤ 0 by decide), (show (0 : Int) ≤ 2147483647 by decide)⟩) (Or.inl rfl) (fun q => by cases q) rfl rfl) (XT.new hqn1 hcn1 hxn1) (fun W5 xl5 => ?_)
            refine hv3 (hX0.trans xl5) (xl5.skl hS) (MRK.call hmr hW hS xl5 ((fT.refl (ls := [])).new (XT.refl (ln := ln)) hqn1 hin1 hrn1) rfl rfl) (fun X1 sk1 mr2 => ?_)
            refine c_dup C dX11_changeIndicator_75 rfl ?_
            refine c_iconst C dX11_changeIndicator_76 ?_
            refine c_aload_n (j := 0) (x := ob1) C dX11_changeIndicator_77 rfl ?_
            refine c_aload_n (j := 0) (x := ob1) C dX11_changeIndicator_78 rfl ?_
            refine hv2 (xl5.ty tob1) (show rvn1 ob1 6 = rv ob1 6 from (by rw [hrn1]; exact congrFun (up0_a (ne_in tob1.1 hqn1)) _)) (fun ty1 re1 => ?_)
            rw [hn6] at re1
            refine c_getr (k := 6) C ck_10 dX11_changeIndicator_79 w2_196 (by decide) ty1 rfl rfl (by decide) rfl re1 ?_
            refine c_st (st2 := [.ref n6, .ref ob1, .int (iI 4), .ref qn1, .ref qn1, .ref (sk 13)]) rfl ?_
            refine c_iload_n (j := 3) C dX11_changeIndicator_82 rfl ?_
            have ty2 := xl5.ty tn6
            have ll1 : 4 ≤ lnn1 n6 ∧ lnn1 n6 ≤ 4 := W5.len ty2 rfl
            rcases W5.opt ty2 (j.toNat) rfl rfl with ⟨nq1, _⟩ | ⟨nb1, nq1, tnb1⟩
            · refine c_aaldR C dX11_changeIndicator_83 ty2 rfl (by omega) (by omega) (by omega) nq1 ?_
              refine c_st (st2 := [.null, .ref ob1, .int (iI 4), .ref qn1, .ref qn1, .ref (sk 13)]) rfl ?_
              refine c_iload_n (j := 3) C dX11_changeIndicator_84 rfl ?_
              refine hv2 (Eq.trans ((show ∀ bb, ty L cl bb 68 → ∀ kk, rvn1 bb kk = rv bb kk from fun bb tbb kk => by exact (show rvn1 bb kk = rv bb kk from (by rw [hrn1]; exact congrFun (up0_a (ne_in tbb.1 hqn1)) _))) n6 tn6 j.toNat).symm nq1) (Phi.le W5 sk1) (fun oi1 pl1 => ?_)
              refine c_callI (As := [.int (iI 4), .ref ob1, .null, .int (iI j)]) (rest := [.ref qn1, .ref (sk 13)]) C hM (Z_change (a0 := qn1) (i := 4) (a2 := ob1) (r := none) (n := j) W5 sk1 tqn1 ty1 (fun _ q => by cases q) ⟨by decide, by decide⟩ (by omega) ) dX11_changeIndicator_85 kI_X11_149 rfl rfl (Nat.le_of_ble_eq_true rfl) ⟨(Nat.le_of_ble_eq_true rfl), (Nat.le_of_ble_eq_true rfl)⟩ (rz1 hph pl1 (by decide)) (fun rh5 Lh5 clh5 lnh5 ivh5 rvh5 h5 => ⟨20, (zk1 (by obtain ⟨_, _, _, e3, flh5x, Wh5x, _⟩ := h5; subst e3; exact Phi.frn sk1 flh5x rfl)), ?_⟩)
              obtain ⟨rfl, rfl, rfl, rfl, fl5, W6, exf5⟩ := h5
              refine hv3 (F2.call X1 fl5 rfl) (MRK.call mr2 W5 sk1 XT.refl fl5 rfl rfl) (TX.xt TX.refl xl5) (fun F3 mr3 tx1 => ?_)
              have kp3 := kp2.call tx1 W5 fl5 rfl
              refine c_st (st2 := [.ref qn1, .ref (sk 13)]) rfl ?_
              obtain ⟨exf5x, exf5r, exf5p, exf5i, exf5j⟩ := exf5
              have rn1 : ∀ k, ([1, 2] : List Nat).contains k = false → rvh5 qn1 k = none := fun k hk => (Eq.trans (show rvh5 qn1 k = rvn1 qn1 k from (exf5x k hk)) (show rvn1 qn1 k = none from (by rw [hrn1]; exact up0_s)))
              refine c_retag (q := qn1) (t := 21) (by rw [tqn1.2]; rfl) (fun clr1 hcr1 => ?_)
              refine hv15 (xl5.ty t_a0) (xl5.ty tsk2) (xl5.ty tsk3) (xl5.ty tsk4) (xl5.ty tsk5) (xl5.ty tsk13) (xl5.ty tsk14) (xl5.ty tsk15) (xl5.ty tsk16) (xl5.ty tsk17) (xl5.ty tsk22) (xl5.ty tsk23) (ty_rt ty1 hcr1 (ne_ty ty1 tqn1 (by decide))) (ty_rt ty2 hcr1 (ne_ty ty2 tqn1 (by decide))) (show ty (L ++ [qn1]) clr1 qn1 21 from ⟨tqn1.1, by rw [hcr1, va_up_self]; rfl⟩) (fun ty3 ty5 ty7 ty9 ty11 ty13 ty15 ty17 ty19 ty21 ty23 ty25 ty27 ty28 tqr1 => ?_)
              refine hv12 (ty_rt ty3 hcr1 (ne_ty ty3 tqn1 (by decide))) (ty_rt ty5 hcr1 (ne_ty ty5 tqn1 (by decide))) (ty_rt ty7 hcr1 (ne_ty ty7 tqn1 (by decide))) (ty_rt ty9 hcr1 (ne_ty ty9 tqn1 (by decide))) (ty_rt ty11 hcr1 (ne_ty ty11 tqn1 (by decide))) (ty_rt ty13 hcr1 (ne_ty ty13 tqn1 (by decide))) (ty_rt ty15 hcr1 (ne_ty ty15 tqn1 (by decide))) (ty_rt ty17 hcr1 (ne_ty ty17 tqn1 (by decide))) (ty_rt ty19 hcr1 (ne_ty ty19 tqn1 (by decide))) (ty_rt ty21 hcr1 (ne_ty ty21 tqn1 (by decide))) (ty_rt ty23 hcr1 (ne_ty ty23 tqn1 (by decide))) (ty_rt ty25 hcr1 (ne_ty ty25 tqn1 (by decide))) (fun ty4 ty6 ty8 ty10 ty12 ty14 ty16 ty18 ty20 ty22 ty24 ty26 => ?_)
              have W7 := W6.retag tqn1.1 (by rw [tqn1.2]; rfl) hcr1 (fun k => by
                    rcases k with _ | _ | _ | _ | k
                    · exact W6.int tqn1 0
                    · exact W6.int tqn1 1
                    · exact W6.int tqn1 2
                    · exact ⟨(by show 0 ≤ ivh5 qn1 3; first | exact bx_lo ‹ivh5 qn1 3 = _› (by decide) | omega), (by show ivh5 qn1 3 ≤ 5; first | exact bx_hi ‹ivh5 qn1 3 = _› (by decide) | omega)⟩
                    · exact W6.int tqn1 (k + 4)) (fun k => by
                    rcases k with _ | _ | _ | _ | k
                    · rw [rn1 0 (by decide)]; exact rok_none tqr1 rfl
                    · rw [exf5r]; exact rok_some tqr1 ty27 rfl (by decide) rfl
                    · rw [exf5p]; exact rok_ch tqr1 (fun _ q => by cases q)
                    · rw [rn1 3 (by decide)]; exact rok_none tqr1 rfl
                    · rw [rn1 (k + 4) (by simp)]; exact rok_none tqr1 rfl) rfl (fun z => by cases z) (fun z => by cases z) rfl
              refine hv8 (X1.rt hcr1 h0qn1) (sk1.rt hcr1 (by rw [tqn1.2]; rfl)) (MRK.rt mr3 W6 sk1 hcr1 (by rw [tqn1.2]; rfl)) (fun b hb => xl5.ty (rgf2 b hb)) (show ∀ i : Nat, (i : Int) < iv (sk 23) 2 → el rvh5 (sk 23) i = el rv (sk 23) i from (fun i hi => el_ch hW (tysk23 hS) rfl rfl ((show ∀ bb, ty L cl bb 23 → rvh5 bb 1 = rv bb 1 from fun bb tbb => by have tb1 := xl5.ty tbb; exact (Eq.trans (show rvh5 bb 1 = rvn1 bb 1 from (fl5.r tb1 rfl 1)) (show rvn1 bb 1 = rv bb 1 from (by rw [hrn1]; exact congrFun (up0_a (ne_in tbb.1 hqn1)) _)))) (sk 23) (tysk23 hS)) (fun bb tbb kk => by have tb1 := xl5.ty tbb; exact (Eq.trans (show rvh5 bb kk = rvn1 bb kk from (fl5.r tb1 rfl kk)) (show rvn1 bb kk = rv bb kk from (by rw [hrn1]; exact congrFun (up0_a (ne_in tbb.1 hqn1)) _)))) hi)) (show 0 ≤ ivh5 (sk 23) 2 ∧ ivh5 (sk 23) 2 ≤ 512 from W7.int ty26 2) (show ivh5 (sk 23) 2 = ivn1 (sk 23) 2 from fl5.i ty25 rfl 2) (show ivn1 (sk 23) 2 = iv (sk 23) 2 from by rw [hin1]; exact congrFun (up0_a (ne_in tsk23.1 hqn1)) _) (fun X2 sk2 mr4 on1 ce1 ri20 ie10 ie11 => ?_)
              refine hv2 (fun b hb => ty_rt (on1 b hb) hcr1 (ne_ty (on1 b hb) tqn1 (by decide))) (Phi.le W7 sk2) (fun on2 pl2 => ?_)
              refine d_callV (As := [.ref qn1]) (rest := []) C hM (C_remember (a0 := (sk 13)) (a1 := qn1) W7 sk2 ty14 tqr1  (by show ivh5 (sk 23) 2 < 512; omega)) dX11_changeIndicator_88 kV_X11_152 rfl ty14 rfl rfl (by decide) ck_11 rfl (Nat.le_of_ble_eq_true rfl) ⟨(Nat.le_of_ble_eq_true rfl), (Nat.le_of_ble_eq_true rfl)⟩ hph pl2 (show 20 + 1216 = 1236 from rfl) (by decide) (fun rh6 Lh6 clh6 lnh6 ivh6 rvh6 h6 => ?_)
              obtain ⟨rfl, xl7, fl6, W8, exf6, rmef6⟩ := h6
              refine hv5 (F3.call X2 fl6 rfl) (MRK.call mr4 W7 sk2 xl7 fl6 rfl rfl) (TX.rt tx1 hcr1 tqn1 rfl) (X2.trans xl7) (xl7.skl sk2) (fun F4 mr5 tx2 X3 sk3 => ?_)
              have kp4 := kp3.call tx2 W7 fl6 rfl
              refine c_st (st2 := []) rfl ?_
              refine hv2 (xl7.ty ty26) (show ivh6 (sk 23) 2 = ivh5 (sk 23) 2 + 1 from exf6) (fun ty29 gf6 => ?_)
              have ri21 : 0 ≤ ivh6 (sk 23) 2 ∧ ivh6 (sk 23) 2 ≤ 512 := W8.int ty29 2
              refine c_aload_n (j := 0) (x := ob1) C dX11_changeIndicator_91 rfl ?_
              refine hv2 (xl7.ty ty27) (show rvh5 ob1 6 = rvn1 ob1 6 from (fl5.r ty1 rfl 6)) (fun ty30 re2 => ?_)
              rw [re1] at re2
              have re3 : rvh6 ob1 6 = rvh5 ob1 6 := (fl6.r ty27 rfl 6)
              rw [re2] at re3
              refine c_getr (k := 6) C ck_10 dX11_changeIndicator_92 w2_196 (by decide) ty30 rfl rfl (by decide) rfl re3 ?_
              refine c_st (st2 := [.ref n6]) rfl ?_
              refine c_iload_n (j := 3) C dX11_changeIndicator_95 rfl ?_
              refine c_aload_n (j := 1) (x := a0) C dX11_changeIndicator_96 rfl ?_
              have ty31 := xl7.ty ty4
              obtain ⟨rb2, rq2, trb2⟩ := W8.ref ty31 0 rfl rfl rfl
              have erb2 := W8.sk trb2 (by decide) rfl
              subst erb2
              refine c_getr (k := 0) C ck_12 dX11_changeIndicator_97 w2_44 (by decide) ty31 rfl rfl (by decide) rfl rq2 ?_
              refine c_st (st2 := [.ref (sk 2), .int (iI j), .ref n6]) rfl ?_
              refine hv4 (xl7.ty ty6) (show ivh6 (sk 2) 2 = ivh5 (sk 2) 2 from fl6.i ty6 rfl 2) (show ivh5 (sk 2) 2 = ivn1 (sk 2) 2 from fl5.i ty5 rfl 2) (show ivn1 (sk 2) 2 = iv (sk 2) 2 from by rw [hin1]; exact congrFun (up0_a (ne_in tsk2.1 hqn1)) _) (fun ty32 ie13 ie14 ie15 => ?_)
              have ri22 : 0 ≤ ivh6 (sk 2) 2 ∧ ivh6 (sk 2) 2 ≤ 3000 := W8.int ty32 2
              refine c_get (k := 2) C ck_2 dX11_changeIndicator_100 w1_44 (by decide) ty32 rfl rfl (by decide) rfl ?_
              refine c_if_ne (tgt := 110) C (r32_c (lo := 0) (hi := 3000) ri22.1 ri22.2 (by decide) (by decide)) dX11_changeIndicator_103 (by decide) (fun c5 => ?_) (fun c5 => ?_)
              · have ty33 := xl7.ty ty8
                refine hv11 (xl7.ty ty10) (xl7.ty ty12) (xl7.ty ty14) (xl7.ty ty16) (xl7.ty ty18) (xl7.ty ty20) (xl7.ty ty22) (xl7.ty ty24) (xl7.ty ty28) (xl7.ty tqr1) (Phi.le W8 sk3) (fun ty34 ty35 ty36 ty37 ty38 ty39 ty40 ty41 ty42 ty43 pl3 => ?_)
                refine c_new C ck_6 dv_6 ⟨rfl, rfl⟩ rfl (by decide) dX11_changeIndicator_110 w3_125 w3_126 w1_21 (rom2 hph pl3 (by decide)) (fun qn2 cln2 lnn2 ivn2 rvn2 hqn2 hcn2 hln2 hin2 hrn2 => ⟨1256, (p_in (Phi.new W8 sk3 hqn2 (fun b _ => by rw [hln2]) hrn2) (by omega)), ?_⟩)
                refine c_g0 C (fun hg2 => ?_)
                refine hv5 (show ∀ b, b ≠ qn2 → lnn2 b = lnh6 b from (fun b _ => by rw [hln2])) (F4.new X3 hqn2 hin2 hrn2) (show ty (Lh6 ++ [qn2]) cln2 qn2 206 from ty_new hcn2) (TX.xt tx2 xl7) (show qn2 ∉ L from fun h => hqn2 ((X3 qn2 h).1)) (fun hxn2 F5 tqn2 tx3 h0qn2 => ?_)
                refine hv3 (W8.new (ln2 := lnn2) hqn2 (hg2 qn2 (List.mem_append_right _ List.mem_cons_self)) hcn2 hxn2 hin2 hrn2 (fun _ => ⟨(show (-2147483648 : Int) ≤ 0 by decide), (show (0 : Int) ≤ 2147483647 by decide)⟩) (Or.inl rfl) (fun q => by cases q) rfl rfl) (XT.new hqn2 hcn2 hxn2) (kp4.new tx3 W8 hqn2 hin2 hrn2) (fun W9 xl8 kp5 => ?_)
                refine hv3 (X3.trans xl8) (xl8.skl sk3) (MRK.call mr5 W8 sk3 xl8 ((fT.refl (ls := [])).new (XT.refl (ln := lnh6)) hqn2 hin2 hrn2) rfl rfl) (fun X4 sk4 mr6 => ?_)
                refine c_dup C dX11_changeIndicator_113 rfl ?_
                refine c_iload_n (j := 3) C dX11_changeIndicator_114 rfl ?_
                refine c_aload_n (j := 1) (x := a0) C dX11_changeIndicator_115 rfl ?_
                refine hv2 (xl8.ty ty31) (show rvn2 a0 0 = rvh6 a0 0 from (by rw [hrn2]; exact congrFun (up0_a (ne_in ty31.1 hqn2)) _)) (fun ty44 re4 => ?_)
                rw [rq2] at re4
                refine c_getr (k := 0) C ck_12 dX11_changeIndicator_116 w2_44 (by decide) ty44 rfl rfl (by decide) rfl re4 ?_
                refine c_st (st2 := [.ref (sk 2), .int (iI j), .ref qn2, .ref qn2, .int (iI j), .ref n6]) rfl ?_
                refine c_iconst C dX11_changeIndicator_119 ?_
                refine c_iconst C dX11_changeIndicator_120 ?_
                refine hv2 (xl8.ty ty32) (Phi.le W9 sk4) (fun ty45 pl4 => ?_)
                refine d_callV (As := [.int (iI 0), .int (iI 0)]) (rest := [.int (iI j), .ref qn2, .ref qn2, .int (iI j), .ref n6]) C hM (C_slice_65 (a0 := (sk 2)) (i := 0) (j := 0) W9 sk4 ty45 ⟨by decide, by decide⟩ ⟨by decide, by decide⟩ (by show 0 ≤ (0 : Int) ∧ (0 : Int) ≤ 3000 ∧ 0 ≤ (0 : Int) - (0 : Int) ∧ (0 : Int) - (0 : Int) ≤ 8; omega)) dX11_changeIndicator_121 kV_X11_190 rfl ty45 rfl rfl (by decide) ck_2 rfl (Nat.le_of_ble_eq_true rfl) ⟨(Nat.le_of_ble_eq_true rfl), (Nat.le_of_ble_eq_true rfl)⟩ hph pl4 (show 1256 + 24 = 1280 from rfl) (by decide) (fun rh7 Lh7 clh7 lnh7 ivh7 rvh7 h7 => ?_)
                obtain ⟨f7, rfl, xl9, fl7, W10, rgf7, exf7, slnf7⟩ := h7
                refine hv18 (F5.call X4 fl7 rfl) (MRK.call mr6 W9 sk4 xl9 fl7 rfl rfl) (TX.xt tx3 xl8) (xl8.ty ty33) (xl8.ty ty34) (xl8.ty ty35) (xl8.ty ty36) (xl8.ty ty37) (xl8.ty ty38) (xl8.ty ty39) (xl8.ty ty40) (xl8.ty ty41) (xl8.ty ty29) (xl8.ty ty30) (xl8.ty ty42) (xl8.ty ty43) (X4.trans xl9) (xl9.skl sk4) (fun F6 mr7 tx4 ty46 ty47 ty48 ty49 ty50 ty51 ty52 ty53 ty54 ty55 ty56 ty57 ty58 X5 sk5 => ?_)
                have kp6 := kp5.trans tx4 (KP.sl W9 fl7 (by decide) slnf7.2.1)
                refine c_st (st2 := [.ref f7, .int (iI j), .ref qn2, .ref qn2, .int (iI j), .ref n6]) rfl ?_
                have gf7 : lnh7 f7 = ((0 : Int) - (0 : Int)).toNat := exf7
                refine c_aload_n (j := 1) (x := a0) C dX11_changeIndicator_124 rfl ?_
                refine hv2 (xl9.ty ty44) (show rvh7 a0 0 = rvn2 a0 0 from (fl7.r ty44 rfl 0)) (fun ty59 re5 => ?_)
                rw [re4] at re5
                refine c_getr (k := 0) C ck_12 dX11_changeIndicator_125 w2_44 (by decide) ty59 rfl rfl (by decide) rfl re5 ?_
                refine c_st (st2 := [.ref (sk 2), .ref f7, .int (iI j), .ref qn2, .ref qn2, .int (iI j), .ref n6]) rfl ?_
                refine c_iconst C dX11_changeIndicator_128 ?_
                refine c_aload_n (j := 1) (x := a0) C dX11_changeIndicator_129 rfl ?_
                refine c_getr (k := 0) C ck_12 dX11_changeIndicator_130 w2_44 (by decide) ty59 rfl rfl (by decide) rfl re5 ?_
                refine c_st (st2 := [.ref (sk 2), .int (iI 0), .ref (sk 2), .ref f7, .int (iI j), .ref qn2, .ref qn2, .int (iI j), .ref n6]) rfl ?_
                refine hv3 (xl9.ty ty45) (show ivh7 (sk 2) 2 = ivn2 (sk 2) 2 from fl7.i ty45 rfl 2) (show ivn2 (sk 2) 2 = ivh6 (sk 2) 2 from by rw [hin2]; exact congrFun (up0_a (ne_in ty32.1 hqn2)) _) (fun ty60 ie16 ie17 => ?_)
                have ri23 : 0 ≤ ivh7 (sk 2) 2 ∧ ivh7 (sk 2) 2 ≤ 3000 := W10.int ty60 2
                refine c_get (k := 2) C ck_2 dX11_changeIndicator_133 w1_44 (by decide) ty60 rfl rfl (by decide) rfl ?_
                have pl5 := Phi.le W10 sk5
                refine d_callV (As := [.int (iI 0), .int (iI (ivh7 (sk 2) 2))]) (rest := [.ref f7, .int (iI j), .ref qn2, .ref qn2, .int (iI j), .ref n6]) C hM (C_slice_66 (a0 := (sk 2)) (i := 0) (j := ivh7 (sk 2) 2) W10 sk5 ty60 ⟨by decide, by decide⟩ (by omega) (by show 0 ≤ (0 : Int) ∧ (0 : Int) ≤ 3000 ∧ 1 ≤ (ivh7 (sk 2) 2) - (0 : Int) ∧ (ivh7 (sk 2) 2) - (0 : Int) ≤ 4; omega)) dX11_changeIndicator_136 kV_X11_190 rfl ty60 rfl rfl (by decide) ck_2 rfl (Nat.le_of_ble_eq_true rfl) ⟨(Nat.le_of_ble_eq_true rfl), (Nat.le_of_ble_eq_true rfl)⟩ hph pl5 (show 1280 + 20 = 1300 from rfl) (by decide) (fun rh8 Lh8 clh8 lnh8 ivh8 rvh8 h8 => ?_)
                obtain ⟨f8, rfl, xl10, fl8, W11, rgf8, exf8, slnf8⟩ := h8
                refine hv19 (F6.call X5 fl8 rfl) (MRK.call mr7 W10 sk5 xl10 fl8 rfl rfl) (TX.xt tx4 xl9) (xl9.ty ty46) (xl9.ty ty47) (xl9.ty ty48) (xl9.ty ty49) (xl9.ty ty50) (xl9.ty ty51) (xl9.ty ty52) (xl9.ty ty53) (xl9.ty ty54) (xl9.ty ty55) (xl9.ty ty56) (xl9.ty ty57) (xl9.ty ty58) (xl9.ty tqn2) (X5.trans xl10) (xl10.skl sk5) (fun F7 mr8 tx5 ty61 ty62 ty63 ty64 ty65 ty66 ty67 ty68 ty69 ty70 ty71 ty72 ty73 ty74 X6 sk6 => ?_)
                have kp7 := kp6.trans tx5 (KP.sl W10 fl8 (by decide) slnf8.2.1)
                refine c_st (st2 := [.ref f8, .ref f7, .int (iI j), .ref qn2, .ref qn2, .int (iI j), .ref n6]) rfl ?_
                refine hv4 (show lnh8 f8 = ((ivh7 (sk 2) 2) - (0 : Int)).toNat from exf8) (xl10.ty ty74) (xl10.ty rgf7) (Phi.le W11 sk6) (fun gf8 ty75 ty76 pl6 => ?_)
                refine c_callI (As := [.int (iI j), .ref f7, .ref f8]) (rest := [.ref qn2, .int (iI j), .ref n6]) C hM (Z_row (a0 := qn2) (i := j) (a2 := f7) (a3 := f8) W11 sk6 ty75 ty76 rgf8 (by omega) ) dX11_changeIndicator_139 kI_X11_194 rfl rfl (Nat.le_of_ble_eq_true rfl) ⟨(Nat.le_of_ble_eq_true rfl), (Nat.le_of_ble_eq_true rfl)⟩ (rz1 hph pl6 (by decide)) (fun rh9 Lh9 clh9 lnh9 ivh9 rvh9 h9 => ⟨1300, (zk1 (by obtain ⟨_, _, _, e3, flh9x, Wh9x, _⟩ := h9; subst e3; exact Phi.frn sk6 flh9x rfl)), ?_⟩)
                obtain ⟨rfl, rfl, rfl, rfl, fl9, W12, exf9⟩ := h9
                refine hv3 (F7.call X6 fl9 rfl) (MRK.call mr8 W11 sk6 XT.refl fl9 rfl rfl) (TX.xt tx5 xl10) (fun F8 mr9 tx6 => ?_)
                have kp8 := kp7.call tx6 W11 fl9 rfl
                refine c_st (st2 := [.ref qn2, .int (iI j), .ref n6]) rfl ?_
                obtain ⟨exf9x, exf9r, exf9p, exf9i, exf9j⟩ := exf9
                have rn2 : ∀ k, ([1, 2] : List Nat).contains k = false → rvh9 qn2 k = none := fun k hk => (Eq.trans (show rvh9 qn2 k = rvh8 qn2 k from (exf9x k hk)) (Eq.trans (show rvh8 qn2 k = rvh7 qn2 k from (fl8.r ty74 rfl k)) (Eq.trans (show rvh7 qn2 k = rvn2 qn2 k from (fl7.r tqn2 rfl k)) (show rvn2 qn2 k = none from (by rw [hrn2]; exact up0_s)))))
                refine c_retag (q := qn2) (t := 20) (by rw [ty75.2]; rfl) (fun clr2 hcr2 => ?_)
                refine hv18 (xl10.ty ty59) (xl10.ty ty60) (xl10.ty ty61) (xl10.ty ty62) (xl10.ty ty63) (xl10.ty ty64) (xl10.ty ty65) (xl10.ty ty66) (xl10.ty ty67) (xl10.ty ty68) (xl10.ty ty69) (xl10.ty ty70) (xl10.ty ty71) (xl10.ty ty72) (xl10.ty ty73) (ty_rt ty76 hcr2 (ne_ty ty76 ty75 (by decide))) (ty_rt rgf8 hcr2 (ne_ty rgf8 ty75 (by decide))) (show ty Lh8 clr2 qn2 20 from ⟨ty75.1, by rw [hcr2, va_up_self]; rfl⟩) (fun ty77 ty79 ty81 ty83 ty85 ty87 ty89 ty91 ty93 ty95 ty97 ty99 ty101 ty103 ty105 ty107 ty108 tqr2 => ?_)
                refine hv15 (ty_rt ty77 hcr2 (ne_ty ty77 ty75 (by decide))) (ty_rt ty79 hcr2 (ne_ty ty79 ty75 (by decide))) (ty_rt ty81 hcr2 (ne_ty ty81 ty75 (by decide))) (ty_rt ty83 hcr2 (ne_ty ty83 ty75 (by decide))) (ty_rt ty85 hcr2 (ne_ty ty85 ty75 (by decide))) (ty_rt ty87 hcr2 (ne_ty ty87 ty75 (by decide))) (ty_rt ty89 hcr2 (ne_ty ty89 ty75 (by decide))) (ty_rt ty91 hcr2 (ne_ty ty91 ty75 (by decide))) (ty_rt ty93 hcr2 (ne_ty ty93 ty75 (by decide))) (ty_rt ty95 hcr2 (ne_ty ty95 ty75 (by decide))) (ty_rt ty97 hcr2 (ne_ty ty97 ty75 (by decide))) (ty_rt ty99 hcr2 (ne_ty ty99 ty75 (by decide))) (ty_rt ty101 hcr2 (ne_ty ty101 ty75 (by decide))) (ty_rt ty103 hcr2 (ne_ty ty103 ty75 (by decide))) (ty_rt ty105 hcr2 (ne_ty ty105 ty75 (by decide))) (fun ty78 ty80 ty82 ty84 ty86 ty88 ty90 ty92 ty94 ty96 ty98 ty100 ty102 ty104 ty106 => ?_)
                have W13 := W12.retag ty75.1 (by rw [ty75.2]; rfl) hcr2 (fun k => by
                      rcases k with _ | _ | _ | _ | k
                      · exact W12.int ty75 0
                      · exact W12.int ty75 1
                      · exact W12.int ty75 2
                      · exact ⟨(by show 0 ≤ ivh9 qn2 3; first | exact bx_lo ‹ivh9 qn2 3 = _› (by decide) | omega), (by show ivh9 qn2 3 ≤ 5; first | exact bx_hi ‹ivh9 qn2 3 = _› (by decide) | omega)⟩
                      · exact W12.int ty75 (k + 4)) (fun k => by
                      rcases k with _ | _ | _ | _ | k
                      · rw [rn2 0 (by decide)]; exact rok_none tqr2 rfl
                      · rw [exf9r]; exact rok_some tqr2 ty107 rfl (by decide) rfl
                      · rw [exf9p]; exact rok_some tqr2 ty108 rfl (by decide) rfl
                      · rw [rn2 3 (by decide)]; exact rok_none tqr2 rfl
                      · rw [rn2 (k + 4) (by simp)]; exact rok_none tqr2 rfl) rfl (fun z => by cases z) (fun z => by cases z) rfl
                refine hv5 (X6.rt hcr2 h0qn2) (sk6.rt hcr2 (by rw [ty75.2]; rfl)) (MRK.rt mr9 W12 sk6 hcr2 (by rw [ty75.2]; rfl)) (fun b hb => xl7.ty (on2 b hb)) (show 4 ≤ lnh8 n6 ∧ lnh8 n6 ≤ 4 from W13.len ty104 rfl) (fun X7 sk7 mr10 on3 ll2 => ?_)
                have on4 := fun b hb => xl8.ty (on3 b hb)
                have on5 := fun b hb => xl9.ty (on4 b hb)
                have on6 := fun b hb => xl10.ty (on5 b hb)
                have on7 := fun b hb => ty_rt (on6 b hb) hcr2 (ne_ty (on6 b hb) ty75 (by decide))
                refine c_aastR (z := j) C ck_6 dX11_changeIndicator_142 ty104 rfl tqr2 rfl rfl (by decide) (by omega) (by omega) (by omega) (fun rv1 pq1 => ⟨1300, (by rw [Phi.putr sk7 pq1 ty104 rfl]; exact Nat.le_refl _), ?_⟩)
                refine hv4 (W13.putr pq1 ty104 (rok_some ty104 tqr2 rfl (by decide) rfl) rfl (by decide)) (F8.putr X7 pq1 ty104 rfl) (MRK.putr mr10 W13 sk7 pq1 ty104 (by decide) (by decide)) (TX.rt tx6 hcr2 ty75 rfl) (fun W14 F9 mr11 tx7 => ?_)
                have kp9 := kp8.putrI tx7 W13 pq1 ty104 ⟨rfl, rfl⟩
                refine c_aload_n (j := 1) (x := a0) C dX11_changeIndicator_143 rfl ?_
                refine c_aload_n (j := 1) (x := a0) C dX11_changeIndicator_144 rfl ?_
                have re6 : rvh8 a0 0 = rvh7 a0 0 := (fl8.r ty59 rfl 0)
                rw [re5] at re6
                have re7 : rvh9 a0 0 = rvh8 a0 0 := (fl9.r ty77 rfl 0)
                rw [re6] at re7
                have re8 : rv1 a0 0 = rvh9 a0 0 := (by rw [pq1]; exact congrFun (upr_a (ne_ty ty78 ty104 (by decide))) _)
                rw [re7] at re8
                refine c_getr (k := 0) C ck_12 dX11_changeIndicator_145 w2_44 (by decide) ty78 rfl rfl (by decide) rfl re8 ?_
                refine c_st (st2 := [.ref (sk 2), .ref a0]) rfl ?_
                refine hv3 (show 0 ≤ ivh9 (sk 2) 2 ∧ ivh9 (sk 2) 2 ≤ 3000 from W14.int ty80 2) (show ivh9 (sk 2) 2 = ivh8 (sk 2) 2 from fl9.i ty79 rfl 2) (show ivh8 (sk 2) 2 = ivh7 (sk 2) 2 from fl8.i ty60 rfl 2) (fun ri24 ie18 ie19 => ?_)
                refine c_get (k := 2) C ck_2 dX11_changeIndicator_148 w1_44 (by decide) ty80 rfl rfl (by decide) rfl ?_
                have pl7 := Phi.le W14 sk7
                refine d_callV (As := [.int (iI (ivh9 (sk 2) 2))]) (rest := []) C hM (C_done (a0 := a0) (x := ivh9 (sk 2) 2) W14 sk7 ty78 (by omega) ) dX11_changeIndicator_151 kV_X11_109 rfl ty78 rfl rfl (by decide) ck_12 rfl (Nat.le_of_ble_eq_true rfl) ⟨(Nat.le_of_ble_eq_true rfl), (Nat.le_of_ble_eq_true rfl)⟩ hph pl7 (show 1300 + 0 = 1300 from rfl) (by decide) (fun rh10 Lh10 clh10 lnh10 ivh10 rvh10 h10 => ?_)
                obtain ⟨f10, rfl, rfl, rfl, rfl, rfl, fl10, W15, rgf10, exf10, kp11f10, kp12f10, kp13f10, kp14f10, kp15f10, kp16f10⟩ := h10
                refine hv40 (show 1 ≤ ivh9 a0 11 ∧ ivh9 a0 11 ≤ 100 from W14.int ty78 11) (show ivh9 a0 11 = ivh8 a0 11 from fl9.i ty77 rfl 11) (show ivh8 a0 11 = ivh7 a0 11 from fl8.i ty59 rfl 11) (show ivh7 a0 11 = ivn2 a0 11 from fl7.i ty44 rfl 11) (show ivn2 a0 11 = ivh6 a0 11 from by rw [hin2]; exact congrFun (up0_a (ne_in ty31.1 hqn2)) _) (show ivh6 a0 11 = ivh5 a0 11 from fl6.i ty4 rfl 11) (show ivh5 a0 11 = ivn1 a0 11 from fl5.i ty3 rfl 11) (show ivn1 a0 11 = iv a0 11 from by rw [hin1]; exact congrFun (up0_a (ne_in t_a0.1 hqn1)) _) (show 1 ≤ ivh9 a0 12 ∧ ivh9 a0 12 ≤ 50 from W14.int ty78 12) (show ivh9 a0 12 = ivh8 a0 12 from fl9.i ty77 rfl 12) (show ivh8 a0 12 = ivh7 a0 12 from fl8.i ty59 rfl 12) (show ivh7 a0 12 = ivn2 a0 12 from fl7.i ty44 rfl 12) (show ivn2 a0 12 = ivh6 a0 12 from by rw [hin2]; exact congrFun (up0_a (ne_in ty31.1 hqn2)) _) (show ivh6 a0 12 = ivh5 a0 12 from fl6.i ty4 rfl 12) (show ivh5 a0 12 = ivn1 a0 12 from fl5.i ty3 rfl 12) (show ivn1 a0 12 = iv a0 12 from by rw [hin1]; exact congrFun (up0_a (ne_in t_a0.1 hqn1)) _) (show (-2147483648) ≤ ivh9 a0 13 ∧ ivh9 a0 13 ≤ 2147483647 from W14.int ty78 13) (show ivh9 a0 13 = ivh8 a0 13 from fl9.i ty77 rfl 13) (show ivh8 a0 13 = ivh7 a0 13 from fl8.i ty59 rfl 13) (show ivh7 a0 13 = ivn2 a0 13 from fl7.i ty44 rfl 13) (show ivn2 a0 13 = ivh6 a0 13 from by rw [hin2]; exact congrFun (up0_a (ne_in ty31.1 hqn2)) _) (show ivh6 a0 13 = ivh5 a0 13 from fl6.i ty4 rfl 13) (show ivh5 a0 13 = ivn1 a0 13 from fl5.i ty3 rfl 13) (show ivn1 a0 13 = iv a0 13 from by rw [hin1]; exact congrFun (up0_a (ne_in t_a0.1 hqn1)) _) (show (-2147483648) ≤ ivh9 a0 14 ∧ ivh9 a0 14 ≤ 2147483647 from W14.int ty78 14) (show ivh9 a0 14 = ivh8 a0 14 from fl9.i ty77 rfl 14) (show ivh8 a0 14 = ivh7 a0 14 from fl8.i ty59 rfl 14) (show ivh7 a0 14 = ivn2 a0 14 from fl7.i ty44 rfl 14) (show ivn2 a0 14 = ivh6 a0 14 from by rw [hin2]; exact congrFun (up0_a (ne_in ty31.1 hqn2)) _) (show ivh6 a0 14 = ivh5 a0 14 from fl6.i ty4 rfl 14) (show ivh5 a0 14 = ivn1 a0 14 from fl5.i ty3 rfl 14) (show ivn1 a0 14 = iv a0 14 from by rw [hin1]; exact congrFun (up0_a (ne_in t_a0.1 hqn1)) _) (show (-2147483648) ≤ ivh9 a0 15 ∧ ivh9 a0 15 ≤ 2147483647 from W14.int ty78 15) (show ivh9 a0 15 = ivh8 a0 15 from fl9.i ty77 rfl 15) (show ivh8 a0 15 = ivh7 a0 15 from fl8.i ty59 rfl 15) (show ivh7 a0 15 = ivn2 a0 15 from fl7.i ty44 rfl 15) (show ivn2 a0 15 = ivh6 a0 15 from by rw [hin2]; exact congrFun (up0_a (ne_in ty31.1 hqn2)) _) (show ivh6 a0 15 = ivh5 a0 15 from fl6.i ty4 rfl 15) (show ivh5 a0 15 = ivn1 a0 15 from fl5.i ty3 rfl 15) (show ivn1 a0 15 = iv a0 15 from by rw [hin1]; exact congrFun (up0_a (ne_in t_a0.1 hqn1)) _) (fun ri25 ie20 ie21 ie22 ie23 ie24 ie25 ie26 ri26 ie27 ie28 ie29 ie30 ie31 ie32 ie33 ri27 ie34 ie35 ie36 ie37 ie38 ie39 ie40 ri28 ie41 ie42 ie43 ie44 ie45 ie46 ie47 ri29 ie48 ie49 ie50 ie51 ie52 ie53 ie54 => ?_)
                refine hv11 (show (-2147483648) ≤ ivh9 a0 16 ∧ ivh9 a0 16 ≤ 2147483647 from W14.int ty78 16) (show ivh9 a0 16 = ivh8 a0 16 from fl9.i ty77 rfl 16) (show ivh8 a0 16 = ivh7 a0 16 from fl8.i ty59 rfl 16) (show ivh7 a0 16 = ivn2 a0 16 from fl7.i ty44 rfl 16) (show ivn2 a0 16 = ivh6 a0 16 from by rw [hin2]; exact congrFun (up0_a (ne_in ty31.1 hqn2)) _) (show ivh6 a0 16 = ivh5 a0 16 from fl6.i ty4 rfl 16) (show ivh5 a0 16 = ivn1 a0 16 from fl5.i ty3 rfl 16) (show ivn1 a0 16 = iv a0 16 from by rw [hin1]; exact congrFun (up0_a (ne_in t_a0.1 hqn1)) _) (F9.call X7 fl10 rfl) (MRK.call mr11 W14 sk7 XT.refl fl10 rfl rfl) (kp9.call tx7 W14 fl10 rfl) (fun ri30 ie55 ie56 ie57 ie58 ie59 ie60 ie61 F10 mr12 kp10 => ?_)
                refine c_st (st2 := [.int (iI f10)]) rfl ?_
                refine hv38 (show ivh10 a0 11 = ivh9 a0 11 from kp11f10) (show ivh10 a0 12 = ivh9 a0 12 from kp12f10) (show ivh10 a0 13 = ivh9 a0 13 from kp13f10) (show ivh10 a0 14 = ivh9 a0 14 from kp14f10) (show ivh10 a0 15 = ivh9 a0 15 from kp15f10) (show ivh10 a0 16 = ivh9 a0 16 from kp16f10) (show f10 = (ivh9 (sk 2) 2) from exf10) (show 1 ≤ ivh10 a0 11 ∧ ivh10 a0 11 ≤ 100 from W15.int ty78 11) (show 1 ≤ ivh10 a0 12 ∧ ivh10 a0 12 ≤ 50 from W15.int ty78 12) (show (-2147483648) ≤ ivh10 a0 13 ∧ ivh10 a0 13 ≤ 2147483647 from W15.int ty78 13) (show (-2147483648) ≤ ivh10 a0 14 ∧ ivh10 a0 14 ≤ 2147483647 from W15.int ty78 14) (show (-2147483648) ≤ ivh10 a0 15 ∧ ivh10 a0 15 ≤ 2147483647 from W15.int ty78 15) (show (-2147483648) ≤ ivh10 a0 16 ∧ ivh10 a0 16 ≤ 2147483647 from W15.int ty78 16) (show 0 ≤ ivh10 (sk 23) 2 ∧ ivh10 (sk 23) 2 ≤ 512 from W15.int ty100 2) (show ivh10 (sk 23) 2 = ivh9 (sk 23) 2 from fl10.i ty100 rfl 2) (show ivh9 (sk 23) 2 = ivh8 (sk 23) 2 from fl9.i ty99 rfl 2) (show ivh8 (sk 23) 2 = ivh7 (sk 23) 2 from fl8.i ty70 rfl 2) (show ivh7 (sk 23) 2 = ivn2 (sk 23) 2 from fl7.i ty55 rfl 2) (show ivn2 (sk 23) 2 = ivh6 (sk 23) 2 from by rw [hin2]; exact congrFun (up0_a (ne_in ty29.1 hqn2)) _) (show 0 ≤ ivh10 (sk 22) 2 ∧ ivh10 (sk 22) 2 ≤ 30 from W15.int ty98 2) (show ivh10 (sk 22) 2 = ivh9 (sk 22) 2 from fl10.i ty98 rfl 2) (show ivh9 (sk 22) 2 = ivh8 (sk 22) 2 from fl9.i ty97 rfl 2) (show ivh8 (sk 22) 2 = ivh7 (sk 22) 2 from fl8.i ty69 rfl 2) (show ivh7 (sk 22) 2 = ivn2 (sk 22) 2 from fl7.i ty54 rfl 2) (show ivn2 (sk 22) 2 = ivh6 (sk 22) 2 from by rw [hin2]; exact congrFun (up0_a (ne_in ty41.1 hqn2)) _) (show ivh6 (sk 22) 2 = ivh5 (sk 22) 2 from fl6.i ty24 rfl 2) (show ivh5 (sk 22) 2 = ivn1 (sk 22) 2 from fl5.i ty23 rfl 2) (show ivn1 (sk 22) 2 = iv (sk 22) 2 from by rw [hin1]; exact congrFun (up0_a (ne_in tsk22.1 hqn1)) _) (show 0 ≤ ivh10 (sk 2) 2 ∧ ivh10 (sk 2) 2 ≤ 3000 from W15.int ty80 2) (show ivh10 (sk 2) 2 = ivh9 (sk 2) 2 from fl10.i ty80 rfl 2) (show (-2147483648) ≤ ivh10 qn1 0 ∧ ivh10 qn1 0 ≤ 2147483647 from W15.int ty106 0) (show ivh10 qn1 0 = ivh9 qn1 0 from fl10.i ty106 rfl 0) (show ivh9 qn1 0 = ivh8 qn1 0 from fl9.i ty105 rfl 0) (show ivh8 qn1 0 = ivh7 qn1 0 from fl8.i ty73 rfl 0) (show ivh7 qn1 0 = ivn2 qn1 0 from fl7.i ty58 rfl 0) (show ivn2 qn1 0 = ivh6 qn1 0 from by rw [hin2]; exact congrFun (up0_a (ne_in ty43.1 hqn2)) _) (show ivh6 qn1 0 = ivh5 qn1 0 from fl6.i tqr1 rfl 0) (show rvh6 qn1 1 = rvh5 qn1 1 from (fl6.r tqr1 rfl 1)) (fun gk11f10 gk12f10 gk13f10 gk14f10 gk15f10 gk16f10 gf10 ri31 ri32 ri33 ri34 ri35 ri36 ri37 ie68 ie69 ie70 ie71 ie72 ri38 ie73 ie74 ie75 ie76 ie77 ie78 ie79 ie80 ri39 ie81 ri40 ie82 ie83 ie84 ie85 ie86 ie87 re9 => ?_)
                rw [exf5r] at re9
                have re10 : rvn2 qn1 1 = rvh6 qn1 1 := (by rw [hrn2]; exact congrFun (up0_a (ne_in ty43.1 hqn2)) _)
                rw [re9] at re10
                have re11 : rvh7 qn1 1 = rvn2 qn1 1 := (fl7.r ty58 rfl 1)
                rw [re10] at re11
                have re12 : rvh8 qn1 1 = rvh7 qn1 1 := (fl8.r ty73 rfl 1)
                rw [re11] at re12
                have re13 : rvh9 qn1 1 = rvh8 qn1 1 := (fl9.r ty105 rfl 1)
                rw [re12] at re13
                have re14 : rv1 qn1 1 = rvh9 qn1 1 := (by rw [pq1]; exact congrFun (upr_a (ne_ty ty106 ty104 (by decide))) _)
                rw [re13] at re14
                have re15 : rvh6 qn1 2 = rvh5 qn1 2 := (fl6.r tqr1 rfl 2)
                rw [exf5p] at re15
                have re16 : rvn2 qn1 2 = rvh6 qn1 2 := (by rw [hrn2]; exact congrFun (up0_a (ne_in ty43.1 hqn2)) _)
                rw [re15] at re16
                have re17 : rvh7 qn1 2 = rvn2 qn1 2 := (fl7.r ty58 rfl 2)
                rw [re16] at re17
                have re18 : rvh8 qn1 2 = rvh7 qn1 2 := (fl8.r ty73 rfl 2)
                rw [re17] at re18
                have re19 : rvh9 qn1 2 = rvh8 qn1 2 := (fl9.r ty105 rfl 2)
                rw [re18] at re19
                have re20 : rv1 qn1 2 = rvh9 qn1 2 := (by rw [pq1]; exact congrFun (upr_a (ne_ty ty106 ty104 (by decide))) _)
                rw [re19] at re20
                refine hv11 (show 0 ≤ ivh10 qn1 3 ∧ ivh10 qn1 3 ≤ 5 from W15.int ty106 3) (show ivh10 qn1 3 = ivh9 qn1 3 from fl10.i ty106 rfl 3) (show ivh9 qn1 3 = ivh8 qn1 3 from fl9.i ty105 rfl 3) (show ivh8 qn1 3 = ivh7 qn1 3 from fl8.i ty73 rfl 3) (show ivh7 qn1 3 = ivn2 qn1 3 from fl7.i ty58 rfl 3) (show ivn2 qn1 3 = ivh6 qn1 3 from by rw [hin2]; exact congrFun (up0_a (ne_in ty43.1 hqn2)) _) (show ivh6 qn1 3 = ivh5 qn1 3 from fl6.i tqr1 rfl 3) (show rv1 n6 j.toNat = (some qn2) from by rw [pq1]; exact upr_s) (show (-2147483648) ≤ ivh10 qn2 0 ∧ ivh10 qn2 0 ≤ 2147483647 from W15.int tqr2 0) (show ivh10 qn2 0 = ivh9 qn2 0 from fl10.i tqr2 rfl 0) (show rv1 qn2 1 = rvh9 qn2 1 from (by rw [pq1]; exact congrFun (upr_a (ne_ty tqr2 ty104 (by decide))) _)) (fun ri41 ie88 ie89 ie90 ie91 ie92 ie93 rp1 ri42 ie94 re21 => ?_)
                rw [exf9r] at re21
                refine hv2 (show lnh8 f7 = lnh7 f7 from (xl10 f7 rgf7.1).2.2) (show rv1 qn2 2 = rvh9 qn2 2 from (by rw [pq1]; exact congrFun (upr_a (ne_ty tqr2 ty104 (by decide))) _)) (fun le1 re22 => ?_)
                rw [exf9p] at re22
                exact c_iret C dX11_changeIndicator_154 rfl (by decide) (rom0 hph pl7 (by decide)) ⟨f10, rfl, X7, F10, W15, ⟨by omega, by omega⟩, ⟨(by omega), mr12⟩, (gk11f10.trans (ie20.trans (ie21.trans (ie22.trans (ie23.trans (ie24.trans (ie25.trans ie26))))))), (gk12f10.trans (ie27.trans (ie28.trans (ie29.trans (ie30.trans (ie31.trans (ie32.trans ie33))))))), (gk13f10.trans (ie34.trans (ie35.trans (ie36.trans (ie37.trans (ie38.trans (ie39.trans ie40))))))), (gk14f10.trans (ie41.trans (ie42.trans (ie43.trans (ie44.trans (ie45.trans (ie46.trans ie47))))))), (gk15f10.trans (ie48.trans (ie49.trans (ie50.trans (ie51.trans (ie52.trans (ie53.trans ie54))))))), (gk16f10.trans (ie55.trans (ie56.trans (ie57.trans (ie58.trans (ie59.trans (ie60.trans ie61))))))), (Or.inr ⟨by omega, ob1, akob1.2, (fun ss hs hd => by
                    have e2 := irxf4 ss hs (by omega) hd
                    have e3 := e2.mp (by omega)
                    rw [Int.sub_zero] at e3
                    exact ⟨⟨by omega, by omega, gf3.mp (by omega), by omega⟩, e3.2⟩), by omega, ⟨(fun i hi => el_fr hW (tysk22 hS) rfl rfl F10 rfl rfl hi), TSF.of hW hS (fun bb tbb hbb => by have tb1 := xl5.ty tbb; have tb2 := ty_rt tb1 hcr1 (ne_ty tb1 tqn1 (by decide)); have tb3 := xl7.ty tb2; have tb4 := xl8.ty tb3; have tb5 := xl9.ty tb4; have tb6 := xl10.ty tb5; have tb7 := ty_rt tb6 hcr2 (ne_ty tb6 ty75 (by decide)); exact (Eq.trans (show ivh10 bb 7 = ivh9 bb 7 from (fl10.i tb7 rfl 7)) (Eq.trans (show ivh9 bb 7 = ivh8 bb 7 from (fl9.i tb6 rfl 7)) (Eq.trans (show ivh8 bb 7 = ivh7 bb 7 from (fl8.i tb5 rfl 7)) (Eq.trans (show ivh7 bb 7 = ivn2 bb 7 from (fl7.i tb4 rfl 7)) (Eq.trans (show ivn2 bb 7 = ivh6 bb 7 from (by rw [hin2]; exact congrFun (up0_a (ne_in tb3.1 hqn2)) _)) (Eq.trans (show ivh6 bb 7 = ivh5 bb 7 from (fl6.i tb2 rfl 7)) (Eq.trans (show ivh5 bb 7 = ivn1 bb 7 from (fl5.i tb1 rfl 7)) (show ivn1 bb 7 = iv bb 7 from (by rw [hin1]; exact congrFun (up0_a (ne_in tbb.1 hqn1)) _)))))))))) (fun bb tbb => by have tb1 := xl5.ty tbb; have tb2 := ty_rt tb1 hcr1 (ne_ty tb1 tqn1 (by decide)); have tb3 := xl7.ty tb2; have tb4 := xl8.ty tb3; have tb5 := xl9.ty tb4; have tb6 := xl10.ty tb5; have tb7 := ty_rt tb6 hcr2 (ne_ty tb6 ty75 (by decide)); exact (Eq.trans (show ivh10 bb 0 = ivh9 bb 0 from (fl10.i tb7 rfl 0)) (Eq.trans (show ivh9 bb 0 = ivh8 bb 0 from (fl9.i tb6 rfl 0)) (Eq.trans (show ivh8 bb 0 = ivh7 bb 0 from (fl8.i tb5 rfl 0)) (Eq.trans (show ivh7 bb 0 = ivn2 bb 0 from (fl7.i tb4 rfl 0)) (Eq.trans (show ivn2 bb 0 = ivh6 bb 0 from (by rw [hin2]; exact congrFun (up0_a (ne_in tb3.1 hqn2)) _)) (Eq.trans (show ivh6 bb 0 = ivh5 bb 0 from (fl6.i tb2 rfl 0)) (Eq.trans (show ivh5 bb 0 = ivn1 bb 0 from (fl5.i tb1 rfl 0)) (show ivn1 bb 0 = iv bb 0 from (by rw [hin1]; exact congrFun (up0_a (ne_in tbb.1 hqn1)) _)))))))))) (fun bb tbb => by have tb1 := xl5.ty tbb; have tb2 := ty_rt tb1 hcr1 (ne_ty tb1 tqn1 (by decide)); have tb3 := xl7.ty tb2; have tb4 := xl8.ty tb3; have tb5 := xl9.ty tb4; have tb6 := xl10.ty tb5; have tb7 := ty_rt tb6 hcr2 (ne_ty tb6 ty75 (by decide)); exact (Eq.trans (show ivh10 bb 1 = ivh9 bb 1 from (fl10.i tb7 rfl 1)) (Eq.trans (show ivh9 bb 1 = ivh8 bb 1 from (fl9.i tb6 rfl 1)) (Eq.trans (show ivh8 bb 1 = ivh7 bb 1 from (fl8.i tb5 rfl 1)) (Eq.trans (show ivh7 bb 1 = ivn2 bb 1 from (fl7.i tb4 rfl 1)) (Eq.trans (show ivn2 bb 1 = ivh6 bb 1 from (by rw [hin2]; exact congrFun (up0_a (ne_in tb3.1 hqn2)) _)) (Eq.trans (show ivh6 bb 1 = ivh5 bb 1 from (fl6.i tb2 rfl 1)) (Eq.trans (show ivh5 bb 1 = ivn1 bb 1 from (fl5.i tb1 rfl 1)) (show ivn1 bb 1 = iv bb 1 from (by rw [hin1]; exact congrFun (up0_a (ne_in tbb.1 hqn1)) _)))))))))) (fun bb tbb => by have tb1 := xl5.ty tbb; have tb2 := ty_rt tb1 hcr1 (ne_ty tb1 tqn1 (by decide)); have tb3 := xl7.ty tb2; have tb4 := xl8.ty tb3; have tb5 := xl9.ty tb4; have tb6 := xl10.ty tb5; have tb7 := ty_rt tb6 hcr2 (ne_ty tb6 ty75 (by decide)); exact (Eq.trans (show rv1 bb 4 = rvh9 bb 4 from (by rw [pq1]; exact congrFun (upr_a (ne_ty tb7 ty104 (by decide))) _)) (Eq.trans (show rvh9 bb 4 = rvh8 bb 4 from (fl9.r tb6 rfl 4)) (Eq.trans (show rvh8 bb 4 = rvh7 bb 4 from (fl8.r tb5 rfl 4)) (Eq.trans (show rvh7 bb 4 = rvn2 bb 4 from (fl7.r tb4 rfl 4)) (Eq.trans (show rvn2 bb 4 = rvh6 bb 4 from (by rw [hrn2]; exact congrFun (up0_a (ne_in tb3.1 hqn2)) _)) (Eq.trans (show rvh6 bb 4 = rvh5 bb 4 from (fl6.r tb2 rfl 4)) (Eq.trans (show rvh5 bb 4 = rvn1 bb 4 from (fl5.r tb1 rfl 4)) (show rvn1 bb 4 = rv bb 4 from (by rw [hrn1]; exact congrFun (up0_a (ne_in tbb.1 hqn1)) _)))))))))), TSQ.of hW hS (fun bb tbb hbb => by have tb1 := xl5.ty tbb; have tb2 := ty_rt tb1 hcr1 (ne_ty tb1 tqn1 (by decide)); have tb3 := xl7.ty tb2; have tb4 := xl8.ty tb3; have tb5 := xl9.ty tb4; have tb6 := xl10.ty tb5; have tb7 := ty_rt tb6 hcr2 (ne_ty tb6 ty75 (by decide)); exact (Eq.trans (show ivh10 bb 2 = ivh9 bb 2 from (fl10.i tb7 rfl 2)) (Eq.trans (show ivh9 bb 2 = ivh8 bb 2 from (fl9.i tb6 rfl 2)) (Eq.trans (show ivh8 bb 2 = ivh7 bb 2 from (fl8.i tb5 rfl 2)) (Eq.trans (show ivh7 bb 2 = ivn2 bb 2 from (fl7.i tb4 rfl 2)) (Eq.trans (show ivn2 bb 2 = ivh6 bb 2 from (by rw [hin2]; exact congrFun (up0_a (ne_in tb3.1 hqn2)) _)) (Eq.trans (show ivh6 bb 2 = ivh5 bb 2 from (fl6.i tb2 rfl 2)) (Eq.trans (show ivh5 bb 2 = ivn1 bb 2 from (fl5.i tb1 rfl 2)) (show ivn1 bb 2 = iv bb 2 from (by rw [hin1]; exact congrFun (up0_a (ne_in tbb.1 hqn1)) _))))))))))⟩, ⟨(by omega), CS0.of hW hS (Int.le_refl _) (fun i hi => ((fun i hi => el_ch W8 (tysk23 sk3) rfl rfl ((show ∀ bb, ty Lh6 clh6 bb 23 → rv1 bb 1 = rvh6 bb 1 from fun bb tbb => by have tb4 := xl8.ty tbb; have tb5 := xl9.ty tb4; have tb6 := xl10.ty tb5; have tb7 := ty_rt tb6 hcr2 (ne_ty tb6 ty75 (by decide)); exact (Eq.trans (show rv1 bb 1 = rvh9 bb 1 from (by rw [pq1]; exact congrFun (upr_a (ne_ty tb7 ty104 (by decide))) _)) (Eq.trans (show rvh9 bb 1 = rvh8 bb 1 from (fl9.r tb6 rfl 1)) (Eq.trans (show rvh8 bb 1 = rvh7 bb 1 from (fl8.r tb5 rfl 1)) (Eq.trans (show rvh7 bb 1 = rvn2 bb 1 from (fl7.r tb4 rfl 1)) (show rvn2 bb 1 = rvh6 bb 1 from (by rw [hrn2]; exact congrFun (up0_a (ne_in tbb.1 hqn2)) _))))))) (sk 23) (tysk23 sk3)) (fun bb tbb kk => by have tb4 := xl8.ty tbb; have tb5 := xl9.ty tb4; have tb6 := xl10.ty tb5; have tb7 := ty_rt tb6 hcr2 (ne_ty tb6 ty75 (by decide)); exact (Eq.trans (show rv1 bb kk = rvh9 bb kk from (by rw [pq1]; exact congrFun (upr_a (ne_ty tb7 ty104 (by decide))) _)) (Eq.trans (show rvh9 bb kk = rvh8 bb kk from (fl9.r tb6 rfl kk)) (Eq.trans (show rvh8 bb kk = rvh7 bb kk from (fl8.r tb5 rfl kk)) (Eq.trans (show rvh7 bb kk = rvn2 bb kk from (fl7.r tb4 rfl kk)) (show rvn2 bb kk = rvh6 bb kk from (by rw [hrn2]; exact congrFun (up0_a (ne_in tbb.1 hqn2)) _))))))) hi) i (by omega)).trans ((rmef6.2 i (by omega)).trans (ce1 i hi))) (fun bb tbb => by have tb1 := xl5.ty tbb; have tb2 := ty_rt tb1 hcr1 (ne_ty tb1 tqn1 (by decide)); have tb3 := xl7.ty tb2; have tb4 := xl8.ty tb3; have tb5 := xl9.ty tb4; have tb6 := xl10.ty tb5; have tb7 := ty_rt tb6 hcr2 (ne_ty tb6 ty75 (by decide)); exact (Eq.trans (show ivh10 bb 0 = ivh9 bb 0 from (fl10.i tb7 rfl 0)) (Eq.trans (show ivh9 bb 0 = ivh8 bb 0 from (fl9.i tb6 rfl 0)) (Eq.trans (show ivh8 bb 0 = ivh7 bb 0 from (fl8.i tb5 rfl 0)) (Eq.trans (show ivh7 bb 0 = ivn2 bb 0 from (fl7.i tb4 rfl 0)) (Eq.trans (show ivn2 bb 0 = ivh6 bb 0 from (by rw [hin2]; exact congrFun (up0_a (ne_in tb3.1 hqn2)) _)) (Eq.trans (show ivh6 bb 0 = ivh5 bb 0 from (fl6.i tb2 rfl 0)) (Eq.trans (show ivh5 bb 0 = ivn1 bb 0 from (fl5.i tb1 rfl 0)) (show ivn1 bb 0 = iv bb 0 from (by rw [hin1]; exact congrFun (up0_a (ne_in tbb.1 hqn1)) _)))))))))) (fun bb tbb => by have tb1 := xl5.ty tbb; have tb2 := ty_rt tb1 hcr1 (ne_ty tb1 tqn1 (by decide)); have tb3 := xl7.ty tb2; have tb4 := xl8.ty tb3; have tb5 := xl9.ty tb4; have tb6 := xl10.ty tb5; have tb7 := ty_rt tb6 hcr2 (ne_ty tb6 ty75 (by decide)); exact (Eq.trans (show rv1 bb 1 = rvh9 bb 1 from (by rw [pq1]; exact congrFun (upr_a (ne_ty tb7 ty104 (by decide))) _)) (Eq.trans (show rvh9 bb 1 = rvh8 bb 1 from (fl9.r tb6 rfl 1)) (Eq.trans (show rvh8 bb 1 = rvh7 bb 1 from (fl8.r tb5 rfl 1)) (Eq.trans (show rvh7 bb 1 = rvn2 bb 1 from (fl7.r tb4 rfl 1)) (Eq.trans (show rvn2 bb 1 = rvh6 bb 1 from (by rw [hrn2]; exact congrFun (up0_a (ne_in tb3.1 hqn2)) _)) (Eq.trans (show rvh6 bb 1 = rvh5 bb 1 from (fl6.r tb2 rfl 1)) (Eq.trans (show rvh5 bb 1 = rvn1 bb 1 from (fl5.r tb1 rfl 1)) (show rvn1 bb 1 = rv bb 1 from (by rw [hrn1]; exact congrFun (up0_a (ne_in tbb.1 hqn1)) _)))))))))), ⟨qn1, (by rw [show (iv (sk 23) 2).toNat = (ivh5 (sk 23) 2).toNat from congrArg Int.toNat (by omega)]; exact ((fun i hi => el_ch W8 (tysk23 sk3) rfl rfl ((show ∀ bb, ty Lh6 clh6 bb 23 → rv1 bb 1 = rvh6 bb 1 from fun bb tbb => by have tb4 := xl8.ty tbb; have tb5 := xl9.ty tb4; have tb6 := xl10.ty tb5; have tb7 := ty_rt tb6 hcr2 (ne_ty tb6 ty75 (by decide)); exact (Eq.trans (show rv1 bb 1 = rvh9 bb 1 from (by rw [pq1]; exact congrFun (upr_a (ne_ty tb7 ty104 (by decide))) _)) (Eq.trans (show rvh9 bb 1 = rvh8 bb 1 from (fl9.r tb6 rfl 1)) (Eq.trans (show rvh8 bb 1 = rvh7 bb 1 from (fl8.r tb5 rfl 1)) (Eq.trans (show rvh7 bb 1 = rvn2 bb 1 from (fl7.r tb4 rfl 1)) (show rvn2 bb 1 = rvh6 bb 1 from (by rw [hrn2]; exact congrFun (up0_a (ne_in tbb.1 hqn2)) _))))))) (sk 23) (tysk23 sk3)) (fun bb tbb kk => by have tb4 := xl8.ty tbb; have tb5 := xl9.ty tb4; have tb6 := xl10.ty tb5; have tb7 := ty_rt tb6 hcr2 (ne_ty tb6 ty75 (by decide)); exact (Eq.trans (show rv1 bb kk = rvh9 bb kk from (by rw [pq1]; exact congrFun (upr_a (ne_ty tb7 ty104 (by decide))) _)) (Eq.trans (show rvh9 bb kk = rvh8 bb kk from (fl9.r tb6 rfl kk)) (Eq.trans (show rvh8 bb kk = rvh7 bb kk from (fl8.r tb5 rfl kk)) (Eq.trans (show rvh7 bb kk = rvn2 bb kk from (fl7.r tb4 rfl kk)) (show rvn2 bb kk = rvh6 bb kk from (by rw [hrn2]; exact congrFun (up0_a (ne_in tbb.1 hqn2)) _))))))) hi) _ (by omega)).trans rmef6.1), (by omega), re14⟩⟩⟩), (Or.inr ⟨ob1, n6, ⟨akob1.2, hn6, by omega⟩, kp10, Or.inr ⟨qn2, f8, rp1, ⟨tqr2, ⟨by omega, f7, re21, by omega⟩, re22⟩, ty108, by omega, by omega, (fun ss hs kk hk => Eq.trans ((show ∀ bb, ty Lh8 clh8 bb 66 → ivh10 bb kk = ivh8 bb kk from fun bb tbb => by have tb7 := ty_rt tbb hcr2 (ne_ty tbb ty75 (by decide)); exact (Eq.trans (show ivh10 bb kk = ivh9 bb kk from (fl10.i tb7 rfl kk)) (show ivh9 bb kk = ivh8 bb kk from (fl9.i tbb rfl kk)))) f8 rgf8) (Eq.trans (slnf8.2.2 ss (CT.fr hs hW tsk2 F6 rfl rfl rfl rfl rfl) (by omega) kk (by omega)) (congrArg ss (by omega))))⟩, ⟨(by omega), qn1, (by rw [show (iv (sk 23) 2).toNat = (ivh5 (sk 23) 2).toNat from congrArg Int.toNat (by omega)]; exact ((fun i hi => el_ch W8 (tysk23 sk3) rfl rfl ((show ∀ bb, ty Lh6 clh6 bb 23 → rv1 bb 1 = rvh6 bb 1 from fun bb tbb => by have tb4 := xl8.ty tbb; have tb5 := xl9.ty tb4; have tb6 := xl10.ty tb5; have tb7 := ty_rt tb6 hcr2 (ne_ty tb6 ty75 (by decide)); exact (Eq.trans (show rv1 bb 1 = rvh9 bb 1 from (by rw [pq1]; exact congrFun (upr_a (ne_ty tb7 ty104 (by decide))) _)) (Eq.trans (show rvh9 bb 1 = rvh8 bb 1 from (fl9.r tb6 rfl 1)) (Eq.trans (show rvh8 bb 1 = rvh7 bb 1 from (fl8.r tb5 rfl 1)) (Eq.trans (show rvh7 bb 1 = rvn2 bb 1 from (fl7.r tb4 rfl 1)) (show rvn2 bb 1 = rvh6 bb 1 from (by rw [hrn2]; exact congrFun (up0_a (ne_in tbb.1 hqn2)) _))))))) (sk 23) (tysk23 sk3)) (fun bb tbb kk => by have tb4 := xl8.ty tbb; have tb5 := xl9.ty tb4; have tb6 := xl10.ty tb5; have tb7 := ty_rt tb6 hcr2 (ne_ty tb6 ty75 (by decide)); exact (Eq.trans (show rv1 bb kk = rvh9 bb kk from (by rw [pq1]; exact congrFun (upr_a (ne_ty tb7 ty104 (by decide))) _)) (Eq.trans (show rvh9 bb kk = rvh8 bb kk from (fl9.r tb6 rfl kk)) (Eq.trans (show rvh8 bb kk = rvh7 bb kk from (fl8.r tb5 rfl kk)) (Eq.trans (show rvh7 bb kk = rvn2 bb kk from (fl7.r tb4 rfl kk)) (show rvn2 bb kk = rvh6 bb kk from (by rw [hrn2]; exact congrFun (up0_a (ne_in tbb.1 hqn2)) _))))))) hi) _ (by omega)).trans rmef6.1), re14, (Eq.trans re20 oi1.symm), (by omega)⟩⟩), (Eq.trans (show rv1 a0 9 = rvh9 a0 9 from (by rw [pq1]; exact congrFun (upr_a (ne_ty ty78 ty104 (by decide))) _)) (Eq.trans (show rvh9 a0 9 = rvh8 a0 9 from (fl9.r ty77 rfl 9)) (Eq.trans (show rvh8 a0 9 = rvh7 a0 9 from (fl8.r ty59 rfl 9)) (Eq.trans (show rvh7 a0 9 = rvn2 a0 9 from (fl7.r ty44 rfl 9)) (Eq.trans (show rvn2 a0 9 = rvh6 a0 9 from (by rw [hrn2]; exact congrFun (up0_a (ne_in ty31.1 hqn2)) _)) (Eq.trans (show rvh6 a0 9 = rvh5 a0 9 from (fl6.r ty4 rfl 9)) (Eq.trans (show rvh5 a0 9 = rvn1 a0 9 from (fl5.r ty3 rfl 9)) (show rvn1 a0 9 = rv a0 9 from (by rw [hrn1]; exact congrFun (up0_a (ne_in t_a0.1 hqn1)) _))))))))), (Eq.trans (show rv1 a0 10 = rvh9 a0 10 from (by rw [pq1]; exact congrFun (upr_a (ne_ty ty78 ty104 (by decide))) _)) (Eq.trans (show rvh9 a0 10 = rvh8 a0 10 from (fl9.r ty77 rfl 10)) (Eq.trans (show rvh8 a0 10 = rvh7 a0 10 from (fl8.r ty59 rfl 10)) (Eq.trans (show rvh7 a0 10 = rvn2 a0 10 from (fl7.r ty44 rfl 10)) (Eq.trans (show rvn2 a0 10 = rvh6 a0 10 from (by rw [hrn2]; exact congrFun (up0_a (ne_in ty31.1 hqn2)) _)) (Eq.trans (show rvh6 a0 10 = rvh5 a0 10 from (fl6.r ty4 rfl 10)) (Eq.trans (show rvh5 a0 10 = rvn1 a0 10 from (fl5.r ty3 rfl 10)) (show rvn1 a0 10 = rv a0 10 from (by rw [hrn1]; exact congrFun (up0_a (ne_in t_a0.1 hqn1)) _)))))))))⟩
              · refine c_null C dX11_changeIndicator_106 ?_
                refine c_goto (tgt := 142) C dX11_changeIndicator_107 (by decide) ?_
                have ty109 := xl7.ty ty28
                have ll3 : 4 ≤ lnh6 n6 ∧ lnh6 n6 ≤ 4 := W8.len ty109 rfl
                refine c_aastNR (z := j) C dX11_changeIndicator_142 ty109 rfl (by omega) (by omega) (by omega) (fun rv2 pq2 => ⟨1236, (by rw [Phi.putr sk3 pq2 ty109 rfl]; exact Nat.le_refl _), ?_⟩)
                refine hv4 (W8.putr pq2 ty109 (fun _ => ⟨fun _ => by rw [ty109.2]; rfl, fun _ qq => by cases qq⟩) rfl (by decide)) (F4.putr X3 pq2 ty109 rfl) (MRK.putr mr5 W8 sk3 pq2 ty109 (by decide) (by decide)) (TX.xt tx2 xl7) (fun W16 F11 mr13 tx8 => ?_)
                have kp11 := kp4.putrI tx8 W8 pq2 ty109 ⟨rfl, rfl⟩
                refine c_aload_n (j := 1) (x := a0) C dX11_changeIndicator_143 rfl ?_
                refine c_aload_n (j := 1) (x := a0) C dX11_changeIndicator_144 rfl ?_
                have re23 : rv2 a0 0 = rvh6 a0 0 := (by rw [pq2]; exact congrFun (upr_a (ne_ty ty31 ty109 (by decide))) _)
                rw [rq2] at re23
                refine c_getr (k := 0) C ck_12 dX11_changeIndicator_145 w2_44 (by decide) ty31 rfl rfl (by decide) rfl re23 ?_
                refine c_st (st2 := [.ref (sk 2), .ref a0]) rfl ?_
                refine c_get (k := 2) C ck_2 dX11_changeIndicator_148 w1_44 (by decide) ty32 rfl rfl (by decide) rfl ?_
                have pl8 := Phi.le W16 sk3
                refine d_callV (As := [.int (iI (ivh6 (sk 2) 2))]) (rest := []) C hM (C_done (a0 := a0) (x := ivh6 (sk 2) 2) W16 sk3 ty31 (by omega) ) dX11_changeIndicator_151 kV_X11_109 rfl ty31 rfl rfl (by decide) ck_12 rfl (Nat.le_of_ble_eq_true rfl) ⟨(Nat.le_of_ble_eq_true rfl), (Nat.le_of_ble_eq_true rfl)⟩ hph pl8 (show 1236 + 0 = 1236 from rfl) (by decide) (fun rh11 Lh11 clh11 lnh11 ivh11 rvh11 h11 => ?_)
                obtain ⟨f11, rfl, rfl, rfl, rfl, rfl, fl11, W17, rgf11, exf11, kp11f11, kp12f11, kp13f11, kp14f11, kp15f11, kp16f11⟩ := h11
                refine hv27 (show 1 ≤ ivh6 a0 11 ∧ ivh6 a0 11 ≤ 100 from W16.int ty31 11) (show ivh6 a0 11 = ivh5 a0 11 from fl6.i ty4 rfl 11) (show ivh5 a0 11 = ivn1 a0 11 from fl5.i ty3 rfl 11) (show ivn1 a0 11 = iv a0 11 from by rw [hin1]; exact congrFun (up0_a (ne_in t_a0.1 hqn1)) _) (show 1 ≤ ivh6 a0 12 ∧ ivh6 a0 12 ≤ 50 from W16.int ty31 12) (show ivh6 a0 12 = ivh5 a0 12 from fl6.i ty4 rfl 12) (show ivh5 a0 12 = ivn1 a0 12 from fl5.i ty3 rfl 12) (show ivn1 a0 12 = iv a0 12 from by rw [hin1]; exact congrFun (up0_a (ne_in t_a0.1 hqn1)) _) (show (-2147483648) ≤ ivh6 a0 13 ∧ ivh6 a0 13 ≤ 2147483647 from W16.int ty31 13) (show ivh6 a0 13 = ivh5 a0 13 from fl6.i ty4 rfl 13) (show ivh5 a0 13 = ivn1 a0 13 from fl5.i ty3 rfl 13) (show ivn1 a0 13 = iv a0 13 from by rw [hin1]; exact congrFun (up0_a (ne_in t_a0.1 hqn1)) _) (show (-2147483648) ≤ ivh6 a0 14 ∧ ivh6 a0 14 ≤ 2147483647 from W16.int ty31 14) (show ivh6 a0 14 = ivh5 a0 14 from fl6.i ty4 rfl 14) (show ivh5 a0 14 = ivn1 a0 14 from fl5.i ty3 rfl 14) (show ivn1 a0 14 = iv a0 14 from by rw [hin1]; exact congrFun (up0_a (ne_in t_a0.1 hqn1)) _) (show (-2147483648) ≤ ivh6 a0 15 ∧ ivh6 a0 15 ≤ 2147483647 from W16.int ty31 15) (show ivh6 a0 15 = ivh5 a0 15 from fl6.i ty4 rfl 15) (show ivh5 a0 15 = ivn1 a0 15 from fl5.i ty3 rfl 15) (show ivn1 a0 15 = iv a0 15 from by rw [hin1]; exact congrFun (up0_a (ne_in t_a0.1 hqn1)) _) (show (-2147483648) ≤ ivh6 a0 16 ∧ ivh6 a0 16 ≤ 2147483647 from W16.int ty31 16) (show ivh6 a0 16 = ivh5 a0 16 from fl6.i ty4 rfl 16) (show ivh5 a0 16 = ivn1 a0 16 from fl5.i ty3 rfl 16) (show ivn1 a0 16 = iv a0 16 from by rw [hin1]; exact congrFun (up0_a (ne_in t_a0.1 hqn1)) _) (F11.call X3 fl11 rfl) (MRK.call mr13 W16 sk3 XT.refl fl11 rfl rfl) (kp11.call tx8 W16 fl11 rfl) (fun ri43 ie95 ie96 ie97 ri44 ie98 ie99 ie100 ri45 ie101 ie102 ie103 ri46 ie104 ie105 ie106 ri47 ie107 ie108 ie109 ri48 ie110 ie111 ie112 F12 mr14 kp12 => ?_)
                refine c_st (st2 := [.int (iI f11)]) rfl ?_
                refine hv24 (show ivh11 a0 11 = ivh6 a0 11 from kp11f11) (show ivh11 a0 12 = ivh6 a0 12 from kp12f11) (show ivh11 a0 13 = ivh6 a0 13 from kp13f11) (show ivh11 a0 14 = ivh6 a0 14 from kp14f11) (show ivh11 a0 15 = ivh6 a0 15 from kp15f11) (show ivh11 a0 16 = ivh6 a0 16 from kp16f11) (show f11 = (ivh6 (sk 2) 2) from exf11) (show 1 ≤ ivh11 a0 11 ∧ ivh11 a0 11 ≤ 100 from W17.int ty31 11) (show 1 ≤ ivh11 a0 12 ∧ ivh11 a0 12 ≤ 50 from W17.int ty31 12) (show (-2147483648) ≤ ivh11 a0 13 ∧ ivh11 a0 13 ≤ 2147483647 from W17.int ty31 13) (show (-2147483648) ≤ ivh11 a0 14 ∧ ivh11 a0 14 ≤ 2147483647 from W17.int ty31 14) (show (-2147483648) ≤ ivh11 a0 15 ∧ ivh11 a0 15 ≤ 2147483647 from W17.int ty31 15) (show (-2147483648) ≤ ivh11 a0 16 ∧ ivh11 a0 16 ≤ 2147483647 from W17.int ty31 16) (show 0 ≤ ivh11 (sk 23) 2 ∧ ivh11 (sk 23) 2 ≤ 512 from W17.int ty29 2) (show ivh11 (sk 23) 2 = ivh6 (sk 23) 2 from fl11.i ty29 rfl 2) (xl7.ty ty24) (show ivh6 (sk 22) 2 = ivh5 (sk 22) 2 from fl6.i ty24 rfl 2) (show ivh5 (sk 22) 2 = ivn1 (sk 22) 2 from fl5.i ty23 rfl 2) (show ivn1 (sk 22) 2 = iv (sk 22) 2 from by rw [hin1]; exact congrFun (up0_a (ne_in tsk22.1 hqn1)) _) (show 0 ≤ ivh11 (sk 2) 2 ∧ ivh11 (sk 2) 2 ≤ 3000 from W17.int ty32 2) (show ivh11 (sk 2) 2 = ivh6 (sk 2) 2 from fl11.i ty32 rfl 2) (xl7.ty tqr1) (show ivh6 qn1 0 = ivh5 qn1 0 from fl6.i tqr1 rfl 0) (show rvh6 qn1 1 = rvh5 qn1 1 from (fl6.r tqr1 rfl 1)) (fun gk11f11 gk12f11 gk13f11 gk14f11 gk15f11 gk16f11 gf11 ri49 ri50 ri51 ri52 ri53 ri54 ri55 ie119 ty110 ie121 ie122 ie123 ri57 ie124 ty111 ie126 re24 => ?_)
                refine hv4 (show 0 ≤ ivh11 (sk 22) 2 ∧ ivh11 (sk 22) 2 ≤ 30 from W17.int ty110 2) (show ivh11 (sk 22) 2 = ivh6 (sk 22) 2 from fl11.i ty110 rfl 2) (show (-2147483648) ≤ ivh11 qn1 0 ∧ ivh11 qn1 0 ≤ 2147483647 from W17.int ty111 0) (show ivh11 qn1 0 = ivh6 qn1 0 from fl11.i ty111 rfl 0) (fun ri56 ie120 ri58 ie125 => ?_)
                rw [exf5r] at re24
                have re25 : rv2 qn1 1 = rvh6 qn1 1 := (by rw [pq2]; exact congrFun (upr_a (ne_ty ty111 ty109 (by decide))) _)
                rw [re24] at re25
                have re26 : rvh6 qn1 2 = rvh5 qn1 2 := (fl6.r tqr1 rfl 2)
                rw [exf5p] at re26
                have re27 : rv2 qn1 2 = rvh6 qn1 2 := (by rw [pq2]; exact congrFun (upr_a (ne_ty ty111 ty109 (by decide))) _)
                rw [re26] at re27
                refine hv4 (show 0 ≤ ivh11 qn1 3 ∧ ivh11 qn1 3 ≤ 5 from W17.int ty111 3) (show ivh11 qn1 3 = ivh6 qn1 3 from fl11.i ty111 rfl 3) (show ivh6 qn1 3 = ivh5 qn1 3 from fl6.i tqr1 rfl 3) (show rv2 n6 j.toNat = none from by rw [pq2]; exact upr_s) (fun ri59 ie127 ie128 rp2 => ?_)
                exact c_iret C dX11_changeIndicator_154 rfl (by decide) (rom0 hph pl8 (by decide)) ⟨f11, rfl, X3, F12, W17, ⟨by omega, by omega⟩, ⟨(by omega), mr14⟩, (gk11f11.trans (ie95.trans (ie96.trans ie97))), (gk12f11.trans (ie98.trans (ie99.trans ie100))), (gk13f11.trans (ie101.trans (ie102.trans ie103))), (gk14f11.trans (ie104.trans (ie105.trans ie106))), (gk15f11.trans (ie107.trans (ie108.trans ie109))), (gk16f11.trans (ie110.trans (ie111.trans ie112))), (Or.inr ⟨by omega, ob1, akob1.2, (fun ss hs hd => by
                    have e2 := irxf4 ss hs (by omega) hd
                    have e3 := e2.mp (by omega)
                    rw [Int.sub_zero] at e3
                    exact ⟨⟨by omega, by omega, gf3.mp (by omega), by omega⟩, e3.2⟩), by omega, ⟨(fun i hi => el_fr hW (tysk22 hS) rfl rfl F12 rfl rfl hi), TSF.of hW hS (fun bb tbb hbb => by have tb1 := xl5.ty tbb; have tb2 := ty_rt tb1 hcr1 (ne_ty tb1 tqn1 (by decide)); have tb3 := xl7.ty tb2; exact (Eq.trans (show ivh11 bb 7 = ivh6 bb 7 from (fl11.i tb3 rfl 7)) (Eq.trans (show ivh6 bb 7 = ivh5 bb 7 from (fl6.i tb2 rfl 7)) (Eq.trans (show ivh5 bb 7 = ivn1 bb 7 from (fl5.i tb1 rfl 7)) (show ivn1 bb 7 = iv bb 7 from (by rw [hin1]; exact congrFun (up0_a (ne_in tbb.1 hqn1)) _)))))) (fun bb tbb => by have tb1 := xl5.ty tbb; have tb2 := ty_rt tb1 hcr1 (ne_ty tb1 tqn1 (by decide)); have tb3 := xl7.ty tb2; exact (Eq.trans (show ivh11 bb 0 = ivh6 bb 0 from (fl11.i tb3 rfl 0)) (Eq.trans (show ivh6 bb 0 = ivh5 bb 0 from (fl6.i tb2 rfl 0)) (Eq.trans (show ivh5 bb 0 = ivn1 bb 0 from (fl5.i tb1 rfl 0)) (show ivn1 bb 0 = iv bb 0 from (by rw [hin1]; exact congrFun (up0_a (ne_in tbb.1 hqn1)) _)))))) (fun bb tbb => by have tb1 := xl5.ty tbb; have tb2 := ty_rt tb1 hcr1 (ne_ty tb1 tqn1 (by decide)); have tb3 := xl7.ty tb2; exact (Eq.trans (show ivh11 bb 1 = ivh6 bb 1 from (fl11.i tb3 rfl 1)) (Eq.trans (show ivh6 bb 1 = ivh5 bb 1 from (fl6.i tb2 rfl 1)) (Eq.trans (show ivh5 bb 1 = ivn1 bb 1 from (fl5.i tb1 rfl 1)) (show ivn1 bb 1 = iv bb 1 from (by rw [hin1]; exact congrFun (up0_a (ne_in tbb.1 hqn1)) _)))))) (fun bb tbb => by have tb1 := xl5.ty tbb; have tb2 := ty_rt tb1 hcr1 (ne_ty tb1 tqn1 (by decide)); have tb3 := xl7.ty tb2; exact (Eq.trans (show rv2 bb 4 = rvh6 bb 4 from (by rw [pq2]; exact congrFun (upr_a (ne_ty tb3 ty109 (by decide))) _)) (Eq.trans (show rvh6 bb 4 = rvh5 bb 4 from (fl6.r tb2 rfl 4)) (Eq.trans (show rvh5 bb 4 = rvn1 bb 4 from (fl5.r tb1 rfl 4)) (show rvn1 bb 4 = rv bb 4 from (by rw [hrn1]; exact congrFun (up0_a (ne_in tbb.1 hqn1)) _)))))), TSQ.of hW hS (fun bb tbb hbb => by have tb1 := xl5.ty tbb; have tb2 := ty_rt tb1 hcr1 (ne_ty tb1 tqn1 (by decide)); have tb3 := xl7.ty tb2; exact (Eq.trans (show ivh11 bb 2 = ivh6 bb 2 from (fl11.i tb3 rfl 2)) (Eq.trans (show ivh6 bb 2 = ivh5 bb 2 from (fl6.i tb2 rfl 2)) (Eq.trans (show ivh5 bb 2 = ivn1 bb 2 from (fl5.i tb1 rfl 2)) (show ivn1 bb 2 = iv bb 2 from (by rw [hin1]; exact congrFun (up0_a (ne_in tbb.1 hqn1)) _))))))⟩, ⟨(by omega), CS0.of hW hS (Int.le_refl _) (fun i hi => ((fun i hi => el_ch W8 (tysk23 sk3) rfl rfl ((show ∀ bb, ty Lh6 clh6 bb 23 → rv2 bb 1 = rvh6 bb 1 from fun bb tbb => by exact (show rv2 bb 1 = rvh6 bb 1 from (by rw [pq2]; exact congrFun (upr_a (ne_ty tbb ty109 (by decide))) _))) (sk 23) (tysk23 sk3)) (fun bb tbb kk => by exact (show rv2 bb kk = rvh6 bb kk from (by rw [pq2]; exact congrFun (upr_a (ne_ty tbb ty109 (by decide))) _))) hi) i (by omega)).trans ((rmef6.2 i (by omega)).trans (ce1 i hi))) (fun bb tbb => by have tb1 := xl5.ty tbb; have tb2 := ty_rt tb1 hcr1 (ne_ty tb1 tqn1 (by decide)); have tb3 := xl7.ty tb2; exact (Eq.trans (show ivh11 bb 0 = ivh6 bb 0 from (fl11.i tb3 rfl 0)) (Eq.trans (show ivh6 bb 0 = ivh5 bb 0 from (fl6.i tb2 rfl 0)) (Eq.trans (show ivh5 bb 0 = ivn1 bb 0 from (fl5.i tb1 rfl 0)) (show ivn1 bb 0 = iv bb 0 from (by rw [hin1]; exact congrFun (up0_a (ne_in tbb.1 hqn1)) _)))))) (fun bb tbb => by have tb1 := xl5.ty tbb; have tb2 := ty_rt tb1 hcr1 (ne_ty tb1 tqn1 (by decide)); have tb3 := xl7.ty tb2; exact (Eq.trans (show rv2 bb 1 = rvh6 bb 1 from (by rw [pq2]; exact congrFun (upr_a (ne_ty tb3 ty109 (by decide))) _)) (Eq.trans (show rvh6 bb 1 = rvh5 bb 1 from (fl6.r tb2 rfl 1)) (Eq.trans (show rvh5 bb 1 = rvn1 bb 1 from (fl5.r tb1 rfl 1)) (show rvn1 bb 1 = rv bb 1 from (by rw [hrn1]; exact congrFun (up0_a (ne_in tbb.1 hqn1)) _)))))), ⟨qn1, (by rw [show (iv (sk 23) 2).toNat = (ivh5 (sk 23) 2).toNat from congrArg Int.toNat (by omega)]; exact ((fun i hi => el_ch W8 (tysk23 sk3) rfl rfl ((show ∀ bb, ty Lh6 clh6 bb 23 → rv2 bb 1 = rvh6 bb 1 from fun bb tbb => by exact (show rv2 bb 1 = rvh6 bb 1 from (by rw [pq2]; exact congrFun (upr_a (ne_ty tbb ty109 (by decide))) _))) (sk 23) (tysk23 sk3)) (fun bb tbb kk => by exact (show rv2 bb kk = rvh6 bb kk from (by rw [pq2]; exact congrFun (upr_a (ne_ty tbb ty109 (by decide))) _))) hi) _ (by omega)).trans rmef6.1), (by omega), re25⟩⟩⟩), (Or.inr ⟨ob1, n6, ⟨akob1.2, hn6, by omega⟩, kp12, Or.inl ⟨by omega, rp2⟩, ⟨(by omega), qn1, (by rw [show (iv (sk 23) 2).toNat = (ivh5 (sk 23) 2).toNat from congrArg Int.toNat (by omega)]; exact ((fun i hi => el_ch W8 (tysk23 sk3) rfl rfl ((show ∀ bb, ty Lh6 clh6 bb 23 → rv2 bb 1 = rvh6 bb 1 from fun bb tbb => by exact (show rv2 bb 1 = rvh6 bb 1 from (by rw [pq2]; exact congrFun (upr_a (ne_ty tbb ty109 (by decide))) _))) (sk 23) (tysk23 sk3)) (fun bb tbb kk => by exact (show rv2 bb kk = rvh6 bb kk from (by rw [pq2]; exact congrFun (upr_a (ne_ty tbb ty109 (by decide))) _))) hi) _ (by omega)).trans rmef6.1), re25, (Eq.trans re27 oi1.symm), (by omega)⟩⟩), (Eq.trans (show rv2 a0 9 = rvh6 a0 9 from (by rw [pq2]; exact congrFun (upr_a (ne_ty ty31 ty109 (by decide))) _)) (Eq.trans (show rvh6 a0 9 = rvh5 a0 9 from (fl6.r ty4 rfl 9)) (Eq.trans (show rvh5 a0 9 = rvn1 a0 9 from (fl5.r ty3 rfl 9)) (show rvn1 a0 9 = rv a0 9 from (by rw [hrn1]; exact congrFun (up0_a (ne_in t_a0.1 hqn1)) _))))), (Eq.trans (show rv2 a0 10 = rvh6 a0 10 from (by rw [pq2]; exact congrFun (upr_a (ne_ty ty31 ty109 (by decide))) _)) (Eq.trans (show rvh6 a0 10 = rvh5 a0 10 from (fl6.r ty4 rfl 10)) (Eq.trans (show rvh5 a0 10 = rvn1 a0 10 from (fl5.r ty3 rfl 10)) (show rvn1 a0 10 = rv a0 10 from (by rw [hrn1]; exact congrFun (up0_a (ne_in t_a0.1 hqn1)) _)))))⟩
            · have tnb1 : ty (L ++ [qn1]) cln1 nb1 20 := tnb1
              refine c_aaldR C dX11_changeIndicator_83 ty2 rfl (by omega) (by omega) (by omega) nq1 ?_
              refine c_st (st2 := [.ref nb1, .ref ob1, .int (iI 4), .ref qn1, .ref qn1, .ref (sk 13)]) rfl ?_
              refine c_iload_n (j := 3) C dX11_changeIndicator_84 rfl ?_
              refine hv2 (Eq.trans ((show ∀ bb, ty L cl bb 68 → ∀ kk, rvn1 bb kk = rv bb kk from fun bb tbb kk => by exact (show rvn1 bb kk = rv bb kk from (by rw [hrn1]; exact congrFun (up0_a (ne_in tbb.1 hqn1)) _))) n6 tn6 j.toNat).symm nq1) (Phi.le W5 sk1) (fun oi2 pl9 => ?_)
              refine c_callI (As := [.int (iI 4), .ref ob1, .ref nb1, .int (iI j)]) (rest := [.ref qn1, .ref (sk 13)]) C hM (Z_change (a0 := qn1) (i := 4) (a2 := ob1) (r := (some nb1)) (n := j) W5 sk1 tqn1 ty1 (fun _ q => by cases q; exact tnb1) ⟨by decide, by decide⟩ (by omega) ) dX11_changeIndicator_85 kI_X11_149 rfl rfl (Nat.le_of_ble_eq_true rfl) ⟨(Nat.le_of_ble_eq_true rfl), (Nat.le_of_ble_eq_true rfl)⟩ (rz1 hph pl9 (by decide)) (fun rh12 Lh12 clh12 lnh12 ivh12 rvh12 h12 => ⟨20, (zk1 (by obtain ⟨_, _, _, e3, flh12x, Wh12x, _⟩ := h12; subst e3; exact Phi.frn sk1 flh12x rfl)), ?_⟩)
              obtain ⟨rfl, rfl, rfl, rfl, fl12, W18, exf12⟩ := h12
              refine hv3 (F2.call X1 fl12 rfl) (MRK.call mr2 W5 sk1 XT.refl fl12 rfl rfl) (TX.xt TX.refl xl5) (fun F13 mr15 tx9 => ?_)
              have kp13 := kp2.call tx9 W5 fl12 rfl
              refine c_st (st2 := [.ref qn1, .ref (sk 13)]) rfl ?_
              obtain ⟨exf12x, exf12r, exf12p, exf12i, exf12j⟩ := exf12
              have rn3 : ∀ k, ([1, 2] : List Nat).contains k = false → rvh12 qn1 k = none := fun k hk => (Eq.trans (show rvh12 qn1 k = rvn1 qn1 k from (exf12x k hk)) (show rvn1 qn1 k = none from (by rw [hrn1]; exact up0_s)))
              refine c_retag (q := qn1) (t := 21) (by rw [tqn1.2]; rfl) (fun clr3 hcr3 => ?_)
              refine hv16 (xl5.ty t_a0) (xl5.ty tsk2) (xl5.ty tsk3) (xl5.ty tsk4) (xl5.ty tsk5) (xl5.ty tsk13) (xl5.ty tsk14) (xl5.ty tsk15) (xl5.ty tsk16) (xl5.ty tsk17) (xl5.ty tsk22) (xl5.ty tsk23) (ty_rt ty1 hcr3 (ne_ty ty1 tqn1 (by decide))) (ty_rt ty2 hcr3 (ne_ty ty2 tqn1 (by decide))) (ty_rt tnb1 hcr3 (ne_ty tnb1 tqn1 (by decide))) (show ty (L ++ [qn1]) clr3 qn1 21 from ⟨tqn1.1, by rw [hcr3, va_up_self]; rfl⟩) (fun ty112 ty114 ty116 ty118 ty120 ty122 ty124 ty126 ty128 ty130 ty132 ty134 ty136 ty137 ty138 tqr3 => ?_)
              refine hv12 (ty_rt ty112 hcr3 (ne_ty ty112 tqn1 (by decide))) (ty_rt ty114 hcr3 (ne_ty ty114 tqn1 (by decide))) (ty_rt ty116 hcr3 (ne_ty ty116 tqn1 (by decide))) (ty_rt ty118 hcr3 (ne_ty ty118 tqn1 (by decide))) (ty_rt ty120 hcr3 (ne_ty ty120 tqn1 (by decide))) (ty_rt ty122 hcr3 (ne_ty ty122 tqn1 (by decide))) (ty_rt ty124 hcr3 (ne_ty ty124 tqn1 (by decide))) (ty_rt ty126 hcr3 (ne_ty ty126 tqn1 (by decide))) (ty_rt ty128 hcr3 (ne_ty ty128 tqn1 (by decide))) (ty_rt ty130 hcr3 (ne_ty ty130 tqn1 (by decide))) (ty_rt ty132 hcr3 (ne_ty ty132 tqn1 (by decide))) (ty_rt ty134 hcr3 (ne_ty ty134 tqn1 (by decide))) (fun ty113 ty115 ty117 ty119 ty121 ty123 ty125 ty127 ty129 ty131 ty133 ty135 => ?_)
              have W19 := W18.retag tqn1.1 (by rw [tqn1.2]; rfl) hcr3 (fun k => by
                    rcases k with _ | _ | _ | _ | k
                    · exact W18.int tqn1 0
                    · exact W18.int tqn1 1
                    · exact W18.int tqn1 2
                    · exact ⟨(by show 0 ≤ ivh12 qn1 3; first | exact bx_lo ‹ivh12 qn1 3 = _› (by decide) | omega), (by show ivh12 qn1 3 ≤ 5; first | exact bx_hi ‹ivh12 qn1 3 = _› (by decide) | omega)⟩
                    · exact W18.int tqn1 (k + 4)) (fun k => by
                    rcases k with _ | _ | _ | _ | k
                    · rw [rn3 0 (by decide)]; exact rok_none tqr3 rfl
                    · rw [exf12r]; exact rok_some tqr3 ty136 rfl (by decide) rfl
                    · rw [exf12p]; exact rok_ch tqr3 (fun _ q => by cases q; exact ty138)
                    · rw [rn3 3 (by decide)]; exact rok_none tqr3 rfl
                    · rw [rn3 (k + 4) (by simp)]; exact rok_none tqr3 rfl) rfl (fun z => by cases z) (fun z => by cases z) rfl
              refine hv8 (X1.rt hcr3 h0qn1) (sk1.rt hcr3 (by rw [tqn1.2]; rfl)) (MRK.rt mr15 W18 sk1 hcr3 (by rw [tqn1.2]; rfl)) (fun b hb => xl5.ty (rgf2 b hb)) (show ∀ i : Nat, (i : Int) < iv (sk 23) 2 → el rvh12 (sk 23) i = el rv (sk 23) i from (fun i hi => el_ch hW (tysk23 hS) rfl rfl ((show ∀ bb, ty L cl bb 23 → rvh12 bb 1 = rv bb 1 from fun bb tbb => by have tb1 := xl5.ty tbb; exact (Eq.trans (show rvh12 bb 1 = rvn1 bb 1 from (fl12.r tb1 rfl 1)) (show rvn1 bb 1 = rv bb 1 from (by rw [hrn1]; exact congrFun (up0_a (ne_in tbb.1 hqn1)) _)))) (sk 23) (tysk23 hS)) (fun bb tbb kk => by have tb1 := xl5.ty tbb; exact (Eq.trans (show rvh12 bb kk = rvn1 bb kk from (fl12.r tb1 rfl kk)) (show rvn1 bb kk = rv bb kk from (by rw [hrn1]; exact congrFun (up0_a (ne_in tbb.1 hqn1)) _)))) hi)) (show 0 ≤ ivh12 (sk 23) 2 ∧ ivh12 (sk 23) 2 ≤ 512 from W19.int ty135 2) (show ivh12 (sk 23) 2 = ivn1 (sk 23) 2 from fl12.i ty134 rfl 2) (show ivn1 (sk 23) 2 = iv (sk 23) 2 from by rw [hin1]; exact congrFun (up0_a (ne_in tsk23.1 hqn1)) _) (fun X8 sk8 mr16 on8 ce2 ri60 ie129 ie130 => ?_)
              refine hv2 (fun b hb => ty_rt (on8 b hb) hcr3 (ne_ty (on8 b hb) tqn1 (by decide))) (Phi.le W19 sk8) (fun on9 pl10 => ?_)
              refine d_callV (As := [.ref qn1]) (rest := []) C hM (C_remember (a0 := (sk 13)) (a1 := qn1) W19 sk8 ty123 tqr3  (by show ivh12 (sk 23) 2 < 512; omega)) dX11_changeIndicator_88 kV_X11_152 rfl ty123 rfl rfl (by decide) ck_11 rfl (Nat.le_of_ble_eq_true rfl) ⟨(Nat.le_of_ble_eq_true rfl), (Nat.le_of_ble_eq_true rfl)⟩ hph pl10 (show 20 + 1216 = 1236 from rfl) (by decide) (fun rh13 Lh13 clh13 lnh13 ivh13 rvh13 h13 => ?_)
              obtain ⟨rfl, xl15, fl13, W20, exf13, rmef13⟩ := h13
              refine hv5 (F13.call X8 fl13 rfl) (MRK.call mr16 W19 sk8 xl15 fl13 rfl rfl) (TX.rt tx9 hcr3 tqn1 rfl) (X8.trans xl15) (xl15.skl sk8) (fun F14 mr17 tx10 X9 sk9 => ?_)
              have kp14 := kp13.call tx10 W19 fl13 rfl
              refine c_st (st2 := []) rfl ?_
              refine hv2 (xl15.ty ty135) (show ivh13 (sk 23) 2 = ivh12 (sk 23) 2 + 1 from exf13) (fun ty139 gf13 => ?_)
              have ri61 : 0 ≤ ivh13 (sk 23) 2 ∧ ivh13 (sk 23) 2 ≤ 512 := W20.int ty139 2
              refine c_aload_n (j := 0) (x := ob1) C dX11_changeIndicator_91 rfl ?_
              refine hv2 (xl15.ty ty136) (show rvh12 ob1 6 = rvn1 ob1 6 from (fl12.r ty1 rfl 6)) (fun ty140 re28 => ?_)
              rw [re1] at re28
              have re29 : rvh13 ob1 6 = rvh12 ob1 6 := (fl13.r ty136 rfl 6)
              rw [re28] at re29
              refine c_getr (k := 6) C ck_10 dX11_changeIndicator_92 w2_196 (by decide) ty140 rfl rfl (by decide) rfl re29 ?_
              refine c_st (st2 := [.ref n6]) rfl ?_
              refine c_iload_n (j := 3) C dX11_changeIndicator_95 rfl ?_
              refine c_aload_n (j := 1) (x := a0) C dX11_changeIndicator_96 rfl ?_
              have ty141 := xl15.ty ty113
              obtain ⟨rb3, rq3, trb3⟩ := W20.ref ty141 0 rfl rfl rfl
              have erb3 := W20.sk trb3 (by decide) rfl
              subst erb3
              refine c_getr (k := 0) C ck_12 dX11_changeIndicator_97 w2_44 (by decide) ty141 rfl rfl (by decide) rfl rq3 ?_
              refine c_st (st2 := [.ref (sk 2), .int (iI j), .ref n6]) rfl ?_
              refine hv4 (xl15.ty ty115) (show ivh13 (sk 2) 2 = ivh12 (sk 2) 2 from fl13.i ty115 rfl 2) (show ivh12 (sk 2) 2 = ivn1 (sk 2) 2 from fl12.i ty114 rfl 2) (show ivn1 (sk 2) 2 = iv (sk 2) 2 from by rw [hin1]; exact congrFun (up0_a (ne_in tsk2.1 hqn1)) _) (fun ty142 ie132 ie133 ie134 => ?_)
              have ri62 : 0 ≤ ivh13 (sk 2) 2 ∧ ivh13 (sk 2) 2 ≤ 3000 := W20.int ty142 2
              refine c_get (k := 2) C ck_2 dX11_changeIndicator_100 w1_44 (by decide) ty142 rfl rfl (by decide) rfl ?_
              refine c_if_ne (tgt := 110) C (r32_c (lo := 0) (hi := 3000) ri62.1 ri62.2 (by decide) (by decide)) dX11_changeIndicator_103 (by decide) (fun c6 => ?_) (fun c6 => ?_)
              · have ty143 := xl15.ty ty117
                refine hv12 (xl15.ty ty119) (xl15.ty ty121) (xl15.ty ty123) (xl15.ty ty125) (xl15.ty ty127) (xl15.ty ty129) (xl15.ty ty131) (xl15.ty ty133) (xl15.ty ty137) (xl15.ty tqr3) (xl15.ty ty138) (Phi.le W20 sk9) (fun ty144 ty145 ty146 ty147 ty148 ty149 ty150 ty151 ty152 ty153 ty154 pl11 => ?_)
                refine c_new C ck_6 dv_6 ⟨rfl, rfl⟩ rfl (by decide) dX11_changeIndicator_110 w3_125 w3_126 w1_21 (rom2 hph pl11 (by decide)) (fun qn3 cln3 lnn3 ivn3 rvn3 hqn3 hcn3 hln3 hin3 hrn3 => ⟨1256, (p_in (Phi.new W20 sk9 hqn3 (fun b _ => by rw [hln3]) hrn3) (by omega)), ?_⟩)
                refine c_g0 C (fun hg3 => ?_)
                refine hv5 (show ∀ b, b ≠ qn3 → lnn3 b = lnh13 b from (fun b _ => by rw [hln3])) (F14.new X9 hqn3 hin3 hrn3) (show ty (Lh13 ++ [qn3]) cln3 qn3 206 from ty_new hcn3) (TX.xt tx10 xl15) (show qn3 ∉ L from fun h => hqn3 ((X9 qn3 h).1)) (fun hxn3 F15 tqn3 tx11 h0qn3 => ?_)
                refine hv3 (W20.new (ln2 := lnn3) hqn3 (hg3 qn3 (List.mem_append_right _ List.mem_cons_self)) hcn3 hxn3 hin3 hrn3 (fun _ => ⟨(show (-2147483648 : Int) ≤ 0 by decide), (show (0 : Int) ≤ 2147483647 by decide)⟩) (Or.inl rfl) (fun q => by cases q) rfl rfl) (XT.new hqn3 hcn3 hxn3) (kp14.new tx11 W20 hqn3 hin3 hrn3) (fun W21 xl16 kp15 => ?_)
                refine hv3 (X9.trans xl16) (xl16.skl sk9) (MRK.call mr17 W20 sk9 xl16 ((fT.refl (ls := [])).new (XT.refl (ln := lnh13)) hqn3 hin3 hrn3) rfl rfl) (fun X10 sk10 mr18 => ?_)
                refine c_dup C dX11_changeIndicator_113 rfl ?_
                refine c_iload_n (j := 3) C dX11_changeIndicator_114 rfl ?_
                refine c_aload_n (j := 1) (x := a0) C dX11_changeIndicator_115 rfl ?_
                refine hv2 (xl16.ty ty141) (show rvn3 a0 0 = rvh13 a0 0 from (by rw [hrn3]; exact congrFun (up0_a (ne_in ty141.1 hqn3)) _)) (fun ty155 re30 => ?_)
                rw [rq3] at re30
                refine c_getr (k := 0) C ck_12 dX11_changeIndicator_116 w2_44 (by decide) ty155 rfl rfl (by decide) rfl re30 ?_
                refine c_st (st2 := [.ref (sk 2), .int (iI j), .ref qn3, .ref qn3, .int (iI j), .ref n6]) rfl ?_
                refine c_iconst C dX11_changeIndicator_119 ?_
                refine c_iconst C dX11_changeIndicator_120 ?_
                refine hv2 (xl16.ty ty142) (Phi.le W21 sk10) (fun ty156 pl12 => ?_)
                refine d_callV (As := [.int (iI 0), .int (iI 0)]) (rest := [.int (iI j), .ref qn3, .ref qn3, .int (iI j), .ref n6]) C hM (C_slice_65 (a0 := (sk 2)) (i := 0) (j := 0) W21 sk10 ty156 ⟨by decide, by decide⟩ ⟨by decide, by decide⟩ (by show 0 ≤ (0 : Int) ∧ (0 : Int) ≤ 3000 ∧ 0 ≤ (0 : Int) - (0 : Int) ∧ (0 : Int) - (0 : Int) ≤ 8; omega)) dX11_changeIndicator_121 kV_X11_190 rfl ty156 rfl rfl (by decide) ck_2 rfl (Nat.le_of_ble_eq_true rfl) ⟨(Nat.le_of_ble_eq_true rfl), (Nat.le_of_ble_eq_true rfl)⟩ hph pl12 (show 1256 + 24 = 1280 from rfl) (by decide) (fun rh14 Lh14 clh14 lnh14 ivh14 rvh14 h14 => ?_)
                obtain ⟨f14, rfl, xl17, fl14, W22, rgf14, exf14, slnf14⟩ := h14
                refine hv19 (F15.call X10 fl14 rfl) (MRK.call mr18 W21 sk10 xl17 fl14 rfl rfl) (TX.xt tx11 xl16) (xl16.ty ty143) (xl16.ty ty144) (xl16.ty ty145) (xl16.ty ty146) (xl16.ty ty147) (xl16.ty ty148) (xl16.ty ty149) (xl16.ty ty150) (xl16.ty ty151) (xl16.ty ty139) (xl16.ty ty140) (xl16.ty ty152) (xl16.ty ty153) (xl16.ty ty154) (X10.trans xl17) (xl17.skl sk10) (fun F16 mr19 tx12 ty157 ty158 ty159 ty160 ty161 ty162 ty163 ty164 ty165 ty166 ty167 ty168 ty169 ty170 X11 sk11 => ?_)
                have kp16 := kp15.trans tx12 (KP.sl W21 fl14 (by decide) slnf14.2.1)
                refine c_st (st2 := [.ref f14, .int (iI j), .ref qn3, .ref qn3, .int (iI j), .ref n6]) rfl ?_
                have gf14 : lnh14 f14 = ((0 : Int) - (0 : Int)).toNat := exf14
                refine c_aload_n (j := 1) (x := a0) C dX11_changeIndicator_124 rfl ?_
                refine hv2 (xl17.ty ty155) (show rvh14 a0 0 = rvn3 a0 0 from (fl14.r ty155 rfl 0)) (fun ty171 re31 => ?_)
                rw [re30] at re31
                refine c_getr (k := 0) C ck_12 dX11_changeIndicator_125 w2_44 (by decide) ty171 rfl rfl (by decide) rfl re31 ?_
                refine c_st (st2 := [.ref (sk 2), .ref f14, .int (iI j), .ref qn3, .ref qn3, .int (iI j), .ref n6]) rfl ?_
                refine c_iconst C dX11_changeIndicator_128 ?_
                refine c_aload_n (j := 1) (x := a0) C dX11_changeIndicator_129 rfl ?_
                refine c_getr (k := 0) C ck_12 dX11_changeIndicator_130 w2_44 (by decide) ty171 rfl rfl (by decide) rfl re31 ?_
                refine c_st (st2 := [.ref (sk 2), .int (iI 0), .ref (sk 2), .ref f14, .int (iI j), .ref qn3, .ref qn3, .int (iI j), .ref n6]) rfl ?_
                refine hv3 (xl17.ty ty156) (show ivh14 (sk 2) 2 = ivn3 (sk 2) 2 from fl14.i ty156 rfl 2) (show ivn3 (sk 2) 2 = ivh13 (sk 2) 2 from by rw [hin3]; exact congrFun (up0_a (ne_in ty142.1 hqn3)) _) (fun ty172 ie135 ie136 => ?_)
                have ri63 : 0 ≤ ivh14 (sk 2) 2 ∧ ivh14 (sk 2) 2 ≤ 3000 := W22.int ty172 2
                refine c_get (k := 2) C ck_2 dX11_changeIndicator_133 w1_44 (by decide) ty172 rfl rfl (by decide) rfl ?_
                have pl13 := Phi.le W22 sk11
                refine d_callV (As := [.int (iI 0), .int (iI (ivh14 (sk 2) 2))]) (rest := [.ref f14, .int (iI j), .ref qn3, .ref qn3, .int (iI j), .ref n6]) C hM (C_slice_66 (a0 := (sk 2)) (i := 0) (j := ivh14 (sk 2) 2) W22 sk11 ty172 ⟨by decide, by decide⟩ (by omega) (by show 0 ≤ (0 : Int) ∧ (0 : Int) ≤ 3000 ∧ 1 ≤ (ivh14 (sk 2) 2) - (0 : Int) ∧ (ivh14 (sk 2) 2) - (0 : Int) ≤ 4; omega)) dX11_changeIndicator_136 kV_X11_190 rfl ty172 rfl rfl (by decide) ck_2 rfl (Nat.le_of_ble_eq_true rfl) ⟨(Nat.le_of_ble_eq_true rfl), (Nat.le_of_ble_eq_true rfl)⟩ hph pl13 (show 1280 + 20 = 1300 from rfl) (by decide) (fun rh15 Lh15 clh15 lnh15 ivh15 rvh15 h15 => ?_)
                obtain ⟨f15, rfl, xl18, fl15, W23, rgf15, exf15, slnf15⟩ := h15
                refine hv20 (F16.call X11 fl15 rfl) (MRK.call mr19 W22 sk11 xl18 fl15 rfl rfl) (TX.xt tx12 xl17) (xl17.ty ty157) (xl17.ty ty158) (xl17.ty ty159) (xl17.ty ty160) (xl17.ty ty161) (xl17.ty ty162) (xl17.ty ty163) (xl17.ty ty164) (xl17.ty ty165) (xl17.ty ty166) (xl17.ty ty167) (xl17.ty ty168) (xl17.ty ty169) (xl17.ty ty170) (xl17.ty tqn3) (X11.trans xl18) (xl18.skl sk11) (fun F17 mr20 tx13 ty173 ty174 ty175 ty176 ty177 ty178 ty179 ty180 ty181 ty182 ty183 ty184 ty185 ty186 ty187 X12 sk12 => ?_)
                have kp17 := kp16.trans tx13 (KP.sl W22 fl15 (by decide) slnf15.2.1)
                refine c_st (st2 := [.ref f15, .ref f14, .int (iI j), .ref qn3, .ref qn3, .int (iI j), .ref n6]) rfl ?_
                refine hv4 (show lnh15 f15 = ((ivh14 (sk 2) 2) - (0 : Int)).toNat from exf15) (xl18.ty ty187) (xl18.ty rgf14) (Phi.le W23 sk12) (fun gf15 ty188 ty189 pl14 => ?_)
                refine c_callI (As := [.int (iI j), .ref f14, .ref f15]) (rest := [.ref qn3, .int (iI j), .ref n6]) C hM (Z_row (a0 := qn3) (i := j) (a2 := f14) (a3 := f15) W23 sk12 ty188 ty189 rgf15 (by omega) ) dX11_changeIndicator_139 kI_X11_194 rfl rfl (Nat.le_of_ble_eq_true rfl) ⟨(Nat.le_of_ble_eq_true rfl), (Nat.le_of_ble_eq_true rfl)⟩ (rz1 hph pl14 (by decide)) (fun rh16 Lh16 clh16 lnh16 ivh16 rvh16 h16 => ⟨1300, (zk1 (by obtain ⟨_, _, _, e3, flh16x, Wh16x, _⟩ := h16; subst e3; exact Phi.frn sk12 flh16x rfl)), ?_⟩)
                obtain ⟨rfl, rfl, rfl, rfl, fl16, W24, exf16⟩ := h16
                refine hv3 (F17.call X12 fl16 rfl) (MRK.call mr20 W23 sk12 XT.refl fl16 rfl rfl) (TX.xt tx13 xl18) (fun F18 mr21 tx14 => ?_)
                have kp18 := kp17.call tx14 W23 fl16 rfl
                refine c_st (st2 := [.ref qn3, .int (iI j), .ref n6]) rfl ?_
                obtain ⟨exf16x, exf16r, exf16p, exf16i, exf16j⟩ := exf16
                have rn4 : ∀ k, ([1, 2] : List Nat).contains k = false → rvh16 qn3 k = none := fun k hk => (Eq.trans (show rvh16 qn3 k = rvh15 qn3 k from (exf16x k hk)) (Eq.trans (show rvh15 qn3 k = rvh14 qn3 k from (fl15.r ty187 rfl k)) (Eq.trans (show rvh14 qn3 k = rvn3 qn3 k from (fl14.r tqn3 rfl k)) (show rvn3 qn3 k = none from (by rw [hrn3]; exact up0_s)))))
                refine c_retag (q := qn3) (t := 20) (by rw [ty188.2]; rfl) (fun clr4 hcr4 => ?_)
                refine hv19 (xl18.ty ty171) (xl18.ty ty172) (xl18.ty ty173) (xl18.ty ty174) (xl18.ty ty175) (xl18.ty ty176) (xl18.ty ty177) (xl18.ty ty178) (xl18.ty ty179) (xl18.ty ty180) (xl18.ty ty181) (xl18.ty ty182) (xl18.ty ty183) (xl18.ty ty184) (xl18.ty ty185) (xl18.ty ty186) (ty_rt ty189 hcr4 (ne_ty ty189 ty188 (by decide))) (ty_rt rgf15 hcr4 (ne_ty rgf15 ty188 (by decide))) (show ty Lh15 clr4 qn3 20 from ⟨ty188.1, by rw [hcr4, va_up_self]; rfl⟩) (fun ty190 ty192 ty194 ty196 ty198 ty200 ty202 ty204 ty206 ty208 ty210 ty212 ty214 ty216 ty218 ty220 ty222 ty223 tqr4 => ?_)
                refine hv16 (ty_rt ty190 hcr4 (ne_ty ty190 ty188 (by decide))) (ty_rt ty192 hcr4 (ne_ty ty192 ty188 (by decide))) (ty_rt ty194 hcr4 (ne_ty ty194 ty188 (by decide))) (ty_rt ty196 hcr4 (ne_ty ty196 ty188 (by decide))) (ty_rt ty198 hcr4 (ne_ty ty198 ty188 (by decide))) (ty_rt ty200 hcr4 (ne_ty ty200 ty188 (by decide))) (ty_rt ty202 hcr4 (ne_ty ty202 ty188 (by decide))) (ty_rt ty204 hcr4 (ne_ty ty204 ty188 (by decide))) (ty_rt ty206 hcr4 (ne_ty ty206 ty188 (by decide))) (ty_rt ty208 hcr4 (ne_ty ty208 ty188 (by decide))) (ty_rt ty210 hcr4 (ne_ty ty210 ty188 (by decide))) (ty_rt ty212 hcr4 (ne_ty ty212 ty188 (by decide))) (ty_rt ty214 hcr4 (ne_ty ty214 ty188 (by decide))) (ty_rt ty216 hcr4 (ne_ty ty216 ty188 (by decide))) (ty_rt ty218 hcr4 (ne_ty ty218 ty188 (by decide))) (ty_rt ty220 hcr4 (ne_ty ty220 ty188 (by decide))) (fun ty191 ty193 ty195 ty197 ty199 ty201 ty203 ty205 ty207 ty209 ty211 ty213 ty215 ty217 ty219 ty221 => ?_)
                have W25 := W24.retag ty188.1 (by rw [ty188.2]; rfl) hcr4 (fun k => by
                      rcases k with _ | _ | _ | _ | k
                      · exact W24.int ty188 0
                      · exact W24.int ty188 1
                      · exact W24.int ty188 2
                      · exact ⟨(by show 0 ≤ ivh16 qn3 3; first | exact bx_lo ‹ivh16 qn3 3 = _› (by decide) | omega), (by show ivh16 qn3 3 ≤ 5; first | exact bx_hi ‹ivh16 qn3 3 = _› (by decide) | omega)⟩
                      · exact W24.int ty188 (k + 4)) (fun k => by
                      rcases k with _ | _ | _ | _ | k
                      · rw [rn4 0 (by decide)]; exact rok_none tqr4 rfl
                      · rw [exf16r]; exact rok_some tqr4 ty222 rfl (by decide) rfl
                      · rw [exf16p]; exact rok_some tqr4 ty223 rfl (by decide) rfl
                      · rw [rn4 3 (by decide)]; exact rok_none tqr4 rfl
                      · rw [rn4 (k + 4) (by simp)]; exact rok_none tqr4 rfl) rfl (fun z => by cases z) (fun z => by cases z) rfl
                refine hv5 (X12.rt hcr4 h0qn3) (sk12.rt hcr4 (by rw [ty188.2]; rfl)) (MRK.rt mr21 W24 sk12 hcr4 (by rw [ty188.2]; rfl)) (fun b hb => xl15.ty (on9 b hb)) (show 4 ≤ lnh15 n6 ∧ lnh15 n6 ≤ 4 from W25.len ty217 rfl) (fun X13 sk13 mr22 on10 ll4 => ?_)
                have on11 := fun b hb => xl16.ty (on10 b hb)
                have on12 := fun b hb => xl17.ty (on11 b hb)
                have on13 := fun b hb => xl18.ty (on12 b hb)
                have on14 := fun b hb => ty_rt (on13 b hb) hcr4 (ne_ty (on13 b hb) ty188 (by decide))
                refine c_aastR (z := j) C ck_6 dX11_changeIndicator_142 ty217 rfl tqr4 rfl rfl (by decide) (by omega) (by omega) (by omega) (fun rv3 pq3 => ⟨1300, (by rw [Phi.putr sk13 pq3 ty217 rfl]; exact Nat.le_refl _), ?_⟩)
                refine hv4 (W25.putr pq3 ty217 (rok_some ty217 tqr4 rfl (by decide) rfl) rfl (by decide)) (F18.putr X13 pq3 ty217 rfl) (MRK.putr mr22 W25 sk13 pq3 ty217 (by decide) (by decide)) (TX.rt tx14 hcr4 ty188 rfl) (fun W26 F19 mr23 tx15 => ?_)
                have kp19 := kp18.putrI tx15 W25 pq3 ty217 ⟨rfl, rfl⟩
                refine c_aload_n (j := 1) (x := a0) C dX11_changeIndicator_143 rfl ?_
                refine c_aload_n (j := 1) (x := a0) C dX11_changeIndicator_144 rfl ?_
                have re32 : rvh15 a0 0 = rvh14 a0 0 := (fl15.r ty171 rfl 0)
                rw [re31] at re32
                have re33 : rvh16 a0 0 = rvh15 a0 0 := (fl16.r ty190 rfl 0)
                rw [re32] at re33
                have re34 : rv3 a0 0 = rvh16 a0 0 := (by rw [pq3]; exact congrFun (upr_a (ne_ty ty191 ty217 (by decide))) _)
                rw [re33] at re34
                refine c_getr (k := 0) C ck_12 dX11_changeIndicator_145 w2_44 (by decide) ty191 rfl rfl (by decide) rfl re34 ?_
                refine c_st (st2 := [.ref (sk 2), .ref a0]) rfl ?_
                refine hv3 (show 0 ≤ ivh16 (sk 2) 2 ∧ ivh16 (sk 2) 2 ≤ 3000 from W26.int ty193 2) (show ivh16 (sk 2) 2 = ivh15 (sk 2) 2 from fl16.i ty192 rfl 2) (show ivh15 (sk 2) 2 = ivh14 (sk 2) 2 from fl15.i ty172 rfl 2) (fun ri64 ie137 ie138 => ?_)
                refine c_get (k := 2) C ck_2 dX11_changeIndicator_148 w1_44 (by decide) ty193 rfl rfl (by decide) rfl ?_
                have pl15 := Phi.le W26 sk13
                refine d_callV (As := [.int (iI (ivh16 (sk 2) 2))]) (rest := []) C hM (C_done (a0 := a0) (x := ivh16 (sk 2) 2) W26 sk13 ty191 (by omega) ) dX11_changeIndicator_151 kV_X11_109 rfl ty191 rfl rfl (by decide) ck_12 rfl (Nat.le_of_ble_eq_true rfl) ⟨(Nat.le_of_ble_eq_true rfl), (Nat.le_of_ble_eq_true rfl)⟩ hph pl15 (show 1300 + 0 = 1300 from rfl) (by decide) (fun rh17 Lh17 clh17 lnh17 ivh17 rvh17 h17 => ?_)
                obtain ⟨f17, rfl, rfl, rfl, rfl, rfl, fl17, W27, rgf17, exf17, kp11f17, kp12f17, kp13f17, kp14f17, kp15f17, kp16f17⟩ := h17
                refine hv40 (show 1 ≤ ivh16 a0 11 ∧ ivh16 a0 11 ≤ 100 from W26.int ty191 11) (show ivh16 a0 11 = ivh15 a0 11 from fl16.i ty190 rfl 11) (show ivh15 a0 11 = ivh14 a0 11 from fl15.i ty171 rfl 11) (show ivh14 a0 11 = ivn3 a0 11 from fl14.i ty155 rfl 11) (show ivn3 a0 11 = ivh13 a0 11 from by rw [hin3]; exact congrFun (up0_a (ne_in ty141.1 hqn3)) _) (show ivh13 a0 11 = ivh12 a0 11 from fl13.i ty113 rfl 11) (show ivh12 a0 11 = ivn1 a0 11 from fl12.i ty112 rfl 11) (show ivn1 a0 11 = iv a0 11 from by rw [hin1]; exact congrFun (up0_a (ne_in t_a0.1 hqn1)) _) (show 1 ≤ ivh16 a0 12 ∧ ivh16 a0 12 ≤ 50 from W26.int ty191 12) (show ivh16 a0 12 = ivh15 a0 12 from fl16.i ty190 rfl 12) (show ivh15 a0 12 = ivh14 a0 12 from fl15.i ty171 rfl 12) (show ivh14 a0 12 = ivn3 a0 12 from fl14.i ty155 rfl 12) (show ivn3 a0 12 = ivh13 a0 12 from by rw [hin3]; exact congrFun (up0_a (ne_in ty141.1 hqn3)) _) (show ivh13 a0 12 = ivh12 a0 12 from fl13.i ty113 rfl 12) (show ivh12 a0 12 = ivn1 a0 12 from fl12.i ty112 rfl 12) (show ivn1 a0 12 = iv a0 12 from by rw [hin1]; exact congrFun (up0_a (ne_in t_a0.1 hqn1)) _) (show (-2147483648) ≤ ivh16 a0 13 ∧ ivh16 a0 13 ≤ 2147483647 from W26.int ty191 13) (show ivh16 a0 13 = ivh15 a0 13 from fl16.i ty190 rfl 13) (show ivh15 a0 13 = ivh14 a0 13 from fl15.i ty171 rfl 13) (show ivh14 a0 13 = ivn3 a0 13 from fl14.i ty155 rfl 13) (show ivn3 a0 13 = ivh13 a0 13 from by rw [hin3]; exact congrFun (up0_a (ne_in ty141.1 hqn3)) _) (show ivh13 a0 13 = ivh12 a0 13 from fl13.i ty113 rfl 13) (show ivh12 a0 13 = ivn1 a0 13 from fl12.i ty112 rfl 13) (show ivn1 a0 13 = iv a0 13 from by rw [hin1]; exact congrFun (up0_a (ne_in t_a0.1 hqn1)) _) (show (-2147483648) ≤ ivh16 a0 14 ∧ ivh16 a0 14 ≤ 2147483647 from W26.int ty191 14) (show ivh16 a0 14 = ivh15 a0 14 from fl16.i ty190 rfl 14) (show ivh15 a0 14 = ivh14 a0 14 from fl15.i ty171 rfl 14) (show ivh14 a0 14 = ivn3 a0 14 from fl14.i ty155 rfl 14) (show ivn3 a0 14 = ivh13 a0 14 from by rw [hin3]; exact congrFun (up0_a (ne_in ty141.1 hqn3)) _) (show ivh13 a0 14 = ivh12 a0 14 from fl13.i ty113 rfl 14) (show ivh12 a0 14 = ivn1 a0 14 from fl12.i ty112 rfl 14) (show ivn1 a0 14 = iv a0 14 from by rw [hin1]; exact congrFun (up0_a (ne_in t_a0.1 hqn1)) _) (show (-2147483648) ≤ ivh16 a0 15 ∧ ivh16 a0 15 ≤ 2147483647 from W26.int ty191 15) (show ivh16 a0 15 = ivh15 a0 15 from fl16.i ty190 rfl 15) (show ivh15 a0 15 = ivh14 a0 15 from fl15.i ty171 rfl 15) (show ivh14 a0 15 = ivn3 a0 15 from fl14.i ty155 rfl 15) (show ivn3 a0 15 = ivh13 a0 15 from by rw [hin3]; exact congrFun (up0_a (ne_in ty141.1 hqn3)) _) (show ivh13 a0 15 = ivh12 a0 15 from fl13.i ty113 rfl 15) (show ivh12 a0 15 = ivn1 a0 15 from fl12.i ty112 rfl 15) (show ivn1 a0 15 = iv a0 15 from by rw [hin1]; exact congrFun (up0_a (ne_in t_a0.1 hqn1)) _) (fun ri65 ie139 ie140 ie141 ie142 ie143 ie144 ie145 ri66 ie146 ie147 ie148 ie149 ie150 ie151 ie152 ri67 ie153 ie154 ie155 ie156 ie157 ie158 ie159 ri68 ie160 ie161 ie162 ie163 ie164 ie165 ie166 ri69 ie167 ie168 ie169 ie170 ie171 ie172 ie173 => ?_)
                refine hv11 (show (-2147483648) ≤ ivh16 a0 16 ∧ ivh16 a0 16 ≤ 2147483647 from W26.int ty191 16) (show ivh16 a0 16 = ivh15 a0 16 from fl16.i ty190 rfl 16) (show ivh15 a0 16 = ivh14 a0 16 from fl15.i ty171 rfl 16) (show ivh14 a0 16 = ivn3 a0 16 from fl14.i ty155 rfl 16) (show ivn3 a0 16 = ivh13 a0 16 from by rw [hin3]; exact congrFun (up0_a (ne_in ty141.1 hqn3)) _) (show ivh13 a0 16 = ivh12 a0 16 from fl13.i ty113 rfl 16) (show ivh12 a0 16 = ivn1 a0 16 from fl12.i ty112 rfl 16) (show ivn1 a0 16 = iv a0 16 from by rw [hin1]; exact congrFun (up0_a (ne_in t_a0.1 hqn1)) _) (F19.call X13 fl17 rfl) (MRK.call mr23 W26 sk13 XT.refl fl17 rfl rfl) (kp19.call tx15 W26 fl17 rfl) (fun ri70 ie174 ie175 ie176 ie177 ie178 ie179 ie180 F20 mr24 kp20 => ?_)
                refine c_st (st2 := [.int (iI f17)]) rfl ?_
                refine hv38 (show ivh17 a0 11 = ivh16 a0 11 from kp11f17) (show ivh17 a0 12 = ivh16 a0 12 from kp12f17) (show ivh17 a0 13 = ivh16 a0 13 from kp13f17) (show ivh17 a0 14 = ivh16 a0 14 from kp14f17) (show ivh17 a0 15 = ivh16 a0 15 from kp15f17) (show ivh17 a0 16 = ivh16 a0 16 from kp16f17) (show f17 = (ivh16 (sk 2) 2) from exf17) (show 1 ≤ ivh17 a0 11 ∧ ivh17 a0 11 ≤ 100 from W27.int ty191 11) (show 1 ≤ ivh17 a0 12 ∧ ivh17 a0 12 ≤ 50 from W27.int ty191 12) (show (-2147483648) ≤ ivh17 a0 13 ∧ ivh17 a0 13 ≤ 2147483647 from W27.int ty191 13) (show (-2147483648) ≤ ivh17 a0 14 ∧ ivh17 a0 14 ≤ 2147483647 from W27.int ty191 14) (show (-2147483648) ≤ ivh17 a0 15 ∧ ivh17 a0 15 ≤ 2147483647 from W27.int ty191 15) (show (-2147483648) ≤ ivh17 a0 16 ∧ ivh17 a0 16 ≤ 2147483647 from W27.int ty191 16) (show 0 ≤ ivh17 (sk 23) 2 ∧ ivh17 (sk 23) 2 ≤ 512 from W27.int ty213 2) (show ivh17 (sk 23) 2 = ivh16 (sk 23) 2 from fl17.i ty213 rfl 2) (show ivh16 (sk 23) 2 = ivh15 (sk 23) 2 from fl16.i ty212 rfl 2) (show ivh15 (sk 23) 2 = ivh14 (sk 23) 2 from fl15.i ty182 rfl 2) (show ivh14 (sk 23) 2 = ivn3 (sk 23) 2 from fl14.i ty166 rfl 2) (show ivn3 (sk 23) 2 = ivh13 (sk 23) 2 from by rw [hin3]; exact congrFun (up0_a (ne_in ty139.1 hqn3)) _) (show 0 ≤ ivh17 (sk 22) 2 ∧ ivh17 (sk 22) 2 ≤ 30 from W27.int ty211 2) (show ivh17 (sk 22) 2 = ivh16 (sk 22) 2 from fl17.i ty211 rfl 2) (show ivh16 (sk 22) 2 = ivh15 (sk 22) 2 from fl16.i ty210 rfl 2) (show ivh15 (sk 22) 2 = ivh14 (sk 22) 2 from fl15.i ty181 rfl 2) (show ivh14 (sk 22) 2 = ivn3 (sk 22) 2 from fl14.i ty165 rfl 2) (show ivn3 (sk 22) 2 = ivh13 (sk 22) 2 from by rw [hin3]; exact congrFun (up0_a (ne_in ty151.1 hqn3)) _) (show ivh13 (sk 22) 2 = ivh12 (sk 22) 2 from fl13.i ty133 rfl 2) (show ivh12 (sk 22) 2 = ivn1 (sk 22) 2 from fl12.i ty132 rfl 2) (show ivn1 (sk 22) 2 = iv (sk 22) 2 from by rw [hin1]; exact congrFun (up0_a (ne_in tsk22.1 hqn1)) _) (show 0 ≤ ivh17 (sk 2) 2 ∧ ivh17 (sk 2) 2 ≤ 3000 from W27.int ty193 2) (show ivh17 (sk 2) 2 = ivh16 (sk 2) 2 from fl17.i ty193 rfl 2) (show (-2147483648) ≤ ivh17 qn1 0 ∧ ivh17 qn1 0 ≤ 2147483647 from W27.int ty219 0) (show ivh17 qn1 0 = ivh16 qn1 0 from fl17.i ty219 rfl 0) (show ivh16 qn1 0 = ivh15 qn1 0 from fl16.i ty218 rfl 0) (show ivh15 qn1 0 = ivh14 qn1 0 from fl15.i ty185 rfl 0) (show ivh14 qn1 0 = ivn3 qn1 0 from fl14.i ty169 rfl 0) (show ivn3 qn1 0 = ivh13 qn1 0 from by rw [hin3]; exact congrFun (up0_a (ne_in ty153.1 hqn3)) _) (show ivh13 qn1 0 = ivh12 qn1 0 from fl13.i tqr3 rfl 0) (show rvh13 qn1 1 = rvh12 qn1 1 from (fl13.r tqr3 rfl 1)) (fun gk11f17 gk12f17 gk13f17 gk14f17 gk15f17 gk16f17 gf17 ri71 ri72 ri73 ri74 ri75 ri76 ri77 ie187 ie188 ie189 ie190 ie191 ri78 ie192 ie193 ie194 ie195 ie196 ie197 ie198 ie199 ri79 ie200 ri80 ie201 ie202 ie203 ie204 ie205 ie206 re35 => ?_)
                rw [exf12r] at re35
                have re36 : rvn3 qn1 1 = rvh13 qn1 1 := (by rw [hrn3]; exact congrFun (up0_a (ne_in ty153.1 hqn3)) _)
                rw [re35] at re36
                have re37 : rvh14 qn1 1 = rvn3 qn1 1 := (fl14.r ty169 rfl 1)
                rw [re36] at re37
                have re38 : rvh15 qn1 1 = rvh14 qn1 1 := (fl15.r ty185 rfl 1)
                rw [re37] at re38
                have re39 : rvh16 qn1 1 = rvh15 qn1 1 := (fl16.r ty218 rfl 1)
                rw [re38] at re39
                have re40 : rv3 qn1 1 = rvh16 qn1 1 := (by rw [pq3]; exact congrFun (upr_a (ne_ty ty219 ty217 (by decide))) _)
                rw [re39] at re40
                have re41 : rvh13 qn1 2 = rvh12 qn1 2 := (fl13.r tqr3 rfl 2)
                rw [exf12p] at re41
                have re42 : rvn3 qn1 2 = rvh13 qn1 2 := (by rw [hrn3]; exact congrFun (up0_a (ne_in ty153.1 hqn3)) _)
                rw [re41] at re42
                have re43 : rvh14 qn1 2 = rvn3 qn1 2 := (fl14.r ty169 rfl 2)
                rw [re42] at re43
                have re44 : rvh15 qn1 2 = rvh14 qn1 2 := (fl15.r ty185 rfl 2)
                rw [re43] at re44
                have re45 : rvh16 qn1 2 = rvh15 qn1 2 := (fl16.r ty218 rfl 2)
                rw [re44] at re45
                have re46 : rv3 qn1 2 = rvh16 qn1 2 := (by rw [pq3]; exact congrFun (upr_a (ne_ty ty219 ty217 (by decide))) _)
                rw [re45] at re46
                refine hv11 (show 0 ≤ ivh17 qn1 3 ∧ ivh17 qn1 3 ≤ 5 from W27.int ty219 3) (show ivh17 qn1 3 = ivh16 qn1 3 from fl17.i ty219 rfl 3) (show ivh16 qn1 3 = ivh15 qn1 3 from fl16.i ty218 rfl 3) (show ivh15 qn1 3 = ivh14 qn1 3 from fl15.i ty185 rfl 3) (show ivh14 qn1 3 = ivn3 qn1 3 from fl14.i ty169 rfl 3) (show ivn3 qn1 3 = ivh13 qn1 3 from by rw [hin3]; exact congrFun (up0_a (ne_in ty153.1 hqn3)) _) (show ivh13 qn1 3 = ivh12 qn1 3 from fl13.i tqr3 rfl 3) (show rv3 n6 j.toNat = (some qn3) from by rw [pq3]; exact upr_s) (show (-2147483648) ≤ ivh17 qn3 0 ∧ ivh17 qn3 0 ≤ 2147483647 from W27.int tqr4 0) (show ivh17 qn3 0 = ivh16 qn3 0 from fl17.i tqr4 rfl 0) (show rv3 qn3 1 = rvh16 qn3 1 from (by rw [pq3]; exact congrFun (upr_a (ne_ty tqr4 ty217 (by decide))) _)) (fun ri81 ie207 ie208 ie209 ie210 ie211 ie212 rp3 ri82 ie213 re47 => ?_)
                rw [exf16r] at re47
                refine hv2 (show lnh15 f14 = lnh14 f14 from (xl18 f14 rgf14.1).2.2) (show rv3 qn3 2 = rvh16 qn3 2 from (by rw [pq3]; exact congrFun (upr_a (ne_ty tqr4 ty217 (by decide))) _)) (fun le2 re48 => ?_)
                rw [exf16p] at re48
                exact c_iret C dX11_changeIndicator_154 rfl (by decide) (rom0 hph pl15 (by decide)) ⟨f17, rfl, X13, F20, W27, ⟨by omega, by omega⟩, ⟨(by omega), mr24⟩, (gk11f17.trans (ie139.trans (ie140.trans (ie141.trans (ie142.trans (ie143.trans (ie144.trans ie145))))))), (gk12f17.trans (ie146.trans (ie147.trans (ie148.trans (ie149.trans (ie150.trans (ie151.trans ie152))))))), (gk13f17.trans (ie153.trans (ie154.trans (ie155.trans (ie156.trans (ie157.trans (ie158.trans ie159))))))), (gk14f17.trans (ie160.trans (ie161.trans (ie162.trans (ie163.trans (ie164.trans (ie165.trans ie166))))))), (gk15f17.trans (ie167.trans (ie168.trans (ie169.trans (ie170.trans (ie171.trans (ie172.trans ie173))))))), (gk16f17.trans (ie174.trans (ie175.trans (ie176.trans (ie177.trans (ie178.trans (ie179.trans ie180))))))), (Or.inr ⟨by omega, ob1, akob1.2, (fun ss hs hd => by
                    have e2 := irxf4 ss hs (by omega) hd
                    have e3 := e2.mp (by omega)
                    rw [Int.sub_zero] at e3
                    exact ⟨⟨by omega, by omega, gf3.mp (by omega), by omega⟩, e3.2⟩), by omega, ⟨(fun i hi => el_fr hW (tysk22 hS) rfl rfl F20 rfl rfl hi), TSF.of hW hS (fun bb tbb hbb => by have tb1 := xl5.ty tbb; have tb2 := ty_rt tb1 hcr3 (ne_ty tb1 tqn1 (by decide)); have tb3 := xl15.ty tb2; have tb4 := xl16.ty tb3; have tb5 := xl17.ty tb4; have tb6 := xl18.ty tb5; have tb7 := ty_rt tb6 hcr4 (ne_ty tb6 ty188 (by decide)); exact (Eq.trans (show ivh17 bb 7 = ivh16 bb 7 from (fl17.i tb7 rfl 7)) (Eq.trans (show ivh16 bb 7 = ivh15 bb 7 from (fl16.i tb6 rfl 7)) (Eq.trans (show ivh15 bb 7 = ivh14 bb 7 from (fl15.i tb5 rfl 7)) (Eq.trans (show ivh14 bb 7 = ivn3 bb 7 from (fl14.i tb4 rfl 7)) (Eq.trans (show ivn3 bb 7 = ivh13 bb 7 from (by rw [hin3]; exact congrFun (up0_a (ne_in tb3.1 hqn3)) _)) (Eq.trans (show ivh13 bb 7 = ivh12 bb 7 from (fl13.i tb2 rfl 7)) (Eq.trans (show ivh12 bb 7 = ivn1 bb 7 from (fl12.i tb1 rfl 7)) (show ivn1 bb 7 = iv bb 7 from (by rw [hin1]; exact congrFun (up0_a (ne_in tbb.1 hqn1)) _)))))))))) (fun bb tbb => by have tb1 := xl5.ty tbb; have tb2 := ty_rt tb1 hcr3 (ne_ty tb1 tqn1 (by decide)); have tb3 := xl15.ty tb2; have tb4 := xl16.ty tb3; have tb5 := xl17.ty tb4; have tb6 := xl18.ty tb5; have tb7 := ty_rt tb6 hcr4 (ne_ty tb6 ty188 (by decide)); exact (Eq.trans (show ivh17 bb 0 = ivh16 bb 0 from (fl17.i tb7 rfl 0)) (Eq.trans (show ivh16 bb 0 = ivh15 bb 0 from (fl16.i tb6 rfl 0)) (Eq.trans (show ivh15 bb 0 = ivh14 bb 0 from (fl15.i tb5 rfl 0)) (Eq.trans (show ivh14 bb 0 = ivn3 bb 0 from (fl14.i tb4 rfl 0)) (Eq.trans (show ivn3 bb 0 = ivh13 bb 0 from (by rw [hin3]; exact congrFun (up0_a (ne_in tb3.1 hqn3)) _)) (Eq.trans (show ivh13 bb 0 = ivh12 bb 0 from (fl13.i tb2 rfl 0)) (Eq.trans (show ivh12 bb 0 = ivn1 bb 0 from (fl12.i tb1 rfl 0)) (show ivn1 bb 0 = iv bb 0 from (by rw [hin1]; exact congrFun (up0_a (ne_in tbb.1 hqn1)) _)))))))))) (fun bb tbb => by have tb1 := xl5.ty tbb; have tb2 := ty_rt tb1 hcr3 (ne_ty tb1 tqn1 (by decide)); have tb3 := xl15.ty tb2; have tb4 := xl16.ty tb3; have tb5 := xl17.ty tb4; have tb6 := xl18.ty tb5; have tb7 := ty_rt tb6 hcr4 (ne_ty tb6 ty188 (by decide)); exact (Eq.trans (show ivh17 bb 1 = ivh16 bb 1 from (fl17.i tb7 rfl 1)) (Eq.trans (show ivh16 bb 1 = ivh15 bb 1 from (fl16.i tb6 rfl 1)) (Eq.trans (show ivh15 bb 1 = ivh14 bb 1 from (fl15.i tb5 rfl 1)) (Eq.trans (show ivh14 bb 1 = ivn3 bb 1 from (fl14.i tb4 rfl 1)) (Eq.trans (show ivn3 bb 1 = ivh13 bb 1 from (by rw [hin3]; exact congrFun (up0_a (ne_in tb3.1 hqn3)) _)) (Eq.trans (show ivh13 bb 1 = ivh12 bb 1 from (fl13.i tb2 rfl 1)) (Eq.trans (show ivh12 bb 1 = ivn1 bb 1 from (fl12.i tb1 rfl 1)) (show ivn1 bb 1 = iv bb 1 from (by rw [hin1]; exact congrFun (up0_a (ne_in tbb.1 hqn1)) _)))))))))) (fun bb tbb => by have tb1 := xl5.ty tbb; have tb2 := ty_rt tb1 hcr3 (ne_ty tb1 tqn1 (by decide)); have tb3 := xl15.ty tb2; have tb4 := xl16.ty tb3; have tb5 := xl17.ty tb4; have tb6 := xl18.ty tb5; have tb7 := ty_rt tb6 hcr4 (ne_ty tb6 ty188 (by decide)); exact (Eq.trans (show rv3 bb 4 = rvh16 bb 4 from (by rw [pq3]; exact congrFun (upr_a (ne_ty tb7 ty217 (by decide))) _)) (Eq.trans (show rvh16 bb 4 = rvh15 bb 4 from (fl16.r tb6 rfl 4)) (Eq.trans (show rvh15 bb 4 = rvh14 bb 4 from (fl15.r tb5 rfl 4)) (Eq.trans (show rvh14 bb 4 = rvn3 bb 4 from (fl14.r tb4 rfl 4)) (Eq.trans (show rvn3 bb 4 = rvh13 bb 4 from (by rw [hrn3]; exact congrFun (up0_a (ne_in tb3.1 hqn3)) _)) (Eq.trans (show rvh13 bb 4 = rvh12 bb 4 from (fl13.r tb2 rfl 4)) (Eq.trans (show rvh12 bb 4 = rvn1 bb 4 from (fl12.r tb1 rfl 4)) (show rvn1 bb 4 = rv bb 4 from (by rw [hrn1]; exact congrFun (up0_a (ne_in tbb.1 hqn1)) _)))))))))), TSQ.of hW hS (fun bb tbb hbb => by have tb1 := xl5.ty tbb; have tb2 := ty_rt tb1 hcr3 (ne_ty tb1 tqn1 (by decide)); have tb3 := xl15.ty tb2; have tb4 := xl16.ty tb3; have tb5 := xl17.ty tb4; have tb6 := xl18.ty tb5; have tb7 := ty_rt tb6 hcr4 (ne_ty tb6 ty188 (by decide)); exact (Eq.trans (show ivh17 bb 2 = ivh16 bb 2 from (fl17.i tb7 rfl 2)) (Eq.trans (show ivh16 bb 2 = ivh15 bb 2 from (fl16.i tb6 rfl 2)) (Eq.trans (show ivh15 bb 2 = ivh14 bb 2 from (fl15.i tb5 rfl 2)) (Eq.trans (show ivh14 bb 2 = ivn3 bb 2 from (fl14.i tb4 rfl 2)) (Eq.trans (show ivn3 bb 2 = ivh13 bb 2 from (by rw [hin3]; exact congrFun (up0_a (ne_in tb3.1 hqn3)) _)) (Eq.trans (show ivh13 bb 2 = ivh12 bb 2 from (fl13.i tb2 rfl 2)) (Eq.trans (show ivh12 bb 2 = ivn1 bb 2 from (fl12.i tb1 rfl 2)) (show ivn1 bb 2 = iv bb 2 from (by rw [hin1]; exact congrFun (up0_a (ne_in tbb.1 hqn1)) _))))))))))⟩, ⟨(by omega), CS0.of hW hS (Int.le_refl _) (fun i hi => ((fun i hi => el_ch W20 (tysk23 sk9) rfl rfl ((show ∀ bb, ty Lh13 clh13 bb 23 → rv3 bb 1 = rvh13 bb 1 from fun bb tbb => by have tb4 := xl16.ty tbb; have tb5 := xl17.ty tb4; have tb6 := xl18.ty tb5; have tb7 := ty_rt tb6 hcr4 (ne_ty tb6 ty188 (by decide)); exact (Eq.trans (show rv3 bb 1 = rvh16 bb 1 from (by rw [pq3]; exact congrFun (upr_a (ne_ty tb7 ty217 (by decide))) _)) (Eq.trans (show rvh16 bb 1 = rvh15 bb 1 from (fl16.r tb6 rfl 1)) (Eq.trans (show rvh15 bb 1 = rvh14 bb 1 from (fl15.r tb5 rfl 1)) (Eq.trans (show rvh14 bb 1 = rvn3 bb 1 from (fl14.r tb4 rfl 1)) (show rvn3 bb 1 = rvh13 bb 1 from (by rw [hrn3]; exact congrFun (up0_a (ne_in tbb.1 hqn3)) _))))))) (sk 23) (tysk23 sk9)) (fun bb tbb kk => by have tb4 := xl16.ty tbb; have tb5 := xl17.ty tb4; have tb6 := xl18.ty tb5; have tb7 := ty_rt tb6 hcr4 (ne_ty tb6 ty188 (by decide)); exact (Eq.trans (show rv3 bb kk = rvh16 bb kk from (by rw [pq3]; exact congrFun (upr_a (ne_ty tb7 ty217 (by decide))) _)) (Eq.trans (show rvh16 bb kk = rvh15 bb kk from (fl16.r tb6 rfl kk)) (Eq.trans (show rvh15 bb kk = rvh14 bb kk from (fl15.r tb5 rfl kk)) (Eq.trans (show rvh14 bb kk = rvn3 bb kk from (fl14.r tb4 rfl kk)) (show rvn3 bb kk = rvh13 bb kk from (by rw [hrn3]; exact congrFun (up0_a (ne_in tbb.1 hqn3)) _))))))) hi) i (by omega)).trans ((rmef13.2 i (by omega)).trans (ce2 i hi))) (fun bb tbb => by have tb1 := xl5.ty tbb; have tb2 := ty_rt tb1 hcr3 (ne_ty tb1 tqn1 (by decide)); have tb3 := xl15.ty tb2; have tb4 := xl16.ty tb3; have tb5 := xl17.ty tb4; have tb6 := xl18.ty tb5; have tb7 := ty_rt tb6 hcr4 (ne_ty tb6 ty188 (by decide)); exact (Eq.trans (show ivh17 bb 0 = ivh16 bb 0 from (fl17.i tb7 rfl 0)) (Eq.trans (show ivh16 bb 0 = ivh15 bb 0 from (fl16.i tb6 rfl 0)) (Eq.trans (show ivh15 bb 0 = ivh14 bb 0 from (fl15.i tb5 rfl 0)) (Eq.trans (show ivh14 bb 0 = ivn3 bb 0 from (fl14.i tb4 rfl 0)) (Eq.trans (show ivn3 bb 0 = ivh13 bb 0 from (by rw [hin3]; exact congrFun (up0_a (ne_in tb3.1 hqn3)) _)) (Eq.trans (show ivh13 bb 0 = ivh12 bb 0 from (fl13.i tb2 rfl 0)) (Eq.trans (show ivh12 bb 0 = ivn1 bb 0 from (fl12.i tb1 rfl 0)) (show ivn1 bb 0 = iv bb 0 from (by rw [hin1]; exact congrFun (up0_a (ne_in tbb.1 hqn1)) _)))))))))) (fun bb tbb => by have tb1 := xl5.ty tbb; have tb2 := ty_rt tb1 hcr3 (ne_ty tb1 tqn1 (by decide)); have tb3 := xl15.ty tb2; have tb4 := xl16.ty tb3; have tb5 := xl17.ty tb4; have tb6 := xl18.ty tb5; have tb7 := ty_rt tb6 hcr4 (ne_ty tb6 ty188 (by decide)); exact (Eq.trans (show rv3 bb 1 = rvh16 bb 1 from (by rw [pq3]; exact congrFun (upr_a (ne_ty tb7 ty217 (by decide))) _)) (Eq.trans (show rvh16 bb 1 = rvh15 bb 1 from (fl16.r tb6 rfl 1)) (Eq.trans (show rvh15 bb 1 = rvh14 bb 1 from (fl15.r tb5 rfl 1)) (Eq.trans (show rvh14 bb 1 = rvn3 bb 1 from (fl14.r tb4 rfl 1)) (Eq.trans (show rvn3 bb 1 = rvh13 bb 1 from (by rw [hrn3]; exact congrFun (up0_a (ne_in tb3.1 hqn3)) _)) (Eq.trans (show rvh13 bb 1 = rvh12 bb 1 from (fl13.r tb2 rfl 1)) (Eq.trans (show rvh12 bb 1 = rvn1 bb 1 from (fl12.r tb1 rfl 1)) (show rvn1 bb 1 = rv bb 1 from (by rw [hrn1]; exact congrFun (up0_a (ne_in tbb.1 hqn1)) _)))))))))), ⟨qn1, (by rw [show (iv (sk 23) 2).toNat = (ivh12 (sk 23) 2).toNat from congrArg Int.toNat (by omega)]; exact ((fun i hi => el_ch W20 (tysk23 sk9) rfl rfl ((show ∀ bb, ty Lh13 clh13 bb 23 → rv3 bb 1 = rvh13 bb 1 from fun bb tbb => by have tb4 := xl16.ty tbb; have tb5 := xl17.ty tb4; have tb6 := xl18.ty tb5; have tb7 := ty_rt tb6 hcr4 (ne_ty tb6 ty188 (by decide)); exact (Eq.trans (show rv3 bb 1 = rvh16 bb 1 from (by rw [pq3]; exact congrFun (upr_a (ne_ty tb7 ty217 (by decide))) _)) (Eq.trans (show rvh16 bb 1 = rvh15 bb 1 from (fl16.r tb6 rfl 1)) (Eq.trans (show rvh15 bb 1 = rvh14 bb 1 from (fl15.r tb5 rfl 1)) (Eq.trans (show rvh14 bb 1 = rvn3 bb 1 from (fl14.r tb4 rfl 1)) (show rvn3 bb 1 = rvh13 bb 1 from (by rw [hrn3]; exact congrFun (up0_a (ne_in tbb.1 hqn3)) _))))))) (sk 23) (tysk23 sk9)) (fun bb tbb kk => by have tb4 := xl16.ty tbb; have tb5 := xl17.ty tb4; have tb6 := xl18.ty tb5; have tb7 := ty_rt tb6 hcr4 (ne_ty tb6 ty188 (by decide)); exact (Eq.trans (show rv3 bb kk = rvh16 bb kk from (by rw [pq3]; exact congrFun (upr_a (ne_ty tb7 ty217 (by decide))) _)) (Eq.trans (show rvh16 bb kk = rvh15 bb kk from (fl16.r tb6 rfl kk)) (Eq.trans (show rvh15 bb kk = rvh14 bb kk from (fl15.r tb5 rfl kk)) (Eq.trans (show rvh14 bb kk = rvn3 bb kk from (fl14.r tb4 rfl kk)) (show rvn3 bb kk = rvh13 bb kk from (by rw [hrn3]; exact congrFun (up0_a (ne_in tbb.1 hqn3)) _))))))) hi) _ (by omega)).trans rmef13.1), (by omega), re40⟩⟩⟩), (Or.inr ⟨ob1, n6, ⟨akob1.2, hn6, by omega⟩, kp20, Or.inr ⟨qn3, f15, rp3, ⟨tqr4, ⟨by omega, f14, re47, by omega⟩, re48⟩, ty223, by omega, by omega, (fun ss hs kk hk => Eq.trans ((show ∀ bb, ty Lh15 clh15 bb 66 → ivh17 bb kk = ivh15 bb kk from fun bb tbb => by have tb7 := ty_rt tbb hcr4 (ne_ty tbb ty188 (by decide)); exact (Eq.trans (show ivh17 bb kk = ivh16 bb kk from (fl17.i tb7 rfl kk)) (show ivh16 bb kk = ivh15 bb kk from (fl16.i tbb rfl kk)))) f15 rgf15) (Eq.trans (slnf15.2.2 ss (CT.fr hs hW tsk2 F16 rfl rfl rfl rfl rfl) (by omega) kk (by omega)) (congrArg ss (by omega))))⟩, ⟨(by omega), qn1, (by rw [show (iv (sk 23) 2).toNat = (ivh12 (sk 23) 2).toNat from congrArg Int.toNat (by omega)]; exact ((fun i hi => el_ch W20 (tysk23 sk9) rfl rfl ((show ∀ bb, ty Lh13 clh13 bb 23 → rv3 bb 1 = rvh13 bb 1 from fun bb tbb => by have tb4 := xl16.ty tbb; have tb5 := xl17.ty tb4; have tb6 := xl18.ty tb5; have tb7 := ty_rt tb6 hcr4 (ne_ty tb6 ty188 (by decide)); exact (Eq.trans (show rv3 bb 1 = rvh16 bb 1 from (by rw [pq3]; exact congrFun (upr_a (ne_ty tb7 ty217 (by decide))) _)) (Eq.trans (show rvh16 bb 1 = rvh15 bb 1 from (fl16.r tb6 rfl 1)) (Eq.trans (show rvh15 bb 1 = rvh14 bb 1 from (fl15.r tb5 rfl 1)) (Eq.trans (show rvh14 bb 1 = rvn3 bb 1 from (fl14.r tb4 rfl 1)) (show rvn3 bb 1 = rvh13 bb 1 from (by rw [hrn3]; exact congrFun (up0_a (ne_in tbb.1 hqn3)) _))))))) (sk 23) (tysk23 sk9)) (fun bb tbb kk => by have tb4 := xl16.ty tbb; have tb5 := xl17.ty tb4; have tb6 := xl18.ty tb5; have tb7 := ty_rt tb6 hcr4 (ne_ty tb6 ty188 (by decide)); exact (Eq.trans (show rv3 bb kk = rvh16 bb kk from (by rw [pq3]; exact congrFun (upr_a (ne_ty tb7 ty217 (by decide))) _)) (Eq.trans (show rvh16 bb kk = rvh15 bb kk from (fl16.r tb6 rfl kk)) (Eq.trans (show rvh15 bb kk = rvh14 bb kk from (fl15.r tb5 rfl kk)) (Eq.trans (show rvh14 bb kk = rvn3 bb kk from (fl14.r tb4 rfl kk)) (show rvn3 bb kk = rvh13 bb kk from (by rw [hrn3]; exact congrFun (up0_a (ne_in tbb.1 hqn3)) _))))))) hi) _ (by omega)).trans rmef13.1), re40, (Eq.trans re46 oi2.symm), (by omega)⟩⟩), (Eq.trans (show rv3 a0 9 = rvh16 a0 9 from (by rw [pq3]; exact congrFun (upr_a (ne_ty ty191 ty217 (by decide))) _)) (Eq.trans (show rvh16 a0 9 = rvh15 a0 9 from (fl16.r ty190 rfl 9)) (Eq.trans (show rvh15 a0 9 = rvh14 a0 9 from (fl15.r ty171 rfl 9)) (Eq.trans (show rvh14 a0 9 = rvn3 a0 9 from (fl14.r ty155 rfl 9)) (Eq.trans (show rvn3 a0 9 = rvh13 a0 9 from (by rw [hrn3]; exact congrFun (up0_a (ne_in ty141.1 hqn3)) _)) (Eq.trans (show rvh13 a0 9 = rvh12 a0 9 from (fl13.r ty113 rfl 9)) (Eq.trans (show rvh12 a0 9 = rvn1 a0 9 from (fl12.r ty112 rfl 9)) (show rvn1 a0 9 = rv a0 9 from (by rw [hrn1]; exact congrFun (up0_a (ne_in t_a0.1 hqn1)) _))))))))), (Eq.trans (show rv3 a0 10 = rvh16 a0 10 from (by rw [pq3]; exact congrFun (upr_a (ne_ty ty191 ty217 (by decide))) _)) (Eq.trans (show rvh16 a0 10 = rvh15 a0 10 from (fl16.r ty190 rfl 10)) (Eq.trans (show rvh15 a0 10 = rvh14 a0 10 from (fl15.r ty171 rfl 10)) (Eq.trans (show rvh14 a0 10 = rvn3 a0 10 from (fl14.r ty155 rfl 10)) (Eq.trans (show rvn3 a0 10 = rvh13 a0 10 from (by rw [hrn3]; exact congrFun (up0_a (ne_in ty141.1 hqn3)) _)) (Eq.trans (show rvh13 a0 10 = rvh12 a0 10 from (fl13.r ty113 rfl 10)) (Eq.trans (show rvh12 a0 10 = rvn1 a0 10 from (fl12.r ty112 rfl 10)) (show rvn1 a0 10 = rv a0 10 from (by rw [hrn1]; exact congrFun (up0_a (ne_in t_a0.1 hqn1)) _)))))))))⟩
              · refine c_null C dX11_changeIndicator_106 ?_
                refine c_goto (tgt := 142) C dX11_changeIndicator_107 (by decide) ?_
                have ty224 := xl15.ty ty137
                have ll5 : 4 ≤ lnh13 n6 ∧ lnh13 n6 ≤ 4 := W20.len ty224 rfl
                refine c_aastNR (z := j) C dX11_changeIndicator_142 ty224 rfl (by omega) (by omega) (by omega) (fun rv4 pq4 => ⟨1236, (by rw [Phi.putr sk9 pq4 ty224 rfl]; exact Nat.le_refl _), ?_⟩)
                refine hv4 (W20.putr pq4 ty224 (fun _ => ⟨fun _ => by rw [ty224.2]; rfl, fun _ qq => by cases qq⟩) rfl (by decide)) (F14.putr X9 pq4 ty224 rfl) (MRK.putr mr17 W20 sk9 pq4 ty224 (by decide) (by decide)) (TX.xt tx10 xl15) (fun W28 F21 mr25 tx16 => ?_)
                have kp21 := kp14.putrI tx16 W20 pq4 ty224 ⟨rfl, rfl⟩
                refine c_aload_n (j := 1) (x := a0) C dX11_changeIndicator_143 rfl ?_
                refine c_aload_n (j := 1) (x := a0) C dX11_changeIndicator_144 rfl ?_
                have re49 : rv4 a0 0 = rvh13 a0 0 := (by rw [pq4]; exact congrFun (upr_a (ne_ty ty141 ty224 (by decide))) _)
                rw [rq3] at re49
                refine c_getr (k := 0) C ck_12 dX11_changeIndicator_145 w2_44 (by decide) ty141 rfl rfl (by decide) rfl re49 ?_
                refine c_st (st2 := [.ref (sk 2), .ref a0]) rfl ?_
                refine c_get (k := 2) C ck_2 dX11_changeIndicator_148 w1_44 (by decide) ty142 rfl rfl (by decide) rfl ?_
                have pl16 := Phi.le W28 sk9
                refine d_callV (As := [.int (iI (ivh13 (sk 2) 2))]) (rest := []) C hM (C_done (a0 := a0) (x := ivh13 (sk 2) 2) W28 sk9 ty141 (by omega) ) dX11_changeIndicator_151 kV_X11_109 rfl ty141 rfl rfl (by decide) ck_12 rfl (Nat.le_of_ble_eq_true rfl) ⟨(Nat.le_of_ble_eq_true rfl), (Nat.le_of_ble_eq_true rfl)⟩ hph pl16 (show 1236 + 0 = 1236 from rfl) (by decide) (fun rh18 Lh18 clh18 lnh18 ivh18 rvh18 h18 => ?_)
                obtain ⟨f18, rfl, rfl, rfl, rfl, rfl, fl18, W29, rgf18, exf18, kp11f18, kp12f18, kp13f18, kp14f18, kp15f18, kp16f18⟩ := h18
                refine hv27 (show 1 ≤ ivh13 a0 11 ∧ ivh13 a0 11 ≤ 100 from W28.int ty141 11) (show ivh13 a0 11 = ivh12 a0 11 from fl13.i ty113 rfl 11) (show ivh12 a0 11 = ivn1 a0 11 from fl12.i ty112 rfl 11) (show ivn1 a0 11 = iv a0 11 from by rw [hin1]; exact congrFun (up0_a (ne_in t_a0.1 hqn1)) _) (show 1 ≤ ivh13 a0 12 ∧ ivh13 a0 12 ≤ 50 from W28.int ty141 12) (show ivh13 a0 12 = ivh12 a0 12 from fl13.i ty113 rfl 12) (show ivh12 a0 12 = ivn1 a0 12 from fl12.i ty112 rfl 12) (show ivn1 a0 12 = iv a0 12 from by rw [hin1]; exact congrFun (up0_a (ne_in t_a0.1 hqn1)) _) (show (-2147483648) ≤ ivh13 a0 13 ∧ ivh13 a0 13 ≤ 2147483647 from W28.int ty141 13) (show ivh13 a0 13 = ivh12 a0 13 from fl13.i ty113 rfl 13) (show ivh12 a0 13 = ivn1 a0 13 from fl12.i ty112 rfl 13) (show ivn1 a0 13 = iv a0 13 from by rw [hin1]; exact congrFun (up0_a (ne_in t_a0.1 hqn1)) _) (show (-2147483648) ≤ ivh13 a0 14 ∧ ivh13 a0 14 ≤ 2147483647 from W28.int ty141 14) (show ivh13 a0 14 = ivh12 a0 14 from fl13.i ty113 rfl 14) (show ivh12 a0 14 = ivn1 a0 14 from fl12.i ty112 rfl 14) (show ivn1 a0 14 = iv a0 14 from by rw [hin1]; exact congrFun (up0_a (ne_in t_a0.1 hqn1)) _) (show (-2147483648) ≤ ivh13 a0 15 ∧ ivh13 a0 15 ≤ 2147483647 from W28.int ty141 15) (show ivh13 a0 15 = ivh12 a0 15 from fl13.i ty113 rfl 15) (show ivh12 a0 15 = ivn1 a0 15 from fl12.i ty112 rfl 15) (show ivn1 a0 15 = iv a0 15 from by rw [hin1]; exact congrFun (up0_a (ne_in t_a0.1 hqn1)) _) (show (-2147483648) ≤ ivh13 a0 16 ∧ ivh13 a0 16 ≤ 2147483647 from W28.int ty141 16) (show ivh13 a0 16 = ivh12 a0 16 from fl13.i ty113 rfl 16) (show ivh12 a0 16 = ivn1 a0 16 from fl12.i ty112 rfl 16) (show ivn1 a0 16 = iv a0 16 from by rw [hin1]; exact congrFun (up0_a (ne_in t_a0.1 hqn1)) _) (F21.call X9 fl18 rfl) (MRK.call mr25 W28 sk9 XT.refl fl18 rfl rfl) (kp21.call tx16 W28 fl18 rfl) (fun ri83 ie214 ie215 ie216 ri84 ie217 ie218 ie219 ri85 ie220 ie221 ie222 ri86 ie223 ie224 ie225 ri87 ie226 ie227 ie228 ri88 ie229 ie230 ie231 F22 mr26 kp22 => ?_)
                refine c_st (st2 := [.int (iI f18)]) rfl ?_
                refine hv24 (show ivh18 a0 11 = ivh13 a0 11 from kp11f18) (show ivh18 a0 12 = ivh13 a0 12 from kp12f18) (show ivh18 a0 13 = ivh13 a0 13 from kp13f18) (show ivh18 a0 14 = ivh13 a0 14 from kp14f18) (show ivh18 a0 15 = ivh13 a0 15 from kp15f18) (show ivh18 a0 16 = ivh13 a0 16 from kp16f18) (show f18 = (ivh13 (sk 2) 2) from exf18) (show 1 ≤ ivh18 a0 11 ∧ ivh18 a0 11 ≤ 100 from W29.int ty141 11) (show 1 ≤ ivh18 a0 12 ∧ ivh18 a0 12 ≤ 50 from W29.int ty141 12) (show (-2147483648) ≤ ivh18 a0 13 ∧ ivh18 a0 13 ≤ 2147483647 from W29.int ty141 13) (show (-2147483648) ≤ ivh18 a0 14 ∧ ivh18 a0 14 ≤ 2147483647 from W29.int ty141 14) (show (-2147483648) ≤ ivh18 a0 15 ∧ ivh18 a0 15 ≤ 2147483647 from W29.int ty141 15) (show (-2147483648) ≤ ivh18 a0 16 ∧ ivh18 a0 16 ≤ 2147483647 from W29.int ty141 16) (show 0 ≤ ivh18 (sk 23) 2 ∧ ivh18 (sk 23) 2 ≤ 512 from W29.int ty139 2) (show ivh18 (sk 23) 2 = ivh13 (sk 23) 2 from fl18.i ty139 rfl 2) (xl15.ty ty133) (show ivh13 (sk 22) 2 = ivh12 (sk 22) 2 from fl13.i ty133 rfl 2) (show ivh12 (sk 22) 2 = ivn1 (sk 22) 2 from fl12.i ty132 rfl 2) (show ivn1 (sk 22) 2 = iv (sk 22) 2 from by rw [hin1]; exact congrFun (up0_a (ne_in tsk22.1 hqn1)) _) (show 0 ≤ ivh18 (sk 2) 2 ∧ ivh18 (sk 2) 2 ≤ 3000 from W29.int ty142 2) (show ivh18 (sk 2) 2 = ivh13 (sk 2) 2 from fl18.i ty142 rfl 2) (xl15.ty tqr3) (show ivh13 qn1 0 = ivh12 qn1 0 from fl13.i tqr3 rfl 0) (show rvh13 qn1 1 = rvh12 qn1 1 from (fl13.r tqr3 rfl 1)) (fun gk11f18 gk12f18 gk13f18 gk14f18 gk15f18 gk16f18 gf18 ri89 ri90 ri91 ri92 ri93 ri94 ri95 ie238 ty225 ie240 ie241 ie242 ri97 ie243 ty226 ie245 re50 => ?_)
                refine hv4 (show 0 ≤ ivh18 (sk 22) 2 ∧ ivh18 (sk 22) 2 ≤ 30 from W29.int ty225 2) (show ivh18 (sk 22) 2 = ivh13 (sk 22) 2 from fl18.i ty225 rfl 2) (show (-2147483648) ≤ ivh18 qn1 0 ∧ ivh18 qn1 0 ≤ 2147483647 from W29.int ty226 0) (show ivh18 qn1 0 = ivh13 qn1 0 from fl18.i ty226 rfl 0) (fun ri96 ie239 ri98 ie244 => ?_)
                rw [exf12r] at re50
                have re51 : rv4 qn1 1 = rvh13 qn1 1 := (by rw [pq4]; exact congrFun (upr_a (ne_ty ty226 ty224 (by decide))) _)
                rw [re50] at re51
                have re52 : rvh13 qn1 2 = rvh12 qn1 2 := (fl13.r tqr3 rfl 2)
                rw [exf12p] at re52
                have re53 : rv4 qn1 2 = rvh13 qn1 2 := (by rw [pq4]; exact congrFun (upr_a (ne_ty ty226 ty224 (by decide))) _)
                rw [re52] at re53
                refine hv4 (show 0 ≤ ivh18 qn1 3 ∧ ivh18 qn1 3 ≤ 5 from W29.int ty226 3) (show ivh18 qn1 3 = ivh13 qn1 3 from fl18.i ty226 rfl 3) (show ivh13 qn1 3 = ivh12 qn1 3 from fl13.i tqr3 rfl 3) (show rv4 n6 j.toNat = none from by rw [pq4]; exact upr_s) (fun ri99 ie246 ie247 rp4 => ?_)
                exact c_iret C dX11_changeIndicator_154 rfl (by decide) (rom0 hph pl16 (by decide)) ⟨f18, rfl, X9, F22, W29, ⟨by omega, by omega⟩, ⟨(by omega), mr26⟩, (gk11f18.trans (ie214.trans (ie215.trans ie216))), (gk12f18.trans (ie217.trans (ie218.trans ie219))), (gk13f18.trans (ie220.trans (ie221.trans ie222))), (gk14f18.trans (ie223.trans (ie224.trans ie225))), (gk15f18.trans (ie226.trans (ie227.trans ie228))), (gk16f18.trans (ie229.trans (ie230.trans ie231))), (Or.inr ⟨by omega, ob1, akob1.2, (fun ss hs hd => by
                    have e2 := irxf4 ss hs (by omega) hd
                    have e3 := e2.mp (by omega)
                    rw [Int.sub_zero] at e3
                    exact ⟨⟨by omega, by omega, gf3.mp (by omega), by omega⟩, e3.2⟩), by omega, ⟨(fun i hi => el_fr hW (tysk22 hS) rfl rfl F22 rfl rfl hi), TSF.of hW hS (fun bb tbb hbb => by have tb1 := xl5.ty tbb; have tb2 := ty_rt tb1 hcr3 (ne_ty tb1 tqn1 (by decide)); have tb3 := xl15.ty tb2; exact (Eq.trans (show ivh18 bb 7 = ivh13 bb 7 from (fl18.i tb3 rfl 7)) (Eq.trans (show ivh13 bb 7 = ivh12 bb 7 from (fl13.i tb2 rfl 7)) (Eq.trans (show ivh12 bb 7 = ivn1 bb 7 from (fl12.i tb1 rfl 7)) (show ivn1 bb 7 = iv bb 7 from (by rw [hin1]; exact congrFun (up0_a (ne_in tbb.1 hqn1)) _)))))) (fun bb tbb => by have tb1 := xl5.ty tbb; have tb2 := ty_rt tb1 hcr3 (ne_ty tb1 tqn1 (by decide)); have tb3 := xl15.ty tb2; exact (Eq.trans (show ivh18 bb 0 = ivh13 bb 0 from (fl18.i tb3 rfl 0)) (Eq.trans (show ivh13 bb 0 = ivh12 bb 0 from (fl13.i tb2 rfl 0)) (Eq.trans (show ivh12 bb 0 = ivn1 bb 0 from (fl12.i tb1 rfl 0)) (show ivn1 bb 0 = iv bb 0 from (by rw [hin1]; exact congrFun (up0_a (ne_in tbb.1 hqn1)) _)))))) (fun bb tbb => by have tb1 := xl5.ty tbb; have tb2 := ty_rt tb1 hcr3 (ne_ty tb1 tqn1 (by decide)); have tb3 := xl15.ty tb2; exact (Eq.trans (show ivh18 bb 1 = ivh13 bb 1 from (fl18.i tb3 rfl 1)) (Eq.trans (show ivh13 bb 1 = ivh12 bb 1 from (fl13.i tb2 rfl 1)) (Eq.trans (show ivh12 bb 1 = ivn1 bb 1 from (fl12.i tb1 rfl 1)) (show ivn1 bb 1 = iv bb 1 from (by rw [hin1]; exact congrFun (up0_a (ne_in tbb.1 hqn1)) _)))))) (fun bb tbb => by have tb1 := xl5.ty tbb; have tb2 := ty_rt tb1 hcr3 (ne_ty tb1 tqn1 (by decide)); have tb3 := xl15.ty tb2; exact (Eq.trans (show rv4 bb 4 = rvh13 bb 4 from (by rw [pq4]; exact congrFun (upr_a (ne_ty tb3 ty224 (by decide))) _)) (Eq.trans (show rvh13 bb 4 = rvh12 bb 4 from (fl13.r tb2 rfl 4)) (Eq.trans (show rvh12 bb 4 = rvn1 bb 4 from (fl12.r tb1 rfl 4)) (show rvn1 bb 4 = rv bb 4 from (by rw [hrn1]; exact congrFun (up0_a (ne_in tbb.1 hqn1)) _)))))), TSQ.of hW hS (fun bb tbb hbb => by have tb1 := xl5.ty tbb; have tb2 := ty_rt tb1 hcr3 (ne_ty tb1 tqn1 (by decide)); have tb3 := xl15.ty tb2; exact (Eq.trans (show ivh18 bb 2 = ivh13 bb 2 from (fl18.i tb3 rfl 2)) (Eq.trans (show ivh13 bb 2 = ivh12 bb 2 from (fl13.i tb2 rfl 2)) (Eq.trans (show ivh12 bb 2 = ivn1 bb 2 from (fl12.i tb1 rfl 2)) (show ivn1 bb 2 = iv bb 2 from (by rw [hin1]; exact congrFun (up0_a (ne_in tbb.1 hqn1)) _))))))⟩, ⟨(by omega), CS0.of hW hS (Int.le_refl _) (fun i hi => ((fun i hi => el_ch W20 (tysk23 sk9) rfl rfl ((show ∀ bb, ty Lh13 clh13 bb 23 → rv4 bb 1 = rvh13 bb 1 from fun bb tbb => by exact (show rv4 bb 1 = rvh13 bb 1 from (by rw [pq4]; exact congrFun (upr_a (ne_ty tbb ty224 (by decide))) _))) (sk 23) (tysk23 sk9)) (fun bb tbb kk => by exact (show rv4 bb kk = rvh13 bb kk from (by rw [pq4]; exact congrFun (upr_a (ne_ty tbb ty224 (by decide))) _))) hi) i (by omega)).trans ((rmef13.2 i (by omega)).trans (ce2 i hi))) (fun bb tbb => by have tb1 := xl5.ty tbb; have tb2 := ty_rt tb1 hcr3 (ne_ty tb1 tqn1 (by decide)); have tb3 := xl15.ty tb2; exact (Eq.trans (show ivh18 bb 0 = ivh13 bb 0 from (fl18.i tb3 rfl 0)) (Eq.trans (show ivh13 bb 0 = ivh12 bb 0 from (fl13.i tb2 rfl 0)) (Eq.trans (show ivh12 bb 0 = ivn1 bb 0 from (fl12.i tb1 rfl 0)) (show ivn1 bb 0 = iv bb 0 from (by rw [hin1]; exact congrFun (up0_a (ne_in tbb.1 hqn1)) _)))))) (fun bb tbb => by have tb1 := xl5.ty tbb; have tb2 := ty_rt tb1 hcr3 (ne_ty tb1 tqn1 (by decide)); have tb3 := xl15.ty tb2; exact (Eq.trans (show rv4 bb 1 = rvh13 bb 1 from (by rw [pq4]; exact congrFun (upr_a (ne_ty tb3 ty224 (by decide))) _)) (Eq.trans (show rvh13 bb 1 = rvh12 bb 1 from (fl13.r tb2 rfl 1)) (Eq.trans (show rvh12 bb 1 = rvn1 bb 1 from (fl12.r tb1 rfl 1)) (show rvn1 bb 1 = rv bb 1 from (by rw [hrn1]; exact congrFun (up0_a (ne_in tbb.1 hqn1)) _)))))), ⟨qn1, (by rw [show (iv (sk 23) 2).toNat = (ivh12 (sk 23) 2).toNat from congrArg Int.toNat (by omega)]; exact ((fun i hi => el_ch W20 (tysk23 sk9) rfl rfl ((show ∀ bb, ty Lh13 clh13 bb 23 → rv4 bb 1 = rvh13 bb 1 from fun bb tbb => by exact (show rv4 bb 1 = rvh13 bb 1 from (by rw [pq4]; exact congrFun (upr_a (ne_ty tbb ty224 (by decide))) _))) (sk 23) (tysk23 sk9)) (fun bb tbb kk => by exact (show rv4 bb kk = rvh13 bb kk from (by rw [pq4]; exact congrFun (upr_a (ne_ty tbb ty224 (by decide))) _))) hi) _ (by omega)).trans rmef13.1), (by omega), re51⟩⟩⟩), (Or.inr ⟨ob1, n6, ⟨akob1.2, hn6, by omega⟩, kp22, Or.inl ⟨by omega, rp4⟩, ⟨(by omega), qn1, (by rw [show (iv (sk 23) 2).toNat = (ivh12 (sk 23) 2).toNat from congrArg Int.toNat (by omega)]; exact ((fun i hi => el_ch W20 (tysk23 sk9) rfl rfl ((show ∀ bb, ty Lh13 clh13 bb 23 → rv4 bb 1 = rvh13 bb 1 from fun bb tbb => by exact (show rv4 bb 1 = rvh13 bb 1 from (by rw [pq4]; exact congrFun (upr_a (ne_ty tbb ty224 (by decide))) _))) (sk 23) (tysk23 sk9)) (fun bb tbb kk => by exact (show rv4 bb kk = rvh13 bb kk from (by rw [pq4]; exact congrFun (upr_a (ne_ty tbb ty224 (by decide))) _))) hi) _ (by omega)).trans rmef13.1), re51, (Eq.trans re53 oi2.symm), (by omega)⟩⟩), (Eq.trans (show rv4 a0 9 = rvh13 a0 9 from (by rw [pq4]; exact congrFun (upr_a (ne_ty ty141 ty224 (by decide))) _)) (Eq.trans (show rvh13 a0 9 = rvh12 a0 9 from (fl13.r ty113 rfl 9)) (Eq.trans (show rvh12 a0 9 = rvn1 a0 9 from (fl12.r ty112 rfl 9)) (show rvn1 a0 9 = rv a0 9 from (by rw [hrn1]; exact congrFun (up0_a (ne_in t_a0.1 hqn1)) _))))), (Eq.trans (show rv4 a0 10 = rvh13 a0 10 from (by rw [pq4]; exact congrFun (upr_a (ne_ty ty141 ty224 (by decide))) _)) (Eq.trans (show rvh13 a0 10 = rvh12 a0 10 from (fl13.r ty113 rfl 10)) (Eq.trans (show rvh12 a0 10 = rvn1 a0 10 from (fl12.r ty112 rfl 10)) (show rvn1 a0 10 = rv a0 10 from (by rw [hrn1]; exact congrFun (up0_a (ne_in t_a0.1 hqn1)) _)))))⟩
          · clear gf4
            refine c_aload_n (j := 1) (x := a0) C dX11_changeIndicator_61 rfl ?_
            refine c_bipush (z := 6) C dX11_changeIndicator_62 (by decide) ?_
            refine d_callV (As := [.int (iI 6)]) (rest := []) C hM (C_refuse (a0 := a0) (x := 6) hW hS t_a0 ⟨by decide, by decide⟩ ) dX11_changeIndicator_64 kV_X11_102 rfl t_a0 rfl rfl (by decide) ck_12 rfl (Nat.le_of_ble_eq_true rfl) ⟨(Nat.le_of_ble_eq_true rfl), (Nat.le_of_ble_eq_true rfl)⟩ hph hph (show 0 + 0 = 0 from rfl) (by decide) (fun rh19 Lh19 clh19 lnh19 ivh19 rvh19 h19 => ?_)
            obtain ⟨f19, rfl, rfl, rfl, rfl, rfl, fl19, W30, rgf19, exf19, kp11f19, kp12f19, kp13f19, kp14f19, kp15f19, kp16f19⟩ := h19
            refine hv8 (show 1 ≤ iv a0 11 ∧ iv a0 11 ≤ 100 from hW.int t_a0 11) (show 1 ≤ iv a0 12 ∧ iv a0 12 ≤ 50 from hW.int t_a0 12) (show (-2147483648) ≤ iv a0 13 ∧ iv a0 13 ≤ 2147483647 from hW.int t_a0 13) (show (-2147483648) ≤ iv a0 14 ∧ iv a0 14 ≤ 2147483647 from hW.int t_a0 14) (show (-2147483648) ≤ iv a0 15 ∧ iv a0 15 ≤ 2147483647 from hW.int t_a0 15) (show (-2147483648) ≤ iv a0 16 ∧ iv a0 16 ≤ 2147483647 from hW.int t_a0 16) (hF0.call hX0 fl19 rfl) (MRK.call hmr hW hS XT.refl fl19 rfl rfl) (fun ri100 ri101 ri102 ri103 ri104 ri105 F23 mr27 => ?_)
            refine c_st (st2 := [.int (iI f19)]) rfl ?_
            refine hv21 (show ivh19 a0 11 = iv a0 11 from kp11f19) (show ivh19 a0 12 = iv a0 12 from kp12f19) (show ivh19 a0 13 = iv a0 13 from kp13f19) (show ivh19 a0 14 = iv a0 14 from kp14f19) (show ivh19 a0 15 = iv a0 15 from kp15f19) (show ivh19 a0 16 = iv a0 16 from kp16f19) (show f19 = -1 from exf19) (show 1 ≤ ivh19 a0 11 ∧ ivh19 a0 11 ≤ 100 from W30.int t_a0 11) (show 1 ≤ ivh19 a0 12 ∧ ivh19 a0 12 ≤ 50 from W30.int t_a0 12) (show (-2147483648) ≤ ivh19 a0 13 ∧ ivh19 a0 13 ≤ 2147483647 from W30.int t_a0 13) (show (-2147483648) ≤ ivh19 a0 14 ∧ ivh19 a0 14 ≤ 2147483647 from W30.int t_a0 14) (show (-2147483648) ≤ ivh19 a0 15 ∧ ivh19 a0 15 ≤ 2147483647 from W30.int t_a0 15) (show (-2147483648) ≤ ivh19 a0 16 ∧ ivh19 a0 16 ≤ 2147483647 from W30.int t_a0 16) (show 0 ≤ ivh19 (sk 23) 2 ∧ ivh19 (sk 23) 2 ≤ 512 from W30.int tsk23 2) (show ivh19 (sk 23) 2 = iv (sk 23) 2 from fl19.i tsk23 rfl 2) (show 0 ≤ ivh19 (sk 22) 2 ∧ ivh19 (sk 22) 2 ≤ 30 from W30.int tsk22 2) (show ivh19 (sk 22) 2 = iv (sk 22) 2 from fl19.i tsk22 rfl 2) (show 0 ≤ ivh19 (sk 2) 2 ∧ ivh19 (sk 2) 2 ≤ 3000 from W30.int tsk2 2) (show ivh19 (sk 2) 2 = iv (sk 2) 2 from fl19.i tsk2 rfl 2) (show (-2147483648) ≤ ivh19 ob1 0 ∧ ivh19 ob1 0 ≤ 2147483647 from W30.int tob1 0) (show ivh19 ob1 0 = iv ob1 0 from fl19.i tob1 rfl 0) (fun gk11f19 gk12f19 gk13f19 gk14f19 gk15f19 gk16f19 gf19 ri106 ri107 ri108 ri109 ri110 ri111 ri112 ie254 ri113 ie255 ri114 ie256 ri115 ie257 => ?_)
            exact c_iret C dX11_changeIndicator_67 rfl (by decide) (rom0 hph hph (by decide)) ⟨f19, rfl, hX0, F23, W30, ⟨by omega, by omega⟩, ⟨(by omega), mr27⟩, gk11f19, gk12f19, gk13f19, gk14f19, gk15f19, gk16f19, (Or.inl ⟨by omega, PSAME.fr hW hS fl19 rfl rfl rfl rfl rfl rfl rfl, (fun ss t hs ht hd h => by
                have e := ht.uni akob1.2
                subst e
                obtain ⟨⟨h1, h2, -, h4⟩, h5⟩ := h
                have e1 := irxf4 ss hs (by omega) hd
                have e2 := e1.mpr ⟨by omega, by rw [Int.sub_zero]; exact h5⟩
                clear e1
                omega)⟩), (Or.inl ⟨by omega, KP.fr hW fl19 rfl⟩), rfl, rfl⟩
        · refine c_aload_n (j := 1) (x := a0) C dX11_changeIndicator_43 rfl ?_
          refine c_iconst C dX11_changeIndicator_44 ?_
          refine d_callV (As := [.int (iI 4)]) (rest := []) C hM (C_refuse (a0 := a0) (x := 4) hW hS t_a0 ⟨by decide, by decide⟩ ) dX11_changeIndicator_45 kV_X11_102 rfl t_a0 rfl rfl (by decide) ck_12 rfl (Nat.le_of_ble_eq_true rfl) ⟨(Nat.le_of_ble_eq_true rfl), (Nat.le_of_ble_eq_true rfl)⟩ hph hph (show 0 + 0 = 0 from rfl) (by decide) (fun rh20 Lh20 clh20 lnh20 ivh20 rvh20 h20 => ?_)
          obtain ⟨f20, rfl, rfl, rfl, rfl, rfl, fl20, W31, rgf20, exf20, kp11f20, kp12f20, kp13f20, kp14f20, kp15f20, kp16f20⟩ := h20
          refine hv8 (show 1 ≤ iv a0 11 ∧ iv a0 11 ≤ 100 from hW.int t_a0 11) (show 1 ≤ iv a0 12 ∧ iv a0 12 ≤ 50 from hW.int t_a0 12) (show (-2147483648) ≤ iv a0 13 ∧ iv a0 13 ≤ 2147483647 from hW.int t_a0 13) (show (-2147483648) ≤ iv a0 14 ∧ iv a0 14 ≤ 2147483647 from hW.int t_a0 14) (show (-2147483648) ≤ iv a0 15 ∧ iv a0 15 ≤ 2147483647 from hW.int t_a0 15) (show (-2147483648) ≤ iv a0 16 ∧ iv a0 16 ≤ 2147483647 from hW.int t_a0 16) (hF0.call hX0 fl20 rfl) (MRK.call hmr hW hS XT.refl fl20 rfl rfl) (fun ri116 ri117 ri118 ri119 ri120 ri121 F24 mr28 => ?_)
          refine c_st (st2 := [.int (iI f20)]) rfl ?_
          refine hv21 (show ivh20 a0 11 = iv a0 11 from kp11f20) (show ivh20 a0 12 = iv a0 12 from kp12f20) (show ivh20 a0 13 = iv a0 13 from kp13f20) (show ivh20 a0 14 = iv a0 14 from kp14f20) (show ivh20 a0 15 = iv a0 15 from kp15f20) (show ivh20 a0 16 = iv a0 16 from kp16f20) (show f20 = -1 from exf20) (show 1 ≤ ivh20 a0 11 ∧ ivh20 a0 11 ≤ 100 from W31.int t_a0 11) (show 1 ≤ ivh20 a0 12 ∧ ivh20 a0 12 ≤ 50 from W31.int t_a0 12) (show (-2147483648) ≤ ivh20 a0 13 ∧ ivh20 a0 13 ≤ 2147483647 from W31.int t_a0 13) (show (-2147483648) ≤ ivh20 a0 14 ∧ ivh20 a0 14 ≤ 2147483647 from W31.int t_a0 14) (show (-2147483648) ≤ ivh20 a0 15 ∧ ivh20 a0 15 ≤ 2147483647 from W31.int t_a0 15) (show (-2147483648) ≤ ivh20 a0 16 ∧ ivh20 a0 16 ≤ 2147483647 from W31.int t_a0 16) (show 0 ≤ ivh20 (sk 23) 2 ∧ ivh20 (sk 23) 2 ≤ 512 from W31.int tsk23 2) (show ivh20 (sk 23) 2 = iv (sk 23) 2 from fl20.i tsk23 rfl 2) (show 0 ≤ ivh20 (sk 22) 2 ∧ ivh20 (sk 22) 2 ≤ 30 from W31.int tsk22 2) (show ivh20 (sk 22) 2 = iv (sk 22) 2 from fl20.i tsk22 rfl 2) (show 0 ≤ ivh20 (sk 2) 2 ∧ ivh20 (sk 2) 2 ≤ 3000 from W31.int tsk2 2) (show ivh20 (sk 2) 2 = iv (sk 2) 2 from fl20.i tsk2 rfl 2) (show (-2147483648) ≤ ivh20 ob1 0 ∧ ivh20 ob1 0 ≤ 2147483647 from W31.int tob1 0) (show ivh20 ob1 0 = iv ob1 0 from fl20.i tob1 rfl 0) (fun gk11f20 gk12f20 gk13f20 gk14f20 gk15f20 gk16f20 gf20 ri122 ri123 ri124 ri125 ri126 ri127 ri128 ie264 ri129 ie265 ri130 ie266 ri131 ie267 => ?_)
          exact c_iret C dX11_changeIndicator_48 rfl (by decide) (rom0 hph hph (by decide)) ⟨f20, rfl, hX0, F24, W31, ⟨by omega, by omega⟩, ⟨(by omega), mr28⟩, gk11f20, gk12f20, gk13f20, gk14f20, gk15f20, gk16f20, (Or.inl ⟨by omega, PSAME.fr hW hS fl20 rfl rfl rfl rfl rfl rfl rfl, (fun ss t hs ht hd h => by
              have e := ht.uni akob1.2
              subst e
              obtain ⟨⟨h1, h2, h3, h4⟩, -⟩ := h
              have m := gf3
              have m2 : f3 = 1 := m.mpr h3
              omega)⟩), (Or.inl ⟨by omega, KP.fr hW fl20 rfl⟩), rfl, rfl⟩
      · subst oq1
        refine c_lv (lv2 := [(3, .null), (0, .ref a0), (1, .int (iI i)), (2, .int (iI j))]) [0, 1, 2, 3] rfl ?_
        refine c_st (st2 := []) rfl ?_
        refine c_aload_n (j := 1) (x := a0) C dX11_changeIndicator_29 rfl ?_
        refine c_iconst C dX11_changeIndicator_30 ?_
        refine d_callV (As := [.int (iI 3)]) (rest := []) C hM (C_refuse (a0 := a0) (x := 3) hW hS t_a0 ⟨by decide, by decide⟩ ) dX11_changeIndicator_31 kV_X11_102 rfl t_a0 rfl rfl (by decide) ck_12 rfl (Nat.le_of_ble_eq_true rfl) ⟨(Nat.le_of_ble_eq_true rfl), (Nat.le_of_ble_eq_true rfl)⟩ hph hph (show 0 + 0 = 0 from rfl) (by decide) (fun rh21 Lh21 clh21 lnh21 ivh21 rvh21 h21 => ?_)
        obtain ⟨f21, rfl, rfl, rfl, rfl, rfl, fl21, W32, rgf21, exf21, kp11f21, kp12f21, kp13f21, kp14f21, kp15f21, kp16f21⟩ := h21
        refine hv8 (show 1 ≤ iv a0 11 ∧ iv a0 11 ≤ 100 from hW.int t_a0 11) (show 1 ≤ iv a0 12 ∧ iv a0 12 ≤ 50 from hW.int t_a0 12) (show (-2147483648) ≤ iv a0 13 ∧ iv a0 13 ≤ 2147483647 from hW.int t_a0 13) (show (-2147483648) ≤ iv a0 14 ∧ iv a0 14 ≤ 2147483647 from hW.int t_a0 14) (show (-2147483648) ≤ iv a0 15 ∧ iv a0 15 ≤ 2147483647 from hW.int t_a0 15) (show (-2147483648) ≤ iv a0 16 ∧ iv a0 16 ≤ 2147483647 from hW.int t_a0 16) (hF0.call hX0 fl21 rfl) (MRK.call hmr hW hS XT.refl fl21 rfl rfl) (fun ri132 ri133 ri134 ri135 ri136 ri137 F25 mr29 => ?_)
        refine c_st (st2 := [.int (iI f21)]) rfl ?_
        refine hv19 (show ivh21 a0 11 = iv a0 11 from kp11f21) (show ivh21 a0 12 = iv a0 12 from kp12f21) (show ivh21 a0 13 = iv a0 13 from kp13f21) (show ivh21 a0 14 = iv a0 14 from kp14f21) (show ivh21 a0 15 = iv a0 15 from kp15f21) (show ivh21 a0 16 = iv a0 16 from kp16f21) (show f21 = -1 from exf21) (show 1 ≤ ivh21 a0 11 ∧ ivh21 a0 11 ≤ 100 from W32.int t_a0 11) (show 1 ≤ ivh21 a0 12 ∧ ivh21 a0 12 ≤ 50 from W32.int t_a0 12) (show (-2147483648) ≤ ivh21 a0 13 ∧ ivh21 a0 13 ≤ 2147483647 from W32.int t_a0 13) (show (-2147483648) ≤ ivh21 a0 14 ∧ ivh21 a0 14 ≤ 2147483647 from W32.int t_a0 14) (show (-2147483648) ≤ ivh21 a0 15 ∧ ivh21 a0 15 ≤ 2147483647 from W32.int t_a0 15) (show (-2147483648) ≤ ivh21 a0 16 ∧ ivh21 a0 16 ≤ 2147483647 from W32.int t_a0 16) (show 0 ≤ ivh21 (sk 23) 2 ∧ ivh21 (sk 23) 2 ≤ 512 from W32.int tsk23 2) (show ivh21 (sk 23) 2 = iv (sk 23) 2 from fl21.i tsk23 rfl 2) (show 0 ≤ ivh21 (sk 22) 2 ∧ ivh21 (sk 22) 2 ≤ 30 from W32.int tsk22 2) (show ivh21 (sk 22) 2 = iv (sk 22) 2 from fl21.i tsk22 rfl 2) (show 0 ≤ ivh21 (sk 2) 2 ∧ ivh21 (sk 2) 2 ≤ 3000 from W32.int tsk2 2) (show ivh21 (sk 2) 2 = iv (sk 2) 2 from fl21.i tsk2 rfl 2) (fun gk11f21 gk12f21 gk13f21 gk14f21 gk15f21 gk16f21 gf21 ri138 ri139 ri140 ri141 ri142 ri143 ri144 ie274 ri145 ie275 ri146 ie276 => ?_)
        exact c_iret C dX11_changeIndicator_34 rfl (by decide) (rom0 hph hph (by decide)) ⟨f21, rfl, hX0, F25, W32, ⟨by omega, by omega⟩, ⟨(by omega), mr29⟩, gk11f21, gk12f21, gk13f21, gk14f21, gk15f21, gk16f21, (Or.inl ⟨by omega, PSAME.fr hW hS fl21 rfl rfl rfl rfl rfl rfl rfl, (fun ss t hs ht hd _ => gf2.2 rfl t ht)⟩), (Or.inl ⟨by omega, KP.fr hW fl21 rfl⟩), rfl, rfl⟩
    · refine c_aload_n (j := 0) (x := a0) C dX11_changeIndicator_9 rfl ?_
      refine c_bipush (z := 6) C dX11_changeIndicator_10 (by decide) ?_
      refine d_callV (As := [.int (iI 6)]) (rest := []) C hM (C_refuse (a0 := a0) (x := 6) hW hS t_a0 ⟨by decide, by decide⟩ ) dX11_changeIndicator_12 kV_X11_102 rfl t_a0 rfl rfl (by decide) ck_12 rfl (Nat.le_of_ble_eq_true rfl) ⟨(Nat.le_of_ble_eq_true rfl), (Nat.le_of_ble_eq_true rfl)⟩ hph hph (show 0 + 0 = 0 from rfl) (by decide) (fun rh22 Lh22 clh22 lnh22 ivh22 rvh22 h22 => ?_)
      obtain ⟨f22, rfl, rfl, rfl, rfl, rfl, fl22, W33, rgf22, exf22, kp11f22, kp12f22, kp13f22, kp14f22, kp15f22, kp16f22⟩ := h22
      refine hv8 (show 1 ≤ iv a0 11 ∧ iv a0 11 ≤ 100 from hW.int t_a0 11) (show 1 ≤ iv a0 12 ∧ iv a0 12 ≤ 50 from hW.int t_a0 12) (show (-2147483648) ≤ iv a0 13 ∧ iv a0 13 ≤ 2147483647 from hW.int t_a0 13) (show (-2147483648) ≤ iv a0 14 ∧ iv a0 14 ≤ 2147483647 from hW.int t_a0 14) (show (-2147483648) ≤ iv a0 15 ∧ iv a0 15 ≤ 2147483647 from hW.int t_a0 15) (show (-2147483648) ≤ iv a0 16 ∧ iv a0 16 ≤ 2147483647 from hW.int t_a0 16) (hF0.call hX0 fl22 rfl) (MRK.call hmr hW hS XT.refl fl22 rfl rfl) (fun ri147 ri148 ri149 ri150 ri151 ri152 F26 mr30 => ?_)
      refine c_st (st2 := [.int (iI f22)]) rfl ?_
      refine hv19 (show ivh22 a0 11 = iv a0 11 from kp11f22) (show ivh22 a0 12 = iv a0 12 from kp12f22) (show ivh22 a0 13 = iv a0 13 from kp13f22) (show ivh22 a0 14 = iv a0 14 from kp14f22) (show ivh22 a0 15 = iv a0 15 from kp15f22) (show ivh22 a0 16 = iv a0 16 from kp16f22) (show f22 = -1 from exf22) (show 1 ≤ ivh22 a0 11 ∧ ivh22 a0 11 ≤ 100 from W33.int t_a0 11) (show 1 ≤ ivh22 a0 12 ∧ ivh22 a0 12 ≤ 50 from W33.int t_a0 12) (show (-2147483648) ≤ ivh22 a0 13 ∧ ivh22 a0 13 ≤ 2147483647 from W33.int t_a0 13) (show (-2147483648) ≤ ivh22 a0 14 ∧ ivh22 a0 14 ≤ 2147483647 from W33.int t_a0 14) (show (-2147483648) ≤ ivh22 a0 15 ∧ ivh22 a0 15 ≤ 2147483647 from W33.int t_a0 15) (show (-2147483648) ≤ ivh22 a0 16 ∧ ivh22 a0 16 ≤ 2147483647 from W33.int t_a0 16) (show 0 ≤ ivh22 (sk 23) 2 ∧ ivh22 (sk 23) 2 ≤ 512 from W33.int tsk23 2) (show ivh22 (sk 23) 2 = iv (sk 23) 2 from fl22.i tsk23 rfl 2) (show 0 ≤ ivh22 (sk 22) 2 ∧ ivh22 (sk 22) 2 ≤ 30 from W33.int tsk22 2) (show ivh22 (sk 22) 2 = iv (sk 22) 2 from fl22.i tsk22 rfl 2) (show 0 ≤ ivh22 (sk 2) 2 ∧ ivh22 (sk 2) 2 ≤ 3000 from W33.int tsk2 2) (show ivh22 (sk 2) 2 = iv (sk 2) 2 from fl22.i tsk2 rfl 2) (fun gk11f22 gk12f22 gk13f22 gk14f22 gk15f22 gk16f22 gf22 ri153 ri154 ri155 ri156 ri157 ri158 ri159 ie283 ri160 ie284 ri161 ie285 => ?_)
      exact c_iret C dX11_changeIndicator_15 rfl (by decide) (rom0 hph hph (by decide)) ⟨f22, rfl, hX0, F26, W33, ⟨by omega, by omega⟩, ⟨(by omega), mr30⟩, gk11f22, gk12f22, gk13f22, gk14f22, gk15f22, gk16f22, (Or.inl ⟨by omega, PSAME.fr hW hS fl22 rfl rfl rfl rfl rfl rfl rfl, (fun ss t hs ht hd h => by
          obtain ⟨h1, h2, h3, h4⟩ := h.1
          omega)⟩), (Or.inl ⟨by omega, KP.fr hW fl22 rfl⟩), rfl, rfl⟩
set_option maxHeartbeats 4000000 in
set_option maxRecDepth 100000 in
theorem C_indicator {l : Launch} {G : GT} {mi : Nat} {sk : Nat → Nat} {L : List Nat} {cl ln : Nat → Nat} {iv : Nat → Nat → Int} {rv : Nat → Nat → Option Nat}  {a0 : Nat} {i : Int} {j : Int} (hW : WT (g0 G) sk L cl ln iv rv) (hS : SKL sk L cl) (t_a0 : ty L cl a0 1) (h_i : -2147483648 ≤ i ∧ i ≤ 2147483647) (h_j : -2147483648 ≤ j ∧ j ≤ 2147483647) (hmr : MRK sk cl iv rv) (hch : iv (sk 23) 2 < 512) : Mc l G mi (Phi (g0 G) sk) PHM yX11_indicator cX11_indicator 4 (some .int) 9 [.ref a0, .int (iI i), .int (iI j)] L cl ln iv rv 1300 (fun v L2 cl2 ln2 iv2 rv2 => ∃ f : Int, v = some (.int (iI f)) ∧ XT L cl ln L2 cl2 ln2 ∧ fT [1, 65, 66, 206, 68, 23, 1001, 201, 2] L cl iv rv iv2 rv2 ∧ WT (g0 G) sk L2 cl2 ln2 iv2 rv2 ∧ (-2147483648 ≤ f ∧ f ≤ 2147483647) ∧ (iv2 (sk 23) 2 ≤ iv (sk 23) 2 + 1 ∧ MRK sk cl2 iv2 rv2) ∧ iv2 a0 11 = iv a0 11 ∧ iv2 a0 12 = iv a0 12 ∧ iv2 a0 13 = iv a0 13 ∧ iv2 a0 14 = iv a0 14 ∧ iv2 a0 15 = iv a0 15 ∧ iv2 a0 16 = iv a0 16 ∧ iv2 (sk 2) 2 = 0 ∧ (PIND i j f sk iv rv iv2 rv2) ∧ (KIN L cl sk iv rv L2 cl2 ln2 iv2 rv2 i j f) ∧ rv2 a0 9 = rv a0 9 ∧ rv2 a0 10 = rv a0 10) := by
  refine Mc.mk (by decide) (Nat.le_of_ble_eq_true rfl) ?_
  intro p e s m args below meth c A C hM
  refine hv14 (Phi.le hW hS) (show ty L cl (sk 2) 2 from ⟨(hS 2 rfl).1, by rw [(hS 2 rfl).2]; rfl⟩) (show ty L cl (sk 3) 3 from ⟨(hS 3 rfl).1, by rw [(hS 3 rfl).2]; rfl⟩) (show ty L cl (sk 4) 4 from ⟨(hS 4 rfl).1, by rw [(hS 4 rfl).2]; rfl⟩) (show ty L cl (sk 5) 5 from ⟨(hS 5 rfl).1, by rw [(hS 5 rfl).2]; rfl⟩) (show ty L cl (sk 13) 13 from ⟨(hS 13 rfl).1, by rw [(hS 13 rfl).2]; rfl⟩) (show ty L cl (sk 14) 14 from ⟨(hS 14 rfl).1, by rw [(hS 14 rfl).2]; rfl⟩) (show ty L cl (sk 15) 15 from ⟨(hS 15 rfl).1, by rw [(hS 15 rfl).2]; rfl⟩) (show ty L cl (sk 16) 16 from ⟨(hS 16 rfl).1, by rw [(hS 16 rfl).2]; rfl⟩) (show ty L cl (sk 17) 17 from ⟨(hS 17 rfl).1, by rw [(hS 17 rfl).2]; rfl⟩) (show ty L cl (sk 22) 22 from ⟨(hS 22 rfl).1, by rw [(hS 22 rfl).2]; rfl⟩) (show ty L cl (sk 23) 23 from ⟨(hS 23 rfl).1, by rw [(hS 23 rfl).2]; rfl⟩) (show XT L cl ln L cl ln from XT.refl) (show fT [1, 65, 66, 206, 68, 23, 1001, 201, 2] L cl iv rv iv rv from fT.refl) (fun hph tsk2 tsk3 tsk4 tsk5 tsk13 tsk14 tsk15 tsk16 tsk17 tsk22 tsk23 hX0 hF0 => ?_)
  have ri1 : 0 ≤ iv (sk 23) 2 ∧ iv (sk 23) 2 ≤ 512 := hW.int tsk23 2
  refine c_aload_n (j := 0) (x := a0) C dX11_indicator_0 rfl ?_
  refine c_iload_n (j := 1) C dX11_indicator_1 rfl ?_
  refine c_iload_n (j := 2) C dX11_indicator_2 rfl ?_
  refine d_callV (As := [.int (iI i), .int (iI j)]) (rest := []) C hM (C_changeInd (a0 := a0) (i := i) (j := j) hW hS t_a0 (by omega) (by omega) hmr (by show iv (sk 23) 2 < 512; omega)) dX11_indicator_3 kV_X11_208 rfl t_a0 rfl rfl (by decide) ck_12 rfl (Nat.le_of_ble_eq_true rfl) ⟨(Nat.le_of_ble_eq_true rfl), (Nat.le_of_ble_eq_true rfl)⟩ hph hph (show 0 + 1300 = 1300 from rfl) (by decide) (fun rh1 Lh1 clh1 lnh1 ivh1 rvh1 h1 => ?_)
  obtain ⟨f1, rfl, xl1, fl1, W1, rgf1, exf1, kp11f1, kp12f1, kp13f1, kp14f1, kp15f1, kp16f1, tbxf1, kbxf1, kr9f1, kr10f1⟩ := h1
  refine hv10 (show 1 ≤ iv a0 11 ∧ iv a0 11 ≤ 100 from hW.int t_a0 11) (show 1 ≤ iv a0 12 ∧ iv a0 12 ≤ 50 from hW.int t_a0 12) (show (-2147483648) ≤ iv a0 13 ∧ iv a0 13 ≤ 2147483647 from hW.int t_a0 13) (show (-2147483648) ≤ iv a0 14 ∧ iv a0 14 ≤ 2147483647 from hW.int t_a0 14) (show (-2147483648) ≤ iv a0 15 ∧ iv a0 15 ≤ 2147483647 from hW.int t_a0 15) (show (-2147483648) ≤ iv a0 16 ∧ iv a0 16 ≤ 2147483647 from hW.int t_a0 16) (hF0.call hX0 fl1 rfl) (MRK.call hmr hW hS xl1 fl1 rfl rfl) (hX0.trans xl1) (xl1.skl hS) (fun ri2 ri3 ri4 ri5 ri6 ri7 F1 mr1 X1 sk1 => ?_)
  refine c_st (st2 := [.int (iI f1)]) rfl ?_
  refine hv8 (show ivh1 a0 11 = iv a0 11 from kp11f1) (show ivh1 a0 12 = iv a0 12 from kp12f1) (show ivh1 a0 13 = iv a0 13 from kp13f1) (show ivh1 a0 14 = iv a0 14 from kp14f1) (show ivh1 a0 15 = iv a0 15 from kp15f1) (show ivh1 a0 16 = iv a0 16 from kp16f1) (xl1.ty tsk23) (show ivh1 (sk 23) 2 ≤ iv (sk 23) 2 + 1 ∧ MRK sk clh1 ivh1 rvh1 from exf1) (fun gk11f1 gk12f1 gk13f1 gk14f1 gk15f1 gk16f1 ty1 gf1 => ?_)
  have ri8 : 0 ≤ ivh1 (sk 23) 2 ∧ ivh1 (sk 23) 2 ≤ 512 := W1.int ty1 2
  refine c_istore_n (lv2 := [(3, .int (iI f1)), (0, .ref a0), (1, .int (iI i)), (2, .int (iI j))]) C dX11_indicator_6 (by decide) rfl ?_
  refine c_aload_n (j := 1) (x := a0) C dX11_indicator_7 rfl ?_
  have ty2 := xl1.ty t_a0
  obtain ⟨rb1, rq1, trb1⟩ := W1.ref ty2 0 rfl rfl rfl
  have erb1 := W1.sk trb1 (by decide) rfl
  subst erb1
  refine c_getr (k := 0) C ck_12 dX11_indicator_8 w2_44 (by decide) ty2 rfl rfl (by decide) rfl rq1 ?_
  refine c_st (st2 := [.ref (sk 2)]) rfl ?_
  refine hv2 (xl1.ty tsk2) (Phi.le W1 sk1) (fun ty3 pl1 => ?_)
  refine d_callV (As := []) (rest := []) C hM (C_clear_2 (a0 := (sk 2)) W1 sk1 ty3  ) dX11_indicator_11 kV_X11_164 rfl ty3 rfl rfl (by decide) ck_2 rfl (Nat.le_of_ble_eq_true rfl) ⟨(Nat.le_of_ble_eq_true rfl), (Nat.le_of_ble_eq_true rfl)⟩ hph pl1 (show 1300 + 0 = 1300 from rfl) (by decide) (fun rh2 Lh2 clh2 lnh2 ivh2 rvh2 h2 => ?_)
  obtain ⟨rfl, rfl, rfl, rfl, rfl, fl2, W2, exf2⟩ := h2
  refine hv2 (F1.call X1 fl2 rfl) (MRK.call mr1 W1 sk1 XT.refl fl2 rfl rfl) (fun F2 mr2 => ?_)
  refine c_st (st2 := []) rfl ?_
  refine hv2 (show 0 ≤ ivh2 (sk 2) 2 ∧ ivh2 (sk 2) 2 ≤ 3000 from W2.int ty3 2) (show ivh2 (sk 2) 2 = 0 from exf2) (fun ri9 gf2 => ?_)
  refine c_iload_n (j := 0) C dX11_indicator_14 rfl ?_
  refine hv15 (show 1 ≤ ivh2 a0 11 ∧ ivh2 a0 11 ≤ 100 from W2.int ty2 11) (show ivh2 a0 11 = ivh1 a0 11 from fl2.i ty2 rfl 11) (show 1 ≤ ivh2 a0 12 ∧ ivh2 a0 12 ≤ 50 from W2.int ty2 12) (show ivh2 a0 12 = ivh1 a0 12 from fl2.i ty2 rfl 12) (show (-2147483648) ≤ ivh2 a0 13 ∧ ivh2 a0 13 ≤ 2147483647 from W2.int ty2 13) (show ivh2 a0 13 = ivh1 a0 13 from fl2.i ty2 rfl 13) (show (-2147483648) ≤ ivh2 a0 14 ∧ ivh2 a0 14 ≤ 2147483647 from W2.int ty2 14) (show ivh2 a0 14 = ivh1 a0 14 from fl2.i ty2 rfl 14) (show (-2147483648) ≤ ivh2 a0 15 ∧ ivh2 a0 15 ≤ 2147483647 from W2.int ty2 15) (show ivh2 a0 15 = ivh1 a0 15 from fl2.i ty2 rfl 15) (show (-2147483648) ≤ ivh2 a0 16 ∧ ivh2 a0 16 ≤ 2147483647 from W2.int ty2 16) (show ivh2 a0 16 = ivh1 a0 16 from fl2.i ty2 rfl 16) (show 0 ≤ ivh2 (sk 23) 2 ∧ ivh2 (sk 23) 2 ≤ 512 from W2.int ty1 2) (show ivh2 (sk 23) 2 = ivh1 (sk 23) 2 from fl2.i ty1 rfl 2) (TX.xt TX.refl xl1) (fun ri10 ie3 ri11 ie5 ri12 ie7 ri13 ie9 ri14 ie11 ri15 ie13 ri16 ie15 tx1 => ?_)
  exact c_iret C dX11_indicator_15 rfl (by decide) (rom0 hph pl1 (by decide)) ⟨f1, rfl, X1, F2, W2, ⟨by omega, by omega⟩, ⟨(by omega), mr2⟩, (ie3.trans gk11f1), (ie5.trans gk12f1), (ie7.trans gk13f1), (ie9.trans gk14f1), (ie11.trans gk15f1), (ie13.trans gk16f1), gf2, (PIND.after tbxf1 (by omega) (PSAME.fr W1 sk1 fl2 rfl rfl rfl rfl rfl rfl rfl)), (KIN.after kbxf1 (by omega) hW hS tx1 W1 sk1 fl2 rfl rfl rfl), (show rvh1 a0 9 = rv a0 9 from kr9f1), (show rvh1 a0 10 = rv a0 10 from kr10f1)⟩
end
section
set_option maxHeartbeats 4000000 in
set_option maxRecDepth 100000 in
theorem C_undo {l : Launch} {G : GT} {mi : Nat} {sk : Nat → Nat} {L : List Nat} {cl ln : Nat → Nat} {iv : Nat → Nat → Int} {rv : Nat → Nat → Option Nat}  {a0 : Nat} (hW : WT (g0 G) sk L cl ln iv rv) (hS : SKL sk L cl) (t_a0 : ty L cl a0 1) (hmr : MRK sk cl iv rv) : Mc l G mi (Phi (g0 G) sk) PHM yX11_undo cX11_undo 1 (some .int) 5 [.ref a0] L cl ln iv rv 0 (fun v L2 cl2 ln2 iv2 rv2 => ∃ f : Int, v = some (.int (iI f)) ∧ L = L2 ∧ cl = cl2 ∧ ln = ln2 ∧ fT [1, 22, 1000, 23, 1001, 26, 1004, 12, 20, 68, 100] L cl iv rv iv2 rv2 ∧ WT (g0 G) sk L2 cl2 ln2 iv2 rv2 ∧ (-2147483648 ≤ f ∧ f ≤ 2147483647) ∧ (iv2 (sk 23) 2 ≤ iv (sk 23) 2 + 1 ∧ MRK sk cl2 iv2 rv2) ∧ iv2 a0 11 = iv a0 11 ∧ iv2 a0 12 = iv a0 12 ∧ iv2 a0 13 = iv a0 13 ∧ iv2 a0 14 = iv a0 14 ∧ iv2 a0 15 = iv a0 15 ∧ iv2 a0 16 = iv a0 16 ∧ (PUNX f sk iv rv iv2 rv2) ∧ ((f = 0 ∧ KP L cl (fun _ => False) (fun _ => False) (fun _ => False) (fun _ => False) (fun _ _ => False) iv rv iv2 rv2) ∨ (f = 1 ∧ ∃ ch, el rv (sk 23) (iv (sk 23) 2 - 1).toNat = some ch ∧ UKP L cl ch iv rv iv2 rv2)) ∧ rv2 a0 9 = rv a0 9 ∧ rv2 a0 10 = rv a0 10) := by
  refine Mc.mk (by decide) (Nat.le_of_ble_eq_true rfl) ?_
  intro p e s m args below meth c A C hM
  refine hv14 (Phi.le hW hS) (show ty L cl (sk 2) 2 from ⟨(hS 2 rfl).1, by rw [(hS 2 rfl).2]; rfl⟩) (show ty L cl (sk 3) 3 from ⟨(hS 3 rfl).1, by rw [(hS 3 rfl).2]; rfl⟩) (show ty L cl (sk 4) 4 from ⟨(hS 4 rfl).1, by rw [(hS 4 rfl).2]; rfl⟩) (show ty L cl (sk 5) 5 from ⟨(hS 5 rfl).1, by rw [(hS 5 rfl).2]; rfl⟩) (show ty L cl (sk 13) 13 from ⟨(hS 13 rfl).1, by rw [(hS 13 rfl).2]; rfl⟩) (show ty L cl (sk 14) 14 from ⟨(hS 14 rfl).1, by rw [(hS 14 rfl).2]; rfl⟩) (show ty L cl (sk 15) 15 from ⟨(hS 15 rfl).1, by rw [(hS 15 rfl).2]; rfl⟩) (show ty L cl (sk 16) 16 from ⟨(hS 16 rfl).1, by rw [(hS 16 rfl).2]; rfl⟩) (show ty L cl (sk 17) 17 from ⟨(hS 17 rfl).1, by rw [(hS 17 rfl).2]; rfl⟩) (show ty L cl (sk 22) 22 from ⟨(hS 22 rfl).1, by rw [(hS 22 rfl).2]; rfl⟩) (show ty L cl (sk 23) 23 from ⟨(hS 23 rfl).1, by rw [(hS 23 rfl).2]; rfl⟩) (show XT L cl ln L cl ln from XT.refl) (show fT [1, 22, 1000, 23, 1001, 26, 1004, 12, 20, 68, 100] L cl iv rv iv rv from fT.refl) (fun hph tsk2 tsk3 tsk4 tsk5 tsk13 tsk14 tsk15 tsk16 tsk17 tsk22 tsk23 hX0 hF0 => ?_)
  have ri1 : 0 ≤ iv (sk 23) 2 ∧ iv (sk 23) 2 ≤ 512 := hW.int tsk23 2
  refine c_aload_n (j := 0) (x := a0) C dX11_undo_0 rfl ?_
  refine c_aload_n (j := 0) (x := a0) C dX11_undo_1 rfl ?_
  obtain ⟨rb1, rq1, trb1⟩ := hW.ref t_a0 4 rfl rfl rfl
  have erb1 := hW.sk trb1 (by decide) rfl
  subst erb1
  refine c_getr (k := 4) C ck_12 dX11_undo_2 w2_48 (by decide) t_a0 rfl rfl (by decide) rfl rq1 ?_
  refine c_st (st2 := [.ref (sk 13), .ref a0]) rfl ?_
  have ri2 : 0 ≤ iv (sk 22) 2 ∧ iv (sk 22) 2 ≤ 30 := hW.int tsk22 2
  refine d_callV (As := []) (rest := [.ref a0]) C hM (C_takeBack (a0 := (sk 13)) hW hS tsk13  hmr) dX11_undo_5 kV_X11_218 rfl tsk13 rfl rfl (by decide) ck_11 rfl (Nat.le_of_ble_eq_true rfl) ⟨(Nat.le_of_ble_eq_true rfl), (Nat.le_of_ble_eq_true rfl)⟩ hph hph (show 0 + 0 = 0 from rfl) (by decide) (fun rh1 Lh1 clh1 lnh1 ivh1 rvh1 h1 => ?_)
  obtain ⟨f1, rfl, rfl, rfl, rfl, fl1, W1, rgf1, exf1, tbkf1, tkkf1⟩ := h1
  have F1 := hF0.call hX0 fl1 rfl
  refine c_st (st2 := [.int (iI f1), .ref a0]) rfl ?_
  refine hv3 (show 0 ≤ ivh1 (sk 22) 2 ∧ ivh1 (sk 22) 2 ≤ 30 from W1.int tsk22 2) (show 0 ≤ ivh1 (sk 23) 2 ∧ ivh1 (sk 23) 2 ≤ 512 from W1.int tsk23 2) (show ivh1 (sk 22) 2 ≤ iv (sk 22) 2 ∧ ivh1 (sk 23) 2 ≤ iv (sk 23) 2 ∧ MRK sk cl ivh1 rvh1 from exf1) (fun ri3 ri4 gf1 => ?_)
  refine c_if_eq (tgt := 15) C ⟨by omega, by omega⟩ dX11_undo_8 (by decide) (fun c1 => ?_) (fun c1 => ?_)
  · refine c_iconst C dX11_undo_15 ?_
    have pl1 := Phi.le W1 hS
    refine d_callV (As := [.int (iI 0)]) (rest := []) C hM (C_done (a0 := a0) (x := 0) W1 hS t_a0 ⟨by decide, by decide⟩ ) dX11_undo_16 kV_X11_109 rfl t_a0 rfl rfl (by decide) ck_12 rfl (Nat.le_of_ble_eq_true rfl) ⟨(Nat.le_of_ble_eq_true rfl), (Nat.le_of_ble_eq_true rfl)⟩ hph pl1 (show 0 + 0 = 0 from rfl) (by decide) (fun rh2 Lh2 clh2 lnh2 ivh2 rvh2 h2 => ?_)
    obtain ⟨f2, rfl, rfl, rfl, rfl, rfl, fl2, W2, rgf2, exf2, kp11f2, kp12f2, kp13f2, kp14f2, kp15f2, kp16f2⟩ := h2
    refine hv14 (show 1 ≤ ivh1 a0 11 ∧ ivh1 a0 11 ≤ 100 from W1.int t_a0 11) (show ivh1 a0 11 = iv a0 11 from fl1.i t_a0 rfl 11) (show 1 ≤ ivh1 a0 12 ∧ ivh1 a0 12 ≤ 50 from W1.int t_a0 12) (show ivh1 a0 12 = iv a0 12 from fl1.i t_a0 rfl 12) (show (-2147483648) ≤ ivh1 a0 13 ∧ ivh1 a0 13 ≤ 2147483647 from W1.int t_a0 13) (show ivh1 a0 13 = iv a0 13 from fl1.i t_a0 rfl 13) (show (-2147483648) ≤ ivh1 a0 14 ∧ ivh1 a0 14 ≤ 2147483647 from W1.int t_a0 14) (show ivh1 a0 14 = iv a0 14 from fl1.i t_a0 rfl 14) (show (-2147483648) ≤ ivh1 a0 15 ∧ ivh1 a0 15 ≤ 2147483647 from W1.int t_a0 15) (show ivh1 a0 15 = iv a0 15 from fl1.i t_a0 rfl 15) (show (-2147483648) ≤ ivh1 a0 16 ∧ ivh1 a0 16 ≤ 2147483647 from W1.int t_a0 16) (show ivh1 a0 16 = iv a0 16 from fl1.i t_a0 rfl 16) (F1.call hX0 fl2 rfl) (MRK.call exf1.2.2 W1 hS XT.refl fl2 rfl rfl) (fun ri5 ie3 ri6 ie4 ri7 ie5 ri8 ie6 ri9 ie7 ri10 ie8 F2 mr1 => ?_)
    refine c_st (st2 := [.int (iI f2)]) rfl ?_
    refine hv15 (show ivh2 a0 11 = ivh1 a0 11 from kp11f2) (show ivh2 a0 12 = ivh1 a0 12 from kp12f2) (show ivh2 a0 13 = ivh1 a0 13 from kp13f2) (show ivh2 a0 14 = ivh1 a0 14 from kp14f2) (show ivh2 a0 15 = ivh1 a0 15 from kp15f2) (show ivh2 a0 16 = ivh1 a0 16 from kp16f2) (show f2 = (0 : Int) from exf2) (show 1 ≤ ivh2 a0 11 ∧ ivh2 a0 11 ≤ 100 from W2.int t_a0 11) (show 1 ≤ ivh2 a0 12 ∧ ivh2 a0 12 ≤ 50 from W2.int t_a0 12) (show (-2147483648) ≤ ivh2 a0 13 ∧ ivh2 a0 13 ≤ 2147483647 from W2.int t_a0 13) (show (-2147483648) ≤ ivh2 a0 14 ∧ ivh2 a0 14 ≤ 2147483647 from W2.int t_a0 14) (show (-2147483648) ≤ ivh2 a0 15 ∧ ivh2 a0 15 ≤ 2147483647 from W2.int t_a0 15) (show (-2147483648) ≤ ivh2 a0 16 ∧ ivh2 a0 16 ≤ 2147483647 from W2.int t_a0 16) (show 0 ≤ ivh2 (sk 23) 2 ∧ ivh2 (sk 23) 2 ≤ 512 from W2.int tsk23 2) (show ivh2 (sk 23) 2 = ivh1 (sk 23) 2 from fl2.i tsk23 rfl 2) (fun gk11f2 gk12f2 gk13f2 gk14f2 gk15f2 gk16f2 gf2 ri11 ri12 ri13 ri14 ri15 ri16 ri17 ie15 => ?_)
    exact c_iret C dX11_undo_19 rfl (by decide) (rom0 hph pl1 (by decide)) ⟨f2, rfl, rfl, rfl, rfl, F2, W2, ⟨by omega, by omega⟩, ⟨(by omega), mr1⟩, (gk11f2.trans ie3), (gk12f2.trans ie4), (gk13f2.trans ie5), (gk14f2.trans ie6), (gk15f2.trans ie7), (gk16f2.trans ie8), (by
        rcases tbkf1 with ⟨u1, u2, u3⟩ | ⟨u1, u2, ch, u3, u4⟩
        · exact Or.inl ⟨by omega, u2, u3.trans (PSAME.fr W1 hS fl2 rfl rfl rfl rfl rfl rfl rfl)⟩
        · exact Or.inr ⟨by omega, u2, ch, u3, PUND.after hW hS ⟨_, by omega, u3⟩ u4 (PSAME.fr W1 hS fl2 rfl rfl rfl rfl rfl rfl rfl) fl2 rfl rfl⟩), (by
        rcases tbkf1 with ⟨u1, u2, u3⟩ | ⟨u1, u2, -⟩
        · rcases tkkf1 with ⟨v1, v2⟩ | ⟨v1, -⟩
          · exact Or.inl ⟨by omega, v2.call TX.refl W1 fl2 rfl⟩
          · omega
        · rcases tkkf1 with ⟨v1, -⟩ | ⟨v1, ch, v2, v3⟩
          · omega
          · exact Or.inr ⟨by omega, ch, v2, v3.after (el23 hW hS (by omega) v2) hW W1 fl2 rfl⟩), (show rvh1 a0 9 = rv a0 9 from (fl1.r t_a0 rfl 9)), (show rvh1 a0 10 = rv a0 10 from (fl1.r t_a0 rfl 10))⟩
  · refine c_iconst C dX11_undo_11 ?_
    refine c_goto (tgt := 16) C dX11_undo_12 (by decide) ?_
    have pl2 := Phi.le W1 hS
    refine d_callV (As := [.int (iI 1)]) (rest := []) C hM (C_done (a0 := a0) (x := 1) W1 hS t_a0 ⟨by decide, by decide⟩ ) dX11_undo_16 kV_X11_109 rfl t_a0 rfl rfl (by decide) ck_12 rfl (Nat.le_of_ble_eq_true rfl) ⟨(Nat.le_of_ble_eq_true rfl), (Nat.le_of_ble_eq_true rfl)⟩ hph pl2 (show 0 + 0 = 0 from rfl) (by decide) (fun rh3 Lh3 clh3 lnh3 ivh3 rvh3 h3 => ?_)
    obtain ⟨f3, rfl, rfl, rfl, rfl, rfl, fl3, W3, rgf3, exf3, kp11f3, kp12f3, kp13f3, kp14f3, kp15f3, kp16f3⟩ := h3
    refine hv14 (show 1 ≤ ivh1 a0 11 ∧ ivh1 a0 11 ≤ 100 from W1.int t_a0 11) (show ivh1 a0 11 = iv a0 11 from fl1.i t_a0 rfl 11) (show 1 ≤ ivh1 a0 12 ∧ ivh1 a0 12 ≤ 50 from W1.int t_a0 12) (show ivh1 a0 12 = iv a0 12 from fl1.i t_a0 rfl 12) (show (-2147483648) ≤ ivh1 a0 13 ∧ ivh1 a0 13 ≤ 2147483647 from W1.int t_a0 13) (show ivh1 a0 13 = iv a0 13 from fl1.i t_a0 rfl 13) (show (-2147483648) ≤ ivh1 a0 14 ∧ ivh1 a0 14 ≤ 2147483647 from W1.int t_a0 14) (show ivh1 a0 14 = iv a0 14 from fl1.i t_a0 rfl 14) (show (-2147483648) ≤ ivh1 a0 15 ∧ ivh1 a0 15 ≤ 2147483647 from W1.int t_a0 15) (show ivh1 a0 15 = iv a0 15 from fl1.i t_a0 rfl 15) (show (-2147483648) ≤ ivh1 a0 16 ∧ ivh1 a0 16 ≤ 2147483647 from W1.int t_a0 16) (show ivh1 a0 16 = iv a0 16 from fl1.i t_a0 rfl 16) (F1.call hX0 fl3 rfl) (MRK.call exf1.2.2 W1 hS XT.refl fl3 rfl rfl) (fun ri18 ie16 ri19 ie17 ri20 ie18 ri21 ie19 ri22 ie20 ri23 ie21 F3 mr2 => ?_)
    refine c_st (st2 := [.int (iI f3)]) rfl ?_
    refine hv15 (show ivh3 a0 11 = ivh1 a0 11 from kp11f3) (show ivh3 a0 12 = ivh1 a0 12 from kp12f3) (show ivh3 a0 13 = ivh1 a0 13 from kp13f3) (show ivh3 a0 14 = ivh1 a0 14 from kp14f3) (show ivh3 a0 15 = ivh1 a0 15 from kp15f3) (show ivh3 a0 16 = ivh1 a0 16 from kp16f3) (show f3 = (1 : Int) from exf3) (show 1 ≤ ivh3 a0 11 ∧ ivh3 a0 11 ≤ 100 from W3.int t_a0 11) (show 1 ≤ ivh3 a0 12 ∧ ivh3 a0 12 ≤ 50 from W3.int t_a0 12) (show (-2147483648) ≤ ivh3 a0 13 ∧ ivh3 a0 13 ≤ 2147483647 from W3.int t_a0 13) (show (-2147483648) ≤ ivh3 a0 14 ∧ ivh3 a0 14 ≤ 2147483647 from W3.int t_a0 14) (show (-2147483648) ≤ ivh3 a0 15 ∧ ivh3 a0 15 ≤ 2147483647 from W3.int t_a0 15) (show (-2147483648) ≤ ivh3 a0 16 ∧ ivh3 a0 16 ≤ 2147483647 from W3.int t_a0 16) (show 0 ≤ ivh3 (sk 23) 2 ∧ ivh3 (sk 23) 2 ≤ 512 from W3.int tsk23 2) (show ivh3 (sk 23) 2 = ivh1 (sk 23) 2 from fl3.i tsk23 rfl 2) (fun gk11f3 gk12f3 gk13f3 gk14f3 gk15f3 gk16f3 gf3 ri24 ri25 ri26 ri27 ri28 ri29 ri30 ie28 => ?_)
    exact c_iret C dX11_undo_19 rfl (by decide) (rom0 hph pl2 (by decide)) ⟨f3, rfl, rfl, rfl, rfl, F3, W3, ⟨by omega, by omega⟩, ⟨(by omega), mr2⟩, (gk11f3.trans ie16), (gk12f3.trans ie17), (gk13f3.trans ie18), (gk14f3.trans ie19), (gk15f3.trans ie20), (gk16f3.trans ie21), (by
        rcases tbkf1 with ⟨u1, u2, u3⟩ | ⟨u1, u2, ch, u3, u4⟩
        · exact Or.inl ⟨by omega, u2, u3.trans (PSAME.fr W1 hS fl3 rfl rfl rfl rfl rfl rfl rfl)⟩
        · exact Or.inr ⟨by omega, u2, ch, u3, PUND.after hW hS ⟨_, by omega, u3⟩ u4 (PSAME.fr W1 hS fl3 rfl rfl rfl rfl rfl rfl rfl) fl3 rfl rfl⟩), (by
        rcases tbkf1 with ⟨u1, u2, u3⟩ | ⟨u1, u2, -⟩
        · rcases tkkf1 with ⟨v1, v2⟩ | ⟨v1, -⟩
          · exact Or.inl ⟨by omega, v2.call TX.refl W1 fl3 rfl⟩
          · omega
        · rcases tkkf1 with ⟨v1, -⟩ | ⟨v1, ch, v2, v3⟩
          · omega
          · exact Or.inr ⟨by omega, ch, v2, v3.after (el23 hW hS (by omega) v2) hW W1 fl3 rfl⟩), (show rvh1 a0 9 = rv a0 9 from (fl1.r t_a0 rfl 9)), (show rvh1 a0 10 = rv a0 10 from (fl1.r t_a0 rfl 10))⟩
end
section
set_option maxHeartbeats 4000000 in
set_option maxRecDepth 100000 in
theorem C_addText {l : Launch} {G : GT} {mi : Nat} {sk : Nat → Nat} {L : List Nat} {cl ln : Nat → Nat} {iv : Nat → Nat → Int} {rv : Nat → Nat → Option Nat}  {a0 : Nat} (hW : WT (g0 G) sk L cl ln iv rv) (hS : SKL sk L cl) (t_a0 : ty L cl a0 1)  : Mc l G mi (Phi (g0 G) sk) PHM yX11_addText cX11_addText 3 (some .int) 4 [.ref a0] L cl ln iv rv 0 (fun v L2 cl2 ln2 iv2 rv2 => ∃ f : Int, v = some (.int (iI f)) ∧ XT L cl ln L2 cl2 ln2 ∧ fT [1, 3, 33] L cl iv rv iv2 rv2 ∧ WT (g0 G) sk L2 cl2 ln2 iv2 rv2 ∧ (-2147483648 ≤ f ∧ f ≤ 2147483647) ∧ (∀ ss, CT iv rv (sk 2) ss → ((f = -1 ∧ iv2 (sk 3) 2 = iv (sk 3) 2 ∧ ¬ (TOK ss (iv (sk 2) 2) ∧ iv (sk 3) 2 + iv (sk 2) 2 ≤ 500)) ∨ (f = iv2 (sk 3) 2 ∧ TOK ss (iv (sk 2) 2) ∧ iv (sk 3) 2 + iv (sk 2) 2 ≤ 500 ∧ ((iv (sk 2) 2 = 0 ∧ iv2 (sk 3) 2 = 0) ∨ (iv (sk 2) 2 ≠ 0 ∧ iv2 (sk 3) 2 = iv (sk 3) 2 + iv (sk 2) 2))))) ∧ iv2 a0 11 = iv a0 11 ∧ iv2 a0 12 = iv a0 12 ∧ iv2 a0 13 = iv a0 13 ∧ iv2 a0 14 = iv a0 14 ∧ iv2 a0 15 = iv a0 15 ∧ iv2 a0 16 = iv a0 16 ∧ (∀ ss tt, CT iv rv (sk 2) ss → CT iv rv (sk 3) tt → (f = -1 → CT iv2 rv2 (sk 3) tt) ∧ (f ≠ -1 → CT iv2 rv2 (sk 3) (apd tt (iv (sk 3) 2).toNat ss))) ∧ rv2 a0 9 = rv a0 9 ∧ rv2 a0 10 = rv a0 10) := by
  refine Mc.mk (by decide) (Nat.le_of_ble_eq_true rfl) ?_
  intro p e s m args below meth c A C hM
  refine hv14 (Phi.le hW hS) (show ty L cl (sk 2) 2 from ⟨(hS 2 rfl).1, by rw [(hS 2 rfl).2]; rfl⟩) (show ty L cl (sk 3) 3 from ⟨(hS 3 rfl).1, by rw [(hS 3 rfl).2]; rfl⟩) (show ty L cl (sk 4) 4 from ⟨(hS 4 rfl).1, by rw [(hS 4 rfl).2]; rfl⟩) (show ty L cl (sk 5) 5 from ⟨(hS 5 rfl).1, by rw [(hS 5 rfl).2]; rfl⟩) (show ty L cl (sk 13) 13 from ⟨(hS 13 rfl).1, by rw [(hS 13 rfl).2]; rfl⟩) (show ty L cl (sk 14) 14 from ⟨(hS 14 rfl).1, by rw [(hS 14 rfl).2]; rfl⟩) (show ty L cl (sk 15) 15 from ⟨(hS 15 rfl).1, by rw [(hS 15 rfl).2]; rfl⟩) (show ty L cl (sk 16) 16 from ⟨(hS 16 rfl).1, by rw [(hS 16 rfl).2]; rfl⟩) (show ty L cl (sk 17) 17 from ⟨(hS 17 rfl).1, by rw [(hS 17 rfl).2]; rfl⟩) (show ty L cl (sk 22) 22 from ⟨(hS 22 rfl).1, by rw [(hS 22 rfl).2]; rfl⟩) (show ty L cl (sk 23) 23 from ⟨(hS 23 rfl).1, by rw [(hS 23 rfl).2]; rfl⟩) (show XT L cl ln L cl ln from XT.refl) (show fT [1, 3, 33] L cl iv rv iv rv from fT.refl) (fun hph tsk2 tsk3 tsk4 tsk5 tsk13 tsk14 tsk15 tsk16 tsk17 tsk22 tsk23 hX0 hF0 => ?_)
  refine hv2 (show 0 ≤ iv (sk 2) 2 ∧ iv (sk 2) 2 ≤ 3000 from hW.int tsk2 2) (show 0 ≤ iv (sk 3) 2 ∧ iv (sk 3) 2 ≤ 500 from hW.int tsk3 2) (fun ri1 ri2 => ?_)
  refine c_iconst C dX11_addText_0 ?_
  refine c_istore_n (lv2 := [(1, .int (iI 0)), (0, .ref a0)]) C dX11_addText_1 (by decide) rfl ?_
  have Lp1 : ∀ (nn : Nat) (k : Int) (Lb1 : List Nat) (clb1 lnb1 : Nat → Nat) (ivb1 : Nat → Nat → Int) (rvb1 : Nat → Nat → Option Nat) , 3001 - k < (nn : Int) → XT L cl ln Lb1 clb1 lnb1 → WT (g0 G) sk Lb1 clb1 lnb1 ivb1 rvb1 → fT [1, 3, 33] L cl iv rv ivb1 rvb1 → (0 ≤ k ∧ k ≤ 3000) → (ivb1 (sk 3) 2 = iv (sk 3) 2) → (∀ ss, CT iv rv (sk 2) ss → TOK ss k) → (∀ tt, CT iv rv (sk 3) tt → CT ivb1 rvb1 (sk 3) tt) → (ivb1 a0 11 = iv a0 11) → (ivb1 a0 12 = iv a0 12) → (ivb1 a0 13 = iv a0 13) → (ivb1 a0 14 = iv a0 14) → (ivb1 a0 15 = iv a0 15) → (ivb1 a0 16 = iv a0 16) → (rvb1 a0 9 = rv a0 9) → (rvb1 a0 10 = rv a0 10) → cw p l e 4 ((PHM) + 0 - ((Phi (g0 G) sk) ln rv)) s m args below meth c G A 3 (MQ below (Qu G A (Qp G (Phi (g0 G) sk) ((Phi (g0 G) sk) ln rv) 0 (fun v L2 cl2 ln2 iv2 rv2 => ∃ f : Int, v = some (.int (iI f)) ∧ XT L cl ln L2 cl2 ln2 ∧ fT [1, 3, 33] L cl iv rv iv2 rv2 ∧ WT (g0 G) sk L2 cl2 ln2 iv2 rv2 ∧ (-2147483648 ≤ f ∧ f ≤ 2147483647) ∧ (∀ ss, CT iv rv (sk 2) ss → ((f = -1 ∧ iv2 (sk 3) 2 = iv (sk 3) 2 ∧ ¬ (TOK ss (iv (sk 2) 2) ∧ iv (sk 3) 2 + iv (sk 2) 2 ≤ 500)) ∨ (f = iv2 (sk 3) 2 ∧ TOK ss (iv (sk 2) 2) ∧ iv (sk 3) 2 + iv (sk 2) 2 ≤ 500 ∧ ((iv (sk 2) 2 = 0 ∧ iv2 (sk 3) 2 = 0) ∨ (iv (sk 2) 2 ≠ 0 ∧ iv2 (sk 3) 2 = iv (sk 3) 2 + iv (sk 2) 2))))) ∧ iv2 a0 11 = iv a0 11 ∧ iv2 a0 12 = iv a0 12 ∧ iv2 a0 13 = iv a0 13 ∧ iv2 a0 14 = iv a0 14 ∧ iv2 a0 15 = iv a0 15 ∧ iv2 a0 16 = iv a0 16 ∧ (∀ ss tt, CT iv rv (sk 2) ss → CT iv rv (sk 3) tt → (f = -1 → CT iv2 rv2 (sk 3) tt) ∧ (f ≠ -1 → CT iv2 rv2 (sk 3) (apd tt (iv (sk 3) 2).toNat ss))) ∧ rv2 a0 9 = rv a0 9 ∧ rv2 a0 10 = rv a0 10))) args s (((PHM) + 0 - ((Phi (g0 G) sk) ln rv)) / 16) ((PHM) + 0 - ((Phi (g0 G) sk) ln rv)) A) (Phi (g0 G) sk) ((Phi (g0 G) sk) ln rv) Lb1 clb1 lnb1 ivb1 rvb1 0 2 [(1, .int (iI k)), (0, .ref a0)] [] := by
    intro nn
    induction nn with
    | zero =>
      intro  k Lb1 clb1 lnb1 ivb1 rvb1 hm Xb1 Wb1 Fb1  hk h33 htk hc3 hkp11 hkp12 hkp13 hkp14 hkp15 hkp16 hkr9 hkr10
      have skb1 := Xb1.skl hS
      exact absurd hm (by omega)
    | succ nn ih1 =>
      intro  k Lb1 clb1 lnb1 ivb1 rvb1 hm Xb1 Wb1 Fb1  hk h33 htk hc3 hkp11 hkp12 hkp13 hkp14 hkp15 hkp16 hkr9 hkr10
      have skb1 := Xb1.skl hS
      refine c_iload_n (j := 0) C dX11_addText_2 rfl ?_
      refine c_aload_n (j := 1) (x := a0) C dX11_addText_3 rfl ?_
      have ty1 := Xb1.ty t_a0
      obtain ⟨rb1, rq1, trb1⟩ := Wb1.ref ty1 0 rfl rfl rfl
      have erb1 := Wb1.sk trb1 (by decide) rfl
      subst erb1
      refine c_getr (k := 0) C ck_12 dX11_addText_4 w2_44 (by decide) ty1 rfl rfl (by decide) rfl rq1 ?_
      refine c_st (st2 := [.ref (sk 2), .int (iI k)]) rfl ?_
      refine hv2 (Xb1.ty tsk2) (show ivb1 (sk 2) 2 = iv (sk 2) 2 from Fb1.i tsk2 rfl 2) (fun ty2 ie1 => ?_)
      have ri3 : 0 ≤ ivb1 (sk 2) 2 ∧ ivb1 (sk 2) 2 ≤ 3000 := Wb1.int ty2 2
      refine c_get (k := 2) C ck_2 dX11_addText_7 w1_44 (by decide) ty2 rfl rfl (by decide) rfl ?_
      refine c_icmp_ge (tgt := 53) C (r32_c (lo := 0) (hi := 3000) hk.1 hk.2 (by decide) (by decide)) (r32_c (lo := 0) (hi := 3000) ri3.1 ri3.2 (by decide) (by decide)) dX11_addText_10 (by decide) (fun c1 => ?_) (fun c1 => ?_)
      · refine c_aload_n (j := 1) (x := a0) C dX11_addText_53 rfl ?_
        obtain ⟨rb2, rq2, trb2⟩ := Wb1.ref ty1 1 rfl rfl rfl
        have erb2 := Wb1.sk trb2 (by decide) rfl
        subst erb2
        refine c_getr (k := 1) C ck_12 dX11_addText_54 w2_45 (by decide) ty1 rfl rfl (by decide) rfl rq2 ?_
        refine c_st (st2 := [.ref (sk 3)]) rfl ?_
        have ty3 := Xb1.ty tsk3
        have ri4 : 0 ≤ ivb1 (sk 3) 2 ∧ ivb1 (sk 3) 2 ≤ 500 := Wb1.int ty3 2
        refine c_get (k := 2) C ck_2 dX11_addText_57 w1_44 (by decide) ty3 rfl rfl (by decide) rfl ?_
        refine c_aload_n (j := 1) (x := a0) C dX11_addText_60 rfl ?_
        refine c_getr (k := 0) C ck_12 dX11_addText_61 w2_44 (by decide) ty1 rfl rfl (by decide) rfl rq1 ?_
        refine c_st (st2 := [.ref (sk 2), .int (iI (ivb1 (sk 3) 2))]) rfl ?_
        refine c_get (k := 2) C ck_2 dX11_addText_64 w1_44 (by decide) ty2 rfl rfl (by decide) rfl ?_
        refine c_iadd C dX11_addText_67 ?_
        refine c_sipush (z := 500) C dX11_addText_68 (by decide) ?_
        refine c_icmp_le (tgt := 81) C ⟨by omega, by omega⟩ ⟨by decide, by decide⟩ dX11_addText_71 (by decide) (fun c2 => ?_) (fun c2 => ?_)
        · refine c_aload_n (j := 1) (x := a0) C dX11_addText_81 rfl ?_
          refine c_getr (k := 0) C ck_12 dX11_addText_82 w2_44 (by decide) ty1 rfl rfl (by decide) rfl rq1 ?_
          refine c_st (st2 := [.ref (sk 2)]) rfl ?_
          refine c_get (k := 2) C ck_2 dX11_addText_85 w1_44 (by decide) ty2 rfl rfl (by decide) rfl ?_
          refine c_if_ne (tgt := 98) C (r32_c (lo := 0) (hi := 3000) ri3.1 ri3.2 (by decide) (by decide)) dX11_addText_88 (by decide) (fun c3 => ?_) (fun c3 => ?_)
          · refine c_aload_n (j := 1) (x := a0) C dX11_addText_98 rfl ?_
            refine c_getr (k := 1) C ck_12 dX11_addText_99 w2_45 (by decide) ty1 rfl rfl (by decide) rfl rq2 ?_
            refine c_st (st2 := [.ref (sk 3)]) rfl ?_
            refine c_aload_n (j := 1) (x := a0) C dX11_addText_102 rfl ?_
            refine c_getr (k := 0) C ck_12 dX11_addText_103 w2_44 (by decide) ty1 rfl rfl (by decide) rfl rq1 ?_
            refine c_st (st2 := [.ref (sk 2), .ref (sk 3)]) rfl ?_
            have pl1 := Phi.le Wb1 skb1
            refine d_callV (As := [.ref (sk 2)]) (rest := []) C hM (C_addAll_3 (a0 := (sk 3)) (a1 := (sk 2)) Wb1 skb1 ty3 ty2  ) dX11_addText_106 kV_X11_227 rfl ty3 rfl rfl (by decide) ck_2 rfl (Nat.le_of_ble_eq_true rfl) ⟨(Nat.le_of_ble_eq_true rfl), (Nat.le_of_ble_eq_true rfl)⟩ hph pl1 (show 0 + 0 = 0 from rfl) (by decide) (fun rh1 Lh1 clh1 lnh1 ivh1 rvh1 h1 => ?_)
            obtain ⟨rfl, xl1, fl1, W1, exf1⟩ := h1
            refine hv12 (Fb1.call Xb1 fl1 rfl) (Xb1.ty tsk4) (Xb1.ty tsk5) (Xb1.ty tsk13) (Xb1.ty tsk14) (Xb1.ty tsk15) (Xb1.ty tsk16) (Xb1.ty tsk17) (Xb1.ty tsk22) (Xb1.ty tsk23) (Xb1.trans xl1) (xl1.skl skb1) (fun F1 ty4 ty5 ty6 ty7 ty8 ty9 ty10 ty11 ty12 X1 sk1 => ?_)
            refine c_st (st2 := []) rfl ?_
            refine hv2 (xl1.ty ty3) (show ivh1 (sk 3) 2 = min (ivb1 (sk 3) 2 + ivb1 (sk 2) 2) 500 ∧ APD ivb1 rvb1 (sk 3) (sk 2) ivh1 rvh1 from exf1) (fun ty13 gf1 => ?_)
            have ri5 : 0 ≤ ivh1 (sk 3) 2 ∧ ivh1 (sk 3) 2 ≤ 500 := W1.int ty13 2
            refine c_aload_n (j := 1) (x := a0) C dX11_addText_109 rfl ?_
            refine c_aload_n (j := 1) (x := a0) C dX11_addText_110 rfl ?_
            refine hv2 (xl1.ty ty1) (show rvh1 a0 1 = rvb1 a0 1 from (fl1.r ty1 rfl 1)) (fun ty14 re1 => ?_)
            rw [rq2] at re1
            refine c_getr (k := 1) C ck_12 dX11_addText_111 w2_45 (by decide) ty14 rfl rfl (by decide) rfl re1 ?_
            refine c_st (st2 := [.ref (sk 3), .ref a0]) rfl ?_
            refine c_get (k := 2) C ck_2 dX11_addText_114 w1_44 (by decide) ty13 rfl rfl (by decide) rfl ?_
            have pl2 := Phi.le W1 sk1
            refine d_callV (As := [.int (iI (ivh1 (sk 3) 2))]) (rest := []) C hM (C_done (a0 := a0) (x := ivh1 (sk 3) 2) W1 sk1 ty14 (by omega) ) dX11_addText_117 kV_X11_109 rfl ty14 rfl rfl (by decide) ck_12 rfl (Nat.le_of_ble_eq_true rfl) ⟨(Nat.le_of_ble_eq_true rfl), (Nat.le_of_ble_eq_true rfl)⟩ hph pl2 (show 0 + 0 = 0 from rfl) (by decide) (fun rh2 Lh2 clh2 lnh2 ivh2 rvh2 h2 => ?_)
            obtain ⟨f2, rfl, rfl, rfl, rfl, rfl, fl2, W2, rgf2, exf2, kp11f2, kp12f2, kp13f2, kp14f2, kp15f2, kp16f2⟩ := h2
            refine hv13 (show 1 ≤ ivh1 a0 11 ∧ ivh1 a0 11 ≤ 100 from W1.int ty14 11) (show ivh1 a0 11 = ivb1 a0 11 from fl1.i ty1 rfl 11) (show 1 ≤ ivh1 a0 12 ∧ ivh1 a0 12 ≤ 50 from W1.int ty14 12) (show ivh1 a0 12 = ivb1 a0 12 from fl1.i ty1 rfl 12) (show (-2147483648) ≤ ivh1 a0 13 ∧ ivh1 a0 13 ≤ 2147483647 from W1.int ty14 13) (show ivh1 a0 13 = ivb1 a0 13 from fl1.i ty1 rfl 13) (show (-2147483648) ≤ ivh1 a0 14 ∧ ivh1 a0 14 ≤ 2147483647 from W1.int ty14 14) (show ivh1 a0 14 = ivb1 a0 14 from fl1.i ty1 rfl 14) (show (-2147483648) ≤ ivh1 a0 15 ∧ ivh1 a0 15 ≤ 2147483647 from W1.int ty14 15) (show ivh1 a0 15 = ivb1 a0 15 from fl1.i ty1 rfl 15) (show (-2147483648) ≤ ivh1 a0 16 ∧ ivh1 a0 16 ≤ 2147483647 from W1.int ty14 16) (show ivh1 a0 16 = ivb1 a0 16 from fl1.i ty1 rfl 16) (F1.call X1 fl2 rfl) (fun ri6 ie4 ri7 ie6 ri8 ie8 ri9 ie10 ri10 ie12 ri11 ie14 F2 => ?_)
            refine c_st (st2 := [.int (iI f2)]) rfl ?_
            refine hv17 (show ivh2 a0 11 = ivh1 a0 11 from kp11f2) (show ivh2 a0 12 = ivh1 a0 12 from kp12f2) (show ivh2 a0 13 = ivh1 a0 13 from kp13f2) (show ivh2 a0 14 = ivh1 a0 14 from kp14f2) (show ivh2 a0 15 = ivh1 a0 15 from kp15f2) (show ivh2 a0 16 = ivh1 a0 16 from kp16f2) (show f2 = (ivh1 (sk 3) 2) from exf2) (show 1 ≤ ivh2 a0 11 ∧ ivh2 a0 11 ≤ 100 from W2.int ty14 11) (show 1 ≤ ivh2 a0 12 ∧ ivh2 a0 12 ≤ 50 from W2.int ty14 12) (show (-2147483648) ≤ ivh2 a0 13 ∧ ivh2 a0 13 ≤ 2147483647 from W2.int ty14 13) (show (-2147483648) ≤ ivh2 a0 14 ∧ ivh2 a0 14 ≤ 2147483647 from W2.int ty14 14) (show (-2147483648) ≤ ivh2 a0 15 ∧ ivh2 a0 15 ≤ 2147483647 from W2.int ty14 15) (show (-2147483648) ≤ ivh2 a0 16 ∧ ivh2 a0 16 ≤ 2147483647 from W2.int ty14 16) (show 0 ≤ ivh2 (sk 3) 2 ∧ ivh2 (sk 3) 2 ≤ 500 from W2.int ty13 2) (show ivh2 (sk 3) 2 = ivh1 (sk 3) 2 from fl2.i ty13 rfl 2) (xl1.ty ty2) (show ivh1 (sk 2) 2 = ivb1 (sk 2) 2 from fl1.i ty2 rfl 2) (fun gk11f2 gk12f2 gk13f2 gk14f2 gk15f2 gk16f2 gf2 ri12 ri13 ri14 ri15 ri16 ri17 ri18 ie22 ty15 ie24 => ?_)
            refine hv2 (show 0 ≤ ivh2 (sk 2) 2 ∧ ivh2 (sk 2) 2 ≤ 3000 from W2.int ty15 2) (show ivh2 (sk 2) 2 = ivh1 (sk 2) 2 from fl2.i ty15 rfl 2) (fun ri19 ie23 => ?_)
            exact c_iret C dX11_addText_120 rfl (by decide) (rom0 hph pl2 (by decide)) ⟨f2, rfl, X1, F2, W2, ⟨by omega, by omega⟩, (fun ss hs => Or.inr ⟨by omega, fun j hj => htk ss hs j (by omega), by omega, by omega⟩), (gk11f2.trans (ie4.trans hkp11)), (gk12f2.trans (ie6.trans hkp12)), (gk13f2.trans (ie8.trans hkp13)), (gk14f2.trans (ie10.trans hkp14)), (gk15f2.trans (ie12.trans hkp15)), (gk16f2.trans (ie14.trans hkp16)), (fun ss tt hs ht => ⟨fun q => absurd q (by omega), fun _ => by
                have q := gf1.2 ss tt (CT.fr hs hW tsk2 Fb1 rfl rfl rfl rfl rfl) (hc3 tt ht) (by omega)
                rw [show ivb1 (sk 3) 2 = iv (sk 3) 2 by omega] at q
                exact CT.fr (q) W1 ty13 fl2 rfl rfl rfl rfl rfl⟩), (Eq.trans (show rvh1 a0 9 = rvb1 a0 9 from (fl1.r ty1 rfl 9)) (show rvb1 a0 9 = rv a0 9 from hkr9)), (Eq.trans (show rvh1 a0 10 = rvb1 a0 10 from (fl1.r ty1 rfl 10)) (show rvb1 a0 10 = rv a0 10 from hkr10))⟩
          · refine c_aload_n (j := 1) (x := a0) C dX11_addText_91 rfl ?_
            refine c_getr (k := 1) C ck_12 dX11_addText_92 w2_45 (by decide) ty1 rfl rfl (by decide) rfl rq2 ?_
            refine c_st (st2 := [.ref (sk 3)]) rfl ?_
            have pl3 := Phi.le Wb1 skb1
            refine d_callV (As := []) (rest := []) C hM (C_clear_3 (a0 := (sk 3)) Wb1 skb1 ty3  ) dX11_addText_95 kV_X11_164 rfl ty3 rfl rfl (by decide) ck_2 rfl (Nat.le_of_ble_eq_true rfl) ⟨(Nat.le_of_ble_eq_true rfl), (Nat.le_of_ble_eq_true rfl)⟩ hph pl3 (show 0 + 0 = 0 from rfl) (by decide) (fun rh3 Lh3 clh3 lnh3 ivh3 rvh3 h3 => ?_)
            obtain ⟨rfl, rfl, rfl, rfl, rfl, fl3, W3, exf3⟩ := h3
            have F3 := Fb1.call Xb1 fl3 rfl
            refine c_st (st2 := []) rfl ?_
            refine hv2 (show 0 ≤ ivh3 (sk 3) 2 ∧ ivh3 (sk 3) 2 ≤ 500 from W3.int ty3 2) (show ivh3 (sk 3) 2 = 0 from exf3) (fun ri20 gf3 => ?_)
            refine c_aload_n (j := 1) (x := a0) C dX11_addText_98 rfl ?_
            refine c_getr (k := 1) C ck_12 dX11_addText_99 w2_45 (by decide) ty1 rfl rfl (by decide) rfl rq2 ?_
            refine c_st (st2 := [.ref (sk 3)]) rfl ?_
            refine c_aload_n (j := 1) (x := a0) C dX11_addText_102 rfl ?_
            refine c_getr (k := 0) C ck_12 dX11_addText_103 w2_44 (by decide) ty1 rfl rfl (by decide) rfl rq1 ?_
            refine c_st (st2 := [.ref (sk 2), .ref (sk 3)]) rfl ?_
            refine hv2 (show 0 ≤ ivh3 (sk 2) 2 ∧ ivh3 (sk 2) 2 ≤ 3000 from W3.int ty2 2) (show ivh3 (sk 2) 2 = ivb1 (sk 2) 2 from fl3.i ty2 rfl 2) (fun ri21 ie26 => ?_)
            refine d_callV (As := [.ref (sk 2)]) (rest := []) C hM (C_addAll_3 (a0 := (sk 3)) (a1 := (sk 2)) W3 skb1 ty3 ty2  ) dX11_addText_106 kV_X11_227 rfl ty3 rfl rfl (by decide) ck_2 rfl (Nat.le_of_ble_eq_true rfl) ⟨(Nat.le_of_ble_eq_true rfl), (Nat.le_of_ble_eq_true rfl)⟩ hph pl3 (show 0 + 0 = 0 from rfl) (by decide) (fun rh4 Lh4 clh4 lnh4 ivh4 rvh4 h4 => ?_)
            obtain ⟨rfl, xl4, fl4, W4, exf4⟩ := h4
            refine hv12 (F3.call Xb1 fl4 rfl) (Xb1.ty tsk4) (Xb1.ty tsk5) (Xb1.ty tsk13) (Xb1.ty tsk14) (Xb1.ty tsk15) (Xb1.ty tsk16) (Xb1.ty tsk17) (Xb1.ty tsk22) (Xb1.ty tsk23) (Xb1.trans xl4) (xl4.skl skb1) (fun F4 ty16 ty17 ty18 ty19 ty20 ty21 ty22 ty23 ty24 X2 sk2 => ?_)
            refine c_st (st2 := []) rfl ?_
            refine hv2 (xl4.ty ty3) (show ivh4 (sk 3) 2 = min (ivh3 (sk 3) 2 + ivh3 (sk 2) 2) 500 ∧ APD ivh3 rvb1 (sk 3) (sk 2) ivh4 rvh4 from exf4) (fun ty25 gf4 => ?_)
            have ri22 : 0 ≤ ivh4 (sk 3) 2 ∧ ivh4 (sk 3) 2 ≤ 500 := W4.int ty25 2
            refine c_aload_n (j := 1) (x := a0) C dX11_addText_109 rfl ?_
            refine c_aload_n (j := 1) (x := a0) C dX11_addText_110 rfl ?_
            refine hv2 (xl4.ty ty1) (show rvh4 a0 1 = rvb1 a0 1 from (fl4.r ty1 rfl 1)) (fun ty26 re2 => ?_)
            rw [rq2] at re2
            refine c_getr (k := 1) C ck_12 dX11_addText_111 w2_45 (by decide) ty26 rfl rfl (by decide) rfl re2 ?_
            refine c_st (st2 := [.ref (sk 3), .ref a0]) rfl ?_
            refine c_get (k := 2) C ck_2 dX11_addText_114 w1_44 (by decide) ty25 rfl rfl (by decide) rfl ?_
            have pl4 := Phi.le W4 sk2
            refine d_callV (As := [.int (iI (ivh4 (sk 3) 2))]) (rest := []) C hM (C_done (a0 := a0) (x := ivh4 (sk 3) 2) W4 sk2 ty26 (by omega) ) dX11_addText_117 kV_X11_109 rfl ty26 rfl rfl (by decide) ck_12 rfl (Nat.le_of_ble_eq_true rfl) ⟨(Nat.le_of_ble_eq_true rfl), (Nat.le_of_ble_eq_true rfl)⟩ hph pl4 (show 0 + 0 = 0 from rfl) (by decide) (fun rh5 Lh5 clh5 lnh5 ivh5 rvh5 h5 => ?_)
            obtain ⟨f5, rfl, rfl, rfl, rfl, rfl, fl5, W5, rgf5, exf5, kp11f5, kp12f5, kp13f5, kp14f5, kp15f5, kp16f5⟩ := h5
            refine hv19 (show 1 ≤ ivh4 a0 11 ∧ ivh4 a0 11 ≤ 100 from W4.int ty26 11) (show ivh4 a0 11 = ivh3 a0 11 from fl4.i ty1 rfl 11) (show ivh3 a0 11 = ivb1 a0 11 from fl3.i ty1 rfl 11) (show 1 ≤ ivh4 a0 12 ∧ ivh4 a0 12 ≤ 50 from W4.int ty26 12) (show ivh4 a0 12 = ivh3 a0 12 from fl4.i ty1 rfl 12) (show ivh3 a0 12 = ivb1 a0 12 from fl3.i ty1 rfl 12) (show (-2147483648) ≤ ivh4 a0 13 ∧ ivh4 a0 13 ≤ 2147483647 from W4.int ty26 13) (show ivh4 a0 13 = ivh3 a0 13 from fl4.i ty1 rfl 13) (show ivh3 a0 13 = ivb1 a0 13 from fl3.i ty1 rfl 13) (show (-2147483648) ≤ ivh4 a0 14 ∧ ivh4 a0 14 ≤ 2147483647 from W4.int ty26 14) (show ivh4 a0 14 = ivh3 a0 14 from fl4.i ty1 rfl 14) (show ivh3 a0 14 = ivb1 a0 14 from fl3.i ty1 rfl 14) (show (-2147483648) ≤ ivh4 a0 15 ∧ ivh4 a0 15 ≤ 2147483647 from W4.int ty26 15) (show ivh4 a0 15 = ivh3 a0 15 from fl4.i ty1 rfl 15) (show ivh3 a0 15 = ivb1 a0 15 from fl3.i ty1 rfl 15) (show (-2147483648) ≤ ivh4 a0 16 ∧ ivh4 a0 16 ≤ 2147483647 from W4.int ty26 16) (show ivh4 a0 16 = ivh3 a0 16 from fl4.i ty1 rfl 16) (show ivh3 a0 16 = ivb1 a0 16 from fl3.i ty1 rfl 16) (F4.call X2 fl5 rfl) (fun ri23 ie28 ie29 ri24 ie31 ie32 ri25 ie34 ie35 ri26 ie37 ie38 ri27 ie40 ie41 ri28 ie43 ie44 F5 => ?_)
            refine c_st (st2 := [.int (iI f5)]) rfl ?_
            refine hv17 (show ivh5 a0 11 = ivh4 a0 11 from kp11f5) (show ivh5 a0 12 = ivh4 a0 12 from kp12f5) (show ivh5 a0 13 = ivh4 a0 13 from kp13f5) (show ivh5 a0 14 = ivh4 a0 14 from kp14f5) (show ivh5 a0 15 = ivh4 a0 15 from kp15f5) (show ivh5 a0 16 = ivh4 a0 16 from kp16f5) (show f5 = (ivh4 (sk 3) 2) from exf5) (show 1 ≤ ivh5 a0 11 ∧ ivh5 a0 11 ≤ 100 from W5.int ty26 11) (show 1 ≤ ivh5 a0 12 ∧ ivh5 a0 12 ≤ 50 from W5.int ty26 12) (show (-2147483648) ≤ ivh5 a0 13 ∧ ivh5 a0 13 ≤ 2147483647 from W5.int ty26 13) (show (-2147483648) ≤ ivh5 a0 14 ∧ ivh5 a0 14 ≤ 2147483647 from W5.int ty26 14) (show (-2147483648) ≤ ivh5 a0 15 ∧ ivh5 a0 15 ≤ 2147483647 from W5.int ty26 15) (show (-2147483648) ≤ ivh5 a0 16 ∧ ivh5 a0 16 ≤ 2147483647 from W5.int ty26 16) (show 0 ≤ ivh5 (sk 3) 2 ∧ ivh5 (sk 3) 2 ≤ 500 from W5.int ty25 2) (show ivh5 (sk 3) 2 = ivh4 (sk 3) 2 from fl5.i ty25 rfl 2) (xl4.ty ty2) (show ivh4 (sk 2) 2 = ivh3 (sk 2) 2 from fl4.i ty2 rfl 2) (fun gk11f5 gk12f5 gk13f5 gk14f5 gk15f5 gk16f5 gf5 ri29 ri30 ri31 ri32 ri33 ri34 ri35 ie52 ty27 ie54 => ?_)
            refine hv2 (show 0 ≤ ivh5 (sk 2) 2 ∧ ivh5 (sk 2) 2 ≤ 3000 from W5.int ty27 2) (show ivh5 (sk 2) 2 = ivh4 (sk 2) 2 from fl5.i ty27 rfl 2) (fun ri36 ie53 => ?_)
            exact c_iret C dX11_addText_120 rfl (by decide) (rom0 hph pl4 (by decide)) ⟨f5, rfl, X2, F5, W5, ⟨by omega, by omega⟩, (fun ss hs => Or.inr ⟨by omega, fun j hj => htk ss hs j (by omega), by omega, by omega⟩), (gk11f5.trans (ie28.trans (ie29.trans hkp11))), (gk12f5.trans (ie31.trans (ie32.trans hkp12))), (gk13f5.trans (ie34.trans (ie35.trans hkp13))), (gk14f5.trans (ie37.trans (ie38.trans hkp14))), (gk15f5.trans (ie40.trans (ie41.trans hkp15))), (gk16f5.trans (ie43.trans (ie44.trans hkp16))), (fun ss tt hs ht => ⟨fun q => absurd q (by omega), fun _ => CT.zero (by omega)⟩), (Eq.trans (show rvh4 a0 9 = rvb1 a0 9 from (fl4.r ty1 rfl 9)) (show rvb1 a0 9 = rv a0 9 from hkr9)), (Eq.trans (show rvh4 a0 10 = rvb1 a0 10 from (fl4.r ty1 rfl 10)) (show rvb1 a0 10 = rv a0 10 from hkr10))⟩
        · refine c_aload_n (j := 1) (x := a0) C dX11_addText_74 rfl ?_
          refine c_bipush (z := 6) C dX11_addText_75 (by decide) ?_
          have pl5 := Phi.le Wb1 skb1
          refine d_callV (As := [.int (iI 6)]) (rest := []) C hM (C_refuse (a0 := a0) (x := 6) Wb1 skb1 ty1 ⟨by decide, by decide⟩ ) dX11_addText_77 kV_X11_102 rfl ty1 rfl rfl (by decide) ck_12 rfl (Nat.le_of_ble_eq_true rfl) ⟨(Nat.le_of_ble_eq_true rfl), (Nat.le_of_ble_eq_true rfl)⟩ hph pl5 (show 0 + 0 = 0 from rfl) (by decide) (fun rh6 Lh6 clh6 lnh6 ivh6 rvh6 h6 => ?_)
          obtain ⟨f6, rfl, rfl, rfl, rfl, rfl, fl6, W6, rgf6, exf6, kp11f6, kp12f6, kp13f6, kp14f6, kp15f6, kp16f6⟩ := h6
          refine hv7 (show 1 ≤ ivb1 a0 11 ∧ ivb1 a0 11 ≤ 100 from Wb1.int ty1 11) (show 1 ≤ ivb1 a0 12 ∧ ivb1 a0 12 ≤ 50 from Wb1.int ty1 12) (show (-2147483648) ≤ ivb1 a0 13 ∧ ivb1 a0 13 ≤ 2147483647 from Wb1.int ty1 13) (show (-2147483648) ≤ ivb1 a0 14 ∧ ivb1 a0 14 ≤ 2147483647 from Wb1.int ty1 14) (show (-2147483648) ≤ ivb1 a0 15 ∧ ivb1 a0 15 ≤ 2147483647 from Wb1.int ty1 15) (show (-2147483648) ≤ ivb1 a0 16 ∧ ivb1 a0 16 ≤ 2147483647 from Wb1.int ty1 16) (Fb1.call Xb1 fl6 rfl) (fun ri37 ri38 ri39 ri40 ri41 ri42 F6 => ?_)
          refine c_st (st2 := [.int (iI f6)]) rfl ?_
          refine hv17 (show ivh6 a0 11 = ivb1 a0 11 from kp11f6) (show ivh6 a0 12 = ivb1 a0 12 from kp12f6) (show ivh6 a0 13 = ivb1 a0 13 from kp13f6) (show ivh6 a0 14 = ivb1 a0 14 from kp14f6) (show ivh6 a0 15 = ivb1 a0 15 from kp15f6) (show ivh6 a0 16 = ivb1 a0 16 from kp16f6) (show f6 = -1 from exf6) (show 1 ≤ ivh6 a0 11 ∧ ivh6 a0 11 ≤ 100 from W6.int ty1 11) (show 1 ≤ ivh6 a0 12 ∧ ivh6 a0 12 ≤ 50 from W6.int ty1 12) (show (-2147483648) ≤ ivh6 a0 13 ∧ ivh6 a0 13 ≤ 2147483647 from W6.int ty1 13) (show (-2147483648) ≤ ivh6 a0 14 ∧ ivh6 a0 14 ≤ 2147483647 from W6.int ty1 14) (show (-2147483648) ≤ ivh6 a0 15 ∧ ivh6 a0 15 ≤ 2147483647 from W6.int ty1 15) (show (-2147483648) ≤ ivh6 a0 16 ∧ ivh6 a0 16 ≤ 2147483647 from W6.int ty1 16) (show 0 ≤ ivh6 (sk 3) 2 ∧ ivh6 (sk 3) 2 ≤ 500 from W6.int ty3 2) (show ivh6 (sk 3) 2 = ivb1 (sk 3) 2 from fl6.i ty3 rfl 2) (show 0 ≤ ivh6 (sk 2) 2 ∧ ivh6 (sk 2) 2 ≤ 3000 from W6.int ty2 2) (show ivh6 (sk 2) 2 = ivb1 (sk 2) 2 from fl6.i ty2 rfl 2) (fun gk11f6 gk12f6 gk13f6 gk14f6 gk15f6 gk16f6 gf6 ri43 ri44 ri45 ri46 ri47 ri48 ri49 ie67 ri50 ie68 => ?_)
          exact c_iret C dX11_addText_80 rfl (by decide) (rom0 hph pl5 (by decide)) ⟨f6, rfl, Xb1, F6, W6, ⟨by omega, by omega⟩, (fun ss hs => Or.inl ⟨by omega, by omega, fun q => absurd q.2 (by omega)⟩), (gk11f6.trans hkp11), (gk12f6.trans hkp12), (gk13f6.trans hkp13), (gk14f6.trans hkp14), (gk15f6.trans hkp15), (gk16f6.trans hkp16), (fun ss tt hs ht => ⟨fun _ => CT.fr (hc3 tt ht) Wb1 ty3 fl6 rfl rfl rfl rfl rfl, fun q => absurd (by omega) q⟩), (show rvb1 a0 9 = rv a0 9 from hkr9), (show rvb1 a0 10 = rv a0 10 from hkr10)⟩
      · refine c_aload_n (j := 1) (x := a0) C dX11_addText_13 rfl ?_
        refine c_getr (k := 0) C ck_12 dX11_addText_14 w2_44 (by decide) ty1 rfl rfl (by decide) rfl rq1 ?_
        refine c_st (st2 := [.ref (sk 2)]) rfl ?_
        refine c_iload_n (j := 0) C dX11_addText_17 rfl ?_
        have pl6 := Phi.le Wb1 skb1
        refine d_callV (As := [.int (iI k)]) (rest := []) C hM (C_at_2 (a0 := (sk 2)) (i := k) Wb1 skb1 ty2 (by omega) ) dX11_addText_18 kV_X11_224 rfl ty2 rfl rfl (by decide) ck_2 rfl (Nat.le_of_ble_eq_true rfl) ⟨(Nat.le_of_ble_eq_true rfl), (Nat.le_of_ble_eq_true rfl)⟩ hph pl6 (show 0 + 0 = 0 from rfl) (by decide) (fun rh7 Lh7 clh7 lnh7 ivh7 rvh7 h7 => ?_)
        obtain ⟨f7, rfl, rfl, rfl, rfl, rfl, rfl, rgf7, exf7⟩ := h7
        refine c_st (st2 := [.int (iI f7)]) rfl ?_
        have gf7 : ((0 ≤ k ∧ k < ivb1 (sk 2) 2) ∨ f7 = 0) ∧ ∀ ss, CT ivb1 rvb1 (sk 2) ss → 0 ≤ k → k < ivb1 (sk 2) 2 → f7 = ss k.toNat := exf7
        refine c_istore_n (lv2 := [(2, .int (iI f7)), (1, .int (iI k)), (0, .ref a0)]) C dX11_addText_21 (by decide) rfl ?_
        refine c_iload_n (j := 0) C dX11_addText_22 rfl ?_
        refine c_bipush (z := 10) C dX11_addText_23 (by decide) ?_
        refine c_icmp_eq (tgt := 47) C ⟨by omega, by omega⟩ ⟨by decide, by decide⟩ dX11_addText_25 (by decide) (fun c4 => ?_) (fun c4 => ?_)
        · refine c_iinc (z := k) (j := 1) (lv2 := [(1, .int (iI (k + 1))), (2, .int (iI f7)), (0, .ref a0)]) C dX11_addText_47 rfl (by decide) rfl ?_
          refine c_goto (tgt := 2) C dX11_addText_50 (by decide) ?_
          refine hv7 (Xb1.ty tsk3) (show 1 ≤ ivb1 a0 11 ∧ ivb1 a0 11 ≤ 100 from Wb1.int ty1 11) (show 1 ≤ ivb1 a0 12 ∧ ivb1 a0 12 ≤ 50 from Wb1.int ty1 12) (show (-2147483648) ≤ ivb1 a0 13 ∧ ivb1 a0 13 ≤ 2147483647 from Wb1.int ty1 13) (show (-2147483648) ≤ ivb1 a0 14 ∧ ivb1 a0 14 ≤ 2147483647 from Wb1.int ty1 14) (show (-2147483648) ≤ ivb1 a0 15 ∧ ivb1 a0 15 ≤ 2147483647 from Wb1.int ty1 15) (show (-2147483648) ≤ ivb1 a0 16 ∧ ivb1 a0 16 ≤ 2147483647 from Wb1.int ty1 16) (fun ty28 ri52 ri53 ri54 ri55 ri56 ri57 => ?_)
          have ri51 : 0 ≤ ivb1 (sk 3) 2 ∧ ivb1 (sk 3) 2 ≤ 500 := Wb1.int ty28 2
          refine c_lv (lv2 := [(1, .int (iI (k + 1))), (0, .ref a0)]) [0, 2] rfl ?_
          exact ih1  (k + 1) _ _ _ _ _ (by omega) Xb1 Wb1 Fb1  (by omega) h33 (fun ss hs => TOK.snoc (htk ss hs) (by omega) (by have e := gf7.2 ss (CT.fr hs hW tsk2 Fb1 rfl rfl rfl rfl rfl) (by omega) (by omega); rw [← e]; omega)) hc3 hkp11 hkp12 hkp13 hkp14 hkp15 hkp16 (show rvb1 a0 9 = rv a0 9 from hkr9) (show rvb1 a0 10 = rv a0 10 from hkr10)
        · refine c_iload_n (j := 0) C dX11_addText_28 rfl ?_
          refine c_bipush (z := 32) C dX11_addText_29 (by decide) ?_
          refine c_icmp_lt (tgt := 40) C ⟨by omega, by omega⟩ ⟨by decide, by decide⟩ dX11_addText_31 (by decide) (fun c5 => ?_) (fun c5 => ?_)
          · refine c_aload_n (j := 2) (x := a0) C dX11_addText_40 rfl ?_
            refine c_bipush (z := 6) C dX11_addText_41 (by decide) ?_
            have ty29 := Xb1.ty tsk3
            refine d_callV (As := [.int (iI 6)]) (rest := []) C hM (C_refuse (a0 := a0) (x := 6) Wb1 skb1 ty1 ⟨by decide, by decide⟩ ) dX11_addText_43 kV_X11_102 rfl ty1 rfl rfl (by decide) ck_12 rfl (Nat.le_of_ble_eq_true rfl) ⟨(Nat.le_of_ble_eq_true rfl), (Nat.le_of_ble_eq_true rfl)⟩ hph pl6 (show 0 + 0 = 0 from rfl) (by decide) (fun rh8 Lh8 clh8 lnh8 ivh8 rvh8 h8 => ?_)
            obtain ⟨f8, rfl, rfl, rfl, rfl, rfl, fl8, W8, rgf8, exf8, kp11f8, kp12f8, kp13f8, kp14f8, kp15f8, kp16f8⟩ := h8
            refine hv7 (show 1 ≤ ivb1 a0 11 ∧ ivb1 a0 11 ≤ 100 from Wb1.int ty1 11) (show 1 ≤ ivb1 a0 12 ∧ ivb1 a0 12 ≤ 50 from Wb1.int ty1 12) (show (-2147483648) ≤ ivb1 a0 13 ∧ ivb1 a0 13 ≤ 2147483647 from Wb1.int ty1 13) (show (-2147483648) ≤ ivb1 a0 14 ∧ ivb1 a0 14 ≤ 2147483647 from Wb1.int ty1 14) (show (-2147483648) ≤ ivb1 a0 15 ∧ ivb1 a0 15 ≤ 2147483647 from Wb1.int ty1 15) (show (-2147483648) ≤ ivb1 a0 16 ∧ ivb1 a0 16 ≤ 2147483647 from Wb1.int ty1 16) (Fb1.call Xb1 fl8 rfl) (fun ri58 ri59 ri60 ri61 ri62 ri63 F7 => ?_)
            refine c_st (st2 := [.int (iI f8)]) rfl ?_
            refine hv17 (show ivh8 a0 11 = ivb1 a0 11 from kp11f8) (show ivh8 a0 12 = ivb1 a0 12 from kp12f8) (show ivh8 a0 13 = ivb1 a0 13 from kp13f8) (show ivh8 a0 14 = ivb1 a0 14 from kp14f8) (show ivh8 a0 15 = ivb1 a0 15 from kp15f8) (show ivh8 a0 16 = ivb1 a0 16 from kp16f8) (show f8 = -1 from exf8) (show 1 ≤ ivh8 a0 11 ∧ ivh8 a0 11 ≤ 100 from W8.int ty1 11) (show 1 ≤ ivh8 a0 12 ∧ ivh8 a0 12 ≤ 50 from W8.int ty1 12) (show (-2147483648) ≤ ivh8 a0 13 ∧ ivh8 a0 13 ≤ 2147483647 from W8.int ty1 13) (show (-2147483648) ≤ ivh8 a0 14 ∧ ivh8 a0 14 ≤ 2147483647 from W8.int ty1 14) (show (-2147483648) ≤ ivh8 a0 15 ∧ ivh8 a0 15 ≤ 2147483647 from W8.int ty1 15) (show (-2147483648) ≤ ivh8 a0 16 ∧ ivh8 a0 16 ≤ 2147483647 from W8.int ty1 16) (show 0 ≤ ivh8 (sk 3) 2 ∧ ivh8 (sk 3) 2 ≤ 500 from W8.int ty29 2) (show ivh8 (sk 3) 2 = ivb1 (sk 3) 2 from fl8.i ty29 rfl 2) (show 0 ≤ ivh8 (sk 2) 2 ∧ ivh8 (sk 2) 2 ≤ 3000 from W8.int ty2 2) (show ivh8 (sk 2) 2 = ivb1 (sk 2) 2 from fl8.i ty2 rfl 2) (fun gk11f8 gk12f8 gk13f8 gk14f8 gk15f8 gk16f8 gf8 ri64 ri65 ri66 ri67 ri68 ri69 ri70 ie88 ri71 ie90 => ?_)
            exact c_iret C dX11_addText_46 rfl (by decide) (rom0 hph pl6 (by decide)) ⟨f8, rfl, Xb1, F7, W8, ⟨by omega, by omega⟩, (fun ss hs => Or.inl ⟨by omega, by omega, fun q => absurd (q.1 k.toNat (by omega)) (by have e := gf7.2 ss (CT.fr hs hW tsk2 Fb1 rfl rfl rfl rfl rfl) (by omega) (by omega); rw [← e]; omega)⟩), (gk11f8.trans hkp11), (gk12f8.trans hkp12), (gk13f8.trans hkp13), (gk14f8.trans hkp14), (gk15f8.trans hkp15), (gk16f8.trans hkp16), (fun ss tt hs ht => ⟨fun _ => CT.fr (hc3 tt ht) Wb1 ty29 fl8 rfl rfl rfl rfl rfl, fun q => absurd (by omega) q⟩), (show rvb1 a0 9 = rv a0 9 from hkr9), (show rvb1 a0 10 = rv a0 10 from hkr10)⟩
          · refine c_iload_n (j := 0) C dX11_addText_34 rfl ?_
            refine c_bipush (z := 126) C dX11_addText_35 (by decide) ?_
            refine c_icmp_le (tgt := 47) C ⟨by omega, by omega⟩ ⟨by decide, by decide⟩ dX11_addText_37 (by decide) (fun c6 => ?_) (fun c6 => ?_)
            · refine c_iinc (z := k) (j := 1) (lv2 := [(1, .int (iI (k + 1))), (2, .int (iI f7)), (0, .ref a0)]) C dX11_addText_47 rfl (by decide) rfl ?_
              refine c_goto (tgt := 2) C dX11_addText_50 (by decide) ?_
              refine hv7 (Xb1.ty tsk3) (show 1 ≤ ivb1 a0 11 ∧ ivb1 a0 11 ≤ 100 from Wb1.int ty1 11) (show 1 ≤ ivb1 a0 12 ∧ ivb1 a0 12 ≤ 50 from Wb1.int ty1 12) (show (-2147483648) ≤ ivb1 a0 13 ∧ ivb1 a0 13 ≤ 2147483647 from Wb1.int ty1 13) (show (-2147483648) ≤ ivb1 a0 14 ∧ ivb1 a0 14 ≤ 2147483647 from Wb1.int ty1 14) (show (-2147483648) ≤ ivb1 a0 15 ∧ ivb1 a0 15 ≤ 2147483647 from Wb1.int ty1 15) (show (-2147483648) ≤ ivb1 a0 16 ∧ ivb1 a0 16 ≤ 2147483647 from Wb1.int ty1 16) (fun ty30 ri73 ri74 ri75 ri76 ri77 ri78 => ?_)
              have ri72 : 0 ≤ ivb1 (sk 3) 2 ∧ ivb1 (sk 3) 2 ≤ 500 := Wb1.int ty30 2
              refine c_lv (lv2 := [(1, .int (iI (k + 1))), (0, .ref a0)]) [0, 2] rfl ?_
              exact ih1  (k + 1) _ _ _ _ _ (by omega) Xb1 Wb1 Fb1  (by omega) h33 (fun ss hs => TOK.snoc (htk ss hs) (by omega) (by have e := gf7.2 ss (CT.fr hs hW tsk2 Fb1 rfl rfl rfl rfl rfl) (by omega) (by omega); rw [← e]; omega)) hc3 hkp11 hkp12 hkp13 hkp14 hkp15 hkp16 (show rvb1 a0 9 = rv a0 9 from hkr9) (show rvb1 a0 10 = rv a0 10 from hkr10)
            · refine c_aload_n (j := 2) (x := a0) C dX11_addText_40 rfl ?_
              refine c_bipush (z := 6) C dX11_addText_41 (by decide) ?_
              have ty31 := Xb1.ty tsk3
              refine d_callV (As := [.int (iI 6)]) (rest := []) C hM (C_refuse (a0 := a0) (x := 6) Wb1 skb1 ty1 ⟨by decide, by decide⟩ ) dX11_addText_43 kV_X11_102 rfl ty1 rfl rfl (by decide) ck_12 rfl (Nat.le_of_ble_eq_true rfl) ⟨(Nat.le_of_ble_eq_true rfl), (Nat.le_of_ble_eq_true rfl)⟩ hph pl6 (show 0 + 0 = 0 from rfl) (by decide) (fun rh9 Lh9 clh9 lnh9 ivh9 rvh9 h9 => ?_)
              obtain ⟨f9, rfl, rfl, rfl, rfl, rfl, fl9, W9, rgf9, exf9, kp11f9, kp12f9, kp13f9, kp14f9, kp15f9, kp16f9⟩ := h9
              refine hv7 (show 1 ≤ ivb1 a0 11 ∧ ivb1 a0 11 ≤ 100 from Wb1.int ty1 11) (show 1 ≤ ivb1 a0 12 ∧ ivb1 a0 12 ≤ 50 from Wb1.int ty1 12) (show (-2147483648) ≤ ivb1 a0 13 ∧ ivb1 a0 13 ≤ 2147483647 from Wb1.int ty1 13) (show (-2147483648) ≤ ivb1 a0 14 ∧ ivb1 a0 14 ≤ 2147483647 from Wb1.int ty1 14) (show (-2147483648) ≤ ivb1 a0 15 ∧ ivb1 a0 15 ≤ 2147483647 from Wb1.int ty1 15) (show (-2147483648) ≤ ivb1 a0 16 ∧ ivb1 a0 16 ≤ 2147483647 from Wb1.int ty1 16) (Fb1.call Xb1 fl9 rfl) (fun ri79 ri80 ri81 ri82 ri83 ri84 F8 => ?_)
              refine c_st (st2 := [.int (iI f9)]) rfl ?_
              refine hv17 (show ivh9 a0 11 = ivb1 a0 11 from kp11f9) (show ivh9 a0 12 = ivb1 a0 12 from kp12f9) (show ivh9 a0 13 = ivb1 a0 13 from kp13f9) (show ivh9 a0 14 = ivb1 a0 14 from kp14f9) (show ivh9 a0 15 = ivb1 a0 15 from kp15f9) (show ivh9 a0 16 = ivb1 a0 16 from kp16f9) (show f9 = -1 from exf9) (show 1 ≤ ivh9 a0 11 ∧ ivh9 a0 11 ≤ 100 from W9.int ty1 11) (show 1 ≤ ivh9 a0 12 ∧ ivh9 a0 12 ≤ 50 from W9.int ty1 12) (show (-2147483648) ≤ ivh9 a0 13 ∧ ivh9 a0 13 ≤ 2147483647 from W9.int ty1 13) (show (-2147483648) ≤ ivh9 a0 14 ∧ ivh9 a0 14 ≤ 2147483647 from W9.int ty1 14) (show (-2147483648) ≤ ivh9 a0 15 ∧ ivh9 a0 15 ≤ 2147483647 from W9.int ty1 15) (show (-2147483648) ≤ ivh9 a0 16 ∧ ivh9 a0 16 ≤ 2147483647 from W9.int ty1 16) (show 0 ≤ ivh9 (sk 3) 2 ∧ ivh9 (sk 3) 2 ≤ 500 from W9.int ty31 2) (show ivh9 (sk 3) 2 = ivb1 (sk 3) 2 from fl9.i ty31 rfl 2) (show 0 ≤ ivh9 (sk 2) 2 ∧ ivh9 (sk 2) 2 ≤ 3000 from W9.int ty2 2) (show ivh9 (sk 2) 2 = ivb1 (sk 2) 2 from fl9.i ty2 rfl 2) (fun gk11f9 gk12f9 gk13f9 gk14f9 gk15f9 gk16f9 gf9 ri85 ri86 ri87 ri88 ri89 ri90 ri91 ie110 ri92 ie112 => ?_)
              exact c_iret C dX11_addText_46 rfl (by decide) (rom0 hph pl6 (by decide)) ⟨f9, rfl, Xb1, F8, W9, ⟨by omega, by omega⟩, (fun ss hs => Or.inl ⟨by omega, by omega, fun q => absurd (q.1 k.toNat (by omega)) (by have e := gf7.2 ss (CT.fr hs hW tsk2 Fb1 rfl rfl rfl rfl rfl) (by omega) (by omega); rw [← e]; omega)⟩), (gk11f9.trans hkp11), (gk12f9.trans hkp12), (gk13f9.trans hkp13), (gk14f9.trans hkp14), (gk15f9.trans hkp15), (gk16f9.trans hkp16), (fun ss tt hs ht => ⟨fun _ => CT.fr (hc3 tt ht) Wb1 ty31 fl9 rfl rfl rfl rfl rfl, fun q => absurd (by omega) q⟩), (show rvb1 a0 9 = rv a0 9 from hkr9), (show rvb1 a0 10 = rv a0 10 from hkr10)⟩
  refine hv6 (show 1 ≤ iv a0 11 ∧ iv a0 11 ≤ 100 from hW.int t_a0 11) (show 1 ≤ iv a0 12 ∧ iv a0 12 ≤ 50 from hW.int t_a0 12) (show (-2147483648) ≤ iv a0 13 ∧ iv a0 13 ≤ 2147483647 from hW.int t_a0 13) (show (-2147483648) ≤ iv a0 14 ∧ iv a0 14 ≤ 2147483647 from hW.int t_a0 14) (show (-2147483648) ≤ iv a0 15 ∧ iv a0 15 ≤ 2147483647 from hW.int t_a0 15) (show (-2147483648) ≤ iv a0 16 ∧ iv a0 16 ≤ 2147483647 from hW.int t_a0 16) (fun ri93 ri94 ri95 ri96 ri97 ri98 => ?_)
  refine c_lv (lv2 := [(1, .int (iI 0)), (0, .ref a0)]) [0, 1] rfl ?_
  exact Lp1 3003 0 _ _ _ _ _ (by omega) hX0 hW hF0  (by omega) rfl (fun ss hs => TOK.zero) (fun tt ht => ht) rfl rfl rfl rfl rfl rfl rfl rfl
set_option maxHeartbeats 4000000 in
set_option maxRecDepth 100000 in
theorem C_text {l : Launch} {G : GT} {mi : Nat} {sk : Nat → Nat} {L : List Nat} {cl ln : Nat → Nat} {iv : Nat → Nat → Int} {rv : Nat → Nat → Option Nat}  {a0 : Nat} (hW : WT (g0 G) sk L cl ln iv rv) (hS : SKL sk L cl) (t_a0 : ty L cl a0 1)  : Mc l G mi (Phi (g0 G) sk) PHM yX11_text cX11_text 2 (some .int) 5 [.ref a0] L cl ln iv rv 0 (fun v L2 cl2 ln2 iv2 rv2 => ∃ f : Int, v = some (.int (iI f)) ∧ XT L cl ln L2 cl2 ln2 ∧ fT [1, 2, 3, 33] L cl iv rv iv2 rv2 ∧ WT (g0 G) sk L2 cl2 ln2 iv2 rv2 ∧ (-2147483648 ≤ f ∧ f ≤ 2147483647) ∧ (∀ ss, CT iv rv (sk 2) ss → ((f = -1 ∧ iv2 (sk 3) 2 = iv (sk 3) 2 ∧ ¬ (TOK ss (iv (sk 2) 2) ∧ iv (sk 3) 2 + iv (sk 2) 2 ≤ 500)) ∨ (f = iv2 (sk 3) 2 ∧ TOK ss (iv (sk 2) 2) ∧ iv (sk 3) 2 + iv (sk 2) 2 ≤ 500 ∧ ((iv (sk 2) 2 = 0 ∧ iv2 (sk 3) 2 = 0) ∨ (iv (sk 2) 2 ≠ 0 ∧ iv2 (sk 3) 2 = iv (sk 3) 2 + iv (sk 2) 2))))) ∧ iv2 a0 11 = iv a0 11 ∧ iv2 a0 12 = iv a0 12 ∧ iv2 a0 13 = iv a0 13 ∧ iv2 a0 14 = iv a0 14 ∧ iv2 a0 15 = iv a0 15 ∧ iv2 a0 16 = iv a0 16 ∧ iv2 (sk 2) 2 = 0 ∧ (∀ ss tt, CT iv rv (sk 2) ss → CT iv rv (sk 3) tt → (f = -1 → CT iv2 rv2 (sk 3) tt) ∧ (f ≠ -1 → CT iv2 rv2 (sk 3) (apd tt (iv (sk 3) 2).toNat ss))) ∧ rv2 a0 9 = rv a0 9 ∧ rv2 a0 10 = rv a0 10) := by
  refine Mc.mk (by decide) (Nat.le_of_ble_eq_true rfl) ?_
  intro p e s m args below meth c A C hM
  refine hv14 (Phi.le hW hS) (show ty L cl (sk 2) 2 from ⟨(hS 2 rfl).1, by rw [(hS 2 rfl).2]; rfl⟩) (show ty L cl (sk 3) 3 from ⟨(hS 3 rfl).1, by rw [(hS 3 rfl).2]; rfl⟩) (show ty L cl (sk 4) 4 from ⟨(hS 4 rfl).1, by rw [(hS 4 rfl).2]; rfl⟩) (show ty L cl (sk 5) 5 from ⟨(hS 5 rfl).1, by rw [(hS 5 rfl).2]; rfl⟩) (show ty L cl (sk 13) 13 from ⟨(hS 13 rfl).1, by rw [(hS 13 rfl).2]; rfl⟩) (show ty L cl (sk 14) 14 from ⟨(hS 14 rfl).1, by rw [(hS 14 rfl).2]; rfl⟩) (show ty L cl (sk 15) 15 from ⟨(hS 15 rfl).1, by rw [(hS 15 rfl).2]; rfl⟩) (show ty L cl (sk 16) 16 from ⟨(hS 16 rfl).1, by rw [(hS 16 rfl).2]; rfl⟩) (show ty L cl (sk 17) 17 from ⟨(hS 17 rfl).1, by rw [(hS 17 rfl).2]; rfl⟩) (show ty L cl (sk 22) 22 from ⟨(hS 22 rfl).1, by rw [(hS 22 rfl).2]; rfl⟩) (show ty L cl (sk 23) 23 from ⟨(hS 23 rfl).1, by rw [(hS 23 rfl).2]; rfl⟩) (show XT L cl ln L cl ln from XT.refl) (show fT [1, 2, 3, 33] L cl iv rv iv rv from fT.refl) (fun hph tsk2 tsk3 tsk4 tsk5 tsk13 tsk14 tsk15 tsk16 tsk17 tsk22 tsk23 hX0 hF0 => ?_)
  refine c_aload_n (j := 0) (x := a0) C dX11_text_0 rfl ?_
  refine hv2 (show 0 ≤ iv (sk 3) 2 ∧ iv (sk 3) 2 ≤ 500 from hW.int tsk3 2) (show 0 ≤ iv (sk 2) 2 ∧ iv (sk 2) 2 ≤ 3000 from hW.int tsk2 2) (fun ri1 ri2 => ?_)
  refine d_callV (As := []) (rest := []) C hM (C_addText (a0 := a0) hW hS t_a0  ) dX11_text_1 kV_X11_221 rfl t_a0 rfl rfl (by decide) ck_12 rfl (Nat.le_of_ble_eq_true rfl) ⟨(Nat.le_of_ble_eq_true rfl), (Nat.le_of_ble_eq_true rfl)⟩ hph hph (show 0 + 0 = 0 from rfl) (by decide) (fun rh1 Lh1 clh1 lnh1 ivh1 rvh1 h1 => ?_)
  obtain ⟨f1, rfl, xl1, fl1, W1, rgf1, exf1, kp11f1, kp12f1, kp13f1, kp14f1, kp15f1, kp16f1, txkf1, kr9f1, kr10f1⟩ := h1
  refine hv9 (show 1 ≤ iv a0 11 ∧ iv a0 11 ≤ 100 from hW.int t_a0 11) (show 1 ≤ iv a0 12 ∧ iv a0 12 ≤ 50 from hW.int t_a0 12) (show (-2147483648) ≤ iv a0 13 ∧ iv a0 13 ≤ 2147483647 from hW.int t_a0 13) (show (-2147483648) ≤ iv a0 14 ∧ iv a0 14 ≤ 2147483647 from hW.int t_a0 14) (show (-2147483648) ≤ iv a0 15 ∧ iv a0 15 ≤ 2147483647 from hW.int t_a0 15) (show (-2147483648) ≤ iv a0 16 ∧ iv a0 16 ≤ 2147483647 from hW.int t_a0 16) (hF0.call hX0 fl1 rfl) (hX0.trans xl1) (xl1.skl hS) (fun ri3 ri4 ri5 ri6 ri7 ri8 F1 X1 sk1 => ?_)
  refine c_st (st2 := [.int (iI f1)]) rfl ?_
  refine hv8 (show ivh1 a0 11 = iv a0 11 from kp11f1) (show ivh1 a0 12 = iv a0 12 from kp12f1) (show ivh1 a0 13 = iv a0 13 from kp13f1) (show ivh1 a0 14 = iv a0 14 from kp14f1) (show ivh1 a0 15 = iv a0 15 from kp15f1) (show ivh1 a0 16 = iv a0 16 from kp16f1) (xl1.ty tsk3) (show ∀ ss, CT iv rv (sk 2) ss → ((f1 = -1 ∧ ivh1 (sk 3) 2 = iv (sk 3) 2 ∧ ¬ (TOK ss (iv (sk 2) 2) ∧ iv (sk 3) 2 + iv (sk 2) 2 ≤ 500)) ∨ (f1 = ivh1 (sk 3) 2 ∧ TOK ss (iv (sk 2) 2) ∧ iv (sk 3) 2 + iv (sk 2) 2 ≤ 500 ∧ ((iv (sk 2) 2 = 0 ∧ ivh1 (sk 3) 2 = 0) ∨ (iv (sk 2) 2 ≠ 0 ∧ ivh1 (sk 3) 2 = iv (sk 3) 2 + iv (sk 2) 2)))) from exf1) (fun gk11f1 gk12f1 gk13f1 gk14f1 gk15f1 gk16f1 ty1 gf1 => ?_)
  have ri9 : 0 ≤ ivh1 (sk 3) 2 ∧ ivh1 (sk 3) 2 ≤ 500 := W1.int ty1 2
  refine c_istore_n (lv2 := [(1, .int (iI f1)), (0, .ref a0)]) C dX11_text_4 (by decide) rfl ?_
  refine c_aload_n (j := 1) (x := a0) C dX11_text_5 rfl ?_
  have ty2 := xl1.ty t_a0
  obtain ⟨rb1, rq1, trb1⟩ := W1.ref ty2 0 rfl rfl rfl
  have erb1 := W1.sk trb1 (by decide) rfl
  subst erb1
  refine c_getr (k := 0) C ck_12 dX11_text_6 w2_44 (by decide) ty2 rfl rfl (by decide) rfl rq1 ?_
  refine c_st (st2 := [.ref (sk 2)]) rfl ?_
  refine hv2 (xl1.ty tsk2) (Phi.le W1 sk1) (fun ty3 pl1 => ?_)
  refine d_callV (As := []) (rest := []) C hM (C_clear_2 (a0 := (sk 2)) W1 sk1 ty3  ) dX11_text_9 kV_X11_164 rfl ty3 rfl rfl (by decide) ck_2 rfl (Nat.le_of_ble_eq_true rfl) ⟨(Nat.le_of_ble_eq_true rfl), (Nat.le_of_ble_eq_true rfl)⟩ hph pl1 (show 0 + 0 = 0 from rfl) (by decide) (fun rh2 Lh2 clh2 lnh2 ivh2 rvh2 h2 => ?_)
  obtain ⟨rfl, rfl, rfl, rfl, rfl, fl2, W2, exf2⟩ := h2
  have F2 := F1.call X1 fl2 rfl
  refine c_st (st2 := []) rfl ?_
  refine hv2 (show 0 ≤ ivh2 (sk 2) 2 ∧ ivh2 (sk 2) 2 ≤ 3000 from W2.int ty3 2) (show ivh2 (sk 2) 2 = 0 from exf2) (fun ri10 gf2 => ?_)
  refine c_iload_n (j := 0) C dX11_text_12 rfl ?_
  refine hv14 (show 1 ≤ ivh2 a0 11 ∧ ivh2 a0 11 ≤ 100 from W2.int ty2 11) (show ivh2 a0 11 = ivh1 a0 11 from fl2.i ty2 rfl 11) (show 1 ≤ ivh2 a0 12 ∧ ivh2 a0 12 ≤ 50 from W2.int ty2 12) (show ivh2 a0 12 = ivh1 a0 12 from fl2.i ty2 rfl 12) (show (-2147483648) ≤ ivh2 a0 13 ∧ ivh2 a0 13 ≤ 2147483647 from W2.int ty2 13) (show ivh2 a0 13 = ivh1 a0 13 from fl2.i ty2 rfl 13) (show (-2147483648) ≤ ivh2 a0 14 ∧ ivh2 a0 14 ≤ 2147483647 from W2.int ty2 14) (show ivh2 a0 14 = ivh1 a0 14 from fl2.i ty2 rfl 14) (show (-2147483648) ≤ ivh2 a0 15 ∧ ivh2 a0 15 ≤ 2147483647 from W2.int ty2 15) (show ivh2 a0 15 = ivh1 a0 15 from fl2.i ty2 rfl 15) (show (-2147483648) ≤ ivh2 a0 16 ∧ ivh2 a0 16 ≤ 2147483647 from W2.int ty2 16) (show ivh2 a0 16 = ivh1 a0 16 from fl2.i ty2 rfl 16) (show 0 ≤ ivh2 (sk 3) 2 ∧ ivh2 (sk 3) 2 ≤ 500 from W2.int ty1 2) (show ivh2 (sk 3) 2 = ivh1 (sk 3) 2 from fl2.i ty1 rfl 2) (fun ri11 ie3 ri12 ie5 ri13 ie7 ri14 ie9 ri15 ie11 ri16 ie13 ri17 ie15 => ?_)
  exact c_iret C dX11_text_13 rfl (by decide) (rom0 hph pl1 (by decide)) ⟨f1, rfl, X1, F2, W2, ⟨by omega, by omega⟩, (fun ss hs => by rw [show ivh2 (sk 3) 2 = ivh1 (sk 3) 2 by omega]; exact gf1 ss hs), (ie3.trans gk11f1), (ie5.trans gk12f1), (ie7.trans gk13f1), (ie9.trans gk14f1), (ie11.trans gk15f1), (ie13.trans gk16f1), gf2, (fun ss tt hs ht => ⟨fun e => CT.fr ((txkf1 ss tt hs ht).1 e) W1 ty1 fl2 rfl rfl rfl rfl rfl, fun e => CT.fr ((txkf1 ss tt hs ht).2 e) W1 ty1 fl2 rfl rfl rfl rfl rfl⟩), (show rvh1 a0 9 = rv a0 9 from kr9f1), (show rvh1 a0 10 = rv a0 10 from kr10f1)⟩
set_option maxHeartbeats 4000000 in
set_option maxRecDepth 100000 in
theorem C_lines {l : Launch} {G : GT} {mi : Nat} {sk : Nat → Nat} {L : List Nat} {cl ln : Nat → Nat} {iv : Nat → Nat → Int} {rv : Nat → Nat → Option Nat}  {a0 : Nat} (hW : WT (g0 G) sk L cl ln iv rv) (hS : SKL sk L cl) (t_a0 : ty L cl a0 1)  : Mc l G mi (Phi (g0 G) sk) PHM yX11_lines cX11_lines 1 (some .int) 0 [.ref a0] L cl ln iv rv 0 (fun v L2 cl2 ln2 iv2 rv2 => ∃ f : Int, v = some (.int (iI f)) ∧ L = L2 ∧ cl = cl2 ∧ ln = ln2 ∧ iv = iv2 ∧ rv = rv2 ∧ (-2147483648 ≤ f ∧ f ≤ 2147483647) ∧ (True)) := by
  refine Mc.mk (by decide) (Nat.le_of_ble_eq_true rfl) ?_
  intro p e s m args below meth c A C hM
  refine hv3 (Phi.le hW hS) (show XT L cl ln L cl ln from XT.refl) (show fT [] L cl iv rv iv rv from fT.refl) (fun hph hX0 hF0 => ?_)
  refine c_aload_n (j := 0) (x := a0) C dX11_lines_0 rfl ?_
  obtain ⟨rb1, rq1, trb1⟩ := hW.ref t_a0 9 rfl rfl rfl
  refine c_getr (k := 9) C ck_12 dX11_lines_1 w2_53 (by decide) t_a0 rfl rfl (by decide) rfl rq1 ?_
  refine c_st (st2 := [.ref rb1]) rfl ?_
  have ri1 : 0 ≤ iv rb1 1 ∧ iv rb1 1 ≤ 200 := hW.int trb1 1
  refine c_get (k := 1) C ck_8 dX11_lines_4 w2_35 (by decide) trb1 rfl rfl (by decide) rfl ?_
  exact c_iret C dX11_lines_7 rfl (by decide) (rom0 hph hph (by decide)) ⟨(iv rb1 1), rfl, rfl, rfl, rfl, rfl, rfl, ⟨by omega, by omega⟩, trivial⟩
set_option maxHeartbeats 4000000 in
set_option maxRecDepth 100000 in
theorem C_hasHeader {l : Launch} {G : GT} {mi : Nat} {sk : Nat → Nat} {L : List Nat} {cl ln : Nat → Nat} {iv : Nat → Nat → Int} {rv : Nat → Nat → Option Nat}  {a0 : Nat} (hW : WT (g0 G) sk L cl ln iv rv) (hS : SKL sk L cl) (t_a0 : ty L cl a0 1)  : Mc l G mi (Phi (g0 G) sk) PHM yX11_pagesHaveHeader cX11_pagesHaveHeader 1 (some .boolean) 0 [.ref a0] L cl ln iv rv 0 (fun v L2 cl2 ln2 iv2 rv2 => ∃ f : Int, v = some (.int (iI f)) ∧ L = L2 ∧ cl = cl2 ∧ ln = ln2 ∧ iv = iv2 ∧ rv = rv2 ∧ (f = 0 ∨ f = 1) ∧ (f = 0 ∨ 2 ≤ iv a0 12)) := by
  refine Mc.mk (by decide) (Nat.le_of_ble_eq_true rfl) ?_
  intro p e s m args below meth c A C hM
  refine hv14 (Phi.le hW hS) (show ty L cl (sk 2) 2 from ⟨(hS 2 rfl).1, by rw [(hS 2 rfl).2]; rfl⟩) (show ty L cl (sk 3) 3 from ⟨(hS 3 rfl).1, by rw [(hS 3 rfl).2]; rfl⟩) (show ty L cl (sk 4) 4 from ⟨(hS 4 rfl).1, by rw [(hS 4 rfl).2]; rfl⟩) (show ty L cl (sk 5) 5 from ⟨(hS 5 rfl).1, by rw [(hS 5 rfl).2]; rfl⟩) (show ty L cl (sk 13) 13 from ⟨(hS 13 rfl).1, by rw [(hS 13 rfl).2]; rfl⟩) (show ty L cl (sk 14) 14 from ⟨(hS 14 rfl).1, by rw [(hS 14 rfl).2]; rfl⟩) (show ty L cl (sk 15) 15 from ⟨(hS 15 rfl).1, by rw [(hS 15 rfl).2]; rfl⟩) (show ty L cl (sk 16) 16 from ⟨(hS 16 rfl).1, by rw [(hS 16 rfl).2]; rfl⟩) (show ty L cl (sk 17) 17 from ⟨(hS 17 rfl).1, by rw [(hS 17 rfl).2]; rfl⟩) (show ty L cl (sk 22) 22 from ⟨(hS 22 rfl).1, by rw [(hS 22 rfl).2]; rfl⟩) (show ty L cl (sk 23) 23 from ⟨(hS 23 rfl).1, by rw [(hS 23 rfl).2]; rfl⟩) (show XT L cl ln L cl ln from XT.refl) (show fT [] L cl iv rv iv rv from fT.refl) (fun hph tsk2 tsk3 tsk4 tsk5 tsk13 tsk14 tsk15 tsk16 tsk17 tsk22 tsk23 hX0 hF0 => ?_)
  refine c_aload_n (j := 0) (x := a0) C dX11_pagesHaveHeader_0 rfl ?_
  obtain ⟨rb1, rq1, trb1⟩ := hW.ref t_a0 3 rfl rfl rfl
  have erb1 := hW.sk trb1 (by decide) rfl
  subst erb1
  refine c_getr (k := 3) C ck_12 dX11_pagesHaveHeader_1 w2_47 (by decide) t_a0 rfl rfl (by decide) rfl rq1 ?_
  refine c_st (st2 := [.ref (sk 5)]) rfl ?_
  have ri1 : 0 ≤ iv (sk 5) 2 ∧ iv (sk 5) 2 ≤ 200 := hW.int tsk5 2
  refine c_get (k := 2) C ck_2 dX11_pagesHaveHeader_4 w1_44 (by decide) tsk5 rfl rfl (by decide) rfl ?_
  refine c_if_le (tgt := 22) C (r32_c (lo := 0) (hi := 200) ri1.1 ri1.2 (by decide) (by decide)) dX11_pagesHaveHeader_7 (by decide) (fun c1 => ?_) (fun c1 => ?_)
  · refine c_iconst C dX11_pagesHaveHeader_22 ?_
    exact c_zret C dX11_pagesHaveHeader_23 rfl (Or.inl rfl) (by decide) (rom0 hph hph (by decide)) ⟨0, rfl, rfl, rfl, rfl, rfl, rfl, (Or.inl rfl), (by omega)⟩
  · refine c_aload_n (j := 0) (x := a0) C dX11_pagesHaveHeader_10 rfl ?_
    have ri2 : 1 ≤ iv a0 12 ∧ iv a0 12 ≤ 50 := hW.int t_a0 12
    refine c_get (k := 12) C ck_12 dX11_pagesHaveHeader_11 w2_56 (by decide) t_a0 rfl rfl (by decide) rfl ?_
    refine c_iconst C dX11_pagesHaveHeader_14 ?_
    refine c_icmp_lt (tgt := 22) C (r32_c (lo := 1) (hi := 50) ri2.1 ri2.2 (by decide) (by decide)) ⟨by decide, by decide⟩ dX11_pagesHaveHeader_15 (by decide) (fun c2 => ?_) (fun c2 => ?_)
    · refine c_iconst C dX11_pagesHaveHeader_22 ?_
      exact c_zret C dX11_pagesHaveHeader_23 rfl (Or.inl rfl) (by decide) (rom0 hph hph (by decide)) ⟨0, rfl, rfl, rfl, rfl, rfl, rfl, (Or.inl rfl), (by omega)⟩
    · refine c_iconst C dX11_pagesHaveHeader_18 ?_
      refine c_goto (tgt := 23) C dX11_pagesHaveHeader_19 (by decide) ?_
      exact c_zret C dX11_pagesHaveHeader_23 rfl (Or.inr rfl) (by decide) (rom0 hph hph (by decide)) ⟨1, rfl, rfl, rfl, rfl, rfl, rfl, (Or.inr rfl), (by omega)⟩
set_option maxHeartbeats 4000000 in
set_option maxRecDepth 100000 in
theorem C_linesOfPage {l : Launch} {G : GT} {mi : Nat} {sk : Nat → Nat} {L : List Nat} {cl ln : Nat → Nat} {iv : Nat → Nat → Int} {rv : Nat → Nat → Option Nat}  {a0 : Nat} (hW : WT (g0 G) sk L cl ln iv rv) (hS : SKL sk L cl) (t_a0 : ty L cl a0 1)  : Mc l G mi (Phi (g0 G) sk) PHM yX11_linesOfPage cX11_linesOfPage 1 (some .int) 1 [.ref a0] L cl ln iv rv 0 (fun v L2 cl2 ln2 iv2 rv2 => ∃ f : Int, v = some (.int (iI f)) ∧ L = L2 ∧ cl = cl2 ∧ ln = ln2 ∧ iv = iv2 ∧ rv = rv2 ∧ (-2147483648 ≤ f ∧ f ≤ 2147483647) ∧ (1 ≤ f ∧ f ≤ 50)) := by
  refine Mc.mk (by decide) (Nat.le_of_ble_eq_true rfl) ?_
  intro p e s m args below meth c A C hM
  refine hv3 (Phi.le hW hS) (show XT L cl ln L cl ln from XT.refl) (show fT [] L cl iv rv iv rv from fT.refl) (fun hph hX0 hF0 => ?_)
  refine c_iconst C dX11_linesOfPage_0 ?_
  refine c_aload_n (j := 0) (x := a0) C dX11_linesOfPage_1 rfl ?_
  have ri1 : 1 ≤ iv a0 12 ∧ iv a0 12 ≤ 50 := hW.int t_a0 12
  refine d_callV (As := []) (rest := [.int (iI 1)]) C hM (C_hasHeader (a0 := a0) hW hS t_a0  ) dX11_linesOfPage_2 kV_X11_285 rfl t_a0 rfl rfl (by decide) ck_12 rfl (Nat.le_of_ble_eq_true rfl) ⟨(Nat.le_of_ble_eq_true rfl), (Nat.le_of_ble_eq_true rfl)⟩ hph hph (show 0 + 0 = 0 from rfl) (by decide) (fun rh1 Lh1 clh1 lnh1 ivh1 rvh1 h1 => ?_)
  obtain ⟨f1, rfl, rfl, rfl, rfl, rfl, rfl, rgf1, exf1⟩ := h1
  refine c_st (st2 := [.int (iI f1), .int (iI 1)]) rfl ?_
  have gf1 : f1 = 0 ∨ 2 ≤ iv a0 12 := exf1
  refine c_if_eq (tgt := 17) C ⟨by omega, by omega⟩ dX11_linesOfPage_5 (by decide) (fun c1 => ?_) (fun c1 => ?_)
  · clear gf1
    refine c_aload_n (j := 0) (x := a0) C dX11_linesOfPage_17 rfl ?_
    refine c_get (k := 12) C ck_12 dX11_linesOfPage_18 w2_56 (by decide) t_a0 rfl rfl (by decide) rfl ?_
    obtain ⟨mn1, hmn1, emn1⟩ := mmax_c (x := 1) (y := iv a0 12) ⟨by decide, by decide⟩ (r32_c (lo := 1) (hi := 50) ri1.1 ri1.2 (by decide) (by decide))
    refine c_mmax (w := iI mn1) C dX11_linesOfPage_21 w3_93 w2_148 w1_14 w2_149 (by decide) (rom0 hph hph (by decide)) (Nat.le_of_ble_eq_true rfl) emn1 ?_
    exact c_iret C dX11_linesOfPage_24 rfl (by decide) (rom0 hph hph (by decide)) ⟨mn1, rfl, rfl, rfl, rfl, rfl, rfl, ⟨by omega, by omega⟩, (by omega)⟩
  · replace gf1 := (gf1.resolve_left c1)
    refine c_aload_n (j := 0) (x := a0) C dX11_linesOfPage_8 rfl ?_
    refine c_get (k := 12) C ck_12 dX11_linesOfPage_9 w2_56 (by decide) t_a0 rfl rfl (by decide) rfl ?_
    refine c_iconst C dX11_linesOfPage_12 ?_
    refine c_isub C dX11_linesOfPage_13 ?_
    refine c_goto (tgt := 21) C dX11_linesOfPage_14 (by decide) ?_
    obtain ⟨mn2, hmn2, emn2⟩ := mmax_c (x := 1) (y := (iv a0 12) - 1) ⟨by decide, by decide⟩ ⟨by omega, by omega⟩
    refine c_mmax (w := iI mn2) C dX11_linesOfPage_21 w3_93 w2_148 w1_14 w2_149 (by decide) (rom0 hph hph (by decide)) (Nat.le_of_ble_eq_true rfl) emn2 ?_
    exact c_iret C dX11_linesOfPage_24 rfl (by decide) (rom0 hph hph (by decide)) ⟨mn2, rfl, rfl, rfl, rfl, rfl, rfl, ⟨by omega, by omega⟩, (by omega)⟩
set_option maxHeartbeats 4000000 in
set_option maxRecDepth 100000 in
theorem C_pages {l : Launch} {G : GT} {mi : Nat} {sk : Nat → Nat} {L : List Nat} {cl ln : Nat → Nat} {iv : Nat → Nat → Int} {rv : Nat → Nat → Option Nat}  {a0 : Nat} (hW : WT (g0 G) sk L cl ln iv rv) (hS : SKL sk L cl) (t_a0 : ty L cl a0 1)  : Mc l G mi (Phi (g0 G) sk) PHM yX11_pages cX11_pages 2 (some .int) 2 [.ref a0] L cl ln iv rv 0 (fun v L2 cl2 ln2 iv2 rv2 => ∃ f : Int, v = some (.int (iI f)) ∧ L = L2 ∧ cl = cl2 ∧ ln = ln2 ∧ iv = iv2 ∧ rv = rv2 ∧ (-2147483648 ≤ f ∧ f ≤ 2147483647) ∧ (True)) := by
  refine Mc.mk (by decide) (Nat.le_of_ble_eq_true rfl) ?_
  intro p e s m args below meth c A C hM
  refine hv3 (Phi.le hW hS) (show XT L cl ln L cl ln from XT.refl) (show fT [] L cl iv rv iv rv from fT.refl) (fun hph hX0 hF0 => ?_)
  refine c_aload_n (j := 0) (x := a0) C dX11_pages_0 rfl ?_
  refine d_callV (As := []) (rest := []) C hM (C_linesOfPage (a0 := a0) hW hS t_a0  ) dX11_pages_1 kV_X11_282 rfl t_a0 rfl rfl (by decide) ck_12 rfl (Nat.le_of_ble_eq_true rfl) ⟨(Nat.le_of_ble_eq_true rfl), (Nat.le_of_ble_eq_true rfl)⟩ hph hph (show 0 + 0 = 0 from rfl) (by decide) (fun rh1 Lh1 clh1 lnh1 ivh1 rvh1 h1 => ?_)
  obtain ⟨f1, rfl, rfl, rfl, rfl, rfl, rfl, rgf1, exf1⟩ := h1
  refine c_st (st2 := [.int (iI f1)]) rfl ?_
  have gf1 : 1 ≤ f1 ∧ f1 ≤ 50 := exf1
  refine c_istore_n (lv2 := [(1, .int (iI f1)), (0, .ref a0)]) C dX11_pages_4 (by decide) rfl ?_
  refine c_aload_n (j := 1) (x := a0) C dX11_pages_5 rfl ?_
  obtain ⟨rb1, rq1, trb1⟩ := hW.ref t_a0 9 rfl rfl rfl
  refine c_getr (k := 9) C ck_12 dX11_pages_6 w2_53 (by decide) t_a0 rfl rfl (by decide) rfl rq1 ?_
  refine c_st (st2 := [.ref rb1]) rfl ?_
  have ri1 : 0 ≤ iv rb1 1 ∧ iv rb1 1 ≤ 200 := hW.int trb1 1
  refine c_get (k := 1) C ck_8 dX11_pages_9 w2_35 (by decide) trb1 rfl rfl (by decide) rfl ?_
  refine c_iload_n (j := 0) C dX11_pages_12 rfl ?_
  refine c_iadd C dX11_pages_13 ?_
  refine c_iconst C dX11_pages_14 ?_
  refine c_isub C dX11_pages_15 ?_
  refine c_iload_n (j := 0) C dX11_pages_16 rfl ?_
  obtain ⟨dq1, hdq1⟩ : ∃ q : Int, q = (((iv rb1 1) + f1) - 1) / f1 := ⟨_, rfl⟩
  have rdq1 := ediv_r (x := ((iv rb1 1) + f1) - 1) (y := f1) (by omega) (by omega)
  rw [← hdq1] at rdq1
  refine c_idiv (w := iI dq1) C dX11_pages_17 (iI_ne0 ⟨by omega, by omega⟩) (by rw [hdq1]; exact iI_div ⟨by omega, by omega⟩ ⟨by omega, by omega⟩) ?_
  exact c_iret C dX11_pages_18 rfl (by decide) (rom0 hph hph (by decide)) ⟨dq1, rfl, rfl, rfl, rfl, rfl, rfl, ⟨by omega, by omega⟩, trivial⟩
set_option maxHeartbeats 4000000 in
set_option maxRecDepth 100000 in
theorem C_length {l : Launch} {G : GT} {mi : Nat} {sk : Nat → Nat} {L : List Nat} {cl ln : Nat → Nat} {iv : Nat → Nat → Int} {rv : Nat → Nat → Option Nat}  {a0 : Nat} {i : Int} (hW : WT (g0 G) sk L cl ln iv rv) (hS : SKL sk L cl) (t_a0 : ty L cl a0 1) (h_i : -2147483648 ≤ i ∧ i ≤ 2147483647)  : Mc l G mi (Phi (g0 G) sk) PHM yX11_length cX11_length 3 (some .int) 2 [.ref a0, .int (iI i)] L cl ln iv rv 0 (fun v L2 cl2 ln2 iv2 rv2 => ∃ f : Int, v = some (.int (iI f)) ∧ L = L2 ∧ cl = cl2 ∧ ln = ln2 ∧ rv = rv2 ∧ fT [1] L cl iv rv iv2 rv2 ∧ WT (g0 G) sk L2 cl2 ln2 iv2 rv2 ∧ (-2147483648 ≤ f ∧ f ≤ 2147483647) ∧ (True) ∧ iv2 a0 11 = iv a0 11 ∧ iv2 a0 12 = iv a0 12 ∧ iv2 a0 13 = iv a0 13 ∧ iv2 a0 14 = iv a0 14 ∧ iv2 a0 15 = iv a0 15 ∧ iv2 a0 16 = iv a0 16) := by
  refine Mc.mk (by decide) (Nat.le_of_ble_eq_true rfl) ?_
  intro p e s m args below meth c A C hM
  refine hv3 (Phi.le hW hS) (show XT L cl ln L cl ln from XT.refl) (show fT [1] L cl iv rv iv rv from fT.refl) (fun hph hX0 hF0 => ?_)
  refine c_aload_n (j := 0) (x := a0) C dX11_length_0 rfl ?_
  obtain ⟨rb1, rq1, trb1⟩ := hW.ref t_a0 9 rfl rfl rfl
  refine c_getr (k := 9) C ck_12 dX11_length_1 w2_53 (by decide) t_a0 rfl rfl (by decide) rfl rq1 ?_
  refine c_st (st2 := [.ref rb1]) rfl ?_
  refine c_iload_n (j := 1) C dX11_length_4 rfl ?_
  have ri1 : 0 ≤ iv rb1 1 ∧ iv rb1 1 ≤ 200 := hW.int trb1 1
  refine d_callV (As := [.int (iI i)]) (rest := []) C hM (C_present (a0 := rb1) (i := i) hW hS trb1 (by omega) ) dX11_length_5 kV_X11_288 rfl trb1 rfl rfl (by decide) ck_8 rfl (Nat.le_of_ble_eq_true rfl) ⟨(Nat.le_of_ble_eq_true rfl), (Nat.le_of_ble_eq_true rfl)⟩ hph hph (show 0 + 0 = 0 from rfl) (by decide) (fun rh1 Lh1 clh1 lnh1 ivh1 rvh1 h1 => ?_)
  obtain ⟨f1, rfl, rfl, rfl, rfl, rfl, rfl, rgf1, exf1⟩ := h1
  refine c_st (st2 := [(va_rf f1)]) rfl ?_
  have gf1 : f1 = none ∨ (0 ≤ i ∧ i < iv rb1 1) := exf1
  refine c_astorer_n (r := f1) (lv2 := [(2, (va_rf f1)), (0, .ref a0), (1, .int (iI i))]) C dX11_length_8 (by decide) rfl ?_
  refine c_aloadr_n (j := 0) (r := f1) C dX11_length_9 rfl ?_
  refine c_ifnonnull (r := f1) (tgt := 28) C dX11_length_10 (by decide) (fun ob1 oq1 => ?_) (fun oq1 => ?_)
  · subst oq1
    have tob1 := rgf1 ob1 rfl
    refine c_lv (lv2 := [(2, .ref ob1), (0, .ref a0), (1, .int (iI i))]) [0, 1, 2] rfl ?_
    refine c_st (st2 := []) rfl ?_
    refine c_aload_n (j := 1) (x := a0) C dX11_length_28 rfl ?_
    refine c_aload_n (j := 0) (x := ob1) C dX11_length_29 rfl ?_
    have ri2 : 0 ≤ iv ob1 1 ∧ iv ob1 1 ≤ 200 := hW.int tob1 1
    refine c_get (k := 1) C ck_3 dX11_length_30 w4_53 (by decide) tob1 rfl rfl (by decide) rfl ?_
    refine d_callV (As := [.int (iI (iv ob1 1))]) (rest := []) C hM (C_done (a0 := a0) (x := iv ob1 1) hW hS t_a0 (by omega) ) dX11_length_33 kV_X11_109 rfl t_a0 rfl rfl (by decide) ck_12 rfl (Nat.le_of_ble_eq_true rfl) ⟨(Nat.le_of_ble_eq_true rfl), (Nat.le_of_ble_eq_true rfl)⟩ hph hph (show 0 + 0 = 0 from rfl) (by decide) (fun rh2 Lh2 clh2 lnh2 ivh2 rvh2 h2 => ?_)
    obtain ⟨f2, rfl, rfl, rfl, rfl, rfl, fl2, W2, rgf2, exf2, kp11f2, kp12f2, kp13f2, kp14f2, kp15f2, kp16f2⟩ := h2
    refine hv7 (show 1 ≤ iv a0 11 ∧ iv a0 11 ≤ 100 from hW.int t_a0 11) (show 1 ≤ iv a0 12 ∧ iv a0 12 ≤ 50 from hW.int t_a0 12) (show (-2147483648) ≤ iv a0 13 ∧ iv a0 13 ≤ 2147483647 from hW.int t_a0 13) (show (-2147483648) ≤ iv a0 14 ∧ iv a0 14 ≤ 2147483647 from hW.int t_a0 14) (show (-2147483648) ≤ iv a0 15 ∧ iv a0 15 ≤ 2147483647 from hW.int t_a0 15) (show (-2147483648) ≤ iv a0 16 ∧ iv a0 16 ≤ 2147483647 from hW.int t_a0 16) (hF0.call hX0 fl2 rfl) (fun ri3 ri4 ri5 ri6 ri7 ri8 F1 => ?_)
    refine c_st (st2 := [.int (iI f2)]) rfl ?_
    refine hv13 (show ivh2 a0 11 = iv a0 11 from kp11f2) (show ivh2 a0 12 = iv a0 12 from kp12f2) (show ivh2 a0 13 = iv a0 13 from kp13f2) (show ivh2 a0 14 = iv a0 14 from kp14f2) (show ivh2 a0 15 = iv a0 15 from kp15f2) (show ivh2 a0 16 = iv a0 16 from kp16f2) (show f2 = (iv ob1 1) from exf2) (show 1 ≤ ivh2 a0 11 ∧ ivh2 a0 11 ≤ 100 from W2.int t_a0 11) (show 1 ≤ ivh2 a0 12 ∧ ivh2 a0 12 ≤ 50 from W2.int t_a0 12) (show (-2147483648) ≤ ivh2 a0 13 ∧ ivh2 a0 13 ≤ 2147483647 from W2.int t_a0 13) (show (-2147483648) ≤ ivh2 a0 14 ∧ ivh2 a0 14 ≤ 2147483647 from W2.int t_a0 14) (show (-2147483648) ≤ ivh2 a0 15 ∧ ivh2 a0 15 ≤ 2147483647 from W2.int t_a0 15) (show (-2147483648) ≤ ivh2 a0 16 ∧ ivh2 a0 16 ≤ 2147483647 from W2.int t_a0 16) (fun gk11f2 gk12f2 gk13f2 gk14f2 gk15f2 gk16f2 gf2 ri9 ri10 ri11 ri12 ri13 ri14 => ?_)
    exact c_iret C dX11_length_36 rfl (by decide) (rom0 hph hph (by decide)) ⟨f2, rfl, rfl, rfl, rfl, rfl, F1, W2, ⟨by omega, by omega⟩, trivial, gk11f2, gk12f2, gk13f2, gk14f2, gk15f2, gk16f2⟩
  · subst oq1
    refine c_lv (lv2 := [(2, .null), (0, .ref a0), (1, .int (iI i))]) [0, 1, 2] rfl ?_
    refine c_st (st2 := []) rfl ?_
    refine c_aload_n (j := 1) (x := a0) C dX11_length_13 rfl ?_
    refine c_aload_n (j := 1) (x := a0) C dX11_length_14 rfl ?_
    refine c_getr (k := 9) C ck_12 dX11_length_15 w2_53 (by decide) t_a0 rfl rfl (by decide) rfl rq1 ?_
    refine c_st (st2 := [.ref rb1, .ref a0]) rfl ?_
    refine c_iload_n (j := 2) C dX11_length_18 rfl ?_
    refine d_callV (As := [.int (iI i)]) (rest := [.ref a0]) C hM (C_whyNone (a0 := rb1) (i := i) hW hS trb1 (by omega) ) dX11_length_19 kV_X11_292 rfl trb1 rfl rfl (by decide) ck_8 rfl (Nat.le_of_ble_eq_true rfl) ⟨(Nat.le_of_ble_eq_true rfl), (Nat.le_of_ble_eq_true rfl)⟩ hph hph (show 0 + 0 = 0 from rfl) (by decide) (fun rh3 Lh3 clh3 lnh3 ivh3 rvh3 h3 => ?_)
    obtain ⟨f3, rfl, rfl, rfl, rfl, rfl, rfl, rgf3, exf3⟩ := h3
    refine c_st (st2 := [.int (iI f3), .ref a0]) rfl ?_
    have gf3 : f3 = 1 ∨ f3 = 2 := exf3
    refine d_callV (As := [.int (iI f3)]) (rest := []) C hM (C_refuse (a0 := a0) (x := f3) hW hS t_a0 (by omega) ) dX11_length_22 kV_X11_102 rfl t_a0 rfl rfl (by decide) ck_12 rfl (Nat.le_of_ble_eq_true rfl) ⟨(Nat.le_of_ble_eq_true rfl), (Nat.le_of_ble_eq_true rfl)⟩ hph hph (show 0 + 0 = 0 from rfl) (by decide) (fun rh4 Lh4 clh4 lnh4 ivh4 rvh4 h4 => ?_)
    obtain ⟨f4, rfl, rfl, rfl, rfl, rfl, fl4, W4, rgf4, exf4, kp11f4, kp12f4, kp13f4, kp14f4, kp15f4, kp16f4⟩ := h4
    refine hv7 (show 1 ≤ iv a0 11 ∧ iv a0 11 ≤ 100 from hW.int t_a0 11) (show 1 ≤ iv a0 12 ∧ iv a0 12 ≤ 50 from hW.int t_a0 12) (show (-2147483648) ≤ iv a0 13 ∧ iv a0 13 ≤ 2147483647 from hW.int t_a0 13) (show (-2147483648) ≤ iv a0 14 ∧ iv a0 14 ≤ 2147483647 from hW.int t_a0 14) (show (-2147483648) ≤ iv a0 15 ∧ iv a0 15 ≤ 2147483647 from hW.int t_a0 15) (show (-2147483648) ≤ iv a0 16 ∧ iv a0 16 ≤ 2147483647 from hW.int t_a0 16) (hF0.call hX0 fl4 rfl) (fun ri15 ri16 ri17 ri18 ri19 ri20 F2 => ?_)
    refine c_st (st2 := [.int (iI f4)]) rfl ?_
    refine hv7 (show ivh4 a0 11 = iv a0 11 from kp11f4) (show ivh4 a0 12 = iv a0 12 from kp12f4) (show ivh4 a0 13 = iv a0 13 from kp13f4) (show ivh4 a0 14 = iv a0 14 from kp14f4) (show ivh4 a0 15 = iv a0 15 from kp15f4) (show ivh4 a0 16 = iv a0 16 from kp16f4) (show f4 = -1 from exf4) (fun gk11f4 gk12f4 gk13f4 gk14f4 gk15f4 gk16f4 gf4 => ?_)
    refine c_goto (tgt := 36) C dX11_length_25 (by decide) ?_
    refine hv6 (show 1 ≤ ivh4 a0 11 ∧ ivh4 a0 11 ≤ 100 from W4.int t_a0 11) (show 1 ≤ ivh4 a0 12 ∧ ivh4 a0 12 ≤ 50 from W4.int t_a0 12) (show (-2147483648) ≤ ivh4 a0 13 ∧ ivh4 a0 13 ≤ 2147483647 from W4.int t_a0 13) (show (-2147483648) ≤ ivh4 a0 14 ∧ ivh4 a0 14 ≤ 2147483647 from W4.int t_a0 14) (show (-2147483648) ≤ ivh4 a0 15 ∧ ivh4 a0 15 ≤ 2147483647 from W4.int t_a0 15) (show (-2147483648) ≤ ivh4 a0 16 ∧ ivh4 a0 16 ≤ 2147483647 from W4.int t_a0 16) (fun ri21 ri22 ri23 ri24 ri25 ri26 => ?_)
    exact c_iret C dX11_length_36 rfl (by decide) (rom0 hph hph (by decide)) ⟨f4, rfl, rfl, rfl, rfl, rfl, F2, W4, ⟨by omega, by omega⟩, trivial, gk11f4, gk12f4, gk13f4, gk14f4, gk15f4, gk16f4⟩
set_option maxHeartbeats 4000000 in
set_option maxRecDepth 100000 in
theorem C_cellOfLine {l : Launch} {G : GT} {mi : Nat} {sk : Nat → Nat} {L : List Nat} {cl ln : Nat → Nat} {iv : Nat → Nat → Int} {rv : Nat → Nat → Option Nat}  {a0 : Nat} {i : Int} {j : Int} (hW : WT (g0 G) sk L cl ln iv rv) (hS : SKL sk L cl) (t_a0 : ty L cl a0 1) (h_i : -2147483648 ≤ i ∧ i ≤ 2147483647) (h_j : -2147483648 ≤ j ∧ j ≤ 2147483647)  : Mc l G mi (Phi (g0 G) sk) PHM yX11_cellOfLine cX11_cellOfLine 4 (some .int) 2 [.ref a0, .int (iI i), .int (iI j)] L cl ln iv rv 0 (fun v L2 cl2 ln2 iv2 rv2 => ∃ f : Int, v = some (.int (iI f)) ∧ L = L2 ∧ cl = cl2 ∧ ln = ln2 ∧ rv = rv2 ∧ fT [1] L cl iv rv iv2 rv2 ∧ WT (g0 G) sk L2 cl2 ln2 iv2 rv2 ∧ (-2147483648 ≤ f ∧ f ≤ 2147483647) ∧ (True) ∧ iv2 a0 11 = iv a0 11 ∧ iv2 a0 12 = iv a0 12 ∧ iv2 a0 13 = iv a0 13 ∧ iv2 a0 14 = iv a0 14 ∧ iv2 a0 15 = iv a0 15 ∧ iv2 a0 16 = iv a0 16) := by
  refine Mc.mk (by decide) (Nat.le_of_ble_eq_true rfl) ?_
  intro p e s m args below meth c A C hM
  refine hv3 (Phi.le hW hS) (show XT L cl ln L cl ln from XT.refl) (show fT [1] L cl iv rv iv rv from fT.refl) (fun hph hX0 hF0 => ?_)
  refine c_aload_n (j := 0) (x := a0) C dX11_cellOfLine_0 rfl ?_
  obtain ⟨rb1, rq1, trb1⟩ := hW.ref t_a0 9 rfl rfl rfl
  refine c_getr (k := 9) C ck_12 dX11_cellOfLine_1 w2_53 (by decide) t_a0 rfl rfl (by decide) rfl rq1 ?_
  refine c_st (st2 := [.ref rb1]) rfl ?_
  refine c_iload_n (j := 1) C dX11_cellOfLine_4 rfl ?_
  have ri1 : 0 ≤ iv rb1 1 ∧ iv rb1 1 ≤ 200 := hW.int trb1 1
  refine d_callV (As := [.int (iI i)]) (rest := []) C hM (C_present (a0 := rb1) (i := i) hW hS trb1 (by omega) ) dX11_cellOfLine_5 kV_X11_288 rfl trb1 rfl rfl (by decide) ck_8 rfl (Nat.le_of_ble_eq_true rfl) ⟨(Nat.le_of_ble_eq_true rfl), (Nat.le_of_ble_eq_true rfl)⟩ hph hph (show 0 + 0 = 0 from rfl) (by decide) (fun rh1 Lh1 clh1 lnh1 ivh1 rvh1 h1 => ?_)
  obtain ⟨f1, rfl, rfl, rfl, rfl, rfl, rfl, rgf1, exf1⟩ := h1
  refine c_st (st2 := [(va_rf f1)]) rfl ?_
  have gf1 : f1 = none ∨ (0 ≤ i ∧ i < iv rb1 1) := exf1
  refine c_astorer_n (r := f1) (lv2 := [(3, (va_rf f1)), (0, .ref a0), (1, .int (iI i)), (2, .int (iI j))]) C dX11_cellOfLine_8 (by decide) rfl ?_
  refine c_aloadr_n (j := 0) (r := f1) C dX11_cellOfLine_9 rfl ?_
  refine c_ifnonnull (r := f1) (tgt := 26) C dX11_cellOfLine_10 (by decide) (fun ob1 oq1 => ?_) (fun oq1 => ?_)
  · subst oq1
    have tob1 := rgf1 ob1 rfl
    refine c_lv (lv2 := [(3, .ref ob1), (0, .ref a0), (1, .int (iI i)), (2, .int (iI j))]) [0, 1, 2, 3] rfl ?_
    refine c_st (st2 := []) rfl ?_
    refine c_iload_n (j := 3) C dX11_cellOfLine_26 rfl ?_
    refine c_if_lt (tgt := 38) C ⟨by omega, by omega⟩ dX11_cellOfLine_27 (by decide) (fun c1 => ?_) (fun c1 => ?_)
    · refine c_aload_n (j := 1) (x := a0) C dX11_cellOfLine_38 rfl ?_
      refine c_iconst C dX11_cellOfLine_39 ?_
      refine d_callV (As := [.int (iI 2)]) (rest := []) C hM (C_refuse (a0 := a0) (x := 2) hW hS t_a0 ⟨by decide, by decide⟩ ) dX11_cellOfLine_40 kV_X11_102 rfl t_a0 rfl rfl (by decide) ck_12 rfl (Nat.le_of_ble_eq_true rfl) ⟨(Nat.le_of_ble_eq_true rfl), (Nat.le_of_ble_eq_true rfl)⟩ hph hph (show 0 + 0 = 0 from rfl) (by decide) (fun rh2 Lh2 clh2 lnh2 ivh2 rvh2 h2 => ?_)
      obtain ⟨f2, rfl, rfl, rfl, rfl, rfl, fl2, W2, rgf2, exf2, kp11f2, kp12f2, kp13f2, kp14f2, kp15f2, kp16f2⟩ := h2
      refine hv7 (show 1 ≤ iv a0 11 ∧ iv a0 11 ≤ 100 from hW.int t_a0 11) (show 1 ≤ iv a0 12 ∧ iv a0 12 ≤ 50 from hW.int t_a0 12) (show (-2147483648) ≤ iv a0 13 ∧ iv a0 13 ≤ 2147483647 from hW.int t_a0 13) (show (-2147483648) ≤ iv a0 14 ∧ iv a0 14 ≤ 2147483647 from hW.int t_a0 14) (show (-2147483648) ≤ iv a0 15 ∧ iv a0 15 ≤ 2147483647 from hW.int t_a0 15) (show (-2147483648) ≤ iv a0 16 ∧ iv a0 16 ≤ 2147483647 from hW.int t_a0 16) (hF0.call hX0 fl2 rfl) (fun ri2 ri3 ri4 ri5 ri6 ri7 F1 => ?_)
      refine c_st (st2 := [.int (iI f2)]) rfl ?_
      refine hv7 (show ivh2 a0 11 = iv a0 11 from kp11f2) (show ivh2 a0 12 = iv a0 12 from kp12f2) (show ivh2 a0 13 = iv a0 13 from kp13f2) (show ivh2 a0 14 = iv a0 14 from kp14f2) (show ivh2 a0 15 = iv a0 15 from kp15f2) (show ivh2 a0 16 = iv a0 16 from kp16f2) (show f2 = -1 from exf2) (fun gk11f2 gk12f2 gk13f2 gk14f2 gk15f2 gk16f2 gf2 => ?_)
      refine c_goto (tgt := 56) C dX11_cellOfLine_43 (by decide) ?_
      refine hv6 (show 1 ≤ ivh2 a0 11 ∧ ivh2 a0 11 ≤ 100 from W2.int t_a0 11) (show 1 ≤ ivh2 a0 12 ∧ ivh2 a0 12 ≤ 50 from W2.int t_a0 12) (show (-2147483648) ≤ ivh2 a0 13 ∧ ivh2 a0 13 ≤ 2147483647 from W2.int t_a0 13) (show (-2147483648) ≤ ivh2 a0 14 ∧ ivh2 a0 14 ≤ 2147483647 from W2.int t_a0 14) (show (-2147483648) ≤ ivh2 a0 15 ∧ ivh2 a0 15 ≤ 2147483647 from W2.int t_a0 15) (show (-2147483648) ≤ ivh2 a0 16 ∧ ivh2 a0 16 ≤ 2147483647 from W2.int t_a0 16) (fun ri8 ri9 ri10 ri11 ri12 ri13 => ?_)
      exact c_iret C dX11_cellOfLine_56 rfl (by decide) (rom0 hph hph (by decide)) ⟨f2, rfl, rfl, rfl, rfl, rfl, F1, W2, ⟨by omega, by omega⟩, trivial, gk11f2, gk12f2, gk13f2, gk14f2, gk15f2, gk16f2⟩
    · refine c_iload_n (j := 3) C dX11_cellOfLine_30 rfl ?_
      refine c_aload_n (j := 0) (x := ob1) C dX11_cellOfLine_31 rfl ?_
      have ri14 : 0 ≤ iv ob1 1 ∧ iv ob1 1 ≤ 200 := hW.int tob1 1
      refine c_get (k := 1) C ck_3 dX11_cellOfLine_32 w4_53 (by decide) tob1 rfl rfl (by decide) rfl ?_
      refine c_icmp_lt (tgt := 46) C ⟨by omega, by omega⟩ (r32_c (lo := 0) (hi := 200) ri14.1 ri14.2 (by decide) (by decide)) dX11_cellOfLine_35 (by decide) (fun c2 => ?_) (fun c2 => ?_)
      · refine c_aload_n (j := 1) (x := a0) C dX11_cellOfLine_46 rfl ?_
        refine c_aload_n (j := 0) (x := ob1) C dX11_cellOfLine_47 rfl ?_
        obtain ⟨rb2, rq2, trb2⟩ := hW.ref tob1 0 rfl rfl rfl
        have lnrb2 : 200 ≤ ln rb2 ∧ ln rb2 ≤ 200 := hW.len trb2 rfl
        refine c_getr (k := 0) C ck_3 dX11_cellOfLine_48 w4_48 (by decide) tob1 rfl rfl (by decide) rfl rq2 ?_
        refine c_st (st2 := [.ref rb2, .ref a0]) rfl ?_
        refine c_iload_n (j := 3) C dX11_cellOfLine_51 rfl ?_
        have ll1 : 200 ≤ ln rb2 ∧ ln rb2 ≤ 200 := hW.len trb2 rfl
        refine c_iald C dX11_cellOfLine_52 trb2 rfl (by omega) (by omega) (by omega) ?_
        have ri15 : (-2147483648) ≤ iv rb2 j.toNat ∧ iv rb2 j.toNat ≤ 2147483647 := hW.int trb2 j.toNat
        refine d_callV (As := [.int (iI (iv rb2 j.toNat))]) (rest := []) C hM (C_done (a0 := a0) (x := iv rb2 j.toNat) hW hS t_a0 (by omega) ) dX11_cellOfLine_53 kV_X11_109 rfl t_a0 rfl rfl (by decide) ck_12 rfl (Nat.le_of_ble_eq_true rfl) ⟨(Nat.le_of_ble_eq_true rfl), (Nat.le_of_ble_eq_true rfl)⟩ hph hph (show 0 + 0 = 0 from rfl) (by decide) (fun rh3 Lh3 clh3 lnh3 ivh3 rvh3 h3 => ?_)
        obtain ⟨f3, rfl, rfl, rfl, rfl, rfl, fl3, W3, rgf3, exf3, kp11f3, kp12f3, kp13f3, kp14f3, kp15f3, kp16f3⟩ := h3
        refine hv7 (show 1 ≤ iv a0 11 ∧ iv a0 11 ≤ 100 from hW.int t_a0 11) (show 1 ≤ iv a0 12 ∧ iv a0 12 ≤ 50 from hW.int t_a0 12) (show (-2147483648) ≤ iv a0 13 ∧ iv a0 13 ≤ 2147483647 from hW.int t_a0 13) (show (-2147483648) ≤ iv a0 14 ∧ iv a0 14 ≤ 2147483647 from hW.int t_a0 14) (show (-2147483648) ≤ iv a0 15 ∧ iv a0 15 ≤ 2147483647 from hW.int t_a0 15) (show (-2147483648) ≤ iv a0 16 ∧ iv a0 16 ≤ 2147483647 from hW.int t_a0 16) (hF0.call hX0 fl3 rfl) (fun ri16 ri17 ri18 ri19 ri20 ri21 F2 => ?_)
        refine c_st (st2 := [.int (iI f3)]) rfl ?_
        refine hv13 (show ivh3 a0 11 = iv a0 11 from kp11f3) (show ivh3 a0 12 = iv a0 12 from kp12f3) (show ivh3 a0 13 = iv a0 13 from kp13f3) (show ivh3 a0 14 = iv a0 14 from kp14f3) (show ivh3 a0 15 = iv a0 15 from kp15f3) (show ivh3 a0 16 = iv a0 16 from kp16f3) (show f3 = (iv rb2 j.toNat) from exf3) (show 1 ≤ ivh3 a0 11 ∧ ivh3 a0 11 ≤ 100 from W3.int t_a0 11) (show 1 ≤ ivh3 a0 12 ∧ ivh3 a0 12 ≤ 50 from W3.int t_a0 12) (show (-2147483648) ≤ ivh3 a0 13 ∧ ivh3 a0 13 ≤ 2147483647 from W3.int t_a0 13) (show (-2147483648) ≤ ivh3 a0 14 ∧ ivh3 a0 14 ≤ 2147483647 from W3.int t_a0 14) (show (-2147483648) ≤ ivh3 a0 15 ∧ ivh3 a0 15 ≤ 2147483647 from W3.int t_a0 15) (show (-2147483648) ≤ ivh3 a0 16 ∧ ivh3 a0 16 ≤ 2147483647 from W3.int t_a0 16) (fun gk11f3 gk12f3 gk13f3 gk14f3 gk15f3 gk16f3 gf3 ri22 ri23 ri24 ri25 ri26 ri27 => ?_)
        exact c_iret C dX11_cellOfLine_56 rfl (by decide) (rom0 hph hph (by decide)) ⟨f3, rfl, rfl, rfl, rfl, rfl, F2, W3, ⟨by omega, by omega⟩, trivial, gk11f3, gk12f3, gk13f3, gk14f3, gk15f3, gk16f3⟩
      · refine c_aload_n (j := 1) (x := a0) C dX11_cellOfLine_38 rfl ?_
        refine c_iconst C dX11_cellOfLine_39 ?_
        refine d_callV (As := [.int (iI 2)]) (rest := []) C hM (C_refuse (a0 := a0) (x := 2) hW hS t_a0 ⟨by decide, by decide⟩ ) dX11_cellOfLine_40 kV_X11_102 rfl t_a0 rfl rfl (by decide) ck_12 rfl (Nat.le_of_ble_eq_true rfl) ⟨(Nat.le_of_ble_eq_true rfl), (Nat.le_of_ble_eq_true rfl)⟩ hph hph (show 0 + 0 = 0 from rfl) (by decide) (fun rh4 Lh4 clh4 lnh4 ivh4 rvh4 h4 => ?_)
        obtain ⟨f4, rfl, rfl, rfl, rfl, rfl, fl4, W4, rgf4, exf4, kp11f4, kp12f4, kp13f4, kp14f4, kp15f4, kp16f4⟩ := h4
        refine hv7 (show 1 ≤ iv a0 11 ∧ iv a0 11 ≤ 100 from hW.int t_a0 11) (show 1 ≤ iv a0 12 ∧ iv a0 12 ≤ 50 from hW.int t_a0 12) (show (-2147483648) ≤ iv a0 13 ∧ iv a0 13 ≤ 2147483647 from hW.int t_a0 13) (show (-2147483648) ≤ iv a0 14 ∧ iv a0 14 ≤ 2147483647 from hW.int t_a0 14) (show (-2147483648) ≤ iv a0 15 ∧ iv a0 15 ≤ 2147483647 from hW.int t_a0 15) (show (-2147483648) ≤ iv a0 16 ∧ iv a0 16 ≤ 2147483647 from hW.int t_a0 16) (hF0.call hX0 fl4 rfl) (fun ri28 ri29 ri30 ri31 ri32 ri33 F3 => ?_)
        refine c_st (st2 := [.int (iI f4)]) rfl ?_
        refine hv7 (show ivh4 a0 11 = iv a0 11 from kp11f4) (show ivh4 a0 12 = iv a0 12 from kp12f4) (show ivh4 a0 13 = iv a0 13 from kp13f4) (show ivh4 a0 14 = iv a0 14 from kp14f4) (show ivh4 a0 15 = iv a0 15 from kp15f4) (show ivh4 a0 16 = iv a0 16 from kp16f4) (show f4 = -1 from exf4) (fun gk11f4 gk12f4 gk13f4 gk14f4 gk15f4 gk16f4 gf4 => ?_)
        refine c_goto (tgt := 56) C dX11_cellOfLine_43 (by decide) ?_
        refine hv6 (show 1 ≤ ivh4 a0 11 ∧ ivh4 a0 11 ≤ 100 from W4.int t_a0 11) (show 1 ≤ ivh4 a0 12 ∧ ivh4 a0 12 ≤ 50 from W4.int t_a0 12) (show (-2147483648) ≤ ivh4 a0 13 ∧ ivh4 a0 13 ≤ 2147483647 from W4.int t_a0 13) (show (-2147483648) ≤ ivh4 a0 14 ∧ ivh4 a0 14 ≤ 2147483647 from W4.int t_a0 14) (show (-2147483648) ≤ ivh4 a0 15 ∧ ivh4 a0 15 ≤ 2147483647 from W4.int t_a0 15) (show (-2147483648) ≤ ivh4 a0 16 ∧ ivh4 a0 16 ≤ 2147483647 from W4.int t_a0 16) (fun ri34 ri35 ri36 ri37 ri38 ri39 => ?_)
        exact c_iret C dX11_cellOfLine_56 rfl (by decide) (rom0 hph hph (by decide)) ⟨f4, rfl, rfl, rfl, rfl, rfl, F3, W4, ⟨by omega, by omega⟩, trivial, gk11f4, gk12f4, gk13f4, gk14f4, gk15f4, gk16f4⟩
  · subst oq1
    refine c_lv (lv2 := [(3, .null), (0, .ref a0), (1, .int (iI i)), (2, .int (iI j))]) [0, 1, 2, 3] rfl ?_
    refine c_st (st2 := []) rfl ?_
    refine c_aload_n (j := 1) (x := a0) C dX11_cellOfLine_13 rfl ?_
    refine c_aload_n (j := 1) (x := a0) C dX11_cellOfLine_14 rfl ?_
    refine c_getr (k := 9) C ck_12 dX11_cellOfLine_15 w2_53 (by decide) t_a0 rfl rfl (by decide) rfl rq1 ?_
    refine c_st (st2 := [.ref rb1, .ref a0]) rfl ?_
    refine c_iload_n (j := 2) C dX11_cellOfLine_18 rfl ?_
    refine d_callV (As := [.int (iI i)]) (rest := [.ref a0]) C hM (C_whyNone (a0 := rb1) (i := i) hW hS trb1 (by omega) ) dX11_cellOfLine_19 kV_X11_292 rfl trb1 rfl rfl (by decide) ck_8 rfl (Nat.le_of_ble_eq_true rfl) ⟨(Nat.le_of_ble_eq_true rfl), (Nat.le_of_ble_eq_true rfl)⟩ hph hph (show 0 + 0 = 0 from rfl) (by decide) (fun rh5 Lh5 clh5 lnh5 ivh5 rvh5 h5 => ?_)
    obtain ⟨f5, rfl, rfl, rfl, rfl, rfl, rfl, rgf5, exf5⟩ := h5
    refine c_st (st2 := [.int (iI f5), .ref a0]) rfl ?_
    have gf5 : f5 = 1 ∨ f5 = 2 := exf5
    refine d_callV (As := [.int (iI f5)]) (rest := []) C hM (C_refuse (a0 := a0) (x := f5) hW hS t_a0 (by omega) ) dX11_cellOfLine_22 kV_X11_102 rfl t_a0 rfl rfl (by decide) ck_12 rfl (Nat.le_of_ble_eq_true rfl) ⟨(Nat.le_of_ble_eq_true rfl), (Nat.le_of_ble_eq_true rfl)⟩ hph hph (show 0 + 0 = 0 from rfl) (by decide) (fun rh6 Lh6 clh6 lnh6 ivh6 rvh6 h6 => ?_)
    obtain ⟨f6, rfl, rfl, rfl, rfl, rfl, fl6, W6, rgf6, exf6, kp11f6, kp12f6, kp13f6, kp14f6, kp15f6, kp16f6⟩ := h6
    refine hv7 (show 1 ≤ iv a0 11 ∧ iv a0 11 ≤ 100 from hW.int t_a0 11) (show 1 ≤ iv a0 12 ∧ iv a0 12 ≤ 50 from hW.int t_a0 12) (show (-2147483648) ≤ iv a0 13 ∧ iv a0 13 ≤ 2147483647 from hW.int t_a0 13) (show (-2147483648) ≤ iv a0 14 ∧ iv a0 14 ≤ 2147483647 from hW.int t_a0 14) (show (-2147483648) ≤ iv a0 15 ∧ iv a0 15 ≤ 2147483647 from hW.int t_a0 15) (show (-2147483648) ≤ iv a0 16 ∧ iv a0 16 ≤ 2147483647 from hW.int t_a0 16) (hF0.call hX0 fl6 rfl) (fun ri40 ri41 ri42 ri43 ri44 ri45 F4 => ?_)
    refine c_st (st2 := [.int (iI f6)]) rfl ?_
    refine hv13 (show ivh6 a0 11 = iv a0 11 from kp11f6) (show ivh6 a0 12 = iv a0 12 from kp12f6) (show ivh6 a0 13 = iv a0 13 from kp13f6) (show ivh6 a0 14 = iv a0 14 from kp14f6) (show ivh6 a0 15 = iv a0 15 from kp15f6) (show ivh6 a0 16 = iv a0 16 from kp16f6) (show f6 = -1 from exf6) (show 1 ≤ ivh6 a0 11 ∧ ivh6 a0 11 ≤ 100 from W6.int t_a0 11) (show 1 ≤ ivh6 a0 12 ∧ ivh6 a0 12 ≤ 50 from W6.int t_a0 12) (show (-2147483648) ≤ ivh6 a0 13 ∧ ivh6 a0 13 ≤ 2147483647 from W6.int t_a0 13) (show (-2147483648) ≤ ivh6 a0 14 ∧ ivh6 a0 14 ≤ 2147483647 from W6.int t_a0 14) (show (-2147483648) ≤ ivh6 a0 15 ∧ ivh6 a0 15 ≤ 2147483647 from W6.int t_a0 15) (show (-2147483648) ≤ ivh6 a0 16 ∧ ivh6 a0 16 ≤ 2147483647 from W6.int t_a0 16) (fun gk11f6 gk12f6 gk13f6 gk14f6 gk15f6 gk16f6 gf6 ri46 ri47 ri48 ri49 ri50 ri51 => ?_)
    exact c_iret C dX11_cellOfLine_25 rfl (by decide) (rom0 hph hph (by decide)) ⟨f6, rfl, rfl, rfl, rfl, rfl, F4, W6, ⟨by omega, by omega⟩, trivial, gk11f6, gk12f6, gk13f6, gk14f6, gk15f6, gk16f6⟩
set_option maxHeartbeats 4000000 in
set_option maxRecDepth 100000 in
theorem C_cell {l : Launch} {G : GT} {mi : Nat} {sk : Nat → Nat} {L : List Nat} {cl ln : Nat → Nat} {iv : Nat → Nat → Int} {rv : Nat → Nat → Option Nat}  {a0 : Nat} {i : Int} {j : Int} (hW : WT (g0 G) sk L cl ln iv rv) (hS : SKL sk L cl) (t_a0 : ty L cl a0 1) (h_i : -2147483648 ≤ i ∧ i ≤ 2147483647) (h_j : -2147483648 ≤ j ∧ j ≤ 2147483647)  : Mc l G mi (Phi (g0 G) sk) PHM yX11_cell cX11_cell 3 (some .int) 3 [.ref a0, .int (iI i), .int (iI j)] L cl ln iv rv 0 (fun v L2 cl2 ln2 iv2 rv2 => ∃ f : Int, v = some (.int (iI f)) ∧ L = L2 ∧ cl = cl2 ∧ ln = ln2 ∧ rv = rv2 ∧ fT [1] L cl iv rv iv2 rv2 ∧ WT (g0 G) sk L2 cl2 ln2 iv2 rv2 ∧ (-2147483648 ≤ f ∧ f ≤ 2147483647) ∧ (True) ∧ iv2 a0 11 = iv a0 11 ∧ iv2 a0 12 = iv a0 12 ∧ iv2 a0 13 = iv a0 13 ∧ iv2 a0 14 = iv a0 14 ∧ iv2 a0 15 = iv a0 15 ∧ iv2 a0 16 = iv a0 16) := by
  refine Mc.mk (by decide) (Nat.le_of_ble_eq_true rfl) ?_
  intro p e s m args below meth c A C hM
  refine hv3 (Phi.le hW hS) (show XT L cl ln L cl ln from XT.refl) (show fT [1] L cl iv rv iv rv from fT.refl) (fun hph hX0 hF0 => ?_)
  refine c_aload_n (j := 0) (x := a0) C dX11_cell_0 rfl ?_
  refine c_iload_n (j := 1) C dX11_cell_1 rfl ?_
  refine c_iload_n (j := 2) C dX11_cell_2 rfl ?_
  refine d_callV (As := [.int (iI i), .int (iI j)]) (rest := []) C hM (C_cellOfLine (a0 := a0) (i := i) (j := j) hW hS t_a0 (by omega) (by omega) ) dX11_cell_3 kV_X11_298 rfl t_a0 rfl rfl (by decide) ck_12 rfl (Nat.le_of_ble_eq_true rfl) ⟨(Nat.le_of_ble_eq_true rfl), (Nat.le_of_ble_eq_true rfl)⟩ hph hph (show 0 + 0 = 0 from rfl) (by decide) (fun rh1 Lh1 clh1 lnh1 ivh1 rvh1 h1 => ?_)
  obtain ⟨f1, rfl, rfl, rfl, rfl, rfl, fl1, W1, rgf1, exf1, kp11f1, kp12f1, kp13f1, kp14f1, kp15f1, kp16f1⟩ := h1
  refine hv7 (show 1 ≤ iv a0 11 ∧ iv a0 11 ≤ 100 from hW.int t_a0 11) (show 1 ≤ iv a0 12 ∧ iv a0 12 ≤ 50 from hW.int t_a0 12) (show (-2147483648) ≤ iv a0 13 ∧ iv a0 13 ≤ 2147483647 from hW.int t_a0 13) (show (-2147483648) ≤ iv a0 14 ∧ iv a0 14 ≤ 2147483647 from hW.int t_a0 14) (show (-2147483648) ≤ iv a0 15 ∧ iv a0 15 ≤ 2147483647 from hW.int t_a0 15) (show (-2147483648) ≤ iv a0 16 ∧ iv a0 16 ≤ 2147483647 from hW.int t_a0 16) (hF0.call hX0 fl1 rfl) (fun ri1 ri2 ri3 ri4 ri5 ri6 F1 => ?_)
  refine c_st (st2 := [.int (iI f1)]) rfl ?_
  refine hv12 (show ivh1 a0 11 = iv a0 11 from kp11f1) (show ivh1 a0 12 = iv a0 12 from kp12f1) (show ivh1 a0 13 = iv a0 13 from kp13f1) (show ivh1 a0 14 = iv a0 14 from kp14f1) (show ivh1 a0 15 = iv a0 15 from kp15f1) (show ivh1 a0 16 = iv a0 16 from kp16f1) (show 1 ≤ ivh1 a0 11 ∧ ivh1 a0 11 ≤ 100 from W1.int t_a0 11) (show 1 ≤ ivh1 a0 12 ∧ ivh1 a0 12 ≤ 50 from W1.int t_a0 12) (show (-2147483648) ≤ ivh1 a0 13 ∧ ivh1 a0 13 ≤ 2147483647 from W1.int t_a0 13) (show (-2147483648) ≤ ivh1 a0 14 ∧ ivh1 a0 14 ≤ 2147483647 from W1.int t_a0 14) (show (-2147483648) ≤ ivh1 a0 15 ∧ ivh1 a0 15 ≤ 2147483647 from W1.int t_a0 15) (show (-2147483648) ≤ ivh1 a0 16 ∧ ivh1 a0 16 ≤ 2147483647 from W1.int t_a0 16) (fun gk11f1 gk12f1 gk13f1 gk14f1 gk15f1 gk16f1 ri7 ri8 ri9 ri10 ri11 ri12 => ?_)
  exact c_iret C dX11_cell_6 rfl (by decide) (rom0 hph hph (by decide)) ⟨f1, rfl, rfl, rfl, rfl, rfl, F1, W1, ⟨by omega, by omega⟩, trivial, gk11f1, gk12f1, gk13f1, gk14f1, gk15f1, gk16f1⟩
set_option maxHeartbeats 4000000 in
set_option maxRecDepth 100000 in
theorem C_copied {l : Launch} {G : GT} {mi : Nat} {sk : Nat → Nat} {L : List Nat} {cl ln : Nat → Nat} {iv : Nat → Nat → Int} {rv : Nat → Nat → Option Nat}  {a0 : Nat} (hW : WT (g0 G) sk L cl ln iv rv) (hS : SKL sk L cl) (t_a0 : ty L cl a0 1)  : Mc l G mi (Phi (g0 G) sk) PHM yX11_copied cX11_copied 1 (some .int) 0 [.ref a0] L cl ln iv rv 0 (fun v L2 cl2 ln2 iv2 rv2 => ∃ f : Int, v = some (.int (iI f)) ∧ L = L2 ∧ cl = cl2 ∧ ln = ln2 ∧ iv = iv2 ∧ rv = rv2 ∧ (-2147483648 ≤ f ∧ f ≤ 2147483647) ∧ (True)) := by
  refine Mc.mk (by decide) (Nat.le_of_ble_eq_true rfl) ?_
  intro p e s m args below meth c A C hM
  refine hv3 (Phi.le hW hS) (show XT L cl ln L cl ln from XT.refl) (show fT [] L cl iv rv iv rv from fT.refl) (fun hph hX0 hF0 => ?_)
  refine c_aload_n (j := 0) (x := a0) C dX11_copied_0 rfl ?_
  have ri1 : (-2147483648) ≤ iv a0 15 ∧ iv a0 15 ≤ 2147483647 := hW.int t_a0 15
  refine c_get (k := 15) C ck_12 dX11_copied_1 w2_59 (by decide) t_a0 rfl rfl (by decide) rfl ?_
  exact c_iret C dX11_copied_4 rfl (by decide) (rom0 hph hph (by decide)) ⟨(iv a0 15), rfl, rfl, rfl, rfl, rfl, rfl, ⟨by omega, by omega⟩, trivial⟩
set_option maxHeartbeats 4000000 in
set_option maxRecDepth 100000 in
theorem C_closed {l : Launch} {G : GT} {mi : Nat} {sk : Nat → Nat} {L : List Nat} {cl ln : Nat → Nat} {iv : Nat → Nat → Int} {rv : Nat → Nat → Option Nat}  {a0 : Nat} (hW : WT (g0 G) sk L cl ln iv rv) (hS : SKL sk L cl) (t_a0 : ty L cl a0 1)  : Mc l G mi (Phi (g0 G) sk) PHM yX11_closed cX11_closed 1 (some .int) 0 [.ref a0] L cl ln iv rv 0 (fun v L2 cl2 ln2 iv2 rv2 => ∃ f : Int, v = some (.int (iI f)) ∧ L = L2 ∧ cl = cl2 ∧ ln = ln2 ∧ iv = iv2 ∧ rv = rv2 ∧ (-2147483648 ≤ f ∧ f ≤ 2147483647) ∧ (True)) := by
  refine Mc.mk (by decide) (Nat.le_of_ble_eq_true rfl) ?_
  intro p e s m args below meth c A C hM
  refine hv3 (Phi.le hW hS) (show XT L cl ln L cl ln from XT.refl) (show fT [] L cl iv rv iv rv from fT.refl) (fun hph hX0 hF0 => ?_)
  refine c_aload_n (j := 0) (x := a0) C dX11_closed_0 rfl ?_
  have ri1 : (-2147483648) ≤ iv a0 16 ∧ iv a0 16 ≤ 2147483647 := hW.int t_a0 16
  refine c_get (k := 16) C ck_12 dX11_closed_1 w2_60 (by decide) t_a0 rfl rfl (by decide) rfl ?_
  exact c_iret C dX11_closed_4 rfl (by decide) (rom0 hph hph (by decide)) ⟨(iv a0 16), rfl, rfl, rfl, rfl, rfl, rfl, ⟨by omega, by omega⟩, trivial⟩
set_option maxHeartbeats 4000000 in
set_option maxRecDepth 100000 in
theorem C_status {l : Launch} {G : GT} {mi : Nat} {sk : Nat → Nat} {L : List Nat} {cl ln : Nat → Nat} {iv : Nat → Nat → Int} {rv : Nat → Nat → Option Nat}  {a0 : Nat} (hW : WT (g0 G) sk L cl ln iv rv) (hS : SKL sk L cl) (t_a0 : ty L cl a0 1)  : Mc l G mi (Phi (g0 G) sk) PHM yX11_status cX11_status 1 (some .int) 0 [.ref a0] L cl ln iv rv 0 (fun v L2 cl2 ln2 iv2 rv2 => ∃ f : Int, v = some (.int (iI f)) ∧ L = L2 ∧ cl = cl2 ∧ ln = ln2 ∧ iv = iv2 ∧ rv = rv2 ∧ (-2147483648 ≤ f ∧ f ≤ 2147483647) ∧ (True)) := by
  refine Mc.mk (by decide) (Nat.le_of_ble_eq_true rfl) ?_
  intro p e s m args below meth c A C hM
  refine hv3 (Phi.le hW hS) (show XT L cl ln L cl ln from XT.refl) (show fT [] L cl iv rv iv rv from fT.refl) (fun hph hX0 hF0 => ?_)
  refine c_aload_n (j := 0) (x := a0) C dX11_status_0 rfl ?_
  have ri1 : (-2147483648) ≤ iv a0 17 ∧ iv a0 17 ≤ 2147483647 := hW.int t_a0 17
  refine c_get (k := 17) C ck_12 dX11_status_1 w2_61 (by decide) t_a0 rfl rfl (by decide) rfl ?_
  exact c_iret C dX11_status_4 rfl (by decide) (rom0 hph hph (by decide)) ⟨(iv a0 17), rfl, rfl, rfl, rfl, rfl, rfl, ⟨by omega, by omega⟩, trivial⟩
set_option maxHeartbeats 4000000 in
set_option maxRecDepth 100000 in
theorem C_place {l : Launch} {G : GT} {mi : Nat} {sk : Nat → Nat} {L : List Nat} {cl ln : Nat → Nat} {iv : Nat → Nat → Int} {rv : Nat → Nat → Option Nat}  {a0 : Nat} (hW : WT (g0 G) sk L cl ln iv rv) (hS : SKL sk L cl) (t_a0 : ty L cl a0 1)  : Mc l G mi (Phi (g0 G) sk) PHM yX11_place cX11_place 1 (some .int) 0 [.ref a0] L cl ln iv rv 0 (fun v L2 cl2 ln2 iv2 rv2 => ∃ f : Int, v = some (.int (iI f)) ∧ L = L2 ∧ cl = cl2 ∧ ln = ln2 ∧ iv = iv2 ∧ rv = rv2 ∧ (-2147483648 ≤ f ∧ f ≤ 2147483647) ∧ (True)) := by
  refine Mc.mk (by decide) (Nat.le_of_ble_eq_true rfl) ?_
  intro p e s m args below meth c A C hM
  refine hv3 (Phi.le hW hS) (show XT L cl ln L cl ln from XT.refl) (show fT [] L cl iv rv iv rv from fT.refl) (fun hph hX0 hF0 => ?_)
  refine c_aload_n (j := 0) (x := a0) C dX11_place_0 rfl ?_
  have ri1 : (-2147483648) ≤ iv a0 18 ∧ iv a0 18 ≤ 2147483647 := hW.int t_a0 18
  refine c_get (k := 18) C ck_12 dX11_place_1 w2_62 (by decide) t_a0 rfl rfl (by decide) rfl ?_
  exact c_iret C dX11_place_4 rfl (by decide) (rom0 hph hph (by decide)) ⟨(iv a0 18), rfl, rfl, rfl, rfl, rfl, rfl, ⟨by omega, by omega⟩, trivial⟩
set_option maxHeartbeats 4000000 in
set_option maxRecDepth 100000 in
theorem C_finds {l : Launch} {G : GT} {mi : Nat} {sk : Nat → Nat} {L : List Nat} {cl ln : Nat → Nat} {iv : Nat → Nat → Int} {rv : Nat → Nat → Option Nat}  {a0 : Nat} {i : Int} (hW : WT (g0 G) sk L cl ln iv rv) (hS : SKL sk L cl) (t_a0 : ty L cl a0 1) (h_i : -2147483648 ≤ i ∧ i ≤ 2147483647)  : Mc l G mi (Phi (g0 G) sk) PHM yX11_finds cX11_finds 2 (some .int) 1 [.ref a0, .int (iI i)] L cl ln iv rv 0 (fun v L2 cl2 ln2 iv2 rv2 => ∃ f : Int, v = some (.int (iI f)) ∧ L = L2 ∧ cl = cl2 ∧ ln = ln2 ∧ iv = iv2 ∧ rv = rv2 ∧ (-2147483648 ≤ f ∧ f ≤ 2147483647) ∧ (True)) := by
  refine Mc.mk (by decide) (Nat.le_of_ble_eq_true rfl) ?_
  intro p e s m args below meth c A C hM
  refine hv3 (Phi.le hW hS) (show XT L cl ln L cl ln from XT.refl) (show fT [] L cl iv rv iv rv from fT.refl) (fun hph hX0 hF0 => ?_)
  refine c_aload_n (j := 0) (x := a0) C dX11_finds_0 rfl ?_
  obtain ⟨rb1, rq1, trb1⟩ := hW.ref t_a0 6 rfl rfl rfl
  refine c_getr (k := 6) C ck_12 dX11_finds_1 w2_50 (by decide) t_a0 rfl rfl (by decide) rfl rq1 ?_
  refine c_st (st2 := [.ref rb1]) rfl ?_
  refine c_iload_n (j := 1) C dX11_finds_4 rfl ?_
  refine d_callV (As := [.int (iI i)]) (rest := []) C hM (C_findsOf (a0 := rb1) (i := i) hW hS trb1 (by omega) ) dX11_finds_5 kV_X11_413 rfl trb1 rfl rfl (by decide) ck_7 rfl (Nat.le_of_ble_eq_true rfl) ⟨(Nat.le_of_ble_eq_true rfl), (Nat.le_of_ble_eq_true rfl)⟩ hph hph (show 0 + 0 = 0 from rfl) (by decide) (fun rh1 Lh1 clh1 lnh1 ivh1 rvh1 h1 => ?_)
  obtain ⟨f1, rfl, rfl, rfl, rfl, rfl, rfl, rgf1, exf1⟩ := h1
  refine c_st (st2 := [.int (iI f1)]) rfl ?_
  exact c_iret C dX11_finds_8 rfl (by decide) (rom0 hph hph (by decide)) ⟨f1, rfl, rfl, rfl, rfl, rfl, rfl, ⟨by omega, by omega⟩, trivial⟩
end
section
set_option maxHeartbeats 4000000 in
set_option maxRecDepth 100000 in
theorem C_chainLines {l : Launch} {G : GT} {mi : Nat} {sk : Nat → Nat} {L : List Nat} {cl ln : Nat → Nat} {iv : Nat → Nat → Int} {rv : Nat → Nat → Option Nat}  {a0 : Nat} {i : Int} {n : Int} (hW : WT (g0 G) sk L cl ln iv rv) (hS : SKL sk L cl) (t_a0 : ty L cl a0 1) (h_i : -2147483648 ≤ i ∧ i ≤ 2147483647) (h_n : -2147483648 ≤ n ∧ n ≤ 2147483647) (hn : 0 ≤ n) : Mc l G mi (Phi (g0 G) sk) PHM yX11_chainLines cX11_chainLines 5 none 5 [.ref a0, .int (iI i), .int (iI n)] L cl ln iv rv 0 (fun v L2 cl2 ln2 iv2 rv2 => v = none ∧ XT L cl ln L2 cl2 ln2 ∧ fT [8, 38, 9, 39] L cl iv rv iv2 rv2 ∧ WT (g0 G) sk L2 cl2 ln2 iv2 rv2 ∧ (True)) := by
  refine Mc.mk (by decide) (Nat.le_of_ble_eq_true rfl) ?_
  intro p e s m args below meth c A C hM
  refine hv21 (Phi.le hW hS) (show ty L cl (sk 2) 2 from ⟨(hS 2 rfl).1, by rw [(hS 2 rfl).2]; rfl⟩) (show ty L cl (sk 3) 3 from ⟨(hS 3 rfl).1, by rw [(hS 3 rfl).2]; rfl⟩) (show ty L cl (sk 4) 4 from ⟨(hS 4 rfl).1, by rw [(hS 4 rfl).2]; rfl⟩) (show ty L cl (sk 5) 5 from ⟨(hS 5 rfl).1, by rw [(hS 5 rfl).2]; rfl⟩) (show ty L cl (sk 6) 6 from ⟨(hS 6 rfl).1, by rw [(hS 6 rfl).2]; rfl⟩) (show ty L cl (sk 7) 7 from ⟨(hS 7 rfl).1, by rw [(hS 7 rfl).2]; rfl⟩) (show ty L cl (sk 8) 8 from ⟨(hS 8 rfl).1, by rw [(hS 8 rfl).2]; rfl⟩) (show ty L cl (sk 9) 9 from ⟨(hS 9 rfl).1, by rw [(hS 9 rfl).2]; rfl⟩) (show ty L cl (sk 10) 10 from ⟨(hS 10 rfl).1, by rw [(hS 10 rfl).2]; rfl⟩) (show ty L cl (sk 13) 13 from ⟨(hS 13 rfl).1, by rw [(hS 13 rfl).2]; rfl⟩) (show ty L cl (sk 14) 14 from ⟨(hS 14 rfl).1, by rw [(hS 14 rfl).2]; rfl⟩) (show ty L cl (sk 15) 15 from ⟨(hS 15 rfl).1, by rw [(hS 15 rfl).2]; rfl⟩) (show ty L cl (sk 16) 16 from ⟨(hS 16 rfl).1, by rw [(hS 16 rfl).2]; rfl⟩) (show ty L cl (sk 17) 17 from ⟨(hS 17 rfl).1, by rw [(hS 17 rfl).2]; rfl⟩) (show ty L cl (sk 22) 22 from ⟨(hS 22 rfl).1, by rw [(hS 22 rfl).2]; rfl⟩) (show ty L cl (sk 23) 23 from ⟨(hS 23 rfl).1, by rw [(hS 23 rfl).2]; rfl⟩) (show ty L cl (sk 24) 24 from ⟨(hS 24 rfl).1, by rw [(hS 24 rfl).2]; rfl⟩) (show ty L cl (sk 25) 25 from ⟨(hS 25 rfl).1, by rw [(hS 25 rfl).2]; rfl⟩) (show XT L cl ln L cl ln from XT.refl) (show fT [8, 38, 9, 39] L cl iv rv iv rv from fT.refl) (fun hph tsk2 tsk3 tsk4 tsk5 tsk6 tsk7 tsk8 tsk9 tsk10 tsk13 tsk14 tsk15 tsk16 tsk17 tsk22 tsk23 tsk24 tsk25 hX0 hF0 => ?_)
  refine c_aload_n (j := 0) (x := a0) C dX11_chainLines_0 rfl ?_
  obtain ⟨rb1, rq1, trb1⟩ := hW.ref t_a0 7 rfl rfl rfl
  have erb1 := hW.sk trb1 (by decide) rfl
  subst erb1
  refine c_getr (k := 7) C ck_12 dX11_chainLines_1 w2_51 (by decide) t_a0 rfl rfl (by decide) rfl rq1 ?_
  refine c_st (st2 := [.ref (sk 16)]) rfl ?_
  refine d_callV (As := []) (rest := []) C hM (C_clearCells (a0 := (sk 16)) hW hS tsk16  ) dX11_chainLines_4 kV_X11_344 rfl tsk16 rfl rfl (by decide) ck_4 rfl (Nat.le_of_ble_eq_true rfl) ⟨(Nat.le_of_ble_eq_true rfl), (Nat.le_of_ble_eq_true rfl)⟩ hph hph (show 0 + 0 = 0 from rfl) (by decide) (fun rh1 Lh1 clh1 lnh1 ivh1 rvh1 h1 => ?_)
  obtain ⟨rfl, rfl, rfl, rfl, rfl, fl1, W1, exf1⟩ := h1
  have F1 := hF0.call hX0 fl1 rfl
  refine c_st (st2 := []) rfl ?_
  refine hv2 (show 0 ≤ ivh1 (sk 8) 2 ∧ ivh1 (sk 8) 2 ≤ 40200 from W1.int tsk8 2) (show ivh1 (sk 8) 2 = 0 from exf1) (fun ri1 gf1 => ?_)
  refine c_iconst C dX11_chainLines_7 ?_
  refine c_istore_n (lv2 := [(3, .int (iI 0)), (0, .ref a0), (1, .int (iI i)), (2, .int (iI n))]) C dX11_chainLines_8 (by decide) rfl ?_
  have Lp1 : ∀ (nn : Nat) (k : Int) (Lb1 : List Nat) (clb1 lnb1 : Nat → Nat) (ivb1 : Nat → Nat → Int) (rvb1 : Nat → Nat → Option Nat) , n + 1 - k < (nn : Int) → XT L cl ln Lb1 clb1 lnb1 → WT (g0 G) sk Lb1 clb1 lnb1 ivb1 rvb1 → fT [8, 38, 9, 39] L cl iv rv ivb1 rvb1 → (0 ≤ k ∧ k ≤ n) → cw p l e 5 ((PHM) + 0 - ((Phi (g0 G) sk) ln rv)) s m args below meth c G A 5 (MQ below (Qu G A (Qp G (Phi (g0 G) sk) ((Phi (g0 G) sk) ln rv) 0 (fun v L2 cl2 ln2 iv2 rv2 => v = none ∧ XT L cl ln L2 cl2 ln2 ∧ fT [8, 38, 9, 39] L cl iv rv iv2 rv2 ∧ WT (g0 G) sk L2 cl2 ln2 iv2 rv2 ∧ (True)))) args s (((PHM) + 0 - ((Phi (g0 G) sk) ln rv)) / 16) ((PHM) + 0 - ((Phi (g0 G) sk) ln rv)) A) (Phi (g0 G) sk) ((Phi (g0 G) sk) ln rv) Lb1 clb1 lnb1 ivb1 rvb1 0 9 [(3, .int (iI k)), (0, .ref a0), (1, .int (iI i)), (2, .int (iI n))] [] := by
    intro nn
    induction nn with
    | zero =>
      intro  k Lb1 clb1 lnb1 ivb1 rvb1 hm Xb1 Wb1 Fb1  hk
      have skb1 := Xb1.skl hS
      exact absurd hm (by omega)
    | succ nn ih1 =>
      intro  k Lb1 clb1 lnb1 ivb1 rvb1 hm Xb1 Wb1 Fb1  hk
      have skb1 := Xb1.skl hS
      refine c_iload_n (j := 0) C dX11_chainLines_9 rfl ?_
      refine c_iload_n (j := 3) C dX11_chainLines_10 rfl ?_
      refine c_icmp_ge (tgt := 65) C ⟨by omega, by omega⟩ ⟨by omega, by omega⟩ dX11_chainLines_11 (by decide) (fun c1 => ?_) (fun c1 => ?_)
      · have pl1 := Phi.le Wb1 skb1
        exact c_vret C dX11_chainLines_65 rfl (by decide) (rom0 hph pl1 (by decide)) ⟨rfl, Xb1, Fb1, Wb1, trivial⟩
      · refine c_aload_n (j := 1) (x := a0) C dX11_chainLines_14 rfl ?_
        have ty1 := Xb1.ty t_a0
        obtain ⟨rb2, rq2, trb2⟩ := Wb1.ref ty1 9 rfl rfl rfl
        refine c_getr (k := 9) C ck_12 dX11_chainLines_15 w2_53 (by decide) ty1 rfl rfl (by decide) rfl rq2 ?_
        refine c_st (st2 := [.ref rb2]) rfl ?_
        refine c_iload_n (j := 2) C dX11_chainLines_18 rfl ?_
        refine c_iload_n (j := 0) C dX11_chainLines_19 rfl ?_
        refine c_iadd C dX11_chainLines_20 ?_
        obtain ⟨zz1, hzz1, ezz1⟩ := iI_of (iI (i + k))
        refine c_st (st2 := [.int (iI zz1), .ref rb2]) (by rw [ezz1]) ?_
        refine hv2 (show 0 ≤ ivb1 rb2 1 ∧ ivb1 rb2 1 ≤ 200 from Wb1.int trb2 1) (Phi.le Wb1 skb1) (fun ri2 pl2 => ?_)
        refine d_callV (As := [.int (iI zz1)]) (rest := []) C hM (C_sat (a0 := rb2) (i := zz1) Wb1 skb1 trb2 (by omega) ) dX11_chainLines_21 kV_X11_308 rfl trb2 rfl rfl (by decide) ck_8 rfl (Nat.le_of_ble_eq_true rfl) ⟨(Nat.le_of_ble_eq_true rfl), (Nat.le_of_ble_eq_true rfl)⟩ hph pl2 (show 0 + 0 = 0 from rfl) (by decide) (fun rh2 Lh2 clh2 lnh2 ivh2 rvh2 h2 => ?_)
        obtain ⟨f2, rfl, rfl, rfl, rfl, rfl, rfl, rgf2, exf2⟩ := h2
        refine c_st (st2 := [(va_rf f2)]) rfl ?_
        have gf2 : f2 = none ∨ (0 ≤ zz1 ∧ zz1 < ivb1 rb2 1) := exf2
        refine c_astorer (r := f2) (lv2 := [(4, (va_rf f2)), (3, .int (iI k)), (0, .ref a0), (1, .int (iI i)), (2, .int (iI n))]) C dX11_chainLines_24 (by decide) rfl ?_
        refine c_aloadr (j := 0) (r := f2) C dX11_chainLines_26 rfl ?_
        refine c_ifnull (r := f2) (tgt := 59) C dX11_chainLines_28 (by decide) (fun oq1 => ?_) (fun ob1 oq1 => ?_)
        · subst oq1
          refine c_lv (lv2 := [(4, .null), (3, .int (iI k)), (0, .ref a0), (1, .int (iI i)), (2, .int (iI n))]) [0, 1, 2, 3, 4] rfl ?_
          refine c_st (st2 := []) rfl ?_
          refine c_iinc (z := k) (j := 1) (lv2 := [(3, .int (iI (k + 1))), (4, .null), (0, .ref a0), (1, .int (iI i)), (2, .int (iI n))]) C dX11_chainLines_59 rfl (by decide) rfl ?_
          refine c_goto (tgt := 9) C dX11_chainLines_62 (by decide) ?_
          refine c_lv (lv2 := [(3, .int (iI (k + 1))), (0, .ref a0), (1, .int (iI i)), (2, .int (iI n))]) [0, 2, 3, 4] rfl ?_
          exact ih1  (k + 1) _ _ _ _ _ (by omega) Xb1 Wb1 Fb1  (by omega)
        · subst oq1
          have tob1 := rgf2 ob1 rfl
          refine c_lv (lv2 := [(4, .ref ob1), (3, .int (iI k)), (0, .ref a0), (1, .int (iI i)), (2, .int (iI n))]) [0, 1, 2, 3, 4] rfl ?_
          refine c_st (st2 := []) rfl ?_
          refine c_aload_n (j := 2) (x := a0) C dX11_chainLines_31 rfl ?_
          have re1 : rvb1 a0 7 = rv a0 7 := (Fb1.r t_a0 rfl 7)
          rw [rq1] at re1
          refine c_getr (k := 7) C ck_12 dX11_chainLines_32 w2_51 (by decide) ty1 rfl rfl (by decide) rfl re1 ?_
          refine c_st (st2 := [.ref (sk 16)]) rfl ?_
          refine c_aload (j := 0) (x := ob1) C dX11_chainLines_35 rfl ?_
          refine c_iload_n (j := 3) C dX11_chainLines_37 rfl ?_
          refine c_iload_n (j := 1) C dX11_chainLines_38 rfl ?_
          refine c_iadd C dX11_chainLines_39 ?_
          obtain ⟨zz2, hzz2, ezz2⟩ := iI_of (iI (i + k))
          refine c_st (st2 := [.int (iI zz2), .ref ob1, .ref (sk 16)]) (by rw [ezz2]) ?_
          refine c_aload_n (j := 2) (x := a0) C dX11_chainLines_40 rfl ?_
          refine hv2 (show (-2147483648) ≤ ivb1 a0 13 ∧ ivb1 a0 13 ≤ 2147483647 from Wb1.int ty1 13) (show ivb1 a0 13 = iv a0 13 from Fb1.i t_a0 rfl 13) (fun ri3 ie3 => ?_)
          refine c_get (k := 13) C ck_12 dX11_chainLines_41 w2_57 (by decide) ty1 rfl rfl (by decide) rfl ?_
          refine c_iload_n (j := 1) C dX11_chainLines_44 rfl ?_
          refine c_iload_n (j := 4) C dX11_chainLines_45 rfl ?_
          refine c_iconst C dX11_chainLines_46 ?_
          refine c_isub C dX11_chainLines_47 ?_
          refine c_icmp_ne (tgt := 55) C ⟨by omega, by omega⟩ ⟨by omega, by omega⟩ dX11_chainLines_48 (by decide) (fun c2 => ?_) (fun c2 => ?_)
          · refine c_iconst C dX11_chainLines_55 ?_
            have ty2 := Xb1.ty tsk16
            refine d_callV (As := [.ref ob1, .int (iI zz2), .int (iI (ivb1 a0 13)), .int (iI 0)]) (rest := []) C hM (C_chain (a0 := (sk 16)) (a1 := ob1) (x := zz2) (y := ivb1 a0 13) (g := 0) Wb1 skb1 ty2 tob1 (by omega) (by omega) ⟨by decide, by decide⟩ ) dX11_chainLines_56 kV_X11_347 rfl ty2 rfl rfl (by decide) ck_4 rfl (Nat.le_of_ble_eq_true rfl) ⟨(Nat.le_of_ble_eq_true rfl), (Nat.le_of_ble_eq_true rfl)⟩ hph pl2 (show 0 + 0 = 0 from rfl) (by decide) (fun rh3 Lh3 clh3 lnh3 ivh3 rvh3 h3 => ?_)
            obtain ⟨rfl, xl3, fl3, W3, exf3⟩ := h3
            refine hv20 (Fb1.call Xb1 fl3 rfl) (Xb1.ty tsk2) (Xb1.ty tsk3) (Xb1.ty tsk4) (Xb1.ty tsk5) (Xb1.ty tsk6) (Xb1.ty tsk7) (Xb1.ty tsk8) (Xb1.ty tsk9) (Xb1.ty tsk10) (Xb1.ty tsk13) (Xb1.ty tsk14) (Xb1.ty tsk15) (Xb1.ty tsk17) (Xb1.ty tsk22) (Xb1.ty tsk23) (Xb1.ty tsk24) (Xb1.ty tsk25) (Xb1.trans xl3) (xl3.skl skb1) (fun F2 ty3 ty4 ty5 ty6 ty7 ty8 ty9 ty10 ty11 ty12 ty13 ty14 ty15 ty16 ty17 ty18 ty19 X1 sk1 => ?_)
            refine c_st (st2 := []) rfl ?_
            refine c_iinc (z := k) (j := 1) (lv2 := [(3, .int (iI (k + 1))), (4, .ref ob1), (0, .ref a0), (1, .int (iI i)), (2, .int (iI n))]) C dX11_chainLines_59 rfl (by decide) rfl ?_
            refine c_goto (tgt := 9) C dX11_chainLines_62 (by decide) ?_
            refine c_lv (lv2 := [(3, .int (iI (k + 1))), (0, .ref a0), (1, .int (iI i)), (2, .int (iI n))]) [0, 2, 3, 4] rfl ?_
            exact ih1  (k + 1) _ _ _ _ _ (by omega) X1 W3 F2  (by omega)
          · refine c_iconst C dX11_chainLines_51 ?_
            refine c_goto (tgt := 56) C dX11_chainLines_52 (by decide) ?_
            have ty20 := Xb1.ty tsk16
            refine d_callV (As := [.ref ob1, .int (iI zz2), .int (iI (ivb1 a0 13)), .int (iI 1)]) (rest := []) C hM (C_chain (a0 := (sk 16)) (a1 := ob1) (x := zz2) (y := ivb1 a0 13) (g := 1) Wb1 skb1 ty20 tob1 (by omega) (by omega) ⟨by decide, by decide⟩ ) dX11_chainLines_56 kV_X11_347 rfl ty20 rfl rfl (by decide) ck_4 rfl (Nat.le_of_ble_eq_true rfl) ⟨(Nat.le_of_ble_eq_true rfl), (Nat.le_of_ble_eq_true rfl)⟩ hph pl2 (show 0 + 0 = 0 from rfl) (by decide) (fun rh4 Lh4 clh4 lnh4 ivh4 rvh4 h4 => ?_)
            obtain ⟨rfl, xl4, fl4, W4, exf4⟩ := h4
            refine hv20 (Fb1.call Xb1 fl4 rfl) (Xb1.ty tsk2) (Xb1.ty tsk3) (Xb1.ty tsk4) (Xb1.ty tsk5) (Xb1.ty tsk6) (Xb1.ty tsk7) (Xb1.ty tsk8) (Xb1.ty tsk9) (Xb1.ty tsk10) (Xb1.ty tsk13) (Xb1.ty tsk14) (Xb1.ty tsk15) (Xb1.ty tsk17) (Xb1.ty tsk22) (Xb1.ty tsk23) (Xb1.ty tsk24) (Xb1.ty tsk25) (Xb1.trans xl4) (xl4.skl skb1) (fun F3 ty21 ty22 ty23 ty24 ty25 ty26 ty27 ty28 ty29 ty30 ty31 ty32 ty33 ty34 ty35 ty36 ty37 X2 sk2 => ?_)
            refine c_st (st2 := []) rfl ?_
            refine c_iinc (z := k) (j := 1) (lv2 := [(3, .int (iI (k + 1))), (4, .ref ob1), (0, .ref a0), (1, .int (iI i)), (2, .int (iI n))]) C dX11_chainLines_59 rfl (by decide) rfl ?_
            refine c_goto (tgt := 9) C dX11_chainLines_62 (by decide) ?_
            refine c_lv (lv2 := [(3, .int (iI (k + 1))), (0, .ref a0), (1, .int (iI i)), (2, .int (iI n))]) [0, 2, 3, 4] rfl ?_
            exact ih1  (k + 1) _ _ _ _ _ (by omega) X2 W4 F3  (by omega)
  refine c_lv (lv2 := [(3, .int (iI 0)), (0, .ref a0), (1, .int (iI i)), (2, .int (iI n))]) [0, 1, 2, 3] rfl ?_
  exact Lp1 2147483650 0 _ _ _ _ _ (by omega) hX0 W1 F1  (by omega)
set_option maxHeartbeats 4000000 in
set_option maxRecDepth 100000 in
theorem C_read {l : Launch} {G : GT} {mi : Nat} {sk : Nat → Nat} {L : List Nat} {cl ln : Nat → Nat} {iv : Nat → Nat → Int} {rv : Nat → Nat → Option Nat}  {a0 : Nat} {i : Int} {x : Int} {n : Int} (hW : WT (g0 G) sk L cl ln iv rv) (hS : SKL sk L cl) (t_a0 : ty L cl a0 1) (h_i : -2147483648 ≤ i ∧ i ≤ 2147483647) (h_x : -2147483648 ≤ x ∧ x ≤ 2147483647) (h_n : -2147483648 ≤ n ∧ n ≤ 2147483647) (hmr : MRK sk cl iv rv) : Mc l G mi (Phi (g0 G) sk) PHM yX11_read cX11_read 6 (some .int) 10 [.ref a0, .int (iI i), .int (iI x), .int (iI n)] L cl ln iv rv 0 (fun v L2 cl2 ln2 iv2 rv2 => ∃ f : Int, v = some (.int (iI f)) ∧ XT L cl ln L2 cl2 ln2 ∧ fT [1, 4, 34, 8, 38, 9, 39, 16, 10, 40, 24, 1002, 25, 1003, 6, 36, 7, 37] L cl iv rv iv2 rv2 ∧ WT (g0 G) sk L2 cl2 ln2 iv2 rv2 ∧ (-2147483648 ≤ f ∧ f ≤ 2147483647) ∧ (True) ∧ iv2 a0 11 = iv a0 11 ∧ iv2 a0 12 = iv a0 12 ∧ iv2 a0 13 = iv a0 13 ∧ iv2 a0 14 = iv a0 14 ∧ iv2 a0 15 = iv a0 15 ∧ iv2 a0 16 = iv a0 16 ∧ rv2 a0 9 = rv a0 9 ∧ rv2 a0 10 = rv a0 10) := by
  refine Mc.mk (by decide) (Nat.le_of_ble_eq_true rfl) ?_
  intro p e s m args below meth c A C hM
  refine hv21 (Phi.le hW hS) (show ty L cl (sk 2) 2 from ⟨(hS 2 rfl).1, by rw [(hS 2 rfl).2]; rfl⟩) (show ty L cl (sk 3) 3 from ⟨(hS 3 rfl).1, by rw [(hS 3 rfl).2]; rfl⟩) (show ty L cl (sk 4) 4 from ⟨(hS 4 rfl).1, by rw [(hS 4 rfl).2]; rfl⟩) (show ty L cl (sk 5) 5 from ⟨(hS 5 rfl).1, by rw [(hS 5 rfl).2]; rfl⟩) (show ty L cl (sk 6) 6 from ⟨(hS 6 rfl).1, by rw [(hS 6 rfl).2]; rfl⟩) (show ty L cl (sk 7) 7 from ⟨(hS 7 rfl).1, by rw [(hS 7 rfl).2]; rfl⟩) (show ty L cl (sk 8) 8 from ⟨(hS 8 rfl).1, by rw [(hS 8 rfl).2]; rfl⟩) (show ty L cl (sk 9) 9 from ⟨(hS 9 rfl).1, by rw [(hS 9 rfl).2]; rfl⟩) (show ty L cl (sk 10) 10 from ⟨(hS 10 rfl).1, by rw [(hS 10 rfl).2]; rfl⟩) (show ty L cl (sk 13) 13 from ⟨(hS 13 rfl).1, by rw [(hS 13 rfl).2]; rfl⟩) (show ty L cl (sk 14) 14 from ⟨(hS 14 rfl).1, by rw [(hS 14 rfl).2]; rfl⟩) (show ty L cl (sk 15) 15 from ⟨(hS 15 rfl).1, by rw [(hS 15 rfl).2]; rfl⟩) (show ty L cl (sk 16) 16 from ⟨(hS 16 rfl).1, by rw [(hS 16 rfl).2]; rfl⟩) (show ty L cl (sk 17) 17 from ⟨(hS 17 rfl).1, by rw [(hS 17 rfl).2]; rfl⟩) (show ty L cl (sk 22) 22 from ⟨(hS 22 rfl).1, by rw [(hS 22 rfl).2]; rfl⟩) (show ty L cl (sk 23) 23 from ⟨(hS 23 rfl).1, by rw [(hS 23 rfl).2]; rfl⟩) (show ty L cl (sk 24) 24 from ⟨(hS 24 rfl).1, by rw [(hS 24 rfl).2]; rfl⟩) (show ty L cl (sk 25) 25 from ⟨(hS 25 rfl).1, by rw [(hS 25 rfl).2]; rfl⟩) (show XT L cl ln L cl ln from XT.refl) (show fT [1, 4, 34, 8, 38, 9, 39, 16, 10, 40, 24, 1002, 25, 1003, 6, 36, 7, 37] L cl iv rv iv rv from fT.refl) (fun hph tsk2 tsk3 tsk4 tsk5 tsk6 tsk7 tsk8 tsk9 tsk10 tsk13 tsk14 tsk15 tsk16 tsk17 tsk22 tsk23 tsk24 tsk25 hX0 hF0 => ?_)
  refine c_aload_n (j := 0) (x := a0) C dX11_read_0 rfl ?_
  obtain ⟨rb1, rq1, trb1⟩ := hW.ref t_a0 4 rfl rfl rfl
  have erb1 := hW.sk trb1 (by decide) rfl
  subst erb1
  refine c_getr (k := 4) C ck_12 dX11_read_1 w2_48 (by decide) t_a0 rfl rfl (by decide) rfl rq1 ?_
  refine c_st (st2 := [.ref (sk 13)]) rfl ?_
  refine c_iload_n (j := 1) C dX11_read_4 rfl ?_
  refine d_callV (As := [.int (iI i)]) (rest := []) C hM (C_whole (a0 := (sk 13)) (i := i) hW hS tsk13 (by omega) hmr) dX11_read_5 kV_X11_231 rfl tsk13 rfl rfl (by decide) ck_11 rfl (Nat.le_of_ble_eq_true rfl) ⟨(Nat.le_of_ble_eq_true rfl), (Nat.le_of_ble_eq_true rfl)⟩ hph hph (show 0 + 0 = 0 from rfl) (by decide) (fun rh1 Lh1 clh1 lnh1 ivh1 rvh1 h1 => ?_)
  obtain ⟨f1, rfl, rfl, rfl, rfl, rfl, rfl, rgf1, exf1⟩ := h1
  refine c_st (st2 := [(va_rf f1)]) rfl ?_
  refine c_astorer (r := f1) (lv2 := [(4, (va_rf f1)), (0, .ref a0), (1, .int (iI i)), (2, .int (iI x)), (3, .int (iI n))]) C dX11_read_8 (by decide) rfl ?_
  refine c_aloadr (j := 0) (r := f1) C dX11_read_10 rfl ?_
  refine c_ifnonnull (r := f1) (tgt := 21) C dX11_read_12 (by decide) (fun ob1 oq1 => ?_) (fun oq1 => ?_)
  · subst oq1
    have tob1 := rgf1 ob1 rfl
    refine c_lv (lv2 := [(4, .ref ob1), (0, .ref a0), (1, .int (iI i)), (2, .int (iI x)), (3, .int (iI n))]) [0, 1, 2, 3, 4] rfl ?_
    refine c_st (st2 := []) rfl ?_
    refine c_iload_n (j := 4) C dX11_read_21 rfl ?_
    refine c_if_ge (tgt := 31) C ⟨by omega, by omega⟩ dX11_read_22 (by decide) (fun c1 => ?_) (fun c1 => ?_)
    · refine c_iconst C dX11_read_31 ?_
      refine c_istore (lv2 := [(5, .int (iI 0)), (4, .ref ob1), (0, .ref a0), (1, .int (iI i)), (2, .int (iI x)), (3, .int (iI n))]) C dX11_read_32 (by decide) rfl ?_
      have Lp1 : ∀ (nn : Nat) (k : Int) (Lb1 : List Nat) (clb1 lnb1 : Nat → Nat) (ivb1 : Nat → Nat → Int) (rvb1 : Nat → Nat → Option Nat) , n + 1 - k < (nn : Int) → XT L cl ln Lb1 clb1 lnb1 → WT (g0 G) sk Lb1 clb1 lnb1 ivb1 rvb1 → fT [1, 4, 34, 8, 38, 9, 39, 16, 10, 40, 24, 1002, 25, 1003, 6, 36, 7, 37] L cl iv rv ivb1 rvb1 → (0 ≤ k ∧ k ≤ n) → (ivb1 a0 11 = iv a0 11) → (ivb1 a0 12 = iv a0 12) → (ivb1 a0 13 = iv a0 13) → (ivb1 a0 14 = iv a0 14) → (ivb1 a0 15 = iv a0 15) → (ivb1 a0 16 = iv a0 16) → (rvb1 a0 9 = rv a0 9) → (rvb1 a0 10 = rv a0 10) → cw p l e 10 ((PHM) + 0 - ((Phi (g0 G) sk) ln rv)) s m args below meth c G A 6 (MQ below (Qu G A (Qp G (Phi (g0 G) sk) ((Phi (g0 G) sk) ln rv) 0 (fun v L2 cl2 ln2 iv2 rv2 => ∃ f : Int, v = some (.int (iI f)) ∧ XT L cl ln L2 cl2 ln2 ∧ fT [1, 4, 34, 8, 38, 9, 39, 16, 10, 40, 24, 1002, 25, 1003, 6, 36, 7, 37] L cl iv rv iv2 rv2 ∧ WT (g0 G) sk L2 cl2 ln2 iv2 rv2 ∧ (-2147483648 ≤ f ∧ f ≤ 2147483647) ∧ (True) ∧ iv2 a0 11 = iv a0 11 ∧ iv2 a0 12 = iv a0 12 ∧ iv2 a0 13 = iv a0 13 ∧ iv2 a0 14 = iv a0 14 ∧ iv2 a0 15 = iv a0 15 ∧ iv2 a0 16 = iv a0 16 ∧ rv2 a0 9 = rv a0 9 ∧ rv2 a0 10 = rv a0 10))) args s (((PHM) + 0 - ((Phi (g0 G) sk) ln rv)) / 16) ((PHM) + 0 - ((Phi (g0 G) sk) ln rv)) A) (Phi (g0 G) sk) ((Phi (g0 G) sk) ln rv) Lb1 clb1 lnb1 ivb1 rvb1 0 34 [(5, .int (iI k)), (4, .ref ob1), (0, .ref a0), (1, .int (iI i)), (2, .int (iI x)), (3, .int (iI n))] [] := by
        intro nn
        induction nn with
        | zero =>
          intro  k Lb1 clb1 lnb1 ivb1 rvb1 hm Xb1 Wb1 Fb1  hk hkp11 hkp12 hkp13 hkp14 hkp15 hkp16 hkr9 hkr10
          have skb1 := Xb1.skl hS
          exact absurd hm (by omega)
        | succ nn ih1 =>
          intro  k Lb1 clb1 lnb1 ivb1 rvb1 hm Xb1 Wb1 Fb1  hk hkp11 hkp12 hkp13 hkp14 hkp15 hkp16 hkr9 hkr10
          refine hv2 (Xb1.skl hS) (MRK.call hmr hW hS Xb1 Fb1 rfl rfl) (fun skb1 mrb1 => ?_)
          refine c_iload (j := 0) C dX11_read_34 rfl ?_
          refine c_iload_n (j := 5) C dX11_read_36 rfl ?_
          refine c_icmp_ge (tgt := 76) C ⟨by omega, by omega⟩ ⟨by omega, by omega⟩ dX11_read_37 (by decide) (fun c2 => ?_) (fun c2 => ?_)
          · refine c_aload_n (j := 2) (x := a0) C dX11_read_76 rfl ?_
            refine c_iload_n (j := 4) C dX11_read_77 rfl ?_
            refine c_iload_n (j := 5) C dX11_read_78 rfl ?_
            refine hv2 (Xb1.ty t_a0) (Phi.le Wb1 skb1) (fun ty1 pl1 => ?_)
            refine d_callV (As := [.int (iI x), .int (iI n)]) (rest := []) C hM (C_chainLines (a0 := a0) (i := x) (n := n) Wb1 skb1 ty1 (by omega) (by omega) (by show 0 ≤ n; omega)) dX11_read_79 kV_X11_328 rfl ty1 rfl rfl (by decide) ck_12 rfl (Nat.le_of_ble_eq_true rfl) ⟨(Nat.le_of_ble_eq_true rfl), (Nat.le_of_ble_eq_true rfl)⟩ hph pl1 (show 0 + 0 = 0 from rfl) (by decide) (fun rh2 Lh2 clh2 lnh2 ivh2 rvh2 h2 => ?_)
            obtain ⟨rfl, xl2, fl2, W2, exf2⟩ := h2
            refine hv23 (Fb1.call Xb1 fl2 rfl) (MRK.call mrb1 Wb1 skb1 xl2 fl2 rfl rfl) (Xb1.ty tsk2) (Xb1.ty tsk3) (Xb1.ty tsk4) (Xb1.ty tsk5) (Xb1.ty tsk6) (Xb1.ty tsk7) (Xb1.ty tsk8) (Xb1.ty tsk9) (Xb1.ty tsk10) (Xb1.ty tsk13) (Xb1.ty tsk14) (Xb1.ty tsk15) (Xb1.ty tsk16) (Xb1.ty tsk17) (Xb1.ty tsk22) (Xb1.ty tsk23) (Xb1.ty tsk24) (Xb1.ty tsk25) (Xb1.ty tob1) (Xb1.trans xl2) (xl2.skl skb1) (fun F1 mr1 ty2 ty3 ty4 ty5 ty6 ty7 ty8 ty9 ty10 ty11 ty12 ty13 ty14 ty15 ty16 ty17 ty18 ty19 ty20 X1 sk1 => ?_)
            refine c_st (st2 := []) rfl ?_
            refine c_aload_n (j := 2) (x := a0) C dX11_read_82 rfl ?_
            have ty21 := xl2.ty ty1
            obtain ⟨rb2, rq2, trb2⟩ := W2.ref ty21 7 rfl rfl rfl
            have erb2 := W2.sk trb2 (by decide) rfl
            subst erb2
            refine c_getr (k := 7) C ck_12 dX11_read_83 w2_51 (by decide) ty21 rfl rfl (by decide) rfl rq2 ?_
            refine c_st (st2 := [.ref (sk 16)]) rfl ?_
            refine c_aload (j := 1) (x := ob1) C dX11_read_86 rfl ?_
            refine hv3 (xl2.ty ty14) (xl2.ty ty20) (Phi.le W2 sk1) (fun ty22 ty23 pl2 => ?_)
            refine d_callV (As := [.ref ob1]) (rest := []) C hM (C_gather (a0 := (sk 16)) (a1 := ob1) W2 sk1 ty22 ty23  ) dX11_read_88 kV_X11_331 rfl ty22 rfl rfl (by decide) ck_4 rfl (Nat.le_of_ble_eq_true rfl) ⟨(Nat.le_of_ble_eq_true rfl), (Nat.le_of_ble_eq_true rfl)⟩ hph pl2 (show 0 + 0 = 0 from rfl) (by decide) (fun rh3 Lh3 clh3 lnh3 ivh3 rvh3 h3 => ?_)
            obtain ⟨rfl, xl3, fl3, W3, exf3⟩ := h3
            refine hv21 (F1.call X1 fl3 rfl) (MRK.call mr1 W2 sk1 xl3 fl3 rfl rfl) (xl2.ty ty2) (xl2.ty ty3) (xl2.ty ty4) (xl2.ty ty5) (xl2.ty ty6) (xl2.ty ty7) (xl2.ty ty8) (xl2.ty ty9) (xl2.ty ty10) (xl2.ty ty11) (xl2.ty ty12) (xl2.ty ty13) (xl2.ty ty15) (xl2.ty ty16) (xl2.ty ty17) (xl2.ty ty18) (xl2.ty ty19) (X1.trans xl3) (xl3.skl sk1) (fun F2 mr2 ty24 ty25 ty26 ty27 ty28 ty29 ty30 ty31 ty32 ty33 ty34 ty35 ty36 ty37 ty38 ty39 ty40 X2 sk2 => ?_)
            refine c_st (st2 := []) rfl ?_
            refine c_aload_n (j := 2) (x := a0) C dX11_read_91 rfl ?_
            refine hv2 (xl3.ty ty21) (show rvh3 a0 7 = rvh2 a0 7 from (fl3.r ty21 rfl 7)) (fun ty41 re1 => ?_)
            rw [rq2] at re1
            refine c_getr (k := 7) C ck_12 dX11_read_92 w2_51 (by decide) ty41 rfl rfl (by decide) rfl re1 ?_
            refine c_st (st2 := [.ref (sk 16)]) rfl ?_
            refine hv2 (xl3.ty ty22) (Phi.le W3 sk2) (fun ty42 pl3 => ?_)
            refine d_callV (As := []) (rest := []) C hM (C_decode (a0 := (sk 16)) W3 sk2 ty42  ) dX11_read_95 kV_X11_335 rfl ty42 rfl rfl (by decide) ck_4 rfl (Nat.le_of_ble_eq_true rfl) ⟨(Nat.le_of_ble_eq_true rfl), (Nat.le_of_ble_eq_true rfl)⟩ hph pl3 (show 0 + 0 = 0 from rfl) (by decide) (fun rh4 Lh4 clh4 lnh4 ivh4 rvh4 h4 => ?_)
            obtain ⟨f4, rfl, xl4, fl4, W4, rgf4, exf4⟩ := h4
            refine hv22 (F2.call X2 fl4 rfl) (MRK.call mr2 W3 sk2 xl4 fl4 rfl rfl) (xl3.ty ty24) (xl3.ty ty25) (xl3.ty ty26) (xl3.ty ty27) (xl3.ty ty28) (xl3.ty ty29) (xl3.ty ty30) (xl3.ty ty31) (xl3.ty ty32) (xl3.ty ty33) (xl3.ty ty34) (xl3.ty ty35) (xl3.ty ty36) (xl3.ty ty37) (xl3.ty ty38) (xl3.ty ty39) (xl3.ty ty40) (xl3.ty ty23) (X2.trans xl4) (xl4.skl sk2) (fun F3 mr3 ty43 ty44 ty45 ty46 ty47 ty48 ty49 ty50 ty51 ty52 ty53 ty54 ty55 ty56 ty57 ty58 ty59 ty60 X3 sk3 => ?_)
            refine c_st (st2 := [.int (iI f4)]) rfl ?_
            refine c_istore (lv2 := [(5, .int (iI f4)), (4, .ref ob1), (0, .ref a0), (1, .int (iI i)), (2, .int (iI x)), (3, .int (iI n))]) C dX11_read_98 (by decide) rfl ?_
            refine c_aload_n (j := 2) (x := a0) C dX11_read_100 rfl ?_
            have ty61 := xl4.ty ty41
            obtain ⟨rb3, rq3, trb3⟩ := W4.ref ty61 2 rfl rfl rfl
            have erb3 := W4.sk trb3 (by decide) rfl
            subst erb3
            refine c_getr (k := 2) C ck_12 dX11_read_101 w2_46 (by decide) ty61 rfl rfl (by decide) rfl rq3 ?_
            refine c_st (st2 := [.ref (sk 4)]) rfl ?_
            refine hv2 (xl4.ty ty45) (Phi.le W4 sk3) (fun ty62 pl4 => ?_)
            refine d_callV (As := []) (rest := []) C hM (C_clear_4 (a0 := (sk 4)) W4 sk3 ty62  ) dX11_read_104 kV_X11_164 rfl ty62 rfl rfl (by decide) ck_2 rfl (Nat.le_of_ble_eq_true rfl) ⟨(Nat.le_of_ble_eq_true rfl), (Nat.le_of_ble_eq_true rfl)⟩ hph pl4 (show 0 + 0 = 0 from rfl) (by decide) (fun rh5 Lh5 clh5 lnh5 ivh5 rvh5 h5 => ?_)
            obtain ⟨rfl, rfl, rfl, rfl, rfl, fl5, W5, exf5⟩ := h5
            refine hv2 (F3.call X3 fl5 rfl) (MRK.call mr3 W4 sk3 XT.refl fl5 rfl rfl) (fun F4 mr4 => ?_)
            refine c_st (st2 := []) rfl ?_
            refine hv2 (show 0 ≤ ivh5 (sk 4) 2 ∧ ivh5 (sk 4) 2 ≤ 4000 from W5.int ty62 2) (show ivh5 (sk 4) 2 = 0 from exf5) (fun ri1 gf5 => ?_)
            refine c_iload (j := 0) C dX11_read_107 rfl ?_
            refine c_if_ne (tgt := 126) C ⟨by omega, by omega⟩ dX11_read_109 (by decide) (fun c3 => ?_) (fun c3 => ?_)
            · refine c_aload_n (j := 2) (x := a0) C dX11_read_126 rfl ?_
              have re2 : rvh4 a0 7 = rvh3 a0 7 := (fl4.r ty41 rfl 7)
              rw [re1] at re2
              refine c_getr (k := 7) C ck_12 dX11_read_127 w2_51 (by decide) ty61 rfl rfl (by decide) rfl re2 ?_
              refine c_st (st2 := [.ref (sk 16)]) rfl ?_
              have ty63 := xl4.ty ty42
              obtain ⟨rb4, rq4, trb4⟩ := W5.ref ty63 6 rfl rfl rfl
              have erb4 := W5.sk trb4 (by decide) rfl
              subst erb4
              refine c_getr (k := 6) C ck_4 dX11_read_130 w1_201 (by decide) ty63 rfl rfl (by decide) rfl rq4 ?_
              refine c_st (st2 := [.ref (sk 10)]) rfl ?_
              have ty64 := xl4.ty ty51
              refine hv2 (show 0 ≤ ivh5 (sk 10) 2 ∧ ivh5 (sk 10) 2 ≤ 4001 from W5.int ty64 2) (show ivh5 (sk 10) 2 = ivh4 (sk 10) 2 from fl5.i ty64 rfl 2) (fun ri2 ie2 => ?_)
              refine c_get (k := 2) C ck_2 dX11_read_133 w1_44 (by decide) ty64 rfl rfl (by decide) rfl ?_
              refine c_sipush (z := 4000) C dX11_read_136 (by decide) ?_
              refine c_icmp_le (tgt := 149) C (r32_c (lo := 0) (hi := 4001) ri2.1 ri2.2 (by decide) (by decide)) ⟨by decide, by decide⟩ dX11_read_139 (by decide) (fun c4 => ?_) (fun c4 => ?_)
              · refine c_aload_n (j := 2) (x := a0) C dX11_read_149 rfl ?_
                refine c_getr (k := 2) C ck_12 dX11_read_150 w2_46 (by decide) ty61 rfl rfl (by decide) rfl rq3 ?_
                refine c_st (st2 := [.ref (sk 4)]) rfl ?_
                refine c_aload_n (j := 2) (x := a0) C dX11_read_153 rfl ?_
                refine c_getr (k := 7) C ck_12 dX11_read_154 w2_51 (by decide) ty61 rfl rfl (by decide) rfl re2 ?_
                refine c_st (st2 := [.ref (sk 16), .ref (sk 4)]) rfl ?_
                refine c_getr (k := 6) C ck_4 dX11_read_157 w1_201 (by decide) ty63 rfl rfl (by decide) rfl rq4 ?_
                refine c_st (st2 := [.ref (sk 10), .ref (sk 4)]) rfl ?_
                refine d_callV (As := [.ref (sk 10)]) (rest := []) C hM (C_addAll_4 (a0 := (sk 4)) (a1 := (sk 10)) W5 sk3 ty62 ty64  ) dX11_read_160 kV_X11_227 rfl ty62 rfl rfl (by decide) ck_2 rfl (Nat.le_of_ble_eq_true rfl) ⟨(Nat.le_of_ble_eq_true rfl), (Nat.le_of_ble_eq_true rfl)⟩ hph pl4 (show 0 + 0 = 0 from rfl) (by decide) (fun rh6 Lh6 clh6 lnh6 ivh6 rvh6 h6 => ?_)
                obtain ⟨rfl, xl6, fl6, W6, exf6⟩ := h6
                refine hv20 (F4.call X3 fl6 rfl) (MRK.call mr4 W5 sk3 xl6 fl6 rfl rfl) (xl4.ty ty43) (xl4.ty ty44) (xl4.ty ty46) (xl4.ty ty47) (xl4.ty ty48) (xl4.ty ty49) (xl4.ty ty50) (xl4.ty ty52) (xl4.ty ty53) (xl4.ty ty54) (xl4.ty ty55) (xl4.ty ty56) (xl4.ty ty57) (xl4.ty ty58) (xl4.ty ty59) (xl4.ty ty60) (X3.trans xl6) (xl6.skl sk3) (fun F5 mr5 ty65 ty66 ty67 ty68 ty69 ty70 ty71 ty72 ty73 ty74 ty75 ty76 ty77 ty78 ty79 ty80 X4 sk4 => ?_)
                refine c_st (st2 := []) rfl ?_
                refine hv2 (xl6.ty ty62) (show ivh6 (sk 4) 2 = min (ivh5 (sk 4) 2 + ivh5 (sk 10) 2) 4000 from exf6) (fun ty81 gf6 => ?_)
                have ri3 : 0 ≤ ivh6 (sk 4) 2 ∧ ivh6 (sk 4) 2 ≤ 4000 := W6.int ty81 2
                refine c_aload_n (j := 2) (x := a0) C dX11_read_163 rfl ?_
                refine c_aload_n (j := 2) (x := a0) C dX11_read_164 rfl ?_
                refine hv2 (xl6.ty ty61) (show rvh6 a0 2 = rvh4 a0 2 from (fl6.r ty61 rfl 2)) (fun ty82 re3 => ?_)
                rw [rq3] at re3
                refine c_getr (k := 2) C ck_12 dX11_read_165 w2_46 (by decide) ty82 rfl rfl (by decide) rfl re3 ?_
                refine c_st (st2 := [.ref (sk 4), .ref a0]) rfl ?_
                refine c_get (k := 2) C ck_2 dX11_read_168 w1_44 (by decide) ty81 rfl rfl (by decide) rfl ?_
                have pl5 := Phi.le W6 sk4
                refine d_callV (As := [.int (iI (ivh6 (sk 4) 2))]) (rest := []) C hM (C_done (a0 := a0) (x := ivh6 (sk 4) 2) W6 sk4 ty82 (by omega) ) dX11_read_171 kV_X11_109 rfl ty82 rfl rfl (by decide) ck_12 rfl (Nat.le_of_ble_eq_true rfl) ⟨(Nat.le_of_ble_eq_true rfl), (Nat.le_of_ble_eq_true rfl)⟩ hph pl5 (show 0 + 0 = 0 from rfl) (by decide) (fun rh7 Lh7 clh7 lnh7 ivh7 rvh7 h7 => ?_)
                obtain ⟨f7, rfl, rfl, rfl, rfl, rfl, fl7, W7, rgf7, exf7, kp11f7, kp12f7, kp13f7, kp14f7, kp15f7, kp16f7⟩ := h7
                refine hv38 (show 1 ≤ ivh6 a0 11 ∧ ivh6 a0 11 ≤ 100 from W6.int ty82 11) (show ivh6 a0 11 = ivh5 a0 11 from fl6.i ty61 rfl 11) (show ivh5 a0 11 = ivh4 a0 11 from fl5.i ty61 rfl 11) (show ivh4 a0 11 = ivh3 a0 11 from fl4.i ty41 rfl 11) (show ivh3 a0 11 = ivh2 a0 11 from fl3.i ty21 rfl 11) (show ivh2 a0 11 = ivb1 a0 11 from fl2.i ty1 rfl 11) (show 1 ≤ ivh6 a0 12 ∧ ivh6 a0 12 ≤ 50 from W6.int ty82 12) (show ivh6 a0 12 = ivh5 a0 12 from fl6.i ty61 rfl 12) (show ivh5 a0 12 = ivh4 a0 12 from fl5.i ty61 rfl 12) (show ivh4 a0 12 = ivh3 a0 12 from fl4.i ty41 rfl 12) (show ivh3 a0 12 = ivh2 a0 12 from fl3.i ty21 rfl 12) (show ivh2 a0 12 = ivb1 a0 12 from fl2.i ty1 rfl 12) (show (-2147483648) ≤ ivh6 a0 13 ∧ ivh6 a0 13 ≤ 2147483647 from W6.int ty82 13) (show ivh6 a0 13 = ivh5 a0 13 from fl6.i ty61 rfl 13) (show ivh5 a0 13 = ivh4 a0 13 from fl5.i ty61 rfl 13) (show ivh4 a0 13 = ivh3 a0 13 from fl4.i ty41 rfl 13) (show ivh3 a0 13 = ivh2 a0 13 from fl3.i ty21 rfl 13) (show ivh2 a0 13 = ivb1 a0 13 from fl2.i ty1 rfl 13) (show (-2147483648) ≤ ivh6 a0 14 ∧ ivh6 a0 14 ≤ 2147483647 from W6.int ty82 14) (show ivh6 a0 14 = ivh5 a0 14 from fl6.i ty61 rfl 14) (show ivh5 a0 14 = ivh4 a0 14 from fl5.i ty61 rfl 14) (show ivh4 a0 14 = ivh3 a0 14 from fl4.i ty41 rfl 14) (show ivh3 a0 14 = ivh2 a0 14 from fl3.i ty21 rfl 14) (show ivh2 a0 14 = ivb1 a0 14 from fl2.i ty1 rfl 14) (show (-2147483648) ≤ ivh6 a0 15 ∧ ivh6 a0 15 ≤ 2147483647 from W6.int ty82 15) (show ivh6 a0 15 = ivh5 a0 15 from fl6.i ty61 rfl 15) (show ivh5 a0 15 = ivh4 a0 15 from fl5.i ty61 rfl 15) (show ivh4 a0 15 = ivh3 a0 15 from fl4.i ty41 rfl 15) (show ivh3 a0 15 = ivh2 a0 15 from fl3.i ty21 rfl 15) (show ivh2 a0 15 = ivb1 a0 15 from fl2.i ty1 rfl 15) (show (-2147483648) ≤ ivh6 a0 16 ∧ ivh6 a0 16 ≤ 2147483647 from W6.int ty82 16) (show ivh6 a0 16 = ivh5 a0 16 from fl6.i ty61 rfl 16) (show ivh5 a0 16 = ivh4 a0 16 from fl5.i ty61 rfl 16) (show ivh4 a0 16 = ivh3 a0 16 from fl4.i ty41 rfl 16) (show ivh3 a0 16 = ivh2 a0 16 from fl3.i ty21 rfl 16) (show ivh2 a0 16 = ivb1 a0 16 from fl2.i ty1 rfl 16) (F5.call X4 fl7 rfl) (MRK.call mr5 W6 sk4 XT.refl fl7 rfl rfl) (fun ri4 ie5 ie6 ie7 ie8 ie9 ri5 ie11 ie12 ie13 ie14 ie15 ri6 ie17 ie18 ie19 ie20 ie21 ri7 ie23 ie24 ie25 ie26 ie27 ri8 ie29 ie30 ie31 ie32 ie33 ri9 ie35 ie36 ie37 ie38 ie39 F6 mr6 => ?_)
                refine c_st (st2 := [.int (iI f7)]) rfl ?_
                refine hv13 (show ivh7 a0 11 = ivh6 a0 11 from kp11f7) (show ivh7 a0 12 = ivh6 a0 12 from kp12f7) (show ivh7 a0 13 = ivh6 a0 13 from kp13f7) (show ivh7 a0 14 = ivh6 a0 14 from kp14f7) (show ivh7 a0 15 = ivh6 a0 15 from kp15f7) (show ivh7 a0 16 = ivh6 a0 16 from kp16f7) (show f7 = (ivh6 (sk 4) 2) from exf7) (show 1 ≤ ivh7 a0 11 ∧ ivh7 a0 11 ≤ 100 from W7.int ty82 11) (show 1 ≤ ivh7 a0 12 ∧ ivh7 a0 12 ≤ 50 from W7.int ty82 12) (show (-2147483648) ≤ ivh7 a0 13 ∧ ivh7 a0 13 ≤ 2147483647 from W7.int ty82 13) (show (-2147483648) ≤ ivh7 a0 14 ∧ ivh7 a0 14 ≤ 2147483647 from W7.int ty82 14) (show (-2147483648) ≤ ivh7 a0 15 ∧ ivh7 a0 15 ≤ 2147483647 from W7.int ty82 15) (show (-2147483648) ≤ ivh7 a0 16 ∧ ivh7 a0 16 ≤ 2147483647 from W7.int ty82 16) (fun gk11f7 gk12f7 gk13f7 gk14f7 gk15f7 gk16f7 gf7 ri10 ri11 ri12 ri13 ri14 ri15 => ?_)
                exact c_iret C dX11_read_174 rfl (by decide) (rom0 hph pl5 (by decide)) ⟨f7, rfl, X4, F6, W7, ⟨by omega, by omega⟩, trivial, (gk11f7.trans (ie5.trans (ie6.trans (ie7.trans (ie8.trans (ie9.trans hkp11)))))), (gk12f7.trans (ie11.trans (ie12.trans (ie13.trans (ie14.trans (ie15.trans hkp12)))))), (gk13f7.trans (ie17.trans (ie18.trans (ie19.trans (ie20.trans (ie21.trans hkp13)))))), (gk14f7.trans (ie23.trans (ie24.trans (ie25.trans (ie26.trans (ie27.trans hkp14)))))), (gk15f7.trans (ie29.trans (ie30.trans (ie31.trans (ie32.trans (ie33.trans hkp15)))))), (gk16f7.trans (ie35.trans (ie36.trans (ie37.trans (ie38.trans (ie39.trans hkp16)))))), (Eq.trans (show rvh6 a0 9 = rvh4 a0 9 from (fl6.r ty61 rfl 9)) (Eq.trans (show rvh4 a0 9 = rvh3 a0 9 from (fl4.r ty41 rfl 9)) (Eq.trans (show rvh3 a0 9 = rvh2 a0 9 from (fl3.r ty21 rfl 9)) (Eq.trans (show rvh2 a0 9 = rvb1 a0 9 from (fl2.r ty1 rfl 9)) (show rvb1 a0 9 = rv a0 9 from hkr9))))), (Eq.trans (show rvh6 a0 10 = rvh4 a0 10 from (fl6.r ty61 rfl 10)) (Eq.trans (show rvh4 a0 10 = rvh3 a0 10 from (fl4.r ty41 rfl 10)) (Eq.trans (show rvh3 a0 10 = rvh2 a0 10 from (fl3.r ty21 rfl 10)) (Eq.trans (show rvh2 a0 10 = rvb1 a0 10 from (fl2.r ty1 rfl 10)) (show rvb1 a0 10 = rv a0 10 from hkr10)))))⟩
              · refine c_aload_n (j := 2) (x := a0) C dX11_read_142 rfl ?_
                refine c_bipush (z := 6) C dX11_read_143 (by decide) ?_
                refine d_callV (As := [.int (iI 6)]) (rest := []) C hM (C_refuse (a0 := a0) (x := 6) W5 sk3 ty61 ⟨by decide, by decide⟩ ) dX11_read_145 kV_X11_102 rfl ty61 rfl rfl (by decide) ck_12 rfl (Nat.le_of_ble_eq_true rfl) ⟨(Nat.le_of_ble_eq_true rfl), (Nat.le_of_ble_eq_true rfl)⟩ hph pl4 (show 0 + 0 = 0 from rfl) (by decide) (fun rh8 Lh8 clh8 lnh8 ivh8 rvh8 h8 => ?_)
                obtain ⟨f8, rfl, rfl, rfl, rfl, rfl, fl8, W8, rgf8, exf8, kp11f8, kp12f8, kp13f8, kp14f8, kp15f8, kp16f8⟩ := h8
                refine hv32 (show 1 ≤ ivh5 a0 11 ∧ ivh5 a0 11 ≤ 100 from W5.int ty61 11) (show ivh5 a0 11 = ivh4 a0 11 from fl5.i ty61 rfl 11) (show ivh4 a0 11 = ivh3 a0 11 from fl4.i ty41 rfl 11) (show ivh3 a0 11 = ivh2 a0 11 from fl3.i ty21 rfl 11) (show ivh2 a0 11 = ivb1 a0 11 from fl2.i ty1 rfl 11) (show 1 ≤ ivh5 a0 12 ∧ ivh5 a0 12 ≤ 50 from W5.int ty61 12) (show ivh5 a0 12 = ivh4 a0 12 from fl5.i ty61 rfl 12) (show ivh4 a0 12 = ivh3 a0 12 from fl4.i ty41 rfl 12) (show ivh3 a0 12 = ivh2 a0 12 from fl3.i ty21 rfl 12) (show ivh2 a0 12 = ivb1 a0 12 from fl2.i ty1 rfl 12) (show (-2147483648) ≤ ivh5 a0 13 ∧ ivh5 a0 13 ≤ 2147483647 from W5.int ty61 13) (show ivh5 a0 13 = ivh4 a0 13 from fl5.i ty61 rfl 13) (show ivh4 a0 13 = ivh3 a0 13 from fl4.i ty41 rfl 13) (show ivh3 a0 13 = ivh2 a0 13 from fl3.i ty21 rfl 13) (show ivh2 a0 13 = ivb1 a0 13 from fl2.i ty1 rfl 13) (show (-2147483648) ≤ ivh5 a0 14 ∧ ivh5 a0 14 ≤ 2147483647 from W5.int ty61 14) (show ivh5 a0 14 = ivh4 a0 14 from fl5.i ty61 rfl 14) (show ivh4 a0 14 = ivh3 a0 14 from fl4.i ty41 rfl 14) (show ivh3 a0 14 = ivh2 a0 14 from fl3.i ty21 rfl 14) (show ivh2 a0 14 = ivb1 a0 14 from fl2.i ty1 rfl 14) (show (-2147483648) ≤ ivh5 a0 15 ∧ ivh5 a0 15 ≤ 2147483647 from W5.int ty61 15) (show ivh5 a0 15 = ivh4 a0 15 from fl5.i ty61 rfl 15) (show ivh4 a0 15 = ivh3 a0 15 from fl4.i ty41 rfl 15) (show ivh3 a0 15 = ivh2 a0 15 from fl3.i ty21 rfl 15) (show ivh2 a0 15 = ivb1 a0 15 from fl2.i ty1 rfl 15) (show (-2147483648) ≤ ivh5 a0 16 ∧ ivh5 a0 16 ≤ 2147483647 from W5.int ty61 16) (show ivh5 a0 16 = ivh4 a0 16 from fl5.i ty61 rfl 16) (show ivh4 a0 16 = ivh3 a0 16 from fl4.i ty41 rfl 16) (show ivh3 a0 16 = ivh2 a0 16 from fl3.i ty21 rfl 16) (show ivh2 a0 16 = ivb1 a0 16 from fl2.i ty1 rfl 16) (F4.call X3 fl8 rfl) (MRK.call mr4 W5 sk3 XT.refl fl8 rfl rfl) (fun ri16 ie47 ie48 ie49 ie50 ri17 ie52 ie53 ie54 ie55 ri18 ie57 ie58 ie59 ie60 ri19 ie62 ie63 ie64 ie65 ri20 ie67 ie68 ie69 ie70 ri21 ie72 ie73 ie74 ie75 F7 mr7 => ?_)
                refine c_st (st2 := [.int (iI f8)]) rfl ?_
                refine hv13 (show ivh8 a0 11 = ivh5 a0 11 from kp11f8) (show ivh8 a0 12 = ivh5 a0 12 from kp12f8) (show ivh8 a0 13 = ivh5 a0 13 from kp13f8) (show ivh8 a0 14 = ivh5 a0 14 from kp14f8) (show ivh8 a0 15 = ivh5 a0 15 from kp15f8) (show ivh8 a0 16 = ivh5 a0 16 from kp16f8) (show f8 = -1 from exf8) (show 1 ≤ ivh8 a0 11 ∧ ivh8 a0 11 ≤ 100 from W8.int ty61 11) (show 1 ≤ ivh8 a0 12 ∧ ivh8 a0 12 ≤ 50 from W8.int ty61 12) (show (-2147483648) ≤ ivh8 a0 13 ∧ ivh8 a0 13 ≤ 2147483647 from W8.int ty61 13) (show (-2147483648) ≤ ivh8 a0 14 ∧ ivh8 a0 14 ≤ 2147483647 from W8.int ty61 14) (show (-2147483648) ≤ ivh8 a0 15 ∧ ivh8 a0 15 ≤ 2147483647 from W8.int ty61 15) (show (-2147483648) ≤ ivh8 a0 16 ∧ ivh8 a0 16 ≤ 2147483647 from W8.int ty61 16) (fun gk11f8 gk12f8 gk13f8 gk14f8 gk15f8 gk16f8 gf8 ri22 ri23 ri24 ri25 ri26 ri27 => ?_)
                exact c_iret C dX11_read_148 rfl (by decide) (rom0 hph pl4 (by decide)) ⟨f8, rfl, X3, F7, W8, ⟨by omega, by omega⟩, trivial, (gk11f8.trans (ie47.trans (ie48.trans (ie49.trans (ie50.trans hkp11))))), (gk12f8.trans (ie52.trans (ie53.trans (ie54.trans (ie55.trans hkp12))))), (gk13f8.trans (ie57.trans (ie58.trans (ie59.trans (ie60.trans hkp13))))), (gk14f8.trans (ie62.trans (ie63.trans (ie64.trans (ie65.trans hkp14))))), (gk15f8.trans (ie67.trans (ie68.trans (ie69.trans (ie70.trans hkp15))))), (gk16f8.trans (ie72.trans (ie73.trans (ie74.trans (ie75.trans hkp16))))), (Eq.trans (show rvh4 a0 9 = rvh3 a0 9 from (fl4.r ty41 rfl 9)) (Eq.trans (show rvh3 a0 9 = rvh2 a0 9 from (fl3.r ty21 rfl 9)) (Eq.trans (show rvh2 a0 9 = rvb1 a0 9 from (fl2.r ty1 rfl 9)) (show rvb1 a0 9 = rv a0 9 from hkr9)))), (Eq.trans (show rvh4 a0 10 = rvh3 a0 10 from (fl4.r ty41 rfl 10)) (Eq.trans (show rvh3 a0 10 = rvh2 a0 10 from (fl3.r ty21 rfl 10)) (Eq.trans (show rvh2 a0 10 = rvb1 a0 10 from (fl2.r ty1 rfl 10)) (show rvb1 a0 10 = rv a0 10 from hkr10))))⟩
            · refine c_aload_n (j := 2) (x := a0) C dX11_read_112 rfl ?_
              refine c_bipush (z := 9) C dX11_read_113 (by decide) ?_
              refine c_aload_n (j := 2) (x := a0) C dX11_read_115 rfl ?_
              have re4 : rvh4 a0 7 = rvh3 a0 7 := (fl4.r ty41 rfl 7)
              rw [re1] at re4
              refine c_getr (k := 7) C ck_12 dX11_read_116 w2_51 (by decide) ty61 rfl rfl (by decide) rfl re4 ?_
              refine c_st (st2 := [.ref (sk 16), .int (iI 9), .ref a0]) rfl ?_
              have ty83 := xl4.ty ty42
              refine d_callV (As := []) (rest := [.int (iI 9), .ref a0]) C hM (C_placeOfWrong (a0 := (sk 16)) W5 sk3 ty83  ) dX11_read_119 kV_X11_338 rfl ty83 rfl rfl (by decide) ck_4 rfl (Nat.le_of_ble_eq_true rfl) ⟨(Nat.le_of_ble_eq_true rfl), (Nat.le_of_ble_eq_true rfl)⟩ hph pl4 (show 0 + 0 = 0 from rfl) (by decide) (fun rh9 Lh9 clh9 lnh9 ivh9 rvh9 h9 => ?_)
              obtain ⟨f9, rfl, rfl, rfl, rfl, rfl, rfl, rgf9, exf9⟩ := h9
              refine c_st (st2 := [.int (iI f9), .int (iI 9), .ref a0]) rfl ?_
              refine d_callV (As := [.int (iI 9), .int (iI f9)]) (rest := []) C hM (C_refuseAt (a0 := a0) (x := 9) (y := f9) W5 sk3 ty61 ⟨by decide, by decide⟩ (by omega) ) dX11_read_122 kV_X11_266 rfl ty61 rfl rfl (by decide) ck_12 rfl (Nat.le_of_ble_eq_true rfl) ⟨(Nat.le_of_ble_eq_true rfl), (Nat.le_of_ble_eq_true rfl)⟩ hph pl4 (show 0 + 0 = 0 from rfl) (by decide) (fun rh10 Lh10 clh10 lnh10 ivh10 rvh10 h10 => ?_)
              obtain ⟨f10, rfl, rfl, rfl, rfl, rfl, fl10, W10, rgf10, exf10, kp11f10, kp12f10, kp13f10, kp14f10, kp15f10, kp16f10⟩ := h10
              refine hv32 (show 1 ≤ ivh5 a0 11 ∧ ivh5 a0 11 ≤ 100 from W5.int ty61 11) (show ivh5 a0 11 = ivh4 a0 11 from fl5.i ty61 rfl 11) (show ivh4 a0 11 = ivh3 a0 11 from fl4.i ty41 rfl 11) (show ivh3 a0 11 = ivh2 a0 11 from fl3.i ty21 rfl 11) (show ivh2 a0 11 = ivb1 a0 11 from fl2.i ty1 rfl 11) (show 1 ≤ ivh5 a0 12 ∧ ivh5 a0 12 ≤ 50 from W5.int ty61 12) (show ivh5 a0 12 = ivh4 a0 12 from fl5.i ty61 rfl 12) (show ivh4 a0 12 = ivh3 a0 12 from fl4.i ty41 rfl 12) (show ivh3 a0 12 = ivh2 a0 12 from fl3.i ty21 rfl 12) (show ivh2 a0 12 = ivb1 a0 12 from fl2.i ty1 rfl 12) (show (-2147483648) ≤ ivh5 a0 13 ∧ ivh5 a0 13 ≤ 2147483647 from W5.int ty61 13) (show ivh5 a0 13 = ivh4 a0 13 from fl5.i ty61 rfl 13) (show ivh4 a0 13 = ivh3 a0 13 from fl4.i ty41 rfl 13) (show ivh3 a0 13 = ivh2 a0 13 from fl3.i ty21 rfl 13) (show ivh2 a0 13 = ivb1 a0 13 from fl2.i ty1 rfl 13) (show (-2147483648) ≤ ivh5 a0 14 ∧ ivh5 a0 14 ≤ 2147483647 from W5.int ty61 14) (show ivh5 a0 14 = ivh4 a0 14 from fl5.i ty61 rfl 14) (show ivh4 a0 14 = ivh3 a0 14 from fl4.i ty41 rfl 14) (show ivh3 a0 14 = ivh2 a0 14 from fl3.i ty21 rfl 14) (show ivh2 a0 14 = ivb1 a0 14 from fl2.i ty1 rfl 14) (show (-2147483648) ≤ ivh5 a0 15 ∧ ivh5 a0 15 ≤ 2147483647 from W5.int ty61 15) (show ivh5 a0 15 = ivh4 a0 15 from fl5.i ty61 rfl 15) (show ivh4 a0 15 = ivh3 a0 15 from fl4.i ty41 rfl 15) (show ivh3 a0 15 = ivh2 a0 15 from fl3.i ty21 rfl 15) (show ivh2 a0 15 = ivb1 a0 15 from fl2.i ty1 rfl 15) (show (-2147483648) ≤ ivh5 a0 16 ∧ ivh5 a0 16 ≤ 2147483647 from W5.int ty61 16) (show ivh5 a0 16 = ivh4 a0 16 from fl5.i ty61 rfl 16) (show ivh4 a0 16 = ivh3 a0 16 from fl4.i ty41 rfl 16) (show ivh3 a0 16 = ivh2 a0 16 from fl3.i ty21 rfl 16) (show ivh2 a0 16 = ivb1 a0 16 from fl2.i ty1 rfl 16) (F4.call X3 fl10 rfl) (MRK.call mr4 W5 sk3 XT.refl fl10 rfl rfl) (fun ri28 ie83 ie84 ie85 ie86 ri29 ie88 ie89 ie90 ie91 ri30 ie93 ie94 ie95 ie96 ri31 ie98 ie99 ie100 ie101 ri32 ie103 ie104 ie105 ie106 ri33 ie108 ie109 ie110 ie111 F8 mr8 => ?_)
              refine c_st (st2 := [.int (iI f10)]) rfl ?_
              refine hv13 (show ivh10 a0 11 = ivh5 a0 11 from kp11f10) (show ivh10 a0 12 = ivh5 a0 12 from kp12f10) (show ivh10 a0 13 = ivh5 a0 13 from kp13f10) (show ivh10 a0 14 = ivh5 a0 14 from kp14f10) (show ivh10 a0 15 = ivh5 a0 15 from kp15f10) (show ivh10 a0 16 = ivh5 a0 16 from kp16f10) (show f10 = -1 from exf10) (show 1 ≤ ivh10 a0 11 ∧ ivh10 a0 11 ≤ 100 from W10.int ty61 11) (show 1 ≤ ivh10 a0 12 ∧ ivh10 a0 12 ≤ 50 from W10.int ty61 12) (show (-2147483648) ≤ ivh10 a0 13 ∧ ivh10 a0 13 ≤ 2147483647 from W10.int ty61 13) (show (-2147483648) ≤ ivh10 a0 14 ∧ ivh10 a0 14 ≤ 2147483647 from W10.int ty61 14) (show (-2147483648) ≤ ivh10 a0 15 ∧ ivh10 a0 15 ≤ 2147483647 from W10.int ty61 15) (show (-2147483648) ≤ ivh10 a0 16 ∧ ivh10 a0 16 ≤ 2147483647 from W10.int ty61 16) (fun gk11f10 gk12f10 gk13f10 gk14f10 gk15f10 gk16f10 gf10 ri34 ri35 ri36 ri37 ri38 ri39 => ?_)
              exact c_iret C dX11_read_125 rfl (by decide) (rom0 hph pl4 (by decide)) ⟨f10, rfl, X3, F8, W10, ⟨by omega, by omega⟩, trivial, (gk11f10.trans (ie83.trans (ie84.trans (ie85.trans (ie86.trans hkp11))))), (gk12f10.trans (ie88.trans (ie89.trans (ie90.trans (ie91.trans hkp12))))), (gk13f10.trans (ie93.trans (ie94.trans (ie95.trans (ie96.trans hkp13))))), (gk14f10.trans (ie98.trans (ie99.trans (ie100.trans (ie101.trans hkp14))))), (gk15f10.trans (ie103.trans (ie104.trans (ie105.trans (ie106.trans hkp15))))), (gk16f10.trans (ie108.trans (ie109.trans (ie110.trans (ie111.trans hkp16))))), (Eq.trans (show rvh4 a0 9 = rvh3 a0 9 from (fl4.r ty41 rfl 9)) (Eq.trans (show rvh3 a0 9 = rvh2 a0 9 from (fl3.r ty21 rfl 9)) (Eq.trans (show rvh2 a0 9 = rvb1 a0 9 from (fl2.r ty1 rfl 9)) (show rvb1 a0 9 = rv a0 9 from hkr9)))), (Eq.trans (show rvh4 a0 10 = rvh3 a0 10 from (fl4.r ty41 rfl 10)) (Eq.trans (show rvh3 a0 10 = rvh2 a0 10 from (fl3.r ty21 rfl 10)) (Eq.trans (show rvh2 a0 10 = rvb1 a0 10 from (fl2.r ty1 rfl 10)) (show rvb1 a0 10 = rv a0 10 from hkr10))))⟩
          · refine c_aload_n (j := 2) (x := a0) C dX11_read_40 rfl ?_
            have ty84 := Xb1.ty t_a0
            obtain ⟨rb5, rq5, trb5⟩ := Wb1.ref ty84 9 rfl rfl rfl
            refine c_getr (k := 9) C ck_12 dX11_read_41 w2_53 (by decide) ty84 rfl rfl (by decide) rfl rq5 ?_
            refine c_st (st2 := [.ref rb5]) rfl ?_
            refine c_iload_n (j := 4) C dX11_read_44 rfl ?_
            refine c_iload (j := 0) C dX11_read_45 rfl ?_
            refine c_iadd C dX11_read_47 ?_
            obtain ⟨zz1, hzz1, ezz1⟩ := iI_of (iI (x + k))
            refine c_st (st2 := [.int (iI zz1), .ref rb5]) (by rw [ezz1]) ?_
            refine hv2 (show 0 ≤ ivb1 rb5 1 ∧ ivb1 rb5 1 ≤ 200 from Wb1.int trb5 1) (Phi.le Wb1 skb1) (fun ri40 pl6 => ?_)
            refine d_callV (As := [.int (iI zz1)]) (rest := []) C hM (C_present (a0 := rb5) (i := zz1) Wb1 skb1 trb5 (by omega) ) dX11_read_48 kV_X11_288 rfl trb5 rfl rfl (by decide) ck_8 rfl (Nat.le_of_ble_eq_true rfl) ⟨(Nat.le_of_ble_eq_true rfl), (Nat.le_of_ble_eq_true rfl)⟩ hph pl6 (show 0 + 0 = 0 from rfl) (by decide) (fun rh11 Lh11 clh11 lnh11 ivh11 rvh11 h11 => ?_)
            obtain ⟨f11, rfl, rfl, rfl, rfl, rfl, rfl, rgf11, exf11⟩ := h11
            refine c_st (st2 := [(va_rf f11)]) rfl ?_
            have gf11 : f11 = none ∨ (0 ≤ zz1 ∧ zz1 < ivb1 rb5 1) := exf11
            refine c_ifnonnull (r := f11) (tgt := 70) C dX11_read_51 (by decide) (fun ob2 oq2 => ?_) (fun oq2 => ?_)
            · subst oq2
              have tob2 := rgf11 ob2 rfl
              refine c_lv (lv2 := [(5, .int (iI k)), (4, .ref ob1), (0, .ref a0), (1, .int (iI i)), (2, .int (iI x)), (3, .int (iI n))]) [0, 1, 2, 3, 4, 5] rfl ?_
              refine c_st (st2 := []) rfl ?_
              refine c_iinc (z := k) (j := 0) (lv2 := [(5, .int (iI (k + 1))), (4, .ref ob1), (0, .ref a0), (1, .int (iI i)), (2, .int (iI x)), (3, .int (iI n))]) C dX11_read_70 rfl (by decide) rfl ?_
              refine c_goto (tgt := 34) C dX11_read_73 (by decide) ?_
              refine hv6 (show 1 ≤ ivb1 a0 11 ∧ ivb1 a0 11 ≤ 100 from Wb1.int ty84 11) (show 1 ≤ ivb1 a0 12 ∧ ivb1 a0 12 ≤ 50 from Wb1.int ty84 12) (show (-2147483648) ≤ ivb1 a0 13 ∧ ivb1 a0 13 ≤ 2147483647 from Wb1.int ty84 13) (show (-2147483648) ≤ ivb1 a0 14 ∧ ivb1 a0 14 ≤ 2147483647 from Wb1.int ty84 14) (show (-2147483648) ≤ ivb1 a0 15 ∧ ivb1 a0 15 ≤ 2147483647 from Wb1.int ty84 15) (show (-2147483648) ≤ ivb1 a0 16 ∧ ivb1 a0 16 ≤ 2147483647 from Wb1.int ty84 16) (fun ri41 ri42 ri43 ri44 ri45 ri46 => ?_)
              refine c_lv (lv2 := [(5, .int (iI (k + 1))), (4, .ref ob1), (0, .ref a0), (1, .int (iI i)), (2, .int (iI x)), (3, .int (iI n))]) [0, 1, 2, 3, 4, 5] rfl ?_
              exact ih1  (k + 1) _ _ _ _ _ (by omega) Xb1 Wb1 Fb1  (by omega) hkp11 hkp12 hkp13 hkp14 hkp15 hkp16 (show rvb1 a0 9 = rv a0 9 from hkr9) (show rvb1 a0 10 = rv a0 10 from hkr10)
            · subst oq2
              refine c_lv (lv2 := [(5, .int (iI k)), (4, .ref ob1), (0, .ref a0), (1, .int (iI i)), (2, .int (iI x)), (3, .int (iI n))]) [0, 1, 2, 3, 4, 5] rfl ?_
              refine c_st (st2 := []) rfl ?_
              refine c_aload_n (j := 2) (x := a0) C dX11_read_54 rfl ?_
              refine c_aload_n (j := 2) (x := a0) C dX11_read_55 rfl ?_
              refine c_getr (k := 9) C ck_12 dX11_read_56 w2_53 (by decide) ty84 rfl rfl (by decide) rfl rq5 ?_
              refine c_st (st2 := [.ref rb5, .ref a0]) rfl ?_
              refine c_iload_n (j := 4) C dX11_read_59 rfl ?_
              refine c_iload (j := 0) C dX11_read_60 rfl ?_
              refine c_iadd C dX11_read_62 ?_
              obtain ⟨zz2, hzz2, ezz2⟩ := iI_of (iI (x + k))
              refine c_st (st2 := [.int (iI zz2), .ref rb5, .ref a0]) (by rw [ezz2]) ?_
              refine d_callV (As := [.int (iI zz2)]) (rest := [.ref a0]) C hM (C_whyNone (a0 := rb5) (i := zz2) Wb1 skb1 trb5 (by omega) ) dX11_read_63 kV_X11_292 rfl trb5 rfl rfl (by decide) ck_8 rfl (Nat.le_of_ble_eq_true rfl) ⟨(Nat.le_of_ble_eq_true rfl), (Nat.le_of_ble_eq_true rfl)⟩ hph pl6 (show 0 + 0 = 0 from rfl) (by decide) (fun rh12 Lh12 clh12 lnh12 ivh12 rvh12 h12 => ?_)
              obtain ⟨f12, rfl, rfl, rfl, rfl, rfl, rfl, rgf12, exf12⟩ := h12
              refine c_st (st2 := [.int (iI f12), .ref a0]) rfl ?_
              have gf12 : f12 = 1 ∨ f12 = 2 := exf12
              refine d_callV (As := [.int (iI f12)]) (rest := []) C hM (C_refuse (a0 := a0) (x := f12) Wb1 skb1 ty84 (by omega) ) dX11_read_66 kV_X11_102 rfl ty84 rfl rfl (by decide) ck_12 rfl (Nat.le_of_ble_eq_true rfl) ⟨(Nat.le_of_ble_eq_true rfl), (Nat.le_of_ble_eq_true rfl)⟩ hph pl6 (show 0 + 0 = 0 from rfl) (by decide) (fun rh13 Lh13 clh13 lnh13 ivh13 rvh13 h13 => ?_)
              obtain ⟨f13, rfl, rfl, rfl, rfl, rfl, fl13, W13, rgf13, exf13, kp11f13, kp12f13, kp13f13, kp14f13, kp15f13, kp16f13⟩ := h13
              refine hv8 (show 1 ≤ ivb1 a0 11 ∧ ivb1 a0 11 ≤ 100 from Wb1.int ty84 11) (show 1 ≤ ivb1 a0 12 ∧ ivb1 a0 12 ≤ 50 from Wb1.int ty84 12) (show (-2147483648) ≤ ivb1 a0 13 ∧ ivb1 a0 13 ≤ 2147483647 from Wb1.int ty84 13) (show (-2147483648) ≤ ivb1 a0 14 ∧ ivb1 a0 14 ≤ 2147483647 from Wb1.int ty84 14) (show (-2147483648) ≤ ivb1 a0 15 ∧ ivb1 a0 15 ≤ 2147483647 from Wb1.int ty84 15) (show (-2147483648) ≤ ivb1 a0 16 ∧ ivb1 a0 16 ≤ 2147483647 from Wb1.int ty84 16) (Fb1.call Xb1 fl13 rfl) (MRK.call mrb1 Wb1 skb1 XT.refl fl13 rfl rfl) (fun ri47 ri48 ri49 ri50 ri51 ri52 F9 mr9 => ?_)
              refine c_st (st2 := [.int (iI f13)]) rfl ?_
              refine hv13 (show ivh13 a0 11 = ivb1 a0 11 from kp11f13) (show ivh13 a0 12 = ivb1 a0 12 from kp12f13) (show ivh13 a0 13 = ivb1 a0 13 from kp13f13) (show ivh13 a0 14 = ivb1 a0 14 from kp14f13) (show ivh13 a0 15 = ivb1 a0 15 from kp15f13) (show ivh13 a0 16 = ivb1 a0 16 from kp16f13) (show f13 = -1 from exf13) (show 1 ≤ ivh13 a0 11 ∧ ivh13 a0 11 ≤ 100 from W13.int ty84 11) (show 1 ≤ ivh13 a0 12 ∧ ivh13 a0 12 ≤ 50 from W13.int ty84 12) (show (-2147483648) ≤ ivh13 a0 13 ∧ ivh13 a0 13 ≤ 2147483647 from W13.int ty84 13) (show (-2147483648) ≤ ivh13 a0 14 ∧ ivh13 a0 14 ≤ 2147483647 from W13.int ty84 14) (show (-2147483648) ≤ ivh13 a0 15 ∧ ivh13 a0 15 ≤ 2147483647 from W13.int ty84 15) (show (-2147483648) ≤ ivh13 a0 16 ∧ ivh13 a0 16 ≤ 2147483647 from W13.int ty84 16) (fun gk11f13 gk12f13 gk13f13 gk14f13 gk15f13 gk16f13 gf13 ri53 ri54 ri55 ri56 ri57 ri58 => ?_)
              exact c_iret C dX11_read_69 rfl (by decide) (rom0 hph pl6 (by decide)) ⟨f13, rfl, Xb1, F9, W13, ⟨by omega, by omega⟩, trivial, (gk11f13.trans hkp11), (gk12f13.trans hkp12), (gk13f13.trans hkp13), (gk14f13.trans hkp14), (gk15f13.trans hkp15), (gk16f13.trans hkp16), (show rvb1 a0 9 = rv a0 9 from hkr9), (show rvb1 a0 10 = rv a0 10 from hkr10)⟩
      refine hv6 (show 1 ≤ iv a0 11 ∧ iv a0 11 ≤ 100 from hW.int t_a0 11) (show 1 ≤ iv a0 12 ∧ iv a0 12 ≤ 50 from hW.int t_a0 12) (show (-2147483648) ≤ iv a0 13 ∧ iv a0 13 ≤ 2147483647 from hW.int t_a0 13) (show (-2147483648) ≤ iv a0 14 ∧ iv a0 14 ≤ 2147483647 from hW.int t_a0 14) (show (-2147483648) ≤ iv a0 15 ∧ iv a0 15 ≤ 2147483647 from hW.int t_a0 15) (show (-2147483648) ≤ iv a0 16 ∧ iv a0 16 ≤ 2147483647 from hW.int t_a0 16) (fun ri59 ri60 ri61 ri62 ri63 ri64 => ?_)
      refine c_lv (lv2 := [(5, .int (iI 0)), (4, .ref ob1), (0, .ref a0), (1, .int (iI i)), (2, .int (iI x)), (3, .int (iI n))]) [0, 1, 2, 3, 4, 5] rfl ?_
      exact Lp1 2147483650 0 _ _ _ _ _ (by omega) hX0 hW hF0  (by omega) rfl rfl rfl rfl rfl rfl rfl rfl
    · refine c_aload_n (j := 1) (x := a0) C dX11_read_25 rfl ?_
      refine c_iconst C dX11_read_26 ?_
      refine d_callV (As := [.int (iI 5)]) (rest := []) C hM (C_refuse (a0 := a0) (x := 5) hW hS t_a0 ⟨by decide, by decide⟩ ) dX11_read_27 kV_X11_102 rfl t_a0 rfl rfl (by decide) ck_12 rfl (Nat.le_of_ble_eq_true rfl) ⟨(Nat.le_of_ble_eq_true rfl), (Nat.le_of_ble_eq_true rfl)⟩ hph hph (show 0 + 0 = 0 from rfl) (by decide) (fun rh14 Lh14 clh14 lnh14 ivh14 rvh14 h14 => ?_)
      obtain ⟨f14, rfl, rfl, rfl, rfl, rfl, fl14, W14, rgf14, exf14, kp11f14, kp12f14, kp13f14, kp14f14, kp15f14, kp16f14⟩ := h14
      refine hv8 (show 1 ≤ iv a0 11 ∧ iv a0 11 ≤ 100 from hW.int t_a0 11) (show 1 ≤ iv a0 12 ∧ iv a0 12 ≤ 50 from hW.int t_a0 12) (show (-2147483648) ≤ iv a0 13 ∧ iv a0 13 ≤ 2147483647 from hW.int t_a0 13) (show (-2147483648) ≤ iv a0 14 ∧ iv a0 14 ≤ 2147483647 from hW.int t_a0 14) (show (-2147483648) ≤ iv a0 15 ∧ iv a0 15 ≤ 2147483647 from hW.int t_a0 15) (show (-2147483648) ≤ iv a0 16 ∧ iv a0 16 ≤ 2147483647 from hW.int t_a0 16) (hF0.call hX0 fl14 rfl) (MRK.call hmr hW hS XT.refl fl14 rfl rfl) (fun ri65 ri66 ri67 ri68 ri69 ri70 F10 mr10 => ?_)
      refine c_st (st2 := [.int (iI f14)]) rfl ?_
      refine hv13 (show ivh14 a0 11 = iv a0 11 from kp11f14) (show ivh14 a0 12 = iv a0 12 from kp12f14) (show ivh14 a0 13 = iv a0 13 from kp13f14) (show ivh14 a0 14 = iv a0 14 from kp14f14) (show ivh14 a0 15 = iv a0 15 from kp15f14) (show ivh14 a0 16 = iv a0 16 from kp16f14) (show f14 = -1 from exf14) (show 1 ≤ ivh14 a0 11 ∧ ivh14 a0 11 ≤ 100 from W14.int t_a0 11) (show 1 ≤ ivh14 a0 12 ∧ ivh14 a0 12 ≤ 50 from W14.int t_a0 12) (show (-2147483648) ≤ ivh14 a0 13 ∧ ivh14 a0 13 ≤ 2147483647 from W14.int t_a0 13) (show (-2147483648) ≤ ivh14 a0 14 ∧ ivh14 a0 14 ≤ 2147483647 from W14.int t_a0 14) (show (-2147483648) ≤ ivh14 a0 15 ∧ ivh14 a0 15 ≤ 2147483647 from W14.int t_a0 15) (show (-2147483648) ≤ ivh14 a0 16 ∧ ivh14 a0 16 ≤ 2147483647 from W14.int t_a0 16) (fun gk11f14 gk12f14 gk13f14 gk14f14 gk15f14 gk16f14 gf14 ri71 ri72 ri73 ri74 ri75 ri76 => ?_)
      exact c_iret C dX11_read_30 rfl (by decide) (rom0 hph hph (by decide)) ⟨f14, rfl, hX0, F10, W14, ⟨by omega, by omega⟩, trivial, gk11f14, gk12f14, gk13f14, gk14f14, gk15f14, gk16f14, rfl, rfl⟩
  · subst oq1
    refine c_lv (lv2 := [(4, .null), (0, .ref a0), (1, .int (iI i)), (2, .int (iI x)), (3, .int (iI n))]) [0, 1, 2, 3, 4] rfl ?_
    refine c_st (st2 := []) rfl ?_
    refine c_aload_n (j := 1) (x := a0) C dX11_read_15 rfl ?_
    refine c_iconst C dX11_read_16 ?_
    refine d_callV (As := [.int (iI 3)]) (rest := []) C hM (C_refuse (a0 := a0) (x := 3) hW hS t_a0 ⟨by decide, by decide⟩ ) dX11_read_17 kV_X11_102 rfl t_a0 rfl rfl (by decide) ck_12 rfl (Nat.le_of_ble_eq_true rfl) ⟨(Nat.le_of_ble_eq_true rfl), (Nat.le_of_ble_eq_true rfl)⟩ hph hph (show 0 + 0 = 0 from rfl) (by decide) (fun rh15 Lh15 clh15 lnh15 ivh15 rvh15 h15 => ?_)
    obtain ⟨f15, rfl, rfl, rfl, rfl, rfl, fl15, W15, rgf15, exf15, kp11f15, kp12f15, kp13f15, kp14f15, kp15f15, kp16f15⟩ := h15
    refine hv8 (show 1 ≤ iv a0 11 ∧ iv a0 11 ≤ 100 from hW.int t_a0 11) (show 1 ≤ iv a0 12 ∧ iv a0 12 ≤ 50 from hW.int t_a0 12) (show (-2147483648) ≤ iv a0 13 ∧ iv a0 13 ≤ 2147483647 from hW.int t_a0 13) (show (-2147483648) ≤ iv a0 14 ∧ iv a0 14 ≤ 2147483647 from hW.int t_a0 14) (show (-2147483648) ≤ iv a0 15 ∧ iv a0 15 ≤ 2147483647 from hW.int t_a0 15) (show (-2147483648) ≤ iv a0 16 ∧ iv a0 16 ≤ 2147483647 from hW.int t_a0 16) (hF0.call hX0 fl15 rfl) (MRK.call hmr hW hS XT.refl fl15 rfl rfl) (fun ri77 ri78 ri79 ri80 ri81 ri82 F11 mr11 => ?_)
    refine c_st (st2 := [.int (iI f15)]) rfl ?_
    refine hv13 (show ivh15 a0 11 = iv a0 11 from kp11f15) (show ivh15 a0 12 = iv a0 12 from kp12f15) (show ivh15 a0 13 = iv a0 13 from kp13f15) (show ivh15 a0 14 = iv a0 14 from kp14f15) (show ivh15 a0 15 = iv a0 15 from kp15f15) (show ivh15 a0 16 = iv a0 16 from kp16f15) (show f15 = -1 from exf15) (show 1 ≤ ivh15 a0 11 ∧ ivh15 a0 11 ≤ 100 from W15.int t_a0 11) (show 1 ≤ ivh15 a0 12 ∧ ivh15 a0 12 ≤ 50 from W15.int t_a0 12) (show (-2147483648) ≤ ivh15 a0 13 ∧ ivh15 a0 13 ≤ 2147483647 from W15.int t_a0 13) (show (-2147483648) ≤ ivh15 a0 14 ∧ ivh15 a0 14 ≤ 2147483647 from W15.int t_a0 14) (show (-2147483648) ≤ ivh15 a0 15 ∧ ivh15 a0 15 ≤ 2147483647 from W15.int t_a0 15) (show (-2147483648) ≤ ivh15 a0 16 ∧ ivh15 a0 16 ≤ 2147483647 from W15.int t_a0 16) (fun gk11f15 gk12f15 gk13f15 gk14f15 gk15f15 gk16f15 gf15 ri83 ri84 ri85 ri86 ri87 ri88 => ?_)
    exact c_iret C dX11_read_20 rfl (by decide) (rom0 hph hph (by decide)) ⟨f15, rfl, hX0, F11, W15, ⟨by omega, by omega⟩, trivial, gk11f15, gk12f15, gk13f15, gk14f15, gk15f15, gk16f15, rfl, rfl⟩
set_option maxHeartbeats 4000000 in
set_option maxRecDepth 100000 in
theorem C_letter {l : Launch} {G : GT} {mi : Nat} {sk : Nat → Nat} {L : List Nat} {cl ln : Nat → Nat} {iv : Nat → Nat → Int} {rv : Nat → Nat → Option Nat}  {a0 : Nat} {i : Int} (hW : WT (g0 G) sk L cl ln iv rv) (hS : SKL sk L cl) (t_a0 : ty L cl a0 1) (h_i : -2147483648 ≤ i ∧ i ≤ 2147483647)  : Mc l G mi (Phi (g0 G) sk) PHM yX11_letter cX11_letter 2 (some .int) 1 [.ref a0, .int (iI i)] L cl ln iv rv 0 (fun v L2 cl2 ln2 iv2 rv2 => ∃ f : Int, v = some (.int (iI f)) ∧ L = L2 ∧ cl = cl2 ∧ ln = ln2 ∧ rv = rv2 ∧ fT [1] L cl iv rv iv2 rv2 ∧ WT (g0 G) sk L2 cl2 ln2 iv2 rv2 ∧ (-2147483648 ≤ f ∧ f ≤ 2147483647) ∧ (True) ∧ iv2 a0 11 = iv a0 11 ∧ iv2 a0 12 = iv a0 12 ∧ iv2 a0 13 = iv a0 13 ∧ iv2 a0 14 = iv a0 14 ∧ iv2 a0 15 = iv a0 15 ∧ iv2 a0 16 = iv a0 16) := by
  refine Mc.mk (by decide) (Nat.le_of_ble_eq_true rfl) ?_
  intro p e s m args below meth c A C hM
  refine hv21 (Phi.le hW hS) (show ty L cl (sk 2) 2 from ⟨(hS 2 rfl).1, by rw [(hS 2 rfl).2]; rfl⟩) (show ty L cl (sk 3) 3 from ⟨(hS 3 rfl).1, by rw [(hS 3 rfl).2]; rfl⟩) (show ty L cl (sk 4) 4 from ⟨(hS 4 rfl).1, by rw [(hS 4 rfl).2]; rfl⟩) (show ty L cl (sk 5) 5 from ⟨(hS 5 rfl).1, by rw [(hS 5 rfl).2]; rfl⟩) (show ty L cl (sk 6) 6 from ⟨(hS 6 rfl).1, by rw [(hS 6 rfl).2]; rfl⟩) (show ty L cl (sk 7) 7 from ⟨(hS 7 rfl).1, by rw [(hS 7 rfl).2]; rfl⟩) (show ty L cl (sk 8) 8 from ⟨(hS 8 rfl).1, by rw [(hS 8 rfl).2]; rfl⟩) (show ty L cl (sk 9) 9 from ⟨(hS 9 rfl).1, by rw [(hS 9 rfl).2]; rfl⟩) (show ty L cl (sk 10) 10 from ⟨(hS 10 rfl).1, by rw [(hS 10 rfl).2]; rfl⟩) (show ty L cl (sk 13) 13 from ⟨(hS 13 rfl).1, by rw [(hS 13 rfl).2]; rfl⟩) (show ty L cl (sk 14) 14 from ⟨(hS 14 rfl).1, by rw [(hS 14 rfl).2]; rfl⟩) (show ty L cl (sk 15) 15 from ⟨(hS 15 rfl).1, by rw [(hS 15 rfl).2]; rfl⟩) (show ty L cl (sk 16) 16 from ⟨(hS 16 rfl).1, by rw [(hS 16 rfl).2]; rfl⟩) (show ty L cl (sk 17) 17 from ⟨(hS 17 rfl).1, by rw [(hS 17 rfl).2]; rfl⟩) (show ty L cl (sk 22) 22 from ⟨(hS 22 rfl).1, by rw [(hS 22 rfl).2]; rfl⟩) (show ty L cl (sk 23) 23 from ⟨(hS 23 rfl).1, by rw [(hS 23 rfl).2]; rfl⟩) (show ty L cl (sk 24) 24 from ⟨(hS 24 rfl).1, by rw [(hS 24 rfl).2]; rfl⟩) (show ty L cl (sk 25) 25 from ⟨(hS 25 rfl).1, by rw [(hS 25 rfl).2]; rfl⟩) (show XT L cl ln L cl ln from XT.refl) (show fT [1] L cl iv rv iv rv from fT.refl) (fun hph tsk2 tsk3 tsk4 tsk5 tsk6 tsk7 tsk8 tsk9 tsk10 tsk13 tsk14 tsk15 tsk16 tsk17 tsk22 tsk23 tsk24 tsk25 hX0 hF0 => ?_)
  refine c_iload_n (j := 1) C dX11_letter_0 rfl ?_
  refine c_if_lt (tgt := 15) C ⟨by omega, by omega⟩ dX11_letter_1 (by decide) (fun c1 => ?_) (fun c1 => ?_)
  · refine c_aload_n (j := 0) (x := a0) C dX11_letter_15 rfl ?_
    refine c_iconst C dX11_letter_16 ?_
    refine d_callV (As := [.int (iI 2)]) (rest := []) C hM (C_refuse (a0 := a0) (x := 2) hW hS t_a0 ⟨by decide, by decide⟩ ) dX11_letter_17 kV_X11_102 rfl t_a0 rfl rfl (by decide) ck_12 rfl (Nat.le_of_ble_eq_true rfl) ⟨(Nat.le_of_ble_eq_true rfl), (Nat.le_of_ble_eq_true rfl)⟩ hph hph (show 0 + 0 = 0 from rfl) (by decide) (fun rh1 Lh1 clh1 lnh1 ivh1 rvh1 h1 => ?_)
    obtain ⟨f1, rfl, rfl, rfl, rfl, rfl, fl1, W1, rgf1, exf1, kp11f1, kp12f1, kp13f1, kp14f1, kp15f1, kp16f1⟩ := h1
    refine hv7 (show 1 ≤ iv a0 11 ∧ iv a0 11 ≤ 100 from hW.int t_a0 11) (show 1 ≤ iv a0 12 ∧ iv a0 12 ≤ 50 from hW.int t_a0 12) (show (-2147483648) ≤ iv a0 13 ∧ iv a0 13 ≤ 2147483647 from hW.int t_a0 13) (show (-2147483648) ≤ iv a0 14 ∧ iv a0 14 ≤ 2147483647 from hW.int t_a0 14) (show (-2147483648) ≤ iv a0 15 ∧ iv a0 15 ≤ 2147483647 from hW.int t_a0 15) (show (-2147483648) ≤ iv a0 16 ∧ iv a0 16 ≤ 2147483647 from hW.int t_a0 16) (hF0.call hX0 fl1 rfl) (fun ri1 ri2 ri3 ri4 ri5 ri6 F1 => ?_)
    refine c_st (st2 := [.int (iI f1)]) rfl ?_
    refine hv7 (show ivh1 a0 11 = iv a0 11 from kp11f1) (show ivh1 a0 12 = iv a0 12 from kp12f1) (show ivh1 a0 13 = iv a0 13 from kp13f1) (show ivh1 a0 14 = iv a0 14 from kp14f1) (show ivh1 a0 15 = iv a0 15 from kp15f1) (show ivh1 a0 16 = iv a0 16 from kp16f1) (show f1 = -1 from exf1) (fun gk11f1 gk12f1 gk13f1 gk14f1 gk15f1 gk16f1 gf1 => ?_)
    refine c_goto (tgt := 35) C dX11_letter_20 (by decide) ?_
    refine hv6 (show 1 ≤ ivh1 a0 11 ∧ ivh1 a0 11 ≤ 100 from W1.int t_a0 11) (show 1 ≤ ivh1 a0 12 ∧ ivh1 a0 12 ≤ 50 from W1.int t_a0 12) (show (-2147483648) ≤ ivh1 a0 13 ∧ ivh1 a0 13 ≤ 2147483647 from W1.int t_a0 13) (show (-2147483648) ≤ ivh1 a0 14 ∧ ivh1 a0 14 ≤ 2147483647 from W1.int t_a0 14) (show (-2147483648) ≤ ivh1 a0 15 ∧ ivh1 a0 15 ≤ 2147483647 from W1.int t_a0 15) (show (-2147483648) ≤ ivh1 a0 16 ∧ ivh1 a0 16 ≤ 2147483647 from W1.int t_a0 16) (fun ri7 ri8 ri9 ri10 ri11 ri12 => ?_)
    exact c_iret C dX11_letter_35 rfl (by decide) (rom0 hph hph (by decide)) ⟨f1, rfl, rfl, rfl, rfl, rfl, F1, W1, ⟨by omega, by omega⟩, trivial, gk11f1, gk12f1, gk13f1, gk14f1, gk15f1, gk16f1⟩
  · refine c_iload_n (j := 1) C dX11_letter_4 rfl ?_
    refine c_aload_n (j := 0) (x := a0) C dX11_letter_5 rfl ?_
    obtain ⟨rb1, rq1, trb1⟩ := hW.ref t_a0 2 rfl rfl rfl
    have erb1 := hW.sk trb1 (by decide) rfl
    subst erb1
    refine c_getr (k := 2) C ck_12 dX11_letter_6 w2_46 (by decide) t_a0 rfl rfl (by decide) rfl rq1 ?_
    refine c_st (st2 := [.ref (sk 4), .int (iI i)]) rfl ?_
    have ri13 : 0 ≤ iv (sk 4) 2 ∧ iv (sk 4) 2 ≤ 4000 := hW.int tsk4 2
    refine c_get (k := 2) C ck_2 dX11_letter_9 w1_44 (by decide) tsk4 rfl rfl (by decide) rfl ?_
    refine c_icmp_lt (tgt := 23) C ⟨by omega, by omega⟩ (r32_c (lo := 0) (hi := 4000) ri13.1 ri13.2 (by decide) (by decide)) dX11_letter_12 (by decide) (fun c2 => ?_) (fun c2 => ?_)
    · refine c_aload_n (j := 0) (x := a0) C dX11_letter_23 rfl ?_
      refine c_aload_n (j := 0) (x := a0) C dX11_letter_24 rfl ?_
      refine c_getr (k := 2) C ck_12 dX11_letter_25 w2_46 (by decide) t_a0 rfl rfl (by decide) rfl rq1 ?_
      refine c_st (st2 := [.ref (sk 4), .ref a0]) rfl ?_
      refine c_iload_n (j := 1) C dX11_letter_28 rfl ?_
      refine d_callV (As := [.int (iI i)]) (rest := [.ref a0]) C hM (C_at_4 (a0 := (sk 4)) (i := i) hW hS tsk4 (by omega) ) dX11_letter_29 kV_X11_224 rfl tsk4 rfl rfl (by decide) ck_2 rfl (Nat.le_of_ble_eq_true rfl) ⟨(Nat.le_of_ble_eq_true rfl), (Nat.le_of_ble_eq_true rfl)⟩ hph hph (show 0 + 0 = 0 from rfl) (by decide) (fun rh2 Lh2 clh2 lnh2 ivh2 rvh2 h2 => ?_)
      obtain ⟨f2, rfl, rfl, rfl, rfl, rfl, rfl, rgf2, exf2⟩ := h2
      refine c_st (st2 := [.int (iI f2), .ref a0]) rfl ?_
      have gf2 : ((0 ≤ i ∧ i < iv (sk 4) 2) ∨ f2 = 0) ∧ ∀ ss, CT iv rv (sk 4) ss → 0 ≤ i → i < iv (sk 4) 2 → f2 = ss i.toNat := exf2
      refine d_callV (As := [.int (iI f2)]) (rest := []) C hM (C_done (a0 := a0) (x := f2) hW hS t_a0 (by omega) ) dX11_letter_32 kV_X11_109 rfl t_a0 rfl rfl (by decide) ck_12 rfl (Nat.le_of_ble_eq_true rfl) ⟨(Nat.le_of_ble_eq_true rfl), (Nat.le_of_ble_eq_true rfl)⟩ hph hph (show 0 + 0 = 0 from rfl) (by decide) (fun rh3 Lh3 clh3 lnh3 ivh3 rvh3 h3 => ?_)
      obtain ⟨f3, rfl, rfl, rfl, rfl, rfl, fl3, W3, rgf3, exf3, kp11f3, kp12f3, kp13f3, kp14f3, kp15f3, kp16f3⟩ := h3
      refine hv7 (show 1 ≤ iv a0 11 ∧ iv a0 11 ≤ 100 from hW.int t_a0 11) (show 1 ≤ iv a0 12 ∧ iv a0 12 ≤ 50 from hW.int t_a0 12) (show (-2147483648) ≤ iv a0 13 ∧ iv a0 13 ≤ 2147483647 from hW.int t_a0 13) (show (-2147483648) ≤ iv a0 14 ∧ iv a0 14 ≤ 2147483647 from hW.int t_a0 14) (show (-2147483648) ≤ iv a0 15 ∧ iv a0 15 ≤ 2147483647 from hW.int t_a0 15) (show (-2147483648) ≤ iv a0 16 ∧ iv a0 16 ≤ 2147483647 from hW.int t_a0 16) (hF0.call hX0 fl3 rfl) (fun ri14 ri15 ri16 ri17 ri18 ri19 F2 => ?_)
      refine c_st (st2 := [.int (iI f3)]) rfl ?_
      refine hv13 (show ivh3 a0 11 = iv a0 11 from kp11f3) (show ivh3 a0 12 = iv a0 12 from kp12f3) (show ivh3 a0 13 = iv a0 13 from kp13f3) (show ivh3 a0 14 = iv a0 14 from kp14f3) (show ivh3 a0 15 = iv a0 15 from kp15f3) (show ivh3 a0 16 = iv a0 16 from kp16f3) (show f3 = f2 from exf3) (show 1 ≤ ivh3 a0 11 ∧ ivh3 a0 11 ≤ 100 from W3.int t_a0 11) (show 1 ≤ ivh3 a0 12 ∧ ivh3 a0 12 ≤ 50 from W3.int t_a0 12) (show (-2147483648) ≤ ivh3 a0 13 ∧ ivh3 a0 13 ≤ 2147483647 from W3.int t_a0 13) (show (-2147483648) ≤ ivh3 a0 14 ∧ ivh3 a0 14 ≤ 2147483647 from W3.int t_a0 14) (show (-2147483648) ≤ ivh3 a0 15 ∧ ivh3 a0 15 ≤ 2147483647 from W3.int t_a0 15) (show (-2147483648) ≤ ivh3 a0 16 ∧ ivh3 a0 16 ≤ 2147483647 from W3.int t_a0 16) (fun gk11f3 gk12f3 gk13f3 gk14f3 gk15f3 gk16f3 gf3 ri20 ri21 ri22 ri23 ri24 ri25 => ?_)
      exact c_iret C dX11_letter_35 rfl (by decide) (rom0 hph hph (by decide)) ⟨f3, rfl, rfl, rfl, rfl, rfl, F2, W3, ⟨by omega, by omega⟩, trivial, gk11f3, gk12f3, gk13f3, gk14f3, gk15f3, gk16f3⟩
    · refine c_aload_n (j := 0) (x := a0) C dX11_letter_15 rfl ?_
      refine c_iconst C dX11_letter_16 ?_
      refine d_callV (As := [.int (iI 2)]) (rest := []) C hM (C_refuse (a0 := a0) (x := 2) hW hS t_a0 ⟨by decide, by decide⟩ ) dX11_letter_17 kV_X11_102 rfl t_a0 rfl rfl (by decide) ck_12 rfl (Nat.le_of_ble_eq_true rfl) ⟨(Nat.le_of_ble_eq_true rfl), (Nat.le_of_ble_eq_true rfl)⟩ hph hph (show 0 + 0 = 0 from rfl) (by decide) (fun rh4 Lh4 clh4 lnh4 ivh4 rvh4 h4 => ?_)
      obtain ⟨f4, rfl, rfl, rfl, rfl, rfl, fl4, W4, rgf4, exf4, kp11f4, kp12f4, kp13f4, kp14f4, kp15f4, kp16f4⟩ := h4
      refine hv7 (show 1 ≤ iv a0 11 ∧ iv a0 11 ≤ 100 from hW.int t_a0 11) (show 1 ≤ iv a0 12 ∧ iv a0 12 ≤ 50 from hW.int t_a0 12) (show (-2147483648) ≤ iv a0 13 ∧ iv a0 13 ≤ 2147483647 from hW.int t_a0 13) (show (-2147483648) ≤ iv a0 14 ∧ iv a0 14 ≤ 2147483647 from hW.int t_a0 14) (show (-2147483648) ≤ iv a0 15 ∧ iv a0 15 ≤ 2147483647 from hW.int t_a0 15) (show (-2147483648) ≤ iv a0 16 ∧ iv a0 16 ≤ 2147483647 from hW.int t_a0 16) (hF0.call hX0 fl4 rfl) (fun ri26 ri27 ri28 ri29 ri30 ri31 F3 => ?_)
      refine c_st (st2 := [.int (iI f4)]) rfl ?_
      refine hv7 (show ivh4 a0 11 = iv a0 11 from kp11f4) (show ivh4 a0 12 = iv a0 12 from kp12f4) (show ivh4 a0 13 = iv a0 13 from kp13f4) (show ivh4 a0 14 = iv a0 14 from kp14f4) (show ivh4 a0 15 = iv a0 15 from kp15f4) (show ivh4 a0 16 = iv a0 16 from kp16f4) (show f4 = -1 from exf4) (fun gk11f4 gk12f4 gk13f4 gk14f4 gk15f4 gk16f4 gf4 => ?_)
      refine c_goto (tgt := 35) C dX11_letter_20 (by decide) ?_
      refine hv6 (show 1 ≤ ivh4 a0 11 ∧ ivh4 a0 11 ≤ 100 from W4.int t_a0 11) (show 1 ≤ ivh4 a0 12 ∧ ivh4 a0 12 ≤ 50 from W4.int t_a0 12) (show (-2147483648) ≤ ivh4 a0 13 ∧ ivh4 a0 13 ≤ 2147483647 from W4.int t_a0 13) (show (-2147483648) ≤ ivh4 a0 14 ∧ ivh4 a0 14 ≤ 2147483647 from W4.int t_a0 14) (show (-2147483648) ≤ ivh4 a0 15 ∧ ivh4 a0 15 ≤ 2147483647 from W4.int t_a0 15) (show (-2147483648) ≤ ivh4 a0 16 ∧ ivh4 a0 16 ≤ 2147483647 from W4.int t_a0 16) (fun ri32 ri33 ri34 ri35 ri36 ri37 => ?_)
      exact c_iret C dX11_letter_35 rfl (by decide) (rom0 hph hph (by decide)) ⟨f4, rfl, rfl, rfl, rfl, rfl, F3, W4, ⟨by omega, by omega⟩, trivial, gk11f4, gk12f4, gk13f4, gk14f4, gk15f4, gk16f4⟩
set_option maxHeartbeats 4000000 in
set_option maxRecDepth 100000 in
theorem C_more {l : Launch} {G : GT} {mi : Nat} {sk : Nat → Nat} {L : List Nat} {cl ln : Nat → Nat} {iv : Nat → Nat → Int} {rv : Nat → Nat → Option Nat}  {a0 : Nat} (hW : WT (g0 G) sk L cl ln iv rv) (hS : SKL sk L cl) (t_a0 : ty L cl a0 1)  : Mc l G mi (Phi (g0 G) sk) PHM yX11_more cX11_more 1 (some .int) 0 [.ref a0] L cl ln iv rv 0 (fun v L2 cl2 ln2 iv2 rv2 => ∃ f : Int, v = some (.int (iI f)) ∧ L = L2 ∧ cl = cl2 ∧ ln = ln2 ∧ iv = iv2 ∧ rv = rv2 ∧ (-2147483648 ≤ f ∧ f ≤ 2147483647) ∧ (True)) := by
  refine Mc.mk (by decide) (Nat.le_of_ble_eq_true rfl) ?_
  intro p e s m args below meth c A C hM
  refine hv21 (Phi.le hW hS) (show ty L cl (sk 2) 2 from ⟨(hS 2 rfl).1, by rw [(hS 2 rfl).2]; rfl⟩) (show ty L cl (sk 3) 3 from ⟨(hS 3 rfl).1, by rw [(hS 3 rfl).2]; rfl⟩) (show ty L cl (sk 4) 4 from ⟨(hS 4 rfl).1, by rw [(hS 4 rfl).2]; rfl⟩) (show ty L cl (sk 5) 5 from ⟨(hS 5 rfl).1, by rw [(hS 5 rfl).2]; rfl⟩) (show ty L cl (sk 6) 6 from ⟨(hS 6 rfl).1, by rw [(hS 6 rfl).2]; rfl⟩) (show ty L cl (sk 7) 7 from ⟨(hS 7 rfl).1, by rw [(hS 7 rfl).2]; rfl⟩) (show ty L cl (sk 8) 8 from ⟨(hS 8 rfl).1, by rw [(hS 8 rfl).2]; rfl⟩) (show ty L cl (sk 9) 9 from ⟨(hS 9 rfl).1, by rw [(hS 9 rfl).2]; rfl⟩) (show ty L cl (sk 10) 10 from ⟨(hS 10 rfl).1, by rw [(hS 10 rfl).2]; rfl⟩) (show ty L cl (sk 13) 13 from ⟨(hS 13 rfl).1, by rw [(hS 13 rfl).2]; rfl⟩) (show ty L cl (sk 14) 14 from ⟨(hS 14 rfl).1, by rw [(hS 14 rfl).2]; rfl⟩) (show ty L cl (sk 15) 15 from ⟨(hS 15 rfl).1, by rw [(hS 15 rfl).2]; rfl⟩) (show ty L cl (sk 16) 16 from ⟨(hS 16 rfl).1, by rw [(hS 16 rfl).2]; rfl⟩) (show ty L cl (sk 17) 17 from ⟨(hS 17 rfl).1, by rw [(hS 17 rfl).2]; rfl⟩) (show ty L cl (sk 22) 22 from ⟨(hS 22 rfl).1, by rw [(hS 22 rfl).2]; rfl⟩) (show ty L cl (sk 23) 23 from ⟨(hS 23 rfl).1, by rw [(hS 23 rfl).2]; rfl⟩) (show ty L cl (sk 24) 24 from ⟨(hS 24 rfl).1, by rw [(hS 24 rfl).2]; rfl⟩) (show ty L cl (sk 25) 25 from ⟨(hS 25 rfl).1, by rw [(hS 25 rfl).2]; rfl⟩) (show XT L cl ln L cl ln from XT.refl) (show fT [] L cl iv rv iv rv from fT.refl) (fun hph tsk2 tsk3 tsk4 tsk5 tsk6 tsk7 tsk8 tsk9 tsk10 tsk13 tsk14 tsk15 tsk16 tsk17 tsk22 tsk23 tsk24 tsk25 hX0 hF0 => ?_)
  refine c_aload_n (j := 0) (x := a0) C dX11_more_0 rfl ?_
  obtain ⟨rb1, rq1, trb1⟩ := hW.ref t_a0 8 rfl rfl rfl
  have erb1 := hW.sk trb1 (by decide) rfl
  subst erb1
  refine c_getr (k := 8) C ck_12 dX11_more_1 w2_52 (by decide) t_a0 rfl rfl (by decide) rfl rq1 ?_
  refine c_st (st2 := [.ref (sk 17)]) rfl ?_
  have ri1 : 0 ≤ iv (sk 17) 6 ∧ iv (sk 17) 6 ≤ 1 := hW.int tsk17 6
  refine c_get (k := 6) C ck_5 dX11_more_4 w1_237 (by decide) tsk17 rfl rfl (by decide) rfl ?_
  refine c_if_eq (tgt := 14) C (r32_c (lo := 0) (hi := 1) ri1.1 ri1.2 (by decide) (by decide)) dX11_more_7 (by decide) (fun c1 => ?_) (fun c1 => ?_)
  · refine c_iconst C dX11_more_14 ?_
    exact c_iret C dX11_more_15 rfl (by decide) (rom0 hph hph (by decide)) ⟨0, rfl, rfl, rfl, rfl, rfl, rfl, ⟨by decide, by decide⟩, trivial⟩
  · refine c_iconst C dX11_more_10 ?_
    refine c_goto (tgt := 15) C dX11_more_11 (by decide) ?_
    exact c_iret C dX11_more_15 rfl (by decide) (rom0 hph hph (by decide)) ⟨1, rfl, rfl, rfl, rfl, rfl, rfl, ⟨by decide, by decide⟩, trivial⟩
set_option maxHeartbeats 4000000 in
set_option maxRecDepth 100000 in
theorem C_judge {l : Launch} {G : GT} {mi : Nat} {sk : Nat → Nat} {L : List Nat} {cl ln : Nat → Nat} {iv : Nat → Nat → Int} {rv : Nat → Nat → Option Nat}  {a0 : Nat} {i : Int} (hW : WT (g0 G) sk L cl ln iv rv) (hS : SKL sk L cl) (t_a0 : ty L cl a0 1) (h_i : -2147483648 ≤ i ∧ i ≤ 2147483647) (hmr : MRK sk cl iv rv) : Mc l G mi (Phi (g0 G) sk) PHM yX11_judge cX11_judge 4 (some .int) 10 [.ref a0, .int (iI i)] L cl ln iv rv 0 (fun v L2 cl2 ln2 iv2 rv2 => ∃ f : Int, v = some (.int (iI f)) ∧ XT L cl ln L2 cl2 ln2 ∧ fT [1, 24, 1002, 25, 1003, 6, 36, 7, 37] L cl iv rv iv2 rv2 ∧ WT (g0 G) sk L2 cl2 ln2 iv2 rv2 ∧ (-2147483648 ≤ f ∧ f ≤ 2147483647) ∧ (True) ∧ iv2 a0 11 = iv a0 11 ∧ iv2 a0 12 = iv a0 12 ∧ iv2 a0 13 = iv a0 13 ∧ iv2 a0 14 = iv a0 14 ∧ iv2 a0 15 = iv a0 15 ∧ iv2 a0 16 = iv a0 16 ∧ rv2 a0 9 = rv a0 9 ∧ rv2 a0 10 = rv a0 10) := by
  refine Mc.mk (by decide) (Nat.le_of_ble_eq_true rfl) ?_
  intro p e s m args below meth c A C hM
  refine hv21 (Phi.le hW hS) (show ty L cl (sk 2) 2 from ⟨(hS 2 rfl).1, by rw [(hS 2 rfl).2]; rfl⟩) (show ty L cl (sk 3) 3 from ⟨(hS 3 rfl).1, by rw [(hS 3 rfl).2]; rfl⟩) (show ty L cl (sk 4) 4 from ⟨(hS 4 rfl).1, by rw [(hS 4 rfl).2]; rfl⟩) (show ty L cl (sk 5) 5 from ⟨(hS 5 rfl).1, by rw [(hS 5 rfl).2]; rfl⟩) (show ty L cl (sk 6) 6 from ⟨(hS 6 rfl).1, by rw [(hS 6 rfl).2]; rfl⟩) (show ty L cl (sk 7) 7 from ⟨(hS 7 rfl).1, by rw [(hS 7 rfl).2]; rfl⟩) (show ty L cl (sk 8) 8 from ⟨(hS 8 rfl).1, by rw [(hS 8 rfl).2]; rfl⟩) (show ty L cl (sk 9) 9 from ⟨(hS 9 rfl).1, by rw [(hS 9 rfl).2]; rfl⟩) (show ty L cl (sk 10) 10 from ⟨(hS 10 rfl).1, by rw [(hS 10 rfl).2]; rfl⟩) (show ty L cl (sk 13) 13 from ⟨(hS 13 rfl).1, by rw [(hS 13 rfl).2]; rfl⟩) (show ty L cl (sk 14) 14 from ⟨(hS 14 rfl).1, by rw [(hS 14 rfl).2]; rfl⟩) (show ty L cl (sk 15) 15 from ⟨(hS 15 rfl).1, by rw [(hS 15 rfl).2]; rfl⟩) (show ty L cl (sk 16) 16 from ⟨(hS 16 rfl).1, by rw [(hS 16 rfl).2]; rfl⟩) (show ty L cl (sk 17) 17 from ⟨(hS 17 rfl).1, by rw [(hS 17 rfl).2]; rfl⟩) (show ty L cl (sk 22) 22 from ⟨(hS 22 rfl).1, by rw [(hS 22 rfl).2]; rfl⟩) (show ty L cl (sk 23) 23 from ⟨(hS 23 rfl).1, by rw [(hS 23 rfl).2]; rfl⟩) (show ty L cl (sk 24) 24 from ⟨(hS 24 rfl).1, by rw [(hS 24 rfl).2]; rfl⟩) (show ty L cl (sk 25) 25 from ⟨(hS 25 rfl).1, by rw [(hS 25 rfl).2]; rfl⟩) (show XT L cl ln L cl ln from XT.refl) (show fT [1, 24, 1002, 25, 1003, 6, 36, 7, 37] L cl iv rv iv rv from fT.refl) (fun hph tsk2 tsk3 tsk4 tsk5 tsk6 tsk7 tsk8 tsk9 tsk10 tsk13 tsk14 tsk15 tsk16 tsk17 tsk22 tsk23 tsk24 tsk25 hX0 hF0 => ?_)
  refine c_aload_n (j := 0) (x := a0) C dX11_judge_0 rfl ?_
  obtain ⟨rb1, rq1, trb1⟩ := hW.ref t_a0 4 rfl rfl rfl
  have erb1 := hW.sk trb1 (by decide) rfl
  subst erb1
  refine c_getr (k := 4) C ck_12 dX11_judge_1 w2_48 (by decide) t_a0 rfl rfl (by decide) rfl rq1 ?_
  refine c_st (st2 := [.ref (sk 13)]) rfl ?_
  refine c_iload_n (j := 1) C dX11_judge_4 rfl ?_
  have ri1 : 0 ≤ iv (sk 22) 2 ∧ iv (sk 22) 2 ≤ 30 := hW.int tsk22 2
  refine d_callV (As := [.int (iI i)]) (rest := []) C hM (C_alive (a0 := (sk 13)) (i := i) hW hS tsk13 (by omega) hmr) dX11_judge_5 kV_X11_131 rfl tsk13 rfl rfl (by decide) ck_11 rfl (Nat.le_of_ble_eq_true rfl) ⟨(Nat.le_of_ble_eq_true rfl), (Nat.le_of_ble_eq_true rfl)⟩ hph hph (show 0 + 0 = 0 from rfl) (by decide) (fun rh1 Lh1 clh1 lnh1 ivh1 rvh1 h1 => ?_)
  obtain ⟨f1, rfl, rfl, rfl, rfl, rfl, rfl, rgf1, exf1⟩ := h1
  refine c_st (st2 := [(va_rf f1)]) rfl ?_
  have gf1 : (∀ b, f1 = some b → ((cl b : Nat) : Int) < 100 + iv (sk 22) 2 ∧ ALV sk iv rv i b) ∧ (f1 = none → ∀ b, ¬ ALV sk iv rv i b) := exf1
  refine c_astorer_n (r := f1) (lv2 := [(2, (va_rf f1)), (0, .ref a0), (1, .int (iI i))]) C dX11_judge_8 (by decide) rfl ?_
  refine c_aloadr_n (j := 0) (r := f1) C dX11_judge_9 rfl ?_
  refine c_ifnonnull (r := f1) (tgt := 19) C dX11_judge_10 (by decide) (fun ob1 oq1 => ?_) (fun oq1 => ?_)
  · subst oq1
    have tob1 := rgf1 ob1 rfl
    refine c_lv (lv2 := [(2, .ref ob1), (0, .ref a0), (1, .int (iI i))]) [0, 1, 2] rfl ?_
    refine c_st (st2 := []) rfl ?_
    refine c_aload_n (j := 0) (x := ob1) C dX11_judge_19 rfl ?_
    have ri2 : (-2147483648) ≤ iv ob1 0 ∧ iv ob1 0 ≤ 2147483647 := hW.int tob1 0
    refine c_get (k := 0) C ck_10 dX11_judge_20 w2_176 (by decide) tob1 rfl rfl (by decide) rfl ?_
    refine c_iconst C dX11_judge_23 ?_
    refine c_icmp_ne (tgt := 33) C (r32_c (lo := (-2147483648)) (hi := 2147483647) ri2.1 ri2.2 (by decide) (by decide)) ⟨by decide, by decide⟩ dX11_judge_24 (by decide) (fun c1 => ?_) (fun c1 => ?_)
    · refine c_aload_n (j := 1) (x := a0) C dX11_judge_33 rfl ?_
      refine c_getr (k := 4) C ck_12 dX11_judge_34 w2_48 (by decide) t_a0 rfl rfl (by decide) rfl rq1 ?_
      refine c_st (st2 := [.ref (sk 13)]) rfl ?_
      refine c_iload_n (j := 2) C dX11_judge_37 rfl ?_
      refine d_callV (As := [.int (iI i)]) (rest := []) C hM (C_whole (a0 := (sk 13)) (i := i) hW hS tsk13 (by omega) hmr) dX11_judge_38 kV_X11_231 rfl tsk13 rfl rfl (by decide) ck_11 rfl (Nat.le_of_ble_eq_true rfl) ⟨(Nat.le_of_ble_eq_true rfl), (Nat.le_of_ble_eq_true rfl)⟩ hph hph (show 0 + 0 = 0 from rfl) (by decide) (fun rh2 Lh2 clh2 lnh2 ivh2 rvh2 h2 => ?_)
      obtain ⟨f2, rfl, rfl, rfl, rfl, rfl, rfl, rgf2, exf2⟩ := h2
      refine c_st (st2 := [(va_rf f2)]) rfl ?_
      refine c_ifnonnull (r := f2) (tgt := 50) C dX11_judge_41 (by decide) (fun ob2 oq2 => ?_) (fun oq2 => ?_)
      · subst oq2
        have tob2 := rgf2 ob2 rfl
        refine c_lv (lv2 := [(2, .ref ob1), (0, .ref a0), (1, .int (iI i))]) [0, 1, 2] rfl ?_
        refine c_st (st2 := []) rfl ?_
        refine c_aload_n (j := 0) (x := ob1) C dX11_judge_50 rfl ?_
        refine d_callV (As := []) (rest := []) C hM (C_hasShort (a0 := ob1) hW hS tob1  ) dX11_judge_51 kV_X11_367 rfl tob1 rfl rfl (by decide) ck_10 rfl (Nat.le_of_ble_eq_true rfl) ⟨(Nat.le_of_ble_eq_true rfl), (Nat.le_of_ble_eq_true rfl)⟩ hph hph (show 0 + 0 = 0 from rfl) (by decide) (fun rh3 Lh3 clh3 lnh3 ivh3 rvh3 h3 => ?_)
        obtain ⟨f3, rfl, rfl, rfl, rfl, rfl, rfl, rgf3, exf3⟩ := h3
        refine c_st (st2 := [.int (iI f3)]) rfl ?_
        refine c_if_eq (tgt := 63) C ⟨by omega, by omega⟩ dX11_judge_54 (by decide) (fun c2 => ?_) (fun c2 => ?_)
        · refine c_aload_n (j := 1) (x := a0) C dX11_judge_63 rfl ?_
          obtain ⟨rb2, rq2, trb2⟩ := hW.ref t_a0 7 rfl rfl rfl
          have erb2 := hW.sk trb2 (by decide) rfl
          subst erb2
          refine c_getr (k := 7) C ck_12 dX11_judge_64 w2_51 (by decide) t_a0 rfl rfl (by decide) rfl rq2 ?_
          refine c_st (st2 := [.ref (sk 16)]) rfl ?_
          refine c_aload_n (j := 0) (x := ob1) C dX11_judge_67 rfl ?_
          refine d_callV (As := [.ref ob1]) (rest := []) C hM (C_gather (a0 := (sk 16)) (a1 := ob1) hW hS tsk16 tob1  ) dX11_judge_68 kV_X11_331 rfl tsk16 rfl rfl (by decide) ck_4 rfl (Nat.le_of_ble_eq_true rfl) ⟨(Nat.le_of_ble_eq_true rfl), (Nat.le_of_ble_eq_true rfl)⟩ hph hph (show 0 + 0 = 0 from rfl) (by decide) (fun rh4 Lh4 clh4 lnh4 ivh4 rvh4 h4 => ?_)
          obtain ⟨rfl, xl4, fl4, W4, exf4⟩ := h4
          refine hv4 (hF0.call hX0 fl4 rfl) (MRK.call hmr hW hS xl4 fl4 rfl rfl) (hX0.trans xl4) (xl4.skl hS) (fun F1 mr1 X1 sk1 => ?_)
          refine c_st (st2 := []) rfl ?_
          refine c_aload_n (j := 1) (x := a0) C dX11_judge_71 rfl ?_
          refine hv2 (xl4.ty t_a0) (show rvh4 a0 7 = rv a0 7 from (fl4.r t_a0 rfl 7)) (fun ty1 re1 => ?_)
          rw [rq2] at re1
          refine c_getr (k := 7) C ck_12 dX11_judge_72 w2_51 (by decide) ty1 rfl rfl (by decide) rfl re1 ?_
          refine c_st (st2 := [.ref (sk 16)]) rfl ?_
          have ty2 := xl4.ty tsk16
          obtain ⟨rb3, rq3, trb3⟩ := W4.ref ty2 0 rfl rfl rfl
          have erb3 := W4.sk trb3 (by decide) rfl
          subst erb3
          refine c_getr (k := 0) C ck_4 dX11_judge_75 w1_192 (by decide) ty2 rfl rfl (by decide) rfl rq3 ?_
          refine c_st (st2 := [.ref (sk 24)]) rfl ?_
          refine c_aload_n (j := 1) (x := a0) C dX11_judge_78 rfl ?_
          refine hv2 (show (-2147483648) ≤ ivh4 a0 13 ∧ ivh4 a0 13 ≤ 2147483647 from W4.int ty1 13) (show ivh4 a0 13 = iv a0 13 from fl4.i t_a0 rfl 13) (fun ri3 ie1 => ?_)
          refine c_get (k := 13) C ck_12 dX11_judge_79 w2_57 (by decide) ty1 rfl rfl (by decide) rfl ?_
          refine hv2 (xl4.ty tsk24) (Phi.le W4 sk1) (fun ty3 pl1 => ?_)
          refine d_callS (As := [.ref (sk 24), .int (iI (ivh4 a0 13))]) (rest := []) C hM (C_isReadable_24 (a0 := (sk 24)) (x := ivh4 a0 13) W4 sk1 ty3 (by omega) ) dX11_judge_82 kS_X11_373 rfl rfl (Nat.le_of_ble_eq_true rfl) ⟨(Nat.le_of_ble_eq_true rfl), (Nat.le_of_ble_eq_true rfl)⟩ hph pl1 (show 0 + 0 = 0 from rfl) (by decide) (fun rh5 Lh5 clh5 lnh5 ivh5 rvh5 h5 => ?_)
          obtain ⟨f5, rfl, rfl, rfl, rfl, rfl, rfl, rgf5, exf5⟩ := h5
          refine c_st (st2 := [.int (iI f5)]) rfl ?_
          refine c_if_eq (tgt := 109) C ⟨by omega, by omega⟩ dX11_judge_85 (by decide) (fun c3 => ?_) (fun c3 => ?_)
          · refine c_iconst C dX11_judge_109 ?_
            refine c_istore_n (lv2 := [(3, .int (iI 0)), (2, .ref ob1), (0, .ref a0), (1, .int (iI i))]) C dX11_judge_110 (by decide) rfl ?_
            refine c_aload_n (j := 2) (x := a0) C dX11_judge_111 rfl ?_
            refine c_iload_n (j := 0) C dX11_judge_112 rfl ?_
            refine c_if_eq (tgt := 120) C ⟨by decide, by decide⟩ dX11_judge_113 (by decide) (fun _ => ?_) (fun z => absurd z (by omega))
            refine c_iconst C dX11_judge_120 ?_
            refine d_callV (As := [.int (iI 0)]) (rest := []) C hM (C_done (a0 := a0) (x := 0) W4 sk1 ty1 ⟨by decide, by decide⟩ ) dX11_judge_121 kV_X11_109 rfl ty1 rfl rfl (by decide) ck_12 rfl (Nat.le_of_ble_eq_true rfl) ⟨(Nat.le_of_ble_eq_true rfl), (Nat.le_of_ble_eq_true rfl)⟩ hph pl1 (show 0 + 0 = 0 from rfl) (by decide) (fun rh6 Lh6 clh6 lnh6 ivh6 rvh6 h6 => ?_)
            obtain ⟨f6, rfl, rfl, rfl, rfl, rfl, fl6, W6, rgf6, exf6, kp11f6, kp12f6, kp13f6, kp14f6, kp15f6, kp16f6⟩ := h6
            refine hv12 (show 1 ≤ ivh4 a0 11 ∧ ivh4 a0 11 ≤ 100 from W4.int ty1 11) (show ivh4 a0 11 = iv a0 11 from fl4.i t_a0 rfl 11) (show 1 ≤ ivh4 a0 12 ∧ ivh4 a0 12 ≤ 50 from W4.int ty1 12) (show ivh4 a0 12 = iv a0 12 from fl4.i t_a0 rfl 12) (show (-2147483648) ≤ ivh4 a0 14 ∧ ivh4 a0 14 ≤ 2147483647 from W4.int ty1 14) (show ivh4 a0 14 = iv a0 14 from fl4.i t_a0 rfl 14) (show (-2147483648) ≤ ivh4 a0 15 ∧ ivh4 a0 15 ≤ 2147483647 from W4.int ty1 15) (show ivh4 a0 15 = iv a0 15 from fl4.i t_a0 rfl 15) (show (-2147483648) ≤ ivh4 a0 16 ∧ ivh4 a0 16 ≤ 2147483647 from W4.int ty1 16) (show ivh4 a0 16 = iv a0 16 from fl4.i t_a0 rfl 16) (F1.call X1 fl6 rfl) (MRK.call mr1 W4 sk1 XT.refl fl6 rfl rfl) (fun ri4 ie2 ri5 ie3 ri6 ie4 ri7 ie5 ri8 ie6 F2 mr2 => ?_)
            refine c_st (st2 := [.int (iI f6)]) rfl ?_
            refine hv13 (show ivh6 a0 11 = ivh4 a0 11 from kp11f6) (show ivh6 a0 12 = ivh4 a0 12 from kp12f6) (show ivh6 a0 13 = ivh4 a0 13 from kp13f6) (show ivh6 a0 14 = ivh4 a0 14 from kp14f6) (show ivh6 a0 15 = ivh4 a0 15 from kp15f6) (show ivh6 a0 16 = ivh4 a0 16 from kp16f6) (show f6 = (0 : Int) from exf6) (show 1 ≤ ivh6 a0 11 ∧ ivh6 a0 11 ≤ 100 from W6.int ty1 11) (show 1 ≤ ivh6 a0 12 ∧ ivh6 a0 12 ≤ 50 from W6.int ty1 12) (show (-2147483648) ≤ ivh6 a0 13 ∧ ivh6 a0 13 ≤ 2147483647 from W6.int ty1 13) (show (-2147483648) ≤ ivh6 a0 14 ∧ ivh6 a0 14 ≤ 2147483647 from W6.int ty1 14) (show (-2147483648) ≤ ivh6 a0 15 ∧ ivh6 a0 15 ≤ 2147483647 from W6.int ty1 15) (show (-2147483648) ≤ ivh6 a0 16 ∧ ivh6 a0 16 ≤ 2147483647 from W6.int ty1 16) (fun gk11f6 gk12f6 gk13f6 gk14f6 gk15f6 gk16f6 gf6 ri9 ri10 ri11 ri12 ri13 ri14 => ?_)
            exact c_iret C dX11_judge_124 rfl (by decide) (rom0 hph pl1 (by decide)) ⟨f6, rfl, X1, F2, W6, ⟨by omega, by omega⟩, trivial, (gk11f6.trans ie2), (gk12f6.trans ie3), (gk13f6.trans ie1), (gk14f6.trans ie4), (gk15f6.trans ie5), (gk16f6.trans ie6), (show rvh4 a0 9 = rv a0 9 from (fl4.r t_a0 rfl 9)), (show rvh4 a0 10 = rv a0 10 from (fl4.r t_a0 rfl 10))⟩
          · refine c_aload_n (j := 1) (x := a0) C dX11_judge_88 rfl ?_
            refine c_getr (k := 7) C ck_12 dX11_judge_89 w2_51 (by decide) ty1 rfl rfl (by decide) rfl re1 ?_
            refine c_st (st2 := [.ref (sk 16)]) rfl ?_
            obtain ⟨rb4, rq4, trb4⟩ := W4.ref ty2 1 rfl rfl rfl
            have erb4 := W4.sk trb4 (by decide) rfl
            subst erb4
            refine c_getr (k := 1) C ck_4 dX11_judge_92 w1_195 (by decide) ty2 rfl rfl (by decide) rfl rq4 ?_
            refine c_st (st2 := [.ref (sk 25)]) rfl ?_
            refine c_aload_n (j := 1) (x := a0) C dX11_judge_95 rfl ?_
            refine c_get (k := 13) C ck_12 dX11_judge_96 w2_57 (by decide) ty1 rfl rfl (by decide) rfl ?_
            have ty4 := xl4.ty tsk25
            refine d_callS (As := [.ref (sk 25), .int (iI (ivh4 a0 13))]) (rest := []) C hM (C_isReadable_25 (a0 := (sk 25)) (x := ivh4 a0 13) W4 sk1 ty4 (by omega) ) dX11_judge_99 kS_X11_373 rfl rfl (Nat.le_of_ble_eq_true rfl) ⟨(Nat.le_of_ble_eq_true rfl), (Nat.le_of_ble_eq_true rfl)⟩ hph pl1 (show 0 + 0 = 0 from rfl) (by decide) (fun rh7 Lh7 clh7 lnh7 ivh7 rvh7 h7 => ?_)
            obtain ⟨f7, rfl, rfl, rfl, rfl, rfl, rfl, rgf7, exf7⟩ := h7
            refine c_st (st2 := [.int (iI f7)]) rfl ?_
            refine c_if_eq (tgt := 109) C ⟨by omega, by omega⟩ dX11_judge_102 (by decide) (fun c4 => ?_) (fun c4 => ?_)
            · refine c_iconst C dX11_judge_109 ?_
              refine c_istore_n (lv2 := [(3, .int (iI 0)), (2, .ref ob1), (0, .ref a0), (1, .int (iI i))]) C dX11_judge_110 (by decide) rfl ?_
              refine c_aload_n (j := 2) (x := a0) C dX11_judge_111 rfl ?_
              refine c_iload_n (j := 0) C dX11_judge_112 rfl ?_
              refine c_if_eq (tgt := 120) C ⟨by decide, by decide⟩ dX11_judge_113 (by decide) (fun _ => ?_) (fun z => absurd z (by omega))
              refine c_iconst C dX11_judge_120 ?_
              refine d_callV (As := [.int (iI 0)]) (rest := []) C hM (C_done (a0 := a0) (x := 0) W4 sk1 ty1 ⟨by decide, by decide⟩ ) dX11_judge_121 kV_X11_109 rfl ty1 rfl rfl (by decide) ck_12 rfl (Nat.le_of_ble_eq_true rfl) ⟨(Nat.le_of_ble_eq_true rfl), (Nat.le_of_ble_eq_true rfl)⟩ hph pl1 (show 0 + 0 = 0 from rfl) (by decide) (fun rh8 Lh8 clh8 lnh8 ivh8 rvh8 h8 => ?_)
              obtain ⟨f8, rfl, rfl, rfl, rfl, rfl, fl8, W8, rgf8, exf8, kp11f8, kp12f8, kp13f8, kp14f8, kp15f8, kp16f8⟩ := h8
              refine hv12 (show 1 ≤ ivh4 a0 11 ∧ ivh4 a0 11 ≤ 100 from W4.int ty1 11) (show ivh4 a0 11 = iv a0 11 from fl4.i t_a0 rfl 11) (show 1 ≤ ivh4 a0 12 ∧ ivh4 a0 12 ≤ 50 from W4.int ty1 12) (show ivh4 a0 12 = iv a0 12 from fl4.i t_a0 rfl 12) (show (-2147483648) ≤ ivh4 a0 14 ∧ ivh4 a0 14 ≤ 2147483647 from W4.int ty1 14) (show ivh4 a0 14 = iv a0 14 from fl4.i t_a0 rfl 14) (show (-2147483648) ≤ ivh4 a0 15 ∧ ivh4 a0 15 ≤ 2147483647 from W4.int ty1 15) (show ivh4 a0 15 = iv a0 15 from fl4.i t_a0 rfl 15) (show (-2147483648) ≤ ivh4 a0 16 ∧ ivh4 a0 16 ≤ 2147483647 from W4.int ty1 16) (show ivh4 a0 16 = iv a0 16 from fl4.i t_a0 rfl 16) (F1.call X1 fl8 rfl) (MRK.call mr1 W4 sk1 XT.refl fl8 rfl rfl) (fun ri15 ie13 ri16 ie14 ri17 ie15 ri18 ie16 ri19 ie17 F3 mr3 => ?_)
              refine c_st (st2 := [.int (iI f8)]) rfl ?_
              refine hv13 (show ivh8 a0 11 = ivh4 a0 11 from kp11f8) (show ivh8 a0 12 = ivh4 a0 12 from kp12f8) (show ivh8 a0 13 = ivh4 a0 13 from kp13f8) (show ivh8 a0 14 = ivh4 a0 14 from kp14f8) (show ivh8 a0 15 = ivh4 a0 15 from kp15f8) (show ivh8 a0 16 = ivh4 a0 16 from kp16f8) (show f8 = (0 : Int) from exf8) (show 1 ≤ ivh8 a0 11 ∧ ivh8 a0 11 ≤ 100 from W8.int ty1 11) (show 1 ≤ ivh8 a0 12 ∧ ivh8 a0 12 ≤ 50 from W8.int ty1 12) (show (-2147483648) ≤ ivh8 a0 13 ∧ ivh8 a0 13 ≤ 2147483647 from W8.int ty1 13) (show (-2147483648) ≤ ivh8 a0 14 ∧ ivh8 a0 14 ≤ 2147483647 from W8.int ty1 14) (show (-2147483648) ≤ ivh8 a0 15 ∧ ivh8 a0 15 ≤ 2147483647 from W8.int ty1 15) (show (-2147483648) ≤ ivh8 a0 16 ∧ ivh8 a0 16 ≤ 2147483647 from W8.int ty1 16) (fun gk11f8 gk12f8 gk13f8 gk14f8 gk15f8 gk16f8 gf8 ri20 ri21 ri22 ri23 ri24 ri25 => ?_)
              exact c_iret C dX11_judge_124 rfl (by decide) (rom0 hph pl1 (by decide)) ⟨f8, rfl, X1, F3, W8, ⟨by omega, by omega⟩, trivial, (gk11f8.trans ie13), (gk12f8.trans ie14), (gk13f8.trans ie1), (gk14f8.trans ie15), (gk15f8.trans ie16), (gk16f8.trans ie17), (show rvh4 a0 9 = rv a0 9 from (fl4.r t_a0 rfl 9)), (show rvh4 a0 10 = rv a0 10 from (fl4.r t_a0 rfl 10))⟩
            · refine c_iconst C dX11_judge_105 ?_
              refine c_goto (tgt := 110) C dX11_judge_106 (by decide) ?_
              refine c_istore_n (lv2 := [(3, .int (iI 1)), (2, .ref ob1), (0, .ref a0), (1, .int (iI i))]) C dX11_judge_110 (by decide) rfl ?_
              refine c_aload_n (j := 2) (x := a0) C dX11_judge_111 rfl ?_
              refine c_iload_n (j := 0) C dX11_judge_112 rfl ?_
              refine c_if_eq (tgt := 120) C ⟨by decide, by decide⟩ dX11_judge_113 (by decide) (fun z => absurd z (by omega)) (fun _ => ?_)
              refine c_iconst C dX11_judge_116 ?_
              refine c_goto (tgt := 121) C dX11_judge_117 (by decide) ?_
              refine d_callV (As := [.int (iI 1)]) (rest := []) C hM (C_done (a0 := a0) (x := 1) W4 sk1 ty1 ⟨by decide, by decide⟩ ) dX11_judge_121 kV_X11_109 rfl ty1 rfl rfl (by decide) ck_12 rfl (Nat.le_of_ble_eq_true rfl) ⟨(Nat.le_of_ble_eq_true rfl), (Nat.le_of_ble_eq_true rfl)⟩ hph pl1 (show 0 + 0 = 0 from rfl) (by decide) (fun rh9 Lh9 clh9 lnh9 ivh9 rvh9 h9 => ?_)
              obtain ⟨f9, rfl, rfl, rfl, rfl, rfl, fl9, W9, rgf9, exf9, kp11f9, kp12f9, kp13f9, kp14f9, kp15f9, kp16f9⟩ := h9
              refine hv12 (show 1 ≤ ivh4 a0 11 ∧ ivh4 a0 11 ≤ 100 from W4.int ty1 11) (show ivh4 a0 11 = iv a0 11 from fl4.i t_a0 rfl 11) (show 1 ≤ ivh4 a0 12 ∧ ivh4 a0 12 ≤ 50 from W4.int ty1 12) (show ivh4 a0 12 = iv a0 12 from fl4.i t_a0 rfl 12) (show (-2147483648) ≤ ivh4 a0 14 ∧ ivh4 a0 14 ≤ 2147483647 from W4.int ty1 14) (show ivh4 a0 14 = iv a0 14 from fl4.i t_a0 rfl 14) (show (-2147483648) ≤ ivh4 a0 15 ∧ ivh4 a0 15 ≤ 2147483647 from W4.int ty1 15) (show ivh4 a0 15 = iv a0 15 from fl4.i t_a0 rfl 15) (show (-2147483648) ≤ ivh4 a0 16 ∧ ivh4 a0 16 ≤ 2147483647 from W4.int ty1 16) (show ivh4 a0 16 = iv a0 16 from fl4.i t_a0 rfl 16) (F1.call X1 fl9 rfl) (MRK.call mr1 W4 sk1 XT.refl fl9 rfl rfl) (fun ri26 ie24 ri27 ie25 ri28 ie26 ri29 ie27 ri30 ie28 F4 mr4 => ?_)
              refine c_st (st2 := [.int (iI f9)]) rfl ?_
              refine hv13 (show ivh9 a0 11 = ivh4 a0 11 from kp11f9) (show ivh9 a0 12 = ivh4 a0 12 from kp12f9) (show ivh9 a0 13 = ivh4 a0 13 from kp13f9) (show ivh9 a0 14 = ivh4 a0 14 from kp14f9) (show ivh9 a0 15 = ivh4 a0 15 from kp15f9) (show ivh9 a0 16 = ivh4 a0 16 from kp16f9) (show f9 = (1 : Int) from exf9) (show 1 ≤ ivh9 a0 11 ∧ ivh9 a0 11 ≤ 100 from W9.int ty1 11) (show 1 ≤ ivh9 a0 12 ∧ ivh9 a0 12 ≤ 50 from W9.int ty1 12) (show (-2147483648) ≤ ivh9 a0 13 ∧ ivh9 a0 13 ≤ 2147483647 from W9.int ty1 13) (show (-2147483648) ≤ ivh9 a0 14 ∧ ivh9 a0 14 ≤ 2147483647 from W9.int ty1 14) (show (-2147483648) ≤ ivh9 a0 15 ∧ ivh9 a0 15 ≤ 2147483647 from W9.int ty1 15) (show (-2147483648) ≤ ivh9 a0 16 ∧ ivh9 a0 16 ≤ 2147483647 from W9.int ty1 16) (fun gk11f9 gk12f9 gk13f9 gk14f9 gk15f9 gk16f9 gf9 ri31 ri32 ri33 ri34 ri35 ri36 => ?_)
              exact c_iret C dX11_judge_124 rfl (by decide) (rom0 hph pl1 (by decide)) ⟨f9, rfl, X1, F4, W9, ⟨by omega, by omega⟩, trivial, (gk11f9.trans ie24), (gk12f9.trans ie25), (gk13f9.trans ie1), (gk14f9.trans ie26), (gk15f9.trans ie27), (gk16f9.trans ie28), (show rvh4 a0 9 = rv a0 9 from (fl4.r t_a0 rfl 9)), (show rvh4 a0 10 = rv a0 10 from (fl4.r t_a0 rfl 10))⟩
        · refine c_aload_n (j := 1) (x := a0) C dX11_judge_57 rfl ?_
          refine c_iconst C dX11_judge_58 ?_
          refine d_callV (As := [.int (iI 0)]) (rest := []) C hM (C_done (a0 := a0) (x := 0) hW hS t_a0 ⟨by decide, by decide⟩ ) dX11_judge_59 kV_X11_109 rfl t_a0 rfl rfl (by decide) ck_12 rfl (Nat.le_of_ble_eq_true rfl) ⟨(Nat.le_of_ble_eq_true rfl), (Nat.le_of_ble_eq_true rfl)⟩ hph hph (show 0 + 0 = 0 from rfl) (by decide) (fun rh10 Lh10 clh10 lnh10 ivh10 rvh10 h10 => ?_)
          obtain ⟨f10, rfl, rfl, rfl, rfl, rfl, fl10, W10, rgf10, exf10, kp11f10, kp12f10, kp13f10, kp14f10, kp15f10, kp16f10⟩ := h10
          refine hv8 (show 1 ≤ iv a0 11 ∧ iv a0 11 ≤ 100 from hW.int t_a0 11) (show 1 ≤ iv a0 12 ∧ iv a0 12 ≤ 50 from hW.int t_a0 12) (show (-2147483648) ≤ iv a0 13 ∧ iv a0 13 ≤ 2147483647 from hW.int t_a0 13) (show (-2147483648) ≤ iv a0 14 ∧ iv a0 14 ≤ 2147483647 from hW.int t_a0 14) (show (-2147483648) ≤ iv a0 15 ∧ iv a0 15 ≤ 2147483647 from hW.int t_a0 15) (show (-2147483648) ≤ iv a0 16 ∧ iv a0 16 ≤ 2147483647 from hW.int t_a0 16) (hF0.call hX0 fl10 rfl) (MRK.call hmr hW hS XT.refl fl10 rfl rfl) (fun ri37 ri38 ri39 ri40 ri41 ri42 F5 mr5 => ?_)
          refine c_st (st2 := [.int (iI f10)]) rfl ?_
          refine hv13 (show ivh10 a0 11 = iv a0 11 from kp11f10) (show ivh10 a0 12 = iv a0 12 from kp12f10) (show ivh10 a0 13 = iv a0 13 from kp13f10) (show ivh10 a0 14 = iv a0 14 from kp14f10) (show ivh10 a0 15 = iv a0 15 from kp15f10) (show ivh10 a0 16 = iv a0 16 from kp16f10) (show f10 = (0 : Int) from exf10) (show 1 ≤ ivh10 a0 11 ∧ ivh10 a0 11 ≤ 100 from W10.int t_a0 11) (show 1 ≤ ivh10 a0 12 ∧ ivh10 a0 12 ≤ 50 from W10.int t_a0 12) (show (-2147483648) ≤ ivh10 a0 13 ∧ ivh10 a0 13 ≤ 2147483647 from W10.int t_a0 13) (show (-2147483648) ≤ ivh10 a0 14 ∧ ivh10 a0 14 ≤ 2147483647 from W10.int t_a0 14) (show (-2147483648) ≤ ivh10 a0 15 ∧ ivh10 a0 15 ≤ 2147483647 from W10.int t_a0 15) (show (-2147483648) ≤ ivh10 a0 16 ∧ ivh10 a0 16 ≤ 2147483647 from W10.int t_a0 16) (fun gk11f10 gk12f10 gk13f10 gk14f10 gk15f10 gk16f10 gf10 ri43 ri44 ri45 ri46 ri47 ri48 => ?_)
          exact c_iret C dX11_judge_62 rfl (by decide) (rom0 hph hph (by decide)) ⟨f10, rfl, hX0, F5, W10, ⟨by omega, by omega⟩, trivial, gk11f10, gk12f10, gk13f10, gk14f10, gk15f10, gk16f10, rfl, rfl⟩
      · subst oq2
        refine c_lv (lv2 := [(2, .ref ob1), (0, .ref a0), (1, .int (iI i))]) [0, 1, 2] rfl ?_
        refine c_st (st2 := []) rfl ?_
        refine c_aload_n (j := 1) (x := a0) C dX11_judge_44 rfl ?_
        refine c_iconst C dX11_judge_45 ?_
        refine d_callV (As := [.int (iI 3)]) (rest := []) C hM (C_refuse (a0 := a0) (x := 3) hW hS t_a0 ⟨by decide, by decide⟩ ) dX11_judge_46 kV_X11_102 rfl t_a0 rfl rfl (by decide) ck_12 rfl (Nat.le_of_ble_eq_true rfl) ⟨(Nat.le_of_ble_eq_true rfl), (Nat.le_of_ble_eq_true rfl)⟩ hph hph (show 0 + 0 = 0 from rfl) (by decide) (fun rh11 Lh11 clh11 lnh11 ivh11 rvh11 h11 => ?_)
        obtain ⟨f11, rfl, rfl, rfl, rfl, rfl, fl11, W11, rgf11, exf11, kp11f11, kp12f11, kp13f11, kp14f11, kp15f11, kp16f11⟩ := h11
        refine hv8 (show 1 ≤ iv a0 11 ∧ iv a0 11 ≤ 100 from hW.int t_a0 11) (show 1 ≤ iv a0 12 ∧ iv a0 12 ≤ 50 from hW.int t_a0 12) (show (-2147483648) ≤ iv a0 13 ∧ iv a0 13 ≤ 2147483647 from hW.int t_a0 13) (show (-2147483648) ≤ iv a0 14 ∧ iv a0 14 ≤ 2147483647 from hW.int t_a0 14) (show (-2147483648) ≤ iv a0 15 ∧ iv a0 15 ≤ 2147483647 from hW.int t_a0 15) (show (-2147483648) ≤ iv a0 16 ∧ iv a0 16 ≤ 2147483647 from hW.int t_a0 16) (hF0.call hX0 fl11 rfl) (MRK.call hmr hW hS XT.refl fl11 rfl rfl) (fun ri49 ri50 ri51 ri52 ri53 ri54 F6 mr6 => ?_)
        refine c_st (st2 := [.int (iI f11)]) rfl ?_
        refine hv13 (show ivh11 a0 11 = iv a0 11 from kp11f11) (show ivh11 a0 12 = iv a0 12 from kp12f11) (show ivh11 a0 13 = iv a0 13 from kp13f11) (show ivh11 a0 14 = iv a0 14 from kp14f11) (show ivh11 a0 15 = iv a0 15 from kp15f11) (show ivh11 a0 16 = iv a0 16 from kp16f11) (show f11 = -1 from exf11) (show 1 ≤ ivh11 a0 11 ∧ ivh11 a0 11 ≤ 100 from W11.int t_a0 11) (show 1 ≤ ivh11 a0 12 ∧ ivh11 a0 12 ≤ 50 from W11.int t_a0 12) (show (-2147483648) ≤ ivh11 a0 13 ∧ ivh11 a0 13 ≤ 2147483647 from W11.int t_a0 13) (show (-2147483648) ≤ ivh11 a0 14 ∧ ivh11 a0 14 ≤ 2147483647 from W11.int t_a0 14) (show (-2147483648) ≤ ivh11 a0 15 ∧ ivh11 a0 15 ≤ 2147483647 from W11.int t_a0 15) (show (-2147483648) ≤ ivh11 a0 16 ∧ ivh11 a0 16 ≤ 2147483647 from W11.int t_a0 16) (fun gk11f11 gk12f11 gk13f11 gk14f11 gk15f11 gk16f11 gf11 ri55 ri56 ri57 ri58 ri59 ri60 => ?_)
        exact c_iret C dX11_judge_49 rfl (by decide) (rom0 hph hph (by decide)) ⟨f11, rfl, hX0, F6, W11, ⟨by omega, by omega⟩, trivial, gk11f11, gk12f11, gk13f11, gk14f11, gk15f11, gk16f11, rfl, rfl⟩
    · refine c_aload_n (j := 1) (x := a0) C dX11_judge_27 rfl ?_
      refine c_iconst C dX11_judge_28 ?_
      refine d_callV (As := [.int (iI 4)]) (rest := []) C hM (C_refuse (a0 := a0) (x := 4) hW hS t_a0 ⟨by decide, by decide⟩ ) dX11_judge_29 kV_X11_102 rfl t_a0 rfl rfl (by decide) ck_12 rfl (Nat.le_of_ble_eq_true rfl) ⟨(Nat.le_of_ble_eq_true rfl), (Nat.le_of_ble_eq_true rfl)⟩ hph hph (show 0 + 0 = 0 from rfl) (by decide) (fun rh12 Lh12 clh12 lnh12 ivh12 rvh12 h12 => ?_)
      obtain ⟨f12, rfl, rfl, rfl, rfl, rfl, fl12, W12, rgf12, exf12, kp11f12, kp12f12, kp13f12, kp14f12, kp15f12, kp16f12⟩ := h12
      refine hv8 (show 1 ≤ iv a0 11 ∧ iv a0 11 ≤ 100 from hW.int t_a0 11) (show 1 ≤ iv a0 12 ∧ iv a0 12 ≤ 50 from hW.int t_a0 12) (show (-2147483648) ≤ iv a0 13 ∧ iv a0 13 ≤ 2147483647 from hW.int t_a0 13) (show (-2147483648) ≤ iv a0 14 ∧ iv a0 14 ≤ 2147483647 from hW.int t_a0 14) (show (-2147483648) ≤ iv a0 15 ∧ iv a0 15 ≤ 2147483647 from hW.int t_a0 15) (show (-2147483648) ≤ iv a0 16 ∧ iv a0 16 ≤ 2147483647 from hW.int t_a0 16) (hF0.call hX0 fl12 rfl) (MRK.call hmr hW hS XT.refl fl12 rfl rfl) (fun ri61 ri62 ri63 ri64 ri65 ri66 F7 mr7 => ?_)
      refine c_st (st2 := [.int (iI f12)]) rfl ?_
      refine hv13 (show ivh12 a0 11 = iv a0 11 from kp11f12) (show ivh12 a0 12 = iv a0 12 from kp12f12) (show ivh12 a0 13 = iv a0 13 from kp13f12) (show ivh12 a0 14 = iv a0 14 from kp14f12) (show ivh12 a0 15 = iv a0 15 from kp15f12) (show ivh12 a0 16 = iv a0 16 from kp16f12) (show f12 = -1 from exf12) (show 1 ≤ ivh12 a0 11 ∧ ivh12 a0 11 ≤ 100 from W12.int t_a0 11) (show 1 ≤ ivh12 a0 12 ∧ ivh12 a0 12 ≤ 50 from W12.int t_a0 12) (show (-2147483648) ≤ ivh12 a0 13 ∧ ivh12 a0 13 ≤ 2147483647 from W12.int t_a0 13) (show (-2147483648) ≤ ivh12 a0 14 ∧ ivh12 a0 14 ≤ 2147483647 from W12.int t_a0 14) (show (-2147483648) ≤ ivh12 a0 15 ∧ ivh12 a0 15 ≤ 2147483647 from W12.int t_a0 15) (show (-2147483648) ≤ ivh12 a0 16 ∧ ivh12 a0 16 ≤ 2147483647 from W12.int t_a0 16) (fun gk11f12 gk12f12 gk13f12 gk14f12 gk15f12 gk16f12 gf12 ri67 ri68 ri69 ri70 ri71 ri72 => ?_)
      exact c_iret C dX11_judge_32 rfl (by decide) (rom0 hph hph (by decide)) ⟨f12, rfl, hX0, F7, W12, ⟨by omega, by omega⟩, trivial, gk11f12, gk12f12, gk13f12, gk14f12, gk15f12, gk16f12, rfl, rfl⟩
  · subst oq1
    refine c_lv (lv2 := [(2, .null), (0, .ref a0), (1, .int (iI i))]) [0, 1, 2] rfl ?_
    refine c_st (st2 := []) rfl ?_
    refine c_aload_n (j := 1) (x := a0) C dX11_judge_13 rfl ?_
    refine c_iconst C dX11_judge_14 ?_
    refine d_callV (As := [.int (iI 3)]) (rest := []) C hM (C_refuse (a0 := a0) (x := 3) hW hS t_a0 ⟨by decide, by decide⟩ ) dX11_judge_15 kV_X11_102 rfl t_a0 rfl rfl (by decide) ck_12 rfl (Nat.le_of_ble_eq_true rfl) ⟨(Nat.le_of_ble_eq_true rfl), (Nat.le_of_ble_eq_true rfl)⟩ hph hph (show 0 + 0 = 0 from rfl) (by decide) (fun rh13 Lh13 clh13 lnh13 ivh13 rvh13 h13 => ?_)
    obtain ⟨f13, rfl, rfl, rfl, rfl, rfl, fl13, W13, rgf13, exf13, kp11f13, kp12f13, kp13f13, kp14f13, kp15f13, kp16f13⟩ := h13
    refine hv8 (show 1 ≤ iv a0 11 ∧ iv a0 11 ≤ 100 from hW.int t_a0 11) (show 1 ≤ iv a0 12 ∧ iv a0 12 ≤ 50 from hW.int t_a0 12) (show (-2147483648) ≤ iv a0 13 ∧ iv a0 13 ≤ 2147483647 from hW.int t_a0 13) (show (-2147483648) ≤ iv a0 14 ∧ iv a0 14 ≤ 2147483647 from hW.int t_a0 14) (show (-2147483648) ≤ iv a0 15 ∧ iv a0 15 ≤ 2147483647 from hW.int t_a0 15) (show (-2147483648) ≤ iv a0 16 ∧ iv a0 16 ≤ 2147483647 from hW.int t_a0 16) (hF0.call hX0 fl13 rfl) (MRK.call hmr hW hS XT.refl fl13 rfl rfl) (fun ri73 ri74 ri75 ri76 ri77 ri78 F8 mr8 => ?_)
    refine c_st (st2 := [.int (iI f13)]) rfl ?_
    refine hv13 (show ivh13 a0 11 = iv a0 11 from kp11f13) (show ivh13 a0 12 = iv a0 12 from kp12f13) (show ivh13 a0 13 = iv a0 13 from kp13f13) (show ivh13 a0 14 = iv a0 14 from kp14f13) (show ivh13 a0 15 = iv a0 15 from kp15f13) (show ivh13 a0 16 = iv a0 16 from kp16f13) (show f13 = -1 from exf13) (show 1 ≤ ivh13 a0 11 ∧ ivh13 a0 11 ≤ 100 from W13.int t_a0 11) (show 1 ≤ ivh13 a0 12 ∧ ivh13 a0 12 ≤ 50 from W13.int t_a0 12) (show (-2147483648) ≤ ivh13 a0 13 ∧ ivh13 a0 13 ≤ 2147483647 from W13.int t_a0 13) (show (-2147483648) ≤ ivh13 a0 14 ∧ ivh13 a0 14 ≤ 2147483647 from W13.int t_a0 14) (show (-2147483648) ≤ ivh13 a0 15 ∧ ivh13 a0 15 ≤ 2147483647 from W13.int t_a0 15) (show (-2147483648) ≤ ivh13 a0 16 ∧ ivh13 a0 16 ≤ 2147483647 from W13.int t_a0 16) (fun gk11f13 gk12f13 gk13f13 gk14f13 gk15f13 gk16f13 gf13 ri79 ri80 ri81 ri82 ri83 ri84 => ?_)
    exact c_iret C dX11_judge_18 rfl (by decide) (rom0 hph hph (by decide)) ⟨f13, rfl, hX0, F8, W13, ⟨by omega, by omega⟩, trivial, gk11f13, gk12f13, gk13f13, gk14f13, gk15f13, gk16f13, rfl, rfl⟩
set_option maxHeartbeats 4000000 in
set_option maxRecDepth 100000 in
theorem C_parts {l : Launch} {G : GT} {mi : Nat} {sk : Nat → Nat} {L : List Nat} {cl ln : Nat → Nat} {iv : Nat → Nat → Int} {rv : Nat → Nat → Option Nat}  {a0 : Nat} {i : Int} {j : Int} {k : Int} (hW : WT (g0 G) sk L cl ln iv rv) (hS : SKL sk L cl) (t_a0 : ty L cl a0 1) (h_i : -2147483648 ≤ i ∧ i ≤ 2147483647) (h_j : -2147483648 ≤ j ∧ j ≤ 2147483647) (h_k : -2147483648 ≤ k ∧ k ≤ 2147483647) (hmr : MRK sk cl iv rv) : Mc l G mi (Phi (g0 G) sk) PHM yX11_parts cX11_parts 10 (some .int) 10 [.ref a0, .int (iI i), .int (iI j), .int (iI k)] L cl ln iv rv 0 (fun v L2 cl2 ln2 iv2 rv2 => ∃ f : Int, v = some (.int (iI f)) ∧ XT L cl ln L2 cl2 ln2 ∧ fT [1, 24, 1002, 25, 1003, 6, 36, 7, 37] L cl iv rv iv2 rv2 ∧ WT (g0 G) sk L2 cl2 ln2 iv2 rv2 ∧ (-2147483648 ≤ f ∧ f ≤ 2147483647) ∧ (True) ∧ iv2 a0 11 = iv a0 11 ∧ iv2 a0 12 = iv a0 12 ∧ iv2 a0 13 = iv a0 13 ∧ iv2 a0 14 = iv a0 14 ∧ iv2 a0 15 = iv a0 15 ∧ iv2 a0 16 = iv a0 16 ∧ rv2 a0 9 = rv a0 9 ∧ rv2 a0 10 = rv a0 10) := by
  refine Mc.mk (by decide) (Nat.le_of_ble_eq_true rfl) ?_
  intro p e s m args below meth c A C hM
  refine hv21 (Phi.le hW hS) (show ty L cl (sk 2) 2 from ⟨(hS 2 rfl).1, by rw [(hS 2 rfl).2]; rfl⟩) (show ty L cl (sk 3) 3 from ⟨(hS 3 rfl).1, by rw [(hS 3 rfl).2]; rfl⟩) (show ty L cl (sk 4) 4 from ⟨(hS 4 rfl).1, by rw [(hS 4 rfl).2]; rfl⟩) (show ty L cl (sk 5) 5 from ⟨(hS 5 rfl).1, by rw [(hS 5 rfl).2]; rfl⟩) (show ty L cl (sk 6) 6 from ⟨(hS 6 rfl).1, by rw [(hS 6 rfl).2]; rfl⟩) (show ty L cl (sk 7) 7 from ⟨(hS 7 rfl).1, by rw [(hS 7 rfl).2]; rfl⟩) (show ty L cl (sk 8) 8 from ⟨(hS 8 rfl).1, by rw [(hS 8 rfl).2]; rfl⟩) (show ty L cl (sk 9) 9 from ⟨(hS 9 rfl).1, by rw [(hS 9 rfl).2]; rfl⟩) (show ty L cl (sk 10) 10 from ⟨(hS 10 rfl).1, by rw [(hS 10 rfl).2]; rfl⟩) (show ty L cl (sk 13) 13 from ⟨(hS 13 rfl).1, by rw [(hS 13 rfl).2]; rfl⟩) (show ty L cl (sk 14) 14 from ⟨(hS 14 rfl).1, by rw [(hS 14 rfl).2]; rfl⟩) (show ty L cl (sk 15) 15 from ⟨(hS 15 rfl).1, by rw [(hS 15 rfl).2]; rfl⟩) (show ty L cl (sk 16) 16 from ⟨(hS 16 rfl).1, by rw [(hS 16 rfl).2]; rfl⟩) (show ty L cl (sk 17) 17 from ⟨(hS 17 rfl).1, by rw [(hS 17 rfl).2]; rfl⟩) (show ty L cl (sk 22) 22 from ⟨(hS 22 rfl).1, by rw [(hS 22 rfl).2]; rfl⟩) (show ty L cl (sk 23) 23 from ⟨(hS 23 rfl).1, by rw [(hS 23 rfl).2]; rfl⟩) (show ty L cl (sk 24) 24 from ⟨(hS 24 rfl).1, by rw [(hS 24 rfl).2]; rfl⟩) (show ty L cl (sk 25) 25 from ⟨(hS 25 rfl).1, by rw [(hS 25 rfl).2]; rfl⟩) (show XT L cl ln L cl ln from XT.refl) (show fT [1, 24, 1002, 25, 1003, 6, 36, 7, 37] L cl iv rv iv rv from fT.refl) (fun hph tsk2 tsk3 tsk4 tsk5 tsk6 tsk7 tsk8 tsk9 tsk10 tsk13 tsk14 tsk15 tsk16 tsk17 tsk22 tsk23 tsk24 tsk25 hX0 hF0 => ?_)
  refine c_aload_n (j := 0) (x := a0) C dX11_parts_0 rfl ?_
  obtain ⟨rb1, rq1, trb1⟩ := hW.ref t_a0 4 rfl rfl rfl
  have erb1 := hW.sk trb1 (by decide) rfl
  subst erb1
  refine c_getr (k := 4) C ck_12 dX11_parts_1 w2_48 (by decide) t_a0 rfl rfl (by decide) rfl rq1 ?_
  refine c_st (st2 := [.ref (sk 13)]) rfl ?_
  refine c_iload_n (j := 1) C dX11_parts_4 rfl ?_
  refine d_callV (As := [.int (iI i)]) (rest := []) C hM (C_whole (a0 := (sk 13)) (i := i) hW hS tsk13 (by omega) hmr) dX11_parts_5 kV_X11_231 rfl tsk13 rfl rfl (by decide) ck_11 rfl (Nat.le_of_ble_eq_true rfl) ⟨(Nat.le_of_ble_eq_true rfl), (Nat.le_of_ble_eq_true rfl)⟩ hph hph (show 0 + 0 = 0 from rfl) (by decide) (fun rh1 Lh1 clh1 lnh1 ivh1 rvh1 h1 => ?_)
  obtain ⟨f1, rfl, rfl, rfl, rfl, rfl, rfl, rgf1, exf1⟩ := h1
  refine c_st (st2 := [(va_rf f1)]) rfl ?_
  refine c_astorer (r := f1) (lv2 := [(4, (va_rf f1)), (0, .ref a0), (1, .int (iI i)), (2, .int (iI j)), (3, .int (iI k))]) C dX11_parts_8 (by decide) rfl ?_
  refine c_aloadr (j := 0) (r := f1) C dX11_parts_10 rfl ?_
  refine c_ifnonnull (r := f1) (tgt := 21) C dX11_parts_12 (by decide) (fun ob1 oq1 => ?_) (fun oq1 => ?_)
  · subst oq1
    have tob1 := rgf1 ob1 rfl
    refine c_lv (lv2 := [(4, .ref ob1), (0, .ref a0), (1, .int (iI i)), (2, .int (iI j)), (3, .int (iI k))]) [0, 1, 2, 3, 4] rfl ?_
    refine c_st (st2 := []) rfl ?_
    refine c_aload_n (j := 1) (x := a0) C dX11_parts_21 rfl ?_
    obtain ⟨rb2, rq2, trb2⟩ := hW.ref t_a0 7 rfl rfl rfl
    have erb2 := hW.sk trb2 (by decide) rfl
    subst erb2
    refine c_getr (k := 7) C ck_12 dX11_parts_22 w2_51 (by decide) t_a0 rfl rfl (by decide) rfl rq2 ?_
    refine c_st (st2 := [.ref (sk 16)]) rfl ?_
    refine c_aload (j := 0) (x := ob1) C dX11_parts_25 rfl ?_
    refine d_callV (As := [.ref ob1]) (rest := []) C hM (C_gather (a0 := (sk 16)) (a1 := ob1) hW hS tsk16 tob1  ) dX11_parts_27 kV_X11_331 rfl tsk16 rfl rfl (by decide) ck_4 rfl (Nat.le_of_ble_eq_true rfl) ⟨(Nat.le_of_ble_eq_true rfl), (Nat.le_of_ble_eq_true rfl)⟩ hph hph (show 0 + 0 = 0 from rfl) (by decide) (fun rh2 Lh2 clh2 lnh2 ivh2 rvh2 h2 => ?_)
    obtain ⟨rfl, xl2, fl2, W2, exf2⟩ := h2
    refine hv4 (hF0.call hX0 fl2 rfl) (MRK.call hmr hW hS xl2 fl2 rfl rfl) (hX0.trans xl2) (xl2.skl hS) (fun F1 mr1 X1 sk1 => ?_)
    refine c_st (st2 := []) rfl ?_
    refine c_aload_n (j := 1) (x := a0) C dX11_parts_30 rfl ?_
    refine hv2 (xl2.ty t_a0) (show rvh2 a0 7 = rv a0 7 from (fl2.r t_a0 rfl 7)) (fun ty1 re1 => ?_)
    rw [rq2] at re1
    refine c_getr (k := 7) C ck_12 dX11_parts_31 w2_51 (by decide) ty1 rfl rfl (by decide) rfl re1 ?_
    refine c_st (st2 := [.ref (sk 16)]) rfl ?_
    have ty2 := xl2.ty tsk16
    obtain ⟨rb3, rq3, trb3⟩ := W2.ref ty2 0 rfl rfl rfl
    have erb3 := W2.sk trb3 (by decide) rfl
    subst erb3
    refine c_getr (k := 0) C ck_4 dX11_parts_34 w1_192 (by decide) ty2 rfl rfl (by decide) rfl rq3 ?_
    refine c_st (st2 := [.ref (sk 24)]) rfl ?_
    refine hv2 (xl2.ty tsk24) (Phi.le W2 sk1) (fun ty3 pl1 => ?_)
    have ri1 : 0 ≤ ivh2 (sk 24) 2 ∧ ivh2 (sk 24) 2 ≤ 6003 := W2.int ty3 2
    refine d_callV (As := []) (rest := []) C hM (C_size_24 (a0 := (sk 24)) W2 sk1 ty3  ) dX11_parts_37 kV_X11_183 rfl ty3 rfl rfl (by decide) ck_0 rfl (Nat.le_of_ble_eq_true rfl) ⟨(Nat.le_of_ble_eq_true rfl), (Nat.le_of_ble_eq_true rfl)⟩ hph pl1 (show 0 + 0 = 0 from rfl) (by decide) (fun rh3 Lh3 clh3 lnh3 ivh3 rvh3 h3 => ?_)
    obtain ⟨f3, rfl, rfl, rfl, rfl, rfl, rfl, rgf3, exf3⟩ := h3
    refine c_st (st2 := [.int (iI f3)]) rfl ?_
    have gf3 : f3 = ivh2 (sk 24) 2 := exf3
    refine c_istore (lv2 := [(5, .int (iI f3)), (4, .ref ob1), (0, .ref a0), (1, .int (iI i)), (2, .int (iI j)), (3, .int (iI k))]) C dX11_parts_40 (by decide) rfl ?_
    refine c_iload_n (j := 4) C dX11_parts_42 rfl ?_
    refine c_if_lt (tgt := 62) C ⟨by omega, by omega⟩ dX11_parts_43 (by decide) (fun c1 => ?_) (fun c1 => ?_)
    · refine c_aload_n (j := 2) (x := a0) C dX11_parts_62 rfl ?_
      refine c_iconst C dX11_parts_63 ?_
      refine d_callV (As := [.int (iI 2)]) (rest := []) C hM (C_refuse (a0 := a0) (x := 2) W2 sk1 ty1 ⟨by decide, by decide⟩ ) dX11_parts_64 kV_X11_102 rfl ty1 rfl rfl (by decide) ck_12 rfl (Nat.le_of_ble_eq_true rfl) ⟨(Nat.le_of_ble_eq_true rfl), (Nat.le_of_ble_eq_true rfl)⟩ hph pl1 (show 0 + 0 = 0 from rfl) (by decide) (fun rh4 Lh4 clh4 lnh4 ivh4 rvh4 h4 => ?_)
      obtain ⟨f4, rfl, rfl, rfl, rfl, rfl, fl4, W4, rgf4, exf4, kp11f4, kp12f4, kp13f4, kp14f4, kp15f4, kp16f4⟩ := h4
      refine hv14 (show 1 ≤ ivh2 a0 11 ∧ ivh2 a0 11 ≤ 100 from W2.int ty1 11) (show ivh2 a0 11 = iv a0 11 from fl2.i t_a0 rfl 11) (show 1 ≤ ivh2 a0 12 ∧ ivh2 a0 12 ≤ 50 from W2.int ty1 12) (show ivh2 a0 12 = iv a0 12 from fl2.i t_a0 rfl 12) (show (-2147483648) ≤ ivh2 a0 13 ∧ ivh2 a0 13 ≤ 2147483647 from W2.int ty1 13) (show ivh2 a0 13 = iv a0 13 from fl2.i t_a0 rfl 13) (show (-2147483648) ≤ ivh2 a0 14 ∧ ivh2 a0 14 ≤ 2147483647 from W2.int ty1 14) (show ivh2 a0 14 = iv a0 14 from fl2.i t_a0 rfl 14) (show (-2147483648) ≤ ivh2 a0 15 ∧ ivh2 a0 15 ≤ 2147483647 from W2.int ty1 15) (show ivh2 a0 15 = iv a0 15 from fl2.i t_a0 rfl 15) (show (-2147483648) ≤ ivh2 a0 16 ∧ ivh2 a0 16 ≤ 2147483647 from W2.int ty1 16) (show ivh2 a0 16 = iv a0 16 from fl2.i t_a0 rfl 16) (F1.call X1 fl4 rfl) (MRK.call mr1 W2 sk1 XT.refl fl4 rfl rfl) (fun ri2 ie2 ri3 ie3 ri4 ie4 ri5 ie5 ri6 ie6 ri7 ie7 F2 mr2 => ?_)
      refine c_st (st2 := [.int (iI f4)]) rfl ?_
      refine hv13 (show ivh4 a0 11 = ivh2 a0 11 from kp11f4) (show ivh4 a0 12 = ivh2 a0 12 from kp12f4) (show ivh4 a0 13 = ivh2 a0 13 from kp13f4) (show ivh4 a0 14 = ivh2 a0 14 from kp14f4) (show ivh4 a0 15 = ivh2 a0 15 from kp15f4) (show ivh4 a0 16 = ivh2 a0 16 from kp16f4) (show f4 = -1 from exf4) (show 1 ≤ ivh4 a0 11 ∧ ivh4 a0 11 ≤ 100 from W4.int ty1 11) (show 1 ≤ ivh4 a0 12 ∧ ivh4 a0 12 ≤ 50 from W4.int ty1 12) (show (-2147483648) ≤ ivh4 a0 13 ∧ ivh4 a0 13 ≤ 2147483647 from W4.int ty1 13) (show (-2147483648) ≤ ivh4 a0 14 ∧ ivh4 a0 14 ≤ 2147483647 from W4.int ty1 14) (show (-2147483648) ≤ ivh4 a0 15 ∧ ivh4 a0 15 ≤ 2147483647 from W4.int ty1 15) (show (-2147483648) ≤ ivh4 a0 16 ∧ ivh4 a0 16 ≤ 2147483647 from W4.int ty1 16) (fun gk11f4 gk12f4 gk13f4 gk14f4 gk15f4 gk16f4 gf4 ri8 ri9 ri10 ri11 ri12 ri13 => ?_)
      exact c_iret C dX11_parts_67 rfl (by decide) (rom0 hph pl1 (by decide)) ⟨f4, rfl, X1, F2, W4, ⟨by omega, by omega⟩, trivial, (gk11f4.trans ie2), (gk12f4.trans ie3), (gk13f4.trans ie4), (gk14f4.trans ie5), (gk15f4.trans ie6), (gk16f4.trans ie7), (show rvh2 a0 9 = rv a0 9 from (fl2.r t_a0 rfl 9)), (show rvh2 a0 10 = rv a0 10 from (fl2.r t_a0 rfl 10))⟩
    · refine c_iload_n (j := 4) C dX11_parts_46 rfl ?_
      refine c_iload (j := 0) C dX11_parts_47 rfl ?_
      refine c_icmp_ge (tgt := 62) C ⟨by omega, by omega⟩ ⟨by omega, by omega⟩ dX11_parts_49 (by decide) (fun c2 => ?_) (fun c2 => ?_)
      · refine c_aload_n (j := 2) (x := a0) C dX11_parts_62 rfl ?_
        refine c_iconst C dX11_parts_63 ?_
        refine d_callV (As := [.int (iI 2)]) (rest := []) C hM (C_refuse (a0 := a0) (x := 2) W2 sk1 ty1 ⟨by decide, by decide⟩ ) dX11_parts_64 kV_X11_102 rfl ty1 rfl rfl (by decide) ck_12 rfl (Nat.le_of_ble_eq_true rfl) ⟨(Nat.le_of_ble_eq_true rfl), (Nat.le_of_ble_eq_true rfl)⟩ hph pl1 (show 0 + 0 = 0 from rfl) (by decide) (fun rh5 Lh5 clh5 lnh5 ivh5 rvh5 h5 => ?_)
        obtain ⟨f5, rfl, rfl, rfl, rfl, rfl, fl5, W5, rgf5, exf5, kp11f5, kp12f5, kp13f5, kp14f5, kp15f5, kp16f5⟩ := h5
        refine hv14 (show 1 ≤ ivh2 a0 11 ∧ ivh2 a0 11 ≤ 100 from W2.int ty1 11) (show ivh2 a0 11 = iv a0 11 from fl2.i t_a0 rfl 11) (show 1 ≤ ivh2 a0 12 ∧ ivh2 a0 12 ≤ 50 from W2.int ty1 12) (show ivh2 a0 12 = iv a0 12 from fl2.i t_a0 rfl 12) (show (-2147483648) ≤ ivh2 a0 13 ∧ ivh2 a0 13 ≤ 2147483647 from W2.int ty1 13) (show ivh2 a0 13 = iv a0 13 from fl2.i t_a0 rfl 13) (show (-2147483648) ≤ ivh2 a0 14 ∧ ivh2 a0 14 ≤ 2147483647 from W2.int ty1 14) (show ivh2 a0 14 = iv a0 14 from fl2.i t_a0 rfl 14) (show (-2147483648) ≤ ivh2 a0 15 ∧ ivh2 a0 15 ≤ 2147483647 from W2.int ty1 15) (show ivh2 a0 15 = iv a0 15 from fl2.i t_a0 rfl 15) (show (-2147483648) ≤ ivh2 a0 16 ∧ ivh2 a0 16 ≤ 2147483647 from W2.int ty1 16) (show ivh2 a0 16 = iv a0 16 from fl2.i t_a0 rfl 16) (F1.call X1 fl5 rfl) (MRK.call mr1 W2 sk1 XT.refl fl5 rfl rfl) (fun ri14 ie14 ri15 ie15 ri16 ie16 ri17 ie17 ri18 ie18 ri19 ie19 F3 mr3 => ?_)
        refine c_st (st2 := [.int (iI f5)]) rfl ?_
        refine hv13 (show ivh5 a0 11 = ivh2 a0 11 from kp11f5) (show ivh5 a0 12 = ivh2 a0 12 from kp12f5) (show ivh5 a0 13 = ivh2 a0 13 from kp13f5) (show ivh5 a0 14 = ivh2 a0 14 from kp14f5) (show ivh5 a0 15 = ivh2 a0 15 from kp15f5) (show ivh5 a0 16 = ivh2 a0 16 from kp16f5) (show f5 = -1 from exf5) (show 1 ≤ ivh5 a0 11 ∧ ivh5 a0 11 ≤ 100 from W5.int ty1 11) (show 1 ≤ ivh5 a0 12 ∧ ivh5 a0 12 ≤ 50 from W5.int ty1 12) (show (-2147483648) ≤ ivh5 a0 13 ∧ ivh5 a0 13 ≤ 2147483647 from W5.int ty1 13) (show (-2147483648) ≤ ivh5 a0 14 ∧ ivh5 a0 14 ≤ 2147483647 from W5.int ty1 14) (show (-2147483648) ≤ ivh5 a0 15 ∧ ivh5 a0 15 ≤ 2147483647 from W5.int ty1 15) (show (-2147483648) ≤ ivh5 a0 16 ∧ ivh5 a0 16 ≤ 2147483647 from W5.int ty1 16) (fun gk11f5 gk12f5 gk13f5 gk14f5 gk15f5 gk16f5 gf5 ri20 ri21 ri22 ri23 ri24 ri25 => ?_)
        exact c_iret C dX11_parts_67 rfl (by decide) (rom0 hph pl1 (by decide)) ⟨f5, rfl, X1, F3, W5, ⟨by omega, by omega⟩, trivial, (gk11f5.trans ie14), (gk12f5.trans ie15), (gk13f5.trans ie16), (gk14f5.trans ie17), (gk15f5.trans ie18), (gk16f5.trans ie19), (show rvh2 a0 9 = rv a0 9 from (fl2.r t_a0 rfl 9)), (show rvh2 a0 10 = rv a0 10 from (fl2.r t_a0 rfl 10))⟩
      · refine c_iload_n (j := 5) C dX11_parts_52 rfl ?_
        refine c_if_lt (tgt := 62) C ⟨by omega, by omega⟩ dX11_parts_53 (by decide) (fun c3 => ?_) (fun c3 => ?_)
        · refine c_aload_n (j := 2) (x := a0) C dX11_parts_62 rfl ?_
          refine c_iconst C dX11_parts_63 ?_
          refine d_callV (As := [.int (iI 2)]) (rest := []) C hM (C_refuse (a0 := a0) (x := 2) W2 sk1 ty1 ⟨by decide, by decide⟩ ) dX11_parts_64 kV_X11_102 rfl ty1 rfl rfl (by decide) ck_12 rfl (Nat.le_of_ble_eq_true rfl) ⟨(Nat.le_of_ble_eq_true rfl), (Nat.le_of_ble_eq_true rfl)⟩ hph pl1 (show 0 + 0 = 0 from rfl) (by decide) (fun rh6 Lh6 clh6 lnh6 ivh6 rvh6 h6 => ?_)
          obtain ⟨f6, rfl, rfl, rfl, rfl, rfl, fl6, W6, rgf6, exf6, kp11f6, kp12f6, kp13f6, kp14f6, kp15f6, kp16f6⟩ := h6
          refine hv14 (show 1 ≤ ivh2 a0 11 ∧ ivh2 a0 11 ≤ 100 from W2.int ty1 11) (show ivh2 a0 11 = iv a0 11 from fl2.i t_a0 rfl 11) (show 1 ≤ ivh2 a0 12 ∧ ivh2 a0 12 ≤ 50 from W2.int ty1 12) (show ivh2 a0 12 = iv a0 12 from fl2.i t_a0 rfl 12) (show (-2147483648) ≤ ivh2 a0 13 ∧ ivh2 a0 13 ≤ 2147483647 from W2.int ty1 13) (show ivh2 a0 13 = iv a0 13 from fl2.i t_a0 rfl 13) (show (-2147483648) ≤ ivh2 a0 14 ∧ ivh2 a0 14 ≤ 2147483647 from W2.int ty1 14) (show ivh2 a0 14 = iv a0 14 from fl2.i t_a0 rfl 14) (show (-2147483648) ≤ ivh2 a0 15 ∧ ivh2 a0 15 ≤ 2147483647 from W2.int ty1 15) (show ivh2 a0 15 = iv a0 15 from fl2.i t_a0 rfl 15) (show (-2147483648) ≤ ivh2 a0 16 ∧ ivh2 a0 16 ≤ 2147483647 from W2.int ty1 16) (show ivh2 a0 16 = iv a0 16 from fl2.i t_a0 rfl 16) (F1.call X1 fl6 rfl) (MRK.call mr1 W2 sk1 XT.refl fl6 rfl rfl) (fun ri26 ie26 ri27 ie27 ri28 ie28 ri29 ie29 ri30 ie30 ri31 ie31 F4 mr4 => ?_)
          refine c_st (st2 := [.int (iI f6)]) rfl ?_
          refine hv13 (show ivh6 a0 11 = ivh2 a0 11 from kp11f6) (show ivh6 a0 12 = ivh2 a0 12 from kp12f6) (show ivh6 a0 13 = ivh2 a0 13 from kp13f6) (show ivh6 a0 14 = ivh2 a0 14 from kp14f6) (show ivh6 a0 15 = ivh2 a0 15 from kp15f6) (show ivh6 a0 16 = ivh2 a0 16 from kp16f6) (show f6 = -1 from exf6) (show 1 ≤ ivh6 a0 11 ∧ ivh6 a0 11 ≤ 100 from W6.int ty1 11) (show 1 ≤ ivh6 a0 12 ∧ ivh6 a0 12 ≤ 50 from W6.int ty1 12) (show (-2147483648) ≤ ivh6 a0 13 ∧ ivh6 a0 13 ≤ 2147483647 from W6.int ty1 13) (show (-2147483648) ≤ ivh6 a0 14 ∧ ivh6 a0 14 ≤ 2147483647 from W6.int ty1 14) (show (-2147483648) ≤ ivh6 a0 15 ∧ ivh6 a0 15 ≤ 2147483647 from W6.int ty1 15) (show (-2147483648) ≤ ivh6 a0 16 ∧ ivh6 a0 16 ≤ 2147483647 from W6.int ty1 16) (fun gk11f6 gk12f6 gk13f6 gk14f6 gk15f6 gk16f6 gf6 ri32 ri33 ri34 ri35 ri36 ri37 => ?_)
          exact c_iret C dX11_parts_67 rfl (by decide) (rom0 hph pl1 (by decide)) ⟨f6, rfl, X1, F4, W6, ⟨by omega, by omega⟩, trivial, (gk11f6.trans ie26), (gk12f6.trans ie27), (gk13f6.trans ie28), (gk14f6.trans ie29), (gk15f6.trans ie30), (gk16f6.trans ie31), (show rvh2 a0 9 = rv a0 9 from (fl2.r t_a0 rfl 9)), (show rvh2 a0 10 = rv a0 10 from (fl2.r t_a0 rfl 10))⟩
        · refine c_iload_n (j := 5) C dX11_parts_56 rfl ?_
          refine c_iload (j := 0) C dX11_parts_57 rfl ?_
          refine c_icmp_lt (tgt := 68) C ⟨by omega, by omega⟩ ⟨by omega, by omega⟩ dX11_parts_59 (by decide) (fun c4 => ?_) (fun c4 => ?_)
          · refine c_aload_n (j := 2) (x := a0) C dX11_parts_68 rfl ?_
            refine c_getr (k := 7) C ck_12 dX11_parts_69 w2_51 (by decide) ty1 rfl rfl (by decide) rfl re1 ?_
            refine c_st (st2 := [.ref (sk 16)]) rfl ?_
            refine c_getr (k := 0) C ck_4 dX11_parts_72 w1_192 (by decide) ty2 rfl rfl (by decide) rfl rq3 ?_
            refine c_st (st2 := [.ref (sk 24)]) rfl ?_
            refine c_iload_n (j := 4) C dX11_parts_75 rfl ?_
            refine d_callV (As := [.int (iI j)]) (rest := []) C hM (C_get_24 (a0 := (sk 24)) (i := j) W2 sk1 ty3 (by omega) (by show 0 ≤ j ∧ j < ivh2 (sk 24) 2; omega)) dX11_parts_76 kV_X11_204 rfl ty3 rfl rfl (by decide) ck_0 rfl (Nat.le_of_ble_eq_true rfl) ⟨(Nat.le_of_ble_eq_true rfl), (Nat.le_of_ble_eq_true rfl)⟩ hph pl1 (show 0 + 0 = 0 from rfl) (by decide) (fun rh7 Lh7 clh7 lnh7 ivh7 rvh7 h7 => ?_)
            obtain ⟨f7, rfl, rfl, rfl, rfl, rfl, rfl, rgf7, exf7⟩ := h7
            refine c_st (st2 := [.ref f7]) rfl ?_
            have gf7 : el rvh2 (sk 24) j.toNat = some f7 := exf7
            refine c_cast C ck_6 dX11_parts_79 w3_125 w8_169t rgf7 rfl rfl (by decide) ?_
            refine c_astore (lv2 := [(6, .ref f7), (5, .int (iI f3)), (4, .ref ob1), (0, .ref a0), (1, .int (iI i)), (2, .int (iI j)), (3, .int (iI k))]) C dX11_parts_82 (by decide) rfl ?_
            refine c_aload_n (j := 3) (x := a0) C dX11_parts_84 rfl ?_
            refine c_getr (k := 7) C ck_12 dX11_parts_85 w2_51 (by decide) ty1 rfl rfl (by decide) rfl re1 ?_
            refine c_st (st2 := [.ref (sk 16)]) rfl ?_
            refine c_getr (k := 0) C ck_4 dX11_parts_88 w1_192 (by decide) ty2 rfl rfl (by decide) rfl rq3 ?_
            refine c_st (st2 := [.ref (sk 24)]) rfl ?_
            refine c_iload_n (j := 6) C dX11_parts_91 rfl ?_
            refine d_callV (As := [.int (iI k)]) (rest := []) C hM (C_get_24 (a0 := (sk 24)) (i := k) W2 sk1 ty3 (by omega) (by show 0 ≤ k ∧ k < ivh2 (sk 24) 2; omega)) dX11_parts_92 kV_X11_204 rfl ty3 rfl rfl (by decide) ck_0 rfl (Nat.le_of_ble_eq_true rfl) ⟨(Nat.le_of_ble_eq_true rfl), (Nat.le_of_ble_eq_true rfl)⟩ hph pl1 (show 0 + 0 = 0 from rfl) (by decide) (fun rh8 Lh8 clh8 lnh8 ivh8 rvh8 h8 => ?_)
            obtain ⟨f8, rfl, rfl, rfl, rfl, rfl, rfl, rgf8, exf8⟩ := h8
            refine c_st (st2 := [.ref f8]) rfl ?_
            have gf8 : el rvh2 (sk 24) k.toNat = some f8 := exf8
            refine c_cast C ck_6 dX11_parts_95 w3_125 w8_169t rgf8 rfl rfl (by decide) ?_
            refine c_astore (lv2 := [(7, .ref f8), (6, .ref f7), (5, .int (iI f3)), (4, .ref ob1), (0, .ref a0), (1, .int (iI i)), (2, .int (iI j)), (3, .int (iI k))]) C dX11_parts_98 (by decide) rfl ?_
            refine c_aload (j := 1) (x := f7) C dX11_parts_100 rfl ?_
            refine c_aload (j := 0) (x := f8) C dX11_parts_102 rfl ?_
            refine d_callV (As := [.ref f8]) (rest := []) C hM (C_alike (a0 := f7) (a1 := f8) W2 sk1 rgf7 rgf8  ) dX11_parts_104 kV_X11_380 rfl rgf7 rfl rfl (by decide) ck_6 rfl (Nat.le_of_ble_eq_true rfl) ⟨(Nat.le_of_ble_eq_true rfl), (Nat.le_of_ble_eq_true rfl)⟩ hph pl1 (show 0 + 0 = 0 from rfl) (by decide) (fun rh9 Lh9 clh9 lnh9 ivh9 rvh9 h9 => ?_)
            obtain ⟨f9, rfl, rfl, rfl, rfl, rfl, rfl, rgf9, exf9⟩ := h9
            refine c_st (st2 := [.int (iI f9)]) rfl ?_
            have gf9 : 0 ≤ f9 ∧ f9 ≤ 4 := exf9
            refine c_istore (lv2 := [(8, .int (iI f9)), (7, .ref f8), (6, .ref f7), (5, .int (iI f3)), (4, .ref ob1), (0, .ref a0), (1, .int (iI i)), (2, .int (iI j)), (3, .int (iI k))]) C dX11_parts_107 (by decide) rfl ?_
            refine c_iload (j := 0) C dX11_parts_109 rfl ?_
            refine c_aload (j := 2) (x := f7) C dX11_parts_111 rfl ?_
            obtain ⟨rb4, rq4, trb4⟩ := W2.ref rgf7 2 rfl rfl rfl
            have lnrb4 : 1 ≤ lnh2 rb4 ∧ lnh2 rb4 ≤ 4 := W2.len trb4 rfl
            refine c_getr (k := 2) C ck_6 dX11_parts_113 w3_146 (by decide) rgf7 rfl rfl (by decide) rfl rq4 ?_
            refine c_st (st2 := [.ref rb4, .int (iI f9)]) rfl ?_
            have ll1 : 1 ≤ lnh2 rb4 ∧ lnh2 rb4 ≤ 4 := W2.len trb4 rfl
            refine c_alenI C dX11_parts_116 trb4 rfl ?_
            refine c_icmp_eq (tgt := 131) C (r32_c (lo := 0) (hi := 4) gf9.1 gf9.2 (by decide) (by decide)) ⟨by omega, by omega⟩ dX11_parts_117 (by decide) (fun c5 => ?_) (fun c5 => ?_)
            · refine c_iconst C dX11_parts_131 ?_
              refine c_goto (tgt := 136) C dX11_parts_132 (by decide) ?_
              refine c_istore (lv2 := [(9, .int (iI 1)), (8, .int (iI f9)), (7, .ref f8), (6, .ref f7), (5, .int (iI f3)), (4, .ref ob1), (0, .ref a0), (1, .int (iI i)), (2, .int (iI j)), (3, .int (iI k))]) C dX11_parts_136 (by decide) rfl ?_
              refine c_aload_n (j := 6) (x := a0) C dX11_parts_138 rfl ?_
              refine c_iload (j := 0) C dX11_parts_139 rfl ?_
              refine c_if_eq (tgt := 151) C ⟨by decide, by decide⟩ dX11_parts_141 (by decide) (fun z => absurd z (by omega)) (fun _ => ?_)
              refine c_iconst C dX11_parts_144 ?_
              refine c_iload (j := 1) C dX11_parts_145 rfl ?_
              refine c_isub C dX11_parts_147 ?_
              refine c_goto (tgt := 153) C dX11_parts_148 (by decide) ?_
              refine d_callV (As := [.int (iI ((-1) - f9))]) (rest := []) C hM (C_done (a0 := a0) (x := (-1) - f9) W2 sk1 ty1 (by omega) ) dX11_parts_153 kV_X11_109 rfl ty1 rfl rfl (by decide) ck_12 rfl (Nat.le_of_ble_eq_true rfl) ⟨(Nat.le_of_ble_eq_true rfl), (Nat.le_of_ble_eq_true rfl)⟩ hph pl1 (show 0 + 0 = 0 from rfl) (by decide) (fun rh10 Lh10 clh10 lnh10 ivh10 rvh10 h10 => ?_)
              obtain ⟨f10, rfl, rfl, rfl, rfl, rfl, fl10, W10, rgf10, exf10, kp11f10, kp12f10, kp13f10, kp14f10, kp15f10, kp16f10⟩ := h10
              refine hv14 (show 1 ≤ ivh2 a0 11 ∧ ivh2 a0 11 ≤ 100 from W2.int ty1 11) (show ivh2 a0 11 = iv a0 11 from fl2.i t_a0 rfl 11) (show 1 ≤ ivh2 a0 12 ∧ ivh2 a0 12 ≤ 50 from W2.int ty1 12) (show ivh2 a0 12 = iv a0 12 from fl2.i t_a0 rfl 12) (show (-2147483648) ≤ ivh2 a0 13 ∧ ivh2 a0 13 ≤ 2147483647 from W2.int ty1 13) (show ivh2 a0 13 = iv a0 13 from fl2.i t_a0 rfl 13) (show (-2147483648) ≤ ivh2 a0 14 ∧ ivh2 a0 14 ≤ 2147483647 from W2.int ty1 14) (show ivh2 a0 14 = iv a0 14 from fl2.i t_a0 rfl 14) (show (-2147483648) ≤ ivh2 a0 15 ∧ ivh2 a0 15 ≤ 2147483647 from W2.int ty1 15) (show ivh2 a0 15 = iv a0 15 from fl2.i t_a0 rfl 15) (show (-2147483648) ≤ ivh2 a0 16 ∧ ivh2 a0 16 ≤ 2147483647 from W2.int ty1 16) (show ivh2 a0 16 = iv a0 16 from fl2.i t_a0 rfl 16) (F1.call X1 fl10 rfl) (MRK.call mr1 W2 sk1 XT.refl fl10 rfl rfl) (fun ri38 ie38 ri39 ie39 ri40 ie40 ri41 ie41 ri42 ie42 ri43 ie43 F5 mr5 => ?_)
              refine c_st (st2 := [.int (iI f10)]) rfl ?_
              refine hv13 (show ivh10 a0 11 = ivh2 a0 11 from kp11f10) (show ivh10 a0 12 = ivh2 a0 12 from kp12f10) (show ivh10 a0 13 = ivh2 a0 13 from kp13f10) (show ivh10 a0 14 = ivh2 a0 14 from kp14f10) (show ivh10 a0 15 = ivh2 a0 15 from kp15f10) (show ivh10 a0 16 = ivh2 a0 16 from kp16f10) (show f10 = ((-1) - f9) from exf10) (show 1 ≤ ivh10 a0 11 ∧ ivh10 a0 11 ≤ 100 from W10.int ty1 11) (show 1 ≤ ivh10 a0 12 ∧ ivh10 a0 12 ≤ 50 from W10.int ty1 12) (show (-2147483648) ≤ ivh10 a0 13 ∧ ivh10 a0 13 ≤ 2147483647 from W10.int ty1 13) (show (-2147483648) ≤ ivh10 a0 14 ∧ ivh10 a0 14 ≤ 2147483647 from W10.int ty1 14) (show (-2147483648) ≤ ivh10 a0 15 ∧ ivh10 a0 15 ≤ 2147483647 from W10.int ty1 15) (show (-2147483648) ≤ ivh10 a0 16 ∧ ivh10 a0 16 ≤ 2147483647 from W10.int ty1 16) (fun gk11f10 gk12f10 gk13f10 gk14f10 gk15f10 gk16f10 gf10 ri44 ri45 ri46 ri47 ri48 ri49 => ?_)
              exact c_iret C dX11_parts_156 rfl (by decide) (rom0 hph pl1 (by decide)) ⟨f10, rfl, X1, F5, W10, ⟨by omega, by omega⟩, trivial, (gk11f10.trans ie38), (gk12f10.trans ie39), (gk13f10.trans ie40), (gk14f10.trans ie41), (gk15f10.trans ie42), (gk16f10.trans ie43), (show rvh2 a0 9 = rv a0 9 from (fl2.r t_a0 rfl 9)), (show rvh2 a0 10 = rv a0 10 from (fl2.r t_a0 rfl 10))⟩
            · refine c_iload (j := 0) C dX11_parts_120 rfl ?_
              refine c_aload (j := 1) (x := f8) C dX11_parts_122 rfl ?_
              obtain ⟨rb5, rq5, trb5⟩ := W2.ref rgf8 2 rfl rfl rfl
              have lnrb5 : 1 ≤ lnh2 rb5 ∧ lnh2 rb5 ≤ 4 := W2.len trb5 rfl
              refine c_getr (k := 2) C ck_6 dX11_parts_124 w3_146 (by decide) rgf8 rfl rfl (by decide) rfl rq5 ?_
              refine c_st (st2 := [.ref rb5, .int (iI f9)]) rfl ?_
              have ll2 : 1 ≤ lnh2 rb5 ∧ lnh2 rb5 ≤ 4 := W2.len trb5 rfl
              refine c_alenI C dX11_parts_127 trb5 rfl ?_
              refine c_icmp_ne (tgt := 135) C (r32_c (lo := 0) (hi := 4) gf9.1 gf9.2 (by decide) (by decide)) ⟨by omega, by omega⟩ dX11_parts_128 (by decide) (fun c6 => ?_) (fun c6 => ?_)
              · refine c_iconst C dX11_parts_135 ?_
                refine c_istore (lv2 := [(9, .int (iI 0)), (8, .int (iI f9)), (7, .ref f8), (6, .ref f7), (5, .int (iI f3)), (4, .ref ob1), (0, .ref a0), (1, .int (iI i)), (2, .int (iI j)), (3, .int (iI k))]) C dX11_parts_136 (by decide) rfl ?_
                refine c_aload_n (j := 6) (x := a0) C dX11_parts_138 rfl ?_
                refine c_iload (j := 0) C dX11_parts_139 rfl ?_
                refine c_if_eq (tgt := 151) C ⟨by decide, by decide⟩ dX11_parts_141 (by decide) (fun _ => ?_) (fun z => absurd z (by omega))
                refine c_iload (j := 1) C dX11_parts_151 rfl ?_
                refine d_callV (As := [.int (iI f9)]) (rest := []) C hM (C_done (a0 := a0) (x := f9) W2 sk1 ty1 (by omega) ) dX11_parts_153 kV_X11_109 rfl ty1 rfl rfl (by decide) ck_12 rfl (Nat.le_of_ble_eq_true rfl) ⟨(Nat.le_of_ble_eq_true rfl), (Nat.le_of_ble_eq_true rfl)⟩ hph pl1 (show 0 + 0 = 0 from rfl) (by decide) (fun rh11 Lh11 clh11 lnh11 ivh11 rvh11 h11 => ?_)
                obtain ⟨f11, rfl, rfl, rfl, rfl, rfl, fl11, W11, rgf11, exf11, kp11f11, kp12f11, kp13f11, kp14f11, kp15f11, kp16f11⟩ := h11
                refine hv14 (show 1 ≤ ivh2 a0 11 ∧ ivh2 a0 11 ≤ 100 from W2.int ty1 11) (show ivh2 a0 11 = iv a0 11 from fl2.i t_a0 rfl 11) (show 1 ≤ ivh2 a0 12 ∧ ivh2 a0 12 ≤ 50 from W2.int ty1 12) (show ivh2 a0 12 = iv a0 12 from fl2.i t_a0 rfl 12) (show (-2147483648) ≤ ivh2 a0 13 ∧ ivh2 a0 13 ≤ 2147483647 from W2.int ty1 13) (show ivh2 a0 13 = iv a0 13 from fl2.i t_a0 rfl 13) (show (-2147483648) ≤ ivh2 a0 14 ∧ ivh2 a0 14 ≤ 2147483647 from W2.int ty1 14) (show ivh2 a0 14 = iv a0 14 from fl2.i t_a0 rfl 14) (show (-2147483648) ≤ ivh2 a0 15 ∧ ivh2 a0 15 ≤ 2147483647 from W2.int ty1 15) (show ivh2 a0 15 = iv a0 15 from fl2.i t_a0 rfl 15) (show (-2147483648) ≤ ivh2 a0 16 ∧ ivh2 a0 16 ≤ 2147483647 from W2.int ty1 16) (show ivh2 a0 16 = iv a0 16 from fl2.i t_a0 rfl 16) (F1.call X1 fl11 rfl) (MRK.call mr1 W2 sk1 XT.refl fl11 rfl rfl) (fun ri50 ie50 ri51 ie51 ri52 ie52 ri53 ie53 ri54 ie54 ri55 ie55 F6 mr6 => ?_)
                refine c_st (st2 := [.int (iI f11)]) rfl ?_
                refine hv13 (show ivh11 a0 11 = ivh2 a0 11 from kp11f11) (show ivh11 a0 12 = ivh2 a0 12 from kp12f11) (show ivh11 a0 13 = ivh2 a0 13 from kp13f11) (show ivh11 a0 14 = ivh2 a0 14 from kp14f11) (show ivh11 a0 15 = ivh2 a0 15 from kp15f11) (show ivh11 a0 16 = ivh2 a0 16 from kp16f11) (show f11 = f9 from exf11) (show 1 ≤ ivh11 a0 11 ∧ ivh11 a0 11 ≤ 100 from W11.int ty1 11) (show 1 ≤ ivh11 a0 12 ∧ ivh11 a0 12 ≤ 50 from W11.int ty1 12) (show (-2147483648) ≤ ivh11 a0 13 ∧ ivh11 a0 13 ≤ 2147483647 from W11.int ty1 13) (show (-2147483648) ≤ ivh11 a0 14 ∧ ivh11 a0 14 ≤ 2147483647 from W11.int ty1 14) (show (-2147483648) ≤ ivh11 a0 15 ∧ ivh11 a0 15 ≤ 2147483647 from W11.int ty1 15) (show (-2147483648) ≤ ivh11 a0 16 ∧ ivh11 a0 16 ≤ 2147483647 from W11.int ty1 16) (fun gk11f11 gk12f11 gk13f11 gk14f11 gk15f11 gk16f11 gf11 ri56 ri57 ri58 ri59 ri60 ri61 => ?_)
                exact c_iret C dX11_parts_156 rfl (by decide) (rom0 hph pl1 (by decide)) ⟨f11, rfl, X1, F6, W11, ⟨by omega, by omega⟩, trivial, (gk11f11.trans ie50), (gk12f11.trans ie51), (gk13f11.trans ie52), (gk14f11.trans ie53), (gk15f11.trans ie54), (gk16f11.trans ie55), (show rvh2 a0 9 = rv a0 9 from (fl2.r t_a0 rfl 9)), (show rvh2 a0 10 = rv a0 10 from (fl2.r t_a0 rfl 10))⟩
              · refine c_iconst C dX11_parts_131 ?_
                refine c_goto (tgt := 136) C dX11_parts_132 (by decide) ?_
                refine c_istore (lv2 := [(9, .int (iI 1)), (8, .int (iI f9)), (7, .ref f8), (6, .ref f7), (5, .int (iI f3)), (4, .ref ob1), (0, .ref a0), (1, .int (iI i)), (2, .int (iI j)), (3, .int (iI k))]) C dX11_parts_136 (by decide) rfl ?_
                refine c_aload_n (j := 6) (x := a0) C dX11_parts_138 rfl ?_
                refine c_iload (j := 0) C dX11_parts_139 rfl ?_
                refine c_if_eq (tgt := 151) C ⟨by decide, by decide⟩ dX11_parts_141 (by decide) (fun z => absurd z (by omega)) (fun _ => ?_)
                refine c_iconst C dX11_parts_144 ?_
                refine c_iload (j := 1) C dX11_parts_145 rfl ?_
                refine c_isub C dX11_parts_147 ?_
                refine c_goto (tgt := 153) C dX11_parts_148 (by decide) ?_
                refine d_callV (As := [.int (iI ((-1) - f9))]) (rest := []) C hM (C_done (a0 := a0) (x := (-1) - f9) W2 sk1 ty1 (by omega) ) dX11_parts_153 kV_X11_109 rfl ty1 rfl rfl (by decide) ck_12 rfl (Nat.le_of_ble_eq_true rfl) ⟨(Nat.le_of_ble_eq_true rfl), (Nat.le_of_ble_eq_true rfl)⟩ hph pl1 (show 0 + 0 = 0 from rfl) (by decide) (fun rh12 Lh12 clh12 lnh12 ivh12 rvh12 h12 => ?_)
                obtain ⟨f12, rfl, rfl, rfl, rfl, rfl, fl12, W12, rgf12, exf12, kp11f12, kp12f12, kp13f12, kp14f12, kp15f12, kp16f12⟩ := h12
                refine hv14 (show 1 ≤ ivh2 a0 11 ∧ ivh2 a0 11 ≤ 100 from W2.int ty1 11) (show ivh2 a0 11 = iv a0 11 from fl2.i t_a0 rfl 11) (show 1 ≤ ivh2 a0 12 ∧ ivh2 a0 12 ≤ 50 from W2.int ty1 12) (show ivh2 a0 12 = iv a0 12 from fl2.i t_a0 rfl 12) (show (-2147483648) ≤ ivh2 a0 13 ∧ ivh2 a0 13 ≤ 2147483647 from W2.int ty1 13) (show ivh2 a0 13 = iv a0 13 from fl2.i t_a0 rfl 13) (show (-2147483648) ≤ ivh2 a0 14 ∧ ivh2 a0 14 ≤ 2147483647 from W2.int ty1 14) (show ivh2 a0 14 = iv a0 14 from fl2.i t_a0 rfl 14) (show (-2147483648) ≤ ivh2 a0 15 ∧ ivh2 a0 15 ≤ 2147483647 from W2.int ty1 15) (show ivh2 a0 15 = iv a0 15 from fl2.i t_a0 rfl 15) (show (-2147483648) ≤ ivh2 a0 16 ∧ ivh2 a0 16 ≤ 2147483647 from W2.int ty1 16) (show ivh2 a0 16 = iv a0 16 from fl2.i t_a0 rfl 16) (F1.call X1 fl12 rfl) (MRK.call mr1 W2 sk1 XT.refl fl12 rfl rfl) (fun ri62 ie62 ri63 ie63 ri64 ie64 ri65 ie65 ri66 ie66 ri67 ie67 F7 mr7 => ?_)
                refine c_st (st2 := [.int (iI f12)]) rfl ?_
                refine hv13 (show ivh12 a0 11 = ivh2 a0 11 from kp11f12) (show ivh12 a0 12 = ivh2 a0 12 from kp12f12) (show ivh12 a0 13 = ivh2 a0 13 from kp13f12) (show ivh12 a0 14 = ivh2 a0 14 from kp14f12) (show ivh12 a0 15 = ivh2 a0 15 from kp15f12) (show ivh12 a0 16 = ivh2 a0 16 from kp16f12) (show f12 = ((-1) - f9) from exf12) (show 1 ≤ ivh12 a0 11 ∧ ivh12 a0 11 ≤ 100 from W12.int ty1 11) (show 1 ≤ ivh12 a0 12 ∧ ivh12 a0 12 ≤ 50 from W12.int ty1 12) (show (-2147483648) ≤ ivh12 a0 13 ∧ ivh12 a0 13 ≤ 2147483647 from W12.int ty1 13) (show (-2147483648) ≤ ivh12 a0 14 ∧ ivh12 a0 14 ≤ 2147483647 from W12.int ty1 14) (show (-2147483648) ≤ ivh12 a0 15 ∧ ivh12 a0 15 ≤ 2147483647 from W12.int ty1 15) (show (-2147483648) ≤ ivh12 a0 16 ∧ ivh12 a0 16 ≤ 2147483647 from W12.int ty1 16) (fun gk11f12 gk12f12 gk13f12 gk14f12 gk15f12 gk16f12 gf12 ri68 ri69 ri70 ri71 ri72 ri73 => ?_)
                exact c_iret C dX11_parts_156 rfl (by decide) (rom0 hph pl1 (by decide)) ⟨f12, rfl, X1, F7, W12, ⟨by omega, by omega⟩, trivial, (gk11f12.trans ie62), (gk12f12.trans ie63), (gk13f12.trans ie64), (gk14f12.trans ie65), (gk15f12.trans ie66), (gk16f12.trans ie67), (show rvh2 a0 9 = rv a0 9 from (fl2.r t_a0 rfl 9)), (show rvh2 a0 10 = rv a0 10 from (fl2.r t_a0 rfl 10))⟩
          · refine c_aload_n (j := 2) (x := a0) C dX11_parts_62 rfl ?_
            refine c_iconst C dX11_parts_63 ?_
            refine d_callV (As := [.int (iI 2)]) (rest := []) C hM (C_refuse (a0 := a0) (x := 2) W2 sk1 ty1 ⟨by decide, by decide⟩ ) dX11_parts_64 kV_X11_102 rfl ty1 rfl rfl (by decide) ck_12 rfl (Nat.le_of_ble_eq_true rfl) ⟨(Nat.le_of_ble_eq_true rfl), (Nat.le_of_ble_eq_true rfl)⟩ hph pl1 (show 0 + 0 = 0 from rfl) (by decide) (fun rh13 Lh13 clh13 lnh13 ivh13 rvh13 h13 => ?_)
            obtain ⟨f13, rfl, rfl, rfl, rfl, rfl, fl13, W13, rgf13, exf13, kp11f13, kp12f13, kp13f13, kp14f13, kp15f13, kp16f13⟩ := h13
            refine hv14 (show 1 ≤ ivh2 a0 11 ∧ ivh2 a0 11 ≤ 100 from W2.int ty1 11) (show ivh2 a0 11 = iv a0 11 from fl2.i t_a0 rfl 11) (show 1 ≤ ivh2 a0 12 ∧ ivh2 a0 12 ≤ 50 from W2.int ty1 12) (show ivh2 a0 12 = iv a0 12 from fl2.i t_a0 rfl 12) (show (-2147483648) ≤ ivh2 a0 13 ∧ ivh2 a0 13 ≤ 2147483647 from W2.int ty1 13) (show ivh2 a0 13 = iv a0 13 from fl2.i t_a0 rfl 13) (show (-2147483648) ≤ ivh2 a0 14 ∧ ivh2 a0 14 ≤ 2147483647 from W2.int ty1 14) (show ivh2 a0 14 = iv a0 14 from fl2.i t_a0 rfl 14) (show (-2147483648) ≤ ivh2 a0 15 ∧ ivh2 a0 15 ≤ 2147483647 from W2.int ty1 15) (show ivh2 a0 15 = iv a0 15 from fl2.i t_a0 rfl 15) (show (-2147483648) ≤ ivh2 a0 16 ∧ ivh2 a0 16 ≤ 2147483647 from W2.int ty1 16) (show ivh2 a0 16 = iv a0 16 from fl2.i t_a0 rfl 16) (F1.call X1 fl13 rfl) (MRK.call mr1 W2 sk1 XT.refl fl13 rfl rfl) (fun ri74 ie74 ri75 ie75 ri76 ie76 ri77 ie77 ri78 ie78 ri79 ie79 F8 mr8 => ?_)
            refine c_st (st2 := [.int (iI f13)]) rfl ?_
            refine hv13 (show ivh13 a0 11 = ivh2 a0 11 from kp11f13) (show ivh13 a0 12 = ivh2 a0 12 from kp12f13) (show ivh13 a0 13 = ivh2 a0 13 from kp13f13) (show ivh13 a0 14 = ivh2 a0 14 from kp14f13) (show ivh13 a0 15 = ivh2 a0 15 from kp15f13) (show ivh13 a0 16 = ivh2 a0 16 from kp16f13) (show f13 = -1 from exf13) (show 1 ≤ ivh13 a0 11 ∧ ivh13 a0 11 ≤ 100 from W13.int ty1 11) (show 1 ≤ ivh13 a0 12 ∧ ivh13 a0 12 ≤ 50 from W13.int ty1 12) (show (-2147483648) ≤ ivh13 a0 13 ∧ ivh13 a0 13 ≤ 2147483647 from W13.int ty1 13) (show (-2147483648) ≤ ivh13 a0 14 ∧ ivh13 a0 14 ≤ 2147483647 from W13.int ty1 14) (show (-2147483648) ≤ ivh13 a0 15 ∧ ivh13 a0 15 ≤ 2147483647 from W13.int ty1 15) (show (-2147483648) ≤ ivh13 a0 16 ∧ ivh13 a0 16 ≤ 2147483647 from W13.int ty1 16) (fun gk11f13 gk12f13 gk13f13 gk14f13 gk15f13 gk16f13 gf13 ri80 ri81 ri82 ri83 ri84 ri85 => ?_)
            exact c_iret C dX11_parts_67 rfl (by decide) (rom0 hph pl1 (by decide)) ⟨f13, rfl, X1, F8, W13, ⟨by omega, by omega⟩, trivial, (gk11f13.trans ie74), (gk12f13.trans ie75), (gk13f13.trans ie76), (gk14f13.trans ie77), (gk15f13.trans ie78), (gk16f13.trans ie79), (show rvh2 a0 9 = rv a0 9 from (fl2.r t_a0 rfl 9)), (show rvh2 a0 10 = rv a0 10 from (fl2.r t_a0 rfl 10))⟩
  · subst oq1
    refine c_lv (lv2 := [(4, .null), (0, .ref a0), (1, .int (iI i)), (2, .int (iI j)), (3, .int (iI k))]) [0, 1, 2, 3, 4] rfl ?_
    refine c_st (st2 := []) rfl ?_
    refine c_aload_n (j := 1) (x := a0) C dX11_parts_15 rfl ?_
    refine c_iconst C dX11_parts_16 ?_
    refine d_callV (As := [.int (iI 3)]) (rest := []) C hM (C_refuse (a0 := a0) (x := 3) hW hS t_a0 ⟨by decide, by decide⟩ ) dX11_parts_17 kV_X11_102 rfl t_a0 rfl rfl (by decide) ck_12 rfl (Nat.le_of_ble_eq_true rfl) ⟨(Nat.le_of_ble_eq_true rfl), (Nat.le_of_ble_eq_true rfl)⟩ hph hph (show 0 + 0 = 0 from rfl) (by decide) (fun rh14 Lh14 clh14 lnh14 ivh14 rvh14 h14 => ?_)
    obtain ⟨f14, rfl, rfl, rfl, rfl, rfl, fl14, W14, rgf14, exf14, kp11f14, kp12f14, kp13f14, kp14f14, kp15f14, kp16f14⟩ := h14
    refine hv8 (show 1 ≤ iv a0 11 ∧ iv a0 11 ≤ 100 from hW.int t_a0 11) (show 1 ≤ iv a0 12 ∧ iv a0 12 ≤ 50 from hW.int t_a0 12) (show (-2147483648) ≤ iv a0 13 ∧ iv a0 13 ≤ 2147483647 from hW.int t_a0 13) (show (-2147483648) ≤ iv a0 14 ∧ iv a0 14 ≤ 2147483647 from hW.int t_a0 14) (show (-2147483648) ≤ iv a0 15 ∧ iv a0 15 ≤ 2147483647 from hW.int t_a0 15) (show (-2147483648) ≤ iv a0 16 ∧ iv a0 16 ≤ 2147483647 from hW.int t_a0 16) (hF0.call hX0 fl14 rfl) (MRK.call hmr hW hS XT.refl fl14 rfl rfl) (fun ri86 ri87 ri88 ri89 ri90 ri91 F9 mr9 => ?_)
    refine c_st (st2 := [.int (iI f14)]) rfl ?_
    refine hv13 (show ivh14 a0 11 = iv a0 11 from kp11f14) (show ivh14 a0 12 = iv a0 12 from kp12f14) (show ivh14 a0 13 = iv a0 13 from kp13f14) (show ivh14 a0 14 = iv a0 14 from kp14f14) (show ivh14 a0 15 = iv a0 15 from kp15f14) (show ivh14 a0 16 = iv a0 16 from kp16f14) (show f14 = -1 from exf14) (show 1 ≤ ivh14 a0 11 ∧ ivh14 a0 11 ≤ 100 from W14.int t_a0 11) (show 1 ≤ ivh14 a0 12 ∧ ivh14 a0 12 ≤ 50 from W14.int t_a0 12) (show (-2147483648) ≤ ivh14 a0 13 ∧ ivh14 a0 13 ≤ 2147483647 from W14.int t_a0 13) (show (-2147483648) ≤ ivh14 a0 14 ∧ ivh14 a0 14 ≤ 2147483647 from W14.int t_a0 14) (show (-2147483648) ≤ ivh14 a0 15 ∧ ivh14 a0 15 ≤ 2147483647 from W14.int t_a0 15) (show (-2147483648) ≤ ivh14 a0 16 ∧ ivh14 a0 16 ≤ 2147483647 from W14.int t_a0 16) (fun gk11f14 gk12f14 gk13f14 gk14f14 gk15f14 gk16f14 gf14 ri92 ri93 ri94 ri95 ri96 ri97 => ?_)
    exact c_iret C dX11_parts_20 rfl (by decide) (rom0 hph hph (by decide)) ⟨f14, rfl, hX0, F9, W14, ⟨by omega, by omega⟩, trivial, gk11f14, gk12f14, gk13f14, gk14f14, gk15f14, gk16f14, rfl, rfl⟩
set_option maxHeartbeats 4000000 in
set_option maxRecDepth 100000 in
theorem C_isReadBack {l : Launch} {G : GT} {mi : Nat} {sk : Nat → Nat} {L : List Nat} {cl ln : Nat → Nat} {iv : Nat → Nat → Int} {rv : Nat → Nat → Option Nat}  {a0 : Nat} (hW : WT (g0 G) sk L cl ln iv rv) (hS : SKL sk L cl) (t_a0 : ty L cl a0 1) (hc7 : iv (sk 15) 7 ≤ 200) : Mc l G mi (Phi (g0 G) sk) PHM yX11_isReadBack cX11_isReadBack 2 (some .boolean) 6 [.ref a0] L cl ln iv rv 0 (fun v L2 cl2 ln2 iv2 rv2 => ∃ f : Int, v = some (.int (iI f)) ∧ XT L cl ln L2 cl2 ln2 ∧ fT [8, 38, 9, 39, 16, 10, 40] L cl iv rv iv2 rv2 ∧ WT (g0 G) sk L2 cl2 ln2 iv2 rv2 ∧ (f = 0 ∨ f = 1) ∧ (True)) := by
  refine Mc.mk (by decide) (Nat.le_of_ble_eq_true rfl) ?_
  intro p e s m args below meth c A C hM
  refine hv21 (Phi.le hW hS) (show ty L cl (sk 2) 2 from ⟨(hS 2 rfl).1, by rw [(hS 2 rfl).2]; rfl⟩) (show ty L cl (sk 3) 3 from ⟨(hS 3 rfl).1, by rw [(hS 3 rfl).2]; rfl⟩) (show ty L cl (sk 4) 4 from ⟨(hS 4 rfl).1, by rw [(hS 4 rfl).2]; rfl⟩) (show ty L cl (sk 5) 5 from ⟨(hS 5 rfl).1, by rw [(hS 5 rfl).2]; rfl⟩) (show ty L cl (sk 6) 6 from ⟨(hS 6 rfl).1, by rw [(hS 6 rfl).2]; rfl⟩) (show ty L cl (sk 7) 7 from ⟨(hS 7 rfl).1, by rw [(hS 7 rfl).2]; rfl⟩) (show ty L cl (sk 8) 8 from ⟨(hS 8 rfl).1, by rw [(hS 8 rfl).2]; rfl⟩) (show ty L cl (sk 9) 9 from ⟨(hS 9 rfl).1, by rw [(hS 9 rfl).2]; rfl⟩) (show ty L cl (sk 10) 10 from ⟨(hS 10 rfl).1, by rw [(hS 10 rfl).2]; rfl⟩) (show ty L cl (sk 13) 13 from ⟨(hS 13 rfl).1, by rw [(hS 13 rfl).2]; rfl⟩) (show ty L cl (sk 14) 14 from ⟨(hS 14 rfl).1, by rw [(hS 14 rfl).2]; rfl⟩) (show ty L cl (sk 15) 15 from ⟨(hS 15 rfl).1, by rw [(hS 15 rfl).2]; rfl⟩) (show ty L cl (sk 16) 16 from ⟨(hS 16 rfl).1, by rw [(hS 16 rfl).2]; rfl⟩) (show ty L cl (sk 17) 17 from ⟨(hS 17 rfl).1, by rw [(hS 17 rfl).2]; rfl⟩) (show ty L cl (sk 22) 22 from ⟨(hS 22 rfl).1, by rw [(hS 22 rfl).2]; rfl⟩) (show ty L cl (sk 23) 23 from ⟨(hS 23 rfl).1, by rw [(hS 23 rfl).2]; rfl⟩) (show ty L cl (sk 24) 24 from ⟨(hS 24 rfl).1, by rw [(hS 24 rfl).2]; rfl⟩) (show ty L cl (sk 25) 25 from ⟨(hS 25 rfl).1, by rw [(hS 25 rfl).2]; rfl⟩) (show XT L cl ln L cl ln from XT.refl) (show fT [8, 38, 9, 39, 16, 10, 40] L cl iv rv iv rv from fT.refl) (fun hph tsk2 tsk3 tsk4 tsk5 tsk6 tsk7 tsk8 tsk9 tsk10 tsk13 tsk14 tsk15 tsk16 tsk17 tsk22 tsk23 tsk24 tsk25 hX0 hF0 => ?_)
  refine c_aload_n (j := 0) (x := a0) C dX11_isReadBack_0 rfl ?_
  obtain ⟨rb1, rq1, trb1⟩ := hW.ref t_a0 7 rfl rfl rfl
  have erb1 := hW.sk trb1 (by decide) rfl
  subst erb1
  refine c_getr (k := 7) C ck_12 dX11_isReadBack_1 w2_51 (by decide) t_a0 rfl rfl (by decide) rfl rq1 ?_
  refine c_st (st2 := [.ref (sk 16)]) rfl ?_
  refine d_callV (As := []) (rest := []) C hM (C_clearCells (a0 := (sk 16)) hW hS tsk16  ) dX11_isReadBack_4 kV_X11_344 rfl tsk16 rfl rfl (by decide) ck_4 rfl (Nat.le_of_ble_eq_true rfl) ⟨(Nat.le_of_ble_eq_true rfl), (Nat.le_of_ble_eq_true rfl)⟩ hph hph (show 0 + 0 = 0 from rfl) (by decide) (fun rh1 Lh1 clh1 lnh1 ivh1 rvh1 h1 => ?_)
  obtain ⟨rfl, rfl, rfl, rfl, rfl, fl1, W1, exf1⟩ := h1
  have F1 := hF0.call hX0 fl1 rfl
  refine c_st (st2 := []) rfl ?_
  refine hv2 (show 0 ≤ ivh1 (sk 8) 2 ∧ ivh1 (sk 8) 2 ≤ 40200 from W1.int tsk8 2) (show ivh1 (sk 8) 2 = 0 from exf1) (fun ri1 gf1 => ?_)
  refine c_iconst C dX11_isReadBack_7 ?_
  refine c_istore_n (lv2 := [(1, .int (iI 0)), (0, .ref a0)]) C dX11_isReadBack_8 (by decide) rfl ?_
  have Lp1 : ∀ (nn : Nat) (k : Int) (Lb1 : List Nat) (clb1 lnb1 : Nat → Nat) (ivb1 : Nat → Nat → Int) (rvb1 : Nat → Nat → Option Nat) , 201 - k < (nn : Int) → XT L cl ln Lb1 clb1 lnb1 → WT (g0 G) sk Lb1 clb1 lnb1 ivb1 rvb1 → fT [8, 38, 9, 39, 16, 10, 40] L cl iv rv ivb1 rvb1 → (0 ≤ k ∧ k ≤ 200) → (ivb1 (sk 15) 7 ≤ 200) → cw p l e 6 ((PHM) + 0 - ((Phi (g0 G) sk) ln rv)) s m args below meth c G A 2 (MQ below (Qu G A (Qp G (Phi (g0 G) sk) ((Phi (g0 G) sk) ln rv) 0 (fun v L2 cl2 ln2 iv2 rv2 => ∃ f : Int, v = some (.int (iI f)) ∧ XT L cl ln L2 cl2 ln2 ∧ fT [8, 38, 9, 39, 16, 10, 40] L cl iv rv iv2 rv2 ∧ WT (g0 G) sk L2 cl2 ln2 iv2 rv2 ∧ (f = 0 ∨ f = 1) ∧ (True)))) args s (((PHM) + 0 - ((Phi (g0 G) sk) ln rv)) / 16) ((PHM) + 0 - ((Phi (g0 G) sk) ln rv)) A) (Phi (g0 G) sk) ((Phi (g0 G) sk) ln rv) Lb1 clb1 lnb1 ivb1 rvb1 0 9 [(1, .int (iI k)), (0, .ref a0)] [] := by
    intro nn
    induction nn with
    | zero =>
      intro  k Lb1 clb1 lnb1 ivb1 rvb1 hm Xb1 Wb1 Fb1  hk hco
      have skb1 := Xb1.skl hS
      exact absurd hm (by omega)
    | succ nn ih1 =>
      intro  k Lb1 clb1 lnb1 ivb1 rvb1 hm Xb1 Wb1 Fb1  hk hco
      have skb1 := Xb1.skl hS
      refine c_iload_n (j := 0) C dX11_isReadBack_9 rfl ?_
      refine c_aload_n (j := 1) (x := a0) C dX11_isReadBack_10 rfl ?_
      have ty1 := Xb1.ty t_a0
      obtain ⟨rb2, rq2, trb2⟩ := Wb1.ref ty1 6 rfl rfl rfl
      have erb2 := Wb1.sk trb2 (by decide) rfl
      subst erb2
      refine c_getr (k := 6) C ck_12 dX11_isReadBack_11 w2_50 (by decide) ty1 rfl rfl (by decide) rfl rq2 ?_
      refine c_st (st2 := [.ref (sk 15), .int (iI k)]) rfl ?_
      refine hv2 (Xb1.ty tsk15) (show ivb1 (sk 15) 7 = iv (sk 15) 7 from Fb1.i tsk15 rfl 7) (fun ty2 ie2 => ?_)
      have ri2 : 0 ≤ ivb1 (sk 15) 7 ∧ ivb1 (sk 15) 7 ≤ 100000 := Wb1.int ty2 7
      refine c_get (k := 7) C ck_7 dX11_isReadBack_14 w1_149 (by decide) ty2 rfl rfl (by decide) rfl ?_
      refine c_icmp_ge (tgt := 43) C (r32_c (lo := 0) (hi := 200) hk.1 hk.2 (by decide) (by decide)) (r32_c (lo := 0) (hi := 100000) ri2.1 ri2.2 (by decide) (by decide)) dX11_isReadBack_17 (by decide) (fun c1 => ?_) (fun c1 => ?_)
      · refine c_aload_n (j := 1) (x := a0) C dX11_isReadBack_43 rfl ?_
        have re1 : rvb1 a0 7 = rv a0 7 := (Fb1.r t_a0 rfl 7)
        rw [rq1] at re1
        refine c_getr (k := 7) C ck_12 dX11_isReadBack_44 w2_51 (by decide) ty1 rfl rfl (by decide) rfl re1 ?_
        refine c_st (st2 := [.ref (sk 16)]) rfl ?_
        refine hv2 (Xb1.ty tsk16) (Phi.le Wb1 skb1) (fun ty3 pl1 => ?_)
        refine d_callV (As := []) (rest := []) C hM (C_decode (a0 := (sk 16)) Wb1 skb1 ty3  ) dX11_isReadBack_47 kV_X11_335 rfl ty3 rfl rfl (by decide) ck_4 rfl (Nat.le_of_ble_eq_true rfl) ⟨(Nat.le_of_ble_eq_true rfl), (Nat.le_of_ble_eq_true rfl)⟩ hph pl1 (show 0 + 0 = 0 from rfl) (by decide) (fun rh2 Lh2 clh2 lnh2 ivh2 rvh2 h2 => ?_)
        obtain ⟨f2, rfl, xl2, fl2, W2, rgf2, exf2⟩ := h2
        refine hv19 (Fb1.call Xb1 fl2 rfl) (Xb1.ty tsk2) (Xb1.ty tsk3) (Xb1.ty tsk4) (Xb1.ty tsk5) (Xb1.ty tsk6) (Xb1.ty tsk7) (Xb1.ty tsk8) (Xb1.ty tsk9) (Xb1.ty tsk10) (Xb1.ty tsk13) (Xb1.ty tsk14) (Xb1.ty tsk17) (Xb1.ty tsk22) (Xb1.ty tsk23) (Xb1.ty tsk24) (Xb1.ty tsk25) (Xb1.trans xl2) (xl2.skl skb1) (fun F2 ty4 ty5 ty6 ty7 ty8 ty9 ty10 ty11 ty12 ty13 ty14 ty15 ty16 ty17 ty18 ty19 X1 sk1 => ?_)
        refine c_st (st2 := [.int (iI f2)]) rfl ?_
        refine c_if_eq (tgt := 74) C ⟨by omega, by omega⟩ dX11_isReadBack_50 (by decide) (fun c2 => ?_) (fun c2 => ?_)
        · refine c_iconst C dX11_isReadBack_74 ?_
          have pl2 := Phi.le W2 sk1
          exact c_zret C dX11_isReadBack_75 rfl (Or.inl rfl) (by decide) (rom0 hph pl2 (by decide)) ⟨0, rfl, X1, F2, W2, (Or.inl rfl), trivial⟩
        · refine c_aload_n (j := 1) (x := a0) C dX11_isReadBack_53 rfl ?_
          refine hv2 (xl2.ty ty1) (show rvh2 a0 6 = rvb1 a0 6 from (fl2.r ty1 rfl 6)) (fun ty20 re2 => ?_)
          rw [rq2] at re2
          refine c_getr (k := 6) C ck_12 dX11_isReadBack_54 w2_50 (by decide) ty20 rfl rfl (by decide) rfl re2 ?_
          refine c_st (st2 := [.ref (sk 15)]) rfl ?_
          refine c_aload_n (j := 1) (x := a0) C dX11_isReadBack_57 rfl ?_
          have re3 : rvh2 a0 7 = rvb1 a0 7 := (fl2.r ty1 rfl 7)
          rw [re1] at re3
          refine c_getr (k := 7) C ck_12 dX11_isReadBack_58 w2_51 (by decide) ty20 rfl rfl (by decide) rfl re3 ?_
          refine c_st (st2 := [.ref (sk 16), .ref (sk 15)]) rfl ?_
          have ty21 := xl2.ty ty3
          obtain ⟨rb3, rq3, trb3⟩ := W2.ref ty21 6 rfl rfl rfl
          have erb3 := W2.sk trb3 (by decide) rfl
          subst erb3
          refine c_getr (k := 6) C ck_4 dX11_isReadBack_61 w1_201 (by decide) ty21 rfl rfl (by decide) rfl rq3 ?_
          refine c_st (st2 := [.ref (sk 10), .ref (sk 15)]) rfl ?_
          refine hv3 (xl2.ty ty2) (xl2.ty ty12) (Phi.le W2 sk1) (fun ty22 ty23 pl3 => ?_)
          refine d_callV (As := [.ref (sk 10)]) (rest := []) C hM (C_hasLetters (a0 := (sk 15)) (a1 := (sk 10)) W2 sk1 ty22 ty23  ) dX11_isReadBack_64 kV_X11_409 rfl ty22 rfl rfl (by decide) ck_7 rfl (Nat.le_of_ble_eq_true rfl) ⟨(Nat.le_of_ble_eq_true rfl), (Nat.le_of_ble_eq_true rfl)⟩ hph pl3 (show 0 + 0 = 0 from rfl) (by decide) (fun rh3 Lh3 clh3 lnh3 ivh3 rvh3 h3 => ?_)
          obtain ⟨f3, rfl, rfl, rfl, rfl, rfl, rfl, rgf3, exf3⟩ := h3
          refine c_st (st2 := [.int (iI f3)]) rfl ?_
          refine c_if_eq (tgt := 74) C ⟨by omega, by omega⟩ dX11_isReadBack_67 (by decide) (fun c3 => ?_) (fun c3 => ?_)
          · refine c_iconst C dX11_isReadBack_74 ?_
            exact c_zret C dX11_isReadBack_75 rfl (Or.inl rfl) (by decide) (rom0 hph pl3 (by decide)) ⟨0, rfl, X1, F2, W2, (Or.inl rfl), trivial⟩
          · refine c_iconst C dX11_isReadBack_70 ?_
            refine c_goto (tgt := 75) C dX11_isReadBack_71 (by decide) ?_
            exact c_zret C dX11_isReadBack_75 rfl (Or.inr rfl) (by decide) (rom0 hph pl3 (by decide)) ⟨1, rfl, X1, F2, W2, (Or.inr rfl), trivial⟩
      · refine c_aload_n (j := 1) (x := a0) C dX11_isReadBack_20 rfl ?_
        have re4 : rvb1 a0 7 = rv a0 7 := (Fb1.r t_a0 rfl 7)
        rw [rq1] at re4
        refine c_getr (k := 7) C ck_12 dX11_isReadBack_21 w2_51 (by decide) ty1 rfl rfl (by decide) rfl re4 ?_
        refine c_st (st2 := [.ref (sk 16)]) rfl ?_
        refine c_aload_n (j := 1) (x := a0) C dX11_isReadBack_24 rfl ?_
        refine c_getr (k := 6) C ck_12 dX11_isReadBack_25 w2_50 (by decide) ty1 rfl rfl (by decide) rfl rq2 ?_
        refine c_st (st2 := [.ref (sk 15), .ref (sk 16)]) rfl ?_
        obtain ⟨rb4, rq4, trb4⟩ := Wb1.ref ty2 6 rfl rfl rfl
        have lnrb4 : 200 ≤ lnb1 rb4 ∧ lnb1 rb4 ≤ 200 := Wb1.len trb4 rfl
        refine c_getr (k := 6) C ck_7 dX11_isReadBack_28 w1_146 (by decide) ty2 rfl rfl (by decide) rfl rq4 ?_
        refine c_st (st2 := [.ref rb4, .ref (sk 16)]) rfl ?_
        refine c_iload_n (j := 0) C dX11_isReadBack_31 rfl ?_
        have ll1 : 200 ≤ lnb1 rb4 ∧ lnb1 rb4 ≤ 200 := Wb1.len trb4 rfl
        refine c_iald C dX11_isReadBack_32 trb4 rfl (by omega) (by omega) (by omega) ?_
        have ri3 : (-2147483648) ≤ ivb1 rb4 k.toNat ∧ ivb1 rb4 k.toNat ≤ 2147483647 := Wb1.int trb4 k.toNat
        refine c_iload_n (j := 0) C dX11_isReadBack_33 rfl ?_
        refine hv2 (Xb1.ty tsk16) (Phi.le Wb1 skb1) (fun ty24 pl4 => ?_)
        refine d_callV (As := [.int (iI (ivb1 rb4 k.toNat)), .int (iI k)]) (rest := []) C hM (C_addCell (a0 := (sk 16)) (x := ivb1 rb4 k.toNat) (y := k) Wb1 skb1 ty24 (by omega) (by omega) ) dX11_isReadBack_34 kV_X11_406 rfl ty24 rfl rfl (by decide) ck_4 rfl (Nat.le_of_ble_eq_true rfl) ⟨(Nat.le_of_ble_eq_true rfl), (Nat.le_of_ble_eq_true rfl)⟩ hph pl4 (show 0 + 0 = 0 from rfl) (by decide) (fun rh4 Lh4 clh4 lnh4 ivh4 rvh4 h4 => ?_)
        obtain ⟨rfl, xl4, fl4, W4, exf4⟩ := h4
        refine hv19 (Fb1.call Xb1 fl4 rfl) (Xb1.ty tsk2) (Xb1.ty tsk3) (Xb1.ty tsk4) (Xb1.ty tsk5) (Xb1.ty tsk6) (Xb1.ty tsk7) (Xb1.ty tsk8) (Xb1.ty tsk9) (Xb1.ty tsk10) (Xb1.ty tsk13) (Xb1.ty tsk14) (Xb1.ty tsk17) (Xb1.ty tsk22) (Xb1.ty tsk23) (Xb1.ty tsk24) (Xb1.ty tsk25) (Xb1.trans xl4) (xl4.skl skb1) (fun F3 ty25 ty26 ty27 ty28 ty29 ty30 ty31 ty32 ty33 ty34 ty35 ty36 ty37 ty38 ty39 ty40 X2 sk2 => ?_)
        refine c_st (st2 := []) rfl ?_
        refine c_iinc (z := k) (j := 0) (lv2 := [(1, .int (iI (k + 1))), (0, .ref a0)]) C dX11_isReadBack_37 rfl (by decide) rfl ?_
        refine c_goto (tgt := 9) C dX11_isReadBack_40 (by decide) ?_
        refine hv2 (xl4.ty ty2) (show ivh4 (sk 15) 7 = ivb1 (sk 15) 7 from fl4.i ty2 rfl 7) (fun ty41 ie4 => ?_)
        have ri4 : 0 ≤ ivh4 (sk 15) 7 ∧ ivh4 (sk 15) 7 ≤ 100000 := W4.int ty41 7
        refine c_lv (lv2 := [(1, .int (iI (k + 1))), (0, .ref a0)]) [0, 1] rfl ?_
        exact ih1  (k + 1) _ _ _ _ _ (by omega) X2 W4 F3  (by omega) (by show ivh4 (sk 15) 7 ≤ 200; omega)
  refine hv2 (show 0 ≤ ivh1 (sk 15) 7 ∧ ivh1 (sk 15) 7 ≤ 100000 from W1.int tsk15 7) (show ivh1 (sk 15) 7 = iv (sk 15) 7 from fl1.i tsk15 rfl 7) (fun ri5 ie5 => ?_)
  refine c_lv (lv2 := [(1, .int (iI 0)), (0, .ref a0)]) [0, 1] rfl ?_
  exact Lp1 203 0 _ _ _ _ _ (by omega) hX0 W1 F1  (by omega) (by show ivh1 (sk 15) 7 ≤ 200; omega)
set_option maxHeartbeats 4000000 in
set_option maxRecDepth 100000 in
theorem C_saved {l : Launch} {G : GT} {mi : Nat} {sk : Nat → Nat} {L : List Nat} {cl ln : Nat → Nat} {iv : Nat → Nat → Int} {rv : Nat → Nat → Option Nat}  {a0 : Nat} {i : Int} {j : Int} (hW : WT (g0 G) sk L cl ln iv rv) (hS : SKL sk L cl) (t_a0 : ty L cl a0 1) (h_i : -2147483648 ≤ i ∧ i ≤ 2147483647) (h_j : -2147483648 ≤ j ∧ j ≤ 2147483647) (hmr : MRK sk cl iv rv) : Mc l G mi (Phi (g0 G) sk) PHM yX11_saved cX11_saved 10 (some .int) 8 [.ref a0, .int (iI i), .int (iI j)] L cl ln iv rv 0 (fun v L2 cl2 ln2 iv2 rv2 => ∃ f : Int, v = some (.int (iI f)) ∧ L = L2 ∧ cl = cl2 ∧ ln = ln2 ∧ rv = rv2 ∧ fT [1, 14, 15, 50, 51, 52, 53, 54, 55] L cl iv rv iv2 rv2 ∧ WT (g0 G) sk L2 cl2 ln2 iv2 rv2 ∧ (-2147483648 ≤ f ∧ f ≤ 2147483647) ∧ (True) ∧ iv2 a0 11 = iv a0 11 ∧ iv2 a0 12 = iv a0 12 ∧ iv2 a0 13 = iv a0 13 ∧ iv2 a0 14 = iv a0 14 ∧ iv2 a0 15 = iv a0 15 ∧ iv2 a0 16 = iv a0 16) := by
  refine Mc.mk (by decide) (Nat.le_of_ble_eq_true rfl) ?_
  intro p e s m args below meth c A C hM
  refine hv14 (Phi.le hW hS) (show ty L cl (sk 2) 2 from ⟨(hS 2 rfl).1, by rw [(hS 2 rfl).2]; rfl⟩) (show ty L cl (sk 3) 3 from ⟨(hS 3 rfl).1, by rw [(hS 3 rfl).2]; rfl⟩) (show ty L cl (sk 4) 4 from ⟨(hS 4 rfl).1, by rw [(hS 4 rfl).2]; rfl⟩) (show ty L cl (sk 5) 5 from ⟨(hS 5 rfl).1, by rw [(hS 5 rfl).2]; rfl⟩) (show ty L cl (sk 13) 13 from ⟨(hS 13 rfl).1, by rw [(hS 13 rfl).2]; rfl⟩) (show ty L cl (sk 14) 14 from ⟨(hS 14 rfl).1, by rw [(hS 14 rfl).2]; rfl⟩) (show ty L cl (sk 15) 15 from ⟨(hS 15 rfl).1, by rw [(hS 15 rfl).2]; rfl⟩) (show ty L cl (sk 16) 16 from ⟨(hS 16 rfl).1, by rw [(hS 16 rfl).2]; rfl⟩) (show ty L cl (sk 17) 17 from ⟨(hS 17 rfl).1, by rw [(hS 17 rfl).2]; rfl⟩) (show ty L cl (sk 22) 22 from ⟨(hS 22 rfl).1, by rw [(hS 22 rfl).2]; rfl⟩) (show ty L cl (sk 23) 23 from ⟨(hS 23 rfl).1, by rw [(hS 23 rfl).2]; rfl⟩) (show XT L cl ln L cl ln from XT.refl) (show fT [1, 14, 15, 50, 51, 52, 53, 54, 55] L cl iv rv iv rv from fT.refl) (fun hph tsk2 tsk3 tsk4 tsk5 tsk13 tsk14 tsk15 tsk16 tsk17 tsk22 tsk23 hX0 hF0 => ?_)
  refine c_aload_n (j := 0) (x := a0) C dX11_saved_0 rfl ?_
  obtain ⟨rb1, rq1, trb1⟩ := hW.ref t_a0 4 rfl rfl rfl
  have erb1 := hW.sk trb1 (by decide) rfl
  subst erb1
  refine c_getr (k := 4) C ck_12 dX11_saved_1 w2_48 (by decide) t_a0 rfl rfl (by decide) rfl rq1 ?_
  refine c_st (st2 := [.ref (sk 13)]) rfl ?_
  refine c_iload_n (j := 1) C dX11_saved_4 rfl ?_
  refine d_callV (As := [.int (iI i)]) (rest := []) C hM (C_whole (a0 := (sk 13)) (i := i) hW hS tsk13 (by omega) hmr) dX11_saved_5 kV_X11_231 rfl tsk13 rfl rfl (by decide) ck_11 rfl (Nat.le_of_ble_eq_true rfl) ⟨(Nat.le_of_ble_eq_true rfl), (Nat.le_of_ble_eq_true rfl)⟩ hph hph (show 0 + 0 = 0 from rfl) (by decide) (fun rh1 Lh1 clh1 lnh1 ivh1 rvh1 h1 => ?_)
  obtain ⟨f1, rfl, rfl, rfl, rfl, rfl, rfl, rgf1, exf1⟩ := h1
  refine c_st (st2 := [(va_rf f1)]) rfl ?_
  refine c_astorer_n (r := f1) (lv2 := [(3, (va_rf f1)), (0, .ref a0), (1, .int (iI i)), (2, .int (iI j))]) C dX11_saved_8 (by decide) rfl ?_
  refine c_aload_n (j := 1) (x := a0) C dX11_saved_9 rfl ?_
  refine c_getr (k := 4) C ck_12 dX11_saved_10 w2_48 (by decide) t_a0 rfl rfl (by decide) rfl rq1 ?_
  refine c_st (st2 := [.ref (sk 13)]) rfl ?_
  refine c_iload_n (j := 3) C dX11_saved_13 rfl ?_
  refine d_callV (As := [.int (iI j)]) (rest := []) C hM (C_whole (a0 := (sk 13)) (i := j) hW hS tsk13 (by omega) hmr) dX11_saved_14 kV_X11_231 rfl tsk13 rfl rfl (by decide) ck_11 rfl (Nat.le_of_ble_eq_true rfl) ⟨(Nat.le_of_ble_eq_true rfl), (Nat.le_of_ble_eq_true rfl)⟩ hph hph (show 0 + 0 = 0 from rfl) (by decide) (fun rh2 Lh2 clh2 lnh2 ivh2 rvh2 h2 => ?_)
  obtain ⟨f2, rfl, rfl, rfl, rfl, rfl, rfl, rgf2, exf2⟩ := h2
  refine c_st (st2 := [(va_rf f2)]) rfl ?_
  refine c_astorer (r := f2) (lv2 := [(4, (va_rf f2)), (3, (va_rf f1)), (0, .ref a0), (1, .int (iI i)), (2, .int (iI j))]) C dX11_saved_17 (by decide) (by cases f1 <;> rfl) ?_
  refine c_aloadr_n (j := 1) (r := f1) C dX11_saved_19 rfl ?_
  refine c_ifnull (r := f1) (tgt := 28) C dX11_saved_20 (by decide) (fun oq1 => ?_) (fun ob1 oq1 => ?_)
  · subst oq1
    refine c_lv (lv2 := [(4, (va_rf f2)), (3, .null), (0, .ref a0), (1, .int (iI i)), (2, .int (iI j))]) [0, 1, 2, 3, 4] rfl ?_
    refine c_st (st2 := []) rfl ?_
    refine c_aload_n (j := 2) (x := a0) C dX11_saved_28 rfl ?_
    refine c_iconst C dX11_saved_29 ?_
    refine d_callV (As := [.int (iI 3)]) (rest := []) C hM (C_refuse (a0 := a0) (x := 3) hW hS t_a0 ⟨by decide, by decide⟩ ) dX11_saved_30 kV_X11_102 rfl t_a0 rfl rfl (by decide) ck_12 rfl (Nat.le_of_ble_eq_true rfl) ⟨(Nat.le_of_ble_eq_true rfl), (Nat.le_of_ble_eq_true rfl)⟩ hph hph (show 0 + 0 = 0 from rfl) (by decide) (fun rh3 Lh3 clh3 lnh3 ivh3 rvh3 h3 => ?_)
    obtain ⟨f3, rfl, rfl, rfl, rfl, rfl, fl3, W3, rgf3, exf3, kp11f3, kp12f3, kp13f3, kp14f3, kp15f3, kp16f3⟩ := h3
    refine hv8 (show 1 ≤ iv a0 11 ∧ iv a0 11 ≤ 100 from hW.int t_a0 11) (show 1 ≤ iv a0 12 ∧ iv a0 12 ≤ 50 from hW.int t_a0 12) (show (-2147483648) ≤ iv a0 13 ∧ iv a0 13 ≤ 2147483647 from hW.int t_a0 13) (show (-2147483648) ≤ iv a0 14 ∧ iv a0 14 ≤ 2147483647 from hW.int t_a0 14) (show (-2147483648) ≤ iv a0 15 ∧ iv a0 15 ≤ 2147483647 from hW.int t_a0 15) (show (-2147483648) ≤ iv a0 16 ∧ iv a0 16 ≤ 2147483647 from hW.int t_a0 16) (hF0.call hX0 fl3 rfl) (MRK.call hmr hW hS XT.refl fl3 rfl rfl) (fun ri1 ri2 ri3 ri4 ri5 ri6 F1 mr1 => ?_)
    refine c_st (st2 := [.int (iI f3)]) rfl ?_
    refine hv13 (show ivh3 a0 11 = iv a0 11 from kp11f3) (show ivh3 a0 12 = iv a0 12 from kp12f3) (show ivh3 a0 13 = iv a0 13 from kp13f3) (show ivh3 a0 14 = iv a0 14 from kp14f3) (show ivh3 a0 15 = iv a0 15 from kp15f3) (show ivh3 a0 16 = iv a0 16 from kp16f3) (show f3 = -1 from exf3) (show 1 ≤ ivh3 a0 11 ∧ ivh3 a0 11 ≤ 100 from W3.int t_a0 11) (show 1 ≤ ivh3 a0 12 ∧ ivh3 a0 12 ≤ 50 from W3.int t_a0 12) (show (-2147483648) ≤ ivh3 a0 13 ∧ ivh3 a0 13 ≤ 2147483647 from W3.int t_a0 13) (show (-2147483648) ≤ ivh3 a0 14 ∧ ivh3 a0 14 ≤ 2147483647 from W3.int t_a0 14) (show (-2147483648) ≤ ivh3 a0 15 ∧ ivh3 a0 15 ≤ 2147483647 from W3.int t_a0 15) (show (-2147483648) ≤ ivh3 a0 16 ∧ ivh3 a0 16 ≤ 2147483647 from W3.int t_a0 16) (fun gk11f3 gk12f3 gk13f3 gk14f3 gk15f3 gk16f3 gf3 ri7 ri8 ri9 ri10 ri11 ri12 => ?_)
    exact c_iret C dX11_saved_33 rfl (by decide) (rom0 hph hph (by decide)) ⟨f3, rfl, rfl, rfl, rfl, rfl, F1, W3, ⟨by omega, by omega⟩, trivial, gk11f3, gk12f3, gk13f3, gk14f3, gk15f3, gk16f3⟩
  · subst oq1
    have tob1 := rgf1 ob1 rfl
    refine c_lv (lv2 := [(4, (va_rf f2)), (3, .ref ob1), (0, .ref a0), (1, .int (iI i)), (2, .int (iI j))]) [0, 1, 2, 3, 4] rfl ?_
    refine c_st (st2 := []) rfl ?_
    refine c_aloadr (j := 0) (r := f2) C dX11_saved_23 rfl ?_
    refine c_ifnonnull (r := f2) (tgt := 34) C dX11_saved_25 (by decide) (fun ob2 oq2 => ?_) (fun oq2 => ?_)
    · subst oq2
      have tob2 := rgf2 ob2 rfl
      refine c_lv (lv2 := [(4, .ref ob2), (3, .ref ob1), (0, .ref a0), (1, .int (iI i)), (2, .int (iI j))]) [0, 1, 2, 3, 4] rfl ?_
      refine c_st (st2 := []) rfl ?_
      refine c_iconst C dX11_saved_34 ?_
      refine c_istore (lv2 := [(5, .int (iI 0)), (4, .ref ob2), (3, .ref ob1), (0, .ref a0), (1, .int (iI i)), (2, .int (iI j))]) C dX11_saved_35 (by decide) rfl ?_
      refine c_iconst C dX11_saved_37 ?_
      refine c_istore (lv2 := [(6, .int (iI 0)), (5, .int (iI 0)), (4, .ref ob2), (3, .ref ob1), (0, .ref a0), (1, .int (iI i)), (2, .int (iI j))]) C dX11_saved_38 (by decide) rfl ?_
      refine c_iconst C dX11_saved_40 ?_
      refine c_istore (lv2 := [(7, .int (iI 0)), (6, .int (iI 0)), (5, .int (iI 0)), (4, .ref ob2), (3, .ref ob1), (0, .ref a0), (1, .int (iI i)), (2, .int (iI j))]) C dX11_saved_41 (by decide) rfl ?_
      have Lp1 : ∀ (nn : Nat) (s1 wy sd : Int) (ivb1 : Nat → Nat → Int) , 3 - sd < (nn : Int) → WT (g0 G) sk L cl ln ivb1 rv → fT [1, 14, 15, 50, 51, 52, 53, 54, 55] L cl iv rv ivb1 rv → (-2147483648 ≤ s1 ∧ s1 ≤ 2147483647) → (0 ≤ wy ∧ wy ≤ 9) → (0 ≤ sd ∧ sd ≤ 2) → (ivb1 a0 11 = iv a0 11) → (ivb1 a0 12 = iv a0 12) → (ivb1 a0 13 = iv a0 13) → (ivb1 a0 14 = iv a0 14) → (ivb1 a0 15 = iv a0 15) → (ivb1 a0 16 = iv a0 16) → cw p l e 8 ((PHM) + 0 - ((Phi (g0 G) sk) ln rv)) s m args below meth c G A 10 (MQ below (Qu G A (Qp G (Phi (g0 G) sk) ((Phi (g0 G) sk) ln rv) 0 (fun v L2 cl2 ln2 iv2 rv2 => ∃ f : Int, v = some (.int (iI f)) ∧ L = L2 ∧ cl = cl2 ∧ ln = ln2 ∧ rv = rv2 ∧ fT [1, 14, 15, 50, 51, 52, 53, 54, 55] L cl iv rv iv2 rv2 ∧ WT (g0 G) sk L2 cl2 ln2 iv2 rv2 ∧ (-2147483648 ≤ f ∧ f ≤ 2147483647) ∧ (True) ∧ iv2 a0 11 = iv a0 11 ∧ iv2 a0 12 = iv a0 12 ∧ iv2 a0 13 = iv a0 13 ∧ iv2 a0 14 = iv a0 14 ∧ iv2 a0 15 = iv a0 15 ∧ iv2 a0 16 = iv a0 16))) args s (((PHM) + 0 - ((Phi (g0 G) sk) ln rv)) / 16) ((PHM) + 0 - ((Phi (g0 G) sk) ln rv)) A) (Phi (g0 G) sk) ((Phi (g0 G) sk) ln rv) L cl ln ivb1 rv 0 43 [(5, .int (iI s1)), (6, .int (iI wy)), (7, .int (iI sd)), (4, .ref ob2), (3, .ref ob1), (0, .ref a0), (1, .int (iI i)), (2, .int (iI j))] [] := by
        intro nn
        induction nn with
        | zero =>
          intro  s1 wy sd ivb1 hm Wb1 Fb1  hs1 hwy hsd hkp11 hkp12 hkp13 hkp14 hkp15 hkp16
          exact absurd hm (by omega)
        | succ nn ih1 =>
          intro  s1 wy sd ivb1 hm Wb1 Fb1  hs1 hwy hsd hkp11 hkp12 hkp13 hkp14 hkp15 hkp16
          have mrb1 := MRK.call hmr hW hS XT.refl Fb1 rfl rfl
          refine c_iload (j := 1) C dX11_saved_43 rfl ?_
          refine c_if_ne (tgt := 186) C (r32_c (lo := 0) (hi := 9) hwy.1 hwy.2 (by decide) (by decide)) dX11_saved_45 (by decide) (fun c1 => ?_) (fun c1 => ?_)
          · refine c_iload (j := 1) C dX11_saved_186 rfl ?_
            refine c_if_eq (tgt := 207) C (r32_c (lo := 0) (hi := 9) hwy.1 hwy.2 (by decide) (by decide)) dX11_saved_188 (by decide) (fun z => absurd z (by omega)) (fun _ => ?_)
            refine c_aload_n (j := 5) (x := a0) C dX11_saved_191 rfl ?_
            refine c_iload (j := 1) C dX11_saved_192 rfl ?_
            refine c_aload_n (j := 5) (x := a0) C dX11_saved_194 rfl ?_
            obtain ⟨rb2, rq2, trb2⟩ := Wb1.ref t_a0 6 rfl rfl rfl
            have erb2 := Wb1.sk trb2 (by decide) rfl
            subst erb2
            refine c_getr (k := 6) C ck_12 dX11_saved_195 w2_50 (by decide) t_a0 rfl rfl (by decide) rfl rq2 ?_
            refine c_st (st2 := [.ref (sk 15), .int (iI wy), .ref a0]) rfl ?_
            refine d_callV (As := []) (rest := [.int (iI wy), .ref a0]) C hM (C_placeOfUnknown (a0 := (sk 15)) Wb1 hS tsk15  ) dX11_saved_198 kV_X11_263 rfl tsk15 rfl rfl (by decide) ck_7 rfl (Nat.le_of_ble_eq_true rfl) ⟨(Nat.le_of_ble_eq_true rfl), (Nat.le_of_ble_eq_true rfl)⟩ hph hph (show 0 + 0 = 0 from rfl) (by decide) (fun rh4 Lh4 clh4 lnh4 ivh4 rvh4 h4 => ?_)
            obtain ⟨f4, rfl, rfl, rfl, rfl, rfl, rfl, rgf4, exf4⟩ := h4
            refine c_st (st2 := [.int (iI f4), .int (iI wy), .ref a0]) rfl ?_
            refine d_callV (As := [.int (iI wy), .int (iI f4)]) (rest := []) C hM (C_refuseAt (a0 := a0) (x := wy) (y := f4) Wb1 hS t_a0 (by omega) (by omega) ) dX11_saved_201 kV_X11_266 rfl t_a0 rfl rfl (by decide) ck_12 rfl (Nat.le_of_ble_eq_true rfl) ⟨(Nat.le_of_ble_eq_true rfl), (Nat.le_of_ble_eq_true rfl)⟩ hph hph (show 0 + 0 = 0 from rfl) (by decide) (fun rh5 Lh5 clh5 lnh5 ivh5 rvh5 h5 => ?_)
            obtain ⟨f5, rfl, rfl, rfl, rfl, rfl, fl5, W5, rgf5, exf5, kp11f5, kp12f5, kp13f5, kp14f5, kp15f5, kp16f5⟩ := h5
            refine hv8 (show 1 ≤ ivb1 a0 11 ∧ ivb1 a0 11 ≤ 100 from Wb1.int t_a0 11) (show 1 ≤ ivb1 a0 12 ∧ ivb1 a0 12 ≤ 50 from Wb1.int t_a0 12) (show (-2147483648) ≤ ivb1 a0 13 ∧ ivb1 a0 13 ≤ 2147483647 from Wb1.int t_a0 13) (show (-2147483648) ≤ ivb1 a0 14 ∧ ivb1 a0 14 ≤ 2147483647 from Wb1.int t_a0 14) (show (-2147483648) ≤ ivb1 a0 15 ∧ ivb1 a0 15 ≤ 2147483647 from Wb1.int t_a0 15) (show (-2147483648) ≤ ivb1 a0 16 ∧ ivb1 a0 16 ≤ 2147483647 from Wb1.int t_a0 16) (Fb1.call hX0 fl5 rfl) (MRK.call mrb1 Wb1 hS XT.refl fl5 rfl rfl) (fun ri13 ri14 ri15 ri16 ri17 ri18 F2 mr2 => ?_)
            refine c_st (st2 := [.int (iI f5)]) rfl ?_
            refine hv7 (show ivh5 a0 11 = ivb1 a0 11 from kp11f5) (show ivh5 a0 12 = ivb1 a0 12 from kp12f5) (show ivh5 a0 13 = ivb1 a0 13 from kp13f5) (show ivh5 a0 14 = ivb1 a0 14 from kp14f5) (show ivh5 a0 15 = ivb1 a0 15 from kp15f5) (show ivh5 a0 16 = ivb1 a0 16 from kp16f5) (show f5 = -1 from exf5) (fun gk11f5 gk12f5 gk13f5 gk14f5 gk15f5 gk16f5 gf5 => ?_)
            refine c_pop C dX11_saved_204 rfl ?_
            refine c_iconst C dX11_saved_205 ?_
            refine hv6 (show 1 ≤ ivh5 a0 11 ∧ ivh5 a0 11 ≤ 100 from W5.int t_a0 11) (show 1 ≤ ivh5 a0 12 ∧ ivh5 a0 12 ≤ 50 from W5.int t_a0 12) (show (-2147483648) ≤ ivh5 a0 13 ∧ ivh5 a0 13 ≤ 2147483647 from W5.int t_a0 13) (show (-2147483648) ≤ ivh5 a0 14 ∧ ivh5 a0 14 ≤ 2147483647 from W5.int t_a0 14) (show (-2147483648) ≤ ivh5 a0 15 ∧ ivh5 a0 15 ≤ 2147483647 from W5.int t_a0 15) (show (-2147483648) ≤ ivh5 a0 16 ∧ ivh5 a0 16 ≤ 2147483647 from W5.int t_a0 16) (fun ri19 ri20 ri21 ri22 ri23 ri24 => ?_)
            exact c_iret C dX11_saved_206 rfl (by decide) (rom0 hph hph (by decide)) ⟨0, rfl, rfl, rfl, rfl, rfl, F2, W5, ⟨by decide, by decide⟩, trivial, (gk11f5.trans hkp11), (gk12f5.trans hkp12), (gk13f5.trans hkp13), (gk14f5.trans hkp14), (gk15f5.trans hkp15), (gk16f5.trans hkp16)⟩
          · refine c_iload (j := 2) C dX11_saved_48 rfl ?_
            refine c_iconst C dX11_saved_50 ?_
            refine c_icmp_ge (tgt := 186) C (r32_c (lo := 0) (hi := 2) hsd.1 hsd.2 (by decide) (by decide)) ⟨by decide, by decide⟩ dX11_saved_51 (by decide) (fun c2 => ?_) (fun c2 => ?_)
            · refine c_iload (j := 1) C dX11_saved_186 rfl ?_
              refine c_if_eq (tgt := 207) C (r32_c (lo := 0) (hi := 9) hwy.1 hwy.2 (by decide) (by decide)) dX11_saved_188 (by decide) (fun _ => ?_) (fun z => absurd z (by omega))
              refine c_aload_n (j := 5) (x := a0) C dX11_saved_207 rfl ?_
              refine c_iload (j := 0) C dX11_saved_208 rfl ?_
              refine d_callV (As := [.int (iI s1)]) (rest := []) C hM (C_done (a0 := a0) (x := s1) Wb1 hS t_a0 (by omega) ) dX11_saved_210 kV_X11_109 rfl t_a0 rfl rfl (by decide) ck_12 rfl (Nat.le_of_ble_eq_true rfl) ⟨(Nat.le_of_ble_eq_true rfl), (Nat.le_of_ble_eq_true rfl)⟩ hph hph (show 0 + 0 = 0 from rfl) (by decide) (fun rh6 Lh6 clh6 lnh6 ivh6 rvh6 h6 => ?_)
              obtain ⟨f6, rfl, rfl, rfl, rfl, rfl, fl6, W6, rgf6, exf6, kp11f6, kp12f6, kp13f6, kp14f6, kp15f6, kp16f6⟩ := h6
              refine hv8 (show 1 ≤ ivb1 a0 11 ∧ ivb1 a0 11 ≤ 100 from Wb1.int t_a0 11) (show 1 ≤ ivb1 a0 12 ∧ ivb1 a0 12 ≤ 50 from Wb1.int t_a0 12) (show (-2147483648) ≤ ivb1 a0 13 ∧ ivb1 a0 13 ≤ 2147483647 from Wb1.int t_a0 13) (show (-2147483648) ≤ ivb1 a0 14 ∧ ivb1 a0 14 ≤ 2147483647 from Wb1.int t_a0 14) (show (-2147483648) ≤ ivb1 a0 15 ∧ ivb1 a0 15 ≤ 2147483647 from Wb1.int t_a0 15) (show (-2147483648) ≤ ivb1 a0 16 ∧ ivb1 a0 16 ≤ 2147483647 from Wb1.int t_a0 16) (Fb1.call hX0 fl6 rfl) (MRK.call mrb1 Wb1 hS XT.refl fl6 rfl rfl) (fun ri25 ri26 ri27 ri28 ri29 ri30 F3 mr3 => ?_)
              refine c_st (st2 := [.int (iI f6)]) rfl ?_
              refine hv13 (show ivh6 a0 11 = ivb1 a0 11 from kp11f6) (show ivh6 a0 12 = ivb1 a0 12 from kp12f6) (show ivh6 a0 13 = ivb1 a0 13 from kp13f6) (show ivh6 a0 14 = ivb1 a0 14 from kp14f6) (show ivh6 a0 15 = ivb1 a0 15 from kp15f6) (show ivh6 a0 16 = ivb1 a0 16 from kp16f6) (show f6 = s1 from exf6) (show 1 ≤ ivh6 a0 11 ∧ ivh6 a0 11 ≤ 100 from W6.int t_a0 11) (show 1 ≤ ivh6 a0 12 ∧ ivh6 a0 12 ≤ 50 from W6.int t_a0 12) (show (-2147483648) ≤ ivh6 a0 13 ∧ ivh6 a0 13 ≤ 2147483647 from W6.int t_a0 13) (show (-2147483648) ≤ ivh6 a0 14 ∧ ivh6 a0 14 ≤ 2147483647 from W6.int t_a0 14) (show (-2147483648) ≤ ivh6 a0 15 ∧ ivh6 a0 15 ≤ 2147483647 from W6.int t_a0 15) (show (-2147483648) ≤ ivh6 a0 16 ∧ ivh6 a0 16 ≤ 2147483647 from W6.int t_a0 16) (fun gk11f6 gk12f6 gk13f6 gk14f6 gk15f6 gk16f6 gf6 ri31 ri32 ri33 ri34 ri35 ri36 => ?_)
              exact c_iret C dX11_saved_213 rfl (by decide) (rom0 hph hph (by decide)) ⟨f6, rfl, rfl, rfl, rfl, rfl, F3, W6, ⟨by omega, by omega⟩, trivial, (gk11f6.trans hkp11), (gk12f6.trans hkp12), (gk13f6.trans hkp13), (gk14f6.trans hkp14), (gk15f6.trans hkp15), (gk16f6.trans hkp16)⟩
            · refine c_aload_n (j := 5) (x := a0) C dX11_saved_54 rfl ?_
              obtain ⟨rb3, rq3, trb3⟩ := Wb1.ref t_a0 5 rfl rfl rfl
              have erb3 := Wb1.sk trb3 (by decide) rfl
              subst erb3
              refine c_getr (k := 5) C ck_12 dX11_saved_55 w2_49 (by decide) t_a0 rfl rfl (by decide) rfl rq3 ?_
              refine c_st (st2 := [.ref (sk 14)]) rfl ?_
              refine d_callV (As := []) (rest := []) C hM (C_restart (a0 := (sk 14)) Wb1 hS tsk14  ) dX11_saved_58 kV_X11_235 rfl tsk14 rfl rfl (by decide) ck_9 rfl (Nat.le_of_ble_eq_true rfl) ⟨(Nat.le_of_ble_eq_true rfl), (Nat.le_of_ble_eq_true rfl)⟩ hph hph (show 0 + 0 = 0 from rfl) (by decide) (fun rh7 Lh7 clh7 lnh7 ivh7 rvh7 h7 => ?_)
              obtain ⟨rfl, rfl, rfl, rfl, rfl, fl7, W7, exf7⟩ := h7
              refine hv2 (Fb1.call hX0 fl7 rfl) (MRK.call mrb1 Wb1 hS XT.refl fl7 rfl rfl) (fun F4 mr4 => ?_)
              refine c_st (st2 := []) rfl ?_
              refine hv3 (show (-2147483648) ≤ ivh7 (sk 14) 0 ∧ ivh7 (sk 14) 0 ≤ 2147483647 from W7.int tsk14 0) (show 0 ≤ ivh7 (sk 14) 1 ∧ ivh7 (sk 14) 1 ≤ 1 from W7.int tsk14 1) (show ivh7 (sk 14) 0 = 0 ∧ ivh7 (sk 14) 1 = 0 from exf7) (fun ri37 ri38 gf7 => ?_)
              refine c_aload_n (j := 5) (x := a0) C dX11_saved_61 rfl ?_
              refine c_getr (k := 5) C ck_12 dX11_saved_62 w2_49 (by decide) t_a0 rfl rfl (by decide) rfl rq3 ?_
              refine c_st (st2 := [.ref (sk 14)]) rfl ?_
              refine c_aload_n (j := 5) (x := a0) C dX11_saved_65 rfl ?_
              obtain ⟨rb4, rq4, trb4⟩ := W7.ref t_a0 1 rfl rfl rfl
              have erb4 := W7.sk trb4 (by decide) rfl
              subst erb4
              refine c_getr (k := 1) C ck_12 dX11_saved_66 w2_45 (by decide) t_a0 rfl rfl (by decide) rfl rq4 ?_
              refine c_st (st2 := [.ref (sk 3), .ref (sk 14)]) rfl ?_
              refine c_aload_n (j := 5) (x := a0) C dX11_saved_69 rfl ?_
              obtain ⟨rb5, rq5, trb5⟩ := W7.ref t_a0 6 rfl rfl rfl
              have erb5 := W7.sk trb5 (by decide) rfl
              subst erb5
              refine c_getr (k := 6) C ck_12 dX11_saved_70 w2_50 (by decide) t_a0 rfl rfl (by decide) rfl rq5 ?_
              refine c_st (st2 := [.ref (sk 15), .ref (sk 3), .ref (sk 14)]) rfl ?_
              refine d_callV (As := [.ref (sk 3), .ref (sk 15)]) (rest := []) C hM (C_sstep (a0 := (sk 14)) (a1 := (sk 3)) (a2 := (sk 15)) W7 hS tsk14 tsk3 tsk15  (by show 0 ≤ ivh7 (sk 14) 0 ∧ ivh7 (sk 14) 0 ≤ 501 ∧ (ivh7 (sk 14) 1 = 0 ∨ ivh7 (sk 14) 0 ≤ 500); omega)) dX11_saved_73 kV_X11_238 rfl tsk14 rfl rfl (by decide) ck_9 rfl (Nat.le_of_ble_eq_true rfl) ⟨(Nat.le_of_ble_eq_true rfl), (Nat.le_of_ble_eq_true rfl)⟩ hph hph (show 0 + 0 = 0 from rfl) (by decide) (fun rh8 Lh8 clh8 lnh8 ivh8 rvh8 h8 => ?_)
              obtain ⟨f8, rfl, rfl, rfl, rfl, rfl, fl8, W8, rgf8, exf8⟩ := h8
              refine hv2 (F4.call hX0 fl8 rfl) (MRK.call mr4 W7 hS XT.refl fl8 rfl rfl) (fun F5 mr5 => ?_)
              refine c_st (st2 := [.int (iI f8)]) rfl ?_
              refine hv3 (show (-2147483648) ≤ ivh8 (sk 14) 0 ∧ ivh8 (sk 14) 0 ≤ 2147483647 from W8.int tsk14 0) (show 0 ≤ ivh8 (sk 14) 1 ∧ ivh8 (sk 14) 1 ≤ 1 from W8.int tsk14 1) (show (0 ≤ f8 ∧ f8 ≤ 3) ∧ 0 ≤ ivh8 (sk 14) 0 ∧ ivh8 (sk 14) 0 ≤ 501 ∧ (ivh8 (sk 14) 1 = 0 ∨ ivh8 (sk 14) 0 ≤ 500) from exf8) (fun ri39 ri40 gf8 => ?_)
              refine c_istore (lv2 := [(8, .int (iI f8)), (5, .int (iI s1)), (6, .int (iI wy)), (7, .int (iI sd)), (4, .ref ob2), (3, .ref ob1), (0, .ref a0), (1, .int (iI i)), (2, .int (iI j))]) C dX11_saved_76 (by decide) rfl ?_
              refine c_iconst C dX11_saved_78 ?_
              refine c_istore (lv2 := [(9, .int (iI 0)), (8, .int (iI f8)), (5, .int (iI s1)), (6, .int (iI wy)), (7, .int (iI sd)), (4, .ref ob2), (3, .ref ob1), (0, .ref a0), (1, .int (iI i)), (2, .int (iI j))]) C dX11_saved_79 (by decide) rfl ?_
              have Lp2 : ∀ (nn : Nat) (s2 wy2 cm k : Int) (ivb2 : Nat → Nat → Int) , 1000001 - k < (nn : Int) → WT (g0 G) sk L cl ln ivb2 rv → fT [1, 14, 15, 50, 51, 52, 53, 54, 55] L cl iv rv ivb2 rv → (-2147483648 ≤ s2 ∧ s2 ≤ 2147483647) → (0 ≤ wy2 ∧ wy2 ≤ 9) → (0 ≤ cm ∧ cm ≤ 3) → (0 ≤ k ∧ k ≤ 1000000) → (0 ≤ ivb2 (sk 14) 0 ∧ ivb2 (sk 14) 0 ≤ 501 ∧ (ivb2 (sk 14) 1 = 0 ∨ ivb2 (sk 14) 0 ≤ 500)) → (ivb2 a0 11 = iv a0 11) → (ivb2 a0 12 = iv a0 12) → (ivb2 a0 13 = iv a0 13) → (ivb2 a0 14 = iv a0 14) → (ivb2 a0 15 = iv a0 15) → (ivb2 a0 16 = iv a0 16) → cw p l e 8 ((PHM) + 0 - ((Phi (g0 G) sk) ln rv)) s m args below meth c G A 10 (MQ below (Qu G A (Qp G (Phi (g0 G) sk) ((Phi (g0 G) sk) ln rv) 0 (fun v L2 cl2 ln2 iv2 rv2 => ∃ f : Int, v = some (.int (iI f)) ∧ L = L2 ∧ cl = cl2 ∧ ln = ln2 ∧ rv = rv2 ∧ fT [1, 14, 15, 50, 51, 52, 53, 54, 55] L cl iv rv iv2 rv2 ∧ WT (g0 G) sk L2 cl2 ln2 iv2 rv2 ∧ (-2147483648 ≤ f ∧ f ≤ 2147483647) ∧ (True) ∧ iv2 a0 11 = iv a0 11 ∧ iv2 a0 12 = iv a0 12 ∧ iv2 a0 13 = iv a0 13 ∧ iv2 a0 14 = iv a0 14 ∧ iv2 a0 15 = iv a0 15 ∧ iv2 a0 16 = iv a0 16))) args s (((PHM) + 0 - ((Phi (g0 G) sk) ln rv)) / 16) ((PHM) + 0 - ((Phi (g0 G) sk) ln rv)) A) (Phi (g0 G) sk) ((Phi (g0 G) sk) ln rv) L cl ln ivb2 rv 0 81 [(5, .int (iI s2)), (6, .int (iI wy2)), (8, .int (iI cm)), (9, .int (iI k)), (7, .int (iI sd)), (4, .ref ob2), (3, .ref ob1), (0, .ref a0), (1, .int (iI i)), (2, .int (iI j))] [] := by
                intro nn
                induction nn with
                | zero =>
                  intro  s2 wy2 cm k ivb2 hm Wb2 Fb2  hs2 hwy2 hcm hk hsr hkp11 hkp12 hkp13 hkp14 hkp15 hkp16
                  exact absurd hm (by omega)
                | succ nn ih2 =>
                  intro  s2 wy2 cm k ivb2 hm Wb2 Fb2  hs2 hwy2 hcm hk hsr hkp11 hkp12 hkp13 hkp14 hkp15 hkp16
                  have mrb2 := MRK.call hmr hW hS XT.refl Fb2 rfl rfl
                  refine c_iload (j := 1) C dX11_saved_81 rfl ?_
                  refine c_if_ne (tgt := 180) C (r32_c (lo := 0) (hi := 9) hwy2.1 hwy2.2 (by decide) (by decide)) dX11_saved_83 (by decide) (fun c3 => ?_) (fun c3 => ?_)
                  · refine c_iinc (z := sd) (j := 4) (lv2 := [(7, .int (iI (sd + 1))), (5, .int (iI s2)), (6, .int (iI wy2)), (8, .int (iI cm)), (9, .int (iI k)), (4, .ref ob2), (3, .ref ob1), (0, .ref a0), (1, .int (iI i)), (2, .int (iI j))]) C dX11_saved_180 rfl (by decide) rfl ?_
                    refine c_goto (tgt := 43) C dX11_saved_183 (by decide) ?_
                    refine hv6 (show 1 ≤ ivb2 a0 11 ∧ ivb2 a0 11 ≤ 100 from Wb2.int t_a0 11) (show 1 ≤ ivb2 a0 12 ∧ ivb2 a0 12 ≤ 50 from Wb2.int t_a0 12) (show (-2147483648) ≤ ivb2 a0 13 ∧ ivb2 a0 13 ≤ 2147483647 from Wb2.int t_a0 13) (show (-2147483648) ≤ ivb2 a0 14 ∧ ivb2 a0 14 ≤ 2147483647 from Wb2.int t_a0 14) (show (-2147483648) ≤ ivb2 a0 15 ∧ ivb2 a0 15 ≤ 2147483647 from Wb2.int t_a0 15) (show (-2147483648) ≤ ivb2 a0 16 ∧ ivb2 a0 16 ≤ 2147483647 from Wb2.int t_a0 16) (fun ri41 ri42 ri43 ri44 ri45 ri46 => ?_)
                    refine c_lv (lv2 := [(5, .int (iI s2)), (6, .int (iI wy2)), (7, .int (iI (sd + 1))), (4, .ref ob2), (3, .ref ob1), (0, .ref a0), (1, .int (iI i)), (2, .int (iI j))]) [1, 2, 0, 5, 6, 7, 8, 9] rfl ?_
                    exact ih1  s2 wy2 (sd + 1) _ (by omega) Wb2 Fb2  (by omega) (by omega) (by omega) hkp11 hkp12 hkp13 hkp14 hkp15 hkp16
                  · refine c_iload (j := 2) C dX11_saved_86 rfl ?_
                    refine c_if_eq (tgt := 180) C (r32_c (lo := 0) (hi := 3) hcm.1 hcm.2 (by decide) (by decide)) dX11_saved_88 (by decide) (fun c4 => ?_) (fun c4 => ?_)
                    · refine c_iinc (z := sd) (j := 4) (lv2 := [(7, .int (iI (sd + 1))), (5, .int (iI s2)), (6, .int (iI wy2)), (8, .int (iI cm)), (9, .int (iI k)), (4, .ref ob2), (3, .ref ob1), (0, .ref a0), (1, .int (iI i)), (2, .int (iI j))]) C dX11_saved_180 rfl (by decide) rfl ?_
                      refine c_goto (tgt := 43) C dX11_saved_183 (by decide) ?_
                      refine hv6 (show 1 ≤ ivb2 a0 11 ∧ ivb2 a0 11 ≤ 100 from Wb2.int t_a0 11) (show 1 ≤ ivb2 a0 12 ∧ ivb2 a0 12 ≤ 50 from Wb2.int t_a0 12) (show (-2147483648) ≤ ivb2 a0 13 ∧ ivb2 a0 13 ≤ 2147483647 from Wb2.int t_a0 13) (show (-2147483648) ≤ ivb2 a0 14 ∧ ivb2 a0 14 ≤ 2147483647 from Wb2.int t_a0 14) (show (-2147483648) ≤ ivb2 a0 15 ∧ ivb2 a0 15 ≤ 2147483647 from Wb2.int t_a0 15) (show (-2147483648) ≤ ivb2 a0 16 ∧ ivb2 a0 16 ≤ 2147483647 from Wb2.int t_a0 16) (fun ri47 ri48 ri49 ri50 ri51 ri52 => ?_)
                      refine c_lv (lv2 := [(5, .int (iI s2)), (6, .int (iI wy2)), (7, .int (iI (sd + 1))), (4, .ref ob2), (3, .ref ob1), (0, .ref a0), (1, .int (iI i)), (2, .int (iI j))]) [1, 2, 0, 5, 6, 7, 8, 9] rfl ?_
                      exact ih1  s2 wy2 (sd + 1) _ (by omega) Wb2 Fb2  (by omega) (by omega) (by omega) hkp11 hkp12 hkp13 hkp14 hkp15 hkp16
                    · refine c_iload (j := 3) C dX11_saved_91 rfl ?_
                      refine c_ldc (z := 1000000) C dX11_saved_93 w4_30 rfl ?_
                      refine c_icmp_ge (tgt := 180) C (r32_c (lo := 0) (hi := 1000000) hk.1 hk.2 (by decide) (by decide)) ⟨by decide, by decide⟩ dX11_saved_95 (by decide) (fun c5 => ?_) (fun c5 => ?_)
                      · refine c_iinc (z := sd) (j := 4) (lv2 := [(7, .int (iI (sd + 1))), (5, .int (iI s2)), (6, .int (iI wy2)), (8, .int (iI cm)), (9, .int (iI k)), (4, .ref ob2), (3, .ref ob1), (0, .ref a0), (1, .int (iI i)), (2, .int (iI j))]) C dX11_saved_180 rfl (by decide) rfl ?_
                        refine c_goto (tgt := 43) C dX11_saved_183 (by decide) ?_
                        refine hv6 (show 1 ≤ ivb2 a0 11 ∧ ivb2 a0 11 ≤ 100 from Wb2.int t_a0 11) (show 1 ≤ ivb2 a0 12 ∧ ivb2 a0 12 ≤ 50 from Wb2.int t_a0 12) (show (-2147483648) ≤ ivb2 a0 13 ∧ ivb2 a0 13 ≤ 2147483647 from Wb2.int t_a0 13) (show (-2147483648) ≤ ivb2 a0 14 ∧ ivb2 a0 14 ≤ 2147483647 from Wb2.int t_a0 14) (show (-2147483648) ≤ ivb2 a0 15 ∧ ivb2 a0 15 ≤ 2147483647 from Wb2.int t_a0 15) (show (-2147483648) ≤ ivb2 a0 16 ∧ ivb2 a0 16 ≤ 2147483647 from Wb2.int t_a0 16) (fun ri53 ri54 ri55 ri56 ri57 ri58 => ?_)
                        refine c_lv (lv2 := [(5, .int (iI s2)), (6, .int (iI wy2)), (7, .int (iI (sd + 1))), (4, .ref ob2), (3, .ref ob1), (0, .ref a0), (1, .int (iI i)), (2, .int (iI j))]) [1, 2, 0, 5, 6, 7, 8, 9] rfl ?_
                        exact ih1  s2 wy2 (sd + 1) _ (by omega) Wb2 Fb2  (by omega) (by omega) (by omega) hkp11 hkp12 hkp13 hkp14 hkp15 hkp16
                      · refine c_iload (j := 2) C dX11_saved_98 rfl ?_
                        refine c_iconst C dX11_saved_100 ?_
                        refine c_icmp_ne (tgt := 152) C (r32_c (lo := 0) (hi := 3) hcm.1 hcm.2 (by decide) (by decide)) ⟨by decide, by decide⟩ dX11_saved_101 (by decide) (fun c6 => ?_) (fun c6 => ?_)
                        · refine c_iload (j := 1) C dX11_saved_152 rfl ?_
                          refine c_if_ne (tgt := 174) C (r32_c (lo := 0) (hi := 9) hwy2.1 hwy2.2 (by decide) (by decide)) dX11_saved_154 (by decide) (fun z => absurd z (by omega)) (fun _ => ?_)
                          refine c_aload_n (j := 7) (x := a0) C dX11_saved_157 rfl ?_
                          refine c_getr (k := 5) C ck_12 dX11_saved_158 w2_49 (by decide) t_a0 rfl rfl (by decide) rfl rq3 ?_
                          refine c_st (st2 := [.ref (sk 14)]) rfl ?_
                          refine c_aload_n (j := 7) (x := a0) C dX11_saved_161 rfl ?_
                          refine c_getr (k := 1) C ck_12 dX11_saved_162 w2_45 (by decide) t_a0 rfl rfl (by decide) rfl rq4 ?_
                          refine c_st (st2 := [.ref (sk 3), .ref (sk 14)]) rfl ?_
                          refine c_aload_n (j := 7) (x := a0) C dX11_saved_165 rfl ?_
                          refine c_getr (k := 6) C ck_12 dX11_saved_166 w2_50 (by decide) t_a0 rfl rfl (by decide) rfl rq5 ?_
                          refine c_st (st2 := [.ref (sk 15), .ref (sk 3), .ref (sk 14)]) rfl ?_
                          refine hv2 (show (-2147483648) ≤ ivb2 (sk 14) 0 ∧ ivb2 (sk 14) 0 ≤ 2147483647 from Wb2.int tsk14 0) (show 0 ≤ ivb2 (sk 14) 1 ∧ ivb2 (sk 14) 1 ≤ 1 from Wb2.int tsk14 1) (fun ri59 ri60 => ?_)
                          refine d_callV (As := [.ref (sk 3), .ref (sk 15)]) (rest := []) C hM (C_sstep (a0 := (sk 14)) (a1 := (sk 3)) (a2 := (sk 15)) Wb2 hS tsk14 tsk3 tsk15  (by show 0 ≤ ivb2 (sk 14) 0 ∧ ivb2 (sk 14) 0 ≤ 501 ∧ (ivb2 (sk 14) 1 = 0 ∨ ivb2 (sk 14) 0 ≤ 500); omega)) dX11_saved_169 kV_X11_238 rfl tsk14 rfl rfl (by decide) ck_9 rfl (Nat.le_of_ble_eq_true rfl) ⟨(Nat.le_of_ble_eq_true rfl), (Nat.le_of_ble_eq_true rfl)⟩ hph hph (show 0 + 0 = 0 from rfl) (by decide) (fun rh9 Lh9 clh9 lnh9 ivh9 rvh9 h9 => ?_)
                          obtain ⟨f9, rfl, rfl, rfl, rfl, rfl, fl9, W9, rgf9, exf9⟩ := h9
                          refine hv2 (Fb2.call hX0 fl9 rfl) (MRK.call mrb2 Wb2 hS XT.refl fl9 rfl rfl) (fun F6 mr6 => ?_)
                          refine c_st (st2 := [.int (iI f9)]) rfl ?_
                          refine hv3 (show (-2147483648) ≤ ivh9 (sk 14) 0 ∧ ivh9 (sk 14) 0 ≤ 2147483647 from W9.int tsk14 0) (show 0 ≤ ivh9 (sk 14) 1 ∧ ivh9 (sk 14) 1 ≤ 1 from W9.int tsk14 1) (show (0 ≤ f9 ∧ f9 ≤ 3) ∧ 0 ≤ ivh9 (sk 14) 0 ∧ ivh9 (sk 14) 0 ≤ 501 ∧ (ivh9 (sk 14) 1 = 0 ∨ ivh9 (sk 14) 0 ≤ 500) from exf9) (fun ri61 ri62 gf9 => ?_)
                          refine c_istore (lv2 := [(8, .int (iI f9)), (5, .int (iI s2)), (6, .int (iI wy2)), (9, .int (iI k)), (7, .int (iI sd)), (4, .ref ob2), (3, .ref ob1), (0, .ref a0), (1, .int (iI i)), (2, .int (iI j))]) C dX11_saved_172 (by decide) rfl ?_
                          refine c_iinc (z := k) (j := 3) (lv2 := [(9, .int (iI (k + 1))), (8, .int (iI f9)), (5, .int (iI s2)), (6, .int (iI wy2)), (7, .int (iI sd)), (4, .ref ob2), (3, .ref ob1), (0, .ref a0), (1, .int (iI i)), (2, .int (iI j))]) C dX11_saved_174 rfl (by decide) rfl ?_
                          refine c_goto (tgt := 81) C dX11_saved_177 (by decide) ?_
                          refine hv12 (show 1 ≤ ivh9 a0 11 ∧ ivh9 a0 11 ≤ 100 from W9.int t_a0 11) (show ivh9 a0 11 = ivb2 a0 11 from fl9.i t_a0 rfl 11) (show 1 ≤ ivh9 a0 12 ∧ ivh9 a0 12 ≤ 50 from W9.int t_a0 12) (show ivh9 a0 12 = ivb2 a0 12 from fl9.i t_a0 rfl 12) (show (-2147483648) ≤ ivh9 a0 13 ∧ ivh9 a0 13 ≤ 2147483647 from W9.int t_a0 13) (show ivh9 a0 13 = ivb2 a0 13 from fl9.i t_a0 rfl 13) (show (-2147483648) ≤ ivh9 a0 14 ∧ ivh9 a0 14 ≤ 2147483647 from W9.int t_a0 14) (show ivh9 a0 14 = ivb2 a0 14 from fl9.i t_a0 rfl 14) (show (-2147483648) ≤ ivh9 a0 15 ∧ ivh9 a0 15 ≤ 2147483647 from W9.int t_a0 15) (show ivh9 a0 15 = ivb2 a0 15 from fl9.i t_a0 rfl 15) (show (-2147483648) ≤ ivh9 a0 16 ∧ ivh9 a0 16 ≤ 2147483647 from W9.int t_a0 16) (show ivh9 a0 16 = ivb2 a0 16 from fl9.i t_a0 rfl 16) (fun ri63 ie57 ri64 ie59 ri65 ie61 ri66 ie63 ri67 ie65 ri68 ie67 => ?_)
                          refine c_lv (lv2 := [(5, .int (iI s2)), (6, .int (iI wy2)), (8, .int (iI f9)), (9, .int (iI (k + 1))), (7, .int (iI sd)), (4, .ref ob2), (3, .ref ob1), (0, .ref a0), (1, .int (iI i)), (2, .int (iI j))]) [2, 3, 1, 0, 4, 5, 6, 7, 8, 9] rfl ?_
                          exact ih2  s2 wy2 f9 (k + 1) _ (by omega) W9 F6  (by omega) (by omega) (by omega) (by omega) (by show 0 ≤ ivh9 (sk 14) 0 ∧ ivh9 (sk 14) 0 ≤ 501 ∧ (ivh9 (sk 14) 1 = 0 ∨ ivh9 (sk 14) 0 ≤ 500); omega) (ie57.trans hkp11) (ie59.trans hkp12) (ie61.trans hkp13) (ie63.trans hkp14) (ie65.trans hkp15) (ie67.trans hkp16)
                        · refine c_aload_n (j := 7) (x := a0) C dX11_saved_104 rfl ?_
                          refine c_getr (k := 6) C ck_12 dX11_saved_105 w2_50 (by decide) t_a0 rfl rfl (by decide) rfl rq5 ?_
                          refine c_st (st2 := [.ref (sk 15)]) rfl ?_
                          refine c_iload (j := 4) C dX11_saved_108 rfl ?_
                          refine c_if_ne (tgt := 117) C (r32_c (lo := 0) (hi := 2) hsd.1 hsd.2 (by decide) (by decide)) dX11_saved_110 (by decide) (fun c7 => ?_) (fun c7 => ?_)
                          · refine c_aload (j := 5) (x := ob2) C dX11_saved_117 rfl ?_
                            have ri69 : 0 ≤ ivb2 (sk 15) 4 ∧ ivb2 (sk 15) 4 ≤ 500 := Wb2.int tsk15 4
                            refine d_callV (As := [.ref ob2]) (rest := []) C hM (C_setBy (a0 := (sk 15)) (a1 := ob2) Wb2 hS tsk15 tob2  ) dX11_saved_119 kV_X11_253 rfl tsk15 rfl rfl (by decide) ck_7 rfl (Nat.le_of_ble_eq_true rfl) ⟨(Nat.le_of_ble_eq_true rfl), (Nat.le_of_ble_eq_true rfl)⟩ hph hph (show 0 + 0 = 0 from rfl) (by decide) (fun rh10 Lh10 clh10 lnh10 ivh10 rvh10 h10 => ?_)
                            obtain ⟨f10, rfl, rfl, rfl, rfl, rfl, fl10, W10, rgf10, exf10⟩ := h10
                            refine hv2 (Fb2.call hX0 fl10 rfl) (MRK.call mrb2 Wb2 hS XT.refl fl10 rfl rfl) (fun F7 mr7 => ?_)
                            refine c_st (st2 := [.int (iI f10)]) rfl ?_
                            refine hv3 (show 0 ≤ ivh10 (sk 15) 4 ∧ ivh10 (sk 15) 4 ≤ 500 from W10.int tsk15 4) (show 0 ≤ ivh10 (sk 15) 7 ∧ ivh10 (sk 15) 7 ≤ 100000 from W10.int tsk15 7) (show (f10 = 0 ∨ f10 = 6 ∨ f10 = 7) ∧ ivh10 (sk 15) 4 = ivb2 (sk 15) 4 ∧ (f10 = 0 → ivh10 (sk 15) 7 ≤ 200) from exf10) (fun ri70 ri71 gf10 => ?_)
                            refine c_istore (lv2 := [(6, .int (iI f10)), (5, .int (iI s2)), (8, .int (iI cm)), (9, .int (iI k)), (7, .int (iI sd)), (4, .ref ob2), (3, .ref ob1), (0, .ref a0), (1, .int (iI i)), (2, .int (iI j))]) C dX11_saved_122 (by decide) rfl ?_
                            refine c_iload (j := 1) C dX11_saved_124 rfl ?_
                            refine c_iload (j := 4) C dX11_saved_126 rfl ?_
                            refine c_if_ne (tgt := 141) C (r32_c (lo := 0) (hi := 2) hsd.1 hsd.2 (by decide) (by decide)) dX11_saved_128 (by decide) (fun _ => ?_) (fun z => absurd z (by omega))
                            refine c_aload_n (j := 7) (x := a0) C dX11_saved_141 rfl ?_
                            refine c_getr (k := 6) C ck_12 dX11_saved_142 w2_50 (by decide) t_a0 rfl rfl (by decide) rfl rq5 ?_
                            refine c_st (st2 := [.ref (sk 15), .int (iI s2)]) rfl ?_
                            refine c_get (k := 7) C ck_7 dX11_saved_145 w1_149 (by decide) tsk15 rfl rfl (by decide) rfl ?_
                            refine c_ineg C dX11_saved_148 ?_
                            refine c_iadd C dX11_saved_149 ?_
                            obtain ⟨zz1, hzz1, ezz1⟩ := iI_of (iI (s2 + (-(ivh10 (sk 15) 7))))
                            refine c_st (st2 := [.int (iI zz1)]) (by rw [ezz1]) ?_
                            refine c_istore (lv2 := [(5, .int (iI zz1)), (6, .int (iI f10)), (8, .int (iI cm)), (9, .int (iI k)), (7, .int (iI sd)), (4, .ref ob2), (3, .ref ob1), (0, .ref a0), (1, .int (iI i)), (2, .int (iI j))]) C dX11_saved_150 (by decide) rfl ?_
                            refine c_iload (j := 1) C dX11_saved_152 rfl ?_
                            refine c_if_ne (tgt := 174) C (r32_067 gf10.1) dX11_saved_154 (by decide) (fun c8 => ?_) (fun c8 => ?_)
                            · replace gf10 := (And.intro (gf10.1.resolve_left c8) (And.intro gf10.2.1 trivial))
                              refine c_iinc (z := k) (j := 3) (lv2 := [(9, .int (iI (k + 1))), (5, .int (iI zz1)), (6, .int (iI f10)), (8, .int (iI cm)), (7, .int (iI sd)), (4, .ref ob2), (3, .ref ob1), (0, .ref a0), (1, .int (iI i)), (2, .int (iI j))]) C dX11_saved_174 rfl (by decide) rfl ?_
                              refine c_goto (tgt := 81) C dX11_saved_177 (by decide) ?_
                              refine hv16 (show (-2147483648) ≤ ivh10 (sk 14) 0 ∧ ivh10 (sk 14) 0 ≤ 2147483647 from W10.int tsk14 0) (show ivh10 (sk 14) 0 = ivb2 (sk 14) 0 from fl10.i tsk14 rfl 0) (show 0 ≤ ivh10 (sk 14) 1 ∧ ivh10 (sk 14) 1 ≤ 1 from W10.int tsk14 1) (show ivh10 (sk 14) 1 = ivb2 (sk 14) 1 from fl10.i tsk14 rfl 1) (show 1 ≤ ivh10 a0 11 ∧ ivh10 a0 11 ≤ 100 from W10.int t_a0 11) (show ivh10 a0 11 = ivb2 a0 11 from fl10.i t_a0 rfl 11) (show 1 ≤ ivh10 a0 12 ∧ ivh10 a0 12 ≤ 50 from W10.int t_a0 12) (show ivh10 a0 12 = ivb2 a0 12 from fl10.i t_a0 rfl 12) (show (-2147483648) ≤ ivh10 a0 13 ∧ ivh10 a0 13 ≤ 2147483647 from W10.int t_a0 13) (show ivh10 a0 13 = ivb2 a0 13 from fl10.i t_a0 rfl 13) (show (-2147483648) ≤ ivh10 a0 14 ∧ ivh10 a0 14 ≤ 2147483647 from W10.int t_a0 14) (show ivh10 a0 14 = ivb2 a0 14 from fl10.i t_a0 rfl 14) (show (-2147483648) ≤ ivh10 a0 15 ∧ ivh10 a0 15 ≤ 2147483647 from W10.int t_a0 15) (show ivh10 a0 15 = ivb2 a0 15 from fl10.i t_a0 rfl 15) (show (-2147483648) ≤ ivh10 a0 16 ∧ ivh10 a0 16 ≤ 2147483647 from W10.int t_a0 16) (show ivh10 a0 16 = ivb2 a0 16 from fl10.i t_a0 rfl 16) (fun ri72 ie72 ri73 ie74 ri74 ie76 ri75 ie78 ri76 ie80 ri77 ie82 ri78 ie84 ri79 ie86 => ?_)
                              refine c_lv (lv2 := [(5, .int (iI zz1)), (6, .int (iI f10)), (8, .int (iI cm)), (9, .int (iI (k + 1))), (7, .int (iI sd)), (4, .ref ob2), (3, .ref ob1), (0, .ref a0), (1, .int (iI i)), (2, .int (iI j))]) [1, 2, 3, 0, 4, 5, 6, 7, 8, 9] rfl ?_
                              exact ih2  zz1 f10 cm (k + 1) _ (by omega) W10 F7  (by omega) (by omega) (by omega) (by omega) (by show 0 ≤ ivh10 (sk 14) 0 ∧ ivh10 (sk 14) 0 ≤ 501 ∧ (ivh10 (sk 14) 1 = 0 ∨ ivh10 (sk 14) 0 ≤ 500); omega) (ie76.trans hkp11) (ie78.trans hkp12) (ie80.trans hkp13) (ie82.trans hkp14) (ie84.trans hkp15) (ie86.trans hkp16)
                            · replace gf10 := (And.intro c8 (And.intro gf10.2.1 (gf10.2.2 c8)))
                              refine c_aload_n (j := 7) (x := a0) C dX11_saved_157 rfl ?_
                              refine c_getr (k := 5) C ck_12 dX11_saved_158 w2_49 (by decide) t_a0 rfl rfl (by decide) rfl rq3 ?_
                              refine c_st (st2 := [.ref (sk 14)]) rfl ?_
                              refine c_aload_n (j := 7) (x := a0) C dX11_saved_161 rfl ?_
                              refine c_getr (k := 1) C ck_12 dX11_saved_162 w2_45 (by decide) t_a0 rfl rfl (by decide) rfl rq4 ?_
                              refine c_st (st2 := [.ref (sk 3), .ref (sk 14)]) rfl ?_
                              refine c_aload_n (j := 7) (x := a0) C dX11_saved_165 rfl ?_
                              refine c_getr (k := 6) C ck_12 dX11_saved_166 w2_50 (by decide) t_a0 rfl rfl (by decide) rfl rq5 ?_
                              refine c_st (st2 := [.ref (sk 15), .ref (sk 3), .ref (sk 14)]) rfl ?_
                              refine hv4 (show (-2147483648) ≤ ivh10 (sk 14) 0 ∧ ivh10 (sk 14) 0 ≤ 2147483647 from W10.int tsk14 0) (show ivh10 (sk 14) 0 = ivb2 (sk 14) 0 from fl10.i tsk14 rfl 0) (show 0 ≤ ivh10 (sk 14) 1 ∧ ivh10 (sk 14) 1 ≤ 1 from W10.int tsk14 1) (show ivh10 (sk 14) 1 = ivb2 (sk 14) 1 from fl10.i tsk14 rfl 1) (fun ri80 ie88 ri81 ie90 => ?_)
                              refine d_callV (As := [.ref (sk 3), .ref (sk 15)]) (rest := []) C hM (C_sstep (a0 := (sk 14)) (a1 := (sk 3)) (a2 := (sk 15)) W10 hS tsk14 tsk3 tsk15  (by show 0 ≤ ivh10 (sk 14) 0 ∧ ivh10 (sk 14) 0 ≤ 501 ∧ (ivh10 (sk 14) 1 = 0 ∨ ivh10 (sk 14) 0 ≤ 500); omega)) dX11_saved_169 kV_X11_238 rfl tsk14 rfl rfl (by decide) ck_9 rfl (Nat.le_of_ble_eq_true rfl) ⟨(Nat.le_of_ble_eq_true rfl), (Nat.le_of_ble_eq_true rfl)⟩ hph hph (show 0 + 0 = 0 from rfl) (by decide) (fun rh11 Lh11 clh11 lnh11 ivh11 rvh11 h11 => ?_)
                              obtain ⟨f11, rfl, rfl, rfl, rfl, rfl, fl11, W11, rgf11, exf11⟩ := h11
                              refine hv2 (F7.call hX0 fl11 rfl) (MRK.call mr7 W10 hS XT.refl fl11 rfl rfl) (fun F8 mr8 => ?_)
                              refine c_st (st2 := [.int (iI f11)]) rfl ?_
                              refine hv3 (show (-2147483648) ≤ ivh11 (sk 14) 0 ∧ ivh11 (sk 14) 0 ≤ 2147483647 from W11.int tsk14 0) (show 0 ≤ ivh11 (sk 14) 1 ∧ ivh11 (sk 14) 1 ≤ 1 from W11.int tsk14 1) (show (0 ≤ f11 ∧ f11 ≤ 3) ∧ 0 ≤ ivh11 (sk 14) 0 ∧ ivh11 (sk 14) 0 ≤ 501 ∧ (ivh11 (sk 14) 1 = 0 ∨ ivh11 (sk 14) 0 ≤ 500) from exf11) (fun ri82 ri83 gf11 => ?_)
                              refine c_istore (lv2 := [(8, .int (iI f11)), (5, .int (iI zz1)), (6, .int (iI f10)), (9, .int (iI k)), (7, .int (iI sd)), (4, .ref ob2), (3, .ref ob1), (0, .ref a0), (1, .int (iI i)), (2, .int (iI j))]) C dX11_saved_172 (by decide) rfl ?_
                              refine c_iinc (z := k) (j := 3) (lv2 := [(9, .int (iI (k + 1))), (8, .int (iI f11)), (5, .int (iI zz1)), (6, .int (iI f10)), (7, .int (iI sd)), (4, .ref ob2), (3, .ref ob1), (0, .ref a0), (1, .int (iI i)), (2, .int (iI j))]) C dX11_saved_174 rfl (by decide) rfl ?_
                              refine c_goto (tgt := 81) C dX11_saved_177 (by decide) ?_
                              refine hv18 (show 1 ≤ ivh11 a0 11 ∧ ivh11 a0 11 ≤ 100 from W11.int t_a0 11) (show ivh11 a0 11 = ivh10 a0 11 from fl11.i t_a0 rfl 11) (show ivh10 a0 11 = ivb2 a0 11 from fl10.i t_a0 rfl 11) (show 1 ≤ ivh11 a0 12 ∧ ivh11 a0 12 ≤ 50 from W11.int t_a0 12) (show ivh11 a0 12 = ivh10 a0 12 from fl11.i t_a0 rfl 12) (show ivh10 a0 12 = ivb2 a0 12 from fl10.i t_a0 rfl 12) (show (-2147483648) ≤ ivh11 a0 13 ∧ ivh11 a0 13 ≤ 2147483647 from W11.int t_a0 13) (show ivh11 a0 13 = ivh10 a0 13 from fl11.i t_a0 rfl 13) (show ivh10 a0 13 = ivb2 a0 13 from fl10.i t_a0 rfl 13) (show (-2147483648) ≤ ivh11 a0 14 ∧ ivh11 a0 14 ≤ 2147483647 from W11.int t_a0 14) (show ivh11 a0 14 = ivh10 a0 14 from fl11.i t_a0 rfl 14) (show ivh10 a0 14 = ivb2 a0 14 from fl10.i t_a0 rfl 14) (show (-2147483648) ≤ ivh11 a0 15 ∧ ivh11 a0 15 ≤ 2147483647 from W11.int t_a0 15) (show ivh11 a0 15 = ivh10 a0 15 from fl11.i t_a0 rfl 15) (show ivh10 a0 15 = ivb2 a0 15 from fl10.i t_a0 rfl 15) (show (-2147483648) ≤ ivh11 a0 16 ∧ ivh11 a0 16 ≤ 2147483647 from W11.int t_a0 16) (show ivh11 a0 16 = ivh10 a0 16 from fl11.i t_a0 rfl 16) (show ivh10 a0 16 = ivb2 a0 16 from fl10.i t_a0 rfl 16) (fun ri84 ie94 ie95 ri85 ie97 ie98 ri86 ie100 ie101 ri87 ie103 ie104 ri88 ie106 ie107 ri89 ie109 ie110 => ?_)
                              refine c_lv (lv2 := [(5, .int (iI zz1)), (6, .int (iI f10)), (8, .int (iI f11)), (9, .int (iI (k + 1))), (7, .int (iI sd)), (4, .ref ob2), (3, .ref ob1), (0, .ref a0), (1, .int (iI i)), (2, .int (iI j))]) [2, 3, 1, 0, 4, 5, 6, 7, 8, 9] rfl ?_
                              exact ih2  zz1 f10 f11 (k + 1) _ (by omega) W11 F8  (by omega) (by omega) (by omega) (by omega) (by show 0 ≤ ivh11 (sk 14) 0 ∧ ivh11 (sk 14) 0 ≤ 501 ∧ (ivh11 (sk 14) 1 = 0 ∨ ivh11 (sk 14) 0 ≤ 500); omega) (ie94.trans (ie95.trans hkp11)) (ie97.trans (ie98.trans hkp12)) (ie100.trans (ie101.trans hkp13)) (ie103.trans (ie104.trans hkp14)) (ie106.trans (ie107.trans hkp15)) (ie109.trans (ie110.trans hkp16))
                          · refine c_aload_n (j := 6) (x := ob1) C dX11_saved_113 rfl ?_
                            refine c_goto (tgt := 119) C dX11_saved_114 (by decide) ?_
                            have ri90 : 0 ≤ ivb2 (sk 15) 4 ∧ ivb2 (sk 15) 4 ≤ 500 := Wb2.int tsk15 4
                            refine d_callV (As := [.ref ob1]) (rest := []) C hM (C_setBy (a0 := (sk 15)) (a1 := ob1) Wb2 hS tsk15 tob1  ) dX11_saved_119 kV_X11_253 rfl tsk15 rfl rfl (by decide) ck_7 rfl (Nat.le_of_ble_eq_true rfl) ⟨(Nat.le_of_ble_eq_true rfl), (Nat.le_of_ble_eq_true rfl)⟩ hph hph (show 0 + 0 = 0 from rfl) (by decide) (fun rh12 Lh12 clh12 lnh12 ivh12 rvh12 h12 => ?_)
                            obtain ⟨f12, rfl, rfl, rfl, rfl, rfl, fl12, W12, rgf12, exf12⟩ := h12
                            refine hv2 (Fb2.call hX0 fl12 rfl) (MRK.call mrb2 Wb2 hS XT.refl fl12 rfl rfl) (fun F9 mr9 => ?_)
                            refine c_st (st2 := [.int (iI f12)]) rfl ?_
                            refine hv3 (show 0 ≤ ivh12 (sk 15) 4 ∧ ivh12 (sk 15) 4 ≤ 500 from W12.int tsk15 4) (show 0 ≤ ivh12 (sk 15) 7 ∧ ivh12 (sk 15) 7 ≤ 100000 from W12.int tsk15 7) (show (f12 = 0 ∨ f12 = 6 ∨ f12 = 7) ∧ ivh12 (sk 15) 4 = ivb2 (sk 15) 4 ∧ (f12 = 0 → ivh12 (sk 15) 7 ≤ 200) from exf12) (fun ri91 ri92 gf12 => ?_)
                            refine c_istore (lv2 := [(6, .int (iI f12)), (5, .int (iI s2)), (8, .int (iI cm)), (9, .int (iI k)), (7, .int (iI sd)), (4, .ref ob2), (3, .ref ob1), (0, .ref a0), (1, .int (iI i)), (2, .int (iI j))]) C dX11_saved_122 (by decide) rfl ?_
                            refine c_iload (j := 1) C dX11_saved_124 rfl ?_
                            refine c_iload (j := 4) C dX11_saved_126 rfl ?_
                            refine c_if_ne (tgt := 141) C (r32_c (lo := 0) (hi := 2) hsd.1 hsd.2 (by decide) (by decide)) dX11_saved_128 (by decide) (fun z => absurd z (by omega)) (fun _ => ?_)
                            refine c_aload_n (j := 7) (x := a0) C dX11_saved_131 rfl ?_
                            refine c_getr (k := 6) C ck_12 dX11_saved_132 w2_50 (by decide) t_a0 rfl rfl (by decide) rfl rq5 ?_
                            refine c_st (st2 := [.ref (sk 15), .int (iI s2)]) rfl ?_
                            refine c_get (k := 7) C ck_7 dX11_saved_135 w1_149 (by decide) tsk15 rfl rfl (by decide) rfl ?_
                            refine c_goto (tgt := 149) C dX11_saved_138 (by decide) ?_
                            refine c_iadd C dX11_saved_149 ?_
                            obtain ⟨zz2, hzz2, ezz2⟩ := iI_of (iI (s2 + (ivh12 (sk 15) 7)))
                            refine c_st (st2 := [.int (iI zz2)]) (by rw [ezz2]) ?_
                            refine c_istore (lv2 := [(5, .int (iI zz2)), (6, .int (iI f12)), (8, .int (iI cm)), (9, .int (iI k)), (7, .int (iI sd)), (4, .ref ob2), (3, .ref ob1), (0, .ref a0), (1, .int (iI i)), (2, .int (iI j))]) C dX11_saved_150 (by decide) rfl ?_
                            refine c_iload (j := 1) C dX11_saved_152 rfl ?_
                            refine c_if_ne (tgt := 174) C (r32_067 gf12.1) dX11_saved_154 (by decide) (fun c9 => ?_) (fun c9 => ?_)
                            · replace gf12 := (And.intro (gf12.1.resolve_left c9) (And.intro gf12.2.1 trivial))
                              refine c_iinc (z := k) (j := 3) (lv2 := [(9, .int (iI (k + 1))), (5, .int (iI zz2)), (6, .int (iI f12)), (8, .int (iI cm)), (7, .int (iI sd)), (4, .ref ob2), (3, .ref ob1), (0, .ref a0), (1, .int (iI i)), (2, .int (iI j))]) C dX11_saved_174 rfl (by decide) rfl ?_
                              refine c_goto (tgt := 81) C dX11_saved_177 (by decide) ?_
                              refine hv16 (show (-2147483648) ≤ ivh12 (sk 14) 0 ∧ ivh12 (sk 14) 0 ≤ 2147483647 from W12.int tsk14 0) (show ivh12 (sk 14) 0 = ivb2 (sk 14) 0 from fl12.i tsk14 rfl 0) (show 0 ≤ ivh12 (sk 14) 1 ∧ ivh12 (sk 14) 1 ≤ 1 from W12.int tsk14 1) (show ivh12 (sk 14) 1 = ivb2 (sk 14) 1 from fl12.i tsk14 rfl 1) (show 1 ≤ ivh12 a0 11 ∧ ivh12 a0 11 ≤ 100 from W12.int t_a0 11) (show ivh12 a0 11 = ivb2 a0 11 from fl12.i t_a0 rfl 11) (show 1 ≤ ivh12 a0 12 ∧ ivh12 a0 12 ≤ 50 from W12.int t_a0 12) (show ivh12 a0 12 = ivb2 a0 12 from fl12.i t_a0 rfl 12) (show (-2147483648) ≤ ivh12 a0 13 ∧ ivh12 a0 13 ≤ 2147483647 from W12.int t_a0 13) (show ivh12 a0 13 = ivb2 a0 13 from fl12.i t_a0 rfl 13) (show (-2147483648) ≤ ivh12 a0 14 ∧ ivh12 a0 14 ≤ 2147483647 from W12.int t_a0 14) (show ivh12 a0 14 = ivb2 a0 14 from fl12.i t_a0 rfl 14) (show (-2147483648) ≤ ivh12 a0 15 ∧ ivh12 a0 15 ≤ 2147483647 from W12.int t_a0 15) (show ivh12 a0 15 = ivb2 a0 15 from fl12.i t_a0 rfl 15) (show (-2147483648) ≤ ivh12 a0 16 ∧ ivh12 a0 16 ≤ 2147483647 from W12.int t_a0 16) (show ivh12 a0 16 = ivb2 a0 16 from fl12.i t_a0 rfl 16) (fun ri93 ie115 ri94 ie117 ri95 ie119 ri96 ie121 ri97 ie123 ri98 ie125 ri99 ie127 ri100 ie129 => ?_)
                              refine c_lv (lv2 := [(5, .int (iI zz2)), (6, .int (iI f12)), (8, .int (iI cm)), (9, .int (iI (k + 1))), (7, .int (iI sd)), (4, .ref ob2), (3, .ref ob1), (0, .ref a0), (1, .int (iI i)), (2, .int (iI j))]) [1, 2, 3, 0, 4, 5, 6, 7, 8, 9] rfl ?_
                              exact ih2  zz2 f12 cm (k + 1) _ (by omega) W12 F9  (by omega) (by omega) (by omega) (by omega) (by show 0 ≤ ivh12 (sk 14) 0 ∧ ivh12 (sk 14) 0 ≤ 501 ∧ (ivh12 (sk 14) 1 = 0 ∨ ivh12 (sk 14) 0 ≤ 500); omega) (ie119.trans hkp11) (ie121.trans hkp12) (ie123.trans hkp13) (ie125.trans hkp14) (ie127.trans hkp15) (ie129.trans hkp16)
                            · replace gf12 := (And.intro c9 (And.intro gf12.2.1 (gf12.2.2 c9)))
                              refine c_aload_n (j := 7) (x := a0) C dX11_saved_157 rfl ?_
                              refine c_getr (k := 5) C ck_12 dX11_saved_158 w2_49 (by decide) t_a0 rfl rfl (by decide) rfl rq3 ?_
                              refine c_st (st2 := [.ref (sk 14)]) rfl ?_
                              refine c_aload_n (j := 7) (x := a0) C dX11_saved_161 rfl ?_
                              refine c_getr (k := 1) C ck_12 dX11_saved_162 w2_45 (by decide) t_a0 rfl rfl (by decide) rfl rq4 ?_
                              refine c_st (st2 := [.ref (sk 3), .ref (sk 14)]) rfl ?_
                              refine c_aload_n (j := 7) (x := a0) C dX11_saved_165 rfl ?_
                              refine c_getr (k := 6) C ck_12 dX11_saved_166 w2_50 (by decide) t_a0 rfl rfl (by decide) rfl rq5 ?_
                              refine c_st (st2 := [.ref (sk 15), .ref (sk 3), .ref (sk 14)]) rfl ?_
                              refine hv4 (show (-2147483648) ≤ ivh12 (sk 14) 0 ∧ ivh12 (sk 14) 0 ≤ 2147483647 from W12.int tsk14 0) (show ivh12 (sk 14) 0 = ivb2 (sk 14) 0 from fl12.i tsk14 rfl 0) (show 0 ≤ ivh12 (sk 14) 1 ∧ ivh12 (sk 14) 1 ≤ 1 from W12.int tsk14 1) (show ivh12 (sk 14) 1 = ivb2 (sk 14) 1 from fl12.i tsk14 rfl 1) (fun ri101 ie131 ri102 ie133 => ?_)
                              refine d_callV (As := [.ref (sk 3), .ref (sk 15)]) (rest := []) C hM (C_sstep (a0 := (sk 14)) (a1 := (sk 3)) (a2 := (sk 15)) W12 hS tsk14 tsk3 tsk15  (by show 0 ≤ ivh12 (sk 14) 0 ∧ ivh12 (sk 14) 0 ≤ 501 ∧ (ivh12 (sk 14) 1 = 0 ∨ ivh12 (sk 14) 0 ≤ 500); omega)) dX11_saved_169 kV_X11_238 rfl tsk14 rfl rfl (by decide) ck_9 rfl (Nat.le_of_ble_eq_true rfl) ⟨(Nat.le_of_ble_eq_true rfl), (Nat.le_of_ble_eq_true rfl)⟩ hph hph (show 0 + 0 = 0 from rfl) (by decide) (fun rh13 Lh13 clh13 lnh13 ivh13 rvh13 h13 => ?_)
                              obtain ⟨f13, rfl, rfl, rfl, rfl, rfl, fl13, W13, rgf13, exf13⟩ := h13
                              refine hv2 (F9.call hX0 fl13 rfl) (MRK.call mr9 W12 hS XT.refl fl13 rfl rfl) (fun F10 mr10 => ?_)
                              refine c_st (st2 := [.int (iI f13)]) rfl ?_
                              refine hv3 (show (-2147483648) ≤ ivh13 (sk 14) 0 ∧ ivh13 (sk 14) 0 ≤ 2147483647 from W13.int tsk14 0) (show 0 ≤ ivh13 (sk 14) 1 ∧ ivh13 (sk 14) 1 ≤ 1 from W13.int tsk14 1) (show (0 ≤ f13 ∧ f13 ≤ 3) ∧ 0 ≤ ivh13 (sk 14) 0 ∧ ivh13 (sk 14) 0 ≤ 501 ∧ (ivh13 (sk 14) 1 = 0 ∨ ivh13 (sk 14) 0 ≤ 500) from exf13) (fun ri103 ri104 gf13 => ?_)
                              refine c_istore (lv2 := [(8, .int (iI f13)), (5, .int (iI zz2)), (6, .int (iI f12)), (9, .int (iI k)), (7, .int (iI sd)), (4, .ref ob2), (3, .ref ob1), (0, .ref a0), (1, .int (iI i)), (2, .int (iI j))]) C dX11_saved_172 (by decide) rfl ?_
                              refine c_iinc (z := k) (j := 3) (lv2 := [(9, .int (iI (k + 1))), (8, .int (iI f13)), (5, .int (iI zz2)), (6, .int (iI f12)), (7, .int (iI sd)), (4, .ref ob2), (3, .ref ob1), (0, .ref a0), (1, .int (iI i)), (2, .int (iI j))]) C dX11_saved_174 rfl (by decide) rfl ?_
                              refine c_goto (tgt := 81) C dX11_saved_177 (by decide) ?_
                              refine hv18 (show 1 ≤ ivh13 a0 11 ∧ ivh13 a0 11 ≤ 100 from W13.int t_a0 11) (show ivh13 a0 11 = ivh12 a0 11 from fl13.i t_a0 rfl 11) (show ivh12 a0 11 = ivb2 a0 11 from fl12.i t_a0 rfl 11) (show 1 ≤ ivh13 a0 12 ∧ ivh13 a0 12 ≤ 50 from W13.int t_a0 12) (show ivh13 a0 12 = ivh12 a0 12 from fl13.i t_a0 rfl 12) (show ivh12 a0 12 = ivb2 a0 12 from fl12.i t_a0 rfl 12) (show (-2147483648) ≤ ivh13 a0 13 ∧ ivh13 a0 13 ≤ 2147483647 from W13.int t_a0 13) (show ivh13 a0 13 = ivh12 a0 13 from fl13.i t_a0 rfl 13) (show ivh12 a0 13 = ivb2 a0 13 from fl12.i t_a0 rfl 13) (show (-2147483648) ≤ ivh13 a0 14 ∧ ivh13 a0 14 ≤ 2147483647 from W13.int t_a0 14) (show ivh13 a0 14 = ivh12 a0 14 from fl13.i t_a0 rfl 14) (show ivh12 a0 14 = ivb2 a0 14 from fl12.i t_a0 rfl 14) (show (-2147483648) ≤ ivh13 a0 15 ∧ ivh13 a0 15 ≤ 2147483647 from W13.int t_a0 15) (show ivh13 a0 15 = ivh12 a0 15 from fl13.i t_a0 rfl 15) (show ivh12 a0 15 = ivb2 a0 15 from fl12.i t_a0 rfl 15) (show (-2147483648) ≤ ivh13 a0 16 ∧ ivh13 a0 16 ≤ 2147483647 from W13.int t_a0 16) (show ivh13 a0 16 = ivh12 a0 16 from fl13.i t_a0 rfl 16) (show ivh12 a0 16 = ivb2 a0 16 from fl12.i t_a0 rfl 16) (fun ri105 ie137 ie138 ri106 ie140 ie141 ri107 ie143 ie144 ri108 ie146 ie147 ri109 ie149 ie150 ri110 ie152 ie153 => ?_)
                              refine c_lv (lv2 := [(5, .int (iI zz2)), (6, .int (iI f12)), (8, .int (iI f13)), (9, .int (iI (k + 1))), (7, .int (iI sd)), (4, .ref ob2), (3, .ref ob1), (0, .ref a0), (1, .int (iI i)), (2, .int (iI j))]) [2, 3, 1, 0, 4, 5, 6, 7, 8, 9] rfl ?_
                              exact ih2  zz2 f12 f13 (k + 1) _ (by omega) W13 F10  (by omega) (by omega) (by omega) (by omega) (by show 0 ≤ ivh13 (sk 14) 0 ∧ ivh13 (sk 14) 0 ≤ 501 ∧ (ivh13 (sk 14) 1 = 0 ∨ ivh13 (sk 14) 0 ≤ 500); omega) (ie137.trans (ie138.trans hkp11)) (ie140.trans (ie141.trans hkp12)) (ie143.trans (ie144.trans hkp13)) (ie146.trans (ie147.trans hkp14)) (ie149.trans (ie150.trans hkp15)) (ie152.trans (ie153.trans hkp16))
              refine hv18 (show 1 ≤ ivh8 a0 11 ∧ ivh8 a0 11 ≤ 100 from W8.int t_a0 11) (show ivh8 a0 11 = ivh7 a0 11 from fl8.i t_a0 rfl 11) (show ivh7 a0 11 = ivb1 a0 11 from fl7.i t_a0 rfl 11) (show 1 ≤ ivh8 a0 12 ∧ ivh8 a0 12 ≤ 50 from W8.int t_a0 12) (show ivh8 a0 12 = ivh7 a0 12 from fl8.i t_a0 rfl 12) (show ivh7 a0 12 = ivb1 a0 12 from fl7.i t_a0 rfl 12) (show (-2147483648) ≤ ivh8 a0 13 ∧ ivh8 a0 13 ≤ 2147483647 from W8.int t_a0 13) (show ivh8 a0 13 = ivh7 a0 13 from fl8.i t_a0 rfl 13) (show ivh7 a0 13 = ivb1 a0 13 from fl7.i t_a0 rfl 13) (show (-2147483648) ≤ ivh8 a0 14 ∧ ivh8 a0 14 ≤ 2147483647 from W8.int t_a0 14) (show ivh8 a0 14 = ivh7 a0 14 from fl8.i t_a0 rfl 14) (show ivh7 a0 14 = ivb1 a0 14 from fl7.i t_a0 rfl 14) (show (-2147483648) ≤ ivh8 a0 15 ∧ ivh8 a0 15 ≤ 2147483647 from W8.int t_a0 15) (show ivh8 a0 15 = ivh7 a0 15 from fl8.i t_a0 rfl 15) (show ivh7 a0 15 = ivb1 a0 15 from fl7.i t_a0 rfl 15) (show (-2147483648) ≤ ivh8 a0 16 ∧ ivh8 a0 16 ≤ 2147483647 from W8.int t_a0 16) (show ivh8 a0 16 = ivh7 a0 16 from fl8.i t_a0 rfl 16) (show ivh7 a0 16 = ivb1 a0 16 from fl7.i t_a0 rfl 16) (fun ri111 ie155 ie156 ri112 ie158 ie159 ri113 ie161 ie162 ri114 ie164 ie165 ri115 ie167 ie168 ri116 ie170 ie171 => ?_)
              refine c_lv (lv2 := [(5, .int (iI s1)), (6, .int (iI wy)), (8, .int (iI f8)), (9, .int (iI 0)), (7, .int (iI sd)), (4, .ref ob2), (3, .ref ob1), (0, .ref a0), (1, .int (iI i)), (2, .int (iI j))]) [2, 3, 1, 0, 4, 5, 6, 7, 8, 9] rfl ?_
              exact Lp2 1000003 s1 wy f8 0 _ (by omega) W8 F5  (by omega) (by omega) (by omega) (by omega) (by show 0 ≤ ivh8 (sk 14) 0 ∧ ivh8 (sk 14) 0 ≤ 501 ∧ (ivh8 (sk 14) 1 = 0 ∨ ivh8 (sk 14) 0 ≤ 500); omega) (ie155.trans (ie156.trans hkp11)) (ie158.trans (ie159.trans hkp12)) (ie161.trans (ie162.trans hkp13)) (ie164.trans (ie165.trans hkp14)) (ie167.trans (ie168.trans hkp15)) (ie170.trans (ie171.trans hkp16))
      refine hv6 (show 1 ≤ iv a0 11 ∧ iv a0 11 ≤ 100 from hW.int t_a0 11) (show 1 ≤ iv a0 12 ∧ iv a0 12 ≤ 50 from hW.int t_a0 12) (show (-2147483648) ≤ iv a0 13 ∧ iv a0 13 ≤ 2147483647 from hW.int t_a0 13) (show (-2147483648) ≤ iv a0 14 ∧ iv a0 14 ≤ 2147483647 from hW.int t_a0 14) (show (-2147483648) ≤ iv a0 15 ∧ iv a0 15 ≤ 2147483647 from hW.int t_a0 15) (show (-2147483648) ≤ iv a0 16 ∧ iv a0 16 ≤ 2147483647 from hW.int t_a0 16) (fun ri117 ri118 ri119 ri120 ri121 ri122 => ?_)
      refine c_lv (lv2 := [(5, .int (iI 0)), (6, .int (iI 0)), (7, .int (iI 0)), (4, .ref ob2), (3, .ref ob1), (0, .ref a0), (1, .int (iI i)), (2, .int (iI j))]) [2, 1, 0, 3, 4, 5, 6, 7] rfl ?_
      exact Lp1 5 0 0 0 _ (by omega) hW hF0  (by omega) (by omega) (by omega) rfl rfl rfl rfl rfl rfl
    · subst oq2
      refine c_lv (lv2 := [(4, .null), (3, .ref ob1), (0, .ref a0), (1, .int (iI i)), (2, .int (iI j))]) [0, 1, 2, 3, 4] rfl ?_
      refine c_st (st2 := []) rfl ?_
      refine c_aload_n (j := 2) (x := a0) C dX11_saved_28 rfl ?_
      refine c_iconst C dX11_saved_29 ?_
      refine d_callV (As := [.int (iI 3)]) (rest := []) C hM (C_refuse (a0 := a0) (x := 3) hW hS t_a0 ⟨by decide, by decide⟩ ) dX11_saved_30 kV_X11_102 rfl t_a0 rfl rfl (by decide) ck_12 rfl (Nat.le_of_ble_eq_true rfl) ⟨(Nat.le_of_ble_eq_true rfl), (Nat.le_of_ble_eq_true rfl)⟩ hph hph (show 0 + 0 = 0 from rfl) (by decide) (fun rh14 Lh14 clh14 lnh14 ivh14 rvh14 h14 => ?_)
      obtain ⟨f14, rfl, rfl, rfl, rfl, rfl, fl14, W14, rgf14, exf14, kp11f14, kp12f14, kp13f14, kp14f14, kp15f14, kp16f14⟩ := h14
      refine hv8 (show 1 ≤ iv a0 11 ∧ iv a0 11 ≤ 100 from hW.int t_a0 11) (show 1 ≤ iv a0 12 ∧ iv a0 12 ≤ 50 from hW.int t_a0 12) (show (-2147483648) ≤ iv a0 13 ∧ iv a0 13 ≤ 2147483647 from hW.int t_a0 13) (show (-2147483648) ≤ iv a0 14 ∧ iv a0 14 ≤ 2147483647 from hW.int t_a0 14) (show (-2147483648) ≤ iv a0 15 ∧ iv a0 15 ≤ 2147483647 from hW.int t_a0 15) (show (-2147483648) ≤ iv a0 16 ∧ iv a0 16 ≤ 2147483647 from hW.int t_a0 16) (hF0.call hX0 fl14 rfl) (MRK.call hmr hW hS XT.refl fl14 rfl rfl) (fun ri123 ri124 ri125 ri126 ri127 ri128 F11 mr11 => ?_)
      refine c_st (st2 := [.int (iI f14)]) rfl ?_
      refine hv13 (show ivh14 a0 11 = iv a0 11 from kp11f14) (show ivh14 a0 12 = iv a0 12 from kp12f14) (show ivh14 a0 13 = iv a0 13 from kp13f14) (show ivh14 a0 14 = iv a0 14 from kp14f14) (show ivh14 a0 15 = iv a0 15 from kp15f14) (show ivh14 a0 16 = iv a0 16 from kp16f14) (show f14 = -1 from exf14) (show 1 ≤ ivh14 a0 11 ∧ ivh14 a0 11 ≤ 100 from W14.int t_a0 11) (show 1 ≤ ivh14 a0 12 ∧ ivh14 a0 12 ≤ 50 from W14.int t_a0 12) (show (-2147483648) ≤ ivh14 a0 13 ∧ ivh14 a0 13 ≤ 2147483647 from W14.int t_a0 13) (show (-2147483648) ≤ ivh14 a0 14 ∧ ivh14 a0 14 ≤ 2147483647 from W14.int t_a0 14) (show (-2147483648) ≤ ivh14 a0 15 ∧ ivh14 a0 15 ≤ 2147483647 from W14.int t_a0 15) (show (-2147483648) ≤ ivh14 a0 16 ∧ ivh14 a0 16 ≤ 2147483647 from W14.int t_a0 16) (fun gk11f14 gk12f14 gk13f14 gk14f14 gk15f14 gk16f14 gf14 ri129 ri130 ri131 ri132 ri133 ri134 => ?_)
      exact c_iret C dX11_saved_33 rfl (by decide) (rom0 hph hph (by decide)) ⟨f14, rfl, rfl, rfl, rfl, rfl, F11, W14, ⟨by omega, by omega⟩, trivial, gk11f14, gk12f14, gk13f14, gk14f14, gk15f14, gk16f14⟩
set_option maxHeartbeats 4000000 in
set_option maxRecDepth 100000 in
theorem C_digest {l : Launch} {G : GT} {mi : Nat} {sk : Nat → Nat} {L : List Nat} {cl ln : Nat → Nat} {iv : Nat → Nat → Int} {rv : Nat → Nat → Option Nat}  {a0 : Nat} (hW : WT (g0 G) sk L cl ln iv rv) (hS : SKL sk L cl) (t_a0 : ty L cl a0 1)  : Mc l G mi (Phi (g0 G) sk) PHM yX11_digest cX11_digest 3 (some .int) 3 [.ref a0] L cl ln iv rv 0 (fun v L2 cl2 ln2 iv2 rv2 => ∃ f : Int, v = some (.int (iI f)) ∧ L = L2 ∧ cl = cl2 ∧ ln = ln2 ∧ iv = iv2 ∧ rv = rv2 ∧ (-2147483648 ≤ f ∧ f ≤ 2147483647) ∧ (True)) := by
  refine Mc.mk (by decide) (Nat.le_of_ble_eq_true rfl) ?_
  intro p e s m args below meth c A C hM
  refine hv21 (Phi.le hW hS) (show ty L cl (sk 2) 2 from ⟨(hS 2 rfl).1, by rw [(hS 2 rfl).2]; rfl⟩) (show ty L cl (sk 3) 3 from ⟨(hS 3 rfl).1, by rw [(hS 3 rfl).2]; rfl⟩) (show ty L cl (sk 4) 4 from ⟨(hS 4 rfl).1, by rw [(hS 4 rfl).2]; rfl⟩) (show ty L cl (sk 5) 5 from ⟨(hS 5 rfl).1, by rw [(hS 5 rfl).2]; rfl⟩) (show ty L cl (sk 6) 6 from ⟨(hS 6 rfl).1, by rw [(hS 6 rfl).2]; rfl⟩) (show ty L cl (sk 7) 7 from ⟨(hS 7 rfl).1, by rw [(hS 7 rfl).2]; rfl⟩) (show ty L cl (sk 8) 8 from ⟨(hS 8 rfl).1, by rw [(hS 8 rfl).2]; rfl⟩) (show ty L cl (sk 9) 9 from ⟨(hS 9 rfl).1, by rw [(hS 9 rfl).2]; rfl⟩) (show ty L cl (sk 10) 10 from ⟨(hS 10 rfl).1, by rw [(hS 10 rfl).2]; rfl⟩) (show ty L cl (sk 13) 13 from ⟨(hS 13 rfl).1, by rw [(hS 13 rfl).2]; rfl⟩) (show ty L cl (sk 14) 14 from ⟨(hS 14 rfl).1, by rw [(hS 14 rfl).2]; rfl⟩) (show ty L cl (sk 15) 15 from ⟨(hS 15 rfl).1, by rw [(hS 15 rfl).2]; rfl⟩) (show ty L cl (sk 16) 16 from ⟨(hS 16 rfl).1, by rw [(hS 16 rfl).2]; rfl⟩) (show ty L cl (sk 17) 17 from ⟨(hS 17 rfl).1, by rw [(hS 17 rfl).2]; rfl⟩) (show ty L cl (sk 22) 22 from ⟨(hS 22 rfl).1, by rw [(hS 22 rfl).2]; rfl⟩) (show ty L cl (sk 23) 23 from ⟨(hS 23 rfl).1, by rw [(hS 23 rfl).2]; rfl⟩) (show ty L cl (sk 24) 24 from ⟨(hS 24 rfl).1, by rw [(hS 24 rfl).2]; rfl⟩) (show ty L cl (sk 25) 25 from ⟨(hS 25 rfl).1, by rw [(hS 25 rfl).2]; rfl⟩) (show XT L cl ln L cl ln from XT.refl) (show fT [] L cl iv rv iv rv from fT.refl) (fun hph tsk2 tsk3 tsk4 tsk5 tsk6 tsk7 tsk8 tsk9 tsk10 tsk13 tsk14 tsk15 tsk16 tsk17 tsk22 tsk23 tsk24 tsk25 hX0 hF0 => ?_)
  refine c_aload_n (j := 0) (x := a0) C dX11_digest_0 rfl ?_
  obtain ⟨rb1, rq1, trb1⟩ := hW.ref t_a0 9 rfl rfl rfl
  refine c_getr (k := 9) C ck_12 dX11_digest_1 w2_53 (by decide) t_a0 rfl rfl (by decide) rfl rq1 ?_
  refine c_st (st2 := [.ref rb1]) rfl ?_
  refine c_sipush (z := 527) C dX11_digest_4 (by decide) ?_
  refine c_aload_n (j := 0) (x := a0) C dX11_digest_7 rfl ?_
  refine c_getr (k := 9) C ck_12 dX11_digest_8 w2_53 (by decide) t_a0 rfl rfl (by decide) rfl rq1 ?_
  refine c_st (st2 := [.ref rb1, .int (iI 527), .ref rb1]) rfl ?_
  have ri1 : 0 ≤ iv rb1 1 ∧ iv rb1 1 ≤ 200 := hW.int trb1 1
  refine c_get (k := 1) C ck_8 dX11_digest_11 w2_35 (by decide) trb1 rfl rfl (by decide) rfl ?_
  refine c_iadd C dX11_digest_14 ?_
  obtain ⟨zz1, hzz1, ezz1⟩ := iI_of (iI (527 + (iv rb1 1)))
  refine c_st (st2 := [.int (iI zz1), .ref rb1]) (by rw [ezz1]) ?_
  refine d_callV (As := [.int (iI zz1)]) (rest := []) C hM (C_goOver (a0 := rb1) (x := zz1) hW hS trb1 (by omega) ) dX11_digest_15 kV_X11_416 rfl trb1 rfl rfl (by decide) ck_8 rfl (Nat.le_of_ble_eq_true rfl) ⟨(Nat.le_of_ble_eq_true rfl), (Nat.le_of_ble_eq_true rfl)⟩ hph hph (show 0 + 0 = 0 from rfl) (by decide) (fun rh3 Lh3 clh3 lnh3 ivh3 rvh3 h3 => ?_)
  obtain ⟨f1, rfl, rfl, rfl, rfl, rfl, rfl, rgf1, exf1⟩ := h3
  refine c_st (st2 := [.int (iI f1)]) rfl ?_
  refine c_istore_n (lv2 := [(1, .int (iI f1)), (0, .ref a0)]) C dX11_digest_18 (by decide) rfl ?_
  refine c_iload_n (j := 0) C dX11_digest_19 rfl ?_
  refine c_bipush (z := 31) C dX11_digest_20 (by decide) ?_
  refine c_imul C dX11_digest_22 ?_
  obtain ⟨zz2, hzz2, ezz2⟩ := iI_of (iI (f1 * 31))
  refine c_st (st2 := [.int (iI zz2)]) (by rw [ezz2]) ?_
  refine c_aload_n (j := 1) (x := a0) C dX11_digest_23 rfl ?_
  obtain ⟨rb2, rq2, trb2⟩ := hW.ref t_a0 2 rfl rfl rfl
  have erb2 := hW.sk trb2 (by decide) rfl
  subst erb2
  refine c_getr (k := 2) C ck_12 dX11_digest_24 w2_46 (by decide) t_a0 rfl rfl (by decide) rfl rq2 ?_
  refine c_st (st2 := [.ref (sk 4), .int (iI zz2)]) rfl ?_
  have ri2 : 0 ≤ iv (sk 4) 2 ∧ iv (sk 4) 2 ≤ 4000 := hW.int tsk4 2
  refine c_get (k := 2) C ck_2 dX11_digest_27 w1_44 (by decide) tsk4 rfl rfl (by decide) rfl ?_
  refine c_iadd C dX11_digest_30 ?_
  obtain ⟨zz3, hzz3, ezz3⟩ := iI_of (iI (zz2 + (iv (sk 4) 2)))
  refine c_st (st2 := [.int (iI zz3)]) (by rw [ezz3]) ?_
  refine c_istore_n (lv2 := [(1, .int (iI zz3)), (0, .ref a0)]) C dX11_digest_31 (by decide) rfl ?_
  refine c_iconst C dX11_digest_32 ?_
  refine c_istore_n (lv2 := [(2, .int (iI 0)), (1, .int (iI zz3)), (0, .ref a0)]) C dX11_digest_33 (by decide) rfl ?_
  have Lp1 : ∀ (nn : Nat) (h1 k : Int) , 4001 - k < (nn : Int) → (-2147483648 ≤ h1 ∧ h1 ≤ 2147483647) → (0 ≤ k ∧ k ≤ 4000) → cw p l e 3 ((PHM) + 0 - ((Phi (g0 G) sk) ln rv)) s m args below meth c G A 3 (MQ below (Qu G A (Qp G (Phi (g0 G) sk) ((Phi (g0 G) sk) ln rv) 0 (fun v L2 cl2 ln2 iv2 rv2 => ∃ f : Int, v = some (.int (iI f)) ∧ L = L2 ∧ cl = cl2 ∧ ln = ln2 ∧ iv = iv2 ∧ rv = rv2 ∧ (-2147483648 ≤ f ∧ f ≤ 2147483647) ∧ (True)))) args s (((PHM) + 0 - ((Phi (g0 G) sk) ln rv)) / 16) ((PHM) + 0 - ((Phi (g0 G) sk) ln rv)) A) (Phi (g0 G) sk) ((Phi (g0 G) sk) ln rv) L cl ln iv rv 0 34 [(1, .int (iI h1)), (2, .int (iI k)), (0, .ref a0)] [] := by
    intro nn
    induction nn with
    | zero =>
      intro  h1 k  hm   hh1 hk
      exact absurd hm (by omega)
    | succ nn ih1 =>
      intro  h1 k  hm   hh1 hk
      refine c_iload_n (j := 1) C dX11_digest_34 rfl ?_
      refine c_aload_n (j := 2) (x := a0) C dX11_digest_35 rfl ?_
      refine c_getr (k := 2) C ck_12 dX11_digest_36 w2_46 (by decide) t_a0 rfl rfl (by decide) rfl rq2 ?_
      refine c_st (st2 := [.ref (sk 4), .int (iI k)]) rfl ?_
      refine c_get (k := 2) C ck_2 dX11_digest_39 w1_44 (by decide) tsk4 rfl rfl (by decide) rfl ?_
      refine c_icmp_ge (tgt := 65) C (r32_c (lo := 0) (hi := 4000) hk.1 hk.2 (by decide) (by decide)) (r32_c (lo := 0) (hi := 4000) ri2.1 ri2.2 (by decide) (by decide)) dX11_digest_42 (by decide) (fun c1 => ?_) (fun c1 => ?_)
      · refine c_iconst C dX11_digest_65 ?_
        refine c_istore_n (lv2 := [(2, .int (iI 0)), (1, .int (iI h1)), (0, .ref a0)]) C dX11_digest_66 (by decide) rfl ?_
        have Lp2 : ∀ (nn : Nat) (h2 k2 : Int) , 6 - k2 < (nn : Int) → (-2147483648 ≤ h2 ∧ h2 ≤ 2147483647) → (0 ≤ k2 ∧ k2 ≤ 5) → cw p l e 3 ((PHM) + 0 - ((Phi (g0 G) sk) ln rv)) s m args below meth c G A 3 (MQ below (Qu G A (Qp G (Phi (g0 G) sk) ((Phi (g0 G) sk) ln rv) 0 (fun v L2 cl2 ln2 iv2 rv2 => ∃ f : Int, v = some (.int (iI f)) ∧ L = L2 ∧ cl = cl2 ∧ ln = ln2 ∧ iv = iv2 ∧ rv = rv2 ∧ (-2147483648 ≤ f ∧ f ≤ 2147483647) ∧ (True)))) args s (((PHM) + 0 - ((Phi (g0 G) sk) ln rv)) / 16) ((PHM) + 0 - ((Phi (g0 G) sk) ln rv)) A) (Phi (g0 G) sk) ((Phi (g0 G) sk) ln rv) L cl ln iv rv 0 67 [(1, .int (iI h2)), (2, .int (iI k2)), (0, .ref a0)] [] := by
          intro nn
          induction nn with
          | zero =>
            intro  h2 k2  hm   hh2 hk2
            exact absurd hm (by omega)
          | succ nn ih2 =>
            intro  h2 k2  hm   hh2 hk2
            refine c_iload_n (j := 1) C dX11_digest_67 rfl ?_
            refine c_iconst C dX11_digest_68 ?_
            refine c_icmp_gt (tgt := 92) C (r32_c (lo := 0) (hi := 5) hk2.1 hk2.2 (by decide) (by decide)) ⟨by decide, by decide⟩ dX11_digest_69 (by decide) (fun c2 => ?_) (fun c2 => ?_)
            · refine c_iload_n (j := 0) C dX11_digest_92 rfl ?_
              refine c_bipush (z := 31) C dX11_digest_93 (by decide) ?_
              refine c_imul C dX11_digest_95 ?_
              obtain ⟨zz4, hzz4, ezz4⟩ := iI_of (iI (h2 * 31))
              refine c_st (st2 := [.int (iI zz4)]) (by rw [ezz4]) ?_
              refine c_aload_n (j := 2) (x := a0) C dX11_digest_96 rfl ?_
              have ri3 : (-2147483648) ≤ iv a0 15 ∧ iv a0 15 ≤ 2147483647 := hW.int t_a0 15
              refine c_get (k := 15) C ck_12 dX11_digest_97 w2_59 (by decide) t_a0 rfl rfl (by decide) rfl ?_
              refine c_iadd C dX11_digest_100 ?_
              obtain ⟨zz5, hzz5, ezz5⟩ := iI_of (iI (zz4 + (iv a0 15)))
              refine c_st (st2 := [.int (iI zz5)]) (by rw [ezz5]) ?_
              refine c_istore_n (lv2 := [(1, .int (iI zz5)), (2, .int (iI k2)), (0, .ref a0)]) C dX11_digest_101 (by decide) rfl ?_
              refine c_iload_n (j := 0) C dX11_digest_102 rfl ?_
              refine c_bipush (z := 31) C dX11_digest_103 (by decide) ?_
              refine c_imul C dX11_digest_105 ?_
              obtain ⟨zz6, hzz6, ezz6⟩ := iI_of (iI (zz5 * 31))
              refine c_st (st2 := [.int (iI zz6)]) (by rw [ezz6]) ?_
              refine c_aload_n (j := 2) (x := a0) C dX11_digest_106 rfl ?_
              have ri4 : (-2147483648) ≤ iv a0 16 ∧ iv a0 16 ≤ 2147483647 := hW.int t_a0 16
              refine c_get (k := 16) C ck_12 dX11_digest_107 w2_60 (by decide) t_a0 rfl rfl (by decide) rfl ?_
              refine c_iadd C dX11_digest_110 ?_
              obtain ⟨zz7, hzz7, ezz7⟩ := iI_of (iI (zz6 + (iv a0 16)))
              refine c_st (st2 := [.int (iI zz7)]) (by rw [ezz7]) ?_
              exact c_iret C dX11_digest_111 rfl (by decide) (rom0 hph hph (by decide)) ⟨zz7, rfl, rfl, rfl, rfl, rfl, rfl, ⟨by omega, by omega⟩, trivial⟩
            · refine c_iload_n (j := 0) C dX11_digest_72 rfl ?_
              refine c_bipush (z := 31) C dX11_digest_73 (by decide) ?_
              refine c_imul C dX11_digest_75 ?_
              obtain ⟨zz8, hzz8, ezz8⟩ := iI_of (iI (h2 * 31))
              refine c_st (st2 := [.int (iI zz8)]) (by rw [ezz8]) ?_
              refine c_aload_n (j := 2) (x := a0) C dX11_digest_76 rfl ?_
              obtain ⟨rb3, rq3, trb3⟩ := hW.ref t_a0 6 rfl rfl rfl
              have erb3 := hW.sk trb3 (by decide) rfl
              subst erb3
              refine c_getr (k := 6) C ck_12 dX11_digest_77 w2_50 (by decide) t_a0 rfl rfl (by decide) rfl rq3 ?_
              refine c_st (st2 := [.ref (sk 15), .int (iI zz8)]) rfl ?_
              refine c_iload_n (j := 1) C dX11_digest_80 rfl ?_
              refine d_callV (As := [.int (iI k2)]) (rest := [.int (iI zz8)]) C hM (C_findsOf (a0 := (sk 15)) (i := k2) hW hS tsk15 (by omega) ) dX11_digest_81 kV_X11_413 rfl tsk15 rfl rfl (by decide) ck_7 rfl (Nat.le_of_ble_eq_true rfl) ⟨(Nat.le_of_ble_eq_true rfl), (Nat.le_of_ble_eq_true rfl)⟩ hph hph (show 0 + 0 = 0 from rfl) (by decide) (fun rh4 Lh4 clh4 lnh4 ivh4 rvh4 h4 => ?_)
              obtain ⟨f2, rfl, rfl, rfl, rfl, rfl, rfl, rgf2, exf2⟩ := h4
              refine c_st (st2 := [.int (iI f2), .int (iI zz8)]) rfl ?_
              refine c_iadd C dX11_digest_84 ?_
              obtain ⟨zz9, hzz9, ezz9⟩ := iI_of (iI (zz8 + f2))
              refine c_st (st2 := [.int (iI zz9)]) (by rw [ezz9]) ?_
              refine c_istore_n (lv2 := [(1, .int (iI zz9)), (2, .int (iI k2)), (0, .ref a0)]) C dX11_digest_85 (by decide) rfl ?_
              refine c_iinc (z := k2) (j := 1) (lv2 := [(2, .int (iI (k2 + 1))), (1, .int (iI zz9)), (0, .ref a0)]) C dX11_digest_86 rfl (by decide) rfl ?_
              refine c_goto (tgt := 67) C dX11_digest_89 (by decide) ?_
              refine c_lv (lv2 := [(1, .int (iI zz9)), (2, .int (iI (k2 + 1))), (0, .ref a0)]) [1, 0, 2] rfl ?_
              exact ih2  zz9 (k2 + 1)  (by omega)   (by omega) (by omega)
        refine c_lv (lv2 := [(1, .int (iI h1)), (2, .int (iI 0)), (0, .ref a0)]) [1, 0, 2] rfl ?_
        exact Lp2 8 h1 0  (by omega)   (by omega) (by omega)
      · refine c_iload_n (j := 0) C dX11_digest_45 rfl ?_
        refine c_bipush (z := 31) C dX11_digest_46 (by decide) ?_
        refine c_imul C dX11_digest_48 ?_
        obtain ⟨zz10, hzz10, ezz10⟩ := iI_of (iI (h1 * 31))
        refine c_st (st2 := [.int (iI zz10)]) (by rw [ezz10]) ?_
        refine c_aload_n (j := 2) (x := a0) C dX11_digest_49 rfl ?_
        refine c_getr (k := 2) C ck_12 dX11_digest_50 w2_46 (by decide) t_a0 rfl rfl (by decide) rfl rq2 ?_
        refine c_st (st2 := [.ref (sk 4), .int (iI zz10)]) rfl ?_
        refine c_iload_n (j := 1) C dX11_digest_53 rfl ?_
        refine d_callV (As := [.int (iI k)]) (rest := [.int (iI zz10)]) C hM (C_at_4 (a0 := (sk 4)) (i := k) hW hS tsk4 (by omega) ) dX11_digest_54 kV_X11_224 rfl tsk4 rfl rfl (by decide) ck_2 rfl (Nat.le_of_ble_eq_true rfl) ⟨(Nat.le_of_ble_eq_true rfl), (Nat.le_of_ble_eq_true rfl)⟩ hph hph (show 0 + 0 = 0 from rfl) (by decide) (fun rh5 Lh5 clh5 lnh5 ivh5 rvh5 h5 => ?_)
        obtain ⟨f3, rfl, rfl, rfl, rfl, rfl, rfl, rgf3, exf3⟩ := h5
        refine c_st (st2 := [.int (iI f3), .int (iI zz10)]) rfl ?_
        have gf3 : ((0 ≤ k ∧ k < iv (sk 4) 2) ∨ f3 = 0) ∧ ∀ ss, CT iv rv (sk 4) ss → 0 ≤ k → k < iv (sk 4) 2 → f3 = ss k.toNat := exf3
        refine c_iadd C dX11_digest_57 ?_
        obtain ⟨zz11, hzz11, ezz11⟩ := iI_of (iI (zz10 + f3))
        refine c_st (st2 := [.int (iI zz11)]) (by rw [ezz11]) ?_
        refine c_istore_n (lv2 := [(1, .int (iI zz11)), (2, .int (iI k)), (0, .ref a0)]) C dX11_digest_58 (by decide) rfl ?_
        refine c_iinc (z := k) (j := 1) (lv2 := [(2, .int (iI (k + 1))), (1, .int (iI zz11)), (0, .ref a0)]) C dX11_digest_59 rfl (by decide) rfl ?_
        refine c_goto (tgt := 34) C dX11_digest_62 (by decide) ?_
        refine c_lv (lv2 := [(1, .int (iI zz11)), (2, .int (iI (k + 1))), (0, .ref a0)]) [1, 0, 2] rfl ?_
        exact ih1  zz11 (k + 1)  (by omega)   (by omega) (by omega)
  refine c_lv (lv2 := [(1, .int (iI zz3)), (2, .int (iI 0)), (0, .ref a0)]) [1, 0, 2] rfl ?_
  exact Lp1 4003 zz3 0  (by omega)   (by omega) (by omega)
end
section
theorem bz_iff {i zz n : Int} (e : iI i &&& iI n = iI zz) (h : R32 zz) : (iI i &&& iI n = iI 0) ↔ zz = 0 := by rw [e]; exact iI_eq h ⟨by decide, by decide⟩
theorem and1' (x : Int32) : x &&& 1 = 0 ∨ x &&& 1 = 1 := by
  have e : (x &&& 1).toBitVec = (BitVec.ofBool (x.toBitVec.getLsbD 0)).setWidth 32 := by
    rw [Int32.toBitVec_and]; exact BitVec.and_one_eq_setWidth_ofBool_getLsbD
  cases hb : x.toBitVec.getLsbD 0
  · left; apply Int32.toBitVec_inj.mp; rw [e, hb]; rfl
  · right; apply Int32.toBitVec_inj.mp; rw [e, hb]; rfl
theorem and1 {i zz : Int} (e : iI i &&& iI 1 = iI zz) (h : R32 zz) : zz = 0 ∨ zz = 1 := by
  rcases and1' (iI i) with q | q
  · left; exact (iI_eq h ⟨by decide, by decide⟩).mp (e.symm.trans q)
  · right; exact (iI_eq h ⟨by decide, by decide⟩).mp (e.symm.trans q)
theorem or2 {zz w : Int} (h : zz = 0 ∨ zz = 1) (e : iI zz ||| iI 2 = iI w) (hw : R32 w) : w = 2 ∨ w = 3 := by
  rcases h with rfl | rfl
  · left; exact (iI_eq hw ⟨by decide, by decide⟩).mp (e.symm.trans (by decide))
  · right; exact (iI_eq hw ⟨by decide, by decide⟩).mp (e.symm.trans (by decide))
def bz (i : Int) : Prop := iI i &&& iI 1 = iI 0
def b2 (i : Int) : Prop := iI i &&& iI 2 = iI 0
def LLw (iv : Nat → Nat → Int) (rv : Nat → Nat → Option Nat) (a : Nat) (c t : Int) : Prop := t < iv a 9 ∧ ∀ b, rv a 8 = some b → (iI c ^^^ iI (iv b t.toNat)) &&& iI (iv a 10) = iI 0
def LRw (ln : Nat → Nat) (iv : Nat → Nat → Int) (rv : Nat → Nat → Option Nat) (a row : Nat) (t : Int) : Prop := ∀ cb, rv row 2 = some cb → ∀ k : Nat, k < ln cb → LLw iv rv a (iv cb k) (t + k)
def BSw (ln : Nat → Nat) (iv : Nat → Nat → Int) (rv : Nat → Nat → Option Nat) (row : Nat) : Prop := ∀ b, rv row 1 = some b → iv row 0 = 4 ∧ 0 < ln b ∧ 97 ≤ iv b 0 ∧ iv b 0 ≤ 122
def RWx (sk : Nat → Nat) (rv : Nat → Nat → Option Nat) (i x : Int) (row : Nat) : Prop := (bz i ∧ el rv (sk 24) (x - 1).toNat = some row) ∨ (¬ bz i ∧ el rv (sk 25) (x - 1).toNat = some row)
def GD (sk ln : Nat → Nat) (iv : Nat → Nat → Int) (rv : Nat → Nat → Option Nat) (a : Nat) (i t x : Int) : Prop := (x ≤ 0 → b2 i ∧ LLw iv rv a 0 t) ∧ (0 < x → ∀ row, RWx sk rv i x row → LRw ln iv rv a row t ∧ (b2 i ∨ BSw ln iv rv row))
def VL (sk : Nat → Nat) (iv : Nat → Nat → Int) (i x : Int) : Prop := x ≤ 0 ∨ (bz i ∧ x ≤ iv (sk 24) 2) ∨ (¬ bz i ∧ x ≤ iv (sk 25) 2)
section GDS
variable {g : Nat} {sk : Nat → Nat} {L : List Nat} {cl ln : Nat → Nat} {iv iv1 iv2 iv3 : Nat → Nat → Int} {rv : Nat → Nat → Option Nat} {a row row2 c k nb cb : Nat} {i t x z dp f nd zz : Int}
theorem RWx.uni (h : RWx sk rv i x row) (h2 : RWx sk rv i x row2) : row2 = row := by
  rcases h with ⟨q1, q2⟩ | ⟨q1, q2⟩ <;> rcases h2 with ⟨w1, w2⟩ | ⟨w1, w2⟩
  · rw [q2] at w2; cases w2; rfl
  · exact absurd q1 w1
  · exact absurd w1 q1
  · rw [q2] at w2; cases w2; rfl
theorem GD.mk0 (hx : x ≤ 0) (h1 : b2 i) (h2 : LLw iv rv a 0 t) : GD sk ln iv rv a i t x := ⟨fun _ => ⟨h1, h2⟩, fun q => absurd q (by omega)⟩
theorem GD.no0 (hx : x ≤ 0) (h : b2 i → LLw iv rv a 0 t → False) : ¬ GD sk ln iv rv a i t x := fun q => h (q.1 hx).1 (q.1 hx).2
theorem GD.mk1 (hx : 0 < x) (hr : RWx sk rv i x row) (h1 : LRw ln iv rv a row t) (h2 : b2 i ∨ BSw ln iv rv row) : GD sk ln iv rv a i t x := ⟨fun q => absurd hx (by omega), fun _ r2 q => by rw [hr.uni q]; exact ⟨h1, h2⟩⟩
theorem GD.no1 (hx : 0 < x) (hr : RWx sk rv i x row) (h : LRw ln iv rv a row t → (b2 i ∨ BSw ln iv rv row) → False) : ¬ GD sk ln iv rv a i t x := fun q => h (q.2 hx row hr).1 (q.2 hx row hr).2
theorem VL.put (h : VL sk iv i x) (hS : SKL sk L cl) (he : iv1 = up2 iv c k z) (hc : ty L cl c 61) : VL sk iv1 i x := by
  refine hv2 (show ty L cl (sk 24) 24 from ⟨(hS 24 rfl).1, by rw [(hS 24 rfl).2]; rfl⟩) (show ty L cl (sk 25) 25 from ⟨(hS 25 rfl).1, by rw [(hS 25 rfl).2]; rfl⟩) (fun h24 h25 => ?_)
  unfold VL at *
  rw [he, up2_k (ne_ty h24 hc (by decide)), up2_k (ne_ty h25 hc (by decide))]; exact h
theorem VL.zed (h : VL sk iv i x) (e : iI i &&& iI 1 = iI zz) (hz : R32 zz) : x ≤ 0 ∨ (zz = 0 ∧ x ≤ iv (sk 24) 2) ∨ (zz ≠ 0 ∧ x ≤ iv (sk 25) 2) := by
  rcases h with q | ⟨q, w⟩ | ⟨q, w⟩
  · exact Or.inl q
  · exact Or.inr (Or.inl ⟨(bz_iff e hz).mp q, w⟩)
  · exact Or.inr (Or.inr ⟨fun y => q ((bz_iff e hz).mpr y), w⟩)
theorem VL.rowt (h : VL sk iv i x) (hx : 0 < x) (hW : WT g sk L cl ln iv rv) (hS : SKL sk L cl) (hr : RWx sk rv i x row) : ty L cl row 20 := by
  refine hv2 (show ty L cl (sk 24) 24 from ⟨(hS 24 rfl).1, by rw [(hS 24 rfl).2]; rfl⟩) (show ty L cl (sk 25) 25 from ⟨(hS 25 rfl).1, by rw [(hS 25 rfl).2]; rfl⟩) (fun h24 h25 => ?_)
  rcases hr with ⟨q1, q2⟩ | ⟨q1, q2⟩
  · rcases h with w | ⟨_, w⟩ | ⟨w, _⟩
    · omega
    · obtain ⟨b, e1, e2, e3, e4⟩ := hW.ed2 h24 rfl rfl (by omega)
      rw [el_of e1] at q2
      obtain ⟨d, w1, w2⟩ := hW.elem h24 rfl e1 e2 rfl rfl (i := (x - 1).toNat) (by omega)
      rw [q2] at w1; cases w1; exact w2
    · exact absurd q1 w
  · rcases h with w | ⟨w, _⟩ | ⟨_, w⟩
    · omega
    · exact absurd w q1
    · obtain ⟨b, e1, e2, e3, e4⟩ := hW.ed2 h25 rfl rfl (by omega)
      rw [el_of e1] at q2
      obtain ⟨d, w1, w2⟩ := hW.elem h25 rfl e1 e2 rfl rfl (i := (x - 1).toNat) (by omega)
      rw [q2] at w1; cases w1; exact w2
theorem LLw.put (h : LLw iv rv a z t) (hW : WT g sk L cl ln iv rv) (ha : ty L cl a 17) (he : iv1 = up2 iv c k f) (hc : ty L cl c 61) : LLw iv1 rv a z t := by
  have e0 := ne_ty ha hc (by decide)
  refine ⟨by rw [he, up2_k e0]; exact h.1, fun b hb => ?_⟩
  obtain ⟨b2, q1, q2⟩ := hW.ref ha 8 rfl rfl rfl
  rw [q1] at hb; cases hb
  rw [he, up2_k e0, up2_k (ne_ty q2 hc (by decide))]
  exact h.2 _ q1
theorem GD.put (h : GD sk ln iv rv a i t x) (hv : VL sk iv i x) (hW : WT g sk L cl ln iv rv) (hS : SKL sk L cl) (ha : ty L cl a 17) (he : iv1 = up2 iv c k f) (hc : ty L cl c 61) : GD sk ln iv1 rv a i t x := by
  refine ⟨fun q => ⟨(h.1 q).1, (h.1 q).2.put hW ha he hc⟩, fun q row hr => ?_⟩
  have tr := hv.rowt q hW hS hr
  obtain ⟨w1, w2⟩ := h.2 q row hr
  refine ⟨fun cb hb n hn => ?_, ?_⟩
  · obtain ⟨d, q1, q2⟩ := hW.ref tr 2 rfl rfl rfl
    rw [q1] at hb; cases hb
    have e1 : iv1 cb n = iv cb n := by rw [he, up2_k (ne_ty q2 hc (by decide))]
    rw [e1]
    exact (w1 cb q1 n hn).put hW ha he hc
  · rcases w2 with w2 | w2
    · exact Or.inl w2
    · refine Or.inr (fun b hb => ?_)
      obtain ⟨d, q1, q2⟩ := hW.ref tr 1 rfl rfl rfl
      have w3 := w2 b hb
      rw [q1] at hb; cases hb
      rw [he, up2_k (ne_ty tr hc (by decide)), up2_k (ne_ty q2 hc (by decide))]
      exact w3
def WKI (sk : Nat → Nat) (iv : Nat → Nat → Int) (nb cb : Nat) (dp : Int) : Prop := ∀ d : Nat, (d : Int) ≤ dp → 4 * (d : Int) ≤ iv nb d ∧ iv nb d ≤ 403 ∧ -1 ≤ iv cb d ∧ ((d : Int) < dp → 0 ≤ iv cb d) ∧ VL sk iv (iv nb d) (iv cb d)
theorem WKI.init (h1 : iv nb 0 = 0) (h2 : iv cb 0 = -1) : WKI sk iv nb cb 0 := by
  intro d hd
  have e : d = 0 := by omega
  subst e
  rw [h1, h2]
  exact ⟨by decide, by decide, by decide, fun q => absurd q (by decide), Or.inl (by decide)⟩
theorem WKI.back (h : WKI sk iv nb cb dp) : WKI sk iv nb cb (dp + (-1)) := fun d hd => by
  obtain ⟨q1, q2, q3, q4, q5⟩ := h d (by omega)
  exact ⟨q1, q2, q3, fun _ => q4 (by omega), q5⟩
theorem WKI.fr (h : WKI sk iv nb cb dp) (h1 : ∀ d, iv2 nb d = iv nb d) (h2 : ∀ d, iv2 cb d = iv cb d) (h3 : iv2 (sk 24) 2 = iv (sk 24) 2) (h4 : iv2 (sk 25) 2 = iv (sk 25) 2) : WKI sk iv2 nb cb dp := fun d hd => by
  unfold VL; rw [h1, h2, h3, h4]; exact h d hd
theorem WKI.next (h : WKI sk iv nb cb dp) (e1 : iv1 = up2 iv cb dp.toNat f) (e2 : iv2 = up2 iv1 nb (dp + 1).toNat nd) (e3 : iv3 = up2 iv2 cb (dp + 1).toNat (-1)) (hne : nb ≠ cb) (h0 : 0 ≤ dp) (hv : VL sk iv (iv nb dp.toNat) f) (hf : 0 ≤ f) (hn : 4 * (dp + 1) ≤ nd ∧ nd ≤ 403) (n24n : sk 24 ≠ nb) (n24c : sk 24 ≠ cb) (n25n : sk 25 ≠ nb) (n25c : sk 25 ≠ cb) : WKI sk iv3 nb cb (dp + 1) := by
  intro d hd
  refine hv2 (show iv3 (sk 24) 2 = iv (sk 24) 2 from by rw [e3, up2_k n24c, e2, up2_k n24n, e1, up2_k n24c]) (show iv3 (sk 25) 2 = iv (sk 25) 2 from by rw [e3, up2_k n25c, e2, up2_k n25n, e1, up2_k n25c]) (fun s24 s25 => ?_)
  by_cases hl : d = (dp + 1).toNat
  · have a1 : iv3 nb d = nd := by rw [e3, up2_k hne, e2, hl]; exact up2_s
    have a2 : iv3 cb d = -1 := by rw [e3, hl]; exact up2_s
    rw [a1, a2]
    exact ⟨by omega, hn.2, by decide, fun q => absurd q (by omega), Or.inl (by decide)⟩
  · have a1 : iv3 nb d = iv nb d := by rw [e3, up2_k hne, e2, up2_j hl, e1, up2_k hne]
    obtain ⟨q1, q2, q3, q4, q5⟩ := h d (by omega)
    by_cases hm : d = dp.toNat
    · have a2 : iv3 cb d = f := by rw [e3, up2_j hl, e2, up2_k (Ne.symm hne), e1, hm]; exact up2_s
      unfold VL; rw [a1, a2, s24, s25]
      refine ⟨q1, q2, by omega, fun _ => hf, ?_⟩
      have hv2 := hv; unfold VL at hv2; rw [hm]; exact hv2
    · have a2 : iv3 cb d = iv cb d := by rw [e3, up2_j hl, e2, up2_k (Ne.symm hne), e1, up2_j hm]
      unfold VL; rw [a1, a2, s24, s25]
      exact ⟨q1, q2, q3, fun _ => q4 (by omega), q5⟩
end GDS
end
section
set_option maxHeartbeats 4000000 in
set_option maxRecDepth 100000 in
theorem C_bsmall {l : Launch} {G : GT} {mi : Nat} {sk : Nat → Nat} {L : List Nat} {cl ln : Nat → Nat} {iv : Nat → Nat → Int} {rv : Nat → Nat → Option Nat}  {a0 : Nat} (hW : WT (g0 G) sk L cl ln iv rv) (hS : SKL sk L cl) (t_a0 : ty L cl a0 20)  : Mc l G mi (Phi (g0 G) sk) PHM yX5_beginsSmall cX5_beginsSmall 1 (some .boolean) 1 [.ref a0] L cl ln iv rv 0 (fun v L2 cl2 ln2 iv2 rv2 => ∃ f : Int, v = some (.int (iI f)) ∧ L = L2 ∧ cl = cl2 ∧ ln = ln2 ∧ iv = iv2 ∧ rv = rv2 ∧ (f = 0 ∨ f = 1) ∧ (f = 1 ↔ BSw ln iv rv a0)) := by
  refine Mc.mk (by decide) (Nat.le_of_ble_eq_true rfl) ?_
  intro p e s m args below meth c A C hM
  refine hv3 (Phi.le hW hS) (show XT L cl ln L cl ln from XT.refl) (show fT [] L cl iv rv iv rv from fT.refl) (fun hph hX0 hF0 => ?_)
  refine c_aload_n (j := 0) (x := a0) C dX5_beginsSmall_0 rfl ?_
  have ri1 : (-2147483648) ≤ iv a0 0 ∧ iv a0 0 ≤ 2147483647 := hW.int t_a0 0
  refine c_get (k := 0) C ck_6 dX5_beginsSmall_1 w3_135 (by decide) t_a0 rfl rfl (by decide) rfl ?_
  refine c_iconst C dX5_beginsSmall_4 ?_
  refine c_icmp_ne (tgt := 32) C (r32_c (lo := (-2147483648)) (hi := 2147483647) ri1.1 ri1.2 (by decide) (by decide)) ⟨by decide, by decide⟩ dX5_beginsSmall_5 (by decide) (fun c1 => ?_) (fun c1 => ?_)
  · refine c_iconst C dX5_beginsSmall_32 ?_
    obtain ⟨bl, hbl, tbl⟩ := hW.ref t_a0 1 rfl rfl rfl
    have e00 : (iv a0 0 : Int) = iv a0 0 := rfl
    exact c_zret C dX5_beginsSmall_33 rfl (Or.inl rfl) (by decide) (rom0 hph hph (by decide)) ⟨0, rfl, rfl, rfl, rfl, rfl, rfl, (Or.inl rfl), ⟨fun q => absurd q (by decide), fun q => by have q2 := q bl hbl; have q0 : iv bl 0 = iv bl (0 : Int).toNat := rfl; omega⟩⟩
  · refine c_aload_n (j := 0) (x := a0) C dX5_beginsSmall_8 rfl ?_
    obtain ⟨rb1, rq1, trb1⟩ := hW.ref t_a0 1 rfl rfl rfl
    have lnrb1 : 0 ≤ ln rb1 ∧ ln rb1 ≤ 8 := hW.len trb1 rfl
    refine c_getr (k := 1) C ck_6 dX5_beginsSmall_9 w3_138 (by decide) t_a0 rfl rfl (by decide) rfl rq1 ?_
    refine c_st (st2 := [.ref rb1]) rfl ?_
    have ll1 : 0 ≤ ln rb1 ∧ ln rb1 ≤ 8 := hW.len trb1 rfl
    refine c_alenI C dX5_beginsSmall_12 trb1 rfl ?_
    refine c_if_le (tgt := 32) C ⟨by omega, by omega⟩ dX5_beginsSmall_13 (by decide) (fun c2 => ?_) (fun c2 => ?_)
    · refine c_iconst C dX5_beginsSmall_32 ?_
      exact c_zret C dX5_beginsSmall_33 rfl (Or.inl rfl) (by decide) (rom0 hph hph (by decide)) ⟨0, rfl, rfl, rfl, rfl, rfl, rfl, (Or.inl rfl), ⟨fun q => absurd q (by decide), fun q => by have q2 := q rb1 rq1; have q0 : iv rb1 0 = iv rb1 (0 : Int).toNat := rfl; omega⟩⟩
    · refine c_aload_n (j := 0) (x := a0) C dX5_beginsSmall_16 rfl ?_
      refine c_getr (k := 1) C ck_6 dX5_beginsSmall_17 w3_138 (by decide) t_a0 rfl rfl (by decide) rfl rq1 ?_
      refine c_st (st2 := [.ref rb1]) rfl ?_
      refine c_iconst C dX5_beginsSmall_20 ?_
      refine c_iald C dX5_beginsSmall_21 trb1 rfl (by omega) (by omega) (by omega) ?_
      have ri2 : (-2147483648) ≤ iv rb1 ((0 : Int).toNat) ∧ iv rb1 ((0 : Int).toNat) ≤ 2147483647 := hW.int trb1 ((0 : Int).toNat)
      refine c_callSN0 (As := [.int (iI (iv rb1 (0 : Int).toNat))]) (rest := []) C (fun L E => s11_isSmall (iI (iv rb1 (0 : Int).toNat))) dX5_beginsSmall_22 kSN_X5_25 rfl rfl (Nat.le_of_ble_eq_true rfl) ⟨(Nat.le_of_ble_eq_true rfl), (Nat.le_of_ble_eq_true rfl)⟩ (rom0 hph hph (by decide)) ?_
      rcases inn_c (x := iv rb1 (0 : Int).toNat) (lo := 97) (hi := 122) ⟨by omega, by omega⟩ ⟨by decide, by decide⟩ ⟨by decide, by decide⟩ with ⟨hs1a, hs1b, hs1e⟩ | ⟨hs1a, hs1e⟩
      · refine c_st (st2 := [.int (iI 1)]) (by rw [show inn (iI (iv rb1 (0 : Int).toNat)) 97 122 = iI 1 from hs1e]) ?_
        refine c_if_eq (tgt := 32) C ⟨by decide, by decide⟩ dX5_beginsSmall_25 (by decide) (fun z => absurd z (by omega)) (fun _ => ?_)
        refine c_iconst C dX5_beginsSmall_28 ?_
        refine c_goto (tgt := 33) C dX5_beginsSmall_29 (by decide) ?_
        exact c_zret C dX5_beginsSmall_33 rfl (Or.inr rfl) (by decide) (rom0 hph hph (by decide)) ⟨1, rfl, rfl, rfl, rfl, rfl, rfl, (Or.inr rfl), ⟨fun _ b hb => by rw [rq1] at hb; cases hb; have q0 : iv rb1 0 = iv rb1 (0 : Int).toNat := rfl; exact ⟨by omega, by omega, by omega, by omega⟩, fun _ => rfl⟩⟩
      · refine c_st (st2 := [.int (iI 0)]) (by rw [show inn (iI (iv rb1 (0 : Int).toNat)) 97 122 = iI 0 from hs1e]) ?_
        refine c_if_eq (tgt := 32) C ⟨by decide, by decide⟩ dX5_beginsSmall_25 (by decide) (fun _ => ?_) (fun z => absurd z (by omega))
        refine c_iconst C dX5_beginsSmall_32 ?_
        exact c_zret C dX5_beginsSmall_33 rfl (Or.inl rfl) (by decide) (rom0 hph hph (by decide)) ⟨0, rfl, rfl, rfl, rfl, rfl, rfl, (Or.inl rfl), ⟨fun q => absurd q (by decide), fun q => by have q2 := q rb1 rq1; have q0 : iv rb1 0 = iv rb1 (0 : Int).toNat := rfl; omega⟩⟩
set_option maxHeartbeats 4000000 in
set_option maxRecDepth 100000 in
theorem C_looksLike {l : Launch} {G : GT} {mi : Nat} {sk : Nat → Nat} {L : List Nat} {cl ln : Nat → Nat} {iv : Nat → Nat → Int} {rv : Nat → Nat → Option Nat}  {a0 : Nat} {x : Int} {i : Int} (hW : WT (g0 G) sk L cl ln iv rv) (hS : SKL sk L cl) (t_a0 : ty L cl a0 17) (h_x : -2147483648 ≤ x ∧ x ≤ 2147483647) (h_i : -2147483648 ≤ i ∧ i ≤ 2147483647) (hi : 0 ≤ i) : Mc l G mi (Phi (g0 G) sk) PHM yX4_looksLike cX4_looksLike 3 (some .boolean) 0 [.ref a0, .int (iI x), .int (iI i)] L cl ln iv rv 0 (fun v L2 cl2 ln2 iv2 rv2 => ∃ f : Int, v = some (.int (iI f)) ∧ L = L2 ∧ cl = cl2 ∧ ln = ln2 ∧ iv = iv2 ∧ rv = rv2 ∧ (f = 0 ∨ f = 1) ∧ (f = 1 ↔ LLw iv rv a0 x i)) := by
  refine Mc.mk (by decide) (Nat.le_of_ble_eq_true rfl) ?_
  intro p e s m args below meth c A C hM
  refine hv3 (Phi.le hW hS) (show XT L cl ln L cl ln from XT.refl) (show fT [] L cl iv rv iv rv from fT.refl) (fun hph hX0 hF0 => ?_)
  refine c_iload_n (j := 2) C dX4_looksLike_0 rfl ?_
  refine c_aload_n (j := 0) (x := a0) C dX4_looksLike_1 rfl ?_
  have ri1 : 0 ≤ iv a0 9 ∧ iv a0 9 ≤ 100 := hW.int t_a0 9
  refine c_get (k := 9) C ck_5 dX4_looksLike_2 w2_0 (by decide) t_a0 rfl rfl (by decide) rfl ?_
  refine c_icmp_ge (tgt := 28) C ⟨by omega, by omega⟩ (r32_c (lo := 0) (hi := 100) ri1.1 ri1.2 (by decide) (by decide)) dX4_looksLike_5 (by decide) (fun c1 => ?_) (fun c1 => ?_)
  · refine c_iconst C dX4_looksLike_28 ?_
    exact c_zret C dX4_looksLike_29 rfl (Or.inl rfl) (by decide) (rom0 hph hph (by decide)) ⟨0, rfl, rfl, rfl, rfl, rfl, rfl, (Or.inl rfl), ⟨fun q => absurd q (by decide), fun q => absurd q.1 (by omega)⟩⟩
  · refine c_iload_n (j := 1) C dX4_looksLike_8 rfl ?_
    refine c_aload_n (j := 0) (x := a0) C dX4_looksLike_9 rfl ?_
    obtain ⟨rb1, rq1, trb1⟩ := hW.ref t_a0 8 rfl rfl rfl
    have lnrb1 : 100 ≤ ln rb1 ∧ ln rb1 ≤ 100 := hW.len trb1 rfl
    refine c_getr (k := 8) C ck_5 dX4_looksLike_10 w1_239 (by decide) t_a0 rfl rfl (by decide) rfl rq1 ?_
    refine c_st (st2 := [.ref rb1, .int (iI x)]) rfl ?_
    refine c_iload_n (j := 2) C dX4_looksLike_13 rfl ?_
    have ll1 : 100 ≤ ln rb1 ∧ ln rb1 ≤ 100 := hW.len trb1 rfl
    refine c_iald C dX4_looksLike_14 trb1 rfl (by omega) (by omega) (by omega) ?_
    have ri2 : (-2147483648) ≤ iv rb1 i.toNat ∧ iv rb1 i.toNat ≤ 2147483647 := hW.int trb1 i.toNat
    obtain ⟨zz1, hzz1, ezz1⟩ := iI_of (iI x ^^^ iI (iv rb1 i.toNat))
    refine c_ixor (w := iI zz1) C dX4_looksLike_15 ezz1 ?_
    refine c_aload_n (j := 0) (x := a0) C dX4_looksLike_16 rfl ?_
    have ri3 : (-2147483648) ≤ iv a0 10 ∧ iv a0 10 ≤ 2147483647 := hW.int t_a0 10
    refine c_get (k := 10) C ck_5 dX4_looksLike_17 w2_1 (by decide) t_a0 rfl rfl (by decide) rfl ?_
    obtain ⟨zz2, hzz2, ezz2⟩ := iI_of (iI zz1 &&& iI (iv a0 10))
    refine c_iand (w := iI zz2) C dX4_looksLike_20 ezz2 ?_
    refine c_if_ne (tgt := 28) C ⟨by omega, by omega⟩ dX4_looksLike_21 (by decide) (fun c2 => ?_) (fun c2 => ?_)
    · refine c_iconst C dX4_looksLike_28 ?_
      exact c_zret C dX4_looksLike_29 rfl (Or.inl rfl) (by decide) (rom0 hph hph (by decide)) ⟨0, rfl, rfl, rfl, rfl, rfl, rfl, (Or.inl rfl), ⟨fun q => absurd q (by decide), fun q => by have q2 := q.2 rb1 rq1; rw [ezz1] at q2; have q3 := (bz_iff ezz2 hzz2).mp q2; omega⟩⟩
    · refine c_iconst C dX4_looksLike_24 ?_
      refine c_goto (tgt := 29) C dX4_looksLike_25 (by decide) ?_
      exact c_zret C dX4_looksLike_29 rfl (Or.inr rfl) (by decide) (rom0 hph hph (by decide)) ⟨1, rfl, rfl, rfl, rfl, rfl, rfl, (Or.inr rfl), ⟨fun _ => ⟨by omega, fun b hb => by rw [rq1] at hb; cases hb; rw [ezz1, ezz2]; exact congrArg iI (show zz2 = 0 by omega)⟩, fun _ => rfl⟩⟩
set_option maxHeartbeats 4000000 in
set_option maxRecDepth 100000 in
theorem C_looksLikeRow {l : Launch} {G : GT} {mi : Nat} {sk : Nat → Nat} {L : List Nat} {cl ln : Nat → Nat} {iv : Nat → Nat → Int} {rv : Nat → Nat → Option Nat}  {a0 : Nat} {a1 : Nat} {i : Int} (hW : WT (g0 G) sk L cl ln iv rv) (hS : SKL sk L cl) (t_a0 : ty L cl a0 17) (t_a1 : ty L cl a1 20) (h_i : -2147483648 ≤ i ∧ i ≤ 2147483647) (hi : 0 ≤ i ∧ i ≤ 1000) : Mc l G mi (Phi (g0 G) sk) PHM yX4_looksLikeRow cX4_looksLikeRow 4 (some .boolean) 1 [.ref a0, .ref a1, .int (iI i)] L cl ln iv rv 0 (fun v L2 cl2 ln2 iv2 rv2 => ∃ f : Int, v = some (.int (iI f)) ∧ L = L2 ∧ cl = cl2 ∧ ln = ln2 ∧ iv = iv2 ∧ rv = rv2 ∧ (f = 0 ∨ f = 1) ∧ (f = 1 ↔ LRw ln iv rv a0 a1 i)) := by
  refine Mc.mk (by decide) (Nat.le_of_ble_eq_true rfl) ?_
  intro p e s m args below meth c A C hM
  refine hv3 (Phi.le hW hS) (show XT L cl ln L cl ln from XT.refl) (show fT [] L cl iv rv iv rv from fT.refl) (fun hph hX0 hF0 => ?_)
  refine c_iconst C dX4_looksLikeRow_0 ?_
  refine c_istore_n (lv2 := [(3, .int (iI 0)), (0, .ref a0), (1, .ref a1), (2, .int (iI i))]) C dX4_looksLikeRow_1 (by decide) rfl ?_
  have Lp1 : ∀ (nn : Nat) (k : Int) , 5 - k < (nn : Int) → (0 ≤ k ∧ k ≤ 4) → (∀ cb, rv a1 2 = some cb → ∀ j : Nat, (j : Int) < k → LLw iv rv a0 (iv cb j) (i + j)) → cw p l e 1 ((PHM) + 0 - ((Phi (g0 G) sk) ln rv)) s m args below meth c G A 4 (MQ below (Qu G A (Qp G (Phi (g0 G) sk) ((Phi (g0 G) sk) ln rv) 0 (fun v L2 cl2 ln2 iv2 rv2 => ∃ f : Int, v = some (.int (iI f)) ∧ L = L2 ∧ cl = cl2 ∧ ln = ln2 ∧ iv = iv2 ∧ rv = rv2 ∧ (f = 0 ∨ f = 1) ∧ (f = 1 ↔ LRw ln iv rv a0 a1 i)))) args s (((PHM) + 0 - ((Phi (g0 G) sk) ln rv)) / 16) ((PHM) + 0 - ((Phi (g0 G) sk) ln rv)) A) (Phi (g0 G) sk) ((Phi (g0 G) sk) ln rv) L cl ln iv rv 0 2 [(3, .int (iI k)), (0, .ref a0), (1, .ref a1), (2, .int (iI i))] [] := by
    intro nn
    induction nn with
    | zero =>
      intro  k  hm   hk hall
      exact absurd hm (by omega)
    | succ nn ih1 =>
      intro  k  hm   hk hall
      refine c_iload_n (j := 0) C dX4_looksLikeRow_2 rfl ?_
      refine c_aload_n (j := 2) (x := a1) C dX4_looksLikeRow_3 rfl ?_
      obtain ⟨rb1, rq1, trb1⟩ := hW.ref t_a1 2 rfl rfl rfl
      have lnrb1 : 1 ≤ ln rb1 ∧ ln rb1 ≤ 4 := hW.len trb1 rfl
      refine c_getr (k := 2) C ck_6 dX4_looksLikeRow_4 w3_144 (by decide) t_a1 rfl rfl (by decide) rfl rq1 ?_
      refine c_st (st2 := [.ref rb1, .int (iI k)]) rfl ?_
      have ll1 : 1 ≤ ln rb1 ∧ ln rb1 ≤ 4 := hW.len trb1 rfl
      refine c_alenI C dX4_looksLikeRow_7 trb1 rfl ?_
      refine c_icmp_ge (tgt := 35) C (r32_c (lo := 0) (hi := 4) hk.1 hk.2 (by decide) (by decide)) ⟨by omega, by omega⟩ dX4_looksLikeRow_8 (by decide) (fun c1 => ?_) (fun c1 => ?_)
      · refine c_iconst C dX4_looksLikeRow_35 ?_
        exact c_zret C dX4_looksLikeRow_36 rfl (Or.inr rfl) (by decide) (rom0 hph hph (by decide)) ⟨1, rfl, rfl, rfl, rfl, rfl, rfl, (Or.inr rfl), ⟨fun _ cb hb j hj => hall cb hb j (by rw [rq1] at hb; cases hb; omega), fun _ => rfl⟩⟩
      · refine c_aload_n (j := 1) (x := a0) C dX4_looksLikeRow_11 rfl ?_
        refine c_aload_n (j := 2) (x := a1) C dX4_looksLikeRow_12 rfl ?_
        refine c_getr (k := 2) C ck_6 dX4_looksLikeRow_13 w3_144 (by decide) t_a1 rfl rfl (by decide) rfl rq1 ?_
        refine c_st (st2 := [.ref rb1, .ref a0]) rfl ?_
        refine c_iload_n (j := 0) C dX4_looksLikeRow_16 rfl ?_
        refine c_iald C dX4_looksLikeRow_17 trb1 rfl (by omega) (by omega) (by omega) ?_
        have ri1 : (-2147483648) ≤ iv rb1 k.toNat ∧ iv rb1 k.toNat ≤ 2147483647 := hW.int trb1 k.toNat
        refine c_iload_n (j := 3) C dX4_looksLikeRow_18 rfl ?_
        refine c_iload_n (j := 0) C dX4_looksLikeRow_19 rfl ?_
        refine c_iadd C dX4_looksLikeRow_20 ?_
        refine d_callV (As := [.int (iI (iv rb1 k.toNat)), .int (iI (i + k))]) (rest := []) C hM (C_looksLike (a0 := a0) (x := iv rb1 k.toNat) (i := i + k) hW hS t_a0 (by omega) (by omega) (by show 0 ≤ (i + k); omega)) dX4_looksLikeRow_21 kV_X4_106 rfl t_a0 rfl rfl (by decide) ck_5 rfl (Nat.le_of_ble_eq_true rfl) ⟨(Nat.le_of_ble_eq_true rfl), (Nat.le_of_ble_eq_true rfl)⟩ hph hph (show 0 + 0 = 0 from rfl) (by decide) (fun rh1 Lh1 clh1 lnh1 ivh1 rvh1 h1 => ?_)
        obtain ⟨f1, rfl, rfl, rfl, rfl, rfl, rfl, rgf1, exf1⟩ := h1
        refine c_st (st2 := [.int (iI f1)]) rfl ?_
        have gf1 : f1 = 1 ↔ LLw iv rv a0 (iv rb1 k.toNat) (i + k) := exf1
        refine c_if_ne (tgt := 29) C ⟨by omega, by omega⟩ dX4_looksLikeRow_24 (by decide) (fun c2 => ?_) (fun c2 => ?_)
        · refine c_iinc (z := k) (j := 0) (lv2 := [(3, .int (iI (k + 1))), (0, .ref a0), (1, .ref a1), (2, .int (iI i))]) C dX4_looksLikeRow_29 rfl (by decide) rfl ?_
          refine c_goto (tgt := 2) C dX4_looksLikeRow_32 (by decide) ?_
          refine c_lv (lv2 := [(3, .int (iI (k + 1))), (0, .ref a0), (1, .ref a1), (2, .int (iI i))]) [0, 1, 2, 3] rfl ?_
          exact ih1  (k + 1)  (by omega)   (by omega) (fun cb hb j hj => by
              by_cases e : (j : Int) < k
              · exact hall cb hb j e
              · have e2 : j = k.toNat := by omega
                rw [rq1] at hb; cases hb; subst e2; rw [show i + ((k.toNat : Nat) : Int) = i + k by omega]; exact gf1.mp (by omega))
        · refine c_iconst C dX4_looksLikeRow_27 ?_
          exact c_zret C dX4_looksLikeRow_28 rfl (Or.inl rfl) (by decide) (rom0 hph hph (by decide)) ⟨0, rfl, rfl, rfl, rfl, rfl, rfl, (Or.inl rfl), ⟨fun q => absurd q (by decide), fun q => by have q2 := q rb1 rq1 k.toNat (by omega); rw [show i + ((k.toNat : Nat) : Int) = i + k by omega] at q2; have q3 := gf1.mpr q2; omega⟩⟩
  refine c_lv (lv2 := [(3, .int (iI 0)), (0, .ref a0), (1, .ref a1), (2, .int (iI i))]) [0, 1, 2, 3] rfl ?_
  exact Lp1 7 0  (by omega)   (by omega) (fun _ _ j hj => absurd hj (by omega))
end
