section
set_option maxHeartbeats 4000000 in
set_option maxRecDepth 100000 in
theorem C_changeInd {l : Launch} {G : GT} {mi : Nat} {sk : Nat → Nat} {L : List Nat} {cl ln : Nat → Nat} {iv : Nat → Nat → Int} {rv : Nat → Nat → Option Nat}  {a0 : Nat} {i : Int} {j : Int} (hW : WT (g0 G) sk L cl ln iv rv) (hS : SKL sk L cl) (t_a0 : ty L cl a0 1) (h_i : -2147483648 ≤ i ∧ i ≤ 2147483647) (h_j : -2147483648 ≤ j ∧ j ≤ 2147483647) (hmr : MRK sk cl iv rv) (hch : iv (sk 23) 2 < 512) : Mc l G mi (Phi (g0 G) sk) PHM yX11_changeIndicator cX11_changeIndicator 4 (some .int) 8 [.ref a0, .int (iI i), .int (iI j)] L cl ln iv rv 1300 (fun v L2 cl2 ln2 iv2 rv2 => ∃ f : Int, v = some (.int (iI f)) ∧ XT L cl ln L2 cl2 ln2 ∧ fT [1, 65, 66, 206, 68, 23, 1001, 201] L cl iv rv iv2 rv2 ∧ WT (g0 G) sk L2 cl2 ln2 iv2 rv2 ∧ (-2147483648 ≤ f ∧ f ≤ 2147483647) ∧ (iv2 (sk 23) 2 ≤ iv (sk 23) 2 + 1 ∧ MRK sk cl2 iv2 rv2) ∧ iv2 a0 11 = iv a0 11 ∧ iv2 a0 12 = iv a0 12 ∧ iv2 a0 13 = iv a0 13 ∧ iv2 a0 14 = iv a0 14 ∧ iv2 a0 15 = iv a0 15 ∧ iv2 a0 16 = iv a0 16 ∧ (PIND i j f sk iv rv iv2 rv2) ∧ (KIN L cl sk iv rv L2 cl2 ln2 iv2 rv2 i j f) ∧ rv2 a0 9 = rv a0 9 ∧ rv2 a0 10 = rv a0 10) := by
  refine Mc.mk (by decide) (Nat.le_of_ble_eq_true rfl) ?_
  intro p e s m args below meth c A C hM
  refine hv14 (Phi.le hW hS) (show ty L cl (sk 2) 2 from ⟨(hS 2 rfl).1, by rw [(hS 2 rfl).2]; rfl⟩) (show ty L cl (sk 3) 3 from ⟨(hS 3 rfl).1, by rw [(hS 3 rfl).2]; rfl⟩) (show ty L cl (sk 4) 4 from ⟨(hS 4 rfl).1, by rw [(hS 4 rfl).2]; rfl⟩) (show ty L cl (sk 5) 5 from ⟨(hS 5 rfl).1, by rw [(hS 5 rfl).2]; rfl⟩) (show ty L cl (sk 13) 13 from ⟨(hS 13 rfl).1, by rw [(hS 13 rfl).2]; rfl⟩) (show ty L cl (sk 14) 14 from ⟨(hS 14 rfl).1, by rw [(hS 14 rfl).2]; rfl⟩) (show ty L cl (sk 15) 15 from ⟨(hS 15 rfl).1, by rw [(hS 15 rfl).2]; rfl⟩) (show ty L cl (sk 16) 16 from ⟨(hS 16 rfl).1, by rw [(hS 16 rfl).2]; rfl⟩) (show ty L cl (sk 17) 17 from ⟨(hS 17 rfl).1, by rw [(hS 17 rfl).2]; rfl⟩) (show ty L cl (sk 22) 22 from ⟨(hS 22 rfl).1, by rw [(hS 22 rfl).2]; rfl⟩) (show ty L cl (sk 23) 23 from ⟨(hS 23 rfl).1, by rw [(hS 23 rfl).2]; rfl⟩) (show XT L cl ln L cl ln from XT.refl) (show fT [1, 65, 66, 206, 68, 23, 1001, 201] L cl iv rv iv rv from fT.refl) (fun hph tsk2 tsk3 tsk4 tsk5 tsk13 tsk14 tsk15 tsk16 tsk17 tsk22 tsk23 hX0 hF0 => ?_)
  refine c_iload_n (j := 2) C dX11_changeIndicator_0 rfl ?_
  refine c_if_lt (tgt := 9) C ⟨by omega, by omega⟩ dX11_changeIndicator_1 (by decide) (fun c1 => ?_) (fun c1 => ?_)
  · refine c_aload_n (j := 0) (x := a0) C dX11_changeIndicator_9 rfl ?_
    refine c_bipush (z := 6) C dX11_changeIndicator_10 (by decide) ?_
    refine d_callV (As := [.int (iI 6)]) (rest := []) C hM (C_refuse (a0 := a0) (x := 6) hW hS t_a0 ⟨by decide, by decide⟩ ) dX11_changeIndicator_12 kV_X11_102 rfl t_a0 rfl rfl (by decide) ck_12 rfl (Nat.le_of_ble_eq_true rfl) ⟨(Nat.le_of_ble_eq_true rfl), (Nat.le_of_ble_eq_true rfl)⟩ hph hph (show 0 + 0 = 0 from rfl) (by decide) (fun rh1 Lh1 clh1 lnh1 ivh1 rvh1 h1 => ?_)
    obtain ⟨f1, rfl, rfl, rfl, rfl, rfl, fl1, W1, rgf1, exf1, kp11f1, kp12f1, kp13f1, kp14f1, kp15f1, kp16f1⟩ := h1
    refine hv8 (show 1 ≤ iv a0 11 ∧ iv a0 11 ≤ 100 from hW.int t_a0 11) (show 1 ≤ iv a0 12 ∧ iv a0 12 ≤ 50 from hW.int t_a0 12) (show (-2147483648) ≤ iv a0 13 ∧ iv a0 13 ≤ 2147483647 from hW.int t_a0 13) (show (-2147483648) ≤ iv a0 14 ∧ iv a0 14 ≤ 2147483647 from hW.int t_a0 14) (show (-2147483648) ≤ iv a0 15 ∧ iv a0 15 ≤ 2147483647 from hW.int t_a0 15) (show (-2147483648) ≤ iv a0 16 ∧ iv a0 16 ≤ 2147483647 from hW.int t_a0 16) (hF0.call hX0 fl1 rfl) (MRK.call hmr hW hS XT.refl fl1 rfl rfl) (fun ri1 ri2 ri3 ri4 ri5 ri6 F1 mr1 => ?_)
    refine c_st (st2 := [.int (iI f1)]) rfl ?_
    refine hv19 (show ivh1 a0 11 = iv a0 11 from kp11f1) (show ivh1 a0 12 = iv a0 12 from kp12f1) (show ivh1 a0 13 = iv a0 13 from kp13f1) (show ivh1 a0 14 = iv a0 14 from kp14f1) (show ivh1 a0 15 = iv a0 15 from kp15f1) (show ivh1 a0 16 = iv a0 16 from kp16f1) (show f1 = -1 from exf1) (show 1 ≤ ivh1 a0 11 ∧ ivh1 a0 11 ≤ 100 from W1.int t_a0 11) (show 1 ≤ ivh1 a0 12 ∧ ivh1 a0 12 ≤ 50 from W1.int t_a0 12) (show (-2147483648) ≤ ivh1 a0 13 ∧ ivh1 a0 13 ≤ 2147483647 from W1.int t_a0 13) (show (-2147483648) ≤ ivh1 a0 14 ∧ ivh1 a0 14 ≤ 2147483647 from W1.int t_a0 14) (show (-2147483648) ≤ ivh1 a0 15 ∧ ivh1 a0 15 ≤ 2147483647 from W1.int t_a0 15) (show (-2147483648) ≤ ivh1 a0 16 ∧ ivh1 a0 16 ≤ 2147483647 from W1.int t_a0 16) (show 0 ≤ ivh1 (sk 23) 2 ∧ ivh1 (sk 23) 2 ≤ 512 from W1.int tsk23 2) (show ivh1 (sk 23) 2 = iv (sk 23) 2 from fl1.i tsk23 rfl 2) (show 0 ≤ ivh1 (sk 22) 2 ∧ ivh1 (sk 22) 2 ≤ 30 from W1.int tsk22 2) (show ivh1 (sk 22) 2 = iv (sk 22) 2 from fl1.i tsk22 rfl 2) (show 0 ≤ ivh1 (sk 2) 2 ∧ ivh1 (sk 2) 2 ≤ 3000 from W1.int tsk2 2) (show ivh1 (sk 2) 2 = iv (sk 2) 2 from fl1.i tsk2 rfl 2) (fun gk11f1 gk12f1 gk13f1 gk14f1 gk15f1 gk16f1 gf1 ri7 ri8 ri9 ri10 ri11 ri12 ri13 ie7 ri14 ie8 ri15 ie9 => ?_)
    exact c_iret C dX11_changeIndicator_15 rfl (by decide) (rom0 hph hph (by decide)) ⟨f1, rfl, hX0, F1, W1, ⟨by omega, by omega⟩, ⟨(by omega), mr1⟩, gk11f1, gk12f1, gk13f1, gk14f1, gk15f1, gk16f1, (Or.inl ⟨by omega, PSAME.fr hW hS fl1 rfl rfl rfl rfl rfl rfl rfl, (fun ss t hs ht hd h => by
        obtain ⟨h1, h2, h3, h4⟩ := h.1
        omega)⟩), (Or.inl ⟨by omega, KP.fr hW fl1 rfl⟩), rfl, rfl⟩
  · refine c_iload_n (j := 2) C dX11_changeIndicator_4 rfl ?_
    refine c_iconst C dX11_changeIndicator_5 ?_
    refine c_icmp_le (tgt := 16) C ⟨by omega, by omega⟩ ⟨by decide, by decide⟩ dX11_changeIndicator_6 (by decide) (fun c2 => ?_) (fun c2 => ?_)
    · refine c_aload_n (j := 0) (x := a0) C dX11_changeIndicator_16 rfl ?_
      obtain ⟨rb1, rq1, trb1⟩ := hW.ref t_a0 4 rfl rfl rfl
      have erb1 := hW.sk trb1 (by decide) rfl
      subst erb1
      refine c_getr (k := 4) C ck_12 dX11_changeIndicator_17 w2_48 (by decide) t_a0 rfl rfl (by decide) rfl rq1 ?_
      refine c_st (st2 := [.ref (sk 13)]) rfl ?_
      refine c_iload_n (j := 1) C dX11_changeIndicator_20 rfl ?_
      have ri16 : 0 ≤ iv (sk 22) 2 ∧ iv (sk 22) 2 ≤ 30 := hW.int tsk22 2
      refine d_callV (As := [.int (iI i)]) (rest := []) C hM (C_alive (a0 := (sk 13)) (i := i) hW hS tsk13 (by omega) hmr) dX11_changeIndicator_21 kV_X11_131 rfl tsk13 rfl rfl (by decide) ck_11 rfl (Nat.le_of_ble_eq_true rfl) ⟨(Nat.le_of_ble_eq_true rfl), (Nat.le_of_ble_eq_true rfl)⟩ hph hph (show 0 + 0 = 0 from rfl) (by decide) (fun rh2 Lh2 clh2 lnh2 ivh2 rvh2 h2 => ?_)
      obtain ⟨f2, rfl, rfl, rfl, rfl, rfl, rfl, rgf2, exf2⟩ := h2
      refine c_st (st2 := [(va_rf f2)]) rfl ?_
      have gf2 : (∀ b, f2 = some b → ((cl b : Nat) : Int) < 100 + iv (sk 22) 2 ∧ ALV sk iv rv i b) ∧ (f2 = none → ∀ b, ¬ ALV sk iv rv i b) := exf2
      refine c_astorer_n (r := f2) (lv2 := [(3, (va_rf f2)), (0, .ref a0), (1, .int (iI i)), (2, .int (iI j))]) C dX11_changeIndicator_24 (by decide) rfl ?_
      refine c_aloadr_n (j := 0) (r := f2) C dX11_changeIndicator_25 rfl ?_
      refine c_ifnonnull (r := f2) (tgt := 35) C dX11_changeIndicator_26 (by decide) (fun ob1 oq1 => ?_) (fun oq1 => ?_)
      · subst oq1
        refine hv2 (rgf2 ob1 rfl) (gf2.1 ob1 rfl) (fun tob1 akob1 => ?_)
        refine c_lv (lv2 := [(3, .ref ob1), (0, .ref a0), (1, .int (iI i)), (2, .int (iI j))]) [0, 1, 2, 3] rfl ?_
        refine c_st (st2 := []) rfl ?_
        refine c_aload_n (j := 0) (x := ob1) C dX11_changeIndicator_35 rfl ?_
        refine c_iload_n (j := 3) C dX11_changeIndicator_36 rfl ?_
        have ri17 : (-2147483648) ≤ iv ob1 0 ∧ iv ob1 0 ≤ 2147483647 := hW.int tob1 0
        refine d_callV (As := [.int (iI j)]) (rest := []) C hM (C_mayHave (a0 := ob1) (i := j) hW hS tob1 (by omega) ) dX11_changeIndicator_37 kV_X11_211 rfl tob1 rfl rfl (by decide) ck_10 rfl (Nat.le_of_ble_eq_true rfl) ⟨(Nat.le_of_ble_eq_true rfl), (Nat.le_of_ble_eq_true rfl)⟩ hph hph (show 0 + 0 = 0 from rfl) (by decide) (fun rh3 Lh3 clh3 lnh3 ivh3 rvh3 h3 => ?_)
        obtain ⟨f3, rfl, rfl, rfl, rfl, rfl, rfl, rgf3, exf3⟩ := h3
        refine c_st (st2 := [.int (iI f3)]) rfl ?_
        have gf3 : MH f3 j (iv ob1 0) := exf3
        refine c_if_ne (tgt := 49) C ⟨by omega, by omega⟩ dX11_changeIndicator_40 (by decide) (fun c3 => ?_) (fun c3 => ?_)
        · refine c_aload_n (j := 1) (x := a0) C dX11_changeIndicator_49 rfl ?_
          refine c_iconst C dX11_changeIndicator_50 ?_
          refine c_aload_n (j := 0) (x := ob1) C dX11_changeIndicator_51 rfl ?_
          have ri18 : (-2147483648) ≤ iv ob1 1 ∧ iv ob1 1 ≤ 2147483647 := hW.int tob1 1
          refine c_get (k := 1) C ck_10 dX11_changeIndicator_52 w2_179 (by decide) tob1 rfl rfl (by decide) rfl ?_
          have ri19 : 0 ≤ iv (sk 2) 2 ∧ iv (sk 2) 2 ≤ 3000 := hW.int tsk2 2
          refine d_callV (As := [.int (iI 0), .int (iI (iv ob1 1))]) (rest := []) C hM (C_isRow (a0 := a0) (i := 0) (n := iv ob1 1) hW hS t_a0 ⟨by decide, by decide⟩ (by omega) (by show 0 ≤ (0 : Int); omega)) dX11_changeIndicator_55 kV_X11_175 rfl t_a0 rfl rfl (by decide) ck_12 rfl (Nat.le_of_ble_eq_true rfl) ⟨(Nat.le_of_ble_eq_true rfl), (Nat.le_of_ble_eq_true rfl)⟩ hph hph (show 0 + 0 = 0 from rfl) (by decide) (fun rh4 Lh4 clh4 lnh4 ivh4 rvh4 h4 => ?_)
          obtain ⟨f4, rfl, rfl, rfl, rfl, rfl, rfl, rgf4, exf4, irxf4⟩ := h4
          refine c_st (st2 := [.int (iI f4)]) rfl ?_
          have gf4 : f4 = 0 ∨ iv (sk 2) 2 - (0 : Int) ≤ 4 := exf4
          refine c_if_ne (tgt := 68) C ⟨by omega, by omega⟩ dX11_changeIndicator_58 (by decide) (fun c4 => ?_) (fun c4 => ?_)
          · replace gf4 := (gf4.resolve_left c4)
            refine c_aload_n (j := 1) (x := a0) C dX11_changeIndicator_68 rfl ?_
            refine c_getr (k := 4) C ck_12 dX11_changeIndicator_69 w2_48 (by decide) t_a0 rfl rfl (by decide) rfl rq1 ?_
            refine c_st (st2 := [.ref (sk 13)]) rfl ?_
            obtain ⟨n6, hn6, tn6⟩ := hW.ref tob1 6 rfl rfl rfl
            have kp1 : KP L cl (fun _ => False) (fun _ => False) (fun _ => False) (fun _ => False) (fun b k => b = n6 ∧ k = j.toNat) iv rv iv rv := KP.refl
            refine c_new C ck_1 dv_1 ⟨rfl, rfl⟩ rfl (by decide) dX11_changeIndicator_72 w3_98 w3_35 w1_18 (rom2 hph hph (by decide)) (fun qn1 cln1 lnn1 ivn1 rvn1 hqn1 hcn1 hln1 hin1 hrn1 => ⟨20, (p_in (Phi.new hW hS hqn1 (fun b _ => by rw [hln1]) hrn1) (by omega)), ?_⟩)
            refine c_g0 C (fun hg1 => ?_)
            refine hv5 (show ∀ b, b ≠ qn1 → lnn1 b = ln b from (fun b _ => by rw [hln1])) (hF0.new hX0 hqn1 hin1 hrn1) (show ty (L ++ [qn1]) cln1 qn1 201 from ty_new hcn1) (kp1.new TX.refl hW hqn1 hin1 hrn1) (show qn1 ∉ L from fun h => hqn1 ((hX0 qn1 h).1)) (fun hxn1 F2 tqn1 kp2 h0qn1 => ?_)
            refine hv2 (hW.new (ln2 := lnn1) hqn1 (hg1 qn1 (List.mem_append_right _ List.mem_cons_self)) hcn1 hxn1 hin1 hrn1 (fun _ => ⟨(show (-2147483648 : Int) ≤ 0 by decide), (show (0 : Int) ≤ 2147483647 by decide)⟩) (Or.inl rfl) (fun q => by cases q) rfl rfl) (XT.new hqn1 hcn1 hxn1) (fun W5 xl5 => ?_)
            refine hv3 (hX0.trans xl5) (xl5.skl hS) (MRK.call hmr hW hS xl5 ((fT.refl (ls := [])).new (XT.refl (ln := ln)) hqn1 hin1 hrn1) rfl rfl) (fun X1 sk1 mr2 => ?_)
            refine c_dup C dX11_changeIndicator_75 rfl ?_
            refine c_iconst C dX11_changeIndicator_76 ?_
            refine c_aload_n (j := 0) (x := ob1) C dX11_changeIndicator_77 rfl ?_
            refine c_aload_n (j := 0) (x := ob1) C dX11_changeIndicator_78 rfl ?_
            refine hv2 (xl5.ty tob1) (show rvn1 ob1 6 = rv ob1 6 from (by rw [hrn1]; exact congrFun (up0_a (ne_in tob1.1 hqn1)) _)) (fun ty1 re1 => ?_)
            rw [hn6] at re1
            refine c_getr (k := 6) C ck_10 dX11_changeIndicator_79 w2_196 (by decide) ty1 rfl rfl (by decide) rfl re1 ?_
            refine c_st (st2 := [.ref n6, .ref ob1, .int (iI 4), .ref qn1, .ref qn1, .ref (sk 13)]) rfl ?_
            refine c_iload_n (j := 3) C dX11_changeIndicator_82 rfl ?_
            have ty2 := xl5.ty tn6
            have ll1 : 4 ≤ lnn1 n6 ∧ lnn1 n6 ≤ 4 := W5.len ty2 rfl
            rcases W5.opt ty2 (j.toNat) rfl rfl with ⟨nq1, _⟩ | ⟨nb1, nq1, tnb1⟩
            · refine c_aaldR C dX11_changeIndicator_83 ty2 rfl (by omega) (by omega) (by omega) nq1 ?_
              refine c_st (st2 := [.null, .ref ob1, .int (iI 4), .ref qn1, .ref qn1, .ref (sk 13)]) rfl ?_
              refine c_iload_n (j := 3) C dX11_changeIndicator_84 rfl ?_
              refine hv2 (Eq.trans ((show ∀ bb, ty L cl bb 68 → ∀ kk, rvn1 bb kk = rv bb kk from fun bb tbb kk => by exact (show rvn1 bb kk = rv bb kk from (by rw [hrn1]; exact congrFun (up0_a (ne_in tbb.1 hqn1)) _))) n6 tn6 j.toNat).symm nq1) (Phi.le W5 sk1) (fun oi1 pl1 => ?_)
              refine c_callI (As := [.int (iI 4), .ref ob1, .null, .int (iI j)]) (rest := [.ref qn1, .ref (sk 13)]) C hM (Z_change (a0 := qn1) (i := 4) (a2 := ob1) (r := none) (n := j) W5 sk1 tqn1 ty1 (fun _ q => by cases q) ⟨by decide, by decide⟩ (by omega) ) dX11_changeIndicator_85 kI_X11_149 rfl rfl (Nat.le_of_ble_eq_true rfl) ⟨(Nat.le_of_ble_eq_true rfl), (Nat.le_of_ble_eq_true rfl)⟩ (rz1 hph pl1 (by decide)) (fun rh5 Lh5 clh5 lnh5 ivh5 rvh5 h5 => ⟨20, (zk1 (by obtain ⟨_, _, _, e3, flh5x, Wh5x, _⟩ := h5; subst e3; exact Phi.frn sk1 flh5x rfl)), ?_⟩)
              obtain ⟨rfl, rfl, rfl, rfl, fl5, W6, exf5⟩ := h5
              refine hv3 (F2.call X1 fl5 rfl) (MRK.call mr2 W5 sk1 XT.refl fl5 rfl rfl) (TX.xt TX.refl xl5) (fun F3 mr3 tx1 => ?_)
              have kp3 := kp2.call tx1 W5 fl5 rfl
              refine c_st (st2 := [.ref qn1, .ref (sk 13)]) rfl ?_
              obtain ⟨exf5x, exf5r, exf5p, exf5i, exf5j⟩ := exf5
              have rn1 : ∀ k, ([1, 2] : List Nat).contains k = false → rvh5 qn1 k = none := fun k hk => (Eq.trans (show rvh5 qn1 k = rvn1 qn1 k from (exf5x k hk)) (show rvn1 qn1 k = none from (by rw [hrn1]; exact up0_s)))
              refine c_retag (q := qn1) (t := 21) (by rw [tqn1.2]; rfl) (fun clr1 hcr1 => ?_)
              refine hv15 (xl5.ty t_a0) (xl5.ty tsk2) (xl5.ty tsk3) (xl5.ty tsk4) (xl5.ty tsk5) (xl5.ty tsk13) (xl5.ty tsk14) (xl5.ty tsk15) (xl5.ty tsk16) (xl5.ty tsk17) (xl5.ty tsk22) (xl5.ty tsk23) (ty_rt ty1 hcr1 (ne_ty ty1 tqn1 (by decide))) (ty_rt ty2 hcr1 (ne_ty ty2 tqn1 (by decide))) (show ty (L ++ [qn1]) clr1 qn1 21 from ⟨tqn1.1, by rw [hcr1, va_up_self]; rfl⟩) (fun ty3 ty5 ty7 ty9 ty11 ty13 ty15 ty17 ty19 ty21 ty23 ty25 ty27 ty28 tqr1 => ?_)
              refine hv12 (ty_rt ty3 hcr1 (ne_ty ty3 tqn1 (by decide))) (ty_rt ty5 hcr1 (ne_ty ty5 tqn1 (by decide))) (ty_rt ty7 hcr1 (ne_ty ty7 tqn1 (by decide))) (ty_rt ty9 hcr1 (ne_ty ty9 tqn1 (by decide))) (ty_rt ty11 hcr1 (ne_ty ty11 tqn1 (by decide))) (ty_rt ty13 hcr1 (ne_ty ty13 tqn1 (by decide))) (ty_rt ty15 hcr1 (ne_ty ty15 tqn1 (by decide))) (ty_rt ty17 hcr1 (ne_ty ty17 tqn1 (by decide))) (ty_rt ty19 hcr1 (ne_ty ty19 tqn1 (by decide))) (ty_rt ty21 hcr1 (ne_ty ty21 tqn1 (by decide))) (ty_rt ty23 hcr1 (ne_ty ty23 tqn1 (by decide))) (ty_rt ty25 hcr1 (ne_ty ty25 tqn1 (by decide))) (fun ty4 ty6 ty8 ty10 ty12 ty14 ty16 ty18 ty20 ty22 ty24 ty26 => ?_)
              have W7 := W6.retag tqn1.1 (by rw [tqn1.2]; rfl) hcr1 (fun k => by
                    rcases k with _ | _ | _ | _ | k
                    · exact W6.int tqn1 0
                    · exact W6.int tqn1 1
                    · exact W6.int tqn1 2
                    · exact ⟨(by show 0 ≤ ivh5 qn1 3; first | exact bx_lo ‹ivh5 qn1 3 = _› (by decide) | omega), (by show ivh5 qn1 3 ≤ 5; first | exact bx_hi ‹ivh5 qn1 3 = _› (by decide) | omega)⟩
                    · exact W6.int tqn1 (k + 4)) (fun k => by
                    rcases k with _ | _ | _ | _ | k
                    · rw [rn1 0 (by decide)]; exact rok_none tqr1 rfl
                    · rw [exf5r]; exact rok_some tqr1 ty27 rfl (by decide) rfl
                    · rw [exf5p]; exact rok_ch tqr1 (fun _ q => by cases q)
                    · rw [rn1 3 (by decide)]; exact rok_none tqr1 rfl
                    · rw [rn1 (k + 4) (by simp)]; exact rok_none tqr1 rfl) rfl (fun z => by cases z) (fun z => by cases z) rfl
              refine hv8 (X1.rt hcr1 h0qn1) (sk1.rt hcr1 (by rw [tqn1.2]; rfl)) (MRK.rt mr3 W6 sk1 hcr1 (by rw [tqn1.2]; rfl)) (fun b hb => xl5.ty (rgf2 b hb)) (show ∀ i : Nat, (i : Int) < iv (sk 23) 2 → el rvh5 (sk 23) i = el rv (sk 23) i from (fun i hi => el_ch hW (tysk23 hS) rfl rfl ((show ∀ bb, ty L cl bb 23 → rvh5 bb 1 = rv bb 1 from fun bb tbb => by have tb1 := xl5.ty tbb; exact (Eq.trans (show rvh5 bb 1 = rvn1 bb 1 from (fl5.r tb1 rfl 1)) (show rvn1 bb 1 = rv bb 1 from (by rw [hrn1]; exact congrFun (up0_a (ne_in tbb.1 hqn1)) _)))) (sk 23) (tysk23 hS)) (fun bb tbb kk => by have tb1 := xl5.ty tbb; exact (Eq.trans (show rvh5 bb kk = rvn1 bb kk from (fl5.r tb1 rfl kk)) (show rvn1 bb kk = rv bb kk from (by rw [hrn1]; exact congrFun (up0_a (ne_in tbb.1 hqn1)) _)))) hi)) (show 0 ≤ ivh5 (sk 23) 2 ∧ ivh5 (sk 23) 2 ≤ 512 from W7.int ty26 2) (show ivh5 (sk 23) 2 = ivn1 (sk 23) 2 from fl5.i ty25 rfl 2) (show ivn1 (sk 23) 2 = iv (sk 23) 2 from by rw [hin1]; exact congrFun (up0_a (ne_in tsk23.1 hqn1)) _) (fun X2 sk2 mr4 on1 ce1 ri20 ie10 ie11 => ?_)
              refine hv2 (fun b hb => ty_rt (on1 b hb) hcr1 (ne_ty (on1 b hb) tqn1 (by decide))) (Phi.le W7 sk2) (fun on2 pl2 => ?_)
              refine d_callV (As := [.ref qn1]) (rest := []) C hM (C_remember (a0 := (sk 13)) (a1 := qn1) W7 sk2 ty14 tqr1  (by show ivh5 (sk 23) 2 < 512; omega)) dX11_changeIndicator_88 kV_X11_152 rfl ty14 rfl rfl (by decide) ck_11 rfl (Nat.le_of_ble_eq_true rfl) ⟨(Nat.le_of_ble_eq_true rfl), (Nat.le_of_ble_eq_true rfl)⟩ hph pl2 (show 20 + 1216 = 1236 from rfl) (by decide) (fun rh6 Lh6 clh6 lnh6 ivh6 rvh6 h6 => ?_)
              obtain ⟨rfl, xl7, fl6, W8, exf6, rmef6⟩ := h6
              refine hv5 (F3.call X2 fl6 rfl) (MRK.call mr4 W7 sk2 xl7 fl6 rfl rfl) (TX.rt tx1 hcr1 tqn1 rfl) (X2.trans xl7) (xl7.skl sk2) (fun F4 mr5 tx2 X3 sk3 => ?_)
              have kp4 := kp3.call tx2 W7 fl6 rfl
              refine c_st (st2 := []) rfl ?_
              refine hv2 (xl7.ty ty26) (show ivh6 (sk 23) 2 = ivh5 (sk 23) 2 + 1 from exf6) (fun ty29 gf6 => ?_)
              have ri21 : 0 ≤ ivh6 (sk 23) 2 ∧ ivh6 (sk 23) 2 ≤ 512 := W8.int ty29 2
              refine c_aload_n (j := 0) (x := ob1) C dX11_changeIndicator_91 rfl ?_
              refine hv2 (xl7.ty ty27) (show rvh5 ob1 6 = rvn1 ob1 6 from (fl5.r ty1 rfl 6)) (fun ty30 re2 => ?_)
              rw [re1] at re2
              have re3 : rvh6 ob1 6 = rvh5 ob1 6 := (fl6.r ty27 rfl 6)
              rw [re2] at re3
              refine c_getr (k := 6) C ck_10 dX11_changeIndicator_92 w2_196 (by decide) ty30 rfl rfl (by decide) rfl re3 ?_
              refine c_st (st2 := [.ref n6]) rfl ?_
              refine c_iload_n (j := 3) C dX11_changeIndicator_95 rfl ?_
              refine c_aload_n (j := 1) (x := a0) C dX11_changeIndicator_96 rfl ?_
              have ty31 := xl7.ty ty4
              obtain ⟨rb2, rq2, trb2⟩ := W8.ref ty31 0 rfl rfl rfl
              have erb2 := W8.sk trb2 (by decide) rfl
              subst erb2
              refine c_getr (k := 0) C ck_12 dX11_changeIndicator_97 w2_44 (by decide) ty31 rfl rfl (by decide) rfl rq2 ?_
              refine c_st (st2 := [.ref (sk 2), .int (iI j), .ref n6]) rfl ?_
              refine hv4 (xl7.ty ty6) (show ivh6 (sk 2) 2 = ivh5 (sk 2) 2 from fl6.i ty6 rfl 2) (show ivh5 (sk 2) 2 = ivn1 (sk 2) 2 from fl5.i ty5 rfl 2) (show ivn1 (sk 2) 2 = iv (sk 2) 2 from by rw [hin1]; exact congrFun (up0_a (ne_in tsk2.1 hqn1)) _) (fun ty32 ie13 ie14 ie15 => ?_)
              have ri22 : 0 ≤ ivh6 (sk 2) 2 ∧ ivh6 (sk 2) 2 ≤ 3000 := W8.int ty32 2
              refine c_get (k := 2) C ck_2 dX11_changeIndicator_100 w1_44 (by decide) ty32 rfl rfl (by decide) rfl ?_
              refine c_if_ne (tgt := 110) C (r32_c (lo := 0) (hi := 3000) ri22.1 ri22.2 (by decide) (by decide)) dX11_changeIndicator_103 (by decide) (fun c5 => ?_) (fun c5 => ?_)
              · have ty33 := xl7.ty ty8
                refine hv11 (xl7.ty ty10) (xl7.ty ty12) (xl7.ty ty14) (xl7.ty ty16) (xl7.ty ty18) (xl7.ty ty20) (xl7.ty ty22) (xl7.ty ty24) (xl7.ty ty28) (xl7.ty tqr1) (Phi.le W8 sk3) (fun ty34 ty35 ty36 ty37 ty38 ty39 ty40 ty41 ty42 ty43 pl3 => ?_)
                refine c_new C ck_6 dv_6 ⟨rfl, rfl⟩ rfl (by decide) dX11_changeIndicator_110 w3_125 w3_126 w1_21 (rom2 hph pl3 (by decide)) (fun qn2 cln2 lnn2 ivn2 rvn2 hqn2 hcn2 hln2 hin2 hrn2 => ⟨1256, (p_in (Phi.new W8 sk3 hqn2 (fun b _ => by rw [hln2]) hrn2) (by omega)), ?_⟩)
                refine c_g0 C (fun hg2 => ?_)
                refine hv5 (show ∀ b, b ≠ qn2 → lnn2 b = lnh6 b from (fun b _ => by rw [hln2])) (F4.new X3 hqn2 hin2 hrn2) (show ty (Lh6 ++ [qn2]) cln2 qn2 206 from ty_new hcn2) (TX.xt tx2 xl7) (show qn2 ∉ L from fun h => hqn2 ((X3 qn2 h).1)) (fun hxn2 F5 tqn2 tx3 h0qn2 => ?_)
                refine hv3 (W8.new (ln2 := lnn2) hqn2 (hg2 qn2 (List.mem_append_right _ List.mem_cons_self)) hcn2 hxn2 hin2 hrn2 (fun _ => ⟨(show (-2147483648 : Int) ≤ 0 by decide), (show (0 : Int) ≤ 2147483647 by decide)⟩) (Or.inl rfl) (fun q => by cases q) rfl rfl) (XT.new hqn2 hcn2 hxn2) (kp4.new tx3 W8 hqn2 hin2 hrn2) (fun W9 xl8 kp5 => ?_)
                refine hv3 (X3.trans xl8) (xl8.skl sk3) (MRK.call mr5 W8 sk3 xl8 ((fT.refl (ls := [])).new (XT.refl (ln := lnh6)) hqn2 hin2 hrn2) rfl rfl) (fun X4 sk4 mr6 => ?_)
                refine c_dup C dX11_changeIndicator_113 rfl ?_
                refine c_iload_n (j := 3) C dX11_changeIndicator_114 rfl ?_
                refine c_aload_n (j := 1) (x := a0) C dX11_changeIndicator_115 rfl ?_
                refine hv2 (xl8.ty ty31) (show rvn2 a0 0 = rvh6 a0 0 from (by rw [hrn2]; exact congrFun (up0_a (ne_in ty31.1 hqn2)) _)) (fun ty44 re4 => ?_)
                rw [rq2] at re4
                refine c_getr (k := 0) C ck_12 dX11_changeIndicator_116 w2_44 (by decide) ty44 rfl rfl (by decide) rfl re4 ?_
                refine c_st (st2 := [.ref (sk 2), .int (iI j), .ref qn2, .ref qn2, .int (iI j), .ref n6]) rfl ?_
                refine c_iconst C dX11_changeIndicator_119 ?_
                refine c_iconst C dX11_changeIndicator_120 ?_
                refine hv2 (xl8.ty ty32) (Phi.le W9 sk4) (fun ty45 pl4 => ?_)
                refine d_callV (As := [.int (iI 0), .int (iI 0)]) (rest := [.int (iI j), .ref qn2, .ref qn2, .int (iI j), .ref n6]) C hM (C_slice_65 (a0 := (sk 2)) (i := 0) (j := 0) W9 sk4 ty45 ⟨by decide, by decide⟩ ⟨by decide, by decide⟩ (by show 0 ≤ (0 : Int) ∧ (0 : Int) ≤ 3000 ∧ 0 ≤ (0 : Int) - (0 : Int) ∧ (0 : Int) - (0 : Int) ≤ 8; omega)) dX11_changeIndicator_121 kV_X11_190 rfl ty45 rfl rfl (by decide) ck_2 rfl (Nat.le_of_ble_eq_true rfl) ⟨(Nat.le_of_ble_eq_true rfl), (Nat.le_of_ble_eq_true rfl)⟩ hph pl4 (show 1256 + 24 = 1280 from rfl) (by decide) (fun rh7 Lh7 clh7 lnh7 ivh7 rvh7 h7 => ?_)
                obtain ⟨f7, rfl, xl9, fl7, W10, rgf7, exf7, slnf7⟩ := h7
                refine hv18 (F5.call X4 fl7 rfl) (MRK.call mr6 W9 sk4 xl9 fl7 rfl rfl) (TX.xt tx3 xl8) (xl8.ty ty33) (xl8.ty ty34) (xl8.ty ty35) (xl8.ty ty36) (xl8.ty ty37) (xl8.ty ty38) (xl8.ty ty39) (xl8.ty ty40) (xl8.ty ty41) (xl8.ty ty29) (xl8.ty ty30) (xl8.ty ty42) (xl8.ty ty43) (X4.trans xl9) (xl9.skl sk4) (fun F6 mr7 tx4 ty46 ty47 ty48 ty49 ty50 ty51 ty52 ty53 ty54 ty55 ty56 ty57 ty58 X5 sk5 => ?_)
                have kp6 := kp5.trans tx4 (KP.sl W9 fl7 (by decide) slnf7.2.1)
                refine c_st (st2 := [.ref f7, .int (iI j), .ref qn2, .ref qn2, .int (iI j), .ref n6]) rfl ?_
                have gf7 : lnh7 f7 = ((0 : Int) - (0 : Int)).toNat := exf7
                refine c_aload_n (j := 1) (x := a0) C dX11_changeIndicator_124 rfl ?_
                refine hv2 (xl9.ty ty44) (show rvh7 a0 0 = rvn2 a0 0 from (fl7.r ty44 rfl 0)) (fun ty59 re5 => ?_)
                rw [re4] at re5
                refine c_getr (k := 0) C ck_12 dX11_changeIndicator_125 w2_44 (by decide) ty59 rfl rfl (by decide) rfl re5 ?_
                refine c_st (st2 := [.ref (sk 2), .ref f7, .int (iI j), .ref qn2, .ref qn2, .int (iI j), .ref n6]) rfl ?_
                refine c_iconst C dX11_changeIndicator_128 ?_
                refine c_aload_n (j := 1) (x := a0) C dX11_changeIndicator_129 rfl ?_
                refine c_getr (k := 0) C ck_12 dX11_changeIndicator_130 w2_44 (by decide) ty59 rfl rfl (by decide) rfl re5 ?_
                refine c_st (st2 := [.ref (sk 2), .int (iI 0), .ref (sk 2), .ref f7, .int (iI j), .ref qn2, .ref qn2, .int (iI j), .ref n6]) rfl ?_
                refine hv3 (xl9.ty ty45) (show ivh7 (sk 2) 2 = ivn2 (sk 2) 2 from fl7.i ty45 rfl 2) (show ivn2 (sk 2) 2 = ivh6 (sk 2) 2 from by rw [hin2]; exact congrFun (up0_a (ne_in ty32.1 hqn2)) _) (fun ty60 ie16 ie17 => ?_)
                have ri23 : 0 ≤ ivh7 (sk 2) 2 ∧ ivh7 (sk 2) 2 ≤ 3000 := W10.int ty60 2
                refine c_get (k := 2) C ck_2 dX11_changeIndicator_133 w1_44 (by decide) ty60 rfl rfl (by decide) rfl ?_
                have pl5 := Phi.le W10 sk5
                refine d_callV (As := [.int (iI 0), .int (iI (ivh7 (sk 2) 2))]) (rest := [.ref f7, .int (iI j), .ref qn2, .ref qn2, .int (iI j), .ref n6]) C hM (C_slice_66 (a0 := (sk 2)) (i := 0) (j := ivh7 (sk 2) 2) W10 sk5 ty60 ⟨by decide, by decide⟩ (by omega) (by show 0 ≤ (0 : Int) ∧ (0 : Int) ≤ 3000 ∧ 1 ≤ (ivh7 (sk 2) 2) - (0 : Int) ∧ (ivh7 (sk 2) 2) - (0 : Int) ≤ 4; omega)) dX11_changeIndicator_136 kV_X11_190 rfl ty60 rfl rfl (by decide) ck_2 rfl (Nat.le_of_ble_eq_true rfl) ⟨(Nat.le_of_ble_eq_true rfl), (Nat.le_of_ble_eq_true rfl)⟩ hph pl5 (show 1280 + 20 = 1300 from rfl) (by decide) (fun rh8 Lh8 clh8 lnh8 ivh8 rvh8 h8 => ?_)
                obtain ⟨f8, rfl, xl10, fl8, W11, rgf8, exf8, slnf8⟩ := h8
                refine hv19 (F6.call X5 fl8 rfl) (MRK.call mr7 W10 sk5 xl10 fl8 rfl rfl) (TX.xt tx4 xl9) (xl9.ty ty46) (xl9.ty ty47) (xl9.ty ty48) (xl9.ty ty49) (xl9.ty ty50) (xl9.ty ty51) (xl9.ty ty52) (xl9.ty ty53) (xl9.ty ty54) (xl9.ty ty55) (xl9.ty ty56) (xl9.ty ty57) (xl9.ty ty58) (xl9.ty tqn2) (X5.trans xl10) (xl10.skl sk5) (fun F7 mr8 tx5 ty61 ty62 ty63 ty64 ty65 ty66 ty67 ty68 ty69 ty70 ty71 ty72 ty73 ty74 X6 sk6 => ?_)
                have kp7 := kp6.trans tx5 (KP.sl W10 fl8 (by decide) slnf8.2.1)
                refine c_st (st2 := [.ref f8, .ref f7, .int (iI j), .ref qn2, .ref qn2, .int (iI j), .ref n6]) rfl ?_
                refine hv4 (show lnh8 f8 = ((ivh7 (sk 2) 2) - (0 : Int)).toNat from exf8) (xl10.ty ty74) (xl10.ty rgf7) (Phi.le W11 sk6) (fun gf8 ty75 ty76 pl6 => ?_)
                refine c_callI (As := [.int (iI j), .ref f7, .ref f8]) (rest := [.ref qn2, .int (iI j), .ref n6]) C hM (Z_row (a0 := qn2) (i := j) (a2 := f7) (a3 := f8) W11 sk6 ty75 ty76 rgf8 (by omega) ) dX11_changeIndicator_139 kI_X11_194 rfl rfl (Nat.le_of_ble_eq_true rfl) ⟨(Nat.le_of_ble_eq_true rfl), (Nat.le_of_ble_eq_true rfl)⟩ (rz1 hph pl6 (by decide)) (fun rh9 Lh9 clh9 lnh9 ivh9 rvh9 h9 => ⟨1300, (zk1 (by obtain ⟨_, _, _, e3, flh9x, Wh9x, _⟩ := h9; subst e3; exact Phi.frn sk6 flh9x rfl)), ?_⟩)
                obtain ⟨rfl, rfl, rfl, rfl, fl9, W12, exf9⟩ := h9
                refine hv3 (F7.call X6 fl9 rfl) (MRK.call mr8 W11 sk6 XT.refl fl9 rfl rfl) (TX.xt tx5 xl10) (fun F8 mr9 tx6 => ?_)
                have kp8 := kp7.call tx6 W11 fl9 rfl
                refine c_st (st2 := [.ref qn2, .int (iI j), .ref n6]) rfl ?_
                obtain ⟨exf9x, exf9r, exf9p, exf9i, exf9j⟩ := exf9
                have rn2 : ∀ k, ([1, 2] : List Nat).contains k = false → rvh9 qn2 k = none := fun k hk => (Eq.trans (show rvh9 qn2 k = rvh8 qn2 k from (exf9x k hk)) (Eq.trans (show rvh8 qn2 k = rvh7 qn2 k from (fl8.r ty74 rfl k)) (Eq.trans (show rvh7 qn2 k = rvn2 qn2 k from (fl7.r tqn2 rfl k)) (show rvn2 qn2 k = none from (by rw [hrn2]; exact up0_s)))))
                refine c_retag (q := qn2) (t := 20) (by rw [ty75.2]; rfl) (fun clr2 hcr2 => ?_)
                refine hv18 (xl10.ty ty59) (xl10.ty ty60) (xl10.ty ty61) (xl10.ty ty62) (xl10.ty ty63) (xl10.ty ty64) (xl10.ty ty65) (xl10.ty ty66) (xl10.ty ty67) (xl10.ty ty68) (xl10.ty ty69) (xl10.ty ty70) (xl10.ty ty71) (xl10.ty ty72) (xl10.ty ty73) (ty_rt ty76 hcr2 (ne_ty ty76 ty75 (by decide))) (ty_rt rgf8 hcr2 (ne_ty rgf8 ty75 (by decide))) (show ty Lh8 clr2 qn2 20 from ⟨ty75.1, by rw [hcr2, va_up_self]; rfl⟩) (fun ty77 ty79 ty81 ty83 ty85 ty87 ty89 ty91 ty93 ty95 ty97 ty99 ty101 ty103 ty105 ty107 ty108 tqr2 => ?_)
                refine hv15 (ty_rt ty77 hcr2 (ne_ty ty77 ty75 (by decide))) (ty_rt ty79 hcr2 (ne_ty ty79 ty75 (by decide))) (ty_rt ty81 hcr2 (ne_ty ty81 ty75 (by decide))) (ty_rt ty83 hcr2 (ne_ty ty83 ty75 (by decide))) (ty_rt ty85 hcr2 (ne_ty ty85 ty75 (by decide))) (ty_rt ty87 hcr2 (ne_ty ty87 ty75 (by decide))) (ty_rt ty89 hcr2 (ne_ty ty89 ty75 (by decide))) (ty_rt ty91 hcr2 (ne_ty ty91 ty75 (by decide))) (ty_rt ty93 hcr2 (ne_ty ty93 ty75 (by decide))) (ty_rt ty95 hcr2 (ne_ty ty95 ty75 (by decide))) (ty_rt ty97 hcr2 (ne_ty ty97 ty75 (by decide))) (ty_rt ty99 hcr2 (ne_ty ty99 ty75 (by decide))) (ty_rt ty101 hcr2 (ne_ty ty101 ty75 (by decide))) (ty_rt ty103 hcr2 (ne_ty ty103 ty75 (by decide))) (ty_rt ty105 hcr2 (ne_ty ty105 ty75 (by decide))) (fun ty78 ty80 ty82 ty84 ty86 ty88 ty90 ty92 ty94 ty96 ty98 ty100 ty102 ty104 ty106 => ?_)
                have W13 := W12.retag ty75.1 (by rw [ty75.2]; rfl) hcr2 (fun k => by
                      rcases k with _ | _ | _ | _ | k
                      · exact W12.int ty75 0
                      · exact W12.int ty75 1
                      · exact W12.int ty75 2
                      · exact ⟨(by show 0 ≤ ivh9 qn2 3; first | exact bx_lo ‹ivh9 qn2 3 = _› (by decide) | omega), (by show ivh9 qn2 3 ≤ 5; first | exact bx_hi ‹ivh9 qn2 3 = _› (by decide) | omega)⟩
                      · exact W12.int ty75 (k + 4)) (fun k => by
                      rcases k with _ | _ | _ | _ | k
                      · rw [rn2 0 (by decide)]; exact rok_none tqr2 rfl
                      · rw [exf9r]; exact rok_some tqr2 ty107 rfl (by decide) rfl
                      · rw [exf9p]; exact rok_some tqr2 ty108 rfl (by decide) rfl
                      · rw [rn2 3 (by decide)]; exact rok_none tqr2 rfl
                      · rw [rn2 (k + 4) (by simp)]; exact rok_none tqr2 rfl) rfl (fun z => by cases z) (fun z => by cases z) rfl
                refine hv5 (X6.rt hcr2 h0qn2) (sk6.rt hcr2 (by rw [ty75.2]; rfl)) (MRK.rt mr9 W12 sk6 hcr2 (by rw [ty75.2]; rfl)) (fun b hb => xl7.ty (on2 b hb)) (show 4 ≤ lnh8 n6 ∧ lnh8 n6 ≤ 4 from W13.len ty104 rfl) (fun X7 sk7 mr10 on3 ll2 => ?_)
                have on4 := fun b hb => xl8.ty (on3 b hb)
                have on5 := fun b hb => xl9.ty (on4 b hb)
                have on6 := fun b hb => xl10.ty (on5 b hb)
                have on7 := fun b hb => ty_rt (on6 b hb) hcr2 (ne_ty (on6 b hb) ty75 (by decide))
                refine c_aastR (z := j) C ck_6 dX11_changeIndicator_142 ty104 rfl tqr2 rfl rfl (by decide) (by omega) (by omega) (by omega) (fun rv1 pq1 => ⟨1300, (by rw [Phi.putr sk7 pq1 ty104 rfl]; exact Nat.le_refl _), ?_⟩)
                refine hv4 (W13.putr pq1 ty104 (rok_some ty104 tqr2 rfl (by decide) rfl) rfl (by decide)) (F8.putr X7 pq1 ty104 rfl) (MRK.putr mr10 W13 sk7 pq1 ty104 (by decide) (by decide)) (TX.rt tx6 hcr2 ty75 rfl) (fun W14 F9 mr11 tx7 => ?_)
                have kp9 := kp8.putrI tx7 W13 pq1 ty104 ⟨rfl, rfl⟩
                refine c_aload_n (j := 1) (x := a0) C dX11_changeIndicator_143 rfl ?_
                refine c_aload_n (j := 1) (x := a0) C dX11_changeIndicator_144 rfl ?_
                have re6 : rvh8 a0 0 = rvh7 a0 0 := (fl8.r ty59 rfl 0)
                rw [re5] at re6
                have re7 : rvh9 a0 0 = rvh8 a0 0 := (fl9.r ty77 rfl 0)
                rw [re6] at re7
                have re8 : rv1 a0 0 = rvh9 a0 0 := (by rw [pq1]; exact congrFun (upr_a (ne_ty ty78 ty104 (by decide))) _)
                rw [re7] at re8
                refine c_getr (k := 0) C ck_12 dX11_changeIndicator_145 w2_44 (by decide) ty78 rfl rfl (by decide) rfl re8 ?_
                refine c_st (st2 := [.ref (sk 2), .ref a0]) rfl ?_
                refine hv3 (show 0 ≤ ivh9 (sk 2) 2 ∧ ivh9 (sk 2) 2 ≤ 3000 from W14.int ty80 2) (show ivh9 (sk 2) 2 = ivh8 (sk 2) 2 from fl9.i ty79 rfl 2) (show ivh8 (sk 2) 2 = ivh7 (sk 2) 2 from fl8.i ty60 rfl 2) (fun ri24 ie18 ie19 => ?_)
                refine c_get (k := 2) C ck_2 dX11_changeIndicator_148 w1_44 (by decide) ty80 rfl rfl (by decide) rfl ?_
                have pl7 := Phi.le W14 sk7
                refine d_callV (As := [.int (iI (ivh9 (sk 2) 2))]) (rest := []) C hM (C_done (a0 := a0) (x := ivh9 (sk 2) 2) W14 sk7 ty78 (by omega) ) dX11_changeIndicator_151 kV_X11_109 rfl ty78 rfl rfl (by decide) ck_12 rfl (Nat.le_of_ble_eq_true rfl) ⟨(Nat.le_of_ble_eq_true rfl), (Nat.le_of_ble_eq_true rfl)⟩ hph pl7 (show 1300 + 0 = 1300 from rfl) (by decide) (fun rh10 Lh10 clh10 lnh10 ivh10 rvh10 h10 => ?_)
                obtain ⟨f10, rfl, rfl, rfl, rfl, rfl, fl10, W15, rgf10, exf10, kp11f10, kp12f10, kp13f10, kp14f10, kp15f10, kp16f10⟩ := h10
                refine hv40 (show 1 ≤ ivh9 a0 11 ∧ ivh9 a0 11 ≤ 100 from W14.int ty78 11) (show ivh9 a0 11 = ivh8 a0 11 from fl9.i ty77 rfl 11) (show ivh8 a0 11 = ivh7 a0 11 from fl8.i ty59 rfl 11) (show ivh7 a0 11 = ivn2 a0 11 from fl7.i ty44 rfl 11) (show ivn2 a0 11 = ivh6 a0 11 from by rw [hin2]; exact congrFun (up0_a (ne_in ty31.1 hqn2)) _) (show ivh6 a0 11 = ivh5 a0 11 from fl6.i ty4 rfl 11) (show ivh5 a0 11 = ivn1 a0 11 from fl5.i ty3 rfl 11) (show ivn1 a0 11 = iv a0 11 from by rw [hin1]; exact congrFun (up0_a (ne_in t_a0.1 hqn1)) _) (show 1 ≤ ivh9 a0 12 ∧ ivh9 a0 12 ≤ 50 from W14.int ty78 12) (show ivh9 a0 12 = ivh8 a0 12 from fl9.i ty77 rfl 12) (show ivh8 a0 12 = ivh7 a0 12 from fl8.i ty59 rfl 12) (show ivh7 a0 12 = ivn2 a0 12 from fl7.i ty44 rfl 12) (show ivn2 a0 12 = ivh6 a0 12 from by rw [hin2]; exact congrFun (up0_a (ne_in ty31.1 hqn2)) _) (show ivh6 a0 12 = ivh5 a0 12 from fl6.i ty4 rfl 12) (show ivh5 a0 12 = ivn1 a0 12 from fl5.i ty3 rfl 12) (show ivn1 a0 12 = iv a0 12 from by rw [hin1]; exact congrFun (up0_a (ne_in t_a0.1 hqn1)) _) (show (-2147483648) ≤ ivh9 a0 13 ∧ ivh9 a0 13 ≤ 2147483647 from W14.int ty78 13) (show ivh9 a0 13 = ivh8 a0 13 from fl9.i ty77 rfl 13) (show ivh8 a0 13 = ivh7 a0 13 from fl8.i ty59 rfl 13) (show ivh7 a0 13 = ivn2 a0 13 from fl7.i ty44 rfl 13) (show ivn2 a0 13 = ivh6 a0 13 from by rw [hin2]; exact congrFun (up0_a (ne_in ty31.1 hqn2)) _) (show ivh6 a0 13 = ivh5 a0 13 from fl6.i ty4 rfl 13) (show ivh5 a0 13 = ivn1 a0 13 from fl5.i ty3 rfl 13) (show ivn1 a0 13 = iv a0 13 from by rw [hin1]; exact congrFun (up0_a (ne_in t_a0.1 hqn1)) _) (show (-2147483648) ≤ ivh9 a0 14 ∧ ivh9 a0 14 ≤ 2147483647 from W14.int ty78 14) (show ivh9 a0 14 = ivh8 a0 14 from fl9.i ty77 rfl 14) (show ivh8 a0 14 = ivh7 a0 14 from fl8.i ty59 rfl 14) (show ivh7 a0 14 = ivn2 a0 14 from fl7.i ty44 rfl 14) (show ivn2 a0 14 = ivh6 a0 14 from by rw [hin2]; exact congrFun (up0_a (ne_in ty31.1 hqn2)) _) (show ivh6 a0 14 = ivh5 a0 14 from fl6.i ty4 rfl 14) (show ivh5 a0 14 = ivn1 a0 14 from fl5.i ty3 rfl 14) (show ivn1 a0 14 = iv a0 14 from by rw [hin1]; exact congrFun (up0_a (ne_in t_a0.1 hqn1)) _) (show (-2147483648) ≤ ivh9 a0 15 ∧ ivh9 a0 15 ≤ 2147483647 from W14.int ty78 15) (show ivh9 a0 15 = ivh8 a0 15 from fl9.i ty77 rfl 15) (show ivh8 a0 15 = ivh7 a0 15 from fl8.i ty59 rfl 15) (show ivh7 a0 15 = ivn2 a0 15 from fl7.i ty44 rfl 15) (show ivn2 a0 15 = ivh6 a0 15 from by rw [hin2]; exact congrFun (up0_a (ne_in ty31.1 hqn2)) _) (show ivh6 a0 15 = ivh5 a0 15 from fl6.i ty4 rfl 15) (show ivh5 a0 15 = ivn1 a0 15 from fl5.i ty3 rfl 15) (show ivn1 a0 15 = iv a0 15 from by rw [hin1]; exact congrFun (up0_a (ne_in t_a0.1 hqn1)) _) (fun ri25 ie20 ie21 ie22 ie23 ie24 ie25 ie26 ri26 ie27 ie28 ie29 ie30 ie31 ie32 ie33 ri27 ie34 ie35 ie36 ie37 ie38 ie39 ie40 ri28 ie41 ie42 ie43 ie44 ie45 ie46 ie47 ri29 ie48 ie49 ie50 ie51 ie52 ie53 ie54 => ?_)
                refine hv11 (show (-2147483648) ≤ ivh9 a0 16 ∧ ivh9 a0 16 ≤ 2147483647 from W14.int ty78 16) (show ivh9 a0 16 = ivh8 a0 16 from fl9.i ty77 rfl 16) (show ivh8 a0 16 = ivh7 a0 16 from fl8.i ty59 rfl 16) (show ivh7 a0 16 = ivn2 a0 16 from fl7.i ty44 rfl 16) (show ivn2 a0 16 = ivh6 a0 16 from by rw [hin2]; exact congrFun (up0_a (ne_in ty31.1 hqn2)) _) (show ivh6 a0 16 = ivh5 a0 16 from fl6.i ty4 rfl 16) (show ivh5 a0 16 = ivn1 a0 16 from fl5.i ty3 rfl 16) (show ivn1 a0 16 = iv a0 16 from by rw [hin1]; exact congrFun (up0_a (ne_in t_a0.1 hqn1)) _) (F9.call X7 fl10 rfl) (MRK.call mr11 W14 sk7 XT.refl fl10 rfl rfl) (kp9.call tx7 W14 fl10 rfl) (fun ri30 ie55 ie56 ie57 ie58 ie59 ie60 ie61 F10 mr12 kp10 => ?_)
                refine c_st (st2 := [.int (iI f10)]) rfl ?_
                refine hv38 (show ivh10 a0 11 = ivh9 a0 11 from kp11f10) (show ivh10 a0 12 = ivh9 a0 12 from kp12f10) (show ivh10 a0 13 = ivh9 a0 13 from kp13f10) (show ivh10 a0 14 = ivh9 a0 14 from kp14f10) (show ivh10 a0 15 = ivh9 a0 15 from kp15f10) (show ivh10 a0 16 = ivh9 a0 16 from kp16f10) (show f10 = (ivh9 (sk 2) 2) from exf10) (show 1 ≤ ivh10 a0 11 ∧ ivh10 a0 11 ≤ 100 from W15.int ty78 11) (show 1 ≤ ivh10 a0 12 ∧ ivh10 a0 12 ≤ 50 from W15.int ty78 12) (show (-2147483648) ≤ ivh10 a0 13 ∧ ivh10 a0 13 ≤ 2147483647 from W15.int ty78 13) (show (-2147483648) ≤ ivh10 a0 14 ∧ ivh10 a0 14 ≤ 2147483647 from W15.int ty78 14) (show (-2147483648) ≤ ivh10 a0 15 ∧ ivh10 a0 15 ≤ 2147483647 from W15.int ty78 15) (show (-2147483648) ≤ ivh10 a0 16 ∧ ivh10 a0 16 ≤ 2147483647 from W15.int ty78 16) (show 0 ≤ ivh10 (sk 23) 2 ∧ ivh10 (sk 23) 2 ≤ 512 from W15.int ty100 2) (show ivh10 (sk 23) 2 = ivh9 (sk 23) 2 from fl10.i ty100 rfl 2) (show ivh9 (sk 23) 2 = ivh8 (sk 23) 2 from fl9.i ty99 rfl 2) (show ivh8 (sk 23) 2 = ivh7 (sk 23) 2 from fl8.i ty70 rfl 2) (show ivh7 (sk 23) 2 = ivn2 (sk 23) 2 from fl7.i ty55 rfl 2) (show ivn2 (sk 23) 2 = ivh6 (sk 23) 2 from by rw [hin2]; exact congrFun (up0_a (ne_in ty29.1 hqn2)) _) (show 0 ≤ ivh10 (sk 22) 2 ∧ ivh10 (sk 22) 2 ≤ 30 from W15.int ty98 2) (show ivh10 (sk 22) 2 = ivh9 (sk 22) 2 from fl10.i ty98 rfl 2) (show ivh9 (sk 22) 2 = ivh8 (sk 22) 2 from fl9.i ty97 rfl 2) (show ivh8 (sk 22) 2 = ivh7 (sk 22) 2 from fl8.i ty69 rfl 2) (show ivh7 (sk 22) 2 = ivn2 (sk 22) 2 from fl7.i ty54 rfl 2) (show ivn2 (sk 22) 2 = ivh6 (sk 22) 2 from by rw [hin2]; exact congrFun (up0_a (ne_in ty41.1 hqn2)) _) (show ivh6 (sk 22) 2 = ivh5 (sk 22) 2 from fl6.i ty24 rfl 2) (show ivh5 (sk 22) 2 = ivn1 (sk 22) 2 from fl5.i ty23 rfl 2) (show ivn1 (sk 22) 2 = iv (sk 22) 2 from by rw [hin1]; exact congrFun (up0_a (ne_in tsk22.1 hqn1)) _) (show 0 ≤ ivh10 (sk 2) 2 ∧ ivh10 (sk 2) 2 ≤ 3000 from W15.int ty80 2) (show ivh10 (sk 2) 2 = ivh9 (sk 2) 2 from fl10.i ty80 rfl 2) (show (-2147483648) ≤ ivh10 qn1 0 ∧ ivh10 qn1 0 ≤ 2147483647 from W15.int ty106 0) (show ivh10 qn1 0 = ivh9 qn1 0 from fl10.i ty106 rfl 0) (show ivh9 qn1 0 = ivh8 qn1 0 from fl9.i ty105 rfl 0) (show ivh8 qn1 0 = ivh7 qn1 0 from fl8.i ty73 rfl 0) (show ivh7 qn1 0 = ivn2 qn1 0 from fl7.i ty58 rfl 0) (show ivn2 qn1 0 = ivh6 qn1 0 from by rw [hin2]; exact congrFun (up0_a (ne_in ty43.1 hqn2)) _) (show ivh6 qn1 0 = ivh5 qn1 0 from fl6.i tqr1 rfl 0) (show rvh6 qn1 1 = rvh5 qn1 1 from (fl6.r tqr1 rfl 1)) (fun gk11f10 gk12f10 gk13f10 gk14f10 gk15f10 gk16f10 gf10 ri31 ri32 ri33 ri34 ri35 ri36 ri37 ie68 ie69 ie70 ie71 ie72 ri38 ie73 ie74 ie75 ie76 ie77 ie78 ie79 ie80 ri39 ie81 ri40 ie82 ie83 ie84 ie85 ie86 ie87 re9 => ?_)
                rw [exf5r] at re9
                have re10 : rvn2 qn1 1 = rvh6 qn1 1 := (by rw [hrn2]; exact congrFun (up0_a (ne_in ty43.1 hqn2)) _)
                rw [re9] at re10
                have re11 : rvh7 qn1 1 = rvn2 qn1 1 := (fl7.r ty58 rfl 1)
                rw [re10] at re11
                have re12 : rvh8 qn1 1 = rvh7 qn1 1 := (fl8.r ty73 rfl 1)
                rw [re11] at re12
                have re13 : rvh9 qn1 1 = rvh8 qn1 1 := (fl9.r ty105 rfl 1)
                rw [re12] at re13
                have re14 : rv1 qn1 1 = rvh9 qn1 1 := (by rw [pq1]; exact congrFun (upr_a (ne_ty ty106 ty104 (by decide))) _)
                rw [re13] at re14
                have re15 : rvh6 qn1 2 = rvh5 qn1 2 := (fl6.r tqr1 rfl 2)
                rw [exf5p] at re15
                have re16 : rvn2 qn1 2 = rvh6 qn1 2 := (by rw [hrn2]; exact congrFun (up0_a (ne_in ty43.1 hqn2)) _)
                rw [re15] at re16
                have re17 : rvh7 qn1 2 = rvn2 qn1 2 := (fl7.r ty58 rfl 2)
                rw [re16] at re17
                have re18 : rvh8 qn1 2 = rvh7 qn1 2 := (fl8.r ty73 rfl 2)
                rw [re17] at re18
                have re19 : rvh9 qn1 2 = rvh8 qn1 2 := (fl9.r ty105 rfl 2)
                rw [re18] at re19
                have re20 : rv1 qn1 2 = rvh9 qn1 2 := (by rw [pq1]; exact congrFun (upr_a (ne_ty ty106 ty104 (by decide))) _)
                rw [re19] at re20
                refine hv11 (show 0 ≤ ivh10 qn1 3 ∧ ivh10 qn1 3 ≤ 5 from W15.int ty106 3) (show ivh10 qn1 3 = ivh9 qn1 3 from fl10.i ty106 rfl 3) (show ivh9 qn1 3 = ivh8 qn1 3 from fl9.i ty105 rfl 3) (show ivh8 qn1 3 = ivh7 qn1 3 from fl8.i ty73 rfl 3) (show ivh7 qn1 3 = ivn2 qn1 3 from fl7.i ty58 rfl 3) (show ivn2 qn1 3 = ivh6 qn1 3 from by rw [hin2]; exact congrFun (up0_a (ne_in ty43.1 hqn2)) _) (show ivh6 qn1 3 = ivh5 qn1 3 from fl6.i tqr1 rfl 3) (show rv1 n6 j.toNat = (some qn2) from by rw [pq1]; exact upr_s) (show (-2147483648) ≤ ivh10 qn2 0 ∧ ivh10 qn2 0 ≤ 2147483647 from W15.int tqr2 0) (show ivh10 qn2 0 = ivh9 qn2 0 from fl10.i tqr2 rfl 0) (show rv1 qn2 1 = rvh9 qn2 1 from (by rw [pq1]; exact congrFun (upr_a (ne_ty tqr2 ty104 (by decide))) _)) (fun ri41 ie88 ie89 ie90 ie91 ie92 ie93 rp1 ri42 ie94 re21 => ?_)
                rw [exf9r] at re21
                refine hv2 (show lnh8 f7 = lnh7 f7 from (xl10 f7 rgf7.1).2.2) (show rv1 qn2 2 = rvh9 qn2 2 from (by rw [pq1]; exact congrFun (upr_a (ne_ty tqr2 ty104 (by decide))) _)) (fun le1 re22 => ?_)
                rw [exf9p] at re22
                exact c_iret C dX11_changeIndicator_154 rfl (by decide) (rom0 hph pl7 (by decide)) ⟨f10, rfl, X7, F10, W15, ⟨by omega, by omega⟩, ⟨(by omega), mr12⟩, (gk11f10.trans (ie20.trans (ie21.trans (ie22.trans (ie23.trans (ie24.trans (ie25.trans ie26))))))), (gk12f10.trans (ie27.trans (ie28.trans (ie29.trans (ie30.trans (ie31.trans (ie32.trans ie33))))))), (gk13f10.trans (ie34.trans (ie35.trans (ie36.trans (ie37.trans (ie38.trans (ie39.trans ie40))))))), (gk14f10.trans (ie41.trans (ie42.trans (ie43.trans (ie44.trans (ie45.trans (ie46.trans ie47))))))), (gk15f10.trans (ie48.trans (ie49.trans (ie50.trans (ie51.trans (ie52.trans (ie53.trans ie54))))))), (gk16f10.trans (ie55.trans (ie56.trans (ie57.trans (ie58.trans (ie59.trans (ie60.trans ie61))))))), (Or.inr ⟨by omega, ob1, akob1.2, (fun ss hs hd => by
                    have e2 := irxf4 ss hs (by omega) hd
                    have e3 := e2.mp (by omega)
                    rw [Int.sub_zero] at e3
                    exact ⟨⟨by omega, by omega, gf3.mp (by omega), by omega⟩, e3.2⟩), by omega, ⟨(fun i hi => el_fr hW (tysk22 hS) rfl rfl F10 rfl rfl hi), TSF.of hW hS (fun bb tbb hbb => by have tb1 := xl5.ty tbb; have tb2 := ty_rt tb1 hcr1 (ne_ty tb1 tqn1 (by decide)); have tb3 := xl7.ty tb2; have tb4 := xl8.ty tb3; have tb5 := xl9.ty tb4; have tb6 := xl10.ty tb5; have tb7 := ty_rt tb6 hcr2 (ne_ty tb6 ty75 (by decide)); exact (Eq.trans (show ivh10 bb 7 = ivh9 bb 7 from (fl10.i tb7 rfl 7)) (Eq.trans (show ivh9 bb 7 = ivh8 bb 7 from (fl9.i tb6 rfl 7)) (Eq.trans (show ivh8 bb 7 = ivh7 bb 7 from (fl8.i tb5 rfl 7)) (Eq.trans (show ivh7 bb 7 = ivn2 bb 7 from (fl7.i tb4 rfl 7)) (Eq.trans (show ivn2 bb 7 = ivh6 bb 7 from (by rw [hin2]; exact congrFun (up0_a (ne_in tb3.1 hqn2)) _)) (Eq.trans (show ivh6 bb 7 = ivh5 bb 7 from (fl6.i tb2 rfl 7)) (Eq.trans (show ivh5 bb 7 = ivn1 bb 7 from (fl5.i tb1 rfl 7)) (show ivn1 bb 7 = iv bb 7 from (by rw [hin1]; exact congrFun (up0_a (ne_in tbb.1 hqn1)) _)))))))))) (fun bb tbb => by have tb1 := xl5.ty tbb; have tb2 := ty_rt tb1 hcr1 (ne_ty tb1 tqn1 (by decide)); have tb3 := xl7.ty tb2; have tb4 := xl8.ty tb3; have tb5 := xl9.ty tb4; have tb6 := xl10.ty tb5; have tb7 := ty_rt tb6 hcr2 (ne_ty tb6 ty75 (by decide)); exact (Eq.trans (show ivh10 bb 0 = ivh9 bb 0 from (fl10.i tb7 rfl 0)) (Eq.trans (show ivh9 bb 0 = ivh8 bb 0 from (fl9.i tb6 rfl 0)) (Eq.trans (show ivh8 bb 0 = ivh7 bb 0 from (fl8.i tb5 rfl 0)) (Eq.trans (show ivh7 bb 0 = ivn2 bb 0 from (fl7.i tb4 rfl 0)) (Eq.trans (show ivn2 bb 0 = ivh6 bb 0 from (by rw [hin2]; exact congrFun (up0_a (ne_in tb3.1 hqn2)) _)) (Eq.trans (show ivh6 bb 0 = ivh5 bb 0 from (fl6.i tb2 rfl 0)) (Eq.trans (show ivh5 bb 0 = ivn1 bb 0 from (fl5.i tb1 rfl 0)) (show ivn1 bb 0 = iv bb 0 from (by rw [hin1]; exact congrFun (up0_a (ne_in tbb.1 hqn1)) _)))))))))) (fun bb tbb => by have tb1 := xl5.ty tbb; have tb2 := ty_rt tb1 hcr1 (ne_ty tb1 tqn1 (by decide)); have tb3 := xl7.ty tb2; have tb4 := xl8.ty tb3; have tb5 := xl9.ty tb4; have tb6 := xl10.ty tb5; have tb7 := ty_rt tb6 hcr2 (ne_ty tb6 ty75 (by decide)); exact (Eq.trans (show ivh10 bb 1 = ivh9 bb 1 from (fl10.i tb7 rfl 1)) (Eq.trans (show ivh9 bb 1 = ivh8 bb 1 from (fl9.i tb6 rfl 1)) (Eq.trans (show ivh8 bb 1 = ivh7 bb 1 from (fl8.i tb5 rfl 1)) (Eq.trans (show ivh7 bb 1 = ivn2 bb 1 from (fl7.i tb4 rfl 1)) (Eq.trans (show ivn2 bb 1 = ivh6 bb 1 from (by rw [hin2]; exact congrFun (up0_a (ne_in tb3.1 hqn2)) _)) (Eq.trans (show ivh6 bb 1 = ivh5 bb 1 from (fl6.i tb2 rfl 1)) (Eq.trans (show ivh5 bb 1 = ivn1 bb 1 from (fl5.i tb1 rfl 1)) (show ivn1 bb 1 = iv bb 1 from (by rw [hin1]; exact congrFun (up0_a (ne_in tbb.1 hqn1)) _)))))))))) (fun bb tbb => by have tb1 := xl5.ty tbb; have tb2 := ty_rt tb1 hcr1 (ne_ty tb1 tqn1 (by decide)); have tb3 := xl7.ty tb2; have tb4 := xl8.ty tb3; have tb5 := xl9.ty tb4; have tb6 := xl10.ty tb5; have tb7 := ty_rt tb6 hcr2 (ne_ty tb6 ty75 (by decide)); exact (Eq.trans (show rv1 bb 4 = rvh9 bb 4 from (by rw [pq1]; exact congrFun (upr_a (ne_ty tb7 ty104 (by decide))) _)) (Eq.trans (show rvh9 bb 4 = rvh8 bb 4 from (fl9.r tb6 rfl 4)) (Eq.trans (show rvh8 bb 4 = rvh7 bb 4 from (fl8.r tb5 rfl 4)) (Eq.trans (show rvh7 bb 4 = rvn2 bb 4 from (fl7.r tb4 rfl 4)) (Eq.trans (show rvn2 bb 4 = rvh6 bb 4 from (by rw [hrn2]; exact congrFun (up0_a (ne_in tb3.1 hqn2)) _)) (Eq.trans (show rvh6 bb 4 = rvh5 bb 4 from (fl6.r tb2 rfl 4)) (Eq.trans (show rvh5 bb 4 = rvn1 bb 4 from (fl5.r tb1 rfl 4)) (show rvn1 bb 4 = rv bb 4 from (by rw [hrn1]; exact congrFun (up0_a (ne_in tbb.1 hqn1)) _)))))))))), TSQ.of hW hS (fun bb tbb hbb => by have tb1 := xl5.ty tbb; have tb2 := ty_rt tb1 hcr1 (ne_ty tb1 tqn1 (by decide)); have tb3 := xl7.ty tb2; have tb4 := xl8.ty tb3; have tb5 := xl9.ty tb4; have tb6 := xl10.ty tb5; have tb7 := ty_rt tb6 hcr2 (ne_ty tb6 ty75 (by decide)); exact (Eq.trans (show ivh10 bb 2 = ivh9 bb 2 from (fl10.i tb7 rfl 2)) (Eq.trans (show ivh9 bb 2 = ivh8 bb 2 from (fl9.i tb6 rfl 2)) (Eq.trans (show ivh8 bb 2 = ivh7 bb 2 from (fl8.i tb5 rfl 2)) (Eq.trans (show ivh7 bb 2 = ivn2 bb 2 from (fl7.i tb4 rfl 2)) (Eq.trans (show ivn2 bb 2 = ivh6 bb 2 from (by rw [hin2]; exact congrFun (up0_a (ne_in tb3.1 hqn2)) _)) (Eq.trans (show ivh6 bb 2 = ivh5 bb 2 from (fl6.i tb2 rfl 2)) (Eq.trans (show ivh5 bb 2 = ivn1 bb 2 from (fl5.i tb1 rfl 2)) (show ivn1 bb 2 = iv bb 2 from (by rw [hin1]; exact congrFun (up0_a (ne_in tbb.1 hqn1)) _))))))))))⟩, ⟨(by omega), CS0.of hW hS (Int.le_refl _) (fun i hi => ((fun i hi => el_ch W8 (tysk23 sk3) rfl rfl ((show ∀ bb, ty Lh6 clh6 bb 23 → rv1 bb 1 = rvh6 bb 1 from fun bb tbb => by have tb4 := xl8.ty tbb; have tb5 := xl9.ty tb4; have tb6 := xl10.ty tb5; have tb7 := ty_rt tb6 hcr2 (ne_ty tb6 ty75 (by decide)); exact (Eq.trans (show rv1 bb 1 = rvh9 bb 1 from (by rw [pq1]; exact congrFun (upr_a (ne_ty tb7 ty104 (by decide))) _)) (Eq.trans (show rvh9 bb 1 = rvh8 bb 1 from (fl9.r tb6 rfl 1)) (Eq.trans (show rvh8 bb 1 = rvh7 bb 1 from (fl8.r tb5 rfl 1)) (Eq.trans (show rvh7 bb 1 = rvn2 bb 1 from (fl7.r tb4 rfl 1)) (show rvn2 bb 1 = rvh6 bb 1 from (by rw [hrn2]; exact congrFun (up0_a (ne_in tbb.1 hqn2)) _))))))) (sk 23) (tysk23 sk3)) (fun bb tbb kk => by have tb4 := xl8.ty tbb; have tb5 := xl9.ty tb4; have tb6 := xl10.ty tb5; have tb7 := ty_rt tb6 hcr2 (ne_ty tb6 ty75 (by decide)); exact (Eq.trans (show rv1 bb kk = rvh9 bb kk from (by rw [pq1]; exact congrFun (upr_a (ne_ty tb7 ty104 (by decide))) _)) (Eq.trans (show rvh9 bb kk = rvh8 bb kk from (fl9.r tb6 rfl kk)) (Eq.trans (show rvh8 bb kk = rvh7 bb kk from (fl8.r tb5 rfl kk)) (Eq.trans (show rvh7 bb kk = rvn2 bb kk from (fl7.r tb4 rfl kk)) (show rvn2 bb kk = rvh6 bb kk from (by rw [hrn2]; exact congrFun (up0_a (ne_in tbb.1 hqn2)) _))))))) hi) i (by omega)).trans ((rmef6.2 i (by omega)).trans (ce1 i hi))) (fun bb tbb => by have tb1 := xl5.ty tbb; have tb2 := ty_rt tb1 hcr1 (ne_ty tb1 tqn1 (by decide)); have tb3 := xl7.ty tb2; have tb4 := xl8.ty tb3; have tb5 := xl9.ty tb4; have tb6 := xl10.ty tb5; have tb7 := ty_rt tb6 hcr2 (ne_ty tb6 ty75 (by decide)); exact (Eq.trans (show ivh10 bb 0 = ivh9 bb 0 from (fl10.i tb7 rfl 0)) (Eq.trans (show ivh9 bb 0 = ivh8 bb 0 from (fl9.i tb6 rfl 0)) (Eq.trans (show ivh8 bb 0 = ivh7 bb 0 from (fl8.i tb5 rfl 0)) (Eq.trans (show ivh7 bb 0 = ivn2 bb 0 from (fl7.i tb4 rfl 0)) (Eq.trans (show ivn2 bb 0 = ivh6 bb 0 from (by rw [hin2]; exact congrFun (up0_a (ne_in tb3.1 hqn2)) _)) (Eq.trans (show ivh6 bb 0 = ivh5 bb 0 from (fl6.i tb2 rfl 0)) (Eq.trans (show ivh5 bb 0 = ivn1 bb 0 from (fl5.i tb1 rfl 0)) (show ivn1 bb 0 = iv bb 0 from (by rw [hin1]; exact congrFun (up0_a (ne_in tbb.1 hqn1)) _)))))))))) (fun bb tbb => by have tb1 := xl5.ty tbb; have tb2 := ty_rt tb1 hcr1 (ne_ty tb1 tqn1 (by decide)); have tb3 := xl7.ty tb2; have tb4 := xl8.ty tb3; have tb5 := xl9.ty tb4; have tb6 := xl10.ty tb5; have tb7 := ty_rt tb6 hcr2 (ne_ty tb6 ty75 (by decide)); exact (Eq.trans (show rv1 bb 1 = rvh9 bb 1 from (by rw [pq1]; exact congrFun (upr_a (ne_ty tb7 ty104 (by decide))) _)) (Eq.trans (show rvh9 bb 1 = rvh8 bb 1 from (fl9.r tb6 rfl 1)) (Eq.trans (show rvh8 bb 1 = rvh7 bb 1 from (fl8.r tb5 rfl 1)) (Eq.trans (show rvh7 bb 1 = rvn2 bb 1 from (fl7.r tb4 rfl 1)) (Eq.trans (show rvn2 bb 1 = rvh6 bb 1 from (by rw [hrn2]; exact congrFun (up0_a (ne_in tb3.1 hqn2)) _)) (Eq.trans (show rvh6 bb 1 = rvh5 bb 1 from (fl6.r tb2 rfl 1)) (Eq.trans (show rvh5 bb 1 = rvn1 bb 1 from (fl5.r tb1 rfl 1)) (show rvn1 bb 1 = rv bb 1 from (by rw [hrn1]; exact congrFun (up0_a (ne_in tbb.1 hqn1)) _)))))))))), ⟨qn1, (by rw [show (iv (sk 23) 2).toNat = (ivh5 (sk 23) 2).toNat from congrArg Int.toNat (by omega)]; exact ((fun i hi => el_ch W8 (tysk23 sk3) rfl rfl ((show ∀ bb, ty Lh6 clh6 bb 23 → rv1 bb 1 = rvh6 bb 1 from fun bb tbb => by have tb4 := xl8.ty tbb; have tb5 := xl9.ty tb4; have tb6 := xl10.ty tb5; have tb7 := ty_rt tb6 hcr2 (ne_ty tb6 ty75 (by decide)); exact (Eq.trans (show rv1 bb 1 = rvh9 bb 1 from (by rw [pq1]; exact congrFun (upr_a (ne_ty tb7 ty104 (by decide))) _)) (Eq.trans (show rvh9 bb 1 = rvh8 bb 1 from (fl9.r tb6 rfl 1)) (Eq.trans (show rvh8 bb 1 = rvh7 bb 1 from (fl8.r tb5 rfl 1)) (Eq.trans (show rvh7 bb 1 = rvn2 bb 1 from (fl7.r tb4 rfl 1)) (show rvn2 bb 1 = rvh6 bb 1 from (by rw [hrn2]; exact congrFun (up0_a (ne_in tbb.1 hqn2)) _))))))) (sk 23) (tysk23 sk3)) (fun bb tbb kk => by have tb4 := xl8.ty tbb; have tb5 := xl9.ty tb4; have tb6 := xl10.ty tb5; have tb7 := ty_rt tb6 hcr2 (ne_ty tb6 ty75 (by decide)); exact (Eq.trans (show rv1 bb kk = rvh9 bb kk from (by rw [pq1]; exact congrFun (upr_a (ne_ty tb7 ty104 (by decide))) _)) (Eq.trans (show rvh9 bb kk = rvh8 bb kk from (fl9.r tb6 rfl kk)) (Eq.trans (show rvh8 bb kk = rvh7 bb kk from (fl8.r tb5 rfl kk)) (Eq.trans (show rvh7 bb kk = rvn2 bb kk from (fl7.r tb4 rfl kk)) (show rvn2 bb kk = rvh6 bb kk from (by rw [hrn2]; exact congrFun (up0_a (ne_in tbb.1 hqn2)) _))))))) hi) _ (by omega)).trans rmef6.1), (by omega), re14⟩⟩⟩), (Or.inr ⟨ob1, n6, ⟨akob1.2, hn6, by omega⟩, kp10, Or.inr ⟨qn2, f8, rp1, ⟨tqr2, ⟨by omega, f7, re21, by omega⟩, re22⟩, ty108, by omega, by omega, (fun ss hs kk hk => Eq.trans ((show ∀ bb, ty Lh8 clh8 bb 66 → ivh10 bb kk = ivh8 bb kk from fun bb tbb => by have tb7 := ty_rt tbb hcr2 (ne_ty tbb ty75 (by decide)); exact (Eq.trans (show ivh10 bb kk = ivh9 bb kk from (fl10.i tb7 rfl kk)) (show ivh9 bb kk = ivh8 bb kk from (fl9.i tbb rfl kk)))) f8 rgf8) (Eq.trans (slnf8.2.2 ss (CT.fr hs hW tsk2 F6 rfl rfl rfl rfl rfl) (by omega) kk (by omega)) (congrArg ss (by omega))))⟩, ⟨(by omega), qn1, (by rw [show (iv (sk 23) 2).toNat = (ivh5 (sk 23) 2).toNat from congrArg Int.toNat (by omega)]; exact ((fun i hi => el_ch W8 (tysk23 sk3) rfl rfl ((show ∀ bb, ty Lh6 clh6 bb 23 → rv1 bb 1 = rvh6 bb 1 from fun bb tbb => by have tb4 := xl8.ty tbb; have tb5 := xl9.ty tb4; have tb6 := xl10.ty tb5; have tb7 := ty_rt tb6 hcr2 (ne_ty tb6 ty75 (by decide)); exact (Eq.trans (show rv1 bb 1 = rvh9 bb 1 from (by rw [pq1]; exact congrFun (upr_a (ne_ty tb7 ty104 (by decide))) _)) (Eq.trans (show rvh9 bb 1 = rvh8 bb 1 from (fl9.r tb6 rfl 1)) (Eq.trans (show rvh8 bb 1 = rvh7 bb 1 from (fl8.r tb5 rfl 1)) (Eq.trans (show rvh7 bb 1 = rvn2 bb 1 from (fl7.r tb4 rfl 1)) (show rvn2 bb 1 = rvh6 bb 1 from (by rw [hrn2]; exact congrFun (up0_a (ne_in tbb.1 hqn2)) _))))))) (sk 23) (tysk23 sk3)) (fun bb tbb kk => by have tb4 := xl8.ty tbb; have tb5 := xl9.ty tb4; have tb6 := xl10.ty tb5; have tb7 := ty_rt tb6 hcr2 (ne_ty tb6 ty75 (by decide)); exact (Eq.trans (show rv1 bb kk = rvh9 bb kk from (by rw [pq1]; exact congrFun (upr_a (ne_ty tb7 ty104 (by decide))) _)) (Eq.trans (show rvh9 bb kk = rvh8 bb kk from (fl9.r tb6 rfl kk)) (Eq.trans (show rvh8 bb kk = rvh7 bb kk from (fl8.r tb5 rfl kk)) (Eq.trans (show rvh7 bb kk = rvn2 bb kk from (fl7.r tb4 rfl kk)) (show rvn2 bb kk = rvh6 bb kk from (by rw [hrn2]; exact congrFun (up0_a (ne_in tbb.1 hqn2)) _))))))) hi) _ (by omega)).trans rmef6.1), re14, (Eq.trans re20 oi1.symm), (by omega)⟩⟩), (Eq.trans (show rv1 a0 9 = rvh9 a0 9 from (by rw [pq1]; exact congrFun (upr_a (ne_ty ty78 ty104 (by decide))) _)) (Eq.trans (show rvh9 a0 9 = rvh8 a0 9 from (fl9.r ty77 rfl 9)) (Eq.trans (show rvh8 a0 9 = rvh7 a0 9 from (fl8.r ty59 rfl 9)) (Eq.trans (show rvh7 a0 9 = rvn2 a0 9 from (fl7.r ty44 rfl 9)) (Eq.trans (show rvn2 a0 9 = rvh6 a0 9 from (by rw [hrn2]; exact congrFun (up0_a (ne_in ty31.1 hqn2)) _)) (Eq.trans (show rvh6 a0 9 = rvh5 a0 9 from (fl6.r ty4 rfl 9)) (Eq.trans (show rvh5 a0 9 = rvn1 a0 9 from (fl5.r ty3 rfl 9)) (show rvn1 a0 9 = rv a0 9 from (by rw [hrn1]; exact congrFun (up0_a (ne_in t_a0.1 hqn1)) _))))))))), (Eq.trans (show rv1 a0 10 = rvh9 a0 10 from (by rw [pq1]; exact congrFun (upr_a (ne_ty ty78 ty104 (by decide))) _)) (Eq.trans (show rvh9 a0 10 = rvh8 a0 10 from (fl9.r ty77 rfl 10)) (Eq.trans (show rvh8 a0 10 = rvh7 a0 10 from (fl8.r ty59 rfl 10)) (Eq.trans (show rvh7 a0 10 = rvn2 a0 10 from (fl7.r ty44 rfl 10)) (Eq.trans (show rvn2 a0 10 = rvh6 a0 10 from (by rw [hrn2]; exact congrFun (up0_a (ne_in ty31.1 hqn2)) _)) (Eq.trans (show rvh6 a0 10 = rvh5 a0 10 from (fl6.r ty4 rfl 10)) (Eq.trans (show rvh5 a0 10 = rvn1 a0 10 from (fl5.r ty3 rfl 10)) (show rvn1 a0 10 = rv a0 10 from (by rw [hrn1]; exact congrFun (up0_a (ne_in t_a0.1 hqn1)) _)))))))))⟩
              · refine c_null C dX11_changeIndicator_106 ?_
                refine c_goto (tgt := 142) C dX11_changeIndicator_107 (by decide) ?_
                have ty109 := xl7.ty ty28
                have ll3 : 4 ≤ lnh6 n6 ∧ lnh6 n6 ≤ 4 := W8.len ty109 rfl
                refine c_aastNR (z := j) C dX11_changeIndicator_142 ty109 rfl (by omega) (by omega) (by omega) (fun rv2 pq2 => ⟨1236, (by rw [Phi.putr sk3 pq2 ty109 rfl]; exact Nat.le_refl _), ?_⟩)
                refine hv4 (W8.putr pq2 ty109 (fun _ => ⟨fun _ => by rw [ty109.2]; rfl, fun _ qq => by cases qq⟩) rfl (by decide)) (F4.putr X3 pq2 ty109 rfl) (MRK.putr mr5 W8 sk3 pq2 ty109 (by decide) (by decide)) (TX.xt tx2 xl7) (fun W16 F11 mr13 tx8 => ?_)
                have kp11 := kp4.putrI tx8 W8 pq2 ty109 ⟨rfl, rfl⟩
                refine c_aload_n (j := 1) (x := a0) C dX11_changeIndicator_143 rfl ?_
                refine c_aload_n (j := 1) (x := a0) C dX11_changeIndicator_144 rfl ?_
                have re23 : rv2 a0 0 = rvh6 a0 0 := (by rw [pq2]; exact congrFun (upr_a (ne_ty ty31 ty109 (by decide))) _)
                rw [rq2] at re23
                refine c_getr (k := 0) C ck_12 dX11_changeIndicator_145 w2_44 (by decide) ty31 rfl rfl (by decide) rfl re23 ?_
                refine c_st (st2 := [.ref (sk 2), .ref a0]) rfl ?_
                refine c_get (k := 2) C ck_2 dX11_changeIndicator_148 w1_44 (by decide) ty32 rfl rfl (by decide) rfl ?_
                have pl8 := Phi.le W16 sk3
                refine d_callV (As := [.int (iI (ivh6 (sk 2) 2))]) (rest := []) C hM (C_done (a0 := a0) (x := ivh6 (sk 2) 2) W16 sk3 ty31 (by omega) ) dX11_changeIndicator_151 kV_X11_109 rfl ty31 rfl rfl (by decide) ck_12 rfl (Nat.le_of_ble_eq_true rfl) ⟨(Nat.le_of_ble_eq_true rfl), (Nat.le_of_ble_eq_true rfl)⟩ hph pl8 (show 1236 + 0 = 1236 from rfl) (by decide) (fun rh11 Lh11 clh11 lnh11 ivh11 rvh11 h11 => ?_)
                obtain ⟨f11, rfl, rfl, rfl, rfl, rfl, fl11, W17, rgf11, exf11, kp11f11, kp12f11, kp13f11, kp14f11, kp15f11, kp16f11⟩ := h11
                refine hv27 (show 1 ≤ ivh6 a0 11 ∧ ivh6 a0 11 ≤ 100 from W16.int ty31 11) (show ivh6 a0 11 = ivh5 a0 11 from fl6.i ty4 rfl 11) (show ivh5 a0 11 = ivn1 a0 11 from fl5.i ty3 rfl 11) (show ivn1 a0 11 = iv a0 11 from by rw [hin1]; exact congrFun (up0_a (ne_in t_a0.1 hqn1)) _) (show 1 ≤ ivh6 a0 12 ∧ ivh6 a0 12 ≤ 50 from W16.int ty31 12) (show ivh6 a0 12 = ivh5 a0 12 from fl6.i ty4 rfl 12) (show ivh5 a0 12 = ivn1 a0 12 from fl5.i ty3 rfl 12) (show ivn1 a0 12 = iv a0 12 from by rw [hin1]; exact congrFun (up0_a (ne_in t_a0.1 hqn1)) _) (show (-2147483648) ≤ ivh6 a0 13 ∧ ivh6 a0 13 ≤ 2147483647 from W16.int ty31 13) (show ivh6 a0 13 = ivh5 a0 13 from fl6.i ty4 rfl 13) (show ivh5 a0 13 = ivn1 a0 13 from fl5.i ty3 rfl 13) (show ivn1 a0 13 = iv a0 13 from by rw [hin1]; exact congrFun (up0_a (ne_in t_a0.1 hqn1)) _) (show (-2147483648) ≤ ivh6 a0 14 ∧ ivh6 a0 14 ≤ 2147483647 from W16.int ty31 14) (show ivh6 a0 14 = ivh5 a0 14 from fl6.i ty4 rfl 14) (show ivh5 a0 14 = ivn1 a0 14 from fl5.i ty3 rfl 14) (show ivn1 a0 14 = iv a0 14 from by rw [hin1]; exact congrFun (up0_a (ne_in t_a0.1 hqn1)) _) (show (-2147483648) ≤ ivh6 a0 15 ∧ ivh6 a0 15 ≤ 2147483647 from W16.int ty31 15) (show ivh6 a0 15 = ivh5 a0 15 from fl6.i ty4 rfl 15) (show ivh5 a0 15 = ivn1 a0 15 from fl5.i ty3 rfl 15) (show ivn1 a0 15 = iv a0 15 from by rw [hin1]; exact congrFun (up0_a (ne_in t_a0.1 hqn1)) _) (show (-2147483648) ≤ ivh6 a0 16 ∧ ivh6 a0 16 ≤ 2147483647 from W16.int ty31 16) (show ivh6 a0 16 = ivh5 a0 16 from fl6.i ty4 rfl 16) (show ivh5 a0 16 = ivn1 a0 16 from fl5.i ty3 rfl 16) (show ivn1 a0 16 = iv a0 16 from by rw [hin1]; exact congrFun (up0_a (ne_in t_a0.1 hqn1)) _) (F11.call X3 fl11 rfl) (MRK.call mr13 W16 sk3 XT.refl fl11 rfl rfl) (kp11.call tx8 W16 fl11 rfl) (fun ri43 ie95 ie96 ie97 ri44 ie98 ie99 ie100 ri45 ie101 ie102 ie103 ri46 ie104 ie105 ie106 ri47 ie107 ie108 ie109 ri48 ie110 ie111 ie112 F12 mr14 kp12 => ?_)
                refine c_st (st2 := [.int (iI f11)]) rfl ?_
                refine hv24 (show ivh11 a0 11 = ivh6 a0 11 from kp11f11) (show ivh11 a0 12 = ivh6 a0 12 from kp12f11) (show ivh11 a0 13 = ivh6 a0 13 from kp13f11) (show ivh11 a0 14 = ivh6 a0 14 from kp14f11) (show ivh11 a0 15 = ivh6 a0 15 from kp15f11) (show ivh11 a0 16 = ivh6 a0 16 from kp16f11) (show f11 = (ivh6 (sk 2) 2) from exf11) (show 1 ≤ ivh11 a0 11 ∧ ivh11 a0 11 ≤ 100 from W17.int ty31 11) (show 1 ≤ ivh11 a0 12 ∧ ivh11 a0 12 ≤ 50 from W17.int ty31 12) (show (-2147483648) ≤ ivh11 a0 13 ∧ ivh11 a0 13 ≤ 2147483647 from W17.int ty31 13) (show (-2147483648) ≤ ivh11 a0 14 ∧ ivh11 a0 14 ≤ 2147483647 from W17.int ty31 14) (show (-2147483648) ≤ ivh11 a0 15 ∧ ivh11 a0 15 ≤ 2147483647 from W17.int ty31 15) (show (-2147483648) ≤ ivh11 a0 16 ∧ ivh11 a0 16 ≤ 2147483647 from W17.int ty31 16) (show 0 ≤ ivh11 (sk 23) 2 ∧ ivh11 (sk 23) 2 ≤ 512 from W17.int ty29 2) (show ivh11 (sk 23) 2 = ivh6 (sk 23) 2 from fl11.i ty29 rfl 2) (xl7.ty ty24) (show ivh6 (sk 22) 2 = ivh5 (sk 22) 2 from fl6.i ty24 rfl 2) (show ivh5 (sk 22) 2 = ivn1 (sk 22) 2 from fl5.i ty23 rfl 2) (show ivn1 (sk 22) 2 = iv (sk 22) 2 from by rw [hin1]; exact congrFun (up0_a (ne_in tsk22.1 hqn1)) _) (show 0 ≤ ivh11 (sk 2) 2 ∧ ivh11 (sk 2) 2 ≤ 3000 from W17.int ty32 2) (show ivh11 (sk 2) 2 = ivh6 (sk 2) 2 from fl11.i ty32 rfl 2) (xl7.ty tqr1) (show ivh6 qn1 0 = ivh5 qn1 0 from fl6.i tqr1 rfl 0) (show rvh6 qn1 1 = rvh5 qn1 1 from (fl6.r tqr1 rfl 1)) (fun gk11f11 gk12f11 gk13f11 gk14f11 gk15f11 gk16f11 gf11 ri49 ri50 ri51 ri52 ri53 ri54 ri55 ie119 ty110 ie121 ie122 ie123 ri57 ie124 ty111 ie126 re24 => ?_)
                refine hv4 (show 0 ≤ ivh11 (sk 22) 2 ∧ ivh11 (sk 22) 2 ≤ 30 from W17.int ty110 2) (show ivh11 (sk 22) 2 = ivh6 (sk 22) 2 from fl11.i ty110 rfl 2) (show (-2147483648) ≤ ivh11 qn1 0 ∧ ivh11 qn1 0 ≤ 2147483647 from W17.int ty111 0) (show ivh11 qn1 0 = ivh6 qn1 0 from fl11.i ty111 rfl 0) (fun ri56 ie120 ri58 ie125 => ?_)
                rw [exf5r] at re24
                have re25 : rv2 qn1 1 = rvh6 qn1 1 := (by rw [pq2]; exact congrFun (upr_a (ne_ty ty111 ty109 (by decide))) _)
                rw [re24] at re25
                have re26 : rvh6 qn1 2 = rvh5 qn1 2 := (fl6.r tqr1 rfl 2)
                rw [exf5p] at re26
                have re27 : rv2 qn1 2 = rvh6 qn1 2 := (by rw [pq2]; exact congrFun (upr_a (ne_ty ty111 ty109 (by decide))) _)
                rw [re26] at re27
                refine hv4 (show 0 ≤ ivh11 qn1 3 ∧ ivh11 qn1 3 ≤ 5 from W17.int ty111 3) (show ivh11 qn1 3 = ivh6 qn1 3 from fl11.i ty111 rfl 3) (show ivh6 qn1 3 = ivh5 qn1 3 from fl6.i tqr1 rfl 3) (show rv2 n6 j.toNat = none from by rw [pq2]; exact upr_s) (fun ri59 ie127 ie128 rp2 => ?_)
                exact c_iret C dX11_changeIndicator_154 rfl (by decide) (rom0 hph pl8 (by decide)) ⟨f11, rfl, X3, F12, W17, ⟨by omega, by omega⟩, ⟨(by omega), mr14⟩, (gk11f11.trans (ie95.trans (ie96.trans ie97))), (gk12f11.trans (ie98.trans (ie99.trans ie100))), (gk13f11.trans (ie101.trans (ie102.trans ie103))), (gk14f11.trans (ie104.trans (ie105.trans ie106))), (gk15f11.trans (ie107.trans (ie108.trans ie109))), (gk16f11.trans (ie110.trans (ie111.trans ie112))), (Or.inr ⟨by omega, ob1, akob1.2, (fun ss hs hd => by
                    have e2 := irxf4 ss hs (by omega) hd
                    have e3 := e2.mp (by omega)
                    rw [Int.sub_zero] at e3
                    exact ⟨⟨by omega, by omega, gf3.mp (by omega), by omega⟩, e3.2⟩), by omega, ⟨(fun i hi => el_fr hW (tysk22 hS) rfl rfl F12 rfl rfl hi), TSF.of hW hS (fun bb tbb hbb => by have tb1 := xl5.ty tbb; have tb2 := ty_rt tb1 hcr1 (ne_ty tb1 tqn1 (by decide)); have tb3 := xl7.ty tb2; exact (Eq.trans (show ivh11 bb 7 = ivh6 bb 7 from (fl11.i tb3 rfl 7)) (Eq.trans (show ivh6 bb 7 = ivh5 bb 7 from (fl6.i tb2 rfl 7)) (Eq.trans (show ivh5 bb 7 = ivn1 bb 7 from (fl5.i tb1 rfl 7)) (show ivn1 bb 7 = iv bb 7 from (by rw [hin1]; exact congrFun (up0_a (ne_in tbb.1 hqn1)) _)))))) (fun bb tbb => by have tb1 := xl5.ty tbb; have tb2 := ty_rt tb1 hcr1 (ne_ty tb1 tqn1 (by decide)); have tb3 := xl7.ty tb2; exact (Eq.trans (show ivh11 bb 0 = ivh6 bb 0 from (fl11.i tb3 rfl 0)) (Eq.trans (show ivh6 bb 0 = ivh5 bb 0 from (fl6.i tb2 rfl 0)) (Eq.trans (show ivh5 bb 0 = ivn1 bb 0 from (fl5.i tb1 rfl 0)) (show ivn1 bb 0 = iv bb 0 from (by rw [hin1]; exact congrFun (up0_a (ne_in tbb.1 hqn1)) _)))))) (fun bb tbb => by have tb1 := xl5.ty tbb; have tb2 := ty_rt tb1 hcr1 (ne_ty tb1 tqn1 (by decide)); have tb3 := xl7.ty tb2; exact (Eq.trans (show ivh11 bb 1 = ivh6 bb 1 from (fl11.i tb3 rfl 1)) (Eq.trans (show ivh6 bb 1 = ivh5 bb 1 from (fl6.i tb2 rfl 1)) (Eq.trans (show ivh5 bb 1 = ivn1 bb 1 from (fl5.i tb1 rfl 1)) (show ivn1 bb 1 = iv bb 1 from (by rw [hin1]; exact congrFun (up0_a (ne_in tbb.1 hqn1)) _)))))) (fun bb tbb => by have tb1 := xl5.ty tbb; have tb2 := ty_rt tb1 hcr1 (ne_ty tb1 tqn1 (by decide)); have tb3 := xl7.ty tb2; exact (Eq.trans (show rv2 bb 4 = rvh6 bb 4 from (by rw [pq2]; exact congrFun (upr_a (ne_ty tb3 ty109 (by decide))) _)) (Eq.trans (show rvh6 bb 4 = rvh5 bb 4 from (fl6.r tb2 rfl 4)) (Eq.trans (show rvh5 bb 4 = rvn1 bb 4 from (fl5.r tb1 rfl 4)) (show rvn1 bb 4 = rv bb 4 from (by rw [hrn1]; exact congrFun (up0_a (ne_in tbb.1 hqn1)) _)))))), TSQ.of hW hS (fun bb tbb hbb => by have tb1 := xl5.ty tbb; have tb2 := ty_rt tb1 hcr1 (ne_ty tb1 tqn1 (by decide)); have tb3 := xl7.ty tb2; exact (Eq.trans (show ivh11 bb 2 = ivh6 bb 2 from (fl11.i tb3 rfl 2)) (Eq.trans (show ivh6 bb 2 = ivh5 bb 2 from (fl6.i tb2 rfl 2)) (Eq.trans (show ivh5 bb 2 = ivn1 bb 2 from (fl5.i tb1 rfl 2)) (show ivn1 bb 2 = iv bb 2 from (by rw [hin1]; exact congrFun (up0_a (ne_in tbb.1 hqn1)) _))))))⟩, ⟨(by omega), CS0.of hW hS (Int.le_refl _) (fun i hi => ((fun i hi => el_ch W8 (tysk23 sk3) rfl rfl ((show ∀ bb, ty Lh6 clh6 bb 23 → rv2 bb 1 = rvh6 bb 1 from fun bb tbb => by exact (show rv2 bb 1 = rvh6 bb 1 from (by rw [pq2]; exact congrFun (upr_a (ne_ty tbb ty109 (by decide))) _))) (sk 23) (tysk23 sk3)) (fun bb tbb kk => by exact (show rv2 bb kk = rvh6 bb kk from (by rw [pq2]; exact congrFun (upr_a (ne_ty tbb ty109 (by decide))) _))) hi) i (by omega)).trans ((rmef6.2 i (by omega)).trans (ce1 i hi))) (fun bb tbb => by have tb1 := xl5.ty tbb; have tb2 := ty_rt tb1 hcr1 (ne_ty tb1 tqn1 (by decide)); have tb3 := xl7.ty tb2; exact (Eq.trans (show ivh11 bb 0 = ivh6 bb 0 from (fl11.i tb3 rfl 0)) (Eq.trans (show ivh6 bb 0 = ivh5 bb 0 from (fl6.i tb2 rfl 0)) (Eq.trans (show ivh5 bb 0 = ivn1 bb 0 from (fl5.i tb1 rfl 0)) (show ivn1 bb 0 = iv bb 0 from (by rw [hin1]; exact congrFun (up0_a (ne_in tbb.1 hqn1)) _)))))) (fun bb tbb => by have tb1 := xl5.ty tbb; have tb2 := ty_rt tb1 hcr1 (ne_ty tb1 tqn1 (by decide)); have tb3 := xl7.ty tb2; exact (Eq.trans (show rv2 bb 1 = rvh6 bb 1 from (by rw [pq2]; exact congrFun (upr_a (ne_ty tb3 ty109 (by decide))) _)) (Eq.trans (show rvh6 bb 1 = rvh5 bb 1 from (fl6.r tb2 rfl 1)) (Eq.trans (show rvh5 bb 1 = rvn1 bb 1 from (fl5.r tb1 rfl 1)) (show rvn1 bb 1 = rv bb 1 from (by rw [hrn1]; exact congrFun (up0_a (ne_in tbb.1 hqn1)) _)))))), ⟨qn1, (by rw [show (iv (sk 23) 2).toNat = (ivh5 (sk 23) 2).toNat from congrArg Int.toNat (by omega)]; exact ((fun i hi => el_ch W8 (tysk23 sk3) rfl rfl ((show ∀ bb, ty Lh6 clh6 bb 23 → rv2 bb 1 = rvh6 bb 1 from fun bb tbb => by exact (show rv2 bb 1 = rvh6 bb 1 from (by rw [pq2]; exact congrFun (upr_a (ne_ty tbb ty109 (by decide))) _))) (sk 23) (tysk23 sk3)) (fun bb tbb kk => by exact (show rv2 bb kk = rvh6 bb kk from (by rw [pq2]; exact congrFun (upr_a (ne_ty tbb ty109 (by decide))) _))) hi) _ (by omega)).trans rmef6.1), (by omega), re25⟩⟩⟩), (Or.inr ⟨ob1, n6, ⟨akob1.2, hn6, by omega⟩, kp12, Or.inl ⟨by omega, rp2⟩, ⟨(by omega), qn1, (by rw [show (iv (sk 23) 2).toNat = (ivh5 (sk 23) 2).toNat from congrArg Int.toNat (by omega)]; exact ((fun i hi => el_ch W8 (tysk23 sk3) rfl rfl ((show ∀ bb, ty Lh6 clh6 bb 23 → rv2 bb 1 = rvh6 bb 1 from fun bb tbb => by exact (show rv2 bb 1 = rvh6 bb 1 from (by rw [pq2]; exact congrFun (upr_a (ne_ty tbb ty109 (by decide))) _))) (sk 23) (tysk23 sk3)) (fun bb tbb kk => by exact (show rv2 bb kk = rvh6 bb kk from (by rw [pq2]; exact congrFun (upr_a (ne_ty tbb ty109 (by decide))) _))) hi) _ (by omega)).trans rmef6.1), re25, (Eq.trans re27 oi1.symm), (by omega)⟩⟩), (Eq.trans (show rv2 a0 9 = rvh6 a0 9 from (by rw [pq2]; exact congrFun (upr_a (ne_ty ty31 ty109 (by decide))) _)) (Eq.trans (show rvh6 a0 9 = rvh5 a0 9 from (fl6.r ty4 rfl 9)) (Eq.trans (show rvh5 a0 9 = rvn1 a0 9 from (fl5.r ty3 rfl 9)) (show rvn1 a0 9 = rv a0 9 from (by rw [hrn1]; exact congrFun (up0_a (ne_in t_a0.1 hqn1)) _))))), (Eq.trans (show rv2 a0 10 = rvh6 a0 10 from (by rw [pq2]; exact congrFun (upr_a (ne_ty ty31 ty109 (by decide))) _)) (Eq.trans (show rvh6 a0 10 = rvh5 a0 10 from (fl6.r ty4 rfl 10)) (Eq.trans (show rvh5 a0 10 = rvn1 a0 10 from (fl5.r ty3 rfl 10)) (show rvn1 a0 10 = rv a0 10 from (by rw [hrn1]; exact congrFun (up0_a (ne_in t_a0.1 hqn1)) _)))))⟩
            · have tnb1 : ty (L ++ [qn1]) cln1 nb1 20 := tnb1
              refine c_aaldR C dX11_changeIndicator_83 ty2 rfl (by omega) (by omega) (by omega) nq1 ?_
              refine c_st (st2 := [.ref nb1, .ref ob1, .int (iI 4), .ref qn1, .ref qn1, .ref (sk 13)]) rfl ?_
              refine c_iload_n (j := 3) C dX11_changeIndicator_84 rfl ?_
              refine hv2 (Eq.trans ((show ∀ bb, ty L cl bb 68 → ∀ kk, rvn1 bb kk = rv bb kk from fun bb tbb kk => by exact (show rvn1 bb kk = rv bb kk from (by rw [hrn1]; exact congrFun (up0_a (ne_in tbb.1 hqn1)) _))) n6 tn6 j.toNat).symm nq1) (Phi.le W5 sk1) (fun oi2 pl9 => ?_)
              refine c_callI (As := [.int (iI 4), .ref ob1, .ref nb1, .int (iI j)]) (rest := [.ref qn1, .ref (sk 13)]) C hM (Z_change (a0 := qn1) (i := 4) (a2 := ob1) (r := (some nb1)) (n := j) W5 sk1 tqn1 ty1 (fun _ q => by cases q; exact tnb1) ⟨by decide, by decide⟩ (by omega) ) dX11_changeIndicator_85 kI_X11_149 rfl rfl (Nat.le_of_ble_eq_true rfl) ⟨(Nat.le_of_ble_eq_true rfl), (Nat.le_of_ble_eq_true rfl)⟩ (rz1 hph pl9 (by decide)) (fun rh12 Lh12 clh12 lnh12 ivh12 rvh12 h12 => ⟨20, (zk1 (by obtain ⟨_, _, _, e3, flh12x, Wh12x, _⟩ := h12; subst e3; exact Phi.frn sk1 flh12x rfl)), ?_⟩)
              obtain ⟨rfl, rfl, rfl, rfl, fl12, W18, exf12⟩ := h12
              refine hv3 (F2.call X1 fl12 rfl) (MRK.call mr2 W5 sk1 XT.refl fl12 rfl rfl) (TX.xt TX.refl xl5) (fun F13 mr15 tx9 => ?_)
              have kp13 := kp2.call tx9 W5 fl12 rfl
              refine c_st (st2 := [.ref qn1, .ref (sk 13)]) rfl ?_
              obtain ⟨exf12x, exf12r, exf12p, exf12i, exf12j⟩ := exf12
              have rn3 : ∀ k, ([1, 2] : List Nat).contains k = false → rvh12 qn1 k = none := fun k hk => (Eq.trans (show rvh12 qn1 k = rvn1 qn1 k from (exf12x k hk)) (show rvn1 qn1 k = none from (by rw [hrn1]; exact up0_s)))
              refine c_retag (q := qn1) (t := 21) (by rw [tqn1.2]; rfl) (fun clr3 hcr3 => ?_)
              refine hv16 (xl5.ty t_a0) (xl5.ty tsk2) (xl5.ty tsk3) (xl5.ty tsk4) (xl5.ty tsk5) (xl5.ty tsk13) (xl5.ty tsk14) (xl5.ty tsk15) (xl5.ty tsk16) (xl5.ty tsk17) (xl5.ty tsk22) (xl5.ty tsk23) (ty_rt ty1 hcr3 (ne_ty ty1 tqn1 (by decide))) (ty_rt ty2 hcr3 (ne_ty ty2 tqn1 (by decide))) (ty_rt tnb1 hcr3 (ne_ty tnb1 tqn1 (by decide))) (show ty (L ++ [qn1]) clr3 qn1 21 from ⟨tqn1.1, by rw [hcr3, va_up_self]; rfl⟩) (fun ty112 ty114 ty116 ty118 ty120 ty122 ty124 ty126 ty128 ty130 ty132 ty134 ty136 ty137 ty138 tqr3 => ?_)
              refine hv12 (ty_rt ty112 hcr3 (ne_ty ty112 tqn1 (by decide))) (ty_rt ty114 hcr3 (ne_ty ty114 tqn1 (by decide))) (ty_rt ty116 hcr3 (ne_ty ty116 tqn1 (by decide))) (ty_rt ty118 hcr3 (ne_ty ty118 tqn1 (by decide))) (ty_rt ty120 hcr3 (ne_ty ty120 tqn1 (by decide))) (ty_rt ty122 hcr3 (ne_ty ty122 tqn1 (by decide))) (ty_rt ty124 hcr3 (ne_ty ty124 tqn1 (by decide))) (ty_rt ty126 hcr3 (ne_ty ty126 tqn1 (by decide))) (ty_rt ty128 hcr3 (ne_ty ty128 tqn1 (by decide))) (ty_rt ty130 hcr3 (ne_ty ty130 tqn1 (by decide))) (ty_rt ty132 hcr3 (ne_ty ty132 tqn1 (by decide))) (ty_rt ty134 hcr3 (ne_ty ty134 tqn1 (by decide))) (fun ty113 ty115 ty117 ty119 ty121 ty123 ty125 ty127 ty129 ty131 ty133 ty135 => ?_)
              have W19 := W18.retag tqn1.1 (by rw [tqn1.2]; rfl) hcr3 (fun k => by
                    rcases k with _ | _ | _ | _ | k
                    · exact W18.int tqn1 0
                    · exact W18.int tqn1 1
                    · exact W18.int tqn1 2
                    · exact ⟨(by show 0 ≤ ivh12 qn1 3; first | exact bx_lo ‹ivh12 qn1 3 = _› (by decide) | omega), (by show ivh12 qn1 3 ≤ 5; first | exact bx_hi ‹ivh12 qn1 3 = _› (by decide) | omega)⟩
                    · exact W18.int tqn1 (k + 4)) (fun k => by
                    rcases k with _ | _ | _ | _ | k
                    · rw [rn3 0 (by decide)]; exact rok_none tqr3 rfl
                    · rw [exf12r]; exact rok_some tqr3 ty136 rfl (by decide) rfl
                    · rw [exf12p]; exact rok_ch tqr3 (fun _ q => by cases q; exact ty138)
                    · rw [rn3 3 (by decide)]; exact rok_none tqr3 rfl
                    · rw [rn3 (k + 4) (by simp)]; exact rok_none tqr3 rfl) rfl (fun z => by cases z) (fun z => by cases z) rfl
              refine hv8 (X1.rt hcr3 h0qn1) (sk1.rt hcr3 (by rw [tqn1.2]; rfl)) (MRK.rt mr15 W18 sk1 hcr3 (by rw [tqn1.2]; rfl)) (fun b hb => xl5.ty (rgf2 b hb)) (show ∀ i : Nat, (i : Int) < iv (sk 23) 2 → el rvh12 (sk 23) i = el rv (sk 23) i from (fun i hi => el_ch hW (tysk23 hS) rfl rfl ((show ∀ bb, ty L cl bb 23 → rvh12 bb 1 = rv bb 1 from fun bb tbb => by have tb1 := xl5.ty tbb; exact (Eq.trans (show rvh12 bb 1 = rvn1 bb 1 from (fl12.r tb1 rfl 1)) (show rvn1 bb 1 = rv bb 1 from (by rw [hrn1]; exact congrFun (up0_a (ne_in tbb.1 hqn1)) _)))) (sk 23) (tysk23 hS)) (fun bb tbb kk => by have tb1 := xl5.ty tbb; exact (Eq.trans (show rvh12 bb kk = rvn1 bb kk from (fl12.r tb1 rfl kk)) (show rvn1 bb kk = rv bb kk from (by rw [hrn1]; exact congrFun (up0_a (ne_in tbb.1 hqn1)) _)))) hi)) (show 0 ≤ ivh12 (sk 23) 2 ∧ ivh12 (sk 23) 2 ≤ 512 from W19.int ty135 2) (show ivh12 (sk 23) 2 = ivn1 (sk 23) 2 from fl12.i ty134 rfl 2) (show ivn1 (sk 23) 2 = iv (sk 23) 2 from by rw [hin1]; exact congrFun (up0_a (ne_in tsk23.1 hqn1)) _) (fun X8 sk8 mr16 on8 ce2 ri60 ie129 ie130 => ?_)
              refine hv2 (fun b hb => ty_rt (on8 b hb) hcr3 (ne_ty (on8 b hb) tqn1 (by decide))) (Phi.le W19 sk8) (fun on9 pl10 => ?_)
              refine d_callV (As := [.ref qn1]) (rest := []) C hM (C_remember (a0 := (sk 13)) (a1 := qn1) W19 sk8 ty123 tqr3  (by show ivh12 (sk 23) 2 < 512; omega)) dX11_changeIndicator_88 kV_X11_152 rfl ty123 rfl rfl (by decide) ck_11 rfl (Nat.le_of_ble_eq_true rfl) ⟨(Nat.le_of_ble_eq_true rfl), (Nat.le_of_ble_eq_true rfl)⟩ hph pl10 (show 20 + 1216 = 1236 from rfl) (by decide) (fun rh13 Lh13 clh13 lnh13 ivh13 rvh13 h13 => ?_)
              obtain ⟨rfl, xl15, fl13, W20, exf13, rmef13⟩ := h13
              refine hv5 (F13.call X8 fl13 rfl) (MRK.call mr16 W19 sk8 xl15 fl13 rfl rfl) (TX.rt tx9 hcr3 tqn1 rfl) (X8.trans xl15) (xl15.skl sk8) (fun F14 mr17 tx10 X9 sk9 => ?_)
              have kp14 := kp13.call tx10 W19 fl13 rfl
              refine c_st (st2 := []) rfl ?_
              refine hv2 (xl15.ty ty135) (show ivh13 (sk 23) 2 = ivh12 (sk 23) 2 + 1 from exf13) (fun ty139 gf13 => ?_)
              have ri61 : 0 ≤ ivh13 (sk 23) 2 ∧ ivh13 (sk 23) 2 ≤ 512 := W20.int ty139 2
              refine c_aload_n (j := 0) (x := ob1) C dX11_changeIndicator_91 rfl ?_
              refine hv2 (xl15.ty ty136) (show rvh12 ob1 6 = rvn1 ob1 6 from (fl12.r ty1 rfl 6)) (fun ty140 re28 => ?_)
              rw [re1] at re28
              have re29 : rvh13 ob1 6 = rvh12 ob1 6 := (fl13.r ty136 rfl 6)
              rw [re28] at re29
              refine c_getr (k := 6) C ck_10 dX11_changeIndicator_92 w2_196 (by decide) ty140 rfl rfl (by decide) rfl re29 ?_
              refine c_st (st2 := [.ref n6]) rfl ?_
              refine c_iload_n (j := 3) C dX11_changeIndicator_95 rfl ?_
              refine c_aload_n (j := 1) (x := a0) C dX11_changeIndicator_96 rfl ?_
              have ty141 := xl15.ty ty113
              obtain ⟨rb3, rq3, trb3⟩ := W20.ref ty141 0 rfl rfl rfl
              have erb3 := W20.sk trb3 (by decide) rfl
              subst erb3
              refine c_getr (k := 0) C ck_12 dX11_changeIndicator_97 w2_44 (by decide) ty141 rfl rfl (by decide) rfl rq3 ?_
              refine c_st (st2 := [.ref (sk 2), .int (iI j), .ref n6]) rfl ?_
              refine hv4 (xl15.ty ty115) (show ivh13 (sk 2) 2 = ivh12 (sk 2) 2 from fl13.i ty115 rfl 2) (show ivh12 (sk 2) 2 = ivn1 (sk 2) 2 from fl12.i ty114 rfl 2) (show ivn1 (sk 2) 2 = iv (sk 2) 2 from by rw [hin1]; exact congrFun (up0_a (ne_in tsk2.1 hqn1)) _) (fun ty142 ie132 ie133 ie134 => ?_)
              have ri62 : 0 ≤ ivh13 (sk 2) 2 ∧ ivh13 (sk 2) 2 ≤ 3000 := W20.int ty142 2
              refine c_get (k := 2) C ck_2 dX11_changeIndicator_100 w1_44 (by decide) ty142 rfl rfl (by decide) rfl ?_
              refine c_if_ne (tgt := 110) C (r32_c (lo := 0) (hi := 3000) ri62.1 ri62.2 (by decide) (by decide)) dX11_changeIndicator_103 (by decide) (fun c6 => ?_) (fun c6 => ?_)
              · have ty143 := xl15.ty ty117
                refine hv12 (xl15.ty ty119) (xl15.ty ty121) (xl15.ty ty123) (xl15.ty ty125) (xl15.ty ty127) (xl15.ty ty129) (xl15.ty ty131) (xl15.ty ty133) (xl15.ty ty137) (xl15.ty tqr3) (xl15.ty ty138) (Phi.le W20 sk9) (fun ty144 ty145 ty146 ty147 ty148 ty149 ty150 ty151 ty152 ty153 ty154 pl11 => ?_)
                refine c_new C ck_6 dv_6 ⟨rfl, rfl⟩ rfl (by decide) dX11_changeIndicator_110 w3_125 w3_126 w1_21 (rom2 hph pl11 (by decide)) (fun qn3 cln3 lnn3 ivn3 rvn3 hqn3 hcn3 hln3 hin3 hrn3 => ⟨1256, (p_in (Phi.new W20 sk9 hqn3 (fun b _ => by rw [hln3]) hrn3) (by omega)), ?_⟩)
                refine c_g0 C (fun hg3 => ?_)
                refine hv5 (show ∀ b, b ≠ qn3 → lnn3 b = lnh13 b from (fun b _ => by rw [hln3])) (F14.new X9 hqn3 hin3 hrn3) (show ty (Lh13 ++ [qn3]) cln3 qn3 206 from ty_new hcn3) (TX.xt tx10 xl15) (show qn3 ∉ L from fun h => hqn3 ((X9 qn3 h).1)) (fun hxn3 F15 tqn3 tx11 h0qn3 => ?_)
                refine hv3 (W20.new (ln2 := lnn3) hqn3 (hg3 qn3 (List.mem_append_right _ List.mem_cons_self)) hcn3 hxn3 hin3 hrn3 (fun _ => ⟨(show (-2147483648 : Int) ≤ 0 by decide), (show (0 : Int) ≤ 2147483647 by decide)⟩) (Or.inl rfl) (fun q => by cases q) rfl rfl) (XT.new hqn3 hcn3 hxn3) (kp14.new tx11 W20 hqn3 hin3 hrn3) (fun W21 xl16 kp15 => ?_)
                refine hv3 (X9.trans xl16) (xl16.skl sk9) (MRK.call mr17 W20 sk9 xl16 ((fT.refl (ls := [])).new (XT.refl (ln := lnh13)) hqn3 hin3 hrn3) rfl rfl) (fun X10 sk10 mr18 => ?_)
                refine c_dup C dX11_changeIndicator_113 rfl ?_
                refine c_iload_n (j := 3) C dX11_changeIndicator_114 rfl ?_
                refine c_aload_n (j := 1) (x := a0) C dX11_changeIndicator_115 rfl ?_
                refine hv2 (xl16.ty ty141) (show rvn3 a0 0 = rvh13 a0 0 from (by rw [hrn3]; exact congrFun (up0_a (ne_in ty141.1 hqn3)) _)) (fun ty155 re30 => ?_)
                rw [rq3] at re30
                refine c_getr (k := 0) C ck_12 dX11_changeIndicator_116 w2_44 (by decide) ty155 rfl rfl (by decide) rfl re30 ?_
                refine c_st (st2 := [.ref (sk 2), .int (iI j), .ref qn3, .ref qn3, .int (iI j), .ref n6]) rfl ?_
                refine c_iconst C dX11_changeIndicator_119 ?_
                refine c_iconst C dX11_changeIndicator_120 ?_
                refine hv2 (xl16.ty ty142) (Phi.le W21 sk10) (fun ty156 pl12 => ?_)
                refine d_callV (As := [.int (iI 0), .int (iI 0)]) (rest := [.int (iI j), .ref qn3, .ref qn3, .int (iI j), .ref n6]) C hM (C_slice_65 (a0 := (sk 2)) (i := 0) (j := 0) W21 sk10 ty156 ⟨by decide, by decide⟩ ⟨by decide, by decide⟩ (by show 0 ≤ (0 : Int) ∧ (0 : Int) ≤ 3000 ∧ 0 ≤ (0 : Int) - (0 : Int) ∧ (0 : Int) - (0 : Int) ≤ 8; omega)) dX11_changeIndicator_121 kV_X11_190 rfl ty156 rfl rfl (by decide) ck_2 rfl (Nat.le_of_ble_eq_true rfl) ⟨(Nat.le_of_ble_eq_true rfl), (Nat.le_of_ble_eq_true rfl)⟩ hph pl12 (show 1256 + 24 = 1280 from rfl) (by decide) (fun rh14 Lh14 clh14 lnh14 ivh14 rvh14 h14 => ?_)
                obtain ⟨f14, rfl, xl17, fl14, W22, rgf14, exf14, slnf14⟩ := h14
                refine hv19 (F15.call X10 fl14 rfl) (MRK.call mr18 W21 sk10 xl17 fl14 rfl rfl) (TX.xt tx11 xl16) (xl16.ty ty143) (xl16.ty ty144) (xl16.ty ty145) (xl16.ty ty146) (xl16.ty ty147) (xl16.ty ty148) (xl16.ty ty149) (xl16.ty ty150) (xl16.ty ty151) (xl16.ty ty139) (xl16.ty ty140) (xl16.ty ty152) (xl16.ty ty153) (xl16.ty ty154) (X10.trans xl17) (xl17.skl sk10) (fun F16 mr19 tx12 ty157 ty158 ty159 ty160 ty161 ty162 ty163 ty164 ty165 ty166 ty167 ty168 ty169 ty170 X11 sk11 => ?_)
                have kp16 := kp15.trans tx12 (KP.sl W21 fl14 (by decide) slnf14.2.1)
                refine c_st (st2 := [.ref f14, .int (iI j), .ref qn3, .ref qn3, .int (iI j), .ref n6]) rfl ?_
                have gf14 : lnh14 f14 = ((0 : Int) - (0 : Int)).toNat := exf14
                refine c_aload_n (j := 1) (x := a0) C dX11_changeIndicator_124 rfl ?_
                refine hv2 (xl17.ty ty155) (show rvh14 a0 0 = rvn3 a0 0 from (fl14.r ty155 rfl 0)) (fun ty171 re31 => ?_)
                rw [re30] at re31
                refine c_getr (k := 0) C ck_12 dX11_changeIndicator_125 w2_44 (by decide) ty171 rfl rfl (by decide) rfl re31 ?_
                refine c_st (st2 := [.ref (sk 2), .ref f14, .int (iI j), .ref qn3, .ref qn3, .int (iI j), .ref n6]) rfl ?_
                refine c_iconst C dX11_changeIndicator_128 ?_
                refine c_aload_n (j := 1) (x := a0) C dX11_changeIndicator_129 rfl ?_
                refine c_getr (k := 0) C ck_12 dX11_changeIndicator_130 w2_44 (by decide) ty171 rfl rfl (by decide) rfl re31 ?_
                refine c_st (st2 := [.ref (sk 2), .int (iI 0), .ref (sk 2), .ref f14, .int (iI j), .ref qn3, .ref qn3, .int (iI j), .ref n6]) rfl ?_
                refine hv3 (xl17.ty ty156) (show ivh14 (sk 2) 2 = ivn3 (sk 2) 2 from fl14.i ty156 rfl 2) (show ivn3 (sk 2) 2 = ivh13 (sk 2) 2 from by rw [hin3]; exact congrFun (up0_a (ne_in ty142.1 hqn3)) _) (fun ty172 ie135 ie136 => ?_)
                have ri63 : 0 ≤ ivh14 (sk 2) 2 ∧ ivh14 (sk 2) 2 ≤ 3000 := W22.int ty172 2
                refine c_get (k := 2) C ck_2 dX11_changeIndicator_133 w1_44 (by decide) ty172 rfl rfl (by decide) rfl ?_
                have pl13 := Phi.le W22 sk11
                refine d_callV (As := [.int (iI 0), .int (iI (ivh14 (sk 2) 2))]) (rest := [.ref f14, .int (iI j), .ref qn3, .ref qn3, .int (iI j), .ref n6]) C hM (C_slice_66 (a0 := (sk 2)) (i := 0) (j := ivh14 (sk 2) 2) W22 sk11 ty172 ⟨by decide, by decide⟩ (by omega) (by show 0 ≤ (0 : Int) ∧ (0 : Int) ≤ 3000 ∧ 1 ≤ (ivh14 (sk 2) 2) - (0 : Int) ∧ (ivh14 (sk 2) 2) - (0 : Int) ≤ 4; omega)) dX11_changeIndicator_136 kV_X11_190 rfl ty172 rfl rfl (by decide) ck_2 rfl (Nat.le_of_ble_eq_true rfl) ⟨(Nat.le_of_ble_eq_true rfl), (Nat.le_of_ble_eq_true rfl)⟩ hph pl13 (show 1280 + 20 = 1300 from rfl) (by decide) (fun rh15 Lh15 clh15 lnh15 ivh15 rvh15 h15 => ?_)
                obtain ⟨f15, rfl, xl18, fl15, W23, rgf15, exf15, slnf15⟩ := h15
                refine hv20 (F16.call X11 fl15 rfl) (MRK.call mr19 W22 sk11 xl18 fl15 rfl rfl) (TX.xt tx12 xl17) (xl17.ty ty157) (xl17.ty ty158) (xl17.ty ty159) (xl17.ty ty160) (xl17.ty ty161) (xl17.ty ty162) (xl17.ty ty163) (xl17.ty ty164) (xl17.ty ty165) (xl17.ty ty166) (xl17.ty ty167) (xl17.ty ty168) (xl17.ty ty169) (xl17.ty ty170) (xl17.ty tqn3) (X11.trans xl18) (xl18.skl sk11) (fun F17 mr20 tx13 ty173 ty174 ty175 ty176 ty177 ty178 ty179 ty180 ty181 ty182 ty183 ty184 ty185 ty186 ty187 X12 sk12 => ?_)
                have kp17 := kp16.trans tx13 (KP.sl W22 fl15 (by decide) slnf15.2.1)
                refine c_st (st2 := [.ref f15, .ref f14, .int (iI j), .ref qn3, .ref qn3, .int (iI j), .ref n6]) rfl ?_
                refine hv4 (show lnh15 f15 = ((ivh14 (sk 2) 2) - (0 : Int)).toNat from exf15) (xl18.ty ty187) (xl18.ty rgf14) (Phi.le W23 sk12) (fun gf15 ty188 ty189 pl14 => ?_)
                refine c_callI (As := [.int (iI j), .ref f14, .ref f15]) (rest := [.ref qn3, .int (iI j), .ref n6]) C hM (Z_row (a0 := qn3) (i := j) (a2 := f14) (a3 := f15) W23 sk12 ty188 ty189 rgf15 (by omega) ) dX11_changeIndicator_139 kI_X11_194 rfl rfl (Nat.le_of_ble_eq_true rfl) ⟨(Nat.le_of_ble_eq_true rfl), (Nat.le_of_ble_eq_true rfl)⟩ (rz1 hph pl14 (by decide)) (fun rh16 Lh16 clh16 lnh16 ivh16 rvh16 h16 => ⟨1300, (zk1 (by obtain ⟨_, _, _, e3, flh16x, Wh16x, _⟩ := h16; subst e3; exact Phi.frn sk12 flh16x rfl)), ?_⟩)
                obtain ⟨rfl, rfl, rfl, rfl, fl16, W24, exf16⟩ := h16
                refine hv3 (F17.call X12 fl16 rfl) (MRK.call mr20 W23 sk12 XT.refl fl16 rfl rfl) (TX.xt tx13 xl18) (fun F18 mr21 tx14 => ?_)
                have kp18 := kp17.call tx14 W23 fl16 rfl
                refine c_st (st2 := [.ref qn3, .int (iI j), .ref n6]) rfl ?_
                obtain ⟨exf16x, exf16r, exf16p, exf16i, exf16j⟩ := exf16
                have rn4 : ∀ k, ([1, 2] : List Nat).contains k = false → rvh16 qn3 k = none := fun k hk => (Eq.trans (show rvh16 qn3 k = rvh15 qn3 k from (exf16x k hk)) (Eq.trans (show rvh15 qn3 k = rvh14 qn3 k from (fl15.r ty187 rfl k)) (Eq.trans (show rvh14 qn3 k = rvn3 qn3 k from (fl14.r tqn3 rfl k)) (show rvn3 qn3 k = none from (by rw [hrn3]; exact up0_s)))))
                refine c_retag (q := qn3) (t := 20) (by rw [ty188.2]; rfl) (fun clr4 hcr4 => ?_)
                refine hv19 (xl18.ty ty171) (xl18.ty ty172) (xl18.ty ty173) (xl18.ty ty174) (xl18.ty ty175) (xl18.ty ty176) (xl18.ty ty177) (xl18.ty ty178) (xl18.ty ty179) (xl18.ty ty180) (xl18.ty ty181) (xl18.ty ty182) (xl18.ty ty183) (xl18.ty ty184) (xl18.ty ty185) (xl18.ty ty186) (ty_rt ty189 hcr4 (ne_ty ty189 ty188 (by decide))) (ty_rt rgf15 hcr4 (ne_ty rgf15 ty188 (by decide))) (show ty Lh15 clr4 qn3 20 from ⟨ty188.1, by rw [hcr4, va_up_self]; rfl⟩) (fun ty190 ty192 ty194 ty196 ty198 ty200 ty202 ty204 ty206 ty208 ty210 ty212 ty214 ty216 ty218 ty220 ty222 ty223 tqr4 => ?_)
                refine hv16 (ty_rt ty190 hcr4 (ne_ty ty190 ty188 (by decide))) (ty_rt ty192 hcr4 (ne_ty ty192 ty188 (by decide))) (ty_rt ty194 hcr4 (ne_ty ty194 ty188 (by decide))) (ty_rt ty196 hcr4 (ne_ty ty196 ty188 (by decide))) (ty_rt ty198 hcr4 (ne_ty ty198 ty188 (by decide))) (ty_rt ty200 hcr4 (ne_ty ty200 ty188 (by decide))) (ty_rt ty202 hcr4 (ne_ty ty202 ty188 (by decide))) (ty_rt ty204 hcr4 (ne_ty ty204 ty188 (by decide))) (ty_rt ty206 hcr4 (ne_ty ty206 ty188 (by decide))) (ty_rt ty208 hcr4 (ne_ty ty208 ty188 (by decide))) (ty_rt ty210 hcr4 (ne_ty ty210 ty188 (by decide))) (ty_rt ty212 hcr4 (ne_ty ty212 ty188 (by decide))) (ty_rt ty214 hcr4 (ne_ty ty214 ty188 (by decide))) (ty_rt ty216 hcr4 (ne_ty ty216 ty188 (by decide))) (ty_rt ty218 hcr4 (ne_ty ty218 ty188 (by decide))) (ty_rt ty220 hcr4 (ne_ty ty220 ty188 (by decide))) (fun ty191 ty193 ty195 ty197 ty199 ty201 ty203 ty205 ty207 ty209 ty211 ty213 ty215 ty217 ty219 ty221 => ?_)
                have W25 := W24.retag ty188.1 (by rw [ty188.2]; rfl) hcr4 (fun k => by
                      rcases k with _ | _ | _ | _ | k
                      · exact W24.int ty188 0
                      · exact W24.int ty188 1
                      · exact W24.int ty188 2
                      · exact ⟨(by show 0 ≤ ivh16 qn3 3; first | exact bx_lo ‹ivh16 qn3 3 = _› (by decide) | omega), (by show ivh16 qn3 3 ≤ 5; first | exact bx_hi ‹ivh16 qn3 3 = _› (by decide) | omega)⟩
                      · exact W24.int ty188 (k + 4)) (fun k => by
                      rcases k with _ | _ | _ | _ | k
                      · rw [rn4 0 (by decide)]; exact rok_none tqr4 rfl
                      · rw [exf16r]; exact rok_some tqr4 ty222 rfl (by decide) rfl
                      · rw [exf16p]; exact rok_some tqr4 ty223 rfl (by decide) rfl
                      · rw [rn4 3 (by decide)]; exact rok_none tqr4 rfl
                      · rw [rn4 (k + 4) (by simp)]; exact rok_none tqr4 rfl) rfl (fun z => by cases z) (fun z => by cases z) rfl
                refine hv5 (X12.rt hcr4 h0qn3) (sk12.rt hcr4 (by rw [ty188.2]; rfl)) (MRK.rt mr21 W24 sk12 hcr4 (by rw [ty188.2]; rfl)) (fun b hb => xl15.ty (on9 b hb)) (show 4 ≤ lnh15 n6 ∧ lnh15 n6 ≤ 4 from W25.len ty217 rfl) (fun X13 sk13 mr22 on10 ll4 => ?_)
                have on11 := fun b hb => xl16.ty (on10 b hb)
                have on12 := fun b hb => xl17.ty (on11 b hb)
                have on13 := fun b hb => xl18.ty (on12 b hb)
                have on14 := fun b hb => ty_rt (on13 b hb) hcr4 (ne_ty (on13 b hb) ty188 (by decide))
                refine c_aastR (z := j) C ck_6 dX11_changeIndicator_142 ty217 rfl tqr4 rfl rfl (by decide) (by omega) (by omega) (by omega) (fun rv3 pq3 => ⟨1300, (by rw [Phi.putr sk13 pq3 ty217 rfl]; exact Nat.le_refl _), ?_⟩)
                refine hv4 (W25.putr pq3 ty217 (rok_some ty217 tqr4 rfl (by decide) rfl) rfl (by decide)) (F18.putr X13 pq3 ty217 rfl) (MRK.putr mr22 W25 sk13 pq3 ty217 (by decide) (by decide)) (TX.rt tx14 hcr4 ty188 rfl) (fun W26 F19 mr23 tx15 => ?_)
                have kp19 := kp18.putrI tx15 W25 pq3 ty217 ⟨rfl, rfl⟩
                refine c_aload_n (j := 1) (x := a0) C dX11_changeIndicator_143 rfl ?_
                refine c_aload_n (j := 1) (x := a0) C dX11_changeIndicator_144 rfl ?_
                have re32 : rvh15 a0 0 = rvh14 a0 0 := (fl15.r ty171 rfl 0)
                rw [re31] at re32
                have re33 : rvh16 a0 0 = rvh15 a0 0 := (fl16.r ty190 rfl 0)
                rw [re32] at re33
                have re34 : rv3 a0 0 = rvh16 a0 0 := (by rw [pq3]; exact congrFun (upr_a (ne_ty ty191 ty217 (by decide))) _)
                rw [re33] at re34
                refine c_getr (k := 0) C ck_12 dX11_changeIndicator_145 w2_44 (by decide) ty191 rfl rfl (by decide) rfl re34 ?_
                refine c_st (st2 := [.ref (sk 2), .ref a0]) rfl ?_
                refine hv3 (show 0 ≤ ivh16 (sk 2) 2 ∧ ivh16 (sk 2) 2 ≤ 3000 from W26.int ty193 2) (show ivh16 (sk 2) 2 = ivh15 (sk 2) 2 from fl16.i ty192 rfl 2) (show ivh15 (sk 2) 2 = ivh14 (sk 2) 2 from fl15.i ty172 rfl 2) (fun ri64 ie137 ie138 => ?_)
                refine c_get (k := 2) C ck_2 dX11_changeIndicator_148 w1_44 (by decide) ty193 rfl rfl (by decide) rfl ?_
                have pl15 := Phi.le W26 sk13
                refine d_callV (As := [.int (iI (ivh16 (sk 2) 2))]) (rest := []) C hM (C_done (a0 := a0) (x := ivh16 (sk 2) 2) W26 sk13 ty191 (by omega) ) dX11_changeIndicator_151 kV_X11_109 rfl ty191 rfl rfl (by decide) ck_12 rfl (Nat.le_of_ble_eq_true rfl) ⟨(Nat.le_of_ble_eq_true rfl), (Nat.le_of_ble_eq_true rfl)⟩ hph pl15 (show 1300 + 0 = 1300 from rfl) (by decide) (fun rh17 Lh17 clh17 lnh17 ivh17 rvh17 h17 => ?_)
                obtain ⟨f17, rfl, rfl, rfl, rfl, rfl, fl17, W27, rgf17, exf17, kp11f17, kp12f17, kp13f17, kp14f17, kp15f17, kp16f17⟩ := h17
                refine hv40 (show 1 ≤ ivh16 a0 11 ∧ ivh16 a0 11 ≤ 100 from W26.int ty191 11) (show ivh16 a0 11 = ivh15 a0 11 from fl16.i ty190 rfl 11) (show ivh15 a0 11 = ivh14 a0 11 from fl15.i ty171 rfl 11) (show ivh14 a0 11 = ivn3 a0 11 from fl14.i ty155 rfl 11) (show ivn3 a0 11 = ivh13 a0 11 from by rw [hin3]; exact congrFun (up0_a (ne_in ty141.1 hqn3)) _) (show ivh13 a0 11 = ivh12 a0 11 from fl13.i ty113 rfl 11) (show ivh12 a0 11 = ivn1 a0 11 from fl12.i ty112 rfl 11) (show ivn1 a0 11 = iv a0 11 from by rw [hin1]; exact congrFun (up0_a (ne_in t_a0.1 hqn1)) _) (show 1 ≤ ivh16 a0 12 ∧ ivh16 a0 12 ≤ 50 from W26.int ty191 12) (show ivh16 a0 12 = ivh15 a0 12 from fl16.i ty190 rfl 12) (show ivh15 a0 12 = ivh14 a0 12 from fl15.i ty171 rfl 12) (show ivh14 a0 12 = ivn3 a0 12 from fl14.i ty155 rfl 12) (show ivn3 a0 12 = ivh13 a0 12 from by rw [hin3]; exact congrFun (up0_a (ne_in ty141.1 hqn3)) _) (show ivh13 a0 12 = ivh12 a0 12 from fl13.i ty113 rfl 12) (show ivh12 a0 12 = ivn1 a0 12 from fl12.i ty112 rfl 12) (show ivn1 a0 12 = iv a0 12 from by rw [hin1]; exact congrFun (up0_a (ne_in t_a0.1 hqn1)) _) (show (-2147483648) ≤ ivh16 a0 13 ∧ ivh16 a0 13 ≤ 2147483647 from W26.int ty191 13) (show ivh16 a0 13 = ivh15 a0 13 from fl16.i ty190 rfl 13) (show ivh15 a0 13 = ivh14 a0 13 from fl15.i ty171 rfl 13) (show ivh14 a0 13 = ivn3 a0 13 from fl14.i ty155 rfl 13) (show ivn3 a0 13 = ivh13 a0 13 from by rw [hin3]; exact congrFun (up0_a (ne_in ty141.1 hqn3)) _) (show ivh13 a0 13 = ivh12 a0 13 from fl13.i ty113 rfl 13) (show ivh12 a0 13 = ivn1 a0 13 from fl12.i ty112 rfl 13) (show ivn1 a0 13 = iv a0 13 from by rw [hin1]; exact congrFun (up0_a (ne_in t_a0.1 hqn1)) _) (show (-2147483648) ≤ ivh16 a0 14 ∧ ivh16 a0 14 ≤ 2147483647 from W26.int ty191 14) (show ivh16 a0 14 = ivh15 a0 14 from fl16.i ty190 rfl 14) (show ivh15 a0 14 = ivh14 a0 14 from fl15.i ty171 rfl 14) (show ivh14 a0 14 = ivn3 a0 14 from fl14.i ty155 rfl 14) (show ivn3 a0 14 = ivh13 a0 14 from by rw [hin3]; exact congrFun (up0_a (ne_in ty141.1 hqn3)) _) (show ivh13 a0 14 = ivh12 a0 14 from fl13.i ty113 rfl 14) (show ivh12 a0 14 = ivn1 a0 14 from fl12.i ty112 rfl 14) (show ivn1 a0 14 = iv a0 14 from by rw [hin1]; exact congrFun (up0_a (ne_in t_a0.1 hqn1)) _) (show (-2147483648) ≤ ivh16 a0 15 ∧ ivh16 a0 15 ≤ 2147483647 from W26.int ty191 15) (show ivh16 a0 15 = ivh15 a0 15 from fl16.i ty190 rfl 15) (show ivh15 a0 15 = ivh14 a0 15 from fl15.i ty171 rfl 15) (show ivh14 a0 15 = ivn3 a0 15 from fl14.i ty155 rfl 15) (show ivn3 a0 15 = ivh13 a0 15 from by rw [hin3]; exact congrFun (up0_a (ne_in ty141.1 hqn3)) _) (show ivh13 a0 15 = ivh12 a0 15 from fl13.i ty113 rfl 15) (show ivh12 a0 15 = ivn1 a0 15 from fl12.i ty112 rfl 15) (show ivn1 a0 15 = iv a0 15 from by rw [hin1]; exact congrFun (up0_a (ne_in t_a0.1 hqn1)) _) (fun ri65 ie139 ie140 ie141 ie142 ie143 ie144 ie145 ri66 ie146 ie147 ie148 ie149 ie150 ie151 ie152 ri67 ie153 ie154 ie155 ie156 ie157 ie158 ie159 ri68 ie160 ie161 ie162 ie163 ie164 ie165 ie166 ri69 ie167 ie168 ie169 ie170 ie171 ie172 ie173 => ?_)
                refine hv11 (show (-2147483648) ≤ ivh16 a0 16 ∧ ivh16 a0 16 ≤ 2147483647 from W26.int ty191 16) (show ivh16 a0 16 = ivh15 a0 16 from fl16.i ty190 rfl 16) (show ivh15 a0 16 = ivh14 a0 16 from fl15.i ty171 rfl 16) (show ivh14 a0 16 = ivn3 a0 16 from fl14.i ty155 rfl 16) (show ivn3 a0 16 = ivh13 a0 16 from by rw [hin3]; exact congrFun (up0_a (ne_in ty141.1 hqn3)) _) (show ivh13 a0 16 = ivh12 a0 16 from fl13.i ty113 rfl 16) (show ivh12 a0 16 = ivn1 a0 16 from fl12.i ty112 rfl 16) (show ivn1 a0 16 = iv a0 16 from by rw [hin1]; exact congrFun (up0_a (ne_in t_a0.1 hqn1)) _) (F19.call X13 fl17 rfl) (MRK.call mr23 W26 sk13 XT.refl fl17 rfl rfl) (kp19.call tx15 W26 fl17 rfl) (fun ri70 ie174 ie175 ie176 ie177 ie178 ie179 ie180 F20 mr24 kp20 => ?_)
                refine c_st (st2 := [.int (iI f17)]) rfl ?_
                refine hv38 (show ivh17 a0 11 = ivh16 a0 11 from kp11f17) (show ivh17 a0 12 = ivh16 a0 12 from kp12f17) (show ivh17 a0 13 = ivh16 a0 13 from kp13f17) (show ivh17 a0 14 = ivh16 a0 14 from kp14f17) (show ivh17 a0 15 = ivh16 a0 15 from kp15f17) (show ivh17 a0 16 = ivh16 a0 16 from kp16f17) (show f17 = (ivh16 (sk 2) 2) from exf17) (show 1 ≤ ivh17 a0 11 ∧ ivh17 a0 11 ≤ 100 from W27.int ty191 11) (show 1 ≤ ivh17 a0 12 ∧ ivh17 a0 12 ≤ 50 from W27.int ty191 12) (show (-2147483648) ≤ ivh17 a0 13 ∧ ivh17 a0 13 ≤ 2147483647 from W27.int ty191 13) (show (-2147483648) ≤ ivh17 a0 14 ∧ ivh17 a0 14 ≤ 2147483647 from W27.int ty191 14) (show (-2147483648) ≤ ivh17 a0 15 ∧ ivh17 a0 15 ≤ 2147483647 from W27.int ty191 15) (show (-2147483648) ≤ ivh17 a0 16 ∧ ivh17 a0 16 ≤ 2147483647 from W27.int ty191 16) (show 0 ≤ ivh17 (sk 23) 2 ∧ ivh17 (sk 23) 2 ≤ 512 from W27.int ty213 2) (show ivh17 (sk 23) 2 = ivh16 (sk 23) 2 from fl17.i ty213 rfl 2) (show ivh16 (sk 23) 2 = ivh15 (sk 23) 2 from fl16.i ty212 rfl 2) (show ivh15 (sk 23) 2 = ivh14 (sk 23) 2 from fl15.i ty182 rfl 2) (show ivh14 (sk 23) 2 = ivn3 (sk 23) 2 from fl14.i ty166 rfl 2) (show ivn3 (sk 23) 2 = ivh13 (sk 23) 2 from by rw [hin3]; exact congrFun (up0_a (ne_in ty139.1 hqn3)) _) (show 0 ≤ ivh17 (sk 22) 2 ∧ ivh17 (sk 22) 2 ≤ 30 from W27.int ty211 2) (show ivh17 (sk 22) 2 = ivh16 (sk 22) 2 from fl17.i ty211 rfl 2) (show ivh16 (sk 22) 2 = ivh15 (sk 22) 2 from fl16.i ty210 rfl 2) (show ivh15 (sk 22) 2 = ivh14 (sk 22) 2 from fl15.i ty181 rfl 2) (show ivh14 (sk 22) 2 = ivn3 (sk 22) 2 from fl14.i ty165 rfl 2) (show ivn3 (sk 22) 2 = ivh13 (sk 22) 2 from by rw [hin3]; exact congrFun (up0_a (ne_in ty151.1 hqn3)) _) (show ivh13 (sk 22) 2 = ivh12 (sk 22) 2 from fl13.i ty133 rfl 2) (show ivh12 (sk 22) 2 = ivn1 (sk 22) 2 from fl12.i ty132 rfl 2) (show ivn1 (sk 22) 2 = iv (sk 22) 2 from by rw [hin1]; exact congrFun (up0_a (ne_in tsk22.1 hqn1)) _) (show 0 ≤ ivh17 (sk 2) 2 ∧ ivh17 (sk 2) 2 ≤ 3000 from W27.int ty193 2) (show ivh17 (sk 2) 2 = ivh16 (sk 2) 2 from fl17.i ty193 rfl 2) (show (-2147483648) ≤ ivh17 qn1 0 ∧ ivh17 qn1 0 ≤ 2147483647 from W27.int ty219 0) (show ivh17 qn1 0 = ivh16 qn1 0 from fl17.i ty219 rfl 0) (show ivh16 qn1 0 = ivh15 qn1 0 from fl16.i ty218 rfl 0) (show ivh15 qn1 0 = ivh14 qn1 0 from fl15.i ty185 rfl 0) (show ivh14 qn1 0 = ivn3 qn1 0 from fl14.i ty169 rfl 0) (show ivn3 qn1 0 = ivh13 qn1 0 from by rw [hin3]; exact congrFun (up0_a (ne_in ty153.1 hqn3)) _) (show ivh13 qn1 0 = ivh12 qn1 0 from fl13.i tqr3 rfl 0) (show rvh13 qn1 1 = rvh12 qn1 1 from (fl13.r tqr3 rfl 1)) (fun gk11f17 gk12f17 gk13f17 gk14f17 gk15f17 gk16f17 gf17 ri71 ri72 ri73 ri74 ri75 ri76 ri77 ie187 ie188 ie189 ie190 ie191 ri78 ie192 ie193 ie194 ie195 ie196 ie197 ie198 ie199 ri79 ie200 ri80 ie201 ie202 ie203 ie204 ie205 ie206 re35 => ?_)
                rw [exf12r] at re35
                have re36 : rvn3 qn1 1 = rvh13 qn1 1 := (by rw [hrn3]; exact congrFun (up0_a (ne_in ty153.1 hqn3)) _)
                rw [re35] at re36
                have re37 : rvh14 qn1 1 = rvn3 qn1 1 := (fl14.r ty169 rfl 1)
                rw [re36] at re37
                have re38 : rvh15 qn1 1 = rvh14 qn1 1 := (fl15.r ty185 rfl 1)
                rw [re37] at re38
                have re39 : rvh16 qn1 1 = rvh15 qn1 1 := (fl16.r ty218 rfl 1)
                rw [re38] at re39
                have re40 : rv3 qn1 1 = rvh16 qn1 1 := (by rw [pq3]; exact congrFun (upr_a (ne_ty ty219 ty217 (by decide))) _)
                rw [re39] at re40
                have re41 : rvh13 qn1 2 = rvh12 qn1 2 := (fl13.r tqr3 rfl 2)
                rw [exf12p] at re41
                have re42 : rvn3 qn1 2 = rvh13 qn1 2 := (by rw [hrn3]; exact congrFun (up0_a (ne_in ty153.1 hqn3)) _)
                rw [re41] at re42
                have re43 : rvh14 qn1 2 = rvn3 qn1 2 := (fl14.r ty169 rfl 2)
                rw [re42] at re43
                have re44 : rvh15 qn1 2 = rvh14 qn1 2 := (fl15.r ty185 rfl 2)
                rw [re43] at re44
                have re45 : rvh16 qn1 2 = rvh15 qn1 2 := (fl16.r ty218 rfl 2)
                rw [re44] at re45
                have re46 : rv3 qn1 2 = rvh16 qn1 2 := (by rw [pq3]; exact congrFun (upr_a (ne_ty ty219 ty217 (by decide))) _)
                rw [re45] at re46
                refine hv11 (show 0 ≤ ivh17 qn1 3 ∧ ivh17 qn1 3 ≤ 5 from W27.int ty219 3) (show ivh17 qn1 3 = ivh16 qn1 3 from fl17.i ty219 rfl 3) (show ivh16 qn1 3 = ivh15 qn1 3 from fl16.i ty218 rfl 3) (show ivh15 qn1 3 = ivh14 qn1 3 from fl15.i ty185 rfl 3) (show ivh14 qn1 3 = ivn3 qn1 3 from fl14.i ty169 rfl 3) (show ivn3 qn1 3 = ivh13 qn1 3 from by rw [hin3]; exact congrFun (up0_a (ne_in ty153.1 hqn3)) _) (show ivh13 qn1 3 = ivh12 qn1 3 from fl13.i tqr3 rfl 3) (show rv3 n6 j.toNat = (some qn3) from by rw [pq3]; exact upr_s) (show (-2147483648) ≤ ivh17 qn3 0 ∧ ivh17 qn3 0 ≤ 2147483647 from W27.int tqr4 0) (show ivh17 qn3 0 = ivh16 qn3 0 from fl17.i tqr4 rfl 0) (show rv3 qn3 1 = rvh16 qn3 1 from (by rw [pq3]; exact congrFun (upr_a (ne_ty tqr4 ty217 (by decide))) _)) (fun ri81 ie207 ie208 ie209 ie210 ie211 ie212 rp3 ri82 ie213 re47 => ?_)
                rw [exf16r] at re47
                refine hv2 (show lnh15 f14 = lnh14 f14 from (xl18 f14 rgf14.1).2.2) (show rv3 qn3 2 = rvh16 qn3 2 from (by rw [pq3]; exact congrFun (upr_a (ne_ty tqr4 ty217 (by decide))) _)) (fun le2 re48 => ?_)
                rw [exf16p] at re48
                exact c_iret C dX11_changeIndicator_154 rfl (by decide) (rom0 hph pl15 (by decide)) ⟨f17, rfl, X13, F20, W27, ⟨by omega, by omega⟩, ⟨(by omega), mr24⟩, (gk11f17.trans (ie139.trans (ie140.trans (ie141.trans (ie142.trans (ie143.trans (ie144.trans ie145))))))), (gk12f17.trans (ie146.trans (ie147.trans (ie148.trans (ie149.trans (ie150.trans (ie151.trans ie152))))))), (gk13f17.trans (ie153.trans (ie154.trans (ie155.trans (ie156.trans (ie157.trans (ie158.trans ie159))))))), (gk14f17.trans (ie160.trans (ie161.trans (ie162.trans (ie163.trans (ie164.trans (ie165.trans ie166))))))), (gk15f17.trans (ie167.trans (ie168.trans (ie169.trans (ie170.trans (ie171.trans (ie172.trans ie173))))))), (gk16f17.trans (ie174.trans (ie175.trans (ie176.trans (ie177.trans (ie178.trans (ie179.trans ie180))))))), (Or.inr ⟨by omega, ob1, akob1.2, (fun ss hs hd => by
                    have e2 := irxf4 ss hs (by omega) hd
                    have e3 := e2.mp (by omega)
                    rw [Int.sub_zero] at e3
                    exact ⟨⟨by omega, by omega, gf3.mp (by omega), by omega⟩, e3.2⟩), by omega, ⟨(fun i hi => el_fr hW (tysk22 hS) rfl rfl F20 rfl rfl hi), TSF.of hW hS (fun bb tbb hbb => by have tb1 := xl5.ty tbb; have tb2 := ty_rt tb1 hcr3 (ne_ty tb1 tqn1 (by decide)); have tb3 := xl15.ty tb2; have tb4 := xl16.ty tb3; have tb5 := xl17.ty tb4; have tb6 := xl18.ty tb5; have tb7 := ty_rt tb6 hcr4 (ne_ty tb6 ty188 (by decide)); exact (Eq.trans (show ivh17 bb 7 = ivh16 bb 7 from (fl17.i tb7 rfl 7)) (Eq.trans (show ivh16 bb 7 = ivh15 bb 7 from (fl16.i tb6 rfl 7)) (Eq.trans (show ivh15 bb 7 = ivh14 bb 7 from (fl15.i tb5 rfl 7)) (Eq.trans (show ivh14 bb 7 = ivn3 bb 7 from (fl14.i tb4 rfl 7)) (Eq.trans (show ivn3 bb 7 = ivh13 bb 7 from (by rw [hin3]; exact congrFun (up0_a (ne_in tb3.1 hqn3)) _)) (Eq.trans (show ivh13 bb 7 = ivh12 bb 7 from (fl13.i tb2 rfl 7)) (Eq.trans (show ivh12 bb 7 = ivn1 bb 7 from (fl12.i tb1 rfl 7)) (show ivn1 bb 7 = iv bb 7 from (by rw [hin1]; exact congrFun (up0_a (ne_in tbb.1 hqn1)) _)))))))))) (fun bb tbb => by have tb1 := xl5.ty tbb; have tb2 := ty_rt tb1 hcr3 (ne_ty tb1 tqn1 (by decide)); have tb3 := xl15.ty tb2; have tb4 := xl16.ty tb3; have tb5 := xl17.ty tb4; have tb6 := xl18.ty tb5; have tb7 := ty_rt tb6 hcr4 (ne_ty tb6 ty188 (by decide)); exact (Eq.trans (show ivh17 bb 0 = ivh16 bb 0 from (fl17.i tb7 rfl 0)) (Eq.trans (show ivh16 bb 0 = ivh15 bb 0 from (fl16.i tb6 rfl 0)) (Eq.trans (show ivh15 bb 0 = ivh14 bb 0 from (fl15.i tb5 rfl 0)) (Eq.trans (show ivh14 bb 0 = ivn3 bb 0 from (fl14.i tb4 rfl 0)) (Eq.trans (show ivn3 bb 0 = ivh13 bb 0 from (by rw [hin3]; exact congrFun (up0_a (ne_in tb3.1 hqn3)) _)) (Eq.trans (show ivh13 bb 0 = ivh12 bb 0 from (fl13.i tb2 rfl 0)) (Eq.trans (show ivh12 bb 0 = ivn1 bb 0 from (fl12.i tb1 rfl 0)) (show ivn1 bb 0 = iv bb 0 from (by rw [hin1]; exact congrFun (up0_a (ne_in tbb.1 hqn1)) _)))))))))) (fun bb tbb => by have tb1 := xl5.ty tbb; have tb2 := ty_rt tb1 hcr3 (ne_ty tb1 tqn1 (by decide)); have tb3 := xl15.ty tb2; have tb4 := xl16.ty tb3; have tb5 := xl17.ty tb4; have tb6 := xl18.ty tb5; have tb7 := ty_rt tb6 hcr4 (ne_ty tb6 ty188 (by decide)); exact (Eq.trans (show ivh17 bb 1 = ivh16 bb 1 from (fl17.i tb7 rfl 1)) (Eq.trans (show ivh16 bb 1 = ivh15 bb 1 from (fl16.i tb6 rfl 1)) (Eq.trans (show ivh15 bb 1 = ivh14 bb 1 from (fl15.i tb5 rfl 1)) (Eq.trans (show ivh14 bb 1 = ivn3 bb 1 from (fl14.i tb4 rfl 1)) (Eq.trans (show ivn3 bb 1 = ivh13 bb 1 from (by rw [hin3]; exact congrFun (up0_a (ne_in tb3.1 hqn3)) _)) (Eq.trans (show ivh13 bb 1 = ivh12 bb 1 from (fl13.i tb2 rfl 1)) (Eq.trans (show ivh12 bb 1 = ivn1 bb 1 from (fl12.i tb1 rfl 1)) (show ivn1 bb 1 = iv bb 1 from (by rw [hin1]; exact congrFun (up0_a (ne_in tbb.1 hqn1)) _)))))))))) (fun bb tbb => by have tb1 := xl5.ty tbb; have tb2 := ty_rt tb1 hcr3 (ne_ty tb1 tqn1 (by decide)); have tb3 := xl15.ty tb2; have tb4 := xl16.ty tb3; have tb5 := xl17.ty tb4; have tb6 := xl18.ty tb5; have tb7 := ty_rt tb6 hcr4 (ne_ty tb6 ty188 (by decide)); exact (Eq.trans (show rv3 bb 4 = rvh16 bb 4 from (by rw [pq3]; exact congrFun (upr_a (ne_ty tb7 ty217 (by decide))) _)) (Eq.trans (show rvh16 bb 4 = rvh15 bb 4 from (fl16.r tb6 rfl 4)) (Eq.trans (show rvh15 bb 4 = rvh14 bb 4 from (fl15.r tb5 rfl 4)) (Eq.trans (show rvh14 bb 4 = rvn3 bb 4 from (fl14.r tb4 rfl 4)) (Eq.trans (show rvn3 bb 4 = rvh13 bb 4 from (by rw [hrn3]; exact congrFun (up0_a (ne_in tb3.1 hqn3)) _)) (Eq.trans (show rvh13 bb 4 = rvh12 bb 4 from (fl13.r tb2 rfl 4)) (Eq.trans (show rvh12 bb 4 = rvn1 bb 4 from (fl12.r tb1 rfl 4)) (show rvn1 bb 4 = rv bb 4 from (by rw [hrn1]; exact congrFun (up0_a (ne_in tbb.1 hqn1)) _)))))))))), TSQ.of hW hS (fun bb tbb hbb => by have tb1 := xl5.ty tbb; have tb2 := ty_rt tb1 hcr3 (ne_ty tb1 tqn1 (by decide)); have tb3 := xl15.ty tb2; have tb4 := xl16.ty tb3; have tb5 := xl17.ty tb4; have tb6 := xl18.ty tb5; have tb7 := ty_rt tb6 hcr4 (ne_ty tb6 ty188 (by decide)); exact (Eq.trans (show ivh17 bb 2 = ivh16 bb 2 from (fl17.i tb7 rfl 2)) (Eq.trans (show ivh16 bb 2 = ivh15 bb 2 from (fl16.i tb6 rfl 2)) (Eq.trans (show ivh15 bb 2 = ivh14 bb 2 from (fl15.i tb5 rfl 2)) (Eq.trans (show ivh14 bb 2 = ivn3 bb 2 from (fl14.i tb4 rfl 2)) (Eq.trans (show ivn3 bb 2 = ivh13 bb 2 from (by rw [hin3]; exact congrFun (up0_a (ne_in tb3.1 hqn3)) _)) (Eq.trans (show ivh13 bb 2 = ivh12 bb 2 from (fl13.i tb2 rfl 2)) (Eq.trans (show ivh12 bb 2 = ivn1 bb 2 from (fl12.i tb1 rfl 2)) (show ivn1 bb 2 = iv bb 2 from (by rw [hin1]; exact congrFun (up0_a (ne_in tbb.1 hqn1)) _))))))))))⟩, ⟨(by omega), CS0.of hW hS (Int.le_refl _) (fun i hi => ((fun i hi => el_ch W20 (tysk23 sk9) rfl rfl ((show ∀ bb, ty Lh13 clh13 bb 23 → rv3 bb 1 = rvh13 bb 1 from fun bb tbb => by have tb4 := xl16.ty tbb; have tb5 := xl17.ty tb4; have tb6 := xl18.ty tb5; have tb7 := ty_rt tb6 hcr4 (ne_ty tb6 ty188 (by decide)); exact (Eq.trans (show rv3 bb 1 = rvh16 bb 1 from (by rw [pq3]; exact congrFun (upr_a (ne_ty tb7 ty217 (by decide))) _)) (Eq.trans (show rvh16 bb 1 = rvh15 bb 1 from (fl16.r tb6 rfl 1)) (Eq.trans (show rvh15 bb 1 = rvh14 bb 1 from (fl15.r tb5 rfl 1)) (Eq.trans (show rvh14 bb 1 = rvn3 bb 1 from (fl14.r tb4 rfl 1)) (show rvn3 bb 1 = rvh13 bb 1 from (by rw [hrn3]; exact congrFun (up0_a (ne_in tbb.1 hqn3)) _))))))) (sk 23) (tysk23 sk9)) (fun bb tbb kk => by have tb4 := xl16.ty tbb; have tb5 := xl17.ty tb4; have tb6 := xl18.ty tb5; have tb7 := ty_rt tb6 hcr4 (ne_ty tb6 ty188 (by decide)); exact (Eq.trans (show rv3 bb kk = rvh16 bb kk from (by rw [pq3]; exact congrFun (upr_a (ne_ty tb7 ty217 (by decide))) _)) (Eq.trans (show rvh16 bb kk = rvh15 bb kk from (fl16.r tb6 rfl kk)) (Eq.trans (show rvh15 bb kk = rvh14 bb kk from (fl15.r tb5 rfl kk)) (Eq.trans (show rvh14 bb kk = rvn3 bb kk from (fl14.r tb4 rfl kk)) (show rvn3 bb kk = rvh13 bb kk from (by rw [hrn3]; exact congrFun (up0_a (ne_in tbb.1 hqn3)) _))))))) hi) i (by omega)).trans ((rmef13.2 i (by omega)).trans (ce2 i hi))) (fun bb tbb => by have tb1 := xl5.ty tbb; have tb2 := ty_rt tb1 hcr3 (ne_ty tb1 tqn1 (by decide)); have tb3 := xl15.ty tb2; have tb4 := xl16.ty tb3; have tb5 := xl17.ty tb4; have tb6 := xl18.ty tb5; have tb7 := ty_rt tb6 hcr4 (ne_ty tb6 ty188 (by decide)); exact (Eq.trans (show ivh17 bb 0 = ivh16 bb 0 from (fl17.i tb7 rfl 0)) (Eq.trans (show ivh16 bb 0 = ivh15 bb 0 from (fl16.i tb6 rfl 0)) (Eq.trans (show ivh15 bb 0 = ivh14 bb 0 from (fl15.i tb5 rfl 0)) (Eq.trans (show ivh14 bb 0 = ivn3 bb 0 from (fl14.i tb4 rfl 0)) (Eq.trans (show ivn3 bb 0 = ivh13 bb 0 from (by rw [hin3]; exact congrFun (up0_a (ne_in tb3.1 hqn3)) _)) (Eq.trans (show ivh13 bb 0 = ivh12 bb 0 from (fl13.i tb2 rfl 0)) (Eq.trans (show ivh12 bb 0 = ivn1 bb 0 from (fl12.i tb1 rfl 0)) (show ivn1 bb 0 = iv bb 0 from (by rw [hin1]; exact congrFun (up0_a (ne_in tbb.1 hqn1)) _)))))))))) (fun bb tbb => by have tb1 := xl5.ty tbb; have tb2 := ty_rt tb1 hcr3 (ne_ty tb1 tqn1 (by decide)); have tb3 := xl15.ty tb2; have tb4 := xl16.ty tb3; have tb5 := xl17.ty tb4; have tb6 := xl18.ty tb5; have tb7 := ty_rt tb6 hcr4 (ne_ty tb6 ty188 (by decide)); exact (Eq.trans (show rv3 bb 1 = rvh16 bb 1 from (by rw [pq3]; exact congrFun (upr_a (ne_ty tb7 ty217 (by decide))) _)) (Eq.trans (show rvh16 bb 1 = rvh15 bb 1 from (fl16.r tb6 rfl 1)) (Eq.trans (show rvh15 bb 1 = rvh14 bb 1 from (fl15.r tb5 rfl 1)) (Eq.trans (show rvh14 bb 1 = rvn3 bb 1 from (fl14.r tb4 rfl 1)) (Eq.trans (show rvn3 bb 1 = rvh13 bb 1 from (by rw [hrn3]; exact congrFun (up0_a (ne_in tb3.1 hqn3)) _)) (Eq.trans (show rvh13 bb 1 = rvh12 bb 1 from (fl13.r tb2 rfl 1)) (Eq.trans (show rvh12 bb 1 = rvn1 bb 1 from (fl12.r tb1 rfl 1)) (show rvn1 bb 1 = rv bb 1 from (by rw [hrn1]; exact congrFun (up0_a (ne_in tbb.1 hqn1)) _)))))))))), ⟨qn1, (by rw [show (iv (sk 23) 2).toNat = (ivh12 (sk 23) 2).toNat from congrArg Int.toNat (by omega)]; exact ((fun i hi => el_ch W20 (tysk23 sk9) rfl rfl ((show ∀ bb, ty Lh13 clh13 bb 23 → rv3 bb 1 = rvh13 bb 1 from fun bb tbb => by have tb4 := xl16.ty tbb; have tb5 := xl17.ty tb4; have tb6 := xl18.ty tb5; have tb7 := ty_rt tb6 hcr4 (ne_ty tb6 ty188 (by decide)); exact (Eq.trans (show rv3 bb 1 = rvh16 bb 1 from (by rw [pq3]; exact congrFun (upr_a (ne_ty tb7 ty217 (by decide))) _)) (Eq.trans (show rvh16 bb 1 = rvh15 bb 1 from (fl16.r tb6 rfl 1)) (Eq.trans (show rvh15 bb 1 = rvh14 bb 1 from (fl15.r tb5 rfl 1)) (Eq.trans (show rvh14 bb 1 = rvn3 bb 1 from (fl14.r tb4 rfl 1)) (show rvn3 bb 1 = rvh13 bb 1 from (by rw [hrn3]; exact congrFun (up0_a (ne_in tbb.1 hqn3)) _))))))) (sk 23) (tysk23 sk9)) (fun bb tbb kk => by have tb4 := xl16.ty tbb; have tb5 := xl17.ty tb4; have tb6 := xl18.ty tb5; have tb7 := ty_rt tb6 hcr4 (ne_ty tb6 ty188 (by decide)); exact (Eq.trans (show rv3 bb kk = rvh16 bb kk from (by rw [pq3]; exact congrFun (upr_a (ne_ty tb7 ty217 (by decide))) _)) (Eq.trans (show rvh16 bb kk = rvh15 bb kk from (fl16.r tb6 rfl kk)) (Eq.trans (show rvh15 bb kk = rvh14 bb kk from (fl15.r tb5 rfl kk)) (Eq.trans (show rvh14 bb kk = rvn3 bb kk from (fl14.r tb4 rfl kk)) (show rvn3 bb kk = rvh13 bb kk from (by rw [hrn3]; exact congrFun (up0_a (ne_in tbb.1 hqn3)) _))))))) hi) _ (by omega)).trans rmef13.1), (by omega), re40⟩⟩⟩), (Or.inr ⟨ob1, n6, ⟨akob1.2, hn6, by omega⟩, kp20, Or.inr ⟨qn3, f15, rp3, ⟨tqr4, ⟨by omega, f14, re47, by omega⟩, re48⟩, ty223, by omega, by omega, (fun ss hs kk hk => Eq.trans ((show ∀ bb, ty Lh15 clh15 bb 66 → ivh17 bb kk = ivh15 bb kk from fun bb tbb => by have tb7 := ty_rt tbb hcr4 (ne_ty tbb ty188 (by decide)); exact (Eq.trans (show ivh17 bb kk = ivh16 bb kk from (fl17.i tb7 rfl kk)) (show ivh16 bb kk = ivh15 bb kk from (fl16.i tbb rfl kk)))) f15 rgf15) (Eq.trans (slnf15.2.2 ss (CT.fr hs hW tsk2 F16 rfl rfl rfl rfl rfl) (by omega) kk (by omega)) (congrArg ss (by omega))))⟩, ⟨(by omega), qn1, (by rw [show (iv (sk 23) 2).toNat = (ivh12 (sk 23) 2).toNat from congrArg Int.toNat (by omega)]; exact ((fun i hi => el_ch W20 (tysk23 sk9) rfl rfl ((show ∀ bb, ty Lh13 clh13 bb 23 → rv3 bb 1 = rvh13 bb 1 from fun bb tbb => by have tb4 := xl16.ty tbb; have tb5 := xl17.ty tb4; have tb6 := xl18.ty tb5; have tb7 := ty_rt tb6 hcr4 (ne_ty tb6 ty188 (by decide)); exact (Eq.trans (show rv3 bb 1 = rvh16 bb 1 from (by rw [pq3]; exact congrFun (upr_a (ne_ty tb7 ty217 (by decide))) _)) (Eq.trans (show rvh16 bb 1 = rvh15 bb 1 from (fl16.r tb6 rfl 1)) (Eq.trans (show rvh15 bb 1 = rvh14 bb 1 from (fl15.r tb5 rfl 1)) (Eq.trans (show rvh14 bb 1 = rvn3 bb 1 from (fl14.r tb4 rfl 1)) (show rvn3 bb 1 = rvh13 bb 1 from (by rw [hrn3]; exact congrFun (up0_a (ne_in tbb.1 hqn3)) _))))))) (sk 23) (tysk23 sk9)) (fun bb tbb kk => by have tb4 := xl16.ty tbb; have tb5 := xl17.ty tb4; have tb6 := xl18.ty tb5; have tb7 := ty_rt tb6 hcr4 (ne_ty tb6 ty188 (by decide)); exact (Eq.trans (show rv3 bb kk = rvh16 bb kk from (by rw [pq3]; exact congrFun (upr_a (ne_ty tb7 ty217 (by decide))) _)) (Eq.trans (show rvh16 bb kk = rvh15 bb kk from (fl16.r tb6 rfl kk)) (Eq.trans (show rvh15 bb kk = rvh14 bb kk from (fl15.r tb5 rfl kk)) (Eq.trans (show rvh14 bb kk = rvn3 bb kk from (fl14.r tb4 rfl kk)) (show rvn3 bb kk = rvh13 bb kk from (by rw [hrn3]; exact congrFun (up0_a (ne_in tbb.1 hqn3)) _))))))) hi) _ (by omega)).trans rmef13.1), re40, (Eq.trans re46 oi2.symm), (by omega)⟩⟩), (Eq.trans (show rv3 a0 9 = rvh16 a0 9 from (by rw [pq3]; exact congrFun (upr_a (ne_ty ty191 ty217 (by decide))) _)) (Eq.trans (show rvh16 a0 9 = rvh15 a0 9 from (fl16.r ty190 rfl 9)) (Eq.trans (show rvh15 a0 9 = rvh14 a0 9 from (fl15.r ty171 rfl 9)) (Eq.trans (show rvh14 a0 9 = rvn3 a0 9 from (fl14.r ty155 rfl 9)) (Eq.trans (show rvn3 a0 9 = rvh13 a0 9 from (by rw [hrn3]; exact congrFun (up0_a (ne_in ty141.1 hqn3)) _)) (Eq.trans (show rvh13 a0 9 = rvh12 a0 9 from (fl13.r ty113 rfl 9)) (Eq.trans (show rvh12 a0 9 = rvn1 a0 9 from (fl12.r ty112 rfl 9)) (show rvn1 a0 9 = rv a0 9 from (by rw [hrn1]; exact congrFun (up0_a (ne_in t_a0.1 hqn1)) _))))))))), (Eq.trans (show rv3 a0 10 = rvh16 a0 10 from (by rw [pq3]; exact congrFun (upr_a (ne_ty ty191 ty217 (by decide))) _)) (Eq.trans (show rvh16 a0 10 = rvh15 a0 10 from (fl16.r ty190 rfl 10)) (Eq.trans (show rvh15 a0 10 = rvh14 a0 10 from (fl15.r ty171 rfl 10)) (Eq.trans (show rvh14 a0 10 = rvn3 a0 10 from (fl14.r ty155 rfl 10)) (Eq.trans (show rvn3 a0 10 = rvh13 a0 10 from (by rw [hrn3]; exact congrFun (up0_a (ne_in ty141.1 hqn3)) _)) (Eq.trans (show rvh13 a0 10 = rvh12 a0 10 from (fl13.r ty113 rfl 10)) (Eq.trans (show rvh12 a0 10 = rvn1 a0 10 from (fl12.r ty112 rfl 10)) (show rvn1 a0 10 = rv a0 10 from (by rw [hrn1]; exact congrFun (up0_a (ne_in t_a0.1 hqn1)) _)))))))))⟩
              · refine c_null C dX11_changeIndicator_106 ?_
                refine c_goto (tgt := 142) C dX11_changeIndicator_107 (by decide) ?_
                have ty224 := xl15.ty ty137
                have ll5 : 4 ≤ lnh13 n6 ∧ lnh13 n6 ≤ 4 := W20.len ty224 rfl
                refine c_aastNR (z := j) C dX11_changeIndicator_142 ty224 rfl (by omega) (by omega) (by omega) (fun rv4 pq4 => ⟨1236, (by rw [Phi.putr sk9 pq4 ty224 rfl]; exact Nat.le_refl _), ?_⟩)
                refine hv4 (W20.putr pq4 ty224 (fun _ => ⟨fun _ => by rw [ty224.2]; rfl, fun _ qq => by cases qq⟩) rfl (by decide)) (F14.putr X9 pq4 ty224 rfl) (MRK.putr mr17 W20 sk9 pq4 ty224 (by decide) (by decide)) (TX.xt tx10 xl15) (fun W28 F21 mr25 tx16 => ?_)
                have kp21 := kp14.putrI tx16 W20 pq4 ty224 ⟨rfl, rfl⟩
                refine c_aload_n (j := 1) (x := a0) C dX11_changeIndicator_143 rfl ?_
                refine c_aload_n (j := 1) (x := a0) C dX11_changeIndicator_144 rfl ?_
                have re49 : rv4 a0 0 = rvh13 a0 0 := (by rw [pq4]; exact congrFun (upr_a (ne_ty ty141 ty224 (by decide))) _)
                rw [rq3] at re49
                refine c_getr (k := 0) C ck_12 dX11_changeIndicator_145 w2_44 (by decide) ty141 rfl rfl (by decide) rfl re49 ?_
                refine c_st (st2 := [.ref (sk 2), .ref a0]) rfl ?_
                refine c_get (k := 2) C ck_2 dX11_changeIndicator_148 w1_44 (by decide) ty142 rfl rfl (by decide) rfl ?_
                have pl16 := Phi.le W28 sk9
                refine d_callV (As := [.int (iI (ivh13 (sk 2) 2))]) (rest := []) C hM (C_done (a0 := a0) (x := ivh13 (sk 2) 2) W28 sk9 ty141 (by omega) ) dX11_changeIndicator_151 kV_X11_109 rfl ty141 rfl rfl (by decide) ck_12 rfl (Nat.le_of_ble_eq_true rfl) ⟨(Nat.le_of_ble_eq_true rfl), (Nat.le_of_ble_eq_true rfl)⟩ hph pl16 (show 1236 + 0 = 1236 from rfl) (by decide) (fun rh18 Lh18 clh18 lnh18 ivh18 rvh18 h18 => ?_)
                obtain ⟨f18, rfl, rfl, rfl, rfl, rfl, fl18, W29, rgf18, exf18, kp11f18, kp12f18, kp13f18, kp14f18, kp15f18, kp16f18⟩ := h18
                refine hv27 (show 1 ≤ ivh13 a0 11 ∧ ivh13 a0 11 ≤ 100 from W28.int ty141 11) (show ivh13 a0 11 = ivh12 a0 11 from fl13.i ty113 rfl 11) (show ivh12 a0 11 = ivn1 a0 11 from fl12.i ty112 rfl 11) (show ivn1 a0 11 = iv a0 11 from by rw [hin1]; exact congrFun (up0_a (ne_in t_a0.1 hqn1)) _) (show 1 ≤ ivh13 a0 12 ∧ ivh13 a0 12 ≤ 50 from W28.int ty141 12) (show ivh13 a0 12 = ivh12 a0 12 from fl13.i ty113 rfl 12) (show ivh12 a0 12 = ivn1 a0 12 from fl12.i ty112 rfl 12) (show ivn1 a0 12 = iv a0 12 from by rw [hin1]; exact congrFun (up0_a (ne_in t_a0.1 hqn1)) _) (show (-2147483648) ≤ ivh13 a0 13 ∧ ivh13 a0 13 ≤ 2147483647 from W28.int ty141 13) (show ivh13 a0 13 = ivh12 a0 13 from fl13.i ty113 rfl 13) (show ivh12 a0 13 = ivn1 a0 13 from fl12.i ty112 rfl 13) (show ivn1 a0 13 = iv a0 13 from by rw [hin1]; exact congrFun (up0_a (ne_in t_a0.1 hqn1)) _) (show (-2147483648) ≤ ivh13 a0 14 ∧ ivh13 a0 14 ≤ 2147483647 from W28.int ty141 14) (show ivh13 a0 14 = ivh12 a0 14 from fl13.i ty113 rfl 14) (show ivh12 a0 14 = ivn1 a0 14 from fl12.i ty112 rfl 14) (show ivn1 a0 14 = iv a0 14 from by rw [hin1]; exact congrFun (up0_a (ne_in t_a0.1 hqn1)) _) (show (-2147483648) ≤ ivh13 a0 15 ∧ ivh13 a0 15 ≤ 2147483647 from W28.int ty141 15) (show ivh13 a0 15 = ivh12 a0 15 from fl13.i ty113 rfl 15) (show ivh12 a0 15 = ivn1 a0 15 from fl12.i ty112 rfl 15) (show ivn1 a0 15 = iv a0 15 from by rw [hin1]; exact congrFun (up0_a (ne_in t_a0.1 hqn1)) _) (show (-2147483648) ≤ ivh13 a0 16 ∧ ivh13 a0 16 ≤ 2147483647 from W28.int ty141 16) (show ivh13 a0 16 = ivh12 a0 16 from fl13.i ty113 rfl 16) (show ivh12 a0 16 = ivn1 a0 16 from fl12.i ty112 rfl 16) (show ivn1 a0 16 = iv a0 16 from by rw [hin1]; exact congrFun (up0_a (ne_in t_a0.1 hqn1)) _) (F21.call X9 fl18 rfl) (MRK.call mr25 W28 sk9 XT.refl fl18 rfl rfl) (kp21.call tx16 W28 fl18 rfl) (fun ri83 ie214 ie215 ie216 ri84 ie217 ie218 ie219 ri85 ie220 ie221 ie222 ri86 ie223 ie224 ie225 ri87 ie226 ie227 ie228 ri88 ie229 ie230 ie231 F22 mr26 kp22 => ?_)
                refine c_st (st2 := [.int (iI f18)]) rfl ?_
                refine hv24 (show ivh18 a0 11 = ivh13 a0 11 from kp11f18) (show ivh18 a0 12 = ivh13 a0 12 from kp12f18) (show ivh18 a0 13 = ivh13 a0 13 from kp13f18) (show ivh18 a0 14 = ivh13 a0 14 from kp14f18) (show ivh18 a0 15 = ivh13 a0 15 from kp15f18) (show ivh18 a0 16 = ivh13 a0 16 from kp16f18) (show f18 = (ivh13 (sk 2) 2) from exf18) (show 1 ≤ ivh18 a0 11 ∧ ivh18 a0 11 ≤ 100 from W29.int ty141 11) (show 1 ≤ ivh18 a0 12 ∧ ivh18 a0 12 ≤ 50 from W29.int ty141 12) (show (-2147483648) ≤ ivh18 a0 13 ∧ ivh18 a0 13 ≤ 2147483647 from W29.int ty141 13) (show (-2147483648) ≤ ivh18 a0 14 ∧ ivh18 a0 14 ≤ 2147483647 from W29.int ty141 14) (show (-2147483648) ≤ ivh18 a0 15 ∧ ivh18 a0 15 ≤ 2147483647 from W29.int ty141 15) (show (-2147483648) ≤ ivh18 a0 16 ∧ ivh18 a0 16 ≤ 2147483647 from W29.int ty141 16) (show 0 ≤ ivh18 (sk 23) 2 ∧ ivh18 (sk 23) 2 ≤ 512 from W29.int ty139 2) (show ivh18 (sk 23) 2 = ivh13 (sk 23) 2 from fl18.i ty139 rfl 2) (xl15.ty ty133) (show ivh13 (sk 22) 2 = ivh12 (sk 22) 2 from fl13.i ty133 rfl 2) (show ivh12 (sk 22) 2 = ivn1 (sk 22) 2 from fl12.i ty132 rfl 2) (show ivn1 (sk 22) 2 = iv (sk 22) 2 from by rw [hin1]; exact congrFun (up0_a (ne_in tsk22.1 hqn1)) _) (show 0 ≤ ivh18 (sk 2) 2 ∧ ivh18 (sk 2) 2 ≤ 3000 from W29.int ty142 2) (show ivh18 (sk 2) 2 = ivh13 (sk 2) 2 from fl18.i ty142 rfl 2) (xl15.ty tqr3) (show ivh13 qn1 0 = ivh12 qn1 0 from fl13.i tqr3 rfl 0) (show rvh13 qn1 1 = rvh12 qn1 1 from (fl13.r tqr3 rfl 1)) (fun gk11f18 gk12f18 gk13f18 gk14f18 gk15f18 gk16f18 gf18 ri89 ri90 ri91 ri92 ri93 ri94 ri95 ie238 ty225 ie240 ie241 ie242 ri97 ie243 ty226 ie245 re50 => ?_)
                refine hv4 (show 0 ≤ ivh18 (sk 22) 2 ∧ ivh18 (sk 22) 2 ≤ 30 from W29.int ty225 2) (show ivh18 (sk 22) 2 = ivh13 (sk 22) 2 from fl18.i ty225 rfl 2) (show (-2147483648) ≤ ivh18 qn1 0 ∧ ivh18 qn1 0 ≤ 2147483647 from W29.int ty226 0) (show ivh18 qn1 0 = ivh13 qn1 0 from fl18.i ty226 rfl 0) (fun ri96 ie239 ri98 ie244 => ?_)
                rw [exf12r] at re50
                have re51 : rv4 qn1 1 = rvh13 qn1 1 := (by rw [pq4]; exact congrFun (upr_a (ne_ty ty226 ty224 (by decide))) _)
                rw [re50] at re51
                have re52 : rvh13 qn1 2 = rvh12 qn1 2 := (fl13.r tqr3 rfl 2)
                rw [exf12p] at re52
                have re53 : rv4 qn1 2 = rvh13 qn1 2 := (by rw [pq4]; exact congrFun (upr_a (ne_ty ty226 ty224 (by decide))) _)
                rw [re52] at re53
                refine hv4 (show 0 ≤ ivh18 qn1 3 ∧ ivh18 qn1 3 ≤ 5 from W29.int ty226 3) (show ivh18 qn1 3 = ivh13 qn1 3 from fl18.i ty226 rfl 3) (show ivh13 qn1 3 = ivh12 qn1 3 from fl13.i tqr3 rfl 3) (show rv4 n6 j.toNat = none from by rw [pq4]; exact upr_s) (fun ri99 ie246 ie247 rp4 => ?_)
                exact c_iret C dX11_changeIndicator_154 rfl (by decide) (rom0 hph pl16 (by decide)) ⟨f18, rfl, X9, F22, W29, ⟨by omega, by omega⟩, ⟨(by omega), mr26⟩, (gk11f18.trans (ie214.trans (ie215.trans ie216))), (gk12f18.trans (ie217.trans (ie218.trans ie219))), (gk13f18.trans (ie220.trans (ie221.trans ie222))), (gk14f18.trans (ie223.trans (ie224.trans ie225))), (gk15f18.trans (ie226.trans (ie227.trans ie228))), (gk16f18.trans (ie229.trans (ie230.trans ie231))), (Or.inr ⟨by omega, ob1, akob1.2, (fun ss hs hd => by
                    have e2 := irxf4 ss hs (by omega) hd
                    have e3 := e2.mp (by omega)
                    rw [Int.sub_zero] at e3
                    exact ⟨⟨by omega, by omega, gf3.mp (by omega), by omega⟩, e3.2⟩), by omega, ⟨(fun i hi => el_fr hW (tysk22 hS) rfl rfl F22 rfl rfl hi), TSF.of hW hS (fun bb tbb hbb => by have tb1 := xl5.ty tbb; have tb2 := ty_rt tb1 hcr3 (ne_ty tb1 tqn1 (by decide)); have tb3 := xl15.ty tb2; exact (Eq.trans (show ivh18 bb 7 = ivh13 bb 7 from (fl18.i tb3 rfl 7)) (Eq.trans (show ivh13 bb 7 = ivh12 bb 7 from (fl13.i tb2 rfl 7)) (Eq.trans (show ivh12 bb 7 = ivn1 bb 7 from (fl12.i tb1 rfl 7)) (show ivn1 bb 7 = iv bb 7 from (by rw [hin1]; exact congrFun (up0_a (ne_in tbb.1 hqn1)) _)))))) (fun bb tbb => by have tb1 := xl5.ty tbb; have tb2 := ty_rt tb1 hcr3 (ne_ty tb1 tqn1 (by decide)); have tb3 := xl15.ty tb2; exact (Eq.trans (show ivh18 bb 0 = ivh13 bb 0 from (fl18.i tb3 rfl 0)) (Eq.trans (show ivh13 bb 0 = ivh12 bb 0 from (fl13.i tb2 rfl 0)) (Eq.trans (show ivh12 bb 0 = ivn1 bb 0 from (fl12.i tb1 rfl 0)) (show ivn1 bb 0 = iv bb 0 from (by rw [hin1]; exact congrFun (up0_a (ne_in tbb.1 hqn1)) _)))))) (fun bb tbb => by have tb1 := xl5.ty tbb; have tb2 := ty_rt tb1 hcr3 (ne_ty tb1 tqn1 (by decide)); have tb3 := xl15.ty tb2; exact (Eq.trans (show ivh18 bb 1 = ivh13 bb 1 from (fl18.i tb3 rfl 1)) (Eq.trans (show ivh13 bb 1 = ivh12 bb 1 from (fl13.i tb2 rfl 1)) (Eq.trans (show ivh12 bb 1 = ivn1 bb 1 from (fl12.i tb1 rfl 1)) (show ivn1 bb 1 = iv bb 1 from (by rw [hin1]; exact congrFun (up0_a (ne_in tbb.1 hqn1)) _)))))) (fun bb tbb => by have tb1 := xl5.ty tbb; have tb2 := ty_rt tb1 hcr3 (ne_ty tb1 tqn1 (by decide)); have tb3 := xl15.ty tb2; exact (Eq.trans (show rv4 bb 4 = rvh13 bb 4 from (by rw [pq4]; exact congrFun (upr_a (ne_ty tb3 ty224 (by decide))) _)) (Eq.trans (show rvh13 bb 4 = rvh12 bb 4 from (fl13.r tb2 rfl 4)) (Eq.trans (show rvh12 bb 4 = rvn1 bb 4 from (fl12.r tb1 rfl 4)) (show rvn1 bb 4 = rv bb 4 from (by rw [hrn1]; exact congrFun (up0_a (ne_in tbb.1 hqn1)) _)))))), TSQ.of hW hS (fun bb tbb hbb => by have tb1 := xl5.ty tbb; have tb2 := ty_rt tb1 hcr3 (ne_ty tb1 tqn1 (by decide)); have tb3 := xl15.ty tb2; exact (Eq.trans (show ivh18 bb 2 = ivh13 bb 2 from (fl18.i tb3 rfl 2)) (Eq.trans (show ivh13 bb 2 = ivh12 bb 2 from (fl13.i tb2 rfl 2)) (Eq.trans (show ivh12 bb 2 = ivn1 bb 2 from (fl12.i tb1 rfl 2)) (show ivn1 bb 2 = iv bb 2 from (by rw [hin1]; exact congrFun (up0_a (ne_in tbb.1 hqn1)) _))))))⟩, ⟨(by omega), CS0.of hW hS (Int.le_refl _) (fun i hi => ((fun i hi => el_ch W20 (tysk23 sk9) rfl rfl ((show ∀ bb, ty Lh13 clh13 bb 23 → rv4 bb 1 = rvh13 bb 1 from fun bb tbb => by exact (show rv4 bb 1 = rvh13 bb 1 from (by rw [pq4]; exact congrFun (upr_a (ne_ty tbb ty224 (by decide))) _))) (sk 23) (tysk23 sk9)) (fun bb tbb kk => by exact (show rv4 bb kk = rvh13 bb kk from (by rw [pq4]; exact congrFun (upr_a (ne_ty tbb ty224 (by decide))) _))) hi) i (by omega)).trans ((rmef13.2 i (by omega)).trans (ce2 i hi))) (fun bb tbb => by have tb1 := xl5.ty tbb; have tb2 := ty_rt tb1 hcr3 (ne_ty tb1 tqn1 (by decide)); have tb3 := xl15.ty tb2; exact (Eq.trans (show ivh18 bb 0 = ivh13 bb 0 from (fl18.i tb3 rfl 0)) (Eq.trans (show ivh13 bb 0 = ivh12 bb 0 from (fl13.i tb2 rfl 0)) (Eq.trans (show ivh12 bb 0 = ivn1 bb 0 from (fl12.i tb1 rfl 0)) (show ivn1 bb 0 = iv bb 0 from (by rw [hin1]; exact congrFun (up0_a (ne_in tbb.1 hqn1)) _)))))) (fun bb tbb => by have tb1 := xl5.ty tbb; have tb2 := ty_rt tb1 hcr3 (ne_ty tb1 tqn1 (by decide)); have tb3 := xl15.ty tb2; exact (Eq.trans (show rv4 bb 1 = rvh13 bb 1 from (by rw [pq4]; exact congrFun (upr_a (ne_ty tb3 ty224 (by decide))) _)) (Eq.trans (show rvh13 bb 1 = rvh12 bb 1 from (fl13.r tb2 rfl 1)) (Eq.trans (show rvh12 bb 1 = rvn1 bb 1 from (fl12.r tb1 rfl 1)) (show rvn1 bb 1 = rv bb 1 from (by rw [hrn1]; exact congrFun (up0_a (ne_in tbb.1 hqn1)) _)))))), ⟨qn1, (by rw [show (iv (sk 23) 2).toNat = (ivh12 (sk 23) 2).toNat from congrArg Int.toNat (by omega)]; exact ((fun i hi => el_ch W20 (tysk23 sk9) rfl rfl ((show ∀ bb, ty Lh13 clh13 bb 23 → rv4 bb 1 = rvh13 bb 1 from fun bb tbb => by exact (show rv4 bb 1 = rvh13 bb 1 from (by rw [pq4]; exact congrFun (upr_a (ne_ty tbb ty224 (by decide))) _))) (sk 23) (tysk23 sk9)) (fun bb tbb kk => by exact (show rv4 bb kk = rvh13 bb kk from (by rw [pq4]; exact congrFun (upr_a (ne_ty tbb ty224 (by decide))) _))) hi) _ (by omega)).trans rmef13.1), (by omega), re51⟩⟩⟩), (Or.inr ⟨ob1, n6, ⟨akob1.2, hn6, by omega⟩, kp22, Or.inl ⟨by omega, rp4⟩, ⟨(by omega), qn1, (by rw [show (iv (sk 23) 2).toNat = (ivh12 (sk 23) 2).toNat from congrArg Int.toNat (by omega)]; exact ((fun i hi => el_ch W20 (tysk23 sk9) rfl rfl ((show ∀ bb, ty Lh13 clh13 bb 23 → rv4 bb 1 = rvh13 bb 1 from fun bb tbb => by exact (show rv4 bb 1 = rvh13 bb 1 from (by rw [pq4]; exact congrFun (upr_a (ne_ty tbb ty224 (by decide))) _))) (sk 23) (tysk23 sk9)) (fun bb tbb kk => by exact (show rv4 bb kk = rvh13 bb kk from (by rw [pq4]; exact congrFun (upr_a (ne_ty tbb ty224 (by decide))) _))) hi) _ (by omega)).trans rmef13.1), re51, (Eq.trans re53 oi2.symm), (by omega)⟩⟩), (Eq.trans (show rv4 a0 9 = rvh13 a0 9 from (by rw [pq4]; exact congrFun (upr_a (ne_ty ty141 ty224 (by decide))) _)) (Eq.trans (show rvh13 a0 9 = rvh12 a0 9 from (fl13.r ty113 rfl 9)) (Eq.trans (show rvh12 a0 9 = rvn1 a0 9 from (fl12.r ty112 rfl 9)) (show rvn1 a0 9 = rv a0 9 from (by rw [hrn1]; exact congrFun (up0_a (ne_in t_a0.1 hqn1)) _))))), (Eq.trans (show rv4 a0 10 = rvh13 a0 10 from (by rw [pq4]; exact congrFun (upr_a (ne_ty ty141 ty224 (by decide))) _)) (Eq.trans (show rvh13 a0 10 = rvh12 a0 10 from (fl13.r ty113 rfl 10)) (Eq.trans (show rvh12 a0 10 = rvn1 a0 10 from (fl12.r ty112 rfl 10)) (show rvn1 a0 10 = rv a0 10 from (by rw [hrn1]; exact congrFun (up0_a (ne_in t_a0.1 hqn1)) _)))))⟩
          · clear gf4
            refine c_aload_n (j := 1) (x := a0) C dX11_changeIndicator_61 rfl ?_
            refine c_bipush (z := 6) C dX11_changeIndicator_62 (by decide) ?_
            refine d_callV (As := [.int (iI 6)]) (rest := []) C hM (C_refuse (a0 := a0) (x := 6) hW hS t_a0 ⟨by decide, by decide⟩ ) dX11_changeIndicator_64 kV_X11_102 rfl t_a0 rfl rfl (by decide) ck_12 rfl (Nat.le_of_ble_eq_true rfl) ⟨(Nat.le_of_ble_eq_true rfl), (Nat.le_of_ble_eq_true rfl)⟩ hph hph (show 0 + 0 = 0 from rfl) (by decide) (fun rh19 Lh19 clh19 lnh19 ivh19 rvh19 h19 => ?_)
            obtain ⟨f19, rfl, rfl, rfl, rfl, rfl, fl19, W30, rgf19, exf19, kp11f19, kp12f19, kp13f19, kp14f19, kp15f19, kp16f19⟩ := h19
            refine hv8 (show 1 ≤ iv a0 11 ∧ iv a0 11 ≤ 100 from hW.int t_a0 11) (show 1 ≤ iv a0 12 ∧ iv a0 12 ≤ 50 from hW.int t_a0 12) (show (-2147483648) ≤ iv a0 13 ∧ iv a0 13 ≤ 2147483647 from hW.int t_a0 13) (show (-2147483648) ≤ iv a0 14 ∧ iv a0 14 ≤ 2147483647 from hW.int t_a0 14) (show (-2147483648) ≤ iv a0 15 ∧ iv a0 15 ≤ 2147483647 from hW.int t_a0 15) (show (-2147483648) ≤ iv a0 16 ∧ iv a0 16 ≤ 2147483647 from hW.int t_a0 16) (hF0.call hX0 fl19 rfl) (MRK.call hmr hW hS XT.refl fl19 rfl rfl) (fun ri100 ri101 ri102 ri103 ri104 ri105 F23 mr27 => ?_)
            refine c_st (st2 := [.int (iI f19)]) rfl ?_
            refine hv21 (show ivh19 a0 11 = iv a0 11 from kp11f19) (show ivh19 a0 12 = iv a0 12 from kp12f19) (show ivh19 a0 13 = iv a0 13 from kp13f19) (show ivh19 a0 14 = iv a0 14 from kp14f19) (show ivh19 a0 15 = iv a0 15 from kp15f19) (show ivh19 a0 16 = iv a0 16 from kp16f19) (show f19 = -1 from exf19) (show 1 ≤ ivh19 a0 11 ∧ ivh19 a0 11 ≤ 100 from W30.int t_a0 11) (show 1 ≤ ivh19 a0 12 ∧ ivh19 a0 12 ≤ 50 from W30.int t_a0 12) (show (-2147483648) ≤ ivh19 a0 13 ∧ ivh19 a0 13 ≤ 2147483647 from W30.int t_a0 13) (show (-2147483648) ≤ ivh19 a0 14 ∧ ivh19 a0 14 ≤ 2147483647 from W30.int t_a0 14) (show (-2147483648) ≤ ivh19 a0 15 ∧ ivh19 a0 15 ≤ 2147483647 from W30.int t_a0 15) (show (-2147483648) ≤ ivh19 a0 16 ∧ ivh19 a0 16 ≤ 2147483647 from W30.int t_a0 16) (show 0 ≤ ivh19 (sk 23) 2 ∧ ivh19 (sk 23) 2 ≤ 512 from W30.int tsk23 2) (show ivh19 (sk 23) 2 = iv (sk 23) 2 from fl19.i tsk23 rfl 2) (show 0 ≤ ivh19 (sk 22) 2 ∧ ivh19 (sk 22) 2 ≤ 30 from W30.int tsk22 2) (show ivh19 (sk 22) 2 = iv (sk 22) 2 from fl19.i tsk22 rfl 2) (show 0 ≤ ivh19 (sk 2) 2 ∧ ivh19 (sk 2) 2 ≤ 3000 from W30.int tsk2 2) (show ivh19 (sk 2) 2 = iv (sk 2) 2 from fl19.i tsk2 rfl 2) (show (-2147483648) ≤ ivh19 ob1 0 ∧ ivh19 ob1 0 ≤ 2147483647 from W30.int tob1 0) (show ivh19 ob1 0 = iv ob1 0 from fl19.i tob1 rfl 0) (fun gk11f19 gk12f19 gk13f19 gk14f19 gk15f19 gk16f19 gf19 ri106 ri107 ri108 ri109 ri110 ri111 ri112 ie254 ri113 ie255 ri114 ie256 ri115 ie257 => ?_)
            exact c_iret C dX11_changeIndicator_67 rfl (by decide) (rom0 hph hph (by decide)) ⟨f19, rfl, hX0, F23, W30, ⟨by omega, by omega⟩, ⟨(by omega), mr27⟩, gk11f19, gk12f19, gk13f19, gk14f19, gk15f19, gk16f19, (Or.inl ⟨by omega, PSAME.fr hW hS fl19 rfl rfl rfl rfl rfl rfl rfl, (fun ss t hs ht hd h => by
                have e := ht.uni akob1.2
                subst e
                obtain ⟨⟨h1, h2, -, h4⟩, h5⟩ := h
                have e1 := irxf4 ss hs (by omega) hd
                have e2 := e1.mpr ⟨by omega, by rw [Int.sub_zero]; exact h5⟩
                clear e1
                omega)⟩), (Or.inl ⟨by omega, KP.fr hW fl19 rfl⟩), rfl, rfl⟩
        · refine c_aload_n (j := 1) (x := a0) C dX11_changeIndicator_43 rfl ?_
          refine c_iconst C dX11_changeIndicator_44 ?_
          refine d_callV (As := [.int (iI 4)]) (rest := []) C hM (C_refuse (a0 := a0) (x := 4) hW hS t_a0 ⟨by decide, by decide⟩ ) dX11_changeIndicator_45 kV_X11_102 rfl t_a0 rfl rfl (by decide) ck_12 rfl (Nat.le_of_ble_eq_true rfl) ⟨(Nat.le_of_ble_eq_true rfl), (Nat.le_of_ble_eq_true rfl)⟩ hph hph (show 0 + 0 = 0 from rfl) (by decide) (fun rh20 Lh20 clh20 lnh20 ivh20 rvh20 h20 => ?_)
          obtain ⟨f20, rfl, rfl, rfl, rfl, rfl, fl20, W31, rgf20, exf20, kp11f20, kp12f20, kp13f20, kp14f20, kp15f20, kp16f20⟩ := h20
          refine hv8 (show 1 ≤ iv a0 11 ∧ iv a0 11 ≤ 100 from hW.int t_a0 11) (show 1 ≤ iv a0 12 ∧ iv a0 12 ≤ 50 from hW.int t_a0 12) (show (-2147483648) ≤ iv a0 13 ∧ iv a0 13 ≤ 2147483647 from hW.int t_a0 13) (show (-2147483648) ≤ iv a0 14 ∧ iv a0 14 ≤ 2147483647 from hW.int t_a0 14) (show (-2147483648) ≤ iv a0 15 ∧ iv a0 15 ≤ 2147483647 from hW.int t_a0 15) (show (-2147483648) ≤ iv a0 16 ∧ iv a0 16 ≤ 2147483647 from hW.int t_a0 16) (hF0.call hX0 fl20 rfl) (MRK.call hmr hW hS XT.refl fl20 rfl rfl) (fun ri116 ri117 ri118 ri119 ri120 ri121 F24 mr28 => ?_)
          refine c_st (st2 := [.int (iI f20)]) rfl ?_
          refine hv21 (show ivh20 a0 11 = iv a0 11 from kp11f20) (show ivh20 a0 12 = iv a0 12 from kp12f20) (show ivh20 a0 13 = iv a0 13 from kp13f20) (show ivh20 a0 14 = iv a0 14 from kp14f20) (show ivh20 a0 15 = iv a0 15 from kp15f20) (show ivh20 a0 16 = iv a0 16 from kp16f20) (show f20 = -1 from exf20) (show 1 ≤ ivh20 a0 11 ∧ ivh20 a0 11 ≤ 100 from W31.int t_a0 11) (show 1 ≤ ivh20 a0 12 ∧ ivh20 a0 12 ≤ 50 from W31.int t_a0 12) (show (-2147483648) ≤ ivh20 a0 13 ∧ ivh20 a0 13 ≤ 2147483647 from W31.int t_a0 13) (show (-2147483648) ≤ ivh20 a0 14 ∧ ivh20 a0 14 ≤ 2147483647 from W31.int t_a0 14) (show (-2147483648) ≤ ivh20 a0 15 ∧ ivh20 a0 15 ≤ 2147483647 from W31.int t_a0 15) (show (-2147483648) ≤ ivh20 a0 16 ∧ ivh20 a0 16 ≤ 2147483647 from W31.int t_a0 16) (show 0 ≤ ivh20 (sk 23) 2 ∧ ivh20 (sk 23) 2 ≤ 512 from W31.int tsk23 2) (show ivh20 (sk 23) 2 = iv (sk 23) 2 from fl20.i tsk23 rfl 2) (show 0 ≤ ivh20 (sk 22) 2 ∧ ivh20 (sk 22) 2 ≤ 30 from W31.int tsk22 2) (show ivh20 (sk 22) 2 = iv (sk 22) 2 from fl20.i tsk22 rfl 2) (show 0 ≤ ivh20 (sk 2) 2 ∧ ivh20 (sk 2) 2 ≤ 3000 from W31.int tsk2 2) (show ivh20 (sk 2) 2 = iv (sk 2) 2 from fl20.i tsk2 rfl 2) (show (-2147483648) ≤ ivh20 ob1 0 ∧ ivh20 ob1 0 ≤ 2147483647 from W31.int tob1 0) (show ivh20 ob1 0 = iv ob1 0 from fl20.i tob1 rfl 0) (fun gk11f20 gk12f20 gk13f20 gk14f20 gk15f20 gk16f20 gf20 ri122 ri123 ri124 ri125 ri126 ri127 ri128 ie264 ri129 ie265 ri130 ie266 ri131 ie267 => ?_)
          exact c_iret C dX11_changeIndicator_48 rfl (by decide) (rom0 hph hph (by decide)) ⟨f20, rfl, hX0, F24, W31, ⟨by omega, by omega⟩, ⟨(by omega), mr28⟩, gk11f20, gk12f20, gk13f20, gk14f20, gk15f20, gk16f20, (Or.inl ⟨by omega, PSAME.fr hW hS fl20 rfl rfl rfl rfl rfl rfl rfl, (fun ss t hs ht hd h => by
              have e := ht.uni akob1.2
              subst e
              obtain ⟨⟨h1, h2, h3, h4⟩, -⟩ := h
              have m := gf3
              have m2 : f3 = 1 := m.mpr h3
              omega)⟩), (Or.inl ⟨by omega, KP.fr hW fl20 rfl⟩), rfl, rfl⟩
      · subst oq1
        refine c_lv (lv2 := [(3, .null), (0, .ref a0), (1, .int (iI i)), (2, .int (iI j))]) [0, 1, 2, 3] rfl ?_
        refine c_st (st2 := []) rfl ?_
        refine c_aload_n (j := 1) (x := a0) C dX11_changeIndicator_29 rfl ?_
        refine c_iconst C dX11_changeIndicator_30 ?_
        refine d_callV (As := [.int (iI 3)]) (rest := []) C hM (C_refuse (a0 := a0) (x := 3) hW hS t_a0 ⟨by decide, by decide⟩ ) dX11_changeIndicator_31 kV_X11_102 rfl t_a0 rfl rfl (by decide) ck_12 rfl (Nat.le_of_ble_eq_true rfl) ⟨(Nat.le_of_ble_eq_true rfl), (Nat.le_of_ble_eq_true rfl)⟩ hph hph (show 0 + 0 = 0 from rfl) (by decide) (fun rh21 Lh21 clh21 lnh21 ivh21 rvh21 h21 => ?_)
        obtain ⟨f21, rfl, rfl, rfl, rfl, rfl, fl21, W32, rgf21, exf21, kp11f21, kp12f21, kp13f21, kp14f21, kp15f21, kp16f21⟩ := h21
        refine hv8 (show 1 ≤ iv a0 11 ∧ iv a0 11 ≤ 100 from hW.int t_a0 11) (show 1 ≤ iv a0 12 ∧ iv a0 12 ≤ 50 from hW.int t_a0 12) (show (-2147483648) ≤ iv a0 13 ∧ iv a0 13 ≤ 2147483647 from hW.int t_a0 13) (show (-2147483648) ≤ iv a0 14 ∧ iv a0 14 ≤ 2147483647 from hW.int t_a0 14) (show (-2147483648) ≤ iv a0 15 ∧ iv a0 15 ≤ 2147483647 from hW.int t_a0 15) (show (-2147483648) ≤ iv a0 16 ∧ iv a0 16 ≤ 2147483647 from hW.int t_a0 16) (hF0.call hX0 fl21 rfl) (MRK.call hmr hW hS XT.refl fl21 rfl rfl) (fun ri132 ri133 ri134 ri135 ri136 ri137 F25 mr29 => ?_)
        refine c_st (st2 := [.int (iI f21)]) rfl ?_
        refine hv19 (show ivh21 a0 11 = iv a0 11 from kp11f21) (show ivh21 a0 12 = iv a0 12 from kp12f21) (show ivh21 a0 13 = iv a0 13 from kp13f21) (show ivh21 a0 14 = iv a0 14 from kp14f21) (show ivh21 a0 15 = iv a0 15 from kp15f21) (show ivh21 a0 16 = iv a0 16 from kp16f21) (show f21 = -1 from exf21) (show 1 ≤ ivh21 a0 11 ∧ ivh21 a0 11 ≤ 100 from W32.int t_a0 11) (show 1 ≤ ivh21 a0 12 ∧ ivh21 a0 12 ≤ 50 from W32.int t_a0 12) (show (-2147483648) ≤ ivh21 a0 13 ∧ ivh21 a0 13 ≤ 2147483647 from W32.int t_a0 13) (show (-2147483648) ≤ ivh21 a0 14 ∧ ivh21 a0 14 ≤ 2147483647 from W32.int t_a0 14) (show (-2147483648) ≤ ivh21 a0 15 ∧ ivh21 a0 15 ≤ 2147483647 from W32.int t_a0 15) (show (-2147483648) ≤ ivh21 a0 16 ∧ ivh21 a0 16 ≤ 2147483647 from W32.int t_a0 16) (show 0 ≤ ivh21 (sk 23) 2 ∧ ivh21 (sk 23) 2 ≤ 512 from W32.int tsk23 2) (show ivh21 (sk 23) 2 = iv (sk 23) 2 from fl21.i tsk23 rfl 2) (show 0 ≤ ivh21 (sk 22) 2 ∧ ivh21 (sk 22) 2 ≤ 30 from W32.int tsk22 2) (show ivh21 (sk 22) 2 = iv (sk 22) 2 from fl21.i tsk22 rfl 2) (show 0 ≤ ivh21 (sk 2) 2 ∧ ivh21 (sk 2) 2 ≤ 3000 from W32.int tsk2 2) (show ivh21 (sk 2) 2 = iv (sk 2) 2 from fl21.i tsk2 rfl 2) (fun gk11f21 gk12f21 gk13f21 gk14f21 gk15f21 gk16f21 gf21 ri138 ri139 ri140 ri141 ri142 ri143 ri144 ie274 ri145 ie275 ri146 ie276 => ?_)
        exact c_iret C dX11_changeIndicator_34 rfl (by decide) (rom0 hph hph (by decide)) ⟨f21, rfl, hX0, F25, W32, ⟨by omega, by omega⟩, ⟨(by omega), mr29⟩, gk11f21, gk12f21, gk13f21, gk14f21, gk15f21, gk16f21, (Or.inl ⟨by omega, PSAME.fr hW hS fl21 rfl rfl rfl rfl rfl rfl rfl, (fun ss t hs ht hd _ => gf2.2 rfl t ht)⟩), (Or.inl ⟨by omega, KP.fr hW fl21 rfl⟩), rfl, rfl⟩
    · refine c_aload_n (j := 0) (x := a0) C dX11_changeIndicator_9 rfl ?_
      refine c_bipush (z := 6) C dX11_changeIndicator_10 (by decide) ?_
      refine d_callV (As := [.int (iI 6)]) (rest := []) C hM (C_refuse (a0 := a0) (x := 6) hW hS t_a0 ⟨by decide, by decide⟩ ) dX11_changeIndicator_12 kV_X11_102 rfl t_a0 rfl rfl (by decide) ck_12 rfl (Nat.le_of_ble_eq_true rfl) ⟨(Nat.le_of_ble_eq_true rfl), (Nat.le_of_ble_eq_true rfl)⟩ hph hph (show 0 + 0 = 0 from rfl) (by decide) (fun rh22 Lh22 clh22 lnh22 ivh22 rvh22 h22 => ?_)
      obtain ⟨f22, rfl, rfl, rfl, rfl, rfl, fl22, W33, rgf22, exf22, kp11f22, kp12f22, kp13f22, kp14f22, kp15f22, kp16f22⟩ := h22
      refine hv8 (show 1 ≤ iv a0 11 ∧ iv a0 11 ≤ 100 from hW.int t_a0 11) (show 1 ≤ iv a0 12 ∧ iv a0 12 ≤ 50 from hW.int t_a0 12) (show (-2147483648) ≤ iv a0 13 ∧ iv a0 13 ≤ 2147483647 from hW.int t_a0 13) (show (-2147483648) ≤ iv a0 14 ∧ iv a0 14 ≤ 2147483647 from hW.int t_a0 14) (show (-2147483648) ≤ iv a0 15 ∧ iv a0 15 ≤ 2147483647 from hW.int t_a0 15) (show (-2147483648) ≤ iv a0 16 ∧ iv a0 16 ≤ 2147483647 from hW.int t_a0 16) (hF0.call hX0 fl22 rfl) (MRK.call hmr hW hS XT.refl fl22 rfl rfl) (fun ri147 ri148 ri149 ri150 ri151 ri152 F26 mr30 => ?_)
      refine c_st (st2 := [.int (iI f22)]) rfl ?_
      refine hv19 (show ivh22 a0 11 = iv a0 11 from kp11f22) (show ivh22 a0 12 = iv a0 12 from kp12f22) (show ivh22 a0 13 = iv a0 13 from kp13f22) (show ivh22 a0 14 = iv a0 14 from kp14f22) (show ivh22 a0 15 = iv a0 15 from kp15f22) (show ivh22 a0 16 = iv a0 16 from kp16f22) (show f22 = -1 from exf22) (show 1 ≤ ivh22 a0 11 ∧ ivh22 a0 11 ≤ 100 from W33.int t_a0 11) (show 1 ≤ ivh22 a0 12 ∧ ivh22 a0 12 ≤ 50 from W33.int t_a0 12) (show (-2147483648) ≤ ivh22 a0 13 ∧ ivh22 a0 13 ≤ 2147483647 from W33.int t_a0 13) (show (-2147483648) ≤ ivh22 a0 14 ∧ ivh22 a0 14 ≤ 2147483647 from W33.int t_a0 14) (show (-2147483648) ≤ ivh22 a0 15 ∧ ivh22 a0 15 ≤ 2147483647 from W33.int t_a0 15) (show (-2147483648) ≤ ivh22 a0 16 ∧ ivh22 a0 16 ≤ 2147483647 from W33.int t_a0 16) (show 0 ≤ ivh22 (sk 23) 2 ∧ ivh22 (sk 23) 2 ≤ 512 from W33.int tsk23 2) (show ivh22 (sk 23) 2 = iv (sk 23) 2 from fl22.i tsk23 rfl 2) (show 0 ≤ ivh22 (sk 22) 2 ∧ ivh22 (sk 22) 2 ≤ 30 from W33.int tsk22 2) (show ivh22 (sk 22) 2 = iv (sk 22) 2 from fl22.i tsk22 rfl 2) (show 0 ≤ ivh22 (sk 2) 2 ∧ ivh22 (sk 2) 2 ≤ 3000 from W33.int tsk2 2) (show ivh22 (sk 2) 2 = iv (sk 2) 2 from fl22.i tsk2 rfl 2) (fun gk11f22 gk12f22 gk13f22 gk14f22 gk15f22 gk16f22 gf22 ri153 ri154 ri155 ri156 ri157 ri158 ri159 ie283 ri160 ie284 ri161 ie285 => ?_)
      exact c_iret C dX11_changeIndicator_15 rfl (by decide) (rom0 hph hph (by decide)) ⟨f22, rfl, hX0, F26, W33, ⟨by omega, by omega⟩, ⟨(by omega), mr30⟩, gk11f22, gk12f22, gk13f22, gk14f22, gk15f22, gk16f22, (Or.inl ⟨by omega, PSAME.fr hW hS fl22 rfl rfl rfl rfl rfl rfl rfl, (fun ss t hs ht hd h => by
          obtain ⟨h1, h2, h3, h4⟩ := h.1
          omega)⟩), (Or.inl ⟨by omega, KP.fr hW fl22 rfl⟩), rfl, rfl⟩
set_option maxHeartbeats 4000000 in
set_option maxRecDepth 100000 in
theorem C_indicator {l : Launch} {G : GT} {mi : Nat} {sk : Nat → Nat} {L : List Nat} {cl ln : Nat → Nat} {iv : Nat → Nat → Int} {rv : Nat → Nat → Option Nat}  {a0 : Nat} {i : Int} {j : Int} (hW : WT (g0 G) sk L cl ln iv rv) (hS : SKL sk L cl) (t_a0 : ty L cl a0 1) (h_i : -2147483648 ≤ i ∧ i ≤ 2147483647) (h_j : -2147483648 ≤ j ∧ j ≤ 2147483647) (hmr : MRK sk cl iv rv) (hch : iv (sk 23) 2 < 512) : Mc l G mi (Phi (g0 G) sk) PHM yX11_indicator cX11_indicator 4 (some .int) 9 [.ref a0, .int (iI i), .int (iI j)] L cl ln iv rv 1300 (fun v L2 cl2 ln2 iv2 rv2 => ∃ f : Int, v = some (.int (iI f)) ∧ XT L cl ln L2 cl2 ln2 ∧ fT [1, 65, 66, 206, 68, 23, 1001, 201, 2] L cl iv rv iv2 rv2 ∧ WT (g0 G) sk L2 cl2 ln2 iv2 rv2 ∧ (-2147483648 ≤ f ∧ f ≤ 2147483647) ∧ (iv2 (sk 23) 2 ≤ iv (sk 23) 2 + 1 ∧ MRK sk cl2 iv2 rv2) ∧ iv2 a0 11 = iv a0 11 ∧ iv2 a0 12 = iv a0 12 ∧ iv2 a0 13 = iv a0 13 ∧ iv2 a0 14 = iv a0 14 ∧ iv2 a0 15 = iv a0 15 ∧ iv2 a0 16 = iv a0 16 ∧ iv2 (sk 2) 2 = 0 ∧ (PIND i j f sk iv rv iv2 rv2) ∧ (KIN L cl sk iv rv L2 cl2 ln2 iv2 rv2 i j f) ∧ rv2 a0 9 = rv a0 9 ∧ rv2 a0 10 = rv a0 10) := by
  refine Mc.mk (by decide) (Nat.le_of_ble_eq_true rfl) ?_
  intro p e s m args below meth c A C hM
  refine hv14 (Phi.le hW hS) (show ty L cl (sk 2) 2 from ⟨(hS 2 rfl).1, by rw [(hS 2 rfl).2]; rfl⟩) (show ty L cl (sk 3) 3 from ⟨(hS 3 rfl).1, by rw [(hS 3 rfl).2]; rfl⟩) (show ty L cl (sk 4) 4 from ⟨(hS 4 rfl).1, by rw [(hS 4 rfl).2]; rfl⟩) (show ty L cl (sk 5) 5 from ⟨(hS 5 rfl).1, by rw [(hS 5 rfl).2]; rfl⟩) (show ty L cl (sk 13) 13 from ⟨(hS 13 rfl).1, by rw [(hS 13 rfl).2]; rfl⟩) (show ty L cl (sk 14) 14 from ⟨(hS 14 rfl).1, by rw [(hS 14 rfl).2]; rfl⟩) (show ty L cl (sk 15) 15 from ⟨(hS 15 rfl).1, by rw [(hS 15 rfl).2]; rfl⟩) (show ty L cl (sk 16) 16 from ⟨(hS 16 rfl).1, by rw [(hS 16 rfl).2]; rfl⟩) (show ty L cl (sk 17) 17 from ⟨(hS 17 rfl).1, by rw [(hS 17 rfl).2]; rfl⟩) (show ty L cl (sk 22) 22 from ⟨(hS 22 rfl).1, by rw [(hS 22 rfl).2]; rfl⟩) (show ty L cl (sk 23) 23 from ⟨(hS 23 rfl).1, by rw [(hS 23 rfl).2]; rfl⟩) (show XT L cl ln L cl ln from XT.refl) (show fT [1, 65, 66, 206, 68, 23, 1001, 201, 2] L cl iv rv iv rv from fT.refl) (fun hph tsk2 tsk3 tsk4 tsk5 tsk13 tsk14 tsk15 tsk16 tsk17 tsk22 tsk23 hX0 hF0 => ?_)
  have ri1 : 0 ≤ iv (sk 23) 2 ∧ iv (sk 23) 2 ≤ 512 := hW.int tsk23 2
  refine c_aload_n (j := 0) (x := a0) C dX11_indicator_0 rfl ?_
  refine c_iload_n (j := 1) C dX11_indicator_1 rfl ?_
  refine c_iload_n (j := 2) C dX11_indicator_2 rfl ?_
  refine d_callV (As := [.int (iI i), .int (iI j)]) (rest := []) C hM (C_changeInd (a0 := a0) (i := i) (j := j) hW hS t_a0 (by omega) (by omega) hmr (by show iv (sk 23) 2 < 512; omega)) dX11_indicator_3 kV_X11_208 rfl t_a0 rfl rfl (by decide) ck_12 rfl (Nat.le_of_ble_eq_true rfl) ⟨(Nat.le_of_ble_eq_true rfl), (Nat.le_of_ble_eq_true rfl)⟩ hph hph (show 0 + 1300 = 1300 from rfl) (by decide) (fun rh1 Lh1 clh1 lnh1 ivh1 rvh1 h1 => ?_)
  obtain ⟨f1, rfl, xl1, fl1, W1, rgf1, exf1, kp11f1, kp12f1, kp13f1, kp14f1, kp15f1, kp16f1, tbxf1, kbxf1, kr9f1, kr10f1⟩ := h1
  refine hv10 (show 1 ≤ iv a0 11 ∧ iv a0 11 ≤ 100 from hW.int t_a0 11) (show 1 ≤ iv a0 12 ∧ iv a0 12 ≤ 50 from hW.int t_a0 12) (show (-2147483648) ≤ iv a0 13 ∧ iv a0 13 ≤ 2147483647 from hW.int t_a0 13) (show (-2147483648) ≤ iv a0 14 ∧ iv a0 14 ≤ 2147483647 from hW.int t_a0 14) (show (-2147483648) ≤ iv a0 15 ∧ iv a0 15 ≤ 2147483647 from hW.int t_a0 15) (show (-2147483648) ≤ iv a0 16 ∧ iv a0 16 ≤ 2147483647 from hW.int t_a0 16) (hF0.call hX0 fl1 rfl) (MRK.call hmr hW hS xl1 fl1 rfl rfl) (hX0.trans xl1) (xl1.skl hS) (fun ri2 ri3 ri4 ri5 ri6 ri7 F1 mr1 X1 sk1 => ?_)
  refine c_st (st2 := [.int (iI f1)]) rfl ?_
  refine hv8 (show ivh1 a0 11 = iv a0 11 from kp11f1) (show ivh1 a0 12 = iv a0 12 from kp12f1) (show ivh1 a0 13 = iv a0 13 from kp13f1) (show ivh1 a0 14 = iv a0 14 from kp14f1) (show ivh1 a0 15 = iv a0 15 from kp15f1) (show ivh1 a0 16 = iv a0 16 from kp16f1) (xl1.ty tsk23) (show ivh1 (sk 23) 2 ≤ iv (sk 23) 2 + 1 ∧ MRK sk clh1 ivh1 rvh1 from exf1) (fun gk11f1 gk12f1 gk13f1 gk14f1 gk15f1 gk16f1 ty1 gf1 => ?_)
  have ri8 : 0 ≤ ivh1 (sk 23) 2 ∧ ivh1 (sk 23) 2 ≤ 512 := W1.int ty1 2
  refine c_istore_n (lv2 := [(3, .int (iI f1)), (0, .ref a0), (1, .int (iI i)), (2, .int (iI j))]) C dX11_indicator_6 (by decide) rfl ?_
  refine c_aload_n (j := 1) (x := a0) C dX11_indicator_7 rfl ?_
  have ty2 := xl1.ty t_a0
  obtain ⟨rb1, rq1, trb1⟩ := W1.ref ty2 0 rfl rfl rfl
  have erb1 := W1.sk trb1 (by decide) rfl
  subst erb1
  refine c_getr (k := 0) C ck_12 dX11_indicator_8 w2_44 (by decide) ty2 rfl rfl (by decide) rfl rq1 ?_
  refine c_st (st2 := [.ref (sk 2)]) rfl ?_
  refine hv2 (xl1.ty tsk2) (Phi.le W1 sk1) (fun ty3 pl1 => ?_)
  refine d_callV (As := []) (rest := []) C hM (C_clear_2 (a0 := (sk 2)) W1 sk1 ty3  ) dX11_indicator_11 kV_X11_164 rfl ty3 rfl rfl (by decide) ck_2 rfl (Nat.le_of_ble_eq_true rfl) ⟨(Nat.le_of_ble_eq_true rfl), (Nat.le_of_ble_eq_true rfl)⟩ hph pl1 (show 1300 + 0 = 1300 from rfl) (by decide) (fun rh2 Lh2 clh2 lnh2 ivh2 rvh2 h2 => ?_)
  obtain ⟨rfl, rfl, rfl, rfl, rfl, fl2, W2, exf2⟩ := h2
  refine hv2 (F1.call X1 fl2 rfl) (MRK.call mr1 W1 sk1 XT.refl fl2 rfl rfl) (fun F2 mr2 => ?_)
  refine c_st (st2 := []) rfl ?_
  refine hv2 (show 0 ≤ ivh2 (sk 2) 2 ∧ ivh2 (sk 2) 2 ≤ 3000 from W2.int ty3 2) (show ivh2 (sk 2) 2 = 0 from exf2) (fun ri9 gf2 => ?_)
  refine c_iload_n (j := 0) C dX11_indicator_14 rfl ?_
  refine hv15 (show 1 ≤ ivh2 a0 11 ∧ ivh2 a0 11 ≤ 100 from W2.int ty2 11) (show ivh2 a0 11 = ivh1 a0 11 from fl2.i ty2 rfl 11) (show 1 ≤ ivh2 a0 12 ∧ ivh2 a0 12 ≤ 50 from W2.int ty2 12) (show ivh2 a0 12 = ivh1 a0 12 from fl2.i ty2 rfl 12) (show (-2147483648) ≤ ivh2 a0 13 ∧ ivh2 a0 13 ≤ 2147483647 from W2.int ty2 13) (show ivh2 a0 13 = ivh1 a0 13 from fl2.i ty2 rfl 13) (show (-2147483648) ≤ ivh2 a0 14 ∧ ivh2 a0 14 ≤ 2147483647 from W2.int ty2 14) (show ivh2 a0 14 = ivh1 a0 14 from fl2.i ty2 rfl 14) (show (-2147483648) ≤ ivh2 a0 15 ∧ ivh2 a0 15 ≤ 2147483647 from W2.int ty2 15) (show ivh2 a0 15 = ivh1 a0 15 from fl2.i ty2 rfl 15) (show (-2147483648) ≤ ivh2 a0 16 ∧ ivh2 a0 16 ≤ 2147483647 from W2.int ty2 16) (show ivh2 a0 16 = ivh1 a0 16 from fl2.i ty2 rfl 16) (show 0 ≤ ivh2 (sk 23) 2 ∧ ivh2 (sk 23) 2 ≤ 512 from W2.int ty1 2) (show ivh2 (sk 23) 2 = ivh1 (sk 23) 2 from fl2.i ty1 rfl 2) (TX.xt TX.refl xl1) (fun ri10 ie3 ri11 ie5 ri12 ie7 ri13 ie9 ri14 ie11 ri15 ie13 ri16 ie15 tx1 => ?_)
  exact c_iret C dX11_indicator_15 rfl (by decide) (rom0 hph pl1 (by decide)) ⟨f1, rfl, X1, F2, W2, ⟨by omega, by omega⟩, ⟨(by omega), mr2⟩, (ie3.trans gk11f1), (ie5.trans gk12f1), (ie7.trans gk13f1), (ie9.trans gk14f1), (ie11.trans gk15f1), (ie13.trans gk16f1), gf2, (PIND.after tbxf1 (by omega) (PSAME.fr W1 sk1 fl2 rfl rfl rfl rfl rfl rfl rfl)), (KIN.after kbxf1 (by omega) hW hS tx1 W1 sk1 fl2 rfl rfl rfl), (show rvh1 a0 9 = rv a0 9 from kr9f1), (show rvh1 a0 10 = rv a0 10 from kr10f1)⟩
end
section
set_option maxHeartbeats 4000000 in
set_option maxRecDepth 100000 in
theorem C_undo {l : Launch} {G : GT} {mi : Nat} {sk : Nat → Nat} {L : List Nat} {cl ln : Nat → Nat} {iv : Nat → Nat → Int} {rv : Nat → Nat → Option Nat}  {a0 : Nat} (hW : WT (g0 G) sk L cl ln iv rv) (hS : SKL sk L cl) (t_a0 : ty L cl a0 1) (hmr : MRK sk cl iv rv) : Mc l G mi (Phi (g0 G) sk) PHM yX11_undo cX11_undo 1 (some .int) 5 [.ref a0] L cl ln iv rv 0 (fun v L2 cl2 ln2 iv2 rv2 => ∃ f : Int, v = some (.int (iI f)) ∧ L = L2 ∧ cl = cl2 ∧ ln = ln2 ∧ fT [1, 22, 1000, 23, 1001, 26, 1004, 12, 20, 68, 100] L cl iv rv iv2 rv2 ∧ WT (g0 G) sk L2 cl2 ln2 iv2 rv2 ∧ (-2147483648 ≤ f ∧ f ≤ 2147483647) ∧ (iv2 (sk 23) 2 ≤ iv (sk 23) 2 + 1 ∧ MRK sk cl2 iv2 rv2) ∧ iv2 a0 11 = iv a0 11 ∧ iv2 a0 12 = iv a0 12 ∧ iv2 a0 13 = iv a0 13 ∧ iv2 a0 14 = iv a0 14 ∧ iv2 a0 15 = iv a0 15 ∧ iv2 a0 16 = iv a0 16 ∧ (PUNX f sk iv rv iv2 rv2) ∧ ((f = 0 ∧ KP L cl (fun _ => False) (fun _ => False) (fun _ => False) (fun _ => False) (fun _ _ => False) iv rv iv2 rv2) ∨ (f = 1 ∧ ∃ ch, el rv (sk 23) (iv (sk 23) 2 - 1).toNat = some ch ∧ UKP L cl ch iv rv iv2 rv2)) ∧ rv2 a0 9 = rv a0 9 ∧ rv2 a0 10 = rv a0 10) := by
  refine Mc.mk (by decide) (Nat.le_of_ble_eq_true rfl) ?_
  intro p e s m args below meth c A C hM
  refine hv14 (Phi.le hW hS) (show ty L cl (sk 2) 2 from ⟨(hS 2 rfl).1, by rw [(hS 2 rfl).2]; rfl⟩) (show ty L cl (sk 3) 3 from ⟨(hS 3 rfl).1, by rw [(hS 3 rfl).2]; rfl⟩) (show ty L cl (sk 4) 4 from ⟨(hS 4 rfl).1, by rw [(hS 4 rfl).2]; rfl⟩) (show ty L cl (sk 5) 5 from ⟨(hS 5 rfl).1, by rw [(hS 5 rfl).2]; rfl⟩) (show ty L cl (sk 13) 13 from ⟨(hS 13 rfl).1, by rw [(hS 13 rfl).2]; rfl⟩) (show ty L cl (sk 14) 14 from ⟨(hS 14 rfl).1, by rw [(hS 14 rfl).2]; rfl⟩) (show ty L cl (sk 15) 15 from ⟨(hS 15 rfl).1, by rw [(hS 15 rfl).2]; rfl⟩) (show ty L cl (sk 16) 16 from ⟨(hS 16 rfl).1, by rw [(hS 16 rfl).2]; rfl⟩) (show ty L cl (sk 17) 17 from ⟨(hS 17 rfl).1, by rw [(hS 17 rfl).2]; rfl⟩) (show ty L cl (sk 22) 22 from ⟨(hS 22 rfl).1, by rw [(hS 22 rfl).2]; rfl⟩) (show ty L cl (sk 23) 23 from ⟨(hS 23 rfl).1, by rw [(hS 23 rfl).2]; rfl⟩) (show XT L cl ln L cl ln from XT.refl) (show fT [1, 22, 1000, 23, 1001, 26, 1004, 12, 20, 68, 100] L cl iv rv iv rv from fT.refl) (fun hph tsk2 tsk3 tsk4 tsk5 tsk13 tsk14 tsk15 tsk16 tsk17 tsk22 tsk23 hX0 hF0 => ?_)
  have ri1 : 0 ≤ iv (sk 23) 2 ∧ iv (sk 23) 2 ≤ 512 := hW.int tsk23 2
  refine c_aload_n (j := 0) (x := a0) C dX11_undo_0 rfl ?_
  refine c_aload_n (j := 0) (x := a0) C dX11_undo_1 rfl ?_
  obtain ⟨rb1, rq1, trb1⟩ := hW.ref t_a0 4 rfl rfl rfl
  have erb1 := hW.sk trb1 (by decide) rfl
  subst erb1
  refine c_getr (k := 4) C ck_12 dX11_undo_2 w2_48 (by decide) t_a0 rfl rfl (by decide) rfl rq1 ?_
  refine c_st (st2 := [.ref (sk 13), .ref a0]) rfl ?_
  have ri2 : 0 ≤ iv (sk 22) 2 ∧ iv (sk 22) 2 ≤ 30 := hW.int tsk22 2
  refine d_callV (As := []) (rest := [.ref a0]) C hM (C_takeBack (a0 := (sk 13)) hW hS tsk13  hmr) dX11_undo_5 kV_X11_218 rfl tsk13 rfl rfl (by decide) ck_11 rfl (Nat.le_of_ble_eq_true rfl) ⟨(Nat.le_of_ble_eq_true rfl), (Nat.le_of_ble_eq_true rfl)⟩ hph hph (show 0 + 0 = 0 from rfl) (by decide) (fun rh1 Lh1 clh1 lnh1 ivh1 rvh1 h1 => ?_)
  obtain ⟨f1, rfl, rfl, rfl, rfl, fl1, W1, rgf1, exf1, tbkf1, tkkf1⟩ := h1
  have F1 := hF0.call hX0 fl1 rfl
  refine c_st (st2 := [.int (iI f1), .ref a0]) rfl ?_
  refine hv3 (show 0 ≤ ivh1 (sk 22) 2 ∧ ivh1 (sk 22) 2 ≤ 30 from W1.int tsk22 2) (show 0 ≤ ivh1 (sk 23) 2 ∧ ivh1 (sk 23) 2 ≤ 512 from W1.int tsk23 2) (show ivh1 (sk 22) 2 ≤ iv (sk 22) 2 ∧ ivh1 (sk 23) 2 ≤ iv (sk 23) 2 ∧ MRK sk cl ivh1 rvh1 from exf1) (fun ri3 ri4 gf1 => ?_)
  refine c_if_eq (tgt := 15) C ⟨by omega, by omega⟩ dX11_undo_8 (by decide) (fun c1 => ?_) (fun c1 => ?_)
  · refine c_iconst C dX11_undo_15 ?_
    have pl1 := Phi.le W1 hS
    refine d_callV (As := [.int (iI 0)]) (rest := []) C hM (C_done (a0 := a0) (x := 0) W1 hS t_a0 ⟨by decide, by decide⟩ ) dX11_undo_16 kV_X11_109 rfl t_a0 rfl rfl (by decide) ck_12 rfl (Nat.le_of_ble_eq_true rfl) ⟨(Nat.le_of_ble_eq_true rfl), (Nat.le_of_ble_eq_true rfl)⟩ hph pl1 (show 0 + 0 = 0 from rfl) (by decide) (fun rh2 Lh2 clh2 lnh2 ivh2 rvh2 h2 => ?_)
    obtain ⟨f2, rfl, rfl, rfl, rfl, rfl, fl2, W2, rgf2, exf2, kp11f2, kp12f2, kp13f2, kp14f2, kp15f2, kp16f2⟩ := h2
    refine hv14 (show 1 ≤ ivh1 a0 11 ∧ ivh1 a0 11 ≤ 100 from W1.int t_a0 11) (show ivh1 a0 11 = iv a0 11 from fl1.i t_a0 rfl 11) (show 1 ≤ ivh1 a0 12 ∧ ivh1 a0 12 ≤ 50 from W1.int t_a0 12) (show ivh1 a0 12 = iv a0 12 from fl1.i t_a0 rfl 12) (show (-2147483648) ≤ ivh1 a0 13 ∧ ivh1 a0 13 ≤ 2147483647 from W1.int t_a0 13) (show ivh1 a0 13 = iv a0 13 from fl1.i t_a0 rfl 13) (show (-2147483648) ≤ ivh1 a0 14 ∧ ivh1 a0 14 ≤ 2147483647 from W1.int t_a0 14) (show ivh1 a0 14 = iv a0 14 from fl1.i t_a0 rfl 14) (show (-2147483648) ≤ ivh1 a0 15 ∧ ivh1 a0 15 ≤ 2147483647 from W1.int t_a0 15) (show ivh1 a0 15 = iv a0 15 from fl1.i t_a0 rfl 15) (show (-2147483648) ≤ ivh1 a0 16 ∧ ivh1 a0 16 ≤ 2147483647 from W1.int t_a0 16) (show ivh1 a0 16 = iv a0 16 from fl1.i t_a0 rfl 16) (F1.call hX0 fl2 rfl) (MRK.call exf1.2.2 W1 hS XT.refl fl2 rfl rfl) (fun ri5 ie3 ri6 ie4 ri7 ie5 ri8 ie6 ri9 ie7 ri10 ie8 F2 mr1 => ?_)
    refine c_st (st2 := [.int (iI f2)]) rfl ?_
    refine hv15 (show ivh2 a0 11 = ivh1 a0 11 from kp11f2) (show ivh2 a0 12 = ivh1 a0 12 from kp12f2) (show ivh2 a0 13 = ivh1 a0 13 from kp13f2) (show ivh2 a0 14 = ivh1 a0 14 from kp14f2) (show ivh2 a0 15 = ivh1 a0 15 from kp15f2) (show ivh2 a0 16 = ivh1 a0 16 from kp16f2) (show f2 = (0 : Int) from exf2) (show 1 ≤ ivh2 a0 11 ∧ ivh2 a0 11 ≤ 100 from W2.int t_a0 11) (show 1 ≤ ivh2 a0 12 ∧ ivh2 a0 12 ≤ 50 from W2.int t_a0 12) (show (-2147483648) ≤ ivh2 a0 13 ∧ ivh2 a0 13 ≤ 2147483647 from W2.int t_a0 13) (show (-2147483648) ≤ ivh2 a0 14 ∧ ivh2 a0 14 ≤ 2147483647 from W2.int t_a0 14) (show (-2147483648) ≤ ivh2 a0 15 ∧ ivh2 a0 15 ≤ 2147483647 from W2.int t_a0 15) (show (-2147483648) ≤ ivh2 a0 16 ∧ ivh2 a0 16 ≤ 2147483647 from W2.int t_a0 16) (show 0 ≤ ivh2 (sk 23) 2 ∧ ivh2 (sk 23) 2 ≤ 512 from W2.int tsk23 2) (show ivh2 (sk 23) 2 = ivh1 (sk 23) 2 from fl2.i tsk23 rfl 2) (fun gk11f2 gk12f2 gk13f2 gk14f2 gk15f2 gk16f2 gf2 ri11 ri12 ri13 ri14 ri15 ri16 ri17 ie15 => ?_)
    exact c_iret C dX11_undo_19 rfl (by decide) (rom0 hph pl1 (by decide)) ⟨f2, rfl, rfl, rfl, rfl, F2, W2, ⟨by omega, by omega⟩, ⟨(by omega), mr1⟩, (gk11f2.trans ie3), (gk12f2.trans ie4), (gk13f2.trans ie5), (gk14f2.trans ie6), (gk15f2.trans ie7), (gk16f2.trans ie8), (by
        rcases tbkf1 with ⟨u1, u2, u3⟩ | ⟨u1, u2, ch, u3, u4⟩
        · exact Or.inl ⟨by omega, u2, u3.trans (PSAME.fr W1 hS fl2 rfl rfl rfl rfl rfl rfl rfl)⟩
        · exact Or.inr ⟨by omega, u2, ch, u3, PUND.after hW hS ⟨_, by omega, u3⟩ u4 (PSAME.fr W1 hS fl2 rfl rfl rfl rfl rfl rfl rfl) fl2 rfl rfl⟩), (by
        rcases tbkf1 with ⟨u1, u2, u3⟩ | ⟨u1, u2, -⟩
        · rcases tkkf1 with ⟨v1, v2⟩ | ⟨v1, -⟩
          · exact Or.inl ⟨by omega, v2.call TX.refl W1 fl2 rfl⟩
          · omega
        · rcases tkkf1 with ⟨v1, -⟩ | ⟨v1, ch, v2, v3⟩
          · omega
          · exact Or.inr ⟨by omega, ch, v2, v3.after (el23 hW hS (by omega) v2) hW W1 fl2 rfl⟩), (show rvh1 a0 9 = rv a0 9 from (fl1.r t_a0 rfl 9)), (show rvh1 a0 10 = rv a0 10 from (fl1.r t_a0 rfl 10))⟩
  · refine c_iconst C dX11_undo_11 ?_
    refine c_goto (tgt := 16) C dX11_undo_12 (by decide) ?_
    have pl2 := Phi.le W1 hS
    refine d_callV (As := [.int (iI 1)]) (rest := []) C hM (C_done (a0 := a0) (x := 1) W1 hS t_a0 ⟨by decide, by decide⟩ ) dX11_undo_16 kV_X11_109 rfl t_a0 rfl rfl (by decide) ck_12 rfl (Nat.le_of_ble_eq_true rfl) ⟨(Nat.le_of_ble_eq_true rfl), (Nat.le_of_ble_eq_true rfl)⟩ hph pl2 (show 0 + 0 = 0 from rfl) (by decide) (fun rh3 Lh3 clh3 lnh3 ivh3 rvh3 h3 => ?_)
    obtain ⟨f3, rfl, rfl, rfl, rfl, rfl, fl3, W3, rgf3, exf3, kp11f3, kp12f3, kp13f3, kp14f3, kp15f3, kp16f3⟩ := h3
    refine hv14 (show 1 ≤ ivh1 a0 11 ∧ ivh1 a0 11 ≤ 100 from W1.int t_a0 11) (show ivh1 a0 11 = iv a0 11 from fl1.i t_a0 rfl 11) (show 1 ≤ ivh1 a0 12 ∧ ivh1 a0 12 ≤ 50 from W1.int t_a0 12) (show ivh1 a0 12 = iv a0 12 from fl1.i t_a0 rfl 12) (show (-2147483648) ≤ ivh1 a0 13 ∧ ivh1 a0 13 ≤ 2147483647 from W1.int t_a0 13) (show ivh1 a0 13 = iv a0 13 from fl1.i t_a0 rfl 13) (show (-2147483648) ≤ ivh1 a0 14 ∧ ivh1 a0 14 ≤ 2147483647 from W1.int t_a0 14) (show ivh1 a0 14 = iv a0 14 from fl1.i t_a0 rfl 14) (show (-2147483648) ≤ ivh1 a0 15 ∧ ivh1 a0 15 ≤ 2147483647 from W1.int t_a0 15) (show ivh1 a0 15 = iv a0 15 from fl1.i t_a0 rfl 15) (show (-2147483648) ≤ ivh1 a0 16 ∧ ivh1 a0 16 ≤ 2147483647 from W1.int t_a0 16) (show ivh1 a0 16 = iv a0 16 from fl1.i t_a0 rfl 16) (F1.call hX0 fl3 rfl) (MRK.call exf1.2.2 W1 hS XT.refl fl3 rfl rfl) (fun ri18 ie16 ri19 ie17 ri20 ie18 ri21 ie19 ri22 ie20 ri23 ie21 F3 mr2 => ?_)
    refine c_st (st2 := [.int (iI f3)]) rfl ?_
    refine hv15 (show ivh3 a0 11 = ivh1 a0 11 from kp11f3) (show ivh3 a0 12 = ivh1 a0 12 from kp12f3) (show ivh3 a0 13 = ivh1 a0 13 from kp13f3) (show ivh3 a0 14 = ivh1 a0 14 from kp14f3) (show ivh3 a0 15 = ivh1 a0 15 from kp15f3) (show ivh3 a0 16 = ivh1 a0 16 from kp16f3) (show f3 = (1 : Int) from exf3) (show 1 ≤ ivh3 a0 11 ∧ ivh3 a0 11 ≤ 100 from W3.int t_a0 11) (show 1 ≤ ivh3 a0 12 ∧ ivh3 a0 12 ≤ 50 from W3.int t_a0 12) (show (-2147483648) ≤ ivh3 a0 13 ∧ ivh3 a0 13 ≤ 2147483647 from W3.int t_a0 13) (show (-2147483648) ≤ ivh3 a0 14 ∧ ivh3 a0 14 ≤ 2147483647 from W3.int t_a0 14) (show (-2147483648) ≤ ivh3 a0 15 ∧ ivh3 a0 15 ≤ 2147483647 from W3.int t_a0 15) (show (-2147483648) ≤ ivh3 a0 16 ∧ ivh3 a0 16 ≤ 2147483647 from W3.int t_a0 16) (show 0 ≤ ivh3 (sk 23) 2 ∧ ivh3 (sk 23) 2 ≤ 512 from W3.int tsk23 2) (show ivh3 (sk 23) 2 = ivh1 (sk 23) 2 from fl3.i tsk23 rfl 2) (fun gk11f3 gk12f3 gk13f3 gk14f3 gk15f3 gk16f3 gf3 ri24 ri25 ri26 ri27 ri28 ri29 ri30 ie28 => ?_)
    exact c_iret C dX11_undo_19 rfl (by decide) (rom0 hph pl2 (by decide)) ⟨f3, rfl, rfl, rfl, rfl, F3, W3, ⟨by omega, by omega⟩, ⟨(by omega), mr2⟩, (gk11f3.trans ie16), (gk12f3.trans ie17), (gk13f3.trans ie18), (gk14f3.trans ie19), (gk15f3.trans ie20), (gk16f3.trans ie21), (by
        rcases tbkf1 with ⟨u1, u2, u3⟩ | ⟨u1, u2, ch, u3, u4⟩
        · exact Or.inl ⟨by omega, u2, u3.trans (PSAME.fr W1 hS fl3 rfl rfl rfl rfl rfl rfl rfl)⟩
        · exact Or.inr ⟨by omega, u2, ch, u3, PUND.after hW hS ⟨_, by omega, u3⟩ u4 (PSAME.fr W1 hS fl3 rfl rfl rfl rfl rfl rfl rfl) fl3 rfl rfl⟩), (by
        rcases tbkf1 with ⟨u1, u2, u3⟩ | ⟨u1, u2, -⟩
        · rcases tkkf1 with ⟨v1, v2⟩ | ⟨v1, -⟩
          · exact Or.inl ⟨by omega, v2.call TX.refl W1 fl3 rfl⟩
          · omega
        · rcases tkkf1 with ⟨v1, -⟩ | ⟨v1, ch, v2, v3⟩
          · omega
          · exact Or.inr ⟨by omega, ch, v2, v3.after (el23 hW hS (by omega) v2) hW W1 fl3 rfl⟩), (show rvh1 a0 9 = rv a0 9 from (fl1.r t_a0 rfl 9)), (show rvh1 a0 10 = rv a0 10 from (fl1.r t_a0 rfl 10))⟩
end
section
set_option maxHeartbeats 4000000 in
set_option maxRecDepth 100000 in
theorem C_addText {l : Launch} {G : GT} {mi : Nat} {sk : Nat → Nat} {L : List Nat} {cl ln : Nat → Nat} {iv : Nat → Nat → Int} {rv : Nat → Nat → Option Nat}  {a0 : Nat} (hW : WT (g0 G) sk L cl ln iv rv) (hS : SKL sk L cl) (t_a0 : ty L cl a0 1)  : Mc l G mi (Phi (g0 G) sk) PHM yX11_addText cX11_addText 3 (some .int) 4 [.ref a0] L cl ln iv rv 0 (fun v L2 cl2 ln2 iv2 rv2 => ∃ f : Int, v = some (.int (iI f)) ∧ XT L cl ln L2 cl2 ln2 ∧ fT [1, 3, 33] L cl iv rv iv2 rv2 ∧ WT (g0 G) sk L2 cl2 ln2 iv2 rv2 ∧ (-2147483648 ≤ f ∧ f ≤ 2147483647) ∧ (∀ ss, CT iv rv (sk 2) ss → ((f = -1 ∧ iv2 (sk 3) 2 = iv (sk 3) 2 ∧ ¬ (TOK ss (iv (sk 2) 2) ∧ iv (sk 3) 2 + iv (sk 2) 2 ≤ 500)) ∨ (f = iv2 (sk 3) 2 ∧ TOK ss (iv (sk 2) 2) ∧ iv (sk 3) 2 + iv (sk 2) 2 ≤ 500 ∧ ((iv (sk 2) 2 = 0 ∧ iv2 (sk 3) 2 = 0) ∨ (iv (sk 2) 2 ≠ 0 ∧ iv2 (sk 3) 2 = iv (sk 3) 2 + iv (sk 2) 2))))) ∧ iv2 a0 11 = iv a0 11 ∧ iv2 a0 12 = iv a0 12 ∧ iv2 a0 13 = iv a0 13 ∧ iv2 a0 14 = iv a0 14 ∧ iv2 a0 15 = iv a0 15 ∧ iv2 a0 16 = iv a0 16 ∧ (∀ ss tt, CT iv rv (sk 2) ss → CT iv rv (sk 3) tt → (f = -1 → CT iv2 rv2 (sk 3) tt) ∧ (f ≠ -1 → CT iv2 rv2 (sk 3) (apd tt (iv (sk 3) 2).toNat ss))) ∧ rv2 a0 9 = rv a0 9 ∧ rv2 a0 10 = rv a0 10) := by
  refine Mc.mk (by decide) (Nat.le_of_ble_eq_true rfl) ?_
  intro p e s m args below meth c A C hM
  refine hv14 (Phi.le hW hS) (show ty L cl (sk 2) 2 from ⟨(hS 2 rfl).1, by rw [(hS 2 rfl).2]; rfl⟩) (show ty L cl (sk 3) 3 from ⟨(hS 3 rfl).1, by rw [(hS 3 rfl).2]; rfl⟩) (show ty L cl (sk 4) 4 from ⟨(hS 4 rfl).1, by rw [(hS 4 rfl).2]; rfl⟩) (show ty L cl (sk 5) 5 from ⟨(hS 5 rfl).1, by rw [(hS 5 rfl).2]; rfl⟩) (show ty L cl (sk 13) 13 from ⟨(hS 13 rfl).1, by rw [(hS 13 rfl).2]; rfl⟩) (show ty L cl (sk 14) 14 from ⟨(hS 14 rfl).1, by rw [(hS 14 rfl).2]; rfl⟩) (show ty L cl (sk 15) 15 from ⟨(hS 15 rfl).1, by rw [(hS 15 rfl).2]; rfl⟩) (show ty L cl (sk 16) 16 from ⟨(hS 16 rfl).1, by rw [(hS 16 rfl).2]; rfl⟩) (show ty L cl (sk 17) 17 from ⟨(hS 17 rfl).1, by rw [(hS 17 rfl).2]; rfl⟩) (show ty L cl (sk 22) 22 from ⟨(hS 22 rfl).1, by rw [(hS 22 rfl).2]; rfl⟩) (show ty L cl (sk 23) 23 from ⟨(hS 23 rfl).1, by rw [(hS 23 rfl).2]; rfl⟩) (show XT L cl ln L cl ln from XT.refl) (show fT [1, 3, 33] L cl iv rv iv rv from fT.refl) (fun hph tsk2 tsk3 tsk4 tsk5 tsk13 tsk14 tsk15 tsk16 tsk17 tsk22 tsk23 hX0 hF0 => ?_)
  refine hv2 (show 0 ≤ iv (sk 2) 2 ∧ iv (sk 2) 2 ≤ 3000 from hW.int tsk2 2) (show 0 ≤ iv (sk 3) 2 ∧ iv (sk 3) 2 ≤ 500 from hW.int tsk3 2) (fun ri1 ri2 => ?_)
  refine c_iconst C dX11_addText_0 ?_
  refine c_istore_n (lv2 := [(1, .int (iI 0)), (0, .ref a0)]) C dX11_addText_1 (by decide) rfl ?_
  have Lp1 : ∀ (nn : Nat) (k : Int) (Lb1 : List Nat) (clb1 lnb1 : Nat → Nat) (ivb1 : Nat → Nat → Int) (rvb1 : Nat → Nat → Option Nat) , 3001 - k < (nn : Int) → XT L cl ln Lb1 clb1 lnb1 → WT (g0 G) sk Lb1 clb1 lnb1 ivb1 rvb1 → fT [1, 3, 33] L cl iv rv ivb1 rvb1 → (0 ≤ k ∧ k ≤ 3000) → (ivb1 (sk 3) 2 = iv (sk 3) 2) → (∀ ss, CT iv rv (sk 2) ss → TOK ss k) → (∀ tt, CT iv rv (sk 3) tt → CT ivb1 rvb1 (sk 3) tt) → (ivb1 a0 11 = iv a0 11) → (ivb1 a0 12 = iv a0 12) → (ivb1 a0 13 = iv a0 13) → (ivb1 a0 14 = iv a0 14) → (ivb1 a0 15 = iv a0 15) → (ivb1 a0 16 = iv a0 16) → (rvb1 a0 9 = rv a0 9) → (rvb1 a0 10 = rv a0 10) → cw p l e 4 ((PHM) + 0 - ((Phi (g0 G) sk) ln rv)) s m args below meth c G A 3 (MQ below (Qu G A (Qp G (Phi (g0 G) sk) ((Phi (g0 G) sk) ln rv) 0 (fun v L2 cl2 ln2 iv2 rv2 => ∃ f : Int, v = some (.int (iI f)) ∧ XT L cl ln L2 cl2 ln2 ∧ fT [1, 3, 33] L cl iv rv iv2 rv2 ∧ WT (g0 G) sk L2 cl2 ln2 iv2 rv2 ∧ (-2147483648 ≤ f ∧ f ≤ 2147483647) ∧ (∀ ss, CT iv rv (sk 2) ss → ((f = -1 ∧ iv2 (sk 3) 2 = iv (sk 3) 2 ∧ ¬ (TOK ss (iv (sk 2) 2) ∧ iv (sk 3) 2 + iv (sk 2) 2 ≤ 500)) ∨ (f = iv2 (sk 3) 2 ∧ TOK ss (iv (sk 2) 2) ∧ iv (sk 3) 2 + iv (sk 2) 2 ≤ 500 ∧ ((iv (sk 2) 2 = 0 ∧ iv2 (sk 3) 2 = 0) ∨ (iv (sk 2) 2 ≠ 0 ∧ iv2 (sk 3) 2 = iv (sk 3) 2 + iv (sk 2) 2))))) ∧ iv2 a0 11 = iv a0 11 ∧ iv2 a0 12 = iv a0 12 ∧ iv2 a0 13 = iv a0 13 ∧ iv2 a0 14 = iv a0 14 ∧ iv2 a0 15 = iv a0 15 ∧ iv2 a0 16 = iv a0 16 ∧ (∀ ss tt, CT iv rv (sk 2) ss → CT iv rv (sk 3) tt → (f = -1 → CT iv2 rv2 (sk 3) tt) ∧ (f ≠ -1 → CT iv2 rv2 (sk 3) (apd tt (iv (sk 3) 2).toNat ss))) ∧ rv2 a0 9 = rv a0 9 ∧ rv2 a0 10 = rv a0 10))) args s (((PHM) + 0 - ((Phi (g0 G) sk) ln rv)) / 16) ((PHM) + 0 - ((Phi (g0 G) sk) ln rv)) A) (Phi (g0 G) sk) ((Phi (g0 G) sk) ln rv) Lb1 clb1 lnb1 ivb1 rvb1 0 2 [(1, .int (iI k)), (0, .ref a0)] [] := by
    intro nn
    induction nn with
    | zero =>
      intro  k Lb1 clb1 lnb1 ivb1 rvb1 hm Xb1 Wb1 Fb1  hk h33 htk hc3 hkp11 hkp12 hkp13 hkp14 hkp15 hkp16 hkr9 hkr10
      have skb1 := Xb1.skl hS
      exact absurd hm (by omega)
    | succ nn ih1 =>
      intro  k Lb1 clb1 lnb1 ivb1 rvb1 hm Xb1 Wb1 Fb1  hk h33 htk hc3 hkp11 hkp12 hkp13 hkp14 hkp15 hkp16 hkr9 hkr10
      have skb1 := Xb1.skl hS
      refine c_iload_n (j := 0) C dX11_addText_2 rfl ?_
      refine c_aload_n (j := 1) (x := a0) C dX11_addText_3 rfl ?_
      have ty1 := Xb1.ty t_a0
      obtain ⟨rb1, rq1, trb1⟩ := Wb1.ref ty1 0 rfl rfl rfl
      have erb1 := Wb1.sk trb1 (by decide) rfl
      subst erb1
      refine c_getr (k := 0) C ck_12 dX11_addText_4 w2_44 (by decide) ty1 rfl rfl (by decide) rfl rq1 ?_
      refine c_st (st2 := [.ref (sk 2), .int (iI k)]) rfl ?_
      refine hv2 (Xb1.ty tsk2) (show ivb1 (sk 2) 2 = iv (sk 2) 2 from Fb1.i tsk2 rfl 2) (fun ty2 ie1 => ?_)
      have ri3 : 0 ≤ ivb1 (sk 2) 2 ∧ ivb1 (sk 2) 2 ≤ 3000 := Wb1.int ty2 2
      refine c_get (k := 2) C ck_2 dX11_addText_7 w1_44 (by decide) ty2 rfl rfl (by decide) rfl ?_
      refine c_icmp_ge (tgt := 53) C (r32_c (lo := 0) (hi := 3000) hk.1 hk.2 (by decide) (by decide)) (r32_c (lo := 0) (hi := 3000) ri3.1 ri3.2 (by decide) (by decide)) dX11_addText_10 (by decide) (fun c1 => ?_) (fun c1 => ?_)
      · refine c_aload_n (j := 1) (x := a0) C dX11_addText_53 rfl ?_
        obtain ⟨rb2, rq2, trb2⟩ := Wb1.ref ty1 1 rfl rfl rfl
        have erb2 := Wb1.sk trb2 (by decide) rfl
        subst erb2
        refine c_getr (k := 1) C ck_12 dX11_addText_54 w2_45 (by decide) ty1 rfl rfl (by decide) rfl rq2 ?_
        refine c_st (st2 := [.ref (sk 3)]) rfl ?_
        have ty3 := Xb1.ty tsk3
        have ri4 : 0 ≤ ivb1 (sk 3) 2 ∧ ivb1 (sk 3) 2 ≤ 500 := Wb1.int ty3 2
        refine c_get (k := 2) C ck_2 dX11_addText_57 w1_44 (by decide) ty3 rfl rfl (by decide) rfl ?_
        refine c_aload_n (j := 1) (x := a0) C dX11_addText_60 rfl ?_
        refine c_getr (k := 0) C ck_12 dX11_addText_61 w2_44 (by decide) ty1 rfl rfl (by decide) rfl rq1 ?_
        refine c_st (st2 := [.ref (sk 2), .int (iI (ivb1 (sk 3) 2))]) rfl ?_
        refine c_get (k := 2) C ck_2 dX11_addText_64 w1_44 (by decide) ty2 rfl rfl (by decide) rfl ?_
        refine c_iadd C dX11_addText_67 ?_
        refine c_sipush (z := 500) C dX11_addText_68 (by decide) ?_
        refine c_icmp_le (tgt := 81) C ⟨by omega, by omega⟩ ⟨by decide, by decide⟩ dX11_addText_71 (by decide) (fun c2 => ?_) (fun c2 => ?_)
        · refine c_aload_n (j := 1) (x := a0) C dX11_addText_81 rfl ?_
          refine c_getr (k := 0) C ck_12 dX11_addText_82 w2_44 (by decide) ty1 rfl rfl (by decide) rfl rq1 ?_
          refine c_st (st2 := [.ref (sk 2)]) rfl ?_
          refine c_get (k := 2) C ck_2 dX11_addText_85 w1_44 (by decide) ty2 rfl rfl (by decide) rfl ?_
          refine c_if_ne (tgt := 98) C (r32_c (lo := 0) (hi := 3000) ri3.1 ri3.2 (by decide) (by decide)) dX11_addText_88 (by decide) (fun c3 => ?_) (fun c3 => ?_)
          · refine c_aload_n (j := 1) (x := a0) C dX11_addText_98 rfl ?_
            refine c_getr (k := 1) C ck_12 dX11_addText_99 w2_45 (by decide) ty1 rfl rfl (by decide) rfl rq2 ?_
            refine c_st (st2 := [.ref (sk 3)]) rfl ?_
            refine c_aload_n (j := 1) (x := a0) C dX11_addText_102 rfl ?_
            refine c_getr (k := 0) C ck_12 dX11_addText_103 w2_44 (by decide) ty1 rfl rfl (by decide) rfl rq1 ?_
            refine c_st (st2 := [.ref (sk 2), .ref (sk 3)]) rfl ?_
            have pl1 := Phi.le Wb1 skb1
            refine d_callV (As := [.ref (sk 2)]) (rest := []) C hM (C_addAll_3 (a0 := (sk 3)) (a1 := (sk 2)) Wb1 skb1 ty3 ty2  ) dX11_addText_106 kV_X11_227 rfl ty3 rfl rfl (by decide) ck_2 rfl (Nat.le_of_ble_eq_true rfl) ⟨(Nat.le_of_ble_eq_true rfl), (Nat.le_of_ble_eq_true rfl)⟩ hph pl1 (show 0 + 0 = 0 from rfl) (by decide) (fun rh1 Lh1 clh1 lnh1 ivh1 rvh1 h1 => ?_)
            obtain ⟨rfl, xl1, fl1, W1, exf1⟩ := h1
            refine hv12 (Fb1.call Xb1 fl1 rfl) (Xb1.ty tsk4) (Xb1.ty tsk5) (Xb1.ty tsk13) (Xb1.ty tsk14) (Xb1.ty tsk15) (Xb1.ty tsk16) (Xb1.ty tsk17) (Xb1.ty tsk22) (Xb1.ty tsk23) (Xb1.trans xl1) (xl1.skl skb1) (fun F1 ty4 ty5 ty6 ty7 ty8 ty9 ty10 ty11 ty12 X1 sk1 => ?_)
            refine c_st (st2 := []) rfl ?_
            refine hv2 (xl1.ty ty3) (show ivh1 (sk 3) 2 = min (ivb1 (sk 3) 2 + ivb1 (sk 2) 2) 500 ∧ APD ivb1 rvb1 (sk 3) (sk 2) ivh1 rvh1 from exf1) (fun ty13 gf1 => ?_)
            have ri5 : 0 ≤ ivh1 (sk 3) 2 ∧ ivh1 (sk 3) 2 ≤ 500 := W1.int ty13 2
            refine c_aload_n (j := 1) (x := a0) C dX11_addText_109 rfl ?_
            refine c_aload_n (j := 1) (x := a0) C dX11_addText_110 rfl ?_
            refine hv2 (xl1.ty ty1) (show rvh1 a0 1 = rvb1 a0 1 from (fl1.r ty1 rfl 1)) (fun ty14 re1 => ?_)
            rw [rq2] at re1
            refine c_getr (k := 1) C ck_12 dX11_addText_111 w2_45 (by decide) ty14 rfl rfl (by decide) rfl re1 ?_
            refine c_st (st2 := [.ref (sk 3), .ref a0]) rfl ?_
            refine c_get (k := 2) C ck_2 dX11_addText_114 w1_44 (by decide) ty13 rfl rfl (by decide) rfl ?_
            have pl2 := Phi.le W1 sk1
            refine d_callV (As := [.int (iI (ivh1 (sk 3) 2))]) (rest := []) C hM (C_done (a0 := a0) (x := ivh1 (sk 3) 2) W1 sk1 ty14 (by omega) ) dX11_addText_117 kV_X11_109 rfl ty14 rfl rfl (by decide) ck_12 rfl (Nat.le_of_ble_eq_true rfl) ⟨(Nat.le_of_ble_eq_true rfl), (Nat.le_of_ble_eq_true rfl)⟩ hph pl2 (show 0 + 0 = 0 from rfl) (by decide) (fun rh2 Lh2 clh2 lnh2 ivh2 rvh2 h2 => ?_)
            obtain ⟨f2, rfl, rfl, rfl, rfl, rfl, fl2, W2, rgf2, exf2, kp11f2, kp12f2, kp13f2, kp14f2, kp15f2, kp16f2⟩ := h2
            refine hv13 (show 1 ≤ ivh1 a0 11 ∧ ivh1 a0 11 ≤ 100 from W1.int ty14 11) (show ivh1 a0 11 = ivb1 a0 11 from fl1.i ty1 rfl 11) (show 1 ≤ ivh1 a0 12 ∧ ivh1 a0 12 ≤ 50 from W1.int ty14 12) (show ivh1 a0 12 = ivb1 a0 12 from fl1.i ty1 rfl 12) (show (-2147483648) ≤ ivh1 a0 13 ∧ ivh1 a0 13 ≤ 2147483647 from W1.int ty14 13) (show ivh1 a0 13 = ivb1 a0 13 from fl1.i ty1 rfl 13) (show (-2147483648) ≤ ivh1 a0 14 ∧ ivh1 a0 14 ≤ 2147483647 from W1.int ty14 14) (show ivh1 a0 14 = ivb1 a0 14 from fl1.i ty1 rfl 14) (show (-2147483648) ≤ ivh1 a0 15 ∧ ivh1 a0 15 ≤ 2147483647 from W1.int ty14 15) (show ivh1 a0 15 = ivb1 a0 15 from fl1.i ty1 rfl 15) (show (-2147483648) ≤ ivh1 a0 16 ∧ ivh1 a0 16 ≤ 2147483647 from W1.int ty14 16) (show ivh1 a0 16 = ivb1 a0 16 from fl1.i ty1 rfl 16) (F1.call X1 fl2 rfl) (fun ri6 ie4 ri7 ie6 ri8 ie8 ri9 ie10 ri10 ie12 ri11 ie14 F2 => ?_)
            refine c_st (st2 := [.int (iI f2)]) rfl ?_
            refine hv17 (show ivh2 a0 11 = ivh1 a0 11 from kp11f2) (show ivh2 a0 12 = ivh1 a0 12 from kp12f2) (show ivh2 a0 13 = ivh1 a0 13 from kp13f2) (show ivh2 a0 14 = ivh1 a0 14 from kp14f2) (show ivh2 a0 15 = ivh1 a0 15 from kp15f2) (show ivh2 a0 16 = ivh1 a0 16 from kp16f2) (show f2 = (ivh1 (sk 3) 2) from exf2) (show 1 ≤ ivh2 a0 11 ∧ ivh2 a0 11 ≤ 100 from W2.int ty14 11) (show 1 ≤ ivh2 a0 12 ∧ ivh2 a0 12 ≤ 50 from W2.int ty14 12) (show (-2147483648) ≤ ivh2 a0 13 ∧ ivh2 a0 13 ≤ 2147483647 from W2.int ty14 13) (show (-2147483648) ≤ ivh2 a0 14 ∧ ivh2 a0 14 ≤ 2147483647 from W2.int ty14 14) (show (-2147483648) ≤ ivh2 a0 15 ∧ ivh2 a0 15 ≤ 2147483647 from W2.int ty14 15) (show (-2147483648) ≤ ivh2 a0 16 ∧ ivh2 a0 16 ≤ 2147483647 from W2.int ty14 16) (show 0 ≤ ivh2 (sk 3) 2 ∧ ivh2 (sk 3) 2 ≤ 500 from W2.int ty13 2) (show ivh2 (sk 3) 2 = ivh1 (sk 3) 2 from fl2.i ty13 rfl 2) (xl1.ty ty2) (show ivh1 (sk 2) 2 = ivb1 (sk 2) 2 from fl1.i ty2 rfl 2) (fun gk11f2 gk12f2 gk13f2 gk14f2 gk15f2 gk16f2 gf2 ri12 ri13 ri14 ri15 ri16 ri17 ri18 ie22 ty15 ie24 => ?_)
            refine hv2 (show 0 ≤ ivh2 (sk 2) 2 ∧ ivh2 (sk 2) 2 ≤ 3000 from W2.int ty15 2) (show ivh2 (sk 2) 2 = ivh1 (sk 2) 2 from fl2.i ty15 rfl 2) (fun ri19 ie23 => ?_)
            exact c_iret C dX11_addText_120 rfl (by decide) (rom0 hph pl2 (by decide)) ⟨f2, rfl, X1, F2, W2, ⟨by omega, by omega⟩, (fun ss hs => Or.inr ⟨by omega, fun j hj => htk ss hs j (by omega), by omega, by omega⟩), (gk11f2.trans (ie4.trans hkp11)), (gk12f2.trans (ie6.trans hkp12)), (gk13f2.trans (ie8.trans hkp13)), (gk14f2.trans (ie10.trans hkp14)), (gk15f2.trans (ie12.trans hkp15)), (gk16f2.trans (ie14.trans hkp16)), (fun ss tt hs ht => ⟨fun q => absurd q (by omega), fun _ => by
                have q := gf1.2 ss tt (CT.fr hs hW tsk2 Fb1 rfl rfl rfl rfl rfl) (hc3 tt ht) (by omega)
                rw [show ivb1 (sk 3) 2 = iv (sk 3) 2 by omega] at q
                exact CT.fr (q) W1 ty13 fl2 rfl rfl rfl rfl rfl⟩), (Eq.trans (show rvh1 a0 9 = rvb1 a0 9 from (fl1.r ty1 rfl 9)) (show rvb1 a0 9 = rv a0 9 from hkr9)), (Eq.trans (show rvh1 a0 10 = rvb1 a0 10 from (fl1.r ty1 rfl 10)) (show rvb1 a0 10 = rv a0 10 from hkr10))⟩
          · refine c_aload_n (j := 1) (x := a0) C dX11_addText_91 rfl ?_
            refine c_getr (k := 1) C ck_12 dX11_addText_92 w2_45 (by decide) ty1 rfl rfl (by decide) rfl rq2 ?_
            refine c_st (st2 := [.ref (sk 3)]) rfl ?_
            have pl3 := Phi.le Wb1 skb1
            refine d_callV (As := []) (rest := []) C hM (C_clear_3 (a0 := (sk 3)) Wb1 skb1 ty3  ) dX11_addText_95 kV_X11_164 rfl ty3 rfl rfl (by decide) ck_2 rfl (Nat.le_of_ble_eq_true rfl) ⟨(Nat.le_of_ble_eq_true rfl), (Nat.le_of_ble_eq_true rfl)⟩ hph pl3 (show 0 + 0 = 0 from rfl) (by decide) (fun rh3 Lh3 clh3 lnh3 ivh3 rvh3 h3 => ?_)
            obtain ⟨rfl, rfl, rfl, rfl, rfl, fl3, W3, exf3⟩ := h3
            have F3 := Fb1.call Xb1 fl3 rfl
            refine c_st (st2 := []) rfl ?_
            refine hv2 (show 0 ≤ ivh3 (sk 3) 2 ∧ ivh3 (sk 3) 2 ≤ 500 from W3.int ty3 2) (show ivh3 (sk 3) 2 = 0 from exf3) (fun ri20 gf3 => ?_)
            refine c_aload_n (j := 1) (x := a0) C dX11_addText_98 rfl ?_
            refine c_getr (k := 1) C ck_12 dX11_addText_99 w2_45 (by decide) ty1 rfl rfl (by decide) rfl rq2 ?_
            refine c_st (st2 := [.ref (sk 3)]) rfl ?_
            refine c_aload_n (j := 1) (x := a0) C dX11_addText_102 rfl ?_
            refine c_getr (k := 0) C ck_12 dX11_addText_103 w2_44 (by decide) ty1 rfl rfl (by decide) rfl rq1 ?_
            refine c_st (st2 := [.ref (sk 2), .ref (sk 3)]) rfl ?_
            refine hv2 (show 0 ≤ ivh3 (sk 2) 2 ∧ ivh3 (sk 2) 2 ≤ 3000 from W3.int ty2 2) (show ivh3 (sk 2) 2 = ivb1 (sk 2) 2 from fl3.i ty2 rfl 2) (fun ri21 ie26 => ?_)
            refine d_callV (As := [.ref (sk 2)]) (rest := []) C hM (C_addAll_3 (a0 := (sk 3)) (a1 := (sk 2)) W3 skb1 ty3 ty2  ) dX11_addText_106 kV_X11_227 rfl ty3 rfl rfl (by decide) ck_2 rfl (Nat.le_of_ble_eq_true rfl) ⟨(Nat.le_of_ble_eq_true rfl), (Nat.le_of_ble_eq_true rfl)⟩ hph pl3 (show 0 + 0 = 0 from rfl) (by decide) (fun rh4 Lh4 clh4 lnh4 ivh4 rvh4 h4 => ?_)
            obtain ⟨rfl, xl4, fl4, W4, exf4⟩ := h4
            refine hv12 (F3.call Xb1 fl4 rfl) (Xb1.ty tsk4) (Xb1.ty tsk5) (Xb1.ty tsk13) (Xb1.ty tsk14) (Xb1.ty tsk15) (Xb1.ty tsk16) (Xb1.ty tsk17) (Xb1.ty tsk22) (Xb1.ty tsk23) (Xb1.trans xl4) (xl4.skl skb1) (fun F4 ty16 ty17 ty18 ty19 ty20 ty21 ty22 ty23 ty24 X2 sk2 => ?_)
            refine c_st (st2 := []) rfl ?_
            refine hv2 (xl4.ty ty3) (show ivh4 (sk 3) 2 = min (ivh3 (sk 3) 2 + ivh3 (sk 2) 2) 500 ∧ APD ivh3 rvb1 (sk 3) (sk 2) ivh4 rvh4 from exf4) (fun ty25 gf4 => ?_)
            have ri22 : 0 ≤ ivh4 (sk 3) 2 ∧ ivh4 (sk 3) 2 ≤ 500 := W4.int ty25 2
            refine c_aload_n (j := 1) (x := a0) C dX11_addText_109 rfl ?_
            refine c_aload_n (j := 1) (x := a0) C dX11_addText_110 rfl ?_
            refine hv2 (xl4.ty ty1) (show rvh4 a0 1 = rvb1 a0 1 from (fl4.r ty1 rfl 1)) (fun ty26 re2 => ?_)
            rw [rq2] at re2
            refine c_getr (k := 1) C ck_12 dX11_addText_111 w2_45 (by decide) ty26 rfl rfl (by decide) rfl re2 ?_
            refine c_st (st2 := [.ref (sk 3), .ref a0]) rfl ?_
            refine c_get (k := 2) C ck_2 dX11_addText_114 w1_44 (by decide) ty25 rfl rfl (by decide) rfl ?_
            have pl4 := Phi.le W4 sk2
            refine d_callV (As := [.int (iI (ivh4 (sk 3) 2))]) (rest := []) C hM (C_done (a0 := a0) (x := ivh4 (sk 3) 2) W4 sk2 ty26 (by omega) ) dX11_addText_117 kV_X11_109 rfl ty26 rfl rfl (by decide) ck_12 rfl (Nat.le_of_ble_eq_true rfl) ⟨(Nat.le_of_ble_eq_true rfl), (Nat.le_of_ble_eq_true rfl)⟩ hph pl4 (show 0 + 0 = 0 from rfl) (by decide) (fun rh5 Lh5 clh5 lnh5 ivh5 rvh5 h5 => ?_)
            obtain ⟨f5, rfl, rfl, rfl, rfl, rfl, fl5, W5, rgf5, exf5, kp11f5, kp12f5, kp13f5, kp14f5, kp15f5, kp16f5⟩ := h5
            refine hv19 (show 1 ≤ ivh4 a0 11 ∧ ivh4 a0 11 ≤ 100 from W4.int ty26 11) (show ivh4 a0 11 = ivh3 a0 11 from fl4.i ty1 rfl 11) (show ivh3 a0 11 = ivb1 a0 11 from fl3.i ty1 rfl 11) (show 1 ≤ ivh4 a0 12 ∧ ivh4 a0 12 ≤ 50 from W4.int ty26 12) (show ivh4 a0 12 = ivh3 a0 12 from fl4.i ty1 rfl 12) (show ivh3 a0 12 = ivb1 a0 12 from fl3.i ty1 rfl 12) (show (-2147483648) ≤ ivh4 a0 13 ∧ ivh4 a0 13 ≤ 2147483647 from W4.int ty26 13) (show ivh4 a0 13 = ivh3 a0 13 from fl4.i ty1 rfl 13) (show ivh3 a0 13 = ivb1 a0 13 from fl3.i ty1 rfl 13) (show (-2147483648) ≤ ivh4 a0 14 ∧ ivh4 a0 14 ≤ 2147483647 from W4.int ty26 14) (show ivh4 a0 14 = ivh3 a0 14 from fl4.i ty1 rfl 14) (show ivh3 a0 14 = ivb1 a0 14 from fl3.i ty1 rfl 14) (show (-2147483648) ≤ ivh4 a0 15 ∧ ivh4 a0 15 ≤ 2147483647 from W4.int ty26 15) (show ivh4 a0 15 = ivh3 a0 15 from fl4.i ty1 rfl 15) (show ivh3 a0 15 = ivb1 a0 15 from fl3.i ty1 rfl 15) (show (-2147483648) ≤ ivh4 a0 16 ∧ ivh4 a0 16 ≤ 2147483647 from W4.int ty26 16) (show ivh4 a0 16 = ivh3 a0 16 from fl4.i ty1 rfl 16) (show ivh3 a0 16 = ivb1 a0 16 from fl3.i ty1 rfl 16) (F4.call X2 fl5 rfl) (fun ri23 ie28 ie29 ri24 ie31 ie32 ri25 ie34 ie35 ri26 ie37 ie38 ri27 ie40 ie41 ri28 ie43 ie44 F5 => ?_)
            refine c_st (st2 := [.int (iI f5)]) rfl ?_
            refine hv17 (show ivh5 a0 11 = ivh4 a0 11 from kp11f5) (show ivh5 a0 12 = ivh4 a0 12 from kp12f5) (show ivh5 a0 13 = ivh4 a0 13 from kp13f5) (show ivh5 a0 14 = ivh4 a0 14 from kp14f5) (show ivh5 a0 15 = ivh4 a0 15 from kp15f5) (show ivh5 a0 16 = ivh4 a0 16 from kp16f5) (show f5 = (ivh4 (sk 3) 2) from exf5) (show 1 ≤ ivh5 a0 11 ∧ ivh5 a0 11 ≤ 100 from W5.int ty26 11) (show 1 ≤ ivh5 a0 12 ∧ ivh5 a0 12 ≤ 50 from W5.int ty26 12) (show (-2147483648) ≤ ivh5 a0 13 ∧ ivh5 a0 13 ≤ 2147483647 from W5.int ty26 13) (show (-2147483648) ≤ ivh5 a0 14 ∧ ivh5 a0 14 ≤ 2147483647 from W5.int ty26 14) (show (-2147483648) ≤ ivh5 a0 15 ∧ ivh5 a0 15 ≤ 2147483647 from W5.int ty26 15) (show (-2147483648) ≤ ivh5 a0 16 ∧ ivh5 a0 16 ≤ 2147483647 from W5.int ty26 16) (show 0 ≤ ivh5 (sk 3) 2 ∧ ivh5 (sk 3) 2 ≤ 500 from W5.int ty25 2) (show ivh5 (sk 3) 2 = ivh4 (sk 3) 2 from fl5.i ty25 rfl 2) (xl4.ty ty2) (show ivh4 (sk 2) 2 = ivh3 (sk 2) 2 from fl4.i ty2 rfl 2) (fun gk11f5 gk12f5 gk13f5 gk14f5 gk15f5 gk16f5 gf5 ri29 ri30 ri31 ri32 ri33 ri34 ri35 ie52 ty27 ie54 => ?_)
            refine hv2 (show 0 ≤ ivh5 (sk 2) 2 ∧ ivh5 (sk 2) 2 ≤ 3000 from W5.int ty27 2) (show ivh5 (sk 2) 2 = ivh4 (sk 2) 2 from fl5.i ty27 rfl 2) (fun ri36 ie53 => ?_)
            exact c_iret C dX11_addText_120 rfl (by decide) (rom0 hph pl4 (by decide)) ⟨f5, rfl, X2, F5, W5, ⟨by omega, by omega⟩, (fun ss hs => Or.inr ⟨by omega, fun j hj => htk ss hs j (by omega), by omega, by omega⟩), (gk11f5.trans (ie28.trans (ie29.trans hkp11))), (gk12f5.trans (ie31.trans (ie32.trans hkp12))), (gk13f5.trans (ie34.trans (ie35.trans hkp13))), (gk14f5.trans (ie37.trans (ie38.trans hkp14))), (gk15f5.trans (ie40.trans (ie41.trans hkp15))), (gk16f5.trans (ie43.trans (ie44.trans hkp16))), (fun ss tt hs ht => ⟨fun q => absurd q (by omega), fun _ => CT.zero (by omega)⟩), (Eq.trans (show rvh4 a0 9 = rvb1 a0 9 from (fl4.r ty1 rfl 9)) (show rvb1 a0 9 = rv a0 9 from hkr9)), (Eq.trans (show rvh4 a0 10 = rvb1 a0 10 from (fl4.r ty1 rfl 10)) (show rvb1 a0 10 = rv a0 10 from hkr10))⟩
        · refine c_aload_n (j := 1) (x := a0) C dX11_addText_74 rfl ?_
          refine c_bipush (z := 6) C dX11_addText_75 (by decide) ?_
          have pl5 := Phi.le Wb1 skb1
          refine d_callV (As := [.int (iI 6)]) (rest := []) C hM (C_refuse (a0 := a0) (x := 6) Wb1 skb1 ty1 ⟨by decide, by decide⟩ ) dX11_addText_77 kV_X11_102 rfl ty1 rfl rfl (by decide) ck_12 rfl (Nat.le_of_ble_eq_true rfl) ⟨(Nat.le_of_ble_eq_true rfl), (Nat.le_of_ble_eq_true rfl)⟩ hph pl5 (show 0 + 0 = 0 from rfl) (by decide) (fun rh6 Lh6 clh6 lnh6 ivh6 rvh6 h6 => ?_)
          obtain ⟨f6, rfl, rfl, rfl, rfl, rfl, fl6, W6, rgf6, exf6, kp11f6, kp12f6, kp13f6, kp14f6, kp15f6, kp16f6⟩ := h6
          refine hv7 (show 1 ≤ ivb1 a0 11 ∧ ivb1 a0 11 ≤ 100 from Wb1.int ty1 11) (show 1 ≤ ivb1 a0 12 ∧ ivb1 a0 12 ≤ 50 from Wb1.int ty1 12) (show (-2147483648) ≤ ivb1 a0 13 ∧ ivb1 a0 13 ≤ 2147483647 from Wb1.int ty1 13) (show (-2147483648) ≤ ivb1 a0 14 ∧ ivb1 a0 14 ≤ 2147483647 from Wb1.int ty1 14) (show (-2147483648) ≤ ivb1 a0 15 ∧ ivb1 a0 15 ≤ 2147483647 from Wb1.int ty1 15) (show (-2147483648) ≤ ivb1 a0 16 ∧ ivb1 a0 16 ≤ 2147483647 from Wb1.int ty1 16) (Fb1.call Xb1 fl6 rfl) (fun ri37 ri38 ri39 ri40 ri41 ri42 F6 => ?_)
          refine c_st (st2 := [.int (iI f6)]) rfl ?_
          refine hv17 (show ivh6 a0 11 = ivb1 a0 11 from kp11f6) (show ivh6 a0 12 = ivb1 a0 12 from kp12f6) (show ivh6 a0 13 = ivb1 a0 13 from kp13f6) (show ivh6 a0 14 = ivb1 a0 14 from kp14f6) (show ivh6 a0 15 = ivb1 a0 15 from kp15f6) (show ivh6 a0 16 = ivb1 a0 16 from kp16f6) (show f6 = -1 from exf6) (show 1 ≤ ivh6 a0 11 ∧ ivh6 a0 11 ≤ 100 from W6.int ty1 11) (show 1 ≤ ivh6 a0 12 ∧ ivh6 a0 12 ≤ 50 from W6.int ty1 12) (show (-2147483648) ≤ ivh6 a0 13 ∧ ivh6 a0 13 ≤ 2147483647 from W6.int ty1 13) (show (-2147483648) ≤ ivh6 a0 14 ∧ ivh6 a0 14 ≤ 2147483647 from W6.int ty1 14) (show (-2147483648) ≤ ivh6 a0 15 ∧ ivh6 a0 15 ≤ 2147483647 from W6.int ty1 15) (show (-2147483648) ≤ ivh6 a0 16 ∧ ivh6 a0 16 ≤ 2147483647 from W6.int ty1 16) (show 0 ≤ ivh6 (sk 3) 2 ∧ ivh6 (sk 3) 2 ≤ 500 from W6.int ty3 2) (show ivh6 (sk 3) 2 = ivb1 (sk 3) 2 from fl6.i ty3 rfl 2) (show 0 ≤ ivh6 (sk 2) 2 ∧ ivh6 (sk 2) 2 ≤ 3000 from W6.int ty2 2) (show ivh6 (sk 2) 2 = ivb1 (sk 2) 2 from fl6.i ty2 rfl 2) (fun gk11f6 gk12f6 gk13f6 gk14f6 gk15f6 gk16f6 gf6 ri43 ri44 ri45 ri46 ri47 ri48 ri49 ie67 ri50 ie68 => ?_)
          exact c_iret C dX11_addText_80 rfl (by decide) (rom0 hph pl5 (by decide)) ⟨f6, rfl, Xb1, F6, W6, ⟨by omega, by omega⟩, (fun ss hs => Or.inl ⟨by omega, by omega, fun q => absurd q.2 (by omega)⟩), (gk11f6.trans hkp11), (gk12f6.trans hkp12), (gk13f6.trans hkp13), (gk14f6.trans hkp14), (gk15f6.trans hkp15), (gk16f6.trans hkp16), (fun ss tt hs ht => ⟨fun _ => CT.fr (hc3 tt ht) Wb1 ty3 fl6 rfl rfl rfl rfl rfl, fun q => absurd (by omega) q⟩), (show rvb1 a0 9 = rv a0 9 from hkr9), (show rvb1 a0 10 = rv a0 10 from hkr10)⟩
      · refine c_aload_n (j := 1) (x := a0) C dX11_addText_13 rfl ?_
        refine c_getr (k := 0) C ck_12 dX11_addText_14 w2_44 (by decide) ty1 rfl rfl (by decide) rfl rq1 ?_
        refine c_st (st2 := [.ref (sk 2)]) rfl ?_
        refine c_iload_n (j := 0) C dX11_addText_17 rfl ?_
        have pl6 := Phi.le Wb1 skb1
        refine d_callV (As := [.int (iI k)]) (rest := []) C hM (C_at_2 (a0 := (sk 2)) (i := k) Wb1 skb1 ty2 (by omega) ) dX11_addText_18 kV_X11_224 rfl ty2 rfl rfl (by decide) ck_2 rfl (Nat.le_of_ble_eq_true rfl) ⟨(Nat.le_of_ble_eq_true rfl), (Nat.le_of_ble_eq_true rfl)⟩ hph pl6 (show 0 + 0 = 0 from rfl) (by decide) (fun rh7 Lh7 clh7 lnh7 ivh7 rvh7 h7 => ?_)
        obtain ⟨f7, rfl, rfl, rfl, rfl, rfl, rfl, rgf7, exf7⟩ := h7
        refine c_st (st2 := [.int (iI f7)]) rfl ?_
        have gf7 : ((0 ≤ k ∧ k < ivb1 (sk 2) 2) ∨ f7 = 0) ∧ ∀ ss, CT ivb1 rvb1 (sk 2) ss → 0 ≤ k → k < ivb1 (sk 2) 2 → f7 = ss k.toNat := exf7
        refine c_istore_n (lv2 := [(2, .int (iI f7)), (1, .int (iI k)), (0, .ref a0)]) C dX11_addText_21 (by decide) rfl ?_
        refine c_iload_n (j := 0) C dX11_addText_22 rfl ?_
        refine c_bipush (z := 10) C dX11_addText_23 (by decide) ?_
        refine c_icmp_eq (tgt := 47) C ⟨by omega, by omega⟩ ⟨by decide, by decide⟩ dX11_addText_25 (by decide) (fun c4 => ?_) (fun c4 => ?_)
        · refine c_iinc (z := k) (j := 1) (lv2 := [(1, .int (iI (k + 1))), (2, .int (iI f7)), (0, .ref a0)]) C dX11_addText_47 rfl (by decide) rfl ?_
          refine c_goto (tgt := 2) C dX11_addText_50 (by decide) ?_
          refine hv7 (Xb1.ty tsk3) (show 1 ≤ ivb1 a0 11 ∧ ivb1 a0 11 ≤ 100 from Wb1.int ty1 11) (show 1 ≤ ivb1 a0 12 ∧ ivb1 a0 12 ≤ 50 from Wb1.int ty1 12) (show (-2147483648) ≤ ivb1 a0 13 ∧ ivb1 a0 13 ≤ 2147483647 from Wb1.int ty1 13) (show (-2147483648) ≤ ivb1 a0 14 ∧ ivb1 a0 14 ≤ 2147483647 from Wb1.int ty1 14) (show (-2147483648) ≤ ivb1 a0 15 ∧ ivb1 a0 15 ≤ 2147483647 from Wb1.int ty1 15) (show (-2147483648) ≤ ivb1 a0 16 ∧ ivb1 a0 16 ≤ 2147483647 from Wb1.int ty1 16) (fun ty28 ri52 ri53 ri54 ri55 ri56 ri57 => ?_)
          have ri51 : 0 ≤ ivb1 (sk 3) 2 ∧ ivb1 (sk 3) 2 ≤ 500 := Wb1.int ty28 2
          refine c_lv (lv2 := [(1, .int (iI (k + 1))), (0, .ref a0)]) [0, 2] rfl ?_
          exact ih1  (k + 1) _ _ _ _ _ (by omega) Xb1 Wb1 Fb1  (by omega) h33 (fun ss hs => TOK.snoc (htk ss hs) (by omega) (by have e := gf7.2 ss (CT.fr hs hW tsk2 Fb1 rfl rfl rfl rfl rfl) (by omega) (by omega); rw [← e]; omega)) hc3 hkp11 hkp12 hkp13 hkp14 hkp15 hkp16 (show rvb1 a0 9 = rv a0 9 from hkr9) (show rvb1 a0 10 = rv a0 10 from hkr10)
        · refine c_iload_n (j := 0) C dX11_addText_28 rfl ?_
          refine c_bipush (z := 32) C dX11_addText_29 (by decide) ?_
          refine c_icmp_lt (tgt := 40) C ⟨by omega, by omega⟩ ⟨by decide, by decide⟩ dX11_addText_31 (by decide) (fun c5 => ?_) (fun c5 => ?_)
          · refine c_aload_n (j := 2) (x := a0) C dX11_addText_40 rfl ?_
            refine c_bipush (z := 6) C dX11_addText_41 (by decide) ?_
            have ty29 := Xb1.ty tsk3
            refine d_callV (As := [.int (iI 6)]) (rest := []) C hM (C_refuse (a0 := a0) (x := 6) Wb1 skb1 ty1 ⟨by decide, by decide⟩ ) dX11_addText_43 kV_X11_102 rfl ty1 rfl rfl (by decide) ck_12 rfl (Nat.le_of_ble_eq_true rfl) ⟨(Nat.le_of_ble_eq_true rfl), (Nat.le_of_ble_eq_true rfl)⟩ hph pl6 (show 0 + 0 = 0 from rfl) (by decide) (fun rh8 Lh8 clh8 lnh8 ivh8 rvh8 h8 => ?_)
            obtain ⟨f8, rfl, rfl, rfl, rfl, rfl, fl8, W8, rgf8, exf8, kp11f8, kp12f8, kp13f8, kp14f8, kp15f8, kp16f8⟩ := h8
            refine hv7 (show 1 ≤ ivb1 a0 11 ∧ ivb1 a0 11 ≤ 100 from Wb1.int ty1 11) (show 1 ≤ ivb1 a0 12 ∧ ivb1 a0 12 ≤ 50 from Wb1.int ty1 12) (show (-2147483648) ≤ ivb1 a0 13 ∧ ivb1 a0 13 ≤ 2147483647 from Wb1.int ty1 13) (show (-2147483648) ≤ ivb1 a0 14 ∧ ivb1 a0 14 ≤ 2147483647 from Wb1.int ty1 14) (show (-2147483648) ≤ ivb1 a0 15 ∧ ivb1 a0 15 ≤ 2147483647 from Wb1.int ty1 15) (show (-2147483648) ≤ ivb1 a0 16 ∧ ivb1 a0 16 ≤ 2147483647 from Wb1.int ty1 16) (Fb1.call Xb1 fl8 rfl) (fun ri58 ri59 ri60 ri61 ri62 ri63 F7 => ?_)
            refine c_st (st2 := [.int (iI f8)]) rfl ?_
            refine hv17 (show ivh8 a0 11 = ivb1 a0 11 from kp11f8) (show ivh8 a0 12 = ivb1 a0 12 from kp12f8) (show ivh8 a0 13 = ivb1 a0 13 from kp13f8) (show ivh8 a0 14 = ivb1 a0 14 from kp14f8) (show ivh8 a0 15 = ivb1 a0 15 from kp15f8) (show ivh8 a0 16 = ivb1 a0 16 from kp16f8) (show f8 = -1 from exf8) (show 1 ≤ ivh8 a0 11 ∧ ivh8 a0 11 ≤ 100 from W8.int ty1 11) (show 1 ≤ ivh8 a0 12 ∧ ivh8 a0 12 ≤ 50 from W8.int ty1 12) (show (-2147483648) ≤ ivh8 a0 13 ∧ ivh8 a0 13 ≤ 2147483647 from W8.int ty1 13) (show (-2147483648) ≤ ivh8 a0 14 ∧ ivh8 a0 14 ≤ 2147483647 from W8.int ty1 14) (show (-2147483648) ≤ ivh8 a0 15 ∧ ivh8 a0 15 ≤ 2147483647 from W8.int ty1 15) (show (-2147483648) ≤ ivh8 a0 16 ∧ ivh8 a0 16 ≤ 2147483647 from W8.int ty1 16) (show 0 ≤ ivh8 (sk 3) 2 ∧ ivh8 (sk 3) 2 ≤ 500 from W8.int ty29 2) (show ivh8 (sk 3) 2 = ivb1 (sk 3) 2 from fl8.i ty29 rfl 2) (show 0 ≤ ivh8 (sk 2) 2 ∧ ivh8 (sk 2) 2 ≤ 3000 from W8.int ty2 2) (show ivh8 (sk 2) 2 = ivb1 (sk 2) 2 from fl8.i ty2 rfl 2) (fun gk11f8 gk12f8 gk13f8 gk14f8 gk15f8 gk16f8 gf8 ri64 ri65 ri66 ri67 ri68 ri69 ri70 ie88 ri71 ie90 => ?_)
            exact c_iret C dX11_addText_46 rfl (by decide) (rom0 hph pl6 (by decide)) ⟨f8, rfl, Xb1, F7, W8, ⟨by omega, by omega⟩, (fun ss hs => Or.inl ⟨by omega, by omega, fun q => absurd (q.1 k.toNat (by omega)) (by have e := gf7.2 ss (CT.fr hs hW tsk2 Fb1 rfl rfl rfl rfl rfl) (by omega) (by omega); rw [← e]; omega)⟩), (gk11f8.trans hkp11), (gk12f8.trans hkp12), (gk13f8.trans hkp13), (gk14f8.trans hkp14), (gk15f8.trans hkp15), (gk16f8.trans hkp16), (fun ss tt hs ht => ⟨fun _ => CT.fr (hc3 tt ht) Wb1 ty29 fl8 rfl rfl rfl rfl rfl, fun q => absurd (by omega) q⟩), (show rvb1 a0 9 = rv a0 9 from hkr9), (show rvb1 a0 10 = rv a0 10 from hkr10)⟩
          · refine c_iload_n (j := 0) C dX11_addText_34 rfl ?_
            refine c_bipush (z := 126) C dX11_addText_35 (by decide) ?_
            refine c_icmp_le (tgt := 47) C ⟨by omega, by omega⟩ ⟨by decide, by decide⟩ dX11_addText_37 (by decide) (fun c6 => ?_) (fun c6 => ?_)
            · refine c_iinc (z := k) (j := 1) (lv2 := [(1, .int (iI (k + 1))), (2, .int (iI f7)), (0, .ref a0)]) C dX11_addText_47 rfl (by decide) rfl ?_
              refine c_goto (tgt := 2) C dX11_addText_50 (by decide) ?_
              refine hv7 (Xb1.ty tsk3) (show 1 ≤ ivb1 a0 11 ∧ ivb1 a0 11 ≤ 100 from Wb1.int ty1 11) (show 1 ≤ ivb1 a0 12 ∧ ivb1 a0 12 ≤ 50 from Wb1.int ty1 12) (show (-2147483648) ≤ ivb1 a0 13 ∧ ivb1 a0 13 ≤ 2147483647 from Wb1.int ty1 13) (show (-2147483648) ≤ ivb1 a0 14 ∧ ivb1 a0 14 ≤ 2147483647 from Wb1.int ty1 14) (show (-2147483648) ≤ ivb1 a0 15 ∧ ivb1 a0 15 ≤ 2147483647 from Wb1.int ty1 15) (show (-2147483648) ≤ ivb1 a0 16 ∧ ivb1 a0 16 ≤ 2147483647 from Wb1.int ty1 16) (fun ty30 ri73 ri74 ri75 ri76 ri77 ri78 => ?_)
              have ri72 : 0 ≤ ivb1 (sk 3) 2 ∧ ivb1 (sk 3) 2 ≤ 500 := Wb1.int ty30 2
              refine c_lv (lv2 := [(1, .int (iI (k + 1))), (0, .ref a0)]) [0, 2] rfl ?_
              exact ih1  (k + 1) _ _ _ _ _ (by omega) Xb1 Wb1 Fb1  (by omega) h33 (fun ss hs => TOK.snoc (htk ss hs) (by omega) (by have e := gf7.2 ss (CT.fr hs hW tsk2 Fb1 rfl rfl rfl rfl rfl) (by omega) (by omega); rw [← e]; omega)) hc3 hkp11 hkp12 hkp13 hkp14 hkp15 hkp16 (show rvb1 a0 9 = rv a0 9 from hkr9) (show rvb1 a0 10 = rv a0 10 from hkr10)
            · refine c_aload_n (j := 2) (x := a0) C dX11_addText_40 rfl ?_
              refine c_bipush (z := 6) C dX11_addText_41 (by decide) ?_
              have ty31 := Xb1.ty tsk3
              refine d_callV (As := [.int (iI 6)]) (rest := []) C hM (C_refuse (a0 := a0) (x := 6) Wb1 skb1 ty1 ⟨by decide, by decide⟩ ) dX11_addText_43 kV_X11_102 rfl ty1 rfl rfl (by decide) ck_12 rfl (Nat.le_of_ble_eq_true rfl) ⟨(Nat.le_of_ble_eq_true rfl), (Nat.le_of_ble_eq_true rfl)⟩ hph pl6 (show 0 + 0 = 0 from rfl) (by decide) (fun rh9 Lh9 clh9 lnh9 ivh9 rvh9 h9 => ?_)
              obtain ⟨f9, rfl, rfl, rfl, rfl, rfl, fl9, W9, rgf9, exf9, kp11f9, kp12f9, kp13f9, kp14f9, kp15f9, kp16f9⟩ := h9
              refine hv7 (show 1 ≤ ivb1 a0 11 ∧ ivb1 a0 11 ≤ 100 from Wb1.int ty1 11) (show 1 ≤ ivb1 a0 12 ∧ ivb1 a0 12 ≤ 50 from Wb1.int ty1 12) (show (-2147483648) ≤ ivb1 a0 13 ∧ ivb1 a0 13 ≤ 2147483647 from Wb1.int ty1 13) (show (-2147483648) ≤ ivb1 a0 14 ∧ ivb1 a0 14 ≤ 2147483647 from Wb1.int ty1 14) (show (-2147483648) ≤ ivb1 a0 15 ∧ ivb1 a0 15 ≤ 2147483647 from Wb1.int ty1 15) (show (-2147483648) ≤ ivb1 a0 16 ∧ ivb1 a0 16 ≤ 2147483647 from Wb1.int ty1 16) (Fb1.call Xb1 fl9 rfl) (fun ri79 ri80 ri81 ri82 ri83 ri84 F8 => ?_)
              refine c_st (st2 := [.int (iI f9)]) rfl ?_
              refine hv17 (show ivh9 a0 11 = ivb1 a0 11 from kp11f9) (show ivh9 a0 12 = ivb1 a0 12 from kp12f9) (show ivh9 a0 13 = ivb1 a0 13 from kp13f9) (show ivh9 a0 14 = ivb1 a0 14 from kp14f9) (show ivh9 a0 15 = ivb1 a0 15 from kp15f9) (show ivh9 a0 16 = ivb1 a0 16 from kp16f9) (show f9 = -1 from exf9) (show 1 ≤ ivh9 a0 11 ∧ ivh9 a0 11 ≤ 100 from W9.int ty1 11) (show 1 ≤ ivh9 a0 12 ∧ ivh9 a0 12 ≤ 50 from W9.int ty1 12) (show (-2147483648) ≤ ivh9 a0 13 ∧ ivh9 a0 13 ≤ 2147483647 from W9.int ty1 13) (show (-2147483648) ≤ ivh9 a0 14 ∧ ivh9 a0 14 ≤ 2147483647 from W9.int ty1 14) (show (-2147483648) ≤ ivh9 a0 15 ∧ ivh9 a0 15 ≤ 2147483647 from W9.int ty1 15) (show (-2147483648) ≤ ivh9 a0 16 ∧ ivh9 a0 16 ≤ 2147483647 from W9.int ty1 16) (show 0 ≤ ivh9 (sk 3) 2 ∧ ivh9 (sk 3) 2 ≤ 500 from W9.int ty31 2) (show ivh9 (sk 3) 2 = ivb1 (sk 3) 2 from fl9.i ty31 rfl 2) (show 0 ≤ ivh9 (sk 2) 2 ∧ ivh9 (sk 2) 2 ≤ 3000 from W9.int ty2 2) (show ivh9 (sk 2) 2 = ivb1 (sk 2) 2 from fl9.i ty2 rfl 2) (fun gk11f9 gk12f9 gk13f9 gk14f9 gk15f9 gk16f9 gf9 ri85 ri86 ri87 ri88 ri89 ri90 ri91 ie110 ri92 ie112 => ?_)
              exact c_iret C dX11_addText_46 rfl (by decide) (rom0 hph pl6 (by decide)) ⟨f9, rfl, Xb1, F8, W9, ⟨by omega, by omega⟩, (fun ss hs => Or.inl ⟨by omega, by omega, fun q => absurd (q.1 k.toNat (by omega)) (by have e := gf7.2 ss (CT.fr hs hW tsk2 Fb1 rfl rfl rfl rfl rfl) (by omega) (by omega); rw [← e]; omega)⟩), (gk11f9.trans hkp11), (gk12f9.trans hkp12), (gk13f9.trans hkp13), (gk14f9.trans hkp14), (gk15f9.trans hkp15), (gk16f9.trans hkp16), (fun ss tt hs ht => ⟨fun _ => CT.fr (hc3 tt ht) Wb1 ty31 fl9 rfl rfl rfl rfl rfl, fun q => absurd (by omega) q⟩), (show rvb1 a0 9 = rv a0 9 from hkr9), (show rvb1 a0 10 = rv a0 10 from hkr10)⟩
  refine hv6 (show 1 ≤ iv a0 11 ∧ iv a0 11 ≤ 100 from hW.int t_a0 11) (show 1 ≤ iv a0 12 ∧ iv a0 12 ≤ 50 from hW.int t_a0 12) (show (-2147483648) ≤ iv a0 13 ∧ iv a0 13 ≤ 2147483647 from hW.int t_a0 13) (show (-2147483648) ≤ iv a0 14 ∧ iv a0 14 ≤ 2147483647 from hW.int t_a0 14) (show (-2147483648) ≤ iv a0 15 ∧ iv a0 15 ≤ 2147483647 from hW.int t_a0 15) (show (-2147483648) ≤ iv a0 16 ∧ iv a0 16 ≤ 2147483647 from hW.int t_a0 16) (fun ri93 ri94 ri95 ri96 ri97 ri98 => ?_)
  refine c_lv (lv2 := [(1, .int (iI 0)), (0, .ref a0)]) [0, 1] rfl ?_
  exact Lp1 3003 0 _ _ _ _ _ (by omega) hX0 hW hF0  (by omega) rfl (fun ss hs => TOK.zero) (fun tt ht => ht) rfl rfl rfl rfl rfl rfl rfl rfl
set_option maxHeartbeats 4000000 in
set_option maxRecDepth 100000 in
theorem C_text {l : Launch} {G : GT} {mi : Nat} {sk : Nat → Nat} {L : List Nat} {cl ln : Nat → Nat} {iv : Nat → Nat → Int} {rv : Nat → Nat → Option Nat}  {a0 : Nat} (hW : WT (g0 G) sk L cl ln iv rv) (hS : SKL sk L cl) (t_a0 : ty L cl a0 1)  : Mc l G mi (Phi (g0 G) sk) PHM yX11_text cX11_text 2 (some .int) 5 [.ref a0] L cl ln iv rv 0 (fun v L2 cl2 ln2 iv2 rv2 => ∃ f : Int, v = some (.int (iI f)) ∧ XT L cl ln L2 cl2 ln2 ∧ fT [1, 2, 3, 33] L cl iv rv iv2 rv2 ∧ WT (g0 G) sk L2 cl2 ln2 iv2 rv2 ∧ (-2147483648 ≤ f ∧ f ≤ 2147483647) ∧ (∀ ss, CT iv rv (sk 2) ss → ((f = -1 ∧ iv2 (sk 3) 2 = iv (sk 3) 2 ∧ ¬ (TOK ss (iv (sk 2) 2) ∧ iv (sk 3) 2 + iv (sk 2) 2 ≤ 500)) ∨ (f = iv2 (sk 3) 2 ∧ TOK ss (iv (sk 2) 2) ∧ iv (sk 3) 2 + iv (sk 2) 2 ≤ 500 ∧ ((iv (sk 2) 2 = 0 ∧ iv2 (sk 3) 2 = 0) ∨ (iv (sk 2) 2 ≠ 0 ∧ iv2 (sk 3) 2 = iv (sk 3) 2 + iv (sk 2) 2))))) ∧ iv2 a0 11 = iv a0 11 ∧ iv2 a0 12 = iv a0 12 ∧ iv2 a0 13 = iv a0 13 ∧ iv2 a0 14 = iv a0 14 ∧ iv2 a0 15 = iv a0 15 ∧ iv2 a0 16 = iv a0 16 ∧ iv2 (sk 2) 2 = 0 ∧ (∀ ss tt, CT iv rv (sk 2) ss → CT iv rv (sk 3) tt → (f = -1 → CT iv2 rv2 (sk 3) tt) ∧ (f ≠ -1 → CT iv2 rv2 (sk 3) (apd tt (iv (sk 3) 2).toNat ss))) ∧ rv2 a0 9 = rv a0 9 ∧ rv2 a0 10 = rv a0 10) := by
  refine Mc.mk (by decide) (Nat.le_of_ble_eq_true rfl) ?_
  intro p e s m args below meth c A C hM
  refine hv14 (Phi.le hW hS) (show ty L cl (sk 2) 2 from ⟨(hS 2 rfl).1, by rw [(hS 2 rfl).2]; rfl⟩) (show ty L cl (sk 3) 3 from ⟨(hS 3 rfl).1, by rw [(hS 3 rfl).2]; rfl⟩) (show ty L cl (sk 4) 4 from ⟨(hS 4 rfl).1, by rw [(hS 4 rfl).2]; rfl⟩) (show ty L cl (sk 5) 5 from ⟨(hS 5 rfl).1, by rw [(hS 5 rfl).2]; rfl⟩) (show ty L cl (sk 13) 13 from ⟨(hS 13 rfl).1, by rw [(hS 13 rfl).2]; rfl⟩) (show ty L cl (sk 14) 14 from ⟨(hS 14 rfl).1, by rw [(hS 14 rfl).2]; rfl⟩) (show ty L cl (sk 15) 15 from ⟨(hS 15 rfl).1, by rw [(hS 15 rfl).2]; rfl⟩) (show ty L cl (sk 16) 16 from ⟨(hS 16 rfl).1, by rw [(hS 16 rfl).2]; rfl⟩) (show ty L cl (sk 17) 17 from ⟨(hS 17 rfl).1, by rw [(hS 17 rfl).2]; rfl⟩) (show ty L cl (sk 22) 22 from ⟨(hS 22 rfl).1, by rw [(hS 22 rfl).2]; rfl⟩) (show ty L cl (sk 23) 23 from ⟨(hS 23 rfl).1, by rw [(hS 23 rfl).2]; rfl⟩) (show XT L cl ln L cl ln from XT.refl) (show fT [1, 2, 3, 33] L cl iv rv iv rv from fT.refl) (fun hph tsk2 tsk3 tsk4 tsk5 tsk13 tsk14 tsk15 tsk16 tsk17 tsk22 tsk23 hX0 hF0 => ?_)
  refine c_aload_n (j := 0) (x := a0) C dX11_text_0 rfl ?_
  refine hv2 (show 0 ≤ iv (sk 3) 2 ∧ iv (sk 3) 2 ≤ 500 from hW.int tsk3 2) (show 0 ≤ iv (sk 2) 2 ∧ iv (sk 2) 2 ≤ 3000 from hW.int tsk2 2) (fun ri1 ri2 => ?_)
  refine d_callV (As := []) (rest := []) C hM (C_addText (a0 := a0) hW hS t_a0  ) dX11_text_1 kV_X11_221 rfl t_a0 rfl rfl (by decide) ck_12 rfl (Nat.le_of_ble_eq_true rfl) ⟨(Nat.le_of_ble_eq_true rfl), (Nat.le_of_ble_eq_true rfl)⟩ hph hph (show 0 + 0 = 0 from rfl) (by decide) (fun rh1 Lh1 clh1 lnh1 ivh1 rvh1 h1 => ?_)
  obtain ⟨f1, rfl, xl1, fl1, W1, rgf1, exf1, kp11f1, kp12f1, kp13f1, kp14f1, kp15f1, kp16f1, txkf1, kr9f1, kr10f1⟩ := h1
  refine hv9 (show 1 ≤ iv a0 11 ∧ iv a0 11 ≤ 100 from hW.int t_a0 11) (show 1 ≤ iv a0 12 ∧ iv a0 12 ≤ 50 from hW.int t_a0 12) (show (-2147483648) ≤ iv a0 13 ∧ iv a0 13 ≤ 2147483647 from hW.int t_a0 13) (show (-2147483648) ≤ iv a0 14 ∧ iv a0 14 ≤ 2147483647 from hW.int t_a0 14) (show (-2147483648) ≤ iv a0 15 ∧ iv a0 15 ≤ 2147483647 from hW.int t_a0 15) (show (-2147483648) ≤ iv a0 16 ∧ iv a0 16 ≤ 2147483647 from hW.int t_a0 16) (hF0.call hX0 fl1 rfl) (hX0.trans xl1) (xl1.skl hS) (fun ri3 ri4 ri5 ri6 ri7 ri8 F1 X1 sk1 => ?_)
  refine c_st (st2 := [.int (iI f1)]) rfl ?_
  refine hv8 (show ivh1 a0 11 = iv a0 11 from kp11f1) (show ivh1 a0 12 = iv a0 12 from kp12f1) (show ivh1 a0 13 = iv a0 13 from kp13f1) (show ivh1 a0 14 = iv a0 14 from kp14f1) (show ivh1 a0 15 = iv a0 15 from kp15f1) (show ivh1 a0 16 = iv a0 16 from kp16f1) (xl1.ty tsk3) (show ∀ ss, CT iv rv (sk 2) ss → ((f1 = -1 ∧ ivh1 (sk 3) 2 = iv (sk 3) 2 ∧ ¬ (TOK ss (iv (sk 2) 2) ∧ iv (sk 3) 2 + iv (sk 2) 2 ≤ 500)) ∨ (f1 = ivh1 (sk 3) 2 ∧ TOK ss (iv (sk 2) 2) ∧ iv (sk 3) 2 + iv (sk 2) 2 ≤ 500 ∧ ((iv (sk 2) 2 = 0 ∧ ivh1 (sk 3) 2 = 0) ∨ (iv (sk 2) 2 ≠ 0 ∧ ivh1 (sk 3) 2 = iv (sk 3) 2 + iv (sk 2) 2)))) from exf1) (fun gk11f1 gk12f1 gk13f1 gk14f1 gk15f1 gk16f1 ty1 gf1 => ?_)
  have ri9 : 0 ≤ ivh1 (sk 3) 2 ∧ ivh1 (sk 3) 2 ≤ 500 := W1.int ty1 2
  refine c_istore_n (lv2 := [(1, .int (iI f1)), (0, .ref a0)]) C dX11_text_4 (by decide) rfl ?_
  refine c_aload_n (j := 1) (x := a0) C dX11_text_5 rfl ?_
  have ty2 := xl1.ty t_a0
  obtain ⟨rb1, rq1, trb1⟩ := W1.ref ty2 0 rfl rfl rfl
  have erb1 := W1.sk trb1 (by decide) rfl
  subst erb1
  refine c_getr (k := 0) C ck_12 dX11_text_6 w2_44 (by decide) ty2 rfl rfl (by decide) rfl rq1 ?_
  refine c_st (st2 := [.ref (sk 2)]) rfl ?_
  refine hv2 (xl1.ty tsk2) (Phi.le W1 sk1) (fun ty3 pl1 => ?_)
  refine d_callV (As := []) (rest := []) C hM (C_clear_2 (a0 := (sk 2)) W1 sk1 ty3  ) dX11_text_9 kV_X11_164 rfl ty3 rfl rfl (by decide) ck_2 rfl (Nat.le_of_ble_eq_true rfl) ⟨(Nat.le_of_ble_eq_true rfl), (Nat.le_of_ble_eq_true rfl)⟩ hph pl1 (show 0 + 0 = 0 from rfl) (by decide) (fun rh2 Lh2 clh2 lnh2 ivh2 rvh2 h2 => ?_)
  obtain ⟨rfl, rfl, rfl, rfl, rfl, fl2, W2, exf2⟩ := h2
  have F2 := F1.call X1 fl2 rfl
  refine c_st (st2 := []) rfl ?_
  refine hv2 (show 0 ≤ ivh2 (sk 2) 2 ∧ ivh2 (sk 2) 2 ≤ 3000 from W2.int ty3 2) (show ivh2 (sk 2) 2 = 0 from exf2) (fun ri10 gf2 => ?_)
  refine c_iload_n (j := 0) C dX11_text_12 rfl ?_
  refine hv14 (show 1 ≤ ivh2 a0 11 ∧ ivh2 a0 11 ≤ 100 from W2.int ty2 11) (show ivh2 a0 11 = ivh1 a0 11 from fl2.i ty2 rfl 11) (show 1 ≤ ivh2 a0 12 ∧ ivh2 a0 12 ≤ 50 from W2.int ty2 12) (show ivh2 a0 12 = ivh1 a0 12 from fl2.i ty2 rfl 12) (show (-2147483648) ≤ ivh2 a0 13 ∧ ivh2 a0 13 ≤ 2147483647 from W2.int ty2 13) (show ivh2 a0 13 = ivh1 a0 13 from fl2.i ty2 rfl 13) (show (-2147483648) ≤ ivh2 a0 14 ∧ ivh2 a0 14 ≤ 2147483647 from W2.int ty2 14) (show ivh2 a0 14 = ivh1 a0 14 from fl2.i ty2 rfl 14) (show (-2147483648) ≤ ivh2 a0 15 ∧ ivh2 a0 15 ≤ 2147483647 from W2.int ty2 15) (show ivh2 a0 15 = ivh1 a0 15 from fl2.i ty2 rfl 15) (show (-2147483648) ≤ ivh2 a0 16 ∧ ivh2 a0 16 ≤ 2147483647 from W2.int ty2 16) (show ivh2 a0 16 = ivh1 a0 16 from fl2.i ty2 rfl 16) (show 0 ≤ ivh2 (sk 3) 2 ∧ ivh2 (sk 3) 2 ≤ 500 from W2.int ty1 2) (show ivh2 (sk 3) 2 = ivh1 (sk 3) 2 from fl2.i ty1 rfl 2) (fun ri11 ie3 ri12 ie5 ri13 ie7 ri14 ie9 ri15 ie11 ri16 ie13 ri17 ie15 => ?_)
  exact c_iret C dX11_text_13 rfl (by decide) (rom0 hph pl1 (by decide)) ⟨f1, rfl, X1, F2, W2, ⟨by omega, by omega⟩, (fun ss hs => by rw [show ivh2 (sk 3) 2 = ivh1 (sk 3) 2 by omega]; exact gf1 ss hs), (ie3.trans gk11f1), (ie5.trans gk12f1), (ie7.trans gk13f1), (ie9.trans gk14f1), (ie11.trans gk15f1), (ie13.trans gk16f1), gf2, (fun ss tt hs ht => ⟨fun e => CT.fr ((txkf1 ss tt hs ht).1 e) W1 ty1 fl2 rfl rfl rfl rfl rfl, fun e => CT.fr ((txkf1 ss tt hs ht).2 e) W1 ty1 fl2 rfl rfl rfl rfl rfl⟩), (show rvh1 a0 9 = rv a0 9 from kr9f1), (show rvh1 a0 10 = rv a0 10 from kr10f1)⟩
set_option maxHeartbeats 4000000 in
set_option maxRecDepth 100000 in
theorem C_head {l : Launch} {G : GT} {mi : Nat} {sk : Nat → Nat} {L : List Nat} {cl ln : Nat → Nat} {iv : Nat → Nat → Int} {rv : Nat → Nat → Option Nat}  {a0 : Nat} {i : Int} (hW : WT (g0 G) sk L cl ln iv rv) (hS : SKL sk L cl) (t_a0 : ty L cl a0 1) (h_i : -2147483648 ≤ i ∧ i ≤ 2147483647) (hmr : MRK sk cl iv rv) : Mc l G mi (Phi (g0 G) sk) PHM yX11_head cX11_head 6 (some .int) 8 [.ref a0, .int (iI i)] L cl ln iv rv 0 (fun v L2 cl2 ln2 iv2 rv2 => ∃ f : Int, v = some (.int (iI f)) ∧ XT L cl ln L2 cl2 ln2 ∧ fT [1, 2, 5, 35, 15, 50, 51, 52, 53, 54, 55] L cl iv rv iv2 rv2 ∧ WT (g0 G) sk L2 cl2 ln2 iv2 rv2 ∧ (-2147483648 ≤ f ∧ f ≤ 2147483647) ∧ (True) ∧ iv2 a0 11 = iv a0 11 ∧ iv2 a0 12 = iv a0 12 ∧ iv2 a0 13 = iv a0 13 ∧ iv2 a0 14 = iv a0 14 ∧ iv2 a0 15 = iv a0 15 ∧ iv2 a0 16 = iv a0 16 ∧ iv2 (sk 2) 2 = 0 ∧ rv2 a0 9 = rv a0 9 ∧ rv2 a0 10 = rv a0 10) := by
  refine Mc.mk (by decide) (Nat.le_of_ble_eq_true rfl) ?_
  intro p e s m args below meth c A C hM
  refine hv14 (Phi.le hW hS) (show ty L cl (sk 2) 2 from ⟨(hS 2 rfl).1, by rw [(hS 2 rfl).2]; rfl⟩) (show ty L cl (sk 3) 3 from ⟨(hS 3 rfl).1, by rw [(hS 3 rfl).2]; rfl⟩) (show ty L cl (sk 4) 4 from ⟨(hS 4 rfl).1, by rw [(hS 4 rfl).2]; rfl⟩) (show ty L cl (sk 5) 5 from ⟨(hS 5 rfl).1, by rw [(hS 5 rfl).2]; rfl⟩) (show ty L cl (sk 13) 13 from ⟨(hS 13 rfl).1, by rw [(hS 13 rfl).2]; rfl⟩) (show ty L cl (sk 14) 14 from ⟨(hS 14 rfl).1, by rw [(hS 14 rfl).2]; rfl⟩) (show ty L cl (sk 15) 15 from ⟨(hS 15 rfl).1, by rw [(hS 15 rfl).2]; rfl⟩) (show ty L cl (sk 16) 16 from ⟨(hS 16 rfl).1, by rw [(hS 16 rfl).2]; rfl⟩) (show ty L cl (sk 17) 17 from ⟨(hS 17 rfl).1, by rw [(hS 17 rfl).2]; rfl⟩) (show ty L cl (sk 22) 22 from ⟨(hS 22 rfl).1, by rw [(hS 22 rfl).2]; rfl⟩) (show ty L cl (sk 23) 23 from ⟨(hS 23 rfl).1, by rw [(hS 23 rfl).2]; rfl⟩) (show XT L cl ln L cl ln from XT.refl) (show fT [1, 2, 5, 35, 15, 50, 51, 52, 53, 54, 55] L cl iv rv iv rv from fT.refl) (fun hph tsk2 tsk3 tsk4 tsk5 tsk13 tsk14 tsk15 tsk16 tsk17 tsk22 tsk23 hX0 hF0 => ?_)
  refine c_aload_n (j := 0) (x := a0) C dX11_head_0 rfl ?_
  obtain ⟨rb1, rq1, trb1⟩ := hW.ref t_a0 0 rfl rfl rfl
  have erb1 := hW.sk trb1 (by decide) rfl
  subst erb1
  refine c_getr (k := 0) C ck_12 dX11_head_1 w2_44 (by decide) t_a0 rfl rfl (by decide) rfl rq1 ?_
  refine c_st (st2 := [.ref (sk 2)]) rfl ?_
  have ri1 : 0 ≤ iv (sk 2) 2 ∧ iv (sk 2) 2 ≤ 3000 := hW.int tsk2 2
  refine c_get (k := 2) C ck_2 dX11_head_4 w1_44 (by decide) tsk2 rfl rfl (by decide) rfl ?_
  refine c_bipush (z := 40) C dX11_head_7 (by decide) ?_
  refine c_icmp_gt (tgt := 38) C (r32_c (lo := 0) (hi := 3000) ri1.1 ri1.2 (by decide) (by decide)) ⟨by decide, by decide⟩ dX11_head_9 (by decide) (fun c1 => ?_) (fun c1 => ?_)
  · refine c_iconst C dX11_head_38 ?_
    refine c_istore_n (lv2 := [(2, .int (iI 0)), (0, .ref a0), (1, .int (iI i))]) C dX11_head_39 (by decide) rfl ?_
    refine c_aload_n (j := 1) (x := a0) C dX11_head_40 rfl ?_
    obtain ⟨rb2, rq2, trb2⟩ := hW.ref t_a0 6 rfl rfl rfl
    have erb2 := hW.sk trb2 (by decide) rfl
    subst erb2
    refine c_getr (k := 6) C ck_12 dX11_head_41 w2_50 (by decide) t_a0 rfl rfl (by decide) rfl rq2 ?_
    refine c_st (st2 := [.ref (sk 15)]) rfl ?_
    refine d_callV (As := []) (rest := []) C hM (C_wclear (a0 := (sk 15)) hW hS tsk15  ) dX11_head_44 kV_X11_272 rfl tsk15 rfl rfl (by decide) ck_7 rfl (Nat.le_of_ble_eq_true rfl) ⟨(Nat.le_of_ble_eq_true rfl), (Nat.le_of_ble_eq_true rfl)⟩ hph hph (show 0 + 0 = 0 from rfl) (by decide) (fun rh1 Lh1 clh1 lnh1 ivh1 rvh1 h1 => ?_)
    obtain ⟨rfl, rfl, rfl, rfl, rfl, fl1, W1, exf1⟩ := h1
    refine hv2 (hF0.call hX0 fl1 rfl) (MRK.call hmr hW hS XT.refl fl1 rfl rfl) (fun F1 mr1 => ?_)
    refine c_st (st2 := []) rfl ?_
    refine c_iconst C dX11_head_47 ?_
    refine c_istore_n (lv2 := [(3, .int (iI 0)), (2, .int (iI 0)), (0, .ref a0), (1, .int (iI i))]) C dX11_head_48 (by decide) rfl ?_
    have Lp1 : ∀ (nn : Nat) (fl k : Int) (Lb1 : List Nat) (clb1 lnb1 : Nat → Nat) (ivb1 : Nat → Nat → Int) (rvb1 : Nat → Nat → Option Nat) , 3001 - k < (nn : Int) → XT L cl ln Lb1 clb1 lnb1 → WT (g0 G) sk Lb1 clb1 lnb1 ivb1 rvb1 → fT [1, 2, 5, 35, 15, 50, 51, 52, 53, 54, 55] L cl iv rv ivb1 rvb1 → (fl = 0 ∨ fl = 1) → (0 ≤ k ∧ k ≤ 3000) → (ivb1 a0 11 = iv a0 11) → (ivb1 a0 12 = iv a0 12) → (ivb1 a0 13 = iv a0 13) → (ivb1 a0 14 = iv a0 14) → (ivb1 a0 15 = iv a0 15) → (ivb1 a0 16 = iv a0 16) → (rvb1 a0 9 = rv a0 9) → (rvb1 a0 10 = rv a0 10) → cw p l e 8 ((PHM) + 0 - ((Phi (g0 G) sk) ln rv)) s m args below meth c G A 6 (MQ below (Qu G A (Qp G (Phi (g0 G) sk) ((Phi (g0 G) sk) ln rv) 0 (fun v L2 cl2 ln2 iv2 rv2 => ∃ f : Int, v = some (.int (iI f)) ∧ XT L cl ln L2 cl2 ln2 ∧ fT [1, 2, 5, 35, 15, 50, 51, 52, 53, 54, 55] L cl iv rv iv2 rv2 ∧ WT (g0 G) sk L2 cl2 ln2 iv2 rv2 ∧ (-2147483648 ≤ f ∧ f ≤ 2147483647) ∧ (True) ∧ iv2 a0 11 = iv a0 11 ∧ iv2 a0 12 = iv a0 12 ∧ iv2 a0 13 = iv a0 13 ∧ iv2 a0 14 = iv a0 14 ∧ iv2 a0 15 = iv a0 15 ∧ iv2 a0 16 = iv a0 16 ∧ iv2 (sk 2) 2 = 0 ∧ rv2 a0 9 = rv a0 9 ∧ rv2 a0 10 = rv a0 10))) args s (((PHM) + 0 - ((Phi (g0 G) sk) ln rv)) / 16) ((PHM) + 0 - ((Phi (g0 G) sk) ln rv)) A) (Phi (g0 G) sk) ((Phi (g0 G) sk) ln rv) Lb1 clb1 lnb1 ivb1 rvb1 0 49 [(2, .int (iI fl)), (3, .int (iI k)), (0, .ref a0), (1, .int (iI i))] [] := by
      intro nn
      induction nn with
      | zero =>
        intro  fl k Lb1 clb1 lnb1 ivb1 rvb1 hm Xb1 Wb1 Fb1  hfl hk hkp11 hkp12 hkp13 hkp14 hkp15 hkp16 hkr9 hkr10
        have skb1 := Xb1.skl hS
        exact absurd hm (by omega)
      | succ nn ih1 =>
        intro  fl k Lb1 clb1 lnb1 ivb1 rvb1 hm Xb1 Wb1 Fb1  hfl hk hkp11 hkp12 hkp13 hkp14 hkp15 hkp16 hkr9 hkr10
        refine hv2 (Xb1.skl hS) (MRK.call hmr hW hS Xb1 Fb1 rfl rfl) (fun skb1 mrb1 => ?_)
        refine c_iload_n (j := 0) C dX11_head_49 rfl ?_
        refine c_if_eq (tgt := 86) C (r32_01 hfl) dX11_head_50 (by decide) (fun c2 => ?_) (fun c2 => ?_)
        · clear hfl
          refine c_aload_n (j := 2) (x := a0) C dX11_head_86 rfl ?_
          have ty1 := Xb1.ty t_a0
          obtain ⟨rb3, rq3, trb3⟩ := Wb1.ref ty1 0 rfl rfl rfl
          have erb3 := Wb1.sk trb3 (by decide) rfl
          subst erb3
          refine c_getr (k := 0) C ck_12 dX11_head_87 w2_44 (by decide) ty1 rfl rfl (by decide) rfl rq3 ?_
          refine c_st (st2 := [.ref (sk 2)]) rfl ?_
          refine hv2 (Xb1.ty tsk2) (Phi.le Wb1 skb1) (fun ty2 pl1 => ?_)
          refine d_callV (As := []) (rest := []) C hM (C_clear_2 (a0 := (sk 2)) Wb1 skb1 ty2  ) dX11_head_90 kV_X11_164 rfl ty2 rfl rfl (by decide) ck_2 rfl (Nat.le_of_ble_eq_true rfl) ⟨(Nat.le_of_ble_eq_true rfl), (Nat.le_of_ble_eq_true rfl)⟩ hph pl1 (show 0 + 0 = 0 from rfl) (by decide) (fun rh2 Lh2 clh2 lnh2 ivh2 rvh2 h2 => ?_)
          obtain ⟨rfl, rfl, rfl, rfl, rfl, fl2, W2, exf2⟩ := h2
          refine hv2 (Fb1.call Xb1 fl2 rfl) (MRK.call mrb1 Wb1 skb1 XT.refl fl2 rfl rfl) (fun F2 mr2 => ?_)
          refine c_st (st2 := []) rfl ?_
          refine hv2 (show 0 ≤ ivh2 (sk 2) 2 ∧ ivh2 (sk 2) 2 ≤ 3000 from W2.int ty2 2) (show ivh2 (sk 2) 2 = 0 from exf2) (fun ri2 gf2 => ?_)
          refine c_iload_n (j := 0) C dX11_head_93 rfl ?_
          refine c_if_ne (tgt := 104) C ⟨by omega, by omega⟩ dX11_head_94 (by decide) (fun z => absurd z (by omega)) (fun _ => ?_)
          refine c_aload_n (j := 2) (x := a0) C dX11_head_97 rfl ?_
          refine c_bipush (z := 6) C dX11_head_98 (by decide) ?_
          refine d_callV (As := [.int (iI 6)]) (rest := []) C hM (C_refuse (a0 := a0) (x := 6) W2 skb1 ty1 ⟨by decide, by decide⟩ ) dX11_head_100 kV_X11_102 rfl ty1 rfl rfl (by decide) ck_12 rfl (Nat.le_of_ble_eq_true rfl) ⟨(Nat.le_of_ble_eq_true rfl), (Nat.le_of_ble_eq_true rfl)⟩ hph pl1 (show 0 + 0 = 0 from rfl) (by decide) (fun rh3 Lh3 clh3 lnh3 ivh3 rvh3 h3 => ?_)
          obtain ⟨f3, rfl, rfl, rfl, rfl, rfl, fl3, W3, rgf3, exf3, kp11f3, kp12f3, kp13f3, kp14f3, kp15f3, kp16f3⟩ := h3
          refine hv14 (show 1 ≤ ivh2 a0 11 ∧ ivh2 a0 11 ≤ 100 from W2.int ty1 11) (show ivh2 a0 11 = ivb1 a0 11 from fl2.i ty1 rfl 11) (show 1 ≤ ivh2 a0 12 ∧ ivh2 a0 12 ≤ 50 from W2.int ty1 12) (show ivh2 a0 12 = ivb1 a0 12 from fl2.i ty1 rfl 12) (show (-2147483648) ≤ ivh2 a0 13 ∧ ivh2 a0 13 ≤ 2147483647 from W2.int ty1 13) (show ivh2 a0 13 = ivb1 a0 13 from fl2.i ty1 rfl 13) (show (-2147483648) ≤ ivh2 a0 14 ∧ ivh2 a0 14 ≤ 2147483647 from W2.int ty1 14) (show ivh2 a0 14 = ivb1 a0 14 from fl2.i ty1 rfl 14) (show (-2147483648) ≤ ivh2 a0 15 ∧ ivh2 a0 15 ≤ 2147483647 from W2.int ty1 15) (show ivh2 a0 15 = ivb1 a0 15 from fl2.i ty1 rfl 15) (show (-2147483648) ≤ ivh2 a0 16 ∧ ivh2 a0 16 ≤ 2147483647 from W2.int ty1 16) (show ivh2 a0 16 = ivb1 a0 16 from fl2.i ty1 rfl 16) (F2.call Xb1 fl3 rfl) (MRK.call mr2 W2 skb1 XT.refl fl3 rfl rfl) (fun ri3 ie2 ri4 ie4 ri5 ie6 ri6 ie8 ri7 ie10 ri8 ie12 F3 mr3 => ?_)
          refine c_st (st2 := [.int (iI f3)]) rfl ?_
          refine hv15 (show ivh3 a0 11 = ivh2 a0 11 from kp11f3) (show ivh3 a0 12 = ivh2 a0 12 from kp12f3) (show ivh3 a0 13 = ivh2 a0 13 from kp13f3) (show ivh3 a0 14 = ivh2 a0 14 from kp14f3) (show ivh3 a0 15 = ivh2 a0 15 from kp15f3) (show ivh3 a0 16 = ivh2 a0 16 from kp16f3) (show f3 = -1 from exf3) (show 0 ≤ ivh3 (sk 2) 2 ∧ ivh3 (sk 2) 2 ≤ 3000 from W3.int ty2 2) (show ivh3 (sk 2) 2 = ivh2 (sk 2) 2 from fl3.i ty2 rfl 2) (show 1 ≤ ivh3 a0 11 ∧ ivh3 a0 11 ≤ 100 from W3.int ty1 11) (show 1 ≤ ivh3 a0 12 ∧ ivh3 a0 12 ≤ 50 from W3.int ty1 12) (show (-2147483648) ≤ ivh3 a0 13 ∧ ivh3 a0 13 ≤ 2147483647 from W3.int ty1 13) (show (-2147483648) ≤ ivh3 a0 14 ∧ ivh3 a0 14 ≤ 2147483647 from W3.int ty1 14) (show (-2147483648) ≤ ivh3 a0 15 ∧ ivh3 a0 15 ≤ 2147483647 from W3.int ty1 15) (show (-2147483648) ≤ ivh3 a0 16 ∧ ivh3 a0 16 ≤ 2147483647 from W3.int ty1 16) (fun gk11f3 gk12f3 gk13f3 gk14f3 gk15f3 gk16f3 gf3 ri9 ie14 ri10 ri11 ri12 ri13 ri14 ri15 => ?_)
          exact c_iret C dX11_head_103 rfl (by decide) (rom0 hph pl1 (by decide)) ⟨f3, rfl, Xb1, F3, W3, ⟨by omega, by omega⟩, trivial, (gk11f3.trans (ie2.trans hkp11)), (gk12f3.trans (ie4.trans hkp12)), (gk13f3.trans (ie6.trans hkp13)), (gk14f3.trans (ie8.trans hkp14)), (gk15f3.trans (ie10.trans hkp15)), (gk16f3.trans (ie12.trans hkp16)), (ie14.trans gf2), (show rvb1 a0 9 = rv a0 9 from hkr9), (show rvb1 a0 10 = rv a0 10 from hkr10)⟩
        · replace hfl := (hfl.resolve_left c2)
          refine c_iload_n (j := 1) C dX11_head_53 rfl ?_
          refine c_aload_n (j := 2) (x := a0) C dX11_head_54 rfl ?_
          have ty3 := Xb1.ty t_a0
          obtain ⟨rb4, rq4, trb4⟩ := Wb1.ref ty3 0 rfl rfl rfl
          have erb4 := Wb1.sk trb4 (by decide) rfl
          subst erb4
          refine c_getr (k := 0) C ck_12 dX11_head_55 w2_44 (by decide) ty3 rfl rfl (by decide) rfl rq4 ?_
          refine c_st (st2 := [.ref (sk 2), .int (iI k)]) rfl ?_
          have ty4 := Xb1.ty tsk2
          have ri16 : 0 ≤ ivb1 (sk 2) 2 ∧ ivb1 (sk 2) 2 ≤ 3000 := Wb1.int ty4 2
          refine c_get (k := 2) C ck_2 dX11_head_58 w1_44 (by decide) ty4 rfl rfl (by decide) rfl ?_
          refine c_icmp_ge (tgt := 86) C (r32_c (lo := 0) (hi := 3000) hk.1 hk.2 (by decide) (by decide)) (r32_c (lo := 0) (hi := 3000) ri16.1 ri16.2 (by decide) (by decide)) dX11_head_61 (by decide) (fun c3 => ?_) (fun c3 => ?_)
          · refine c_aload_n (j := 2) (x := a0) C dX11_head_86 rfl ?_
            refine c_getr (k := 0) C ck_12 dX11_head_87 w2_44 (by decide) ty3 rfl rfl (by decide) rfl rq4 ?_
            refine c_st (st2 := [.ref (sk 2)]) rfl ?_
            have pl2 := Phi.le Wb1 skb1
            refine d_callV (As := []) (rest := []) C hM (C_clear_2 (a0 := (sk 2)) Wb1 skb1 ty4  ) dX11_head_90 kV_X11_164 rfl ty4 rfl rfl (by decide) ck_2 rfl (Nat.le_of_ble_eq_true rfl) ⟨(Nat.le_of_ble_eq_true rfl), (Nat.le_of_ble_eq_true rfl)⟩ hph pl2 (show 0 + 0 = 0 from rfl) (by decide) (fun rh4 Lh4 clh4 lnh4 ivh4 rvh4 h4 => ?_)
            obtain ⟨rfl, rfl, rfl, rfl, rfl, fl4, W4, exf4⟩ := h4
            refine hv2 (Fb1.call Xb1 fl4 rfl) (MRK.call mrb1 Wb1 skb1 XT.refl fl4 rfl rfl) (fun F4 mr4 => ?_)
            refine c_st (st2 := []) rfl ?_
            refine hv2 (show 0 ≤ ivh4 (sk 2) 2 ∧ ivh4 (sk 2) 2 ≤ 3000 from W4.int ty4 2) (show ivh4 (sk 2) 2 = 0 from exf4) (fun ri17 gf4 => ?_)
            refine c_iload_n (j := 0) C dX11_head_93 rfl ?_
            refine c_if_ne (tgt := 104) C ⟨by omega, by omega⟩ dX11_head_94 (by decide) (fun _ => ?_) (fun z => absurd z (by omega))
            refine c_aload_n (j := 2) (x := a0) C dX11_head_104 rfl ?_
            obtain ⟨rb5, rq5, trb5⟩ := W4.ref ty3 4 rfl rfl rfl
            have erb5 := W4.sk trb5 (by decide) rfl
            subst erb5
            refine c_getr (k := 4) C ck_12 dX11_head_105 w2_48 (by decide) ty3 rfl rfl (by decide) rfl rq5 ?_
            refine c_st (st2 := [.ref (sk 13)]) rfl ?_
            refine c_iload_n (j := 3) C dX11_head_108 rfl ?_
            have ty5 := Xb1.ty tsk13
            refine d_callV (As := [.int (iI i)]) (rest := []) C hM (C_whole (a0 := (sk 13)) (i := i) W4 skb1 ty5 (by omega) mr4) dX11_head_109 kV_X11_231 rfl ty5 rfl rfl (by decide) ck_11 rfl (Nat.le_of_ble_eq_true rfl) ⟨(Nat.le_of_ble_eq_true rfl), (Nat.le_of_ble_eq_true rfl)⟩ hph pl2 (show 0 + 0 = 0 from rfl) (by decide) (fun rh5 Lh5 clh5 lnh5 ivh5 rvh5 h5 => ?_)
            obtain ⟨f5, rfl, rfl, rfl, rfl, rfl, rfl, rgf5, exf5⟩ := h5
            refine c_st (st2 := [(va_rf f5)]) rfl ?_
            refine c_astorer_n (r := f5) (lv2 := [(3, (va_rf f5)), (2, .int (iI fl)), (0, .ref a0), (1, .int (iI i))]) C dX11_head_112 (by decide) rfl ?_
            refine c_aloadr_n (j := 0) (r := f5) C dX11_head_113 rfl ?_
            refine c_ifnonnull (r := f5) (tgt := 123) C dX11_head_114 (by decide) (fun ob1 oq1 => ?_) (fun oq1 => ?_)
            · subst oq1
              have tob1 := rgf5 ob1 rfl
              refine c_lv (lv2 := [(3, .ref ob1), (2, .int (iI fl)), (0, .ref a0), (1, .int (iI i))]) [0, 1, 2, 3] rfl ?_
              refine c_st (st2 := []) rfl ?_
              refine c_aload_n (j := 2) (x := a0) C dX11_head_123 rfl ?_
              obtain ⟨rb6, rq6, trb6⟩ := W4.ref ty3 6 rfl rfl rfl
              have erb6 := W4.sk trb6 (by decide) rfl
              subst erb6
              refine c_getr (k := 6) C ck_12 dX11_head_124 w2_50 (by decide) ty3 rfl rfl (by decide) rfl rq6 ?_
              refine c_st (st2 := [.ref (sk 15)]) rfl ?_
              refine c_aload_n (j := 0) (x := ob1) C dX11_head_127 rfl ?_
              have ty6 := Xb1.ty tsk15
              refine hv2 (show 0 ≤ ivh4 (sk 15) 4 ∧ ivh4 (sk 15) 4 ≤ 500 from W4.int ty6 4) (show ivh4 (sk 15) 4 = ivb1 (sk 15) 4 from fl4.i ty6 rfl 4) (fun ri18 ie23 => ?_)
              refine d_callV (As := [.ref ob1]) (rest := []) C hM (C_setBy (a0 := (sk 15)) (a1 := ob1) W4 skb1 ty6 tob1  ) dX11_head_128 kV_X11_253 rfl ty6 rfl rfl (by decide) ck_7 rfl (Nat.le_of_ble_eq_true rfl) ⟨(Nat.le_of_ble_eq_true rfl), (Nat.le_of_ble_eq_true rfl)⟩ hph pl2 (show 0 + 0 = 0 from rfl) (by decide) (fun rh6 Lh6 clh6 lnh6 ivh6 rvh6 h6 => ?_)
              obtain ⟨f6, rfl, rfl, rfl, rfl, rfl, fl6, W6, rgf6, exf6⟩ := h6
              refine hv2 (F4.call Xb1 fl6 rfl) (MRK.call mr4 W4 skb1 XT.refl fl6 rfl rfl) (fun F5 mr5 => ?_)
              refine c_st (st2 := [.int (iI f6)]) rfl ?_
              refine hv3 (show 0 ≤ ivh6 (sk 15) 4 ∧ ivh6 (sk 15) 4 ≤ 500 from W6.int ty6 4) (show 0 ≤ ivh6 (sk 15) 7 ∧ ivh6 (sk 15) 7 ≤ 100000 from W6.int ty6 7) (show (f6 = 0 ∨ f6 = 6 ∨ f6 = 7) ∧ ivh6 (sk 15) 4 = ivh4 (sk 15) 4 ∧ (f6 = 0 → ivh6 (sk 15) 7 ≤ 200) from exf6) (fun ri19 ri20 gf6 => ?_)
              refine c_istore (lv2 := [(4, .int (iI f6)), (3, .ref ob1), (2, .int (iI fl)), (0, .ref a0), (1, .int (iI i))]) C dX11_head_131 (by decide) rfl ?_
              refine c_iload (j := 0) C dX11_head_133 rfl ?_
              refine c_if_eq (tgt := 152) C (r32_067 gf6.1) dX11_head_135 (by decide) (fun c4 => ?_) (fun c4 => ?_)
              · replace gf6 := (And.intro c4 (And.intro gf6.2.1 (gf6.2.2 c4)))
                refine c_aload_n (j := 3) (x := a0) C dX11_head_152 rfl ?_
                obtain ⟨rb7, rq7, trb7⟩ := W6.ref ty3 3 rfl rfl rfl
                have erb7 := W6.sk trb7 (by decide) rfl
                subst erb7
                refine c_getr (k := 3) C ck_12 dX11_head_153 w2_47 (by decide) ty3 rfl rfl (by decide) rfl rq7 ?_
                refine c_st (st2 := [.ref (sk 5)]) rfl ?_
                have ty7 := Xb1.ty tsk5
                refine d_callV (As := []) (rest := []) C hM (C_clear_5 (a0 := (sk 5)) W6 skb1 ty7  ) dX11_head_156 kV_X11_164 rfl ty7 rfl rfl (by decide) ck_2 rfl (Nat.le_of_ble_eq_true rfl) ⟨(Nat.le_of_ble_eq_true rfl), (Nat.le_of_ble_eq_true rfl)⟩ hph pl2 (show 0 + 0 = 0 from rfl) (by decide) (fun rh7 Lh7 clh7 lnh7 ivh7 rvh7 h7 => ?_)
                obtain ⟨rfl, rfl, rfl, rfl, rfl, fl7, W7, exf7⟩ := h7
                refine hv2 (F5.call Xb1 fl7 rfl) (MRK.call mr5 W6 skb1 XT.refl fl7 rfl rfl) (fun F6 mr6 => ?_)
                refine c_st (st2 := []) rfl ?_
                refine hv2 (show 0 ≤ ivh7 (sk 5) 2 ∧ ivh7 (sk 5) 2 ≤ 200 from W7.int ty7 2) (show ivh7 (sk 5) 2 = 0 from exf7) (fun ri21 gf7 => ?_)
                refine c_iconst C dX11_head_159 ?_
                refine c_istore (lv2 := [(5, .int (iI 0)), (4, .int (iI f6)), (3, .ref ob1), (2, .int (iI fl)), (0, .ref a0), (1, .int (iI i))]) C dX11_head_160 (by decide) rfl ?_
                have Lp2 : ∀ (nn : Nat) (k2 : Int) (Lb2 : List Nat) (clb2 lnb2 : Nat → Nat) (ivb2 : Nat → Nat → Int) (rvb2 : Nat → Nat → Option Nat) , 101 - k2 < (nn : Int) → XT L cl ln Lb2 clb2 lnb2 → WT (g0 G) sk Lb2 clb2 lnb2 ivb2 rvb2 → fT [1, 2, 5, 35, 15, 50, 51, 52, 53, 54, 55] L cl iv rv ivb2 rvb2 → (0 ≤ k2 ∧ k2 ≤ 100) → (ivb2 (sk 15) 7 ≤ 200) → (ivb2 (sk 2) 2 = 0) → (ivb2 a0 11 = iv a0 11) → (ivb2 a0 12 = iv a0 12) → (ivb2 a0 13 = iv a0 13) → (ivb2 a0 14 = iv a0 14) → (ivb2 a0 15 = iv a0 15) → (ivb2 a0 16 = iv a0 16) → (rvb2 a0 9 = rv a0 9) → (rvb2 a0 10 = rv a0 10) → cw p l e 8 ((PHM) + 0 - ((Phi (g0 G) sk) ln rv)) s m args below meth c G A 6 (MQ below (Qu G A (Qp G (Phi (g0 G) sk) ((Phi (g0 G) sk) ln rv) 0 (fun v L2 cl2 ln2 iv2 rv2 => ∃ f : Int, v = some (.int (iI f)) ∧ XT L cl ln L2 cl2 ln2 ∧ fT [1, 2, 5, 35, 15, 50, 51, 52, 53, 54, 55] L cl iv rv iv2 rv2 ∧ WT (g0 G) sk L2 cl2 ln2 iv2 rv2 ∧ (-2147483648 ≤ f ∧ f ≤ 2147483647) ∧ (True) ∧ iv2 a0 11 = iv a0 11 ∧ iv2 a0 12 = iv a0 12 ∧ iv2 a0 13 = iv a0 13 ∧ iv2 a0 14 = iv a0 14 ∧ iv2 a0 15 = iv a0 15 ∧ iv2 a0 16 = iv a0 16 ∧ iv2 (sk 2) 2 = 0 ∧ rv2 a0 9 = rv a0 9 ∧ rv2 a0 10 = rv a0 10))) args s (((PHM) + 0 - ((Phi (g0 G) sk) ln rv)) / 16) ((PHM) + 0 - ((Phi (g0 G) sk) ln rv)) A) (Phi (g0 G) sk) ((Phi (g0 G) sk) ln rv) Lb2 clb2 lnb2 ivb2 rvb2 0 162 [(5, .int (iI k2)), (4, .int (iI f6)), (3, .ref ob1), (2, .int (iI fl)), (0, .ref a0), (1, .int (iI i))] [] := by
                  intro nn
                  induction nn with
                  | zero =>
                    intro  k2 Lb2 clb2 lnb2 ivb2 rvb2 hm Xb2 Wb2 Fb2  hk2 hco htz hkp11 hkp12 hkp13 hkp14 hkp15 hkp16 hkr9 hkr10
                    have skb2 := Xb2.skl hS
                    exact absurd hm (by omega)
                  | succ nn ih2 =>
                    intro  k2 Lb2 clb2 lnb2 ivb2 rvb2 hm Xb2 Wb2 Fb2  hk2 hco htz hkp11 hkp12 hkp13 hkp14 hkp15 hkp16 hkr9 hkr10
                    refine hv2 (Xb2.skl hS) (MRK.call hmr hW hS Xb2 Fb2 rfl rfl) (fun skb2 mrb2 => ?_)
                    refine c_iload (j := 0) C dX11_head_162 rfl ?_
                    refine c_aload_n (j := 4) (x := a0) C dX11_head_164 rfl ?_
                    have ty8 := Xb2.ty t_a0
                    obtain ⟨rb8, rq8, trb8⟩ := Wb2.ref ty8 6 rfl rfl rfl
                    have erb8 := Wb2.sk trb8 (by decide) rfl
                    subst erb8
                    refine c_getr (k := 6) C ck_12 dX11_head_165 w2_50 (by decide) ty8 rfl rfl (by decide) rfl rq8 ?_
                    refine c_st (st2 := [.ref (sk 15), .int (iI k2)]) rfl ?_
                    have ty9 := Xb2.ty tsk15
                    have ri22 : 0 ≤ ivb2 (sk 15) 7 ∧ ivb2 (sk 15) 7 ≤ 100000 := Wb2.int ty9 7
                    refine c_get (k := 7) C ck_7 dX11_head_168 w1_149 (by decide) ty9 rfl rfl (by decide) rfl ?_
                    refine c_icmp_ge (tgt := 206) C (r32_c (lo := 0) (hi := 100) hk2.1 hk2.2 (by decide) (by decide)) (r32_c (lo := 0) (hi := 100000) ri22.1 ri22.2 (by decide) (by decide)) dX11_head_171 (by decide) (fun c5 => ?_) (fun c5 => ?_)
                    · refine c_aload_n (j := 4) (x := a0) C dX11_head_206 rfl ?_
                      refine c_aload_n (j := 4) (x := a0) C dX11_head_207 rfl ?_
                      obtain ⟨rb9, rq9, trb9⟩ := Wb2.ref ty8 3 rfl rfl rfl
                      have erb9 := Wb2.sk trb9 (by decide) rfl
                      subst erb9
                      refine c_getr (k := 3) C ck_12 dX11_head_208 w2_47 (by decide) ty8 rfl rfl (by decide) rfl rq9 ?_
                      refine c_st (st2 := [.ref (sk 5), .ref a0]) rfl ?_
                      have ty10 := Xb2.ty tsk5
                      have ri23 : 0 ≤ ivb2 (sk 5) 2 ∧ ivb2 (sk 5) 2 ≤ 200 := Wb2.int ty10 2
                      refine c_get (k := 2) C ck_2 dX11_head_211 w1_44 (by decide) ty10 rfl rfl (by decide) rfl ?_
                      have pl3 := Phi.le Wb2 skb2
                      refine d_callV (As := [.int (iI (ivb2 (sk 5) 2))]) (rest := []) C hM (C_done (a0 := a0) (x := ivb2 (sk 5) 2) Wb2 skb2 ty8 (by omega) ) dX11_head_214 kV_X11_109 rfl ty8 rfl rfl (by decide) ck_12 rfl (Nat.le_of_ble_eq_true rfl) ⟨(Nat.le_of_ble_eq_true rfl), (Nat.le_of_ble_eq_true rfl)⟩ hph pl3 (show 0 + 0 = 0 from rfl) (by decide) (fun rh8 Lh8 clh8 lnh8 ivh8 rvh8 h8 => ?_)
                      obtain ⟨f8, rfl, rfl, rfl, rfl, rfl, fl8, W8, rgf8, exf8, kp11f8, kp12f8, kp13f8, kp14f8, kp15f8, kp16f8⟩ := h8
                      refine hv8 (show 1 ≤ ivb2 a0 11 ∧ ivb2 a0 11 ≤ 100 from Wb2.int ty8 11) (show 1 ≤ ivb2 a0 12 ∧ ivb2 a0 12 ≤ 50 from Wb2.int ty8 12) (show (-2147483648) ≤ ivb2 a0 13 ∧ ivb2 a0 13 ≤ 2147483647 from Wb2.int ty8 13) (show (-2147483648) ≤ ivb2 a0 14 ∧ ivb2 a0 14 ≤ 2147483647 from Wb2.int ty8 14) (show (-2147483648) ≤ ivb2 a0 15 ∧ ivb2 a0 15 ≤ 2147483647 from Wb2.int ty8 15) (show (-2147483648) ≤ ivb2 a0 16 ∧ ivb2 a0 16 ≤ 2147483647 from Wb2.int ty8 16) (Fb2.call Xb2 fl8 rfl) (MRK.call mrb2 Wb2 skb2 XT.refl fl8 rfl rfl) (fun ri24 ri25 ri26 ri27 ri28 ri29 F7 mr7 => ?_)
                      refine c_st (st2 := [.int (iI f8)]) rfl ?_
                      refine hv14 (show ivh8 a0 11 = ivb2 a0 11 from kp11f8) (show ivh8 a0 12 = ivb2 a0 12 from kp12f8) (show ivh8 a0 13 = ivb2 a0 13 from kp13f8) (show ivh8 a0 14 = ivb2 a0 14 from kp14f8) (show ivh8 a0 15 = ivb2 a0 15 from kp15f8) (show ivh8 a0 16 = ivb2 a0 16 from kp16f8) (show f8 = (ivb2 (sk 5) 2) from exf8) (Xb2.ty tsk2) (show 1 ≤ ivh8 a0 11 ∧ ivh8 a0 11 ≤ 100 from W8.int ty8 11) (show 1 ≤ ivh8 a0 12 ∧ ivh8 a0 12 ≤ 50 from W8.int ty8 12) (show (-2147483648) ≤ ivh8 a0 13 ∧ ivh8 a0 13 ≤ 2147483647 from W8.int ty8 13) (show (-2147483648) ≤ ivh8 a0 14 ∧ ivh8 a0 14 ≤ 2147483647 from W8.int ty8 14) (show (-2147483648) ≤ ivh8 a0 15 ∧ ivh8 a0 15 ≤ 2147483647 from W8.int ty8 15) (show (-2147483648) ≤ ivh8 a0 16 ∧ ivh8 a0 16 ≤ 2147483647 from W8.int ty8 16) (fun gk11f8 gk12f8 gk13f8 gk14f8 gk15f8 gk16f8 gf8 ty11 ri31 ri32 ri33 ri34 ri35 ri36 => ?_)
                      refine hv2 (show 0 ≤ ivh8 (sk 2) 2 ∧ ivh8 (sk 2) 2 ≤ 3000 from W8.int ty11 2) (show ivh8 (sk 2) 2 = ivb2 (sk 2) 2 from fl8.i ty11 rfl 2) (fun ri30 ie36 => ?_)
                      exact c_iret C dX11_head_217 rfl (by decide) (rom0 hph pl3 (by decide)) ⟨f8, rfl, Xb2, F7, W8, ⟨by omega, by omega⟩, trivial, (gk11f8.trans hkp11), (gk12f8.trans hkp12), (gk13f8.trans hkp13), (gk14f8.trans hkp14), (gk15f8.trans hkp15), (gk16f8.trans hkp16), (ie36.trans htz), (show rvb2 a0 9 = rv a0 9 from hkr9), (show rvb2 a0 10 = rv a0 10 from hkr10)⟩
                    · refine c_iload (j := 0) C dX11_head_174 rfl ?_
                      refine c_aload_n (j := 4) (x := a0) C dX11_head_176 rfl ?_
                      have ri37 : 1 ≤ ivb2 a0 11 ∧ ivb2 a0 11 ≤ 100 := Wb2.int ty8 11
                      refine c_get (k := 11) C ck_12 dX11_head_177 w2_55 (by decide) ty8 rfl rfl (by decide) rfl ?_
                      refine c_icmp_ge (tgt := 206) C (r32_c (lo := 0) (hi := 100) hk2.1 hk2.2 (by decide) (by decide)) (r32_c (lo := 1) (hi := 100) ri37.1 ri37.2 (by decide) (by decide)) dX11_head_180 (by decide) (fun c6 => ?_) (fun c6 => ?_)
                      · refine c_aload_n (j := 4) (x := a0) C dX11_head_206 rfl ?_
                        refine c_aload_n (j := 4) (x := a0) C dX11_head_207 rfl ?_
                        obtain ⟨rb10, rq10, trb10⟩ := Wb2.ref ty8 3 rfl rfl rfl
                        have erb10 := Wb2.sk trb10 (by decide) rfl
                        subst erb10
                        refine c_getr (k := 3) C ck_12 dX11_head_208 w2_47 (by decide) ty8 rfl rfl (by decide) rfl rq10 ?_
                        refine c_st (st2 := [.ref (sk 5), .ref a0]) rfl ?_
                        have ty12 := Xb2.ty tsk5
                        have ri38 : 0 ≤ ivb2 (sk 5) 2 ∧ ivb2 (sk 5) 2 ≤ 200 := Wb2.int ty12 2
                        refine c_get (k := 2) C ck_2 dX11_head_211 w1_44 (by decide) ty12 rfl rfl (by decide) rfl ?_
                        have pl4 := Phi.le Wb2 skb2
                        refine d_callV (As := [.int (iI (ivb2 (sk 5) 2))]) (rest := []) C hM (C_done (a0 := a0) (x := ivb2 (sk 5) 2) Wb2 skb2 ty8 (by omega) ) dX11_head_214 kV_X11_109 rfl ty8 rfl rfl (by decide) ck_12 rfl (Nat.le_of_ble_eq_true rfl) ⟨(Nat.le_of_ble_eq_true rfl), (Nat.le_of_ble_eq_true rfl)⟩ hph pl4 (show 0 + 0 = 0 from rfl) (by decide) (fun rh9 Lh9 clh9 lnh9 ivh9 rvh9 h9 => ?_)
                        obtain ⟨f9, rfl, rfl, rfl, rfl, rfl, fl9, W9, rgf9, exf9, kp11f9, kp12f9, kp13f9, kp14f9, kp15f9, kp16f9⟩ := h9
                        refine hv7 (show 1 ≤ ivb2 a0 12 ∧ ivb2 a0 12 ≤ 50 from Wb2.int ty8 12) (show (-2147483648) ≤ ivb2 a0 13 ∧ ivb2 a0 13 ≤ 2147483647 from Wb2.int ty8 13) (show (-2147483648) ≤ ivb2 a0 14 ∧ ivb2 a0 14 ≤ 2147483647 from Wb2.int ty8 14) (show (-2147483648) ≤ ivb2 a0 15 ∧ ivb2 a0 15 ≤ 2147483647 from Wb2.int ty8 15) (show (-2147483648) ≤ ivb2 a0 16 ∧ ivb2 a0 16 ≤ 2147483647 from Wb2.int ty8 16) (Fb2.call Xb2 fl9 rfl) (MRK.call mrb2 Wb2 skb2 XT.refl fl9 rfl rfl) (fun ri39 ri40 ri41 ri42 ri43 F8 mr8 => ?_)
                        refine c_st (st2 := [.int (iI f9)]) rfl ?_
                        refine hv14 (show ivh9 a0 11 = ivb2 a0 11 from kp11f9) (show ivh9 a0 12 = ivb2 a0 12 from kp12f9) (show ivh9 a0 13 = ivb2 a0 13 from kp13f9) (show ivh9 a0 14 = ivb2 a0 14 from kp14f9) (show ivh9 a0 15 = ivb2 a0 15 from kp15f9) (show ivh9 a0 16 = ivb2 a0 16 from kp16f9) (show f9 = (ivb2 (sk 5) 2) from exf9) (Xb2.ty tsk2) (show 1 ≤ ivh9 a0 11 ∧ ivh9 a0 11 ≤ 100 from W9.int ty8 11) (show 1 ≤ ivh9 a0 12 ∧ ivh9 a0 12 ≤ 50 from W9.int ty8 12) (show (-2147483648) ≤ ivh9 a0 13 ∧ ivh9 a0 13 ≤ 2147483647 from W9.int ty8 13) (show (-2147483648) ≤ ivh9 a0 14 ∧ ivh9 a0 14 ≤ 2147483647 from W9.int ty8 14) (show (-2147483648) ≤ ivh9 a0 15 ∧ ivh9 a0 15 ≤ 2147483647 from W9.int ty8 15) (show (-2147483648) ≤ ivh9 a0 16 ∧ ivh9 a0 16 ≤ 2147483647 from W9.int ty8 16) (fun gk11f9 gk12f9 gk13f9 gk14f9 gk15f9 gk16f9 gf9 ty13 ri45 ri46 ri47 ri48 ri49 ri50 => ?_)
                        refine hv2 (show 0 ≤ ivh9 (sk 2) 2 ∧ ivh9 (sk 2) 2 ≤ 3000 from W9.int ty13 2) (show ivh9 (sk 2) 2 = ivb2 (sk 2) 2 from fl9.i ty13 rfl 2) (fun ri44 ie51 => ?_)
                        exact c_iret C dX11_head_217 rfl (by decide) (rom0 hph pl4 (by decide)) ⟨f9, rfl, Xb2, F8, W9, ⟨by omega, by omega⟩, trivial, (gk11f9.trans hkp11), (gk12f9.trans hkp12), (gk13f9.trans hkp13), (gk14f9.trans hkp14), (gk15f9.trans hkp15), (gk16f9.trans hkp16), (ie51.trans htz), (show rvb2 a0 9 = rv a0 9 from hkr9), (show rvb2 a0 10 = rv a0 10 from hkr10)⟩
                      · refine c_aload_n (j := 4) (x := a0) C dX11_head_183 rfl ?_
                        obtain ⟨rb11, rq11, trb11⟩ := Wb2.ref ty8 3 rfl rfl rfl
                        have erb11 := Wb2.sk trb11 (by decide) rfl
                        subst erb11
                        refine c_getr (k := 3) C ck_12 dX11_head_184 w2_47 (by decide) ty8 rfl rfl (by decide) rfl rq11 ?_
                        refine c_st (st2 := [.ref (sk 5)]) rfl ?_
                        refine c_aload_n (j := 4) (x := a0) C dX11_head_187 rfl ?_
                        refine c_getr (k := 6) C ck_12 dX11_head_188 w2_50 (by decide) ty8 rfl rfl (by decide) rfl rq8 ?_
                        refine c_st (st2 := [.ref (sk 15), .ref (sk 5)]) rfl ?_
                        obtain ⟨rb12, rq12, trb12⟩ := Wb2.ref ty9 6 rfl rfl rfl
                        have lnrb12 : 200 ≤ lnb2 rb12 ∧ lnb2 rb12 ≤ 200 := Wb2.len trb12 rfl
                        refine c_getr (k := 6) C ck_7 dX11_head_191 w1_146 (by decide) ty9 rfl rfl (by decide) rfl rq12 ?_
                        refine c_st (st2 := [.ref rb12, .ref (sk 5)]) rfl ?_
                        refine c_iload (j := 0) C dX11_head_194 rfl ?_
                        have ll1 : 200 ≤ lnb2 rb12 ∧ lnb2 rb12 ≤ 200 := Wb2.len trb12 rfl
                        refine c_iald C dX11_head_196 trb12 rfl (by omega) (by omega) (by omega) ?_
                        refine hv3 (show (-2147483648) ≤ ivb2 rb12 k2.toNat ∧ ivb2 rb12 k2.toNat ≤ 2147483647 from Wb2.int trb12 k2.toNat) (Xb2.ty tsk5) (Phi.le Wb2 skb2) (fun ri51 ty14 pl5 => ?_)
                        have ri52 : 0 ≤ ivb2 (sk 5) 2 ∧ ivb2 (sk 5) 2 ≤ 200 := Wb2.int ty14 2
                        refine d_callV (As := [.int (iI (ivb2 rb12 k2.toNat))]) (rest := []) C hM (C_add_5 (a0 := (sk 5)) (x := ivb2 rb12 k2.toNat) Wb2 skb2 ty14 (by omega) ) dX11_head_197 kV_X11_112 rfl ty14 rfl rfl (by decide) ck_2 rfl (Nat.le_of_ble_eq_true rfl) ⟨(Nat.le_of_ble_eq_true rfl), (Nat.le_of_ble_eq_true rfl)⟩ hph pl5 (show 0 + 0 = 0 from rfl) (by decide) (fun rh10 Lh10 clh10 lnh10 ivh10 rvh10 h10 => ?_)
                        obtain ⟨rfl, xl10, fl10, W10, exf10⟩ := h10
                        refine hv13 (Fb2.call Xb2 fl10 rfl) (MRK.call mrb2 Wb2 skb2 xl10 fl10 rfl rfl) (Xb2.ty tsk2) (Xb2.ty tsk3) (Xb2.ty tsk4) (Xb2.ty tsk13) (Xb2.ty tsk14) (Xb2.ty tsk16) (Xb2.ty tsk17) (Xb2.ty tsk22) (Xb2.ty tsk23) (Xb2.trans xl10) (xl10.skl skb2) (fun F9 mr9 ty15 ty16 ty17 ty18 ty19 ty20 ty21 ty22 ty23 X1 sk1 => ?_)
                        refine c_st (st2 := []) rfl ?_
                        refine hv2 (xl10.ty ty14) (show ((ivh10 (sk 5) 2 = ivb2 (sk 5) 2 ∧ ivb2 (sk 5) 2 = 200) ∨ (ivh10 (sk 5) 2 = ivb2 (sk 5) 2 + 1 ∧ ivb2 (sk 5) 2 < 200)) from exf10) (fun ty24 gf10 => ?_)
                        have ri53 : 0 ≤ ivh10 (sk 5) 2 ∧ ivh10 (sk 5) 2 ≤ 200 := W10.int ty24 2
                        refine c_iinc (z := k2) (j := 0) (lv2 := [(5, .int (iI (k2 + 1))), (4, .int (iI f6)), (3, .ref ob1), (2, .int (iI fl)), (0, .ref a0), (1, .int (iI i))]) C dX11_head_200 rfl (by decide) rfl ?_
                        refine c_goto (tgt := 162) C dX11_head_203 (by decide) ?_
                        refine hv11 (xl10.ty ty9) (show ivh10 (sk 15) 7 = ivb2 (sk 15) 7 from fl10.i ty9 rfl 7) (xl10.ty ty15) (show ivh10 (sk 2) 2 = ivb2 (sk 2) 2 from fl10.i ty15 rfl 2) (xl10.ty ty8) (show ivh10 a0 11 = ivb2 a0 11 from fl10.i ty8 rfl 11) (show ivh10 a0 12 = ivb2 a0 12 from fl10.i ty8 rfl 12) (show ivh10 a0 13 = ivb2 a0 13 from fl10.i ty8 rfl 13) (show ivh10 a0 14 = ivb2 a0 14 from fl10.i ty8 rfl 14) (show ivh10 a0 15 = ivb2 a0 15 from fl10.i ty8 rfl 15) (show ivh10 a0 16 = ivb2 a0 16 from fl10.i ty8 rfl 16) (fun ty25 ie62 ty26 ie63 ty27 ie65 ie66 ie68 ie70 ie72 ie74 => ?_)
                        refine hv8 (show 0 ≤ ivh10 (sk 15) 7 ∧ ivh10 (sk 15) 7 ≤ 100000 from W10.int ty25 7) (show 0 ≤ ivh10 (sk 2) 2 ∧ ivh10 (sk 2) 2 ≤ 3000 from W10.int ty26 2) (show 1 ≤ ivh10 a0 11 ∧ ivh10 a0 11 ≤ 100 from W10.int ty27 11) (show 1 ≤ ivh10 a0 12 ∧ ivh10 a0 12 ≤ 50 from W10.int ty27 12) (show (-2147483648) ≤ ivh10 a0 13 ∧ ivh10 a0 13 ≤ 2147483647 from W10.int ty27 13) (show (-2147483648) ≤ ivh10 a0 14 ∧ ivh10 a0 14 ≤ 2147483647 from W10.int ty27 14) (show (-2147483648) ≤ ivh10 a0 15 ∧ ivh10 a0 15 ≤ 2147483647 from W10.int ty27 15) (show (-2147483648) ≤ ivh10 a0 16 ∧ ivh10 a0 16 ≤ 2147483647 from W10.int ty27 16) (fun ri54 ri55 ri56 ri57 ri58 ri59 ri60 ri61 => ?_)
                        refine c_lv (lv2 := [(5, .int (iI (k2 + 1))), (4, .int (iI f6)), (3, .ref ob1), (2, .int (iI fl)), (0, .ref a0), (1, .int (iI i))]) [0, 1, 2, 3, 4, 5] rfl ?_
                        exact ih2  (k2 + 1) _ _ _ _ _ (by omega) X1 W10 F9  (by omega) (by show ivh10 (sk 15) 7 ≤ 200; omega) (ie63.trans htz) (ie65.trans hkp11) (ie66.trans hkp12) (ie68.trans hkp13) (ie70.trans hkp14) (ie72.trans hkp15) (ie74.trans hkp16) (Eq.trans (show rvh10 a0 9 = rvb2 a0 9 from (fl10.r ty8 rfl 9)) (show rvb2 a0 9 = rv a0 9 from hkr9)) (Eq.trans (show rvh10 a0 10 = rvb2 a0 10 from (fl10.r ty8 rfl 10)) (show rvb2 a0 10 = rv a0 10 from hkr10))
                refine hv29 (show 0 ≤ ivh7 (sk 15) 7 ∧ ivh7 (sk 15) 7 ≤ 100000 from W7.int ty6 7) (show ivh7 (sk 15) 7 = ivh6 (sk 15) 7 from fl7.i ty6 rfl 7) (show 0 ≤ ivh7 (sk 2) 2 ∧ ivh7 (sk 2) 2 ≤ 3000 from W7.int ty4 2) (show ivh7 (sk 2) 2 = ivh6 (sk 2) 2 from fl7.i ty4 rfl 2) (show ivh6 (sk 2) 2 = ivh4 (sk 2) 2 from fl6.i ty4 rfl 2) (show 1 ≤ ivh7 a0 11 ∧ ivh7 a0 11 ≤ 100 from W7.int ty3 11) (show ivh7 a0 11 = ivh6 a0 11 from fl7.i ty3 rfl 11) (show ivh6 a0 11 = ivh4 a0 11 from fl6.i ty3 rfl 11) (show ivh4 a0 11 = ivb1 a0 11 from fl4.i ty3 rfl 11) (show 1 ≤ ivh7 a0 12 ∧ ivh7 a0 12 ≤ 50 from W7.int ty3 12) (show ivh7 a0 12 = ivh6 a0 12 from fl7.i ty3 rfl 12) (show ivh6 a0 12 = ivh4 a0 12 from fl6.i ty3 rfl 12) (show ivh4 a0 12 = ivb1 a0 12 from fl4.i ty3 rfl 12) (show (-2147483648) ≤ ivh7 a0 13 ∧ ivh7 a0 13 ≤ 2147483647 from W7.int ty3 13) (show ivh7 a0 13 = ivh6 a0 13 from fl7.i ty3 rfl 13) (show ivh6 a0 13 = ivh4 a0 13 from fl6.i ty3 rfl 13) (show ivh4 a0 13 = ivb1 a0 13 from fl4.i ty3 rfl 13) (show (-2147483648) ≤ ivh7 a0 14 ∧ ivh7 a0 14 ≤ 2147483647 from W7.int ty3 14) (show ivh7 a0 14 = ivh6 a0 14 from fl7.i ty3 rfl 14) (show ivh6 a0 14 = ivh4 a0 14 from fl6.i ty3 rfl 14) (show ivh4 a0 14 = ivb1 a0 14 from fl4.i ty3 rfl 14) (show (-2147483648) ≤ ivh7 a0 15 ∧ ivh7 a0 15 ≤ 2147483647 from W7.int ty3 15) (show ivh7 a0 15 = ivh6 a0 15 from fl7.i ty3 rfl 15) (show ivh6 a0 15 = ivh4 a0 15 from fl6.i ty3 rfl 15) (show ivh4 a0 15 = ivb1 a0 15 from fl4.i ty3 rfl 15) (show (-2147483648) ≤ ivh7 a0 16 ∧ ivh7 a0 16 ≤ 2147483647 from W7.int ty3 16) (show ivh7 a0 16 = ivh6 a0 16 from fl7.i ty3 rfl 16) (show ivh6 a0 16 = ivh4 a0 16 from fl6.i ty3 rfl 16) (show ivh4 a0 16 = ivb1 a0 16 from fl4.i ty3 rfl 16) (fun ri62 ie76 ri63 ie77 ie78 ri64 ie79 ie80 ie81 ri65 ie83 ie84 ie85 ri66 ie87 ie88 ie89 ri67 ie91 ie92 ie93 ri68 ie95 ie96 ie97 ri69 ie99 ie100 ie101 => ?_)
                refine c_lv (lv2 := [(5, .int (iI 0)), (4, .int (iI f6)), (3, .ref ob1), (2, .int (iI fl)), (0, .ref a0), (1, .int (iI i))]) [0, 1, 2, 3, 4, 5] rfl ?_
                exact Lp2 103 0 _ _ _ _ _ (by omega) Xb1 W7 F6  (by omega) (by show ivh7 (sk 15) 7 ≤ 200; omega) (ie77.trans (ie78.trans gf4)) (ie79.trans (ie80.trans (ie81.trans hkp11))) (ie83.trans (ie84.trans (ie85.trans hkp12))) (ie87.trans (ie88.trans (ie89.trans hkp13))) (ie91.trans (ie92.trans (ie93.trans hkp14))) (ie95.trans (ie96.trans (ie97.trans hkp15))) (ie99.trans (ie100.trans (ie101.trans hkp16))) (show rvb1 a0 9 = rv a0 9 from hkr9) (show rvb1 a0 10 = rv a0 10 from hkr10)
              · replace gf6 := (And.intro (gf6.1.resolve_left c4) (And.intro gf6.2.1 trivial))
                refine c_aload_n (j := 3) (x := a0) C dX11_head_138 rfl ?_
                refine c_iload (j := 0) C dX11_head_139 rfl ?_
                refine c_aload_n (j := 3) (x := a0) C dX11_head_141 rfl ?_
                refine c_getr (k := 6) C ck_12 dX11_head_142 w2_50 (by decide) ty3 rfl rfl (by decide) rfl rq6 ?_
                refine c_st (st2 := [.ref (sk 15), .int (iI f6), .ref a0]) rfl ?_
                refine d_callV (As := []) (rest := [.int (iI f6), .ref a0]) C hM (C_placeOfUnknown (a0 := (sk 15)) W6 skb1 ty6  ) dX11_head_145 kV_X11_263 rfl ty6 rfl rfl (by decide) ck_7 rfl (Nat.le_of_ble_eq_true rfl) ⟨(Nat.le_of_ble_eq_true rfl), (Nat.le_of_ble_eq_true rfl)⟩ hph pl2 (show 0 + 0 = 0 from rfl) (by decide) (fun rh11 Lh11 clh11 lnh11 ivh11 rvh11 h11 => ?_)
                obtain ⟨f11, rfl, rfl, rfl, rfl, rfl, rfl, rgf11, exf11⟩ := h11
                refine c_st (st2 := [.int (iI f11), .int (iI f6), .ref a0]) rfl ?_
                refine d_callV (As := [.int (iI f6), .int (iI f11)]) (rest := []) C hM (C_refuseAt (a0 := a0) (x := f6) (y := f11) W6 skb1 ty3 (by omega) (by omega) ) dX11_head_148 kV_X11_266 rfl ty3 rfl rfl (by decide) ck_12 rfl (Nat.le_of_ble_eq_true rfl) ⟨(Nat.le_of_ble_eq_true rfl), (Nat.le_of_ble_eq_true rfl)⟩ hph pl2 (show 0 + 0 = 0 from rfl) (by decide) (fun rh12 Lh12 clh12 lnh12 ivh12 rvh12 h12 => ?_)
                obtain ⟨f12, rfl, rfl, rfl, rfl, rfl, fl12, W12, rgf12, exf12, kp11f12, kp12f12, kp13f12, kp14f12, kp15f12, kp16f12⟩ := h12
                refine hv20 (show 1 ≤ ivh6 a0 11 ∧ ivh6 a0 11 ≤ 100 from W6.int ty3 11) (show ivh6 a0 11 = ivh4 a0 11 from fl6.i ty3 rfl 11) (show ivh4 a0 11 = ivb1 a0 11 from fl4.i ty3 rfl 11) (show 1 ≤ ivh6 a0 12 ∧ ivh6 a0 12 ≤ 50 from W6.int ty3 12) (show ivh6 a0 12 = ivh4 a0 12 from fl6.i ty3 rfl 12) (show ivh4 a0 12 = ivb1 a0 12 from fl4.i ty3 rfl 12) (show (-2147483648) ≤ ivh6 a0 13 ∧ ivh6 a0 13 ≤ 2147483647 from W6.int ty3 13) (show ivh6 a0 13 = ivh4 a0 13 from fl6.i ty3 rfl 13) (show ivh4 a0 13 = ivb1 a0 13 from fl4.i ty3 rfl 13) (show (-2147483648) ≤ ivh6 a0 14 ∧ ivh6 a0 14 ≤ 2147483647 from W6.int ty3 14) (show ivh6 a0 14 = ivh4 a0 14 from fl6.i ty3 rfl 14) (show ivh4 a0 14 = ivb1 a0 14 from fl4.i ty3 rfl 14) (show (-2147483648) ≤ ivh6 a0 15 ∧ ivh6 a0 15 ≤ 2147483647 from W6.int ty3 15) (show ivh6 a0 15 = ivh4 a0 15 from fl6.i ty3 rfl 15) (show ivh4 a0 15 = ivb1 a0 15 from fl4.i ty3 rfl 15) (show (-2147483648) ≤ ivh6 a0 16 ∧ ivh6 a0 16 ≤ 2147483647 from W6.int ty3 16) (show ivh6 a0 16 = ivh4 a0 16 from fl6.i ty3 rfl 16) (show ivh4 a0 16 = ivb1 a0 16 from fl4.i ty3 rfl 16) (F5.call Xb1 fl12 rfl) (MRK.call mr5 W6 skb1 XT.refl fl12 rfl rfl) (fun ri70 ie103 ie104 ri71 ie106 ie107 ri72 ie109 ie110 ri73 ie112 ie113 ri74 ie115 ie116 ri75 ie118 ie119 F10 mr10 => ?_)
                refine c_st (st2 := [.int (iI f12)]) rfl ?_
                refine hv16 (show ivh12 a0 11 = ivh6 a0 11 from kp11f12) (show ivh12 a0 12 = ivh6 a0 12 from kp12f12) (show ivh12 a0 13 = ivh6 a0 13 from kp13f12) (show ivh12 a0 14 = ivh6 a0 14 from kp14f12) (show ivh12 a0 15 = ivh6 a0 15 from kp15f12) (show ivh12 a0 16 = ivh6 a0 16 from kp16f12) (show f12 = -1 from exf12) (show 0 ≤ ivh12 (sk 2) 2 ∧ ivh12 (sk 2) 2 ≤ 3000 from W12.int ty4 2) (show ivh12 (sk 2) 2 = ivh6 (sk 2) 2 from fl12.i ty4 rfl 2) (show ivh6 (sk 2) 2 = ivh4 (sk 2) 2 from fl6.i ty4 rfl 2) (show 1 ≤ ivh12 a0 11 ∧ ivh12 a0 11 ≤ 100 from W12.int ty3 11) (show 1 ≤ ivh12 a0 12 ∧ ivh12 a0 12 ≤ 50 from W12.int ty3 12) (show (-2147483648) ≤ ivh12 a0 13 ∧ ivh12 a0 13 ≤ 2147483647 from W12.int ty3 13) (show (-2147483648) ≤ ivh12 a0 14 ∧ ivh12 a0 14 ≤ 2147483647 from W12.int ty3 14) (show (-2147483648) ≤ ivh12 a0 15 ∧ ivh12 a0 15 ≤ 2147483647 from W12.int ty3 15) (show (-2147483648) ≤ ivh12 a0 16 ∧ ivh12 a0 16 ≤ 2147483647 from W12.int ty3 16) (fun gk11f12 gk12f12 gk13f12 gk14f12 gk15f12 gk16f12 gf12 ri76 ie121 ie122 ri77 ri78 ri79 ri80 ri81 ri82 => ?_)
                exact c_iret C dX11_head_151 rfl (by decide) (rom0 hph pl2 (by decide)) ⟨f12, rfl, Xb1, F10, W12, ⟨by omega, by omega⟩, trivial, (gk11f12.trans (ie103.trans (ie104.trans hkp11))), (gk12f12.trans (ie106.trans (ie107.trans hkp12))), (gk13f12.trans (ie109.trans (ie110.trans hkp13))), (gk14f12.trans (ie112.trans (ie113.trans hkp14))), (gk15f12.trans (ie115.trans (ie116.trans hkp15))), (gk16f12.trans (ie118.trans (ie119.trans hkp16))), (ie121.trans (ie122.trans gf4)), (show rvb1 a0 9 = rv a0 9 from hkr9), (show rvb1 a0 10 = rv a0 10 from hkr10)⟩
            · subst oq1
              refine c_lv (lv2 := [(3, .null), (2, .int (iI fl)), (0, .ref a0), (1, .int (iI i))]) [0, 1, 2, 3] rfl ?_
              refine c_st (st2 := []) rfl ?_
              refine c_aload_n (j := 2) (x := a0) C dX11_head_117 rfl ?_
              refine c_iconst C dX11_head_118 ?_
              refine d_callV (As := [.int (iI 3)]) (rest := []) C hM (C_refuse (a0 := a0) (x := 3) W4 skb1 ty3 ⟨by decide, by decide⟩ ) dX11_head_119 kV_X11_102 rfl ty3 rfl rfl (by decide) ck_12 rfl (Nat.le_of_ble_eq_true rfl) ⟨(Nat.le_of_ble_eq_true rfl), (Nat.le_of_ble_eq_true rfl)⟩ hph pl2 (show 0 + 0 = 0 from rfl) (by decide) (fun rh13 Lh13 clh13 lnh13 ivh13 rvh13 h13 => ?_)
              obtain ⟨f13, rfl, rfl, rfl, rfl, rfl, fl13, W13, rgf13, exf13, kp11f13, kp12f13, kp13f13, kp14f13, kp15f13, kp16f13⟩ := h13
              refine hv14 (show 1 ≤ ivh4 a0 11 ∧ ivh4 a0 11 ≤ 100 from W4.int ty3 11) (show ivh4 a0 11 = ivb1 a0 11 from fl4.i ty3 rfl 11) (show 1 ≤ ivh4 a0 12 ∧ ivh4 a0 12 ≤ 50 from W4.int ty3 12) (show ivh4 a0 12 = ivb1 a0 12 from fl4.i ty3 rfl 12) (show (-2147483648) ≤ ivh4 a0 13 ∧ ivh4 a0 13 ≤ 2147483647 from W4.int ty3 13) (show ivh4 a0 13 = ivb1 a0 13 from fl4.i ty3 rfl 13) (show (-2147483648) ≤ ivh4 a0 14 ∧ ivh4 a0 14 ≤ 2147483647 from W4.int ty3 14) (show ivh4 a0 14 = ivb1 a0 14 from fl4.i ty3 rfl 14) (show (-2147483648) ≤ ivh4 a0 15 ∧ ivh4 a0 15 ≤ 2147483647 from W4.int ty3 15) (show ivh4 a0 15 = ivb1 a0 15 from fl4.i ty3 rfl 15) (show (-2147483648) ≤ ivh4 a0 16 ∧ ivh4 a0 16 ≤ 2147483647 from W4.int ty3 16) (show ivh4 a0 16 = ivb1 a0 16 from fl4.i ty3 rfl 16) (F4.call Xb1 fl13 rfl) (MRK.call mr4 W4 skb1 XT.refl fl13 rfl rfl) (fun ri83 ie129 ri84 ie131 ri85 ie133 ri86 ie135 ri87 ie137 ri88 ie139 F11 mr11 => ?_)
              refine c_st (st2 := [.int (iI f13)]) rfl ?_
              refine hv15 (show ivh13 a0 11 = ivh4 a0 11 from kp11f13) (show ivh13 a0 12 = ivh4 a0 12 from kp12f13) (show ivh13 a0 13 = ivh4 a0 13 from kp13f13) (show ivh13 a0 14 = ivh4 a0 14 from kp14f13) (show ivh13 a0 15 = ivh4 a0 15 from kp15f13) (show ivh13 a0 16 = ivh4 a0 16 from kp16f13) (show f13 = -1 from exf13) (show 0 ≤ ivh13 (sk 2) 2 ∧ ivh13 (sk 2) 2 ≤ 3000 from W13.int ty4 2) (show ivh13 (sk 2) 2 = ivh4 (sk 2) 2 from fl13.i ty4 rfl 2) (show 1 ≤ ivh13 a0 11 ∧ ivh13 a0 11 ≤ 100 from W13.int ty3 11) (show 1 ≤ ivh13 a0 12 ∧ ivh13 a0 12 ≤ 50 from W13.int ty3 12) (show (-2147483648) ≤ ivh13 a0 13 ∧ ivh13 a0 13 ≤ 2147483647 from W13.int ty3 13) (show (-2147483648) ≤ ivh13 a0 14 ∧ ivh13 a0 14 ≤ 2147483647 from W13.int ty3 14) (show (-2147483648) ≤ ivh13 a0 15 ∧ ivh13 a0 15 ≤ 2147483647 from W13.int ty3 15) (show (-2147483648) ≤ ivh13 a0 16 ∧ ivh13 a0 16 ≤ 2147483647 from W13.int ty3 16) (fun gk11f13 gk12f13 gk13f13 gk14f13 gk15f13 gk16f13 gf13 ri89 ie141 ri90 ri91 ri92 ri93 ri94 ri95 => ?_)
              exact c_iret C dX11_head_122 rfl (by decide) (rom0 hph pl2 (by decide)) ⟨f13, rfl, Xb1, F11, W13, ⟨by omega, by omega⟩, trivial, (gk11f13.trans (ie129.trans hkp11)), (gk12f13.trans (ie131.trans hkp12)), (gk13f13.trans (ie133.trans hkp13)), (gk14f13.trans (ie135.trans hkp14)), (gk15f13.trans (ie137.trans hkp15)), (gk16f13.trans (ie139.trans hkp16)), (ie141.trans gf4), (show rvb1 a0 9 = rv a0 9 from hkr9), (show rvb1 a0 10 = rv a0 10 from hkr10)⟩
          · refine c_aload_n (j := 2) (x := a0) C dX11_head_64 rfl ?_
            obtain ⟨rb13, rq13, trb13⟩ := Wb1.ref ty3 6 rfl rfl rfl
            have erb13 := Wb1.sk trb13 (by decide) rfl
            subst erb13
            refine c_getr (k := 6) C ck_12 dX11_head_65 w2_50 (by decide) ty3 rfl rfl (by decide) rfl rq13 ?_
            refine c_st (st2 := [.ref (sk 15)]) rfl ?_
            refine c_aload_n (j := 2) (x := a0) C dX11_head_68 rfl ?_
            refine c_getr (k := 0) C ck_12 dX11_head_69 w2_44 (by decide) ty3 rfl rfl (by decide) rfl rq4 ?_
            refine c_st (st2 := [.ref (sk 2), .ref (sk 15)]) rfl ?_
            refine c_iload_n (j := 1) C dX11_head_72 rfl ?_
            have pl6 := Phi.le Wb1 skb1
            refine d_callV (As := [.int (iI k)]) (rest := [.ref (sk 15)]) C hM (C_at_2 (a0 := (sk 2)) (i := k) Wb1 skb1 ty4 (by omega) ) dX11_head_73 kV_X11_224 rfl ty4 rfl rfl (by decide) ck_2 rfl (Nat.le_of_ble_eq_true rfl) ⟨(Nat.le_of_ble_eq_true rfl), (Nat.le_of_ble_eq_true rfl)⟩ hph pl6 (show 0 + 0 = 0 from rfl) (by decide) (fun rh14 Lh14 clh14 lnh14 ivh14 rvh14 h14 => ?_)
            obtain ⟨f14, rfl, rfl, rfl, rfl, rfl, rfl, rgf14, exf14⟩ := h14
            refine c_st (st2 := [.int (iI f14), .ref (sk 15)]) rfl ?_
            have gf14 : ((0 ≤ k ∧ k < ivb1 (sk 2) 2) ∨ f14 = 0) ∧ ∀ ss, CT ivb1 rvb1 (sk 2) ss → 0 ≤ k → k < ivb1 (sk 2) 2 → f14 = ss k.toNat := exf14
            refine c_iload_n (j := 1) C dX11_head_76 rfl ?_
            have ty28 := Xb1.ty tsk15
            refine d_callV (As := [.int (iI f14), .int (iI k)]) (rest := []) C hM (C_put (a0 := (sk 15)) (x := f14) (y := k) Wb1 skb1 ty28 (by omega) (by omega) ) dX11_head_77 kV_X11_273 rfl ty28 rfl rfl (by decide) ck_7 rfl (Nat.le_of_ble_eq_true rfl) ⟨(Nat.le_of_ble_eq_true rfl), (Nat.le_of_ble_eq_true rfl)⟩ hph pl6 (show 0 + 0 = 0 from rfl) (by decide) (fun rh15 Lh15 clh15 lnh15 ivh15 rvh15 h15 => ?_)
            obtain ⟨rfl, rfl, rfl, rfl, rfl, fl15, W15, exf15⟩ := h15
            refine hv2 (Fb1.call Xb1 fl15 rfl) (MRK.call mrb1 Wb1 skb1 XT.refl fl15 rfl rfl) (fun F12 mr12 => ?_)
            refine c_st (st2 := []) rfl ?_
            refine c_iinc (z := k) (j := 1) (lv2 := [(3, .int (iI (k + 1))), (2, .int (iI fl)), (0, .ref a0), (1, .int (iI i))]) C dX11_head_80 rfl (by decide) rfl ?_
            refine c_goto (tgt := 49) C dX11_head_83 (by decide) ?_
            refine hv12 (show 1 ≤ ivh15 a0 11 ∧ ivh15 a0 11 ≤ 100 from W15.int ty3 11) (show ivh15 a0 11 = ivb1 a0 11 from fl15.i ty3 rfl 11) (show 1 ≤ ivh15 a0 12 ∧ ivh15 a0 12 ≤ 50 from W15.int ty3 12) (show ivh15 a0 12 = ivb1 a0 12 from fl15.i ty3 rfl 12) (show (-2147483648) ≤ ivh15 a0 13 ∧ ivh15 a0 13 ≤ 2147483647 from W15.int ty3 13) (show ivh15 a0 13 = ivb1 a0 13 from fl15.i ty3 rfl 13) (show (-2147483648) ≤ ivh15 a0 14 ∧ ivh15 a0 14 ≤ 2147483647 from W15.int ty3 14) (show ivh15 a0 14 = ivb1 a0 14 from fl15.i ty3 rfl 14) (show (-2147483648) ≤ ivh15 a0 15 ∧ ivh15 a0 15 ≤ 2147483647 from W15.int ty3 15) (show ivh15 a0 15 = ivb1 a0 15 from fl15.i ty3 rfl 15) (show (-2147483648) ≤ ivh15 a0 16 ∧ ivh15 a0 16 ≤ 2147483647 from W15.int ty3 16) (show ivh15 a0 16 = ivb1 a0 16 from fl15.i ty3 rfl 16) (fun ri96 ie148 ri97 ie150 ri98 ie152 ri99 ie154 ri100 ie156 ri101 ie158 => ?_)
            refine c_lv (lv2 := [(2, .int (iI fl)), (3, .int (iI (k + 1))), (0, .ref a0), (1, .int (iI i))]) [1, 0, 2, 3] rfl ?_
            exact ih1  fl (k + 1) _ _ _ _ _ (by omega) Xb1 W15 F12  (by omega) (by omega) (ie148.trans hkp11) (ie150.trans hkp12) (ie152.trans hkp13) (ie154.trans hkp14) (ie156.trans hkp15) (ie158.trans hkp16) (show rvb1 a0 9 = rv a0 9 from hkr9) (show rvb1 a0 10 = rv a0 10 from hkr10)
    refine hv12 (show 1 ≤ ivh1 a0 11 ∧ ivh1 a0 11 ≤ 100 from W1.int t_a0 11) (show ivh1 a0 11 = iv a0 11 from fl1.i t_a0 rfl 11) (show 1 ≤ ivh1 a0 12 ∧ ivh1 a0 12 ≤ 50 from W1.int t_a0 12) (show ivh1 a0 12 = iv a0 12 from fl1.i t_a0 rfl 12) (show (-2147483648) ≤ ivh1 a0 13 ∧ ivh1 a0 13 ≤ 2147483647 from W1.int t_a0 13) (show ivh1 a0 13 = iv a0 13 from fl1.i t_a0 rfl 13) (show (-2147483648) ≤ ivh1 a0 14 ∧ ivh1 a0 14 ≤ 2147483647 from W1.int t_a0 14) (show ivh1 a0 14 = iv a0 14 from fl1.i t_a0 rfl 14) (show (-2147483648) ≤ ivh1 a0 15 ∧ ivh1 a0 15 ≤ 2147483647 from W1.int t_a0 15) (show ivh1 a0 15 = iv a0 15 from fl1.i t_a0 rfl 15) (show (-2147483648) ≤ ivh1 a0 16 ∧ ivh1 a0 16 ≤ 2147483647 from W1.int t_a0 16) (show ivh1 a0 16 = iv a0 16 from fl1.i t_a0 rfl 16) (fun ri102 ie160 ri103 ie161 ri104 ie162 ri105 ie163 ri106 ie164 ri107 ie165 => ?_)
    refine c_lv (lv2 := [(2, .int (iI 0)), (3, .int (iI 0)), (0, .ref a0), (1, .int (iI i))]) [1, 0, 2, 3] rfl ?_
    exact Lp1 3003 0 0 _ _ _ _ _ (by omega) hX0 W1 F1  (by omega) (by omega) ie160 ie161 ie162 ie163 ie164 ie165 rfl rfl
  · refine c_aload_n (j := 0) (x := a0) C dX11_head_12 rfl ?_
    refine c_getr (k := 0) C ck_12 dX11_head_13 w2_44 (by decide) t_a0 rfl rfl (by decide) rfl rq1 ?_
    refine c_st (st2 := [.ref (sk 2)]) rfl ?_
    refine c_iconst C dX11_head_16 ?_
    refine c_aload_n (j := 0) (x := a0) C dX11_head_17 rfl ?_
    refine c_getr (k := 0) C ck_12 dX11_head_18 w2_44 (by decide) t_a0 rfl rfl (by decide) rfl rq1 ?_
    refine c_st (st2 := [.ref (sk 2), .int (iI 0), .ref (sk 2)]) rfl ?_
    refine c_get (k := 2) C ck_2 dX11_head_21 w1_44 (by decide) tsk2 rfl rfl (by decide) rfl ?_
    refine c_bipush (z := 33) C dX11_head_24 (by decide) ?_
    refine c_bipush (z := 125) C dX11_head_26 (by decide) ?_
    refine d_callV (As := [.int (iI 0), .int (iI (iv (sk 2) 2)), .int (iI 33), .int (iI 125)]) (rest := []) C hM (C_isWithin_2 (a0 := (sk 2)) (i := 0) (j := iv (sk 2) 2) (lo := 33) (hi := 125) hW hS tsk2 ⟨by decide, by decide⟩ (by omega) ⟨by decide, by decide⟩ ⟨by decide, by decide⟩ ) dX11_head_28 kV_X11_171 rfl tsk2 rfl rfl (by decide) ck_2 rfl (Nat.le_of_ble_eq_true rfl) ⟨(Nat.le_of_ble_eq_true rfl), (Nat.le_of_ble_eq_true rfl)⟩ hph hph (show 0 + 0 = 0 from rfl) (by decide) (fun rh16 Lh16 clh16 lnh16 ivh16 rvh16 h16 => ?_)
    obtain ⟨f16, rfl, rfl, rfl, rfl, rfl, rfl, rgf16, exf16⟩ := h16
    refine c_st (st2 := [.int (iI f16)]) rfl ?_
    have gf16 : ∀ ss, CT iv rv (sk 2) ss → 0 ≤ (0 : Int) → (iv (sk 2) 2) ≤ iv (sk 2) 2 → (f16 = 1 ↔ ∀ x : Nat, (0 : Int) ≤ (x : Int) → (x : Int) < (iv (sk 2) 2) → (33 : Int) ≤ ss x ∧ ss x ≤ (125 : Int)) := exf16
    refine c_if_eq (tgt := 38) C ⟨by omega, by omega⟩ dX11_head_31 (by decide) (fun c7 => ?_) (fun c7 => ?_)
    · refine c_iconst C dX11_head_38 ?_
      refine c_istore_n (lv2 := [(2, .int (iI 0)), (0, .ref a0), (1, .int (iI i))]) C dX11_head_39 (by decide) rfl ?_
      refine c_aload_n (j := 1) (x := a0) C dX11_head_40 rfl ?_
      obtain ⟨rb14, rq14, trb14⟩ := hW.ref t_a0 6 rfl rfl rfl
      have erb14 := hW.sk trb14 (by decide) rfl
      subst erb14
      refine c_getr (k := 6) C ck_12 dX11_head_41 w2_50 (by decide) t_a0 rfl rfl (by decide) rfl rq14 ?_
      refine c_st (st2 := [.ref (sk 15)]) rfl ?_
      refine d_callV (As := []) (rest := []) C hM (C_wclear (a0 := (sk 15)) hW hS tsk15  ) dX11_head_44 kV_X11_272 rfl tsk15 rfl rfl (by decide) ck_7 rfl (Nat.le_of_ble_eq_true rfl) ⟨(Nat.le_of_ble_eq_true rfl), (Nat.le_of_ble_eq_true rfl)⟩ hph hph (show 0 + 0 = 0 from rfl) (by decide) (fun rh17 Lh17 clh17 lnh17 ivh17 rvh17 h17 => ?_)
      obtain ⟨rfl, rfl, rfl, rfl, rfl, fl17, W17, exf17⟩ := h17
      refine hv2 (hF0.call hX0 fl17 rfl) (MRK.call hmr hW hS XT.refl fl17 rfl rfl) (fun F13 mr13 => ?_)
      refine c_st (st2 := []) rfl ?_
      refine c_iconst C dX11_head_47 ?_
      refine c_istore_n (lv2 := [(3, .int (iI 0)), (2, .int (iI 0)), (0, .ref a0), (1, .int (iI i))]) C dX11_head_48 (by decide) rfl ?_
      have Lp3 : ∀ (nn : Nat) (fl k : Int) (Lb3 : List Nat) (clb3 lnb3 : Nat → Nat) (ivb3 : Nat → Nat → Int) (rvb3 : Nat → Nat → Option Nat) , 3001 - k < (nn : Int) → XT L cl ln Lb3 clb3 lnb3 → WT (g0 G) sk Lb3 clb3 lnb3 ivb3 rvb3 → fT [1, 2, 5, 35, 15, 50, 51, 52, 53, 54, 55] L cl iv rv ivb3 rvb3 → (fl = 0 ∨ fl = 1) → (0 ≤ k ∧ k ≤ 3000) → (ivb3 a0 11 = iv a0 11) → (ivb3 a0 12 = iv a0 12) → (ivb3 a0 13 = iv a0 13) → (ivb3 a0 14 = iv a0 14) → (ivb3 a0 15 = iv a0 15) → (ivb3 a0 16 = iv a0 16) → (rvb3 a0 9 = rv a0 9) → (rvb3 a0 10 = rv a0 10) → cw p l e 8 ((PHM) + 0 - ((Phi (g0 G) sk) ln rv)) s m args below meth c G A 6 (MQ below (Qu G A (Qp G (Phi (g0 G) sk) ((Phi (g0 G) sk) ln rv) 0 (fun v L2 cl2 ln2 iv2 rv2 => ∃ f : Int, v = some (.int (iI f)) ∧ XT L cl ln L2 cl2 ln2 ∧ fT [1, 2, 5, 35, 15, 50, 51, 52, 53, 54, 55] L cl iv rv iv2 rv2 ∧ WT (g0 G) sk L2 cl2 ln2 iv2 rv2 ∧ (-2147483648 ≤ f ∧ f ≤ 2147483647) ∧ (True) ∧ iv2 a0 11 = iv a0 11 ∧ iv2 a0 12 = iv a0 12 ∧ iv2 a0 13 = iv a0 13 ∧ iv2 a0 14 = iv a0 14 ∧ iv2 a0 15 = iv a0 15 ∧ iv2 a0 16 = iv a0 16 ∧ iv2 (sk 2) 2 = 0 ∧ rv2 a0 9 = rv a0 9 ∧ rv2 a0 10 = rv a0 10))) args s (((PHM) + 0 - ((Phi (g0 G) sk) ln rv)) / 16) ((PHM) + 0 - ((Phi (g0 G) sk) ln rv)) A) (Phi (g0 G) sk) ((Phi (g0 G) sk) ln rv) Lb3 clb3 lnb3 ivb3 rvb3 0 49 [(2, .int (iI fl)), (3, .int (iI k)), (0, .ref a0), (1, .int (iI i))] [] := by
        intro nn
        induction nn with
        | zero =>
          intro  fl k Lb3 clb3 lnb3 ivb3 rvb3 hm Xb3 Wb3 Fb3  hfl hk hkp11 hkp12 hkp13 hkp14 hkp15 hkp16 hkr9 hkr10
          have skb3 := Xb3.skl hS
          exact absurd hm (by omega)
        | succ nn ih3 =>
          intro  fl k Lb3 clb3 lnb3 ivb3 rvb3 hm Xb3 Wb3 Fb3  hfl hk hkp11 hkp12 hkp13 hkp14 hkp15 hkp16 hkr9 hkr10
          refine hv2 (Xb3.skl hS) (MRK.call hmr hW hS Xb3 Fb3 rfl rfl) (fun skb3 mrb3 => ?_)
          refine c_iload_n (j := 0) C dX11_head_49 rfl ?_
          refine c_if_eq (tgt := 86) C (r32_01 hfl) dX11_head_50 (by decide) (fun c8 => ?_) (fun c8 => ?_)
          · clear hfl
            refine c_aload_n (j := 2) (x := a0) C dX11_head_86 rfl ?_
            have ty29 := Xb3.ty t_a0
            obtain ⟨rb15, rq15, trb15⟩ := Wb3.ref ty29 0 rfl rfl rfl
            have erb15 := Wb3.sk trb15 (by decide) rfl
            subst erb15
            refine c_getr (k := 0) C ck_12 dX11_head_87 w2_44 (by decide) ty29 rfl rfl (by decide) rfl rq15 ?_
            refine c_st (st2 := [.ref (sk 2)]) rfl ?_
            refine hv2 (Xb3.ty tsk2) (Phi.le Wb3 skb3) (fun ty30 pl7 => ?_)
            refine d_callV (As := []) (rest := []) C hM (C_clear_2 (a0 := (sk 2)) Wb3 skb3 ty30  ) dX11_head_90 kV_X11_164 rfl ty30 rfl rfl (by decide) ck_2 rfl (Nat.le_of_ble_eq_true rfl) ⟨(Nat.le_of_ble_eq_true rfl), (Nat.le_of_ble_eq_true rfl)⟩ hph pl7 (show 0 + 0 = 0 from rfl) (by decide) (fun rh18 Lh18 clh18 lnh18 ivh18 rvh18 h18 => ?_)
            obtain ⟨rfl, rfl, rfl, rfl, rfl, fl18, W18, exf18⟩ := h18
            refine hv2 (Fb3.call Xb3 fl18 rfl) (MRK.call mrb3 Wb3 skb3 XT.refl fl18 rfl rfl) (fun F14 mr14 => ?_)
            refine c_st (st2 := []) rfl ?_
            refine hv2 (show 0 ≤ ivh18 (sk 2) 2 ∧ ivh18 (sk 2) 2 ≤ 3000 from W18.int ty30 2) (show ivh18 (sk 2) 2 = 0 from exf18) (fun ri108 gf18 => ?_)
            refine c_iload_n (j := 0) C dX11_head_93 rfl ?_
            refine c_if_ne (tgt := 104) C ⟨by omega, by omega⟩ dX11_head_94 (by decide) (fun z => absurd z (by omega)) (fun _ => ?_)
            refine c_aload_n (j := 2) (x := a0) C dX11_head_97 rfl ?_
            refine c_bipush (z := 6) C dX11_head_98 (by decide) ?_
            refine d_callV (As := [.int (iI 6)]) (rest := []) C hM (C_refuse (a0 := a0) (x := 6) W18 skb3 ty29 ⟨by decide, by decide⟩ ) dX11_head_100 kV_X11_102 rfl ty29 rfl rfl (by decide) ck_12 rfl (Nat.le_of_ble_eq_true rfl) ⟨(Nat.le_of_ble_eq_true rfl), (Nat.le_of_ble_eq_true rfl)⟩ hph pl7 (show 0 + 0 = 0 from rfl) (by decide) (fun rh19 Lh19 clh19 lnh19 ivh19 rvh19 h19 => ?_)
            obtain ⟨f19, rfl, rfl, rfl, rfl, rfl, fl19, W19, rgf19, exf19, kp11f19, kp12f19, kp13f19, kp14f19, kp15f19, kp16f19⟩ := h19
            refine hv14 (show 1 ≤ ivh18 a0 11 ∧ ivh18 a0 11 ≤ 100 from W18.int ty29 11) (show ivh18 a0 11 = ivb3 a0 11 from fl18.i ty29 rfl 11) (show 1 ≤ ivh18 a0 12 ∧ ivh18 a0 12 ≤ 50 from W18.int ty29 12) (show ivh18 a0 12 = ivb3 a0 12 from fl18.i ty29 rfl 12) (show (-2147483648) ≤ ivh18 a0 13 ∧ ivh18 a0 13 ≤ 2147483647 from W18.int ty29 13) (show ivh18 a0 13 = ivb3 a0 13 from fl18.i ty29 rfl 13) (show (-2147483648) ≤ ivh18 a0 14 ∧ ivh18 a0 14 ≤ 2147483647 from W18.int ty29 14) (show ivh18 a0 14 = ivb3 a0 14 from fl18.i ty29 rfl 14) (show (-2147483648) ≤ ivh18 a0 15 ∧ ivh18 a0 15 ≤ 2147483647 from W18.int ty29 15) (show ivh18 a0 15 = ivb3 a0 15 from fl18.i ty29 rfl 15) (show (-2147483648) ≤ ivh18 a0 16 ∧ ivh18 a0 16 ≤ 2147483647 from W18.int ty29 16) (show ivh18 a0 16 = ivb3 a0 16 from fl18.i ty29 rfl 16) (F14.call Xb3 fl19 rfl) (MRK.call mr14 W18 skb3 XT.refl fl19 rfl rfl) (fun ri109 ie167 ri110 ie169 ri111 ie171 ri112 ie173 ri113 ie175 ri114 ie177 F15 mr15 => ?_)
            refine c_st (st2 := [.int (iI f19)]) rfl ?_
            refine hv15 (show ivh19 a0 11 = ivh18 a0 11 from kp11f19) (show ivh19 a0 12 = ivh18 a0 12 from kp12f19) (show ivh19 a0 13 = ivh18 a0 13 from kp13f19) (show ivh19 a0 14 = ivh18 a0 14 from kp14f19) (show ivh19 a0 15 = ivh18 a0 15 from kp15f19) (show ivh19 a0 16 = ivh18 a0 16 from kp16f19) (show f19 = -1 from exf19) (show 0 ≤ ivh19 (sk 2) 2 ∧ ivh19 (sk 2) 2 ≤ 3000 from W19.int ty30 2) (show ivh19 (sk 2) 2 = ivh18 (sk 2) 2 from fl19.i ty30 rfl 2) (show 1 ≤ ivh19 a0 11 ∧ ivh19 a0 11 ≤ 100 from W19.int ty29 11) (show 1 ≤ ivh19 a0 12 ∧ ivh19 a0 12 ≤ 50 from W19.int ty29 12) (show (-2147483648) ≤ ivh19 a0 13 ∧ ivh19 a0 13 ≤ 2147483647 from W19.int ty29 13) (show (-2147483648) ≤ ivh19 a0 14 ∧ ivh19 a0 14 ≤ 2147483647 from W19.int ty29 14) (show (-2147483648) ≤ ivh19 a0 15 ∧ ivh19 a0 15 ≤ 2147483647 from W19.int ty29 15) (show (-2147483648) ≤ ivh19 a0 16 ∧ ivh19 a0 16 ≤ 2147483647 from W19.int ty29 16) (fun gk11f19 gk12f19 gk13f19 gk14f19 gk15f19 gk16f19 gf19 ri115 ie179 ri116 ri117 ri118 ri119 ri120 ri121 => ?_)
            exact c_iret C dX11_head_103 rfl (by decide) (rom0 hph pl7 (by decide)) ⟨f19, rfl, Xb3, F15, W19, ⟨by omega, by omega⟩, trivial, (gk11f19.trans (ie167.trans hkp11)), (gk12f19.trans (ie169.trans hkp12)), (gk13f19.trans (ie171.trans hkp13)), (gk14f19.trans (ie173.trans hkp14)), (gk15f19.trans (ie175.trans hkp15)), (gk16f19.trans (ie177.trans hkp16)), (ie179.trans gf18), (show rvb3 a0 9 = rv a0 9 from hkr9), (show rvb3 a0 10 = rv a0 10 from hkr10)⟩
          · replace hfl := (hfl.resolve_left c8)
            refine c_iload_n (j := 1) C dX11_head_53 rfl ?_
            refine c_aload_n (j := 2) (x := a0) C dX11_head_54 rfl ?_
            have ty31 := Xb3.ty t_a0
            obtain ⟨rb16, rq16, trb16⟩ := Wb3.ref ty31 0 rfl rfl rfl
            have erb16 := Wb3.sk trb16 (by decide) rfl
            subst erb16
            refine c_getr (k := 0) C ck_12 dX11_head_55 w2_44 (by decide) ty31 rfl rfl (by decide) rfl rq16 ?_
            refine c_st (st2 := [.ref (sk 2), .int (iI k)]) rfl ?_
            have ty32 := Xb3.ty tsk2
            have ri122 : 0 ≤ ivb3 (sk 2) 2 ∧ ivb3 (sk 2) 2 ≤ 3000 := Wb3.int ty32 2
            refine c_get (k := 2) C ck_2 dX11_head_58 w1_44 (by decide) ty32 rfl rfl (by decide) rfl ?_
            refine c_icmp_ge (tgt := 86) C (r32_c (lo := 0) (hi := 3000) hk.1 hk.2 (by decide) (by decide)) (r32_c (lo := 0) (hi := 3000) ri122.1 ri122.2 (by decide) (by decide)) dX11_head_61 (by decide) (fun c9 => ?_) (fun c9 => ?_)
            · refine c_aload_n (j := 2) (x := a0) C dX11_head_86 rfl ?_
              refine c_getr (k := 0) C ck_12 dX11_head_87 w2_44 (by decide) ty31 rfl rfl (by decide) rfl rq16 ?_
              refine c_st (st2 := [.ref (sk 2)]) rfl ?_
              have pl8 := Phi.le Wb3 skb3
              refine d_callV (As := []) (rest := []) C hM (C_clear_2 (a0 := (sk 2)) Wb3 skb3 ty32  ) dX11_head_90 kV_X11_164 rfl ty32 rfl rfl (by decide) ck_2 rfl (Nat.le_of_ble_eq_true rfl) ⟨(Nat.le_of_ble_eq_true rfl), (Nat.le_of_ble_eq_true rfl)⟩ hph pl8 (show 0 + 0 = 0 from rfl) (by decide) (fun rh20 Lh20 clh20 lnh20 ivh20 rvh20 h20 => ?_)
              obtain ⟨rfl, rfl, rfl, rfl, rfl, fl20, W20, exf20⟩ := h20
              refine hv2 (Fb3.call Xb3 fl20 rfl) (MRK.call mrb3 Wb3 skb3 XT.refl fl20 rfl rfl) (fun F16 mr16 => ?_)
              refine c_st (st2 := []) rfl ?_
              refine hv2 (show 0 ≤ ivh20 (sk 2) 2 ∧ ivh20 (sk 2) 2 ≤ 3000 from W20.int ty32 2) (show ivh20 (sk 2) 2 = 0 from exf20) (fun ri123 gf20 => ?_)
              refine c_iload_n (j := 0) C dX11_head_93 rfl ?_
              refine c_if_ne (tgt := 104) C ⟨by omega, by omega⟩ dX11_head_94 (by decide) (fun _ => ?_) (fun z => absurd z (by omega))
              refine c_aload_n (j := 2) (x := a0) C dX11_head_104 rfl ?_
              obtain ⟨rb17, rq17, trb17⟩ := W20.ref ty31 4 rfl rfl rfl
              have erb17 := W20.sk trb17 (by decide) rfl
              subst erb17
              refine c_getr (k := 4) C ck_12 dX11_head_105 w2_48 (by decide) ty31 rfl rfl (by decide) rfl rq17 ?_
              refine c_st (st2 := [.ref (sk 13)]) rfl ?_
              refine c_iload_n (j := 3) C dX11_head_108 rfl ?_
              have ty33 := Xb3.ty tsk13
              refine d_callV (As := [.int (iI i)]) (rest := []) C hM (C_whole (a0 := (sk 13)) (i := i) W20 skb3 ty33 (by omega) mr16) dX11_head_109 kV_X11_231 rfl ty33 rfl rfl (by decide) ck_11 rfl (Nat.le_of_ble_eq_true rfl) ⟨(Nat.le_of_ble_eq_true rfl), (Nat.le_of_ble_eq_true rfl)⟩ hph pl8 (show 0 + 0 = 0 from rfl) (by decide) (fun rh21 Lh21 clh21 lnh21 ivh21 rvh21 h21 => ?_)
              obtain ⟨f21, rfl, rfl, rfl, rfl, rfl, rfl, rgf21, exf21⟩ := h21
              refine c_st (st2 := [(va_rf f21)]) rfl ?_
              refine c_astorer_n (r := f21) (lv2 := [(3, (va_rf f21)), (2, .int (iI fl)), (0, .ref a0), (1, .int (iI i))]) C dX11_head_112 (by decide) rfl ?_
              refine c_aloadr_n (j := 0) (r := f21) C dX11_head_113 rfl ?_
              refine c_ifnonnull (r := f21) (tgt := 123) C dX11_head_114 (by decide) (fun ob2 oq2 => ?_) (fun oq2 => ?_)
              · subst oq2
                have tob2 := rgf21 ob2 rfl
                refine c_lv (lv2 := [(3, .ref ob2), (2, .int (iI fl)), (0, .ref a0), (1, .int (iI i))]) [0, 1, 2, 3] rfl ?_
                refine c_st (st2 := []) rfl ?_
                refine c_aload_n (j := 2) (x := a0) C dX11_head_123 rfl ?_
                obtain ⟨rb18, rq18, trb18⟩ := W20.ref ty31 6 rfl rfl rfl
                have erb18 := W20.sk trb18 (by decide) rfl
                subst erb18
                refine c_getr (k := 6) C ck_12 dX11_head_124 w2_50 (by decide) ty31 rfl rfl (by decide) rfl rq18 ?_
                refine c_st (st2 := [.ref (sk 15)]) rfl ?_
                refine c_aload_n (j := 0) (x := ob2) C dX11_head_127 rfl ?_
                have ty34 := Xb3.ty tsk15
                refine hv2 (show 0 ≤ ivh20 (sk 15) 4 ∧ ivh20 (sk 15) 4 ≤ 500 from W20.int ty34 4) (show ivh20 (sk 15) 4 = ivb3 (sk 15) 4 from fl20.i ty34 rfl 4) (fun ri124 ie188 => ?_)
                refine d_callV (As := [.ref ob2]) (rest := []) C hM (C_setBy (a0 := (sk 15)) (a1 := ob2) W20 skb3 ty34 tob2  ) dX11_head_128 kV_X11_253 rfl ty34 rfl rfl (by decide) ck_7 rfl (Nat.le_of_ble_eq_true rfl) ⟨(Nat.le_of_ble_eq_true rfl), (Nat.le_of_ble_eq_true rfl)⟩ hph pl8 (show 0 + 0 = 0 from rfl) (by decide) (fun rh22 Lh22 clh22 lnh22 ivh22 rvh22 h22 => ?_)
                obtain ⟨f22, rfl, rfl, rfl, rfl, rfl, fl22, W22, rgf22, exf22⟩ := h22
                refine hv2 (F16.call Xb3 fl22 rfl) (MRK.call mr16 W20 skb3 XT.refl fl22 rfl rfl) (fun F17 mr17 => ?_)
                refine c_st (st2 := [.int (iI f22)]) rfl ?_
                refine hv3 (show 0 ≤ ivh22 (sk 15) 4 ∧ ivh22 (sk 15) 4 ≤ 500 from W22.int ty34 4) (show 0 ≤ ivh22 (sk 15) 7 ∧ ivh22 (sk 15) 7 ≤ 100000 from W22.int ty34 7) (show (f22 = 0 ∨ f22 = 6 ∨ f22 = 7) ∧ ivh22 (sk 15) 4 = ivh20 (sk 15) 4 ∧ (f22 = 0 → ivh22 (sk 15) 7 ≤ 200) from exf22) (fun ri125 ri126 gf22 => ?_)
                refine c_istore (lv2 := [(4, .int (iI f22)), (3, .ref ob2), (2, .int (iI fl)), (0, .ref a0), (1, .int (iI i))]) C dX11_head_131 (by decide) rfl ?_
                refine c_iload (j := 0) C dX11_head_133 rfl ?_
                refine c_if_eq (tgt := 152) C (r32_067 gf22.1) dX11_head_135 (by decide) (fun c10 => ?_) (fun c10 => ?_)
                · replace gf22 := (And.intro c10 (And.intro gf22.2.1 (gf22.2.2 c10)))
                  refine c_aload_n (j := 3) (x := a0) C dX11_head_152 rfl ?_
                  obtain ⟨rb19, rq19, trb19⟩ := W22.ref ty31 3 rfl rfl rfl
                  have erb19 := W22.sk trb19 (by decide) rfl
                  subst erb19
                  refine c_getr (k := 3) C ck_12 dX11_head_153 w2_47 (by decide) ty31 rfl rfl (by decide) rfl rq19 ?_
                  refine c_st (st2 := [.ref (sk 5)]) rfl ?_
                  have ty35 := Xb3.ty tsk5
                  refine d_callV (As := []) (rest := []) C hM (C_clear_5 (a0 := (sk 5)) W22 skb3 ty35  ) dX11_head_156 kV_X11_164 rfl ty35 rfl rfl (by decide) ck_2 rfl (Nat.le_of_ble_eq_true rfl) ⟨(Nat.le_of_ble_eq_true rfl), (Nat.le_of_ble_eq_true rfl)⟩ hph pl8 (show 0 + 0 = 0 from rfl) (by decide) (fun rh23 Lh23 clh23 lnh23 ivh23 rvh23 h23 => ?_)
                  obtain ⟨rfl, rfl, rfl, rfl, rfl, fl23, W23, exf23⟩ := h23
                  refine hv2 (F17.call Xb3 fl23 rfl) (MRK.call mr17 W22 skb3 XT.refl fl23 rfl rfl) (fun F18 mr18 => ?_)
                  refine c_st (st2 := []) rfl ?_
                  refine hv2 (show 0 ≤ ivh23 (sk 5) 2 ∧ ivh23 (sk 5) 2 ≤ 200 from W23.int ty35 2) (show ivh23 (sk 5) 2 = 0 from exf23) (fun ri127 gf23 => ?_)
                  refine c_iconst C dX11_head_159 ?_
                  refine c_istore (lv2 := [(5, .int (iI 0)), (4, .int (iI f22)), (3, .ref ob2), (2, .int (iI fl)), (0, .ref a0), (1, .int (iI i))]) C dX11_head_160 (by decide) rfl ?_
                  have Lp4 : ∀ (nn : Nat) (k2 : Int) (Lb4 : List Nat) (clb4 lnb4 : Nat → Nat) (ivb4 : Nat → Nat → Int) (rvb4 : Nat → Nat → Option Nat) , 101 - k2 < (nn : Int) → XT L cl ln Lb4 clb4 lnb4 → WT (g0 G) sk Lb4 clb4 lnb4 ivb4 rvb4 → fT [1, 2, 5, 35, 15, 50, 51, 52, 53, 54, 55] L cl iv rv ivb4 rvb4 → (0 ≤ k2 ∧ k2 ≤ 100) → (ivb4 (sk 15) 7 ≤ 200) → (ivb4 (sk 2) 2 = 0) → (ivb4 a0 11 = iv a0 11) → (ivb4 a0 12 = iv a0 12) → (ivb4 a0 13 = iv a0 13) → (ivb4 a0 14 = iv a0 14) → (ivb4 a0 15 = iv a0 15) → (ivb4 a0 16 = iv a0 16) → (rvb4 a0 9 = rv a0 9) → (rvb4 a0 10 = rv a0 10) → cw p l e 8 ((PHM) + 0 - ((Phi (g0 G) sk) ln rv)) s m args below meth c G A 6 (MQ below (Qu G A (Qp G (Phi (g0 G) sk) ((Phi (g0 G) sk) ln rv) 0 (fun v L2 cl2 ln2 iv2 rv2 => ∃ f : Int, v = some (.int (iI f)) ∧ XT L cl ln L2 cl2 ln2 ∧ fT [1, 2, 5, 35, 15, 50, 51, 52, 53, 54, 55] L cl iv rv iv2 rv2 ∧ WT (g0 G) sk L2 cl2 ln2 iv2 rv2 ∧ (-2147483648 ≤ f ∧ f ≤ 2147483647) ∧ (True) ∧ iv2 a0 11 = iv a0 11 ∧ iv2 a0 12 = iv a0 12 ∧ iv2 a0 13 = iv a0 13 ∧ iv2 a0 14 = iv a0 14 ∧ iv2 a0 15 = iv a0 15 ∧ iv2 a0 16 = iv a0 16 ∧ iv2 (sk 2) 2 = 0 ∧ rv2 a0 9 = rv a0 9 ∧ rv2 a0 10 = rv a0 10))) args s (((PHM) + 0 - ((Phi (g0 G) sk) ln rv)) / 16) ((PHM) + 0 - ((Phi (g0 G) sk) ln rv)) A) (Phi (g0 G) sk) ((Phi (g0 G) sk) ln rv) Lb4 clb4 lnb4 ivb4 rvb4 0 162 [(5, .int (iI k2)), (4, .int (iI f22)), (3, .ref ob2), (2, .int (iI fl)), (0, .ref a0), (1, .int (iI i))] [] := by
                    intro nn
                    induction nn with
                    | zero =>
                      intro  k2 Lb4 clb4 lnb4 ivb4 rvb4 hm Xb4 Wb4 Fb4  hk2 hco htz hkp11 hkp12 hkp13 hkp14 hkp15 hkp16 hkr9 hkr10
                      have skb4 := Xb4.skl hS
                      exact absurd hm (by omega)
                    | succ nn ih4 =>
                      intro  k2 Lb4 clb4 lnb4 ivb4 rvb4 hm Xb4 Wb4 Fb4  hk2 hco htz hkp11 hkp12 hkp13 hkp14 hkp15 hkp16 hkr9 hkr10
                      refine hv2 (Xb4.skl hS) (MRK.call hmr hW hS Xb4 Fb4 rfl rfl) (fun skb4 mrb4 => ?_)
                      refine c_iload (j := 0) C dX11_head_162 rfl ?_
                      refine c_aload_n (j := 4) (x := a0) C dX11_head_164 rfl ?_
                      have ty36 := Xb4.ty t_a0
                      obtain ⟨rb20, rq20, trb20⟩ := Wb4.ref ty36 6 rfl rfl rfl
                      have erb20 := Wb4.sk trb20 (by decide) rfl
                      subst erb20
                      refine c_getr (k := 6) C ck_12 dX11_head_165 w2_50 (by decide) ty36 rfl rfl (by decide) rfl rq20 ?_
                      refine c_st (st2 := [.ref (sk 15), .int (iI k2)]) rfl ?_
                      have ty37 := Xb4.ty tsk15
                      have ri128 : 0 ≤ ivb4 (sk 15) 7 ∧ ivb4 (sk 15) 7 ≤ 100000 := Wb4.int ty37 7
                      refine c_get (k := 7) C ck_7 dX11_head_168 w1_149 (by decide) ty37 rfl rfl (by decide) rfl ?_
                      refine c_icmp_ge (tgt := 206) C (r32_c (lo := 0) (hi := 100) hk2.1 hk2.2 (by decide) (by decide)) (r32_c (lo := 0) (hi := 100000) ri128.1 ri128.2 (by decide) (by decide)) dX11_head_171 (by decide) (fun c11 => ?_) (fun c11 => ?_)
                      · refine c_aload_n (j := 4) (x := a0) C dX11_head_206 rfl ?_
                        refine c_aload_n (j := 4) (x := a0) C dX11_head_207 rfl ?_
                        obtain ⟨rb21, rq21, trb21⟩ := Wb4.ref ty36 3 rfl rfl rfl
                        have erb21 := Wb4.sk trb21 (by decide) rfl
                        subst erb21
                        refine c_getr (k := 3) C ck_12 dX11_head_208 w2_47 (by decide) ty36 rfl rfl (by decide) rfl rq21 ?_
                        refine c_st (st2 := [.ref (sk 5), .ref a0]) rfl ?_
                        have ty38 := Xb4.ty tsk5
                        have ri129 : 0 ≤ ivb4 (sk 5) 2 ∧ ivb4 (sk 5) 2 ≤ 200 := Wb4.int ty38 2
                        refine c_get (k := 2) C ck_2 dX11_head_211 w1_44 (by decide) ty38 rfl rfl (by decide) rfl ?_
                        have pl9 := Phi.le Wb4 skb4
                        refine d_callV (As := [.int (iI (ivb4 (sk 5) 2))]) (rest := []) C hM (C_done (a0 := a0) (x := ivb4 (sk 5) 2) Wb4 skb4 ty36 (by omega) ) dX11_head_214 kV_X11_109 rfl ty36 rfl rfl (by decide) ck_12 rfl (Nat.le_of_ble_eq_true rfl) ⟨(Nat.le_of_ble_eq_true rfl), (Nat.le_of_ble_eq_true rfl)⟩ hph pl9 (show 0 + 0 = 0 from rfl) (by decide) (fun rh24 Lh24 clh24 lnh24 ivh24 rvh24 h24 => ?_)
                        obtain ⟨f24, rfl, rfl, rfl, rfl, rfl, fl24, W24, rgf24, exf24, kp11f24, kp12f24, kp13f24, kp14f24, kp15f24, kp16f24⟩ := h24
                        refine hv8 (show 1 ≤ ivb4 a0 11 ∧ ivb4 a0 11 ≤ 100 from Wb4.int ty36 11) (show 1 ≤ ivb4 a0 12 ∧ ivb4 a0 12 ≤ 50 from Wb4.int ty36 12) (show (-2147483648) ≤ ivb4 a0 13 ∧ ivb4 a0 13 ≤ 2147483647 from Wb4.int ty36 13) (show (-2147483648) ≤ ivb4 a0 14 ∧ ivb4 a0 14 ≤ 2147483647 from Wb4.int ty36 14) (show (-2147483648) ≤ ivb4 a0 15 ∧ ivb4 a0 15 ≤ 2147483647 from Wb4.int ty36 15) (show (-2147483648) ≤ ivb4 a0 16 ∧ ivb4 a0 16 ≤ 2147483647 from Wb4.int ty36 16) (Fb4.call Xb4 fl24 rfl) (MRK.call mrb4 Wb4 skb4 XT.refl fl24 rfl rfl) (fun ri130 ri131 ri132 ri133 ri134 ri135 F19 mr19 => ?_)
                        refine c_st (st2 := [.int (iI f24)]) rfl ?_
                        refine hv14 (show ivh24 a0 11 = ivb4 a0 11 from kp11f24) (show ivh24 a0 12 = ivb4 a0 12 from kp12f24) (show ivh24 a0 13 = ivb4 a0 13 from kp13f24) (show ivh24 a0 14 = ivb4 a0 14 from kp14f24) (show ivh24 a0 15 = ivb4 a0 15 from kp15f24) (show ivh24 a0 16 = ivb4 a0 16 from kp16f24) (show f24 = (ivb4 (sk 5) 2) from exf24) (Xb4.ty tsk2) (show 1 ≤ ivh24 a0 11 ∧ ivh24 a0 11 ≤ 100 from W24.int ty36 11) (show 1 ≤ ivh24 a0 12 ∧ ivh24 a0 12 ≤ 50 from W24.int ty36 12) (show (-2147483648) ≤ ivh24 a0 13 ∧ ivh24 a0 13 ≤ 2147483647 from W24.int ty36 13) (show (-2147483648) ≤ ivh24 a0 14 ∧ ivh24 a0 14 ≤ 2147483647 from W24.int ty36 14) (show (-2147483648) ≤ ivh24 a0 15 ∧ ivh24 a0 15 ≤ 2147483647 from W24.int ty36 15) (show (-2147483648) ≤ ivh24 a0 16 ∧ ivh24 a0 16 ≤ 2147483647 from W24.int ty36 16) (fun gk11f24 gk12f24 gk13f24 gk14f24 gk15f24 gk16f24 gf24 ty39 ri137 ri138 ri139 ri140 ri141 ri142 => ?_)
                        refine hv2 (show 0 ≤ ivh24 (sk 2) 2 ∧ ivh24 (sk 2) 2 ≤ 3000 from W24.int ty39 2) (show ivh24 (sk 2) 2 = ivb4 (sk 2) 2 from fl24.i ty39 rfl 2) (fun ri136 ie201 => ?_)
                        exact c_iret C dX11_head_217 rfl (by decide) (rom0 hph pl9 (by decide)) ⟨f24, rfl, Xb4, F19, W24, ⟨by omega, by omega⟩, trivial, (gk11f24.trans hkp11), (gk12f24.trans hkp12), (gk13f24.trans hkp13), (gk14f24.trans hkp14), (gk15f24.trans hkp15), (gk16f24.trans hkp16), (ie201.trans htz), (show rvb4 a0 9 = rv a0 9 from hkr9), (show rvb4 a0 10 = rv a0 10 from hkr10)⟩
                      · refine c_iload (j := 0) C dX11_head_174 rfl ?_
                        refine c_aload_n (j := 4) (x := a0) C dX11_head_176 rfl ?_
                        have ri143 : 1 ≤ ivb4 a0 11 ∧ ivb4 a0 11 ≤ 100 := Wb4.int ty36 11
                        refine c_get (k := 11) C ck_12 dX11_head_177 w2_55 (by decide) ty36 rfl rfl (by decide) rfl ?_
                        refine c_icmp_ge (tgt := 206) C (r32_c (lo := 0) (hi := 100) hk2.1 hk2.2 (by decide) (by decide)) (r32_c (lo := 1) (hi := 100) ri143.1 ri143.2 (by decide) (by decide)) dX11_head_180 (by decide) (fun c12 => ?_) (fun c12 => ?_)
                        · refine c_aload_n (j := 4) (x := a0) C dX11_head_206 rfl ?_
                          refine c_aload_n (j := 4) (x := a0) C dX11_head_207 rfl ?_
                          obtain ⟨rb22, rq22, trb22⟩ := Wb4.ref ty36 3 rfl rfl rfl
                          have erb22 := Wb4.sk trb22 (by decide) rfl
                          subst erb22
                          refine c_getr (k := 3) C ck_12 dX11_head_208 w2_47 (by decide) ty36 rfl rfl (by decide) rfl rq22 ?_
                          refine c_st (st2 := [.ref (sk 5), .ref a0]) rfl ?_
                          have ty40 := Xb4.ty tsk5
                          have ri144 : 0 ≤ ivb4 (sk 5) 2 ∧ ivb4 (sk 5) 2 ≤ 200 := Wb4.int ty40 2
                          refine c_get (k := 2) C ck_2 dX11_head_211 w1_44 (by decide) ty40 rfl rfl (by decide) rfl ?_
                          have pl10 := Phi.le Wb4 skb4
                          refine d_callV (As := [.int (iI (ivb4 (sk 5) 2))]) (rest := []) C hM (C_done (a0 := a0) (x := ivb4 (sk 5) 2) Wb4 skb4 ty36 (by omega) ) dX11_head_214 kV_X11_109 rfl ty36 rfl rfl (by decide) ck_12 rfl (Nat.le_of_ble_eq_true rfl) ⟨(Nat.le_of_ble_eq_true rfl), (Nat.le_of_ble_eq_true rfl)⟩ hph pl10 (show 0 + 0 = 0 from rfl) (by decide) (fun rh25 Lh25 clh25 lnh25 ivh25 rvh25 h25 => ?_)
                          obtain ⟨f25, rfl, rfl, rfl, rfl, rfl, fl25, W25, rgf25, exf25, kp11f25, kp12f25, kp13f25, kp14f25, kp15f25, kp16f25⟩ := h25
                          refine hv7 (show 1 ≤ ivb4 a0 12 ∧ ivb4 a0 12 ≤ 50 from Wb4.int ty36 12) (show (-2147483648) ≤ ivb4 a0 13 ∧ ivb4 a0 13 ≤ 2147483647 from Wb4.int ty36 13) (show (-2147483648) ≤ ivb4 a0 14 ∧ ivb4 a0 14 ≤ 2147483647 from Wb4.int ty36 14) (show (-2147483648) ≤ ivb4 a0 15 ∧ ivb4 a0 15 ≤ 2147483647 from Wb4.int ty36 15) (show (-2147483648) ≤ ivb4 a0 16 ∧ ivb4 a0 16 ≤ 2147483647 from Wb4.int ty36 16) (Fb4.call Xb4 fl25 rfl) (MRK.call mrb4 Wb4 skb4 XT.refl fl25 rfl rfl) (fun ri145 ri146 ri147 ri148 ri149 F20 mr20 => ?_)
                          refine c_st (st2 := [.int (iI f25)]) rfl ?_
                          refine hv14 (show ivh25 a0 11 = ivb4 a0 11 from kp11f25) (show ivh25 a0 12 = ivb4 a0 12 from kp12f25) (show ivh25 a0 13 = ivb4 a0 13 from kp13f25) (show ivh25 a0 14 = ivb4 a0 14 from kp14f25) (show ivh25 a0 15 = ivb4 a0 15 from kp15f25) (show ivh25 a0 16 = ivb4 a0 16 from kp16f25) (show f25 = (ivb4 (sk 5) 2) from exf25) (Xb4.ty tsk2) (show 1 ≤ ivh25 a0 11 ∧ ivh25 a0 11 ≤ 100 from W25.int ty36 11) (show 1 ≤ ivh25 a0 12 ∧ ivh25 a0 12 ≤ 50 from W25.int ty36 12) (show (-2147483648) ≤ ivh25 a0 13 ∧ ivh25 a0 13 ≤ 2147483647 from W25.int ty36 13) (show (-2147483648) ≤ ivh25 a0 14 ∧ ivh25 a0 14 ≤ 2147483647 from W25.int ty36 14) (show (-2147483648) ≤ ivh25 a0 15 ∧ ivh25 a0 15 ≤ 2147483647 from W25.int ty36 15) (show (-2147483648) ≤ ivh25 a0 16 ∧ ivh25 a0 16 ≤ 2147483647 from W25.int ty36 16) (fun gk11f25 gk12f25 gk13f25 gk14f25 gk15f25 gk16f25 gf25 ty41 ri151 ri152 ri153 ri154 ri155 ri156 => ?_)
                          refine hv2 (show 0 ≤ ivh25 (sk 2) 2 ∧ ivh25 (sk 2) 2 ≤ 3000 from W25.int ty41 2) (show ivh25 (sk 2) 2 = ivb4 (sk 2) 2 from fl25.i ty41 rfl 2) (fun ri150 ie216 => ?_)
                          exact c_iret C dX11_head_217 rfl (by decide) (rom0 hph pl10 (by decide)) ⟨f25, rfl, Xb4, F20, W25, ⟨by omega, by omega⟩, trivial, (gk11f25.trans hkp11), (gk12f25.trans hkp12), (gk13f25.trans hkp13), (gk14f25.trans hkp14), (gk15f25.trans hkp15), (gk16f25.trans hkp16), (ie216.trans htz), (show rvb4 a0 9 = rv a0 9 from hkr9), (show rvb4 a0 10 = rv a0 10 from hkr10)⟩
                        · refine c_aload_n (j := 4) (x := a0) C dX11_head_183 rfl ?_
                          obtain ⟨rb23, rq23, trb23⟩ := Wb4.ref ty36 3 rfl rfl rfl
                          have erb23 := Wb4.sk trb23 (by decide) rfl
                          subst erb23
                          refine c_getr (k := 3) C ck_12 dX11_head_184 w2_47 (by decide) ty36 rfl rfl (by decide) rfl rq23 ?_
                          refine c_st (st2 := [.ref (sk 5)]) rfl ?_
                          refine c_aload_n (j := 4) (x := a0) C dX11_head_187 rfl ?_
                          refine c_getr (k := 6) C ck_12 dX11_head_188 w2_50 (by decide) ty36 rfl rfl (by decide) rfl rq20 ?_
                          refine c_st (st2 := [.ref (sk 15), .ref (sk 5)]) rfl ?_
                          obtain ⟨rb24, rq24, trb24⟩ := Wb4.ref ty37 6 rfl rfl rfl
                          have lnrb24 : 200 ≤ lnb4 rb24 ∧ lnb4 rb24 ≤ 200 := Wb4.len trb24 rfl
                          refine c_getr (k := 6) C ck_7 dX11_head_191 w1_146 (by decide) ty37 rfl rfl (by decide) rfl rq24 ?_
                          refine c_st (st2 := [.ref rb24, .ref (sk 5)]) rfl ?_
                          refine c_iload (j := 0) C dX11_head_194 rfl ?_
                          have ll2 : 200 ≤ lnb4 rb24 ∧ lnb4 rb24 ≤ 200 := Wb4.len trb24 rfl
                          refine c_iald C dX11_head_196 trb24 rfl (by omega) (by omega) (by omega) ?_
                          refine hv3 (show (-2147483648) ≤ ivb4 rb24 k2.toNat ∧ ivb4 rb24 k2.toNat ≤ 2147483647 from Wb4.int trb24 k2.toNat) (Xb4.ty tsk5) (Phi.le Wb4 skb4) (fun ri157 ty42 pl11 => ?_)
                          have ri158 : 0 ≤ ivb4 (sk 5) 2 ∧ ivb4 (sk 5) 2 ≤ 200 := Wb4.int ty42 2
                          refine d_callV (As := [.int (iI (ivb4 rb24 k2.toNat))]) (rest := []) C hM (C_add_5 (a0 := (sk 5)) (x := ivb4 rb24 k2.toNat) Wb4 skb4 ty42 (by omega) ) dX11_head_197 kV_X11_112 rfl ty42 rfl rfl (by decide) ck_2 rfl (Nat.le_of_ble_eq_true rfl) ⟨(Nat.le_of_ble_eq_true rfl), (Nat.le_of_ble_eq_true rfl)⟩ hph pl11 (show 0 + 0 = 0 from rfl) (by decide) (fun rh26 Lh26 clh26 lnh26 ivh26 rvh26 h26 => ?_)
                          obtain ⟨rfl, xl26, fl26, W26, exf26⟩ := h26
                          refine hv13 (Fb4.call Xb4 fl26 rfl) (MRK.call mrb4 Wb4 skb4 xl26 fl26 rfl rfl) (Xb4.ty tsk2) (Xb4.ty tsk3) (Xb4.ty tsk4) (Xb4.ty tsk13) (Xb4.ty tsk14) (Xb4.ty tsk16) (Xb4.ty tsk17) (Xb4.ty tsk22) (Xb4.ty tsk23) (Xb4.trans xl26) (xl26.skl skb4) (fun F21 mr21 ty43 ty44 ty45 ty46 ty47 ty48 ty49 ty50 ty51 X2 sk2 => ?_)
                          refine c_st (st2 := []) rfl ?_
                          refine hv2 (xl26.ty ty42) (show ((ivh26 (sk 5) 2 = ivb4 (sk 5) 2 ∧ ivb4 (sk 5) 2 = 200) ∨ (ivh26 (sk 5) 2 = ivb4 (sk 5) 2 + 1 ∧ ivb4 (sk 5) 2 < 200)) from exf26) (fun ty52 gf26 => ?_)
                          have ri159 : 0 ≤ ivh26 (sk 5) 2 ∧ ivh26 (sk 5) 2 ≤ 200 := W26.int ty52 2
                          refine c_iinc (z := k2) (j := 0) (lv2 := [(5, .int (iI (k2 + 1))), (4, .int (iI f22)), (3, .ref ob2), (2, .int (iI fl)), (0, .ref a0), (1, .int (iI i))]) C dX11_head_200 rfl (by decide) rfl ?_
                          refine c_goto (tgt := 162) C dX11_head_203 (by decide) ?_
                          refine hv11 (xl26.ty ty37) (show ivh26 (sk 15) 7 = ivb4 (sk 15) 7 from fl26.i ty37 rfl 7) (xl26.ty ty43) (show ivh26 (sk 2) 2 = ivb4 (sk 2) 2 from fl26.i ty43 rfl 2) (xl26.ty ty36) (show ivh26 a0 11 = ivb4 a0 11 from fl26.i ty36 rfl 11) (show ivh26 a0 12 = ivb4 a0 12 from fl26.i ty36 rfl 12) (show ivh26 a0 13 = ivb4 a0 13 from fl26.i ty36 rfl 13) (show ivh26 a0 14 = ivb4 a0 14 from fl26.i ty36 rfl 14) (show ivh26 a0 15 = ivb4 a0 15 from fl26.i ty36 rfl 15) (show ivh26 a0 16 = ivb4 a0 16 from fl26.i ty36 rfl 16) (fun ty53 ie227 ty54 ie228 ty55 ie230 ie231 ie233 ie235 ie237 ie239 => ?_)
                          refine hv8 (show 0 ≤ ivh26 (sk 15) 7 ∧ ivh26 (sk 15) 7 ≤ 100000 from W26.int ty53 7) (show 0 ≤ ivh26 (sk 2) 2 ∧ ivh26 (sk 2) 2 ≤ 3000 from W26.int ty54 2) (show 1 ≤ ivh26 a0 11 ∧ ivh26 a0 11 ≤ 100 from W26.int ty55 11) (show 1 ≤ ivh26 a0 12 ∧ ivh26 a0 12 ≤ 50 from W26.int ty55 12) (show (-2147483648) ≤ ivh26 a0 13 ∧ ivh26 a0 13 ≤ 2147483647 from W26.int ty55 13) (show (-2147483648) ≤ ivh26 a0 14 ∧ ivh26 a0 14 ≤ 2147483647 from W26.int ty55 14) (show (-2147483648) ≤ ivh26 a0 15 ∧ ivh26 a0 15 ≤ 2147483647 from W26.int ty55 15) (show (-2147483648) ≤ ivh26 a0 16 ∧ ivh26 a0 16 ≤ 2147483647 from W26.int ty55 16) (fun ri160 ri161 ri162 ri163 ri164 ri165 ri166 ri167 => ?_)
                          refine c_lv (lv2 := [(5, .int (iI (k2 + 1))), (4, .int (iI f22)), (3, .ref ob2), (2, .int (iI fl)), (0, .ref a0), (1, .int (iI i))]) [0, 1, 2, 3, 4, 5] rfl ?_
                          exact ih4  (k2 + 1) _ _ _ _ _ (by omega) X2 W26 F21  (by omega) (by show ivh26 (sk 15) 7 ≤ 200; omega) (ie228.trans htz) (ie230.trans hkp11) (ie231.trans hkp12) (ie233.trans hkp13) (ie235.trans hkp14) (ie237.trans hkp15) (ie239.trans hkp16) (Eq.trans (show rvh26 a0 9 = rvb4 a0 9 from (fl26.r ty36 rfl 9)) (show rvb4 a0 9 = rv a0 9 from hkr9)) (Eq.trans (show rvh26 a0 10 = rvb4 a0 10 from (fl26.r ty36 rfl 10)) (show rvb4 a0 10 = rv a0 10 from hkr10))
                  refine hv29 (show 0 ≤ ivh23 (sk 15) 7 ∧ ivh23 (sk 15) 7 ≤ 100000 from W23.int ty34 7) (show ivh23 (sk 15) 7 = ivh22 (sk 15) 7 from fl23.i ty34 rfl 7) (show 0 ≤ ivh23 (sk 2) 2 ∧ ivh23 (sk 2) 2 ≤ 3000 from W23.int ty32 2) (show ivh23 (sk 2) 2 = ivh22 (sk 2) 2 from fl23.i ty32 rfl 2) (show ivh22 (sk 2) 2 = ivh20 (sk 2) 2 from fl22.i ty32 rfl 2) (show 1 ≤ ivh23 a0 11 ∧ ivh23 a0 11 ≤ 100 from W23.int ty31 11) (show ivh23 a0 11 = ivh22 a0 11 from fl23.i ty31 rfl 11) (show ivh22 a0 11 = ivh20 a0 11 from fl22.i ty31 rfl 11) (show ivh20 a0 11 = ivb3 a0 11 from fl20.i ty31 rfl 11) (show 1 ≤ ivh23 a0 12 ∧ ivh23 a0 12 ≤ 50 from W23.int ty31 12) (show ivh23 a0 12 = ivh22 a0 12 from fl23.i ty31 rfl 12) (show ivh22 a0 12 = ivh20 a0 12 from fl22.i ty31 rfl 12) (show ivh20 a0 12 = ivb3 a0 12 from fl20.i ty31 rfl 12) (show (-2147483648) ≤ ivh23 a0 13 ∧ ivh23 a0 13 ≤ 2147483647 from W23.int ty31 13) (show ivh23 a0 13 = ivh22 a0 13 from fl23.i ty31 rfl 13) (show ivh22 a0 13 = ivh20 a0 13 from fl22.i ty31 rfl 13) (show ivh20 a0 13 = ivb3 a0 13 from fl20.i ty31 rfl 13) (show (-2147483648) ≤ ivh23 a0 14 ∧ ivh23 a0 14 ≤ 2147483647 from W23.int ty31 14) (show ivh23 a0 14 = ivh22 a0 14 from fl23.i ty31 rfl 14) (show ivh22 a0 14 = ivh20 a0 14 from fl22.i ty31 rfl 14) (show ivh20 a0 14 = ivb3 a0 14 from fl20.i ty31 rfl 14) (show (-2147483648) ≤ ivh23 a0 15 ∧ ivh23 a0 15 ≤ 2147483647 from W23.int ty31 15) (show ivh23 a0 15 = ivh22 a0 15 from fl23.i ty31 rfl 15) (show ivh22 a0 15 = ivh20 a0 15 from fl22.i ty31 rfl 15) (show ivh20 a0 15 = ivb3 a0 15 from fl20.i ty31 rfl 15) (show (-2147483648) ≤ ivh23 a0 16 ∧ ivh23 a0 16 ≤ 2147483647 from W23.int ty31 16) (show ivh23 a0 16 = ivh22 a0 16 from fl23.i ty31 rfl 16) (show ivh22 a0 16 = ivh20 a0 16 from fl22.i ty31 rfl 16) (show ivh20 a0 16 = ivb3 a0 16 from fl20.i ty31 rfl 16) (fun ri168 ie241 ri169 ie242 ie243 ri170 ie244 ie245 ie246 ri171 ie248 ie249 ie250 ri172 ie252 ie253 ie254 ri173 ie256 ie257 ie258 ri174 ie260 ie261 ie262 ri175 ie264 ie265 ie266 => ?_)
                  refine c_lv (lv2 := [(5, .int (iI 0)), (4, .int (iI f22)), (3, .ref ob2), (2, .int (iI fl)), (0, .ref a0), (1, .int (iI i))]) [0, 1, 2, 3, 4, 5] rfl ?_
                  exact Lp4 103 0 _ _ _ _ _ (by omega) Xb3 W23 F18  (by omega) (by show ivh23 (sk 15) 7 ≤ 200; omega) (ie242.trans (ie243.trans gf20)) (ie244.trans (ie245.trans (ie246.trans hkp11))) (ie248.trans (ie249.trans (ie250.trans hkp12))) (ie252.trans (ie253.trans (ie254.trans hkp13))) (ie256.trans (ie257.trans (ie258.trans hkp14))) (ie260.trans (ie261.trans (ie262.trans hkp15))) (ie264.trans (ie265.trans (ie266.trans hkp16))) (show rvb3 a0 9 = rv a0 9 from hkr9) (show rvb3 a0 10 = rv a0 10 from hkr10)
                · replace gf22 := (And.intro (gf22.1.resolve_left c10) (And.intro gf22.2.1 trivial))
                  refine c_aload_n (j := 3) (x := a0) C dX11_head_138 rfl ?_
                  refine c_iload (j := 0) C dX11_head_139 rfl ?_
                  refine c_aload_n (j := 3) (x := a0) C dX11_head_141 rfl ?_
                  refine c_getr (k := 6) C ck_12 dX11_head_142 w2_50 (by decide) ty31 rfl rfl (by decide) rfl rq18 ?_
                  refine c_st (st2 := [.ref (sk 15), .int (iI f22), .ref a0]) rfl ?_
                  refine d_callV (As := []) (rest := [.int (iI f22), .ref a0]) C hM (C_placeOfUnknown (a0 := (sk 15)) W22 skb3 ty34  ) dX11_head_145 kV_X11_263 rfl ty34 rfl rfl (by decide) ck_7 rfl (Nat.le_of_ble_eq_true rfl) ⟨(Nat.le_of_ble_eq_true rfl), (Nat.le_of_ble_eq_true rfl)⟩ hph pl8 (show 0 + 0 = 0 from rfl) (by decide) (fun rh27 Lh27 clh27 lnh27 ivh27 rvh27 h27 => ?_)
                  obtain ⟨f27, rfl, rfl, rfl, rfl, rfl, rfl, rgf27, exf27⟩ := h27
                  refine c_st (st2 := [.int (iI f27), .int (iI f22), .ref a0]) rfl ?_
                  refine d_callV (As := [.int (iI f22), .int (iI f27)]) (rest := []) C hM (C_refuseAt (a0 := a0) (x := f22) (y := f27) W22 skb3 ty31 (by omega) (by omega) ) dX11_head_148 kV_X11_266 rfl ty31 rfl rfl (by decide) ck_12 rfl (Nat.le_of_ble_eq_true rfl) ⟨(Nat.le_of_ble_eq_true rfl), (Nat.le_of_ble_eq_true rfl)⟩ hph pl8 (show 0 + 0 = 0 from rfl) (by decide) (fun rh28 Lh28 clh28 lnh28 ivh28 rvh28 h28 => ?_)
                  obtain ⟨f28, rfl, rfl, rfl, rfl, rfl, fl28, W28, rgf28, exf28, kp11f28, kp12f28, kp13f28, kp14f28, kp15f28, kp16f28⟩ := h28
                  refine hv20 (show 1 ≤ ivh22 a0 11 ∧ ivh22 a0 11 ≤ 100 from W22.int ty31 11) (show ivh22 a0 11 = ivh20 a0 11 from fl22.i ty31 rfl 11) (show ivh20 a0 11 = ivb3 a0 11 from fl20.i ty31 rfl 11) (show 1 ≤ ivh22 a0 12 ∧ ivh22 a0 12 ≤ 50 from W22.int ty31 12) (show ivh22 a0 12 = ivh20 a0 12 from fl22.i ty31 rfl 12) (show ivh20 a0 12 = ivb3 a0 12 from fl20.i ty31 rfl 12) (show (-2147483648) ≤ ivh22 a0 13 ∧ ivh22 a0 13 ≤ 2147483647 from W22.int ty31 13) (show ivh22 a0 13 = ivh20 a0 13 from fl22.i ty31 rfl 13) (show ivh20 a0 13 = ivb3 a0 13 from fl20.i ty31 rfl 13) (show (-2147483648) ≤ ivh22 a0 14 ∧ ivh22 a0 14 ≤ 2147483647 from W22.int ty31 14) (show ivh22 a0 14 = ivh20 a0 14 from fl22.i ty31 rfl 14) (show ivh20 a0 14 = ivb3 a0 14 from fl20.i ty31 rfl 14) (show (-2147483648) ≤ ivh22 a0 15 ∧ ivh22 a0 15 ≤ 2147483647 from W22.int ty31 15) (show ivh22 a0 15 = ivh20 a0 15 from fl22.i ty31 rfl 15) (show ivh20 a0 15 = ivb3 a0 15 from fl20.i ty31 rfl 15) (show (-2147483648) ≤ ivh22 a0 16 ∧ ivh22 a0 16 ≤ 2147483647 from W22.int ty31 16) (show ivh22 a0 16 = ivh20 a0 16 from fl22.i ty31 rfl 16) (show ivh20 a0 16 = ivb3 a0 16 from fl20.i ty31 rfl 16) (F17.call Xb3 fl28 rfl) (MRK.call mr17 W22 skb3 XT.refl fl28 rfl rfl) (fun ri176 ie268 ie269 ri177 ie271 ie272 ri178 ie274 ie275 ri179 ie277 ie278 ri180 ie280 ie281 ri181 ie283 ie284 F22 mr22 => ?_)
                  refine c_st (st2 := [.int (iI f28)]) rfl ?_
                  refine hv16 (show ivh28 a0 11 = ivh22 a0 11 from kp11f28) (show ivh28 a0 12 = ivh22 a0 12 from kp12f28) (show ivh28 a0 13 = ivh22 a0 13 from kp13f28) (show ivh28 a0 14 = ivh22 a0 14 from kp14f28) (show ivh28 a0 15 = ivh22 a0 15 from kp15f28) (show ivh28 a0 16 = ivh22 a0 16 from kp16f28) (show f28 = -1 from exf28) (show 0 ≤ ivh28 (sk 2) 2 ∧ ivh28 (sk 2) 2 ≤ 3000 from W28.int ty32 2) (show ivh28 (sk 2) 2 = ivh22 (sk 2) 2 from fl28.i ty32 rfl 2) (show ivh22 (sk 2) 2 = ivh20 (sk 2) 2 from fl22.i ty32 rfl 2) (show 1 ≤ ivh28 a0 11 ∧ ivh28 a0 11 ≤ 100 from W28.int ty31 11) (show 1 ≤ ivh28 a0 12 ∧ ivh28 a0 12 ≤ 50 from W28.int ty31 12) (show (-2147483648) ≤ ivh28 a0 13 ∧ ivh28 a0 13 ≤ 2147483647 from W28.int ty31 13) (show (-2147483648) ≤ ivh28 a0 14 ∧ ivh28 a0 14 ≤ 2147483647 from W28.int ty31 14) (show (-2147483648) ≤ ivh28 a0 15 ∧ ivh28 a0 15 ≤ 2147483647 from W28.int ty31 15) (show (-2147483648) ≤ ivh28 a0 16 ∧ ivh28 a0 16 ≤ 2147483647 from W28.int ty31 16) (fun gk11f28 gk12f28 gk13f28 gk14f28 gk15f28 gk16f28 gf28 ri182 ie286 ie287 ri183 ri184 ri185 ri186 ri187 ri188 => ?_)
                  exact c_iret C dX11_head_151 rfl (by decide) (rom0 hph pl8 (by decide)) ⟨f28, rfl, Xb3, F22, W28, ⟨by omega, by omega⟩, trivial, (gk11f28.trans (ie268.trans (ie269.trans hkp11))), (gk12f28.trans (ie271.trans (ie272.trans hkp12))), (gk13f28.trans (ie274.trans (ie275.trans hkp13))), (gk14f28.trans (ie277.trans (ie278.trans hkp14))), (gk15f28.trans (ie280.trans (ie281.trans hkp15))), (gk16f28.trans (ie283.trans (ie284.trans hkp16))), (ie286.trans (ie287.trans gf20)), (show rvb3 a0 9 = rv a0 9 from hkr9), (show rvb3 a0 10 = rv a0 10 from hkr10)⟩
              · subst oq2
                refine c_lv (lv2 := [(3, .null), (2, .int (iI fl)), (0, .ref a0), (1, .int (iI i))]) [0, 1, 2, 3] rfl ?_
                refine c_st (st2 := []) rfl ?_
                refine c_aload_n (j := 2) (x := a0) C dX11_head_117 rfl ?_
                refine c_iconst C dX11_head_118 ?_
                refine d_callV (As := [.int (iI 3)]) (rest := []) C hM (C_refuse (a0 := a0) (x := 3) W20 skb3 ty31 ⟨by decide, by decide⟩ ) dX11_head_119 kV_X11_102 rfl ty31 rfl rfl (by decide) ck_12 rfl (Nat.le_of_ble_eq_true rfl) ⟨(Nat.le_of_ble_eq_true rfl), (Nat.le_of_ble_eq_true rfl)⟩ hph pl8 (show 0 + 0 = 0 from rfl) (by decide) (fun rh29 Lh29 clh29 lnh29 ivh29 rvh29 h29 => ?_)
                obtain ⟨f29, rfl, rfl, rfl, rfl, rfl, fl29, W29, rgf29, exf29, kp11f29, kp12f29, kp13f29, kp14f29, kp15f29, kp16f29⟩ := h29
                refine hv14 (show 1 ≤ ivh20 a0 11 ∧ ivh20 a0 11 ≤ 100 from W20.int ty31 11) (show ivh20 a0 11 = ivb3 a0 11 from fl20.i ty31 rfl 11) (show 1 ≤ ivh20 a0 12 ∧ ivh20 a0 12 ≤ 50 from W20.int ty31 12) (show ivh20 a0 12 = ivb3 a0 12 from fl20.i ty31 rfl 12) (show (-2147483648) ≤ ivh20 a0 13 ∧ ivh20 a0 13 ≤ 2147483647 from W20.int ty31 13) (show ivh20 a0 13 = ivb3 a0 13 from fl20.i ty31 rfl 13) (show (-2147483648) ≤ ivh20 a0 14 ∧ ivh20 a0 14 ≤ 2147483647 from W20.int ty31 14) (show ivh20 a0 14 = ivb3 a0 14 from fl20.i ty31 rfl 14) (show (-2147483648) ≤ ivh20 a0 15 ∧ ivh20 a0 15 ≤ 2147483647 from W20.int ty31 15) (show ivh20 a0 15 = ivb3 a0 15 from fl20.i ty31 rfl 15) (show (-2147483648) ≤ ivh20 a0 16 ∧ ivh20 a0 16 ≤ 2147483647 from W20.int ty31 16) (show ivh20 a0 16 = ivb3 a0 16 from fl20.i ty31 rfl 16) (F16.call Xb3 fl29 rfl) (MRK.call mr16 W20 skb3 XT.refl fl29 rfl rfl) (fun ri189 ie294 ri190 ie296 ri191 ie298 ri192 ie300 ri193 ie302 ri194 ie304 F23 mr23 => ?_)
                refine c_st (st2 := [.int (iI f29)]) rfl ?_
                refine hv15 (show ivh29 a0 11 = ivh20 a0 11 from kp11f29) (show ivh29 a0 12 = ivh20 a0 12 from kp12f29) (show ivh29 a0 13 = ivh20 a0 13 from kp13f29) (show ivh29 a0 14 = ivh20 a0 14 from kp14f29) (show ivh29 a0 15 = ivh20 a0 15 from kp15f29) (show ivh29 a0 16 = ivh20 a0 16 from kp16f29) (show f29 = -1 from exf29) (show 0 ≤ ivh29 (sk 2) 2 ∧ ivh29 (sk 2) 2 ≤ 3000 from W29.int ty32 2) (show ivh29 (sk 2) 2 = ivh20 (sk 2) 2 from fl29.i ty32 rfl 2) (show 1 ≤ ivh29 a0 11 ∧ ivh29 a0 11 ≤ 100 from W29.int ty31 11) (show 1 ≤ ivh29 a0 12 ∧ ivh29 a0 12 ≤ 50 from W29.int ty31 12) (show (-2147483648) ≤ ivh29 a0 13 ∧ ivh29 a0 13 ≤ 2147483647 from W29.int ty31 13) (show (-2147483648) ≤ ivh29 a0 14 ∧ ivh29 a0 14 ≤ 2147483647 from W29.int ty31 14) (show (-2147483648) ≤ ivh29 a0 15 ∧ ivh29 a0 15 ≤ 2147483647 from W29.int ty31 15) (show (-2147483648) ≤ ivh29 a0 16 ∧ ivh29 a0 16 ≤ 2147483647 from W29.int ty31 16) (fun gk11f29 gk12f29 gk13f29 gk14f29 gk15f29 gk16f29 gf29 ri195 ie306 ri196 ri197 ri198 ri199 ri200 ri201 => ?_)
                exact c_iret C dX11_head_122 rfl (by decide) (rom0 hph pl8 (by decide)) ⟨f29, rfl, Xb3, F23, W29, ⟨by omega, by omega⟩, trivial, (gk11f29.trans (ie294.trans hkp11)), (gk12f29.trans (ie296.trans hkp12)), (gk13f29.trans (ie298.trans hkp13)), (gk14f29.trans (ie300.trans hkp14)), (gk15f29.trans (ie302.trans hkp15)), (gk16f29.trans (ie304.trans hkp16)), (ie306.trans gf20), (show rvb3 a0 9 = rv a0 9 from hkr9), (show rvb3 a0 10 = rv a0 10 from hkr10)⟩
            · refine c_aload_n (j := 2) (x := a0) C dX11_head_64 rfl ?_
              obtain ⟨rb25, rq25, trb25⟩ := Wb3.ref ty31 6 rfl rfl rfl
              have erb25 := Wb3.sk trb25 (by decide) rfl
              subst erb25
              refine c_getr (k := 6) C ck_12 dX11_head_65 w2_50 (by decide) ty31 rfl rfl (by decide) rfl rq25 ?_
              refine c_st (st2 := [.ref (sk 15)]) rfl ?_
              refine c_aload_n (j := 2) (x := a0) C dX11_head_68 rfl ?_
              refine c_getr (k := 0) C ck_12 dX11_head_69 w2_44 (by decide) ty31 rfl rfl (by decide) rfl rq16 ?_
              refine c_st (st2 := [.ref (sk 2), .ref (sk 15)]) rfl ?_
              refine c_iload_n (j := 1) C dX11_head_72 rfl ?_
              have pl12 := Phi.le Wb3 skb3
              refine d_callV (As := [.int (iI k)]) (rest := [.ref (sk 15)]) C hM (C_at_2 (a0 := (sk 2)) (i := k) Wb3 skb3 ty32 (by omega) ) dX11_head_73 kV_X11_224 rfl ty32 rfl rfl (by decide) ck_2 rfl (Nat.le_of_ble_eq_true rfl) ⟨(Nat.le_of_ble_eq_true rfl), (Nat.le_of_ble_eq_true rfl)⟩ hph pl12 (show 0 + 0 = 0 from rfl) (by decide) (fun rh30 Lh30 clh30 lnh30 ivh30 rvh30 h30 => ?_)
              obtain ⟨f30, rfl, rfl, rfl, rfl, rfl, rfl, rgf30, exf30⟩ := h30
              refine c_st (st2 := [.int (iI f30), .ref (sk 15)]) rfl ?_
              have gf30 : ((0 ≤ k ∧ k < ivb3 (sk 2) 2) ∨ f30 = 0) ∧ ∀ ss, CT ivb3 rvb3 (sk 2) ss → 0 ≤ k → k < ivb3 (sk 2) 2 → f30 = ss k.toNat := exf30
              refine c_iload_n (j := 1) C dX11_head_76 rfl ?_
              have ty56 := Xb3.ty tsk15
              refine d_callV (As := [.int (iI f30), .int (iI k)]) (rest := []) C hM (C_put (a0 := (sk 15)) (x := f30) (y := k) Wb3 skb3 ty56 (by omega) (by omega) ) dX11_head_77 kV_X11_273 rfl ty56 rfl rfl (by decide) ck_7 rfl (Nat.le_of_ble_eq_true rfl) ⟨(Nat.le_of_ble_eq_true rfl), (Nat.le_of_ble_eq_true rfl)⟩ hph pl12 (show 0 + 0 = 0 from rfl) (by decide) (fun rh31 Lh31 clh31 lnh31 ivh31 rvh31 h31 => ?_)
              obtain ⟨rfl, rfl, rfl, rfl, rfl, fl31, W31, exf31⟩ := h31
              refine hv2 (Fb3.call Xb3 fl31 rfl) (MRK.call mrb3 Wb3 skb3 XT.refl fl31 rfl rfl) (fun F24 mr24 => ?_)
              refine c_st (st2 := []) rfl ?_
              refine c_iinc (z := k) (j := 1) (lv2 := [(3, .int (iI (k + 1))), (2, .int (iI fl)), (0, .ref a0), (1, .int (iI i))]) C dX11_head_80 rfl (by decide) rfl ?_
              refine c_goto (tgt := 49) C dX11_head_83 (by decide) ?_
              refine hv12 (show 1 ≤ ivh31 a0 11 ∧ ivh31 a0 11 ≤ 100 from W31.int ty31 11) (show ivh31 a0 11 = ivb3 a0 11 from fl31.i ty31 rfl 11) (show 1 ≤ ivh31 a0 12 ∧ ivh31 a0 12 ≤ 50 from W31.int ty31 12) (show ivh31 a0 12 = ivb3 a0 12 from fl31.i ty31 rfl 12) (show (-2147483648) ≤ ivh31 a0 13 ∧ ivh31 a0 13 ≤ 2147483647 from W31.int ty31 13) (show ivh31 a0 13 = ivb3 a0 13 from fl31.i ty31 rfl 13) (show (-2147483648) ≤ ivh31 a0 14 ∧ ivh31 a0 14 ≤ 2147483647 from W31.int ty31 14) (show ivh31 a0 14 = ivb3 a0 14 from fl31.i ty31 rfl 14) (show (-2147483648) ≤ ivh31 a0 15 ∧ ivh31 a0 15 ≤ 2147483647 from W31.int ty31 15) (show ivh31 a0 15 = ivb3 a0 15 from fl31.i ty31 rfl 15) (show (-2147483648) ≤ ivh31 a0 16 ∧ ivh31 a0 16 ≤ 2147483647 from W31.int ty31 16) (show ivh31 a0 16 = ivb3 a0 16 from fl31.i ty31 rfl 16) (fun ri202 ie313 ri203 ie315 ri204 ie317 ri205 ie319 ri206 ie321 ri207 ie323 => ?_)
              refine c_lv (lv2 := [(2, .int (iI fl)), (3, .int (iI (k + 1))), (0, .ref a0), (1, .int (iI i))]) [1, 0, 2, 3] rfl ?_
              exact ih3  fl (k + 1) _ _ _ _ _ (by omega) Xb3 W31 F24  (by omega) (by omega) (ie313.trans hkp11) (ie315.trans hkp12) (ie317.trans hkp13) (ie319.trans hkp14) (ie321.trans hkp15) (ie323.trans hkp16) (show rvb3 a0 9 = rv a0 9 from hkr9) (show rvb3 a0 10 = rv a0 10 from hkr10)
      refine hv12 (show 1 ≤ ivh17 a0 11 ∧ ivh17 a0 11 ≤ 100 from W17.int t_a0 11) (show ivh17 a0 11 = iv a0 11 from fl17.i t_a0 rfl 11) (show 1 ≤ ivh17 a0 12 ∧ ivh17 a0 12 ≤ 50 from W17.int t_a0 12) (show ivh17 a0 12 = iv a0 12 from fl17.i t_a0 rfl 12) (show (-2147483648) ≤ ivh17 a0 13 ∧ ivh17 a0 13 ≤ 2147483647 from W17.int t_a0 13) (show ivh17 a0 13 = iv a0 13 from fl17.i t_a0 rfl 13) (show (-2147483648) ≤ ivh17 a0 14 ∧ ivh17 a0 14 ≤ 2147483647 from W17.int t_a0 14) (show ivh17 a0 14 = iv a0 14 from fl17.i t_a0 rfl 14) (show (-2147483648) ≤ ivh17 a0 15 ∧ ivh17 a0 15 ≤ 2147483647 from W17.int t_a0 15) (show ivh17 a0 15 = iv a0 15 from fl17.i t_a0 rfl 15) (show (-2147483648) ≤ ivh17 a0 16 ∧ ivh17 a0 16 ≤ 2147483647 from W17.int t_a0 16) (show ivh17 a0 16 = iv a0 16 from fl17.i t_a0 rfl 16) (fun ri208 ie325 ri209 ie326 ri210 ie327 ri211 ie328 ri212 ie329 ri213 ie330 => ?_)
      refine c_lv (lv2 := [(2, .int (iI 0)), (3, .int (iI 0)), (0, .ref a0), (1, .int (iI i))]) [1, 0, 2, 3] rfl ?_
      exact Lp3 3003 0 0 _ _ _ _ _ (by omega) hX0 W17 F13  (by omega) (by omega) ie325 ie326 ie327 ie328 ie329 ie330 rfl rfl
    · refine c_iconst C dX11_head_34 ?_
      refine c_goto (tgt := 39) C dX11_head_35 (by decide) ?_
      refine c_istore_n (lv2 := [(2, .int (iI 1)), (0, .ref a0), (1, .int (iI i))]) C dX11_head_39 (by decide) rfl ?_
      refine c_aload_n (j := 1) (x := a0) C dX11_head_40 rfl ?_
      obtain ⟨rb26, rq26, trb26⟩ := hW.ref t_a0 6 rfl rfl rfl
      have erb26 := hW.sk trb26 (by decide) rfl
      subst erb26
      refine c_getr (k := 6) C ck_12 dX11_head_41 w2_50 (by decide) t_a0 rfl rfl (by decide) rfl rq26 ?_
      refine c_st (st2 := [.ref (sk 15)]) rfl ?_
      refine d_callV (As := []) (rest := []) C hM (C_wclear (a0 := (sk 15)) hW hS tsk15  ) dX11_head_44 kV_X11_272 rfl tsk15 rfl rfl (by decide) ck_7 rfl (Nat.le_of_ble_eq_true rfl) ⟨(Nat.le_of_ble_eq_true rfl), (Nat.le_of_ble_eq_true rfl)⟩ hph hph (show 0 + 0 = 0 from rfl) (by decide) (fun rh32 Lh32 clh32 lnh32 ivh32 rvh32 h32 => ?_)
      obtain ⟨rfl, rfl, rfl, rfl, rfl, fl32, W32, exf32⟩ := h32
      refine hv2 (hF0.call hX0 fl32 rfl) (MRK.call hmr hW hS XT.refl fl32 rfl rfl) (fun F25 mr25 => ?_)
      refine c_st (st2 := []) rfl ?_
      refine c_iconst C dX11_head_47 ?_
      refine c_istore_n (lv2 := [(3, .int (iI 0)), (2, .int (iI 1)), (0, .ref a0), (1, .int (iI i))]) C dX11_head_48 (by decide) rfl ?_
      have Lp5 : ∀ (nn : Nat) (fl k : Int) (Lb5 : List Nat) (clb5 lnb5 : Nat → Nat) (ivb5 : Nat → Nat → Int) (rvb5 : Nat → Nat → Option Nat) , 3001 - k < (nn : Int) → XT L cl ln Lb5 clb5 lnb5 → WT (g0 G) sk Lb5 clb5 lnb5 ivb5 rvb5 → fT [1, 2, 5, 35, 15, 50, 51, 52, 53, 54, 55] L cl iv rv ivb5 rvb5 → (fl = 0 ∨ fl = 1) → (0 ≤ k ∧ k ≤ 3000) → (ivb5 a0 11 = iv a0 11) → (ivb5 a0 12 = iv a0 12) → (ivb5 a0 13 = iv a0 13) → (ivb5 a0 14 = iv a0 14) → (ivb5 a0 15 = iv a0 15) → (ivb5 a0 16 = iv a0 16) → (rvb5 a0 9 = rv a0 9) → (rvb5 a0 10 = rv a0 10) → cw p l e 8 ((PHM) + 0 - ((Phi (g0 G) sk) ln rv)) s m args below meth c G A 6 (MQ below (Qu G A (Qp G (Phi (g0 G) sk) ((Phi (g0 G) sk) ln rv) 0 (fun v L2 cl2 ln2 iv2 rv2 => ∃ f : Int, v = some (.int (iI f)) ∧ XT L cl ln L2 cl2 ln2 ∧ fT [1, 2, 5, 35, 15, 50, 51, 52, 53, 54, 55] L cl iv rv iv2 rv2 ∧ WT (g0 G) sk L2 cl2 ln2 iv2 rv2 ∧ (-2147483648 ≤ f ∧ f ≤ 2147483647) ∧ (True) ∧ iv2 a0 11 = iv a0 11 ∧ iv2 a0 12 = iv a0 12 ∧ iv2 a0 13 = iv a0 13 ∧ iv2 a0 14 = iv a0 14 ∧ iv2 a0 15 = iv a0 15 ∧ iv2 a0 16 = iv a0 16 ∧ iv2 (sk 2) 2 = 0 ∧ rv2 a0 9 = rv a0 9 ∧ rv2 a0 10 = rv a0 10))) args s (((PHM) + 0 - ((Phi (g0 G) sk) ln rv)) / 16) ((PHM) + 0 - ((Phi (g0 G) sk) ln rv)) A) (Phi (g0 G) sk) ((Phi (g0 G) sk) ln rv) Lb5 clb5 lnb5 ivb5 rvb5 0 49 [(2, .int (iI fl)), (3, .int (iI k)), (0, .ref a0), (1, .int (iI i))] [] := by
        intro nn
        induction nn with
        | zero =>
          intro  fl k Lb5 clb5 lnb5 ivb5 rvb5 hm Xb5 Wb5 Fb5  hfl hk hkp11 hkp12 hkp13 hkp14 hkp15 hkp16 hkr9 hkr10
          have skb5 := Xb5.skl hS
          exact absurd hm (by omega)
        | succ nn ih5 =>
          intro  fl k Lb5 clb5 lnb5 ivb5 rvb5 hm Xb5 Wb5 Fb5  hfl hk hkp11 hkp12 hkp13 hkp14 hkp15 hkp16 hkr9 hkr10
          refine hv2 (Xb5.skl hS) (MRK.call hmr hW hS Xb5 Fb5 rfl rfl) (fun skb5 mrb5 => ?_)
          refine c_iload_n (j := 0) C dX11_head_49 rfl ?_
          refine c_if_eq (tgt := 86) C (r32_01 hfl) dX11_head_50 (by decide) (fun c13 => ?_) (fun c13 => ?_)
          · clear hfl
            refine c_aload_n (j := 2) (x := a0) C dX11_head_86 rfl ?_
            have ty57 := Xb5.ty t_a0
            obtain ⟨rb27, rq27, trb27⟩ := Wb5.ref ty57 0 rfl rfl rfl
            have erb27 := Wb5.sk trb27 (by decide) rfl
            subst erb27
            refine c_getr (k := 0) C ck_12 dX11_head_87 w2_44 (by decide) ty57 rfl rfl (by decide) rfl rq27 ?_
            refine c_st (st2 := [.ref (sk 2)]) rfl ?_
            refine hv2 (Xb5.ty tsk2) (Phi.le Wb5 skb5) (fun ty58 pl13 => ?_)
            refine d_callV (As := []) (rest := []) C hM (C_clear_2 (a0 := (sk 2)) Wb5 skb5 ty58  ) dX11_head_90 kV_X11_164 rfl ty58 rfl rfl (by decide) ck_2 rfl (Nat.le_of_ble_eq_true rfl) ⟨(Nat.le_of_ble_eq_true rfl), (Nat.le_of_ble_eq_true rfl)⟩ hph pl13 (show 0 + 0 = 0 from rfl) (by decide) (fun rh33 Lh33 clh33 lnh33 ivh33 rvh33 h33 => ?_)
            obtain ⟨rfl, rfl, rfl, rfl, rfl, fl33, W33, exf33⟩ := h33
            refine hv2 (Fb5.call Xb5 fl33 rfl) (MRK.call mrb5 Wb5 skb5 XT.refl fl33 rfl rfl) (fun F26 mr26 => ?_)
            refine c_st (st2 := []) rfl ?_
            refine hv2 (show 0 ≤ ivh33 (sk 2) 2 ∧ ivh33 (sk 2) 2 ≤ 3000 from W33.int ty58 2) (show ivh33 (sk 2) 2 = 0 from exf33) (fun ri214 gf33 => ?_)
            refine c_iload_n (j := 0) C dX11_head_93 rfl ?_
            refine c_if_ne (tgt := 104) C ⟨by omega, by omega⟩ dX11_head_94 (by decide) (fun z => absurd z (by omega)) (fun _ => ?_)
            refine c_aload_n (j := 2) (x := a0) C dX11_head_97 rfl ?_
            refine c_bipush (z := 6) C dX11_head_98 (by decide) ?_
            refine d_callV (As := [.int (iI 6)]) (rest := []) C hM (C_refuse (a0 := a0) (x := 6) W33 skb5 ty57 ⟨by decide, by decide⟩ ) dX11_head_100 kV_X11_102 rfl ty57 rfl rfl (by decide) ck_12 rfl (Nat.le_of_ble_eq_true rfl) ⟨(Nat.le_of_ble_eq_true rfl), (Nat.le_of_ble_eq_true rfl)⟩ hph pl13 (show 0 + 0 = 0 from rfl) (by decide) (fun rh34 Lh34 clh34 lnh34 ivh34 rvh34 h34 => ?_)
            obtain ⟨f34, rfl, rfl, rfl, rfl, rfl, fl34, W34, rgf34, exf34, kp11f34, kp12f34, kp13f34, kp14f34, kp15f34, kp16f34⟩ := h34
            refine hv14 (show 1 ≤ ivh33 a0 11 ∧ ivh33 a0 11 ≤ 100 from W33.int ty57 11) (show ivh33 a0 11 = ivb5 a0 11 from fl33.i ty57 rfl 11) (show 1 ≤ ivh33 a0 12 ∧ ivh33 a0 12 ≤ 50 from W33.int ty57 12) (show ivh33 a0 12 = ivb5 a0 12 from fl33.i ty57 rfl 12) (show (-2147483648) ≤ ivh33 a0 13 ∧ ivh33 a0 13 ≤ 2147483647 from W33.int ty57 13) (show ivh33 a0 13 = ivb5 a0 13 from fl33.i ty57 rfl 13) (show (-2147483648) ≤ ivh33 a0 14 ∧ ivh33 a0 14 ≤ 2147483647 from W33.int ty57 14) (show ivh33 a0 14 = ivb5 a0 14 from fl33.i ty57 rfl 14) (show (-2147483648) ≤ ivh33 a0 15 ∧ ivh33 a0 15 ≤ 2147483647 from W33.int ty57 15) (show ivh33 a0 15 = ivb5 a0 15 from fl33.i ty57 rfl 15) (show (-2147483648) ≤ ivh33 a0 16 ∧ ivh33 a0 16 ≤ 2147483647 from W33.int ty57 16) (show ivh33 a0 16 = ivb5 a0 16 from fl33.i ty57 rfl 16) (F26.call Xb5 fl34 rfl) (MRK.call mr26 W33 skb5 XT.refl fl34 rfl rfl) (fun ri215 ie332 ri216 ie334 ri217 ie336 ri218 ie338 ri219 ie340 ri220 ie342 F27 mr27 => ?_)
            refine c_st (st2 := [.int (iI f34)]) rfl ?_
            refine hv15 (show ivh34 a0 11 = ivh33 a0 11 from kp11f34) (show ivh34 a0 12 = ivh33 a0 12 from kp12f34) (show ivh34 a0 13 = ivh33 a0 13 from kp13f34) (show ivh34 a0 14 = ivh33 a0 14 from kp14f34) (show ivh34 a0 15 = ivh33 a0 15 from kp15f34) (show ivh34 a0 16 = ivh33 a0 16 from kp16f34) (show f34 = -1 from exf34) (show 0 ≤ ivh34 (sk 2) 2 ∧ ivh34 (sk 2) 2 ≤ 3000 from W34.int ty58 2) (show ivh34 (sk 2) 2 = ivh33 (sk 2) 2 from fl34.i ty58 rfl 2) (show 1 ≤ ivh34 a0 11 ∧ ivh34 a0 11 ≤ 100 from W34.int ty57 11) (show 1 ≤ ivh34 a0 12 ∧ ivh34 a0 12 ≤ 50 from W34.int ty57 12) (show (-2147483648) ≤ ivh34 a0 13 ∧ ivh34 a0 13 ≤ 2147483647 from W34.int ty57 13) (show (-2147483648) ≤ ivh34 a0 14 ∧ ivh34 a0 14 ≤ 2147483647 from W34.int ty57 14) (show (-2147483648) ≤ ivh34 a0 15 ∧ ivh34 a0 15 ≤ 2147483647 from W34.int ty57 15) (show (-2147483648) ≤ ivh34 a0 16 ∧ ivh34 a0 16 ≤ 2147483647 from W34.int ty57 16) (fun gk11f34 gk12f34 gk13f34 gk14f34 gk15f34 gk16f34 gf34 ri221 ie344 ri222 ri223 ri224 ri225 ri226 ri227 => ?_)
            exact c_iret C dX11_head_103 rfl (by decide) (rom0 hph pl13 (by decide)) ⟨f34, rfl, Xb5, F27, W34, ⟨by omega, by omega⟩, trivial, (gk11f34.trans (ie332.trans hkp11)), (gk12f34.trans (ie334.trans hkp12)), (gk13f34.trans (ie336.trans hkp13)), (gk14f34.trans (ie338.trans hkp14)), (gk15f34.trans (ie340.trans hkp15)), (gk16f34.trans (ie342.trans hkp16)), (ie344.trans gf33), (show rvb5 a0 9 = rv a0 9 from hkr9), (show rvb5 a0 10 = rv a0 10 from hkr10)⟩
          · replace hfl := (hfl.resolve_left c13)
            refine c_iload_n (j := 1) C dX11_head_53 rfl ?_
            refine c_aload_n (j := 2) (x := a0) C dX11_head_54 rfl ?_
            have ty59 := Xb5.ty t_a0
            obtain ⟨rb28, rq28, trb28⟩ := Wb5.ref ty59 0 rfl rfl rfl
            have erb28 := Wb5.sk trb28 (by decide) rfl
            subst erb28
            refine c_getr (k := 0) C ck_12 dX11_head_55 w2_44 (by decide) ty59 rfl rfl (by decide) rfl rq28 ?_
            refine c_st (st2 := [.ref (sk 2), .int (iI k)]) rfl ?_
            have ty60 := Xb5.ty tsk2
            have ri228 : 0 ≤ ivb5 (sk 2) 2 ∧ ivb5 (sk 2) 2 ≤ 3000 := Wb5.int ty60 2
            refine c_get (k := 2) C ck_2 dX11_head_58 w1_44 (by decide) ty60 rfl rfl (by decide) rfl ?_
            refine c_icmp_ge (tgt := 86) C (r32_c (lo := 0) (hi := 3000) hk.1 hk.2 (by decide) (by decide)) (r32_c (lo := 0) (hi := 3000) ri228.1 ri228.2 (by decide) (by decide)) dX11_head_61 (by decide) (fun c14 => ?_) (fun c14 => ?_)
            · refine c_aload_n (j := 2) (x := a0) C dX11_head_86 rfl ?_
              refine c_getr (k := 0) C ck_12 dX11_head_87 w2_44 (by decide) ty59 rfl rfl (by decide) rfl rq28 ?_
              refine c_st (st2 := [.ref (sk 2)]) rfl ?_
              have pl14 := Phi.le Wb5 skb5
              refine d_callV (As := []) (rest := []) C hM (C_clear_2 (a0 := (sk 2)) Wb5 skb5 ty60  ) dX11_head_90 kV_X11_164 rfl ty60 rfl rfl (by decide) ck_2 rfl (Nat.le_of_ble_eq_true rfl) ⟨(Nat.le_of_ble_eq_true rfl), (Nat.le_of_ble_eq_true rfl)⟩ hph pl14 (show 0 + 0 = 0 from rfl) (by decide) (fun rh35 Lh35 clh35 lnh35 ivh35 rvh35 h35 => ?_)
              obtain ⟨rfl, rfl, rfl, rfl, rfl, fl35, W35, exf35⟩ := h35
              refine hv2 (Fb5.call Xb5 fl35 rfl) (MRK.call mrb5 Wb5 skb5 XT.refl fl35 rfl rfl) (fun F28 mr28 => ?_)
              refine c_st (st2 := []) rfl ?_
              refine hv2 (show 0 ≤ ivh35 (sk 2) 2 ∧ ivh35 (sk 2) 2 ≤ 3000 from W35.int ty60 2) (show ivh35 (sk 2) 2 = 0 from exf35) (fun ri229 gf35 => ?_)
              refine c_iload_n (j := 0) C dX11_head_93 rfl ?_
              refine c_if_ne (tgt := 104) C ⟨by omega, by omega⟩ dX11_head_94 (by decide) (fun _ => ?_) (fun z => absurd z (by omega))
              refine c_aload_n (j := 2) (x := a0) C dX11_head_104 rfl ?_
              obtain ⟨rb29, rq29, trb29⟩ := W35.ref ty59 4 rfl rfl rfl
              have erb29 := W35.sk trb29 (by decide) rfl
              subst erb29
              refine c_getr (k := 4) C ck_12 dX11_head_105 w2_48 (by decide) ty59 rfl rfl (by decide) rfl rq29 ?_
              refine c_st (st2 := [.ref (sk 13)]) rfl ?_
              refine c_iload_n (j := 3) C dX11_head_108 rfl ?_
              have ty61 := Xb5.ty tsk13
              refine d_callV (As := [.int (iI i)]) (rest := []) C hM (C_whole (a0 := (sk 13)) (i := i) W35 skb5 ty61 (by omega) mr28) dX11_head_109 kV_X11_231 rfl ty61 rfl rfl (by decide) ck_11 rfl (Nat.le_of_ble_eq_true rfl) ⟨(Nat.le_of_ble_eq_true rfl), (Nat.le_of_ble_eq_true rfl)⟩ hph pl14 (show 0 + 0 = 0 from rfl) (by decide) (fun rh36 Lh36 clh36 lnh36 ivh36 rvh36 h36 => ?_)
              obtain ⟨f36, rfl, rfl, rfl, rfl, rfl, rfl, rgf36, exf36⟩ := h36
              refine c_st (st2 := [(va_rf f36)]) rfl ?_
              refine c_astorer_n (r := f36) (lv2 := [(3, (va_rf f36)), (2, .int (iI fl)), (0, .ref a0), (1, .int (iI i))]) C dX11_head_112 (by decide) rfl ?_
              refine c_aloadr_n (j := 0) (r := f36) C dX11_head_113 rfl ?_
              refine c_ifnonnull (r := f36) (tgt := 123) C dX11_head_114 (by decide) (fun ob3 oq3 => ?_) (fun oq3 => ?_)
              · subst oq3
                have tob3 := rgf36 ob3 rfl
                refine c_lv (lv2 := [(3, .ref ob3), (2, .int (iI fl)), (0, .ref a0), (1, .int (iI i))]) [0, 1, 2, 3] rfl ?_
                refine c_st (st2 := []) rfl ?_
                refine c_aload_n (j := 2) (x := a0) C dX11_head_123 rfl ?_
                obtain ⟨rb30, rq30, trb30⟩ := W35.ref ty59 6 rfl rfl rfl
                have erb30 := W35.sk trb30 (by decide) rfl
                subst erb30
                refine c_getr (k := 6) C ck_12 dX11_head_124 w2_50 (by decide) ty59 rfl rfl (by decide) rfl rq30 ?_
                refine c_st (st2 := [.ref (sk 15)]) rfl ?_
                refine c_aload_n (j := 0) (x := ob3) C dX11_head_127 rfl ?_
                have ty62 := Xb5.ty tsk15
                refine hv2 (show 0 ≤ ivh35 (sk 15) 4 ∧ ivh35 (sk 15) 4 ≤ 500 from W35.int ty62 4) (show ivh35 (sk 15) 4 = ivb5 (sk 15) 4 from fl35.i ty62 rfl 4) (fun ri230 ie353 => ?_)
                refine d_callV (As := [.ref ob3]) (rest := []) C hM (C_setBy (a0 := (sk 15)) (a1 := ob3) W35 skb5 ty62 tob3  ) dX11_head_128 kV_X11_253 rfl ty62 rfl rfl (by decide) ck_7 rfl (Nat.le_of_ble_eq_true rfl) ⟨(Nat.le_of_ble_eq_true rfl), (Nat.le_of_ble_eq_true rfl)⟩ hph pl14 (show 0 + 0 = 0 from rfl) (by decide) (fun rh37 Lh37 clh37 lnh37 ivh37 rvh37 h37 => ?_)
                obtain ⟨f37, rfl, rfl, rfl, rfl, rfl, fl37, W37, rgf37, exf37⟩ := h37
                refine hv2 (F28.call Xb5 fl37 rfl) (MRK.call mr28 W35 skb5 XT.refl fl37 rfl rfl) (fun F29 mr29 => ?_)
                refine c_st (st2 := [.int (iI f37)]) rfl ?_
                refine hv3 (show 0 ≤ ivh37 (sk 15) 4 ∧ ivh37 (sk 15) 4 ≤ 500 from W37.int ty62 4) (show 0 ≤ ivh37 (sk 15) 7 ∧ ivh37 (sk 15) 7 ≤ 100000 from W37.int ty62 7) (show (f37 = 0 ∨ f37 = 6 ∨ f37 = 7) ∧ ivh37 (sk 15) 4 = ivh35 (sk 15) 4 ∧ (f37 = 0 → ivh37 (sk 15) 7 ≤ 200) from exf37) (fun ri231 ri232 gf37 => ?_)
                refine c_istore (lv2 := [(4, .int (iI f37)), (3, .ref ob3), (2, .int (iI fl)), (0, .ref a0), (1, .int (iI i))]) C dX11_head_131 (by decide) rfl ?_
                refine c_iload (j := 0) C dX11_head_133 rfl ?_
                refine c_if_eq (tgt := 152) C (r32_067 gf37.1) dX11_head_135 (by decide) (fun c15 => ?_) (fun c15 => ?_)
                · replace gf37 := (And.intro c15 (And.intro gf37.2.1 (gf37.2.2 c15)))
                  refine c_aload_n (j := 3) (x := a0) C dX11_head_152 rfl ?_
                  obtain ⟨rb31, rq31, trb31⟩ := W37.ref ty59 3 rfl rfl rfl
                  have erb31 := W37.sk trb31 (by decide) rfl
                  subst erb31
                  refine c_getr (k := 3) C ck_12 dX11_head_153 w2_47 (by decide) ty59 rfl rfl (by decide) rfl rq31 ?_
                  refine c_st (st2 := [.ref (sk 5)]) rfl ?_
                  have ty63 := Xb5.ty tsk5
                  refine d_callV (As := []) (rest := []) C hM (C_clear_5 (a0 := (sk 5)) W37 skb5 ty63  ) dX11_head_156 kV_X11_164 rfl ty63 rfl rfl (by decide) ck_2 rfl (Nat.le_of_ble_eq_true rfl) ⟨(Nat.le_of_ble_eq_true rfl), (Nat.le_of_ble_eq_true rfl)⟩ hph pl14 (show 0 + 0 = 0 from rfl) (by decide) (fun rh38 Lh38 clh38 lnh38 ivh38 rvh38 h38 => ?_)
                  obtain ⟨rfl, rfl, rfl, rfl, rfl, fl38, W38, exf38⟩ := h38
                  refine hv2 (F29.call Xb5 fl38 rfl) (MRK.call mr29 W37 skb5 XT.refl fl38 rfl rfl) (fun F30 mr30 => ?_)
                  refine c_st (st2 := []) rfl ?_
                  refine hv2 (show 0 ≤ ivh38 (sk 5) 2 ∧ ivh38 (sk 5) 2 ≤ 200 from W38.int ty63 2) (show ivh38 (sk 5) 2 = 0 from exf38) (fun ri233 gf38 => ?_)
                  refine c_iconst C dX11_head_159 ?_
                  refine c_istore (lv2 := [(5, .int (iI 0)), (4, .int (iI f37)), (3, .ref ob3), (2, .int (iI fl)), (0, .ref a0), (1, .int (iI i))]) C dX11_head_160 (by decide) rfl ?_
                  have Lp6 : ∀ (nn : Nat) (k2 : Int) (Lb6 : List Nat) (clb6 lnb6 : Nat → Nat) (ivb6 : Nat → Nat → Int) (rvb6 : Nat → Nat → Option Nat) , 101 - k2 < (nn : Int) → XT L cl ln Lb6 clb6 lnb6 → WT (g0 G) sk Lb6 clb6 lnb6 ivb6 rvb6 → fT [1, 2, 5, 35, 15, 50, 51, 52, 53, 54, 55] L cl iv rv ivb6 rvb6 → (0 ≤ k2 ∧ k2 ≤ 100) → (ivb6 (sk 15) 7 ≤ 200) → (ivb6 (sk 2) 2 = 0) → (ivb6 a0 11 = iv a0 11) → (ivb6 a0 12 = iv a0 12) → (ivb6 a0 13 = iv a0 13) → (ivb6 a0 14 = iv a0 14) → (ivb6 a0 15 = iv a0 15) → (ivb6 a0 16 = iv a0 16) → (rvb6 a0 9 = rv a0 9) → (rvb6 a0 10 = rv a0 10) → cw p l e 8 ((PHM) + 0 - ((Phi (g0 G) sk) ln rv)) s m args below meth c G A 6 (MQ below (Qu G A (Qp G (Phi (g0 G) sk) ((Phi (g0 G) sk) ln rv) 0 (fun v L2 cl2 ln2 iv2 rv2 => ∃ f : Int, v = some (.int (iI f)) ∧ XT L cl ln L2 cl2 ln2 ∧ fT [1, 2, 5, 35, 15, 50, 51, 52, 53, 54, 55] L cl iv rv iv2 rv2 ∧ WT (g0 G) sk L2 cl2 ln2 iv2 rv2 ∧ (-2147483648 ≤ f ∧ f ≤ 2147483647) ∧ (True) ∧ iv2 a0 11 = iv a0 11 ∧ iv2 a0 12 = iv a0 12 ∧ iv2 a0 13 = iv a0 13 ∧ iv2 a0 14 = iv a0 14 ∧ iv2 a0 15 = iv a0 15 ∧ iv2 a0 16 = iv a0 16 ∧ iv2 (sk 2) 2 = 0 ∧ rv2 a0 9 = rv a0 9 ∧ rv2 a0 10 = rv a0 10))) args s (((PHM) + 0 - ((Phi (g0 G) sk) ln rv)) / 16) ((PHM) + 0 - ((Phi (g0 G) sk) ln rv)) A) (Phi (g0 G) sk) ((Phi (g0 G) sk) ln rv) Lb6 clb6 lnb6 ivb6 rvb6 0 162 [(5, .int (iI k2)), (4, .int (iI f37)), (3, .ref ob3), (2, .int (iI fl)), (0, .ref a0), (1, .int (iI i))] [] := by
                    intro nn
                    induction nn with
                    | zero =>
                      intro  k2 Lb6 clb6 lnb6 ivb6 rvb6 hm Xb6 Wb6 Fb6  hk2 hco htz hkp11 hkp12 hkp13 hkp14 hkp15 hkp16 hkr9 hkr10
                      have skb6 := Xb6.skl hS
                      exact absurd hm (by omega)
                    | succ nn ih6 =>
                      intro  k2 Lb6 clb6 lnb6 ivb6 rvb6 hm Xb6 Wb6 Fb6  hk2 hco htz hkp11 hkp12 hkp13 hkp14 hkp15 hkp16 hkr9 hkr10
                      refine hv2 (Xb6.skl hS) (MRK.call hmr hW hS Xb6 Fb6 rfl rfl) (fun skb6 mrb6 => ?_)
                      refine c_iload (j := 0) C dX11_head_162 rfl ?_
                      refine c_aload_n (j := 4) (x := a0) C dX11_head_164 rfl ?_
                      have ty64 := Xb6.ty t_a0
                      obtain ⟨rb32, rq32, trb32⟩ := Wb6.ref ty64 6 rfl rfl rfl
                      have erb32 := Wb6.sk trb32 (by decide) rfl
                      subst erb32
                      refine c_getr (k := 6) C ck_12 dX11_head_165 w2_50 (by decide) ty64 rfl rfl (by decide) rfl rq32 ?_
                      refine c_st (st2 := [.ref (sk 15), .int (iI k2)]) rfl ?_
                      have ty65 := Xb6.ty tsk15
                      have ri234 : 0 ≤ ivb6 (sk 15) 7 ∧ ivb6 (sk 15) 7 ≤ 100000 := Wb6.int ty65 7
                      refine c_get (k := 7) C ck_7 dX11_head_168 w1_149 (by decide) ty65 rfl rfl (by decide) rfl ?_
                      refine c_icmp_ge (tgt := 206) C (r32_c (lo := 0) (hi := 100) hk2.1 hk2.2 (by decide) (by decide)) (r32_c (lo := 0) (hi := 100000) ri234.1 ri234.2 (by decide) (by decide)) dX11_head_171 (by decide) (fun c16 => ?_) (fun c16 => ?_)
                      · refine c_aload_n (j := 4) (x := a0) C dX11_head_206 rfl ?_
                        refine c_aload_n (j := 4) (x := a0) C dX11_head_207 rfl ?_
                        obtain ⟨rb33, rq33, trb33⟩ := Wb6.ref ty64 3 rfl rfl rfl
                        have erb33 := Wb6.sk trb33 (by decide) rfl
                        subst erb33
                        refine c_getr (k := 3) C ck_12 dX11_head_208 w2_47 (by decide) ty64 rfl rfl (by decide) rfl rq33 ?_
                        refine c_st (st2 := [.ref (sk 5), .ref a0]) rfl ?_
                        have ty66 := Xb6.ty tsk5
                        have ri235 : 0 ≤ ivb6 (sk 5) 2 ∧ ivb6 (sk 5) 2 ≤ 200 := Wb6.int ty66 2
                        refine c_get (k := 2) C ck_2 dX11_head_211 w1_44 (by decide) ty66 rfl rfl (by decide) rfl ?_
                        have pl15 := Phi.le Wb6 skb6
                        refine d_callV (As := [.int (iI (ivb6 (sk 5) 2))]) (rest := []) C hM (C_done (a0 := a0) (x := ivb6 (sk 5) 2) Wb6 skb6 ty64 (by omega) ) dX11_head_214 kV_X11_109 rfl ty64 rfl rfl (by decide) ck_12 rfl (Nat.le_of_ble_eq_true rfl) ⟨(Nat.le_of_ble_eq_true rfl), (Nat.le_of_ble_eq_true rfl)⟩ hph pl15 (show 0 + 0 = 0 from rfl) (by decide) (fun rh39 Lh39 clh39 lnh39 ivh39 rvh39 h39 => ?_)
                        obtain ⟨f39, rfl, rfl, rfl, rfl, rfl, fl39, W39, rgf39, exf39, kp11f39, kp12f39, kp13f39, kp14f39, kp15f39, kp16f39⟩ := h39
                        refine hv8 (show 1 ≤ ivb6 a0 11 ∧ ivb6 a0 11 ≤ 100 from Wb6.int ty64 11) (show 1 ≤ ivb6 a0 12 ∧ ivb6 a0 12 ≤ 50 from Wb6.int ty64 12) (show (-2147483648) ≤ ivb6 a0 13 ∧ ivb6 a0 13 ≤ 2147483647 from Wb6.int ty64 13) (show (-2147483648) ≤ ivb6 a0 14 ∧ ivb6 a0 14 ≤ 2147483647 from Wb6.int ty64 14) (show (-2147483648) ≤ ivb6 a0 15 ∧ ivb6 a0 15 ≤ 2147483647 from Wb6.int ty64 15) (show (-2147483648) ≤ ivb6 a0 16 ∧ ivb6 a0 16 ≤ 2147483647 from Wb6.int ty64 16) (Fb6.call Xb6 fl39 rfl) (MRK.call mrb6 Wb6 skb6 XT.refl fl39 rfl rfl) (fun ri236 ri237 ri238 ri239 ri240 ri241 F31 mr31 => ?_)
                        refine c_st (st2 := [.int (iI f39)]) rfl ?_
                        refine hv14 (show ivh39 a0 11 = ivb6 a0 11 from kp11f39) (show ivh39 a0 12 = ivb6 a0 12 from kp12f39) (show ivh39 a0 13 = ivb6 a0 13 from kp13f39) (show ivh39 a0 14 = ivb6 a0 14 from kp14f39) (show ivh39 a0 15 = ivb6 a0 15 from kp15f39) (show ivh39 a0 16 = ivb6 a0 16 from kp16f39) (show f39 = (ivb6 (sk 5) 2) from exf39) (Xb6.ty tsk2) (show 1 ≤ ivh39 a0 11 ∧ ivh39 a0 11 ≤ 100 from W39.int ty64 11) (show 1 ≤ ivh39 a0 12 ∧ ivh39 a0 12 ≤ 50 from W39.int ty64 12) (show (-2147483648) ≤ ivh39 a0 13 ∧ ivh39 a0 13 ≤ 2147483647 from W39.int ty64 13) (show (-2147483648) ≤ ivh39 a0 14 ∧ ivh39 a0 14 ≤ 2147483647 from W39.int ty64 14) (show (-2147483648) ≤ ivh39 a0 15 ∧ ivh39 a0 15 ≤ 2147483647 from W39.int ty64 15) (show (-2147483648) ≤ ivh39 a0 16 ∧ ivh39 a0 16 ≤ 2147483647 from W39.int ty64 16) (fun gk11f39 gk12f39 gk13f39 gk14f39 gk15f39 gk16f39 gf39 ty67 ri243 ri244 ri245 ri246 ri247 ri248 => ?_)
                        refine hv2 (show 0 ≤ ivh39 (sk 2) 2 ∧ ivh39 (sk 2) 2 ≤ 3000 from W39.int ty67 2) (show ivh39 (sk 2) 2 = ivb6 (sk 2) 2 from fl39.i ty67 rfl 2) (fun ri242 ie366 => ?_)
                        exact c_iret C dX11_head_217 rfl (by decide) (rom0 hph pl15 (by decide)) ⟨f39, rfl, Xb6, F31, W39, ⟨by omega, by omega⟩, trivial, (gk11f39.trans hkp11), (gk12f39.trans hkp12), (gk13f39.trans hkp13), (gk14f39.trans hkp14), (gk15f39.trans hkp15), (gk16f39.trans hkp16), (ie366.trans htz), (show rvb6 a0 9 = rv a0 9 from hkr9), (show rvb6 a0 10 = rv a0 10 from hkr10)⟩
                      · refine c_iload (j := 0) C dX11_head_174 rfl ?_
                        refine c_aload_n (j := 4) (x := a0) C dX11_head_176 rfl ?_
                        have ri249 : 1 ≤ ivb6 a0 11 ∧ ivb6 a0 11 ≤ 100 := Wb6.int ty64 11
                        refine c_get (k := 11) C ck_12 dX11_head_177 w2_55 (by decide) ty64 rfl rfl (by decide) rfl ?_
                        refine c_icmp_ge (tgt := 206) C (r32_c (lo := 0) (hi := 100) hk2.1 hk2.2 (by decide) (by decide)) (r32_c (lo := 1) (hi := 100) ri249.1 ri249.2 (by decide) (by decide)) dX11_head_180 (by decide) (fun c17 => ?_) (fun c17 => ?_)
                        · refine c_aload_n (j := 4) (x := a0) C dX11_head_206 rfl ?_
                          refine c_aload_n (j := 4) (x := a0) C dX11_head_207 rfl ?_
                          obtain ⟨rb34, rq34, trb34⟩ := Wb6.ref ty64 3 rfl rfl rfl
                          have erb34 := Wb6.sk trb34 (by decide) rfl
                          subst erb34
                          refine c_getr (k := 3) C ck_12 dX11_head_208 w2_47 (by decide) ty64 rfl rfl (by decide) rfl rq34 ?_
                          refine c_st (st2 := [.ref (sk 5), .ref a0]) rfl ?_
                          have ty68 := Xb6.ty tsk5
                          have ri250 : 0 ≤ ivb6 (sk 5) 2 ∧ ivb6 (sk 5) 2 ≤ 200 := Wb6.int ty68 2
                          refine c_get (k := 2) C ck_2 dX11_head_211 w1_44 (by decide) ty68 rfl rfl (by decide) rfl ?_
                          have pl16 := Phi.le Wb6 skb6
                          refine d_callV (As := [.int (iI (ivb6 (sk 5) 2))]) (rest := []) C hM (C_done (a0 := a0) (x := ivb6 (sk 5) 2) Wb6 skb6 ty64 (by omega) ) dX11_head_214 kV_X11_109 rfl ty64 rfl rfl (by decide) ck_12 rfl (Nat.le_of_ble_eq_true rfl) ⟨(Nat.le_of_ble_eq_true rfl), (Nat.le_of_ble_eq_true rfl)⟩ hph pl16 (show 0 + 0 = 0 from rfl) (by decide) (fun rh40 Lh40 clh40 lnh40 ivh40 rvh40 h40 => ?_)
                          obtain ⟨f40, rfl, rfl, rfl, rfl, rfl, fl40, W40, rgf40, exf40, kp11f40, kp12f40, kp13f40, kp14f40, kp15f40, kp16f40⟩ := h40
                          refine hv7 (show 1 ≤ ivb6 a0 12 ∧ ivb6 a0 12 ≤ 50 from Wb6.int ty64 12) (show (-2147483648) ≤ ivb6 a0 13 ∧ ivb6 a0 13 ≤ 2147483647 from Wb6.int ty64 13) (show (-2147483648) ≤ ivb6 a0 14 ∧ ivb6 a0 14 ≤ 2147483647 from Wb6.int ty64 14) (show (-2147483648) ≤ ivb6 a0 15 ∧ ivb6 a0 15 ≤ 2147483647 from Wb6.int ty64 15) (show (-2147483648) ≤ ivb6 a0 16 ∧ ivb6 a0 16 ≤ 2147483647 from Wb6.int ty64 16) (Fb6.call Xb6 fl40 rfl) (MRK.call mrb6 Wb6 skb6 XT.refl fl40 rfl rfl) (fun ri251 ri252 ri253 ri254 ri255 F32 mr32 => ?_)
                          refine c_st (st2 := [.int (iI f40)]) rfl ?_
                          refine hv14 (show ivh40 a0 11 = ivb6 a0 11 from kp11f40) (show ivh40 a0 12 = ivb6 a0 12 from kp12f40) (show ivh40 a0 13 = ivb6 a0 13 from kp13f40) (show ivh40 a0 14 = ivb6 a0 14 from kp14f40) (show ivh40 a0 15 = ivb6 a0 15 from kp15f40) (show ivh40 a0 16 = ivb6 a0 16 from kp16f40) (show f40 = (ivb6 (sk 5) 2) from exf40) (Xb6.ty tsk2) (show 1 ≤ ivh40 a0 11 ∧ ivh40 a0 11 ≤ 100 from W40.int ty64 11) (show 1 ≤ ivh40 a0 12 ∧ ivh40 a0 12 ≤ 50 from W40.int ty64 12) (show (-2147483648) ≤ ivh40 a0 13 ∧ ivh40 a0 13 ≤ 2147483647 from W40.int ty64 13) (show (-2147483648) ≤ ivh40 a0 14 ∧ ivh40 a0 14 ≤ 2147483647 from W40.int ty64 14) (show (-2147483648) ≤ ivh40 a0 15 ∧ ivh40 a0 15 ≤ 2147483647 from W40.int ty64 15) (show (-2147483648) ≤ ivh40 a0 16 ∧ ivh40 a0 16 ≤ 2147483647 from W40.int ty64 16) (fun gk11f40 gk12f40 gk13f40 gk14f40 gk15f40 gk16f40 gf40 ty69 ri257 ri258 ri259 ri260 ri261 ri262 => ?_)
                          refine hv2 (show 0 ≤ ivh40 (sk 2) 2 ∧ ivh40 (sk 2) 2 ≤ 3000 from W40.int ty69 2) (show ivh40 (sk 2) 2 = ivb6 (sk 2) 2 from fl40.i ty69 rfl 2) (fun ri256 ie381 => ?_)
                          exact c_iret C dX11_head_217 rfl (by decide) (rom0 hph pl16 (by decide)) ⟨f40, rfl, Xb6, F32, W40, ⟨by omega, by omega⟩, trivial, (gk11f40.trans hkp11), (gk12f40.trans hkp12), (gk13f40.trans hkp13), (gk14f40.trans hkp14), (gk15f40.trans hkp15), (gk16f40.trans hkp16), (ie381.trans htz), (show rvb6 a0 9 = rv a0 9 from hkr9), (show rvb6 a0 10 = rv a0 10 from hkr10)⟩
                        · refine c_aload_n (j := 4) (x := a0) C dX11_head_183 rfl ?_
                          obtain ⟨rb35, rq35, trb35⟩ := Wb6.ref ty64 3 rfl rfl rfl
                          have erb35 := Wb6.sk trb35 (by decide) rfl
                          subst erb35
                          refine c_getr (k := 3) C ck_12 dX11_head_184 w2_47 (by decide) ty64 rfl rfl (by decide) rfl rq35 ?_
                          refine c_st (st2 := [.ref (sk 5)]) rfl ?_
                          refine c_aload_n (j := 4) (x := a0) C dX11_head_187 rfl ?_
                          refine c_getr (k := 6) C ck_12 dX11_head_188 w2_50 (by decide) ty64 rfl rfl (by decide) rfl rq32 ?_
                          refine c_st (st2 := [.ref (sk 15), .ref (sk 5)]) rfl ?_
                          obtain ⟨rb36, rq36, trb36⟩ := Wb6.ref ty65 6 rfl rfl rfl
                          have lnrb36 : 200 ≤ lnb6 rb36 ∧ lnb6 rb36 ≤ 200 := Wb6.len trb36 rfl
                          refine c_getr (k := 6) C ck_7 dX11_head_191 w1_146 (by decide) ty65 rfl rfl (by decide) rfl rq36 ?_
                          refine c_st (st2 := [.ref rb36, .ref (sk 5)]) rfl ?_
                          refine c_iload (j := 0) C dX11_head_194 rfl ?_
                          have ll3 : 200 ≤ lnb6 rb36 ∧ lnb6 rb36 ≤ 200 := Wb6.len trb36 rfl
                          refine c_iald C dX11_head_196 trb36 rfl (by omega) (by omega) (by omega) ?_
                          refine hv3 (show (-2147483648) ≤ ivb6 rb36 k2.toNat ∧ ivb6 rb36 k2.toNat ≤ 2147483647 from Wb6.int trb36 k2.toNat) (Xb6.ty tsk5) (Phi.le Wb6 skb6) (fun ri263 ty70 pl17 => ?_)
                          have ri264 : 0 ≤ ivb6 (sk 5) 2 ∧ ivb6 (sk 5) 2 ≤ 200 := Wb6.int ty70 2
                          refine d_callV (As := [.int (iI (ivb6 rb36 k2.toNat))]) (rest := []) C hM (C_add_5 (a0 := (sk 5)) (x := ivb6 rb36 k2.toNat) Wb6 skb6 ty70 (by omega) ) dX11_head_197 kV_X11_112 rfl ty70 rfl rfl (by decide) ck_2 rfl (Nat.le_of_ble_eq_true rfl) ⟨(Nat.le_of_ble_eq_true rfl), (Nat.le_of_ble_eq_true rfl)⟩ hph pl17 (show 0 + 0 = 0 from rfl) (by decide) (fun rh41 Lh41 clh41 lnh41 ivh41 rvh41 h41 => ?_)
                          obtain ⟨rfl, xl41, fl41, W41, exf41⟩ := h41
                          refine hv13 (Fb6.call Xb6 fl41 rfl) (MRK.call mrb6 Wb6 skb6 xl41 fl41 rfl rfl) (Xb6.ty tsk2) (Xb6.ty tsk3) (Xb6.ty tsk4) (Xb6.ty tsk13) (Xb6.ty tsk14) (Xb6.ty tsk16) (Xb6.ty tsk17) (Xb6.ty tsk22) (Xb6.ty tsk23) (Xb6.trans xl41) (xl41.skl skb6) (fun F33 mr33 ty71 ty72 ty73 ty74 ty75 ty76 ty77 ty78 ty79 X3 sk3 => ?_)
                          refine c_st (st2 := []) rfl ?_
                          refine hv2 (xl41.ty ty70) (show ((ivh41 (sk 5) 2 = ivb6 (sk 5) 2 ∧ ivb6 (sk 5) 2 = 200) ∨ (ivh41 (sk 5) 2 = ivb6 (sk 5) 2 + 1 ∧ ivb6 (sk 5) 2 < 200)) from exf41) (fun ty80 gf41 => ?_)
                          have ri265 : 0 ≤ ivh41 (sk 5) 2 ∧ ivh41 (sk 5) 2 ≤ 200 := W41.int ty80 2
                          refine c_iinc (z := k2) (j := 0) (lv2 := [(5, .int (iI (k2 + 1))), (4, .int (iI f37)), (3, .ref ob3), (2, .int (iI fl)), (0, .ref a0), (1, .int (iI i))]) C dX11_head_200 rfl (by decide) rfl ?_
                          refine c_goto (tgt := 162) C dX11_head_203 (by decide) ?_
                          refine hv11 (xl41.ty ty65) (show ivh41 (sk 15) 7 = ivb6 (sk 15) 7 from fl41.i ty65 rfl 7) (xl41.ty ty71) (show ivh41 (sk 2) 2 = ivb6 (sk 2) 2 from fl41.i ty71 rfl 2) (xl41.ty ty64) (show ivh41 a0 11 = ivb6 a0 11 from fl41.i ty64 rfl 11) (show ivh41 a0 12 = ivb6 a0 12 from fl41.i ty64 rfl 12) (show ivh41 a0 13 = ivb6 a0 13 from fl41.i ty64 rfl 13) (show ivh41 a0 14 = ivb6 a0 14 from fl41.i ty64 rfl 14) (show ivh41 a0 15 = ivb6 a0 15 from fl41.i ty64 rfl 15) (show ivh41 a0 16 = ivb6 a0 16 from fl41.i ty64 rfl 16) (fun ty81 ie392 ty82 ie393 ty83 ie395 ie396 ie398 ie400 ie402 ie404 => ?_)
                          refine hv8 (show 0 ≤ ivh41 (sk 15) 7 ∧ ivh41 (sk 15) 7 ≤ 100000 from W41.int ty81 7) (show 0 ≤ ivh41 (sk 2) 2 ∧ ivh41 (sk 2) 2 ≤ 3000 from W41.int ty82 2) (show 1 ≤ ivh41 a0 11 ∧ ivh41 a0 11 ≤ 100 from W41.int ty83 11) (show 1 ≤ ivh41 a0 12 ∧ ivh41 a0 12 ≤ 50 from W41.int ty83 12) (show (-2147483648) ≤ ivh41 a0 13 ∧ ivh41 a0 13 ≤ 2147483647 from W41.int ty83 13) (show (-2147483648) ≤ ivh41 a0 14 ∧ ivh41 a0 14 ≤ 2147483647 from W41.int ty83 14) (show (-2147483648) ≤ ivh41 a0 15 ∧ ivh41 a0 15 ≤ 2147483647 from W41.int ty83 15) (show (-2147483648) ≤ ivh41 a0 16 ∧ ivh41 a0 16 ≤ 2147483647 from W41.int ty83 16) (fun ri266 ri267 ri268 ri269 ri270 ri271 ri272 ri273 => ?_)
                          refine c_lv (lv2 := [(5, .int (iI (k2 + 1))), (4, .int (iI f37)), (3, .ref ob3), (2, .int (iI fl)), (0, .ref a0), (1, .int (iI i))]) [0, 1, 2, 3, 4, 5] rfl ?_
                          exact ih6  (k2 + 1) _ _ _ _ _ (by omega) X3 W41 F33  (by omega) (by show ivh41 (sk 15) 7 ≤ 200; omega) (ie393.trans htz) (ie395.trans hkp11) (ie396.trans hkp12) (ie398.trans hkp13) (ie400.trans hkp14) (ie402.trans hkp15) (ie404.trans hkp16) (Eq.trans (show rvh41 a0 9 = rvb6 a0 9 from (fl41.r ty64 rfl 9)) (show rvb6 a0 9 = rv a0 9 from hkr9)) (Eq.trans (show rvh41 a0 10 = rvb6 a0 10 from (fl41.r ty64 rfl 10)) (show rvb6 a0 10 = rv a0 10 from hkr10))
                  refine hv29 (show 0 ≤ ivh38 (sk 15) 7 ∧ ivh38 (sk 15) 7 ≤ 100000 from W38.int ty62 7) (show ivh38 (sk 15) 7 = ivh37 (sk 15) 7 from fl38.i ty62 rfl 7) (show 0 ≤ ivh38 (sk 2) 2 ∧ ivh38 (sk 2) 2 ≤ 3000 from W38.int ty60 2) (show ivh38 (sk 2) 2 = ivh37 (sk 2) 2 from fl38.i ty60 rfl 2) (show ivh37 (sk 2) 2 = ivh35 (sk 2) 2 from fl37.i ty60 rfl 2) (show 1 ≤ ivh38 a0 11 ∧ ivh38 a0 11 ≤ 100 from W38.int ty59 11) (show ivh38 a0 11 = ivh37 a0 11 from fl38.i ty59 rfl 11) (show ivh37 a0 11 = ivh35 a0 11 from fl37.i ty59 rfl 11) (show ivh35 a0 11 = ivb5 a0 11 from fl35.i ty59 rfl 11) (show 1 ≤ ivh38 a0 12 ∧ ivh38 a0 12 ≤ 50 from W38.int ty59 12) (show ivh38 a0 12 = ivh37 a0 12 from fl38.i ty59 rfl 12) (show ivh37 a0 12 = ivh35 a0 12 from fl37.i ty59 rfl 12) (show ivh35 a0 12 = ivb5 a0 12 from fl35.i ty59 rfl 12) (show (-2147483648) ≤ ivh38 a0 13 ∧ ivh38 a0 13 ≤ 2147483647 from W38.int ty59 13) (show ivh38 a0 13 = ivh37 a0 13 from fl38.i ty59 rfl 13) (show ivh37 a0 13 = ivh35 a0 13 from fl37.i ty59 rfl 13) (show ivh35 a0 13 = ivb5 a0 13 from fl35.i ty59 rfl 13) (show (-2147483648) ≤ ivh38 a0 14 ∧ ivh38 a0 14 ≤ 2147483647 from W38.int ty59 14) (show ivh38 a0 14 = ivh37 a0 14 from fl38.i ty59 rfl 14) (show ivh37 a0 14 = ivh35 a0 14 from fl37.i ty59 rfl 14) (show ivh35 a0 14 = ivb5 a0 14 from fl35.i ty59 rfl 14) (show (-2147483648) ≤ ivh38 a0 15 ∧ ivh38 a0 15 ≤ 2147483647 from W38.int ty59 15) (show ivh38 a0 15 = ivh37 a0 15 from fl38.i ty59 rfl 15) (show ivh37 a0 15 = ivh35 a0 15 from fl37.i ty59 rfl 15) (show ivh35 a0 15 = ivb5 a0 15 from fl35.i ty59 rfl 15) (show (-2147483648) ≤ ivh38 a0 16 ∧ ivh38 a0 16 ≤ 2147483647 from W38.int ty59 16) (show ivh38 a0 16 = ivh37 a0 16 from fl38.i ty59 rfl 16) (show ivh37 a0 16 = ivh35 a0 16 from fl37.i ty59 rfl 16) (show ivh35 a0 16 = ivb5 a0 16 from fl35.i ty59 rfl 16) (fun ri274 ie406 ri275 ie407 ie408 ri276 ie409 ie410 ie411 ri277 ie413 ie414 ie415 ri278 ie417 ie418 ie419 ri279 ie421 ie422 ie423 ri280 ie425 ie426 ie427 ri281 ie429 ie430 ie431 => ?_)
                  refine c_lv (lv2 := [(5, .int (iI 0)), (4, .int (iI f37)), (3, .ref ob3), (2, .int (iI fl)), (0, .ref a0), (1, .int (iI i))]) [0, 1, 2, 3, 4, 5] rfl ?_
                  exact Lp6 103 0 _ _ _ _ _ (by omega) Xb5 W38 F30  (by omega) (by show ivh38 (sk 15) 7 ≤ 200; omega) (ie407.trans (ie408.trans gf35)) (ie409.trans (ie410.trans (ie411.trans hkp11))) (ie413.trans (ie414.trans (ie415.trans hkp12))) (ie417.trans (ie418.trans (ie419.trans hkp13))) (ie421.trans (ie422.trans (ie423.trans hkp14))) (ie425.trans (ie426.trans (ie427.trans hkp15))) (ie429.trans (ie430.trans (ie431.trans hkp16))) (show rvb5 a0 9 = rv a0 9 from hkr9) (show rvb5 a0 10 = rv a0 10 from hkr10)
                · replace gf37 := (And.intro (gf37.1.resolve_left c15) (And.intro gf37.2.1 trivial))
                  refine c_aload_n (j := 3) (x := a0) C dX11_head_138 rfl ?_
                  refine c_iload (j := 0) C dX11_head_139 rfl ?_
                  refine c_aload_n (j := 3) (x := a0) C dX11_head_141 rfl ?_
                  refine c_getr (k := 6) C ck_12 dX11_head_142 w2_50 (by decide) ty59 rfl rfl (by decide) rfl rq30 ?_
                  refine c_st (st2 := [.ref (sk 15), .int (iI f37), .ref a0]) rfl ?_
                  refine d_callV (As := []) (rest := [.int (iI f37), .ref a0]) C hM (C_placeOfUnknown (a0 := (sk 15)) W37 skb5 ty62  ) dX11_head_145 kV_X11_263 rfl ty62 rfl rfl (by decide) ck_7 rfl (Nat.le_of_ble_eq_true rfl) ⟨(Nat.le_of_ble_eq_true rfl), (Nat.le_of_ble_eq_true rfl)⟩ hph pl14 (show 0 + 0 = 0 from rfl) (by decide) (fun rh42 Lh42 clh42 lnh42 ivh42 rvh42 h42 => ?_)
                  obtain ⟨f42, rfl, rfl, rfl, rfl, rfl, rfl, rgf42, exf42⟩ := h42
                  refine c_st (st2 := [.int (iI f42), .int (iI f37), .ref a0]) rfl ?_
                  refine d_callV (As := [.int (iI f37), .int (iI f42)]) (rest := []) C hM (C_refuseAt (a0 := a0) (x := f37) (y := f42) W37 skb5 ty59 (by omega) (by omega) ) dX11_head_148 kV_X11_266 rfl ty59 rfl rfl (by decide) ck_12 rfl (Nat.le_of_ble_eq_true rfl) ⟨(Nat.le_of_ble_eq_true rfl), (Nat.le_of_ble_eq_true rfl)⟩ hph pl14 (show 0 + 0 = 0 from rfl) (by decide) (fun rh43 Lh43 clh43 lnh43 ivh43 rvh43 h43 => ?_)
                  obtain ⟨f43, rfl, rfl, rfl, rfl, rfl, fl43, W43, rgf43, exf43, kp11f43, kp12f43, kp13f43, kp14f43, kp15f43, kp16f43⟩ := h43
                  refine hv20 (show 1 ≤ ivh37 a0 11 ∧ ivh37 a0 11 ≤ 100 from W37.int ty59 11) (show ivh37 a0 11 = ivh35 a0 11 from fl37.i ty59 rfl 11) (show ivh35 a0 11 = ivb5 a0 11 from fl35.i ty59 rfl 11) (show 1 ≤ ivh37 a0 12 ∧ ivh37 a0 12 ≤ 50 from W37.int ty59 12) (show ivh37 a0 12 = ivh35 a0 12 from fl37.i ty59 rfl 12) (show ivh35 a0 12 = ivb5 a0 12 from fl35.i ty59 rfl 12) (show (-2147483648) ≤ ivh37 a0 13 ∧ ivh37 a0 13 ≤ 2147483647 from W37.int ty59 13) (show ivh37 a0 13 = ivh35 a0 13 from fl37.i ty59 rfl 13) (show ivh35 a0 13 = ivb5 a0 13 from fl35.i ty59 rfl 13) (show (-2147483648) ≤ ivh37 a0 14 ∧ ivh37 a0 14 ≤ 2147483647 from W37.int ty59 14) (show ivh37 a0 14 = ivh35 a0 14 from fl37.i ty59 rfl 14) (show ivh35 a0 14 = ivb5 a0 14 from fl35.i ty59 rfl 14) (show (-2147483648) ≤ ivh37 a0 15 ∧ ivh37 a0 15 ≤ 2147483647 from W37.int ty59 15) (show ivh37 a0 15 = ivh35 a0 15 from fl37.i ty59 rfl 15) (show ivh35 a0 15 = ivb5 a0 15 from fl35.i ty59 rfl 15) (show (-2147483648) ≤ ivh37 a0 16 ∧ ivh37 a0 16 ≤ 2147483647 from W37.int ty59 16) (show ivh37 a0 16 = ivh35 a0 16 from fl37.i ty59 rfl 16) (show ivh35 a0 16 = ivb5 a0 16 from fl35.i ty59 rfl 16) (F29.call Xb5 fl43 rfl) (MRK.call mr29 W37 skb5 XT.refl fl43 rfl rfl) (fun ri282 ie433 ie434 ri283 ie436 ie437 ri284 ie439 ie440 ri285 ie442 ie443 ri286 ie445 ie446 ri287 ie448 ie449 F34 mr34 => ?_)
                  refine c_st (st2 := [.int (iI f43)]) rfl ?_
                  refine hv16 (show ivh43 a0 11 = ivh37 a0 11 from kp11f43) (show ivh43 a0 12 = ivh37 a0 12 from kp12f43) (show ivh43 a0 13 = ivh37 a0 13 from kp13f43) (show ivh43 a0 14 = ivh37 a0 14 from kp14f43) (show ivh43 a0 15 = ivh37 a0 15 from kp15f43) (show ivh43 a0 16 = ivh37 a0 16 from kp16f43) (show f43 = -1 from exf43) (show 0 ≤ ivh43 (sk 2) 2 ∧ ivh43 (sk 2) 2 ≤ 3000 from W43.int ty60 2) (show ivh43 (sk 2) 2 = ivh37 (sk 2) 2 from fl43.i ty60 rfl 2) (show ivh37 (sk 2) 2 = ivh35 (sk 2) 2 from fl37.i ty60 rfl 2) (show 1 ≤ ivh43 a0 11 ∧ ivh43 a0 11 ≤ 100 from W43.int ty59 11) (show 1 ≤ ivh43 a0 12 ∧ ivh43 a0 12 ≤ 50 from W43.int ty59 12) (show (-2147483648) ≤ ivh43 a0 13 ∧ ivh43 a0 13 ≤ 2147483647 from W43.int ty59 13) (show (-2147483648) ≤ ivh43 a0 14 ∧ ivh43 a0 14 ≤ 2147483647 from W43.int ty59 14) (show (-2147483648) ≤ ivh43 a0 15 ∧ ivh43 a0 15 ≤ 2147483647 from W43.int ty59 15) (show (-2147483648) ≤ ivh43 a0 16 ∧ ivh43 a0 16 ≤ 2147483647 from W43.int ty59 16) (fun gk11f43 gk12f43 gk13f43 gk14f43 gk15f43 gk16f43 gf43 ri288 ie451 ie452 ri289 ri290 ri291 ri292 ri293 ri294 => ?_)
                  exact c_iret C dX11_head_151 rfl (by decide) (rom0 hph pl14 (by decide)) ⟨f43, rfl, Xb5, F34, W43, ⟨by omega, by omega⟩, trivial, (gk11f43.trans (ie433.trans (ie434.trans hkp11))), (gk12f43.trans (ie436.trans (ie437.trans hkp12))), (gk13f43.trans (ie439.trans (ie440.trans hkp13))), (gk14f43.trans (ie442.trans (ie443.trans hkp14))), (gk15f43.trans (ie445.trans (ie446.trans hkp15))), (gk16f43.trans (ie448.trans (ie449.trans hkp16))), (ie451.trans (ie452.trans gf35)), (show rvb5 a0 9 = rv a0 9 from hkr9), (show rvb5 a0 10 = rv a0 10 from hkr10)⟩
              · subst oq3
                refine c_lv (lv2 := [(3, .null), (2, .int (iI fl)), (0, .ref a0), (1, .int (iI i))]) [0, 1, 2, 3] rfl ?_
                refine c_st (st2 := []) rfl ?_
                refine c_aload_n (j := 2) (x := a0) C dX11_head_117 rfl ?_
                refine c_iconst C dX11_head_118 ?_
                refine d_callV (As := [.int (iI 3)]) (rest := []) C hM (C_refuse (a0 := a0) (x := 3) W35 skb5 ty59 ⟨by decide, by decide⟩ ) dX11_head_119 kV_X11_102 rfl ty59 rfl rfl (by decide) ck_12 rfl (Nat.le_of_ble_eq_true rfl) ⟨(Nat.le_of_ble_eq_true rfl), (Nat.le_of_ble_eq_true rfl)⟩ hph pl14 (show 0 + 0 = 0 from rfl) (by decide) (fun rh44 Lh44 clh44 lnh44 ivh44 rvh44 h44 => ?_)
                obtain ⟨f44, rfl, rfl, rfl, rfl, rfl, fl44, W44, rgf44, exf44, kp11f44, kp12f44, kp13f44, kp14f44, kp15f44, kp16f44⟩ := h44
                refine hv14 (show 1 ≤ ivh35 a0 11 ∧ ivh35 a0 11 ≤ 100 from W35.int ty59 11) (show ivh35 a0 11 = ivb5 a0 11 from fl35.i ty59 rfl 11) (show 1 ≤ ivh35 a0 12 ∧ ivh35 a0 12 ≤ 50 from W35.int ty59 12) (show ivh35 a0 12 = ivb5 a0 12 from fl35.i ty59 rfl 12) (show (-2147483648) ≤ ivh35 a0 13 ∧ ivh35 a0 13 ≤ 2147483647 from W35.int ty59 13) (show ivh35 a0 13 = ivb5 a0 13 from fl35.i ty59 rfl 13) (show (-2147483648) ≤ ivh35 a0 14 ∧ ivh35 a0 14 ≤ 2147483647 from W35.int ty59 14) (show ivh35 a0 14 = ivb5 a0 14 from fl35.i ty59 rfl 14) (show (-2147483648) ≤ ivh35 a0 15 ∧ ivh35 a0 15 ≤ 2147483647 from W35.int ty59 15) (show ivh35 a0 15 = ivb5 a0 15 from fl35.i ty59 rfl 15) (show (-2147483648) ≤ ivh35 a0 16 ∧ ivh35 a0 16 ≤ 2147483647 from W35.int ty59 16) (show ivh35 a0 16 = ivb5 a0 16 from fl35.i ty59 rfl 16) (F28.call Xb5 fl44 rfl) (MRK.call mr28 W35 skb5 XT.refl fl44 rfl rfl) (fun ri295 ie459 ri296 ie461 ri297 ie463 ri298 ie465 ri299 ie467 ri300 ie469 F35 mr35 => ?_)
                refine c_st (st2 := [.int (iI f44)]) rfl ?_
                refine hv15 (show ivh44 a0 11 = ivh35 a0 11 from kp11f44) (show ivh44 a0 12 = ivh35 a0 12 from kp12f44) (show ivh44 a0 13 = ivh35 a0 13 from kp13f44) (show ivh44 a0 14 = ivh35 a0 14 from kp14f44) (show ivh44 a0 15 = ivh35 a0 15 from kp15f44) (show ivh44 a0 16 = ivh35 a0 16 from kp16f44) (show f44 = -1 from exf44) (show 0 ≤ ivh44 (sk 2) 2 ∧ ivh44 (sk 2) 2 ≤ 3000 from W44.int ty60 2) (show ivh44 (sk 2) 2 = ivh35 (sk 2) 2 from fl44.i ty60 rfl 2) (show 1 ≤ ivh44 a0 11 ∧ ivh44 a0 11 ≤ 100 from W44.int ty59 11) (show 1 ≤ ivh44 a0 12 ∧ ivh44 a0 12 ≤ 50 from W44.int ty59 12) (show (-2147483648) ≤ ivh44 a0 13 ∧ ivh44 a0 13 ≤ 2147483647 from W44.int ty59 13) (show (-2147483648) ≤ ivh44 a0 14 ∧ ivh44 a0 14 ≤ 2147483647 from W44.int ty59 14) (show (-2147483648) ≤ ivh44 a0 15 ∧ ivh44 a0 15 ≤ 2147483647 from W44.int ty59 15) (show (-2147483648) ≤ ivh44 a0 16 ∧ ivh44 a0 16 ≤ 2147483647 from W44.int ty59 16) (fun gk11f44 gk12f44 gk13f44 gk14f44 gk15f44 gk16f44 gf44 ri301 ie471 ri302 ri303 ri304 ri305 ri306 ri307 => ?_)
                exact c_iret C dX11_head_122 rfl (by decide) (rom0 hph pl14 (by decide)) ⟨f44, rfl, Xb5, F35, W44, ⟨by omega, by omega⟩, trivial, (gk11f44.trans (ie459.trans hkp11)), (gk12f44.trans (ie461.trans hkp12)), (gk13f44.trans (ie463.trans hkp13)), (gk14f44.trans (ie465.trans hkp14)), (gk15f44.trans (ie467.trans hkp15)), (gk16f44.trans (ie469.trans hkp16)), (ie471.trans gf35), (show rvb5 a0 9 = rv a0 9 from hkr9), (show rvb5 a0 10 = rv a0 10 from hkr10)⟩
            · refine c_aload_n (j := 2) (x := a0) C dX11_head_64 rfl ?_
              obtain ⟨rb37, rq37, trb37⟩ := Wb5.ref ty59 6 rfl rfl rfl
              have erb37 := Wb5.sk trb37 (by decide) rfl
              subst erb37
              refine c_getr (k := 6) C ck_12 dX11_head_65 w2_50 (by decide) ty59 rfl rfl (by decide) rfl rq37 ?_
              refine c_st (st2 := [.ref (sk 15)]) rfl ?_
              refine c_aload_n (j := 2) (x := a0) C dX11_head_68 rfl ?_
              refine c_getr (k := 0) C ck_12 dX11_head_69 w2_44 (by decide) ty59 rfl rfl (by decide) rfl rq28 ?_
              refine c_st (st2 := [.ref (sk 2), .ref (sk 15)]) rfl ?_
              refine c_iload_n (j := 1) C dX11_head_72 rfl ?_
              have pl18 := Phi.le Wb5 skb5
              refine d_callV (As := [.int (iI k)]) (rest := [.ref (sk 15)]) C hM (C_at_2 (a0 := (sk 2)) (i := k) Wb5 skb5 ty60 (by omega) ) dX11_head_73 kV_X11_224 rfl ty60 rfl rfl (by decide) ck_2 rfl (Nat.le_of_ble_eq_true rfl) ⟨(Nat.le_of_ble_eq_true rfl), (Nat.le_of_ble_eq_true rfl)⟩ hph pl18 (show 0 + 0 = 0 from rfl) (by decide) (fun rh45 Lh45 clh45 lnh45 ivh45 rvh45 h45 => ?_)
              obtain ⟨f45, rfl, rfl, rfl, rfl, rfl, rfl, rgf45, exf45⟩ := h45
              refine c_st (st2 := [.int (iI f45), .ref (sk 15)]) rfl ?_
              have gf45 : ((0 ≤ k ∧ k < ivb5 (sk 2) 2) ∨ f45 = 0) ∧ ∀ ss, CT ivb5 rvb5 (sk 2) ss → 0 ≤ k → k < ivb5 (sk 2) 2 → f45 = ss k.toNat := exf45
              refine c_iload_n (j := 1) C dX11_head_76 rfl ?_
              have ty84 := Xb5.ty tsk15
              refine d_callV (As := [.int (iI f45), .int (iI k)]) (rest := []) C hM (C_put (a0 := (sk 15)) (x := f45) (y := k) Wb5 skb5 ty84 (by omega) (by omega) ) dX11_head_77 kV_X11_273 rfl ty84 rfl rfl (by decide) ck_7 rfl (Nat.le_of_ble_eq_true rfl) ⟨(Nat.le_of_ble_eq_true rfl), (Nat.le_of_ble_eq_true rfl)⟩ hph pl18 (show 0 + 0 = 0 from rfl) (by decide) (fun rh46 Lh46 clh46 lnh46 ivh46 rvh46 h46 => ?_)
              obtain ⟨rfl, rfl, rfl, rfl, rfl, fl46, W46, exf46⟩ := h46
              refine hv2 (Fb5.call Xb5 fl46 rfl) (MRK.call mrb5 Wb5 skb5 XT.refl fl46 rfl rfl) (fun F36 mr36 => ?_)
              refine c_st (st2 := []) rfl ?_
              refine c_iinc (z := k) (j := 1) (lv2 := [(3, .int (iI (k + 1))), (2, .int (iI fl)), (0, .ref a0), (1, .int (iI i))]) C dX11_head_80 rfl (by decide) rfl ?_
              refine c_goto (tgt := 49) C dX11_head_83 (by decide) ?_
              refine hv12 (show 1 ≤ ivh46 a0 11 ∧ ivh46 a0 11 ≤ 100 from W46.int ty59 11) (show ivh46 a0 11 = ivb5 a0 11 from fl46.i ty59 rfl 11) (show 1 ≤ ivh46 a0 12 ∧ ivh46 a0 12 ≤ 50 from W46.int ty59 12) (show ivh46 a0 12 = ivb5 a0 12 from fl46.i ty59 rfl 12) (show (-2147483648) ≤ ivh46 a0 13 ∧ ivh46 a0 13 ≤ 2147483647 from W46.int ty59 13) (show ivh46 a0 13 = ivb5 a0 13 from fl46.i ty59 rfl 13) (show (-2147483648) ≤ ivh46 a0 14 ∧ ivh46 a0 14 ≤ 2147483647 from W46.int ty59 14) (show ivh46 a0 14 = ivb5 a0 14 from fl46.i ty59 rfl 14) (show (-2147483648) ≤ ivh46 a0 15 ∧ ivh46 a0 15 ≤ 2147483647 from W46.int ty59 15) (show ivh46 a0 15 = ivb5 a0 15 from fl46.i ty59 rfl 15) (show (-2147483648) ≤ ivh46 a0 16 ∧ ivh46 a0 16 ≤ 2147483647 from W46.int ty59 16) (show ivh46 a0 16 = ivb5 a0 16 from fl46.i ty59 rfl 16) (fun ri308 ie478 ri309 ie480 ri310 ie482 ri311 ie484 ri312 ie486 ri313 ie488 => ?_)
              refine c_lv (lv2 := [(2, .int (iI fl)), (3, .int (iI (k + 1))), (0, .ref a0), (1, .int (iI i))]) [1, 0, 2, 3] rfl ?_
              exact ih5  fl (k + 1) _ _ _ _ _ (by omega) Xb5 W46 F36  (by omega) (by omega) (ie478.trans hkp11) (ie480.trans hkp12) (ie482.trans hkp13) (ie484.trans hkp14) (ie486.trans hkp15) (ie488.trans hkp16) (show rvb5 a0 9 = rv a0 9 from hkr9) (show rvb5 a0 10 = rv a0 10 from hkr10)
      refine hv12 (show 1 ≤ ivh32 a0 11 ∧ ivh32 a0 11 ≤ 100 from W32.int t_a0 11) (show ivh32 a0 11 = iv a0 11 from fl32.i t_a0 rfl 11) (show 1 ≤ ivh32 a0 12 ∧ ivh32 a0 12 ≤ 50 from W32.int t_a0 12) (show ivh32 a0 12 = iv a0 12 from fl32.i t_a0 rfl 12) (show (-2147483648) ≤ ivh32 a0 13 ∧ ivh32 a0 13 ≤ 2147483647 from W32.int t_a0 13) (show ivh32 a0 13 = iv a0 13 from fl32.i t_a0 rfl 13) (show (-2147483648) ≤ ivh32 a0 14 ∧ ivh32 a0 14 ≤ 2147483647 from W32.int t_a0 14) (show ivh32 a0 14 = iv a0 14 from fl32.i t_a0 rfl 14) (show (-2147483648) ≤ ivh32 a0 15 ∧ ivh32 a0 15 ≤ 2147483647 from W32.int t_a0 15) (show ivh32 a0 15 = iv a0 15 from fl32.i t_a0 rfl 15) (show (-2147483648) ≤ ivh32 a0 16 ∧ ivh32 a0 16 ≤ 2147483647 from W32.int t_a0 16) (show ivh32 a0 16 = iv a0 16 from fl32.i t_a0 rfl 16) (fun ri314 ie490 ri315 ie491 ri316 ie492 ri317 ie493 ri318 ie494 ri319 ie495 => ?_)
      refine c_lv (lv2 := [(2, .int (iI 1)), (3, .int (iI 0)), (0, .ref a0), (1, .int (iI i))]) [1, 0, 2, 3] rfl ?_
      exact Lp5 3003 1 0 _ _ _ _ _ (by omega) hX0 W32 F25  (by omega) (by omega) ie490 ie491 ie492 ie493 ie494 ie495 rfl rfl
set_option maxHeartbeats 4000000 in
set_option maxRecDepth 100000 in
theorem C_lines {l : Launch} {G : GT} {mi : Nat} {sk : Nat → Nat} {L : List Nat} {cl ln : Nat → Nat} {iv : Nat → Nat → Int} {rv : Nat → Nat → Option Nat}  {a0 : Nat} (hW : WT (g0 G) sk L cl ln iv rv) (hS : SKL sk L cl) (t_a0 : ty L cl a0 1)  : Mc l G mi (Phi (g0 G) sk) PHM yX11_lines cX11_lines 1 (some .int) 0 [.ref a0] L cl ln iv rv 0 (fun v L2 cl2 ln2 iv2 rv2 => ∃ f : Int, v = some (.int (iI f)) ∧ L = L2 ∧ cl = cl2 ∧ ln = ln2 ∧ iv = iv2 ∧ rv = rv2 ∧ (-2147483648 ≤ f ∧ f ≤ 2147483647) ∧ (True)) := by
  refine Mc.mk (by decide) (Nat.le_of_ble_eq_true rfl) ?_
  intro p e s m args below meth c A C hM
  refine hv3 (Phi.le hW hS) (show XT L cl ln L cl ln from XT.refl) (show fT [] L cl iv rv iv rv from fT.refl) (fun hph hX0 hF0 => ?_)
  refine c_aload_n (j := 0) (x := a0) C dX11_lines_0 rfl ?_
  obtain ⟨rb1, rq1, trb1⟩ := hW.ref t_a0 9 rfl rfl rfl
  refine c_getr (k := 9) C ck_12 dX11_lines_1 w2_53 (by decide) t_a0 rfl rfl (by decide) rfl rq1 ?_
  refine c_st (st2 := [.ref rb1]) rfl ?_
  have ri1 : 0 ≤ iv rb1 1 ∧ iv rb1 1 ≤ 200 := hW.int trb1 1
  refine c_get (k := 1) C ck_8 dX11_lines_4 w2_35 (by decide) trb1 rfl rfl (by decide) rfl ?_
  exact c_iret C dX11_lines_7 rfl (by decide) (rom0 hph hph (by decide)) ⟨(iv rb1 1), rfl, rfl, rfl, rfl, rfl, rfl, ⟨by omega, by omega⟩, trivial⟩
set_option maxHeartbeats 4000000 in
set_option maxRecDepth 100000 in
theorem C_hasHeader {l : Launch} {G : GT} {mi : Nat} {sk : Nat → Nat} {L : List Nat} {cl ln : Nat → Nat} {iv : Nat → Nat → Int} {rv : Nat → Nat → Option Nat}  {a0 : Nat} (hW : WT (g0 G) sk L cl ln iv rv) (hS : SKL sk L cl) (t_a0 : ty L cl a0 1)  : Mc l G mi (Phi (g0 G) sk) PHM yX11_pagesHaveHeader cX11_pagesHaveHeader 1 (some .boolean) 0 [.ref a0] L cl ln iv rv 0 (fun v L2 cl2 ln2 iv2 rv2 => ∃ f : Int, v = some (.int (iI f)) ∧ L = L2 ∧ cl = cl2 ∧ ln = ln2 ∧ iv = iv2 ∧ rv = rv2 ∧ (f = 0 ∨ f = 1) ∧ (f = 0 ∨ 2 ≤ iv a0 12)) := by
  refine Mc.mk (by decide) (Nat.le_of_ble_eq_true rfl) ?_
  intro p e s m args below meth c A C hM
  refine hv14 (Phi.le hW hS) (show ty L cl (sk 2) 2 from ⟨(hS 2 rfl).1, by rw [(hS 2 rfl).2]; rfl⟩) (show ty L cl (sk 3) 3 from ⟨(hS 3 rfl).1, by rw [(hS 3 rfl).2]; rfl⟩) (show ty L cl (sk 4) 4 from ⟨(hS 4 rfl).1, by rw [(hS 4 rfl).2]; rfl⟩) (show ty L cl (sk 5) 5 from ⟨(hS 5 rfl).1, by rw [(hS 5 rfl).2]; rfl⟩) (show ty L cl (sk 13) 13 from ⟨(hS 13 rfl).1, by rw [(hS 13 rfl).2]; rfl⟩) (show ty L cl (sk 14) 14 from ⟨(hS 14 rfl).1, by rw [(hS 14 rfl).2]; rfl⟩) (show ty L cl (sk 15) 15 from ⟨(hS 15 rfl).1, by rw [(hS 15 rfl).2]; rfl⟩) (show ty L cl (sk 16) 16 from ⟨(hS 16 rfl).1, by rw [(hS 16 rfl).2]; rfl⟩) (show ty L cl (sk 17) 17 from ⟨(hS 17 rfl).1, by rw [(hS 17 rfl).2]; rfl⟩) (show ty L cl (sk 22) 22 from ⟨(hS 22 rfl).1, by rw [(hS 22 rfl).2]; rfl⟩) (show ty L cl (sk 23) 23 from ⟨(hS 23 rfl).1, by rw [(hS 23 rfl).2]; rfl⟩) (show XT L cl ln L cl ln from XT.refl) (show fT [] L cl iv rv iv rv from fT.refl) (fun hph tsk2 tsk3 tsk4 tsk5 tsk13 tsk14 tsk15 tsk16 tsk17 tsk22 tsk23 hX0 hF0 => ?_)
  refine c_aload_n (j := 0) (x := a0) C dX11_pagesHaveHeader_0 rfl ?_
  obtain ⟨rb1, rq1, trb1⟩ := hW.ref t_a0 3 rfl rfl rfl
  have erb1 := hW.sk trb1 (by decide) rfl
  subst erb1
  refine c_getr (k := 3) C ck_12 dX11_pagesHaveHeader_1 w2_47 (by decide) t_a0 rfl rfl (by decide) rfl rq1 ?_
  refine c_st (st2 := [.ref (sk 5)]) rfl ?_
  have ri1 : 0 ≤ iv (sk 5) 2 ∧ iv (sk 5) 2 ≤ 200 := hW.int tsk5 2
  refine c_get (k := 2) C ck_2 dX11_pagesHaveHeader_4 w1_44 (by decide) tsk5 rfl rfl (by decide) rfl ?_
  refine c_if_le (tgt := 22) C (r32_c (lo := 0) (hi := 200) ri1.1 ri1.2 (by decide) (by decide)) dX11_pagesHaveHeader_7 (by decide) (fun c1 => ?_) (fun c1 => ?_)
  · refine c_iconst C dX11_pagesHaveHeader_22 ?_
    exact c_zret C dX11_pagesHaveHeader_23 rfl (Or.inl rfl) (by decide) (rom0 hph hph (by decide)) ⟨0, rfl, rfl, rfl, rfl, rfl, rfl, (Or.inl rfl), (by omega)⟩
  · refine c_aload_n (j := 0) (x := a0) C dX11_pagesHaveHeader_10 rfl ?_
    have ri2 : 1 ≤ iv a0 12 ∧ iv a0 12 ≤ 50 := hW.int t_a0 12
    refine c_get (k := 12) C ck_12 dX11_pagesHaveHeader_11 w2_56 (by decide) t_a0 rfl rfl (by decide) rfl ?_
    refine c_iconst C dX11_pagesHaveHeader_14 ?_
    refine c_icmp_lt (tgt := 22) C (r32_c (lo := 1) (hi := 50) ri2.1 ri2.2 (by decide) (by decide)) ⟨by decide, by decide⟩ dX11_pagesHaveHeader_15 (by decide) (fun c2 => ?_) (fun c2 => ?_)
    · refine c_iconst C dX11_pagesHaveHeader_22 ?_
      exact c_zret C dX11_pagesHaveHeader_23 rfl (Or.inl rfl) (by decide) (rom0 hph hph (by decide)) ⟨0, rfl, rfl, rfl, rfl, rfl, rfl, (Or.inl rfl), (by omega)⟩
    · refine c_iconst C dX11_pagesHaveHeader_18 ?_
      refine c_goto (tgt := 23) C dX11_pagesHaveHeader_19 (by decide) ?_
      exact c_zret C dX11_pagesHaveHeader_23 rfl (Or.inr rfl) (by decide) (rom0 hph hph (by decide)) ⟨1, rfl, rfl, rfl, rfl, rfl, rfl, (Or.inr rfl), (by omega)⟩
set_option maxHeartbeats 4000000 in
set_option maxRecDepth 100000 in
theorem C_linesOfPage {l : Launch} {G : GT} {mi : Nat} {sk : Nat → Nat} {L : List Nat} {cl ln : Nat → Nat} {iv : Nat → Nat → Int} {rv : Nat → Nat → Option Nat}  {a0 : Nat} (hW : WT (g0 G) sk L cl ln iv rv) (hS : SKL sk L cl) (t_a0 : ty L cl a0 1)  : Mc l G mi (Phi (g0 G) sk) PHM yX11_linesOfPage cX11_linesOfPage 1 (some .int) 1 [.ref a0] L cl ln iv rv 0 (fun v L2 cl2 ln2 iv2 rv2 => ∃ f : Int, v = some (.int (iI f)) ∧ L = L2 ∧ cl = cl2 ∧ ln = ln2 ∧ iv = iv2 ∧ rv = rv2 ∧ (-2147483648 ≤ f ∧ f ≤ 2147483647) ∧ (1 ≤ f ∧ f ≤ 50)) := by
  refine Mc.mk (by decide) (Nat.le_of_ble_eq_true rfl) ?_
  intro p e s m args below meth c A C hM
  refine hv3 (Phi.le hW hS) (show XT L cl ln L cl ln from XT.refl) (show fT [] L cl iv rv iv rv from fT.refl) (fun hph hX0 hF0 => ?_)
  refine c_iconst C dX11_linesOfPage_0 ?_
  refine c_aload_n (j := 0) (x := a0) C dX11_linesOfPage_1 rfl ?_
  have ri1 : 1 ≤ iv a0 12 ∧ iv a0 12 ≤ 50 := hW.int t_a0 12
  refine d_callV (As := []) (rest := [.int (iI 1)]) C hM (C_hasHeader (a0 := a0) hW hS t_a0  ) dX11_linesOfPage_2 kV_X11_285 rfl t_a0 rfl rfl (by decide) ck_12 rfl (Nat.le_of_ble_eq_true rfl) ⟨(Nat.le_of_ble_eq_true rfl), (Nat.le_of_ble_eq_true rfl)⟩ hph hph (show 0 + 0 = 0 from rfl) (by decide) (fun rh1 Lh1 clh1 lnh1 ivh1 rvh1 h1 => ?_)
  obtain ⟨f1, rfl, rfl, rfl, rfl, rfl, rfl, rgf1, exf1⟩ := h1
  refine c_st (st2 := [.int (iI f1), .int (iI 1)]) rfl ?_
  have gf1 : f1 = 0 ∨ 2 ≤ iv a0 12 := exf1
  refine c_if_eq (tgt := 17) C ⟨by omega, by omega⟩ dX11_linesOfPage_5 (by decide) (fun c1 => ?_) (fun c1 => ?_)
  · clear gf1
    refine c_aload_n (j := 0) (x := a0) C dX11_linesOfPage_17 rfl ?_
    refine c_get (k := 12) C ck_12 dX11_linesOfPage_18 w2_56 (by decide) t_a0 rfl rfl (by decide) rfl ?_
    obtain ⟨mn1, hmn1, emn1⟩ := mmax_c (x := 1) (y := iv a0 12) ⟨by decide, by decide⟩ (r32_c (lo := 1) (hi := 50) ri1.1 ri1.2 (by decide) (by decide))
    refine c_mmax (w := iI mn1) C dX11_linesOfPage_21 w3_93 w2_148 w1_14 w2_149 (by decide) (rom0 hph hph (by decide)) (Nat.le_of_ble_eq_true rfl) emn1 ?_
    exact c_iret C dX11_linesOfPage_24 rfl (by decide) (rom0 hph hph (by decide)) ⟨mn1, rfl, rfl, rfl, rfl, rfl, rfl, ⟨by omega, by omega⟩, (by omega)⟩
  · replace gf1 := (gf1.resolve_left c1)
    refine c_aload_n (j := 0) (x := a0) C dX11_linesOfPage_8 rfl ?_
    refine c_get (k := 12) C ck_12 dX11_linesOfPage_9 w2_56 (by decide) t_a0 rfl rfl (by decide) rfl ?_
    refine c_iconst C dX11_linesOfPage_12 ?_
    refine c_isub C dX11_linesOfPage_13 ?_
    refine c_goto (tgt := 21) C dX11_linesOfPage_14 (by decide) ?_
    obtain ⟨mn2, hmn2, emn2⟩ := mmax_c (x := 1) (y := (iv a0 12) - 1) ⟨by decide, by decide⟩ ⟨by omega, by omega⟩
    refine c_mmax (w := iI mn2) C dX11_linesOfPage_21 w3_93 w2_148 w1_14 w2_149 (by decide) (rom0 hph hph (by decide)) (Nat.le_of_ble_eq_true rfl) emn2 ?_
    exact c_iret C dX11_linesOfPage_24 rfl (by decide) (rom0 hph hph (by decide)) ⟨mn2, rfl, rfl, rfl, rfl, rfl, rfl, ⟨by omega, by omega⟩, (by omega)⟩
set_option maxHeartbeats 4000000 in
set_option maxRecDepth 100000 in
theorem C_pages {l : Launch} {G : GT} {mi : Nat} {sk : Nat → Nat} {L : List Nat} {cl ln : Nat → Nat} {iv : Nat → Nat → Int} {rv : Nat → Nat → Option Nat}  {a0 : Nat} (hW : WT (g0 G) sk L cl ln iv rv) (hS : SKL sk L cl) (t_a0 : ty L cl a0 1)  : Mc l G mi (Phi (g0 G) sk) PHM yX11_pages cX11_pages 2 (some .int) 2 [.ref a0] L cl ln iv rv 0 (fun v L2 cl2 ln2 iv2 rv2 => ∃ f : Int, v = some (.int (iI f)) ∧ L = L2 ∧ cl = cl2 ∧ ln = ln2 ∧ iv = iv2 ∧ rv = rv2 ∧ (-2147483648 ≤ f ∧ f ≤ 2147483647) ∧ (True)) := by
  refine Mc.mk (by decide) (Nat.le_of_ble_eq_true rfl) ?_
  intro p e s m args below meth c A C hM
  refine hv3 (Phi.le hW hS) (show XT L cl ln L cl ln from XT.refl) (show fT [] L cl iv rv iv rv from fT.refl) (fun hph hX0 hF0 => ?_)
  refine c_aload_n (j := 0) (x := a0) C dX11_pages_0 rfl ?_
  refine d_callV (As := []) (rest := []) C hM (C_linesOfPage (a0 := a0) hW hS t_a0  ) dX11_pages_1 kV_X11_282 rfl t_a0 rfl rfl (by decide) ck_12 rfl (Nat.le_of_ble_eq_true rfl) ⟨(Nat.le_of_ble_eq_true rfl), (Nat.le_of_ble_eq_true rfl)⟩ hph hph (show 0 + 0 = 0 from rfl) (by decide) (fun rh1 Lh1 clh1 lnh1 ivh1 rvh1 h1 => ?_)
  obtain ⟨f1, rfl, rfl, rfl, rfl, rfl, rfl, rgf1, exf1⟩ := h1
  refine c_st (st2 := [.int (iI f1)]) rfl ?_
  have gf1 : 1 ≤ f1 ∧ f1 ≤ 50 := exf1
  refine c_istore_n (lv2 := [(1, .int (iI f1)), (0, .ref a0)]) C dX11_pages_4 (by decide) rfl ?_
  refine c_aload_n (j := 1) (x := a0) C dX11_pages_5 rfl ?_
  obtain ⟨rb1, rq1, trb1⟩ := hW.ref t_a0 9 rfl rfl rfl
  refine c_getr (k := 9) C ck_12 dX11_pages_6 w2_53 (by decide) t_a0 rfl rfl (by decide) rfl rq1 ?_
  refine c_st (st2 := [.ref rb1]) rfl ?_
  have ri1 : 0 ≤ iv rb1 1 ∧ iv rb1 1 ≤ 200 := hW.int trb1 1
  refine c_get (k := 1) C ck_8 dX11_pages_9 w2_35 (by decide) trb1 rfl rfl (by decide) rfl ?_
  refine c_iload_n (j := 0) C dX11_pages_12 rfl ?_
  refine c_iadd C dX11_pages_13 ?_
  refine c_iconst C dX11_pages_14 ?_
  refine c_isub C dX11_pages_15 ?_
  refine c_iload_n (j := 0) C dX11_pages_16 rfl ?_
  obtain ⟨dq1, hdq1⟩ : ∃ q : Int, q = (((iv rb1 1) + f1) - 1) / f1 := ⟨_, rfl⟩
  have rdq1 := ediv_r (x := ((iv rb1 1) + f1) - 1) (y := f1) (by omega) (by omega)
  rw [← hdq1] at rdq1
  refine c_idiv (w := iI dq1) C dX11_pages_17 (iI_ne0 ⟨by omega, by omega⟩) (by rw [hdq1]; exact iI_div ⟨by omega, by omega⟩ ⟨by omega, by omega⟩) ?_
  exact c_iret C dX11_pages_18 rfl (by decide) (rom0 hph hph (by decide)) ⟨dq1, rfl, rfl, rfl, rfl, rfl, rfl, ⟨by omega, by omega⟩, trivial⟩
set_option maxHeartbeats 4000000 in
set_option maxRecDepth 100000 in
theorem C_length {l : Launch} {G : GT} {mi : Nat} {sk : Nat → Nat} {L : List Nat} {cl ln : Nat → Nat} {iv : Nat → Nat → Int} {rv : Nat → Nat → Option Nat}  {a0 : Nat} {i : Int} (hW : WT (g0 G) sk L cl ln iv rv) (hS : SKL sk L cl) (t_a0 : ty L cl a0 1) (h_i : -2147483648 ≤ i ∧ i ≤ 2147483647)  : Mc l G mi (Phi (g0 G) sk) PHM yX11_length cX11_length 3 (some .int) 2 [.ref a0, .int (iI i)] L cl ln iv rv 0 (fun v L2 cl2 ln2 iv2 rv2 => ∃ f : Int, v = some (.int (iI f)) ∧ L = L2 ∧ cl = cl2 ∧ ln = ln2 ∧ rv = rv2 ∧ fT [1] L cl iv rv iv2 rv2 ∧ WT (g0 G) sk L2 cl2 ln2 iv2 rv2 ∧ (-2147483648 ≤ f ∧ f ≤ 2147483647) ∧ (True) ∧ iv2 a0 11 = iv a0 11 ∧ iv2 a0 12 = iv a0 12 ∧ iv2 a0 13 = iv a0 13 ∧ iv2 a0 14 = iv a0 14 ∧ iv2 a0 15 = iv a0 15 ∧ iv2 a0 16 = iv a0 16) := by
  refine Mc.mk (by decide) (Nat.le_of_ble_eq_true rfl) ?_
  intro p e s m args below meth c A C hM
  refine hv3 (Phi.le hW hS) (show XT L cl ln L cl ln from XT.refl) (show fT [1] L cl iv rv iv rv from fT.refl) (fun hph hX0 hF0 => ?_)
  refine c_aload_n (j := 0) (x := a0) C dX11_length_0 rfl ?_
  obtain ⟨rb1, rq1, trb1⟩ := hW.ref t_a0 9 rfl rfl rfl
  refine c_getr (k := 9) C ck_12 dX11_length_1 w2_53 (by decide) t_a0 rfl rfl (by decide) rfl rq1 ?_
  refine c_st (st2 := [.ref rb1]) rfl ?_
  refine c_iload_n (j := 1) C dX11_length_4 rfl ?_
  have ri1 : 0 ≤ iv rb1 1 ∧ iv rb1 1 ≤ 200 := hW.int trb1 1
  refine d_callV (As := [.int (iI i)]) (rest := []) C hM (C_present (a0 := rb1) (i := i) hW hS trb1 (by omega) ) dX11_length_5 kV_X11_288 rfl trb1 rfl rfl (by decide) ck_8 rfl (Nat.le_of_ble_eq_true rfl) ⟨(Nat.le_of_ble_eq_true rfl), (Nat.le_of_ble_eq_true rfl)⟩ hph hph (show 0 + 0 = 0 from rfl) (by decide) (fun rh1 Lh1 clh1 lnh1 ivh1 rvh1 h1 => ?_)
  obtain ⟨f1, rfl, rfl, rfl, rfl, rfl, rfl, rgf1, exf1⟩ := h1
  refine c_st (st2 := [(va_rf f1)]) rfl ?_
  have gf1 : f1 = none ∨ (0 ≤ i ∧ i < iv rb1 1) := exf1
  refine c_astorer_n (r := f1) (lv2 := [(2, (va_rf f1)), (0, .ref a0), (1, .int (iI i))]) C dX11_length_8 (by decide) rfl ?_
  refine c_aloadr_n (j := 0) (r := f1) C dX11_length_9 rfl ?_
  refine c_ifnonnull (r := f1) (tgt := 28) C dX11_length_10 (by decide) (fun ob1 oq1 => ?_) (fun oq1 => ?_)
  · subst oq1
    have tob1 := rgf1 ob1 rfl
    refine c_lv (lv2 := [(2, .ref ob1), (0, .ref a0), (1, .int (iI i))]) [0, 1, 2] rfl ?_
    refine c_st (st2 := []) rfl ?_
    refine c_aload_n (j := 1) (x := a0) C dX11_length_28 rfl ?_
    refine c_aload_n (j := 0) (x := ob1) C dX11_length_29 rfl ?_
    have ri2 : 0 ≤ iv ob1 1 ∧ iv ob1 1 ≤ 200 := hW.int tob1 1
    refine c_get (k := 1) C ck_3 dX11_length_30 w4_53 (by decide) tob1 rfl rfl (by decide) rfl ?_
    refine d_callV (As := [.int (iI (iv ob1 1))]) (rest := []) C hM (C_done (a0 := a0) (x := iv ob1 1) hW hS t_a0 (by omega) ) dX11_length_33 kV_X11_109 rfl t_a0 rfl rfl (by decide) ck_12 rfl (Nat.le_of_ble_eq_true rfl) ⟨(Nat.le_of_ble_eq_true rfl), (Nat.le_of_ble_eq_true rfl)⟩ hph hph (show 0 + 0 = 0 from rfl) (by decide) (fun rh2 Lh2 clh2 lnh2 ivh2 rvh2 h2 => ?_)
    obtain ⟨f2, rfl, rfl, rfl, rfl, rfl, fl2, W2, rgf2, exf2, kp11f2, kp12f2, kp13f2, kp14f2, kp15f2, kp16f2⟩ := h2
    refine hv7 (show 1 ≤ iv a0 11 ∧ iv a0 11 ≤ 100 from hW.int t_a0 11) (show 1 ≤ iv a0 12 ∧ iv a0 12 ≤ 50 from hW.int t_a0 12) (show (-2147483648) ≤ iv a0 13 ∧ iv a0 13 ≤ 2147483647 from hW.int t_a0 13) (show (-2147483648) ≤ iv a0 14 ∧ iv a0 14 ≤ 2147483647 from hW.int t_a0 14) (show (-2147483648) ≤ iv a0 15 ∧ iv a0 15 ≤ 2147483647 from hW.int t_a0 15) (show (-2147483648) ≤ iv a0 16 ∧ iv a0 16 ≤ 2147483647 from hW.int t_a0 16) (hF0.call hX0 fl2 rfl) (fun ri3 ri4 ri5 ri6 ri7 ri8 F1 => ?_)
    refine c_st (st2 := [.int (iI f2)]) rfl ?_
    refine hv13 (show ivh2 a0 11 = iv a0 11 from kp11f2) (show ivh2 a0 12 = iv a0 12 from kp12f2) (show ivh2 a0 13 = iv a0 13 from kp13f2) (show ivh2 a0 14 = iv a0 14 from kp14f2) (show ivh2 a0 15 = iv a0 15 from kp15f2) (show ivh2 a0 16 = iv a0 16 from kp16f2) (show f2 = (iv ob1 1) from exf2) (show 1 ≤ ivh2 a0 11 ∧ ivh2 a0 11 ≤ 100 from W2.int t_a0 11) (show 1 ≤ ivh2 a0 12 ∧ ivh2 a0 12 ≤ 50 from W2.int t_a0 12) (show (-2147483648) ≤ ivh2 a0 13 ∧ ivh2 a0 13 ≤ 2147483647 from W2.int t_a0 13) (show (-2147483648) ≤ ivh2 a0 14 ∧ ivh2 a0 14 ≤ 2147483647 from W2.int t_a0 14) (show (-2147483648) ≤ ivh2 a0 15 ∧ ivh2 a0 15 ≤ 2147483647 from W2.int t_a0 15) (show (-2147483648) ≤ ivh2 a0 16 ∧ ivh2 a0 16 ≤ 2147483647 from W2.int t_a0 16) (fun gk11f2 gk12f2 gk13f2 gk14f2 gk15f2 gk16f2 gf2 ri9 ri10 ri11 ri12 ri13 ri14 => ?_)
    exact c_iret C dX11_length_36 rfl (by decide) (rom0 hph hph (by decide)) ⟨f2, rfl, rfl, rfl, rfl, rfl, F1, W2, ⟨by omega, by omega⟩, trivial, gk11f2, gk12f2, gk13f2, gk14f2, gk15f2, gk16f2⟩
  · subst oq1
    refine c_lv (lv2 := [(2, .null), (0, .ref a0), (1, .int (iI i))]) [0, 1, 2] rfl ?_
    refine c_st (st2 := []) rfl ?_
    refine c_aload_n (j := 1) (x := a0) C dX11_length_13 rfl ?_
    refine c_aload_n (j := 1) (x := a0) C dX11_length_14 rfl ?_
    refine c_getr (k := 9) C ck_12 dX11_length_15 w2_53 (by decide) t_a0 rfl rfl (by decide) rfl rq1 ?_
    refine c_st (st2 := [.ref rb1, .ref a0]) rfl ?_
    refine c_iload_n (j := 2) C dX11_length_18 rfl ?_
    refine d_callV (As := [.int (iI i)]) (rest := [.ref a0]) C hM (C_whyNone (a0 := rb1) (i := i) hW hS trb1 (by omega) ) dX11_length_19 kV_X11_292 rfl trb1 rfl rfl (by decide) ck_8 rfl (Nat.le_of_ble_eq_true rfl) ⟨(Nat.le_of_ble_eq_true rfl), (Nat.le_of_ble_eq_true rfl)⟩ hph hph (show 0 + 0 = 0 from rfl) (by decide) (fun rh3 Lh3 clh3 lnh3 ivh3 rvh3 h3 => ?_)
    obtain ⟨f3, rfl, rfl, rfl, rfl, rfl, rfl, rgf3, exf3⟩ := h3
    refine c_st (st2 := [.int (iI f3), .ref a0]) rfl ?_
    have gf3 : f3 = 1 ∨ f3 = 2 := exf3
    refine d_callV (As := [.int (iI f3)]) (rest := []) C hM (C_refuse (a0 := a0) (x := f3) hW hS t_a0 (by omega) ) dX11_length_22 kV_X11_102 rfl t_a0 rfl rfl (by decide) ck_12 rfl (Nat.le_of_ble_eq_true rfl) ⟨(Nat.le_of_ble_eq_true rfl), (Nat.le_of_ble_eq_true rfl)⟩ hph hph (show 0 + 0 = 0 from rfl) (by decide) (fun rh4 Lh4 clh4 lnh4 ivh4 rvh4 h4 => ?_)
    obtain ⟨f4, rfl, rfl, rfl, rfl, rfl, fl4, W4, rgf4, exf4, kp11f4, kp12f4, kp13f4, kp14f4, kp15f4, kp16f4⟩ := h4
    refine hv7 (show 1 ≤ iv a0 11 ∧ iv a0 11 ≤ 100 from hW.int t_a0 11) (show 1 ≤ iv a0 12 ∧ iv a0 12 ≤ 50 from hW.int t_a0 12) (show (-2147483648) ≤ iv a0 13 ∧ iv a0 13 ≤ 2147483647 from hW.int t_a0 13) (show (-2147483648) ≤ iv a0 14 ∧ iv a0 14 ≤ 2147483647 from hW.int t_a0 14) (show (-2147483648) ≤ iv a0 15 ∧ iv a0 15 ≤ 2147483647 from hW.int t_a0 15) (show (-2147483648) ≤ iv a0 16 ∧ iv a0 16 ≤ 2147483647 from hW.int t_a0 16) (hF0.call hX0 fl4 rfl) (fun ri15 ri16 ri17 ri18 ri19 ri20 F2 => ?_)
    refine c_st (st2 := [.int (iI f4)]) rfl ?_
    refine hv7 (show ivh4 a0 11 = iv a0 11 from kp11f4) (show ivh4 a0 12 = iv a0 12 from kp12f4) (show ivh4 a0 13 = iv a0 13 from kp13f4) (show ivh4 a0 14 = iv a0 14 from kp14f4) (show ivh4 a0 15 = iv a0 15 from kp15f4) (show ivh4 a0 16 = iv a0 16 from kp16f4) (show f4 = -1 from exf4) (fun gk11f4 gk12f4 gk13f4 gk14f4 gk15f4 gk16f4 gf4 => ?_)
    refine c_goto (tgt := 36) C dX11_length_25 (by decide) ?_
    refine hv6 (show 1 ≤ ivh4 a0 11 ∧ ivh4 a0 11 ≤ 100 from W4.int t_a0 11) (show 1 ≤ ivh4 a0 12 ∧ ivh4 a0 12 ≤ 50 from W4.int t_a0 12) (show (-2147483648) ≤ ivh4 a0 13 ∧ ivh4 a0 13 ≤ 2147483647 from W4.int t_a0 13) (show (-2147483648) ≤ ivh4 a0 14 ∧ ivh4 a0 14 ≤ 2147483647 from W4.int t_a0 14) (show (-2147483648) ≤ ivh4 a0 15 ∧ ivh4 a0 15 ≤ 2147483647 from W4.int t_a0 15) (show (-2147483648) ≤ ivh4 a0 16 ∧ ivh4 a0 16 ≤ 2147483647 from W4.int t_a0 16) (fun ri21 ri22 ri23 ri24 ri25 ri26 => ?_)
    exact c_iret C dX11_length_36 rfl (by decide) (rom0 hph hph (by decide)) ⟨f4, rfl, rfl, rfl, rfl, rfl, F2, W4, ⟨by omega, by omega⟩, trivial, gk11f4, gk12f4, gk13f4, gk14f4, gk15f4, gk16f4⟩
set_option maxHeartbeats 4000000 in
set_option maxRecDepth 100000 in
theorem C_cellOfLine {l : Launch} {G : GT} {mi : Nat} {sk : Nat → Nat} {L : List Nat} {cl ln : Nat → Nat} {iv : Nat → Nat → Int} {rv : Nat → Nat → Option Nat}  {a0 : Nat} {i : Int} {j : Int} (hW : WT (g0 G) sk L cl ln iv rv) (hS : SKL sk L cl) (t_a0 : ty L cl a0 1) (h_i : -2147483648 ≤ i ∧ i ≤ 2147483647) (h_j : -2147483648 ≤ j ∧ j ≤ 2147483647)  : Mc l G mi (Phi (g0 G) sk) PHM yX11_cellOfLine cX11_cellOfLine 4 (some .int) 2 [.ref a0, .int (iI i), .int (iI j)] L cl ln iv rv 0 (fun v L2 cl2 ln2 iv2 rv2 => ∃ f : Int, v = some (.int (iI f)) ∧ L = L2 ∧ cl = cl2 ∧ ln = ln2 ∧ rv = rv2 ∧ fT [1] L cl iv rv iv2 rv2 ∧ WT (g0 G) sk L2 cl2 ln2 iv2 rv2 ∧ (-2147483648 ≤ f ∧ f ≤ 2147483647) ∧ (True) ∧ iv2 a0 11 = iv a0 11 ∧ iv2 a0 12 = iv a0 12 ∧ iv2 a0 13 = iv a0 13 ∧ iv2 a0 14 = iv a0 14 ∧ iv2 a0 15 = iv a0 15 ∧ iv2 a0 16 = iv a0 16) := by
  refine Mc.mk (by decide) (Nat.le_of_ble_eq_true rfl) ?_
  intro p e s m args below meth c A C hM
  refine hv3 (Phi.le hW hS) (show XT L cl ln L cl ln from XT.refl) (show fT [1] L cl iv rv iv rv from fT.refl) (fun hph hX0 hF0 => ?_)
  refine c_aload_n (j := 0) (x := a0) C dX11_cellOfLine_0 rfl ?_
  obtain ⟨rb1, rq1, trb1⟩ := hW.ref t_a0 9 rfl rfl rfl
  refine c_getr (k := 9) C ck_12 dX11_cellOfLine_1 w2_53 (by decide) t_a0 rfl rfl (by decide) rfl rq1 ?_
  refine c_st (st2 := [.ref rb1]) rfl ?_
  refine c_iload_n (j := 1) C dX11_cellOfLine_4 rfl ?_
  have ri1 : 0 ≤ iv rb1 1 ∧ iv rb1 1 ≤ 200 := hW.int trb1 1
  refine d_callV (As := [.int (iI i)]) (rest := []) C hM (C_present (a0 := rb1) (i := i) hW hS trb1 (by omega) ) dX11_cellOfLine_5 kV_X11_288 rfl trb1 rfl rfl (by decide) ck_8 rfl (Nat.le_of_ble_eq_true rfl) ⟨(Nat.le_of_ble_eq_true rfl), (Nat.le_of_ble_eq_true rfl)⟩ hph hph (show 0 + 0 = 0 from rfl) (by decide) (fun rh1 Lh1 clh1 lnh1 ivh1 rvh1 h1 => ?_)
  obtain ⟨f1, rfl, rfl, rfl, rfl, rfl, rfl, rgf1, exf1⟩ := h1
  refine c_st (st2 := [(va_rf f1)]) rfl ?_
  have gf1 : f1 = none ∨ (0 ≤ i ∧ i < iv rb1 1) := exf1
  refine c_astorer_n (r := f1) (lv2 := [(3, (va_rf f1)), (0, .ref a0), (1, .int (iI i)), (2, .int (iI j))]) C dX11_cellOfLine_8 (by decide) rfl ?_
  refine c_aloadr_n (j := 0) (r := f1) C dX11_cellOfLine_9 rfl ?_
  refine c_ifnonnull (r := f1) (tgt := 26) C dX11_cellOfLine_10 (by decide) (fun ob1 oq1 => ?_) (fun oq1 => ?_)
  · subst oq1
    have tob1 := rgf1 ob1 rfl
    refine c_lv (lv2 := [(3, .ref ob1), (0, .ref a0), (1, .int (iI i)), (2, .int (iI j))]) [0, 1, 2, 3] rfl ?_
    refine c_st (st2 := []) rfl ?_
    refine c_iload_n (j := 3) C dX11_cellOfLine_26 rfl ?_
    refine c_if_lt (tgt := 38) C ⟨by omega, by omega⟩ dX11_cellOfLine_27 (by decide) (fun c1 => ?_) (fun c1 => ?_)
    · refine c_aload_n (j := 1) (x := a0) C dX11_cellOfLine_38 rfl ?_
      refine c_iconst C dX11_cellOfLine_39 ?_
      refine d_callV (As := [.int (iI 2)]) (rest := []) C hM (C_refuse (a0 := a0) (x := 2) hW hS t_a0 ⟨by decide, by decide⟩ ) dX11_cellOfLine_40 kV_X11_102 rfl t_a0 rfl rfl (by decide) ck_12 rfl (Nat.le_of_ble_eq_true rfl) ⟨(Nat.le_of_ble_eq_true rfl), (Nat.le_of_ble_eq_true rfl)⟩ hph hph (show 0 + 0 = 0 from rfl) (by decide) (fun rh2 Lh2 clh2 lnh2 ivh2 rvh2 h2 => ?_)
      obtain ⟨f2, rfl, rfl, rfl, rfl, rfl, fl2, W2, rgf2, exf2, kp11f2, kp12f2, kp13f2, kp14f2, kp15f2, kp16f2⟩ := h2
      refine hv7 (show 1 ≤ iv a0 11 ∧ iv a0 11 ≤ 100 from hW.int t_a0 11) (show 1 ≤ iv a0 12 ∧ iv a0 12 ≤ 50 from hW.int t_a0 12) (show (-2147483648) ≤ iv a0 13 ∧ iv a0 13 ≤ 2147483647 from hW.int t_a0 13) (show (-2147483648) ≤ iv a0 14 ∧ iv a0 14 ≤ 2147483647 from hW.int t_a0 14) (show (-2147483648) ≤ iv a0 15 ∧ iv a0 15 ≤ 2147483647 from hW.int t_a0 15) (show (-2147483648) ≤ iv a0 16 ∧ iv a0 16 ≤ 2147483647 from hW.int t_a0 16) (hF0.call hX0 fl2 rfl) (fun ri2 ri3 ri4 ri5 ri6 ri7 F1 => ?_)
      refine c_st (st2 := [.int (iI f2)]) rfl ?_
      refine hv7 (show ivh2 a0 11 = iv a0 11 from kp11f2) (show ivh2 a0 12 = iv a0 12 from kp12f2) (show ivh2 a0 13 = iv a0 13 from kp13f2) (show ivh2 a0 14 = iv a0 14 from kp14f2) (show ivh2 a0 15 = iv a0 15 from kp15f2) (show ivh2 a0 16 = iv a0 16 from kp16f2) (show f2 = -1 from exf2) (fun gk11f2 gk12f2 gk13f2 gk14f2 gk15f2 gk16f2 gf2 => ?_)
      refine c_goto (tgt := 56) C dX11_cellOfLine_43 (by decide) ?_
      refine hv6 (show 1 ≤ ivh2 a0 11 ∧ ivh2 a0 11 ≤ 100 from W2.int t_a0 11) (show 1 ≤ ivh2 a0 12 ∧ ivh2 a0 12 ≤ 50 from W2.int t_a0 12) (show (-2147483648) ≤ ivh2 a0 13 ∧ ivh2 a0 13 ≤ 2147483647 from W2.int t_a0 13) (show (-2147483648) ≤ ivh2 a0 14 ∧ ivh2 a0 14 ≤ 2147483647 from W2.int t_a0 14) (show (-2147483648) ≤ ivh2 a0 15 ∧ ivh2 a0 15 ≤ 2147483647 from W2.int t_a0 15) (show (-2147483648) ≤ ivh2 a0 16 ∧ ivh2 a0 16 ≤ 2147483647 from W2.int t_a0 16) (fun ri8 ri9 ri10 ri11 ri12 ri13 => ?_)
      exact c_iret C dX11_cellOfLine_56 rfl (by decide) (rom0 hph hph (by decide)) ⟨f2, rfl, rfl, rfl, rfl, rfl, F1, W2, ⟨by omega, by omega⟩, trivial, gk11f2, gk12f2, gk13f2, gk14f2, gk15f2, gk16f2⟩
    · refine c_iload_n (j := 3) C dX11_cellOfLine_30 rfl ?_
      refine c_aload_n (j := 0) (x := ob1) C dX11_cellOfLine_31 rfl ?_
      have ri14 : 0 ≤ iv ob1 1 ∧ iv ob1 1 ≤ 200 := hW.int tob1 1
      refine c_get (k := 1) C ck_3 dX11_cellOfLine_32 w4_53 (by decide) tob1 rfl rfl (by decide) rfl ?_
      refine c_icmp_lt (tgt := 46) C ⟨by omega, by omega⟩ (r32_c (lo := 0) (hi := 200) ri14.1 ri14.2 (by decide) (by decide)) dX11_cellOfLine_35 (by decide) (fun c2 => ?_) (fun c2 => ?_)
      · refine c_aload_n (j := 1) (x := a0) C dX11_cellOfLine_46 rfl ?_
        refine c_aload_n (j := 0) (x := ob1) C dX11_cellOfLine_47 rfl ?_
        obtain ⟨rb2, rq2, trb2⟩ := hW.ref tob1 0 rfl rfl rfl
        have lnrb2 : 200 ≤ ln rb2 ∧ ln rb2 ≤ 200 := hW.len trb2 rfl
        refine c_getr (k := 0) C ck_3 dX11_cellOfLine_48 w4_48 (by decide) tob1 rfl rfl (by decide) rfl rq2 ?_
        refine c_st (st2 := [.ref rb2, .ref a0]) rfl ?_
        refine c_iload_n (j := 3) C dX11_cellOfLine_51 rfl ?_
        have ll1 : 200 ≤ ln rb2 ∧ ln rb2 ≤ 200 := hW.len trb2 rfl
        refine c_iald C dX11_cellOfLine_52 trb2 rfl (by omega) (by omega) (by omega) ?_
        have ri15 : (-2147483648) ≤ iv rb2 j.toNat ∧ iv rb2 j.toNat ≤ 2147483647 := hW.int trb2 j.toNat
        refine d_callV (As := [.int (iI (iv rb2 j.toNat))]) (rest := []) C hM (C_done (a0 := a0) (x := iv rb2 j.toNat) hW hS t_a0 (by omega) ) dX11_cellOfLine_53 kV_X11_109 rfl t_a0 rfl rfl (by decide) ck_12 rfl (Nat.le_of_ble_eq_true rfl) ⟨(Nat.le_of_ble_eq_true rfl), (Nat.le_of_ble_eq_true rfl)⟩ hph hph (show 0 + 0 = 0 from rfl) (by decide) (fun rh3 Lh3 clh3 lnh3 ivh3 rvh3 h3 => ?_)
        obtain ⟨f3, rfl, rfl, rfl, rfl, rfl, fl3, W3, rgf3, exf3, kp11f3, kp12f3, kp13f3, kp14f3, kp15f3, kp16f3⟩ := h3
        refine hv7 (show 1 ≤ iv a0 11 ∧ iv a0 11 ≤ 100 from hW.int t_a0 11) (show 1 ≤ iv a0 12 ∧ iv a0 12 ≤ 50 from hW.int t_a0 12) (show (-2147483648) ≤ iv a0 13 ∧ iv a0 13 ≤ 2147483647 from hW.int t_a0 13) (show (-2147483648) ≤ iv a0 14 ∧ iv a0 14 ≤ 2147483647 from hW.int t_a0 14) (show (-2147483648) ≤ iv a0 15 ∧ iv a0 15 ≤ 2147483647 from hW.int t_a0 15) (show (-2147483648) ≤ iv a0 16 ∧ iv a0 16 ≤ 2147483647 from hW.int t_a0 16) (hF0.call hX0 fl3 rfl) (fun ri16 ri17 ri18 ri19 ri20 ri21 F2 => ?_)
        refine c_st (st2 := [.int (iI f3)]) rfl ?_
        refine hv13 (show ivh3 a0 11 = iv a0 11 from kp11f3) (show ivh3 a0 12 = iv a0 12 from kp12f3) (show ivh3 a0 13 = iv a0 13 from kp13f3) (show ivh3 a0 14 = iv a0 14 from kp14f3) (show ivh3 a0 15 = iv a0 15 from kp15f3) (show ivh3 a0 16 = iv a0 16 from kp16f3) (show f3 = (iv rb2 j.toNat) from exf3) (show 1 ≤ ivh3 a0 11 ∧ ivh3 a0 11 ≤ 100 from W3.int t_a0 11) (show 1 ≤ ivh3 a0 12 ∧ ivh3 a0 12 ≤ 50 from W3.int t_a0 12) (show (-2147483648) ≤ ivh3 a0 13 ∧ ivh3 a0 13 ≤ 2147483647 from W3.int t_a0 13) (show (-2147483648) ≤ ivh3 a0 14 ∧ ivh3 a0 14 ≤ 2147483647 from W3.int t_a0 14) (show (-2147483648) ≤ ivh3 a0 15 ∧ ivh3 a0 15 ≤ 2147483647 from W3.int t_a0 15) (show (-2147483648) ≤ ivh3 a0 16 ∧ ivh3 a0 16 ≤ 2147483647 from W3.int t_a0 16) (fun gk11f3 gk12f3 gk13f3 gk14f3 gk15f3 gk16f3 gf3 ri22 ri23 ri24 ri25 ri26 ri27 => ?_)
        exact c_iret C dX11_cellOfLine_56 rfl (by decide) (rom0 hph hph (by decide)) ⟨f3, rfl, rfl, rfl, rfl, rfl, F2, W3, ⟨by omega, by omega⟩, trivial, gk11f3, gk12f3, gk13f3, gk14f3, gk15f3, gk16f3⟩
      · refine c_aload_n (j := 1) (x := a0) C dX11_cellOfLine_38 rfl ?_
        refine c_iconst C dX11_cellOfLine_39 ?_
        refine d_callV (As := [.int (iI 2)]) (rest := []) C hM (C_refuse (a0 := a0) (x := 2) hW hS t_a0 ⟨by decide, by decide⟩ ) dX11_cellOfLine_40 kV_X11_102 rfl t_a0 rfl rfl (by decide) ck_12 rfl (Nat.le_of_ble_eq_true rfl) ⟨(Nat.le_of_ble_eq_true rfl), (Nat.le_of_ble_eq_true rfl)⟩ hph hph (show 0 + 0 = 0 from rfl) (by decide) (fun rh4 Lh4 clh4 lnh4 ivh4 rvh4 h4 => ?_)
        obtain ⟨f4, rfl, rfl, rfl, rfl, rfl, fl4, W4, rgf4, exf4, kp11f4, kp12f4, kp13f4, kp14f4, kp15f4, kp16f4⟩ := h4
        refine hv7 (show 1 ≤ iv a0 11 ∧ iv a0 11 ≤ 100 from hW.int t_a0 11) (show 1 ≤ iv a0 12 ∧ iv a0 12 ≤ 50 from hW.int t_a0 12) (show (-2147483648) ≤ iv a0 13 ∧ iv a0 13 ≤ 2147483647 from hW.int t_a0 13) (show (-2147483648) ≤ iv a0 14 ∧ iv a0 14 ≤ 2147483647 from hW.int t_a0 14) (show (-2147483648) ≤ iv a0 15 ∧ iv a0 15 ≤ 2147483647 from hW.int t_a0 15) (show (-2147483648) ≤ iv a0 16 ∧ iv a0 16 ≤ 2147483647 from hW.int t_a0 16) (hF0.call hX0 fl4 rfl) (fun ri28 ri29 ri30 ri31 ri32 ri33 F3 => ?_)
        refine c_st (st2 := [.int (iI f4)]) rfl ?_
        refine hv7 (show ivh4 a0 11 = iv a0 11 from kp11f4) (show ivh4 a0 12 = iv a0 12 from kp12f4) (show ivh4 a0 13 = iv a0 13 from kp13f4) (show ivh4 a0 14 = iv a0 14 from kp14f4) (show ivh4 a0 15 = iv a0 15 from kp15f4) (show ivh4 a0 16 = iv a0 16 from kp16f4) (show f4 = -1 from exf4) (fun gk11f4 gk12f4 gk13f4 gk14f4 gk15f4 gk16f4 gf4 => ?_)
        refine c_goto (tgt := 56) C dX11_cellOfLine_43 (by decide) ?_
        refine hv6 (show 1 ≤ ivh4 a0 11 ∧ ivh4 a0 11 ≤ 100 from W4.int t_a0 11) (show 1 ≤ ivh4 a0 12 ∧ ivh4 a0 12 ≤ 50 from W4.int t_a0 12) (show (-2147483648) ≤ ivh4 a0 13 ∧ ivh4 a0 13 ≤ 2147483647 from W4.int t_a0 13) (show (-2147483648) ≤ ivh4 a0 14 ∧ ivh4 a0 14 ≤ 2147483647 from W4.int t_a0 14) (show (-2147483648) ≤ ivh4 a0 15 ∧ ivh4 a0 15 ≤ 2147483647 from W4.int t_a0 15) (show (-2147483648) ≤ ivh4 a0 16 ∧ ivh4 a0 16 ≤ 2147483647 from W4.int t_a0 16) (fun ri34 ri35 ri36 ri37 ri38 ri39 => ?_)
        exact c_iret C dX11_cellOfLine_56 rfl (by decide) (rom0 hph hph (by decide)) ⟨f4, rfl, rfl, rfl, rfl, rfl, F3, W4, ⟨by omega, by omega⟩, trivial, gk11f4, gk12f4, gk13f4, gk14f4, gk15f4, gk16f4⟩
  · subst oq1
    refine c_lv (lv2 := [(3, .null), (0, .ref a0), (1, .int (iI i)), (2, .int (iI j))]) [0, 1, 2, 3] rfl ?_
    refine c_st (st2 := []) rfl ?_
    refine c_aload_n (j := 1) (x := a0) C dX11_cellOfLine_13 rfl ?_
    refine c_aload_n (j := 1) (x := a0) C dX11_cellOfLine_14 rfl ?_
    refine c_getr (k := 9) C ck_12 dX11_cellOfLine_15 w2_53 (by decide) t_a0 rfl rfl (by decide) rfl rq1 ?_
    refine c_st (st2 := [.ref rb1, .ref a0]) rfl ?_
    refine c_iload_n (j := 2) C dX11_cellOfLine_18 rfl ?_
    refine d_callV (As := [.int (iI i)]) (rest := [.ref a0]) C hM (C_whyNone (a0 := rb1) (i := i) hW hS trb1 (by omega) ) dX11_cellOfLine_19 kV_X11_292 rfl trb1 rfl rfl (by decide) ck_8 rfl (Nat.le_of_ble_eq_true rfl) ⟨(Nat.le_of_ble_eq_true rfl), (Nat.le_of_ble_eq_true rfl)⟩ hph hph (show 0 + 0 = 0 from rfl) (by decide) (fun rh5 Lh5 clh5 lnh5 ivh5 rvh5 h5 => ?_)
    obtain ⟨f5, rfl, rfl, rfl, rfl, rfl, rfl, rgf5, exf5⟩ := h5
    refine c_st (st2 := [.int (iI f5), .ref a0]) rfl ?_
    have gf5 : f5 = 1 ∨ f5 = 2 := exf5
    refine d_callV (As := [.int (iI f5)]) (rest := []) C hM (C_refuse (a0 := a0) (x := f5) hW hS t_a0 (by omega) ) dX11_cellOfLine_22 kV_X11_102 rfl t_a0 rfl rfl (by decide) ck_12 rfl (Nat.le_of_ble_eq_true rfl) ⟨(Nat.le_of_ble_eq_true rfl), (Nat.le_of_ble_eq_true rfl)⟩ hph hph (show 0 + 0 = 0 from rfl) (by decide) (fun rh6 Lh6 clh6 lnh6 ivh6 rvh6 h6 => ?_)
    obtain ⟨f6, rfl, rfl, rfl, rfl, rfl, fl6, W6, rgf6, exf6, kp11f6, kp12f6, kp13f6, kp14f6, kp15f6, kp16f6⟩ := h6
    refine hv7 (show 1 ≤ iv a0 11 ∧ iv a0 11 ≤ 100 from hW.int t_a0 11) (show 1 ≤ iv a0 12 ∧ iv a0 12 ≤ 50 from hW.int t_a0 12) (show (-2147483648) ≤ iv a0 13 ∧ iv a0 13 ≤ 2147483647 from hW.int t_a0 13) (show (-2147483648) ≤ iv a0 14 ∧ iv a0 14 ≤ 2147483647 from hW.int t_a0 14) (show (-2147483648) ≤ iv a0 15 ∧ iv a0 15 ≤ 2147483647 from hW.int t_a0 15) (show (-2147483648) ≤ iv a0 16 ∧ iv a0 16 ≤ 2147483647 from hW.int t_a0 16) (hF0.call hX0 fl6 rfl) (fun ri40 ri41 ri42 ri43 ri44 ri45 F4 => ?_)
    refine c_st (st2 := [.int (iI f6)]) rfl ?_
    refine hv13 (show ivh6 a0 11 = iv a0 11 from kp11f6) (show ivh6 a0 12 = iv a0 12 from kp12f6) (show ivh6 a0 13 = iv a0 13 from kp13f6) (show ivh6 a0 14 = iv a0 14 from kp14f6) (show ivh6 a0 15 = iv a0 15 from kp15f6) (show ivh6 a0 16 = iv a0 16 from kp16f6) (show f6 = -1 from exf6) (show 1 ≤ ivh6 a0 11 ∧ ivh6 a0 11 ≤ 100 from W6.int t_a0 11) (show 1 ≤ ivh6 a0 12 ∧ ivh6 a0 12 ≤ 50 from W6.int t_a0 12) (show (-2147483648) ≤ ivh6 a0 13 ∧ ivh6 a0 13 ≤ 2147483647 from W6.int t_a0 13) (show (-2147483648) ≤ ivh6 a0 14 ∧ ivh6 a0 14 ≤ 2147483647 from W6.int t_a0 14) (show (-2147483648) ≤ ivh6 a0 15 ∧ ivh6 a0 15 ≤ 2147483647 from W6.int t_a0 15) (show (-2147483648) ≤ ivh6 a0 16 ∧ ivh6 a0 16 ≤ 2147483647 from W6.int t_a0 16) (fun gk11f6 gk12f6 gk13f6 gk14f6 gk15f6 gk16f6 gf6 ri46 ri47 ri48 ri49 ri50 ri51 => ?_)
    exact c_iret C dX11_cellOfLine_25 rfl (by decide) (rom0 hph hph (by decide)) ⟨f6, rfl, rfl, rfl, rfl, rfl, F4, W6, ⟨by omega, by omega⟩, trivial, gk11f6, gk12f6, gk13f6, gk14f6, gk15f6, gk16f6⟩
set_option maxHeartbeats 4000000 in
set_option maxRecDepth 100000 in
theorem C_cell {l : Launch} {G : GT} {mi : Nat} {sk : Nat → Nat} {L : List Nat} {cl ln : Nat → Nat} {iv : Nat → Nat → Int} {rv : Nat → Nat → Option Nat}  {a0 : Nat} {i : Int} {j : Int} (hW : WT (g0 G) sk L cl ln iv rv) (hS : SKL sk L cl) (t_a0 : ty L cl a0 1) (h_i : -2147483648 ≤ i ∧ i ≤ 2147483647) (h_j : -2147483648 ≤ j ∧ j ≤ 2147483647)  : Mc l G mi (Phi (g0 G) sk) PHM yX11_cell cX11_cell 3 (some .int) 3 [.ref a0, .int (iI i), .int (iI j)] L cl ln iv rv 0 (fun v L2 cl2 ln2 iv2 rv2 => ∃ f : Int, v = some (.int (iI f)) ∧ L = L2 ∧ cl = cl2 ∧ ln = ln2 ∧ rv = rv2 ∧ fT [1] L cl iv rv iv2 rv2 ∧ WT (g0 G) sk L2 cl2 ln2 iv2 rv2 ∧ (-2147483648 ≤ f ∧ f ≤ 2147483647) ∧ (True) ∧ iv2 a0 11 = iv a0 11 ∧ iv2 a0 12 = iv a0 12 ∧ iv2 a0 13 = iv a0 13 ∧ iv2 a0 14 = iv a0 14 ∧ iv2 a0 15 = iv a0 15 ∧ iv2 a0 16 = iv a0 16) := by
  refine Mc.mk (by decide) (Nat.le_of_ble_eq_true rfl) ?_
  intro p e s m args below meth c A C hM
  refine hv3 (Phi.le hW hS) (show XT L cl ln L cl ln from XT.refl) (show fT [1] L cl iv rv iv rv from fT.refl) (fun hph hX0 hF0 => ?_)
  refine c_aload_n (j := 0) (x := a0) C dX11_cell_0 rfl ?_
  refine c_iload_n (j := 1) C dX11_cell_1 rfl ?_
  refine c_iload_n (j := 2) C dX11_cell_2 rfl ?_
  refine d_callV (As := [.int (iI i), .int (iI j)]) (rest := []) C hM (C_cellOfLine (a0 := a0) (i := i) (j := j) hW hS t_a0 (by omega) (by omega) ) dX11_cell_3 kV_X11_298 rfl t_a0 rfl rfl (by decide) ck_12 rfl (Nat.le_of_ble_eq_true rfl) ⟨(Nat.le_of_ble_eq_true rfl), (Nat.le_of_ble_eq_true rfl)⟩ hph hph (show 0 + 0 = 0 from rfl) (by decide) (fun rh1 Lh1 clh1 lnh1 ivh1 rvh1 h1 => ?_)
  obtain ⟨f1, rfl, rfl, rfl, rfl, rfl, fl1, W1, rgf1, exf1, kp11f1, kp12f1, kp13f1, kp14f1, kp15f1, kp16f1⟩ := h1
  refine hv7 (show 1 ≤ iv a0 11 ∧ iv a0 11 ≤ 100 from hW.int t_a0 11) (show 1 ≤ iv a0 12 ∧ iv a0 12 ≤ 50 from hW.int t_a0 12) (show (-2147483648) ≤ iv a0 13 ∧ iv a0 13 ≤ 2147483647 from hW.int t_a0 13) (show (-2147483648) ≤ iv a0 14 ∧ iv a0 14 ≤ 2147483647 from hW.int t_a0 14) (show (-2147483648) ≤ iv a0 15 ∧ iv a0 15 ≤ 2147483647 from hW.int t_a0 15) (show (-2147483648) ≤ iv a0 16 ∧ iv a0 16 ≤ 2147483647 from hW.int t_a0 16) (hF0.call hX0 fl1 rfl) (fun ri1 ri2 ri3 ri4 ri5 ri6 F1 => ?_)
  refine c_st (st2 := [.int (iI f1)]) rfl ?_
  refine hv12 (show ivh1 a0 11 = iv a0 11 from kp11f1) (show ivh1 a0 12 = iv a0 12 from kp12f1) (show ivh1 a0 13 = iv a0 13 from kp13f1) (show ivh1 a0 14 = iv a0 14 from kp14f1) (show ivh1 a0 15 = iv a0 15 from kp15f1) (show ivh1 a0 16 = iv a0 16 from kp16f1) (show 1 ≤ ivh1 a0 11 ∧ ivh1 a0 11 ≤ 100 from W1.int t_a0 11) (show 1 ≤ ivh1 a0 12 ∧ ivh1 a0 12 ≤ 50 from W1.int t_a0 12) (show (-2147483648) ≤ ivh1 a0 13 ∧ ivh1 a0 13 ≤ 2147483647 from W1.int t_a0 13) (show (-2147483648) ≤ ivh1 a0 14 ∧ ivh1 a0 14 ≤ 2147483647 from W1.int t_a0 14) (show (-2147483648) ≤ ivh1 a0 15 ∧ ivh1 a0 15 ≤ 2147483647 from W1.int t_a0 15) (show (-2147483648) ≤ ivh1 a0 16 ∧ ivh1 a0 16 ≤ 2147483647 from W1.int t_a0 16) (fun gk11f1 gk12f1 gk13f1 gk14f1 gk15f1 gk16f1 ri7 ri8 ri9 ri10 ri11 ri12 => ?_)
  exact c_iret C dX11_cell_6 rfl (by decide) (rom0 hph hph (by decide)) ⟨f1, rfl, rfl, rfl, rfl, rfl, F1, W1, ⟨by omega, by omega⟩, trivial, gk11f1, gk12f1, gk13f1, gk14f1, gk15f1, gk16f1⟩
set_option maxHeartbeats 4000000 in
set_option maxRecDepth 100000 in
theorem C_page {l : Launch} {G : GT} {mi : Nat} {sk : Nat → Nat} {L : List Nat} {cl ln : Nat → Nat} {iv : Nat → Nat → Int} {rv : Nat → Nat → Option Nat}  {a0 : Nat} {i : Int} {j : Int} {k : Int} (hW : WT (g0 G) sk L cl ln iv rv) (hS : SKL sk L cl) (t_a0 : ty L cl a0 1) (h_i : -2147483648 ≤ i ∧ i ≤ 2147483647) (h_j : -2147483648 ≤ j ∧ j ≤ 2147483647) (h_k : -2147483648 ≤ k ∧ k ≤ 2147483647)  : Mc l G mi (Phi (g0 G) sk) PHM yX11_page cX11_page 5 (some .int) 3 [.ref a0, .int (iI i), .int (iI j), .int (iI k)] L cl ln iv rv 0 (fun v L2 cl2 ln2 iv2 rv2 => ∃ f : Int, v = some (.int (iI f)) ∧ L = L2 ∧ cl = cl2 ∧ ln = ln2 ∧ rv = rv2 ∧ fT [1] L cl iv rv iv2 rv2 ∧ WT (g0 G) sk L2 cl2 ln2 iv2 rv2 ∧ (-2147483648 ≤ f ∧ f ≤ 2147483647) ∧ (True) ∧ iv2 a0 11 = iv a0 11 ∧ iv2 a0 12 = iv a0 12 ∧ iv2 a0 13 = iv a0 13 ∧ iv2 a0 14 = iv a0 14 ∧ iv2 a0 15 = iv a0 15 ∧ iv2 a0 16 = iv a0 16) := by
  refine Mc.mk (by decide) (Nat.le_of_ble_eq_true rfl) ?_
  intro p e s m args below meth c A C hM
  refine hv14 (Phi.le hW hS) (show ty L cl (sk 2) 2 from ⟨(hS 2 rfl).1, by rw [(hS 2 rfl).2]; rfl⟩) (show ty L cl (sk 3) 3 from ⟨(hS 3 rfl).1, by rw [(hS 3 rfl).2]; rfl⟩) (show ty L cl (sk 4) 4 from ⟨(hS 4 rfl).1, by rw [(hS 4 rfl).2]; rfl⟩) (show ty L cl (sk 5) 5 from ⟨(hS 5 rfl).1, by rw [(hS 5 rfl).2]; rfl⟩) (show ty L cl (sk 13) 13 from ⟨(hS 13 rfl).1, by rw [(hS 13 rfl).2]; rfl⟩) (show ty L cl (sk 14) 14 from ⟨(hS 14 rfl).1, by rw [(hS 14 rfl).2]; rfl⟩) (show ty L cl (sk 15) 15 from ⟨(hS 15 rfl).1, by rw [(hS 15 rfl).2]; rfl⟩) (show ty L cl (sk 16) 16 from ⟨(hS 16 rfl).1, by rw [(hS 16 rfl).2]; rfl⟩) (show ty L cl (sk 17) 17 from ⟨(hS 17 rfl).1, by rw [(hS 17 rfl).2]; rfl⟩) (show ty L cl (sk 22) 22 from ⟨(hS 22 rfl).1, by rw [(hS 22 rfl).2]; rfl⟩) (show ty L cl (sk 23) 23 from ⟨(hS 23 rfl).1, by rw [(hS 23 rfl).2]; rfl⟩) (show XT L cl ln L cl ln from XT.refl) (show fT [1] L cl iv rv iv rv from fT.refl) (fun hph tsk2 tsk3 tsk4 tsk5 tsk13 tsk14 tsk15 tsk16 tsk17 tsk22 tsk23 hX0 hF0 => ?_)
  refine c_iload_n (j := 1) C dX11_page_0 rfl ?_
  refine c_if_lt (tgt := 24) C ⟨by omega, by omega⟩ dX11_page_1 (by decide) (fun c1 => ?_) (fun c1 => ?_)
  · refine c_aload_n (j := 0) (x := a0) C dX11_page_24 rfl ?_
    refine c_iconst C dX11_page_25 ?_
    refine d_callV (As := [.int (iI 2)]) (rest := []) C hM (C_refuse (a0 := a0) (x := 2) hW hS t_a0 ⟨by decide, by decide⟩ ) dX11_page_26 kV_X11_102 rfl t_a0 rfl rfl (by decide) ck_12 rfl (Nat.le_of_ble_eq_true rfl) ⟨(Nat.le_of_ble_eq_true rfl), (Nat.le_of_ble_eq_true rfl)⟩ hph hph (show 0 + 0 = 0 from rfl) (by decide) (fun rh1 Lh1 clh1 lnh1 ivh1 rvh1 h1 => ?_)
    obtain ⟨f1, rfl, rfl, rfl, rfl, rfl, fl1, W1, rgf1, exf1, kp11f1, kp12f1, kp13f1, kp14f1, kp15f1, kp16f1⟩ := h1
    refine hv7 (show 1 ≤ iv a0 11 ∧ iv a0 11 ≤ 100 from hW.int t_a0 11) (show 1 ≤ iv a0 12 ∧ iv a0 12 ≤ 50 from hW.int t_a0 12) (show (-2147483648) ≤ iv a0 13 ∧ iv a0 13 ≤ 2147483647 from hW.int t_a0 13) (show (-2147483648) ≤ iv a0 14 ∧ iv a0 14 ≤ 2147483647 from hW.int t_a0 14) (show (-2147483648) ≤ iv a0 15 ∧ iv a0 15 ≤ 2147483647 from hW.int t_a0 15) (show (-2147483648) ≤ iv a0 16 ∧ iv a0 16 ≤ 2147483647 from hW.int t_a0 16) (hF0.call hX0 fl1 rfl) (fun ri1 ri2 ri3 ri4 ri5 ri6 F1 => ?_)
    refine c_st (st2 := [.int (iI f1)]) rfl ?_
    refine hv13 (show ivh1 a0 11 = iv a0 11 from kp11f1) (show ivh1 a0 12 = iv a0 12 from kp12f1) (show ivh1 a0 13 = iv a0 13 from kp13f1) (show ivh1 a0 14 = iv a0 14 from kp14f1) (show ivh1 a0 15 = iv a0 15 from kp15f1) (show ivh1 a0 16 = iv a0 16 from kp16f1) (show f1 = -1 from exf1) (show 1 ≤ ivh1 a0 11 ∧ ivh1 a0 11 ≤ 100 from W1.int t_a0 11) (show 1 ≤ ivh1 a0 12 ∧ ivh1 a0 12 ≤ 50 from W1.int t_a0 12) (show (-2147483648) ≤ ivh1 a0 13 ∧ ivh1 a0 13 ≤ 2147483647 from W1.int t_a0 13) (show (-2147483648) ≤ ivh1 a0 14 ∧ ivh1 a0 14 ≤ 2147483647 from W1.int t_a0 14) (show (-2147483648) ≤ ivh1 a0 15 ∧ ivh1 a0 15 ≤ 2147483647 from W1.int t_a0 15) (show (-2147483648) ≤ ivh1 a0 16 ∧ ivh1 a0 16 ≤ 2147483647 from W1.int t_a0 16) (fun gk11f1 gk12f1 gk13f1 gk14f1 gk15f1 gk16f1 gf1 ri7 ri8 ri9 ri10 ri11 ri12 => ?_)
    exact c_iret C dX11_page_29 rfl (by decide) (rom0 hph hph (by decide)) ⟨f1, rfl, rfl, rfl, rfl, rfl, F1, W1, ⟨by omega, by omega⟩, trivial, gk11f1, gk12f1, gk13f1, gk14f1, gk15f1, gk16f1⟩
  · refine c_iload_n (j := 1) C dX11_page_4 rfl ?_
    refine c_aload_n (j := 0) (x := a0) C dX11_page_5 rfl ?_
    refine d_callV (As := []) (rest := [.int (iI i)]) C hM (C_pages (a0 := a0) hW hS t_a0  ) dX11_page_6 kV_X11_302 rfl t_a0 rfl rfl (by decide) ck_12 rfl (Nat.le_of_ble_eq_true rfl) ⟨(Nat.le_of_ble_eq_true rfl), (Nat.le_of_ble_eq_true rfl)⟩ hph hph (show 0 + 0 = 0 from rfl) (by decide) (fun rh2 Lh2 clh2 lnh2 ivh2 rvh2 h2 => ?_)
    obtain ⟨f2, rfl, rfl, rfl, rfl, rfl, rfl, rgf2, exf2⟩ := h2
    refine c_st (st2 := [.int (iI f2), .int (iI i)]) rfl ?_
    refine c_icmp_ge (tgt := 24) C ⟨by omega, by omega⟩ ⟨by omega, by omega⟩ dX11_page_9 (by decide) (fun c2 => ?_) (fun c2 => ?_)
    · refine c_aload_n (j := 0) (x := a0) C dX11_page_24 rfl ?_
      refine c_iconst C dX11_page_25 ?_
      refine d_callV (As := [.int (iI 2)]) (rest := []) C hM (C_refuse (a0 := a0) (x := 2) hW hS t_a0 ⟨by decide, by decide⟩ ) dX11_page_26 kV_X11_102 rfl t_a0 rfl rfl (by decide) ck_12 rfl (Nat.le_of_ble_eq_true rfl) ⟨(Nat.le_of_ble_eq_true rfl), (Nat.le_of_ble_eq_true rfl)⟩ hph hph (show 0 + 0 = 0 from rfl) (by decide) (fun rh3 Lh3 clh3 lnh3 ivh3 rvh3 h3 => ?_)
      obtain ⟨f3, rfl, rfl, rfl, rfl, rfl, fl3, W3, rgf3, exf3, kp11f3, kp12f3, kp13f3, kp14f3, kp15f3, kp16f3⟩ := h3
      refine hv7 (show 1 ≤ iv a0 11 ∧ iv a0 11 ≤ 100 from hW.int t_a0 11) (show 1 ≤ iv a0 12 ∧ iv a0 12 ≤ 50 from hW.int t_a0 12) (show (-2147483648) ≤ iv a0 13 ∧ iv a0 13 ≤ 2147483647 from hW.int t_a0 13) (show (-2147483648) ≤ iv a0 14 ∧ iv a0 14 ≤ 2147483647 from hW.int t_a0 14) (show (-2147483648) ≤ iv a0 15 ∧ iv a0 15 ≤ 2147483647 from hW.int t_a0 15) (show (-2147483648) ≤ iv a0 16 ∧ iv a0 16 ≤ 2147483647 from hW.int t_a0 16) (hF0.call hX0 fl3 rfl) (fun ri13 ri14 ri15 ri16 ri17 ri18 F2 => ?_)
      refine c_st (st2 := [.int (iI f3)]) rfl ?_
      refine hv13 (show ivh3 a0 11 = iv a0 11 from kp11f3) (show ivh3 a0 12 = iv a0 12 from kp12f3) (show ivh3 a0 13 = iv a0 13 from kp13f3) (show ivh3 a0 14 = iv a0 14 from kp14f3) (show ivh3 a0 15 = iv a0 15 from kp15f3) (show ivh3 a0 16 = iv a0 16 from kp16f3) (show f3 = -1 from exf3) (show 1 ≤ ivh3 a0 11 ∧ ivh3 a0 11 ≤ 100 from W3.int t_a0 11) (show 1 ≤ ivh3 a0 12 ∧ ivh3 a0 12 ≤ 50 from W3.int t_a0 12) (show (-2147483648) ≤ ivh3 a0 13 ∧ ivh3 a0 13 ≤ 2147483647 from W3.int t_a0 13) (show (-2147483648) ≤ ivh3 a0 14 ∧ ivh3 a0 14 ≤ 2147483647 from W3.int t_a0 14) (show (-2147483648) ≤ ivh3 a0 15 ∧ ivh3 a0 15 ≤ 2147483647 from W3.int t_a0 15) (show (-2147483648) ≤ ivh3 a0 16 ∧ ivh3 a0 16 ≤ 2147483647 from W3.int t_a0 16) (fun gk11f3 gk12f3 gk13f3 gk14f3 gk15f3 gk16f3 gf3 ri19 ri20 ri21 ri22 ri23 ri24 => ?_)
      exact c_iret C dX11_page_29 rfl (by decide) (rom0 hph hph (by decide)) ⟨f3, rfl, rfl, rfl, rfl, rfl, F2, W3, ⟨by omega, by omega⟩, trivial, gk11f3, gk12f3, gk13f3, gk14f3, gk15f3, gk16f3⟩
    · refine c_iload_n (j := 2) C dX11_page_12 rfl ?_
      refine c_if_lt (tgt := 24) C ⟨by omega, by omega⟩ dX11_page_13 (by decide) (fun c3 => ?_) (fun c3 => ?_)
      · refine c_aload_n (j := 0) (x := a0) C dX11_page_24 rfl ?_
        refine c_iconst C dX11_page_25 ?_
        refine d_callV (As := [.int (iI 2)]) (rest := []) C hM (C_refuse (a0 := a0) (x := 2) hW hS t_a0 ⟨by decide, by decide⟩ ) dX11_page_26 kV_X11_102 rfl t_a0 rfl rfl (by decide) ck_12 rfl (Nat.le_of_ble_eq_true rfl) ⟨(Nat.le_of_ble_eq_true rfl), (Nat.le_of_ble_eq_true rfl)⟩ hph hph (show 0 + 0 = 0 from rfl) (by decide) (fun rh4 Lh4 clh4 lnh4 ivh4 rvh4 h4 => ?_)
        obtain ⟨f4, rfl, rfl, rfl, rfl, rfl, fl4, W4, rgf4, exf4, kp11f4, kp12f4, kp13f4, kp14f4, kp15f4, kp16f4⟩ := h4
        refine hv7 (show 1 ≤ iv a0 11 ∧ iv a0 11 ≤ 100 from hW.int t_a0 11) (show 1 ≤ iv a0 12 ∧ iv a0 12 ≤ 50 from hW.int t_a0 12) (show (-2147483648) ≤ iv a0 13 ∧ iv a0 13 ≤ 2147483647 from hW.int t_a0 13) (show (-2147483648) ≤ iv a0 14 ∧ iv a0 14 ≤ 2147483647 from hW.int t_a0 14) (show (-2147483648) ≤ iv a0 15 ∧ iv a0 15 ≤ 2147483647 from hW.int t_a0 15) (show (-2147483648) ≤ iv a0 16 ∧ iv a0 16 ≤ 2147483647 from hW.int t_a0 16) (hF0.call hX0 fl4 rfl) (fun ri25 ri26 ri27 ri28 ri29 ri30 F3 => ?_)
        refine c_st (st2 := [.int (iI f4)]) rfl ?_
        refine hv13 (show ivh4 a0 11 = iv a0 11 from kp11f4) (show ivh4 a0 12 = iv a0 12 from kp12f4) (show ivh4 a0 13 = iv a0 13 from kp13f4) (show ivh4 a0 14 = iv a0 14 from kp14f4) (show ivh4 a0 15 = iv a0 15 from kp15f4) (show ivh4 a0 16 = iv a0 16 from kp16f4) (show f4 = -1 from exf4) (show 1 ≤ ivh4 a0 11 ∧ ivh4 a0 11 ≤ 100 from W4.int t_a0 11) (show 1 ≤ ivh4 a0 12 ∧ ivh4 a0 12 ≤ 50 from W4.int t_a0 12) (show (-2147483648) ≤ ivh4 a0 13 ∧ ivh4 a0 13 ≤ 2147483647 from W4.int t_a0 13) (show (-2147483648) ≤ ivh4 a0 14 ∧ ivh4 a0 14 ≤ 2147483647 from W4.int t_a0 14) (show (-2147483648) ≤ ivh4 a0 15 ∧ ivh4 a0 15 ≤ 2147483647 from W4.int t_a0 15) (show (-2147483648) ≤ ivh4 a0 16 ∧ ivh4 a0 16 ≤ 2147483647 from W4.int t_a0 16) (fun gk11f4 gk12f4 gk13f4 gk14f4 gk15f4 gk16f4 gf4 ri31 ri32 ri33 ri34 ri35 ri36 => ?_)
        exact c_iret C dX11_page_29 rfl (by decide) (rom0 hph hph (by decide)) ⟨f4, rfl, rfl, rfl, rfl, rfl, F3, W4, ⟨by omega, by omega⟩, trivial, gk11f4, gk12f4, gk13f4, gk14f4, gk15f4, gk16f4⟩
      · refine c_iload_n (j := 2) C dX11_page_16 rfl ?_
        refine c_aload_n (j := 0) (x := a0) C dX11_page_17 rfl ?_
        have ri37 : 1 ≤ iv a0 12 ∧ iv a0 12 ≤ 50 := hW.int t_a0 12
        refine c_get (k := 12) C ck_12 dX11_page_18 w2_56 (by decide) t_a0 rfl rfl (by decide) rfl ?_
        refine c_icmp_lt (tgt := 30) C ⟨by omega, by omega⟩ (r32_c (lo := 1) (hi := 50) ri37.1 ri37.2 (by decide) (by decide)) dX11_page_21 (by decide) (fun c4 => ?_) (fun c4 => ?_)
        · refine c_aload_n (j := 0) (x := a0) C dX11_page_30 rfl ?_
          refine d_callV (As := []) (rest := []) C hM (C_hasHeader (a0 := a0) hW hS t_a0  ) dX11_page_31 kV_X11_285 rfl t_a0 rfl rfl (by decide) ck_12 rfl (Nat.le_of_ble_eq_true rfl) ⟨(Nat.le_of_ble_eq_true rfl), (Nat.le_of_ble_eq_true rfl)⟩ hph hph (show 0 + 0 = 0 from rfl) (by decide) (fun rh5 Lh5 clh5 lnh5 ivh5 rvh5 h5 => ?_)
          obtain ⟨f5, rfl, rfl, rfl, rfl, rfl, rfl, rgf5, exf5⟩ := h5
          refine c_st (st2 := [.int (iI f5)]) rfl ?_
          have gf5 : f5 = 0 ∨ 2 ≤ iv a0 12 := exf5
          refine c_if_eq (tgt := 41) C ⟨by omega, by omega⟩ dX11_page_34 (by decide) (fun c5 => ?_) (fun c5 => ?_)
          · clear gf5
            refine c_iconst C dX11_page_41 ?_
            refine c_istore (lv2 := [(4, .int (iI 0)), (0, .ref a0), (1, .int (iI i)), (2, .int (iI j)), (3, .int (iI k))]) C dX11_page_42 (by decide) rfl ?_
            refine c_iload_n (j := 3) C dX11_page_44 rfl ?_
            refine c_iload (j := 0) C dX11_page_45 rfl ?_
            refine c_icmp_ge (tgt := 86) C ⟨by omega, by omega⟩ ⟨by decide, by decide⟩ dX11_page_47 (by decide) (fun _ => ?_) (fun z => absurd z (by omega))
            refine c_aload_n (j := 1) (x := a0) C dX11_page_86 rfl ?_
            refine c_iload_n (j := 2) C dX11_page_87 rfl ?_
            refine c_aload_n (j := 1) (x := a0) C dX11_page_88 rfl ?_
            refine d_callV (As := []) (rest := [.int (iI i), .ref a0]) C hM (C_linesOfPage (a0 := a0) hW hS t_a0  ) dX11_page_89 kV_X11_282 rfl t_a0 rfl rfl (by decide) ck_12 rfl (Nat.le_of_ble_eq_true rfl) ⟨(Nat.le_of_ble_eq_true rfl), (Nat.le_of_ble_eq_true rfl)⟩ hph hph (show 0 + 0 = 0 from rfl) (by decide) (fun rh6 Lh6 clh6 lnh6 ivh6 rvh6 h6 => ?_)
            obtain ⟨f6, rfl, rfl, rfl, rfl, rfl, rfl, rgf6, exf6⟩ := h6
            refine c_st (st2 := [.int (iI f6), .int (iI i), .ref a0]) rfl ?_
            have gf6 : 1 ≤ f6 ∧ f6 ≤ 50 := exf6
            refine c_imul C dX11_page_92 ?_
            obtain ⟨zz1, hzz1, ezz1⟩ := iI_of (iI (i * f6))
            refine c_st (st2 := [.int (iI zz1), .ref a0]) (by rw [ezz1]) ?_
            refine c_iload_n (j := 3) C dX11_page_93 rfl ?_
            refine c_iadd C dX11_page_94 ?_
            obtain ⟨zz2, hzz2, ezz2⟩ := iI_of (iI (zz1 + j))
            refine c_st (st2 := [.int (iI zz2), .ref a0]) (by rw [ezz2]) ?_
            refine c_iload (j := 0) C dX11_page_95 rfl ?_
            refine c_isub C dX11_page_97 ?_
            obtain ⟨zz3, hzz3, ezz3⟩ := iI_of (iI (zz2 - 0))
            refine c_st (st2 := [.int (iI zz3), .ref a0]) (by rw [ezz3]) ?_
            refine c_iload_n (j := 4) C dX11_page_98 rfl ?_
            refine d_callV (As := [.int (iI zz3), .int (iI k)]) (rest := []) C hM (C_cellOfLine (a0 := a0) (i := zz3) (j := k) hW hS t_a0 (by omega) (by omega) ) dX11_page_99 kV_X11_298 rfl t_a0 rfl rfl (by decide) ck_12 rfl (Nat.le_of_ble_eq_true rfl) ⟨(Nat.le_of_ble_eq_true rfl), (Nat.le_of_ble_eq_true rfl)⟩ hph hph (show 0 + 0 = 0 from rfl) (by decide) (fun rh7 Lh7 clh7 lnh7 ivh7 rvh7 h7 => ?_)
            obtain ⟨f7, rfl, rfl, rfl, rfl, rfl, fl7, W7, rgf7, exf7, kp11f7, kp12f7, kp13f7, kp14f7, kp15f7, kp16f7⟩ := h7
            refine hv6 (show 1 ≤ iv a0 11 ∧ iv a0 11 ≤ 100 from hW.int t_a0 11) (show (-2147483648) ≤ iv a0 13 ∧ iv a0 13 ≤ 2147483647 from hW.int t_a0 13) (show (-2147483648) ≤ iv a0 14 ∧ iv a0 14 ≤ 2147483647 from hW.int t_a0 14) (show (-2147483648) ≤ iv a0 15 ∧ iv a0 15 ≤ 2147483647 from hW.int t_a0 15) (show (-2147483648) ≤ iv a0 16 ∧ iv a0 16 ≤ 2147483647 from hW.int t_a0 16) (hF0.call hX0 fl7 rfl) (fun ri38 ri39 ri40 ri41 ri42 F4 => ?_)
            refine c_st (st2 := [.int (iI f7)]) rfl ?_
            refine hv12 (show ivh7 a0 11 = iv a0 11 from kp11f7) (show ivh7 a0 12 = iv a0 12 from kp12f7) (show ivh7 a0 13 = iv a0 13 from kp13f7) (show ivh7 a0 14 = iv a0 14 from kp14f7) (show ivh7 a0 15 = iv a0 15 from kp15f7) (show ivh7 a0 16 = iv a0 16 from kp16f7) (show 1 ≤ ivh7 a0 11 ∧ ivh7 a0 11 ≤ 100 from W7.int t_a0 11) (show 1 ≤ ivh7 a0 12 ∧ ivh7 a0 12 ≤ 50 from W7.int t_a0 12) (show (-2147483648) ≤ ivh7 a0 13 ∧ ivh7 a0 13 ≤ 2147483647 from W7.int t_a0 13) (show (-2147483648) ≤ ivh7 a0 14 ∧ ivh7 a0 14 ≤ 2147483647 from W7.int t_a0 14) (show (-2147483648) ≤ ivh7 a0 15 ∧ ivh7 a0 15 ≤ 2147483647 from W7.int t_a0 15) (show (-2147483648) ≤ ivh7 a0 16 ∧ ivh7 a0 16 ≤ 2147483647 from W7.int t_a0 16) (fun gk11f7 gk12f7 gk13f7 gk14f7 gk15f7 gk16f7 ri43 ri44 ri45 ri46 ri47 ri48 => ?_)
            exact c_iret C dX11_page_102 rfl (by decide) (rom0 hph hph (by decide)) ⟨f7, rfl, rfl, rfl, rfl, rfl, F4, W7, ⟨by omega, by omega⟩, trivial, gk11f7, gk12f7, gk13f7, gk14f7, gk15f7, gk16f7⟩
          · replace gf5 := (gf5.resolve_left c5)
            refine c_iconst C dX11_page_37 ?_
            refine c_goto (tgt := 42) C dX11_page_38 (by decide) ?_
            refine c_istore (lv2 := [(4, .int (iI 1)), (0, .ref a0), (1, .int (iI i)), (2, .int (iI j)), (3, .int (iI k))]) C dX11_page_42 (by decide) rfl ?_
            refine c_iload_n (j := 3) C dX11_page_44 rfl ?_
            refine c_iload (j := 0) C dX11_page_45 rfl ?_
            refine c_icmp_ge (tgt := 86) C ⟨by omega, by omega⟩ ⟨by decide, by decide⟩ dX11_page_47 (by decide) (fun c6 => ?_) (fun c6 => ?_)
            · refine c_aload_n (j := 1) (x := a0) C dX11_page_86 rfl ?_
              refine c_iload_n (j := 2) C dX11_page_87 rfl ?_
              refine c_aload_n (j := 1) (x := a0) C dX11_page_88 rfl ?_
              refine d_callV (As := []) (rest := [.int (iI i), .ref a0]) C hM (C_linesOfPage (a0 := a0) hW hS t_a0  ) dX11_page_89 kV_X11_282 rfl t_a0 rfl rfl (by decide) ck_12 rfl (Nat.le_of_ble_eq_true rfl) ⟨(Nat.le_of_ble_eq_true rfl), (Nat.le_of_ble_eq_true rfl)⟩ hph hph (show 0 + 0 = 0 from rfl) (by decide) (fun rh8 Lh8 clh8 lnh8 ivh8 rvh8 h8 => ?_)
              obtain ⟨f8, rfl, rfl, rfl, rfl, rfl, rfl, rgf8, exf8⟩ := h8
              refine c_st (st2 := [.int (iI f8), .int (iI i), .ref a0]) rfl ?_
              have gf8 : 1 ≤ f8 ∧ f8 ≤ 50 := exf8
              refine c_imul C dX11_page_92 ?_
              obtain ⟨zz4, hzz4, ezz4⟩ := iI_of (iI (i * f8))
              refine c_st (st2 := [.int (iI zz4), .ref a0]) (by rw [ezz4]) ?_
              refine c_iload_n (j := 3) C dX11_page_93 rfl ?_
              refine c_iadd C dX11_page_94 ?_
              obtain ⟨zz5, hzz5, ezz5⟩ := iI_of (iI (zz4 + j))
              refine c_st (st2 := [.int (iI zz5), .ref a0]) (by rw [ezz5]) ?_
              refine c_iload (j := 0) C dX11_page_95 rfl ?_
              refine c_isub C dX11_page_97 ?_
              obtain ⟨zz6, hzz6, ezz6⟩ := iI_of (iI (zz5 - 1))
              refine c_st (st2 := [.int (iI zz6), .ref a0]) (by rw [ezz6]) ?_
              refine c_iload_n (j := 4) C dX11_page_98 rfl ?_
              refine d_callV (As := [.int (iI zz6), .int (iI k)]) (rest := []) C hM (C_cellOfLine (a0 := a0) (i := zz6) (j := k) hW hS t_a0 (by omega) (by omega) ) dX11_page_99 kV_X11_298 rfl t_a0 rfl rfl (by decide) ck_12 rfl (Nat.le_of_ble_eq_true rfl) ⟨(Nat.le_of_ble_eq_true rfl), (Nat.le_of_ble_eq_true rfl)⟩ hph hph (show 0 + 0 = 0 from rfl) (by decide) (fun rh9 Lh9 clh9 lnh9 ivh9 rvh9 h9 => ?_)
              obtain ⟨f9, rfl, rfl, rfl, rfl, rfl, fl9, W9, rgf9, exf9, kp11f9, kp12f9, kp13f9, kp14f9, kp15f9, kp16f9⟩ := h9
              refine hv6 (show 1 ≤ iv a0 11 ∧ iv a0 11 ≤ 100 from hW.int t_a0 11) (show (-2147483648) ≤ iv a0 13 ∧ iv a0 13 ≤ 2147483647 from hW.int t_a0 13) (show (-2147483648) ≤ iv a0 14 ∧ iv a0 14 ≤ 2147483647 from hW.int t_a0 14) (show (-2147483648) ≤ iv a0 15 ∧ iv a0 15 ≤ 2147483647 from hW.int t_a0 15) (show (-2147483648) ≤ iv a0 16 ∧ iv a0 16 ≤ 2147483647 from hW.int t_a0 16) (hF0.call hX0 fl9 rfl) (fun ri49 ri50 ri51 ri52 ri53 F5 => ?_)
              refine c_st (st2 := [.int (iI f9)]) rfl ?_
              refine hv12 (show ivh9 a0 11 = iv a0 11 from kp11f9) (show ivh9 a0 12 = iv a0 12 from kp12f9) (show ivh9 a0 13 = iv a0 13 from kp13f9) (show ivh9 a0 14 = iv a0 14 from kp14f9) (show ivh9 a0 15 = iv a0 15 from kp15f9) (show ivh9 a0 16 = iv a0 16 from kp16f9) (show 1 ≤ ivh9 a0 11 ∧ ivh9 a0 11 ≤ 100 from W9.int t_a0 11) (show 1 ≤ ivh9 a0 12 ∧ ivh9 a0 12 ≤ 50 from W9.int t_a0 12) (show (-2147483648) ≤ ivh9 a0 13 ∧ ivh9 a0 13 ≤ 2147483647 from W9.int t_a0 13) (show (-2147483648) ≤ ivh9 a0 14 ∧ ivh9 a0 14 ≤ 2147483647 from W9.int t_a0 14) (show (-2147483648) ≤ ivh9 a0 15 ∧ ivh9 a0 15 ≤ 2147483647 from W9.int t_a0 15) (show (-2147483648) ≤ ivh9 a0 16 ∧ ivh9 a0 16 ≤ 2147483647 from W9.int t_a0 16) (fun gk11f9 gk12f9 gk13f9 gk14f9 gk15f9 gk16f9 ri54 ri55 ri56 ri57 ri58 ri59 => ?_)
              exact c_iret C dX11_page_102 rfl (by decide) (rom0 hph hph (by decide)) ⟨f9, rfl, rfl, rfl, rfl, rfl, F5, W9, ⟨by omega, by omega⟩, trivial, gk11f9, gk12f9, gk13f9, gk14f9, gk15f9, gk16f9⟩
            · refine c_iload_n (j := 4) C dX11_page_50 rfl ?_
              refine c_if_lt (tgt := 65) C ⟨by omega, by omega⟩ dX11_page_51 (by decide) (fun c7 => ?_) (fun c7 => ?_)
              · refine c_aload_n (j := 1) (x := a0) C dX11_page_65 rfl ?_
                refine c_iconst C dX11_page_66 ?_
                refine d_callV (As := [.int (iI 2)]) (rest := []) C hM (C_refuse (a0 := a0) (x := 2) hW hS t_a0 ⟨by decide, by decide⟩ ) dX11_page_67 kV_X11_102 rfl t_a0 rfl rfl (by decide) ck_12 rfl (Nat.le_of_ble_eq_true rfl) ⟨(Nat.le_of_ble_eq_true rfl), (Nat.le_of_ble_eq_true rfl)⟩ hph hph (show 0 + 0 = 0 from rfl) (by decide) (fun rh10 Lh10 clh10 lnh10 ivh10 rvh10 h10 => ?_)
                obtain ⟨f10, rfl, rfl, rfl, rfl, rfl, fl10, W10, rgf10, exf10, kp11f10, kp12f10, kp13f10, kp14f10, kp15f10, kp16f10⟩ := h10
                refine hv6 (show 1 ≤ iv a0 11 ∧ iv a0 11 ≤ 100 from hW.int t_a0 11) (show (-2147483648) ≤ iv a0 13 ∧ iv a0 13 ≤ 2147483647 from hW.int t_a0 13) (show (-2147483648) ≤ iv a0 14 ∧ iv a0 14 ≤ 2147483647 from hW.int t_a0 14) (show (-2147483648) ≤ iv a0 15 ∧ iv a0 15 ≤ 2147483647 from hW.int t_a0 15) (show (-2147483648) ≤ iv a0 16 ∧ iv a0 16 ≤ 2147483647 from hW.int t_a0 16) (hF0.call hX0 fl10 rfl) (fun ri60 ri61 ri62 ri63 ri64 F6 => ?_)
                refine c_st (st2 := [.int (iI f10)]) rfl ?_
                refine hv7 (show ivh10 a0 11 = iv a0 11 from kp11f10) (show ivh10 a0 12 = iv a0 12 from kp12f10) (show ivh10 a0 13 = iv a0 13 from kp13f10) (show ivh10 a0 14 = iv a0 14 from kp14f10) (show ivh10 a0 15 = iv a0 15 from kp15f10) (show ivh10 a0 16 = iv a0 16 from kp16f10) (show f10 = -1 from exf10) (fun gk11f10 gk12f10 gk13f10 gk14f10 gk15f10 gk16f10 gf10 => ?_)
                refine c_goto (tgt := 85) C dX11_page_70 (by decide) ?_
                refine hv6 (show 1 ≤ ivh10 a0 11 ∧ ivh10 a0 11 ≤ 100 from W10.int t_a0 11) (show 1 ≤ ivh10 a0 12 ∧ ivh10 a0 12 ≤ 50 from W10.int t_a0 12) (show (-2147483648) ≤ ivh10 a0 13 ∧ ivh10 a0 13 ≤ 2147483647 from W10.int t_a0 13) (show (-2147483648) ≤ ivh10 a0 14 ∧ ivh10 a0 14 ≤ 2147483647 from W10.int t_a0 14) (show (-2147483648) ≤ ivh10 a0 15 ∧ ivh10 a0 15 ≤ 2147483647 from W10.int t_a0 15) (show (-2147483648) ≤ ivh10 a0 16 ∧ ivh10 a0 16 ≤ 2147483647 from W10.int t_a0 16) (fun ri65 ri66 ri67 ri68 ri69 ri70 => ?_)
                exact c_iret C dX11_page_85 rfl (by decide) (rom0 hph hph (by decide)) ⟨f10, rfl, rfl, rfl, rfl, rfl, F6, W10, ⟨by omega, by omega⟩, trivial, gk11f10, gk12f10, gk13f10, gk14f10, gk15f10, gk16f10⟩
              · refine c_iload_n (j := 4) C dX11_page_54 rfl ?_
                refine c_aload_n (j := 1) (x := a0) C dX11_page_55 rfl ?_
                obtain ⟨rb1, rq1, trb1⟩ := hW.ref t_a0 3 rfl rfl rfl
                have erb1 := hW.sk trb1 (by decide) rfl
                subst erb1
                refine c_getr (k := 3) C ck_12 dX11_page_56 w2_47 (by decide) t_a0 rfl rfl (by decide) rfl rq1 ?_
                refine c_st (st2 := [.ref (sk 5), .int (iI k)]) rfl ?_
                have ri71 : 0 ≤ iv (sk 5) 2 ∧ iv (sk 5) 2 ≤ 200 := hW.int tsk5 2
                refine c_get (k := 2) C ck_2 dX11_page_59 w1_44 (by decide) tsk5 rfl rfl (by decide) rfl ?_
                refine c_icmp_lt (tgt := 73) C ⟨by omega, by omega⟩ (r32_c (lo := 0) (hi := 200) ri71.1 ri71.2 (by decide) (by decide)) dX11_page_62 (by decide) (fun c8 => ?_) (fun c8 => ?_)
                · refine c_aload_n (j := 1) (x := a0) C dX11_page_73 rfl ?_
                  refine c_aload_n (j := 1) (x := a0) C dX11_page_74 rfl ?_
                  refine c_getr (k := 3) C ck_12 dX11_page_75 w2_47 (by decide) t_a0 rfl rfl (by decide) rfl rq1 ?_
                  refine c_st (st2 := [.ref (sk 5), .ref a0]) rfl ?_
                  refine c_iload_n (j := 4) C dX11_page_78 rfl ?_
                  refine d_callV (As := [.int (iI k)]) (rest := [.ref a0]) C hM (C_at_5 (a0 := (sk 5)) (i := k) hW hS tsk5 (by omega) ) dX11_page_79 kV_X11_224 rfl tsk5 rfl rfl (by decide) ck_2 rfl (Nat.le_of_ble_eq_true rfl) ⟨(Nat.le_of_ble_eq_true rfl), (Nat.le_of_ble_eq_true rfl)⟩ hph hph (show 0 + 0 = 0 from rfl) (by decide) (fun rh11 Lh11 clh11 lnh11 ivh11 rvh11 h11 => ?_)
                  obtain ⟨f11, rfl, rfl, rfl, rfl, rfl, rfl, rgf11, exf11⟩ := h11
                  refine c_st (st2 := [.int (iI f11), .ref a0]) rfl ?_
                  have gf11 : ((0 ≤ k ∧ k < iv (sk 5) 2) ∨ f11 = 0) ∧ ∀ ss, CT iv rv (sk 5) ss → 0 ≤ k → k < iv (sk 5) 2 → f11 = ss k.toNat := exf11
                  refine d_callV (As := [.int (iI f11)]) (rest := []) C hM (C_done (a0 := a0) (x := f11) hW hS t_a0 (by omega) ) dX11_page_82 kV_X11_109 rfl t_a0 rfl rfl (by decide) ck_12 rfl (Nat.le_of_ble_eq_true rfl) ⟨(Nat.le_of_ble_eq_true rfl), (Nat.le_of_ble_eq_true rfl)⟩ hph hph (show 0 + 0 = 0 from rfl) (by decide) (fun rh12 Lh12 clh12 lnh12 ivh12 rvh12 h12 => ?_)
                  obtain ⟨f12, rfl, rfl, rfl, rfl, rfl, fl12, W12, rgf12, exf12, kp11f12, kp12f12, kp13f12, kp14f12, kp15f12, kp16f12⟩ := h12
                  refine hv6 (show 1 ≤ iv a0 11 ∧ iv a0 11 ≤ 100 from hW.int t_a0 11) (show (-2147483648) ≤ iv a0 13 ∧ iv a0 13 ≤ 2147483647 from hW.int t_a0 13) (show (-2147483648) ≤ iv a0 14 ∧ iv a0 14 ≤ 2147483647 from hW.int t_a0 14) (show (-2147483648) ≤ iv a0 15 ∧ iv a0 15 ≤ 2147483647 from hW.int t_a0 15) (show (-2147483648) ≤ iv a0 16 ∧ iv a0 16 ≤ 2147483647 from hW.int t_a0 16) (hF0.call hX0 fl12 rfl) (fun ri72 ri73 ri74 ri75 ri76 F7 => ?_)
                  refine c_st (st2 := [.int (iI f12)]) rfl ?_
                  refine hv13 (show ivh12 a0 11 = iv a0 11 from kp11f12) (show ivh12 a0 12 = iv a0 12 from kp12f12) (show ivh12 a0 13 = iv a0 13 from kp13f12) (show ivh12 a0 14 = iv a0 14 from kp14f12) (show ivh12 a0 15 = iv a0 15 from kp15f12) (show ivh12 a0 16 = iv a0 16 from kp16f12) (show f12 = f11 from exf12) (show 1 ≤ ivh12 a0 11 ∧ ivh12 a0 11 ≤ 100 from W12.int t_a0 11) (show 1 ≤ ivh12 a0 12 ∧ ivh12 a0 12 ≤ 50 from W12.int t_a0 12) (show (-2147483648) ≤ ivh12 a0 13 ∧ ivh12 a0 13 ≤ 2147483647 from W12.int t_a0 13) (show (-2147483648) ≤ ivh12 a0 14 ∧ ivh12 a0 14 ≤ 2147483647 from W12.int t_a0 14) (show (-2147483648) ≤ ivh12 a0 15 ∧ ivh12 a0 15 ≤ 2147483647 from W12.int t_a0 15) (show (-2147483648) ≤ ivh12 a0 16 ∧ ivh12 a0 16 ≤ 2147483647 from W12.int t_a0 16) (fun gk11f12 gk12f12 gk13f12 gk14f12 gk15f12 gk16f12 gf12 ri77 ri78 ri79 ri80 ri81 ri82 => ?_)
                  exact c_iret C dX11_page_85 rfl (by decide) (rom0 hph hph (by decide)) ⟨f12, rfl, rfl, rfl, rfl, rfl, F7, W12, ⟨by omega, by omega⟩, trivial, gk11f12, gk12f12, gk13f12, gk14f12, gk15f12, gk16f12⟩
                · refine c_aload_n (j := 1) (x := a0) C dX11_page_65 rfl ?_
                  refine c_iconst C dX11_page_66 ?_
                  refine d_callV (As := [.int (iI 2)]) (rest := []) C hM (C_refuse (a0 := a0) (x := 2) hW hS t_a0 ⟨by decide, by decide⟩ ) dX11_page_67 kV_X11_102 rfl t_a0 rfl rfl (by decide) ck_12 rfl (Nat.le_of_ble_eq_true rfl) ⟨(Nat.le_of_ble_eq_true rfl), (Nat.le_of_ble_eq_true rfl)⟩ hph hph (show 0 + 0 = 0 from rfl) (by decide) (fun rh13 Lh13 clh13 lnh13 ivh13 rvh13 h13 => ?_)
                  obtain ⟨f13, rfl, rfl, rfl, rfl, rfl, fl13, W13, rgf13, exf13, kp11f13, kp12f13, kp13f13, kp14f13, kp15f13, kp16f13⟩ := h13
                  refine hv6 (show 1 ≤ iv a0 11 ∧ iv a0 11 ≤ 100 from hW.int t_a0 11) (show (-2147483648) ≤ iv a0 13 ∧ iv a0 13 ≤ 2147483647 from hW.int t_a0 13) (show (-2147483648) ≤ iv a0 14 ∧ iv a0 14 ≤ 2147483647 from hW.int t_a0 14) (show (-2147483648) ≤ iv a0 15 ∧ iv a0 15 ≤ 2147483647 from hW.int t_a0 15) (show (-2147483648) ≤ iv a0 16 ∧ iv a0 16 ≤ 2147483647 from hW.int t_a0 16) (hF0.call hX0 fl13 rfl) (fun ri83 ri84 ri85 ri86 ri87 F8 => ?_)
                  refine c_st (st2 := [.int (iI f13)]) rfl ?_
                  refine hv7 (show ivh13 a0 11 = iv a0 11 from kp11f13) (show ivh13 a0 12 = iv a0 12 from kp12f13) (show ivh13 a0 13 = iv a0 13 from kp13f13) (show ivh13 a0 14 = iv a0 14 from kp14f13) (show ivh13 a0 15 = iv a0 15 from kp15f13) (show ivh13 a0 16 = iv a0 16 from kp16f13) (show f13 = -1 from exf13) (fun gk11f13 gk12f13 gk13f13 gk14f13 gk15f13 gk16f13 gf13 => ?_)
                  refine c_goto (tgt := 85) C dX11_page_70 (by decide) ?_
                  refine hv6 (show 1 ≤ ivh13 a0 11 ∧ ivh13 a0 11 ≤ 100 from W13.int t_a0 11) (show 1 ≤ ivh13 a0 12 ∧ ivh13 a0 12 ≤ 50 from W13.int t_a0 12) (show (-2147483648) ≤ ivh13 a0 13 ∧ ivh13 a0 13 ≤ 2147483647 from W13.int t_a0 13) (show (-2147483648) ≤ ivh13 a0 14 ∧ ivh13 a0 14 ≤ 2147483647 from W13.int t_a0 14) (show (-2147483648) ≤ ivh13 a0 15 ∧ ivh13 a0 15 ≤ 2147483647 from W13.int t_a0 15) (show (-2147483648) ≤ ivh13 a0 16 ∧ ivh13 a0 16 ≤ 2147483647 from W13.int t_a0 16) (fun ri88 ri89 ri90 ri91 ri92 ri93 => ?_)
                  exact c_iret C dX11_page_85 rfl (by decide) (rom0 hph hph (by decide)) ⟨f13, rfl, rfl, rfl, rfl, rfl, F8, W13, ⟨by omega, by omega⟩, trivial, gk11f13, gk12f13, gk13f13, gk14f13, gk15f13, gk16f13⟩
        · refine c_aload_n (j := 0) (x := a0) C dX11_page_24 rfl ?_
          refine c_iconst C dX11_page_25 ?_
          refine d_callV (As := [.int (iI 2)]) (rest := []) C hM (C_refuse (a0 := a0) (x := 2) hW hS t_a0 ⟨by decide, by decide⟩ ) dX11_page_26 kV_X11_102 rfl t_a0 rfl rfl (by decide) ck_12 rfl (Nat.le_of_ble_eq_true rfl) ⟨(Nat.le_of_ble_eq_true rfl), (Nat.le_of_ble_eq_true rfl)⟩ hph hph (show 0 + 0 = 0 from rfl) (by decide) (fun rh14 Lh14 clh14 lnh14 ivh14 rvh14 h14 => ?_)
          obtain ⟨f14, rfl, rfl, rfl, rfl, rfl, fl14, W14, rgf14, exf14, kp11f14, kp12f14, kp13f14, kp14f14, kp15f14, kp16f14⟩ := h14
          refine hv6 (show 1 ≤ iv a0 11 ∧ iv a0 11 ≤ 100 from hW.int t_a0 11) (show (-2147483648) ≤ iv a0 13 ∧ iv a0 13 ≤ 2147483647 from hW.int t_a0 13) (show (-2147483648) ≤ iv a0 14 ∧ iv a0 14 ≤ 2147483647 from hW.int t_a0 14) (show (-2147483648) ≤ iv a0 15 ∧ iv a0 15 ≤ 2147483647 from hW.int t_a0 15) (show (-2147483648) ≤ iv a0 16 ∧ iv a0 16 ≤ 2147483647 from hW.int t_a0 16) (hF0.call hX0 fl14 rfl) (fun ri94 ri95 ri96 ri97 ri98 F9 => ?_)
          refine c_st (st2 := [.int (iI f14)]) rfl ?_
          refine hv13 (show ivh14 a0 11 = iv a0 11 from kp11f14) (show ivh14 a0 12 = iv a0 12 from kp12f14) (show ivh14 a0 13 = iv a0 13 from kp13f14) (show ivh14 a0 14 = iv a0 14 from kp14f14) (show ivh14 a0 15 = iv a0 15 from kp15f14) (show ivh14 a0 16 = iv a0 16 from kp16f14) (show f14 = -1 from exf14) (show 1 ≤ ivh14 a0 11 ∧ ivh14 a0 11 ≤ 100 from W14.int t_a0 11) (show 1 ≤ ivh14 a0 12 ∧ ivh14 a0 12 ≤ 50 from W14.int t_a0 12) (show (-2147483648) ≤ ivh14 a0 13 ∧ ivh14 a0 13 ≤ 2147483647 from W14.int t_a0 13) (show (-2147483648) ≤ ivh14 a0 14 ∧ ivh14 a0 14 ≤ 2147483647 from W14.int t_a0 14) (show (-2147483648) ≤ ivh14 a0 15 ∧ ivh14 a0 15 ≤ 2147483647 from W14.int t_a0 15) (show (-2147483648) ≤ ivh14 a0 16 ∧ ivh14 a0 16 ≤ 2147483647 from W14.int t_a0 16) (fun gk11f14 gk12f14 gk13f14 gk14f14 gk15f14 gk16f14 gf14 ri99 ri100 ri101 ri102 ri103 ri104 => ?_)
          exact c_iret C dX11_page_29 rfl (by decide) (rom0 hph hph (by decide)) ⟨f14, rfl, rfl, rfl, rfl, rfl, F9, W14, ⟨by omega, by omega⟩, trivial, gk11f14, gk12f14, gk13f14, gk14f14, gk15f14, gk16f14⟩
set_option maxHeartbeats 4000000 in
set_option maxRecDepth 100000 in
theorem C_copied {l : Launch} {G : GT} {mi : Nat} {sk : Nat → Nat} {L : List Nat} {cl ln : Nat → Nat} {iv : Nat → Nat → Int} {rv : Nat → Nat → Option Nat}  {a0 : Nat} (hW : WT (g0 G) sk L cl ln iv rv) (hS : SKL sk L cl) (t_a0 : ty L cl a0 1)  : Mc l G mi (Phi (g0 G) sk) PHM yX11_copied cX11_copied 1 (some .int) 0 [.ref a0] L cl ln iv rv 0 (fun v L2 cl2 ln2 iv2 rv2 => ∃ f : Int, v = some (.int (iI f)) ∧ L = L2 ∧ cl = cl2 ∧ ln = ln2 ∧ iv = iv2 ∧ rv = rv2 ∧ (-2147483648 ≤ f ∧ f ≤ 2147483647) ∧ (True)) := by
  refine Mc.mk (by decide) (Nat.le_of_ble_eq_true rfl) ?_
  intro p e s m args below meth c A C hM
  refine hv3 (Phi.le hW hS) (show XT L cl ln L cl ln from XT.refl) (show fT [] L cl iv rv iv rv from fT.refl) (fun hph hX0 hF0 => ?_)
  refine c_aload_n (j := 0) (x := a0) C dX11_copied_0 rfl ?_
  have ri1 : (-2147483648) ≤ iv a0 15 ∧ iv a0 15 ≤ 2147483647 := hW.int t_a0 15
  refine c_get (k := 15) C ck_12 dX11_copied_1 w2_59 (by decide) t_a0 rfl rfl (by decide) rfl ?_
  exact c_iret C dX11_copied_4 rfl (by decide) (rom0 hph hph (by decide)) ⟨(iv a0 15), rfl, rfl, rfl, rfl, rfl, rfl, ⟨by omega, by omega⟩, trivial⟩
set_option maxHeartbeats 4000000 in
set_option maxRecDepth 100000 in
theorem C_closed {l : Launch} {G : GT} {mi : Nat} {sk : Nat → Nat} {L : List Nat} {cl ln : Nat → Nat} {iv : Nat → Nat → Int} {rv : Nat → Nat → Option Nat}  {a0 : Nat} (hW : WT (g0 G) sk L cl ln iv rv) (hS : SKL sk L cl) (t_a0 : ty L cl a0 1)  : Mc l G mi (Phi (g0 G) sk) PHM yX11_closed cX11_closed 1 (some .int) 0 [.ref a0] L cl ln iv rv 0 (fun v L2 cl2 ln2 iv2 rv2 => ∃ f : Int, v = some (.int (iI f)) ∧ L = L2 ∧ cl = cl2 ∧ ln = ln2 ∧ iv = iv2 ∧ rv = rv2 ∧ (-2147483648 ≤ f ∧ f ≤ 2147483647) ∧ (True)) := by
  refine Mc.mk (by decide) (Nat.le_of_ble_eq_true rfl) ?_
  intro p e s m args below meth c A C hM
  refine hv3 (Phi.le hW hS) (show XT L cl ln L cl ln from XT.refl) (show fT [] L cl iv rv iv rv from fT.refl) (fun hph hX0 hF0 => ?_)
  refine c_aload_n (j := 0) (x := a0) C dX11_closed_0 rfl ?_
  have ri1 : (-2147483648) ≤ iv a0 16 ∧ iv a0 16 ≤ 2147483647 := hW.int t_a0 16
  refine c_get (k := 16) C ck_12 dX11_closed_1 w2_60 (by decide) t_a0 rfl rfl (by decide) rfl ?_
  exact c_iret C dX11_closed_4 rfl (by decide) (rom0 hph hph (by decide)) ⟨(iv a0 16), rfl, rfl, rfl, rfl, rfl, rfl, ⟨by omega, by omega⟩, trivial⟩
set_option maxHeartbeats 4000000 in
set_option maxRecDepth 100000 in
theorem C_status {l : Launch} {G : GT} {mi : Nat} {sk : Nat → Nat} {L : List Nat} {cl ln : Nat → Nat} {iv : Nat → Nat → Int} {rv : Nat → Nat → Option Nat}  {a0 : Nat} (hW : WT (g0 G) sk L cl ln iv rv) (hS : SKL sk L cl) (t_a0 : ty L cl a0 1)  : Mc l G mi (Phi (g0 G) sk) PHM yX11_status cX11_status 1 (some .int) 0 [.ref a0] L cl ln iv rv 0 (fun v L2 cl2 ln2 iv2 rv2 => ∃ f : Int, v = some (.int (iI f)) ∧ L = L2 ∧ cl = cl2 ∧ ln = ln2 ∧ iv = iv2 ∧ rv = rv2 ∧ (-2147483648 ≤ f ∧ f ≤ 2147483647) ∧ (True)) := by
  refine Mc.mk (by decide) (Nat.le_of_ble_eq_true rfl) ?_
  intro p e s m args below meth c A C hM
  refine hv3 (Phi.le hW hS) (show XT L cl ln L cl ln from XT.refl) (show fT [] L cl iv rv iv rv from fT.refl) (fun hph hX0 hF0 => ?_)
  refine c_aload_n (j := 0) (x := a0) C dX11_status_0 rfl ?_
  have ri1 : (-2147483648) ≤ iv a0 17 ∧ iv a0 17 ≤ 2147483647 := hW.int t_a0 17
  refine c_get (k := 17) C ck_12 dX11_status_1 w2_61 (by decide) t_a0 rfl rfl (by decide) rfl ?_
  exact c_iret C dX11_status_4 rfl (by decide) (rom0 hph hph (by decide)) ⟨(iv a0 17), rfl, rfl, rfl, rfl, rfl, rfl, ⟨by omega, by omega⟩, trivial⟩
set_option maxHeartbeats 4000000 in
set_option maxRecDepth 100000 in
theorem C_place {l : Launch} {G : GT} {mi : Nat} {sk : Nat → Nat} {L : List Nat} {cl ln : Nat → Nat} {iv : Nat → Nat → Int} {rv : Nat → Nat → Option Nat}  {a0 : Nat} (hW : WT (g0 G) sk L cl ln iv rv) (hS : SKL sk L cl) (t_a0 : ty L cl a0 1)  : Mc l G mi (Phi (g0 G) sk) PHM yX11_place cX11_place 1 (some .int) 0 [.ref a0] L cl ln iv rv 0 (fun v L2 cl2 ln2 iv2 rv2 => ∃ f : Int, v = some (.int (iI f)) ∧ L = L2 ∧ cl = cl2 ∧ ln = ln2 ∧ iv = iv2 ∧ rv = rv2 ∧ (-2147483648 ≤ f ∧ f ≤ 2147483647) ∧ (True)) := by
  refine Mc.mk (by decide) (Nat.le_of_ble_eq_true rfl) ?_
  intro p e s m args below meth c A C hM
  refine hv3 (Phi.le hW hS) (show XT L cl ln L cl ln from XT.refl) (show fT [] L cl iv rv iv rv from fT.refl) (fun hph hX0 hF0 => ?_)
  refine c_aload_n (j := 0) (x := a0) C dX11_place_0 rfl ?_
  have ri1 : (-2147483648) ≤ iv a0 18 ∧ iv a0 18 ≤ 2147483647 := hW.int t_a0 18
  refine c_get (k := 18) C ck_12 dX11_place_1 w2_62 (by decide) t_a0 rfl rfl (by decide) rfl ?_
  exact c_iret C dX11_place_4 rfl (by decide) (rom0 hph hph (by decide)) ⟨(iv a0 18), rfl, rfl, rfl, rfl, rfl, rfl, ⟨by omega, by omega⟩, trivial⟩
set_option maxHeartbeats 4000000 in
set_option maxRecDepth 100000 in
theorem C_finds {l : Launch} {G : GT} {mi : Nat} {sk : Nat → Nat} {L : List Nat} {cl ln : Nat → Nat} {iv : Nat → Nat → Int} {rv : Nat → Nat → Option Nat}  {a0 : Nat} {i : Int} (hW : WT (g0 G) sk L cl ln iv rv) (hS : SKL sk L cl) (t_a0 : ty L cl a0 1) (h_i : -2147483648 ≤ i ∧ i ≤ 2147483647)  : Mc l G mi (Phi (g0 G) sk) PHM yX11_finds cX11_finds 2 (some .int) 1 [.ref a0, .int (iI i)] L cl ln iv rv 0 (fun v L2 cl2 ln2 iv2 rv2 => ∃ f : Int, v = some (.int (iI f)) ∧ L = L2 ∧ cl = cl2 ∧ ln = ln2 ∧ iv = iv2 ∧ rv = rv2 ∧ (-2147483648 ≤ f ∧ f ≤ 2147483647) ∧ (True)) := by
  refine Mc.mk (by decide) (Nat.le_of_ble_eq_true rfl) ?_
  intro p e s m args below meth c A C hM
  refine hv3 (Phi.le hW hS) (show XT L cl ln L cl ln from XT.refl) (show fT [] L cl iv rv iv rv from fT.refl) (fun hph hX0 hF0 => ?_)
  refine c_aload_n (j := 0) (x := a0) C dX11_finds_0 rfl ?_
  obtain ⟨rb1, rq1, trb1⟩ := hW.ref t_a0 6 rfl rfl rfl
  refine c_getr (k := 6) C ck_12 dX11_finds_1 w2_50 (by decide) t_a0 rfl rfl (by decide) rfl rq1 ?_
  refine c_st (st2 := [.ref rb1]) rfl ?_
  refine c_iload_n (j := 1) C dX11_finds_4 rfl ?_
  refine d_callV (As := [.int (iI i)]) (rest := []) C hM (C_findsOf (a0 := rb1) (i := i) hW hS trb1 (by omega) ) dX11_finds_5 kV_X11_413 rfl trb1 rfl rfl (by decide) ck_7 rfl (Nat.le_of_ble_eq_true rfl) ⟨(Nat.le_of_ble_eq_true rfl), (Nat.le_of_ble_eq_true rfl)⟩ hph hph (show 0 + 0 = 0 from rfl) (by decide) (fun rh1 Lh1 clh1 lnh1 ivh1 rvh1 h1 => ?_)
  obtain ⟨f1, rfl, rfl, rfl, rfl, rfl, rfl, rgf1, exf1⟩ := h1
  refine c_st (st2 := [.int (iI f1)]) rfl ?_
  exact c_iret C dX11_finds_8 rfl (by decide) (rom0 hph hph (by decide)) ⟨f1, rfl, rfl, rfl, rfl, rfl, rfl, ⟨by omega, by omega⟩, trivial⟩
end
