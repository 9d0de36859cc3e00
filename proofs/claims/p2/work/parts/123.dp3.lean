set_option maxHeartbeats 4000000 in
set_option maxRecDepth 100000 in
theorem C_drop {l : Launch} {G : GT} {mi : Nat} {sk : Nat → Nat} {L : List Nat} {cl ln : Nat → Nat} {iv : Nat → Nat → Int} {rv : Nat → Nat → Option Nat}  {a0 : Nat} {i : Int} (hW : WT (g0 G) sk L cl ln iv rv) (hS : SKL sk L cl) (t_a0 : ty L cl a0 1) (h_i : -2147483648 ≤ i ∧ i ≤ 2147483647) (hmr : MRK sk cl iv rv) (hch : iv (sk 23) 2 < 512) : Mc l G mi (Phi (g0 G) sk) PHM yX11_drop cX11_drop 3 (some .int) 8 [.ref a0, .int (iI i)] L cl ln iv rv 1236 (fun v L2 cl2 ln2 iv2 rv2 => ∃ f : Int, v = some (.int (iI f)) ∧ XT L cl ln L2 cl2 ln2 ∧ fT [1, 23, 1001, 201, 100] L cl iv rv iv2 rv2 ∧ WT (g0 G) sk L2 cl2 ln2 iv2 rv2 ∧ (-2147483648 ≤ f ∧ f ≤ 2147483647) ∧ (iv2 (sk 23) 2 ≤ iv (sk 23) 2 + 1 ∧ MRK sk cl2 iv2 rv2) ∧ iv2 a0 14 = iv a0 14) := by
  refine Mc.mk (by decide) (Nat.le_of_ble_eq_true rfl) ?_
  intro p e s m args below meth c A C hM
  have hph := Phi.le hW hS
  have tsk2 : ty L cl (sk 2) 2 := ⟨(hS 2 rfl).1, by rw [(hS 2 rfl).2]; rfl⟩
  have tsk3 : ty L cl (sk 3) 3 := ⟨(hS 3 rfl).1, by rw [(hS 3 rfl).2]; rfl⟩
  have tsk4 : ty L cl (sk 4) 4 := ⟨(hS 4 rfl).1, by rw [(hS 4 rfl).2]; rfl⟩
  have tsk5 : ty L cl (sk 5) 5 := ⟨(hS 5 rfl).1, by rw [(hS 5 rfl).2]; rfl⟩
  have tsk13 : ty L cl (sk 13) 13 := ⟨(hS 13 rfl).1, by rw [(hS 13 rfl).2]; rfl⟩
  have tsk14 : ty L cl (sk 14) 14 := ⟨(hS 14 rfl).1, by rw [(hS 14 rfl).2]; rfl⟩
  have tsk15 : ty L cl (sk 15) 15 := ⟨(hS 15 rfl).1, by rw [(hS 15 rfl).2]; rfl⟩
  have tsk16 : ty L cl (sk 16) 16 := ⟨(hS 16 rfl).1, by rw [(hS 16 rfl).2]; rfl⟩
  have tsk17 : ty L cl (sk 17) 17 := ⟨(hS 17 rfl).1, by rw [(hS 17 rfl).2]; rfl⟩
  have tsk22 : ty L cl (sk 22) 22 := ⟨(hS 22 rfl).1, by rw [(hS 22 rfl).2]; rfl⟩
  have tsk23 : ty L cl (sk 23) 23 := ⟨(hS 23 rfl).1, by rw [(hS 23 rfl).2]; rfl⟩
  have hX0 : XT L cl ln L cl ln := XT.refl
  have hF0 : fT [1, 23, 1001, 201, 100] L cl iv rv iv rv := fT.refl
  refine c_aload_n (j := 0) (x := a0) C dX11_drop_0 rfl ?_
  obtain ⟨rb1, rq1, trb1⟩ := hW.ref t_a0 4 rfl rfl rfl
  have erb1 := hW.sk trb1 (by decide) rfl
  subst erb1
  refine c_getr (k := 4) C ck_12 dX11_drop_1 w2_48 (by decide) t_a0 rfl rfl (by decide) rfl rq1 ?_
  refine c_st (st2 := [.ref (sk 13)]) rfl ?_
  refine c_iload_n (j := 1) C dX11_drop_4 rfl ?_
  have ri1 : 0 ≤ iv (sk 22) 2 ∧ iv (sk 22) 2 ≤ 30 := hW.int tsk22 2
  refine d_callV (As := [.int (iI i)]) (rest := []) C hM (C_alive (a0 := (sk 13)) (i := i) hW hS tsk13 (by omega) hmr) dX11_drop_5 kV_X11_131 rfl tsk13 rfl rfl (by decide) ck_11 rfl (Nat.le_of_ble_eq_true rfl) ⟨(Nat.le_of_ble_eq_true rfl), (Nat.le_of_ble_eq_true rfl)⟩ hph hph (show 0 + 0 = 0 from rfl) (by decide) (fun rh1 Lh1 clh1 lnh1 ivh1 rvh1 h1 => ?_)
  obtain ⟨f1, rfl, rfl, rfl, rfl, rfl, rfl, rgf1, exf1⟩ := h1
  refine c_st (st2 := [(va_rf f1)]) rfl ?_
  have gf1 : ∀ b, f1 = some b → ((cl b : Nat) : Int) < 100 + iv (sk 22) 2 := exf1
  refine c_astorer_n (r := f1) (lv2 := [(2, (va_rf f1)), (0, .ref a0), (1, .int (iI i))]) C dX11_drop_8 (by decide) rfl ?_
  refine c_aloadr_n (j := 0) (r := f1) C dX11_drop_9 rfl ?_
  refine c_ifnonnull (r := f1) (tgt := 19) C dX11_drop_10 (by decide) (fun ob1 oq1 => ?_) (fun oq1 => ?_)
  · subst oq1
    have tob1 := rgf1 ob1 rfl
    have akob1 := gf1 ob1 rfl
    refine c_lv (lv2 := [(2, .ref ob1), (0, .ref a0), (1, .int (iI i))]) [0, 1, 2] rfl ?_
    refine c_st (st2 := []) rfl ?_
    refine c_aload_n (j := 1) (x := a0) C dX11_drop_19 rfl ?_
    refine c_getr (k := 4) C ck_12 dX11_drop_20 w2_48 (by decide) t_a0 rfl rfl (by decide) rfl rq1 ?_
    refine c_st (st2 := [.ref (sk 13)]) rfl ?_
    refine c_new C ck_1 dv_1 ⟨rfl, rfl⟩ rfl (by decide) dX11_drop_23 w3_98 w3_35 w1_18 (rom2 hph hph (by decide)) (fun qn1 cln1 lnn1 ivn1 rvn1 hqn1 hcn1 hln1 hin1 hrn1 => ⟨20, (p_in (Phi.new hW hS hqn1 (fun b _ => by rw [hln1]) hrn1) (by omega)), ?_⟩)
    refine c_g0 C (fun hg1 => ?_)
    have hxn1 : ∀ b, b ≠ qn1 → lnn1 b = ln b := (fun b _ => by rw [hln1])
    have W2 := hW.new (ln2 := lnn1) hqn1 (hg1 qn1 (List.mem_append_right _ List.mem_cons_self)) hcn1 hxn1 hin1 hrn1 (fun _ => ⟨(show (-2147483648 : Int) ≤ 0 by decide), (show (0 : Int) ≤ 2147483647 by decide)⟩) (Or.inl rfl) (fun q => by cases q) rfl rfl
    have xl2 := XT.new hqn1 hcn1 hxn1
    have X1 := hX0.trans xl2
    have sk1 := xl2.skl hS
    have F1 := hF0.new hX0 hqn1 hin1 hrn1
    have mr1 := MRK.call hmr hW hS xl2 ((fT.refl (ls := [])).new (XT.refl (ln := ln)) hqn1 hin1 hrn1) rfl rfl
    have tqn1 : ty (L ++ [qn1]) cln1 qn1 201 := ty_new hcn1
    have h0qn1 : qn1 ∉ L := fun h => hqn1 ((hX0 qn1 h).1)
    refine c_dup C dX11_drop_26 rfl ?_
    refine c_iconst C dX11_drop_27 ?_
    refine c_aload_n (j := 0) (x := ob1) C dX11_drop_28 rfl ?_
    refine c_null C dX11_drop_29 ?_
    refine c_iconst C dX11_drop_30 ?_
    have ty1 := xl2.ty tob1
    have pl1 := Phi.le W2 sk1
    refine c_callI (As := [.int (iI 1), .ref ob1, .null, .int (iI 0)]) (rest := [.ref qn1, .ref (sk 13)]) C hM (Z_change (a0 := qn1) (i := 1) (a2 := ob1) (r := none) (n := 0) W2 sk1 tqn1 ty1 (fun _ q => by cases q) ⟨by decide, by decide⟩ ⟨by decide, by decide⟩ ) dX11_drop_31 kI_X11_149 rfl rfl (Nat.le_of_ble_eq_true rfl) ⟨(Nat.le_of_ble_eq_true rfl), (Nat.le_of_ble_eq_true rfl)⟩ (rz1 hph pl1 (by decide)) (fun rh2 Lh2 clh2 lnh2 ivh2 rvh2 h2 => ⟨20, (zk1 (by obtain ⟨_, _, _, e3, flh2x, Wh2x, _⟩ := h2; subst e3; exact Phi.frn sk1 flh2x rfl)), ?_⟩)
    obtain ⟨rfl, rfl, rfl, rfl, fl2, W3, exf2⟩ := h2
    have F2 := F1.call X1 fl2 rfl
    have mr2 := MRK.call mr1 W2 sk1 XT.refl fl2 rfl rfl
    refine c_st (st2 := [.ref qn1, .ref (sk 13)]) rfl ?_
    obtain ⟨exf2x, exf2r, exf2p, exf2i, exf2j⟩ := exf2
    have rn1 : ∀ k, ([1, 2] : List Nat).contains k = false → rvh2 qn1 k = none := fun k hk => (Eq.trans (show rvh2 qn1 k = rvn1 qn1 k from (exf2x k hk)) (show rvn1 qn1 k = none from (by rw [hrn1]; exact up0_s)))
    refine c_retag (q := qn1) (t := 21) (by rw [tqn1.2]; rfl) (fun clr1 hcr1 => ?_)
    have ty2 := xl2.ty t_a0
    have ty3 := ty_rt ty2 hcr1 (ne_ty ty2 tqn1 (by decide))
    have ty4 := xl2.ty tsk2
    have ty5 := ty_rt ty4 hcr1 (ne_ty ty4 tqn1 (by decide))
    have ty6 := xl2.ty tsk3
    have ty7 := ty_rt ty6 hcr1 (ne_ty ty6 tqn1 (by decide))
    have ty8 := xl2.ty tsk4
    have ty9 := ty_rt ty8 hcr1 (ne_ty ty8 tqn1 (by decide))
    have ty10 := xl2.ty tsk5
    have ty11 := ty_rt ty10 hcr1 (ne_ty ty10 tqn1 (by decide))
    have ty12 := xl2.ty tsk13
    have ty13 := ty_rt ty12 hcr1 (ne_ty ty12 tqn1 (by decide))
    have ty14 := xl2.ty tsk14
    have ty15 := ty_rt ty14 hcr1 (ne_ty ty14 tqn1 (by decide))
    have ty16 := xl2.ty tsk15
    have ty17 := ty_rt ty16 hcr1 (ne_ty ty16 tqn1 (by decide))
    have ty18 := xl2.ty tsk16
    have ty19 := ty_rt ty18 hcr1 (ne_ty ty18 tqn1 (by decide))
    have ty20 := xl2.ty tsk17
    have ty21 := ty_rt ty20 hcr1 (ne_ty ty20 tqn1 (by decide))
    have ty22 := xl2.ty tsk22
    have ty23 := ty_rt ty22 hcr1 (ne_ty ty22 tqn1 (by decide))
    have ty24 := xl2.ty tsk23
    have ty25 := ty_rt ty24 hcr1 (ne_ty ty24 tqn1 (by decide))
    have ty26 := ty_rt ty1 hcr1 (ne_ty ty1 tqn1 (by decide))
    have tqr1 : ty (L ++ [qn1]) clr1 qn1 21 := ⟨tqn1.1, by rw [hcr1, va_up_self]; rfl⟩
    have W4 := W3.retag tqn1.1 (by rw [tqn1.2]; rfl) hcr1 (fun k => by
          rcases k with _ | _ | _ | _ | k
          · exact W3.int tqn1 0
          · exact W3.int tqn1 1
          · exact W3.int tqn1 2
          · exact W3.int tqn1 3
          · exact W3.int tqn1 (k + 4)) (fun k => by
          rcases k with _ | _ | _ | _ | k
          · rw [rn1 0 (by decide)]; exact rok_none tqr1 rfl
          · rw [exf2r]; exact rok_some tqr1 ty26 rfl (by decide) rfl
          · rw [exf2p]; exact rok_ch tqr1 (fun _ q => by cases q)
          · rw [rn1 3 (by decide)]; exact rok_none tqr1 rfl
          · rw [rn1 (k + 4) (by simp)]; exact rok_none tqr1 rfl) rfl (fun z => by cases z) (fun z => by cases z) rfl
    have X2 := X1.rt hcr1 h0qn1
    have sk2 := sk1.rt hcr1 (by rw [tqn1.2]; rfl)
    have mr3 := MRK.rt mr2 W3 sk1 hcr1 (by rw [tqn1.2]; rfl)
    have on1 := fun b hb => xl2.ty (rgf1 b hb)
    have on2 := fun b hb => ty_rt (on1 b hb) hcr1 (ne_ty (on1 b hb) tqn1 (by decide))
    have ri2 : 0 ≤ ivh2 (sk 23) 2 ∧ ivh2 (sk 23) 2 ≤ 512 := W4.int ty25 2
    have ie1 : ivh2 (sk 23) 2 = ivn1 (sk 23) 2 := fl2.i ty24 rfl 2
    have ie2 : ivn1 (sk 23) 2 = iv (sk 23) 2 := by rw [hin1]; exact congrFun (up0_a (ne_in tsk23.1 hqn1)) _
    have pl2 := Phi.le W4 sk2
    refine d_callV (As := [.ref qn1]) (rest := []) C hM (C_remember (a0 := (sk 13)) (a1 := qn1) W4 sk2 ty13 tqr1  (by show ivh2 (sk 23) 2 < 512; omega)) dX11_drop_34 kV_X11_152 rfl ty13 rfl rfl (by decide) ck_11 rfl (Nat.le_of_ble_eq_true rfl) ⟨(Nat.le_of_ble_eq_true rfl), (Nat.le_of_ble_eq_true rfl)⟩ hph pl2 (show 20 + 1216 = 1236 from rfl) (by decide) (fun rh3 Lh3 clh3 lnh3 ivh3 rvh3 h3 => ?_)
    obtain ⟨rfl, xl4, fl3, W5, exf3⟩ := h3
    have F3 := F2.call X2 fl3 rfl
    have mr4 := MRK.call mr3 W4 sk2 xl4 fl3 rfl rfl
    have X3 := X2.trans xl4
    have sk3 := xl4.skl sk2
    refine c_st (st2 := []) rfl ?_
    have ty27 := xl4.ty ty25
    have ri3 : 0 ≤ ivh3 (sk 23) 2 ∧ ivh3 (sk 23) 2 ≤ 512 := W5.int ty27 2
    have gf3 : ivh3 (sk 23) 2 = ivh2 (sk 23) 2 + 1 := exf3
    refine c_aload_n (j := 0) (x := ob1) C dX11_drop_37 rfl ?_
    refine c_iconst C dX11_drop_38 ?_
    have ty28 := xl4.ty ty26
    refine c_put (z := 1) (k := 7) C ck_10 dX11_drop_39 w2_199 (by decide) rfl ty28 rfl rfl (by decide) rfl (by decide) (by decide) (fun iv1 pq1 => ?_)
    have W6 := W5.puti pq1 ty28 ⟨by decide, by decide⟩ rfl
    have F4 := F3.puti X3 pq1 ty28 rfl
    have mr5 := MRK.puti mr4 sk3 pq1 ty28 (by decide)
    refine c_aload_n (j := 1) (x := a0) C dX11_drop_42 rfl ?_
    refine c_iconst C dX11_drop_43 ?_
    have ty29 := xl4.ty ty3
    have pl3 := Phi.le W6 sk3
    refine d_callV (As := [.int (iI 1)]) (rest := []) C hM (C_done (a0 := a0) (x := 1) W6 sk3 ty29 ⟨by decide, by decide⟩ ) dX11_drop_44 kV_X11_109 rfl ty29 rfl rfl (by decide) ck_12 rfl (Nat.le_of_ble_eq_true rfl) ⟨(Nat.le_of_ble_eq_true rfl), (Nat.le_of_ble_eq_true rfl)⟩ hph pl3 (show 1236 + 0 = 1236 from rfl) (by decide) (fun rh4 Lh4 clh4 lnh4 ivh4 rvh4 h4 => ?_)
    obtain ⟨f4, rfl, rfl, rfl, rfl, rfl, fl4, W7, rgf4, exf4, kp14f4⟩ := h4
    have ri4 : (-2147483648) ≤ iv1 a0 14 ∧ iv1 a0 14 ≤ 2147483647 := W6.int ty29 14
    have ie4 : iv1 a0 14 = ivh3 a0 14 := by rw [pq1]; exact up2_k (ne_ty ty29 ty28 (by decide))
    have ie5 : ivh3 a0 14 = ivh2 a0 14 := fl3.i ty3 rfl 14
    have ie6 : ivh2 a0 14 = ivn1 a0 14 := fl2.i ty2 rfl 14
    have ie7 : ivn1 a0 14 = iv a0 14 := by rw [hin1]; exact congrFun (up0_a (ne_in t_a0.1 hqn1)) _
    have F5 := F4.call X3 fl4 rfl
    have mr6 := MRK.call mr5 W6 sk3 XT.refl fl4 rfl rfl
    refine c_st (st2 := [.int (iI f4)]) rfl ?_
    have gk14f4 : ivh4 a0 14 = iv1 a0 14 := kp14f4
    have gf4 : f4 = (1 : Int) := exf4
    have ri5 : (-2147483648) ≤ ivh4 a0 14 ∧ ivh4 a0 14 ≤ 2147483647 := W7.int ty29 14
    have ri6 : 0 ≤ ivh4 (sk 23) 2 ∧ ivh4 (sk 23) 2 ≤ 512 := W7.int ty27 2
    have ie9 : ivh4 (sk 23) 2 = iv1 (sk 23) 2 := fl4.i ty27 rfl 2
    have ie10 : iv1 (sk 23) 2 = ivh3 (sk 23) 2 := by rw [pq1]; exact up2_k (ne_ty ty27 ty28 (by decide))
    exact c_iret C dX11_drop_47 rfl (by decide) (rom0 hph pl3 (by decide)) ⟨f4, rfl, X3, F5, W7, ⟨by omega, by omega⟩, ⟨(by omega), mr6⟩, (by omega)⟩
  · subst oq1
    refine c_lv (lv2 := [(2, .null), (0, .ref a0), (1, .int (iI i))]) [0, 1, 2] rfl ?_
    refine c_st (st2 := []) rfl ?_
    refine c_aload_n (j := 1) (x := a0) C dX11_drop_13 rfl ?_
    refine c_iconst C dX11_drop_14 ?_
    refine d_callV (As := [.int (iI 3)]) (rest := []) C hM (C_refuse (a0 := a0) (x := 3) hW hS t_a0 ⟨by decide, by decide⟩ ) dX11_drop_15 kV_X11_102 rfl t_a0 rfl rfl (by decide) ck_12 rfl (Nat.le_of_ble_eq_true rfl) ⟨(Nat.le_of_ble_eq_true rfl), (Nat.le_of_ble_eq_true rfl)⟩ hph hph (show 0 + 0 = 0 from rfl) (by decide) (fun rh5 Lh5 clh5 lnh5 ivh5 rvh5 h5 => ?_)
    obtain ⟨f5, rfl, rfl, rfl, rfl, rfl, fl5, W8, rgf5, exf5, kp14f5⟩ := h5
    have ri7 : (-2147483648) ≤ iv a0 14 ∧ iv a0 14 ≤ 2147483647 := hW.int t_a0 14
    have F6 := hF0.call hX0 fl5 rfl
    have mr7 := MRK.call hmr hW hS XT.refl fl5 rfl rfl
    refine c_st (st2 := [.int (iI f5)]) rfl ?_
    have gk14f5 : ivh5 a0 14 = iv a0 14 := kp14f5
    have gf5 : f5 = -1 := exf5
    have ri8 : (-2147483648) ≤ ivh5 a0 14 ∧ ivh5 a0 14 ≤ 2147483647 := W8.int t_a0 14
    have ri9 : 0 ≤ ivh5 (sk 23) 2 ∧ ivh5 (sk 23) 2 ≤ 512 := W8.int tsk23 2
    have ie12 : ivh5 (sk 23) 2 = iv (sk 23) 2 := fl5.i tsk23 rfl 2
    exact c_iret C dX11_drop_18 rfl (by decide) (rom0 hph hph (by decide)) ⟨f5, rfl, hX0, F6, W8, ⟨by omega, by omega⟩, ⟨(by omega), mr7⟩, (by omega)⟩
set_option maxHeartbeats 4000000 in
set_option maxRecDepth 100000 in
theorem C_addRule {l : Launch} {G : GT} {mi : Nat} {sk : Nat → Nat} {L : List Nat} {cl ln : Nat → Nat} {iv : Nat → Nat → Int} {rv : Nat → Nat → Option Nat}  {a0 : Nat} {i : Int} {cnd : Int} {n : Int} (hW : WT (g0 G) sk L cl ln iv rv) (hS : SKL sk L cl) (t_a0 : ty L cl a0 1) (h_i : -2147483648 ≤ i ∧ i ≤ 2147483647) (h_cnd : -2147483648 ≤ cnd ∧ cnd ≤ 2147483647) (h_n : -2147483648 ≤ n ∧ n ≤ 2147483647) (hmr : MRK sk cl iv rv) (hch : iv (sk 23) 2 < 512) : Mc l G mi (Phi (g0 G) sk) PHM yX11_addRule cX11_addRule 6 (some .int) 8 [.ref a0, .int (iI i), .int (iI cnd), .int (iI n)] L cl ln iv rv 2320 (fun v L2 cl2 ln2 iv2 rv2 => ∃ f : Int, v = some (.int (iI f)) ∧ XT L cl ln L2 cl2 ln2 ∧ fT [1, 65, 66, 206, 20, 26, 1004, 12, 42, 23, 1001, 201] L cl iv rv iv2 rv2 ∧ WT (g0 G) sk L2 cl2 ln2 iv2 rv2 ∧ (-2147483648 ≤ f ∧ f ≤ 2147483647) ∧ (iv2 (sk 23) 2 ≤ iv (sk 23) 2 + 1 ∧ MRK sk cl2 iv2 rv2) ∧ iv2 a0 14 = iv a0 14) := by
  refine Mc.mk (by decide) (Nat.le_of_ble_eq_true rfl) ?_
  intro p e s m args below meth c A C hM
  have hph := Phi.le hW hS
  have tsk2 : ty L cl (sk 2) 2 := ⟨(hS 2 rfl).1, by rw [(hS 2 rfl).2]; rfl⟩
  have tsk3 : ty L cl (sk 3) 3 := ⟨(hS 3 rfl).1, by rw [(hS 3 rfl).2]; rfl⟩
  have tsk4 : ty L cl (sk 4) 4 := ⟨(hS 4 rfl).1, by rw [(hS 4 rfl).2]; rfl⟩
  have tsk5 : ty L cl (sk 5) 5 := ⟨(hS 5 rfl).1, by rw [(hS 5 rfl).2]; rfl⟩
  have tsk13 : ty L cl (sk 13) 13 := ⟨(hS 13 rfl).1, by rw [(hS 13 rfl).2]; rfl⟩
  have tsk14 : ty L cl (sk 14) 14 := ⟨(hS 14 rfl).1, by rw [(hS 14 rfl).2]; rfl⟩
  have tsk15 : ty L cl (sk 15) 15 := ⟨(hS 15 rfl).1, by rw [(hS 15 rfl).2]; rfl⟩
  have tsk16 : ty L cl (sk 16) 16 := ⟨(hS 16 rfl).1, by rw [(hS 16 rfl).2]; rfl⟩
  have tsk17 : ty L cl (sk 17) 17 := ⟨(hS 17 rfl).1, by rw [(hS 17 rfl).2]; rfl⟩
  have tsk22 : ty L cl (sk 22) 22 := ⟨(hS 22 rfl).1, by rw [(hS 22 rfl).2]; rfl⟩
  have tsk23 : ty L cl (sk 23) 23 := ⟨(hS 23 rfl).1, by rw [(hS 23 rfl).2]; rfl⟩
  have hX0 : XT L cl ln L cl ln := XT.refl
  have hF0 : fT [1, 65, 66, 206, 20, 26, 1004, 12, 42, 23, 1001, 201] L cl iv rv iv rv := fT.refl
  refine c_aload_n (j := 0) (x := a0) C dX11_addRule_0 rfl ?_
  obtain ⟨rb1, rq1, trb1⟩ := hW.ref t_a0 4 rfl rfl rfl
  have erb1 := hW.sk trb1 (by decide) rfl
  subst erb1
  refine c_getr (k := 4) C ck_12 dX11_addRule_1 w2_48 (by decide) t_a0 rfl rfl (by decide) rfl rq1 ?_
  refine c_st (st2 := [.ref (sk 13)]) rfl ?_
  refine c_iload_n (j := 1) C dX11_addRule_4 rfl ?_
  have ri1 : 0 ≤ iv (sk 22) 2 ∧ iv (sk 22) 2 ≤ 30 := hW.int tsk22 2
  refine d_callV (As := [.int (iI i)]) (rest := []) C hM (C_alive (a0 := (sk 13)) (i := i) hW hS tsk13 (by omega) hmr) dX11_addRule_5 kV_X11_131 rfl tsk13 rfl rfl (by decide) ck_11 rfl (Nat.le_of_ble_eq_true rfl) ⟨(Nat.le_of_ble_eq_true rfl), (Nat.le_of_ble_eq_true rfl)⟩ hph hph (show 0 + 0 = 0 from rfl) (by decide) (fun rh1 Lh1 clh1 lnh1 ivh1 rvh1 h1 => ?_)
  obtain ⟨f1, rfl, rfl, rfl, rfl, rfl, rfl, rgf1, exf1⟩ := h1
  refine c_st (st2 := [(va_rf f1)]) rfl ?_
  have gf1 : ∀ b, f1 = some b → ((cl b : Nat) : Int) < 100 + iv (sk 22) 2 := exf1
  refine c_astorer (r := f1) (lv2 := [(4, (va_rf f1)), (0, .ref a0), (1, .int (iI i)), (2, .int (iI cnd)), (3, .int (iI n))]) C dX11_addRule_8 (by decide) rfl ?_
  refine c_aloadr (j := 0) (r := f1) C dX11_addRule_10 rfl ?_
  refine c_ifnonnull (r := f1) (tgt := 21) C dX11_addRule_12 (by decide) (fun ob1 oq1 => ?_) (fun oq1 => ?_)
  · subst oq1
    have tob1 := rgf1 ob1 rfl
    have akob1 := gf1 ob1 rfl
    refine c_lv (lv2 := [(4, .ref ob1), (0, .ref a0), (1, .int (iI i)), (2, .int (iI cnd)), (3, .int (iI n))]) [0, 1, 2, 3, 4] rfl ?_
    refine c_st (st2 := []) rfl ?_
    refine c_aload (j := 0) (x := ob1) C dX11_addRule_21 rfl ?_
    have ri2 : (-2147483648) ≤ iv ob1 0 ∧ iv ob1 0 ≤ 2147483647 := hW.int tob1 0
    refine c_get (k := 0) C ck_10 dX11_addRule_23 w2_176 (by decide) tob1 rfl rfl (by decide) rfl ?_
    refine c_iconst C dX11_addRule_26 ?_
    refine c_icmp_ne (tgt := 36) C ⟨by omega, by omega⟩ ⟨by decide, by decide⟩ dX11_addRule_27 (by decide) (fun c1 => ?_) (fun c1 => ?_)
    · refine c_iload_n (j := 4) C dX11_addRule_36 rfl ?_
      refine c_if_ge (tgt := 46) C ⟨by omega, by omega⟩ dX11_addRule_37 (by decide) (fun c2 => ?_) (fun c2 => ?_)
      · refine c_iload_n (j := 3) C dX11_addRule_46 rfl ?_
        refine c_callS0 (As := [.int (iI cnd)]) (rest := []) C (fun L E => s11_isCondition (iI cnd)) dX11_addRule_47 kS_X11_167 rfl rfl (Nat.le_of_ble_eq_true rfl) ⟨(Nat.le_of_ble_eq_true rfl), (Nat.le_of_ble_eq_true rfl)⟩ (rom0 hph hph (by decide)) ?_
        rcases inn_c (x := cnd) (lo := 0) (hi := 5) ⟨by omega, by omega⟩ ⟨by decide, by decide⟩ ⟨by decide, by decide⟩ with ⟨hs1a, hs1b, hs1e⟩ | ⟨hs1a, hs1e⟩
        · refine c_st (st2 := [.int (iI 1)]) (by rw [show inn (iI cnd) 0 5 = iI 1 from hs1e]) ?_
          refine c_if_eq (tgt := 118) C ⟨by decide, by decide⟩ dX11_addRule_50 (by decide) (fun z => absurd z (by omega)) (fun _ => ?_)
          refine c_iload_n (j := 4) C dX11_addRule_53 rfl ?_
          refine c_iconst C dX11_addRule_54 ?_
          refine c_icmp_lt (tgt := 118) C ⟨by omega, by omega⟩ ⟨by decide, by decide⟩ dX11_addRule_55 (by decide) (fun c3 => ?_) (fun c3 => ?_)
          · refine c_aload_n (j := 1) (x := a0) C dX11_addRule_118 rfl ?_
            refine c_bipush (z := 6) C dX11_addRule_119 (by decide) ?_
            refine d_callV (As := [.int (iI 6)]) (rest := []) C hM (C_refuse (a0 := a0) (x := 6) hW hS t_a0 ⟨by decide, by decide⟩ ) dX11_addRule_121 kV_X11_102 rfl t_a0 rfl rfl (by decide) ck_12 rfl (Nat.le_of_ble_eq_true rfl) ⟨(Nat.le_of_ble_eq_true rfl), (Nat.le_of_ble_eq_true rfl)⟩ hph hph (show 0 + 0 = 0 from rfl) (by decide) (fun rh2 Lh2 clh2 lnh2 ivh2 rvh2 h2 => ?_)
            obtain ⟨f2, rfl, rfl, rfl, rfl, rfl, fl2, W2, rgf2, exf2, kp14f2⟩ := h2
            have ri3 : (-2147483648) ≤ iv a0 14 ∧ iv a0 14 ≤ 2147483647 := hW.int t_a0 14
            have F1 := hF0.call hX0 fl2 rfl
            have mr1 := MRK.call hmr hW hS XT.refl fl2 rfl rfl
            refine c_st (st2 := [.int (iI f2)]) rfl ?_
            have gk14f2 : ivh2 a0 14 = iv a0 14 := kp14f2
            have gf2 : f2 = -1 := exf2
            have ri4 : (-2147483648) ≤ ivh2 a0 14 ∧ ivh2 a0 14 ≤ 2147483647 := W2.int t_a0 14
            have ri5 : 0 ≤ ivh2 (sk 23) 2 ∧ ivh2 (sk 23) 2 ≤ 512 := W2.int tsk23 2
            have ie2 : ivh2 (sk 23) 2 = iv (sk 23) 2 := fl2.i tsk23 rfl 2
            exact c_iret C dX11_addRule_124 rfl (by decide) (rom0 hph hph (by decide)) ⟨f2, rfl, hX0, F1, W2, ⟨by omega, by omega⟩, ⟨(by omega), mr1⟩, (by omega)⟩
          · refine c_iload_n (j := 4) C dX11_addRule_58 rfl ?_
            refine c_bipush (z := 8) C dX11_addRule_59 (by decide) ?_
            refine c_icmp_gt (tgt := 118) C ⟨by omega, by omega⟩ ⟨by decide, by decide⟩ dX11_addRule_61 (by decide) (fun c4 => ?_) (fun c4 => ?_)
            · refine c_aload_n (j := 1) (x := a0) C dX11_addRule_118 rfl ?_
              refine c_bipush (z := 6) C dX11_addRule_119 (by decide) ?_
              refine d_callV (As := [.int (iI 6)]) (rest := []) C hM (C_refuse (a0 := a0) (x := 6) hW hS t_a0 ⟨by decide, by decide⟩ ) dX11_addRule_121 kV_X11_102 rfl t_a0 rfl rfl (by decide) ck_12 rfl (Nat.le_of_ble_eq_true rfl) ⟨(Nat.le_of_ble_eq_true rfl), (Nat.le_of_ble_eq_true rfl)⟩ hph hph (show 0 + 0 = 0 from rfl) (by decide) (fun rh3 Lh3 clh3 lnh3 ivh3 rvh3 h3 => ?_)
              obtain ⟨f3, rfl, rfl, rfl, rfl, rfl, fl3, W3, rgf3, exf3, kp14f3⟩ := h3
              have ri6 : (-2147483648) ≤ iv a0 14 ∧ iv a0 14 ≤ 2147483647 := hW.int t_a0 14
              have F2 := hF0.call hX0 fl3 rfl
              have mr2 := MRK.call hmr hW hS XT.refl fl3 rfl rfl
              refine c_st (st2 := [.int (iI f3)]) rfl ?_
              have gk14f3 : ivh3 a0 14 = iv a0 14 := kp14f3
              have gf3 : f3 = -1 := exf3
              have ri7 : (-2147483648) ≤ ivh3 a0 14 ∧ ivh3 a0 14 ≤ 2147483647 := W3.int t_a0 14
              have ri8 : 0 ≤ ivh3 (sk 23) 2 ∧ ivh3 (sk 23) 2 ≤ 512 := W3.int tsk23 2
              have ie4 : ivh3 (sk 23) 2 = iv (sk 23) 2 := fl3.i tsk23 rfl 2
              exact c_iret C dX11_addRule_124 rfl (by decide) (rom0 hph hph (by decide)) ⟨f3, rfl, hX0, F2, W3, ⟨by omega, by omega⟩, ⟨(by omega), mr2⟩, (by omega)⟩
            · refine c_iload_n (j := 4) C dX11_addRule_64 rfl ?_
              refine c_aload_n (j := 1) (x := a0) C dX11_addRule_65 rfl ?_
              obtain ⟨rb2, rq2, trb2⟩ := hW.ref t_a0 0 rfl rfl rfl
              have erb2 := hW.sk trb2 (by decide) rfl
              subst erb2
              refine c_getr (k := 0) C ck_12 dX11_addRule_66 w2_44 (by decide) t_a0 rfl rfl (by decide) rfl rq2 ?_
              refine c_st (st2 := [.ref (sk 2), .int (iI n)]) rfl ?_
              have ri9 : 0 ≤ iv (sk 2) 2 ∧ iv (sk 2) 2 ≤ 3000 := hW.int tsk2 2
              refine c_get (k := 2) C ck_2 dX11_addRule_69 w1_44 (by decide) tsk2 rfl rfl (by decide) rfl ?_
              refine c_icmp_ge (tgt := 118) C ⟨by omega, by omega⟩ ⟨by omega, by omega⟩ dX11_addRule_72 (by decide) (fun c5 => ?_) (fun c5 => ?_)
              · refine c_aload_n (j := 1) (x := a0) C dX11_addRule_118 rfl ?_
                refine c_bipush (z := 6) C dX11_addRule_119 (by decide) ?_
                refine d_callV (As := [.int (iI 6)]) (rest := []) C hM (C_refuse (a0 := a0) (x := 6) hW hS t_a0 ⟨by decide, by decide⟩ ) dX11_addRule_121 kV_X11_102 rfl t_a0 rfl rfl (by decide) ck_12 rfl (Nat.le_of_ble_eq_true rfl) ⟨(Nat.le_of_ble_eq_true rfl), (Nat.le_of_ble_eq_true rfl)⟩ hph hph (show 0 + 0 = 0 from rfl) (by decide) (fun rh4 Lh4 clh4 lnh4 ivh4 rvh4 h4 => ?_)
                obtain ⟨f4, rfl, rfl, rfl, rfl, rfl, fl4, W4, rgf4, exf4, kp14f4⟩ := h4
                have ri10 : (-2147483648) ≤ iv a0 14 ∧ iv a0 14 ≤ 2147483647 := hW.int t_a0 14
                have F3 := hF0.call hX0 fl4 rfl
                have mr3 := MRK.call hmr hW hS XT.refl fl4 rfl rfl
                refine c_st (st2 := [.int (iI f4)]) rfl ?_
                have gk14f4 : ivh4 a0 14 = iv a0 14 := kp14f4
                have gf4 : f4 = -1 := exf4
                have ri11 : (-2147483648) ≤ ivh4 a0 14 ∧ ivh4 a0 14 ≤ 2147483647 := W4.int t_a0 14
                have ri12 : 0 ≤ ivh4 (sk 23) 2 ∧ ivh4 (sk 23) 2 ≤ 512 := W4.int tsk23 2
                have ie6 : ivh4 (sk 23) 2 = iv (sk 23) 2 := fl4.i tsk23 rfl 2
                exact c_iret C dX11_addRule_124 rfl (by decide) (rom0 hph hph (by decide)) ⟨f4, rfl, hX0, F3, W4, ⟨by omega, by omega⟩, ⟨(by omega), mr3⟩, (by omega)⟩
              · refine c_aload_n (j := 1) (x := a0) C dX11_addRule_75 rfl ?_
                refine c_getr (k := 0) C ck_12 dX11_addRule_76 w2_44 (by decide) t_a0 rfl rfl (by decide) rfl rq2 ?_
                refine c_st (st2 := [.ref (sk 2)]) rfl ?_
                refine c_iconst C dX11_addRule_79 ?_
                refine c_iload_n (j := 4) C dX11_addRule_80 rfl ?_
                refine c_bipush (z := 33) C dX11_addRule_81 (by decide) ?_
                refine c_bipush (z := 125) C dX11_addRule_83 (by decide) ?_
                refine d_callV (As := [.int (iI 0), .int (iI n), .int (iI 33), .int (iI 125)]) (rest := []) C hM (C_isWithin_2 (a0 := (sk 2)) (i := 0) (j := n) (lo := 33) (hi := 125) hW hS tsk2 ⟨by decide, by decide⟩ (by omega) ⟨by decide, by decide⟩ ⟨by decide, by decide⟩ ) dX11_addRule_85 kV_X11_171 rfl tsk2 rfl rfl (by decide) ck_2 rfl (Nat.le_of_ble_eq_true rfl) ⟨(Nat.le_of_ble_eq_true rfl), (Nat.le_of_ble_eq_true rfl)⟩ hph hph (show 0 + 0 = 0 from rfl) (by decide) (fun rh5 Lh5 clh5 lnh5 ivh5 rvh5 h5 => ?_)
                obtain ⟨f5, rfl, rfl, rfl, rfl, rfl, rfl, rgf5, exf5⟩ := h5
                refine c_st (st2 := [.int (iI f5)]) rfl ?_
                refine c_if_eq (tgt := 118) C ⟨by omega, by omega⟩ dX11_addRule_88 (by decide) (fun c6 => ?_) (fun c6 => ?_)
                · refine c_aload_n (j := 1) (x := a0) C dX11_addRule_118 rfl ?_
                  refine c_bipush (z := 6) C dX11_addRule_119 (by decide) ?_
                  refine d_callV (As := [.int (iI 6)]) (rest := []) C hM (C_refuse (a0 := a0) (x := 6) hW hS t_a0 ⟨by decide, by decide⟩ ) dX11_addRule_121 kV_X11_102 rfl t_a0 rfl rfl (by decide) ck_12 rfl (Nat.le_of_ble_eq_true rfl) ⟨(Nat.le_of_ble_eq_true rfl), (Nat.le_of_ble_eq_true rfl)⟩ hph hph (show 0 + 0 = 0 from rfl) (by decide) (fun rh6 Lh6 clh6 lnh6 ivh6 rvh6 h6 => ?_)
                  obtain ⟨f6, rfl, rfl, rfl, rfl, rfl, fl6, W6, rgf6, exf6, kp14f6⟩ := h6
                  have ri13 : (-2147483648) ≤ iv a0 14 ∧ iv a0 14 ≤ 2147483647 := hW.int t_a0 14
                  have F4 := hF0.call hX0 fl6 rfl
                  have mr4 := MRK.call hmr hW hS XT.refl fl6 rfl rfl
                  refine c_st (st2 := [.int (iI f6)]) rfl ?_
                  have gk14f6 : ivh6 a0 14 = iv a0 14 := kp14f6
                  have gf6 : f6 = -1 := exf6
                  have ri14 : (-2147483648) ≤ ivh6 a0 14 ∧ ivh6 a0 14 ≤ 2147483647 := W6.int t_a0 14
                  have ri15 : 0 ≤ ivh6 (sk 23) 2 ∧ ivh6 (sk 23) 2 ≤ 512 := W6.int tsk23 2
                  have ie8 : ivh6 (sk 23) 2 = iv (sk 23) 2 := fl6.i tsk23 rfl 2
                  exact c_iret C dX11_addRule_124 rfl (by decide) (rom0 hph hph (by decide)) ⟨f6, rfl, hX0, F4, W6, ⟨by omega, by omega⟩, ⟨(by omega), mr4⟩, (by omega)⟩
                · refine c_aload_n (j := 1) (x := a0) C dX11_addRule_91 rfl ?_
                  refine c_iload_n (j := 4) C dX11_addRule_92 rfl ?_
                  refine c_aload (j := 0) (x := ob1) C dX11_addRule_93 rfl ?_
                  have ri16 : (-2147483648) ≤ iv ob1 1 ∧ iv ob1 1 ≤ 2147483647 := hW.int tob1 1
                  refine c_get (k := 1) C ck_10 dX11_addRule_95 w2_179 (by decide) tob1 rfl rfl (by decide) rfl ?_
                  refine d_callV (As := [.int (iI n), .int (iI (iv ob1 1))]) (rest := []) C hM (C_isRow (a0 := a0) (i := n) (n := iv ob1 1) hW hS t_a0 (by omega) (by omega) (by show 0 ≤ n; omega)) dX11_addRule_98 kV_X11_175 rfl t_a0 rfl rfl (by decide) ck_12 rfl (Nat.le_of_ble_eq_true rfl) ⟨(Nat.le_of_ble_eq_true rfl), (Nat.le_of_ble_eq_true rfl)⟩ hph hph (show 0 + 0 = 0 from rfl) (by decide) (fun rh7 Lh7 clh7 lnh7 ivh7 rvh7 h7 => ?_)
                  obtain ⟨f7, rfl, rfl, rfl, rfl, rfl, rfl, rgf7, exf7⟩ := h7
                  refine c_st (st2 := [.int (iI f7)]) rfl ?_
                  have gf7 : f7 = 0 ∨ iv (sk 2) 2 - n ≤ 4 := exf7
                  refine c_if_eq (tgt := 118) C ⟨by omega, by omega⟩ dX11_addRule_101 (by decide) (fun c7 => ?_) (fun c7 => ?_)
                  · refine c_aload_n (j := 1) (x := a0) C dX11_addRule_118 rfl ?_
                    refine c_bipush (z := 6) C dX11_addRule_119 (by decide) ?_
                    refine d_callV (As := [.int (iI 6)]) (rest := []) C hM (C_refuse (a0 := a0) (x := 6) hW hS t_a0 ⟨by decide, by decide⟩ ) dX11_addRule_121 kV_X11_102 rfl t_a0 rfl rfl (by decide) ck_12 rfl (Nat.le_of_ble_eq_true rfl) ⟨(Nat.le_of_ble_eq_true rfl), (Nat.le_of_ble_eq_true rfl)⟩ hph hph (show 0 + 0 = 0 from rfl) (by decide) (fun rh8 Lh8 clh8 lnh8 ivh8 rvh8 h8 => ?_)
                    obtain ⟨f8, rfl, rfl, rfl, rfl, rfl, fl8, W8, rgf8, exf8, kp14f8⟩ := h8
                    have ri17 : (-2147483648) ≤ iv a0 14 ∧ iv a0 14 ≤ 2147483647 := hW.int t_a0 14
                    have F5 := hF0.call hX0 fl8 rfl
                    have mr5 := MRK.call hmr hW hS XT.refl fl8 rfl rfl
                    refine c_st (st2 := [.int (iI f8)]) rfl ?_
                    have gk14f8 : ivh8 a0 14 = iv a0 14 := kp14f8
                    have gf8 : f8 = -1 := exf8
                    have ri18 : (-2147483648) ≤ ivh8 a0 14 ∧ ivh8 a0 14 ≤ 2147483647 := W8.int t_a0 14
                    have ri19 : 0 ≤ ivh8 (sk 23) 2 ∧ ivh8 (sk 23) 2 ≤ 512 := W8.int tsk23 2
                    have ie10 : ivh8 (sk 23) 2 = iv (sk 23) 2 := fl8.i tsk23 rfl 2
                    exact c_iret C dX11_addRule_124 rfl (by decide) (rom0 hph hph (by decide)) ⟨f8, rfl, hX0, F5, W8, ⟨by omega, by omega⟩, ⟨(by omega), mr5⟩, (by omega)⟩
                  · refine c_aload (j := 0) (x := ob1) C dX11_addRule_104 rfl ?_
                    obtain ⟨rb3, rq3, trb3⟩ := hW.ref tob1 4 rfl rfl rfl
                    refine c_getr (k := 4) C ck_10 dX11_addRule_106 w2_188 (by decide) tob1 rfl rfl (by decide) rfl rq3 ?_
                    refine c_st (st2 := [.ref rb3]) rfl ?_
                    have ri20 : 0 ≤ iv rb3 2 ∧ iv rb3 2 ≤ 200 := hW.int trb3 2
                    refine d_callV (As := []) (rest := []) C hM (C_size_26 (a0 := rb3) hW hS trb3  ) dX11_addRule_109 kV_X11_183 rfl trb3 rfl rfl (by decide) ck_0 rfl (Nat.le_of_ble_eq_true rfl) ⟨(Nat.le_of_ble_eq_true rfl), (Nat.le_of_ble_eq_true rfl)⟩ hph hph (show 0 + 0 = 0 from rfl) (by decide) (fun rh9 Lh9 clh9 lnh9 ivh9 rvh9 h9 => ?_)
                    obtain ⟨f9, rfl, rfl, rfl, rfl, rfl, rfl, rgf9, exf9⟩ := h9
                    refine c_st (st2 := [.int (iI f9)]) rfl ?_
                    have gf9 : f9 = iv rb3 2 := exf9
                    refine c_sipush (z := 200) C dX11_addRule_112 (by decide) ?_
                    refine c_icmp_lt (tgt := 125) C ⟨by omega, by omega⟩ ⟨by decide, by decide⟩ dX11_addRule_115 (by decide) (fun c8 => ?_) (fun c8 => ?_)
                    · refine c_new C ck_6 dv_6 ⟨rfl, rfl⟩ rfl (by decide) dX11_addRule_125 w3_125 w3_126 w1_21 (rom2 hph hph (by decide)) (fun qn1 cln1 lnn1 ivn1 rvn1 hqn1 hcn1 hln1 hin1 hrn1 => ⟨20, (p_in (Phi.new hW hS hqn1 (fun b _ => by rw [hln1]) hrn1) (by omega)), ?_⟩)
                      refine c_g0 C (fun hg1 => ?_)
                      have hxn1 : ∀ b, b ≠ qn1 → lnn1 b = ln b := (fun b _ => by rw [hln1])
                      have W10 := hW.new (ln2 := lnn1) hqn1 (hg1 qn1 (List.mem_append_right _ List.mem_cons_self)) hcn1 hxn1 hin1 hrn1 (fun _ => ⟨(show (-2147483648 : Int) ≤ 0 by decide), (show (0 : Int) ≤ 2147483647 by decide)⟩) (Or.inl rfl) (fun q => by cases q) rfl rfl
                      have xl10 := XT.new hqn1 hcn1 hxn1
                      have X1 := hX0.trans xl10
                      have sk1 := xl10.skl hS
                      have F6 := hF0.new hX0 hqn1 hin1 hrn1
                      have mr6 := MRK.call hmr hW hS xl10 ((fT.refl (ls := [])).new (XT.refl (ln := ln)) hqn1 hin1 hrn1) rfl rfl
                      have tqn1 : ty (L ++ [qn1]) cln1 qn1 206 := ty_new hcn1
                      have h0qn1 : qn1 ∉ L := fun h => hqn1 ((hX0 qn1 h).1)
                      refine c_dup C dX11_addRule_128 rfl ?_
                      refine c_iconst C dX11_addRule_129 ?_
                      refine c_aload_n (j := 1) (x := a0) C dX11_addRule_130 rfl ?_
                      have ty1 := xl10.ty t_a0
                      have re1 : rvn1 a0 0 = rv a0 0 := (by rw [hrn1]; exact congrFun (up0_a (ne_in t_a0.1 hqn1)) _)
                      rw [rq2] at re1
                      refine c_getr (k := 0) C ck_12 dX11_addRule_131 w2_44 (by decide) ty1 rfl rfl (by decide) rfl re1 ?_
                      refine c_st (st2 := [.ref (sk 2), .int (iI 4), .ref qn1, .ref qn1]) rfl ?_
                      refine c_iconst C dX11_addRule_134 ?_
                      refine c_iload_n (j := 4) C dX11_addRule_135 rfl ?_
                      have ty2 := xl10.ty tsk2
                      have pl1 := Phi.le W10 sk1
                      refine d_callV (As := [.int (iI 0), .int (iI n)]) (rest := [.int (iI 4), .ref qn1, .ref qn1]) C hM (C_slice_65 (a0 := (sk 2)) (i := 0) (j := n) W10 sk1 ty2 ⟨by decide, by decide⟩ (by omega) (by show 0 ≤ (0 : Int) ∧ (0 : Int) ≤ 3000 ∧ 0 ≤ n - (0 : Int) ∧ n - (0 : Int) ≤ 8; omega)) dX11_addRule_136 kV_X11_190 rfl ty2 rfl rfl (by decide) ck_2 rfl (Nat.le_of_ble_eq_true rfl) ⟨(Nat.le_of_ble_eq_true rfl), (Nat.le_of_ble_eq_true rfl)⟩ hph pl1 (show 20 + 24 = 44 from rfl) (by decide) (fun rh10 Lh10 clh10 lnh10 ivh10 rvh10 h10 => ?_)
                      obtain ⟨f10, rfl, xl11, fl10, W11, rgf10, exf10⟩ := h10
                      have F7 := F6.call X1 fl10 rfl
                      have mr7 := MRK.call mr6 W10 sk1 xl11 fl10 rfl rfl
                      have ty3 := xl10.ty tsk3
                      have ty4 := xl10.ty tsk4
                      have ty5 := xl10.ty tsk5
                      have ty6 := xl10.ty tsk13
                      have ty7 := xl10.ty tsk14
                      have ty8 := xl10.ty tsk15
                      have ty9 := xl10.ty tsk16
                      have ty10 := xl10.ty tsk17
                      have ty11 := xl10.ty tsk22
                      have ty12 := xl10.ty tsk23
                      have ty13 := xl10.ty tob1
                      have ty14 := xl10.ty trb3
                      have X2 := X1.trans xl11
                      have sk2 := xl11.skl sk1
                      refine c_st (st2 := [.ref f10, .int (iI 4), .ref qn1, .ref qn1]) rfl ?_
                      have gf10 : lnh10 f10 = (n - (0 : Int)).toNat := exf10
                      refine c_aload_n (j := 1) (x := a0) C dX11_addRule_139 rfl ?_
                      have ty15 := xl11.ty ty1
                      have re2 : rvh10 a0 0 = rvn1 a0 0 := (fl10.r ty1 rfl 0)
                      rw [re1] at re2
                      refine c_getr (k := 0) C ck_12 dX11_addRule_140 w2_44 (by decide) ty15 rfl rfl (by decide) rfl re2 ?_
                      refine c_st (st2 := [.ref (sk 2), .ref f10, .int (iI 4), .ref qn1, .ref qn1]) rfl ?_
                      refine c_iload_n (j := 4) C dX11_addRule_143 rfl ?_
                      refine c_aload_n (j := 1) (x := a0) C dX11_addRule_144 rfl ?_
                      refine c_getr (k := 0) C ck_12 dX11_addRule_145 w2_44 (by decide) ty15 rfl rfl (by decide) rfl re2 ?_
                      refine c_st (st2 := [.ref (sk 2), .int (iI n), .ref (sk 2), .ref f10, .int (iI 4), .ref qn1, .ref qn1]) rfl ?_
                      have ty16 := xl11.ty ty2
                      have ri21 : 0 ≤ ivh10 (sk 2) 2 ∧ ivh10 (sk 2) 2 ≤ 3000 := W11.int ty16 2
                      have ie11 : ivh10 (sk 2) 2 = ivn1 (sk 2) 2 := fl10.i ty2 rfl 2
                      have ie12 : ivn1 (sk 2) 2 = iv (sk 2) 2 := by rw [hin1]; exact congrFun (up0_a (ne_in tsk2.1 hqn1)) _
                      refine c_get (k := 2) C ck_2 dX11_addRule_148 w1_44 (by decide) ty16 rfl rfl (by decide) rfl ?_
                      have pl2 := Phi.le W11 sk2
                      refine d_callV (As := [.int (iI n), .int (iI (ivh10 (sk 2) 2))]) (rest := [.ref f10, .int (iI 4), .ref qn1, .ref qn1]) C hM (C_slice_66 (a0 := (sk 2)) (i := n) (j := ivh10 (sk 2) 2) W11 sk2 ty16 (by omega) (by omega) (by show 0 ≤ n ∧ n ≤ 3000 ∧ 1 ≤ (ivh10 (sk 2) 2) - n ∧ (ivh10 (sk 2) 2) - n ≤ 4; omega)) dX11_addRule_151 kV_X11_190 rfl ty16 rfl rfl (by decide) ck_2 rfl (Nat.le_of_ble_eq_true rfl) ⟨(Nat.le_of_ble_eq_true rfl), (Nat.le_of_ble_eq_true rfl)⟩ hph pl2 (show 44 + 20 = 64 from rfl) (by decide) (fun rh11 Lh11 clh11 lnh11 ivh11 rvh11 h11 => ?_)
                      obtain ⟨f11, rfl, xl12, fl11, W12, rgf11, exf11⟩ := h11
                      have F8 := F7.call X2 fl11 rfl
                      have mr8 := MRK.call mr7 W11 sk2 xl12 fl11 rfl rfl
                      have ty17 := xl11.ty ty3
                      have ty18 := xl11.ty ty4
                      have ty19 := xl11.ty ty5
                      have ty20 := xl11.ty ty6
                      have ty21 := xl11.ty ty7
                      have ty22 := xl11.ty ty8
                      have ty23 := xl11.ty ty9
                      have ty24 := xl11.ty ty10
                      have ty25 := xl11.ty ty11
                      have ty26 := xl11.ty ty12
                      have ty27 := xl11.ty ty13
                      have ty28 := xl11.ty ty14
                      have ty29 := xl11.ty tqn1
                      have X3 := X2.trans xl12
                      have sk3 := xl12.skl sk2
                      refine c_st (st2 := [.ref f11, .ref f10, .int (iI 4), .ref qn1, .ref qn1]) rfl ?_
                      have gf11 : lnh11 f11 = ((ivh10 (sk 2) 2) - n).toNat := exf11
                      have ty30 := xl12.ty ty29
                      have ty31 := xl12.ty rgf10
                      have pl3 := Phi.le W12 sk3
                      refine c_callI (As := [.int (iI 4), .ref f10, .ref f11]) (rest := [.ref qn1]) C hM (Z_row (a0 := qn1) (i := 4) (a2 := f10) (a3 := f11) W12 sk3 ty30 ty31 rgf11 ⟨by decide, by decide⟩ ) dX11_addRule_154 kI_X11_194 rfl rfl (Nat.le_of_ble_eq_true rfl) ⟨(Nat.le_of_ble_eq_true rfl), (Nat.le_of_ble_eq_true rfl)⟩ (rz1 hph pl3 (by decide)) (fun rh12 Lh12 clh12 lnh12 ivh12 rvh12 h12 => ⟨64, (zk1 (by obtain ⟨_, _, _, e3, flh12x, Wh12x, _⟩ := h12; subst e3; exact Phi.frn sk3 flh12x rfl)), ?_⟩)
                      obtain ⟨rfl, rfl, rfl, rfl, fl12, W13, exf12⟩ := h12
                      have F9 := F8.call X3 fl12 rfl
                      have mr9 := MRK.call mr8 W12 sk3 XT.refl fl12 rfl rfl
                      refine c_st (st2 := [.ref qn1]) rfl ?_
                      obtain ⟨exf12x, exf12r, exf12p, exf12i, exf12j⟩ := exf12
                      have rn1 : ∀ k, ([1, 2] : List Nat).contains k = false → rvh12 qn1 k = none := fun k hk => (Eq.trans (show rvh12 qn1 k = rvh11 qn1 k from (exf12x k hk)) (Eq.trans (show rvh11 qn1 k = rvh10 qn1 k from (fl11.r ty29 rfl k)) (Eq.trans (show rvh10 qn1 k = rvn1 qn1 k from (fl10.r tqn1 rfl k)) (show rvn1 qn1 k = none from (by rw [hrn1]; exact up0_s)))))
                      refine c_retag (q := qn1) (t := 20) (by rw [ty30.2]; rfl) (fun clr1 hcr1 => ?_)
                      have ty32 := xl12.ty ty15
                      have ty33 := ty_rt ty32 hcr1 (ne_ty ty32 ty30 (by decide))
                      have ty34 := xl12.ty ty16
                      have ty35 := ty_rt ty34 hcr1 (ne_ty ty34 ty30 (by decide))
                      have ty36 := xl12.ty ty17
                      have ty37 := ty_rt ty36 hcr1 (ne_ty ty36 ty30 (by decide))
                      have ty38 := xl12.ty ty18
                      have ty39 := ty_rt ty38 hcr1 (ne_ty ty38 ty30 (by decide))
                      have ty40 := xl12.ty ty19
                      have ty41 := ty_rt ty40 hcr1 (ne_ty ty40 ty30 (by decide))
                      have ty42 := xl12.ty ty20
                      have ty43 := ty_rt ty42 hcr1 (ne_ty ty42 ty30 (by decide))
                      have ty44 := xl12.ty ty21
                      have ty45 := ty_rt ty44 hcr1 (ne_ty ty44 ty30 (by decide))
                      have ty46 := xl12.ty ty22
                      have ty47 := ty_rt ty46 hcr1 (ne_ty ty46 ty30 (by decide))
                      have ty48 := xl12.ty ty23
                      have ty49 := ty_rt ty48 hcr1 (ne_ty ty48 ty30 (by decide))
                      have ty50 := xl12.ty ty24
                      have ty51 := ty_rt ty50 hcr1 (ne_ty ty50 ty30 (by decide))
                      have ty52 := xl12.ty ty25
                      have ty53 := ty_rt ty52 hcr1 (ne_ty ty52 ty30 (by decide))
                      have ty54 := xl12.ty ty26
                      have ty55 := ty_rt ty54 hcr1 (ne_ty ty54 ty30 (by decide))
                      have ty56 := xl12.ty ty27
                      have ty57 := ty_rt ty56 hcr1 (ne_ty ty56 ty30 (by decide))
                      have ty58 := xl12.ty ty28
                      have ty59 := ty_rt ty58 hcr1 (ne_ty ty58 ty30 (by decide))
                      have ty60 := ty_rt ty31 hcr1 (ne_ty ty31 ty30 (by decide))
                      have ty61 := ty_rt rgf11 hcr1 (ne_ty rgf11 ty30 (by decide))
                      have tqr1 : ty Lh11 clr1 qn1 20 := ⟨ty30.1, by rw [hcr1, va_up_self]; rfl⟩
                      have W14 := W13.retag ty30.1 (by rw [ty30.2]; rfl) hcr1 (fun k => by
                            rcases k with _ | _ | _ | _ | k
                            · exact W13.int ty30 0
                            · exact W13.int ty30 1
                            · exact W13.int ty30 2
                            · exact W13.int ty30 3
                            · exact W13.int ty30 (k + 4)) (fun k => by
                            rcases k with _ | _ | _ | _ | k
                            · rw [rn1 0 (by decide)]; exact rok_none tqr1 rfl
                            · rw [exf12r]; exact rok_some tqr1 ty60 rfl (by decide) rfl
                            · rw [exf12p]; exact rok_some tqr1 ty61 rfl (by decide) rfl
                            · rw [rn1 3 (by decide)]; exact rok_none tqr1 rfl
                            · rw [rn1 (k + 4) (by simp)]; exact rok_none tqr1 rfl) rfl (fun z => by cases z) (fun z => by cases z) rfl
                      have X4 := X3.rt hcr1 h0qn1
                      have sk4 := sk3.rt hcr1 (by rw [ty30.2]; rfl)
                      have mr10 := MRK.rt mr9 W13 sk3 hcr1 (by rw [ty30.2]; rfl)
                      have on1 := fun b hb => xl10.ty (rgf1 b hb)
                      have on2 := fun b hb => xl11.ty (on1 b hb)
                      have on3 := fun b hb => xl12.ty (on2 b hb)
                      have on4 := fun b hb => ty_rt (on3 b hb) hcr1 (ne_ty (on3 b hb) ty30 (by decide))
                      refine c_astore (lv2 := [(5, .ref qn1), (4, .ref ob1), (0, .ref a0), (1, .int (iI i)), (2, .int (iI cnd)), (3, .int (iI n))]) C dX11_addRule_157 (by decide) rfl ?_
                      refine c_aload (j := 0) (x := qn1) C dX11_addRule_159 rfl ?_
                      refine c_iload_n (j := 4) C dX11_addRule_161 rfl ?_
                      refine c_put (z := cnd) (k := 3) C ck_6 dX11_addRule_162 w3_149 (by decide) rfl tqr1 rfl rfl (by decide) rfl (by rfl) (by rfl) (fun iv1 pq1 => ?_)
                      have W15 := W14.puti pq1 tqr1 (show (-2147483648) ≤ cnd ∧ cnd ≤ 2147483647 by omega) rfl
                      have F10 := F9.puti X4 pq1 tqr1 rfl
                      have mr11 := MRK.puti mr10 sk4 pq1 tqr1 (by decide)
                      refine c_aload (j := 1) (x := ob1) C dX11_addRule_165 rfl ?_
                      refine c_aload (j := 0) (x := qn1) C dX11_addRule_167 rfl ?_
                      have re3 : rvn1 ob1 4 = rv ob1 4 := (by rw [hrn1]; exact congrFun (up0_a (ne_in tob1.1 hqn1)) _)
                      rw [rq3] at re3
                      have re4 : rvh10 ob1 4 = rvn1 ob1 4 := (fl10.r ty13 rfl 4)
                      rw [re3] at re4
                      have re5 : rvh11 ob1 4 = rvh10 ob1 4 := (fl11.r ty27 rfl 4)
                      rw [re4] at re5
                      have re6 : rvh12 ob1 4 = rvh11 ob1 4 := (fl12.r ty56 rfl 4)
                      rw [re5] at re6
                      have ri22 : 0 ≤ iv1 rb3 2 ∧ iv1 rb3 2 ≤ 200 := W15.int ty59 2
                      have ie13 : iv1 rb3 2 = ivh12 rb3 2 := by rw [pq1]; exact up2_k (ne_ty ty59 tqr1 (by decide))
                      have ie14 : ivh12 rb3 2 = ivh11 rb3 2 := fl12.i ty58 rfl 2
                      have ie15 : ivh11 rb3 2 = ivh10 rb3 2 := fl11.i ty28 rfl 2
                      have ie16 : ivh10 rb3 2 = ivn1 rb3 2 := fl10.i ty14 rfl 2
                      have ie17 : ivn1 rb3 2 = iv rb3 2 := by rw [hin1]; exact congrFun (up0_a (ne_in trb3.1 hqn1)) _
                      have pl4 := Phi.le W15 sk4
                      refine d_callV (As := [.ref qn1]) (rest := []) C hM (C_append (a0 := ob1) (a1 := qn1) W15 sk4 ty57 tqr1  (fun b hb => by rw [re6] at hb; cases hb; omega)) dX11_addRule_169 kV_X11_200 rfl ty57 rfl rfl (by decide) ck_10 rfl (Nat.le_of_ble_eq_true rfl) ⟨(Nat.le_of_ble_eq_true rfl), (Nat.le_of_ble_eq_true rfl)⟩ hph pl4 (show 64 + 1020 = 1084 from rfl) (by decide) (fun rh13 Lh13 clh13 lnh13 ivh13 rvh13 h13 => ?_)
                      obtain ⟨rfl, xl14, fl13, W16, exf13⟩ := h13
                      have F11 := F10.call X4 fl13 rfl
                      have mr12 := MRK.call mr11 W15 sk4 xl14 fl13 rfl rfl
                      have X5 := X4.trans xl14
                      have sk5 := xl14.skl sk4
                      refine c_st (st2 := []) rfl ?_
                      refine c_aload_n (j := 2) (x := a0) C dX11_addRule_172 rfl ?_
                      have ty62 := xl14.ty ty33
                      have re7 : rvn1 a0 4 = rv a0 4 := (by rw [hrn1]; exact congrFun (up0_a (ne_in t_a0.1 hqn1)) _)
                      rw [rq1] at re7
                      have re8 : rvh10 a0 4 = rvn1 a0 4 := (fl10.r ty1 rfl 4)
                      rw [re7] at re8
                      have re9 : rvh11 a0 4 = rvh10 a0 4 := (fl11.r ty15 rfl 4)
                      rw [re8] at re9
                      have re10 : rvh12 a0 4 = rvh11 a0 4 := (fl12.r ty32 rfl 4)
                      rw [re9] at re10
                      have re11 : rvh13 a0 4 = rvh12 a0 4 := (fl13.r ty33 rfl 4)
                      rw [re10] at re11
                      refine c_getr (k := 4) C ck_12 dX11_addRule_173 w2_48 (by decide) ty62 rfl rfl (by decide) rfl re11 ?_
                      refine c_st (st2 := [.ref (sk 13)]) rfl ?_
                      have ty63 := xl14.ty ty35
                      have ty64 := xl14.ty ty37
                      have ty65 := xl14.ty ty39
                      have ty66 := xl14.ty ty41
                      have ty67 := xl14.ty ty43
                      have ty68 := xl14.ty ty45
                      have ty69 := xl14.ty ty47
                      have ty70 := xl14.ty ty49
                      have ty71 := xl14.ty ty51
                      have ty72 := xl14.ty ty53
                      have ty73 := xl14.ty ty55
                      have ty74 := xl14.ty ty57
                      have ty75 := xl14.ty ty59
                      have ty76 := xl14.ty tqr1
                      have ty77 := xl14.ty ty60
                      have ty78 := xl14.ty ty61
                      have pl5 := Phi.le W16 sk5
                      refine c_new C ck_1 dv_1 ⟨rfl, rfl⟩ rfl (by decide) dX11_addRule_176 w3_98 w3_35 w1_18 (rom2 hph pl5 (by decide)) (fun qn2 cln2 lnn2 ivn2 rvn2 hqn2 hcn2 hln2 hin2 hrn2 => ⟨1104, (p_in (Phi.new W16 sk5 hqn2 (fun b _ => by rw [hln2]) hrn2) (by omega)), ?_⟩)
                      refine c_g0 C (fun hg2 => ?_)
                      have hxn2 : ∀ b, b ≠ qn2 → lnn2 b = lnh13 b := (fun b _ => by rw [hln2])
                      have W17 := W16.new (ln2 := lnn2) hqn2 (hg2 qn2 (List.mem_append_right _ List.mem_cons_self)) hcn2 hxn2 hin2 hrn2 (fun _ => ⟨(show (-2147483648 : Int) ≤ 0 by decide), (show (0 : Int) ≤ 2147483647 by decide)⟩) (Or.inl rfl) (fun q => by cases q) rfl rfl
                      have xl15 := XT.new hqn2 hcn2 hxn2
                      have X6 := X5.trans xl15
                      have sk6 := xl15.skl sk5
                      have F12 := F11.new X5 hqn2 hin2 hrn2
                      have mr13 := MRK.call mr12 W16 sk5 xl15 ((fT.refl (ls := [])).new (XT.refl (ln := lnh13)) hqn2 hin2 hrn2) rfl rfl
                      have tqn2 : ty (Lh13 ++ [qn2]) cln2 qn2 201 := ty_new hcn2
                      have h0qn2 : qn2 ∉ L := fun h => hqn2 ((X5 qn2 h).1)
                      refine c_dup C dX11_addRule_179 rfl ?_
                      refine c_iconst C dX11_addRule_180 ?_
                      refine c_aload (j := 1) (x := ob1) C dX11_addRule_181 rfl ?_
                      refine c_aload (j := 0) (x := qn1) C dX11_addRule_183 rfl ?_
                      refine c_iconst C dX11_addRule_185 ?_
                      have ty79 := xl15.ty ty74
                      have ty80 := xl15.ty ty76
                      have pl6 := Phi.le W17 sk6
                      refine c_callI (As := [.int (iI 2), .ref ob1, .ref qn1, .int (iI 0)]) (rest := [.ref qn2, .ref (sk 13)]) C hM (Z_change (a0 := qn2) (i := 2) (a2 := ob1) (r := (some qn1)) (n := 0) W17 sk6 tqn2 ty79 (fun _ q => by cases q; exact ty80) ⟨by decide, by decide⟩ ⟨by decide, by decide⟩ ) dX11_addRule_186 kI_X11_149 rfl rfl (Nat.le_of_ble_eq_true rfl) ⟨(Nat.le_of_ble_eq_true rfl), (Nat.le_of_ble_eq_true rfl)⟩ (rz1 hph pl6 (by decide)) (fun rh14 Lh14 clh14 lnh14 ivh14 rvh14 h14 => ⟨1104, (zk1 (by obtain ⟨_, _, _, e3, flh14x, Wh14x, _⟩ := h14; subst e3; exact Phi.frn sk6 flh14x rfl)), ?_⟩)
                      obtain ⟨rfl, rfl, rfl, rfl, fl14, W18, exf14⟩ := h14
                      have F13 := F12.call X6 fl14 rfl
                      have mr14 := MRK.call mr13 W17 sk6 XT.refl fl14 rfl rfl
                      refine c_st (st2 := [.ref qn2, .ref (sk 13)]) rfl ?_
                      obtain ⟨exf14x, exf14r, exf14p, exf14i, exf14j⟩ := exf14
                      have rn2 : ∀ k, ([1, 2] : List Nat).contains k = false → rvh14 qn2 k = none := fun k hk => (Eq.trans (show rvh14 qn2 k = rvn2 qn2 k from (exf14x k hk)) (show rvn2 qn2 k = none from (by rw [hrn2]; exact up0_s)))
                      refine c_retag (q := qn2) (t := 21) (by rw [tqn2.2]; rfl) (fun clr2 hcr2 => ?_)
                      have ty81 := xl15.ty ty62
                      have ty82 := ty_rt ty81 hcr2 (ne_ty ty81 tqn2 (by decide))
                      have ty83 := xl15.ty ty63
                      have ty84 := ty_rt ty83 hcr2 (ne_ty ty83 tqn2 (by decide))
                      have ty85 := xl15.ty ty64
                      have ty86 := ty_rt ty85 hcr2 (ne_ty ty85 tqn2 (by decide))
                      have ty87 := xl15.ty ty65
                      have ty88 := ty_rt ty87 hcr2 (ne_ty ty87 tqn2 (by decide))
                      have ty89 := xl15.ty ty66
                      have ty90 := ty_rt ty89 hcr2 (ne_ty ty89 tqn2 (by decide))
                      have ty91 := xl15.ty ty67
                      have ty92 := ty_rt ty91 hcr2 (ne_ty ty91 tqn2 (by decide))
                      have ty93 := xl15.ty ty68
                      have ty94 := ty_rt ty93 hcr2 (ne_ty ty93 tqn2 (by decide))
                      have ty95 := xl15.ty ty69
                      have ty96 := ty_rt ty95 hcr2 (ne_ty ty95 tqn2 (by decide))
                      have ty97 := xl15.ty ty70
                      have ty98 := ty_rt ty97 hcr2 (ne_ty ty97 tqn2 (by decide))
                      have ty99 := xl15.ty ty71
                      have ty100 := ty_rt ty99 hcr2 (ne_ty ty99 tqn2 (by decide))
                      have ty101 := xl15.ty ty72
                      have ty102 := ty_rt ty101 hcr2 (ne_ty ty101 tqn2 (by decide))
                      have ty103 := xl15.ty ty73
                      have ty104 := ty_rt ty103 hcr2 (ne_ty ty103 tqn2 (by decide))
                      have ty105 := ty_rt ty79 hcr2 (ne_ty ty79 tqn2 (by decide))
                      have ty106 := xl15.ty ty75
                      have ty107 := ty_rt ty106 hcr2 (ne_ty ty106 tqn2 (by decide))
                      have ty108 := ty_rt ty80 hcr2 (ne_ty ty80 tqn2 (by decide))
                      have ty109 := xl15.ty ty77
                      have ty110 := ty_rt ty109 hcr2 (ne_ty ty109 tqn2 (by decide))
                      have ty111 := xl15.ty ty78
                      have ty112 := ty_rt ty111 hcr2 (ne_ty ty111 tqn2 (by decide))
                      have tqr2 : ty (Lh13 ++ [qn2]) clr2 qn2 21 := ⟨tqn2.1, by rw [hcr2, va_up_self]; rfl⟩
                      have W19 := W18.retag tqn2.1 (by rw [tqn2.2]; rfl) hcr2 (fun k => by
                            rcases k with _ | _ | _ | _ | k
                            · exact W18.int tqn2 0
                            · exact W18.int tqn2 1
                            · exact W18.int tqn2 2
                            · exact W18.int tqn2 3
                            · exact W18.int tqn2 (k + 4)) (fun k => by
                            rcases k with _ | _ | _ | _ | k
                            · rw [rn2 0 (by decide)]; exact rok_none tqr2 rfl
                            · rw [exf14r]; exact rok_some tqr2 ty105 rfl (by decide) rfl
                            · rw [exf14p]; exact rok_ch tqr2 (fun _ q => by cases q; exact ty108)
                            · rw [rn2 3 (by decide)]; exact rok_none tqr2 rfl
                            · rw [rn2 (k + 4) (by simp)]; exact rok_none tqr2 rfl) rfl (fun z => by cases z) (fun z => by cases z) rfl
                      have X7 := X6.rt hcr2 h0qn2
                      have sk7 := sk6.rt hcr2 (by rw [tqn2.2]; rfl)
                      have mr15 := MRK.rt mr14 W18 sk6 hcr2 (by rw [tqn2.2]; rfl)
                      have on5 := fun b hb => xl14.ty (on4 b hb)
                      have on6 := fun b hb => xl15.ty (on5 b hb)
                      have on7 := fun b hb => ty_rt (on6 b hb) hcr2 (ne_ty (on6 b hb) tqn2 (by decide))
                      have ri23 : 0 ≤ ivh14 (sk 23) 2 ∧ ivh14 (sk 23) 2 ≤ 512 := W19.int ty104 2
                      have ie18 : ivh14 (sk 23) 2 = ivn2 (sk 23) 2 := fl14.i ty103 rfl 2
                      have ie19 : ivn2 (sk 23) 2 = ivh13 (sk 23) 2 := by rw [hin2]; exact congrFun (up0_a (ne_in ty73.1 hqn2)) _
                      have ie20 : ivh13 (sk 23) 2 = iv1 (sk 23) 2 := fl13.i ty55 rfl 2
                      have ie21 : iv1 (sk 23) 2 = ivh12 (sk 23) 2 := by rw [pq1]; exact up2_k (ne_ty ty55 tqr1 (by decide))
                      have ie22 : ivh12 (sk 23) 2 = ivh11 (sk 23) 2 := fl12.i ty54 rfl 2
                      have ie23 : ivh11 (sk 23) 2 = ivh10 (sk 23) 2 := fl11.i ty26 rfl 2
                      have ie24 : ivh10 (sk 23) 2 = ivn1 (sk 23) 2 := fl10.i ty12 rfl 2
                      have ie25 : ivn1 (sk 23) 2 = iv (sk 23) 2 := by rw [hin1]; exact congrFun (up0_a (ne_in tsk23.1 hqn1)) _
                      have pl7 := Phi.le W19 sk7
                      refine d_callV (As := [.ref qn2]) (rest := []) C hM (C_remember (a0 := (sk 13)) (a1 := qn2) W19 sk7 ty92 tqr2  (by show ivh14 (sk 23) 2 < 512; omega)) dX11_addRule_189 kV_X11_152 rfl ty92 rfl rfl (by decide) ck_11 rfl (Nat.le_of_ble_eq_true rfl) ⟨(Nat.le_of_ble_eq_true rfl), (Nat.le_of_ble_eq_true rfl)⟩ hph pl7 (show 1104 + 1216 = 2320 from rfl) (by decide) (fun rh15 Lh15 clh15 lnh15 ivh15 rvh15 h15 => ?_)
                      obtain ⟨rfl, xl17, fl15, W20, exf15⟩ := h15
                      have F14 := F13.call X7 fl15 rfl
                      have mr16 := MRK.call mr15 W19 sk7 xl17 fl15 rfl rfl
                      have X8 := X7.trans xl17
                      have sk8 := xl17.skl sk7
                      refine c_st (st2 := []) rfl ?_
                      have ty113 := xl17.ty ty104
                      have ri24 : 0 ≤ ivh15 (sk 23) 2 ∧ ivh15 (sk 23) 2 ≤ 512 := W20.int ty113 2
                      have gf15 : ivh15 (sk 23) 2 = ivh14 (sk 23) 2 + 1 := exf15
                      refine c_aload_n (j := 2) (x := a0) C dX11_addRule_192 rfl ?_
                      refine c_aload (j := 1) (x := ob1) C dX11_addRule_193 rfl ?_
                      have ty114 := xl17.ty ty105
                      have re12 : rvh13 ob1 4 = rvh12 ob1 4 := (fl13.r ty57 rfl 4)
                      rw [re6] at re12
                      have re13 : rvn2 ob1 4 = rvh13 ob1 4 := (by rw [hrn2]; exact congrFun (up0_a (ne_in ty74.1 hqn2)) _)
                      rw [re12] at re13
                      have re14 : rvh14 ob1 4 = rvn2 ob1 4 := (fl14.r ty79 rfl 4)
                      rw [re13] at re14
                      have re15 : rvh15 ob1 4 = rvh14 ob1 4 := (fl15.r ty105 rfl 4)
                      rw [re14] at re15
                      refine c_getr (k := 4) C ck_10 dX11_addRule_195 w2_188 (by decide) ty114 rfl rfl (by decide) rfl re15 ?_
                      refine c_st (st2 := [.ref rb3, .ref a0]) rfl ?_
                      have ty115 := xl17.ty ty107
                      have ri25 : 0 ≤ ivh15 rb3 2 ∧ ivh15 rb3 2 ≤ 200 := W20.int ty115 2
                      have ie27 : ivh15 rb3 2 = ivh14 rb3 2 := fl15.i ty107 rfl 2
                      have ie28 : ivh14 rb3 2 = ivn2 rb3 2 := fl14.i ty106 rfl 2
                      have ie29 : ivn2 rb3 2 = ivh13 rb3 2 := by rw [hin2]; exact congrFun (up0_a (ne_in ty75.1 hqn2)) _
                      have pl8 := Phi.le W20 sk8
                      refine d_callV (As := []) (rest := [.ref a0]) C hM (C_size_26 (a0 := rb3) W20 sk8 ty115  ) dX11_addRule_198 kV_X11_183 rfl ty115 rfl rfl (by decide) ck_0 rfl (Nat.le_of_ble_eq_true rfl) ⟨(Nat.le_of_ble_eq_true rfl), (Nat.le_of_ble_eq_true rfl)⟩ hph pl8 (show 2320 + 0 = 2320 from rfl) (by decide) (fun rh16 Lh16 clh16 lnh16 ivh16 rvh16 h16 => ?_)
                      obtain ⟨f16, rfl, rfl, rfl, rfl, rfl, rfl, rgf16, exf16⟩ := h16
                      refine c_st (st2 := [.int (iI f16), .ref a0]) rfl ?_
                      have gf16 : f16 = ivh15 rb3 2 := exf16
                      refine c_iconst C dX11_addRule_201 ?_
                      refine c_isub C dX11_addRule_202 ?_
                      have ty116 := xl17.ty ty82
                      refine d_callV (As := [.int (iI (f16 - 1))]) (rest := []) C hM (C_done (a0 := a0) (x := f16 - 1) W20 sk8 ty116 (by omega) ) dX11_addRule_203 kV_X11_109 rfl ty116 rfl rfl (by decide) ck_12 rfl (Nat.le_of_ble_eq_true rfl) ⟨(Nat.le_of_ble_eq_true rfl), (Nat.le_of_ble_eq_true rfl)⟩ hph pl8 (show 2320 + 0 = 2320 from rfl) (by decide) (fun rh17 Lh17 clh17 lnh17 ivh17 rvh17 h17 => ?_)
                      obtain ⟨f17, rfl, rfl, rfl, rfl, rfl, fl17, W22, rgf17, exf17, kp14f17⟩ := h17
                      have ri26 : (-2147483648) ≤ ivh15 a0 14 ∧ ivh15 a0 14 ≤ 2147483647 := W20.int ty116 14
                      have ie31 : ivh15 a0 14 = ivh14 a0 14 := fl15.i ty82 rfl 14
                      have ie32 : ivh14 a0 14 = ivn2 a0 14 := fl14.i ty81 rfl 14
                      have ie33 : ivn2 a0 14 = ivh13 a0 14 := by rw [hin2]; exact congrFun (up0_a (ne_in ty62.1 hqn2)) _
                      have ie34 : ivh13 a0 14 = iv1 a0 14 := fl13.i ty33 rfl 14
                      have ie35 : iv1 a0 14 = ivh12 a0 14 := by rw [pq1]; exact up2_k (ne_ty ty33 tqr1 (by decide))
                      have ie36 : ivh12 a0 14 = ivh11 a0 14 := fl12.i ty32 rfl 14
                      have ie37 : ivh11 a0 14 = ivh10 a0 14 := fl11.i ty15 rfl 14
                      have ie38 : ivh10 a0 14 = ivn1 a0 14 := fl10.i ty1 rfl 14
                      have ie39 : ivn1 a0 14 = iv a0 14 := by rw [hin1]; exact congrFun (up0_a (ne_in t_a0.1 hqn1)) _
                      have F15 := F14.call X8 fl17 rfl
                      have mr17 := MRK.call mr16 W20 sk8 XT.refl fl17 rfl rfl
                      refine c_st (st2 := [.int (iI f17)]) rfl ?_
                      have gk14f17 : ivh17 a0 14 = ivh15 a0 14 := kp14f17
                      have gf17 : f17 = (f16 - 1) := exf17
                      have ri27 : (-2147483648) ≤ ivh17 a0 14 ∧ ivh17 a0 14 ≤ 2147483647 := W22.int ty116 14
                      have ri28 : 0 ≤ ivh17 (sk 23) 2 ∧ ivh17 (sk 23) 2 ≤ 512 := W22.int ty113 2
                      have ie41 : ivh17 (sk 23) 2 = ivh15 (sk 23) 2 := fl17.i ty113 rfl 2
                      exact c_iret C dX11_addRule_206 rfl (by decide) (rom0 hph pl8 (by decide)) ⟨f17, rfl, X8, F15, W22, ⟨by omega, by omega⟩, ⟨(by omega), mr17⟩, (by omega)⟩
                    · refine c_aload_n (j := 1) (x := a0) C dX11_addRule_118 rfl ?_
                      refine c_bipush (z := 6) C dX11_addRule_119 (by decide) ?_
                      refine d_callV (As := [.int (iI 6)]) (rest := []) C hM (C_refuse (a0 := a0) (x := 6) hW hS t_a0 ⟨by decide, by decide⟩ ) dX11_addRule_121 kV_X11_102 rfl t_a0 rfl rfl (by decide) ck_12 rfl (Nat.le_of_ble_eq_true rfl) ⟨(Nat.le_of_ble_eq_true rfl), (Nat.le_of_ble_eq_true rfl)⟩ hph hph (show 0 + 0 = 0 from rfl) (by decide) (fun rh18 Lh18 clh18 lnh18 ivh18 rvh18 h18 => ?_)
                      obtain ⟨f18, rfl, rfl, rfl, rfl, rfl, fl18, W23, rgf18, exf18, kp14f18⟩ := h18
                      have ri29 : (-2147483648) ≤ iv a0 14 ∧ iv a0 14 ≤ 2147483647 := hW.int t_a0 14
                      have F16 := hF0.call hX0 fl18 rfl
                      have mr18 := MRK.call hmr hW hS XT.refl fl18 rfl rfl
                      refine c_st (st2 := [.int (iI f18)]) rfl ?_
                      have gk14f18 : ivh18 a0 14 = iv a0 14 := kp14f18
                      have gf18 : f18 = -1 := exf18
                      have ri30 : (-2147483648) ≤ ivh18 a0 14 ∧ ivh18 a0 14 ≤ 2147483647 := W23.int t_a0 14
                      have ri31 : 0 ≤ ivh18 (sk 23) 2 ∧ ivh18 (sk 23) 2 ≤ 512 := W23.int tsk23 2
                      have ie43 : ivh18 (sk 23) 2 = iv (sk 23) 2 := fl18.i tsk23 rfl 2
                      exact c_iret C dX11_addRule_124 rfl (by decide) (rom0 hph hph (by decide)) ⟨f18, rfl, hX0, F16, W23, ⟨by omega, by omega⟩, ⟨(by omega), mr18⟩, (by omega)⟩
        · refine c_st (st2 := [.int (iI 0)]) (by rw [show inn (iI cnd) 0 5 = iI 0 from hs1e]) ?_
          refine c_if_eq (tgt := 118) C ⟨by decide, by decide⟩ dX11_addRule_50 (by decide) (fun _ => ?_) (fun z => absurd z (by omega))
          refine c_aload_n (j := 1) (x := a0) C dX11_addRule_118 rfl ?_
          refine c_bipush (z := 6) C dX11_addRule_119 (by decide) ?_
          refine d_callV (As := [.int (iI 6)]) (rest := []) C hM (C_refuse (a0 := a0) (x := 6) hW hS t_a0 ⟨by decide, by decide⟩ ) dX11_addRule_121 kV_X11_102 rfl t_a0 rfl rfl (by decide) ck_12 rfl (Nat.le_of_ble_eq_true rfl) ⟨(Nat.le_of_ble_eq_true rfl), (Nat.le_of_ble_eq_true rfl)⟩ hph hph (show 0 + 0 = 0 from rfl) (by decide) (fun rh19 Lh19 clh19 lnh19 ivh19 rvh19 h19 => ?_)
          obtain ⟨f19, rfl, rfl, rfl, rfl, rfl, fl19, W24, rgf19, exf19, kp14f19⟩ := h19
          have ri32 : (-2147483648) ≤ iv a0 14 ∧ iv a0 14 ≤ 2147483647 := hW.int t_a0 14
          have F17 := hF0.call hX0 fl19 rfl
          have mr19 := MRK.call hmr hW hS XT.refl fl19 rfl rfl
          refine c_st (st2 := [.int (iI f19)]) rfl ?_
          have gk14f19 : ivh19 a0 14 = iv a0 14 := kp14f19
          have gf19 : f19 = -1 := exf19
          have ri33 : (-2147483648) ≤ ivh19 a0 14 ∧ ivh19 a0 14 ≤ 2147483647 := W24.int t_a0 14
          have ri34 : 0 ≤ ivh19 (sk 23) 2 ∧ ivh19 (sk 23) 2 ≤ 512 := W24.int tsk23 2
          have ie45 : ivh19 (sk 23) 2 = iv (sk 23) 2 := fl19.i tsk23 rfl 2
          exact c_iret C dX11_addRule_124 rfl (by decide) (rom0 hph hph (by decide)) ⟨f19, rfl, hX0, F17, W24, ⟨by omega, by omega⟩, ⟨(by omega), mr19⟩, (by omega)⟩
      · refine c_aload_n (j := 1) (x := a0) C dX11_addRule_40 rfl ?_
        refine c_iconst C dX11_addRule_41 ?_
        refine d_callV (As := [.int (iI 5)]) (rest := []) C hM (C_refuse (a0 := a0) (x := 5) hW hS t_a0 ⟨by decide, by decide⟩ ) dX11_addRule_42 kV_X11_102 rfl t_a0 rfl rfl (by decide) ck_12 rfl (Nat.le_of_ble_eq_true rfl) ⟨(Nat.le_of_ble_eq_true rfl), (Nat.le_of_ble_eq_true rfl)⟩ hph hph (show 0 + 0 = 0 from rfl) (by decide) (fun rh20 Lh20 clh20 lnh20 ivh20 rvh20 h20 => ?_)
        obtain ⟨f20, rfl, rfl, rfl, rfl, rfl, fl20, W25, rgf20, exf20, kp14f20⟩ := h20
        have ri35 : (-2147483648) ≤ iv a0 14 ∧ iv a0 14 ≤ 2147483647 := hW.int t_a0 14
        have F18 := hF0.call hX0 fl20 rfl
        have mr20 := MRK.call hmr hW hS XT.refl fl20 rfl rfl
        refine c_st (st2 := [.int (iI f20)]) rfl ?_
        have gk14f20 : ivh20 a0 14 = iv a0 14 := kp14f20
        have gf20 : f20 = -1 := exf20
        have ri36 : (-2147483648) ≤ ivh20 a0 14 ∧ ivh20 a0 14 ≤ 2147483647 := W25.int t_a0 14
        have ri37 : 0 ≤ ivh20 (sk 23) 2 ∧ ivh20 (sk 23) 2 ≤ 512 := W25.int tsk23 2
        have ie47 : ivh20 (sk 23) 2 = iv (sk 23) 2 := fl20.i tsk23 rfl 2
        exact c_iret C dX11_addRule_45 rfl (by decide) (rom0 hph hph (by decide)) ⟨f20, rfl, hX0, F18, W25, ⟨by omega, by omega⟩, ⟨(by omega), mr20⟩, (by omega)⟩
    · refine c_aload_n (j := 1) (x := a0) C dX11_addRule_30 rfl ?_
      refine c_iconst C dX11_addRule_31 ?_
      refine d_callV (As := [.int (iI 4)]) (rest := []) C hM (C_refuse (a0 := a0) (x := 4) hW hS t_a0 ⟨by decide, by decide⟩ ) dX11_addRule_32 kV_X11_102 rfl t_a0 rfl rfl (by decide) ck_12 rfl (Nat.le_of_ble_eq_true rfl) ⟨(Nat.le_of_ble_eq_true rfl), (Nat.le_of_ble_eq_true rfl)⟩ hph hph (show 0 + 0 = 0 from rfl) (by decide) (fun rh21 Lh21 clh21 lnh21 ivh21 rvh21 h21 => ?_)
      obtain ⟨f21, rfl, rfl, rfl, rfl, rfl, fl21, W26, rgf21, exf21, kp14f21⟩ := h21
      have ri38 : (-2147483648) ≤ iv a0 14 ∧ iv a0 14 ≤ 2147483647 := hW.int t_a0 14
      have F19 := hF0.call hX0 fl21 rfl
      have mr21 := MRK.call hmr hW hS XT.refl fl21 rfl rfl
      refine c_st (st2 := [.int (iI f21)]) rfl ?_
      have gk14f21 : ivh21 a0 14 = iv a0 14 := kp14f21
      have gf21 : f21 = -1 := exf21
      have ri39 : (-2147483648) ≤ ivh21 a0 14 ∧ ivh21 a0 14 ≤ 2147483647 := W26.int t_a0 14
      have ri40 : 0 ≤ ivh21 (sk 23) 2 ∧ ivh21 (sk 23) 2 ≤ 512 := W26.int tsk23 2
      have ie49 : ivh21 (sk 23) 2 = iv (sk 23) 2 := fl21.i tsk23 rfl 2
      exact c_iret C dX11_addRule_35 rfl (by decide) (rom0 hph hph (by decide)) ⟨f21, rfl, hX0, F19, W26, ⟨by omega, by omega⟩, ⟨(by omega), mr21⟩, (by omega)⟩
  · subst oq1
    refine c_lv (lv2 := [(4, .null), (0, .ref a0), (1, .int (iI i)), (2, .int (iI cnd)), (3, .int (iI n))]) [0, 1, 2, 3, 4] rfl ?_
    refine c_st (st2 := []) rfl ?_
    refine c_aload_n (j := 1) (x := a0) C dX11_addRule_15 rfl ?_
    refine c_iconst C dX11_addRule_16 ?_
    refine d_callV (As := [.int (iI 3)]) (rest := []) C hM (C_refuse (a0 := a0) (x := 3) hW hS t_a0 ⟨by decide, by decide⟩ ) dX11_addRule_17 kV_X11_102 rfl t_a0 rfl rfl (by decide) ck_12 rfl (Nat.le_of_ble_eq_true rfl) ⟨(Nat.le_of_ble_eq_true rfl), (Nat.le_of_ble_eq_true rfl)⟩ hph hph (show 0 + 0 = 0 from rfl) (by decide) (fun rh22 Lh22 clh22 lnh22 ivh22 rvh22 h22 => ?_)
    obtain ⟨f22, rfl, rfl, rfl, rfl, rfl, fl22, W27, rgf22, exf22, kp14f22⟩ := h22
    have ri41 : (-2147483648) ≤ iv a0 14 ∧ iv a0 14 ≤ 2147483647 := hW.int t_a0 14
    have F20 := hF0.call hX0 fl22 rfl
    have mr22 := MRK.call hmr hW hS XT.refl fl22 rfl rfl
    refine c_st (st2 := [.int (iI f22)]) rfl ?_
    have gk14f22 : ivh22 a0 14 = iv a0 14 := kp14f22
    have gf22 : f22 = -1 := exf22
    have ri42 : (-2147483648) ≤ ivh22 a0 14 ∧ ivh22 a0 14 ≤ 2147483647 := W27.int t_a0 14
    have ri43 : 0 ≤ ivh22 (sk 23) 2 ∧ ivh22 (sk 23) 2 ≤ 512 := W27.int tsk23 2
    have ie51 : ivh22 (sk 23) 2 = iv (sk 23) 2 := fl22.i tsk23 rfl 2
    exact c_iret C dX11_addRule_20 rfl (by decide) (rom0 hph hph (by decide)) ⟨f22, rfl, hX0, F20, W27, ⟨by omega, by omega⟩, ⟨(by omega), mr22⟩, (by omega)⟩
set_option maxHeartbeats 4000000 in
set_option maxRecDepth 100000 in
theorem C_rule {l : Launch} {G : GT} {mi : Nat} {sk : Nat → Nat} {L : List Nat} {cl ln : Nat → Nat} {iv : Nat → Nat → Int} {rv : Nat → Nat → Option Nat}  {a0 : Nat} {i : Int} {cnd : Int} {n : Int} (hW : WT (g0 G) sk L cl ln iv rv) (hS : SKL sk L cl) (t_a0 : ty L cl a0 1) (h_i : -2147483648 ≤ i ∧ i ≤ 2147483647) (h_cnd : -2147483648 ≤ cnd ∧ cnd ≤ 2147483647) (h_n : -2147483648 ≤ n ∧ n ≤ 2147483647) (hmr : MRK sk cl iv rv) (hch : iv (sk 23) 2 < 512) : Mc l G mi (Phi (g0 G) sk) PHM yX11_rule cX11_rule 5 (some .int) 9 [.ref a0, .int (iI i), .int (iI cnd), .int (iI n)] L cl ln iv rv 2320 (fun v L2 cl2 ln2 iv2 rv2 => ∃ f : Int, v = some (.int (iI f)) ∧ XT L cl ln L2 cl2 ln2 ∧ fT [1, 65, 66, 206, 20, 26, 1004, 12, 42, 23, 1001, 201, 2] L cl iv rv iv2 rv2 ∧ WT (g0 G) sk L2 cl2 ln2 iv2 rv2 ∧ (-2147483648 ≤ f ∧ f ≤ 2147483647) ∧ (iv2 (sk 23) 2 ≤ iv (sk 23) 2 + 1 ∧ MRK sk cl2 iv2 rv2) ∧ iv2 a0 14 = iv a0 14 ∧ iv2 (sk 2) 2 = 0) := by
  refine Mc.mk (by decide) (Nat.le_of_ble_eq_true rfl) ?_
  intro p e s m args below meth c A C hM
  have hph := Phi.le hW hS
  have tsk2 : ty L cl (sk 2) 2 := ⟨(hS 2 rfl).1, by rw [(hS 2 rfl).2]; rfl⟩
  have tsk3 : ty L cl (sk 3) 3 := ⟨(hS 3 rfl).1, by rw [(hS 3 rfl).2]; rfl⟩
  have tsk4 : ty L cl (sk 4) 4 := ⟨(hS 4 rfl).1, by rw [(hS 4 rfl).2]; rfl⟩
  have tsk5 : ty L cl (sk 5) 5 := ⟨(hS 5 rfl).1, by rw [(hS 5 rfl).2]; rfl⟩
  have tsk13 : ty L cl (sk 13) 13 := ⟨(hS 13 rfl).1, by rw [(hS 13 rfl).2]; rfl⟩
  have tsk14 : ty L cl (sk 14) 14 := ⟨(hS 14 rfl).1, by rw [(hS 14 rfl).2]; rfl⟩
  have tsk15 : ty L cl (sk 15) 15 := ⟨(hS 15 rfl).1, by rw [(hS 15 rfl).2]; rfl⟩
  have tsk16 : ty L cl (sk 16) 16 := ⟨(hS 16 rfl).1, by rw [(hS 16 rfl).2]; rfl⟩
  have tsk17 : ty L cl (sk 17) 17 := ⟨(hS 17 rfl).1, by rw [(hS 17 rfl).2]; rfl⟩
  have tsk22 : ty L cl (sk 22) 22 := ⟨(hS 22 rfl).1, by rw [(hS 22 rfl).2]; rfl⟩
  have tsk23 : ty L cl (sk 23) 23 := ⟨(hS 23 rfl).1, by rw [(hS 23 rfl).2]; rfl⟩
  have hX0 : XT L cl ln L cl ln := XT.refl
  have hF0 : fT [1, 65, 66, 206, 20, 26, 1004, 12, 42, 23, 1001, 201, 2] L cl iv rv iv rv := fT.refl
  refine c_aload_n (j := 0) (x := a0) C dX11_rule_0 rfl ?_
  refine c_iload_n (j := 1) C dX11_rule_1 rfl ?_
  refine c_iload_n (j := 2) C dX11_rule_2 rfl ?_
  refine c_iload_n (j := 3) C dX11_rule_3 rfl ?_
  have ri1 : 0 ≤ iv (sk 23) 2 ∧ iv (sk 23) 2 ≤ 512 := hW.int tsk23 2
  refine d_callV (As := [.int (iI i), .int (iI cnd), .int (iI n)]) (rest := []) C hM (C_addRule (a0 := a0) (i := i) (cnd := cnd) (n := n) hW hS t_a0 (by omega) (by omega) (by omega) hmr (by show iv (sk 23) 2 < 512; omega)) dX11_rule_4 kV_X11_160 rfl t_a0 rfl rfl (by decide) ck_12 rfl (Nat.le_of_ble_eq_true rfl) ⟨(Nat.le_of_ble_eq_true rfl), (Nat.le_of_ble_eq_true rfl)⟩ hph hph (show 0 + 2320 = 2320 from rfl) (by decide) (fun rh1 Lh1 clh1 lnh1 ivh1 rvh1 h1 => ?_)
  obtain ⟨f1, rfl, xl1, fl1, W1, rgf1, exf1, kp14f1⟩ := h1
  have ri2 : (-2147483648) ≤ iv a0 14 ∧ iv a0 14 ≤ 2147483647 := hW.int t_a0 14
  have F1 := hF0.call hX0 fl1 rfl
  have mr1 := MRK.call hmr hW hS xl1 fl1 rfl rfl
  have X1 := hX0.trans xl1
  have sk1 := xl1.skl hS
  refine c_st (st2 := [.int (iI f1)]) rfl ?_
  have gk14f1 : ivh1 a0 14 = iv a0 14 := kp14f1
  have ty1 := xl1.ty tsk23
  have ri3 : 0 ≤ ivh1 (sk 23) 2 ∧ ivh1 (sk 23) 2 ≤ 512 := W1.int ty1 2
  have gf1 : ivh1 (sk 23) 2 ≤ iv (sk 23) 2 + 1 ∧ MRK sk clh1 ivh1 rvh1 := exf1
  refine c_istore (lv2 := [(4, .int (iI f1)), (0, .ref a0), (1, .int (iI i)), (2, .int (iI cnd)), (3, .int (iI n))]) C dX11_rule_7 (by decide) rfl ?_
  refine c_aload_n (j := 1) (x := a0) C dX11_rule_9 rfl ?_
  have ty2 := xl1.ty t_a0
  obtain ⟨rb1, rq1, trb1⟩ := W1.ref ty2 0 rfl rfl rfl
  have erb1 := W1.sk trb1 (by decide) rfl
  subst erb1
  refine c_getr (k := 0) C ck_12 dX11_rule_10 w2_44 (by decide) ty2 rfl rfl (by decide) rfl rq1 ?_
  refine c_st (st2 := [.ref (sk 2)]) rfl ?_
  have ty3 := xl1.ty tsk2
  have pl1 := Phi.le W1 sk1
  refine d_callV (As := []) (rest := []) C hM (C_clear_2 (a0 := (sk 2)) W1 sk1 ty3  ) dX11_rule_13 kV_X11_164 rfl ty3 rfl rfl (by decide) ck_2 rfl (Nat.le_of_ble_eq_true rfl) ⟨(Nat.le_of_ble_eq_true rfl), (Nat.le_of_ble_eq_true rfl)⟩ hph pl1 (show 2320 + 0 = 2320 from rfl) (by decide) (fun rh2 Lh2 clh2 lnh2 ivh2 rvh2 h2 => ?_)
  obtain ⟨rfl, rfl, rfl, rfl, rfl, fl2, W2, exf2⟩ := h2
  have F2 := F1.call X1 fl2 rfl
  have mr2 := MRK.call mr1 W1 sk1 XT.refl fl2 rfl rfl
  refine c_st (st2 := []) rfl ?_
  have ri4 : 0 ≤ ivh2 (sk 2) 2 ∧ ivh2 (sk 2) 2 ≤ 3000 := W2.int ty3 2
  have gf2 : ivh2 (sk 2) 2 = 0 := exf2
  refine c_iload (j := 0) C dX11_rule_16 rfl ?_
  have ri5 : (-2147483648) ≤ ivh2 a0 14 ∧ ivh2 a0 14 ≤ 2147483647 := W2.int ty2 14
  have ie3 : ivh2 a0 14 = ivh1 a0 14 := fl2.i ty2 rfl 14
  have ri6 : 0 ≤ ivh2 (sk 23) 2 ∧ ivh2 (sk 23) 2 ≤ 512 := W2.int ty1 2
  have ie5 : ivh2 (sk 23) 2 = ivh1 (sk 23) 2 := fl2.i ty1 rfl 2
  exact c_iret C dX11_rule_18 rfl (by decide) (rom0 hph pl1 (by decide)) ⟨f1, rfl, X1, F2, W2, ⟨by omega, by omega⟩, ⟨(by omega), mr2⟩, (by omega), (by omega)⟩
set_option maxHeartbeats 4000000 in
set_option maxRecDepth 100000 in
theorem C_condition {l : Launch} {G : GT} {mi : Nat} {sk : Nat → Nat} {L : List Nat} {cl ln : Nat → Nat} {iv : Nat → Nat → Int} {rv : Nat → Nat → Option Nat}  {a0 : Nat} {i : Int} {j : Int} {cnd : Int} (hW : WT (g0 G) sk L cl ln iv rv) (hS : SKL sk L cl) (t_a0 : ty L cl a0 1) (h_i : -2147483648 ≤ i ∧ i ≤ 2147483647) (h_j : -2147483648 ≤ j ∧ j ≤ 2147483647) (h_cnd : -2147483648 ≤ cnd ∧ cnd ≤ 2147483647) (hmr : MRK sk cl iv rv) (hch : iv (sk 23) 2 < 512) : Mc l G mi (Phi (g0 G) sk) PHM yX11_condition cX11_condition 7 (some .int) 8 [.ref a0, .int (iI i), .int (iI j), .int (iI cnd)] L cl ln iv rv 1236 (fun v L2 cl2 ln2 iv2 rv2 => ∃ f : Int, v = some (.int (iI f)) ∧ XT L cl ln L2 cl2 ln2 ∧ fT [1, 20, 23, 1001, 201] L cl iv rv iv2 rv2 ∧ WT (g0 G) sk L2 cl2 ln2 iv2 rv2 ∧ (-2147483648 ≤ f ∧ f ≤ 2147483647) ∧ (iv2 (sk 23) 2 ≤ iv (sk 23) 2 + 1 ∧ MRK sk cl2 iv2 rv2) ∧ iv2 a0 14 = iv a0 14) := by
  refine Mc.mk (by decide) (Nat.le_of_ble_eq_true rfl) ?_
  intro p e s m args below meth c A C hM
  have hph := Phi.le hW hS
  have tsk2 : ty L cl (sk 2) 2 := ⟨(hS 2 rfl).1, by rw [(hS 2 rfl).2]; rfl⟩
  have tsk3 : ty L cl (sk 3) 3 := ⟨(hS 3 rfl).1, by rw [(hS 3 rfl).2]; rfl⟩
  have tsk4 : ty L cl (sk 4) 4 := ⟨(hS 4 rfl).1, by rw [(hS 4 rfl).2]; rfl⟩
  have tsk5 : ty L cl (sk 5) 5 := ⟨(hS 5 rfl).1, by rw [(hS 5 rfl).2]; rfl⟩
  have tsk13 : ty L cl (sk 13) 13 := ⟨(hS 13 rfl).1, by rw [(hS 13 rfl).2]; rfl⟩
  have tsk14 : ty L cl (sk 14) 14 := ⟨(hS 14 rfl).1, by rw [(hS 14 rfl).2]; rfl⟩
  have tsk15 : ty L cl (sk 15) 15 := ⟨(hS 15 rfl).1, by rw [(hS 15 rfl).2]; rfl⟩
  have tsk16 : ty L cl (sk 16) 16 := ⟨(hS 16 rfl).1, by rw [(hS 16 rfl).2]; rfl⟩
  have tsk17 : ty L cl (sk 17) 17 := ⟨(hS 17 rfl).1, by rw [(hS 17 rfl).2]; rfl⟩
  have tsk22 : ty L cl (sk 22) 22 := ⟨(hS 22 rfl).1, by rw [(hS 22 rfl).2]; rfl⟩
  have tsk23 : ty L cl (sk 23) 23 := ⟨(hS 23 rfl).1, by rw [(hS 23 rfl).2]; rfl⟩
  have hX0 : XT L cl ln L cl ln := XT.refl
  have hF0 : fT [1, 20, 23, 1001, 201] L cl iv rv iv rv := fT.refl
  refine c_aload_n (j := 0) (x := a0) C dX11_condition_0 rfl ?_
  obtain ⟨rb1, rq1, trb1⟩ := hW.ref t_a0 4 rfl rfl rfl
  have erb1 := hW.sk trb1 (by decide) rfl
  subst erb1
  refine c_getr (k := 4) C ck_12 dX11_condition_1 w2_48 (by decide) t_a0 rfl rfl (by decide) rfl rq1 ?_
  refine c_st (st2 := [.ref (sk 13)]) rfl ?_
  refine c_iload_n (j := 1) C dX11_condition_4 rfl ?_
  have ri1 : 0 ≤ iv (sk 22) 2 ∧ iv (sk 22) 2 ≤ 30 := hW.int tsk22 2
  refine d_callV (As := [.int (iI i)]) (rest := []) C hM (C_alive (a0 := (sk 13)) (i := i) hW hS tsk13 (by omega) hmr) dX11_condition_5 kV_X11_131 rfl tsk13 rfl rfl (by decide) ck_11 rfl (Nat.le_of_ble_eq_true rfl) ⟨(Nat.le_of_ble_eq_true rfl), (Nat.le_of_ble_eq_true rfl)⟩ hph hph (show 0 + 0 = 0 from rfl) (by decide) (fun rh1 Lh1 clh1 lnh1 ivh1 rvh1 h1 => ?_)
  obtain ⟨f1, rfl, rfl, rfl, rfl, rfl, rfl, rgf1, exf1⟩ := h1
  refine c_st (st2 := [(va_rf f1)]) rfl ?_
  have gf1 : ∀ b, f1 = some b → ((cl b : Nat) : Int) < 100 + iv (sk 22) 2 := exf1
  refine c_astorer (r := f1) (lv2 := [(4, (va_rf f1)), (0, .ref a0), (1, .int (iI i)), (2, .int (iI j)), (3, .int (iI cnd))]) C dX11_condition_8 (by decide) rfl ?_
  refine c_aloadr (j := 0) (r := f1) C dX11_condition_10 rfl ?_
  refine c_ifnonnull (r := f1) (tgt := 21) C dX11_condition_12 (by decide) (fun ob1 oq1 => ?_) (fun oq1 => ?_)
  · subst oq1
    have tob1 := rgf1 ob1 rfl
    have akob1 := gf1 ob1 rfl
    refine c_lv (lv2 := [(4, .ref ob1), (0, .ref a0), (1, .int (iI i)), (2, .int (iI j)), (3, .int (iI cnd))]) [0, 1, 2, 3, 4] rfl ?_
    refine c_st (st2 := []) rfl ?_
    refine c_aload (j := 0) (x := ob1) C dX11_condition_21 rfl ?_
    have ri2 : (-2147483648) ≤ iv ob1 0 ∧ iv ob1 0 ≤ 2147483647 := hW.int tob1 0
    refine c_get (k := 0) C ck_10 dX11_condition_23 w2_176 (by decide) tob1 rfl rfl (by decide) rfl ?_
    refine c_iconst C dX11_condition_26 ?_
    refine c_icmp_ne (tgt := 36) C ⟨by omega, by omega⟩ ⟨by decide, by decide⟩ dX11_condition_27 (by decide) (fun c1 => ?_) (fun c1 => ?_)
    · refine c_iload_n (j := 3) C dX11_condition_36 rfl ?_
      refine c_if_lt (tgt := 52) C ⟨by omega, by omega⟩ dX11_condition_37 (by decide) (fun c2 => ?_) (fun c2 => ?_)
      · refine c_aload_n (j := 1) (x := a0) C dX11_condition_52 rfl ?_
        refine c_iconst C dX11_condition_53 ?_
        refine d_callV (As := [.int (iI 2)]) (rest := []) C hM (C_refuse (a0 := a0) (x := 2) hW hS t_a0 ⟨by decide, by decide⟩ ) dX11_condition_54 kV_X11_102 rfl t_a0 rfl rfl (by decide) ck_12 rfl (Nat.le_of_ble_eq_true rfl) ⟨(Nat.le_of_ble_eq_true rfl), (Nat.le_of_ble_eq_true rfl)⟩ hph hph (show 0 + 0 = 0 from rfl) (by decide) (fun rh2 Lh2 clh2 lnh2 ivh2 rvh2 h2 => ?_)
        obtain ⟨f2, rfl, rfl, rfl, rfl, rfl, fl2, W2, rgf2, exf2, kp14f2⟩ := h2
        have ri3 : (-2147483648) ≤ iv a0 14 ∧ iv a0 14 ≤ 2147483647 := hW.int t_a0 14
        have F1 := hF0.call hX0 fl2 rfl
        have mr1 := MRK.call hmr hW hS XT.refl fl2 rfl rfl
        refine c_st (st2 := [.int (iI f2)]) rfl ?_
        have gk14f2 : ivh2 a0 14 = iv a0 14 := kp14f2
        have gf2 : f2 = -1 := exf2
        have ri4 : (-2147483648) ≤ ivh2 a0 14 ∧ ivh2 a0 14 ≤ 2147483647 := W2.int t_a0 14
        have ri5 : 0 ≤ ivh2 (sk 23) 2 ∧ ivh2 (sk 23) 2 ≤ 512 := W2.int tsk23 2
        have ie2 : ivh2 (sk 23) 2 = iv (sk 23) 2 := fl2.i tsk23 rfl 2
        exact c_iret C dX11_condition_57 rfl (by decide) (rom0 hph hph (by decide)) ⟨f2, rfl, hX0, F1, W2, ⟨by omega, by omega⟩, ⟨(by omega), mr1⟩, (by omega)⟩
      · refine c_iload_n (j := 3) C dX11_condition_40 rfl ?_
        refine c_aload (j := 0) (x := ob1) C dX11_condition_41 rfl ?_
        obtain ⟨rb2, rq2, trb2⟩ := hW.ref tob1 4 rfl rfl rfl
        refine c_getr (k := 4) C ck_10 dX11_condition_43 w2_188 (by decide) tob1 rfl rfl (by decide) rfl rq2 ?_
        refine c_st (st2 := [.ref rb2, .int (iI j)]) rfl ?_
        have ri6 : 0 ≤ iv rb2 2 ∧ iv rb2 2 ≤ 200 := hW.int trb2 2
        refine d_callV (As := []) (rest := [.int (iI j)]) C hM (C_size_26 (a0 := rb2) hW hS trb2  ) dX11_condition_46 kV_X11_183 rfl trb2 rfl rfl (by decide) ck_0 rfl (Nat.le_of_ble_eq_true rfl) ⟨(Nat.le_of_ble_eq_true rfl), (Nat.le_of_ble_eq_true rfl)⟩ hph hph (show 0 + 0 = 0 from rfl) (by decide) (fun rh3 Lh3 clh3 lnh3 ivh3 rvh3 h3 => ?_)
        obtain ⟨f3, rfl, rfl, rfl, rfl, rfl, rfl, rgf3, exf3⟩ := h3
        refine c_st (st2 := [.int (iI f3), .int (iI j)]) rfl ?_
        have gf3 : f3 = iv rb2 2 := exf3
        refine c_icmp_lt (tgt := 58) C ⟨by omega, by omega⟩ ⟨by omega, by omega⟩ dX11_condition_49 (by decide) (fun c3 => ?_) (fun c3 => ?_)
        · refine c_iload_n (j := 4) C dX11_condition_58 rfl ?_
          refine c_callS0 (As := [.int (iI cnd)]) (rest := []) C (fun L E => s11_isCondition (iI cnd)) dX11_condition_59 kS_X11_167 rfl rfl (Nat.le_of_ble_eq_true rfl) ⟨(Nat.le_of_ble_eq_true rfl), (Nat.le_of_ble_eq_true rfl)⟩ (rom0 hph hph (by decide)) ?_
          rcases inn_c (x := cnd) (lo := 0) (hi := 5) ⟨by omega, by omega⟩ ⟨by decide, by decide⟩ ⟨by decide, by decide⟩ with ⟨hs1a, hs1b, hs1e⟩ | ⟨hs1a, hs1e⟩
          · refine c_st (st2 := [.int (iI 1)]) (by rw [show inn (iI cnd) 0 5 = iI 1 from hs1e]) ?_
            refine c_if_ne (tgt := 72) C ⟨by decide, by decide⟩ dX11_condition_62 (by decide) (fun _ => ?_) (fun z => absurd z (by omega))
            refine c_aload (j := 0) (x := ob1) C dX11_condition_72 rfl ?_
            refine c_getr (k := 4) C ck_10 dX11_condition_74 w2_188 (by decide) tob1 rfl rfl (by decide) rfl rq2 ?_
            refine c_st (st2 := [.ref rb2]) rfl ?_
            refine c_iload_n (j := 3) C dX11_condition_77 rfl ?_
            refine d_callV (As := [.int (iI j)]) (rest := []) C hM (C_get_26 (a0 := rb2) (i := j) hW hS trb2 (by omega) (by show 0 ≤ j ∧ j < iv rb2 2; omega)) dX11_condition_78 kV_X11_204 rfl trb2 rfl rfl (by decide) ck_0 rfl (Nat.le_of_ble_eq_true rfl) ⟨(Nat.le_of_ble_eq_true rfl), (Nat.le_of_ble_eq_true rfl)⟩ hph hph (show 0 + 0 = 0 from rfl) (by decide) (fun rh4 Lh4 clh4 lnh4 ivh4 rvh4 h4 => ?_)
            obtain ⟨f4, rfl, rfl, rfl, rfl, rfl, rfl, rgf4, exf4⟩ := h4
            refine c_st (st2 := [.ref f4]) rfl ?_
            have gf4 : el rv rb2 j.toNat = some f4 := exf4
            refine c_cast C ck_6 dX11_condition_81 w3_125 w8_169t rgf4 rfl rfl (by decide) ?_
            refine c_astore (lv2 := [(5, .ref f4), (4, .ref ob1), (0, .ref a0), (1, .int (iI i)), (2, .int (iI j)), (3, .int (iI cnd))]) C dX11_condition_84 (by decide) rfl ?_
            refine c_aload (j := 0) (x := f4) C dX11_condition_86 rfl ?_
            have ri7 : (-2147483648) ≤ iv f4 3 ∧ iv f4 3 ≤ 2147483647 := hW.int rgf4 3
            refine c_get (k := 3) C ck_6 dX11_condition_88 w3_149 (by decide) rgf4 rfl rfl (by decide) rfl ?_
            refine c_istore (lv2 := [(6, .int (iI (iv f4 3))), (5, .ref f4), (4, .ref ob1), (0, .ref a0), (1, .int (iI i)), (2, .int (iI j)), (3, .int (iI cnd))]) C dX11_condition_91 (by decide) rfl ?_
            refine c_aload_n (j := 3) (x := a0) C dX11_condition_93 rfl ?_
            refine c_getr (k := 4) C ck_12 dX11_condition_94 w2_48 (by decide) t_a0 rfl rfl (by decide) rfl rq1 ?_
            refine c_st (st2 := [.ref (sk 13)]) rfl ?_
            refine c_new C ck_1 dv_1 ⟨rfl, rfl⟩ rfl (by decide) dX11_condition_97 w3_98 w3_35 w1_18 (rom2 hph hph (by decide)) (fun qn1 cln1 lnn1 ivn1 rvn1 hqn1 hcn1 hln1 hin1 hrn1 => ⟨20, (p_in (Phi.new hW hS hqn1 (fun b _ => by rw [hln1]) hrn1) (by omega)), ?_⟩)
            refine c_g0 C (fun hg1 => ?_)
            have hxn1 : ∀ b, b ≠ qn1 → lnn1 b = ln b := (fun b _ => by rw [hln1])
            have W5 := hW.new (ln2 := lnn1) hqn1 (hg1 qn1 (List.mem_append_right _ List.mem_cons_self)) hcn1 hxn1 hin1 hrn1 (fun _ => ⟨(show (-2147483648 : Int) ≤ 0 by decide), (show (0 : Int) ≤ 2147483647 by decide)⟩) (Or.inl rfl) (fun q => by cases q) rfl rfl
            have xl5 := XT.new hqn1 hcn1 hxn1
            have X1 := hX0.trans xl5
            have sk1 := xl5.skl hS
            have F2 := hF0.new hX0 hqn1 hin1 hrn1
            have mr2 := MRK.call hmr hW hS xl5 ((fT.refl (ls := [])).new (XT.refl (ln := ln)) hqn1 hin1 hrn1) rfl rfl
            have tqn1 : ty (L ++ [qn1]) cln1 qn1 201 := ty_new hcn1
            have h0qn1 : qn1 ∉ L := fun h => hqn1 ((hX0 qn1 h).1)
            refine c_dup C dX11_condition_100 rfl ?_
            refine c_iconst C dX11_condition_101 ?_
            refine c_aload (j := 2) (x := ob1) C dX11_condition_102 rfl ?_
            refine c_aload (j := 1) (x := f4) C dX11_condition_104 rfl ?_
            refine c_iload (j := 0) C dX11_condition_106 rfl ?_
            have ty1 := xl5.ty tob1
            have ty2 := xl5.ty rgf4
            have pl1 := Phi.le W5 sk1
            refine c_callI (As := [.int (iI 3), .ref ob1, .ref f4, .int (iI (iv f4 3))]) (rest := [.ref qn1, .ref (sk 13)]) C hM (Z_change (a0 := qn1) (i := 3) (a2 := ob1) (r := (some f4)) (n := iv f4 3) W5 sk1 tqn1 ty1 (fun _ q => by cases q; exact ty2) ⟨by decide, by decide⟩ (by omega) ) dX11_condition_108 kI_X11_149 rfl rfl (Nat.le_of_ble_eq_true rfl) ⟨(Nat.le_of_ble_eq_true rfl), (Nat.le_of_ble_eq_true rfl)⟩ (rz1 hph pl1 (by decide)) (fun rh5 Lh5 clh5 lnh5 ivh5 rvh5 h5 => ⟨20, (zk1 (by obtain ⟨_, _, _, e3, flh5x, Wh5x, _⟩ := h5; subst e3; exact Phi.frn sk1 flh5x rfl)), ?_⟩)
            obtain ⟨rfl, rfl, rfl, rfl, fl5, W6, exf5⟩ := h5
            have F3 := F2.call X1 fl5 rfl
            have mr3 := MRK.call mr2 W5 sk1 XT.refl fl5 rfl rfl
            refine c_st (st2 := [.ref qn1, .ref (sk 13)]) rfl ?_
            obtain ⟨exf5x, exf5r, exf5p, exf5i, exf5j⟩ := exf5
            have rn1 : ∀ k, ([1, 2] : List Nat).contains k = false → rvh5 qn1 k = none := fun k hk => (Eq.trans (show rvh5 qn1 k = rvn1 qn1 k from (exf5x k hk)) (show rvn1 qn1 k = none from (by rw [hrn1]; exact up0_s)))
            refine c_retag (q := qn1) (t := 21) (by rw [tqn1.2]; rfl) (fun clr1 hcr1 => ?_)
            have ty3 := xl5.ty t_a0
            have ty4 := ty_rt ty3 hcr1 (ne_ty ty3 tqn1 (by decide))
            have ty5 := xl5.ty tsk2
            have ty6 := ty_rt ty5 hcr1 (ne_ty ty5 tqn1 (by decide))
            have ty7 := xl5.ty tsk3
            have ty8 := ty_rt ty7 hcr1 (ne_ty ty7 tqn1 (by decide))
            have ty9 := xl5.ty tsk4
            have ty10 := ty_rt ty9 hcr1 (ne_ty ty9 tqn1 (by decide))
            have ty11 := xl5.ty tsk5
            have ty12 := ty_rt ty11 hcr1 (ne_ty ty11 tqn1 (by decide))
            have ty13 := xl5.ty tsk13
            have ty14 := ty_rt ty13 hcr1 (ne_ty ty13 tqn1 (by decide))
            have ty15 := xl5.ty tsk14
            have ty16 := ty_rt ty15 hcr1 (ne_ty ty15 tqn1 (by decide))
            have ty17 := xl5.ty tsk15
            have ty18 := ty_rt ty17 hcr1 (ne_ty ty17 tqn1 (by decide))
            have ty19 := xl5.ty tsk16
            have ty20 := ty_rt ty19 hcr1 (ne_ty ty19 tqn1 (by decide))
            have ty21 := xl5.ty tsk17
            have ty22 := ty_rt ty21 hcr1 (ne_ty ty21 tqn1 (by decide))
            have ty23 := xl5.ty tsk22
            have ty24 := ty_rt ty23 hcr1 (ne_ty ty23 tqn1 (by decide))
            have ty25 := xl5.ty tsk23
            have ty26 := ty_rt ty25 hcr1 (ne_ty ty25 tqn1 (by decide))
            have ty27 := ty_rt ty1 hcr1 (ne_ty ty1 tqn1 (by decide))
            have ty28 := xl5.ty trb2
            have ty29 := ty_rt ty28 hcr1 (ne_ty ty28 tqn1 (by decide))
            have ty30 := ty_rt ty2 hcr1 (ne_ty ty2 tqn1 (by decide))
            have tqr1 : ty (L ++ [qn1]) clr1 qn1 21 := ⟨tqn1.1, by rw [hcr1, va_up_self]; rfl⟩
            have W7 := W6.retag tqn1.1 (by rw [tqn1.2]; rfl) hcr1 (fun k => by
                  rcases k with _ | _ | _ | _ | k
                  · exact W6.int tqn1 0
                  · exact W6.int tqn1 1
                  · exact W6.int tqn1 2
                  · exact W6.int tqn1 3
                  · exact W6.int tqn1 (k + 4)) (fun k => by
                  rcases k with _ | _ | _ | _ | k
                  · rw [rn1 0 (by decide)]; exact rok_none tqr1 rfl
                  · rw [exf5r]; exact rok_some tqr1 ty27 rfl (by decide) rfl
                  · rw [exf5p]; exact rok_ch tqr1 (fun _ q => by cases q; exact ty30)
                  · rw [rn1 3 (by decide)]; exact rok_none tqr1 rfl
                  · rw [rn1 (k + 4) (by simp)]; exact rok_none tqr1 rfl) rfl (fun z => by cases z) (fun z => by cases z) rfl
            have X2 := X1.rt hcr1 h0qn1
            have sk2 := sk1.rt hcr1 (by rw [tqn1.2]; rfl)
            have mr4 := MRK.rt mr3 W6 sk1 hcr1 (by rw [tqn1.2]; rfl)
            have on1 := fun b hb => xl5.ty (rgf1 b hb)
            have on2 := fun b hb => ty_rt (on1 b hb) hcr1 (ne_ty (on1 b hb) tqn1 (by decide))
            have ri8 : 0 ≤ ivh5 (sk 23) 2 ∧ ivh5 (sk 23) 2 ≤ 512 := W7.int ty26 2
            have ie3 : ivh5 (sk 23) 2 = ivn1 (sk 23) 2 := fl5.i ty25 rfl 2
            have ie4 : ivn1 (sk 23) 2 = iv (sk 23) 2 := by rw [hin1]; exact congrFun (up0_a (ne_in tsk23.1 hqn1)) _
            have pl2 := Phi.le W7 sk2
            refine d_callV (As := [.ref qn1]) (rest := []) C hM (C_remember (a0 := (sk 13)) (a1 := qn1) W7 sk2 ty14 tqr1  (by show ivh5 (sk 23) 2 < 512; omega)) dX11_condition_111 kV_X11_152 rfl ty14 rfl rfl (by decide) ck_11 rfl (Nat.le_of_ble_eq_true rfl) ⟨(Nat.le_of_ble_eq_true rfl), (Nat.le_of_ble_eq_true rfl)⟩ hph pl2 (show 20 + 1216 = 1236 from rfl) (by decide) (fun rh6 Lh6 clh6 lnh6 ivh6 rvh6 h6 => ?_)
            obtain ⟨rfl, xl7, fl6, W8, exf6⟩ := h6
            have F4 := F3.call X2 fl6 rfl
            have mr5 := MRK.call mr4 W7 sk2 xl7 fl6 rfl rfl
            have X3 := X2.trans xl7
            have sk3 := xl7.skl sk2
            refine c_st (st2 := []) rfl ?_
            have ty31 := xl7.ty ty26
            have ri9 : 0 ≤ ivh6 (sk 23) 2 ∧ ivh6 (sk 23) 2 ≤ 512 := W8.int ty31 2
            have gf6 : ivh6 (sk 23) 2 = ivh5 (sk 23) 2 + 1 := exf6
            refine c_aload (j := 1) (x := f4) C dX11_condition_114 rfl ?_
            refine c_iload_n (j := 6) C dX11_condition_116 rfl ?_
            have ty32 := xl7.ty ty30
            refine c_put (z := cnd) (k := 3) C ck_6 dX11_condition_117 w3_149 (by decide) rfl ty32 rfl rfl (by decide) rfl (by rfl) (by rfl) (fun iv1 pq1 => ?_)
            have W9 := W8.puti pq1 ty32 (show (-2147483648) ≤ cnd ∧ cnd ≤ 2147483647 by omega) rfl
            have F5 := F4.puti X3 pq1 ty32 rfl
            have mr6 := MRK.puti mr5 sk3 pq1 ty32 (by decide)
            refine c_aload_n (j := 3) (x := a0) C dX11_condition_120 rfl ?_
            refine c_iload (j := 0) C dX11_condition_121 rfl ?_
            have ty33 := xl7.ty ty4
            have pl3 := Phi.le W9 sk3
            refine d_callV (As := [.int (iI (iv f4 3))]) (rest := []) C hM (C_done (a0 := a0) (x := iv f4 3) W9 sk3 ty33 (by omega) ) dX11_condition_123 kV_X11_109 rfl ty33 rfl rfl (by decide) ck_12 rfl (Nat.le_of_ble_eq_true rfl) ⟨(Nat.le_of_ble_eq_true rfl), (Nat.le_of_ble_eq_true rfl)⟩ hph pl3 (show 1236 + 0 = 1236 from rfl) (by decide) (fun rh7 Lh7 clh7 lnh7 ivh7 rvh7 h7 => ?_)
            obtain ⟨f7, rfl, rfl, rfl, rfl, rfl, fl7, W10, rgf7, exf7, kp14f7⟩ := h7
            have ri10 : (-2147483648) ≤ iv1 a0 14 ∧ iv1 a0 14 ≤ 2147483647 := W9.int ty33 14
            have ie6 : iv1 a0 14 = ivh6 a0 14 := by rw [pq1]; exact up2_k (ne_ty ty33 ty32 (by decide))
            have ie7 : ivh6 a0 14 = ivh5 a0 14 := fl6.i ty4 rfl 14
            have ie8 : ivh5 a0 14 = ivn1 a0 14 := fl5.i ty3 rfl 14
            have ie9 : ivn1 a0 14 = iv a0 14 := by rw [hin1]; exact congrFun (up0_a (ne_in t_a0.1 hqn1)) _
            have F6 := F5.call X3 fl7 rfl
            have mr7 := MRK.call mr6 W9 sk3 XT.refl fl7 rfl rfl
            refine c_st (st2 := [.int (iI f7)]) rfl ?_
            have gk14f7 : ivh7 a0 14 = iv1 a0 14 := kp14f7
            have gf7 : f7 = (iv f4 3) := exf7
            have ri11 : (-2147483648) ≤ ivh7 a0 14 ∧ ivh7 a0 14 ≤ 2147483647 := W10.int ty33 14
            have ri12 : 0 ≤ ivh7 (sk 23) 2 ∧ ivh7 (sk 23) 2 ≤ 512 := W10.int ty31 2
            have ie11 : ivh7 (sk 23) 2 = iv1 (sk 23) 2 := fl7.i ty31 rfl 2
            have ie12 : iv1 (sk 23) 2 = ivh6 (sk 23) 2 := by rw [pq1]; exact up2_k (ne_ty ty31 ty32 (by decide))
            exact c_iret C dX11_condition_126 rfl (by decide) (rom0 hph pl3 (by decide)) ⟨f7, rfl, X3, F6, W10, ⟨by omega, by omega⟩, ⟨(by omega), mr7⟩, (by omega)⟩
          · refine c_st (st2 := [.int (iI 0)]) (by rw [show inn (iI cnd) 0 5 = iI 0 from hs1e]) ?_
            refine c_if_ne (tgt := 72) C ⟨by decide, by decide⟩ dX11_condition_62 (by decide) (fun z => absurd z (by omega)) (fun _ => ?_)
            refine c_aload_n (j := 1) (x := a0) C dX11_condition_65 rfl ?_
            refine c_bipush (z := 6) C dX11_condition_66 (by decide) ?_
            refine d_callV (As := [.int (iI 6)]) (rest := []) C hM (C_refuse (a0 := a0) (x := 6) hW hS t_a0 ⟨by decide, by decide⟩ ) dX11_condition_68 kV_X11_102 rfl t_a0 rfl rfl (by decide) ck_12 rfl (Nat.le_of_ble_eq_true rfl) ⟨(Nat.le_of_ble_eq_true rfl), (Nat.le_of_ble_eq_true rfl)⟩ hph hph (show 0 + 0 = 0 from rfl) (by decide) (fun rh8 Lh8 clh8 lnh8 ivh8 rvh8 h8 => ?_)
            obtain ⟨f8, rfl, rfl, rfl, rfl, rfl, fl8, W11, rgf8, exf8, kp14f8⟩ := h8
            have ri13 : (-2147483648) ≤ iv a0 14 ∧ iv a0 14 ≤ 2147483647 := hW.int t_a0 14
            have F7 := hF0.call hX0 fl8 rfl
            have mr8 := MRK.call hmr hW hS XT.refl fl8 rfl rfl
            refine c_st (st2 := [.int (iI f8)]) rfl ?_
            have gk14f8 : ivh8 a0 14 = iv a0 14 := kp14f8
            have gf8 : f8 = -1 := exf8
            have ri14 : (-2147483648) ≤ ivh8 a0 14 ∧ ivh8 a0 14 ≤ 2147483647 := W11.int t_a0 14
            have ri15 : 0 ≤ ivh8 (sk 23) 2 ∧ ivh8 (sk 23) 2 ≤ 512 := W11.int tsk23 2
            have ie14 : ivh8 (sk 23) 2 = iv (sk 23) 2 := fl8.i tsk23 rfl 2
            exact c_iret C dX11_condition_71 rfl (by decide) (rom0 hph hph (by decide)) ⟨f8, rfl, hX0, F7, W11, ⟨by omega, by omega⟩, ⟨(by omega), mr8⟩, (by omega)⟩
        · refine c_aload_n (j := 1) (x := a0) C dX11_condition_52 rfl ?_
          refine c_iconst C dX11_condition_53 ?_
          refine d_callV (As := [.int (iI 2)]) (rest := []) C hM (C_refuse (a0 := a0) (x := 2) hW hS t_a0 ⟨by decide, by decide⟩ ) dX11_condition_54 kV_X11_102 rfl t_a0 rfl rfl (by decide) ck_12 rfl (Nat.le_of_ble_eq_true rfl) ⟨(Nat.le_of_ble_eq_true rfl), (Nat.le_of_ble_eq_true rfl)⟩ hph hph (show 0 + 0 = 0 from rfl) (by decide) (fun rh9 Lh9 clh9 lnh9 ivh9 rvh9 h9 => ?_)
          obtain ⟨f9, rfl, rfl, rfl, rfl, rfl, fl9, W12, rgf9, exf9, kp14f9⟩ := h9
          have ri16 : (-2147483648) ≤ iv a0 14 ∧ iv a0 14 ≤ 2147483647 := hW.int t_a0 14
          have F8 := hF0.call hX0 fl9 rfl
          have mr9 := MRK.call hmr hW hS XT.refl fl9 rfl rfl
          refine c_st (st2 := [.int (iI f9)]) rfl ?_
          have gk14f9 : ivh9 a0 14 = iv a0 14 := kp14f9
          have gf9 : f9 = -1 := exf9
          have ri17 : (-2147483648) ≤ ivh9 a0 14 ∧ ivh9 a0 14 ≤ 2147483647 := W12.int t_a0 14
          have ri18 : 0 ≤ ivh9 (sk 23) 2 ∧ ivh9 (sk 23) 2 ≤ 512 := W12.int tsk23 2
          have ie16 : ivh9 (sk 23) 2 = iv (sk 23) 2 := fl9.i tsk23 rfl 2
          exact c_iret C dX11_condition_57 rfl (by decide) (rom0 hph hph (by decide)) ⟨f9, rfl, hX0, F8, W12, ⟨by omega, by omega⟩, ⟨(by omega), mr9⟩, (by omega)⟩
    · refine c_aload_n (j := 1) (x := a0) C dX11_condition_30 rfl ?_
      refine c_iconst C dX11_condition_31 ?_
      refine d_callV (As := [.int (iI 4)]) (rest := []) C hM (C_refuse (a0 := a0) (x := 4) hW hS t_a0 ⟨by decide, by decide⟩ ) dX11_condition_32 kV_X11_102 rfl t_a0 rfl rfl (by decide) ck_12 rfl (Nat.le_of_ble_eq_true rfl) ⟨(Nat.le_of_ble_eq_true rfl), (Nat.le_of_ble_eq_true rfl)⟩ hph hph (show 0 + 0 = 0 from rfl) (by decide) (fun rh10 Lh10 clh10 lnh10 ivh10 rvh10 h10 => ?_)
      obtain ⟨f10, rfl, rfl, rfl, rfl, rfl, fl10, W13, rgf10, exf10, kp14f10⟩ := h10
      have ri19 : (-2147483648) ≤ iv a0 14 ∧ iv a0 14 ≤ 2147483647 := hW.int t_a0 14
      have F9 := hF0.call hX0 fl10 rfl
      have mr10 := MRK.call hmr hW hS XT.refl fl10 rfl rfl
      refine c_st (st2 := [.int (iI f10)]) rfl ?_
      have gk14f10 : ivh10 a0 14 = iv a0 14 := kp14f10
      have gf10 : f10 = -1 := exf10
      have ri20 : (-2147483648) ≤ ivh10 a0 14 ∧ ivh10 a0 14 ≤ 2147483647 := W13.int t_a0 14
      have ri21 : 0 ≤ ivh10 (sk 23) 2 ∧ ivh10 (sk 23) 2 ≤ 512 := W13.int tsk23 2
      have ie18 : ivh10 (sk 23) 2 = iv (sk 23) 2 := fl10.i tsk23 rfl 2
      exact c_iret C dX11_condition_35 rfl (by decide) (rom0 hph hph (by decide)) ⟨f10, rfl, hX0, F9, W13, ⟨by omega, by omega⟩, ⟨(by omega), mr10⟩, (by omega)⟩
  · subst oq1
    refine c_lv (lv2 := [(4, .null), (0, .ref a0), (1, .int (iI i)), (2, .int (iI j)), (3, .int (iI cnd))]) [0, 1, 2, 3, 4] rfl ?_
    refine c_st (st2 := []) rfl ?_
    refine c_aload_n (j := 1) (x := a0) C dX11_condition_15 rfl ?_
    refine c_iconst C dX11_condition_16 ?_
    refine d_callV (As := [.int (iI 3)]) (rest := []) C hM (C_refuse (a0 := a0) (x := 3) hW hS t_a0 ⟨by decide, by decide⟩ ) dX11_condition_17 kV_X11_102 rfl t_a0 rfl rfl (by decide) ck_12 rfl (Nat.le_of_ble_eq_true rfl) ⟨(Nat.le_of_ble_eq_true rfl), (Nat.le_of_ble_eq_true rfl)⟩ hph hph (show 0 + 0 = 0 from rfl) (by decide) (fun rh11 Lh11 clh11 lnh11 ivh11 rvh11 h11 => ?_)
    obtain ⟨f11, rfl, rfl, rfl, rfl, rfl, fl11, W14, rgf11, exf11, kp14f11⟩ := h11
    have ri22 : (-2147483648) ≤ iv a0 14 ∧ iv a0 14 ≤ 2147483647 := hW.int t_a0 14
    have F10 := hF0.call hX0 fl11 rfl
    have mr11 := MRK.call hmr hW hS XT.refl fl11 rfl rfl
    refine c_st (st2 := [.int (iI f11)]) rfl ?_
    have gk14f11 : ivh11 a0 14 = iv a0 14 := kp14f11
    have gf11 : f11 = -1 := exf11
    have ri23 : (-2147483648) ≤ ivh11 a0 14 ∧ ivh11 a0 14 ≤ 2147483647 := W14.int t_a0 14
    have ri24 : 0 ≤ ivh11 (sk 23) 2 ∧ ivh11 (sk 23) 2 ≤ 512 := W14.int tsk23 2
    have ie20 : ivh11 (sk 23) 2 = iv (sk 23) 2 := fl11.i tsk23 rfl 2
    exact c_iret C dX11_condition_20 rfl (by decide) (rom0 hph hph (by decide)) ⟨f11, rfl, hX0, F10, W14, ⟨by omega, by omega⟩, ⟨(by omega), mr11⟩, (by omega)⟩
set_option maxHeartbeats 4000000 in
set_option maxRecDepth 100000 in
theorem C_changeInd {l : Launch} {G : GT} {mi : Nat} {sk : Nat → Nat} {L : List Nat} {cl ln : Nat → Nat} {iv : Nat → Nat → Int} {rv : Nat → Nat → Option Nat}  {a0 : Nat} {i : Int} {j : Int} (hW : WT (g0 G) sk L cl ln iv rv) (hS : SKL sk L cl) (t_a0 : ty L cl a0 1) (h_i : -2147483648 ≤ i ∧ i ≤ 2147483647) (h_j : -2147483648 ≤ j ∧ j ≤ 2147483647) (hmr : MRK sk cl iv rv) (hch : iv (sk 23) 2 < 512) : Mc l G mi (Phi (g0 G) sk) PHM yX11_changeIndicator cX11_changeIndicator 4 (some .int) 8 [.ref a0, .int (iI i), .int (iI j)] L cl ln iv rv 1300 (fun v L2 cl2 ln2 iv2 rv2 => ∃ f : Int, v = some (.int (iI f)) ∧ XT L cl ln L2 cl2 ln2 ∧ fT [1, 65, 66, 206, 68, 23, 1001, 201] L cl iv rv iv2 rv2 ∧ WT (g0 G) sk L2 cl2 ln2 iv2 rv2 ∧ (-2147483648 ≤ f ∧ f ≤ 2147483647) ∧ (iv2 (sk 23) 2 ≤ iv (sk 23) 2 + 1 ∧ MRK sk cl2 iv2 rv2) ∧ iv2 a0 14 = iv a0 14) := by
  refine Mc.mk (by decide) (Nat.le_of_ble_eq_true rfl) ?_
  intro p e s m args below meth c A C hM
  have hph := Phi.le hW hS
  have tsk2 : ty L cl (sk 2) 2 := ⟨(hS 2 rfl).1, by rw [(hS 2 rfl).2]; rfl⟩
  have tsk3 : ty L cl (sk 3) 3 := ⟨(hS 3 rfl).1, by rw [(hS 3 rfl).2]; rfl⟩
  have tsk4 : ty L cl (sk 4) 4 := ⟨(hS 4 rfl).1, by rw [(hS 4 rfl).2]; rfl⟩
  have tsk5 : ty L cl (sk 5) 5 := ⟨(hS 5 rfl).1, by rw [(hS 5 rfl).2]; rfl⟩
  have tsk13 : ty L cl (sk 13) 13 := ⟨(hS 13 rfl).1, by rw [(hS 13 rfl).2]; rfl⟩
  have tsk14 : ty L cl (sk 14) 14 := ⟨(hS 14 rfl).1, by rw [(hS 14 rfl).2]; rfl⟩
  have tsk15 : ty L cl (sk 15) 15 := ⟨(hS 15 rfl).1, by rw [(hS 15 rfl).2]; rfl⟩
  have tsk16 : ty L cl (sk 16) 16 := ⟨(hS 16 rfl).1, by rw [(hS 16 rfl).2]; rfl⟩
  have tsk17 : ty L cl (sk 17) 17 := ⟨(hS 17 rfl).1, by rw [(hS 17 rfl).2]; rfl⟩
  have tsk22 : ty L cl (sk 22) 22 := ⟨(hS 22 rfl).1, by rw [(hS 22 rfl).2]; rfl⟩
  have tsk23 : ty L cl (sk 23) 23 := ⟨(hS 23 rfl).1, by rw [(hS 23 rfl).2]; rfl⟩
  have hX0 : XT L cl ln L cl ln := XT.refl
  have hF0 : fT [1, 65, 66, 206, 68, 23, 1001, 201] L cl iv rv iv rv := fT.refl
  refine c_iload_n (j := 2) C dX11_changeIndicator_0 rfl ?_
  refine c_if_lt (tgt := 9) C ⟨by omega, by omega⟩ dX11_changeIndicator_1 (by decide) (fun c1 => ?_) (fun c1 => ?_)
  · refine c_aload_n (j := 0) (x := a0) C dX11_changeIndicator_9 rfl ?_
    refine c_bipush (z := 6) C dX11_changeIndicator_10 (by decide) ?_
    refine d_callV (As := [.int (iI 6)]) (rest := []) C hM (C_refuse (a0 := a0) (x := 6) hW hS t_a0 ⟨by decide, by decide⟩ ) dX11_changeIndicator_12 kV_X11_102 rfl t_a0 rfl rfl (by decide) ck_12 rfl (Nat.le_of_ble_eq_true rfl) ⟨(Nat.le_of_ble_eq_true rfl), (Nat.le_of_ble_eq_true rfl)⟩ hph hph (show 0 + 0 = 0 from rfl) (by decide) (fun rh1 Lh1 clh1 lnh1 ivh1 rvh1 h1 => ?_)
    obtain ⟨f1, rfl, rfl, rfl, rfl, rfl, fl1, W1, rgf1, exf1, kp14f1⟩ := h1
    have ri1 : (-2147483648) ≤ iv a0 14 ∧ iv a0 14 ≤ 2147483647 := hW.int t_a0 14
    have F1 := hF0.call hX0 fl1 rfl
    have mr1 := MRK.call hmr hW hS XT.refl fl1 rfl rfl
    refine c_st (st2 := [.int (iI f1)]) rfl ?_
    have gk14f1 : ivh1 a0 14 = iv a0 14 := kp14f1
    have gf1 : f1 = -1 := exf1
    have ri2 : (-2147483648) ≤ ivh1 a0 14 ∧ ivh1 a0 14 ≤ 2147483647 := W1.int t_a0 14
    have ri3 : 0 ≤ ivh1 (sk 23) 2 ∧ ivh1 (sk 23) 2 ≤ 512 := W1.int tsk23 2
    have ie2 : ivh1 (sk 23) 2 = iv (sk 23) 2 := fl1.i tsk23 rfl 2
    exact c_iret C dX11_changeIndicator_15 rfl (by decide) (rom0 hph hph (by decide)) ⟨f1, rfl, hX0, F1, W1, ⟨by omega, by omega⟩, ⟨(by omega), mr1⟩, (by omega)⟩
  · refine c_iload_n (j := 2) C dX11_changeIndicator_4 rfl ?_
    refine c_iconst C dX11_changeIndicator_5 ?_
    refine c_icmp_le (tgt := 16) C ⟨by omega, by omega⟩ ⟨by decide, by decide⟩ dX11_changeIndicator_6 (by decide) (fun c2 => ?_) (fun c2 => ?_)
    · refine c_aload_n (j := 0) (x := a0) C dX11_changeIndicator_16 rfl ?_
      obtain ⟨rb1, rq1, trb1⟩ := hW.ref t_a0 4 rfl rfl rfl
      have erb1 := hW.sk trb1 (by decide) rfl
      subst erb1
      refine c_getr (k := 4) C ck_12 dX11_changeIndicator_17 w2_48 (by decide) t_a0 rfl rfl (by decide) rfl rq1 ?_
      refine c_st (st2 := [.ref (sk 13)]) rfl ?_
      refine c_iload_n (j := 1) C dX11_changeIndicator_20 rfl ?_
      have ri4 : 0 ≤ iv (sk 22) 2 ∧ iv (sk 22) 2 ≤ 30 := hW.int tsk22 2
      refine d_callV (As := [.int (iI i)]) (rest := []) C hM (C_alive (a0 := (sk 13)) (i := i) hW hS tsk13 (by omega) hmr) dX11_changeIndicator_21 kV_X11_131 rfl tsk13 rfl rfl (by decide) ck_11 rfl (Nat.le_of_ble_eq_true rfl) ⟨(Nat.le_of_ble_eq_true rfl), (Nat.le_of_ble_eq_true rfl)⟩ hph hph (show 0 + 0 = 0 from rfl) (by decide) (fun rh2 Lh2 clh2 lnh2 ivh2 rvh2 h2 => ?_)
      obtain ⟨f2, rfl, rfl, rfl, rfl, rfl, rfl, rgf2, exf2⟩ := h2
      refine c_st (st2 := [(va_rf f2)]) rfl ?_
      have gf2 : ∀ b, f2 = some b → ((cl b : Nat) : Int) < 100 + iv (sk 22) 2 := exf2
      refine c_astorer_n (r := f2) (lv2 := [(3, (va_rf f2)), (0, .ref a0), (1, .int (iI i)), (2, .int (iI j))]) C dX11_changeIndicator_24 (by decide) rfl ?_
      refine c_aloadr_n (j := 0) (r := f2) C dX11_changeIndicator_25 rfl ?_
      refine c_ifnonnull (r := f2) (tgt := 35) C dX11_changeIndicator_26 (by decide) (fun ob1 oq1 => ?_) (fun oq1 => ?_)
      · subst oq1
        have tob1 := rgf2 ob1 rfl
        have akob1 := gf2 ob1 rfl
        refine c_lv (lv2 := [(3, .ref ob1), (0, .ref a0), (1, .int (iI i)), (2, .int (iI j))]) [0, 1, 2, 3] rfl ?_
        refine c_st (st2 := []) rfl ?_
        refine c_aload_n (j := 0) (x := ob1) C dX11_changeIndicator_35 rfl ?_
        refine c_iload_n (j := 3) C dX11_changeIndicator_36 rfl ?_
        refine d_callV (As := [.int (iI j)]) (rest := []) C hM (C_mayHave (a0 := ob1) (i := j) hW hS tob1 (by omega) ) dX11_changeIndicator_37 kV_X11_211 rfl tob1 rfl rfl (by decide) ck_10 rfl (Nat.le_of_ble_eq_true rfl) ⟨(Nat.le_of_ble_eq_true rfl), (Nat.le_of_ble_eq_true rfl)⟩ hph hph (show 0 + 0 = 0 from rfl) (by decide) (fun rh3 Lh3 clh3 lnh3 ivh3 rvh3 h3 => ?_)
        obtain ⟨f3, rfl, rfl, rfl, rfl, rfl, rfl, rgf3, exf3⟩ := h3
        refine c_st (st2 := [.int (iI f3)]) rfl ?_
        refine c_if_ne (tgt := 49) C ⟨by omega, by omega⟩ dX11_changeIndicator_40 (by decide) (fun c3 => ?_) (fun c3 => ?_)
        · refine c_aload_n (j := 1) (x := a0) C dX11_changeIndicator_49 rfl ?_
          refine c_iconst C dX11_changeIndicator_50 ?_
          refine c_aload_n (j := 0) (x := ob1) C dX11_changeIndicator_51 rfl ?_
          have ri5 : (-2147483648) ≤ iv ob1 1 ∧ iv ob1 1 ≤ 2147483647 := hW.int tob1 1
          refine c_get (k := 1) C ck_10 dX11_changeIndicator_52 w2_179 (by decide) tob1 rfl rfl (by decide) rfl ?_
          have ri6 : 0 ≤ iv (sk 2) 2 ∧ iv (sk 2) 2 ≤ 3000 := hW.int tsk2 2
          refine d_callV (As := [.int (iI 0), .int (iI (iv ob1 1))]) (rest := []) C hM (C_isRow (a0 := a0) (i := 0) (n := iv ob1 1) hW hS t_a0 ⟨by decide, by decide⟩ (by omega) (by show 0 ≤ (0 : Int); omega)) dX11_changeIndicator_55 kV_X11_175 rfl t_a0 rfl rfl (by decide) ck_12 rfl (Nat.le_of_ble_eq_true rfl) ⟨(Nat.le_of_ble_eq_true rfl), (Nat.le_of_ble_eq_true rfl)⟩ hph hph (show 0 + 0 = 0 from rfl) (by decide) (fun rh4 Lh4 clh4 lnh4 ivh4 rvh4 h4 => ?_)
          obtain ⟨f4, rfl, rfl, rfl, rfl, rfl, rfl, rgf4, exf4⟩ := h4
          refine c_st (st2 := [.int (iI f4)]) rfl ?_
          have gf4 : f4 = 0 ∨ iv (sk 2) 2 - (0 : Int) ≤ 4 := exf4
          refine c_if_ne (tgt := 68) C ⟨by omega, by omega⟩ dX11_changeIndicator_58 (by decide) (fun c4 => ?_) (fun c4 => ?_)
          · refine c_aload_n (j := 1) (x := a0) C dX11_changeIndicator_68 rfl ?_
            refine c_getr (k := 4) C ck_12 dX11_changeIndicator_69 w2_48 (by decide) t_a0 rfl rfl (by decide) rfl rq1 ?_
            refine c_st (st2 := [.ref (sk 13)]) rfl ?_
            refine c_new C ck_1 dv_1 ⟨rfl, rfl⟩ rfl (by decide) dX11_changeIndicator_72 w3_98 w3_35 w1_18 (rom2 hph hph (by decide)) (fun qn1 cln1 lnn1 ivn1 rvn1 hqn1 hcn1 hln1 hin1 hrn1 => ⟨20, (p_in (Phi.new hW hS hqn1 (fun b _ => by rw [hln1]) hrn1) (by omega)), ?_⟩)
            refine c_g0 C (fun hg1 => ?_)
            have hxn1 : ∀ b, b ≠ qn1 → lnn1 b = ln b := (fun b _ => by rw [hln1])
            have W5 := hW.new (ln2 := lnn1) hqn1 (hg1 qn1 (List.mem_append_right _ List.mem_cons_self)) hcn1 hxn1 hin1 hrn1 (fun _ => ⟨(show (-2147483648 : Int) ≤ 0 by decide), (show (0 : Int) ≤ 2147483647 by decide)⟩) (Or.inl rfl) (fun q => by cases q) rfl rfl
            have xl5 := XT.new hqn1 hcn1 hxn1
            have X1 := hX0.trans xl5
            have sk1 := xl5.skl hS
            have F2 := hF0.new hX0 hqn1 hin1 hrn1
            have mr2 := MRK.call hmr hW hS xl5 ((fT.refl (ls := [])).new (XT.refl (ln := ln)) hqn1 hin1 hrn1) rfl rfl
            have tqn1 : ty (L ++ [qn1]) cln1 qn1 201 := ty_new hcn1
            have h0qn1 : qn1 ∉ L := fun h => hqn1 ((hX0 qn1 h).1)
            refine c_dup C dX11_changeIndicator_75 rfl ?_
            refine c_iconst C dX11_changeIndicator_76 ?_
            refine c_aload_n (j := 0) (x := ob1) C dX11_changeIndicator_77 rfl ?_
            refine c_aload_n (j := 0) (x := ob1) C dX11_changeIndicator_78 rfl ?_
            have ty1 := xl5.ty tob1
            obtain ⟨rb2, rq2, trb2⟩ := W5.ref ty1 6 rfl rfl rfl
            have lnrb2 : 4 ≤ lnn1 rb2 ∧ lnn1 rb2 ≤ 4 := W5.len trb2 rfl
            refine c_getr (k := 6) C ck_10 dX11_changeIndicator_79 w2_196 (by decide) ty1 rfl rfl (by decide) rfl rq2 ?_
            refine c_st (st2 := [.ref rb2, .ref ob1, .int (iI 4), .ref qn1, .ref qn1, .ref (sk 13)]) rfl ?_
            refine c_iload_n (j := 3) C dX11_changeIndicator_82 rfl ?_
            have ll1 : 4 ≤ lnn1 rb2 ∧ lnn1 rb2 ≤ 4 := W5.len trb2 rfl
            rcases W5.opt trb2 (j.toNat) rfl rfl with ⟨nq1, _⟩ | ⟨nb1, nq1, tnb1⟩
            · refine c_aaldR C dX11_changeIndicator_83 trb2 rfl (by omega) (by omega) (by omega) nq1 ?_
              refine c_st (st2 := [.null, .ref ob1, .int (iI 4), .ref qn1, .ref qn1, .ref (sk 13)]) rfl ?_
              refine c_iload_n (j := 3) C dX11_changeIndicator_84 rfl ?_
              have pl1 := Phi.le W5 sk1
              refine c_callI (As := [.int (iI 4), .ref ob1, .null, .int (iI j)]) (rest := [.ref qn1, .ref (sk 13)]) C hM (Z_change (a0 := qn1) (i := 4) (a2 := ob1) (r := none) (n := j) W5 sk1 tqn1 ty1 (fun _ q => by cases q) ⟨by decide, by decide⟩ (by omega) ) dX11_changeIndicator_85 kI_X11_149 rfl rfl (Nat.le_of_ble_eq_true rfl) ⟨(Nat.le_of_ble_eq_true rfl), (Nat.le_of_ble_eq_true rfl)⟩ (rz1 hph pl1 (by decide)) (fun rh5 Lh5 clh5 lnh5 ivh5 rvh5 h5 => ⟨20, (zk1 (by obtain ⟨_, _, _, e3, flh5x, Wh5x, _⟩ := h5; subst e3; exact Phi.frn sk1 flh5x rfl)), ?_⟩)
              obtain ⟨rfl, rfl, rfl, rfl, fl5, W6, exf5⟩ := h5
              have F3 := F2.call X1 fl5 rfl
              have mr3 := MRK.call mr2 W5 sk1 XT.refl fl5 rfl rfl
              refine c_st (st2 := [.ref qn1, .ref (sk 13)]) rfl ?_
              obtain ⟨exf5x, exf5r, exf5p, exf5i, exf5j⟩ := exf5
              have rn1 : ∀ k, ([1, 2] : List Nat).contains k = false → rvh5 qn1 k = none := fun k hk => (Eq.trans (show rvh5 qn1 k = rvn1 qn1 k from (exf5x k hk)) (show rvn1 qn1 k = none from (by rw [hrn1]; exact up0_s)))
              refine c_retag (q := qn1) (t := 21) (by rw [tqn1.2]; rfl) (fun clr1 hcr1 => ?_)
              have ty2 := xl5.ty t_a0
              have ty3 := ty_rt ty2 hcr1 (ne_ty ty2 tqn1 (by decide))
              have ty4 := xl5.ty tsk2
              have ty5 := ty_rt ty4 hcr1 (ne_ty ty4 tqn1 (by decide))
              have ty6 := xl5.ty tsk3
              have ty7 := ty_rt ty6 hcr1 (ne_ty ty6 tqn1 (by decide))
              have ty8 := xl5.ty tsk4
              have ty9 := ty_rt ty8 hcr1 (ne_ty ty8 tqn1 (by decide))
              have ty10 := xl5.ty tsk5
              have ty11 := ty_rt ty10 hcr1 (ne_ty ty10 tqn1 (by decide))
              have ty12 := xl5.ty tsk13
              have ty13 := ty_rt ty12 hcr1 (ne_ty ty12 tqn1 (by decide))
              have ty14 := xl5.ty tsk14
              have ty15 := ty_rt ty14 hcr1 (ne_ty ty14 tqn1 (by decide))
              have ty16 := xl5.ty tsk15
              have ty17 := ty_rt ty16 hcr1 (ne_ty ty16 tqn1 (by decide))
              have ty18 := xl5.ty tsk16
              have ty19 := ty_rt ty18 hcr1 (ne_ty ty18 tqn1 (by decide))
              have ty20 := xl5.ty tsk17
              have ty21 := ty_rt ty20 hcr1 (ne_ty ty20 tqn1 (by decide))
              have ty22 := xl5.ty tsk22
              have ty23 := ty_rt ty22 hcr1 (ne_ty ty22 tqn1 (by decide))
              have ty24 := xl5.ty tsk23
              have ty25 := ty_rt ty24 hcr1 (ne_ty ty24 tqn1 (by decide))
              have ty26 := ty_rt ty1 hcr1 (ne_ty ty1 tqn1 (by decide))
              have ty27 := ty_rt trb2 hcr1 (ne_ty trb2 tqn1 (by decide))
              have tqr1 : ty (L ++ [qn1]) clr1 qn1 21 := ⟨tqn1.1, by rw [hcr1, va_up_self]; rfl⟩
              have W7 := W6.retag tqn1.1 (by rw [tqn1.2]; rfl) hcr1 (fun k => by
                    rcases k with _ | _ | _ | _ | k
                    · exact W6.int tqn1 0
                    · exact W6.int tqn1 1
                    · exact W6.int tqn1 2
                    · exact W6.int tqn1 3
                    · exact W6.int tqn1 (k + 4)) (fun k => by
                    rcases k with _ | _ | _ | _ | k
                    · rw [rn1 0 (by decide)]; exact rok_none tqr1 rfl
                    · rw [exf5r]; exact rok_some tqr1 ty26 rfl (by decide) rfl
                    · rw [exf5p]; exact rok_ch tqr1 (fun _ q => by cases q)
                    · rw [rn1 3 (by decide)]; exact rok_none tqr1 rfl
                    · rw [rn1 (k + 4) (by simp)]; exact rok_none tqr1 rfl) rfl (fun z => by cases z) (fun z => by cases z) rfl
              have X2 := X1.rt hcr1 h0qn1
              have sk2 := sk1.rt hcr1 (by rw [tqn1.2]; rfl)
              have mr4 := MRK.rt mr3 W6 sk1 hcr1 (by rw [tqn1.2]; rfl)
              have on1 := fun b hb => xl5.ty (rgf2 b hb)
              have on2 := fun b hb => ty_rt (on1 b hb) hcr1 (ne_ty (on1 b hb) tqn1 (by decide))
              have ri7 : 0 ≤ ivh5 (sk 23) 2 ∧ ivh5 (sk 23) 2 ≤ 512 := W7.int ty25 2
              have ie3 : ivh5 (sk 23) 2 = ivn1 (sk 23) 2 := fl5.i ty24 rfl 2
              have ie4 : ivn1 (sk 23) 2 = iv (sk 23) 2 := by rw [hin1]; exact congrFun (up0_a (ne_in tsk23.1 hqn1)) _
              have pl2 := Phi.le W7 sk2
              refine d_callV (As := [.ref qn1]) (rest := []) C hM (C_remember (a0 := (sk 13)) (a1 := qn1) W7 sk2 ty13 tqr1  (by show ivh5 (sk 23) 2 < 512; omega)) dX11_changeIndicator_88 kV_X11_152 rfl ty13 rfl rfl (by decide) ck_11 rfl (Nat.le_of_ble_eq_true rfl) ⟨(Nat.le_of_ble_eq_true rfl), (Nat.le_of_ble_eq_true rfl)⟩ hph pl2 (show 20 + 1216 = 1236 from rfl) (by decide) (fun rh6 Lh6 clh6 lnh6 ivh6 rvh6 h6 => ?_)
              obtain ⟨rfl, xl7, fl6, W8, exf6⟩ := h6
              have F4 := F3.call X2 fl6 rfl
              have mr5 := MRK.call mr4 W7 sk2 xl7 fl6 rfl rfl
              have X3 := X2.trans xl7
              have sk3 := xl7.skl sk2
              refine c_st (st2 := []) rfl ?_
              have ty28 := xl7.ty ty25
              have ri8 : 0 ≤ ivh6 (sk 23) 2 ∧ ivh6 (sk 23) 2 ≤ 512 := W8.int ty28 2
              have gf6 : ivh6 (sk 23) 2 = ivh5 (sk 23) 2 + 1 := exf6
              refine c_aload_n (j := 0) (x := ob1) C dX11_changeIndicator_91 rfl ?_
              have ty29 := xl7.ty ty26
              have re1 : rvh5 ob1 6 = rvn1 ob1 6 := (fl5.r ty1 rfl 6)
              rw [rq2] at re1
              have re2 : rvh6 ob1 6 = rvh5 ob1 6 := (fl6.r ty26 rfl 6)
              rw [re1] at re2
              refine c_getr (k := 6) C ck_10 dX11_changeIndicator_92 w2_196 (by decide) ty29 rfl rfl (by decide) rfl re2 ?_
              refine c_st (st2 := [.ref rb2]) rfl ?_
              refine c_iload_n (j := 3) C dX11_changeIndicator_95 rfl ?_
              refine c_aload_n (j := 1) (x := a0) C dX11_changeIndicator_96 rfl ?_
              have ty30 := xl7.ty ty3
              obtain ⟨rb3, rq3, trb3⟩ := W8.ref ty30 0 rfl rfl rfl
              have erb3 := W8.sk trb3 (by decide) rfl
              subst erb3
              refine c_getr (k := 0) C ck_12 dX11_changeIndicator_97 w2_44 (by decide) ty30 rfl rfl (by decide) rfl rq3 ?_
              refine c_st (st2 := [.ref (sk 2), .int (iI j), .ref rb2]) rfl ?_
              have ty31 := xl7.ty ty5
              have ri9 : 0 ≤ ivh6 (sk 2) 2 ∧ ivh6 (sk 2) 2 ≤ 3000 := W8.int ty31 2
              have ie6 : ivh6 (sk 2) 2 = ivh5 (sk 2) 2 := fl6.i ty5 rfl 2
              have ie7 : ivh5 (sk 2) 2 = ivn1 (sk 2) 2 := fl5.i ty4 rfl 2
              have ie8 : ivn1 (sk 2) 2 = iv (sk 2) 2 := by rw [hin1]; exact congrFun (up0_a (ne_in tsk2.1 hqn1)) _
              refine c_get (k := 2) C ck_2 dX11_changeIndicator_100 w1_44 (by decide) ty31 rfl rfl (by decide) rfl ?_
              refine c_if_ne (tgt := 110) C ⟨by omega, by omega⟩ dX11_changeIndicator_103 (by decide) (fun c5 => ?_) (fun c5 => ?_)
              · have ty32 := xl7.ty ty7
                have ty33 := xl7.ty ty9
                have ty34 := xl7.ty ty11
                have ty35 := xl7.ty ty13
                have ty36 := xl7.ty ty15
                have ty37 := xl7.ty ty17
                have ty38 := xl7.ty ty19
                have ty39 := xl7.ty ty21
                have ty40 := xl7.ty ty23
                have ty41 := xl7.ty tqr1
                have ty42 := xl7.ty ty27
                have pl3 := Phi.le W8 sk3
                refine c_new C ck_6 dv_6 ⟨rfl, rfl⟩ rfl (by decide) dX11_changeIndicator_110 w3_125 w3_126 w1_21 (rom2 hph pl3 (by decide)) (fun qn2 cln2 lnn2 ivn2 rvn2 hqn2 hcn2 hln2 hin2 hrn2 => ⟨1256, (p_in (Phi.new W8 sk3 hqn2 (fun b _ => by rw [hln2]) hrn2) (by omega)), ?_⟩)
                refine c_g0 C (fun hg2 => ?_)
                have hxn2 : ∀ b, b ≠ qn2 → lnn2 b = lnh6 b := (fun b _ => by rw [hln2])
                have W9 := W8.new (ln2 := lnn2) hqn2 (hg2 qn2 (List.mem_append_right _ List.mem_cons_self)) hcn2 hxn2 hin2 hrn2 (fun _ => ⟨(show (-2147483648 : Int) ≤ 0 by decide), (show (0 : Int) ≤ 2147483647 by decide)⟩) (Or.inl rfl) (fun q => by cases q) rfl rfl
                have xl8 := XT.new hqn2 hcn2 hxn2
                have X4 := X3.trans xl8
                have sk4 := xl8.skl sk3
                have F5 := F4.new X3 hqn2 hin2 hrn2
                have mr6 := MRK.call mr5 W8 sk3 xl8 ((fT.refl (ls := [])).new (XT.refl (ln := lnh6)) hqn2 hin2 hrn2) rfl rfl
                have tqn2 : ty (Lh6 ++ [qn2]) cln2 qn2 206 := ty_new hcn2
                have h0qn2 : qn2 ∉ L := fun h => hqn2 ((X3 qn2 h).1)
                refine c_dup C dX11_changeIndicator_113 rfl ?_
                refine c_iload_n (j := 3) C dX11_changeIndicator_114 rfl ?_
                refine c_aload_n (j := 1) (x := a0) C dX11_changeIndicator_115 rfl ?_
                have ty43 := xl8.ty ty30
                have re3 : rvn2 a0 0 = rvh6 a0 0 := (by rw [hrn2]; exact congrFun (up0_a (ne_in ty30.1 hqn2)) _)
                rw [rq3] at re3
                refine c_getr (k := 0) C ck_12 dX11_changeIndicator_116 w2_44 (by decide) ty43 rfl rfl (by decide) rfl re3 ?_
                refine c_st (st2 := [.ref (sk 2), .int (iI j), .ref qn2, .ref qn2, .int (iI j), .ref rb2]) rfl ?_
                refine c_iconst C dX11_changeIndicator_119 ?_
                refine c_iconst C dX11_changeIndicator_120 ?_
                have ty44 := xl8.ty ty31
                have pl4 := Phi.le W9 sk4
                refine d_callV (As := [.int (iI 0), .int (iI 0)]) (rest := [.int (iI j), .ref qn2, .ref qn2, .int (iI j), .ref rb2]) C hM (C_slice_65 (a0 := (sk 2)) (i := 0) (j := 0) W9 sk4 ty44 ⟨by decide, by decide⟩ ⟨by decide, by decide⟩ (by show 0 ≤ (0 : Int) ∧ (0 : Int) ≤ 3000 ∧ 0 ≤ (0 : Int) - (0 : Int) ∧ (0 : Int) - (0 : Int) ≤ 8; omega)) dX11_changeIndicator_121 kV_X11_190 rfl ty44 rfl rfl (by decide) ck_2 rfl (Nat.le_of_ble_eq_true rfl) ⟨(Nat.le_of_ble_eq_true rfl), (Nat.le_of_ble_eq_true rfl)⟩ hph pl4 (show 1256 + 24 = 1280 from rfl) (by decide) (fun rh7 Lh7 clh7 lnh7 ivh7 rvh7 h7 => ?_)
                obtain ⟨f7, rfl, xl9, fl7, W10, rgf7, exf7⟩ := h7
                have F6 := F5.call X4 fl7 rfl
                have mr7 := MRK.call mr6 W9 sk4 xl9 fl7 rfl rfl
                have ty45 := xl8.ty ty32
                have ty46 := xl8.ty ty33
                have ty47 := xl8.ty ty34
                have ty48 := xl8.ty ty35
                have ty49 := xl8.ty ty36
                have ty50 := xl8.ty ty37
                have ty51 := xl8.ty ty38
                have ty52 := xl8.ty ty39
                have ty53 := xl8.ty ty40
                have ty54 := xl8.ty ty28
                have ty55 := xl8.ty ty29
                have ty56 := xl8.ty ty41
                have ty57 := xl8.ty ty42
                have X5 := X4.trans xl9
                have sk5 := xl9.skl sk4
                refine c_st (st2 := [.ref f7, .int (iI j), .ref qn2, .ref qn2, .int (iI j), .ref rb2]) rfl ?_
                have gf7 : lnh7 f7 = ((0 : Int) - (0 : Int)).toNat := exf7
                refine c_aload_n (j := 1) (x := a0) C dX11_changeIndicator_124 rfl ?_
                have ty58 := xl9.ty ty43
                have re4 : rvh7 a0 0 = rvn2 a0 0 := (fl7.r ty43 rfl 0)
                rw [re3] at re4
                refine c_getr (k := 0) C ck_12 dX11_changeIndicator_125 w2_44 (by decide) ty58 rfl rfl (by decide) rfl re4 ?_
                refine c_st (st2 := [.ref (sk 2), .ref f7, .int (iI j), .ref qn2, .ref qn2, .int (iI j), .ref rb2]) rfl ?_
                refine c_iconst C dX11_changeIndicator_128 ?_
                refine c_aload_n (j := 1) (x := a0) C dX11_changeIndicator_129 rfl ?_
                refine c_getr (k := 0) C ck_12 dX11_changeIndicator_130 w2_44 (by decide) ty58 rfl rfl (by decide) rfl re4 ?_
                refine c_st (st2 := [.ref (sk 2), .int (iI 0), .ref (sk 2), .ref f7, .int (iI j), .ref qn2, .ref qn2, .int (iI j), .ref rb2]) rfl ?_
                have ty59 := xl9.ty ty44
                have ri10 : 0 ≤ ivh7 (sk 2) 2 ∧ ivh7 (sk 2) 2 ≤ 3000 := W10.int ty59 2
                have ie9 : ivh7 (sk 2) 2 = ivn2 (sk 2) 2 := fl7.i ty44 rfl 2
                have ie10 : ivn2 (sk 2) 2 = ivh6 (sk 2) 2 := by rw [hin2]; exact congrFun (up0_a (ne_in ty31.1 hqn2)) _
                refine c_get (k := 2) C ck_2 dX11_changeIndicator_133 w1_44 (by decide) ty59 rfl rfl (by decide) rfl ?_
                have pl5 := Phi.le W10 sk5
                refine d_callV (As := [.int (iI 0), .int (iI (ivh7 (sk 2) 2))]) (rest := [.ref f7, .int (iI j), .ref qn2, .ref qn2, .int (iI j), .ref rb2]) C hM (C_slice_66 (a0 := (sk 2)) (i := 0) (j := ivh7 (sk 2) 2) W10 sk5 ty59 ⟨by decide, by decide⟩ (by omega) (by show 0 ≤ (0 : Int) ∧ (0 : Int) ≤ 3000 ∧ 1 ≤ (ivh7 (sk 2) 2) - (0 : Int) ∧ (ivh7 (sk 2) 2) - (0 : Int) ≤ 4; omega)) dX11_changeIndicator_136 kV_X11_190 rfl ty59 rfl rfl (by decide) ck_2 rfl (Nat.le_of_ble_eq_true rfl) ⟨(Nat.le_of_ble_eq_true rfl), (Nat.le_of_ble_eq_true rfl)⟩ hph pl5 (show 1280 + 20 = 1300 from rfl) (by decide) (fun rh8 Lh8 clh8 lnh8 ivh8 rvh8 h8 => ?_)
                obtain ⟨f8, rfl, xl10, fl8, W11, rgf8, exf8⟩ := h8
                have F7 := F6.call X5 fl8 rfl
                have mr8 := MRK.call mr7 W10 sk5 xl10 fl8 rfl rfl
                have ty60 := xl9.ty ty45
                have ty61 := xl9.ty ty46
                have ty62 := xl9.ty ty47
                have ty63 := xl9.ty ty48
                have ty64 := xl9.ty ty49
                have ty65 := xl9.ty ty50
                have ty66 := xl9.ty ty51
                have ty67 := xl9.ty ty52
                have ty68 := xl9.ty ty53
                have ty69 := xl9.ty ty54
                have ty70 := xl9.ty ty55
                have ty71 := xl9.ty ty56
                have ty72 := xl9.ty ty57
                have ty73 := xl9.ty tqn2
                have X6 := X5.trans xl10
                have sk6 := xl10.skl sk5
                refine c_st (st2 := [.ref f8, .ref f7, .int (iI j), .ref qn2, .ref qn2, .int (iI j), .ref rb2]) rfl ?_
                have gf8 : lnh8 f8 = ((ivh7 (sk 2) 2) - (0 : Int)).toNat := exf8
                have ty74 := xl10.ty ty73
                have ty75 := xl10.ty rgf7
                have pl6 := Phi.le W11 sk6
                refine c_callI (As := [.int (iI j), .ref f7, .ref f8]) (rest := [.ref qn2, .int (iI j), .ref rb2]) C hM (Z_row (a0 := qn2) (i := j) (a2 := f7) (a3 := f8) W11 sk6 ty74 ty75 rgf8 (by omega) ) dX11_changeIndicator_139 kI_X11_194 rfl rfl (Nat.le_of_ble_eq_true rfl) ⟨(Nat.le_of_ble_eq_true rfl), (Nat.le_of_ble_eq_true rfl)⟩ (rz1 hph pl6 (by decide)) (fun rh9 Lh9 clh9 lnh9 ivh9 rvh9 h9 => ⟨1300, (zk1 (by obtain ⟨_, _, _, e3, flh9x, Wh9x, _⟩ := h9; subst e3; exact Phi.frn sk6 flh9x rfl)), ?_⟩)
                obtain ⟨rfl, rfl, rfl, rfl, fl9, W12, exf9⟩ := h9
                have F8 := F7.call X6 fl9 rfl
                have mr9 := MRK.call mr8 W11 sk6 XT.refl fl9 rfl rfl
                refine c_st (st2 := [.ref qn2, .int (iI j), .ref rb2]) rfl ?_
                obtain ⟨exf9x, exf9r, exf9p, exf9i, exf9j⟩ := exf9
                have rn2 : ∀ k, ([1, 2] : List Nat).contains k = false → rvh9 qn2 k = none := fun k hk => (Eq.trans (show rvh9 qn2 k = rvh8 qn2 k from (exf9x k hk)) (Eq.trans (show rvh8 qn2 k = rvh7 qn2 k from (fl8.r ty73 rfl k)) (Eq.trans (show rvh7 qn2 k = rvn2 qn2 k from (fl7.r tqn2 rfl k)) (show rvn2 qn2 k = none from (by rw [hrn2]; exact up0_s)))))
                refine c_retag (q := qn2) (t := 20) (by rw [ty74.2]; rfl) (fun clr2 hcr2 => ?_)
                have ty76 := xl10.ty ty58
                have ty77 := ty_rt ty76 hcr2 (ne_ty ty76 ty74 (by decide))
                have ty78 := xl10.ty ty59
                have ty79 := ty_rt ty78 hcr2 (ne_ty ty78 ty74 (by decide))
                have ty80 := xl10.ty ty60
                have ty81 := ty_rt ty80 hcr2 (ne_ty ty80 ty74 (by decide))
                have ty82 := xl10.ty ty61
                have ty83 := ty_rt ty82 hcr2 (ne_ty ty82 ty74 (by decide))
                have ty84 := xl10.ty ty62
                have ty85 := ty_rt ty84 hcr2 (ne_ty ty84 ty74 (by decide))
                have ty86 := xl10.ty ty63
                have ty87 := ty_rt ty86 hcr2 (ne_ty ty86 ty74 (by decide))
                have ty88 := xl10.ty ty64
                have ty89 := ty_rt ty88 hcr2 (ne_ty ty88 ty74 (by decide))
                have ty90 := xl10.ty ty65
                have ty91 := ty_rt ty90 hcr2 (ne_ty ty90 ty74 (by decide))
                have ty92 := xl10.ty ty66
                have ty93 := ty_rt ty92 hcr2 (ne_ty ty92 ty74 (by decide))
                have ty94 := xl10.ty ty67
                have ty95 := ty_rt ty94 hcr2 (ne_ty ty94 ty74 (by decide))
                have ty96 := xl10.ty ty68
                have ty97 := ty_rt ty96 hcr2 (ne_ty ty96 ty74 (by decide))
                have ty98 := xl10.ty ty69
                have ty99 := ty_rt ty98 hcr2 (ne_ty ty98 ty74 (by decide))
                have ty100 := xl10.ty ty70
                have ty101 := ty_rt ty100 hcr2 (ne_ty ty100 ty74 (by decide))
                have ty102 := xl10.ty ty71
                have ty103 := ty_rt ty102 hcr2 (ne_ty ty102 ty74 (by decide))
                have ty104 := xl10.ty ty72
                have ty105 := ty_rt ty104 hcr2 (ne_ty ty104 ty74 (by decide))
                have ty106 := ty_rt ty75 hcr2 (ne_ty ty75 ty74 (by decide))
                have ty107 := ty_rt rgf8 hcr2 (ne_ty rgf8 ty74 (by decide))
                have tqr2 : ty Lh8 clr2 qn2 20 := ⟨ty74.1, by rw [hcr2, va_up_self]; rfl⟩
                have W13 := W12.retag ty74.1 (by rw [ty74.2]; rfl) hcr2 (fun k => by
                      rcases k with _ | _ | _ | _ | k
                      · exact W12.int ty74 0
                      · exact W12.int ty74 1
                      · exact W12.int ty74 2
                      · exact W12.int ty74 3
                      · exact W12.int ty74 (k + 4)) (fun k => by
                      rcases k with _ | _ | _ | _ | k
                      · rw [rn2 0 (by decide)]; exact rok_none tqr2 rfl
                      · rw [exf9r]; exact rok_some tqr2 ty106 rfl (by decide) rfl
                      · rw [exf9p]; exact rok_some tqr2 ty107 rfl (by decide) rfl
                      · rw [rn2 3 (by decide)]; exact rok_none tqr2 rfl
                      · rw [rn2 (k + 4) (by simp)]; exact rok_none tqr2 rfl) rfl (fun z => by cases z) (fun z => by cases z) rfl
                have X7 := X6.rt hcr2 h0qn2
                have sk7 := sk6.rt hcr2 (by rw [ty74.2]; rfl)
                have mr10 := MRK.rt mr9 W12 sk6 hcr2 (by rw [ty74.2]; rfl)
                have on3 := fun b hb => xl7.ty (on2 b hb)
                have on4 := fun b hb => xl8.ty (on3 b hb)
                have on5 := fun b hb => xl9.ty (on4 b hb)
                have on6 := fun b hb => xl10.ty (on5 b hb)
                have on7 := fun b hb => ty_rt (on6 b hb) hcr2 (ne_ty (on6 b hb) ty74 (by decide))
                have ll2 : 4 ≤ lnh8 rb2 ∧ lnh8 rb2 ≤ 4 := W13.len ty105 rfl
                refine c_aastR (z := j) C ck_6 dX11_changeIndicator_142 ty105 rfl tqr2 rfl rfl (by decide) (by omega) (by omega) (by omega) (fun rv1 pq1 => ⟨1300, (by rw [Phi.putr sk7 pq1 ty105 rfl]; exact Nat.le_refl _), ?_⟩)
                have W14 := W13.putr pq1 ty105 (rok_some ty105 tqr2 rfl (by decide) rfl) rfl (by decide)
                have F9 := F8.putr X7 pq1 ty105 rfl
                have mr11 := MRK.putr mr10 W13 sk7 pq1 ty105 (by decide) (by decide)
                refine c_aload_n (j := 1) (x := a0) C dX11_changeIndicator_143 rfl ?_
                refine c_aload_n (j := 1) (x := a0) C dX11_changeIndicator_144 rfl ?_
                have re5 : rvh8 a0 0 = rvh7 a0 0 := (fl8.r ty58 rfl 0)
                rw [re4] at re5
                have re6 : rvh9 a0 0 = rvh8 a0 0 := (fl9.r ty76 rfl 0)
                rw [re5] at re6
                have re7 : rv1 a0 0 = rvh9 a0 0 := (by rw [pq1]; exact congrFun (upr_a (ne_ty ty77 ty105 (by decide))) _)
                rw [re6] at re7
                refine c_getr (k := 0) C ck_12 dX11_changeIndicator_145 w2_44 (by decide) ty77 rfl rfl (by decide) rfl re7 ?_
                refine c_st (st2 := [.ref (sk 2), .ref a0]) rfl ?_
                have ri11 : 0 ≤ ivh9 (sk 2) 2 ∧ ivh9 (sk 2) 2 ≤ 3000 := W14.int ty79 2
                have ie11 : ivh9 (sk 2) 2 = ivh8 (sk 2) 2 := fl9.i ty78 rfl 2
                have ie12 : ivh8 (sk 2) 2 = ivh7 (sk 2) 2 := fl8.i ty59 rfl 2
                refine c_get (k := 2) C ck_2 dX11_changeIndicator_148 w1_44 (by decide) ty79 rfl rfl (by decide) rfl ?_
                have pl7 := Phi.le W14 sk7
                refine d_callV (As := [.int (iI (ivh9 (sk 2) 2))]) (rest := []) C hM (C_done (a0 := a0) (x := ivh9 (sk 2) 2) W14 sk7 ty77 (by omega) ) dX11_changeIndicator_151 kV_X11_109 rfl ty77 rfl rfl (by decide) ck_12 rfl (Nat.le_of_ble_eq_true rfl) ⟨(Nat.le_of_ble_eq_true rfl), (Nat.le_of_ble_eq_true rfl)⟩ hph pl7 (show 1300 + 0 = 1300 from rfl) (by decide) (fun rh10 Lh10 clh10 lnh10 ivh10 rvh10 h10 => ?_)
                obtain ⟨f10, rfl, rfl, rfl, rfl, rfl, fl10, W15, rgf10, exf10, kp14f10⟩ := h10
                have ri12 : (-2147483648) ≤ ivh9 a0 14 ∧ ivh9 a0 14 ≤ 2147483647 := W14.int ty77 14
                have ie13 : ivh9 a0 14 = ivh8 a0 14 := fl9.i ty76 rfl 14
                have ie14 : ivh8 a0 14 = ivh7 a0 14 := fl8.i ty58 rfl 14
                have ie15 : ivh7 a0 14 = ivn2 a0 14 := fl7.i ty43 rfl 14
                have ie16 : ivn2 a0 14 = ivh6 a0 14 := by rw [hin2]; exact congrFun (up0_a (ne_in ty30.1 hqn2)) _
                have ie17 : ivh6 a0 14 = ivh5 a0 14 := fl6.i ty3 rfl 14
                have ie18 : ivh5 a0 14 = ivn1 a0 14 := fl5.i ty2 rfl 14
                have ie19 : ivn1 a0 14 = iv a0 14 := by rw [hin1]; exact congrFun (up0_a (ne_in t_a0.1 hqn1)) _
                have F10 := F9.call X7 fl10 rfl
                have mr12 := MRK.call mr11 W14 sk7 XT.refl fl10 rfl rfl
                refine c_st (st2 := [.int (iI f10)]) rfl ?_
                have gk14f10 : ivh10 a0 14 = ivh9 a0 14 := kp14f10
                have gf10 : f10 = (ivh9 (sk 2) 2) := exf10
                have ri13 : (-2147483648) ≤ ivh10 a0 14 ∧ ivh10 a0 14 ≤ 2147483647 := W15.int ty77 14
                have ri14 : 0 ≤ ivh10 (sk 23) 2 ∧ ivh10 (sk 23) 2 ≤ 512 := W15.int ty99 2
                have ie21 : ivh10 (sk 23) 2 = ivh9 (sk 23) 2 := fl10.i ty99 rfl 2
                have ie22 : ivh9 (sk 23) 2 = ivh8 (sk 23) 2 := fl9.i ty98 rfl 2
                have ie23 : ivh8 (sk 23) 2 = ivh7 (sk 23) 2 := fl8.i ty69 rfl 2
                have ie24 : ivh7 (sk 23) 2 = ivn2 (sk 23) 2 := fl7.i ty54 rfl 2
                have ie25 : ivn2 (sk 23) 2 = ivh6 (sk 23) 2 := by rw [hin2]; exact congrFun (up0_a (ne_in ty28.1 hqn2)) _
                exact c_iret C dX11_changeIndicator_154 rfl (by decide) (rom0 hph pl7 (by decide)) ⟨f10, rfl, X7, F10, W15, ⟨by omega, by omega⟩, ⟨(by omega), mr12⟩, (by omega)⟩
              · refine c_null C dX11_changeIndicator_106 ?_
                refine c_goto (tgt := 142) C dX11_changeIndicator_107 (by decide) ?_
                have ty108 := xl7.ty ty27
                have ll3 : 4 ≤ lnh6 rb2 ∧ lnh6 rb2 ≤ 4 := W8.len ty108 rfl
                refine c_aastNR (z := j) C dX11_changeIndicator_142 ty108 rfl (by omega) (by omega) (by omega) (fun rv2 pq2 => ⟨1236, (by rw [Phi.putr sk3 pq2 ty108 rfl]; exact Nat.le_refl _), ?_⟩)
                have W16 := W8.putr pq2 ty108 (fun _ => ⟨fun _ => by rw [ty108.2]; rfl, fun _ qq => by cases qq⟩) rfl (by decide)
                have F11 := F4.putr X3 pq2 ty108 rfl
                have mr13 := MRK.putr mr5 W8 sk3 pq2 ty108 (by decide) (by decide)
                refine c_aload_n (j := 1) (x := a0) C dX11_changeIndicator_143 rfl ?_
                refine c_aload_n (j := 1) (x := a0) C dX11_changeIndicator_144 rfl ?_
                have re8 : rv2 a0 0 = rvh6 a0 0 := (by rw [pq2]; exact congrFun (upr_a (ne_ty ty30 ty108 (by decide))) _)
                rw [rq3] at re8
                refine c_getr (k := 0) C ck_12 dX11_changeIndicator_145 w2_44 (by decide) ty30 rfl rfl (by decide) rfl re8 ?_
                refine c_st (st2 := [.ref (sk 2), .ref a0]) rfl ?_
                refine c_get (k := 2) C ck_2 dX11_changeIndicator_148 w1_44 (by decide) ty31 rfl rfl (by decide) rfl ?_
                have pl8 := Phi.le W16 sk3
                refine d_callV (As := [.int (iI (ivh6 (sk 2) 2))]) (rest := []) C hM (C_done (a0 := a0) (x := ivh6 (sk 2) 2) W16 sk3 ty30 (by omega) ) dX11_changeIndicator_151 kV_X11_109 rfl ty30 rfl rfl (by decide) ck_12 rfl (Nat.le_of_ble_eq_true rfl) ⟨(Nat.le_of_ble_eq_true rfl), (Nat.le_of_ble_eq_true rfl)⟩ hph pl8 (show 1236 + 0 = 1236 from rfl) (by decide) (fun rh11 Lh11 clh11 lnh11 ivh11 rvh11 h11 => ?_)
                obtain ⟨f11, rfl, rfl, rfl, rfl, rfl, fl11, W17, rgf11, exf11, kp14f11⟩ := h11
                have ri15 : (-2147483648) ≤ ivh6 a0 14 ∧ ivh6 a0 14 ≤ 2147483647 := W16.int ty30 14
                have ie26 : ivh6 a0 14 = ivh5 a0 14 := fl6.i ty3 rfl 14
                have ie27 : ivh5 a0 14 = ivn1 a0 14 := fl5.i ty2 rfl 14
                have ie28 : ivn1 a0 14 = iv a0 14 := by rw [hin1]; exact congrFun (up0_a (ne_in t_a0.1 hqn1)) _
                have F12 := F11.call X3 fl11 rfl
                have mr14 := MRK.call mr13 W16 sk3 XT.refl fl11 rfl rfl
                refine c_st (st2 := [.int (iI f11)]) rfl ?_
                have gk14f11 : ivh11 a0 14 = ivh6 a0 14 := kp14f11
                have gf11 : f11 = (ivh6 (sk 2) 2) := exf11
                have ri16 : (-2147483648) ≤ ivh11 a0 14 ∧ ivh11 a0 14 ≤ 2147483647 := W17.int ty30 14
                have ri17 : 0 ≤ ivh11 (sk 23) 2 ∧ ivh11 (sk 23) 2 ≤ 512 := W17.int ty28 2
                have ie30 : ivh11 (sk 23) 2 = ivh6 (sk 23) 2 := fl11.i ty28 rfl 2
                exact c_iret C dX11_changeIndicator_154 rfl (by decide) (rom0 hph pl8 (by decide)) ⟨f11, rfl, X3, F12, W17, ⟨by omega, by omega⟩, ⟨(by omega), mr14⟩, (by omega)⟩
            · have tnb1 : ty (L ++ [qn1]) cln1 nb1 20 := tnb1
              refine c_aaldR C dX11_changeIndicator_83 trb2 rfl (by omega) (by omega) (by omega) nq1 ?_
              refine c_st (st2 := [.ref nb1, .ref ob1, .int (iI 4), .ref qn1, .ref qn1, .ref (sk 13)]) rfl ?_
              refine c_iload_n (j := 3) C dX11_changeIndicator_84 rfl ?_
              have pl9 := Phi.le W5 sk1
              refine c_callI (As := [.int (iI 4), .ref ob1, .ref nb1, .int (iI j)]) (rest := [.ref qn1, .ref (sk 13)]) C hM (Z_change (a0 := qn1) (i := 4) (a2 := ob1) (r := (some nb1)) (n := j) W5 sk1 tqn1 ty1 (fun _ q => by cases q; exact tnb1) ⟨by decide, by decide⟩ (by omega) ) dX11_changeIndicator_85 kI_X11_149 rfl rfl (Nat.le_of_ble_eq_true rfl) ⟨(Nat.le_of_ble_eq_true rfl), (Nat.le_of_ble_eq_true rfl)⟩ (rz1 hph pl9 (by decide)) (fun rh12 Lh12 clh12 lnh12 ivh12 rvh12 h12 => ⟨20, (zk1 (by obtain ⟨_, _, _, e3, flh12x, Wh12x, _⟩ := h12; subst e3; exact Phi.frn sk1 flh12x rfl)), ?_⟩)
              obtain ⟨rfl, rfl, rfl, rfl, fl12, W18, exf12⟩ := h12
              have F13 := F2.call X1 fl12 rfl
              have mr15 := MRK.call mr2 W5 sk1 XT.refl fl12 rfl rfl
              refine c_st (st2 := [.ref qn1, .ref (sk 13)]) rfl ?_
              obtain ⟨exf12x, exf12r, exf12p, exf12i, exf12j⟩ := exf12
              have rn3 : ∀ k, ([1, 2] : List Nat).contains k = false → rvh12 qn1 k = none := fun k hk => (Eq.trans (show rvh12 qn1 k = rvn1 qn1 k from (exf12x k hk)) (show rvn1 qn1 k = none from (by rw [hrn1]; exact up0_s)))
              refine c_retag (q := qn1) (t := 21) (by rw [tqn1.2]; rfl) (fun clr3 hcr3 => ?_)
              have ty109 := xl5.ty t_a0
              have ty110 := ty_rt ty109 hcr3 (ne_ty ty109 tqn1 (by decide))
              have ty111 := xl5.ty tsk2
              have ty112 := ty_rt ty111 hcr3 (ne_ty ty111 tqn1 (by decide))
              have ty113 := xl5.ty tsk3
              have ty114 := ty_rt ty113 hcr3 (ne_ty ty113 tqn1 (by decide))
              have ty115 := xl5.ty tsk4
              have ty116 := ty_rt ty115 hcr3 (ne_ty ty115 tqn1 (by decide))
              have ty117 := xl5.ty tsk5
              have ty118 := ty_rt ty117 hcr3 (ne_ty ty117 tqn1 (by decide))
              have ty119 := xl5.ty tsk13
              have ty120 := ty_rt ty119 hcr3 (ne_ty ty119 tqn1 (by decide))
              have ty121 := xl5.ty tsk14
              have ty122 := ty_rt ty121 hcr3 (ne_ty ty121 tqn1 (by decide))
              have ty123 := xl5.ty tsk15
              have ty124 := ty_rt ty123 hcr3 (ne_ty ty123 tqn1 (by decide))
              have ty125 := xl5.ty tsk16
              have ty126 := ty_rt ty125 hcr3 (ne_ty ty125 tqn1 (by decide))
              have ty127 := xl5.ty tsk17
              have ty128 := ty_rt ty127 hcr3 (ne_ty ty127 tqn1 (by decide))
              have ty129 := xl5.ty tsk22
              have ty130 := ty_rt ty129 hcr3 (ne_ty ty129 tqn1 (by decide))
              have ty131 := xl5.ty tsk23
              have ty132 := ty_rt ty131 hcr3 (ne_ty ty131 tqn1 (by decide))
              have ty133 := ty_rt ty1 hcr3 (ne_ty ty1 tqn1 (by decide))
              have ty134 := ty_rt trb2 hcr3 (ne_ty trb2 tqn1 (by decide))
              have ty135 := ty_rt tnb1 hcr3 (ne_ty tnb1 tqn1 (by decide))
              have tqr3 : ty (L ++ [qn1]) clr3 qn1 21 := ⟨tqn1.1, by rw [hcr3, va_up_self]; rfl⟩
              have W19 := W18.retag tqn1.1 (by rw [tqn1.2]; rfl) hcr3 (fun k => by
                    rcases k with _ | _ | _ | _ | k
                    · exact W18.int tqn1 0
                    · exact W18.int tqn1 1
                    · exact W18.int tqn1 2
                    · exact W18.int tqn1 3
                    · exact W18.int tqn1 (k + 4)) (fun k => by
                    rcases k with _ | _ | _ | _ | k
                    · rw [rn3 0 (by decide)]; exact rok_none tqr3 rfl
                    · rw [exf12r]; exact rok_some tqr3 ty133 rfl (by decide) rfl
                    · rw [exf12p]; exact rok_ch tqr3 (fun _ q => by cases q; exact ty135)
                    · rw [rn3 3 (by decide)]; exact rok_none tqr3 rfl
                    · rw [rn3 (k + 4) (by simp)]; exact rok_none tqr3 rfl) rfl (fun z => by cases z) (fun z => by cases z) rfl
              have X8 := X1.rt hcr3 h0qn1
              have sk8 := sk1.rt hcr3 (by rw [tqn1.2]; rfl)
              have mr16 := MRK.rt mr15 W18 sk1 hcr3 (by rw [tqn1.2]; rfl)
              have on8 := fun b hb => xl5.ty (rgf2 b hb)
              have on9 := fun b hb => ty_rt (on8 b hb) hcr3 (ne_ty (on8 b hb) tqn1 (by decide))
              have ri18 : 0 ≤ ivh12 (sk 23) 2 ∧ ivh12 (sk 23) 2 ≤ 512 := W19.int ty132 2
              have ie31 : ivh12 (sk 23) 2 = ivn1 (sk 23) 2 := fl12.i ty131 rfl 2
              have ie32 : ivn1 (sk 23) 2 = iv (sk 23) 2 := by rw [hin1]; exact congrFun (up0_a (ne_in tsk23.1 hqn1)) _
              have pl10 := Phi.le W19 sk8
              refine d_callV (As := [.ref qn1]) (rest := []) C hM (C_remember (a0 := (sk 13)) (a1 := qn1) W19 sk8 ty120 tqr3  (by show ivh12 (sk 23) 2 < 512; omega)) dX11_changeIndicator_88 kV_X11_152 rfl ty120 rfl rfl (by decide) ck_11 rfl (Nat.le_of_ble_eq_true rfl) ⟨(Nat.le_of_ble_eq_true rfl), (Nat.le_of_ble_eq_true rfl)⟩ hph pl10 (show 20 + 1216 = 1236 from rfl) (by decide) (fun rh13 Lh13 clh13 lnh13 ivh13 rvh13 h13 => ?_)
              obtain ⟨rfl, xl15, fl13, W20, exf13⟩ := h13
              have F14 := F13.call X8 fl13 rfl
              have mr17 := MRK.call mr16 W19 sk8 xl15 fl13 rfl rfl
              have X9 := X8.trans xl15
              have sk9 := xl15.skl sk8
              refine c_st (st2 := []) rfl ?_
              have ty136 := xl15.ty ty132
              have ri19 : 0 ≤ ivh13 (sk 23) 2 ∧ ivh13 (sk 23) 2 ≤ 512 := W20.int ty136 2
              have gf13 : ivh13 (sk 23) 2 = ivh12 (sk 23) 2 + 1 := exf13
              refine c_aload_n (j := 0) (x := ob1) C dX11_changeIndicator_91 rfl ?_
              have ty137 := xl15.ty ty133
              have re9 : rvh12 ob1 6 = rvn1 ob1 6 := (fl12.r ty1 rfl 6)
              rw [rq2] at re9
              have re10 : rvh13 ob1 6 = rvh12 ob1 6 := (fl13.r ty133 rfl 6)
              rw [re9] at re10
              refine c_getr (k := 6) C ck_10 dX11_changeIndicator_92 w2_196 (by decide) ty137 rfl rfl (by decide) rfl re10 ?_
              refine c_st (st2 := [.ref rb2]) rfl ?_
              refine c_iload_n (j := 3) C dX11_changeIndicator_95 rfl ?_
              refine c_aload_n (j := 1) (x := a0) C dX11_changeIndicator_96 rfl ?_
              have ty138 := xl15.ty ty110
              obtain ⟨rb4, rq4, trb4⟩ := W20.ref ty138 0 rfl rfl rfl
              have erb4 := W20.sk trb4 (by decide) rfl
              subst erb4
              refine c_getr (k := 0) C ck_12 dX11_changeIndicator_97 w2_44 (by decide) ty138 rfl rfl (by decide) rfl rq4 ?_
              refine c_st (st2 := [.ref (sk 2), .int (iI j), .ref rb2]) rfl ?_
              have ty139 := xl15.ty ty112
              have ri20 : 0 ≤ ivh13 (sk 2) 2 ∧ ivh13 (sk 2) 2 ≤ 3000 := W20.int ty139 2
              have ie34 : ivh13 (sk 2) 2 = ivh12 (sk 2) 2 := fl13.i ty112 rfl 2
              have ie35 : ivh12 (sk 2) 2 = ivn1 (sk 2) 2 := fl12.i ty111 rfl 2
              have ie36 : ivn1 (sk 2) 2 = iv (sk 2) 2 := by rw [hin1]; exact congrFun (up0_a (ne_in tsk2.1 hqn1)) _
              refine c_get (k := 2) C ck_2 dX11_changeIndicator_100 w1_44 (by decide) ty139 rfl rfl (by decide) rfl ?_
              refine c_if_ne (tgt := 110) C ⟨by omega, by omega⟩ dX11_changeIndicator_103 (by decide) (fun c6 => ?_) (fun c6 => ?_)
              · have ty140 := xl15.ty ty114
                have ty141 := xl15.ty ty116
                have ty142 := xl15.ty ty118
                have ty143 := xl15.ty ty120
                have ty144 := xl15.ty ty122
                have ty145 := xl15.ty ty124
                have ty146 := xl15.ty ty126
                have ty147 := xl15.ty ty128
                have ty148 := xl15.ty ty130
                have ty149 := xl15.ty tqr3
                have ty150 := xl15.ty ty134
                have ty151 := xl15.ty ty135
                have pl11 := Phi.le W20 sk9
                refine c_new C ck_6 dv_6 ⟨rfl, rfl⟩ rfl (by decide) dX11_changeIndicator_110 w3_125 w3_126 w1_21 (rom2 hph pl11 (by decide)) (fun qn3 cln3 lnn3 ivn3 rvn3 hqn3 hcn3 hln3 hin3 hrn3 => ⟨1256, (p_in (Phi.new W20 sk9 hqn3 (fun b _ => by rw [hln3]) hrn3) (by omega)), ?_⟩)
                refine c_g0 C (fun hg3 => ?_)
                have hxn3 : ∀ b, b ≠ qn3 → lnn3 b = lnh13 b := (fun b _ => by rw [hln3])
                have W21 := W20.new (ln2 := lnn3) hqn3 (hg3 qn3 (List.mem_append_right _ List.mem_cons_self)) hcn3 hxn3 hin3 hrn3 (fun _ => ⟨(show (-2147483648 : Int) ≤ 0 by decide), (show (0 : Int) ≤ 2147483647 by decide)⟩) (Or.inl rfl) (fun q => by cases q) rfl rfl
                have xl16 := XT.new hqn3 hcn3 hxn3
                have X10 := X9.trans xl16
                have sk10 := xl16.skl sk9
                have F15 := F14.new X9 hqn3 hin3 hrn3
                have mr18 := MRK.call mr17 W20 sk9 xl16 ((fT.refl (ls := [])).new (XT.refl (ln := lnh13)) hqn3 hin3 hrn3) rfl rfl
                have tqn3 : ty (Lh13 ++ [qn3]) cln3 qn3 206 := ty_new hcn3
                have h0qn3 : qn3 ∉ L := fun h => hqn3 ((X9 qn3 h).1)
                refine c_dup C dX11_changeIndicator_113 rfl ?_
                refine c_iload_n (j := 3) C dX11_changeIndicator_114 rfl ?_
                refine c_aload_n (j := 1) (x := a0) C dX11_changeIndicator_115 rfl ?_
                have ty152 := xl16.ty ty138
                have re11 : rvn3 a0 0 = rvh13 a0 0 := (by rw [hrn3]; exact congrFun (up0_a (ne_in ty138.1 hqn3)) _)
                rw [rq4] at re11
                refine c_getr (k := 0) C ck_12 dX11_changeIndicator_116 w2_44 (by decide) ty152 rfl rfl (by decide) rfl re11 ?_
                refine c_st (st2 := [.ref (sk 2), .int (iI j), .ref qn3, .ref qn3, .int (iI j), .ref rb2]) rfl ?_
                refine c_iconst C dX11_changeIndicator_119 ?_
                refine c_iconst C dX11_changeIndicator_120 ?_
                have ty153 := xl16.ty ty139
                have pl12 := Phi.le W21 sk10
                refine d_callV (As := [.int (iI 0), .int (iI 0)]) (rest := [.int (iI j), .ref qn3, .ref qn3, .int (iI j), .ref rb2]) C hM (C_slice_65 (a0 := (sk 2)) (i := 0) (j := 0) W21 sk10 ty153 ⟨by decide, by decide⟩ ⟨by decide, by decide⟩ (by show 0 ≤ (0 : Int) ∧ (0 : Int) ≤ 3000 ∧ 0 ≤ (0 : Int) - (0 : Int) ∧ (0 : Int) - (0 : Int) ≤ 8; omega)) dX11_changeIndicator_121 kV_X11_190 rfl ty153 rfl rfl (by decide) ck_2 rfl (Nat.le_of_ble_eq_true rfl) ⟨(Nat.le_of_ble_eq_true rfl), (Nat.le_of_ble_eq_true rfl)⟩ hph pl12 (show 1256 + 24 = 1280 from rfl) (by decide) (fun rh14 Lh14 clh14 lnh14 ivh14 rvh14 h14 => ?_)
                obtain ⟨f14, rfl, xl17, fl14, W22, rgf14, exf14⟩ := h14
                have F16 := F15.call X10 fl14 rfl
                have mr19 := MRK.call mr18 W21 sk10 xl17 fl14 rfl rfl
                have ty154 := xl16.ty ty140
                have ty155 := xl16.ty ty141
                have ty156 := xl16.ty ty142
                have ty157 := xl16.ty ty143
                have ty158 := xl16.ty ty144
                have ty159 := xl16.ty ty145
                have ty160 := xl16.ty ty146
                have ty161 := xl16.ty ty147
                have ty162 := xl16.ty ty148
                have ty163 := xl16.ty ty136
                have ty164 := xl16.ty ty137
                have ty165 := xl16.ty ty149
                have ty166 := xl16.ty ty150
                have ty167 := xl16.ty ty151
                have X11 := X10.trans xl17
                have sk11 := xl17.skl sk10
                refine c_st (st2 := [.ref f14, .int (iI j), .ref qn3, .ref qn3, .int (iI j), .ref rb2]) rfl ?_
                have gf14 : lnh14 f14 = ((0 : Int) - (0 : Int)).toNat := exf14
                refine c_aload_n (j := 1) (x := a0) C dX11_changeIndicator_124 rfl ?_
                have ty168 := xl17.ty ty152
                have re12 : rvh14 a0 0 = rvn3 a0 0 := (fl14.r ty152 rfl 0)
                rw [re11] at re12
                refine c_getr (k := 0) C ck_12 dX11_changeIndicator_125 w2_44 (by decide) ty168 rfl rfl (by decide) rfl re12 ?_
                refine c_st (st2 := [.ref (sk 2), .ref f14, .int (iI j), .ref qn3, .ref qn3, .int (iI j), .ref rb2]) rfl ?_
                refine c_iconst C dX11_changeIndicator_128 ?_
                refine c_aload_n (j := 1) (x := a0) C dX11_changeIndicator_129 rfl ?_
                refine c_getr (k := 0) C ck_12 dX11_changeIndicator_130 w2_44 (by decide) ty168 rfl rfl (by decide) rfl re12 ?_
                refine c_st (st2 := [.ref (sk 2), .int (iI 0), .ref (sk 2), .ref f14, .int (iI j), .ref qn3, .ref qn3, .int (iI j), .ref rb2]) rfl ?_
                have ty169 := xl17.ty ty153
                have ri21 : 0 ≤ ivh14 (sk 2) 2 ∧ ivh14 (sk 2) 2 ≤ 3000 := W22.int ty169 2
                have ie37 : ivh14 (sk 2) 2 = ivn3 (sk 2) 2 := fl14.i ty153 rfl 2
                have ie38 : ivn3 (sk 2) 2 = ivh13 (sk 2) 2 := by rw [hin3]; exact congrFun (up0_a (ne_in ty139.1 hqn3)) _
                refine c_get (k := 2) C ck_2 dX11_changeIndicator_133 w1_44 (by decide) ty169 rfl rfl (by decide) rfl ?_
                have pl13 := Phi.le W22 sk11
                refine d_callV (As := [.int (iI 0), .int (iI (ivh14 (sk 2) 2))]) (rest := [.ref f14, .int (iI j), .ref qn3, .ref qn3, .int (iI j), .ref rb2]) C hM (C_slice_66 (a0 := (sk 2)) (i := 0) (j := ivh14 (sk 2) 2) W22 sk11 ty169 ⟨by decide, by decide⟩ (by omega) (by show 0 ≤ (0 : Int) ∧ (0 : Int) ≤ 3000 ∧ 1 ≤ (ivh14 (sk 2) 2) - (0 : Int) ∧ (ivh14 (sk 2) 2) - (0 : Int) ≤ 4; omega)) dX11_changeIndicator_136 kV_X11_190 rfl ty169 rfl rfl (by decide) ck_2 rfl (Nat.le_of_ble_eq_true rfl) ⟨(Nat.le_of_ble_eq_true rfl), (Nat.le_of_ble_eq_true rfl)⟩ hph pl13 (show 1280 + 20 = 1300 from rfl) (by decide) (fun rh15 Lh15 clh15 lnh15 ivh15 rvh15 h15 => ?_)
                obtain ⟨f15, rfl, xl18, fl15, W23, rgf15, exf15⟩ := h15
                have F17 := F16.call X11 fl15 rfl
                have mr20 := MRK.call mr19 W22 sk11 xl18 fl15 rfl rfl
                have ty170 := xl17.ty ty154
                have ty171 := xl17.ty ty155
                have ty172 := xl17.ty ty156
                have ty173 := xl17.ty ty157
                have ty174 := xl17.ty ty158
                have ty175 := xl17.ty ty159
                have ty176 := xl17.ty ty160
                have ty177 := xl17.ty ty161
                have ty178 := xl17.ty ty162
                have ty179 := xl17.ty ty163
                have ty180 := xl17.ty ty164
                have ty181 := xl17.ty ty165
                have ty182 := xl17.ty ty166
                have ty183 := xl17.ty ty167
                have ty184 := xl17.ty tqn3
                have X12 := X11.trans xl18
                have sk12 := xl18.skl sk11
                refine c_st (st2 := [.ref f15, .ref f14, .int (iI j), .ref qn3, .ref qn3, .int (iI j), .ref rb2]) rfl ?_
                have gf15 : lnh15 f15 = ((ivh14 (sk 2) 2) - (0 : Int)).toNat := exf15
                have ty185 := xl18.ty ty184
                have ty186 := xl18.ty rgf14
                have pl14 := Phi.le W23 sk12
                refine c_callI (As := [.int (iI j), .ref f14, .ref f15]) (rest := [.ref qn3, .int (iI j), .ref rb2]) C hM (Z_row (a0 := qn3) (i := j) (a2 := f14) (a3 := f15) W23 sk12 ty185 ty186 rgf15 (by omega) ) dX11_changeIndicator_139 kI_X11_194 rfl rfl (Nat.le_of_ble_eq_true rfl) ⟨(Nat.le_of_ble_eq_true rfl), (Nat.le_of_ble_eq_true rfl)⟩ (rz1 hph pl14 (by decide)) (fun rh16 Lh16 clh16 lnh16 ivh16 rvh16 h16 => ⟨1300, (zk1 (by obtain ⟨_, _, _, e3, flh16x, Wh16x, _⟩ := h16; subst e3; exact Phi.frn sk12 flh16x rfl)), ?_⟩)
                obtain ⟨rfl, rfl, rfl, rfl, fl16, W24, exf16⟩ := h16
                have F18 := F17.call X12 fl16 rfl
                have mr21 := MRK.call mr20 W23 sk12 XT.refl fl16 rfl rfl
                refine c_st (st2 := [.ref qn3, .int (iI j), .ref rb2]) rfl ?_
                obtain ⟨exf16x, exf16r, exf16p, exf16i, exf16j⟩ := exf16
                have rn4 : ∀ k, ([1, 2] : List Nat).contains k = false → rvh16 qn3 k = none := fun k hk => (Eq.trans (show rvh16 qn3 k = rvh15 qn3 k from (exf16x k hk)) (Eq.trans (show rvh15 qn3 k = rvh14 qn3 k from (fl15.r ty184 rfl k)) (Eq.trans (show rvh14 qn3 k = rvn3 qn3 k from (fl14.r tqn3 rfl k)) (show rvn3 qn3 k = none from (by rw [hrn3]; exact up0_s)))))
                refine c_retag (q := qn3) (t := 20) (by rw [ty185.2]; rfl) (fun clr4 hcr4 => ?_)
                have ty187 := xl18.ty ty168
                have ty188 := ty_rt ty187 hcr4 (ne_ty ty187 ty185 (by decide))
                have ty189 := xl18.ty ty169
                have ty190 := ty_rt ty189 hcr4 (ne_ty ty189 ty185 (by decide))
                have ty191 := xl18.ty ty170
                have ty192 := ty_rt ty191 hcr4 (ne_ty ty191 ty185 (by decide))
                have ty193 := xl18.ty ty171
                have ty194 := ty_rt ty193 hcr4 (ne_ty ty193 ty185 (by decide))
                have ty195 := xl18.ty ty172
                have ty196 := ty_rt ty195 hcr4 (ne_ty ty195 ty185 (by decide))
                have ty197 := xl18.ty ty173
                have ty198 := ty_rt ty197 hcr4 (ne_ty ty197 ty185 (by decide))
                have ty199 := xl18.ty ty174
                have ty200 := ty_rt ty199 hcr4 (ne_ty ty199 ty185 (by decide))
                have ty201 := xl18.ty ty175
                have ty202 := ty_rt ty201 hcr4 (ne_ty ty201 ty185 (by decide))
                have ty203 := xl18.ty ty176
                have ty204 := ty_rt ty203 hcr4 (ne_ty ty203 ty185 (by decide))
                have ty205 := xl18.ty ty177
                have ty206 := ty_rt ty205 hcr4 (ne_ty ty205 ty185 (by decide))
                have ty207 := xl18.ty ty178
                have ty208 := ty_rt ty207 hcr4 (ne_ty ty207 ty185 (by decide))
                have ty209 := xl18.ty ty179
                have ty210 := ty_rt ty209 hcr4 (ne_ty ty209 ty185 (by decide))
                have ty211 := xl18.ty ty180
                have ty212 := ty_rt ty211 hcr4 (ne_ty ty211 ty185 (by decide))
                have ty213 := xl18.ty ty181
                have ty214 := ty_rt ty213 hcr4 (ne_ty ty213 ty185 (by decide))
                have ty215 := xl18.ty ty182
                have ty216 := ty_rt ty215 hcr4 (ne_ty ty215 ty185 (by decide))
                have ty217 := xl18.ty ty183
                have ty218 := ty_rt ty217 hcr4 (ne_ty ty217 ty185 (by decide))
                have ty219 := ty_rt ty186 hcr4 (ne_ty ty186 ty185 (by decide))
                have ty220 := ty_rt rgf15 hcr4 (ne_ty rgf15 ty185 (by decide))
                have tqr4 : ty Lh15 clr4 qn3 20 := ⟨ty185.1, by rw [hcr4, va_up_self]; rfl⟩
                have W25 := W24.retag ty185.1 (by rw [ty185.2]; rfl) hcr4 (fun k => by
                      rcases k with _ | _ | _ | _ | k
                      · exact W24.int ty185 0
                      · exact W24.int ty185 1
                      · exact W24.int ty185 2
                      · exact W24.int ty185 3
                      · exact W24.int ty185 (k + 4)) (fun k => by
                      rcases k with _ | _ | _ | _ | k
                      · rw [rn4 0 (by decide)]; exact rok_none tqr4 rfl
                      · rw [exf16r]; exact rok_some tqr4 ty219 rfl (by decide) rfl
                      · rw [exf16p]; exact rok_some tqr4 ty220 rfl (by decide) rfl
                      · rw [rn4 3 (by decide)]; exact rok_none tqr4 rfl
                      · rw [rn4 (k + 4) (by simp)]; exact rok_none tqr4 rfl) rfl (fun z => by cases z) (fun z => by cases z) rfl
                have X13 := X12.rt hcr4 h0qn3
                have sk13 := sk12.rt hcr4 (by rw [ty185.2]; rfl)
                have mr22 := MRK.rt mr21 W24 sk12 hcr4 (by rw [ty185.2]; rfl)
                have on10 := fun b hb => xl15.ty (on9 b hb)
                have on11 := fun b hb => xl16.ty (on10 b hb)
                have on12 := fun b hb => xl17.ty (on11 b hb)
                have on13 := fun b hb => xl18.ty (on12 b hb)
                have on14 := fun b hb => ty_rt (on13 b hb) hcr4 (ne_ty (on13 b hb) ty185 (by decide))
                have ll4 : 4 ≤ lnh15 rb2 ∧ lnh15 rb2 ≤ 4 := W25.len ty216 rfl
                refine c_aastR (z := j) C ck_6 dX11_changeIndicator_142 ty216 rfl tqr4 rfl rfl (by decide) (by omega) (by omega) (by omega) (fun rv3 pq3 => ⟨1300, (by rw [Phi.putr sk13 pq3 ty216 rfl]; exact Nat.le_refl _), ?_⟩)
                have W26 := W25.putr pq3 ty216 (rok_some ty216 tqr4 rfl (by decide) rfl) rfl (by decide)
                have F19 := F18.putr X13 pq3 ty216 rfl
                have mr23 := MRK.putr mr22 W25 sk13 pq3 ty216 (by decide) (by decide)
                refine c_aload_n (j := 1) (x := a0) C dX11_changeIndicator_143 rfl ?_
                refine c_aload_n (j := 1) (x := a0) C dX11_changeIndicator_144 rfl ?_
                have re13 : rvh15 a0 0 = rvh14 a0 0 := (fl15.r ty168 rfl 0)
                rw [re12] at re13
                have re14 : rvh16 a0 0 = rvh15 a0 0 := (fl16.r ty187 rfl 0)
                rw [re13] at re14
                have re15 : rv3 a0 0 = rvh16 a0 0 := (by rw [pq3]; exact congrFun (upr_a (ne_ty ty188 ty216 (by decide))) _)
                rw [re14] at re15
                refine c_getr (k := 0) C ck_12 dX11_changeIndicator_145 w2_44 (by decide) ty188 rfl rfl (by decide) rfl re15 ?_
                refine c_st (st2 := [.ref (sk 2), .ref a0]) rfl ?_
                have ri22 : 0 ≤ ivh16 (sk 2) 2 ∧ ivh16 (sk 2) 2 ≤ 3000 := W26.int ty190 2
                have ie39 : ivh16 (sk 2) 2 = ivh15 (sk 2) 2 := fl16.i ty189 rfl 2
                have ie40 : ivh15 (sk 2) 2 = ivh14 (sk 2) 2 := fl15.i ty169 rfl 2
                refine c_get (k := 2) C ck_2 dX11_changeIndicator_148 w1_44 (by decide) ty190 rfl rfl (by decide) rfl ?_
                have pl15 := Phi.le W26 sk13
                refine d_callV (As := [.int (iI (ivh16 (sk 2) 2))]) (rest := []) C hM (C_done (a0 := a0) (x := ivh16 (sk 2) 2) W26 sk13 ty188 (by omega) ) dX11_changeIndicator_151 kV_X11_109 rfl ty188 rfl rfl (by decide) ck_12 rfl (Nat.le_of_ble_eq_true rfl) ⟨(Nat.le_of_ble_eq_true rfl), (Nat.le_of_ble_eq_true rfl)⟩ hph pl15 (show 1300 + 0 = 1300 from rfl) (by decide) (fun rh17 Lh17 clh17 lnh17 ivh17 rvh17 h17 => ?_)
                obtain ⟨f17, rfl, rfl, rfl, rfl, rfl, fl17, W27, rgf17, exf17, kp14f17⟩ := h17
                have ri23 : (-2147483648) ≤ ivh16 a0 14 ∧ ivh16 a0 14 ≤ 2147483647 := W26.int ty188 14
                have ie41 : ivh16 a0 14 = ivh15 a0 14 := fl16.i ty187 rfl 14
                have ie42 : ivh15 a0 14 = ivh14 a0 14 := fl15.i ty168 rfl 14
                have ie43 : ivh14 a0 14 = ivn3 a0 14 := fl14.i ty152 rfl 14
                have ie44 : ivn3 a0 14 = ivh13 a0 14 := by rw [hin3]; exact congrFun (up0_a (ne_in ty138.1 hqn3)) _
                have ie45 : ivh13 a0 14 = ivh12 a0 14 := fl13.i ty110 rfl 14
                have ie46 : ivh12 a0 14 = ivn1 a0 14 := fl12.i ty109 rfl 14
                have ie47 : ivn1 a0 14 = iv a0 14 := by rw [hin1]; exact congrFun (up0_a (ne_in t_a0.1 hqn1)) _
                have F20 := F19.call X13 fl17 rfl
                have mr24 := MRK.call mr23 W26 sk13 XT.refl fl17 rfl rfl
                refine c_st (st2 := [.int (iI f17)]) rfl ?_
                have gk14f17 : ivh17 a0 14 = ivh16 a0 14 := kp14f17
                have gf17 : f17 = (ivh16 (sk 2) 2) := exf17
                have ri24 : (-2147483648) ≤ ivh17 a0 14 ∧ ivh17 a0 14 ≤ 2147483647 := W27.int ty188 14
                have ri25 : 0 ≤ ivh17 (sk 23) 2 ∧ ivh17 (sk 23) 2 ≤ 512 := W27.int ty210 2
                have ie49 : ivh17 (sk 23) 2 = ivh16 (sk 23) 2 := fl17.i ty210 rfl 2
                have ie50 : ivh16 (sk 23) 2 = ivh15 (sk 23) 2 := fl16.i ty209 rfl 2
                have ie51 : ivh15 (sk 23) 2 = ivh14 (sk 23) 2 := fl15.i ty179 rfl 2
                have ie52 : ivh14 (sk 23) 2 = ivn3 (sk 23) 2 := fl14.i ty163 rfl 2
                have ie53 : ivn3 (sk 23) 2 = ivh13 (sk 23) 2 := by rw [hin3]; exact congrFun (up0_a (ne_in ty136.1 hqn3)) _
                exact c_iret C dX11_changeIndicator_154 rfl (by decide) (rom0 hph pl15 (by decide)) ⟨f17, rfl, X13, F20, W27, ⟨by omega, by omega⟩, ⟨(by omega), mr24⟩, (by omega)⟩
              · refine c_null C dX11_changeIndicator_106 ?_
                refine c_goto (tgt := 142) C dX11_changeIndicator_107 (by decide) ?_
                have ty221 := xl15.ty ty134
                have ll5 : 4 ≤ lnh13 rb2 ∧ lnh13 rb2 ≤ 4 := W20.len ty221 rfl
                refine c_aastNR (z := j) C dX11_changeIndicator_142 ty221 rfl (by omega) (by omega) (by omega) (fun rv4 pq4 => ⟨1236, (by rw [Phi.putr sk9 pq4 ty221 rfl]; exact Nat.le_refl _), ?_⟩)
                have W28 := W20.putr pq4 ty221 (fun _ => ⟨fun _ => by rw [ty221.2]; rfl, fun _ qq => by cases qq⟩) rfl (by decide)
                have F21 := F14.putr X9 pq4 ty221 rfl
                have mr25 := MRK.putr mr17 W20 sk9 pq4 ty221 (by decide) (by decide)
                refine c_aload_n (j := 1) (x := a0) C dX11_changeIndicator_143 rfl ?_
                refine c_aload_n (j := 1) (x := a0) C dX11_changeIndicator_144 rfl ?_
                have re16 : rv4 a0 0 = rvh13 a0 0 := (by rw [pq4]; exact congrFun (upr_a (ne_ty ty138 ty221 (by decide))) _)
                rw [rq4] at re16
                refine c_getr (k := 0) C ck_12 dX11_changeIndicator_145 w2_44 (by decide) ty138 rfl rfl (by decide) rfl re16 ?_
                refine c_st (st2 := [.ref (sk 2), .ref a0]) rfl ?_
                refine c_get (k := 2) C ck_2 dX11_changeIndicator_148 w1_44 (by decide) ty139 rfl rfl (by decide) rfl ?_
                have pl16 := Phi.le W28 sk9
                refine d_callV (As := [.int (iI (ivh13 (sk 2) 2))]) (rest := []) C hM (C_done (a0 := a0) (x := ivh13 (sk 2) 2) W28 sk9 ty138 (by omega) ) dX11_changeIndicator_151 kV_X11_109 rfl ty138 rfl rfl (by decide) ck_12 rfl (Nat.le_of_ble_eq_true rfl) ⟨(Nat.le_of_ble_eq_true rfl), (Nat.le_of_ble_eq_true rfl)⟩ hph pl16 (show 1236 + 0 = 1236 from rfl) (by decide) (fun rh18 Lh18 clh18 lnh18 ivh18 rvh18 h18 => ?_)
                obtain ⟨f18, rfl, rfl, rfl, rfl, rfl, fl18, W29, rgf18, exf18, kp14f18⟩ := h18
                have ri26 : (-2147483648) ≤ ivh13 a0 14 ∧ ivh13 a0 14 ≤ 2147483647 := W28.int ty138 14
                have ie54 : ivh13 a0 14 = ivh12 a0 14 := fl13.i ty110 rfl 14
                have ie55 : ivh12 a0 14 = ivn1 a0 14 := fl12.i ty109 rfl 14
                have ie56 : ivn1 a0 14 = iv a0 14 := by rw [hin1]; exact congrFun (up0_a (ne_in t_a0.1 hqn1)) _
                have F22 := F21.call X9 fl18 rfl
                have mr26 := MRK.call mr25 W28 sk9 XT.refl fl18 rfl rfl
                refine c_st (st2 := [.int (iI f18)]) rfl ?_
                have gk14f18 : ivh18 a0 14 = ivh13 a0 14 := kp14f18
                have gf18 : f18 = (ivh13 (sk 2) 2) := exf18
                have ri27 : (-2147483648) ≤ ivh18 a0 14 ∧ ivh18 a0 14 ≤ 2147483647 := W29.int ty138 14
                have ri28 : 0 ≤ ivh18 (sk 23) 2 ∧ ivh18 (sk 23) 2 ≤ 512 := W29.int ty136 2
                have ie58 : ivh18 (sk 23) 2 = ivh13 (sk 23) 2 := fl18.i ty136 rfl 2
                exact c_iret C dX11_changeIndicator_154 rfl (by decide) (rom0 hph pl16 (by decide)) ⟨f18, rfl, X9, F22, W29, ⟨by omega, by omega⟩, ⟨(by omega), mr26⟩, (by omega)⟩
          · refine c_aload_n (j := 1) (x := a0) C dX11_changeIndicator_61 rfl ?_
            refine c_bipush (z := 6) C dX11_changeIndicator_62 (by decide) ?_
            refine d_callV (As := [.int (iI 6)]) (rest := []) C hM (C_refuse (a0 := a0) (x := 6) hW hS t_a0 ⟨by decide, by decide⟩ ) dX11_changeIndicator_64 kV_X11_102 rfl t_a0 rfl rfl (by decide) ck_12 rfl (Nat.le_of_ble_eq_true rfl) ⟨(Nat.le_of_ble_eq_true rfl), (Nat.le_of_ble_eq_true rfl)⟩ hph hph (show 0 + 0 = 0 from rfl) (by decide) (fun rh19 Lh19 clh19 lnh19 ivh19 rvh19 h19 => ?_)
            obtain ⟨f19, rfl, rfl, rfl, rfl, rfl, fl19, W30, rgf19, exf19, kp14f19⟩ := h19
            have ri29 : (-2147483648) ≤ iv a0 14 ∧ iv a0 14 ≤ 2147483647 := hW.int t_a0 14
            have F23 := hF0.call hX0 fl19 rfl
            have mr27 := MRK.call hmr hW hS XT.refl fl19 rfl rfl
            refine c_st (st2 := [.int (iI f19)]) rfl ?_
            have gk14f19 : ivh19 a0 14 = iv a0 14 := kp14f19
            have gf19 : f19 = -1 := exf19
            have ri30 : (-2147483648) ≤ ivh19 a0 14 ∧ ivh19 a0 14 ≤ 2147483647 := W30.int t_a0 14
            have ri31 : 0 ≤ ivh19 (sk 23) 2 ∧ ivh19 (sk 23) 2 ≤ 512 := W30.int tsk23 2
            have ie60 : ivh19 (sk 23) 2 = iv (sk 23) 2 := fl19.i tsk23 rfl 2
            exact c_iret C dX11_changeIndicator_67 rfl (by decide) (rom0 hph hph (by decide)) ⟨f19, rfl, hX0, F23, W30, ⟨by omega, by omega⟩, ⟨(by omega), mr27⟩, (by omega)⟩
        · refine c_aload_n (j := 1) (x := a0) C dX11_changeIndicator_43 rfl ?_
          refine c_iconst C dX11_changeIndicator_44 ?_
          refine d_callV (As := [.int (iI 4)]) (rest := []) C hM (C_refuse (a0 := a0) (x := 4) hW hS t_a0 ⟨by decide, by decide⟩ ) dX11_changeIndicator_45 kV_X11_102 rfl t_a0 rfl rfl (by decide) ck_12 rfl (Nat.le_of_ble_eq_true rfl) ⟨(Nat.le_of_ble_eq_true rfl), (Nat.le_of_ble_eq_true rfl)⟩ hph hph (show 0 + 0 = 0 from rfl) (by decide) (fun rh20 Lh20 clh20 lnh20 ivh20 rvh20 h20 => ?_)
          obtain ⟨f20, rfl, rfl, rfl, rfl, rfl, fl20, W31, rgf20, exf20, kp14f20⟩ := h20
          have ri32 : (-2147483648) ≤ iv a0 14 ∧ iv a0 14 ≤ 2147483647 := hW.int t_a0 14
          have F24 := hF0.call hX0 fl20 rfl
          have mr28 := MRK.call hmr hW hS XT.refl fl20 rfl rfl
          refine c_st (st2 := [.int (iI f20)]) rfl ?_
          have gk14f20 : ivh20 a0 14 = iv a0 14 := kp14f20
          have gf20 : f20 = -1 := exf20
          have ri33 : (-2147483648) ≤ ivh20 a0 14 ∧ ivh20 a0 14 ≤ 2147483647 := W31.int t_a0 14
          have ri34 : 0 ≤ ivh20 (sk 23) 2 ∧ ivh20 (sk 23) 2 ≤ 512 := W31.int tsk23 2
          have ie62 : ivh20 (sk 23) 2 = iv (sk 23) 2 := fl20.i tsk23 rfl 2
          exact c_iret C dX11_changeIndicator_48 rfl (by decide) (rom0 hph hph (by decide)) ⟨f20, rfl, hX0, F24, W31, ⟨by omega, by omega⟩, ⟨(by omega), mr28⟩, (by omega)⟩
      · subst oq1
        refine c_lv (lv2 := [(3, .null), (0, .ref a0), (1, .int (iI i)), (2, .int (iI j))]) [0, 1, 2, 3] rfl ?_
        refine c_st (st2 := []) rfl ?_
        refine c_aload_n (j := 1) (x := a0) C dX11_changeIndicator_29 rfl ?_
        refine c_iconst C dX11_changeIndicator_30 ?_
        refine d_callV (As := [.int (iI 3)]) (rest := []) C hM (C_refuse (a0 := a0) (x := 3) hW hS t_a0 ⟨by decide, by decide⟩ ) dX11_changeIndicator_31 kV_X11_102 rfl t_a0 rfl rfl (by decide) ck_12 rfl (Nat.le_of_ble_eq_true rfl) ⟨(Nat.le_of_ble_eq_true rfl), (Nat.le_of_ble_eq_true rfl)⟩ hph hph (show 0 + 0 = 0 from rfl) (by decide) (fun rh21 Lh21 clh21 lnh21 ivh21 rvh21 h21 => ?_)
        obtain ⟨f21, rfl, rfl, rfl, rfl, rfl, fl21, W32, rgf21, exf21, kp14f21⟩ := h21
        have ri35 : (-2147483648) ≤ iv a0 14 ∧ iv a0 14 ≤ 2147483647 := hW.int t_a0 14
        have F25 := hF0.call hX0 fl21 rfl
        have mr29 := MRK.call hmr hW hS XT.refl fl21 rfl rfl
        refine c_st (st2 := [.int (iI f21)]) rfl ?_
        have gk14f21 : ivh21 a0 14 = iv a0 14 := kp14f21
        have gf21 : f21 = -1 := exf21
        have ri36 : (-2147483648) ≤ ivh21 a0 14 ∧ ivh21 a0 14 ≤ 2147483647 := W32.int t_a0 14
        have ri37 : 0 ≤ ivh21 (sk 23) 2 ∧ ivh21 (sk 23) 2 ≤ 512 := W32.int tsk23 2
        have ie64 : ivh21 (sk 23) 2 = iv (sk 23) 2 := fl21.i tsk23 rfl 2
        exact c_iret C dX11_changeIndicator_34 rfl (by decide) (rom0 hph hph (by decide)) ⟨f21, rfl, hX0, F25, W32, ⟨by omega, by omega⟩, ⟨(by omega), mr29⟩, (by omega)⟩
    · refine c_aload_n (j := 0) (x := a0) C dX11_changeIndicator_9 rfl ?_
      refine c_bipush (z := 6) C dX11_changeIndicator_10 (by decide) ?_
      refine d_callV (As := [.int (iI 6)]) (rest := []) C hM (C_refuse (a0 := a0) (x := 6) hW hS t_a0 ⟨by decide, by decide⟩ ) dX11_changeIndicator_12 kV_X11_102 rfl t_a0 rfl rfl (by decide) ck_12 rfl (Nat.le_of_ble_eq_true rfl) ⟨(Nat.le_of_ble_eq_true rfl), (Nat.le_of_ble_eq_true rfl)⟩ hph hph (show 0 + 0 = 0 from rfl) (by decide) (fun rh22 Lh22 clh22 lnh22 ivh22 rvh22 h22 => ?_)
      obtain ⟨f22, rfl, rfl, rfl, rfl, rfl, fl22, W33, rgf22, exf22, kp14f22⟩ := h22
      have ri38 : (-2147483648) ≤ iv a0 14 ∧ iv a0 14 ≤ 2147483647 := hW.int t_a0 14
      have F26 := hF0.call hX0 fl22 rfl
      have mr30 := MRK.call hmr hW hS XT.refl fl22 rfl rfl
      refine c_st (st2 := [.int (iI f22)]) rfl ?_
      have gk14f22 : ivh22 a0 14 = iv a0 14 := kp14f22
      have gf22 : f22 = -1 := exf22
      have ri39 : (-2147483648) ≤ ivh22 a0 14 ∧ ivh22 a0 14 ≤ 2147483647 := W33.int t_a0 14
      have ri40 : 0 ≤ ivh22 (sk 23) 2 ∧ ivh22 (sk 23) 2 ≤ 512 := W33.int tsk23 2
      have ie66 : ivh22 (sk 23) 2 = iv (sk 23) 2 := fl22.i tsk23 rfl 2
      exact c_iret C dX11_changeIndicator_15 rfl (by decide) (rom0 hph hph (by decide)) ⟨f22, rfl, hX0, F26, W33, ⟨by omega, by omega⟩, ⟨(by omega), mr30⟩, (by omega)⟩
set_option maxHeartbeats 4000000 in
set_option maxRecDepth 100000 in
theorem C_indicator {l : Launch} {G : GT} {mi : Nat} {sk : Nat → Nat} {L : List Nat} {cl ln : Nat → Nat} {iv : Nat → Nat → Int} {rv : Nat → Nat → Option Nat}  {a0 : Nat} {i : Int} {j : Int} (hW : WT (g0 G) sk L cl ln iv rv) (hS : SKL sk L cl) (t_a0 : ty L cl a0 1) (h_i : -2147483648 ≤ i ∧ i ≤ 2147483647) (h_j : -2147483648 ≤ j ∧ j ≤ 2147483647) (hmr : MRK sk cl iv rv) (hch : iv (sk 23) 2 < 512) : Mc l G mi (Phi (g0 G) sk) PHM yX11_indicator cX11_indicator 4 (some .int) 9 [.ref a0, .int (iI i), .int (iI j)] L cl ln iv rv 1300 (fun v L2 cl2 ln2 iv2 rv2 => ∃ f : Int, v = some (.int (iI f)) ∧ XT L cl ln L2 cl2 ln2 ∧ fT [1, 65, 66, 206, 68, 23, 1001, 201, 2] L cl iv rv iv2 rv2 ∧ WT (g0 G) sk L2 cl2 ln2 iv2 rv2 ∧ (-2147483648 ≤ f ∧ f ≤ 2147483647) ∧ (iv2 (sk 23) 2 ≤ iv (sk 23) 2 + 1 ∧ MRK sk cl2 iv2 rv2) ∧ iv2 a0 14 = iv a0 14 ∧ iv2 (sk 2) 2 = 0) := by
  refine Mc.mk (by decide) (Nat.le_of_ble_eq_true rfl) ?_
  intro p e s m args below meth c A C hM
  have hph := Phi.le hW hS
  have tsk2 : ty L cl (sk 2) 2 := ⟨(hS 2 rfl).1, by rw [(hS 2 rfl).2]; rfl⟩
  have tsk3 : ty L cl (sk 3) 3 := ⟨(hS 3 rfl).1, by rw [(hS 3 rfl).2]; rfl⟩
  have tsk4 : ty L cl (sk 4) 4 := ⟨(hS 4 rfl).1, by rw [(hS 4 rfl).2]; rfl⟩
  have tsk5 : ty L cl (sk 5) 5 := ⟨(hS 5 rfl).1, by rw [(hS 5 rfl).2]; rfl⟩
  have tsk13 : ty L cl (sk 13) 13 := ⟨(hS 13 rfl).1, by rw [(hS 13 rfl).2]; rfl⟩
  have tsk14 : ty L cl (sk 14) 14 := ⟨(hS 14 rfl).1, by rw [(hS 14 rfl).2]; rfl⟩
  have tsk15 : ty L cl (sk 15) 15 := ⟨(hS 15 rfl).1, by rw [(hS 15 rfl).2]; rfl⟩
  have tsk16 : ty L cl (sk 16) 16 := ⟨(hS 16 rfl).1, by rw [(hS 16 rfl).2]; rfl⟩
  have tsk17 : ty L cl (sk 17) 17 := ⟨(hS 17 rfl).1, by rw [(hS 17 rfl).2]; rfl⟩
  have tsk22 : ty L cl (sk 22) 22 := ⟨(hS 22 rfl).1, by rw [(hS 22 rfl).2]; rfl⟩
  have tsk23 : ty L cl (sk 23) 23 := ⟨(hS 23 rfl).1, by rw [(hS 23 rfl).2]; rfl⟩
  have hX0 : XT L cl ln L cl ln := XT.refl
  have hF0 : fT [1, 65, 66, 206, 68, 23, 1001, 201, 2] L cl iv rv iv rv := fT.refl
  refine c_aload_n (j := 0) (x := a0) C dX11_indicator_0 rfl ?_
  refine c_iload_n (j := 1) C dX11_indicator_1 rfl ?_
  refine c_iload_n (j := 2) C dX11_indicator_2 rfl ?_
  have ri1 : 0 ≤ iv (sk 23) 2 ∧ iv (sk 23) 2 ≤ 512 := hW.int tsk23 2
  refine d_callV (As := [.int (iI i), .int (iI j)]) (rest := []) C hM (C_changeInd (a0 := a0) (i := i) (j := j) hW hS t_a0 (by omega) (by omega) hmr (by show iv (sk 23) 2 < 512; omega)) dX11_indicator_3 kV_X11_208 rfl t_a0 rfl rfl (by decide) ck_12 rfl (Nat.le_of_ble_eq_true rfl) ⟨(Nat.le_of_ble_eq_true rfl), (Nat.le_of_ble_eq_true rfl)⟩ hph hph (show 0 + 1300 = 1300 from rfl) (by decide) (fun rh1 Lh1 clh1 lnh1 ivh1 rvh1 h1 => ?_)
  obtain ⟨f1, rfl, xl1, fl1, W1, rgf1, exf1, kp14f1⟩ := h1
  have ri2 : (-2147483648) ≤ iv a0 14 ∧ iv a0 14 ≤ 2147483647 := hW.int t_a0 14
  have F1 := hF0.call hX0 fl1 rfl
  have mr1 := MRK.call hmr hW hS xl1 fl1 rfl rfl
  have X1 := hX0.trans xl1
  have sk1 := xl1.skl hS
  refine c_st (st2 := [.int (iI f1)]) rfl ?_
  have gk14f1 : ivh1 a0 14 = iv a0 14 := kp14f1
  have ty1 := xl1.ty tsk23
  have ri3 : 0 ≤ ivh1 (sk 23) 2 ∧ ivh1 (sk 23) 2 ≤ 512 := W1.int ty1 2
  have gf1 : ivh1 (sk 23) 2 ≤ iv (sk 23) 2 + 1 ∧ MRK sk clh1 ivh1 rvh1 := exf1
  refine c_istore_n (lv2 := [(3, .int (iI f1)), (0, .ref a0), (1, .int (iI i)), (2, .int (iI j))]) C dX11_indicator_6 (by decide) rfl ?_
  refine c_aload_n (j := 1) (x := a0) C dX11_indicator_7 rfl ?_
  have ty2 := xl1.ty t_a0
  obtain ⟨rb1, rq1, trb1⟩ := W1.ref ty2 0 rfl rfl rfl
  have erb1 := W1.sk trb1 (by decide) rfl
  subst erb1
  refine c_getr (k := 0) C ck_12 dX11_indicator_8 w2_44 (by decide) ty2 rfl rfl (by decide) rfl rq1 ?_
  refine c_st (st2 := [.ref (sk 2)]) rfl ?_
  have ty3 := xl1.ty tsk2
  have pl1 := Phi.le W1 sk1
  refine d_callV (As := []) (rest := []) C hM (C_clear_2 (a0 := (sk 2)) W1 sk1 ty3  ) dX11_indicator_11 kV_X11_164 rfl ty3 rfl rfl (by decide) ck_2 rfl (Nat.le_of_ble_eq_true rfl) ⟨(Nat.le_of_ble_eq_true rfl), (Nat.le_of_ble_eq_true rfl)⟩ hph pl1 (show 1300 + 0 = 1300 from rfl) (by decide) (fun rh2 Lh2 clh2 lnh2 ivh2 rvh2 h2 => ?_)
  obtain ⟨rfl, rfl, rfl, rfl, rfl, fl2, W2, exf2⟩ := h2
  have F2 := F1.call X1 fl2 rfl
  have mr2 := MRK.call mr1 W1 sk1 XT.refl fl2 rfl rfl
  refine c_st (st2 := []) rfl ?_
  have ri4 : 0 ≤ ivh2 (sk 2) 2 ∧ ivh2 (sk 2) 2 ≤ 3000 := W2.int ty3 2
  have gf2 : ivh2 (sk 2) 2 = 0 := exf2
  refine c_iload_n (j := 0) C dX11_indicator_14 rfl ?_
  have ri5 : (-2147483648) ≤ ivh2 a0 14 ∧ ivh2 a0 14 ≤ 2147483647 := W2.int ty2 14
  have ie3 : ivh2 a0 14 = ivh1 a0 14 := fl2.i ty2 rfl 14
  have ri6 : 0 ≤ ivh2 (sk 23) 2 ∧ ivh2 (sk 23) 2 ≤ 512 := W2.int ty1 2
  have ie5 : ivh2 (sk 23) 2 = ivh1 (sk 23) 2 := fl2.i ty1 rfl 2
  exact c_iret C dX11_indicator_15 rfl (by decide) (rom0 hph pl1 (by decide)) ⟨f1, rfl, X1, F2, W2, ⟨by omega, by omega⟩, ⟨(by omega), mr2⟩, (by omega), (by omega)⟩
set_option maxHeartbeats 4000000 in
set_option maxRecDepth 100000 in
theorem C_undo {l : Launch} {G : GT} {mi : Nat} {sk : Nat → Nat} {L : List Nat} {cl ln : Nat → Nat} {iv : Nat → Nat → Int} {rv : Nat → Nat → Option Nat}  {a0 : Nat} (hW : WT (g0 G) sk L cl ln iv rv) (hS : SKL sk L cl) (t_a0 : ty L cl a0 1) (hmr : MRK sk cl iv rv) : Mc l G mi (Phi (g0 G) sk) PHM yX11_undo cX11_undo 1 (some .int) 5 [.ref a0] L cl ln iv rv 0 (fun v L2 cl2 ln2 iv2 rv2 => ∃ f : Int, v = some (.int (iI f)) ∧ L = L2 ∧ cl = cl2 ∧ ln = ln2 ∧ fT [1, 22, 1000, 23, 1001, 26, 1004, 12, 20, 68, 100] L cl iv rv iv2 rv2 ∧ WT (g0 G) sk L2 cl2 ln2 iv2 rv2 ∧ (-2147483648 ≤ f ∧ f ≤ 2147483647) ∧ (iv2 (sk 23) 2 ≤ iv (sk 23) 2 + 1 ∧ MRK sk cl2 iv2 rv2) ∧ iv2 a0 14 = iv a0 14) := by
  refine Mc.mk (by decide) (Nat.le_of_ble_eq_true rfl) ?_
  intro p e s m args below meth c A C hM
  have hph := Phi.le hW hS
  have tsk2 : ty L cl (sk 2) 2 := ⟨(hS 2 rfl).1, by rw [(hS 2 rfl).2]; rfl⟩
  have tsk3 : ty L cl (sk 3) 3 := ⟨(hS 3 rfl).1, by rw [(hS 3 rfl).2]; rfl⟩
  have tsk4 : ty L cl (sk 4) 4 := ⟨(hS 4 rfl).1, by rw [(hS 4 rfl).2]; rfl⟩
  have tsk5 : ty L cl (sk 5) 5 := ⟨(hS 5 rfl).1, by rw [(hS 5 rfl).2]; rfl⟩
  have tsk13 : ty L cl (sk 13) 13 := ⟨(hS 13 rfl).1, by rw [(hS 13 rfl).2]; rfl⟩
  have tsk14 : ty L cl (sk 14) 14 := ⟨(hS 14 rfl).1, by rw [(hS 14 rfl).2]; rfl⟩
  have tsk15 : ty L cl (sk 15) 15 := ⟨(hS 15 rfl).1, by rw [(hS 15 rfl).2]; rfl⟩
  have tsk16 : ty L cl (sk 16) 16 := ⟨(hS 16 rfl).1, by rw [(hS 16 rfl).2]; rfl⟩
  have tsk17 : ty L cl (sk 17) 17 := ⟨(hS 17 rfl).1, by rw [(hS 17 rfl).2]; rfl⟩
  have tsk22 : ty L cl (sk 22) 22 := ⟨(hS 22 rfl).1, by rw [(hS 22 rfl).2]; rfl⟩
  have tsk23 : ty L cl (sk 23) 23 := ⟨(hS 23 rfl).1, by rw [(hS 23 rfl).2]; rfl⟩
  have hX0 : XT L cl ln L cl ln := XT.refl
  have hF0 : fT [1, 22, 1000, 23, 1001, 26, 1004, 12, 20, 68, 100] L cl iv rv iv rv := fT.refl
  refine c_aload_n (j := 0) (x := a0) C dX11_undo_0 rfl ?_
  refine c_aload_n (j := 0) (x := a0) C dX11_undo_1 rfl ?_
  obtain ⟨rb1, rq1, trb1⟩ := hW.ref t_a0 4 rfl rfl rfl
  have erb1 := hW.sk trb1 (by decide) rfl
  subst erb1
  refine c_getr (k := 4) C ck_12 dX11_undo_2 w2_48 (by decide) t_a0 rfl rfl (by decide) rfl rq1 ?_
  refine c_st (st2 := [.ref (sk 13), .ref a0]) rfl ?_
  have ri1 : 0 ≤ iv (sk 22) 2 ∧ iv (sk 22) 2 ≤ 30 := hW.int tsk22 2
  have ri2 : 0 ≤ iv (sk 23) 2 ∧ iv (sk 23) 2 ≤ 512 := hW.int tsk23 2
  refine d_callV (As := []) (rest := [.ref a0]) C hM (C_takeBack (a0 := (sk 13)) hW hS tsk13  hmr) dX11_undo_5 kV_X11_218 rfl tsk13 rfl rfl (by decide) ck_11 rfl (Nat.le_of_ble_eq_true rfl) ⟨(Nat.le_of_ble_eq_true rfl), (Nat.le_of_ble_eq_true rfl)⟩ hph hph (show 0 + 0 = 0 from rfl) (by decide) (fun rh1 Lh1 clh1 lnh1 ivh1 rvh1 h1 => ?_)
  obtain ⟨f1, rfl, rfl, rfl, rfl, fl1, W1, rgf1, exf1⟩ := h1
  have F1 := hF0.call hX0 fl1 rfl
  refine c_st (st2 := [.int (iI f1), .ref a0]) rfl ?_
  have ri3 : 0 ≤ ivh1 (sk 22) 2 ∧ ivh1 (sk 22) 2 ≤ 30 := W1.int tsk22 2
  have ri4 : 0 ≤ ivh1 (sk 23) 2 ∧ ivh1 (sk 23) 2 ≤ 512 := W1.int tsk23 2
  have gf1 : ivh1 (sk 22) 2 ≤ iv (sk 22) 2 ∧ ivh1 (sk 23) 2 ≤ iv (sk 23) 2 ∧ MRK sk cl ivh1 rvh1 := exf1
  refine c_if_eq (tgt := 15) C ⟨by omega, by omega⟩ dX11_undo_8 (by decide) (fun c1 => ?_) (fun c1 => ?_)
  · refine c_iconst C dX11_undo_15 ?_
    have pl1 := Phi.le W1 hS
    refine d_callV (As := [.int (iI 0)]) (rest := []) C hM (C_done (a0 := a0) (x := 0) W1 hS t_a0 ⟨by decide, by decide⟩ ) dX11_undo_16 kV_X11_109 rfl t_a0 rfl rfl (by decide) ck_12 rfl (Nat.le_of_ble_eq_true rfl) ⟨(Nat.le_of_ble_eq_true rfl), (Nat.le_of_ble_eq_true rfl)⟩ hph pl1 (show 0 + 0 = 0 from rfl) (by decide) (fun rh2 Lh2 clh2 lnh2 ivh2 rvh2 h2 => ?_)
    obtain ⟨f2, rfl, rfl, rfl, rfl, rfl, fl2, W2, rgf2, exf2, kp14f2⟩ := h2
    have ri5 : (-2147483648) ≤ ivh1 a0 14 ∧ ivh1 a0 14 ≤ 2147483647 := W1.int t_a0 14
    have ie3 : ivh1 a0 14 = iv a0 14 := fl1.i t_a0 rfl 14
    have F2 := F1.call hX0 fl2 rfl
    have mr1 := MRK.call exf1.2.2 W1 hS XT.refl fl2 rfl rfl
    refine c_st (st2 := [.int (iI f2)]) rfl ?_
    have gk14f2 : ivh2 a0 14 = ivh1 a0 14 := kp14f2
    have gf2 : f2 = (0 : Int) := exf2
    have ri6 : (-2147483648) ≤ ivh2 a0 14 ∧ ivh2 a0 14 ≤ 2147483647 := W2.int t_a0 14
    have ri7 : 0 ≤ ivh2 (sk 23) 2 ∧ ivh2 (sk 23) 2 ≤ 512 := W2.int tsk23 2
    have ie5 : ivh2 (sk 23) 2 = ivh1 (sk 23) 2 := fl2.i tsk23 rfl 2
    exact c_iret C dX11_undo_19 rfl (by decide) (rom0 hph pl1 (by decide)) ⟨f2, rfl, rfl, rfl, rfl, F2, W2, ⟨by omega, by omega⟩, ⟨(by omega), mr1⟩, (by omega)⟩
  · refine c_iconst C dX11_undo_11 ?_
    refine c_goto (tgt := 16) C dX11_undo_12 (by decide) ?_
    have pl2 := Phi.le W1 hS
    refine d_callV (As := [.int (iI 1)]) (rest := []) C hM (C_done (a0 := a0) (x := 1) W1 hS t_a0 ⟨by decide, by decide⟩ ) dX11_undo_16 kV_X11_109 rfl t_a0 rfl rfl (by decide) ck_12 rfl (Nat.le_of_ble_eq_true rfl) ⟨(Nat.le_of_ble_eq_true rfl), (Nat.le_of_ble_eq_true rfl)⟩ hph pl2 (show 0 + 0 = 0 from rfl) (by decide) (fun rh3 Lh3 clh3 lnh3 ivh3 rvh3 h3 => ?_)
    obtain ⟨f3, rfl, rfl, rfl, rfl, rfl, fl3, W3, rgf3, exf3, kp14f3⟩ := h3
    have ri8 : (-2147483648) ≤ ivh1 a0 14 ∧ ivh1 a0 14 ≤ 2147483647 := W1.int t_a0 14
    have ie6 : ivh1 a0 14 = iv a0 14 := fl1.i t_a0 rfl 14
    have F3 := F1.call hX0 fl3 rfl
    have mr2 := MRK.call exf1.2.2 W1 hS XT.refl fl3 rfl rfl
    refine c_st (st2 := [.int (iI f3)]) rfl ?_
    have gk14f3 : ivh3 a0 14 = ivh1 a0 14 := kp14f3
    have gf3 : f3 = (1 : Int) := exf3
    have ri9 : (-2147483648) ≤ ivh3 a0 14 ∧ ivh3 a0 14 ≤ 2147483647 := W3.int t_a0 14
    have ri10 : 0 ≤ ivh3 (sk 23) 2 ∧ ivh3 (sk 23) 2 ≤ 512 := W3.int tsk23 2
    have ie8 : ivh3 (sk 23) 2 = ivh1 (sk 23) 2 := fl3.i tsk23 rfl 2
    exact c_iret C dX11_undo_19 rfl (by decide) (rom0 hph pl2 (by decide)) ⟨f3, rfl, rfl, rfl, rfl, F3, W3, ⟨by omega, by omega⟩, ⟨(by omega), mr2⟩, (by omega)⟩
