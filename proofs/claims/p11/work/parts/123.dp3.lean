set_option maxHeartbeats 4000000 in
set_option maxRecDepth 100000 in
theorem C_drop {l : Launch} {G : GT} {mi : Nat} {sk : Nat → Nat} {L : List Nat} {cl ln : Nat → Nat} {iv : Nat → Nat → Int} {rv : Nat → Nat → Option Nat}  {a0 : Nat} {i : Int} (hW : WT (g0 G) sk L cl ln iv rv) (hS : SKL sk L cl) (t_a0 : ty L cl a0 1) (h_i : -2147483648 ≤ i ∧ i ≤ 2147483647) (hmr : MRK sk cl iv rv) (hch : iv (sk 23) 2 < 512) : Mc l G mi (Phi (g0 G) sk) PHM yX11_drop cX11_drop 3 (some .int) 8 [.ref a0, .int (iI i)] L cl ln iv rv 1236 (fun v L2 cl2 ln2 iv2 rv2 => ∃ f : Int, v = some (.int (iI f)) ∧ XT L cl ln L2 cl2 ln2 ∧ fT [1, 23, 1001, 201, 100] L cl iv rv iv2 rv2 ∧ WT (g0 G) sk L2 cl2 ln2 iv2 rv2 ∧ (-2147483648 ≤ f ∧ f ≤ 2147483647) ∧ (iv2 (sk 23) 2 ≤ iv (sk 23) 2 + 1 ∧ MRK sk cl2 iv2 rv2) ∧ iv2 a0 14 = iv a0 14 ∧ (PDRP i f sk iv rv iv2 rv2)) := by
  refine Mc.mk (by decide) (Nat.le_of_ble_eq_true rfl) ?_
  intro p e s m args below meth c A C hM
  have hph := Phi.le hW hS
  have tsk2 : ty L cl (sk 2) 2 := ⟨(hS 2 rfl).1, by rw [(hS 2 rfl).2]; rfl⟩
  have tsk3 : ty L cl (sk 3) 3 := ⟨(hS 3 rfl).1, by rw [(hS 3 rfl).2]; rfl⟩
  have tsk4 : ty L cl (sk 4) 4 := ⟨(hS 4 rfl).1, by rw [(hS 4 rfl).2]; rfl⟩
  have tsk5 : ty L cl (sk 5) 5 := ⟨(hS 5 rfl).1, by rw [(hS 5 rfl).2]; rfl⟩
  have tsk13 : ty L cl (sk 13) 13 := ⟨(hS 13 rfl).1, by rw [(hS 13 rfl).2]; rfl⟩
  have tsk14 : ty L cl (sk 14) 14 := ⟨(hS 14 rfl).1, by rw [(hS 14 rfl).2]; rfl⟩
  have tsk15 : ty L cl (sk 15) 15 := ⟨(hS 15 rfl).1, by rw [(hS 15 rfl).2]; rfl⟩
  have tsk16 : ty L cl (sk 16) 16 := ⟨(hS 16 rfl).1, by rw [(hS 16 rfl).2]; rfl⟩
  have tsk17 : ty L cl (sk 17) 17 := ⟨(hS 17 rfl).1, by rw [(hS 17 rfl).2]; rfl⟩
  have tsk22 : ty L cl (sk 22) 22 := ⟨(hS 22 rfl).1, by rw [(hS 22 rfl).2]; rfl⟩
  have tsk23 : ty L cl (sk 23) 23 := ⟨(hS 23 rfl).1, by rw [(hS 23 rfl).2]; rfl⟩
  have hX0 : XT L cl ln L cl ln := XT.refl
  have hF0 : fT [1, 23, 1001, 201, 100] L cl iv rv iv rv := fT.refl
  refine c_aload_n (j := 0) (x := a0) C dX11_drop_0 rfl ?_
  obtain ⟨rb1, rq1, trb1⟩ := hW.ref t_a0 4 rfl rfl rfl
  have erb1 := hW.sk trb1 (by decide) rfl
  subst erb1
  refine c_getr (k := 4) C ck_12 dX11_drop_1 w2_48 (by decide) t_a0 rfl rfl (by decide) rfl rq1 ?_
  refine c_st (st2 := [.ref (sk 13)]) rfl ?_
  refine c_iload_n (j := 1) C dX11_drop_4 rfl ?_
  have ri1 : 0 ≤ iv (sk 22) 2 ∧ iv (sk 22) 2 ≤ 30 := hW.int tsk22 2
  refine d_callV (As := [.int (iI i)]) (rest := []) C hM (C_alive (a0 := (sk 13)) (i := i) hW hS tsk13 (by omega) hmr) dX11_drop_5 kV_X11_131 rfl tsk13 rfl rfl (by decide) ck_11 rfl (Nat.le_of_ble_eq_true rfl) ⟨(Nat.le_of_ble_eq_true rfl), (Nat.le_of_ble_eq_true rfl)⟩ hph hph (show 0 + 0 = 0 from rfl) (by decide) (fun rh1 Lh1 clh1 lnh1 ivh1 rvh1 h1 => ?_)
  obtain ⟨f1, rfl, rfl, rfl, rfl, rfl, rfl, rgf1, exf1⟩ := h1
  refine c_st (st2 := [(va_rf f1)]) rfl ?_
  have gf1 : (∀ b, f1 = some b → ((cl b : Nat) : Int) < 100 + iv (sk 22) 2 ∧ ALV sk iv rv i b) ∧ (f1 = none → ∀ b, ¬ ALV sk iv rv i b) := exf1
  refine c_astorer_n (r := f1) (lv2 := [(2, (va_rf f1)), (0, .ref a0), (1, .int (iI i))]) C dX11_drop_8 (by decide) rfl ?_
  refine c_aloadr_n (j := 0) (r := f1) C dX11_drop_9 rfl ?_
  refine c_ifnonnull (r := f1) (tgt := 19) C dX11_drop_10 (by decide) (fun ob1 oq1 => ?_) (fun oq1 => ?_)
  · subst oq1
    have tob1 := rgf1 ob1 rfl
    have akob1 := gf1.1 ob1 rfl
    refine c_lv (lv2 := [(2, .ref ob1), (0, .ref a0), (1, .int (iI i))]) [0, 1, 2] rfl ?_
    refine c_st (st2 := []) rfl ?_
    refine c_aload_n (j := 1) (x := a0) C dX11_drop_19 rfl ?_
    refine c_getr (k := 4) C ck_12 dX11_drop_20 w2_48 (by decide) t_a0 rfl rfl (by decide) rfl rq1 ?_
    refine c_st (st2 := [.ref (sk 13)]) rfl ?_
    refine c_new C ck_1 dv_1 ⟨rfl, rfl⟩ rfl (by decide) dX11_drop_23 w3_98 w3_35 w1_18 (rom2 hph hph (by decide)) (fun qn1 cln1 lnn1 ivn1 rvn1 hqn1 hcn1 hln1 hin1 hrn1 => ⟨20, (p_in (Phi.new hW hS hqn1 (fun b _ => by rw [hln1]) hrn1) (by omega)), ?_⟩)
    refine c_g0 C (fun hg1 => ?_)
    have hxn1 : ∀ b, b ≠ qn1 → lnn1 b = ln b := (fun b _ => by rw [hln1])
    have W2 := hW.new (ln2 := lnn1) hqn1 (hg1 qn1 (List.mem_append_right _ List.mem_cons_self)) hcn1 hxn1 hin1 hrn1 (fun _ => ⟨(show (-2147483648 : Int) ≤ 0 by decide), (show (0 : Int) ≤ 2147483647 by decide)⟩) (Or.inl rfl) (fun q => by cases q) rfl rfl
    have xl2 := XT.new hqn1 hcn1 hxn1
    have X1 := hX0.trans xl2
    have sk1 := xl2.skl hS
    have F1 := hF0.new hX0 hqn1 hin1 hrn1
    have mr1 := MRK.call hmr hW hS xl2 ((fT.refl (ls := [])).new (XT.refl (ln := ln)) hqn1 hin1 hrn1) rfl rfl
    have tqn1 : ty (L ++ [qn1]) cln1 qn1 201 := ty_new hcn1
    have h0qn1 : qn1 ∉ L := fun h => hqn1 ((hX0 qn1 h).1)
    refine c_dup C dX11_drop_26 rfl ?_
    refine c_iconst C dX11_drop_27 ?_
    refine c_aload_n (j := 0) (x := ob1) C dX11_drop_28 rfl ?_
    refine c_null C dX11_drop_29 ?_
    refine c_iconst C dX11_drop_30 ?_
    have ty1 := xl2.ty tob1
    have pl1 := Phi.le W2 sk1
    refine c_callI (As := [.int (iI 1), .ref ob1, .null, .int (iI 0)]) (rest := [.ref qn1, .ref (sk 13)]) C hM (Z_change (a0 := qn1) (i := 1) (a2 := ob1) (r := none) (n := 0) W2 sk1 tqn1 ty1 (fun _ q => by cases q) ⟨by decide, by decide⟩ ⟨by decide, by decide⟩ ) dX11_drop_31 kI_X11_149 rfl rfl (Nat.le_of_ble_eq_true rfl) ⟨(Nat.le_of_ble_eq_true rfl), (Nat.le_of_ble_eq_true rfl)⟩ (rz1 hph pl1 (by decide)) (fun rh2 Lh2 clh2 lnh2 ivh2 rvh2 h2 => ⟨20, (zk1 (by obtain ⟨_, _, _, e3, flh2x, Wh2x, _⟩ := h2; subst e3; exact Phi.frn sk1 flh2x rfl)), ?_⟩)
    obtain ⟨rfl, rfl, rfl, rfl, fl2, W3, exf2⟩ := h2
    have F2 := F1.call X1 fl2 rfl
    have mr2 := MRK.call mr1 W2 sk1 XT.refl fl2 rfl rfl
    refine c_st (st2 := [.ref qn1, .ref (sk 13)]) rfl ?_
    obtain ⟨exf2x, exf2r, exf2p, exf2i, exf2j⟩ := exf2
    have rn1 : ∀ k, ([1, 2] : List Nat).contains k = false → rvh2 qn1 k = none := fun k hk => (Eq.trans (show rvh2 qn1 k = rvn1 qn1 k from (exf2x k hk)) (show rvn1 qn1 k = none from (by rw [hrn1]; exact up0_s)))
    refine c_retag (q := qn1) (t := 21) (by rw [tqn1.2]; rfl) (fun clr1 hcr1 => ?_)
    have ty2 := xl2.ty t_a0
    have ty3 := ty_rt ty2 hcr1 (ne_ty ty2 tqn1 (by decide))
    have ty4 := xl2.ty tsk2
    have ty5 := ty_rt ty4 hcr1 (ne_ty ty4 tqn1 (by decide))
    have ty6 := xl2.ty tsk3
    have ty7 := ty_rt ty6 hcr1 (ne_ty ty6 tqn1 (by decide))
    have ty8 := xl2.ty tsk4
    have ty9 := ty_rt ty8 hcr1 (ne_ty ty8 tqn1 (by decide))
    have ty10 := xl2.ty tsk5
    have ty11 := ty_rt ty10 hcr1 (ne_ty ty10 tqn1 (by decide))
    have ty12 := xl2.ty tsk13
    have ty13 := ty_rt ty12 hcr1 (ne_ty ty12 tqn1 (by decide))
    have ty14 := xl2.ty tsk14
    have ty15 := ty_rt ty14 hcr1 (ne_ty ty14 tqn1 (by decide))
    have ty16 := xl2.ty tsk15
    have ty17 := ty_rt ty16 hcr1 (ne_ty ty16 tqn1 (by decide))
    have ty18 := xl2.ty tsk16
    have ty19 := ty_rt ty18 hcr1 (ne_ty ty18 tqn1 (by decide))
    have ty20 := xl2.ty tsk17
    have ty21 := ty_rt ty20 hcr1 (ne_ty ty20 tqn1 (by decide))
    have ty22 := xl2.ty tsk22
    have ty23 := ty_rt ty22 hcr1 (ne_ty ty22 tqn1 (by decide))
    have ty24 := xl2.ty tsk23
    have ty25 := ty_rt ty24 hcr1 (ne_ty ty24 tqn1 (by decide))
    have ty26 := ty_rt ty1 hcr1 (ne_ty ty1 tqn1 (by decide))
    have tqr1 : ty (L ++ [qn1]) clr1 qn1 21 := ⟨tqn1.1, by rw [hcr1, va_up_self]; rfl⟩
    have W4 := W3.retag tqn1.1 (by rw [tqn1.2]; rfl) hcr1 (fun k => by
          rcases k with _ | _ | _ | _ | k
          · exact W3.int tqn1 0
          · exact W3.int tqn1 1
          · exact W3.int tqn1 2
          · exact W3.int tqn1 3
          · exact W3.int tqn1 (k + 4)) (fun k => by
          rcases k with _ | _ | _ | _ | k
          · rw [rn1 0 (by decide)]; exact rok_none tqr1 rfl
          · rw [exf2r]; exact rok_some tqr1 ty26 rfl (by decide) rfl
          · rw [exf2p]; exact rok_ch tqr1 (fun _ q => by cases q)
          · rw [rn1 3 (by decide)]; exact rok_none tqr1 rfl
          · rw [rn1 (k + 4) (by simp)]; exact rok_none tqr1 rfl) rfl (fun z => by cases z) (fun z => by cases z) rfl
    have X2 := X1.rt hcr1 h0qn1
    have sk2 := sk1.rt hcr1 (by rw [tqn1.2]; rfl)
    have mr3 := MRK.rt mr2 W3 sk1 hcr1 (by rw [tqn1.2]; rfl)
    have on1 := fun b hb => xl2.ty (rgf1 b hb)
    have on2 := fun b hb => ty_rt (on1 b hb) hcr1 (ne_ty (on1 b hb) tqn1 (by decide))
    have ce1 : ∀ i : Nat, (i : Int) < iv (sk 23) 2 → el rvh2 (sk 23) i = el rv (sk 23) i := (fun i hi => el_ch hW (tysk23 hS) rfl rfl ((show ∀ bb, ty L cl bb 23 → rvh2 bb 1 = rv bb 1 from fun bb tbb => by have tb1 := xl2.ty tbb; exact (Eq.trans (show rvh2 bb 1 = rvn1 bb 1 from (fl2.r tb1 rfl 1)) (show rvn1 bb 1 = rv bb 1 from (by rw [hrn1]; exact congrFun (up0_a (ne_in tbb.1 hqn1)) _)))) (sk 23) (tysk23 hS)) (fun bb tbb kk => by have tb1 := xl2.ty tbb; exact (Eq.trans (show rvh2 bb kk = rvn1 bb kk from (fl2.r tb1 rfl kk)) (show rvn1 bb kk = rv bb kk from (by rw [hrn1]; exact congrFun (up0_a (ne_in tbb.1 hqn1)) _)))) hi)
    have ri2 : 0 ≤ ivh2 (sk 23) 2 ∧ ivh2 (sk 23) 2 ≤ 512 := W4.int ty25 2
    have ie1 : ivh2 (sk 23) 2 = ivn1 (sk 23) 2 := fl2.i ty24 rfl 2
    have ie2 : ivn1 (sk 23) 2 = iv (sk 23) 2 := by rw [hin1]; exact congrFun (up0_a (ne_in tsk23.1 hqn1)) _
    have pl2 := Phi.le W4 sk2
    refine d_callV (As := [.ref qn1]) (rest := []) C hM (C_remember (a0 := (sk 13)) (a1 := qn1) W4 sk2 ty13 tqr1  (by show ivh2 (sk 23) 2 < 512; omega)) dX11_drop_34 kV_X11_152 rfl ty13 rfl rfl (by decide) ck_11 rfl (Nat.le_of_ble_eq_true rfl) ⟨(Nat.le_of_ble_eq_true rfl), (Nat.le_of_ble_eq_true rfl)⟩ hph pl2 (show 20 + 1216 = 1236 from rfl) (by decide) (fun rh3 Lh3 clh3 lnh3 ivh3 rvh3 h3 => ?_)
    obtain ⟨rfl, xl4, fl3, W5, exf3, rmef3⟩ := h3
    have F3 := F2.call X2 fl3 rfl
    have mr4 := MRK.call mr3 W4 sk2 xl4 fl3 rfl rfl
    have X3 := X2.trans xl4
    have sk3 := xl4.skl sk2
    refine c_st (st2 := []) rfl ?_
    have ty27 := xl4.ty ty25
    have ri3 : 0 ≤ ivh3 (sk 23) 2 ∧ ivh3 (sk 23) 2 ≤ 512 := W5.int ty27 2
    have gf3 : ivh3 (sk 23) 2 = ivh2 (sk 23) 2 + 1 := exf3
    refine c_aload_n (j := 0) (x := ob1) C dX11_drop_37 rfl ?_
    refine c_iconst C dX11_drop_38 ?_
    have ty28 := xl4.ty ty26
    refine c_put (z := 1) (k := 7) C ck_10 dX11_drop_39 w2_199 (by decide) rfl ty28 rfl rfl (by decide) rfl (by decide) (by decide) (fun iv1 pq1 => ?_)
    have W6 := W5.puti pq1 ty28 ⟨by decide, by decide⟩ rfl
    have F4 := F3.puti X3 pq1 ty28 rfl
    have mr5 := MRK.puti mr4 sk3 pq1 ty28 (by decide)
    refine c_aload_n (j := 1) (x := a0) C dX11_drop_42 rfl ?_
    refine c_iconst C dX11_drop_43 ?_
    have ty29 := xl4.ty ty3
    have pl3 := Phi.le W6 sk3
    refine d_callV (As := [.int (iI 1)]) (rest := []) C hM (C_done (a0 := a0) (x := 1) W6 sk3 ty29 ⟨by decide, by decide⟩ ) dX11_drop_44 kV_X11_109 rfl ty29 rfl rfl (by decide) ck_12 rfl (Nat.le_of_ble_eq_true rfl) ⟨(Nat.le_of_ble_eq_true rfl), (Nat.le_of_ble_eq_true rfl)⟩ hph pl3 (show 1236 + 0 = 1236 from rfl) (by decide) (fun rh4 Lh4 clh4 lnh4 ivh4 rvh4 h4 => ?_)
    obtain ⟨f4, rfl, rfl, rfl, rfl, rfl, fl4, W7, rgf4, exf4, kp14f4⟩ := h4
    have ri4 : (-2147483648) ≤ iv1 a0 14 ∧ iv1 a0 14 ≤ 2147483647 := W6.int ty29 14
    have ie4 : iv1 a0 14 = ivh3 a0 14 := by rw [pq1]; exact up2_k (ne_ty ty29 ty28 (by decide))
    have ie5 : ivh3 a0 14 = ivh2 a0 14 := fl3.i ty3 rfl 14
    have ie6 : ivh2 a0 14 = ivn1 a0 14 := fl2.i ty2 rfl 14
    have ie7 : ivn1 a0 14 = iv a0 14 := by rw [hin1]; exact congrFun (up0_a (ne_in t_a0.1 hqn1)) _
    have F5 := F4.call X3 fl4 rfl
    have mr6 := MRK.call mr5 W6 sk3 XT.refl fl4 rfl rfl
    refine c_st (st2 := [.int (iI f4)]) rfl ?_
    have gk14f4 : ivh4 a0 14 = iv1 a0 14 := kp14f4
    have gf4 : f4 = (1 : Int) := exf4
    have ri5 : (-2147483648) ≤ ivh4 a0 14 ∧ ivh4 a0 14 ≤ 2147483647 := W7.int ty29 14
    have ri6 : 0 ≤ ivh4 (sk 23) 2 ∧ ivh4 (sk 23) 2 ≤ 512 := W7.int ty27 2
    have ie9 : ivh4 (sk 23) 2 = iv1 (sk 23) 2 := fl4.i ty27 rfl 2
    have ie10 : iv1 (sk 23) 2 = ivh3 (sk 23) 2 := by rw [pq1]; exact up2_k (ne_ty ty27 ty28 (by decide))
    have ty30 := xl4.ty ty23
    have ri7 : 0 ≤ ivh4 (sk 22) 2 ∧ ivh4 (sk 22) 2 ≤ 30 := W7.int ty30 2
    have ie11 : ivh4 (sk 22) 2 = iv1 (sk 22) 2 := fl4.i ty30 rfl 2
    have ie12 : iv1 (sk 22) 2 = ivh3 (sk 22) 2 := by rw [pq1]; exact up2_k (ne_ty ty30 ty28 (by decide))
    have ie13 : ivh3 (sk 22) 2 = ivh2 (sk 22) 2 := fl3.i ty23 rfl 2
    have ie14 : ivh2 (sk 22) 2 = ivn1 (sk 22) 2 := fl2.i ty22 rfl 2
    have ie15 : ivn1 (sk 22) 2 = iv (sk 22) 2 := by rw [hin1]; exact congrFun (up0_a (ne_in tsk22.1 hqn1)) _
    have ri8 : 0 ≤ ivh4 ob1 7 ∧ ivh4 ob1 7 ≤ 1 := W7.int ty28 7
    have ie16 : ivh4 ob1 7 = iv1 ob1 7 := fl4.i ty28 rfl 7
    have ie17 : iv1 ob1 7 = 1 := by rw [pq1]; exact up2_s
    have ri9 : (-2147483648) ≤ ivh4 ob1 0 ∧ ivh4 ob1 0 ≤ 2147483647 := W7.int ty28 0
    have ie18 : ivh4 ob1 0 = iv1 ob1 0 := fl4.i ty28 rfl 0
    have ie19 : iv1 ob1 0 = ivh3 ob1 0 := by rw [pq1]; exact up2_j (by decide)
    have ie20 : ivh3 ob1 0 = ivh2 ob1 0 := fl3.i ty26 rfl 0
    have ie21 : ivh2 ob1 0 = ivn1 ob1 0 := fl2.i ty1 rfl 0
    have ie22 : ivn1 ob1 0 = iv ob1 0 := by rw [hin1]; exact congrFun (up0_a (ne_in tob1.1 hqn1)) _
    have ri10 : (-2147483648) ≤ ivh4 ob1 1 ∧ ivh4 ob1 1 ≤ 2147483647 := W7.int ty28 1
    have ie23 : ivh4 ob1 1 = iv1 ob1 1 := fl4.i ty28 rfl 1
    have ie24 : iv1 ob1 1 = ivh3 ob1 1 := by rw [pq1]; exact up2_j (by decide)
    have ie25 : ivh3 ob1 1 = ivh2 ob1 1 := fl3.i ty26 rfl 1
    have ie26 : ivh2 ob1 1 = ivn1 ob1 1 := fl2.i ty1 rfl 1
    have ie27 : ivn1 ob1 1 = iv ob1 1 := by rw [hin1]; exact congrFun (up0_a (ne_in tob1.1 hqn1)) _
    have ty31 := xl4.ty tqr1
    have ri11 : (-2147483648) ≤ ivh4 qn1 0 ∧ ivh4 qn1 0 ≤ 2147483647 := W7.int ty31 0
    have ie28 : ivh4 qn1 0 = iv1 qn1 0 := fl4.i ty31 rfl 0
    have ie29 : iv1 qn1 0 = ivh3 qn1 0 := by rw [pq1]; exact up2_k (ne_ty ty31 ty28 (by decide))
    have ie30 : ivh3 qn1 0 = ivh2 qn1 0 := fl3.i tqr1 rfl 0
    have re1 : rvh3 qn1 1 = rvh2 qn1 1 := (fl3.r tqr1 rfl 1)
    rw [exf2r] at re1
    exact c_iret C dX11_drop_47 rfl (by decide) (rom0 hph pl3 (by decide)) ⟨f4, rfl, X3, F5, W7, ⟨by omega, by omega⟩, ⟨(by omega), mr6⟩, (by omega), (Or.inr ⟨by omega, ob1, akob1.2, by omega, ⟨(fun i hi => el_fr hW (tysk22 hS) rfl rfl F5 rfl rfl hi), TSF.of hW hS (fun bb tbb hbb => by have tb1 := xl2.ty tbb; have tb2 := ty_rt tb1 hcr1 (ne_ty tb1 tqn1 (by decide)); have tb3 := xl4.ty tb2; exact (Eq.trans (show ivh4 bb 7 = iv1 bb 7 from (fl4.i tb3 rfl 7)) (Eq.trans (show iv1 bb 7 = ivh3 bb 7 from (by rw [pq1]; exact up2_k hbb)) (Eq.trans (show ivh3 bb 7 = ivh2 bb 7 from (fl3.i tb2 rfl 7)) (Eq.trans (show ivh2 bb 7 = ivn1 bb 7 from (fl2.i tb1 rfl 7)) (show ivn1 bb 7 = iv bb 7 from (by rw [hin1]; exact congrFun (up0_a (ne_in tbb.1 hqn1)) _))))))) (fun bb tbb => (Classical.em (bb = ob1)).elim (fun e => by subst e; omega) (fun hbb => by have tb1 := xl2.ty tbb; have tb2 := ty_rt tb1 hcr1 (ne_ty tb1 tqn1 (by decide)); have tb3 := xl4.ty tb2; exact (Eq.trans (show ivh4 bb 0 = iv1 bb 0 from (fl4.i tb3 rfl 0)) (Eq.trans (show iv1 bb 0 = ivh3 bb 0 from (by rw [pq1]; exact up2_k hbb)) (Eq.trans (show ivh3 bb 0 = ivh2 bb 0 from (fl3.i tb2 rfl 0)) (Eq.trans (show ivh2 bb 0 = ivn1 bb 0 from (fl2.i tb1 rfl 0)) (show ivn1 bb 0 = iv bb 0 from (by rw [hin1]; exact congrFun (up0_a (ne_in tbb.1 hqn1)) _)))))))) (fun bb tbb => (Classical.em (bb = ob1)).elim (fun e => by subst e; omega) (fun hbb => by have tb1 := xl2.ty tbb; have tb2 := ty_rt tb1 hcr1 (ne_ty tb1 tqn1 (by decide)); have tb3 := xl4.ty tb2; exact (Eq.trans (show ivh4 bb 1 = iv1 bb 1 from (fl4.i tb3 rfl 1)) (Eq.trans (show iv1 bb 1 = ivh3 bb 1 from (by rw [pq1]; exact up2_k hbb)) (Eq.trans (show ivh3 bb 1 = ivh2 bb 1 from (fl3.i tb2 rfl 1)) (Eq.trans (show ivh2 bb 1 = ivn1 bb 1 from (fl2.i tb1 rfl 1)) (show ivn1 bb 1 = iv bb 1 from (by rw [hin1]; exact congrFun (up0_a (ne_in tbb.1 hqn1)) _)))))))) (fun bb tbb => by have tb1 := xl2.ty tbb; have tb2 := ty_rt tb1 hcr1 (ne_ty tb1 tqn1 (by decide)); exact (Eq.trans (show rvh3 bb 4 = rvh2 bb 4 from (fl3.r tb2 rfl 4)) (Eq.trans (show rvh2 bb 4 = rvn1 bb 4 from (fl2.r tb1 rfl 4)) (show rvn1 bb 4 = rv bb 4 from (by rw [hrn1]; exact congrFun (up0_a (ne_in tbb.1 hqn1)) _))))), TSQ.of hW hS (fun bb tbb hbb => by have tb1 := xl2.ty tbb; have tb2 := ty_rt tb1 hcr1 (ne_ty tb1 tqn1 (by decide)); have tb3 := xl4.ty tb2; exact (Eq.trans (show ivh4 bb 2 = iv1 bb 2 from (fl4.i tb3 rfl 2)) (Eq.trans (show iv1 bb 2 = ivh3 bb 2 from (by rw [pq1]; exact up2_k (ne_ty tb3 ty28 (by decide)))) (Eq.trans (show ivh3 bb 2 = ivh2 bb 2 from (fl3.i tb2 rfl 2)) (Eq.trans (show ivh2 bb 2 = ivn1 bb 2 from (fl2.i tb1 rfl 2)) (show ivn1 bb 2 = iv bb 2 from (by rw [hin1]; exact congrFun (up0_a (ne_in tbb.1 hqn1)) _)))))))⟩, by omega, ⟨(by omega), CS0.of hW hS (Int.le_refl _) (fun i hi => (rmef3.2 i (by omega)).trans (ce1 i hi)) (fun bb tbb => by have tb1 := xl2.ty tbb; have tb2 := ty_rt tb1 hcr1 (ne_ty tb1 tqn1 (by decide)); have tb3 := xl4.ty tb2; exact (Eq.trans (show ivh4 bb 0 = iv1 bb 0 from (fl4.i tb3 rfl 0)) (Eq.trans (show iv1 bb 0 = ivh3 bb 0 from (by rw [pq1]; exact up2_k (ne_ty tb3 ty28 (by decide)))) (Eq.trans (show ivh3 bb 0 = ivh2 bb 0 from (fl3.i tb2 rfl 0)) (Eq.trans (show ivh2 bb 0 = ivn1 bb 0 from (fl2.i tb1 rfl 0)) (show ivn1 bb 0 = iv bb 0 from (by rw [hin1]; exact congrFun (up0_a (ne_in tbb.1 hqn1)) _))))))) (fun bb tbb => by have tb1 := xl2.ty tbb; have tb2 := ty_rt tb1 hcr1 (ne_ty tb1 tqn1 (by decide)); exact (Eq.trans (show rvh3 bb 1 = rvh2 bb 1 from (fl3.r tb2 rfl 1)) (Eq.trans (show rvh2 bb 1 = rvn1 bb 1 from (fl2.r tb1 rfl 1)) (show rvn1 bb 1 = rv bb 1 from (by rw [hrn1]; exact congrFun (up0_a (ne_in tbb.1 hqn1)) _))))), ⟨qn1, (by rw [show (iv (sk 23) 2).toNat = (ivh2 (sk 23) 2).toNat from congrArg Int.toNat (by omega)]; exact rmef3.1), (by omega), re1⟩⟩⟩)⟩
  · subst oq1
    refine c_lv (lv2 := [(2, .null), (0, .ref a0), (1, .int (iI i))]) [0, 1, 2] rfl ?_
    refine c_st (st2 := []) rfl ?_
    refine c_aload_n (j := 1) (x := a0) C dX11_drop_13 rfl ?_
    refine c_iconst C dX11_drop_14 ?_
    refine d_callV (As := [.int (iI 3)]) (rest := []) C hM (C_refuse (a0 := a0) (x := 3) hW hS t_a0 ⟨by decide, by decide⟩ ) dX11_drop_15 kV_X11_102 rfl t_a0 rfl rfl (by decide) ck_12 rfl (Nat.le_of_ble_eq_true rfl) ⟨(Nat.le_of_ble_eq_true rfl), (Nat.le_of_ble_eq_true rfl)⟩ hph hph (show 0 + 0 = 0 from rfl) (by decide) (fun rh5 Lh5 clh5 lnh5 ivh5 rvh5 h5 => ?_)
    obtain ⟨f5, rfl, rfl, rfl, rfl, rfl, fl5, W8, rgf5, exf5, kp14f5⟩ := h5
    have ri12 : (-2147483648) ≤ iv a0 14 ∧ iv a0 14 ≤ 2147483647 := hW.int t_a0 14
    have F6 := hF0.call hX0 fl5 rfl
    have mr7 := MRK.call hmr hW hS XT.refl fl5 rfl rfl
    refine c_st (st2 := [.int (iI f5)]) rfl ?_
    have gk14f5 : ivh5 a0 14 = iv a0 14 := kp14f5
    have gf5 : f5 = -1 := exf5
    have ri13 : (-2147483648) ≤ ivh5 a0 14 ∧ ivh5 a0 14 ≤ 2147483647 := W8.int t_a0 14
    have ri14 : 0 ≤ ivh5 (sk 23) 2 ∧ ivh5 (sk 23) 2 ≤ 512 := W8.int tsk23 2
    have ie32 : ivh5 (sk 23) 2 = iv (sk 23) 2 := fl5.i tsk23 rfl 2
    have ri15 : 0 ≤ ivh5 (sk 22) 2 ∧ ivh5 (sk 22) 2 ≤ 30 := W8.int tsk22 2
    have ie33 : ivh5 (sk 22) 2 = iv (sk 22) 2 := fl5.i tsk22 rfl 2
    exact c_iret C dX11_drop_18 rfl (by decide) (rom0 hph hph (by decide)) ⟨f5, rfl, hX0, F6, W8, ⟨by omega, by omega⟩, ⟨(by omega), mr7⟩, (by omega), (Or.inl ⟨by omega, PSAME.fr hW hS fl5 rfl rfl rfl rfl rfl rfl rfl, gf1.2 rfl⟩)⟩
set_option maxHeartbeats 4000000 in
set_option maxRecDepth 100000 in
theorem C_addRule {l : Launch} {G : GT} {mi : Nat} {sk : Nat → Nat} {L : List Nat} {cl ln : Nat → Nat} {iv : Nat → Nat → Int} {rv : Nat → Nat → Option Nat}  {a0 : Nat} {i : Int} {cnd : Int} {n : Int} (hW : WT (g0 G) sk L cl ln iv rv) (hS : SKL sk L cl) (t_a0 : ty L cl a0 1) (h_i : -2147483648 ≤ i ∧ i ≤ 2147483647) (h_cnd : -2147483648 ≤ cnd ∧ cnd ≤ 2147483647) (h_n : -2147483648 ≤ n ∧ n ≤ 2147483647) (hmr : MRK sk cl iv rv) (hch : iv (sk 23) 2 < 512) : Mc l G mi (Phi (g0 G) sk) PHM yX11_addRule cX11_addRule 6 (some .int) 8 [.ref a0, .int (iI i), .int (iI cnd), .int (iI n)] L cl ln iv rv 2320 (fun v L2 cl2 ln2 iv2 rv2 => ∃ f : Int, v = some (.int (iI f)) ∧ XT L cl ln L2 cl2 ln2 ∧ fT [1, 65, 66, 206, 20, 26, 1004, 12, 42, 23, 1001, 201] L cl iv rv iv2 rv2 ∧ WT (g0 G) sk L2 cl2 ln2 iv2 rv2 ∧ (-2147483648 ≤ f ∧ f ≤ 2147483647) ∧ (iv2 (sk 23) 2 ≤ iv (sk 23) 2 + 1 ∧ MRK sk cl2 iv2 rv2) ∧ iv2 a0 14 = iv a0 14 ∧ (PRUL i cnd n f sk iv rv iv2 rv2)) := by
  refine Mc.mk (by decide) (Nat.le_of_ble_eq_true rfl) ?_
  intro p e s m args below meth c A C hM
  have hph := Phi.le hW hS
  have tsk2 : ty L cl (sk 2) 2 := ⟨(hS 2 rfl).1, by rw [(hS 2 rfl).2]; rfl⟩
  have tsk3 : ty L cl (sk 3) 3 := ⟨(hS 3 rfl).1, by rw [(hS 3 rfl).2]; rfl⟩
  have tsk4 : ty L cl (sk 4) 4 := ⟨(hS 4 rfl).1, by rw [(hS 4 rfl).2]; rfl⟩
  have tsk5 : ty L cl (sk 5) 5 := ⟨(hS 5 rfl).1, by rw [(hS 5 rfl).2]; rfl⟩
  have tsk13 : ty L cl (sk 13) 13 := ⟨(hS 13 rfl).1, by rw [(hS 13 rfl).2]; rfl⟩
  have tsk14 : ty L cl (sk 14) 14 := ⟨(hS 14 rfl).1, by rw [(hS 14 rfl).2]; rfl⟩
  have tsk15 : ty L cl (sk 15) 15 := ⟨(hS 15 rfl).1, by rw [(hS 15 rfl).2]; rfl⟩
  have tsk16 : ty L cl (sk 16) 16 := ⟨(hS 16 rfl).1, by rw [(hS 16 rfl).2]; rfl⟩
  have tsk17 : ty L cl (sk 17) 17 := ⟨(hS 17 rfl).1, by rw [(hS 17 rfl).2]; rfl⟩
  have tsk22 : ty L cl (sk 22) 22 := ⟨(hS 22 rfl).1, by rw [(hS 22 rfl).2]; rfl⟩
  have tsk23 : ty L cl (sk 23) 23 := ⟨(hS 23 rfl).1, by rw [(hS 23 rfl).2]; rfl⟩
  have hX0 : XT L cl ln L cl ln := XT.refl
  have hF0 : fT [1, 65, 66, 206, 20, 26, 1004, 12, 42, 23, 1001, 201] L cl iv rv iv rv := fT.refl
  refine c_aload_n (j := 0) (x := a0) C dX11_addRule_0 rfl ?_
  obtain ⟨rb1, rq1, trb1⟩ := hW.ref t_a0 4 rfl rfl rfl
  have erb1 := hW.sk trb1 (by decide) rfl
  subst erb1
  refine c_getr (k := 4) C ck_12 dX11_addRule_1 w2_48 (by decide) t_a0 rfl rfl (by decide) rfl rq1 ?_
  refine c_st (st2 := [.ref (sk 13)]) rfl ?_
  refine c_iload_n (j := 1) C dX11_addRule_4 rfl ?_
  have ri1 : 0 ≤ iv (sk 22) 2 ∧ iv (sk 22) 2 ≤ 30 := hW.int tsk22 2
  refine d_callV (As := [.int (iI i)]) (rest := []) C hM (C_alive (a0 := (sk 13)) (i := i) hW hS tsk13 (by omega) hmr) dX11_addRule_5 kV_X11_131 rfl tsk13 rfl rfl (by decide) ck_11 rfl (Nat.le_of_ble_eq_true rfl) ⟨(Nat.le_of_ble_eq_true rfl), (Nat.le_of_ble_eq_true rfl)⟩ hph hph (show 0 + 0 = 0 from rfl) (by decide) (fun rh1 Lh1 clh1 lnh1 ivh1 rvh1 h1 => ?_)
  obtain ⟨f1, rfl, rfl, rfl, rfl, rfl, rfl, rgf1, exf1⟩ := h1
  refine c_st (st2 := [(va_rf f1)]) rfl ?_
  have gf1 : (∀ b, f1 = some b → ((cl b : Nat) : Int) < 100 + iv (sk 22) 2 ∧ ALV sk iv rv i b) ∧ (f1 = none → ∀ b, ¬ ALV sk iv rv i b) := exf1
  refine c_astorer (r := f1) (lv2 := [(4, (va_rf f1)), (0, .ref a0), (1, .int (iI i)), (2, .int (iI cnd)), (3, .int (iI n))]) C dX11_addRule_8 (by decide) rfl ?_
  refine c_aloadr (j := 0) (r := f1) C dX11_addRule_10 rfl ?_
  refine c_ifnonnull (r := f1) (tgt := 21) C dX11_addRule_12 (by decide) (fun ob1 oq1 => ?_) (fun oq1 => ?_)
  · subst oq1
    have tob1 := rgf1 ob1 rfl
    have akob1 := gf1.1 ob1 rfl
    refine c_lv (lv2 := [(4, .ref ob1), (0, .ref a0), (1, .int (iI i)), (2, .int (iI cnd)), (3, .int (iI n))]) [0, 1, 2, 3, 4] rfl ?_
    refine c_st (st2 := []) rfl ?_
    refine c_aload (j := 0) (x := ob1) C dX11_addRule_21 rfl ?_
    have ri2 : (-2147483648) ≤ iv ob1 0 ∧ iv ob1 0 ≤ 2147483647 := hW.int tob1 0
    refine c_get (k := 0) C ck_10 dX11_addRule_23 w2_176 (by decide) tob1 rfl rfl (by decide) rfl ?_
    refine c_iconst C dX11_addRule_26 ?_
    refine c_icmp_ne (tgt := 36) C ⟨by omega, by omega⟩ ⟨by decide, by decide⟩ dX11_addRule_27 (by decide) (fun c1 => ?_) (fun c1 => ?_)
    · refine c_iload_n (j := 4) C dX11_addRule_36 rfl ?_
      refine c_if_ge (tgt := 46) C ⟨by omega, by omega⟩ dX11_addRule_37 (by decide) (fun c2 => ?_) (fun c2 => ?_)
      · refine c_iload_n (j := 3) C dX11_addRule_46 rfl ?_
        refine c_callS0 (As := [.int (iI cnd)]) (rest := []) C (fun L E => s11_isCondition (iI cnd)) dX11_addRule_47 kS_X11_167 rfl rfl (Nat.le_of_ble_eq_true rfl) ⟨(Nat.le_of_ble_eq_true rfl), (Nat.le_of_ble_eq_true rfl)⟩ (rom0 hph hph (by decide)) ?_
        rcases inn_c (x := cnd) (lo := 0) (hi := 5) ⟨by omega, by omega⟩ ⟨by decide, by decide⟩ ⟨by decide, by decide⟩ with ⟨hs1a, hs1b, hs1e⟩ | ⟨hs1a, hs1e⟩
        · refine c_st (st2 := [.int (iI 1)]) (by rw [show inn (iI cnd) 0 5 = iI 1 from hs1e]) ?_
          refine c_if_eq (tgt := 118) C ⟨by decide, by decide⟩ dX11_addRule_50 (by decide) (fun z => absurd z (by omega)) (fun _ => ?_)
          refine c_iload_n (j := 4) C dX11_addRule_53 rfl ?_
          refine c_iconst C dX11_addRule_54 ?_
          refine c_icmp_lt (tgt := 118) C ⟨by omega, by omega⟩ ⟨by decide, by decide⟩ dX11_addRule_55 (by decide) (fun c3 => ?_) (fun c3 => ?_)
          · refine c_aload_n (j := 1) (x := a0) C dX11_addRule_118 rfl ?_
            refine c_bipush (z := 6) C dX11_addRule_119 (by decide) ?_
            refine d_callV (As := [.int (iI 6)]) (rest := []) C hM (C_refuse (a0 := a0) (x := 6) hW hS t_a0 ⟨by decide, by decide⟩ ) dX11_addRule_121 kV_X11_102 rfl t_a0 rfl rfl (by decide) ck_12 rfl (Nat.le_of_ble_eq_true rfl) ⟨(Nat.le_of_ble_eq_true rfl), (Nat.le_of_ble_eq_true rfl)⟩ hph hph (show 0 + 0 = 0 from rfl) (by decide) (fun rh2 Lh2 clh2 lnh2 ivh2 rvh2 h2 => ?_)
            obtain ⟨f2, rfl, rfl, rfl, rfl, rfl, fl2, W2, rgf2, exf2, kp14f2⟩ := h2
            have ri3 : (-2147483648) ≤ iv a0 14 ∧ iv a0 14 ≤ 2147483647 := hW.int t_a0 14
            have F1 := hF0.call hX0 fl2 rfl
            have mr1 := MRK.call hmr hW hS XT.refl fl2 rfl rfl
            refine c_st (st2 := [.int (iI f2)]) rfl ?_
            have gk14f2 : ivh2 a0 14 = iv a0 14 := kp14f2
            have gf2 : f2 = -1 := exf2
            have ri4 : (-2147483648) ≤ ivh2 a0 14 ∧ ivh2 a0 14 ≤ 2147483647 := W2.int t_a0 14
            have ri5 : 0 ≤ ivh2 (sk 23) 2 ∧ ivh2 (sk 23) 2 ≤ 512 := W2.int tsk23 2
            have ie2 : ivh2 (sk 23) 2 = iv (sk 23) 2 := fl2.i tsk23 rfl 2
            have ri6 : 0 ≤ ivh2 (sk 22) 2 ∧ ivh2 (sk 22) 2 ≤ 30 := W2.int tsk22 2
            have ie3 : ivh2 (sk 22) 2 = iv (sk 22) 2 := fl2.i tsk22 rfl 2
            have ri7 : (-2147483648) ≤ ivh2 ob1 0 ∧ ivh2 ob1 0 ≤ 2147483647 := W2.int tob1 0
            have ie4 : ivh2 ob1 0 = iv ob1 0 := fl2.i tob1 rfl 0
            have ri8 : 0 ≤ ivh2 (sk 2) 2 ∧ ivh2 (sk 2) 2 ≤ 3000 := W2.int tsk2 2
            have ie5 : ivh2 (sk 2) 2 = iv (sk 2) 2 := fl2.i tsk2 rfl 2
            exact c_iret C dX11_addRule_124 rfl (by decide) (rom0 hph hph (by decide)) ⟨f2, rfl, hX0, F1, W2, ⟨by omega, by omega⟩, ⟨(by omega), mr1⟩, (by omega), (Or.inl ⟨by omega, PSAME.fr hW hS fl2 rfl rfl rfl rfl rfl rfl rfl, (fun ss t q hs ht hq hd h => by
                have e := ht.uni akob1.2
                subst e
                obtain ⟨h1, h2, h3, h4, h5, h6, h7, h8⟩ := h.1
                first | omega)⟩)⟩
          · refine c_iload_n (j := 4) C dX11_addRule_58 rfl ?_
            refine c_bipush (z := 8) C dX11_addRule_59 (by decide) ?_
            refine c_icmp_gt (tgt := 118) C ⟨by omega, by omega⟩ ⟨by decide, by decide⟩ dX11_addRule_61 (by decide) (fun c4 => ?_) (fun c4 => ?_)
            · refine c_aload_n (j := 1) (x := a0) C dX11_addRule_118 rfl ?_
              refine c_bipush (z := 6) C dX11_addRule_119 (by decide) ?_
              refine d_callV (As := [.int (iI 6)]) (rest := []) C hM (C_refuse (a0 := a0) (x := 6) hW hS t_a0 ⟨by decide, by decide⟩ ) dX11_addRule_121 kV_X11_102 rfl t_a0 rfl rfl (by decide) ck_12 rfl (Nat.le_of_ble_eq_true rfl) ⟨(Nat.le_of_ble_eq_true rfl), (Nat.le_of_ble_eq_true rfl)⟩ hph hph (show 0 + 0 = 0 from rfl) (by decide) (fun rh3 Lh3 clh3 lnh3 ivh3 rvh3 h3 => ?_)
              obtain ⟨f3, rfl, rfl, rfl, rfl, rfl, fl3, W3, rgf3, exf3, kp14f3⟩ := h3
              have ri9 : (-2147483648) ≤ iv a0 14 ∧ iv a0 14 ≤ 2147483647 := hW.int t_a0 14
              have F2 := hF0.call hX0 fl3 rfl
              have mr2 := MRK.call hmr hW hS XT.refl fl3 rfl rfl
              refine c_st (st2 := [.int (iI f3)]) rfl ?_
              have gk14f3 : ivh3 a0 14 = iv a0 14 := kp14f3
              have gf3 : f3 = -1 := exf3
              have ri10 : (-2147483648) ≤ ivh3 a0 14 ∧ ivh3 a0 14 ≤ 2147483647 := W3.int t_a0 14
              have ri11 : 0 ≤ ivh3 (sk 23) 2 ∧ ivh3 (sk 23) 2 ≤ 512 := W3.int tsk23 2
              have ie7 : ivh3 (sk 23) 2 = iv (sk 23) 2 := fl3.i tsk23 rfl 2
              have ri12 : 0 ≤ ivh3 (sk 22) 2 ∧ ivh3 (sk 22) 2 ≤ 30 := W3.int tsk22 2
              have ie8 : ivh3 (sk 22) 2 = iv (sk 22) 2 := fl3.i tsk22 rfl 2
              have ri13 : (-2147483648) ≤ ivh3 ob1 0 ∧ ivh3 ob1 0 ≤ 2147483647 := W3.int tob1 0
              have ie9 : ivh3 ob1 0 = iv ob1 0 := fl3.i tob1 rfl 0
              have ri14 : 0 ≤ ivh3 (sk 2) 2 ∧ ivh3 (sk 2) 2 ≤ 3000 := W3.int tsk2 2
              have ie10 : ivh3 (sk 2) 2 = iv (sk 2) 2 := fl3.i tsk2 rfl 2
              exact c_iret C dX11_addRule_124 rfl (by decide) (rom0 hph hph (by decide)) ⟨f3, rfl, hX0, F2, W3, ⟨by omega, by omega⟩, ⟨(by omega), mr2⟩, (by omega), (Or.inl ⟨by omega, PSAME.fr hW hS fl3 rfl rfl rfl rfl rfl rfl rfl, (fun ss t q hs ht hq hd h => by
                  have e := ht.uni akob1.2
                  subst e
                  obtain ⟨h1, h2, h3, h4, h5, h6, h7, h8⟩ := h.1
                  first | omega)⟩)⟩
            · refine c_iload_n (j := 4) C dX11_addRule_64 rfl ?_
              refine c_aload_n (j := 1) (x := a0) C dX11_addRule_65 rfl ?_
              obtain ⟨rb2, rq2, trb2⟩ := hW.ref t_a0 0 rfl rfl rfl
              have erb2 := hW.sk trb2 (by decide) rfl
              subst erb2
              refine c_getr (k := 0) C ck_12 dX11_addRule_66 w2_44 (by decide) t_a0 rfl rfl (by decide) rfl rq2 ?_
              refine c_st (st2 := [.ref (sk 2), .int (iI n)]) rfl ?_
              have ri15 : 0 ≤ iv (sk 2) 2 ∧ iv (sk 2) 2 ≤ 3000 := hW.int tsk2 2
              refine c_get (k := 2) C ck_2 dX11_addRule_69 w1_44 (by decide) tsk2 rfl rfl (by decide) rfl ?_
              refine c_icmp_ge (tgt := 118) C ⟨by omega, by omega⟩ ⟨by omega, by omega⟩ dX11_addRule_72 (by decide) (fun c5 => ?_) (fun c5 => ?_)
              · refine c_aload_n (j := 1) (x := a0) C dX11_addRule_118 rfl ?_
                refine c_bipush (z := 6) C dX11_addRule_119 (by decide) ?_
                refine d_callV (As := [.int (iI 6)]) (rest := []) C hM (C_refuse (a0 := a0) (x := 6) hW hS t_a0 ⟨by decide, by decide⟩ ) dX11_addRule_121 kV_X11_102 rfl t_a0 rfl rfl (by decide) ck_12 rfl (Nat.le_of_ble_eq_true rfl) ⟨(Nat.le_of_ble_eq_true rfl), (Nat.le_of_ble_eq_true rfl)⟩ hph hph (show 0 + 0 = 0 from rfl) (by decide) (fun rh4 Lh4 clh4 lnh4 ivh4 rvh4 h4 => ?_)
                obtain ⟨f4, rfl, rfl, rfl, rfl, rfl, fl4, W4, rgf4, exf4, kp14f4⟩ := h4
                have ri16 : (-2147483648) ≤ iv a0 14 ∧ iv a0 14 ≤ 2147483647 := hW.int t_a0 14
                have F3 := hF0.call hX0 fl4 rfl
                have mr3 := MRK.call hmr hW hS XT.refl fl4 rfl rfl
                refine c_st (st2 := [.int (iI f4)]) rfl ?_
                have gk14f4 : ivh4 a0 14 = iv a0 14 := kp14f4
                have gf4 : f4 = -1 := exf4
                have ri17 : (-2147483648) ≤ ivh4 a0 14 ∧ ivh4 a0 14 ≤ 2147483647 := W4.int t_a0 14
                have ri18 : 0 ≤ ivh4 (sk 23) 2 ∧ ivh4 (sk 23) 2 ≤ 512 := W4.int tsk23 2
                have ie12 : ivh4 (sk 23) 2 = iv (sk 23) 2 := fl4.i tsk23 rfl 2
                have ri19 : 0 ≤ ivh4 (sk 22) 2 ∧ ivh4 (sk 22) 2 ≤ 30 := W4.int tsk22 2
                have ie13 : ivh4 (sk 22) 2 = iv (sk 22) 2 := fl4.i tsk22 rfl 2
                have ri20 : (-2147483648) ≤ ivh4 ob1 0 ∧ ivh4 ob1 0 ≤ 2147483647 := W4.int tob1 0
                have ie14 : ivh4 ob1 0 = iv ob1 0 := fl4.i tob1 rfl 0
                have ri21 : 0 ≤ ivh4 (sk 2) 2 ∧ ivh4 (sk 2) 2 ≤ 3000 := W4.int tsk2 2
                have ie15 : ivh4 (sk 2) 2 = iv (sk 2) 2 := fl4.i tsk2 rfl 2
                exact c_iret C dX11_addRule_124 rfl (by decide) (rom0 hph hph (by decide)) ⟨f4, rfl, hX0, F3, W4, ⟨by omega, by omega⟩, ⟨(by omega), mr3⟩, (by omega), (Or.inl ⟨by omega, PSAME.fr hW hS fl4 rfl rfl rfl rfl rfl rfl rfl, (fun ss t q hs ht hq hd h => by
                    have e := ht.uni akob1.2
                    subst e
                    obtain ⟨h1, h2, h3, h4, h5, h6, h7, h8⟩ := h.1
                    first | omega)⟩)⟩
              · refine c_aload_n (j := 1) (x := a0) C dX11_addRule_75 rfl ?_
                refine c_getr (k := 0) C ck_12 dX11_addRule_76 w2_44 (by decide) t_a0 rfl rfl (by decide) rfl rq2 ?_
                refine c_st (st2 := [.ref (sk 2)]) rfl ?_
                refine c_iconst C dX11_addRule_79 ?_
                refine c_iload_n (j := 4) C dX11_addRule_80 rfl ?_
                refine c_bipush (z := 33) C dX11_addRule_81 (by decide) ?_
                refine c_bipush (z := 125) C dX11_addRule_83 (by decide) ?_
                refine d_callV (As := [.int (iI 0), .int (iI n), .int (iI 33), .int (iI 125)]) (rest := []) C hM (C_isWithin_2 (a0 := (sk 2)) (i := 0) (j := n) (lo := 33) (hi := 125) hW hS tsk2 ⟨by decide, by decide⟩ (by omega) ⟨by decide, by decide⟩ ⟨by decide, by decide⟩ ) dX11_addRule_85 kV_X11_171 rfl tsk2 rfl rfl (by decide) ck_2 rfl (Nat.le_of_ble_eq_true rfl) ⟨(Nat.le_of_ble_eq_true rfl), (Nat.le_of_ble_eq_true rfl)⟩ hph hph (show 0 + 0 = 0 from rfl) (by decide) (fun rh5 Lh5 clh5 lnh5 ivh5 rvh5 h5 => ?_)
                obtain ⟨f5, rfl, rfl, rfl, rfl, rfl, rfl, rgf5, exf5⟩ := h5
                refine c_st (st2 := [.int (iI f5)]) rfl ?_
                have gf5 : ∀ ss, CT iv rv (sk 2) ss → 0 ≤ (0 : Int) → n ≤ iv (sk 2) 2 → (f5 = 1 ↔ ∀ x : Nat, (0 : Int) ≤ (x : Int) → (x : Int) < n → (33 : Int) ≤ ss x ∧ ss x ≤ (125 : Int)) := exf5
                refine c_if_eq (tgt := 118) C ⟨by omega, by omega⟩ dX11_addRule_88 (by decide) (fun c6 => ?_) (fun c6 => ?_)
                · refine c_aload_n (j := 1) (x := a0) C dX11_addRule_118 rfl ?_
                  refine c_bipush (z := 6) C dX11_addRule_119 (by decide) ?_
                  refine d_callV (As := [.int (iI 6)]) (rest := []) C hM (C_refuse (a0 := a0) (x := 6) hW hS t_a0 ⟨by decide, by decide⟩ ) dX11_addRule_121 kV_X11_102 rfl t_a0 rfl rfl (by decide) ck_12 rfl (Nat.le_of_ble_eq_true rfl) ⟨(Nat.le_of_ble_eq_true rfl), (Nat.le_of_ble_eq_true rfl)⟩ hph hph (show 0 + 0 = 0 from rfl) (by decide) (fun rh6 Lh6 clh6 lnh6 ivh6 rvh6 h6 => ?_)
                  obtain ⟨f6, rfl, rfl, rfl, rfl, rfl, fl6, W6, rgf6, exf6, kp14f6⟩ := h6
                  have ri22 : (-2147483648) ≤ iv a0 14 ∧ iv a0 14 ≤ 2147483647 := hW.int t_a0 14
                  have F4 := hF0.call hX0 fl6 rfl
                  have mr4 := MRK.call hmr hW hS XT.refl fl6 rfl rfl
                  refine c_st (st2 := [.int (iI f6)]) rfl ?_
                  have gk14f6 : ivh6 a0 14 = iv a0 14 := kp14f6
                  have gf6 : f6 = -1 := exf6
                  have ri23 : (-2147483648) ≤ ivh6 a0 14 ∧ ivh6 a0 14 ≤ 2147483647 := W6.int t_a0 14
                  have ri24 : 0 ≤ ivh6 (sk 23) 2 ∧ ivh6 (sk 23) 2 ≤ 512 := W6.int tsk23 2
                  have ie17 : ivh6 (sk 23) 2 = iv (sk 23) 2 := fl6.i tsk23 rfl 2
                  have ri25 : 0 ≤ ivh6 (sk 22) 2 ∧ ivh6 (sk 22) 2 ≤ 30 := W6.int tsk22 2
                  have ie18 : ivh6 (sk 22) 2 = iv (sk 22) 2 := fl6.i tsk22 rfl 2
                  have ri26 : (-2147483648) ≤ ivh6 ob1 0 ∧ ivh6 ob1 0 ≤ 2147483647 := W6.int tob1 0
                  have ie19 : ivh6 ob1 0 = iv ob1 0 := fl6.i tob1 rfl 0
                  have ri27 : 0 ≤ ivh6 (sk 2) 2 ∧ ivh6 (sk 2) 2 ≤ 3000 := W6.int tsk2 2
                  have ie20 : ivh6 (sk 2) 2 = iv (sk 2) 2 := fl6.i tsk2 rfl 2
                  exact c_iret C dX11_addRule_124 rfl (by decide) (rom0 hph hph (by decide)) ⟨f6, rfl, hX0, F4, W6, ⟨by omega, by omega⟩, ⟨(by omega), mr4⟩, (by omega), (Or.inl ⟨by omega, PSAME.fr hW hS fl6 rfl rfl rfl rfl rfl rfl rfl, (fun ss t q hs ht hq hd h => by
                      have e := ht.uni akob1.2
                      subst e
                      obtain ⟨h1, h2, h3, h4, h5, h6, h7, h8⟩ := h.1
                      first | omega | (have e1 := gf5 ss hs (by omega) (by omega); have e2 := e1.mpr (fun x q1 q2 => h.2.2 x q2); omega))⟩)⟩
                · refine c_aload_n (j := 1) (x := a0) C dX11_addRule_91 rfl ?_
                  refine c_iload_n (j := 4) C dX11_addRule_92 rfl ?_
                  refine c_aload (j := 0) (x := ob1) C dX11_addRule_93 rfl ?_
                  have ri28 : (-2147483648) ≤ iv ob1 1 ∧ iv ob1 1 ≤ 2147483647 := hW.int tob1 1
                  refine c_get (k := 1) C ck_10 dX11_addRule_95 w2_179 (by decide) tob1 rfl rfl (by decide) rfl ?_
                  refine d_callV (As := [.int (iI n), .int (iI (iv ob1 1))]) (rest := []) C hM (C_isRow (a0 := a0) (i := n) (n := iv ob1 1) hW hS t_a0 (by omega) (by omega) (by show 0 ≤ n; omega)) dX11_addRule_98 kV_X11_175 rfl t_a0 rfl rfl (by decide) ck_12 rfl (Nat.le_of_ble_eq_true rfl) ⟨(Nat.le_of_ble_eq_true rfl), (Nat.le_of_ble_eq_true rfl)⟩ hph hph (show 0 + 0 = 0 from rfl) (by decide) (fun rh7 Lh7 clh7 lnh7 ivh7 rvh7 h7 => ?_)
                  obtain ⟨f7, rfl, rfl, rfl, rfl, rfl, rfl, rgf7, exf7, irxf7⟩ := h7
                  refine c_st (st2 := [.int (iI f7)]) rfl ?_
                  have gf7 : f7 = 0 ∨ iv (sk 2) 2 - n ≤ 4 := exf7
                  refine c_if_eq (tgt := 118) C ⟨by omega, by omega⟩ dX11_addRule_101 (by decide) (fun c7 => ?_) (fun c7 => ?_)
                  · refine c_aload_n (j := 1) (x := a0) C dX11_addRule_118 rfl ?_
                    refine c_bipush (z := 6) C dX11_addRule_119 (by decide) ?_
                    refine d_callV (As := [.int (iI 6)]) (rest := []) C hM (C_refuse (a0 := a0) (x := 6) hW hS t_a0 ⟨by decide, by decide⟩ ) dX11_addRule_121 kV_X11_102 rfl t_a0 rfl rfl (by decide) ck_12 rfl (Nat.le_of_ble_eq_true rfl) ⟨(Nat.le_of_ble_eq_true rfl), (Nat.le_of_ble_eq_true rfl)⟩ hph hph (show 0 + 0 = 0 from rfl) (by decide) (fun rh8 Lh8 clh8 lnh8 ivh8 rvh8 h8 => ?_)
                    obtain ⟨f8, rfl, rfl, rfl, rfl, rfl, fl8, W8, rgf8, exf8, kp14f8⟩ := h8
                    have ri29 : (-2147483648) ≤ iv a0 14 ∧ iv a0 14 ≤ 2147483647 := hW.int t_a0 14
                    have F5 := hF0.call hX0 fl8 rfl
                    have mr5 := MRK.call hmr hW hS XT.refl fl8 rfl rfl
                    refine c_st (st2 := [.int (iI f8)]) rfl ?_
                    have gk14f8 : ivh8 a0 14 = iv a0 14 := kp14f8
                    have gf8 : f8 = -1 := exf8
                    have ri30 : (-2147483648) ≤ ivh8 a0 14 ∧ ivh8 a0 14 ≤ 2147483647 := W8.int t_a0 14
                    have ri31 : 0 ≤ ivh8 (sk 23) 2 ∧ ivh8 (sk 23) 2 ≤ 512 := W8.int tsk23 2
                    have ie22 : ivh8 (sk 23) 2 = iv (sk 23) 2 := fl8.i tsk23 rfl 2
                    have ri32 : 0 ≤ ivh8 (sk 22) 2 ∧ ivh8 (sk 22) 2 ≤ 30 := W8.int tsk22 2
                    have ie23 : ivh8 (sk 22) 2 = iv (sk 22) 2 := fl8.i tsk22 rfl 2
                    have ri33 : (-2147483648) ≤ ivh8 ob1 0 ∧ ivh8 ob1 0 ≤ 2147483647 := W8.int tob1 0
                    have ie24 : ivh8 ob1 0 = iv ob1 0 := fl8.i tob1 rfl 0
                    have ri34 : 0 ≤ ivh8 (sk 2) 2 ∧ ivh8 (sk 2) 2 ≤ 3000 := W8.int tsk2 2
                    have ie25 : ivh8 (sk 2) 2 = iv (sk 2) 2 := fl8.i tsk2 rfl 2
                    exact c_iret C dX11_addRule_124 rfl (by decide) (rom0 hph hph (by decide)) ⟨f8, rfl, hX0, F5, W8, ⟨by omega, by omega⟩, ⟨(by omega), mr5⟩, (by omega), (Or.inl ⟨by omega, PSAME.fr hW hS fl8 rfl rfl rfl rfl rfl rfl rfl, (fun ss t q hs ht hq hd h => by
                        have e := ht.uni akob1.2
                        subst e
                        obtain ⟨h1, h2, h3, h4, h5, h6, h7, h8⟩ := h.1
                        first | omega | (have e1 := gf5 ss hs (by omega) (by omega); have e2 := e1.mpr (fun x q1 q2 => h.2.2 x q2); omega) | (have e1 := irxf7 ss hs (by omega) hd; have e2 := e1.mpr ⟨by omega, h.2.1⟩; omega))⟩)⟩
                  · refine c_aload (j := 0) (x := ob1) C dX11_addRule_104 rfl ?_
                    obtain ⟨rb3, rq3, trb3⟩ := hW.ref tob1 4 rfl rfl rfl
                    refine c_getr (k := 4) C ck_10 dX11_addRule_106 w2_188 (by decide) tob1 rfl rfl (by decide) rfl rq3 ?_
                    refine c_st (st2 := [.ref rb3]) rfl ?_
                    have ri35 : 0 ≤ iv rb3 2 ∧ iv rb3 2 ≤ 200 := hW.int trb3 2
                    refine d_callV (As := []) (rest := []) C hM (C_size_26 (a0 := rb3) hW hS trb3  ) dX11_addRule_109 kV_X11_183 rfl trb3 rfl rfl (by decide) ck_0 rfl (Nat.le_of_ble_eq_true rfl) ⟨(Nat.le_of_ble_eq_true rfl), (Nat.le_of_ble_eq_true rfl)⟩ hph hph (show 0 + 0 = 0 from rfl) (by decide) (fun rh9 Lh9 clh9 lnh9 ivh9 rvh9 h9 => ?_)
                    obtain ⟨f9, rfl, rfl, rfl, rfl, rfl, rfl, rgf9, exf9⟩ := h9
                    refine c_st (st2 := [.int (iI f9)]) rfl ?_
                    have gf9 : f9 = iv rb3 2 := exf9
                    refine c_sipush (z := 200) C dX11_addRule_112 (by decide) ?_
                    refine c_icmp_lt (tgt := 125) C ⟨by omega, by omega⟩ ⟨by decide, by decide⟩ dX11_addRule_115 (by decide) (fun c8 => ?_) (fun c8 => ?_)
                    · refine c_new C ck_6 dv_6 ⟨rfl, rfl⟩ rfl (by decide) dX11_addRule_125 w3_125 w3_126 w1_21 (rom2 hph hph (by decide)) (fun qn1 cln1 lnn1 ivn1 rvn1 hqn1 hcn1 hln1 hin1 hrn1 => ⟨20, (p_in (Phi.new hW hS hqn1 (fun b _ => by rw [hln1]) hrn1) (by omega)), ?_⟩)
                      refine c_g0 C (fun hg1 => ?_)
                      have hxn1 : ∀ b, b ≠ qn1 → lnn1 b = ln b := (fun b _ => by rw [hln1])
                      have W10 := hW.new (ln2 := lnn1) hqn1 (hg1 qn1 (List.mem_append_right _ List.mem_cons_self)) hcn1 hxn1 hin1 hrn1 (fun _ => ⟨(show (-2147483648 : Int) ≤ 0 by decide), (show (0 : Int) ≤ 2147483647 by decide)⟩) (Or.inl rfl) (fun q => by cases q) rfl rfl
                      have xl10 := XT.new hqn1 hcn1 hxn1
                      have X1 := hX0.trans xl10
                      have sk1 := xl10.skl hS
                      have F6 := hF0.new hX0 hqn1 hin1 hrn1
                      have mr6 := MRK.call hmr hW hS xl10 ((fT.refl (ls := [])).new (XT.refl (ln := ln)) hqn1 hin1 hrn1) rfl rfl
                      have tqn1 : ty (L ++ [qn1]) cln1 qn1 206 := ty_new hcn1
                      have h0qn1 : qn1 ∉ L := fun h => hqn1 ((hX0 qn1 h).1)
                      refine c_dup C dX11_addRule_128 rfl ?_
                      refine c_iconst C dX11_addRule_129 ?_
                      refine c_aload_n (j := 1) (x := a0) C dX11_addRule_130 rfl ?_
                      have ty1 := xl10.ty t_a0
                      have re1 : rvn1 a0 0 = rv a0 0 := (by rw [hrn1]; exact congrFun (up0_a (ne_in t_a0.1 hqn1)) _)
                      rw [rq2] at re1
                      refine c_getr (k := 0) C ck_12 dX11_addRule_131 w2_44 (by decide) ty1 rfl rfl (by decide) rfl re1 ?_
                      refine c_st (st2 := [.ref (sk 2), .int (iI 4), .ref qn1, .ref qn1]) rfl ?_
                      refine c_iconst C dX11_addRule_134 ?_
                      refine c_iload_n (j := 4) C dX11_addRule_135 rfl ?_
                      have ty2 := xl10.ty tsk2
                      have pl1 := Phi.le W10 sk1
                      refine d_callV (As := [.int (iI 0), .int (iI n)]) (rest := [.int (iI 4), .ref qn1, .ref qn1]) C hM (C_slice_65 (a0 := (sk 2)) (i := 0) (j := n) W10 sk1 ty2 ⟨by decide, by decide⟩ (by omega) (by show 0 ≤ (0 : Int) ∧ (0 : Int) ≤ 3000 ∧ 0 ≤ n - (0 : Int) ∧ n - (0 : Int) ≤ 8; omega)) dX11_addRule_136 kV_X11_190 rfl ty2 rfl rfl (by decide) ck_2 rfl (Nat.le_of_ble_eq_true rfl) ⟨(Nat.le_of_ble_eq_true rfl), (Nat.le_of_ble_eq_true rfl)⟩ hph pl1 (show 20 + 24 = 44 from rfl) (by decide) (fun rh10 Lh10 clh10 lnh10 ivh10 rvh10 h10 => ?_)
                      obtain ⟨f10, rfl, xl11, fl10, W11, rgf10, exf10⟩ := h10
                      have F7 := F6.call X1 fl10 rfl
                      have mr7 := MRK.call mr6 W10 sk1 xl11 fl10 rfl rfl
                      have ty3 := xl10.ty tsk3
                      have ty4 := xl10.ty tsk4
                      have ty5 := xl10.ty tsk5
                      have ty6 := xl10.ty tsk13
                      have ty7 := xl10.ty tsk14
                      have ty8 := xl10.ty tsk15
                      have ty9 := xl10.ty tsk16
                      have ty10 := xl10.ty tsk17
                      have ty11 := xl10.ty tsk22
                      have ty12 := xl10.ty tsk23
                      have ty13 := xl10.ty tob1
                      have ty14 := xl10.ty trb3
                      have X2 := X1.trans xl11
                      have sk2 := xl11.skl sk1
                      refine c_st (st2 := [.ref f10, .int (iI 4), .ref qn1, .ref qn1]) rfl ?_
                      have gf10 : lnh10 f10 = (n - (0 : Int)).toNat := exf10
                      refine c_aload_n (j := 1) (x := a0) C dX11_addRule_139 rfl ?_
                      have ty15 := xl11.ty ty1
                      have re2 : rvh10 a0 0 = rvn1 a0 0 := (fl10.r ty1 rfl 0)
                      rw [re1] at re2
                      refine c_getr (k := 0) C ck_12 dX11_addRule_140 w2_44 (by decide) ty15 rfl rfl (by decide) rfl re2 ?_
                      refine c_st (st2 := [.ref (sk 2), .ref f10, .int (iI 4), .ref qn1, .ref qn1]) rfl ?_
                      refine c_iload_n (j := 4) C dX11_addRule_143 rfl ?_
                      refine c_aload_n (j := 1) (x := a0) C dX11_addRule_144 rfl ?_
                      refine c_getr (k := 0) C ck_12 dX11_addRule_145 w2_44 (by decide) ty15 rfl rfl (by decide) rfl re2 ?_
                      refine c_st (st2 := [.ref (sk 2), .int (iI n), .ref (sk 2), .ref f10, .int (iI 4), .ref qn1, .ref qn1]) rfl ?_
                      have ty16 := xl11.ty ty2
                      have ri36 : 0 ≤ ivh10 (sk 2) 2 ∧ ivh10 (sk 2) 2 ≤ 3000 := W11.int ty16 2
                      have ie26 : ivh10 (sk 2) 2 = ivn1 (sk 2) 2 := fl10.i ty2 rfl 2
                      have ie27 : ivn1 (sk 2) 2 = iv (sk 2) 2 := by rw [hin1]; exact congrFun (up0_a (ne_in tsk2.1 hqn1)) _
                      refine c_get (k := 2) C ck_2 dX11_addRule_148 w1_44 (by decide) ty16 rfl rfl (by decide) rfl ?_
                      have pl2 := Phi.le W11 sk2
                      refine d_callV (As := [.int (iI n), .int (iI (ivh10 (sk 2) 2))]) (rest := [.ref f10, .int (iI 4), .ref qn1, .ref qn1]) C hM (C_slice_66 (a0 := (sk 2)) (i := n) (j := ivh10 (sk 2) 2) W11 sk2 ty16 (by omega) (by omega) (by show 0 ≤ n ∧ n ≤ 3000 ∧ 1 ≤ (ivh10 (sk 2) 2) - n ∧ (ivh10 (sk 2) 2) - n ≤ 4; omega)) dX11_addRule_151 kV_X11_190 rfl ty16 rfl rfl (by decide) ck_2 rfl (Nat.le_of_ble_eq_true rfl) ⟨(Nat.le_of_ble_eq_true rfl), (Nat.le_of_ble_eq_true rfl)⟩ hph pl2 (show 44 + 20 = 64 from rfl) (by decide) (fun rh11 Lh11 clh11 lnh11 ivh11 rvh11 h11 => ?_)
                      obtain ⟨f11, rfl, xl12, fl11, W12, rgf11, exf11⟩ := h11
                      have F8 := F7.call X2 fl11 rfl
                      have mr8 := MRK.call mr7 W11 sk2 xl12 fl11 rfl rfl
                      have ty17 := xl11.ty ty3
                      have ty18 := xl11.ty ty4
                      have ty19 := xl11.ty ty5
                      have ty20 := xl11.ty ty6
                      have ty21 := xl11.ty ty7
                      have ty22 := xl11.ty ty8
                      have ty23 := xl11.ty ty9
                      have ty24 := xl11.ty ty10
                      have ty25 := xl11.ty ty11
                      have ty26 := xl11.ty ty12
                      have ty27 := xl11.ty ty13
                      have ty28 := xl11.ty ty14
                      have ty29 := xl11.ty tqn1
                      have X3 := X2.trans xl12
                      have sk3 := xl12.skl sk2
                      refine c_st (st2 := [.ref f11, .ref f10, .int (iI 4), .ref qn1, .ref qn1]) rfl ?_
                      have gf11 : lnh11 f11 = ((ivh10 (sk 2) 2) - n).toNat := exf11
                      have ty30 := xl12.ty ty29
                      have ty31 := xl12.ty rgf10
                      have pl3 := Phi.le W12 sk3
                      refine c_callI (As := [.int (iI 4), .ref f10, .ref f11]) (rest := [.ref qn1]) C hM (Z_row (a0 := qn1) (i := 4) (a2 := f10) (a3 := f11) W12 sk3 ty30 ty31 rgf11 ⟨by decide, by decide⟩ ) dX11_addRule_154 kI_X11_194 rfl rfl (Nat.le_of_ble_eq_true rfl) ⟨(Nat.le_of_ble_eq_true rfl), (Nat.le_of_ble_eq_true rfl)⟩ (rz1 hph pl3 (by decide)) (fun rh12 Lh12 clh12 lnh12 ivh12 rvh12 h12 => ⟨64, (zk1 (by obtain ⟨_, _, _, e3, flh12x, Wh12x, _⟩ := h12; subst e3; exact Phi.frn sk3 flh12x rfl)), ?_⟩)
                      obtain ⟨rfl, rfl, rfl, rfl, fl12, W13, exf12⟩ := h12
                      have F9 := F8.call X3 fl12 rfl
                      have mr9 := MRK.call mr8 W12 sk3 XT.refl fl12 rfl rfl
                      refine c_st (st2 := [.ref qn1]) rfl ?_
                      obtain ⟨exf12x, exf12r, exf12p, exf12i, exf12j⟩ := exf12
                      have rn1 : ∀ k, ([1, 2] : List Nat).contains k = false → rvh12 qn1 k = none := fun k hk => (Eq.trans (show rvh12 qn1 k = rvh11 qn1 k from (exf12x k hk)) (Eq.trans (show rvh11 qn1 k = rvh10 qn1 k from (fl11.r ty29 rfl k)) (Eq.trans (show rvh10 qn1 k = rvn1 qn1 k from (fl10.r tqn1 rfl k)) (show rvn1 qn1 k = none from (by rw [hrn1]; exact up0_s)))))
                      refine c_retag (q := qn1) (t := 20) (by rw [ty30.2]; rfl) (fun clr1 hcr1 => ?_)
                      have ty32 := xl12.ty ty15
                      have ty33 := ty_rt ty32 hcr1 (ne_ty ty32 ty30 (by decide))
                      have ty34 := xl12.ty ty16
                      have ty35 := ty_rt ty34 hcr1 (ne_ty ty34 ty30 (by decide))
                      have ty36 := xl12.ty ty17
                      have ty37 := ty_rt ty36 hcr1 (ne_ty ty36 ty30 (by decide))
                      have ty38 := xl12.ty ty18
                      have ty39 := ty_rt ty38 hcr1 (ne_ty ty38 ty30 (by decide))
                      have ty40 := xl12.ty ty19
                      have ty41 := ty_rt ty40 hcr1 (ne_ty ty40 ty30 (by decide))
                      have ty42 := xl12.ty ty20
                      have ty43 := ty_rt ty42 hcr1 (ne_ty ty42 ty30 (by decide))
                      have ty44 := xl12.ty ty21
                      have ty45 := ty_rt ty44 hcr1 (ne_ty ty44 ty30 (by decide))
                      have ty46 := xl12.ty ty22
                      have ty47 := ty_rt ty46 hcr1 (ne_ty ty46 ty30 (by decide))
                      have ty48 := xl12.ty ty23
                      have ty49 := ty_rt ty48 hcr1 (ne_ty ty48 ty30 (by decide))
                      have ty50 := xl12.ty ty24
                      have ty51 := ty_rt ty50 hcr1 (ne_ty ty50 ty30 (by decide))
                      have ty52 := xl12.ty ty25
                      have ty53 := ty_rt ty52 hcr1 (ne_ty ty52 ty30 (by decide))
                      have ty54 := xl12.ty ty26
                      have ty55 := ty_rt ty54 hcr1 (ne_ty ty54 ty30 (by decide))
                      have ty56 := xl12.ty ty27
                      have ty57 := ty_rt ty56 hcr1 (ne_ty ty56 ty30 (by decide))
                      have ty58 := xl12.ty ty28
                      have ty59 := ty_rt ty58 hcr1 (ne_ty ty58 ty30 (by decide))
                      have ty60 := ty_rt ty31 hcr1 (ne_ty ty31 ty30 (by decide))
                      have ty61 := ty_rt rgf11 hcr1 (ne_ty rgf11 ty30 (by decide))
                      have tqr1 : ty Lh11 clr1 qn1 20 := ⟨ty30.1, by rw [hcr1, va_up_self]; rfl⟩
                      have W14 := W13.retag ty30.1 (by rw [ty30.2]; rfl) hcr1 (fun k => by
                            rcases k with _ | _ | _ | _ | k
                            · exact W13.int ty30 0
                            · exact W13.int ty30 1
                            · exact W13.int ty30 2
                            · exact W13.int ty30 3
                            · exact W13.int ty30 (k + 4)) (fun k => by
                            rcases k with _ | _ | _ | _ | k
                            · rw [rn1 0 (by decide)]; exact rok_none tqr1 rfl
                            · rw [exf12r]; exact rok_some tqr1 ty60 rfl (by decide) rfl
                            · rw [exf12p]; exact rok_some tqr1 ty61 rfl (by decide) rfl
                            · rw [rn1 3 (by decide)]; exact rok_none tqr1 rfl
                            · rw [rn1 (k + 4) (by simp)]; exact rok_none tqr1 rfl) rfl (fun z => by cases z) (fun z => by cases z) rfl
                      have X4 := X3.rt hcr1 h0qn1
                      have sk4 := sk3.rt hcr1 (by rw [ty30.2]; rfl)
                      have mr10 := MRK.rt mr9 W13 sk3 hcr1 (by rw [ty30.2]; rfl)
                      have on1 := fun b hb => xl10.ty (rgf1 b hb)
                      have on2 := fun b hb => xl11.ty (on1 b hb)
                      have on3 := fun b hb => xl12.ty (on2 b hb)
                      have on4 := fun b hb => ty_rt (on3 b hb) hcr1 (ne_ty (on3 b hb) ty30 (by decide))
                      refine c_astore (lv2 := [(5, .ref qn1), (4, .ref ob1), (0, .ref a0), (1, .int (iI i)), (2, .int (iI cnd)), (3, .int (iI n))]) C dX11_addRule_157 (by decide) rfl ?_
                      refine c_aload (j := 0) (x := qn1) C dX11_addRule_159 rfl ?_
                      refine c_iload_n (j := 4) C dX11_addRule_161 rfl ?_
                      refine c_put (z := cnd) (k := 3) C ck_6 dX11_addRule_162 w3_149 (by decide) rfl tqr1 rfl rfl (by decide) rfl (by rfl) (by rfl) (fun iv1 pq1 => ?_)
                      have W15 := W14.puti pq1 tqr1 (show (-2147483648) ≤ cnd ∧ cnd ≤ 2147483647 by omega) rfl
                      have F10 := F9.puti X4 pq1 tqr1 rfl
                      have mr11 := MRK.puti mr10 sk4 pq1 tqr1 (by decide)
                      refine c_aload (j := 1) (x := ob1) C dX11_addRule_165 rfl ?_
                      refine c_aload (j := 0) (x := qn1) C dX11_addRule_167 rfl ?_
                      have re3 : rvn1 ob1 4 = rv ob1 4 := (by rw [hrn1]; exact congrFun (up0_a (ne_in tob1.1 hqn1)) _)
                      rw [rq3] at re3
                      have re4 : rvh10 ob1 4 = rvn1 ob1 4 := (fl10.r ty13 rfl 4)
                      rw [re3] at re4
                      have re5 : rvh11 ob1 4 = rvh10 ob1 4 := (fl11.r ty27 rfl 4)
                      rw [re4] at re5
                      have re6 : rvh12 ob1 4 = rvh11 ob1 4 := (fl12.r ty56 rfl 4)
                      rw [re5] at re6
                      have ri37 : 0 ≤ iv1 rb3 2 ∧ iv1 rb3 2 ≤ 200 := W15.int ty59 2
                      have ie28 : iv1 rb3 2 = ivh12 rb3 2 := by rw [pq1]; exact up2_k (ne_ty ty59 tqr1 (by decide))
                      have ie29 : ivh12 rb3 2 = ivh11 rb3 2 := fl12.i ty58 rfl 2
                      have ie30 : ivh11 rb3 2 = ivh10 rb3 2 := fl11.i ty28 rfl 2
                      have ie31 : ivh10 rb3 2 = ivn1 rb3 2 := fl10.i ty14 rfl 2
                      have ie32 : ivn1 rb3 2 = iv rb3 2 := by rw [hin1]; exact congrFun (up0_a (ne_in trb3.1 hqn1)) _
                      have pl4 := Phi.le W15 sk4
                      refine d_callV (As := [.ref qn1]) (rest := []) C hM (C_append (a0 := ob1) (a1 := qn1) W15 sk4 ty57 tqr1  (fun b hb => by rw [re6] at hb; cases hb; omega)) dX11_addRule_169 kV_X11_200 rfl ty57 rfl rfl (by decide) ck_10 rfl (Nat.le_of_ble_eq_true rfl) ⟨(Nat.le_of_ble_eq_true rfl), (Nat.le_of_ble_eq_true rfl)⟩ hph pl4 (show 64 + 1020 = 1084 from rfl) (by decide) (fun rh13 Lh13 clh13 lnh13 ivh13 rvh13 h13 => ?_)
                      obtain ⟨rfl, xl14, fl13, W16, exf13, apxf13⟩ := h13
                      have F11 := F10.call X4 fl13 rfl
                      have mr12 := MRK.call mr11 W15 sk4 xl14 fl13 rfl rfl
                      have X5 := X4.trans xl14
                      have sk5 := xl14.skl sk4
                      refine c_st (st2 := []) rfl ?_
                      have ty62 := xl14.ty ty59
                      have ri38 : 0 ≤ ivh13 rb3 2 ∧ ivh13 rb3 2 ≤ 200 := W16.int ty62 2
                      have aq9 := (apxf13 _ re6).1
                      refine c_aload_n (j := 2) (x := a0) C dX11_addRule_172 rfl ?_
                      have ty63 := xl14.ty ty33
                      have re7 : rvn1 a0 4 = rv a0 4 := (by rw [hrn1]; exact congrFun (up0_a (ne_in t_a0.1 hqn1)) _)
                      rw [rq1] at re7
                      have re8 : rvh10 a0 4 = rvn1 a0 4 := (fl10.r ty1 rfl 4)
                      rw [re7] at re8
                      have re9 : rvh11 a0 4 = rvh10 a0 4 := (fl11.r ty15 rfl 4)
                      rw [re8] at re9
                      have re10 : rvh12 a0 4 = rvh11 a0 4 := (fl12.r ty32 rfl 4)
                      rw [re9] at re10
                      have re11 : rvh13 a0 4 = rvh12 a0 4 := (fl13.r ty33 rfl 4)
                      rw [re10] at re11
                      refine c_getr (k := 4) C ck_12 dX11_addRule_173 w2_48 (by decide) ty63 rfl rfl (by decide) rfl re11 ?_
                      refine c_st (st2 := [.ref (sk 13)]) rfl ?_
                      have ty64 := xl14.ty ty35
                      have ty65 := xl14.ty ty37
                      have ty66 := xl14.ty ty39
                      have ty67 := xl14.ty ty41
                      have ty68 := xl14.ty ty43
                      have ty69 := xl14.ty ty45
                      have ty70 := xl14.ty ty47
                      have ty71 := xl14.ty ty49
                      have ty72 := xl14.ty ty51
                      have ty73 := xl14.ty ty53
                      have ty74 := xl14.ty ty55
                      have ty75 := xl14.ty ty57
                      have ty76 := xl14.ty tqr1
                      have ty77 := xl14.ty ty60
                      have ty78 := xl14.ty ty61
                      have pl5 := Phi.le W16 sk5
                      refine c_new C ck_1 dv_1 ⟨rfl, rfl⟩ rfl (by decide) dX11_addRule_176 w3_98 w3_35 w1_18 (rom2 hph pl5 (by decide)) (fun qn2 cln2 lnn2 ivn2 rvn2 hqn2 hcn2 hln2 hin2 hrn2 => ⟨1104, (p_in (Phi.new W16 sk5 hqn2 (fun b _ => by rw [hln2]) hrn2) (by omega)), ?_⟩)
                      refine c_g0 C (fun hg2 => ?_)
                      have hxn2 : ∀ b, b ≠ qn2 → lnn2 b = lnh13 b := (fun b _ => by rw [hln2])
                      have W17 := W16.new (ln2 := lnn2) hqn2 (hg2 qn2 (List.mem_append_right _ List.mem_cons_self)) hcn2 hxn2 hin2 hrn2 (fun _ => ⟨(show (-2147483648 : Int) ≤ 0 by decide), (show (0 : Int) ≤ 2147483647 by decide)⟩) (Or.inl rfl) (fun q => by cases q) rfl rfl
                      have xl15 := XT.new hqn2 hcn2 hxn2
                      have X6 := X5.trans xl15
                      have sk6 := xl15.skl sk5
                      have F12 := F11.new X5 hqn2 hin2 hrn2
                      have mr13 := MRK.call mr12 W16 sk5 xl15 ((fT.refl (ls := [])).new (XT.refl (ln := lnh13)) hqn2 hin2 hrn2) rfl rfl
                      have tqn2 : ty (Lh13 ++ [qn2]) cln2 qn2 201 := ty_new hcn2
                      have h0qn2 : qn2 ∉ L := fun h => hqn2 ((X5 qn2 h).1)
                      refine c_dup C dX11_addRule_179 rfl ?_
                      refine c_iconst C dX11_addRule_180 ?_
                      refine c_aload (j := 1) (x := ob1) C dX11_addRule_181 rfl ?_
                      refine c_aload (j := 0) (x := qn1) C dX11_addRule_183 rfl ?_
                      refine c_iconst C dX11_addRule_185 ?_
                      have ty79 := xl15.ty ty75
                      have ty80 := xl15.ty ty76
                      have pl6 := Phi.le W17 sk6
                      refine c_callI (As := [.int (iI 2), .ref ob1, .ref qn1, .int (iI 0)]) (rest := [.ref qn2, .ref (sk 13)]) C hM (Z_change (a0 := qn2) (i := 2) (a2 := ob1) (r := (some qn1)) (n := 0) W17 sk6 tqn2 ty79 (fun _ q => by cases q; exact ty80) ⟨by decide, by decide⟩ ⟨by decide, by decide⟩ ) dX11_addRule_186 kI_X11_149 rfl rfl (Nat.le_of_ble_eq_true rfl) ⟨(Nat.le_of_ble_eq_true rfl), (Nat.le_of_ble_eq_true rfl)⟩ (rz1 hph pl6 (by decide)) (fun rh14 Lh14 clh14 lnh14 ivh14 rvh14 h14 => ⟨1104, (zk1 (by obtain ⟨_, _, _, e3, flh14x, Wh14x, _⟩ := h14; subst e3; exact Phi.frn sk6 flh14x rfl)), ?_⟩)
                      obtain ⟨rfl, rfl, rfl, rfl, fl14, W18, exf14⟩ := h14
                      have F13 := F12.call X6 fl14 rfl
                      have mr14 := MRK.call mr13 W17 sk6 XT.refl fl14 rfl rfl
                      refine c_st (st2 := [.ref qn2, .ref (sk 13)]) rfl ?_
                      obtain ⟨exf14x, exf14r, exf14p, exf14i, exf14j⟩ := exf14
                      have rn2 : ∀ k, ([1, 2] : List Nat).contains k = false → rvh14 qn2 k = none := fun k hk => (Eq.trans (show rvh14 qn2 k = rvn2 qn2 k from (exf14x k hk)) (show rvn2 qn2 k = none from (by rw [hrn2]; exact up0_s)))
                      refine c_retag (q := qn2) (t := 21) (by rw [tqn2.2]; rfl) (fun clr2 hcr2 => ?_)
                      have ty81 := xl15.ty ty63
                      have ty82 := ty_rt ty81 hcr2 (ne_ty ty81 tqn2 (by decide))
                      have ty83 := xl15.ty ty64
                      have ty84 := ty_rt ty83 hcr2 (ne_ty ty83 tqn2 (by decide))
                      have ty85 := xl15.ty ty65
                      have ty86 := ty_rt ty85 hcr2 (ne_ty ty85 tqn2 (by decide))
                      have ty87 := xl15.ty ty66
                      have ty88 := ty_rt ty87 hcr2 (ne_ty ty87 tqn2 (by decide))
                      have ty89 := xl15.ty ty67
                      have ty90 := ty_rt ty89 hcr2 (ne_ty ty89 tqn2 (by decide))
                      have ty91 := xl15.ty ty68
                      have ty92 := ty_rt ty91 hcr2 (ne_ty ty91 tqn2 (by decide))
                      have ty93 := xl15.ty ty69
                      have ty94 := ty_rt ty93 hcr2 (ne_ty ty93 tqn2 (by decide))
                      have ty95 := xl15.ty ty70
                      have ty96 := ty_rt ty95 hcr2 (ne_ty ty95 tqn2 (by decide))
                      have ty97 := xl15.ty ty71
                      have ty98 := ty_rt ty97 hcr2 (ne_ty ty97 tqn2 (by decide))
                      have ty99 := xl15.ty ty72
                      have ty100 := ty_rt ty99 hcr2 (ne_ty ty99 tqn2 (by decide))
                      have ty101 := xl15.ty ty73
                      have ty102 := ty_rt ty101 hcr2 (ne_ty ty101 tqn2 (by decide))
                      have ty103 := xl15.ty ty74
                      have ty104 := ty_rt ty103 hcr2 (ne_ty ty103 tqn2 (by decide))
                      have ty105 := ty_rt ty79 hcr2 (ne_ty ty79 tqn2 (by decide))
                      have ty106 := xl15.ty ty62
                      have ty107 := ty_rt ty106 hcr2 (ne_ty ty106 tqn2 (by decide))
                      have ty108 := ty_rt ty80 hcr2 (ne_ty ty80 tqn2 (by decide))
                      have ty109 := xl15.ty ty77
                      have ty110 := ty_rt ty109 hcr2 (ne_ty ty109 tqn2 (by decide))
                      have ty111 := xl15.ty ty78
                      have ty112 := ty_rt ty111 hcr2 (ne_ty ty111 tqn2 (by decide))
                      have tqr2 : ty (Lh13 ++ [qn2]) clr2 qn2 21 := ⟨tqn2.1, by rw [hcr2, va_up_self]; rfl⟩
                      have W19 := W18.retag tqn2.1 (by rw [tqn2.2]; rfl) hcr2 (fun k => by
                            rcases k with _ | _ | _ | _ | k
                            · exact W18.int tqn2 0
                            · exact W18.int tqn2 1
                            · exact W18.int tqn2 2
                            · exact W18.int tqn2 3
                            · exact W18.int tqn2 (k + 4)) (fun k => by
                            rcases k with _ | _ | _ | _ | k
                            · rw [rn2 0 (by decide)]; exact rok_none tqr2 rfl
                            · rw [exf14r]; exact rok_some tqr2 ty105 rfl (by decide) rfl
                            · rw [exf14p]; exact rok_ch tqr2 (fun _ q => by cases q; exact ty108)
                            · rw [rn2 3 (by decide)]; exact rok_none tqr2 rfl
                            · rw [rn2 (k + 4) (by simp)]; exact rok_none tqr2 rfl) rfl (fun z => by cases z) (fun z => by cases z) rfl
                      have X7 := X6.rt hcr2 h0qn2
                      have sk7 := sk6.rt hcr2 (by rw [tqn2.2]; rfl)
                      have mr15 := MRK.rt mr14 W18 sk6 hcr2 (by rw [tqn2.2]; rfl)
                      have on5 := fun b hb => xl14.ty (on4 b hb)
                      have on6 := fun b hb => xl15.ty (on5 b hb)
                      have on7 := fun b hb => ty_rt (on6 b hb) hcr2 (ne_ty (on6 b hb) tqn2 (by decide))
                      have ce1 : ∀ i : Nat, (i : Int) < iv (sk 23) 2 → el rvh14 (sk 23) i = el rv (sk 23) i := (fun i hi => el_ch hW (tysk23 hS) rfl rfl ((show ∀ bb, ty L cl bb 23 → rvh14 bb 1 = rv bb 1 from fun bb tbb => by have tb1 := xl10.ty tbb; have tb2 := xl11.ty tb1; have tb3 := xl12.ty tb2; have tb4 := ty_rt tb3 hcr1 (ne_ty tb3 ty30 (by decide)); have tb5 := xl14.ty tb4; have tb6 := xl15.ty tb5; exact (Eq.trans (show rvh14 bb 1 = rvn2 bb 1 from (fl14.r tb6 rfl 1)) (Eq.trans (show rvn2 bb 1 = rvh13 bb 1 from (by rw [hrn2]; exact congrFun (up0_a (ne_in tb5.1 hqn2)) _)) (Eq.trans (show rvh13 bb 1 = rvh12 bb 1 from (fl13.r tb4 rfl 1)) (Eq.trans (show rvh12 bb 1 = rvh11 bb 1 from (fl12.r tb3 rfl 1)) (Eq.trans (show rvh11 bb 1 = rvh10 bb 1 from (fl11.r tb2 rfl 1)) (Eq.trans (show rvh10 bb 1 = rvn1 bb 1 from (fl10.r tb1 rfl 1)) (show rvn1 bb 1 = rv bb 1 from (by rw [hrn1]; exact congrFun (up0_a (ne_in tbb.1 hqn1)) _))))))))) (sk 23) (tysk23 hS)) (fun bb tbb kk => by have tb1 := xl10.ty tbb; have tb2 := xl11.ty tb1; have tb3 := xl12.ty tb2; have tb4 := ty_rt tb3 hcr1 (ne_ty tb3 ty30 (by decide)); have tb5 := xl14.ty tb4; have tb6 := xl15.ty tb5; exact (Eq.trans (show rvh14 bb kk = rvn2 bb kk from (fl14.r tb6 rfl kk)) (Eq.trans (show rvn2 bb kk = rvh13 bb kk from (by rw [hrn2]; exact congrFun (up0_a (ne_in tb5.1 hqn2)) _)) (Eq.trans (show rvh13 bb kk = rvh12 bb kk from (fl13.r tb4 rfl kk)) (Eq.trans (show rvh12 bb kk = rvh11 bb kk from (fl12.r tb3 rfl kk)) (Eq.trans (show rvh11 bb kk = rvh10 bb kk from (fl11.r tb2 rfl kk)) (Eq.trans (show rvh10 bb kk = rvn1 bb kk from (fl10.r tb1 rfl kk)) (show rvn1 bb kk = rv bb kk from (by rw [hrn1]; exact congrFun (up0_a (ne_in tbb.1 hqn1)) _))))))))) hi)
                      have ri39 : 0 ≤ ivh14 (sk 23) 2 ∧ ivh14 (sk 23) 2 ≤ 512 := W19.int ty104 2
                      have ie34 : ivh14 (sk 23) 2 = ivn2 (sk 23) 2 := fl14.i ty103 rfl 2
                      have ie35 : ivn2 (sk 23) 2 = ivh13 (sk 23) 2 := by rw [hin2]; exact congrFun (up0_a (ne_in ty74.1 hqn2)) _
                      have ie36 : ivh13 (sk 23) 2 = iv1 (sk 23) 2 := fl13.i ty55 rfl 2
                      have ie37 : iv1 (sk 23) 2 = ivh12 (sk 23) 2 := by rw [pq1]; exact up2_k (ne_ty ty55 tqr1 (by decide))
                      have ie38 : ivh12 (sk 23) 2 = ivh11 (sk 23) 2 := fl12.i ty54 rfl 2
                      have ie39 : ivh11 (sk 23) 2 = ivh10 (sk 23) 2 := fl11.i ty26 rfl 2
                      have ie40 : ivh10 (sk 23) 2 = ivn1 (sk 23) 2 := fl10.i ty12 rfl 2
                      have ie41 : ivn1 (sk 23) 2 = iv (sk 23) 2 := by rw [hin1]; exact congrFun (up0_a (ne_in tsk23.1 hqn1)) _
                      have pl7 := Phi.le W19 sk7
                      refine d_callV (As := [.ref qn2]) (rest := []) C hM (C_remember (a0 := (sk 13)) (a1 := qn2) W19 sk7 ty92 tqr2  (by show ivh14 (sk 23) 2 < 512; omega)) dX11_addRule_189 kV_X11_152 rfl ty92 rfl rfl (by decide) ck_11 rfl (Nat.le_of_ble_eq_true rfl) ⟨(Nat.le_of_ble_eq_true rfl), (Nat.le_of_ble_eq_true rfl)⟩ hph pl7 (show 1104 + 1216 = 2320 from rfl) (by decide) (fun rh15 Lh15 clh15 lnh15 ivh15 rvh15 h15 => ?_)
                      obtain ⟨rfl, xl17, fl15, W20, exf15, rmef15⟩ := h15
                      have F14 := F13.call X7 fl15 rfl
                      have mr16 := MRK.call mr15 W19 sk7 xl17 fl15 rfl rfl
                      have X8 := X7.trans xl17
                      have sk8 := xl17.skl sk7
                      refine c_st (st2 := []) rfl ?_
                      have ty113 := xl17.ty ty104
                      have ri40 : 0 ≤ ivh15 (sk 23) 2 ∧ ivh15 (sk 23) 2 ≤ 512 := W20.int ty113 2
                      have gf15 : ivh15 (sk 23) 2 = ivh14 (sk 23) 2 + 1 := exf15
                      refine c_aload_n (j := 2) (x := a0) C dX11_addRule_192 rfl ?_
                      refine c_aload (j := 1) (x := ob1) C dX11_addRule_193 rfl ?_
                      have ty114 := xl17.ty ty105
                      have re12 : rvh13 ob1 4 = rvh12 ob1 4 := (fl13.r ty57 rfl 4)
                      rw [re6] at re12
                      have re13 : rvn2 ob1 4 = rvh13 ob1 4 := (by rw [hrn2]; exact congrFun (up0_a (ne_in ty75.1 hqn2)) _)
                      rw [re12] at re13
                      have re14 : rvh14 ob1 4 = rvn2 ob1 4 := (fl14.r ty79 rfl 4)
                      rw [re13] at re14
                      have re15 : rvh15 ob1 4 = rvh14 ob1 4 := (fl15.r ty105 rfl 4)
                      rw [re14] at re15
                      refine c_getr (k := 4) C ck_10 dX11_addRule_195 w2_188 (by decide) ty114 rfl rfl (by decide) rfl re15 ?_
                      refine c_st (st2 := [.ref rb3, .ref a0]) rfl ?_
                      have ty115 := xl17.ty ty107
                      have ri41 : 0 ≤ ivh15 rb3 2 ∧ ivh15 rb3 2 ≤ 200 := W20.int ty115 2
                      have ie43 : ivh15 rb3 2 = ivh14 rb3 2 := fl15.i ty107 rfl 2
                      have ie44 : ivh14 rb3 2 = ivn2 rb3 2 := fl14.i ty106 rfl 2
                      have ie45 : ivn2 rb3 2 = ivh13 rb3 2 := by rw [hin2]; exact congrFun (up0_a (ne_in ty62.1 hqn2)) _
                      have pl8 := Phi.le W20 sk8
                      refine d_callV (As := []) (rest := [.ref a0]) C hM (C_size_26 (a0 := rb3) W20 sk8 ty115  ) dX11_addRule_198 kV_X11_183 rfl ty115 rfl rfl (by decide) ck_0 rfl (Nat.le_of_ble_eq_true rfl) ⟨(Nat.le_of_ble_eq_true rfl), (Nat.le_of_ble_eq_true rfl)⟩ hph pl8 (show 2320 + 0 = 2320 from rfl) (by decide) (fun rh16 Lh16 clh16 lnh16 ivh16 rvh16 h16 => ?_)
                      obtain ⟨f16, rfl, rfl, rfl, rfl, rfl, rfl, rgf16, exf16⟩ := h16
                      refine c_st (st2 := [.int (iI f16), .ref a0]) rfl ?_
                      have gf16 : f16 = ivh15 rb3 2 := exf16
                      refine c_iconst C dX11_addRule_201 ?_
                      refine c_isub C dX11_addRule_202 ?_
                      have ty116 := xl17.ty ty82
                      refine d_callV (As := [.int (iI (f16 - 1))]) (rest := []) C hM (C_done (a0 := a0) (x := f16 - 1) W20 sk8 ty116 (by omega) ) dX11_addRule_203 kV_X11_109 rfl ty116 rfl rfl (by decide) ck_12 rfl (Nat.le_of_ble_eq_true rfl) ⟨(Nat.le_of_ble_eq_true rfl), (Nat.le_of_ble_eq_true rfl)⟩ hph pl8 (show 2320 + 0 = 2320 from rfl) (by decide) (fun rh17 Lh17 clh17 lnh17 ivh17 rvh17 h17 => ?_)
                      obtain ⟨f17, rfl, rfl, rfl, rfl, rfl, fl17, W22, rgf17, exf17, kp14f17⟩ := h17
                      have ri42 : (-2147483648) ≤ ivh15 a0 14 ∧ ivh15 a0 14 ≤ 2147483647 := W20.int ty116 14
                      have ie46 : ivh15 a0 14 = ivh14 a0 14 := fl15.i ty82 rfl 14
                      have ie47 : ivh14 a0 14 = ivn2 a0 14 := fl14.i ty81 rfl 14
                      have ie48 : ivn2 a0 14 = ivh13 a0 14 := by rw [hin2]; exact congrFun (up0_a (ne_in ty63.1 hqn2)) _
                      have ie49 : ivh13 a0 14 = iv1 a0 14 := fl13.i ty33 rfl 14
                      have ie50 : iv1 a0 14 = ivh12 a0 14 := by rw [pq1]; exact up2_k (ne_ty ty33 tqr1 (by decide))
                      have ie51 : ivh12 a0 14 = ivh11 a0 14 := fl12.i ty32 rfl 14
                      have ie52 : ivh11 a0 14 = ivh10 a0 14 := fl11.i ty15 rfl 14
                      have ie53 : ivh10 a0 14 = ivn1 a0 14 := fl10.i ty1 rfl 14
                      have ie54 : ivn1 a0 14 = iv a0 14 := by rw [hin1]; exact congrFun (up0_a (ne_in t_a0.1 hqn1)) _
                      have F15 := F14.call X8 fl17 rfl
                      have mr17 := MRK.call mr16 W20 sk8 XT.refl fl17 rfl rfl
                      refine c_st (st2 := [.int (iI f17)]) rfl ?_
                      have gk14f17 : ivh17 a0 14 = ivh15 a0 14 := kp14f17
                      have gf17 : f17 = (f16 - 1) := exf17
                      have ri43 : (-2147483648) ≤ ivh17 a0 14 ∧ ivh17 a0 14 ≤ 2147483647 := W22.int ty116 14
                      have ri44 : 0 ≤ ivh17 (sk 23) 2 ∧ ivh17 (sk 23) 2 ≤ 512 := W22.int ty113 2
                      have ie56 : ivh17 (sk 23) 2 = ivh15 (sk 23) 2 := fl17.i ty113 rfl 2
                      have ty117 := xl17.ty ty102
                      have ri45 : 0 ≤ ivh17 (sk 22) 2 ∧ ivh17 (sk 22) 2 ≤ 30 := W22.int ty117 2
                      have ie57 : ivh17 (sk 22) 2 = ivh15 (sk 22) 2 := fl17.i ty117 rfl 2
                      have ie58 : ivh15 (sk 22) 2 = ivh14 (sk 22) 2 := fl15.i ty102 rfl 2
                      have ie59 : ivh14 (sk 22) 2 = ivn2 (sk 22) 2 := fl14.i ty101 rfl 2
                      have ie60 : ivn2 (sk 22) 2 = ivh13 (sk 22) 2 := by rw [hin2]; exact congrFun (up0_a (ne_in ty73.1 hqn2)) _
                      have ie61 : ivh13 (sk 22) 2 = iv1 (sk 22) 2 := fl13.i ty53 rfl 2
                      have ie62 : iv1 (sk 22) 2 = ivh12 (sk 22) 2 := by rw [pq1]; exact up2_k (ne_ty ty53 tqr1 (by decide))
                      have ie63 : ivh12 (sk 22) 2 = ivh11 (sk 22) 2 := fl12.i ty52 rfl 2
                      have ie64 : ivh11 (sk 22) 2 = ivh10 (sk 22) 2 := fl11.i ty25 rfl 2
                      have ie65 : ivh10 (sk 22) 2 = ivn1 (sk 22) 2 := fl10.i ty11 rfl 2
                      have ie66 : ivn1 (sk 22) 2 = iv (sk 22) 2 := by rw [hin1]; exact congrFun (up0_a (ne_in tsk22.1 hqn1)) _
                      have ri46 : 0 ≤ ivh17 rb3 2 ∧ ivh17 rb3 2 ≤ 200 := W22.int ty115 2
                      have ie67 : ivh17 rb3 2 = ivh15 rb3 2 := fl17.i ty115 rfl 2
                      have ty118 := xl17.ty tqr2
                      have ri47 : (-2147483648) ≤ ivh17 qn2 0 ∧ ivh17 qn2 0 ≤ 2147483647 := W22.int ty118 0
                      have ie68 : ivh17 qn2 0 = ivh15 qn2 0 := fl17.i ty118 rfl 0
                      have ie69 : ivh15 qn2 0 = ivh14 qn2 0 := fl15.i tqr2 rfl 0
                      have re16 : rvh15 qn2 1 = rvh14 qn2 1 := (fl15.r tqr2 rfl 1)
                      rw [exf14r] at re16
                      exact c_iret C dX11_addRule_206 rfl (by decide) (rom0 hph pl8 (by decide)) ⟨f17, rfl, X8, F15, W22, ⟨by omega, by omega⟩, ⟨(by omega), mr17⟩, (by omega), (Or.inr ⟨ob1, rb3, akob1.2, rq3, by omega, (fun ss hs hd => by
                          have e1 := gf5 ss hs (by omega) (by omega)
                          have e2 := irxf7 ss hs (by omega) hd
                          have e3 := e2.mp (by omega)
                          exact ⟨⟨by omega, by omega, by omega, by omega, by omega, by omega, by omega, by omega⟩, e3.2, fun x hx => e1.mp (by omega) x (by omega) hx⟩), by omega, ⟨(fun i hi => el_fr hW (tysk22 hS) rfl rfl F15 rfl rfl hi), TSF.of hW hS (fun bb tbb hbb => by have tb1 := xl10.ty tbb; have tb2 := xl11.ty tb1; have tb3 := xl12.ty tb2; have tb4 := ty_rt tb3 hcr1 (ne_ty tb3 ty30 (by decide)); have tb5 := xl14.ty tb4; have tb6 := xl15.ty tb5; have tb7 := ty_rt tb6 hcr2 (ne_ty tb6 tqn2 (by decide)); have tb8 := xl17.ty tb7; exact (Eq.trans (show ivh17 bb 7 = ivh15 bb 7 from (fl17.i tb8 rfl 7)) (Eq.trans (show ivh15 bb 7 = ivh14 bb 7 from (fl15.i tb7 rfl 7)) (Eq.trans (show ivh14 bb 7 = ivn2 bb 7 from (fl14.i tb6 rfl 7)) (Eq.trans (show ivn2 bb 7 = ivh13 bb 7 from (by rw [hin2]; exact congrFun (up0_a (ne_in tb5.1 hqn2)) _)) (Eq.trans (show ivh13 bb 7 = iv1 bb 7 from (fl13.i tb4 rfl 7)) (Eq.trans (show iv1 bb 7 = ivh12 bb 7 from (by rw [pq1]; exact up2_k (ne_ty tb4 tqr1 (by decide)))) (Eq.trans (show ivh12 bb 7 = ivh11 bb 7 from (fl12.i tb3 rfl 7)) (Eq.trans (show ivh11 bb 7 = ivh10 bb 7 from (fl11.i tb2 rfl 7)) (Eq.trans (show ivh10 bb 7 = ivn1 bb 7 from (fl10.i tb1 rfl 7)) (show ivn1 bb 7 = iv bb 7 from (by rw [hin1]; exact congrFun (up0_a (ne_in tbb.1 hqn1)) _)))))))))))) (fun bb tbb => by have tb1 := xl10.ty tbb; have tb2 := xl11.ty tb1; have tb3 := xl12.ty tb2; have tb4 := ty_rt tb3 hcr1 (ne_ty tb3 ty30 (by decide)); have tb5 := xl14.ty tb4; have tb6 := xl15.ty tb5; have tb7 := ty_rt tb6 hcr2 (ne_ty tb6 tqn2 (by decide)); have tb8 := xl17.ty tb7; exact (Eq.trans (show ivh17 bb 0 = ivh15 bb 0 from (fl17.i tb8 rfl 0)) (Eq.trans (show ivh15 bb 0 = ivh14 bb 0 from (fl15.i tb7 rfl 0)) (Eq.trans (show ivh14 bb 0 = ivn2 bb 0 from (fl14.i tb6 rfl 0)) (Eq.trans (show ivn2 bb 0 = ivh13 bb 0 from (by rw [hin2]; exact congrFun (up0_a (ne_in tb5.1 hqn2)) _)) (Eq.trans (show ivh13 bb 0 = iv1 bb 0 from (fl13.i tb4 rfl 0)) (Eq.trans (show iv1 bb 0 = ivh12 bb 0 from (by rw [pq1]; exact up2_k (ne_ty tb4 tqr1 (by decide)))) (Eq.trans (show ivh12 bb 0 = ivh11 bb 0 from (fl12.i tb3 rfl 0)) (Eq.trans (show ivh11 bb 0 = ivh10 bb 0 from (fl11.i tb2 rfl 0)) (Eq.trans (show ivh10 bb 0 = ivn1 bb 0 from (fl10.i tb1 rfl 0)) (show ivn1 bb 0 = iv bb 0 from (by rw [hin1]; exact congrFun (up0_a (ne_in tbb.1 hqn1)) _)))))))))))) (fun bb tbb => by have tb1 := xl10.ty tbb; have tb2 := xl11.ty tb1; have tb3 := xl12.ty tb2; have tb4 := ty_rt tb3 hcr1 (ne_ty tb3 ty30 (by decide)); have tb5 := xl14.ty tb4; have tb6 := xl15.ty tb5; have tb7 := ty_rt tb6 hcr2 (ne_ty tb6 tqn2 (by decide)); have tb8 := xl17.ty tb7; exact (Eq.trans (show ivh17 bb 1 = ivh15 bb 1 from (fl17.i tb8 rfl 1)) (Eq.trans (show ivh15 bb 1 = ivh14 bb 1 from (fl15.i tb7 rfl 1)) (Eq.trans (show ivh14 bb 1 = ivn2 bb 1 from (fl14.i tb6 rfl 1)) (Eq.trans (show ivn2 bb 1 = ivh13 bb 1 from (by rw [hin2]; exact congrFun (up0_a (ne_in tb5.1 hqn2)) _)) (Eq.trans (show ivh13 bb 1 = iv1 bb 1 from (fl13.i tb4 rfl 1)) (Eq.trans (show iv1 bb 1 = ivh12 bb 1 from (by rw [pq1]; exact up2_k (ne_ty tb4 tqr1 (by decide)))) (Eq.trans (show ivh12 bb 1 = ivh11 bb 1 from (fl12.i tb3 rfl 1)) (Eq.trans (show ivh11 bb 1 = ivh10 bb 1 from (fl11.i tb2 rfl 1)) (Eq.trans (show ivh10 bb 1 = ivn1 bb 1 from (fl10.i tb1 rfl 1)) (show ivn1 bb 1 = iv bb 1 from (by rw [hin1]; exact congrFun (up0_a (ne_in tbb.1 hqn1)) _)))))))))))) (fun bb tbb => by have tb1 := xl10.ty tbb; have tb2 := xl11.ty tb1; have tb3 := xl12.ty tb2; have tb4 := ty_rt tb3 hcr1 (ne_ty tb3 ty30 (by decide)); have tb5 := xl14.ty tb4; have tb6 := xl15.ty tb5; have tb7 := ty_rt tb6 hcr2 (ne_ty tb6 tqn2 (by decide)); exact (Eq.trans (show rvh15 bb 4 = rvh14 bb 4 from (fl15.r tb7 rfl 4)) (Eq.trans (show rvh14 bb 4 = rvn2 bb 4 from (fl14.r tb6 rfl 4)) (Eq.trans (show rvn2 bb 4 = rvh13 bb 4 from (by rw [hrn2]; exact congrFun (up0_a (ne_in tb5.1 hqn2)) _)) (Eq.trans (show rvh13 bb 4 = rvh12 bb 4 from (fl13.r tb4 rfl 4)) (Eq.trans (show rvh12 bb 4 = rvh11 bb 4 from (fl12.r tb3 rfl 4)) (Eq.trans (show rvh11 bb 4 = rvh10 bb 4 from (fl11.r tb2 rfl 4)) (Eq.trans (show rvh10 bb 4 = rvn1 bb 4 from (fl10.r tb1 rfl 4)) (show rvn1 bb 4 = rv bb 4 from (by rw [hrn1]; exact congrFun (up0_a (ne_in tbb.1 hqn1)) _)))))))))), TSQ.of hW hS (fun bb tbb hbb => by have tb1 := xl10.ty tbb; have tb2 := xl11.ty tb1; have tb3 := xl12.ty tb2; have tb4 := ty_rt tb3 hcr1 (ne_ty tb3 ty30 (by decide)); have tb5 := xl14.ty tb4; have tb6 := xl15.ty tb5; have tb7 := ty_rt tb6 hcr2 (ne_ty tb6 tqn2 (by decide)); have tb8 := xl17.ty tb7; exact (Eq.trans (show ivh17 bb 2 = ivh15 bb 2 from (fl17.i tb8 rfl 2)) (Eq.trans (show ivh15 bb 2 = ivh14 bb 2 from (fl15.i tb7 rfl 2)) (Eq.trans (show ivh14 bb 2 = ivn2 bb 2 from (fl14.i tb6 rfl 2)) (Eq.trans (show ivn2 bb 2 = ivh13 bb 2 from (by rw [hin2]; exact congrFun (up0_a (ne_in tb5.1 hqn2)) _)) (Eq.trans (show ivh13 bb 2 = iv1 bb 2 from ((apxf13 _ re6).2 bb tb4 hbb)) (Eq.trans (show iv1 bb 2 = ivh12 bb 2 from (by rw [pq1]; exact up2_k (ne_ty tb4 tqr1 (by decide)))) (Eq.trans (show ivh12 bb 2 = ivh11 bb 2 from (fl12.i tb3 rfl 2)) (Eq.trans (show ivh11 bb 2 = ivh10 bb 2 from (fl11.i tb2 rfl 2)) (Eq.trans (show ivh10 bb 2 = ivn1 bb 2 from (fl10.i tb1 rfl 2)) (show ivn1 bb 2 = iv bb 2 from (by rw [hin1]; exact congrFun (up0_a (ne_in tbb.1 hqn1)) _))))))))))))⟩, by omega, ⟨(by omega), CS0.of hW hS (Int.le_refl _) (fun i hi => (rmef15.2 i (by omega)).trans (ce1 i hi)) (fun bb tbb => by have tb1 := xl10.ty tbb; have tb2 := xl11.ty tb1; have tb3 := xl12.ty tb2; have tb4 := ty_rt tb3 hcr1 (ne_ty tb3 ty30 (by decide)); have tb5 := xl14.ty tb4; have tb6 := xl15.ty tb5; have tb7 := ty_rt tb6 hcr2 (ne_ty tb6 tqn2 (by decide)); have tb8 := xl17.ty tb7; exact (Eq.trans (show ivh17 bb 0 = ivh15 bb 0 from (fl17.i tb8 rfl 0)) (Eq.trans (show ivh15 bb 0 = ivh14 bb 0 from (fl15.i tb7 rfl 0)) (Eq.trans (show ivh14 bb 0 = ivn2 bb 0 from (fl14.i tb6 rfl 0)) (Eq.trans (show ivn2 bb 0 = ivh13 bb 0 from (by rw [hin2]; exact congrFun (up0_a (ne_in tb5.1 hqn2)) _)) (Eq.trans (show ivh13 bb 0 = iv1 bb 0 from (fl13.i tb4 rfl 0)) (Eq.trans (show iv1 bb 0 = ivh12 bb 0 from (by rw [pq1]; exact up2_k (ne_ty tb4 tqr1 (by decide)))) (Eq.trans (show ivh12 bb 0 = ivh11 bb 0 from (fl12.i tb3 rfl 0)) (Eq.trans (show ivh11 bb 0 = ivh10 bb 0 from (fl11.i tb2 rfl 0)) (Eq.trans (show ivh10 bb 0 = ivn1 bb 0 from (fl10.i tb1 rfl 0)) (show ivn1 bb 0 = iv bb 0 from (by rw [hin1]; exact congrFun (up0_a (ne_in tbb.1 hqn1)) _)))))))))))) (fun bb tbb => by have tb1 := xl10.ty tbb; have tb2 := xl11.ty tb1; have tb3 := xl12.ty tb2; have tb4 := ty_rt tb3 hcr1 (ne_ty tb3 ty30 (by decide)); have tb5 := xl14.ty tb4; have tb6 := xl15.ty tb5; have tb7 := ty_rt tb6 hcr2 (ne_ty tb6 tqn2 (by decide)); exact (Eq.trans (show rvh15 bb 1 = rvh14 bb 1 from (fl15.r tb7 rfl 1)) (Eq.trans (show rvh14 bb 1 = rvn2 bb 1 from (fl14.r tb6 rfl 1)) (Eq.trans (show rvn2 bb 1 = rvh13 bb 1 from (by rw [hrn2]; exact congrFun (up0_a (ne_in tb5.1 hqn2)) _)) (Eq.trans (show rvh13 bb 1 = rvh12 bb 1 from (fl13.r tb4 rfl 1)) (Eq.trans (show rvh12 bb 1 = rvh11 bb 1 from (fl12.r tb3 rfl 1)) (Eq.trans (show rvh11 bb 1 = rvh10 bb 1 from (fl11.r tb2 rfl 1)) (Eq.trans (show rvh10 bb 1 = rvn1 bb 1 from (fl10.r tb1 rfl 1)) (show rvn1 bb 1 = rv bb 1 from (by rw [hrn1]; exact congrFun (up0_a (ne_in tbb.1 hqn1)) _)))))))))), ⟨qn2, (by rw [show (iv (sk 23) 2).toNat = (ivh14 (sk 23) 2).toNat from congrArg Int.toNat (by omega)]; exact rmef15.1), (by omega), re16⟩⟩⟩)⟩
                    · refine c_aload_n (j := 1) (x := a0) C dX11_addRule_118 rfl ?_
                      refine c_bipush (z := 6) C dX11_addRule_119 (by decide) ?_
                      refine d_callV (As := [.int (iI 6)]) (rest := []) C hM (C_refuse (a0 := a0) (x := 6) hW hS t_a0 ⟨by decide, by decide⟩ ) dX11_addRule_121 kV_X11_102 rfl t_a0 rfl rfl (by decide) ck_12 rfl (Nat.le_of_ble_eq_true rfl) ⟨(Nat.le_of_ble_eq_true rfl), (Nat.le_of_ble_eq_true rfl)⟩ hph hph (show 0 + 0 = 0 from rfl) (by decide) (fun rh18 Lh18 clh18 lnh18 ivh18 rvh18 h18 => ?_)
                      obtain ⟨f18, rfl, rfl, rfl, rfl, rfl, fl18, W23, rgf18, exf18, kp14f18⟩ := h18
                      have ri48 : (-2147483648) ≤ iv a0 14 ∧ iv a0 14 ≤ 2147483647 := hW.int t_a0 14
                      have F16 := hF0.call hX0 fl18 rfl
                      have mr18 := MRK.call hmr hW hS XT.refl fl18 rfl rfl
                      refine c_st (st2 := [.int (iI f18)]) rfl ?_
                      have gk14f18 : ivh18 a0 14 = iv a0 14 := kp14f18
                      have gf18 : f18 = -1 := exf18
                      have ri49 : (-2147483648) ≤ ivh18 a0 14 ∧ ivh18 a0 14 ≤ 2147483647 := W23.int t_a0 14
                      have ri50 : 0 ≤ ivh18 (sk 23) 2 ∧ ivh18 (sk 23) 2 ≤ 512 := W23.int tsk23 2
                      have ie71 : ivh18 (sk 23) 2 = iv (sk 23) 2 := fl18.i tsk23 rfl 2
                      have ri51 : 0 ≤ ivh18 (sk 22) 2 ∧ ivh18 (sk 22) 2 ≤ 30 := W23.int tsk22 2
                      have ie72 : ivh18 (sk 22) 2 = iv (sk 22) 2 := fl18.i tsk22 rfl 2
                      have ri52 : (-2147483648) ≤ ivh18 ob1 0 ∧ ivh18 ob1 0 ≤ 2147483647 := W23.int tob1 0
                      have ie73 : ivh18 ob1 0 = iv ob1 0 := fl18.i tob1 rfl 0
                      have ri53 : 0 ≤ ivh18 (sk 2) 2 ∧ ivh18 (sk 2) 2 ≤ 3000 := W23.int tsk2 2
                      have ie74 : ivh18 (sk 2) 2 = iv (sk 2) 2 := fl18.i tsk2 rfl 2
                      have ri54 : 0 ≤ ivh18 rb3 2 ∧ ivh18 rb3 2 ≤ 200 := W23.int trb3 2
                      have ie75 : ivh18 rb3 2 = iv rb3 2 := fl18.i trb3 rfl 2
                      exact c_iret C dX11_addRule_124 rfl (by decide) (rom0 hph hph (by decide)) ⟨f18, rfl, hX0, F16, W23, ⟨by omega, by omega⟩, ⟨(by omega), mr18⟩, (by omega), (Or.inl ⟨by omega, PSAME.fr hW hS fl18 rfl rfl rfl rfl rfl rfl rfl, (fun ss t q hs ht hq hd h => by
                          have e := ht.uni akob1.2
                          subst e
                          obtain ⟨h1, h2, h3, h4, h5, h6, h7, h8⟩ := h.1
                          first | omega | (have e1 := gf5 ss hs (by omega) (by omega); have e2 := e1.mpr (fun x q1 q2 => h.2.2 x q2); omega) | (have e1 := irxf7 ss hs (by omega) hd; have e2 := e1.mpr ⟨by omega, h.2.1⟩; omega) | (rw [rq3] at hq; cases hq; omega))⟩)⟩
        · refine c_st (st2 := [.int (iI 0)]) (by rw [show inn (iI cnd) 0 5 = iI 0 from hs1e]) ?_
          refine c_if_eq (tgt := 118) C ⟨by decide, by decide⟩ dX11_addRule_50 (by decide) (fun _ => ?_) (fun z => absurd z (by omega))
          refine c_aload_n (j := 1) (x := a0) C dX11_addRule_118 rfl ?_
          refine c_bipush (z := 6) C dX11_addRule_119 (by decide) ?_
          refine d_callV (As := [.int (iI 6)]) (rest := []) C hM (C_refuse (a0 := a0) (x := 6) hW hS t_a0 ⟨by decide, by decide⟩ ) dX11_addRule_121 kV_X11_102 rfl t_a0 rfl rfl (by decide) ck_12 rfl (Nat.le_of_ble_eq_true rfl) ⟨(Nat.le_of_ble_eq_true rfl), (Nat.le_of_ble_eq_true rfl)⟩ hph hph (show 0 + 0 = 0 from rfl) (by decide) (fun rh19 Lh19 clh19 lnh19 ivh19 rvh19 h19 => ?_)
          obtain ⟨f19, rfl, rfl, rfl, rfl, rfl, fl19, W24, rgf19, exf19, kp14f19⟩ := h19
          have ri55 : (-2147483648) ≤ iv a0 14 ∧ iv a0 14 ≤ 2147483647 := hW.int t_a0 14
          have F17 := hF0.call hX0 fl19 rfl
          have mr19 := MRK.call hmr hW hS XT.refl fl19 rfl rfl
          refine c_st (st2 := [.int (iI f19)]) rfl ?_
          have gk14f19 : ivh19 a0 14 = iv a0 14 := kp14f19
          have gf19 : f19 = -1 := exf19
          have ri56 : (-2147483648) ≤ ivh19 a0 14 ∧ ivh19 a0 14 ≤ 2147483647 := W24.int t_a0 14
          have ri57 : 0 ≤ ivh19 (sk 23) 2 ∧ ivh19 (sk 23) 2 ≤ 512 := W24.int tsk23 2
          have ie77 : ivh19 (sk 23) 2 = iv (sk 23) 2 := fl19.i tsk23 rfl 2
          have ri58 : 0 ≤ ivh19 (sk 22) 2 ∧ ivh19 (sk 22) 2 ≤ 30 := W24.int tsk22 2
          have ie78 : ivh19 (sk 22) 2 = iv (sk 22) 2 := fl19.i tsk22 rfl 2
          have ri59 : (-2147483648) ≤ ivh19 ob1 0 ∧ ivh19 ob1 0 ≤ 2147483647 := W24.int tob1 0
          have ie79 : ivh19 ob1 0 = iv ob1 0 := fl19.i tob1 rfl 0
          have ri60 : 0 ≤ ivh19 (sk 2) 2 ∧ ivh19 (sk 2) 2 ≤ 3000 := W24.int tsk2 2
          have ie80 : ivh19 (sk 2) 2 = iv (sk 2) 2 := fl19.i tsk2 rfl 2
          exact c_iret C dX11_addRule_124 rfl (by decide) (rom0 hph hph (by decide)) ⟨f19, rfl, hX0, F17, W24, ⟨by omega, by omega⟩, ⟨(by omega), mr19⟩, (by omega), (Or.inl ⟨by omega, PSAME.fr hW hS fl19 rfl rfl rfl rfl rfl rfl rfl, (fun ss t q hs ht hq hd h => by
              have e := ht.uni akob1.2
              subst e
              obtain ⟨h1, h2, h3, h4, h5, h6, h7, h8⟩ := h.1
              first | omega)⟩)⟩
      · refine c_aload_n (j := 1) (x := a0) C dX11_addRule_40 rfl ?_
        refine c_iconst C dX11_addRule_41 ?_
        refine d_callV (As := [.int (iI 5)]) (rest := []) C hM (C_refuse (a0 := a0) (x := 5) hW hS t_a0 ⟨by decide, by decide⟩ ) dX11_addRule_42 kV_X11_102 rfl t_a0 rfl rfl (by decide) ck_12 rfl (Nat.le_of_ble_eq_true rfl) ⟨(Nat.le_of_ble_eq_true rfl), (Nat.le_of_ble_eq_true rfl)⟩ hph hph (show 0 + 0 = 0 from rfl) (by decide) (fun rh20 Lh20 clh20 lnh20 ivh20 rvh20 h20 => ?_)
        obtain ⟨f20, rfl, rfl, rfl, rfl, rfl, fl20, W25, rgf20, exf20, kp14f20⟩ := h20
        have ri61 : (-2147483648) ≤ iv a0 14 ∧ iv a0 14 ≤ 2147483647 := hW.int t_a0 14
        have F18 := hF0.call hX0 fl20 rfl
        have mr20 := MRK.call hmr hW hS XT.refl fl20 rfl rfl
        refine c_st (st2 := [.int (iI f20)]) rfl ?_
        have gk14f20 : ivh20 a0 14 = iv a0 14 := kp14f20
        have gf20 : f20 = -1 := exf20
        have ri62 : (-2147483648) ≤ ivh20 a0 14 ∧ ivh20 a0 14 ≤ 2147483647 := W25.int t_a0 14
        have ri63 : 0 ≤ ivh20 (sk 23) 2 ∧ ivh20 (sk 23) 2 ≤ 512 := W25.int tsk23 2
        have ie82 : ivh20 (sk 23) 2 = iv (sk 23) 2 := fl20.i tsk23 rfl 2
        have ri64 : 0 ≤ ivh20 (sk 22) 2 ∧ ivh20 (sk 22) 2 ≤ 30 := W25.int tsk22 2
        have ie83 : ivh20 (sk 22) 2 = iv (sk 22) 2 := fl20.i tsk22 rfl 2
        have ri65 : (-2147483648) ≤ ivh20 ob1 0 ∧ ivh20 ob1 0 ≤ 2147483647 := W25.int tob1 0
        have ie84 : ivh20 ob1 0 = iv ob1 0 := fl20.i tob1 rfl 0
        have ri66 : 0 ≤ ivh20 (sk 2) 2 ∧ ivh20 (sk 2) 2 ≤ 3000 := W25.int tsk2 2
        have ie85 : ivh20 (sk 2) 2 = iv (sk 2) 2 := fl20.i tsk2 rfl 2
        exact c_iret C dX11_addRule_45 rfl (by decide) (rom0 hph hph (by decide)) ⟨f20, rfl, hX0, F18, W25, ⟨by omega, by omega⟩, ⟨(by omega), mr20⟩, (by omega), (Or.inl ⟨by omega, PSAME.fr hW hS fl20 rfl rfl rfl rfl rfl rfl rfl, (fun ss t q hs ht hq hd h => by
            have e := ht.uni akob1.2
            subst e
            obtain ⟨h1, h2, h3, h4, h5, h6, h7, h8⟩ := h.1
            first | omega)⟩)⟩
    · refine c_aload_n (j := 1) (x := a0) C dX11_addRule_30 rfl ?_
      refine c_iconst C dX11_addRule_31 ?_
      refine d_callV (As := [.int (iI 4)]) (rest := []) C hM (C_refuse (a0 := a0) (x := 4) hW hS t_a0 ⟨by decide, by decide⟩ ) dX11_addRule_32 kV_X11_102 rfl t_a0 rfl rfl (by decide) ck_12 rfl (Nat.le_of_ble_eq_true rfl) ⟨(Nat.le_of_ble_eq_true rfl), (Nat.le_of_ble_eq_true rfl)⟩ hph hph (show 0 + 0 = 0 from rfl) (by decide) (fun rh21 Lh21 clh21 lnh21 ivh21 rvh21 h21 => ?_)
      obtain ⟨f21, rfl, rfl, rfl, rfl, rfl, fl21, W26, rgf21, exf21, kp14f21⟩ := h21
      have ri67 : (-2147483648) ≤ iv a0 14 ∧ iv a0 14 ≤ 2147483647 := hW.int t_a0 14
      have F19 := hF0.call hX0 fl21 rfl
      have mr21 := MRK.call hmr hW hS XT.refl fl21 rfl rfl
      refine c_st (st2 := [.int (iI f21)]) rfl ?_
      have gk14f21 : ivh21 a0 14 = iv a0 14 := kp14f21
      have gf21 : f21 = -1 := exf21
      have ri68 : (-2147483648) ≤ ivh21 a0 14 ∧ ivh21 a0 14 ≤ 2147483647 := W26.int t_a0 14
      have ri69 : 0 ≤ ivh21 (sk 23) 2 ∧ ivh21 (sk 23) 2 ≤ 512 := W26.int tsk23 2
      have ie87 : ivh21 (sk 23) 2 = iv (sk 23) 2 := fl21.i tsk23 rfl 2
      have ri70 : 0 ≤ ivh21 (sk 22) 2 ∧ ivh21 (sk 22) 2 ≤ 30 := W26.int tsk22 2
      have ie88 : ivh21 (sk 22) 2 = iv (sk 22) 2 := fl21.i tsk22 rfl 2
      have ri71 : (-2147483648) ≤ ivh21 ob1 0 ∧ ivh21 ob1 0 ≤ 2147483647 := W26.int tob1 0
      have ie89 : ivh21 ob1 0 = iv ob1 0 := fl21.i tob1 rfl 0
      have ri72 : 0 ≤ ivh21 (sk 2) 2 ∧ ivh21 (sk 2) 2 ≤ 3000 := W26.int tsk2 2
      have ie90 : ivh21 (sk 2) 2 = iv (sk 2) 2 := fl21.i tsk2 rfl 2
      exact c_iret C dX11_addRule_35 rfl (by decide) (rom0 hph hph (by decide)) ⟨f21, rfl, hX0, F19, W26, ⟨by omega, by omega⟩, ⟨(by omega), mr21⟩, (by omega), (Or.inl ⟨by omega, PSAME.fr hW hS fl21 rfl rfl rfl rfl rfl rfl rfl, (fun ss t q hs ht hq hd h => by
          have e := ht.uni akob1.2
          subst e
          obtain ⟨h1, h2, h3, h4, h5, h6, h7, h8⟩ := h.1
          first | omega)⟩)⟩
  · subst oq1
    refine c_lv (lv2 := [(4, .null), (0, .ref a0), (1, .int (iI i)), (2, .int (iI cnd)), (3, .int (iI n))]) [0, 1, 2, 3, 4] rfl ?_
    refine c_st (st2 := []) rfl ?_
    refine c_aload_n (j := 1) (x := a0) C dX11_addRule_15 rfl ?_
    refine c_iconst C dX11_addRule_16 ?_
    refine d_callV (As := [.int (iI 3)]) (rest := []) C hM (C_refuse (a0 := a0) (x := 3) hW hS t_a0 ⟨by decide, by decide⟩ ) dX11_addRule_17 kV_X11_102 rfl t_a0 rfl rfl (by decide) ck_12 rfl (Nat.le_of_ble_eq_true rfl) ⟨(Nat.le_of_ble_eq_true rfl), (Nat.le_of_ble_eq_true rfl)⟩ hph hph (show 0 + 0 = 0 from rfl) (by decide) (fun rh22 Lh22 clh22 lnh22 ivh22 rvh22 h22 => ?_)
    obtain ⟨f22, rfl, rfl, rfl, rfl, rfl, fl22, W27, rgf22, exf22, kp14f22⟩ := h22
    have ri73 : (-2147483648) ≤ iv a0 14 ∧ iv a0 14 ≤ 2147483647 := hW.int t_a0 14
    have F20 := hF0.call hX0 fl22 rfl
    have mr22 := MRK.call hmr hW hS XT.refl fl22 rfl rfl
    refine c_st (st2 := [.int (iI f22)]) rfl ?_
    have gk14f22 : ivh22 a0 14 = iv a0 14 := kp14f22
    have gf22 : f22 = -1 := exf22
    have ri74 : (-2147483648) ≤ ivh22 a0 14 ∧ ivh22 a0 14 ≤ 2147483647 := W27.int t_a0 14
    have ri75 : 0 ≤ ivh22 (sk 23) 2 ∧ ivh22 (sk 23) 2 ≤ 512 := W27.int tsk23 2
    have ie92 : ivh22 (sk 23) 2 = iv (sk 23) 2 := fl22.i tsk23 rfl 2
    have ri76 : 0 ≤ ivh22 (sk 22) 2 ∧ ivh22 (sk 22) 2 ≤ 30 := W27.int tsk22 2
    have ie93 : ivh22 (sk 22) 2 = iv (sk 22) 2 := fl22.i tsk22 rfl 2
    exact c_iret C dX11_addRule_20 rfl (by decide) (rom0 hph hph (by decide)) ⟨f22, rfl, hX0, F20, W27, ⟨by omega, by omega⟩, ⟨(by omega), mr22⟩, (by omega), (Or.inl ⟨by omega, PSAME.fr hW hS fl22 rfl rfl rfl rfl rfl rfl rfl, (fun ss t q hs ht hq hd _ => gf1.2 rfl t ht)⟩)⟩
set_option maxHeartbeats 4000000 in
set_option maxRecDepth 100000 in
theorem C_rule {l : Launch} {G : GT} {mi : Nat} {sk : Nat → Nat} {L : List Nat} {cl ln : Nat → Nat} {iv : Nat → Nat → Int} {rv : Nat → Nat → Option Nat}  {a0 : Nat} {i : Int} {cnd : Int} {n : Int} (hW : WT (g0 G) sk L cl ln iv rv) (hS : SKL sk L cl) (t_a0 : ty L cl a0 1) (h_i : -2147483648 ≤ i ∧ i ≤ 2147483647) (h_cnd : -2147483648 ≤ cnd ∧ cnd ≤ 2147483647) (h_n : -2147483648 ≤ n ∧ n ≤ 2147483647) (hmr : MRK sk cl iv rv) (hch : iv (sk 23) 2 < 512) : Mc l G mi (Phi (g0 G) sk) PHM yX11_rule cX11_rule 5 (some .int) 9 [.ref a0, .int (iI i), .int (iI cnd), .int (iI n)] L cl ln iv rv 2320 (fun v L2 cl2 ln2 iv2 rv2 => ∃ f : Int, v = some (.int (iI f)) ∧ XT L cl ln L2 cl2 ln2 ∧ fT [1, 65, 66, 206, 20, 26, 1004, 12, 42, 23, 1001, 201, 2] L cl iv rv iv2 rv2 ∧ WT (g0 G) sk L2 cl2 ln2 iv2 rv2 ∧ (-2147483648 ≤ f ∧ f ≤ 2147483647) ∧ (iv2 (sk 23) 2 ≤ iv (sk 23) 2 + 1 ∧ MRK sk cl2 iv2 rv2) ∧ iv2 a0 14 = iv a0 14 ∧ iv2 (sk 2) 2 = 0 ∧ (PRUL i cnd n f sk iv rv iv2 rv2)) := by
  refine Mc.mk (by decide) (Nat.le_of_ble_eq_true rfl) ?_
  intro p e s m args below meth c A C hM
  have hph := Phi.le hW hS
  have tsk2 : ty L cl (sk 2) 2 := ⟨(hS 2 rfl).1, by rw [(hS 2 rfl).2]; rfl⟩
  have tsk3 : ty L cl (sk 3) 3 := ⟨(hS 3 rfl).1, by rw [(hS 3 rfl).2]; rfl⟩
  have tsk4 : ty L cl (sk 4) 4 := ⟨(hS 4 rfl).1, by rw [(hS 4 rfl).2]; rfl⟩
  have tsk5 : ty L cl (sk 5) 5 := ⟨(hS 5 rfl).1, by rw [(hS 5 rfl).2]; rfl⟩
  have tsk13 : ty L cl (sk 13) 13 := ⟨(hS 13 rfl).1, by rw [(hS 13 rfl).2]; rfl⟩
  have tsk14 : ty L cl (sk 14) 14 := ⟨(hS 14 rfl).1, by rw [(hS 14 rfl).2]; rfl⟩
  have tsk15 : ty L cl (sk 15) 15 := ⟨(hS 15 rfl).1, by rw [(hS 15 rfl).2]; rfl⟩
  have tsk16 : ty L cl (sk 16) 16 := ⟨(hS 16 rfl).1, by rw [(hS 16 rfl).2]; rfl⟩
  have tsk17 : ty L cl (sk 17) 17 := ⟨(hS 17 rfl).1, by rw [(hS 17 rfl).2]; rfl⟩
  have tsk22 : ty L cl (sk 22) 22 := ⟨(hS 22 rfl).1, by rw [(hS 22 rfl).2]; rfl⟩
  have tsk23 : ty L cl (sk 23) 23 := ⟨(hS 23 rfl).1, by rw [(hS 23 rfl).2]; rfl⟩
  have hX0 : XT L cl ln L cl ln := XT.refl
  have hF0 : fT [1, 65, 66, 206, 20, 26, 1004, 12, 42, 23, 1001, 201, 2] L cl iv rv iv rv := fT.refl
  have ri1 : 0 ≤ iv (sk 23) 2 ∧ iv (sk 23) 2 ≤ 512 := hW.int tsk23 2
  refine c_aload_n (j := 0) (x := a0) C dX11_rule_0 rfl ?_
  refine c_iload_n (j := 1) C dX11_rule_1 rfl ?_
  refine c_iload_n (j := 2) C dX11_rule_2 rfl ?_
  refine c_iload_n (j := 3) C dX11_rule_3 rfl ?_
  refine d_callV (As := [.int (iI i), .int (iI cnd), .int (iI n)]) (rest := []) C hM (C_addRule (a0 := a0) (i := i) (cnd := cnd) (n := n) hW hS t_a0 (by omega) (by omega) (by omega) hmr (by show iv (sk 23) 2 < 512; omega)) dX11_rule_4 kV_X11_160 rfl t_a0 rfl rfl (by decide) ck_12 rfl (Nat.le_of_ble_eq_true rfl) ⟨(Nat.le_of_ble_eq_true rfl), (Nat.le_of_ble_eq_true rfl)⟩ hph hph (show 0 + 2320 = 2320 from rfl) (by decide) (fun rh1 Lh1 clh1 lnh1 ivh1 rvh1 h1 => ?_)
  obtain ⟨f1, rfl, xl1, fl1, W1, rgf1, exf1, kp14f1, tbxf1⟩ := h1
  have ri2 : (-2147483648) ≤ iv a0 14 ∧ iv a0 14 ≤ 2147483647 := hW.int t_a0 14
  have F1 := hF0.call hX0 fl1 rfl
  have mr1 := MRK.call hmr hW hS xl1 fl1 rfl rfl
  have X1 := hX0.trans xl1
  have sk1 := xl1.skl hS
  refine c_st (st2 := [.int (iI f1)]) rfl ?_
  have gk14f1 : ivh1 a0 14 = iv a0 14 := kp14f1
  have ty1 := xl1.ty tsk23
  have ri3 : 0 ≤ ivh1 (sk 23) 2 ∧ ivh1 (sk 23) 2 ≤ 512 := W1.int ty1 2
  have gf1 : ivh1 (sk 23) 2 ≤ iv (sk 23) 2 + 1 ∧ MRK sk clh1 ivh1 rvh1 := exf1
  refine c_istore (lv2 := [(4, .int (iI f1)), (0, .ref a0), (1, .int (iI i)), (2, .int (iI cnd)), (3, .int (iI n))]) C dX11_rule_7 (by decide) rfl ?_
  refine c_aload_n (j := 1) (x := a0) C dX11_rule_9 rfl ?_
  have ty2 := xl1.ty t_a0
  obtain ⟨rb1, rq1, trb1⟩ := W1.ref ty2 0 rfl rfl rfl
  have erb1 := W1.sk trb1 (by decide) rfl
  subst erb1
  refine c_getr (k := 0) C ck_12 dX11_rule_10 w2_44 (by decide) ty2 rfl rfl (by decide) rfl rq1 ?_
  refine c_st (st2 := [.ref (sk 2)]) rfl ?_
  have ty3 := xl1.ty tsk2
  have pl1 := Phi.le W1 sk1
  refine d_callV (As := []) (rest := []) C hM (C_clear_2 (a0 := (sk 2)) W1 sk1 ty3  ) dX11_rule_13 kV_X11_164 rfl ty3 rfl rfl (by decide) ck_2 rfl (Nat.le_of_ble_eq_true rfl) ⟨(Nat.le_of_ble_eq_true rfl), (Nat.le_of_ble_eq_true rfl)⟩ hph pl1 (show 2320 + 0 = 2320 from rfl) (by decide) (fun rh2 Lh2 clh2 lnh2 ivh2 rvh2 h2 => ?_)
  obtain ⟨rfl, rfl, rfl, rfl, rfl, fl2, W2, exf2⟩ := h2
  have F2 := F1.call X1 fl2 rfl
  have mr2 := MRK.call mr1 W1 sk1 XT.refl fl2 rfl rfl
  refine c_st (st2 := []) rfl ?_
  have ri4 : 0 ≤ ivh2 (sk 2) 2 ∧ ivh2 (sk 2) 2 ≤ 3000 := W2.int ty3 2
  have gf2 : ivh2 (sk 2) 2 = 0 := exf2
  refine c_iload (j := 0) C dX11_rule_16 rfl ?_
  have ri5 : (-2147483648) ≤ ivh2 a0 14 ∧ ivh2 a0 14 ≤ 2147483647 := W2.int ty2 14
  have ie3 : ivh2 a0 14 = ivh1 a0 14 := fl2.i ty2 rfl 14
  have ri6 : 0 ≤ ivh2 (sk 23) 2 ∧ ivh2 (sk 23) 2 ≤ 512 := W2.int ty1 2
  have ie5 : ivh2 (sk 23) 2 = ivh1 (sk 23) 2 := fl2.i ty1 rfl 2
  exact c_iret C dX11_rule_18 rfl (by decide) (rom0 hph pl1 (by decide)) ⟨f1, rfl, X1, F2, W2, ⟨by omega, by omega⟩, ⟨(by omega), mr2⟩, (by omega), (by omega), (PRUL.after tbxf1 (by omega) (PSAME.fr W1 sk1 fl2 rfl rfl rfl rfl rfl rfl rfl))⟩
