def MRK (sk cl : Nat → Nat) (iv : Nat → Nat → Int) (rv : Nat → Nat → Option Nat) : Prop := ∀ i : Nat, (i : Int) < iv (sk 22) 2 → ∀ t, el rv (sk 22) i = some t → cl t ≤ 100 + i
set_option maxHeartbeats 4000000 in
set_option maxRecDepth 100000 in
theorem Z_table {l : Launch} {G : GT} {mi : Nat} {sk : Nat → Nat} {L : List Nat} {cl ln : Nat → Nat} {iv : Nat → Nat → Int} {rv : Nat → Nat → Option Nat}  {a0 : Nat} {i : Int} {n : Int} {r : Option Nat} {r2 : Option Nat} (hW : WT (g0 G) sk L cl ln iv rv) (hS : SKL sk L cl) (t_a0 : ty L cl a0 210) (t_r : ∀ b, r = some b → ty L cl b 100) (t_r2 : ∀ b, r2 = some b → ty L cl b 100) (h_i : -2147483648 ≤ i ∧ i ≤ 2147483647) (h_n : -2147483648 ≤ n ∧ n ≤ 2147483647)  : Mc l G mi zPf 0 yX9_init cX9_init 5 none 4 [.ref a0, .int (iI i), .int (iI n), va_rf r, va_rf r2] L cl ln iv rv 90 (fun v L2 cl2 ln2 iv2 rv2 => v = none ∧ XT L cl ln L2 cl2 ln2 ∧ fT [210, 200, 202] L cl iv rv iv2 rv2 ∧ WT (g0 G) sk L2 cl2 ln2 iv2 rv2 ∧ (∃ b4 b5 b6, (∀ k, ([2, 3, 4, 5, 6] : List Nat).contains k = false → rv2 a0 k = rv a0 k) ∧ rv2 a0 4 = some b4 ∧ ty L2 cl2 b4 26 ∧ rv2 a0 5 = some b5 ∧ ty L2 cl2 b5 12 ∧ rv2 a0 6 = some b6 ∧ ty L2 cl2 b6 68 ∧ rv2 a0 2 = r ∧ rv2 a0 3 = r2 ∧ iv2 a0 7 = 0 ∧ iv2 a0 0 = i ∧ iv2 a0 1 = n)) := by
  refine Mc.mk (by decide) (by cases r <;> cases r2 <;> exact Nat.le_of_ble_eq_true rfl) ?_
  intro p e s m args below meth c A C hM
  have hph := (show zPf ln rv ≤ 0 from Nat.le_refl 0)
  refine c_lveq (show lv_args 0 [.ref a0, .int (iI i), .int (iI n), va_rf r, va_rf r2] = [(0, .ref a0), (1, .int (iI i)), (2, .int (iI n)), (3, (va_rf r)), (4, (va_rf r2))] from by cases r <;> cases r2 <;> rfl) ?_
  have hX0 : XT L cl ln L cl ln := XT.refl
  have hF0 : fT [210, 200, 202] L cl iv rv iv rv := fT.refl
  refine c_aload_n (j := 0) (x := a0) C dX9_init_0 rfl ?_
  refine c_objInit C dX9_init_1 w2_167 w1_30 w1_31 (by decide) (Nat.le_of_ble_eq_true rfl) ?_
  refine c_aload_n (j := 0) (x := a0) C dX9_init_4 rfl ?_
  refine c_new C ck_0 dv_0 ⟨rfl, rfl⟩ rfl (by decide) dX9_init_5 w2_168 w1_65 w1_6 (rom2 hph hph (by decide)) (fun qn1 cln1 lnn1 ivn1 rvn1 hqn1 hcn1 hln1 hin1 hrn1 => ⟨19, (z_in (by omega)), ?_⟩)
  refine c_g0 C (fun hg1 => ?_)
  have hxn1 : ∀ b, b ≠ qn1 → lnn1 b = ln b := (fun b _ => by rw [hln1])
  have W1 := hW.new (ln2 := lnn1) hqn1 (hg1 qn1 (List.mem_append_right _ List.mem_cons_self)) hcn1 hxn1 hin1 hrn1 (fun _ => ⟨(show (-2147483648 : Int) ≤ 0 by decide), (show (0 : Int) ≤ 2147483647 by decide)⟩) (Or.inl rfl) (fun q => by cases q) rfl rfl
  have xl1 := XT.new hqn1 hcn1 hxn1
  have X1 := hX0.trans xl1
  have sk1 := xl1.skl hS
  have F1 := hF0.new hX0 hqn1 hin1 hrn1
  have tqn1 : ty (L ++ [qn1]) cln1 qn1 200 := ty_new hcn1
  have h0qn1 : qn1 ∉ L := fun h => hqn1 ((hX0 qn1 h).1)
  refine c_dup C dX9_init_8 rfl ?_
  have ri1 : (-2147483648) ≤ ivn1 qn1 2 ∧ ivn1 qn1 2 ≤ 2147483647 := W1.int tqn1 2
  have ie1 : ivn1 qn1 2 = 0 := by rw [hin1]; exact up0_s
  refine c_callI (As := []) (rest := [.ref qn1, .ref a0]) C hM (Z_list (a0 := qn1) W1 sk1 tqn1  ) dX9_init_9 kI_X9_11 rfl rfl (Nat.le_of_ble_eq_true rfl) ⟨(Nat.le_of_ble_eq_true rfl), (Nat.le_of_ble_eq_true rfl)⟩ (rz0 hph (by decide)) (fun rh1 Lh1 clh1 lnh1 ivh1 rvh1 h1 => ⟨19, zk0, ?_⟩)
  obtain ⟨rfl, rfl, rfl, rfl, fl1, W2, exf1⟩ := h1
  have F2 := F1.call X1 fl1 rfl
  refine c_st (st2 := [.ref qn1, .ref a0]) rfl ?_
  have exf1s := exf1.2.1
  have ri2 : (-2147483648) ≤ ivh1 qn1 2 ∧ ivh1 qn1 2 ≤ 2147483647 := W2.int tqn1 2
  have rn1 : ∀ k, ([1] : List Nat).contains k = false → rvh1 qn1 k = none := fun k hk => (Eq.trans (show rvh1 qn1 k = rvn1 qn1 k from (exf1.2.2 k hk)) (show rvn1 qn1 k = none from (by rw [hrn1]; exact up0_s)))
  refine c_retag (q := qn1) (t := 26) (by rw [tqn1.2]; rfl) (fun clr1 hcr1 => ?_)
  have ty1 := xl1.ty t_a0
  have ty2 := ty_rt ty1 hcr1 (ne_ty ty1 tqn1 (by decide))
  have tqr1 : ty (L ++ [qn1]) clr1 qn1 26 := ⟨tqn1.1, by rw [hcr1, va_up_self]; rfl⟩
  have W3 := W2.retag tqn1.1 (by rw [tqn1.2]; rfl) hcr1 (fun k => by
        rcases k with _ | _ | _ | k
        · exact W2.int tqn1 0
        · exact W2.int tqn1 1
        · exact ⟨(by show 0 ≤ ivh1 qn1 2; omega), (by show ivh1 qn1 2 ≤ 200; omega)⟩
        · exact W2.int tqn1 (k + 3)) (fun k => by
        rcases k with _ | _ | _ | k
        · rw [rn1 0 (by decide)]; exact rok_none tqr1 rfl
        · rw [exf1.1]; exact rok_lst tqr1 rfl
        · rw [rn1 2 (by decide)]; exact rok_none tqr1 rfl
        · rw [rn1 (k + 3) (by simp)]; exact rok_none tqr1 rfl) rfl (fun _ b hb => by rw [exf1.1] at hb; cases hb; exact Or.inl ⟨rfl, by omega⟩) (fun _ b hb i hi => absurd hi (by omega)) rfl
  have X2 := X1.rt hcr1 h0qn1
  have sk2 := sk1.rt hcr1 (by rw [tqn1.2]; rfl)
  have on1 := fun b hb => xl1.ty (t_r b hb)
  have on2 := fun b hb => ty_rt (on1 b hb) hcr1 (ne_ty (on1 b hb) tqn1 (by decide))
  have on3 := fun b hb => xl1.ty (t_r2 b hb)
  have on4 := fun b hb => ty_rt (on3 b hb) hcr1 (ne_ty (on3 b hb) tqn1 (by decide))
  refine c_putrF (x := (some qn1)) (k := 4) C ck_10 dX9_init_12 w2_186 (by decide) rfl rfl rfl ty2 rfl rfl (by decide) rfl (by rfl) (by rfl) (fun rv1 pq1 => ⟨19, (zp2 (Nat.le_refl _)), ?_⟩)
  have W4 := W3.putr pq1 ty2 (fun qr => by rw [ty2.2] at qr; cases qr) rfl (by decide)
  have F3 := F2.putr X2 pq1 ty2 rfl
  refine c_aload_n (j := 0) (x := a0) C dX9_init_15 rfl ?_
  refine c_new C ck_2 dv_2 ⟨rfl, rfl⟩ rfl (by decide) dX9_init_16 w2_170 w1_33 w1_2 (rom2 hph (Nat.le_refl 0) (by decide)) (fun qn2 cln2 lnn2 ivn2 rvn2 hqn2 hcn2 hln2 hin2 hrn2 => ⟨38, (z_in (by omega)), ?_⟩)
  refine c_g0 C (fun hg2 => ?_)
  have hxn2 : ∀ b, b ≠ qn2 → lnn2 b = lnn1 b := (fun b _ => by rw [hln2])
  have W5 := W4.new (ln2 := lnn2) hqn2 (hg2 qn2 (List.mem_append_right _ List.mem_cons_self)) hcn2 hxn2 hin2 hrn2 (fun _ => ⟨(show (-2147483648 : Int) ≤ 0 by decide), (show (0 : Int) ≤ 2147483647 by decide)⟩) (Or.inl rfl) (fun q => by cases q) rfl rfl
  have xl3 := XT.new hqn2 hcn2 hxn2
  have X3 := X2.trans xl3
  have sk3 := xl3.skl sk2
  have F4 := F3.new X2 hqn2 hin2 hrn2
  have tqn2 : ty ((L ++ [qn1]) ++ [qn2]) cln2 qn2 202 := ty_new hcn2
  have h0qn2 : qn2 ∉ L := fun h => hqn2 ((X2 qn2 h).1)
  refine c_dup C dX9_init_19 rfl ?_
  refine c_sipush (z := 200) C dX9_init_20 (by decide) ?_
  refine c_callI (As := [.int (iI 200)]) (rest := [.ref qn2, .ref a0]) C hM (Z_ints_12 (a0 := qn2) (i := 200) W5 sk3 tqn2 ⟨by decide, by decide⟩ ) dX9_init_23 kI_X9_20 rfl rfl (Nat.le_of_ble_eq_true rfl) ⟨(Nat.le_of_ble_eq_true rfl), (Nat.le_of_ble_eq_true rfl)⟩ (rz0 hph (by decide)) (fun rh2 Lh2 clh2 lnh2 ivh2 rvh2 h2 => ⟨70, zk0, ?_⟩)
  obtain ⟨rfl, xl4, fl2, W6, exf2⟩ := h2
  have F5 := F4.call X3 fl2 rfl
  have ty3 := xl3.ty ty2
  have ty4 := xl3.ty tqr1
  have X4 := X3.trans xl4
  have sk4 := xl4.skl sk3
  refine c_st (st2 := [.ref qn2, .ref a0]) rfl ?_
  obtain ⟨bexf2, exf2x, exf2r, exf2t, exf2l, exf2i, exf2j⟩ := exf2
  have rn2 : ∀ k, ([1] : List Nat).contains k = false → rvh2 qn2 k = none := fun k hk => (Eq.trans (show rvh2 qn2 k = rvn2 qn2 k from (exf2x k hk)) (show rvn2 qn2 k = none from (by rw [hrn2]; exact up0_s)))
  have ty5 := xl4.ty tqn2
  refine c_retag (q := qn2) (t := 12) (by rw [ty5.2]; rfl) (fun clr2 hcr2 => ?_)
  have ty6 := xl4.ty ty3
  have ty7 := ty_rt ty6 hcr2 (ne_ty ty6 ty5 (by decide))
  have ty8 := xl4.ty ty4
  have ty9 := ty_rt ty8 hcr2 (ne_ty ty8 ty5 (by decide))
  have ty10 := ty_rt exf2t hcr2 (ne_ty exf2t ty5 (by decide))
  have tqr2 : ty Lh2 clr2 qn2 12 := ⟨ty5.1, by rw [hcr2, va_up_self]; rfl⟩
  have W7 := W6.retag ty5.1 (by rw [ty5.2]; rfl) hcr2 (fun k => by
        rcases k with _ | _ | _ | k
        · exact ⟨(by show 200 ≤ ivh2 qn2 0; omega), (by show ivh2 qn2 0 ≤ 200; omega)⟩
        · exact W6.int ty5 1
        · exact ⟨(by show 0 ≤ ivh2 qn2 2; omega), (by show ivh2 qn2 2 ≤ 200; omega)⟩
        · exact W6.int ty5 (k + 3)) (fun k => by
        rcases k with _ | _ | _ | k
        · rw [rn2 0 (by decide)]; exact rok_none tqr2 rfl
        · rw [exf2r]; exact rok_some tqr2 ty10 rfl (by decide) rfl
        · rw [rn2 2 (by decide)]; exact rok_none tqr2 rfl
        · rw [rn2 (k + 3) (by simp)]; exact rok_none tqr2 rfl) rfl (fun _ b hb => by rw [exf2r] at hb; cases hb; exact Or.inr ⟨exf2t.1, by omega⟩) (fun z => by cases z) rfl
  have X5 := X4.rt hcr2 h0qn2
  have sk5 := sk4.rt hcr2 (by rw [ty5.2]; rfl)
  have on5 := fun b hb => xl3.ty (on2 b hb)
  have on6 := fun b hb => xl4.ty (on5 b hb)
  have on7 := fun b hb => ty_rt (on6 b hb) hcr2 (ne_ty (on6 b hb) ty5 (by decide))
  have on8 := fun b hb => xl3.ty (on4 b hb)
  have on9 := fun b hb => xl4.ty (on8 b hb)
  have on10 := fun b hb => ty_rt (on9 b hb) hcr2 (ne_ty (on9 b hb) ty5 (by decide))
  refine c_putrF (x := (some qn2)) (k := 5) C ck_10 dX9_init_26 w2_190 (by decide) rfl rfl rfl ty7 rfl rfl (by decide) rfl (by rfl) (by rfl) (fun rv2 pq2 => ⟨70, (zp2 (Nat.le_refl _)), ?_⟩)
  have W8 := W7.putr pq2 ty7 (fun qr => by rw [ty7.2] at qr; cases qr) rfl (by decide)
  have F6 := F5.putr X5 pq2 ty7 rfl
  refine c_aload_n (j := 0) (x := a0) C dX9_init_29 rfl ?_
  refine c_iconst C dX9_init_30 ?_
  refine c_newaR (z := 4) (N := 4) C 68 dX9_init_31 w2_172 w2_173t rfl (by omega) (by omega) (rom2 hph (Nat.le_refl 0) (by decide)) (fun qn3 cln3 lnn3 ivn3 rvn3 hqn3 hcn3 hln3 hin3 hrn3 => ⟨90, (z_in (by omega)), ?_⟩)
  refine c_g0 C (fun hg3 => ?_)
  have hxn3 : ∀ b, b ≠ qn3 → lnn3 b = lnh2 b := (fun b hb => by rw [hln3]; exact va_up_ne _ _ hb)
  have lqn3 : lnn3 qn3 = 4 := by rw [hln3]; exact va_up_self _ _ _
  have W9 := W8.new (ln2 := lnn3) hqn3 (hg3 qn3 (List.mem_append_right _ List.mem_cons_self)) hcn3 hxn3 hin3 hrn3 (fun _ => ⟨(show (-2147483648 : Int) ≤ 0 by decide), (show (0 : Int) ≤ 2147483647 by decide)⟩) (Or.inr (fun _ => rfl)) (fun _ => by show 4 ≤ lnn3 qn3 ∧ lnn3 qn3 ≤ 4; omega) rfl rfl
  have xl5 := XT.new hqn3 hcn3 hxn3
  have X6 := X5.trans xl5
  have sk6 := xl5.skl sk5
  have F7 := F6.new X5 hqn3 hin3 hrn3
  have tqn3 : ty (Lh2 ++ [qn3]) cln3 qn3 68 := ty_new hcn3
  have h0qn3 : qn3 ∉ L := fun h => hqn3 ((X5 qn3 h).1)
  have ty11 := xl5.ty ty7
  refine c_putrF (x := (some qn3)) (k := 6) C ck_10 dX9_init_34 w2_192 (by decide) rfl rfl rfl ty11 rfl rfl (by decide) rfl (by rfl) (by rfl) (fun rv3 pq3 => ⟨90, (zp2 (Nat.le_refl _)), ?_⟩)
  have W10 := W9.putr pq3 ty11 (fun qr => by rw [ty11.2] at qr; cases qr) rfl (by decide)
  have F8 := F7.putr X6 pq3 ty11 rfl
  refine c_aload_n (j := 0) (x := a0) C dX9_init_37 rfl ?_
  refine c_iconst C dX9_init_38 ?_
  refine c_put (z := 0) (k := 7) C ck_10 dX9_init_39 w2_197 (by decide) rfl ty11 rfl rfl (by decide) rfl (by decide) (by decide) (fun iv1 pq4 => ?_)
  have W11 := W10.puti pq4 ty11 ⟨by decide, by decide⟩ rfl
  have F9 := F8.puti X6 pq4 ty11 rfl
  refine c_aload_n (j := 0) (x := a0) C dX9_init_42 rfl ?_
  refine c_iload_n (j := 1) C dX9_init_43 rfl ?_
  refine c_putF (z := i) (k := 0) C ck_10 dX9_init_44 w2_174 (by decide) rfl rfl rfl ty11 rfl rfl (by decide) rfl (by rfl) (by rfl) (fun iv2 pq5 => ?_)
  have W12 := W11.puti pq5 ty11 (show (-2147483648) ≤ i ∧ i ≤ 2147483647 by omega) rfl
  have F10 := F9.puti X6 pq5 ty11 rfl
  refine c_aload_n (j := 0) (x := a0) C dX9_init_47 rfl ?_
  refine c_iload_n (j := 2) C dX9_init_48 rfl ?_
  refine c_putF (z := n) (k := 1) C ck_10 dX9_init_49 w2_178 (by decide) rfl rfl rfl ty11 rfl rfl (by decide) rfl (by rfl) (by rfl) (fun iv3 pq6 => ?_)
  have W13 := W12.puti pq6 ty11 (show (-2147483648) ≤ n ∧ n ≤ 2147483647 by omega) rfl
  have F11 := F10.puti X6 pq6 ty11 rfl
  refine c_aload_n (j := 0) (x := a0) C dX9_init_52 rfl ?_
  refine c_aloadr_n (j := 3) (r := r) C dX9_init_53 rfl ?_
  refine c_putrF (x := r) (k := 2) C ck_10 dX9_init_54 w2_180 (by decide) rfl rfl rfl ty11 rfl rfl (by decide) rfl (narr r (Or.inl ⟨_, rfl⟩)).1 (narr r (Or.inl ⟨_, rfl⟩)).2 (fun rv4 pq7 => ⟨90, (zp2 (Nat.le_refl _)), ?_⟩)
  have W14 := W13.putr pq7 ty11 (fun qr => by rw [ty11.2] at qr; cases qr) rfl (by decide)
  have F12 := F11.putr X6 pq7 ty11 rfl
  refine c_aload_n (j := 0) (x := a0) C dX9_init_57 rfl ?_
  refine c_aloadr (j := 4) (r := r2) C dX9_init_58 rfl ?_
  refine c_putrF (x := r2) (k := 3) C ck_10 dX9_init_60 w2_183 (by decide) rfl rfl rfl ty11 rfl rfl (by decide) rfl (narr r2 (Or.inl ⟨_, rfl⟩)).1 (narr r2 (Or.inl ⟨_, rfl⟩)).2 (fun rv5 pq8 => ⟨90, (zp2 (Nat.le_refl _)), ?_⟩)
  have W15 := W14.putr pq8 ty11 (fun qr => by rw [ty11.2] at qr; cases qr) rfl (by decide)
  have F13 := F12.putr X6 pq8 ty11 rfl
  have rp1 : rv1 a0 4 = (some qn1) := by rw [pq1]; exact upr_s
  have re1 : rvn2 a0 4 = rv1 a0 4 := (by rw [hrn2]; exact congrFun (up0_a (ne_in ty2.1 hqn2)) _)
  rw [rp1] at re1
  have re2 : rvh2 a0 4 = rvn2 a0 4 := (fl2.r ty3 rfl 4)
  rw [re1] at re2
  have re3 : rv2 a0 4 = rvh2 a0 4 := (by rw [pq2]; exact upr_j (by decide))
  rw [re2] at re3
  have re4 : rvn3 a0 4 = rv2 a0 4 := (by rw [hrn3]; exact congrFun (up0_a (ne_in ty7.1 hqn3)) _)
  rw [re3] at re4
  have re5 : rv3 a0 4 = rvn3 a0 4 := (by rw [pq3]; exact upr_j (by decide))
  rw [re4] at re5
  have re6 : rv4 a0 4 = rv3 a0 4 := (by rw [pq7]; exact upr_j (by decide))
  rw [re5] at re6
  have re7 : rv5 a0 4 = rv4 a0 4 := (by rw [pq8]; exact upr_j (by decide))
  rw [re6] at re7
  have rp2 : rv2 a0 5 = (some qn2) := by rw [pq2]; exact upr_s
  have re8 : rvn3 a0 5 = rv2 a0 5 := (by rw [hrn3]; exact congrFun (up0_a (ne_in ty7.1 hqn3)) _)
  rw [rp2] at re8
  have re9 : rv3 a0 5 = rvn3 a0 5 := (by rw [pq3]; exact upr_j (by decide))
  rw [re8] at re9
  have re10 : rv4 a0 5 = rv3 a0 5 := (by rw [pq7]; exact upr_j (by decide))
  rw [re9] at re10
  have re11 : rv5 a0 5 = rv4 a0 5 := (by rw [pq8]; exact upr_j (by decide))
  rw [re10] at re11
  have rp3 : rv3 a0 6 = (some qn3) := by rw [pq3]; exact upr_s
  have re12 : rv4 a0 6 = rv3 a0 6 := (by rw [pq7]; exact upr_j (by decide))
  rw [rp3] at re12
  have re13 : rv5 a0 6 = rv4 a0 6 := (by rw [pq8]; exact upr_j (by decide))
  rw [re12] at re13
  have rn3 : ∀ k, ([2, 3, 4, 5, 6] : List Nat).contains k = false → rv5 a0 k = rv a0 k := fun k hk => (Eq.trans (show rv5 a0 k = rv4 a0 k from (by rw [pq8]; exact upr_j (fun e => by subst e; exact absurd hk (by decide)))) (Eq.trans (show rv4 a0 k = rv3 a0 k from (by rw [pq7]; exact upr_j (fun e => by subst e; exact absurd hk (by decide)))) (Eq.trans (show rv3 a0 k = rvn3 a0 k from (by rw [pq3]; exact upr_j (fun e => by subst e; exact absurd hk (by decide)))) (Eq.trans (show rvn3 a0 k = rv2 a0 k from (by rw [hrn3]; exact congrFun (up0_a (ne_in ty7.1 hqn3)) _)) (Eq.trans (show rv2 a0 k = rvh2 a0 k from (by rw [pq2]; exact upr_j (fun e => by subst e; exact absurd hk (by decide)))) (Eq.trans (show rvh2 a0 k = rvn2 a0 k from (fl2.r ty3 rfl k)) (Eq.trans (show rvn2 a0 k = rv1 a0 k from (by rw [hrn2]; exact congrFun (up0_a (ne_in ty2.1 hqn2)) _)) (Eq.trans (show rv1 a0 k = rvh1 a0 k from (by rw [pq1]; exact upr_j (fun e => by subst e; exact absurd hk (by decide)))) (Eq.trans (show rvh1 a0 k = rvn1 a0 k from (fl1.r ty1 rfl k)) (show rvn1 a0 k = rv a0 k from (by rw [hrn1]; exact congrFun (up0_a (ne_in t_a0.1 hqn1)) _)))))))))))
  have ty12 := xl5.ty ty9
  have ty13 := xl5.ty tqr2
  have rp4 : rv4 a0 2 = r := by rw [pq7]; exact upr_s
  have re14 : rv5 a0 2 = rv4 a0 2 := (by rw [pq8]; exact upr_j (by decide))
  rw [rp4] at re14
  have rp5 : rv5 a0 3 = r2 := by rw [pq8]; exact upr_s
  have ri3 : (-2147483648) ≤ iv3 a0 7 ∧ iv3 a0 7 ≤ 2147483647 := W15.int ty11 7
  have ie2 : iv3 a0 7 = iv2 a0 7 := by rw [pq6]; exact up2_j (by decide)
  have ie3 : iv2 a0 7 = iv1 a0 7 := by rw [pq5]; exact up2_j (by decide)
  have ie4 : iv1 a0 7 = 0 := by rw [pq4]; exact up2_s
  have ri4 : (-2147483648) ≤ iv3 a0 0 ∧ iv3 a0 0 ≤ 2147483647 := W15.int ty11 0
  have ie5 : iv3 a0 0 = iv2 a0 0 := by rw [pq6]; exact up2_j (by decide)
  have ie6 : iv2 a0 0 = i := by rw [pq5]; exact up2_s
  have ri5 : (-2147483648) ≤ iv3 a0 1 ∧ iv3 a0 1 ≤ 2147483647 := W15.int ty11 1
  have ie7 : iv3 a0 1 = n := by rw [pq6]; exact up2_s
  exact c_vret C dX9_init_63 rfl (by decide) (rom0 hph (Nat.le_refl 0) (by decide)) ⟨rfl, X6, F13, W15, ⟨qn1, qn2, qn3, rn3, re7, ty12, re11, ty13, re13, tqn3, re14, rp5, (by omega), (by omega), (by omega)⟩⟩
set_option maxHeartbeats 4000000 in
set_option maxRecDepth 100000 in
theorem C_mayHave {l : Launch} {G : GT} {mi : Nat} {sk : Nat → Nat} {L : List Nat} {cl ln : Nat → Nat} {iv : Nat → Nat → Int} {rv : Nat → Nat → Option Nat}  {a0 : Nat} {i : Int} (hW : WT (g0 G) sk L cl ln iv rv) (hS : SKL sk L cl) (t_a0 : ty L cl a0 100) (h_i : -2147483648 ≤ i ∧ i ≤ 2147483647)  : Mc l G mi (Phi (g0 G) sk) PHM yX9_mayHave cX9_mayHave 2 (some .boolean) 0 [.ref a0, .int (iI i)] L cl ln iv rv 0 (fun v L2 cl2 ln2 iv2 rv2 => ∃ f : Int, v = some (.int (iI f)) ∧ L = L2 ∧ cl = cl2 ∧ ln = ln2 ∧ iv = iv2 ∧ rv = rv2 ∧ (f = 0 ∨ f = 1) ∧ (True)) := by
  refine Mc.mk (by decide) (Nat.le_of_ble_eq_true rfl) ?_
  intro p e s m args below meth c A C hM
  have hph := Phi.le hW hS
  have hX0 : XT L cl ln L cl ln := XT.refl
  have hF0 : fT [] L cl iv rv iv rv := fT.refl
  refine c_iload_n (j := 1) C dX9_mayHave_0 rfl ?_
  refine c_if_ne (tgt := 18) C ⟨by omega, by omega⟩ dX9_mayHave_1 (by decide) (fun c1 => ?_) (fun c1 => ?_)
  · refine c_iload_n (j := 1) C dX9_mayHave_18 rfl ?_
    refine c_iconst C dX9_mayHave_19 ?_
    refine c_icmp_ne (tgt := 39) C ⟨by omega, by omega⟩ ⟨by decide, by decide⟩ dX9_mayHave_20 (by decide) (fun c2 => ?_) (fun c2 => ?_)
    · refine c_aload_n (j := 0) (x := a0) C dX9_mayHave_39 rfl ?_
      have ri1 : (-2147483648) ≤ iv a0 0 ∧ iv a0 0 ≤ 2147483647 := hW.int t_a0 0
      refine c_get (k := 0) C ck_10 dX9_mayHave_40 w2_174 (by decide) t_a0 rfl rfl (by decide) rfl ?_
      refine c_iconst C dX9_mayHave_43 ?_
      refine c_icmp_ne (tgt := 51) C ⟨by omega, by omega⟩ ⟨by decide, by decide⟩ dX9_mayHave_44 (by decide) (fun c3 => ?_) (fun c3 => ?_)
      · refine c_iconst C dX9_mayHave_51 ?_
        exact c_zret C dX9_mayHave_52 rfl (Or.inl rfl) (by decide) (rom0 hph hph (by decide)) ⟨0, rfl, rfl, rfl, rfl, rfl, rfl, (Or.inl rfl), trivial⟩
      · refine c_iconst C dX9_mayHave_47 ?_
        refine c_goto (tgt := 52) C dX9_mayHave_48 (by decide) ?_
        exact c_zret C dX9_mayHave_52 rfl (Or.inr rfl) (by decide) (rom0 hph hph (by decide)) ⟨1, rfl, rfl, rfl, rfl, rfl, rfl, (Or.inr rfl), trivial⟩
    · refine c_aload_n (j := 0) (x := a0) C dX9_mayHave_23 rfl ?_
      have ri2 : (-2147483648) ≤ iv a0 0 ∧ iv a0 0 ≤ 2147483647 := hW.int t_a0 0
      refine c_get (k := 0) C ck_10 dX9_mayHave_24 w2_174 (by decide) t_a0 rfl rfl (by decide) rfl ?_
      refine c_iconst C dX9_mayHave_27 ?_
      refine c_icmp_ne (tgt := 35) C ⟨by omega, by omega⟩ ⟨by decide, by decide⟩ dX9_mayHave_28 (by decide) (fun c4 => ?_) (fun c4 => ?_)
      · refine c_iconst C dX9_mayHave_35 ?_
        refine c_goto (tgt := 52) C dX9_mayHave_36 (by decide) ?_
        exact c_zret C dX9_mayHave_52 rfl (Or.inl rfl) (by decide) (rom0 hph hph (by decide)) ⟨0, rfl, rfl, rfl, rfl, rfl, rfl, (Or.inl rfl), trivial⟩
      · refine c_iconst C dX9_mayHave_31 ?_
        refine c_goto (tgt := 52) C dX9_mayHave_32 (by decide) ?_
        exact c_zret C dX9_mayHave_52 rfl (Or.inr rfl) (by decide) (rom0 hph hph (by decide)) ⟨1, rfl, rfl, rfl, rfl, rfl, rfl, (Or.inr rfl), trivial⟩
  · refine c_aload_n (j := 0) (x := a0) C dX9_mayHave_4 rfl ?_
    have ri3 : (-2147483648) ≤ iv a0 0 ∧ iv a0 0 ≤ 2147483647 := hW.int t_a0 0
    refine c_get (k := 0) C ck_10 dX9_mayHave_5 w2_174 (by decide) t_a0 rfl rfl (by decide) rfl ?_
    refine c_iconst C dX9_mayHave_8 ?_
    refine c_icmp_gt (tgt := 16) C ⟨by omega, by omega⟩ ⟨by decide, by decide⟩ dX9_mayHave_9 (by decide) (fun c5 => ?_) (fun c5 => ?_)
    · refine c_iconst C dX9_mayHave_16 ?_
      exact c_zret C dX9_mayHave_17 rfl (Or.inl rfl) (by decide) (rom0 hph hph (by decide)) ⟨0, rfl, rfl, rfl, rfl, rfl, rfl, (Or.inl rfl), trivial⟩
    · refine c_iconst C dX9_mayHave_12 ?_
      refine c_goto (tgt := 17) C dX9_mayHave_13 (by decide) ?_
      exact c_zret C dX9_mayHave_17 rfl (Or.inr rfl) (by decide) (rom0 hph hph (by decide)) ⟨1, rfl, rfl, rfl, rfl, rfl, rfl, (Or.inr rfl), trivial⟩
set_option maxHeartbeats 4000000 in
set_option maxRecDepth 100000 in
theorem C_isUpright {l : Launch} {G : GT} {mi : Nat} {sk : Nat → Nat} {L : List Nat} {cl ln : Nat → Nat} {iv : Nat → Nat → Int} {rv : Nat → Nat → Option Nat}  {r : Option Nat} (hW : WT (g0 G) sk L cl ln iv rv) (hS : SKL sk L cl) (t_r : ∀ b, r = some b → ty L cl b 100)  : Mc l G mi (Phi (g0 G) sk) PHM yX9_isUpright cX9_isUpright 2 (some .boolean) 0 [va_rf r] L cl ln iv rv 0 (fun v L2 cl2 ln2 iv2 rv2 => ∃ f : Int, v = some (.int (iI f)) ∧ L = L2 ∧ cl = cl2 ∧ ln = ln2 ∧ iv = iv2 ∧ rv = rv2 ∧ (f = 0 ∨ f = 1) ∧ (True)) := by
  refine Mc.mk (by decide) (by cases r <;> exact Nat.le_of_ble_eq_true rfl) ?_
  intro p e s m args below meth c A C hM
  have hph := Phi.le hW hS
  refine c_lveq (show lv_args 0 [va_rf r] = [(0, (va_rf r))] from by cases r <;> rfl) ?_
  have hX0 : XT L cl ln L cl ln := XT.refl
  have hF0 : fT [] L cl iv rv iv rv := fT.refl
  refine c_aloadr_n (j := 0) (r := r) C dX9_isUpright_0 rfl ?_
  refine c_astorer_n (r := r) (lv2 := [(1, (va_rf r)), (0, (va_rf r))]) C dX9_isUpright_1 (by decide) (by cases r <;> rfl) ?_
  have Lp1 : ∀ (nn : Nat) (tq : Option Nat) (rk : Int) , rk - 99 < (nn : Int) → (∀ b, tq = some b → ty L cl b 100) → (99 ≤ rk) → (∀ b, tq = some b → ((cl b : Nat) : Int) ≤ rk) → cw p l e 0 ((PHM) + 0 - ((Phi (g0 G) sk) ln rv)) s m args below meth c G A 2 (MQ below (Qu G A (Qp G (Phi (g0 G) sk) ((Phi (g0 G) sk) ln rv) 0 (fun v L2 cl2 ln2 iv2 rv2 => ∃ f : Int, v = some (.int (iI f)) ∧ L = L2 ∧ cl = cl2 ∧ ln = ln2 ∧ iv = iv2 ∧ rv = rv2 ∧ (f = 0 ∨ f = 1) ∧ (True)))) args s (((PHM) + 0 - ((Phi (g0 G) sk) ln rv)) / 16) ((PHM) + 0 - ((Phi (g0 G) sk) ln rv)) A) (Phi (g0 G) sk) ((Phi (g0 G) sk) ln rv) L cl ln iv rv 0 2 [(1, (va_rf tq)), (0, (va_rf r))] [] := by
    intro nn
    induction nn with
    | zero =>
      intro tq rk  hm  ty_tq h99 hrk
      exact absurd hm (by omega)
    | succ nn ih1 =>
      intro tq rk  hm  ty_tq h99 hrk
      refine c_aloadr_n (j := 0) (r := tq) C dX9_isUpright_2 rfl ?_
      refine c_ifnull (r := tq) (tgt := 23) C dX9_isUpright_3 (by decide) (fun oq1 => ?_) (fun ob1 oq1 => ?_)
      · subst oq1
        refine c_lv (lv2 := [(1, .null), (0, (va_rf r))]) [0, 1] rfl ?_
        refine c_st (st2 := []) rfl ?_
        refine c_iconst C dX9_isUpright_23 ?_
        exact c_zret C dX9_isUpright_24 rfl (Or.inr rfl) (by decide) (rom0 hph hph (by decide)) ⟨1, rfl, rfl, rfl, rfl, rfl, rfl, (Or.inr rfl), trivial⟩
      · subst oq1
        have tob1 := ty_tq ob1 rfl
        have hkob1 := hrk ob1 rfl
        have tgob1 := bt_100 tob1.2
        refine c_lv (lv2 := [(1, .ref ob1), (0, (va_rf r))]) [0, 1] rfl ?_
        refine c_st (st2 := []) rfl ?_
        refine c_aload_n (j := 0) (x := ob1) C dX9_isUpright_6 rfl ?_
        have ri1 : 0 ≤ iv ob1 7 ∧ iv ob1 7 ≤ 1 := hW.int tob1 7
        refine c_get (k := 7) C ck_10 dX9_isUpright_7 w2_197 (by decide) tob1 rfl rfl (by decide) rfl ?_
        refine c_if_eq (tgt := 15) C ⟨by omega, by omega⟩ dX9_isUpright_10 (by decide) (fun c1 => ?_) (fun c1 => ?_)
        · refine c_aload_n (j := 0) (x := ob1) C dX9_isUpright_15 rfl ?_
          rcases hW.opt tob1 2 rfl rfl with ⟨nq1, _⟩ | ⟨nb1, nq1, tnb1⟩
          · refine c_getr (k := 2) C ck_10 dX9_isUpright_16 w2_180 (by decide) tob1 rfl rfl (by decide) rfl nq1 ?_
            refine c_st (st2 := [.null]) rfl ?_
            refine c_astorer_n (r := none) (lv2 := [(1, .null), (0, (va_rf r))]) C dX9_isUpright_19 (by decide) (by cases r <;> rfl) ?_
            refine c_goto (tgt := 2) C dX9_isUpright_20 (by decide) ?_
            refine c_lv (lv2 := [(1, .null), (0, (va_rf r))]) [0, 1] rfl ?_
            exact ih1  none (rk - 1)  (by omega)  (fun _ q => by cases q) (by omega) (fun _ q => by cases q)
          · have rknb1 := hW.rank tob1 (k := 2) (by decide) nq1
            refine c_getr (k := 2) C ck_10 dX9_isUpright_16 w2_180 (by decide) tob1 rfl rfl (by decide) rfl nq1 ?_
            refine c_st (st2 := [.ref nb1]) rfl ?_
            refine c_astore_n (lv2 := [(1, .ref nb1), (0, (va_rf r))]) C dX9_isUpright_19 (by decide) (by cases r <;> rfl) ?_
            refine c_goto (tgt := 2) C dX9_isUpright_20 (by decide) ?_
            have trnb1 := bt_100 tnb1.2
            refine c_lv (lv2 := [(1, .ref nb1), (0, (va_rf r))]) [0, 1] rfl ?_
            exact ih1  (some nb1) (rk - 1)  (by omega)  (fun _ q => by cases q; exact tnb1) (by omega) (fun _ q => by cases q; omega)
        · refine c_iconst C dX9_isUpright_13 ?_
          exact c_zret C dX9_isUpright_14 rfl (Or.inl rfl) (by decide) (rom0 hph hph (by decide)) ⟨0, rfl, rfl, rfl, rfl, rfl, rfl, (Or.inl rfl), trivial⟩
  refine c_lv (lv2 := [(1, (va_rf r)), (0, (va_rf r))]) [0, 1] rfl ?_
  exact Lp1 31 r 129  (by omega)  t_r (by omega) (fun b q => by have q2 := bt_100 (t_r b q).2; omega)
set_option maxHeartbeats 4000000 in
set_option maxRecDepth 100000 in
theorem C_isOverShort {l : Launch} {G : GT} {mi : Nat} {sk : Nat → Nat} {L : List Nat} {cl ln : Nat → Nat} {iv : Nat → Nat → Int} {rv : Nat → Nat → Option Nat}  {r : Option Nat} (hW : WT (g0 G) sk L cl ln iv rv) (hS : SKL sk L cl) (t_r : ∀ b, r = some b → ty L cl b 100)  : Mc l G mi (Phi (g0 G) sk) PHM yX9_isOverShort cX9_isOverShort 2 (some .boolean) 0 [va_rf r] L cl ln iv rv 0 (fun v L2 cl2 ln2 iv2 rv2 => ∃ f : Int, v = some (.int (iI f)) ∧ L = L2 ∧ cl = cl2 ∧ ln = ln2 ∧ iv = iv2 ∧ rv = rv2 ∧ (f = 0 ∨ f = 1) ∧ (True)) := by
  refine Mc.mk (by decide) (by cases r <;> exact Nat.le_of_ble_eq_true rfl) ?_
  intro p e s m args below meth c A C hM
  have hph := Phi.le hW hS
  refine c_lveq (show lv_args 0 [va_rf r] = [(0, (va_rf r))] from by cases r <;> rfl) ?_
  have hX0 : XT L cl ln L cl ln := XT.refl
  have hF0 : fT [] L cl iv rv iv rv := fT.refl
  refine c_aloadr_n (j := 0) (r := r) C dX9_isOverShort_0 rfl ?_
  refine c_astorer_n (r := r) (lv2 := [(1, (va_rf r)), (0, (va_rf r))]) C dX9_isOverShort_1 (by decide) (by cases r <;> rfl) ?_
  have Lp1 : ∀ (nn : Nat) (tq : Option Nat) (rk : Int) , rk - 99 < (nn : Int) → (∀ b, tq = some b → ty L cl b 100) → (99 ≤ rk) → (∀ b, tq = some b → ((cl b : Nat) : Int) ≤ rk) → cw p l e 0 ((PHM) + 0 - ((Phi (g0 G) sk) ln rv)) s m args below meth c G A 2 (MQ below (Qu G A (Qp G (Phi (g0 G) sk) ((Phi (g0 G) sk) ln rv) 0 (fun v L2 cl2 ln2 iv2 rv2 => ∃ f : Int, v = some (.int (iI f)) ∧ L = L2 ∧ cl = cl2 ∧ ln = ln2 ∧ iv = iv2 ∧ rv = rv2 ∧ (f = 0 ∨ f = 1) ∧ (True)))) args s (((PHM) + 0 - ((Phi (g0 G) sk) ln rv)) / 16) ((PHM) + 0 - ((Phi (g0 G) sk) ln rv)) A) (Phi (g0 G) sk) ((Phi (g0 G) sk) ln rv) L cl ln iv rv 0 2 [(1, (va_rf tq)), (0, (va_rf r))] [] := by
    intro nn
    induction nn with
    | zero =>
      intro tq rk  hm  ty_tq h99 hrk
      exact absurd hm (by omega)
    | succ nn ih1 =>
      intro tq rk  hm  ty_tq h99 hrk
      refine c_aloadr_n (j := 0) (r := tq) C dX9_isOverShort_2 rfl ?_
      refine c_ifnull (r := tq) (tgt := 24) C dX9_isOverShort_3 (by decide) (fun oq1 => ?_) (fun ob1 oq1 => ?_)
      · subst oq1
        refine c_lv (lv2 := [(1, .null), (0, (va_rf r))]) [0, 1] rfl ?_
        refine c_st (st2 := []) rfl ?_
        refine c_iconst C dX9_isOverShort_24 ?_
        exact c_zret C dX9_isOverShort_25 rfl (Or.inl rfl) (by decide) (rom0 hph hph (by decide)) ⟨0, rfl, rfl, rfl, rfl, rfl, rfl, (Or.inl rfl), trivial⟩
      · subst oq1
        have tob1 := ty_tq ob1 rfl
        have hkob1 := hrk ob1 rfl
        have tgob1 := bt_100 tob1.2
        refine c_lv (lv2 := [(1, .ref ob1), (0, (va_rf r))]) [0, 1] rfl ?_
        refine c_st (st2 := []) rfl ?_
        refine c_aload_n (j := 0) (x := ob1) C dX9_isOverShort_6 rfl ?_
        have ri1 : (-2147483648) ≤ iv ob1 0 ∧ iv ob1 0 ≤ 2147483647 := hW.int tob1 0
        refine c_get (k := 0) C ck_10 dX9_isOverShort_7 w2_174 (by decide) tob1 rfl rfl (by decide) rfl ?_
        refine c_iconst C dX9_isOverShort_10 ?_
        refine c_icmp_ne (tgt := 16) C ⟨by omega, by omega⟩ ⟨by decide, by decide⟩ dX9_isOverShort_11 (by decide) (fun c1 => ?_) (fun c1 => ?_)
        · refine c_aload_n (j := 0) (x := ob1) C dX9_isOverShort_16 rfl ?_
          rcases hW.opt tob1 2 rfl rfl with ⟨nq1, _⟩ | ⟨nb1, nq1, tnb1⟩
          · refine c_getr (k := 2) C ck_10 dX9_isOverShort_17 w2_180 (by decide) tob1 rfl rfl (by decide) rfl nq1 ?_
            refine c_st (st2 := [.null]) rfl ?_
            refine c_astorer_n (r := none) (lv2 := [(1, .null), (0, (va_rf r))]) C dX9_isOverShort_20 (by decide) (by cases r <;> rfl) ?_
            refine c_goto (tgt := 2) C dX9_isOverShort_21 (by decide) ?_
            refine c_lv (lv2 := [(1, .null), (0, (va_rf r))]) [0, 1] rfl ?_
            exact ih1  none (rk - 1)  (by omega)  (fun _ q => by cases q) (by omega) (fun _ q => by cases q)
          · have rknb1 := hW.rank tob1 (k := 2) (by decide) nq1
            refine c_getr (k := 2) C ck_10 dX9_isOverShort_17 w2_180 (by decide) tob1 rfl rfl (by decide) rfl nq1 ?_
            refine c_st (st2 := [.ref nb1]) rfl ?_
            refine c_astore_n (lv2 := [(1, .ref nb1), (0, (va_rf r))]) C dX9_isOverShort_20 (by decide) (by cases r <;> rfl) ?_
            refine c_goto (tgt := 2) C dX9_isOverShort_21 (by decide) ?_
            have trnb1 := bt_100 tnb1.2
            refine c_lv (lv2 := [(1, .ref nb1), (0, (va_rf r))]) [0, 1] rfl ?_
            exact ih1  (some nb1) (rk - 1)  (by omega)  (fun _ q => by cases q; exact tnb1) (by omega) (fun _ q => by cases q; omega)
        · refine c_iconst C dX9_isOverShort_14 ?_
          exact c_zret C dX9_isOverShort_15 rfl (Or.inr rfl) (by decide) (rom0 hph hph (by decide)) ⟨1, rfl, rfl, rfl, rfl, rfl, rfl, (Or.inr rfl), trivial⟩
  refine c_lv (lv2 := [(1, (va_rf r)), (0, (va_rf r))]) [0, 1] rfl ?_
  exact Lp1 31 r 129  (by omega)  t_r (by omega) (fun b q => by have q2 := bt_100 (t_r b q).2; omega)
set_option maxHeartbeats 4000000 in
set_option maxRecDepth 100000 in
theorem C_tisWhole {l : Launch} {G : GT} {mi : Nat} {sk : Nat → Nat} {L : List Nat} {cl ln : Nat → Nat} {iv : Nat → Nat → Int} {rv : Nat → Nat → Option Nat}  {a0 : Nat} (hW : WT (g0 G) sk L cl ln iv rv) (hS : SKL sk L cl) (t_a0 : ty L cl a0 100)  : Mc l G mi (Phi (g0 G) sk) PHM yX9_isWhole cX9_isWhole 1 (some .boolean) 1 [.ref a0] L cl ln iv rv 0 (fun v L2 cl2 ln2 iv2 rv2 => ∃ f : Int, v = some (.int (iI f)) ∧ L = L2 ∧ cl = cl2 ∧ ln = ln2 ∧ iv = iv2 ∧ rv = rv2 ∧ (f = 0 ∨ f = 1) ∧ (True)) := by
  refine Mc.mk (by decide) (Nat.le_of_ble_eq_true rfl) ?_
  intro p e s m args below meth c A C hM
  have hph := Phi.le hW hS
  have hX0 : XT L cl ln L cl ln := XT.refl
  have hF0 : fT [] L cl iv rv iv rv := fT.refl
  refine c_aload_n (j := 0) (x := a0) C dX9_isWhole_0 rfl ?_
  refine d_callS (As := [.ref a0]) (rest := []) C hM (C_isUpright (r := (some a0)) hW hS (fun _ q => by cases q; exact t_a0)  ) dX9_isWhole_1 kS_X9_76 rfl rfl (Nat.le_of_ble_eq_true rfl) ⟨(Nat.le_of_ble_eq_true rfl), (Nat.le_of_ble_eq_true rfl)⟩ hph hph (show 0 + 0 = 0 from rfl) (by decide) (fun rh1 Lh1 clh1 lnh1 ivh1 rvh1 h1 => ?_)
  obtain ⟨f1, rfl, rfl, rfl, rfl, rfl, rfl, rgf1, exf1⟩ := h1
  refine c_st (st2 := [.int (iI f1)]) rfl ?_
  refine c_if_eq (tgt := 21) C ⟨by omega, by omega⟩ dX9_isWhole_4 (by decide) (fun c1 => ?_) (fun c1 => ?_)
  · refine c_iconst C dX9_isWhole_21 ?_
    exact c_zret C dX9_isWhole_22 rfl (Or.inl rfl) (by decide) (rom0 hph hph (by decide)) ⟨0, rfl, rfl, rfl, rfl, rfl, rfl, (Or.inl rfl), trivial⟩
  · refine c_aload_n (j := 0) (x := a0) C dX9_isWhole_7 rfl ?_
    rcases hW.opt t_a0 3 rfl rfl with ⟨nq1, _⟩ | ⟨nb1, nq1, tnb1⟩
    · refine c_getr (k := 3) C ck_10 dX9_isWhole_8 w2_183 (by decide) t_a0 rfl rfl (by decide) rfl nq1 ?_
      refine c_st (st2 := [.null]) rfl ?_
      refine d_callS (As := [.null]) (rest := []) C hM (C_isUpright (r := none) hW hS (fun _ q => by cases q)  ) dX9_isWhole_11 kS_X9_76 rfl rfl (Nat.le_of_ble_eq_true rfl) ⟨(Nat.le_of_ble_eq_true rfl), (Nat.le_of_ble_eq_true rfl)⟩ hph hph (show 0 + 0 = 0 from rfl) (by decide) (fun rh2 Lh2 clh2 lnh2 ivh2 rvh2 h2 => ?_)
      obtain ⟨f2, rfl, rfl, rfl, rfl, rfl, rfl, rgf2, exf2⟩ := h2
      refine c_st (st2 := [.int (iI f2)]) rfl ?_
      refine c_if_eq (tgt := 21) C ⟨by omega, by omega⟩ dX9_isWhole_14 (by decide) (fun c2 => ?_) (fun c2 => ?_)
      · refine c_iconst C dX9_isWhole_21 ?_
        exact c_zret C dX9_isWhole_22 rfl (Or.inl rfl) (by decide) (rom0 hph hph (by decide)) ⟨0, rfl, rfl, rfl, rfl, rfl, rfl, (Or.inl rfl), trivial⟩
      · refine c_iconst C dX9_isWhole_17 ?_
        refine c_goto (tgt := 22) C dX9_isWhole_18 (by decide) ?_
        exact c_zret C dX9_isWhole_22 rfl (Or.inr rfl) (by decide) (rom0 hph hph (by decide)) ⟨1, rfl, rfl, rfl, rfl, rfl, rfl, (Or.inr rfl), trivial⟩
    · have rknb1 := hW.rank t_a0 (k := 3) (by decide) nq1
      refine c_getr (k := 3) C ck_10 dX9_isWhole_8 w2_183 (by decide) t_a0 rfl rfl (by decide) rfl nq1 ?_
      refine c_st (st2 := [.ref nb1]) rfl ?_
      refine d_callS (As := [.ref nb1]) (rest := []) C hM (C_isUpright (r := (some nb1)) hW hS (fun _ q => by cases q; exact tnb1)  ) dX9_isWhole_11 kS_X9_76 rfl rfl (Nat.le_of_ble_eq_true rfl) ⟨(Nat.le_of_ble_eq_true rfl), (Nat.le_of_ble_eq_true rfl)⟩ hph hph (show 0 + 0 = 0 from rfl) (by decide) (fun rh3 Lh3 clh3 lnh3 ivh3 rvh3 h3 => ?_)
      obtain ⟨f3, rfl, rfl, rfl, rfl, rfl, rfl, rgf3, exf3⟩ := h3
      refine c_st (st2 := [.int (iI f3)]) rfl ?_
      refine c_if_eq (tgt := 21) C ⟨by omega, by omega⟩ dX9_isWhole_14 (by decide) (fun c3 => ?_) (fun c3 => ?_)
      · refine c_iconst C dX9_isWhole_21 ?_
        exact c_zret C dX9_isWhole_22 rfl (Or.inl rfl) (by decide) (rom0 hph hph (by decide)) ⟨0, rfl, rfl, rfl, rfl, rfl, rfl, (Or.inl rfl), trivial⟩
      · refine c_iconst C dX9_isWhole_17 ?_
        refine c_goto (tgt := 22) C dX9_isWhole_18 (by decide) ?_
        exact c_zret C dX9_isWhole_22 rfl (Or.inr rfl) (by decide) (rom0 hph hph (by decide)) ⟨1, rfl, rfl, rfl, rfl, rfl, rfl, (Or.inr rfl), trivial⟩
set_option maxHeartbeats 4000000 in
set_option maxRecDepth 100000 in
theorem C_hasShort {l : Launch} {G : GT} {mi : Nat} {sk : Nat → Nat} {L : List Nat} {cl ln : Nat → Nat} {iv : Nat → Nat → Int} {rv : Nat → Nat → Option Nat}  {a0 : Nat} (hW : WT (g0 G) sk L cl ln iv rv) (hS : SKL sk L cl) (t_a0 : ty L cl a0 100)  : Mc l G mi (Phi (g0 G) sk) PHM yX9_hasShort cX9_hasShort 1 (some .boolean) 1 [.ref a0] L cl ln iv rv 0 (fun v L2 cl2 ln2 iv2 rv2 => ∃ f : Int, v = some (.int (iI f)) ∧ L = L2 ∧ cl = cl2 ∧ ln = ln2 ∧ iv = iv2 ∧ rv = rv2 ∧ (f = 0 ∨ f = 1) ∧ (True)) := by
  refine Mc.mk (by decide) (Nat.le_of_ble_eq_true rfl) ?_
  intro p e s m args below meth c A C hM
  have hph := Phi.le hW hS
  have hX0 : XT L cl ln L cl ln := XT.refl
  have hF0 : fT [] L cl iv rv iv rv := fT.refl
  refine c_aload_n (j := 0) (x := a0) C dX9_hasShort_0 rfl ?_
  refine d_callS (As := [.ref a0]) (rest := []) C hM (C_isOverShort (r := (some a0)) hW hS (fun _ q => by cases q; exact t_a0)  ) dX9_hasShort_1 kS_X9_80 rfl rfl (Nat.le_of_ble_eq_true rfl) ⟨(Nat.le_of_ble_eq_true rfl), (Nat.le_of_ble_eq_true rfl)⟩ hph hph (show 0 + 0 = 0 from rfl) (by decide) (fun rh1 Lh1 clh1 lnh1 ivh1 rvh1 h1 => ?_)
  obtain ⟨f1, rfl, rfl, rfl, rfl, rfl, rfl, rgf1, exf1⟩ := h1
  refine c_st (st2 := [.int (iI f1)]) rfl ?_
  refine c_if_ne (tgt := 17) C ⟨by omega, by omega⟩ dX9_hasShort_4 (by decide) (fun c1 => ?_) (fun c1 => ?_)
  · refine c_iconst C dX9_hasShort_17 ?_
    refine c_goto (tgt := 22) C dX9_hasShort_18 (by decide) ?_
    exact c_zret C dX9_hasShort_22 rfl (Or.inr rfl) (by decide) (rom0 hph hph (by decide)) ⟨1, rfl, rfl, rfl, rfl, rfl, rfl, (Or.inr rfl), trivial⟩
  · refine c_aload_n (j := 0) (x := a0) C dX9_hasShort_7 rfl ?_
    rcases hW.opt t_a0 3 rfl rfl with ⟨nq1, _⟩ | ⟨nb1, nq1, tnb1⟩
    · refine c_getr (k := 3) C ck_10 dX9_hasShort_8 w2_183 (by decide) t_a0 rfl rfl (by decide) rfl nq1 ?_
      refine c_st (st2 := [.null]) rfl ?_
      refine d_callS (As := [.null]) (rest := []) C hM (C_isOverShort (r := none) hW hS (fun _ q => by cases q)  ) dX9_hasShort_11 kS_X9_80 rfl rfl (Nat.le_of_ble_eq_true rfl) ⟨(Nat.le_of_ble_eq_true rfl), (Nat.le_of_ble_eq_true rfl)⟩ hph hph (show 0 + 0 = 0 from rfl) (by decide) (fun rh2 Lh2 clh2 lnh2 ivh2 rvh2 h2 => ?_)
      obtain ⟨f2, rfl, rfl, rfl, rfl, rfl, rfl, rgf2, exf2⟩ := h2
      refine c_st (st2 := [.int (iI f2)]) rfl ?_
      refine c_if_eq (tgt := 21) C ⟨by omega, by omega⟩ dX9_hasShort_14 (by decide) (fun c2 => ?_) (fun c2 => ?_)
      · refine c_iconst C dX9_hasShort_21 ?_
        exact c_zret C dX9_hasShort_22 rfl (Or.inl rfl) (by decide) (rom0 hph hph (by decide)) ⟨0, rfl, rfl, rfl, rfl, rfl, rfl, (Or.inl rfl), trivial⟩
      · refine c_iconst C dX9_hasShort_17 ?_
        refine c_goto (tgt := 22) C dX9_hasShort_18 (by decide) ?_
        exact c_zret C dX9_hasShort_22 rfl (Or.inr rfl) (by decide) (rom0 hph hph (by decide)) ⟨1, rfl, rfl, rfl, rfl, rfl, rfl, (Or.inr rfl), trivial⟩
    · have rknb1 := hW.rank t_a0 (k := 3) (by decide) nq1
      refine c_getr (k := 3) C ck_10 dX9_hasShort_8 w2_183 (by decide) t_a0 rfl rfl (by decide) rfl nq1 ?_
      refine c_st (st2 := [.ref nb1]) rfl ?_
      refine d_callS (As := [.ref nb1]) (rest := []) C hM (C_isOverShort (r := (some nb1)) hW hS (fun _ q => by cases q; exact tnb1)  ) dX9_hasShort_11 kS_X9_80 rfl rfl (Nat.le_of_ble_eq_true rfl) ⟨(Nat.le_of_ble_eq_true rfl), (Nat.le_of_ble_eq_true rfl)⟩ hph hph (show 0 + 0 = 0 from rfl) (by decide) (fun rh3 Lh3 clh3 lnh3 ivh3 rvh3 h3 => ?_)
      obtain ⟨f3, rfl, rfl, rfl, rfl, rfl, rfl, rgf3, exf3⟩ := h3
      refine c_st (st2 := [.int (iI f3)]) rfl ?_
      refine c_if_eq (tgt := 21) C ⟨by omega, by omega⟩ dX9_hasShort_14 (by decide) (fun c3 => ?_) (fun c3 => ?_)
      · refine c_iconst C dX9_hasShort_21 ?_
        exact c_zret C dX9_hasShort_22 rfl (Or.inl rfl) (by decide) (rom0 hph hph (by decide)) ⟨0, rfl, rfl, rfl, rfl, rfl, rfl, (Or.inl rfl), trivial⟩
      · refine c_iconst C dX9_hasShort_17 ?_
        refine c_goto (tgt := 22) C dX9_hasShort_18 (by decide) ?_
        exact c_zret C dX9_hasShort_22 rfl (Or.inr rfl) (by decide) (rom0 hph hph (by decide)) ⟨1, rfl, rfl, rfl, rfl, rfl, rfl, (Or.inr rfl), trivial⟩
