def MRK (sk cl : Nat → Nat) (iv : Nat → Nat → Int) (rv : Nat → Nat → Option Nat) : Prop := ∀ i : Nat, (i : Int) < iv (sk 22) 2 → ∀ t, el rv (sk 22) i = some t → cl t ≤ 100 + i
set_option maxHeartbeats 4000000 in
set_option maxRecDepth 100000 in
theorem Z_table {l : Launch} {G : GT} {mi : Nat} {sk : Nat → Nat} {L : List Nat} {cl ln : Nat → Nat} {iv : Nat → Nat → Int} {rv : Nat → Nat → Option Nat}  {a0 : Nat} {i : Int} {n : Int} {r : Option Nat} {r2 : Option Nat} (hW : WT (g0 G) sk L cl ln iv rv) (hS : SKL sk L cl) (t_a0 : ty L cl a0 210) (t_r : ∀ b, r = some b → ty L cl b 100) (t_r2 : ∀ b, r2 = some b → ty L cl b 100) (h_i : -2147483648 ≤ i ∧ i ≤ 2147483647) (h_n : -2147483648 ≤ n ∧ n ≤ 2147483647)  : Mc l G mi zPf 0 yX9_init cX9_init 5 none 4 [.ref a0, .int (iI i), .int (iI n), va_rf r, va_rf r2] L cl ln iv rv 90 (fun v L2 cl2 ln2 iv2 rv2 => v = none ∧ XT L cl ln L2 cl2 ln2 ∧ fT [210, 200, 202] L cl iv rv iv2 rv2 ∧ WT (g0 G) sk L2 cl2 ln2 iv2 rv2 ∧ (∃ b4 b5 b6, (∀ k, ([2, 3, 4, 5, 6] : List Nat).contains k = false → rv2 a0 k = rv a0 k) ∧ rv2 a0 4 = some b4 ∧ ty L2 cl2 b4 26 ∧ rv2 a0 5 = some b5 ∧ ty L2 cl2 b5 12 ∧ rv2 a0 6 = some b6 ∧ ty L2 cl2 b6 68 ∧ rv2 a0 2 = r ∧ rv2 a0 3 = r2 ∧ iv2 a0 7 = 0 ∧ iv2 a0 0 = i ∧ iv2 a0 1 = n ∧ b4 ∉ L ∧ iv2 b4 2 = 0 ∧ b5 ∉ L ∧ b6 ∉ L ∧ (∃ x5, rv2 b5 1 = some x5 ∧ ty L2 cl2 x5 42 ∧ x5 ∉ L) ∧ iv2 b5 2 = 0 ∧ (∀ k, rv2 b6 k = none))) := by
  refine Mc.mk (by decide) (by cases r <;> cases r2 <;> exact Nat.le_of_ble_eq_true rfl) ?_
  intro p e s m args below meth c A C hM
  have hph := (show zPf ln rv ≤ 0 from Nat.le_refl 0)
  refine c_lveq (show lv_args 0 [.ref a0, .int (iI i), .int (iI n), va_rf r, va_rf r2] = [(0, .ref a0), (1, .int (iI i)), (2, .int (iI n)), (3, (va_rf r)), (4, (va_rf r2))] from by cases r <;> cases r2 <;> rfl) ?_
  refine hv2 (show XT L cl ln L cl ln from XT.refl) (show fT [210, 200, 202] L cl iv rv iv rv from fT.refl) (fun hX0 hF0 => ?_)
  refine c_aload_n (j := 0) (x := a0) C dX9_init_0 rfl ?_
  refine c_objInit C dX9_init_1 w2_167 w1_30 w1_31 (by decide) (Nat.le_of_ble_eq_true rfl) ?_
  refine c_aload_n (j := 0) (x := a0) C dX9_init_4 rfl ?_
  refine c_new C ck_0 dv_0 ⟨rfl, rfl⟩ rfl (by decide) dX9_init_5 w2_168 w1_65 w1_6 (rom2 hph hph (by decide)) (fun qn1 cln1 lnn1 ivn1 rvn1 hqn1 hcn1 hln1 hin1 hrn1 => ⟨19, (z_in (by omega)), ?_⟩)
  refine c_g0 C (fun hg1 => ?_)
  refine hv4 (show ∀ b, b ≠ qn1 → lnn1 b = ln b from (fun b _ => by rw [hln1])) (hF0.new hX0 hqn1 hin1 hrn1) (show ty (L ++ [qn1]) cln1 qn1 200 from ty_new hcn1) (show qn1 ∉ L from fun h => hqn1 ((hX0 qn1 h).1)) (fun hxn1 F1 tqn1 h0qn1 => ?_)
  refine hv2 (hW.new (ln2 := lnn1) hqn1 (hg1 qn1 (List.mem_append_right _ List.mem_cons_self)) hcn1 hxn1 hin1 hrn1 (fun _ => ⟨(show (-2147483648 : Int) ≤ 0 by decide), (show (0 : Int) ≤ 2147483647 by decide)⟩) (Or.inl rfl) (fun q => by cases q) rfl rfl) (XT.new hqn1 hcn1 hxn1) (fun W1 xl1 => ?_)
  refine hv2 (hX0.trans xl1) (xl1.skl hS) (fun X1 sk1 => ?_)
  refine c_dup C dX9_init_8 rfl ?_
  refine hv2 (show (-2147483648) ≤ ivn1 qn1 2 ∧ ivn1 qn1 2 ≤ 2147483647 from W1.int tqn1 2) (show ivn1 qn1 2 = 0 from by rw [hin1]; exact up0_s) (fun ri1 ie1 => ?_)
  refine c_callI (As := []) (rest := [.ref qn1, .ref a0]) C hM (Z_list (a0 := qn1) W1 sk1 tqn1  ) dX9_init_9 kI_X9_11 rfl rfl (Nat.le_of_ble_eq_true rfl) ⟨(Nat.le_of_ble_eq_true rfl), (Nat.le_of_ble_eq_true rfl)⟩ (rz0 hph (by decide)) (fun rh1 Lh1 clh1 lnh1 ivh1 rvh1 h1 => ⟨19, zk0, ?_⟩)
  obtain ⟨rfl, rfl, rfl, rfl, fl1, W2, exf1⟩ := h1
  have F2 := F1.call X1 fl1 rfl
  refine c_st (st2 := [.ref qn1, .ref a0]) rfl ?_
  refine hv3 (exf1.2.1) (show (-2147483648) ≤ ivh1 qn1 2 ∧ ivh1 qn1 2 ≤ 2147483647 from W2.int tqn1 2) (show ∀ k, ([1] : List Nat).contains k = false → rvh1 qn1 k = none from fun k hk => (Eq.trans (show rvh1 qn1 k = rvn1 qn1 k from (exf1.2.2 k hk)) (show rvn1 qn1 k = none from (by rw [hrn1]; exact up0_s)))) (fun exf1s ri2 rn1 => ?_)
  refine c_retag (q := qn1) (t := 26) (by rw [tqn1.2]; rfl) (fun clr1 hcr1 => ?_)
  refine hv2 (xl1.ty t_a0) (show ty (L ++ [qn1]) clr1 qn1 26 from ⟨tqn1.1, by rw [hcr1, va_up_self]; rfl⟩) (fun ty1 tqr1 => ?_)
  have ty2 := ty_rt ty1 hcr1 (ne_ty ty1 tqn1 (by decide))
  have W3 := W2.retag tqn1.1 (by rw [tqn1.2]; rfl) hcr1 (fun k => by
        rcases k with _ | _ | _ | k
        · exact W2.int tqn1 0
        · exact W2.int tqn1 1
        · exact ⟨(by show 0 ≤ ivh1 qn1 2; first | exact bx_lo ‹ivh1 qn1 2 = _› (by decide) | omega), (by show ivh1 qn1 2 ≤ 200; first | exact bx_hi ‹ivh1 qn1 2 = _› (by decide) | omega)⟩
        · exact W2.int tqn1 (k + 3)) (fun k => by
        rcases k with _ | _ | _ | k
        · rw [rn1 0 (by decide)]; exact rok_none tqr1 rfl
        · rw [exf1.1]; exact rok_lst tqr1 rfl
        · rw [rn1 2 (by decide)]; exact rok_none tqr1 rfl
        · rw [rn1 (k + 3) (by simp)]; exact rok_none tqr1 rfl) rfl (fun _ b hb => by rw [exf1.1] at hb; cases hb; exact Or.inl ⟨rfl, by omega⟩) (fun _ b hb i hi => absurd hi (by omega)) rfl
  refine hv4 (X1.rt hcr1 h0qn1) (sk1.rt hcr1 (by rw [tqn1.2]; rfl)) (fun b hb => xl1.ty (t_r b hb)) (fun b hb => xl1.ty (t_r2 b hb)) (fun X2 sk2 on1 on3 => ?_)
  refine hv2 (fun b hb => ty_rt (on1 b hb) hcr1 (ne_ty (on1 b hb) tqn1 (by decide))) (fun b hb => ty_rt (on3 b hb) hcr1 (ne_ty (on3 b hb) tqn1 (by decide))) (fun on2 on4 => ?_)
  refine c_putrF (x := (some qn1)) (k := 4) C ck_10 dX9_init_12 w2_186 (by decide) rfl rfl rfl ty2 rfl rfl (by decide) rfl (by rfl) (by rfl) (fun rv1 pq1 => ⟨19, (zp2 (Nat.le_refl _)), ?_⟩)
  refine hv2 (W3.putr pq1 ty2 (fun qr => by rw [ty2.2] at qr; cases qr) rfl (by decide)) (F2.putr X2 pq1 ty2 rfl) (fun W4 F3 => ?_)
  refine c_aload_n (j := 0) (x := a0) C dX9_init_15 rfl ?_
  refine c_new C ck_2 dv_2 ⟨rfl, rfl⟩ rfl (by decide) dX9_init_16 w2_170 w1_33 w1_2 (rom2 hph (Nat.le_refl 0) (by decide)) (fun qn2 cln2 lnn2 ivn2 rvn2 hqn2 hcn2 hln2 hin2 hrn2 => ⟨38, (z_in (by omega)), ?_⟩)
  refine c_g0 C (fun hg2 => ?_)
  refine hv4 (show ∀ b, b ≠ qn2 → lnn2 b = lnn1 b from (fun b _ => by rw [hln2])) (F3.new X2 hqn2 hin2 hrn2) (show ty ((L ++ [qn1]) ++ [qn2]) cln2 qn2 202 from ty_new hcn2) (show qn2 ∉ L from fun h => hqn2 ((X2 qn2 h).1)) (fun hxn2 F4 tqn2 h0qn2 => ?_)
  refine hv2 (W4.new (ln2 := lnn2) hqn2 (hg2 qn2 (List.mem_append_right _ List.mem_cons_self)) hcn2 hxn2 hin2 hrn2 (fun _ => ⟨(show (-2147483648 : Int) ≤ 0 by decide), (show (0 : Int) ≤ 2147483647 by decide)⟩) (Or.inl rfl) (fun q => by cases q) rfl rfl) (XT.new hqn2 hcn2 hxn2) (fun W5 xl3 => ?_)
  refine hv2 (X2.trans xl3) (xl3.skl sk2) (fun X3 sk3 => ?_)
  refine c_dup C dX9_init_19 rfl ?_
  refine c_sipush (z := 200) C dX9_init_20 (by decide) ?_
  refine c_callI (As := [.int (iI 200)]) (rest := [.ref qn2, .ref a0]) C hM (Z_ints_12 (a0 := qn2) (i := 200) W5 sk3 tqn2 ⟨by decide, by decide⟩ ) dX9_init_23 kI_X9_20 rfl rfl (Nat.le_of_ble_eq_true rfl) ⟨(Nat.le_of_ble_eq_true rfl), (Nat.le_of_ble_eq_true rfl)⟩ (rz0 hph (by decide)) (fun rh2 Lh2 clh2 lnh2 ivh2 rvh2 h2 => ⟨70, zk0, ?_⟩)
  obtain ⟨rfl, xl4, fl2, W6, exf2⟩ := h2
  refine hv5 (F4.call X3 fl2 rfl) (xl3.ty ty2) (xl3.ty tqr1) (X3.trans xl4) (xl4.skl sk3) (fun F5 ty3 ty4 X4 sk4 => ?_)
  refine c_st (st2 := [.ref qn2, .ref a0]) rfl ?_
  obtain ⟨bexf2, exf2x, exf2r, exf2t, exf2l, exf2i, exf2j, exf2n⟩ := exf2
  refine hv2 (show ∀ k, ([1] : List Nat).contains k = false → rvh2 qn2 k = none from fun k hk => (Eq.trans (show rvh2 qn2 k = rvn2 qn2 k from (exf2x k hk)) (show rvn2 qn2 k = none from (by rw [hrn2]; exact up0_s)))) (xl4.ty tqn2) (fun rn2 ty5 => ?_)
  refine c_retag (q := qn2) (t := 12) (by rw [ty5.2]; rfl) (fun clr2 hcr2 => ?_)
  refine hv4 (xl4.ty ty3) (xl4.ty ty4) (ty_rt exf2t hcr2 (ne_ty exf2t ty5 (by decide))) (show ty Lh2 clr2 qn2 12 from ⟨ty5.1, by rw [hcr2, va_up_self]; rfl⟩) (fun ty6 ty8 ty10 tqr2 => ?_)
  refine hv2 (ty_rt ty6 hcr2 (ne_ty ty6 ty5 (by decide))) (ty_rt ty8 hcr2 (ne_ty ty8 ty5 (by decide))) (fun ty7 ty9 => ?_)
  have W7 := W6.retag ty5.1 (by rw [ty5.2]; rfl) hcr2 (fun k => by
        rcases k with _ | _ | _ | k
        · exact ⟨(by show 200 ≤ ivh2 qn2 0; first | exact bx_lo ‹ivh2 qn2 0 = _› (by decide) | omega), (by show ivh2 qn2 0 ≤ 200; first | exact bx_hi ‹ivh2 qn2 0 = _› (by decide) | omega)⟩
        · exact W6.int ty5 1
        · exact ⟨(by show 0 ≤ ivh2 qn2 2; first | exact bx_lo ‹ivh2 qn2 2 = _› (by decide) | omega), (by show ivh2 qn2 2 ≤ 200; first | exact bx_hi ‹ivh2 qn2 2 = _› (by decide) | omega)⟩
        · exact W6.int ty5 (k + 3)) (fun k => by
        rcases k with _ | _ | _ | k
        · rw [rn2 0 (by decide)]; exact rok_none tqr2 rfl
        · rw [exf2r]; exact rok_some tqr2 ty10 rfl (by decide) rfl
        · rw [rn2 2 (by decide)]; exact rok_none tqr2 rfl
        · rw [rn2 (k + 3) (by simp)]; exact rok_none tqr2 rfl) rfl (fun _ b hb => by rw [exf2r] at hb; cases hb; exact Or.inr ⟨exf2t.1, by omega⟩) (fun z => by cases z) rfl
  refine hv4 (X4.rt hcr2 h0qn2) (sk4.rt hcr2 (by rw [ty5.2]; rfl)) (fun b hb => xl3.ty (on2 b hb)) (fun b hb => xl3.ty (on4 b hb)) (fun X5 sk5 on5 on8 => ?_)
  refine hv2 (fun b hb => xl4.ty (on5 b hb)) (fun b hb => xl4.ty (on8 b hb)) (fun on6 on9 => ?_)
  refine hv2 (fun b hb => ty_rt (on6 b hb) hcr2 (ne_ty (on6 b hb) ty5 (by decide))) (fun b hb => ty_rt (on9 b hb) hcr2 (ne_ty (on9 b hb) ty5 (by decide))) (fun on7 on10 => ?_)
  refine c_putrF (x := (some qn2)) (k := 5) C ck_10 dX9_init_26 w2_190 (by decide) rfl rfl rfl ty7 rfl rfl (by decide) rfl (by rfl) (by rfl) (fun rv2 pq2 => ⟨70, (zp2 (Nat.le_refl _)), ?_⟩)
  refine hv2 (W7.putr pq2 ty7 (fun qr => by rw [ty7.2] at qr; cases qr) rfl (by decide)) (F5.putr X5 pq2 ty7 rfl) (fun W8 F6 => ?_)
  refine c_aload_n (j := 0) (x := a0) C dX9_init_29 rfl ?_
  refine c_iconst C dX9_init_30 ?_
  refine c_newaR (z := 4) (N := 4) C 68 dX9_init_31 w2_172 w2_173t rfl (by omega) (by omega) (rom2 hph (Nat.le_refl 0) (by decide)) (fun qn3 cln3 lnn3 ivn3 rvn3 hqn3 hcn3 hln3 hin3 hrn3 => ⟨90, (z_in (by omega)), ?_⟩)
  refine c_g0 C (fun hg3 => ?_)
  refine hv5 (show ∀ b, b ≠ qn3 → lnn3 b = lnh2 b from (fun b hb => by rw [hln3]; exact va_up_ne _ _ hb)) (show lnn3 qn3 = 4 from by rw [hln3]; exact va_up_self _ _ _) (F6.new X5 hqn3 hin3 hrn3) (show ty (Lh2 ++ [qn3]) cln3 qn3 68 from ty_new hcn3) (show qn3 ∉ L from fun h => hqn3 ((X5 qn3 h).1)) (fun hxn3 lqn3 F7 tqn3 h0qn3 => ?_)
  refine hv2 (W8.new (ln2 := lnn3) hqn3 (hg3 qn3 (List.mem_append_right _ List.mem_cons_self)) hcn3 hxn3 hin3 hrn3 (fun _ => ⟨(show (-2147483648 : Int) ≤ 0 by decide), (show (0 : Int) ≤ 2147483647 by decide)⟩) (Or.inr (fun _ => rfl)) (fun _ => by show 4 ≤ lnn3 qn3 ∧ lnn3 qn3 ≤ 4; omega) rfl rfl) (XT.new hqn3 hcn3 hxn3) (fun W9 xl5 => ?_)
  refine hv3 (X5.trans xl5) (xl5.skl sk5) (xl5.ty ty7) (fun X6 sk6 ty11 => ?_)
  refine c_putrF (x := (some qn3)) (k := 6) C ck_10 dX9_init_34 w2_192 (by decide) rfl rfl rfl ty11 rfl rfl (by decide) rfl (by rfl) (by rfl) (fun rv3 pq3 => ⟨90, (zp2 (Nat.le_refl _)), ?_⟩)
  refine hv2 (W9.putr pq3 ty11 (fun qr => by rw [ty11.2] at qr; cases qr) rfl (by decide)) (F7.putr X6 pq3 ty11 rfl) (fun W10 F8 => ?_)
  refine c_aload_n (j := 0) (x := a0) C dX9_init_37 rfl ?_
  refine c_iconst C dX9_init_38 ?_
  refine c_put (z := 0) (k := 7) C ck_10 dX9_init_39 w2_197 (by decide) rfl ty11 rfl rfl (by decide) rfl (by decide) (by decide) (fun iv1 pq4 => ?_)
  refine hv2 (W10.puti pq4 ty11 ⟨by decide, by decide⟩ rfl) (F8.puti X6 pq4 ty11 rfl) (fun W11 F9 => ?_)
  refine c_aload_n (j := 0) (x := a0) C dX9_init_42 rfl ?_
  refine c_iload_n (j := 1) C dX9_init_43 rfl ?_
  refine c_putF (z := i) (k := 0) C ck_10 dX9_init_44 w2_174 (by decide) rfl rfl rfl ty11 rfl rfl (by decide) rfl (by rfl) (by rfl) (fun iv2 pq5 => ?_)
  refine hv2 (W11.puti pq5 ty11 (show (-2147483648) ≤ i ∧ i ≤ 2147483647 by omega) rfl) (F9.puti X6 pq5 ty11 rfl) (fun W12 F10 => ?_)
  refine c_aload_n (j := 0) (x := a0) C dX9_init_47 rfl ?_
  refine c_iload_n (j := 2) C dX9_init_48 rfl ?_
  refine c_putF (z := n) (k := 1) C ck_10 dX9_init_49 w2_178 (by decide) rfl rfl rfl ty11 rfl rfl (by decide) rfl (by rfl) (by rfl) (fun iv3 pq6 => ?_)
  refine hv2 (W12.puti pq6 ty11 (show (-2147483648) ≤ n ∧ n ≤ 2147483647 by omega) rfl) (F10.puti X6 pq6 ty11 rfl) (fun W13 F11 => ?_)
  refine c_aload_n (j := 0) (x := a0) C dX9_init_52 rfl ?_
  refine c_aloadr_n (j := 3) (r := r) C dX9_init_53 rfl ?_
  refine c_putrF (x := r) (k := 2) C ck_10 dX9_init_54 w2_180 (by decide) rfl rfl rfl ty11 rfl rfl (by decide) rfl (narr r (Or.inl ⟨_, rfl⟩)).1 (narr r (Or.inl ⟨_, rfl⟩)).2 (fun rv4 pq7 => ⟨90, (zp2 (Nat.le_refl _)), ?_⟩)
  refine hv2 (W13.putr pq7 ty11 (fun qr => by rw [ty11.2] at qr; cases qr) rfl (by decide)) (F11.putr X6 pq7 ty11 rfl) (fun W14 F12 => ?_)
  refine c_aload_n (j := 0) (x := a0) C dX9_init_57 rfl ?_
  refine c_aloadr (j := 4) (r := r2) C dX9_init_58 rfl ?_
  refine c_putrF (x := r2) (k := 3) C ck_10 dX9_init_60 w2_183 (by decide) rfl rfl rfl ty11 rfl rfl (by decide) rfl (narr r2 (Or.inl ⟨_, rfl⟩)).1 (narr r2 (Or.inl ⟨_, rfl⟩)).2 (fun rv5 pq8 => ⟨90, (zp2 (Nat.le_refl _)), ?_⟩)
  refine hv4 (W14.putr pq8 ty11 (fun qr => by rw [ty11.2] at qr; cases qr) rfl (by decide)) (F12.putr X6 pq8 ty11 rfl) (show rv1 a0 4 = (some qn1) from by rw [pq1]; exact upr_s) (show rvn2 a0 4 = rv1 a0 4 from (by rw [hrn2]; exact congrFun (up0_a (ne_in ty2.1 hqn2)) _)) (fun W15 F13 rp1 re1 => ?_)
  rw [rp1] at re1
  have re2 : rvh2 a0 4 = rvn2 a0 4 := (fl2.r ty3 rfl 4)
  rw [re1] at re2
  have re3 : rv2 a0 4 = rvh2 a0 4 := (by rw [pq2]; exact upr_j (by decide))
  rw [re2] at re3
  have re4 : rvn3 a0 4 = rv2 a0 4 := (by rw [hrn3]; exact congrFun (up0_a (ne_in ty7.1 hqn3)) _)
  rw [re3] at re4
  have re5 : rv3 a0 4 = rvn3 a0 4 := (by rw [pq3]; exact upr_j (by decide))
  rw [re4] at re5
  have re6 : rv4 a0 4 = rv3 a0 4 := (by rw [pq7]; exact upr_j (by decide))
  rw [re5] at re6
  have re7 : rv5 a0 4 = rv4 a0 4 := (by rw [pq8]; exact upr_j (by decide))
  rw [re6] at re7
  refine hv2 (show rv2 a0 5 = (some qn2) from by rw [pq2]; exact upr_s) (show rvn3 a0 5 = rv2 a0 5 from (by rw [hrn3]; exact congrFun (up0_a (ne_in ty7.1 hqn3)) _)) (fun rp2 re8 => ?_)
  rw [rp2] at re8
  have re9 : rv3 a0 5 = rvn3 a0 5 := (by rw [pq3]; exact upr_j (by decide))
  rw [re8] at re9
  have re10 : rv4 a0 5 = rv3 a0 5 := (by rw [pq7]; exact upr_j (by decide))
  rw [re9] at re10
  have re11 : rv5 a0 5 = rv4 a0 5 := (by rw [pq8]; exact upr_j (by decide))
  rw [re10] at re11
  refine hv2 (show rv3 a0 6 = (some qn3) from by rw [pq3]; exact upr_s) (show rv4 a0 6 = rv3 a0 6 from (by rw [pq7]; exact upr_j (by decide))) (fun rp3 re12 => ?_)
  rw [rp3] at re12
  have re13 : rv5 a0 6 = rv4 a0 6 := (by rw [pq8]; exact upr_j (by decide))
  rw [re12] at re13
  refine hv5 (show ∀ k, ([2, 3, 4, 5, 6] : List Nat).contains k = false → rv5 a0 k = rv a0 k from fun k hk => (Eq.trans (show rv5 a0 k = rv4 a0 k from (by rw [pq8]; exact upr_j (fun e => by subst e; exact absurd hk (by decide)))) (Eq.trans (show rv4 a0 k = rv3 a0 k from (by rw [pq7]; exact upr_j (fun e => by subst e; exact absurd hk (by decide)))) (Eq.trans (show rv3 a0 k = rvn3 a0 k from (by rw [pq3]; exact upr_j (fun e => by subst e; exact absurd hk (by decide)))) (Eq.trans (show rvn3 a0 k = rv2 a0 k from (by rw [hrn3]; exact congrFun (up0_a (ne_in ty7.1 hqn3)) _)) (Eq.trans (show rv2 a0 k = rvh2 a0 k from (by rw [pq2]; exact upr_j (fun e => by subst e; exact absurd hk (by decide)))) (Eq.trans (show rvh2 a0 k = rvn2 a0 k from (fl2.r ty3 rfl k)) (Eq.trans (show rvn2 a0 k = rv1 a0 k from (by rw [hrn2]; exact congrFun (up0_a (ne_in ty2.1 hqn2)) _)) (Eq.trans (show rv1 a0 k = rvh1 a0 k from (by rw [pq1]; exact upr_j (fun e => by subst e; exact absurd hk (by decide)))) (Eq.trans (show rvh1 a0 k = rvn1 a0 k from (fl1.r ty1 rfl k)) (show rvn1 a0 k = rv a0 k from (by rw [hrn1]; exact congrFun (up0_a (ne_in t_a0.1 hqn1)) _)))))))))))) (xl5.ty ty9) (xl5.ty tqr2) (show rv4 a0 2 = r from by rw [pq7]; exact upr_s) (show rv5 a0 2 = rv4 a0 2 from (by rw [pq8]; exact upr_j (by decide))) (fun rn3 ty12 ty13 rp4 re14 => ?_)
  rw [rp4] at re14
  refine hv18 (show rv5 a0 3 = r2 from by rw [pq8]; exact upr_s) (show (-2147483648) ≤ iv3 a0 7 ∧ iv3 a0 7 ≤ 2147483647 from W15.int ty11 7) (show iv3 a0 7 = iv2 a0 7 from by rw [pq6]; exact up2_j (by decide)) (show iv2 a0 7 = iv1 a0 7 from by rw [pq5]; exact up2_j (by decide)) (show iv1 a0 7 = 0 from by rw [pq4]; exact up2_s) (show (-2147483648) ≤ iv3 a0 0 ∧ iv3 a0 0 ≤ 2147483647 from W15.int ty11 0) (show iv3 a0 0 = iv2 a0 0 from by rw [pq6]; exact up2_j (by decide)) (show iv2 a0 0 = i from by rw [pq5]; exact up2_s) (show (-2147483648) ≤ iv3 a0 1 ∧ iv3 a0 1 ≤ 2147483647 from W15.int ty11 1) (show iv3 a0 1 = n from by rw [pq6]; exact up2_s) (show 0 ≤ iv3 qn1 2 ∧ iv3 qn1 2 ≤ 200 from W15.int ty12 2) (show iv3 qn1 2 = iv2 qn1 2 from by rw [pq6]; exact up2_k (ne_ty ty12 ty11 (by decide))) (show iv2 qn1 2 = iv1 qn1 2 from by rw [pq5]; exact up2_k (ne_ty ty12 ty11 (by decide))) (show iv1 qn1 2 = ivn3 qn1 2 from by rw [pq4]; exact up2_k (ne_ty ty12 ty11 (by decide))) (show ivn3 qn1 2 = ivh2 qn1 2 from by rw [hin3]; exact congrFun (up0_a (ne_in ty9.1 hqn3)) _) (show ivh2 qn1 2 = ivn2 qn1 2 from fl2.i ty4 rfl 2) (show ivn2 qn1 2 = ivh1 qn1 2 from by rw [hin2]; exact congrFun (up0_a (ne_in tqr1.1 hqn2)) _) (show rv2 qn2 1 = rvh2 qn2 1 from (by rw [pq2]; exact congrFun (upr_a (ne_ty tqr2 ty7 (by decide))) _)) (fun rp5 ri3 ie2 ie3 ie4 ri4 ie5 ie6 ri5 ie7 ri6 ie8 ie9 ie10 ie11 ie12 ie13 re15 => ?_)
  rw [exf2r] at re15
  have re16 : rvn3 qn2 1 = rv2 qn2 1 := (by rw [hrn3]; exact congrFun (up0_a (ne_in tqr2.1 hqn3)) _)
  rw [re15] at re16
  have re17 : rv3 qn2 1 = rvn3 qn2 1 := (by rw [pq3]; exact congrFun (upr_a (ne_ty ty13 ty11 (by decide))) _)
  rw [re16] at re17
  have re18 : rv4 qn2 1 = rv3 qn2 1 := (by rw [pq7]; exact congrFun (upr_a (ne_ty ty13 ty11 (by decide))) _)
  rw [re17] at re18
  have re19 : rv5 qn2 1 = rv4 qn2 1 := (by rw [pq8]; exact congrFun (upr_a (ne_ty ty13 ty11 (by decide))) _)
  rw [re18] at re19
  refine hv7 (xl5.ty ty10) (show 0 ≤ iv3 qn2 2 ∧ iv3 qn2 2 ≤ 200 from W15.int ty13 2) (show iv3 qn2 2 = iv2 qn2 2 from by rw [pq6]; exact up2_k (ne_ty ty13 ty11 (by decide))) (show iv2 qn2 2 = iv1 qn2 2 from by rw [pq5]; exact up2_k (ne_ty ty13 ty11 (by decide))) (show iv1 qn2 2 = ivn3 qn2 2 from by rw [pq4]; exact up2_k (ne_ty ty13 ty11 (by decide))) (show ivn3 qn2 2 = ivh2 qn2 2 from by rw [hin3]; exact congrFun (up0_a (ne_in tqr2.1 hqn3)) _) (show ∀ k, ([] : List Nat).contains k = false → rv5 qn3 k = none from fun k hk => (Eq.trans (show rv5 qn3 k = rv4 qn3 k from (by rw [pq8]; exact congrFun (upr_a (ne_ty tqn3 ty11 (by decide))) _)) (Eq.trans (show rv4 qn3 k = rv3 qn3 k from (by rw [pq7]; exact congrFun (upr_a (ne_ty tqn3 ty11 (by decide))) _)) (Eq.trans (show rv3 qn3 k = rvn3 qn3 k from (by rw [pq3]; exact congrFun (upr_a (ne_ty tqn3 ty11 (by decide))) _)) (show rvn3 qn3 k = none from (by rw [hrn3]; exact up0_s)))))) (fun ty14 ri7 ie14 ie15 ie16 ie17 rn4 => ?_)
  exact c_vret C dX9_init_63 rfl (by decide) (rom0 hph (Nat.le_refl 0) (by decide)) ⟨rfl, X6, F13, W15, ⟨qn1, qn2, qn3, rn3, re7, ty12, re11, ty13, re13, tqn3, re14, rp5, (by omega), (by omega), (by omega), h0qn1, (by omega), h0qn2, h0qn3, ⟨bexf2, re19, ty14, (fun hm => exf2n (X3 _ hm).1)⟩, (by omega), (fun k => rn4 k rfl)⟩⟩
def MH (f i k : Int) : Prop := f = 1 ↔ ((i = 0 ∧ k ≤ 2) ∨ (i = 1 ∧ k = 2) ∨ (i ≠ 0 ∧ i ≠ 1 ∧ k = 5))
set_option maxHeartbeats 4000000 in
set_option maxRecDepth 100000 in
theorem C_mayHave {l : Launch} {G : GT} {mi : Nat} {sk : Nat → Nat} {L : List Nat} {cl ln : Nat → Nat} {iv : Nat → Nat → Int} {rv : Nat → Nat → Option Nat}  {a0 : Nat} {i : Int} (hW : WT (g0 G) sk L cl ln iv rv) (hS : SKL sk L cl) (t_a0 : ty L cl a0 100) (h_i : -2147483648 ≤ i ∧ i ≤ 2147483647)  : Mc l G mi (Phi (g0 G) sk) PHM yX9_mayHave cX9_mayHave 2 (some .boolean) 0 [.ref a0, .int (iI i)] L cl ln iv rv 0 (fun v L2 cl2 ln2 iv2 rv2 => ∃ f : Int, v = some (.int (iI f)) ∧ L = L2 ∧ cl = cl2 ∧ ln = ln2 ∧ iv = iv2 ∧ rv = rv2 ∧ (f = 0 ∨ f = 1) ∧ (MH f i (iv a0 0))) := by
  refine Mc.mk (by decide) (Nat.le_of_ble_eq_true rfl) ?_
  intro p e s m args below meth c A C hM
  refine hv3 (Phi.le hW hS) (show XT L cl ln L cl ln from XT.refl) (show fT [] L cl iv rv iv rv from fT.refl) (fun hph hX0 hF0 => ?_)
  refine c_iload_n (j := 1) C dX9_mayHave_0 rfl ?_
  refine c_if_ne (tgt := 18) C ⟨by omega, by omega⟩ dX9_mayHave_1 (by decide) (fun c1 => ?_) (fun c1 => ?_)
  · refine c_iload_n (j := 1) C dX9_mayHave_18 rfl ?_
    refine c_iconst C dX9_mayHave_19 ?_
    refine c_icmp_ne (tgt := 39) C ⟨by omega, by omega⟩ ⟨by decide, by decide⟩ dX9_mayHave_20 (by decide) (fun c2 => ?_) (fun c2 => ?_)
    · refine c_aload_n (j := 0) (x := a0) C dX9_mayHave_39 rfl ?_
      have ri1 : (-2147483648) ≤ iv a0 0 ∧ iv a0 0 ≤ 2147483647 := hW.int t_a0 0
      refine c_get (k := 0) C ck_10 dX9_mayHave_40 w2_174 (by decide) t_a0 rfl rfl (by decide) rfl ?_
      refine c_iconst C dX9_mayHave_43 ?_
      refine c_icmp_ne (tgt := 51) C (r32_c (lo := (-2147483648)) (hi := 2147483647) ri1.1 ri1.2 (by decide) (by decide)) ⟨by decide, by decide⟩ dX9_mayHave_44 (by decide) (fun c3 => ?_) (fun c3 => ?_)
      · refine c_iconst C dX9_mayHave_51 ?_
        exact c_zret C dX9_mayHave_52 rfl (Or.inl rfl) (by decide) (rom0 hph hph (by decide)) ⟨0, rfl, rfl, rfl, rfl, rfl, rfl, (Or.inl rfl), (by unfold MH; omega)⟩
      · refine c_iconst C dX9_mayHave_47 ?_
        refine c_goto (tgt := 52) C dX9_mayHave_48 (by decide) ?_
        exact c_zret C dX9_mayHave_52 rfl (Or.inr rfl) (by decide) (rom0 hph hph (by decide)) ⟨1, rfl, rfl, rfl, rfl, rfl, rfl, (Or.inr rfl), (by unfold MH; omega)⟩
    · refine c_aload_n (j := 0) (x := a0) C dX9_mayHave_23 rfl ?_
      have ri2 : (-2147483648) ≤ iv a0 0 ∧ iv a0 0 ≤ 2147483647 := hW.int t_a0 0
      refine c_get (k := 0) C ck_10 dX9_mayHave_24 w2_174 (by decide) t_a0 rfl rfl (by decide) rfl ?_
      refine c_iconst C dX9_mayHave_27 ?_
      refine c_icmp_ne (tgt := 35) C (r32_c (lo := (-2147483648)) (hi := 2147483647) ri2.1 ri2.2 (by decide) (by decide)) ⟨by decide, by decide⟩ dX9_mayHave_28 (by decide) (fun c4 => ?_) (fun c4 => ?_)
      · refine c_iconst C dX9_mayHave_35 ?_
        refine c_goto (tgt := 52) C dX9_mayHave_36 (by decide) ?_
        exact c_zret C dX9_mayHave_52 rfl (Or.inl rfl) (by decide) (rom0 hph hph (by decide)) ⟨0, rfl, rfl, rfl, rfl, rfl, rfl, (Or.inl rfl), (by unfold MH; omega)⟩
      · refine c_iconst C dX9_mayHave_31 ?_
        refine c_goto (tgt := 52) C dX9_mayHave_32 (by decide) ?_
        exact c_zret C dX9_mayHave_52 rfl (Or.inr rfl) (by decide) (rom0 hph hph (by decide)) ⟨1, rfl, rfl, rfl, rfl, rfl, rfl, (Or.inr rfl), (by unfold MH; omega)⟩
  · refine c_aload_n (j := 0) (x := a0) C dX9_mayHave_4 rfl ?_
    have ri3 : (-2147483648) ≤ iv a0 0 ∧ iv a0 0 ≤ 2147483647 := hW.int t_a0 0
    refine c_get (k := 0) C ck_10 dX9_mayHave_5 w2_174 (by decide) t_a0 rfl rfl (by decide) rfl ?_
    refine c_iconst C dX9_mayHave_8 ?_
    refine c_icmp_gt (tgt := 16) C (r32_c (lo := (-2147483648)) (hi := 2147483647) ri3.1 ri3.2 (by decide) (by decide)) ⟨by decide, by decide⟩ dX9_mayHave_9 (by decide) (fun c5 => ?_) (fun c5 => ?_)
    · refine c_iconst C dX9_mayHave_16 ?_
      exact c_zret C dX9_mayHave_17 rfl (Or.inl rfl) (by decide) (rom0 hph hph (by decide)) ⟨0, rfl, rfl, rfl, rfl, rfl, rfl, (Or.inl rfl), (by unfold MH; omega)⟩
    · refine c_iconst C dX9_mayHave_12 ?_
      refine c_goto (tgt := 17) C dX9_mayHave_13 (by decide) ?_
      exact c_zret C dX9_mayHave_17 rfl (Or.inr rfl) (by decide) (rom0 hph hph (by decide)) ⟨1, rfl, rfl, rfl, rfl, rfl, rfl, (Or.inr rfl), (by unfold MH; omega)⟩
set_option maxHeartbeats 4000000 in
set_option maxRecDepth 100000 in
theorem C_isUpright {l : Launch} {G : GT} {mi : Nat} {sk : Nat → Nat} {L : List Nat} {cl ln : Nat → Nat} {iv : Nat → Nat → Int} {rv : Nat → Nat → Option Nat}  {r : Option Nat} (hW : WT (g0 G) sk L cl ln iv rv) (hS : SKL sk L cl) (t_r : ∀ b, r = some b → ty L cl b 100)  : Mc l G mi (Phi (g0 G) sk) PHM yX9_isUpright cX9_isUpright 2 (some .boolean) 0 [va_rf r] L cl ln iv rv 0 (fun v L2 cl2 ln2 iv2 rv2 => ∃ f : Int, v = some (.int (iI f)) ∧ L = L2 ∧ cl = cl2 ∧ ln = ln2 ∧ iv = iv2 ∧ rv = rv2 ∧ (f = 0 ∨ f = 1) ∧ (True)) := by
  refine Mc.mk (by decide) (by cases r <;> exact Nat.le_of_ble_eq_true rfl) ?_
  intro p e s m args below meth c A C hM
  have hph := Phi.le hW hS
  refine c_lveq (show lv_args 0 [va_rf r] = [(0, (va_rf r))] from by cases r <;> rfl) ?_
  refine hv2 (show XT L cl ln L cl ln from XT.refl) (show fT [] L cl iv rv iv rv from fT.refl) (fun hX0 hF0 => ?_)
  refine c_aloadr_n (j := 0) (r := r) C dX9_isUpright_0 rfl ?_
  refine c_astorer_n (r := r) (lv2 := [(1, (va_rf r)), (0, (va_rf r))]) C dX9_isUpright_1 (by decide) (by cases r <;> rfl) ?_
  have Lp1 : ∀ (nn : Nat) (tq : Option Nat) (rk : Int) , rk - 99 < (nn : Int) → (∀ b, tq = some b → ty L cl b 100) → (99 ≤ rk) → (∀ b, tq = some b → ((cl b : Nat) : Int) ≤ rk) → cw p l e 0 ((PHM) + 0 - ((Phi (g0 G) sk) ln rv)) s m args below meth c G A 2 (MQ below (Qu G A (Qp G (Phi (g0 G) sk) ((Phi (g0 G) sk) ln rv) 0 (fun v L2 cl2 ln2 iv2 rv2 => ∃ f : Int, v = some (.int (iI f)) ∧ L = L2 ∧ cl = cl2 ∧ ln = ln2 ∧ iv = iv2 ∧ rv = rv2 ∧ (f = 0 ∨ f = 1) ∧ (True)))) args s (((PHM) + 0 - ((Phi (g0 G) sk) ln rv)) / 16) ((PHM) + 0 - ((Phi (g0 G) sk) ln rv)) A) (Phi (g0 G) sk) ((Phi (g0 G) sk) ln rv) L cl ln iv rv 0 2 [(1, (va_rf tq)), (0, (va_rf r))] [] := by
    intro nn
    induction nn with
    | zero =>
      intro tq rk  hm  ty_tq h99 hrk
      exact absurd hm (by omega)
    | succ nn ih1 =>
      intro tq rk  hm  ty_tq h99 hrk
      refine c_aloadr_n (j := 0) (r := tq) C dX9_isUpright_2 rfl ?_
      refine c_ifnull (r := tq) (tgt := 23) C dX9_isUpright_3 (by decide) (fun oq1 => ?_) (fun ob1 oq1 => ?_)
      · subst oq1
        refine c_lv (lv2 := [(1, .null), (0, (va_rf r))]) [0, 1] rfl ?_
        refine c_st (st2 := []) rfl ?_
        refine c_iconst C dX9_isUpright_23 ?_
        exact c_zret C dX9_isUpright_24 rfl (Or.inr rfl) (by decide) (rom0 hph hph (by decide)) ⟨1, rfl, rfl, rfl, rfl, rfl, rfl, (Or.inr rfl), trivial⟩
      · subst oq1
        refine hv2 (ty_tq ob1 rfl) (hrk ob1 rfl) (fun tob1 hkob1 => ?_)
        have tgob1 := bt_100 tob1.2
        refine c_lv (lv2 := [(1, .ref ob1), (0, (va_rf r))]) [0, 1] rfl ?_
        refine c_st (st2 := []) rfl ?_
        refine c_aload_n (j := 0) (x := ob1) C dX9_isUpright_6 rfl ?_
        have ri1 : 0 ≤ iv ob1 7 ∧ iv ob1 7 ≤ 1 := hW.int tob1 7
        refine c_get (k := 7) C ck_10 dX9_isUpright_7 w2_197 (by decide) tob1 rfl rfl (by decide) rfl ?_
        refine c_if_eq (tgt := 15) C (r32_c (lo := 0) (hi := 1) ri1.1 ri1.2 (by decide) (by decide)) dX9_isUpright_10 (by decide) (fun c1 => ?_) (fun c1 => ?_)
        · refine c_aload_n (j := 0) (x := ob1) C dX9_isUpright_15 rfl ?_
          rcases hW.opt tob1 2 rfl rfl with ⟨nq1, _⟩ | ⟨nb1, nq1, tnb1⟩
          · refine c_getr (k := 2) C ck_10 dX9_isUpright_16 w2_180 (by decide) tob1 rfl rfl (by decide) rfl nq1 ?_
            refine c_st (st2 := [.null]) rfl ?_
            refine c_astorer_n (r := none) (lv2 := [(1, .null), (0, (va_rf r))]) C dX9_isUpright_19 (by decide) (by cases r <;> rfl) ?_
            refine c_goto (tgt := 2) C dX9_isUpright_20 (by decide) ?_
            refine c_lv (lv2 := [(1, .null), (0, (va_rf r))]) [0, 1] rfl ?_
            exact ih1  none (rk - 1)  (by omega)  (fun _ q => by cases q) (by omega) (fun _ q => by cases q)
          · have rknb1 := hW.rank tob1 (k := 2) (by decide) nq1
            refine c_getr (k := 2) C ck_10 dX9_isUpright_16 w2_180 (by decide) tob1 rfl rfl (by decide) rfl nq1 ?_
            refine c_st (st2 := [.ref nb1]) rfl ?_
            refine c_astore_n (lv2 := [(1, .ref nb1), (0, (va_rf r))]) C dX9_isUpright_19 (by decide) (by cases r <;> rfl) ?_
            refine c_goto (tgt := 2) C dX9_isUpright_20 (by decide) ?_
            have trnb1 := bt_100 tnb1.2
            refine c_lv (lv2 := [(1, .ref nb1), (0, (va_rf r))]) [0, 1] rfl ?_
            exact ih1  (some nb1) (rk - 1)  (by omega)  (fun _ q => by cases q; exact tnb1) (by omega) (fun _ q => by cases q; omega)
        · refine c_iconst C dX9_isUpright_13 ?_
          exact c_zret C dX9_isUpright_14 rfl (Or.inl rfl) (by decide) (rom0 hph hph (by decide)) ⟨0, rfl, rfl, rfl, rfl, rfl, rfl, (Or.inl rfl), trivial⟩
  refine c_lv (lv2 := [(1, (va_rf r)), (0, (va_rf r))]) [0, 1] rfl ?_
  exact Lp1 31 r 129  (by omega)  t_r (by omega) (fun b q => by have q2 := bt_100 (t_r b q).2; omega)
set_option maxHeartbeats 4000000 in
set_option maxRecDepth 100000 in
theorem C_isOverShort {l : Launch} {G : GT} {mi : Nat} {sk : Nat → Nat} {L : List Nat} {cl ln : Nat → Nat} {iv : Nat → Nat → Int} {rv : Nat → Nat → Option Nat}  {r : Option Nat} (hW : WT (g0 G) sk L cl ln iv rv) (hS : SKL sk L cl) (t_r : ∀ b, r = some b → ty L cl b 100)  : Mc l G mi (Phi (g0 G) sk) PHM yX9_isOverShort cX9_isOverShort 2 (some .boolean) 0 [va_rf r] L cl ln iv rv 0 (fun v L2 cl2 ln2 iv2 rv2 => ∃ f : Int, v = some (.int (iI f)) ∧ L = L2 ∧ cl = cl2 ∧ ln = ln2 ∧ iv = iv2 ∧ rv = rv2 ∧ (f = 0 ∨ f = 1) ∧ (True)) := by
  refine Mc.mk (by decide) (by cases r <;> exact Nat.le_of_ble_eq_true rfl) ?_
  intro p e s m args below meth c A C hM
  have hph := Phi.le hW hS
  refine c_lveq (show lv_args 0 [va_rf r] = [(0, (va_rf r))] from by cases r <;> rfl) ?_
  refine hv2 (show XT L cl ln L cl ln from XT.refl) (show fT [] L cl iv rv iv rv from fT.refl) (fun hX0 hF0 => ?_)
  refine c_aloadr_n (j := 0) (r := r) C dX9_isOverShort_0 rfl ?_
  refine c_astorer_n (r := r) (lv2 := [(1, (va_rf r)), (0, (va_rf r))]) C dX9_isOverShort_1 (by decide) (by cases r <;> rfl) ?_
  have Lp1 : ∀ (nn : Nat) (tq : Option Nat) (rk : Int) , rk - 99 < (nn : Int) → (∀ b, tq = some b → ty L cl b 100) → (99 ≤ rk) → (∀ b, tq = some b → ((cl b : Nat) : Int) ≤ rk) → cw p l e 0 ((PHM) + 0 - ((Phi (g0 G) sk) ln rv)) s m args below meth c G A 2 (MQ below (Qu G A (Qp G (Phi (g0 G) sk) ((Phi (g0 G) sk) ln rv) 0 (fun v L2 cl2 ln2 iv2 rv2 => ∃ f : Int, v = some (.int (iI f)) ∧ L = L2 ∧ cl = cl2 ∧ ln = ln2 ∧ iv = iv2 ∧ rv = rv2 ∧ (f = 0 ∨ f = 1) ∧ (True)))) args s (((PHM) + 0 - ((Phi (g0 G) sk) ln rv)) / 16) ((PHM) + 0 - ((Phi (g0 G) sk) ln rv)) A) (Phi (g0 G) sk) ((Phi (g0 G) sk) ln rv) L cl ln iv rv 0 2 [(1, (va_rf tq)), (0, (va_rf r))] [] := by
    intro nn
    induction nn with
    | zero =>
      intro tq rk  hm  ty_tq h99 hrk
      exact absurd hm (by omega)
    | succ nn ih1 =>
      intro tq rk  hm  ty_tq h99 hrk
      refine c_aloadr_n (j := 0) (r := tq) C dX9_isOverShort_2 rfl ?_
      refine c_ifnull (r := tq) (tgt := 24) C dX9_isOverShort_3 (by decide) (fun oq1 => ?_) (fun ob1 oq1 => ?_)
      · subst oq1
        refine c_lv (lv2 := [(1, .null), (0, (va_rf r))]) [0, 1] rfl ?_
        refine c_st (st2 := []) rfl ?_
        refine c_iconst C dX9_isOverShort_24 ?_
        exact c_zret C dX9_isOverShort_25 rfl (Or.inl rfl) (by decide) (rom0 hph hph (by decide)) ⟨0, rfl, rfl, rfl, rfl, rfl, rfl, (Or.inl rfl), trivial⟩
      · subst oq1
        refine hv2 (ty_tq ob1 rfl) (hrk ob1 rfl) (fun tob1 hkob1 => ?_)
        have tgob1 := bt_100 tob1.2
        refine c_lv (lv2 := [(1, .ref ob1), (0, (va_rf r))]) [0, 1] rfl ?_
        refine c_st (st2 := []) rfl ?_
        refine c_aload_n (j := 0) (x := ob1) C dX9_isOverShort_6 rfl ?_
        have ri1 : (-2147483648) ≤ iv ob1 0 ∧ iv ob1 0 ≤ 2147483647 := hW.int tob1 0
        refine c_get (k := 0) C ck_10 dX9_isOverShort_7 w2_174 (by decide) tob1 rfl rfl (by decide) rfl ?_
        refine c_iconst C dX9_isOverShort_10 ?_
        refine c_icmp_ne (tgt := 16) C (r32_c (lo := (-2147483648)) (hi := 2147483647) ri1.1 ri1.2 (by decide) (by decide)) ⟨by decide, by decide⟩ dX9_isOverShort_11 (by decide) (fun c1 => ?_) (fun c1 => ?_)
        · refine c_aload_n (j := 0) (x := ob1) C dX9_isOverShort_16 rfl ?_
          rcases hW.opt tob1 2 rfl rfl with ⟨nq1, _⟩ | ⟨nb1, nq1, tnb1⟩
          · refine c_getr (k := 2) C ck_10 dX9_isOverShort_17 w2_180 (by decide) tob1 rfl rfl (by decide) rfl nq1 ?_
            refine c_st (st2 := [.null]) rfl ?_
            refine c_astorer_n (r := none) (lv2 := [(1, .null), (0, (va_rf r))]) C dX9_isOverShort_20 (by decide) (by cases r <;> rfl) ?_
            refine c_goto (tgt := 2) C dX9_isOverShort_21 (by decide) ?_
            refine c_lv (lv2 := [(1, .null), (0, (va_rf r))]) [0, 1] rfl ?_
            exact ih1  none (rk - 1)  (by omega)  (fun _ q => by cases q) (by omega) (fun _ q => by cases q)
          · have rknb1 := hW.rank tob1 (k := 2) (by decide) nq1
            refine c_getr (k := 2) C ck_10 dX9_isOverShort_17 w2_180 (by decide) tob1 rfl rfl (by decide) rfl nq1 ?_
            refine c_st (st2 := [.ref nb1]) rfl ?_
            refine c_astore_n (lv2 := [(1, .ref nb1), (0, (va_rf r))]) C dX9_isOverShort_20 (by decide) (by cases r <;> rfl) ?_
            refine c_goto (tgt := 2) C dX9_isOverShort_21 (by decide) ?_
            have trnb1 := bt_100 tnb1.2
            refine c_lv (lv2 := [(1, .ref nb1), (0, (va_rf r))]) [0, 1] rfl ?_
            exact ih1  (some nb1) (rk - 1)  (by omega)  (fun _ q => by cases q; exact tnb1) (by omega) (fun _ q => by cases q; omega)
        · refine c_iconst C dX9_isOverShort_14 ?_
          exact c_zret C dX9_isOverShort_15 rfl (Or.inr rfl) (by decide) (rom0 hph hph (by decide)) ⟨1, rfl, rfl, rfl, rfl, rfl, rfl, (Or.inr rfl), trivial⟩
  refine c_lv (lv2 := [(1, (va_rf r)), (0, (va_rf r))]) [0, 1] rfl ?_
  exact Lp1 31 r 129  (by omega)  t_r (by omega) (fun b q => by have q2 := bt_100 (t_r b q).2; omega)
set_option maxHeartbeats 4000000 in
set_option maxRecDepth 100000 in
theorem C_tisWhole {l : Launch} {G : GT} {mi : Nat} {sk : Nat → Nat} {L : List Nat} {cl ln : Nat → Nat} {iv : Nat → Nat → Int} {rv : Nat → Nat → Option Nat}  {a0 : Nat} (hW : WT (g0 G) sk L cl ln iv rv) (hS : SKL sk L cl) (t_a0 : ty L cl a0 100)  : Mc l G mi (Phi (g0 G) sk) PHM yX9_isWhole cX9_isWhole 1 (some .boolean) 1 [.ref a0] L cl ln iv rv 0 (fun v L2 cl2 ln2 iv2 rv2 => ∃ f : Int, v = some (.int (iI f)) ∧ L = L2 ∧ cl = cl2 ∧ ln = ln2 ∧ iv = iv2 ∧ rv = rv2 ∧ (f = 0 ∨ f = 1) ∧ (True)) := by
  refine Mc.mk (by decide) (Nat.le_of_ble_eq_true rfl) ?_
  intro p e s m args below meth c A C hM
  refine hv3 (Phi.le hW hS) (show XT L cl ln L cl ln from XT.refl) (show fT [] L cl iv rv iv rv from fT.refl) (fun hph hX0 hF0 => ?_)
  refine c_aload_n (j := 0) (x := a0) C dX9_isWhole_0 rfl ?_
  refine d_callS (As := [.ref a0]) (rest := []) C hM (C_isUpright (r := (some a0)) hW hS (fun _ q => by cases q; exact t_a0)  ) dX9_isWhole_1 kS_X9_76 rfl rfl (Nat.le_of_ble_eq_true rfl) ⟨(Nat.le_of_ble_eq_true rfl), (Nat.le_of_ble_eq_true rfl)⟩ hph hph (show 0 + 0 = 0 from rfl) (by decide) (fun rh1 Lh1 clh1 lnh1 ivh1 rvh1 h1 => ?_)
  obtain ⟨f1, rfl, rfl, rfl, rfl, rfl, rfl, rgf1, exf1⟩ := h1
  refine c_st (st2 := [.int (iI f1)]) rfl ?_
  refine c_if_eq (tgt := 21) C ⟨by omega, by omega⟩ dX9_isWhole_4 (by decide) (fun c1 => ?_) (fun c1 => ?_)
  · refine c_iconst C dX9_isWhole_21 ?_
    exact c_zret C dX9_isWhole_22 rfl (Or.inl rfl) (by decide) (rom0 hph hph (by decide)) ⟨0, rfl, rfl, rfl, rfl, rfl, rfl, (Or.inl rfl), trivial⟩
  · refine c_aload_n (j := 0) (x := a0) C dX9_isWhole_7 rfl ?_
    rcases hW.opt t_a0 3 rfl rfl with ⟨nq1, _⟩ | ⟨nb1, nq1, tnb1⟩
    · refine c_getr (k := 3) C ck_10 dX9_isWhole_8 w2_183 (by decide) t_a0 rfl rfl (by decide) rfl nq1 ?_
      refine c_st (st2 := [.null]) rfl ?_
      refine d_callS (As := [.null]) (rest := []) C hM (C_isUpright (r := none) hW hS (fun _ q => by cases q)  ) dX9_isWhole_11 kS_X9_76 rfl rfl (Nat.le_of_ble_eq_true rfl) ⟨(Nat.le_of_ble_eq_true rfl), (Nat.le_of_ble_eq_true rfl)⟩ hph hph (show 0 + 0 = 0 from rfl) (by decide) (fun rh2 Lh2 clh2 lnh2 ivh2 rvh2 h2 => ?_)
      obtain ⟨f2, rfl, rfl, rfl, rfl, rfl, rfl, rgf2, exf2⟩ := h2
      refine c_st (st2 := [.int (iI f2)]) rfl ?_
      refine c_if_eq (tgt := 21) C ⟨by omega, by omega⟩ dX9_isWhole_14 (by decide) (fun c2 => ?_) (fun c2 => ?_)
      · refine c_iconst C dX9_isWhole_21 ?_
        exact c_zret C dX9_isWhole_22 rfl (Or.inl rfl) (by decide) (rom0 hph hph (by decide)) ⟨0, rfl, rfl, rfl, rfl, rfl, rfl, (Or.inl rfl), trivial⟩
      · refine c_iconst C dX9_isWhole_17 ?_
        refine c_goto (tgt := 22) C dX9_isWhole_18 (by decide) ?_
        exact c_zret C dX9_isWhole_22 rfl (Or.inr rfl) (by decide) (rom0 hph hph (by decide)) ⟨1, rfl, rfl, rfl, rfl, rfl, rfl, (Or.inr rfl), trivial⟩
    · have rknb1 := hW.rank t_a0 (k := 3) (by decide) nq1
      refine c_getr (k := 3) C ck_10 dX9_isWhole_8 w2_183 (by decide) t_a0 rfl rfl (by decide) rfl nq1 ?_
      refine c_st (st2 := [.ref nb1]) rfl ?_
      refine d_callS (As := [.ref nb1]) (rest := []) C hM (C_isUpright (r := (some nb1)) hW hS (fun _ q => by cases q; exact tnb1)  ) dX9_isWhole_11 kS_X9_76 rfl rfl (Nat.le_of_ble_eq_true rfl) ⟨(Nat.le_of_ble_eq_true rfl), (Nat.le_of_ble_eq_true rfl)⟩ hph hph (show 0 + 0 = 0 from rfl) (by decide) (fun rh3 Lh3 clh3 lnh3 ivh3 rvh3 h3 => ?_)
      obtain ⟨f3, rfl, rfl, rfl, rfl, rfl, rfl, rgf3, exf3⟩ := h3
      refine c_st (st2 := [.int (iI f3)]) rfl ?_
      refine c_if_eq (tgt := 21) C ⟨by omega, by omega⟩ dX9_isWhole_14 (by decide) (fun c3 => ?_) (fun c3 => ?_)
      · refine c_iconst C dX9_isWhole_21 ?_
        exact c_zret C dX9_isWhole_22 rfl (Or.inl rfl) (by decide) (rom0 hph hph (by decide)) ⟨0, rfl, rfl, rfl, rfl, rfl, rfl, (Or.inl rfl), trivial⟩
      · refine c_iconst C dX9_isWhole_17 ?_
        refine c_goto (tgt := 22) C dX9_isWhole_18 (by decide) ?_
        exact c_zret C dX9_isWhole_22 rfl (Or.inr rfl) (by decide) (rom0 hph hph (by decide)) ⟨1, rfl, rfl, rfl, rfl, rfl, rfl, (Or.inr rfl), trivial⟩
set_option maxHeartbeats 4000000 in
set_option maxRecDepth 100000 in
theorem C_hasShort {l : Launch} {G : GT} {mi : Nat} {sk : Nat → Nat} {L : List Nat} {cl ln : Nat → Nat} {iv : Nat → Nat → Int} {rv : Nat → Nat → Option Nat}  {a0 : Nat} (hW : WT (g0 G) sk L cl ln iv rv) (hS : SKL sk L cl) (t_a0 : ty L cl a0 100)  : Mc l G mi (Phi (g0 G) sk) PHM yX9_hasShort cX9_hasShort 1 (some .boolean) 1 [.ref a0] L cl ln iv rv 0 (fun v L2 cl2 ln2 iv2 rv2 => ∃ f : Int, v = some (.int (iI f)) ∧ L = L2 ∧ cl = cl2 ∧ ln = ln2 ∧ iv = iv2 ∧ rv = rv2 ∧ (f = 0 ∨ f = 1) ∧ (True)) := by
  refine Mc.mk (by decide) (Nat.le_of_ble_eq_true rfl) ?_
  intro p e s m args below meth c A C hM
  refine hv3 (Phi.le hW hS) (show XT L cl ln L cl ln from XT.refl) (show fT [] L cl iv rv iv rv from fT.refl) (fun hph hX0 hF0 => ?_)
  refine c_aload_n (j := 0) (x := a0) C dX9_hasShort_0 rfl ?_
  refine d_callS (As := [.ref a0]) (rest := []) C hM (C_isOverShort (r := (some a0)) hW hS (fun _ q => by cases q; exact t_a0)  ) dX9_hasShort_1 kS_X9_80 rfl rfl (Nat.le_of_ble_eq_true rfl) ⟨(Nat.le_of_ble_eq_true rfl), (Nat.le_of_ble_eq_true rfl)⟩ hph hph (show 0 + 0 = 0 from rfl) (by decide) (fun rh1 Lh1 clh1 lnh1 ivh1 rvh1 h1 => ?_)
  obtain ⟨f1, rfl, rfl, rfl, rfl, rfl, rfl, rgf1, exf1⟩ := h1
  refine c_st (st2 := [.int (iI f1)]) rfl ?_
  refine c_if_ne (tgt := 17) C ⟨by omega, by omega⟩ dX9_hasShort_4 (by decide) (fun c1 => ?_) (fun c1 => ?_)
  · refine c_iconst C dX9_hasShort_17 ?_
    refine c_goto (tgt := 22) C dX9_hasShort_18 (by decide) ?_
    exact c_zret C dX9_hasShort_22 rfl (Or.inr rfl) (by decide) (rom0 hph hph (by decide)) ⟨1, rfl, rfl, rfl, rfl, rfl, rfl, (Or.inr rfl), trivial⟩
  · refine c_aload_n (j := 0) (x := a0) C dX9_hasShort_7 rfl ?_
    rcases hW.opt t_a0 3 rfl rfl with ⟨nq1, _⟩ | ⟨nb1, nq1, tnb1⟩
    · refine c_getr (k := 3) C ck_10 dX9_hasShort_8 w2_183 (by decide) t_a0 rfl rfl (by decide) rfl nq1 ?_
      refine c_st (st2 := [.null]) rfl ?_
      refine d_callS (As := [.null]) (rest := []) C hM (C_isOverShort (r := none) hW hS (fun _ q => by cases q)  ) dX9_hasShort_11 kS_X9_80 rfl rfl (Nat.le_of_ble_eq_true rfl) ⟨(Nat.le_of_ble_eq_true rfl), (Nat.le_of_ble_eq_true rfl)⟩ hph hph (show 0 + 0 = 0 from rfl) (by decide) (fun rh2 Lh2 clh2 lnh2 ivh2 rvh2 h2 => ?_)
      obtain ⟨f2, rfl, rfl, rfl, rfl, rfl, rfl, rgf2, exf2⟩ := h2
      refine c_st (st2 := [.int (iI f2)]) rfl ?_
      refine c_if_eq (tgt := 21) C ⟨by omega, by omega⟩ dX9_hasShort_14 (by decide) (fun c2 => ?_) (fun c2 => ?_)
      · refine c_iconst C dX9_hasShort_21 ?_
        exact c_zret C dX9_hasShort_22 rfl (Or.inl rfl) (by decide) (rom0 hph hph (by decide)) ⟨0, rfl, rfl, rfl, rfl, rfl, rfl, (Or.inl rfl), trivial⟩
      · refine c_iconst C dX9_hasShort_17 ?_
        refine c_goto (tgt := 22) C dX9_hasShort_18 (by decide) ?_
        exact c_zret C dX9_hasShort_22 rfl (Or.inr rfl) (by decide) (rom0 hph hph (by decide)) ⟨1, rfl, rfl, rfl, rfl, rfl, rfl, (Or.inr rfl), trivial⟩
    · have rknb1 := hW.rank t_a0 (k := 3) (by decide) nq1
      refine c_getr (k := 3) C ck_10 dX9_hasShort_8 w2_183 (by decide) t_a0 rfl rfl (by decide) rfl nq1 ?_
      refine c_st (st2 := [.ref nb1]) rfl ?_
      refine d_callS (As := [.ref nb1]) (rest := []) C hM (C_isOverShort (r := (some nb1)) hW hS (fun _ q => by cases q; exact tnb1)  ) dX9_hasShort_11 kS_X9_80 rfl rfl (Nat.le_of_ble_eq_true rfl) ⟨(Nat.le_of_ble_eq_true rfl), (Nat.le_of_ble_eq_true rfl)⟩ hph hph (show 0 + 0 = 0 from rfl) (by decide) (fun rh3 Lh3 clh3 lnh3 ivh3 rvh3 h3 => ?_)
      obtain ⟨f3, rfl, rfl, rfl, rfl, rfl, rfl, rgf3, exf3⟩ := h3
      refine c_st (st2 := [.int (iI f3)]) rfl ?_
      refine c_if_eq (tgt := 21) C ⟨by omega, by omega⟩ dX9_hasShort_14 (by decide) (fun c3 => ?_) (fun c3 => ?_)
      · refine c_iconst C dX9_hasShort_21 ?_
        exact c_zret C dX9_hasShort_22 rfl (Or.inl rfl) (by decide) (rom0 hph hph (by decide)) ⟨0, rfl, rfl, rfl, rfl, rfl, rfl, (Or.inl rfl), trivial⟩
      · refine c_iconst C dX9_hasShort_17 ?_
        refine c_goto (tgt := 22) C dX9_hasShort_18 (by decide) ?_
        exact c_zret C dX9_hasShort_22 rfl (Or.inr rfl) (by decide) (rom0 hph hph (by decide)) ⟨1, rfl, rfl, rfl, rfl, rfl, rfl, (Or.inr rfl), trivial⟩
section MRKS
variable {g : Nat} {sk : Nat → Nat} {L L2 : List Nat} {cl ln cl2 ln2 : Nat → Nat} {iv iv2 : Nat → Nat → Int} {rv rv2 : Nat → Nat → Option Nat} {a k T q t x : Nat} {z : Int} {ls : List Nat} {y : Option Nat}
theorem tysk22 (hS : SKL sk L cl) : ty L cl (sk 22) 22 := ⟨(hS 22 rfl).1, by rw [(hS 22 rfl).2]; rfl⟩
theorem MRK.ed (h : WT g sk L cl ln iv rv) (hS : SKL sk L cl) {i : Nat} (hi : (i : Int) < iv (sk 22) 2) (he : el rv (sk 22) i = some t) : ∃ b, rv (sk 22) 1 = some b ∧ ty L cl b 1000 ∧ rv b i = some t ∧ ty L cl t 100 := by
  obtain ⟨b, q1, q2, q3, q4⟩ := h.ed2 (tysk22 hS) rfl rfl (by omega)
  rw [el_of q1] at he
  obtain ⟨c, w1, w2⟩ := h.elem (tysk22 hS) rfl q1 q2 rfl rfl hi
  rw [he] at w1; cases w1
  exact ⟨b, q1, q2, he, w2⟩
theorem MRK.call (h : MRK sk cl iv rv) (hW : WT g sk L cl ln iv rv) (hS : SKL sk L cl) (hX : XT L cl ln L2 cl2 ln2) (hF : fT ls L cl iv rv iv2 rv2) (h1 : ls.contains 22 = false) (h2 : ls.contains 1000 = false) : MRK sk cl2 iv2 rv2 := by
  intro i hi t he
  refine hv2 (hF.i (tysk22 hS) h1 2) (hF.r (tysk22 hS) h1 1) (fun ei er => ?_)
  rw [ei] at hi
  obtain ⟨b, q1, q2, q3, q4⟩ := hW.ed2 (tysk22 hS) rfl rfl (by omega)
  have eb := hF.r q2 h2 i
  rw [el_of (er.trans q1), eb] at he
  have he2 : el rv (sk 22) i = some t := by rw [el_of q1]; exact he
  obtain ⟨b2, w1, w2, w3, w4⟩ := MRK.ed hW hS hi he2
  rw [(hX t w4.1).2.1]
  exact h i hi t he2
theorem MRK.puti (h : MRK sk cl iv rv) (hS : SKL sk L cl) (he : iv2 = up2 iv a k z) (ha : ty L cl a T) (hT : T ≠ 22) : MRK sk cl iv2 rv := by
  intro i hi
  rw [he, up2_k (ne_ty (tysk22 hS) ha (Ne.symm hT))] at hi
  exact h i hi
theorem MRK.putr (h : MRK sk cl iv rv) (hW : WT g sk L cl ln iv rv) (hS : SKL sk L cl) (he : rv2 = upr rv a k y) (ha : ty L cl a T) (hT : T ≠ 22) (hT2 : T ≠ 1000) : MRK sk cl iv rv2 := by
  intro i hi t ht
  obtain ⟨b, q1, q2, q3, q4⟩ := hW.ed2 (tysk22 hS) rfl rfl (by omega)
  have er : rv2 (sk 22) 1 = some b := by rw [he, upr_a (ne_ty (tysk22 hS) ha (Ne.symm hT))]; exact q1
  rw [el_of er, he, upr_a (ne_ty q2 ha (Ne.symm hT2))] at ht
  exact h i hi t (by rw [el_of q1]; exact ht)
theorem MRK.rt (h : MRK sk cl iv rv) (hW : WT g sk L cl ln iv rv) (hS : SKL sk L cl) (hc : cl2 = va_up cl q t) (hr : raw (bt (cl q)) = true) : MRK sk cl2 iv rv := by
  intro i hi u hu
  obtain ⟨b, w1, w2, w3, w4⟩ := MRK.ed hW hS hi hu
  rw [hc, va_up_ne _ _ (fun e => by rw [← e, w4.2] at hr; cases hr)]
  exact h i hi u hu
theorem MRK.add (h : MRK sk cl iv rv) (hW : WT g sk L cl ln iv rv) (hS : SKL sk L cl) (hX : XT L cl ln L2 cl2 ln2) (h0 : 0 ≤ iv (sk 22) 2) (hn : iv2 (sk 22) 2 = iv (sk 22) 2 + 1) (hx : el rv2 (sk 22) (iv (sk 22) 2).toNat = some x) (ho : ∀ i : Nat, (i : Int) < iv (sk 22) 2 → el rv2 (sk 22) i = el rv (sk 22) i) (hr : ((cl2 x : Nat) : Int) ≤ 100 + iv (sk 22) 2) : MRK sk cl2 iv2 rv2 := by
  intro i hi t ht
  by_cases e : (i : Int) < iv (sk 22) 2
  · rw [ho i e] at ht
    obtain ⟨b, w1, w2, w3, w4⟩ := MRK.ed hW hS e ht
    rw [(hX t w4.1).2.1]
    exact h i e t ht
  · have ei : i = (iv (sk 22) 2).toNat := by omega
    rw [ei, hx] at ht
    cases ht
    omega
theorem MRK.rem (h : MRK sk cl iv rv) (hn : iv2 (sk 22) 2 = iv (sk 22) 2 - 1) (ho : ∀ i : Nat, (i : Int) < iv (sk 22) 2 - 1 → el rv2 (sk 22) i = el rv (sk 22) i) : MRK sk cl iv2 rv2 := fun i hi t ht => h i (by omega) t (by rw [← ho i (by omega)]; exact ht)
theorem tysk23 (hS : SKL sk L cl) : ty L cl (sk 23) 23 := ⟨(hS 23 rfl).1, by rw [(hS 23 rfl).2]; rfl⟩
theorem el23 (h : WT g sk L cl ln iv rv) (hS : SKL sk L cl) {i : Nat} (hi : (i : Int) < iv (sk 23) 2) (he : el rv (sk 23) i = some t) : ty L cl t 21 := by
  obtain ⟨b, q1, q2, q3, q4⟩ := h.ed2 (tysk23 hS) rfl rfl (by omega)
  rw [el_of q1] at he
  obtain ⟨c, w1, w2⟩ := h.elem (tysk23 hS) rfl q1 q2 rfl rfl hi
  rw [he] at w1; cases w1
  exact w2
theorem el22 (h : WT g sk L cl ln iv rv) (hS : SKL sk L cl) {i : Nat} (hi : (i : Int) < iv (sk 22) 2) (he : el rv (sk 22) i = some t) : ty L cl t 100 := by
  obtain ⟨b, q1, q2, q3, q4⟩ := MRK.ed h hS hi he
  exact q4
def ALV (sk : Nat → Nat) (iv : Nat → Nat → Int) (rv : Nat → Nat → Option Nat) (i : Int) (t : Nat) : Prop := 0 ≤ i ∧ i < iv (sk 22) 2 ∧ el rv (sk 22) i.toNat = some t ∧ iv t 7 = 0
def TS0 (sk : Nat → Nat) (iv : Nat → Nat → Int) (rv rv2 : Nat → Nat → Option Nat) : Prop := ∀ i : Nat, (i : Int) < iv (sk 22) 2 → el rv2 (sk 22) i = el rv (sk 22) i
def TSF (P : Nat → Prop) (sk : Nat → Nat) (iv : Nat → Nat → Int) (rv : Nat → Nat → Option Nat) (iv2 : Nat → Nat → Int) (rv2 : Nat → Nat → Option Nat) : Prop := ∀ i t : Nat, (i : Int) < iv (sk 22) 2 → el rv (sk 22) i = some t → (P t → iv2 t 7 = iv t 7) ∧ iv2 t 0 = iv t 0 ∧ iv2 t 1 = iv t 1 ∧ rv2 t 4 = rv t 4
def TSQ (P : Nat → Prop) (sk : Nat → Nat) (iv : Nat → Nat → Int) (rv : Nat → Nat → Option Nat) (iv2 : Nat → Nat → Int) : Prop := ∀ i t q : Nat, (i : Int) < iv (sk 22) 2 → el rv (sk 22) i = some t → rv t 4 = some q → P q → iv2 q 2 = iv q 2
def CS0 (n : Int) (sk : Nat → Nat) (iv : Nat → Nat → Int) (rv : Nat → Nat → Option Nat) (iv2 : Nat → Nat → Int) (rv2 : Nat → Nat → Option Nat) : Prop := ∀ k : Nat, (k : Int) < n → el rv2 (sk 23) k = el rv (sk 23) k ∧ ∀ ch, el rv (sk 23) k = some ch → iv2 ch 0 = iv ch 0 ∧ rv2 ch 1 = rv ch 1
def PPSH (w : Int) (x : Option Nat) (sk : Nat → Nat) (iv : Nat → Nat → Int) (rv : Nat → Nat → Option Nat) (iv2 : Nat → Nat → Int) (rv2 : Nat → Nat → Option Nat) : Prop := iv2 (sk 23) 2 = iv (sk 23) 2 + 1 ∧ CS0 (iv (sk 23) 2) sk iv rv iv2 rv2 ∧ ∃ ch, el rv2 (sk 23) (iv (sk 23) 2).toNat = some ch ∧ iv2 ch 0 = w ∧ rv2 ch 1 = x
def PTAB (P Q : Nat → Prop) (sk : Nat → Nat) (iv : Nat → Nat → Int) (rv : Nat → Nat → Option Nat) (iv2 : Nat → Nat → Int) (rv2 : Nat → Nat → Option Nat) : Prop := TS0 sk iv rv rv2 ∧ TSF P sk iv rv iv2 rv2 ∧ TSQ Q sk iv rv iv2
def PSAME (sk : Nat → Nat) (iv : Nat → Nat → Int) (rv : Nat → Nat → Option Nat) (iv2 : Nat → Nat → Int) (rv2 : Nat → Nat → Option Nat) : Prop := iv2 (sk 22) 2 = iv (sk 22) 2 ∧ iv2 (sk 23) 2 = iv (sk 23) 2 ∧ PTAB (fun _ => True) (fun _ => True) sk iv rv iv2 rv2 ∧ CS0 (iv (sk 23) 2) sk iv rv iv2 rv2
theorem TSF.of {P : Nat → Prop} (h : WT g sk L cl ln iv rv) (hS : SKL sk L cl) (h7 : ∀ bb, ty L cl bb 100 → P bb → iv2 bb 7 = iv bb 7) (h0 : ∀ bb, ty L cl bb 100 → iv2 bb 0 = iv bb 0) (h1 : ∀ bb, ty L cl bb 100 → iv2 bb 1 = iv bb 1) (h4 : ∀ bb, ty L cl bb 100 → rv2 bb 4 = rv bb 4) : TSF P sk iv rv iv2 rv2 := fun i t hi ht => ⟨h7 t (el22 h hS hi ht), h0 t (el22 h hS hi ht), h1 t (el22 h hS hi ht), h4 t (el22 h hS hi ht)⟩
theorem TSQ.of {P : Nat → Prop} (h : WT g sk L cl ln iv rv) (hS : SKL sk L cl) (h2 : ∀ bb, ty L cl bb 26 → P bb → iv2 bb 2 = iv bb 2) : TSQ P sk iv rv iv2 := fun i t q hi ht hq hp => by
  obtain ⟨b, w1, w2⟩ := h.ref (el22 h hS hi ht) 4 rfl rfl rfl
  rw [w1] at hq; cases hq
  exact h2 q w2 hp
theorem CS0.of {n : Int} (h : WT g sk L cl ln iv rv) (hS : SKL sk L cl) (hn : n ≤ iv (sk 23) 2) (he : ∀ i : Nat, (i : Int) < n → el rv2 (sk 23) i = el rv (sk 23) i) (h0 : ∀ bb, ty L cl bb 21 → iv2 bb 0 = iv bb 0) (h1 : ∀ bb, ty L cl bb 21 → rv2 bb 1 = rv bb 1) : CS0 n sk iv rv iv2 rv2 := fun k hk => ⟨he k hk, fun ch hc => ⟨h0 ch (el23 h hS (by omega) hc), h1 ch (el23 h hS (by omega) hc)⟩⟩
theorem el_fr {a1 T1 : Nat} (h : WT g sk L cl ln iv rv) (ha : ty L cl a1 T1) (hl : lst T1 = true) (hn : nul T1 1 = false) (hF : fT ls L cl iv rv iv2 rv2) (h1 : ls.contains T1 = false) (h2 : ls.contains (1000 + (T1 - 22)) = false) {i : Nat} (hi : (i : Int) < iv a1 2) : el rv2 a1 i = el rv a1 i := by
  obtain ⟨b, q1, q2, q3, q4⟩ := h.ed2 ha hl hn (by omega)
  rw [el_of ((hF.r ha h1 1).trans q1), el_of q1, hF.r q2 h2 i]
theorem el_ch {a1 T1 : Nat} (h : WT g sk L cl ln iv rv) (ha : ty L cl a1 T1) (hl : lst T1 = true) (hn : nul T1 1 = false) (h1 : rv2 a1 1 = rv a1 1) (h2 : ∀ bb, ty L cl bb (1000 + (T1 - 22)) → ∀ k, rv2 bb k = rv bb k) {i : Nat} (hi : (i : Int) < iv a1 2) : el rv2 a1 i = el rv a1 i := by
  obtain ⟨b, q1, q2, q3, q4⟩ := h.ed2 ha hl hn (by omega)
  rw [el_of (h1.trans q1), el_of q1, h2 b q2 i]
def PNEW (k d : Int) (sk : Nat → Nat) (iv : Nat → Nat → Int) (rv : Nat → Nat → Option Nat) (iv2 : Nat → Nat → Int) (rv2 : Nat → Nat → Option Nat) : Prop := ∃ q r, el rv2 (sk 22) (iv (sk 22) 2).toNat = some q ∧ iv2 q 0 = k ∧ iv2 q 1 = d ∧ iv2 q 7 = 0 ∧ rv2 q 4 = some r ∧ iv2 r 2 = 0 ∧ (∀ i t : Nat, (i : Int) < iv (sk 22) 2 → el rv (sk 22) i = some t → rv t 4 ≠ some r) ∧ iv2 (sk 22) 2 = iv (sk 22) 2 + 1 ∧ PTAB (fun _ => True) (fun _ => True) sk iv rv iv2 rv2 ∧ PPSH 0 (some q) sk iv rv iv2 rv2
def PPS2 (sk : Nat → Nat) (x y : Option Nat) (z : Int) (iv : Nat → Nat → Int) (iv2 : Nat → Nat → Int) (rv2 : Nat → Nat → Option Nat) : Prop := iv2 (sk 23) 2 = iv (sk 23) 2 + 1 ∧ ∃ ch, el rv2 (sk 23) (iv (sk 23) 2).toNat = some ch ∧ rv2 ch 1 = x ∧ rv2 ch 2 = y ∧ iv2 ch 3 = z
def UKP (L : List Nat) (cl : Nat → Nat) (ch : Nat) (iv : Nat → Nat → Int) (rv : Nat → Nat → Option Nat) (iv2 : Nat → Nat → Int) (rv2 : Nat → Nat → Option Nat) : Prop := (iv ch 0 = 0 → KP L cl (fun _ => False) (fun _ => False) (fun _ => False) (fun _ => False) (fun _ _ => False) iv rv iv2 rv2) ∧ (iv ch 0 = 1 → KP L cl (fun _ => False) (fun _ => False) (fun _ => False) (fun _ => False) (fun _ _ => False) iv rv iv2 rv2) ∧ (iv ch 0 = 2 → ∀ t q s, rv ch 1 = some t → rv t 4 = some q → rv t 5 = some s → KP L cl (fun _ => False) (fun b => b = q) (fun b => b = s) (fun _ => False) (fun _ _ => False) iv rv iv2 rv2 ∧ (∀ r : Nat, (r : Int) < iv2 q 2 → el rv2 q r = el rv q r) ∧ (iv s 2 = iv q 2 → iv2 s 2 = iv2 q 2) ∧ rv2 s 1 = rv s 1) ∧ (iv ch 0 = 3 → ∀ w, rv ch 2 = some w → KP L cl (fun b => b = w) (fun _ => False) (fun _ => False) (fun _ => False) (fun _ _ => False) iv rv iv2 rv2 ∧ iv2 w 3 = iv ch 3) ∧ (iv ch 0 = 4 → (0 ≤ iv ch 3 ∧ iv ch 3 ≤ 3) → ∀ t n, rv ch 1 = some t → rv t 6 = some n → KP L cl (fun _ => False) (fun _ => False) (fun _ => False) (fun _ => False) (fun b k => b = n ∧ k = (iv ch 3).toNat) iv rv iv2 rv2 ∧ rv2 n (iv ch 3).toNat = rv ch 2)
def U0 (sk : Nat → Nat) (iv : Nat → Nat → Int) (rv : Nat → Nat → Option Nat) (iv2 : Nat → Nat → Int) (rv2 : Nat → Nat → Option Nat) : Prop := ((iv (sk 22) 2 = 0 ∧ iv2 (sk 22) 2 = 0) ∨ (iv (sk 22) 2 ≠ 0 ∧ iv2 (sk 22) 2 = iv (sk 22) 2 - 1)) ∧ (∀ i : Nat, (i : Int) < iv2 (sk 22) 2 → el rv2 (sk 22) i = el rv (sk 22) i) ∧ TSF (fun _ => True) sk iv rv iv2 rv2 ∧ TSQ (fun _ => True) sk iv rv iv2
def U1 (ch : Nat) (sk : Nat → Nat) (iv : Nat → Nat → Int) (rv : Nat → Nat → Option Nat) (iv2 : Nat → Nat → Int) (rv2 : Nat → Nat → Option Nat) : Prop := ∃ t, rv ch 1 = some t ∧ iv2 (sk 22) 2 = iv (sk 22) 2 ∧ PTAB (fun b => b ≠ t) (fun _ => True) sk iv rv iv2 rv2 ∧ iv2 t 7 = 0
def U2 (ch : Nat) (sk : Nat → Nat) (iv : Nat → Nat → Int) (rv : Nat → Nat → Option Nat) (iv2 : Nat → Nat → Int) (rv2 : Nat → Nat → Option Nat) : Prop := ∃ t q, rv ch 1 = some t ∧ rv t 4 = some q ∧ iv2 (sk 22) 2 = iv (sk 22) 2 ∧ PTAB (fun _ => True) (fun b => b ≠ q) sk iv rv iv2 rv2 ∧ ((iv q 2 = 0 ∧ iv2 q 2 = 0) ∨ (iv q 2 ≠ 0 ∧ iv2 q 2 = iv q 2 - 1))
def U3 (sk : Nat → Nat) (iv : Nat → Nat → Int) (rv : Nat → Nat → Option Nat) (iv2 : Nat → Nat → Int) (rv2 : Nat → Nat → Option Nat) : Prop := iv2 (sk 22) 2 = iv (sk 22) 2 ∧ PTAB (fun _ => True) (fun _ => True) sk iv rv iv2 rv2
def PUND (ch : Nat) (sk : Nat → Nat) (iv : Nat → Nat → Int) (rv : Nat → Nat → Option Nat) (iv2 : Nat → Nat → Int) (rv2 : Nat → Nat → Option Nat) : Prop := iv2 (sk 23) 2 = iv (sk 23) 2 - 1 ∧ CS0 (iv (sk 23) 2 - 1) sk iv rv iv2 rv2 ∧ ((iv ch 0 = 0 ∧ U0 sk iv rv iv2 rv2) ∨ (iv ch 0 = 1 ∧ U1 ch sk iv rv iv2 rv2) ∨ (iv ch 0 = 2 ∧ U2 ch sk iv rv iv2 rv2) ∨ ((iv ch 0 < 0 ∨ 2 < iv ch 0) ∧ U3 sk iv rv iv2 rv2))
theorem PPSH.pre {w : Int} {x : Option Nat} {iv3 : Nat → Nat → Int} {rv3 : Nat → Nat → Option Nat} (h : PPSH w x sk iv2 rv2 iv3 rv3) (e1 : iv2 (sk 23) 2 = iv (sk 23) 2) (c : CS0 (iv (sk 23) 2) sk iv rv iv2 rv2) : PPSH w x sk iv rv iv3 rv3 := by
  obtain ⟨h1, h2, ch, h3, h4⟩ := h
  refine ⟨by omega, fun k hk => ?_, ch, by rw [← e1]; exact h3, h4⟩
  obtain ⟨c1, c2⟩ := c k hk
  obtain ⟨d1, d2⟩ := h2 k (by omega)
  refine ⟨d1.trans c1, fun q hq => ?_⟩
  refine hv2 (d2 q (c1.trans hq)) (c2 q hq) (fun d3 c3 => ?_)
  exact ⟨d3.1.trans c3.1, d3.2.trans c3.2⟩
theorem PSAME.fr (h : WT g sk L cl ln iv rv) (hS : SKL sk L cl) (hF : fT ls L cl iv rv iv2 rv2) (a1 : ls.contains 22 = false) (a2 : ls.contains 1000 = false) (a3 : ls.contains 23 = false) (a4 : ls.contains 1001 = false) (a5 : ls.contains 100 = false) (a6 : ls.contains 26 = false) (a7 : ls.contains 21 = false) : PSAME sk iv rv iv2 rv2 :=
  ⟨hF.i (tysk22 hS) a1 2, hF.i (tysk23 hS) a3 2, ⟨fun _ hi => el_fr h (tysk22 hS) rfl rfl hF a1 a2 hi, TSF.of h hS (fun bb tb _ => hF.i tb a5 7) (fun bb tb => hF.i tb a5 0) (fun bb tb => hF.i tb a5 1) (fun bb tb => hF.r tb a5 4), TSQ.of h hS (fun bb tb _ => hF.i tb a6 2)⟩, CS0.of h hS (Int.le_refl _) (fun _ hi => el_fr h (tysk23 hS) rfl rfl hF a3 a4 hi) (fun bb tb => hF.i tb a7 0) (fun bb tb => hF.r tb a7 1)⟩
theorem PSAME.refl : PSAME sk iv rv iv rv := ⟨rfl, rfl, ⟨fun _ _ => rfl, fun _ _ _ _ => ⟨fun _ => rfl, rfl, rfl, rfl⟩, fun _ _ _ _ _ _ _ => rfl⟩, fun _ _ => ⟨rfl, fun _ _ => ⟨rfl, rfl⟩⟩⟩
theorem PSAME.trans {iv3 : Nat → Nat → Int} {rv3 : Nat → Nat → Option Nat} (h : PSAME sk iv rv iv2 rv2) (h2 : PSAME sk iv2 rv2 iv3 rv3) : PSAME sk iv rv iv3 rv3 := by
  obtain ⟨a1, a2, ⟨a3, a4, a5⟩, a6⟩ := h
  obtain ⟨b1, b2, ⟨b3, b4, b5⟩, b6⟩ := h2
  refine ⟨b1.trans a1, b2.trans a2, ⟨fun i hi => (b3 i (by omega)).trans (a3 i hi), fun i t hi ht => ?_, fun i t q hi ht hq _ => ?_⟩, fun k hk => ?_⟩
  · have c1 := a4 i t hi ht
    have c2 := b4 i t (by omega) ((a3 i hi).trans ht)
    exact ⟨fun _ => (c2.1 trivial).trans (c1.1 trivial), c2.2.1.trans c1.2.1, c2.2.2.1.trans c1.2.2.1, c2.2.2.2.trans c1.2.2.2⟩
  · have c1 := a4 i t hi ht
    exact (b5 i t q (by omega) ((a3 i hi).trans ht) (c1.2.2.2.trans hq) trivial).trans (a5 i t q hi ht hq trivial)
  · have c1 := a6 k hk
    have c2 := b6 k (by omega)
    exact ⟨c2.1.trans c1.1, fun ch hc => ⟨(c2.2 ch (c1.1.trans hc)).1.trans (c1.2 ch hc).1, (c2.2 ch (c1.1.trans hc)).2.trans (c1.2 ch hc).2⟩⟩
theorem PTAB.after {P Q : Nat → Prop} {iv3 : Nat → Nat → Int} {rv3 : Nat → Nat → Option Nat} (h : PTAB P Q sk iv rv iv2 rv2) (hn : iv (sk 22) 2 ≤ iv2 (sk 22) 2) (h2 : PSAME sk iv2 rv2 iv3 rv3) : PTAB P Q sk iv rv iv3 rv3 := by
  obtain ⟨a3, a4, a5⟩ := h
  obtain ⟨b1, b2, ⟨b3, b4, b5⟩, b6⟩ := h2
  refine ⟨fun i hi => (b3 i (by omega)).trans (a3 i hi), fun i t hi ht => ?_, fun i t q hi ht hq hp => ?_⟩
  · have c1 := a4 i t hi ht
    have c2 := b4 i t (by omega) ((a3 i hi).trans ht)
    exact ⟨fun hp => (c2.1 trivial).trans (c1.1 hp), c2.2.1.trans c1.2.1, c2.2.2.1.trans c1.2.2.1, c2.2.2.2.trans c1.2.2.2⟩
  · have c1 := a4 i t hi ht
    exact (b5 i t q (by omega) ((a3 i hi).trans ht) (c1.2.2.2.trans hq) trivial).trans (a5 i t q hi ht hq hp)
theorem PPSH.after {w : Int} {x : Option Nat} {iv3 : Nat → Nat → Int} {rv3 : Nat → Nat → Option Nat} (h : PPSH w x sk iv rv iv2 rv2) (h0 : 0 ≤ iv (sk 23) 2) (h2 : PSAME sk iv2 rv2 iv3 rv3) : PPSH w x sk iv rv iv3 rv3 := by
  obtain ⟨a1, a2, ch, a3, a4, a5⟩ := h
  obtain ⟨b1, b2, _, b6⟩ := h2
  have c := b6 (iv (sk 23) 2).toNat (by omega)
  have d := c.2 ch a3
  refine ⟨by omega, fun k hk => ?_, ch, c.1.trans a3, d.1.trans a4, d.2.trans a5⟩
  have c1 := a2 k hk
  have c2 := b6 k (by omega)
  exact ⟨c2.1.trans c1.1, fun q hq => ⟨(c2.2 q (c1.1.trans hq)).1.trans (c1.2 q hq).1, (c2.2 q (c1.1.trans hq)).2.trans (c1.2 q hq).2⟩⟩
def PTBL (x y i f : Int) (sk : Nat → Nat) (iv : Nat → Nat → Int) (rv : Nat → Nat → Option Nat) (iv2 : Nat → Nat → Int) (rv2 : Nat → Nat → Option Nat) : Prop := (f = -1 ∧ PSAME sk iv rv iv2 rv2 ∧ ¬ ((0 ≤ x ∧ x ≤ 4 ∧ (y = 6 ∨ y = 8) ∧ iv (sk 22) 2 < 30) ∧ (x < 1 ∨ 3 < x ∨ ∃ t, ALV sk iv rv i t ∧ iv t 0 ≤ 3))) ∨ (f = iv (sk 22) 2 ∧ ((0 ≤ x ∧ x ≤ 4 ∧ (y = 6 ∨ y = 8) ∧ iv (sk 22) 2 < 30) ∧ (x < 1 ∨ 3 < x ∨ ∃ t, ALV sk iv rv i t ∧ iv t 0 ≤ 3)) ∧ PNEW x y sk iv rv iv2 rv2)
def PJOI (i j f : Int) (sk : Nat → Nat) (iv : Nat → Nat → Int) (rv : Nat → Nat → Option Nat) (iv2 : Nat → Nat → Int) (rv2 : Nat → Nat → Option Nat) : Prop := (f = -1 ∧ PSAME sk iv rv iv2 rv2 ∧ ¬ (iv (sk 22) 2 < 30 ∧ (∃ t, ALV sk iv rv i t ∧ iv t 0 ≤ 3) ∧ (∃ t, ALV sk iv rv j t ∧ iv t 0 ≤ 3))) ∨ (f = iv (sk 22) 2 ∧ iv (sk 22) 2 < 30 ∧ ∃ t u, (ALV sk iv rv i t ∧ iv t 0 ≤ 3) ∧ (ALV sk iv rv j u ∧ iv u 0 ≤ 3) ∧ PNEW 5 (max (iv t 1) (iv u 1)) sk iv rv iv2 rv2)
def PDRP (i f : Int) (sk : Nat → Nat) (iv : Nat → Nat → Int) (rv : Nat → Nat → Option Nat) (iv2 : Nat → Nat → Int) (rv2 : Nat → Nat → Option Nat) : Prop := (f = -1 ∧ PSAME sk iv rv iv2 rv2 ∧ ∀ t, ¬ ALV sk iv rv i t) ∨ (f = 1 ∧ ∃ t, ALV sk iv rv i t ∧ iv2 (sk 22) 2 = iv (sk 22) 2 ∧ PTAB (fun b => b ≠ t) (fun _ => True) sk iv rv iv2 rv2 ∧ iv2 t 7 = 1 ∧ PPSH 1 (some t) sk iv rv iv2 rv2)
def RUA (t q : Nat) (cnd n : Int) (sk : Nat → Nat) (iv : Nat → Nat → Int) : Prop := iv t 0 ≠ 5 ∧ 0 ≤ cnd ∧ cnd ≤ 5 ∧ 1 ≤ n ∧ n ≤ 8 ∧ 1 ≤ iv (sk 2) 2 - n ∧ iv (sk 2) 2 - n ≤ 4 ∧ iv q 2 < 200
def PRUL (i cnd n f : Int) (sk : Nat → Nat) (iv : Nat → Nat → Int) (rv : Nat → Nat → Option Nat) (iv2 : Nat → Nat → Int) (rv2 : Nat → Nat → Option Nat) : Prop := (f = -1 ∧ PSAME sk iv rv iv2 rv2 ∧ ∀ ss t q, CT iv rv (sk 2) ss → ALV sk iv rv i t → rv t 4 = some q → (iv t 1 = 6 ∨ iv t 1 = 8) → ¬ (RUA t q cnd n sk iv ∧ ACL ss n (iv (sk 2) 2 - n) (DC (iv t 1)) ∧ LTK ss n)) ∨ (∃ t q, ALV sk iv rv i t ∧ rv t 4 = some q ∧ f = iv q 2 ∧ (∀ ss, CT iv rv (sk 2) ss → (iv t 1 = 6 ∨ iv t 1 = 8) → (RUA t q cnd n sk iv ∧ ACL ss n (iv (sk 2) 2 - n) (DC (iv t 1)) ∧ LTK ss n)) ∧ iv2 (sk 22) 2 = iv (sk 22) 2 ∧ PTAB (fun _ => True) (fun b => b ≠ q) sk iv rv iv2 rv2 ∧ iv2 q 2 = iv q 2 + 1 ∧ PPSH 2 (some t) sk iv rv iv2 rv2)
def PCND (i j cnd f : Int) (sk : Nat → Nat) (iv : Nat → Nat → Int) (rv : Nat → Nat → Option Nat) (iv2 : Nat → Nat → Int) (rv2 : Nat → Nat → Option Nat) : Prop := (f = -1 ∧ PSAME sk iv rv iv2 rv2 ∧ ∀ t q, ALV sk iv rv i t → rv t 4 = some q → ¬ (iv t 0 ≠ 5 ∧ 0 ≤ j ∧ j < iv q 2 ∧ 0 ≤ cnd ∧ cnd ≤ 5)) ∨ (∃ t q, ALV sk iv rv i t ∧ rv t 4 = some q ∧ (iv t 0 ≠ 5 ∧ 0 ≤ j ∧ j < iv q 2 ∧ 0 ≤ cnd ∧ cnd ≤ 5) ∧ iv2 (sk 22) 2 = iv (sk 22) 2 ∧ PTAB (fun _ => True) (fun _ => True) sk iv rv iv2 rv2 ∧ PPSH 3 (some t) sk iv rv iv2 rv2)
def INA (t : Nat) (j : Int) (sk : Nat → Nat) (iv : Nat → Nat → Int) : Prop := 0 ≤ j ∧ j ≤ 3 ∧ ((j = 0 ∧ iv t 0 ≤ 2) ∨ (j = 1 ∧ iv t 0 = 2) ∨ (j ≠ 0 ∧ j ≠ 1 ∧ iv t 0 = 5)) ∧ iv (sk 2) 2 ≤ 4
def PIND (i j f : Int) (sk : Nat → Nat) (iv : Nat → Nat → Int) (rv : Nat → Nat → Option Nat) (iv2 : Nat → Nat → Int) (rv2 : Nat → Nat → Option Nat) : Prop := (f = -1 ∧ PSAME sk iv rv iv2 rv2 ∧ ∀ ss t, CT iv rv (sk 2) ss → ALV sk iv rv i t → (iv t 1 = 6 ∨ iv t 1 = 8) → ¬ (INA t j sk iv ∧ ACL ss 0 (iv (sk 2) 2) (DC (iv t 1)))) ∨ (f = iv (sk 2) 2 ∧ ∃ t, ALV sk iv rv i t ∧ (∀ ss, CT iv rv (sk 2) ss → (iv t 1 = 6 ∨ iv t 1 = 8) → (INA t j sk iv ∧ ACL ss 0 (iv (sk 2) 2) (DC (iv t 1)))) ∧ iv2 (sk 22) 2 = iv (sk 22) 2 ∧ PTAB (fun _ => True) (fun _ => True) sk iv rv iv2 rv2 ∧ PPSH 4 (some t) sk iv rv iv2 rv2)
def PUNX (f : Int) (sk : Nat → Nat) (iv : Nat → Nat → Int) (rv : Nat → Nat → Option Nat) (iv2 : Nat → Nat → Int) (rv2 : Nat → Nat → Option Nat) : Prop := (f = 0 ∧ iv (sk 23) 2 = 0 ∧ PSAME sk iv rv iv2 rv2) ∨ (f = 1 ∧ iv (sk 23) 2 ≠ 0 ∧ ∃ ch, el rv (sk 23) (iv (sk 23) 2 - 1).toNat = some ch ∧ PUND ch sk iv rv iv2 rv2)
theorem ALV.uni {i : Int} {u : Nat} (h : ALV sk iv rv i t) (h2 : ALV sk iv rv i u) : t = u := by
  have e := h.2.2.1.symm.trans h2.2.2.1
  cases e; rfl
theorem PRUL.after {i cnd n f : Int} {iv3 : Nat → Nat → Int} {rv3 : Nat → Nat → Option Nat} (h : PRUL i cnd n f sk iv rv iv2 rv2) (h0 : 0 ≤ iv (sk 23) 2) (h2 : PSAME sk iv2 rv2 iv3 rv3) : PRUL i cnd n f sk iv rv iv3 rv3 := by
  rcases h with ⟨a1, a2, a3⟩ | ⟨t, q, a1, a2, a3, a4, a5, a6, a7, a8⟩
  · exact Or.inl ⟨a1, a2.trans h2, a3⟩
  · refine Or.inr ⟨t, q, a1, a2, a3, a4, h2.1.trans a5, a6.after (by omega) h2, ?_, a8.after h0 h2⟩
    have hi : ((i.toNat : Nat) : Int) < iv (sk 22) 2 := by have w1 := a1.1; have w2 := a1.2.1; omega
    have c := a6.2.1 i.toNat t hi a1.2.2.1
    rw [h2.2.2.1.2.2 i.toNat t q (by omega) ((a6.1 i.toNat hi).trans a1.2.2.1) (c.2.2.2.trans a2) trivial]
    exact a7
theorem PIND.after {i j f : Int} {iv3 : Nat → Nat → Int} {rv3 : Nat → Nat → Option Nat} (h : PIND i j f sk iv rv iv2 rv2) (h0 : 0 ≤ iv (sk 23) 2) (h2 : PSAME sk iv2 rv2 iv3 rv3) : PIND i j f sk iv rv iv3 rv3 := by
  rcases h with ⟨a1, a2, a3⟩ | ⟨a1, t, a2, a3, a5, a6, a8⟩
  · exact Or.inl ⟨a1, a2.trans h2, a3⟩
  · exact Or.inr ⟨a1, t, a2, a3, h2.1.trans a5, a6.after (by omega) h2, a8.after h0 h2⟩
theorem PNEW.after {k d : Int} {iv3 : Nat → Nat → Int} {rv3 : Nat → Nat → Option Nat} (h : PNEW k d sk iv rv iv2 rv2) (h0 : 0 ≤ iv (sk 23) 2) (hn : 0 ≤ iv (sk 22) 2) (h2 : PSAME sk iv2 rv2 iv3 rv3) : PNEW k d sk iv rv iv3 rv3 := by
  obtain ⟨q, r, a1, a2, a3, a4, a5, a6, a7, a8, a9, a10⟩ := h
  have b := h2.2.2.1.2.1 (iv (sk 22) 2).toNat q (by omega) a1
  refine ⟨q, r, (h2.2.2.1.1 (iv (sk 22) 2).toNat (by omega)).trans a1, b.2.1.trans a2, b.2.2.1.trans a3, (b.1 trivial).trans a4, b.2.2.2.trans a5, ?_, a7, h2.1.trans a8, a9.after (by omega) h2, a10.after h0 h2⟩
  rw [h2.2.2.1.2.2 (iv (sk 22) 2).toNat q r (by omega) a1 a5 trivial]; exact a6
theorem PUND.after {ch : Nat} {iv3 : Nat → Nat → Int} {rv3 : Nat → Nat → Option Nat} (hW : WT g sk L cl ln iv rv) (hS : SKL sk L cl) (hc : ∃ k : Nat, (k : Int) < iv (sk 23) 2 ∧ el rv (sk 23) k = some ch) (h : PUND ch sk iv rv iv2 rv2) (h2 : PSAME sk iv2 rv2 iv3 rv3) (hF : fT ls L cl iv2 rv2 iv3 rv3) (x1 : ls.contains 100 = false) (x2 : ls.contains 26 = false) : PUND ch sk iv rv iv3 rv3 := by
  obtain ⟨k0, hk0, hk1⟩ := hc
  have tch := el23 hW hS hk0 hk1
  obtain ⟨a1, a2, a3⟩ := h
  obtain ⟨b1, b2, ⟨b3, b4, b5⟩, b6⟩ := id h2
  refine ⟨b2.trans a1, fun k hk => ?_, ?_⟩
  · have c1 := a2 k hk
    have c2 := b6 k (by omega)
    exact ⟨c2.1.trans c1.1, fun q hq => ⟨(c2.2 q (c1.1.trans hq)).1.trans (c1.2 q hq).1, (c2.2 q (c1.1.trans hq)).2.trans (c1.2 q hq).2⟩⟩
  rcases a3 with ⟨d1, d2, d3, d4, d5⟩ | ⟨d1, t, d2, d3, d4, d5⟩ | ⟨d1, t, q, d2, d3, d4, d5, d6⟩ | ⟨d1, d2, d3⟩
  · refine Or.inl ⟨d1, by rw [b1]; exact d2, fun i hi => (b3 i (by omega)).trans (d3 i (by omega)), fun i t hi ht => ?_, fun i t q hi ht hq _ => ?_⟩
    · have tt := el22 hW hS hi ht
      have c1 := d4 i t hi ht
      exact ⟨fun _ => (hF.i tt x1 7).trans (c1.1 trivial), (hF.i tt x1 0).trans c1.2.1, (hF.i tt x1 1).trans c1.2.2.1, (hF.r tt x1 4).trans c1.2.2.2⟩
    · obtain ⟨b, w1, w2⟩ := hW.ref (el22 hW hS hi ht) 4 rfl rfl rfl
      rw [w1] at hq; cases hq
      exact (hF.i w2 x2 2).trans (d5 i t q hi ht w1 trivial)
  · obtain ⟨b, w1, w2⟩ := hW.ref tch 1 rfl rfl rfl
    have e := d2; rw [w1] at e; cases e
    exact Or.inr (Or.inl ⟨d1, t, d2, b1.trans d3, d4.after (by omega) h2, (hF.i w2 x1 7).trans d5⟩)
  · obtain ⟨b, w1, w2⟩ := hW.ref tch 1 rfl rfl rfl
    have e := d2; rw [w1] at e; cases e
    obtain ⟨b8, w3, w4⟩ := hW.ref w2 4 rfl rfl rfl
    have e := d3; rw [w3] at e; cases e
    exact Or.inr (Or.inr (Or.inl ⟨d1, t, q, d2, d3, b1.trans d4, d5.after (by omega) h2, by rw [hF.i w4 x2 2]; exact d6⟩))
  · exact Or.inr (Or.inr (Or.inr ⟨d1, b1.trans d2, d3.after (by omega) h2⟩))
end MRKS
set_option maxHeartbeats 4000000 in
set_option maxRecDepth 100000 in
theorem C_append {l : Launch} {G : GT} {mi : Nat} {sk : Nat → Nat} {L : List Nat} {cl ln : Nat → Nat} {iv : Nat → Nat → Int} {rv : Nat → Nat → Option Nat}  {a0 : Nat} {a1 : Nat} (hW : WT (g0 G) sk L cl ln iv rv) (hS : SKL sk L cl) (t_a0 : ty L cl a0 100) (t_a1 : ty L cl a1 20) (hsz : ∀ b, rv a0 4 = some b → iv b 2 < 200) : Mc l G mi (Phi (g0 G) sk) PHM yX9_append cX9_append 2 none 7 [.ref a0, .ref a1] L cl ln iv rv 1020 (fun v L2 cl2 ln2 iv2 rv2 => v = none ∧ XT L cl ln L2 cl2 ln2 ∧ fT [26, 1004, 12, 42] L cl iv rv iv2 rv2 ∧ WT (g0 G) sk L2 cl2 ln2 iv2 rv2 ∧ (True) ∧ (∀ q, rv a0 4 = some q → iv2 q 2 = iv q 2 + 1 ∧ ∀ bb, ty L cl bb 26 → bb ≠ q → iv2 bb 2 = iv bb 2) ∧ (∀ q s x, rv a0 4 = some q → rv a0 5 = some s → rv s 1 = some x → KP L cl (fun _ => False) (fun b => b = q) (fun b => b = s) (fun b => b = x) (fun _ _ => False) iv rv iv2 rv2 ∧ el rv2 q (iv q 2).toNat = some a1 ∧ (∀ r : Nat, (r : Int) < iv q 2 → el rv2 q r = el rv q r) ∧ (iv s 2 < 200 → iv2 s 2 = iv s 2 + 1) ∧ (∀ x2, rv2 s 1 = some x2 → x2 = x ∨ x2 ∉ L) ∧ ∃ y, (∀ l, rv a1 1 = some l → 0 < ln l → y = iv l 0) ∧ ∀ ss, CT iv rv s ss → iv s 2 < 200 → CT iv2 rv2 s (va_up ss (iv s 2).toNat y))) := by
  refine Mc.mk (by decide) (Nat.le_of_ble_eq_true rfl) ?_
  intro p e s m args below meth c A C hM
  refine hv3 (Phi.le hW hS) (show XT L cl ln L cl ln from XT.refl) (show fT [26, 1004, 12, 42] L cl iv rv iv rv from fT.refl) (fun hph hX0 hF0 => ?_)
  obtain ⟨q4, hq4, tq4⟩ := hW.ref t_a0 4 rfl rfl rfl
  have ri1 : 0 ≤ iv q4 2 ∧ iv q4 2 ≤ 200 := hW.int tq4 2
  obtain ⟨s5, hs5, ts5⟩ := hW.ref t_a0 5 rfl rfl rfl
  obtain ⟨x5, hx5, tx5⟩ := hW.ref ts5 1 rfl rfl rfl
  refine hv2 (show 0 ≤ iv s5 2 ∧ iv s5 2 ≤ 200 from hW.int ts5 2) (show KP L cl (fun _ => False) (fun b => b = q4) (fun b => b = s5) (fun b => b = x5) (fun _ _ => False) iv rv iv rv from KP.refl) (fun ri2 kp1 => ?_)
  refine c_aload_n (j := 0) (x := a0) C dX9_append_0 rfl ?_
  refine c_getr (k := 4) C ck_10 dX9_append_1 w2_186 (by decide) t_a0 rfl rfl (by decide) rfl hq4 ?_
  refine c_st (st2 := [.ref q4]) rfl ?_
  refine c_aload_n (j := 1) (x := a1) C dX9_append_4 rfl ?_
  have hz9 := hsz q4 hq4
  refine d_callV (As := [.ref a1]) (rest := []) C hM (C_add_26 (a0 := q4) (x := a1) hW hS tq4 t_a1  (by show iv q4 2 < 200; omega)) dX9_append_5 kV_X9_51 rfl tq4 rfl rfl (by decide) ck_0 rfl (Nat.le_of_ble_eq_true rfl) ⟨(Nat.le_of_ble_eq_true rfl), (Nat.le_of_ble_eq_true rfl)⟩ hph hph (show 0 + 420 = 420 from rfl) (by decide) (fun rh1 Lh1 clh1 lnh1 ivh1 rvh1 h1 => ?_)
  obtain ⟨f1, rfl, xl1, fl1, W1, rgf1, exf1, o26f1⟩ := h1
  refine hv4 (hF0.call hX0 fl1 rfl) (kp1.trans TX.refl (KP.l26 hW fl1 o26f1)) (hX0.trans xl1) (xl1.skl hS) (fun F1 kp2 X1 sk1 => ?_)
  refine c_st (st2 := [.int (iI f1)]) rfl ?_
  refine hv2 (xl1.ty tq4) (show ivh1 q4 2 = iv q4 2 + 1 ∧ el rvh1 q4 (iv q4 2).toNat = some a1 ∧ ∀ i : Nat, (i : Int) < iv q4 2 → el rvh1 q4 i = el rv q4 i from exf1) (fun ty1 gf1 => ?_)
  have ri3 : 0 ≤ ivh1 q4 2 ∧ ivh1 q4 2 ≤ 200 := W1.int ty1 2
  refine c_pop C dX9_append_8 rfl ?_
  refine c_aload_n (j := 0) (x := a0) C dX9_append_9 rfl ?_
  refine hv2 (xl1.ty t_a0) (show rvh1 a0 5 = rv a0 5 from (fl1.r t_a0 rfl 5)) (fun ty2 re1 => ?_)
  rw [hs5] at re1
  refine c_getr (k := 5) C ck_10 dX9_append_10 w2_190 (by decide) ty2 rfl rfl (by decide) rfl re1 ?_
  refine c_st (st2 := [.ref s5]) rfl ?_
  refine c_aload_n (j := 1) (x := a1) C dX9_append_13 rfl ?_
  have ty3 := xl1.ty t_a1
  obtain ⟨rb1, rq1, trb1⟩ := W1.ref ty3 1 rfl rfl rfl
  have lnrb1 : 0 ≤ lnh1 rb1 ∧ lnh1 rb1 ≤ 8 := W1.len trb1 rfl
  refine c_getr (k := 1) C ck_6 dX9_append_14 w3_139 (by decide) ty3 rfl rfl (by decide) rfl rq1 ?_
  refine c_st (st2 := [.ref rb1, .ref s5]) rfl ?_
  have lt1 : rv a1 1 = some rb1 := (fl1.r t_a1 rfl 1).symm.trans rq1
  have lt1t : ty L cl rb1 65 := by
    obtain ⟨b9, w1, w2⟩ := hW.ref t_a1 1 rfl rfl rfl
    rw [lt1] at w1; cases w1; exact w2
  have ll1 : 0 ≤ lnh1 rb1 ∧ lnh1 rb1 ≤ 8 := W1.len trb1 rfl
  refine c_alenI C dX9_append_17 trb1 rfl ?_
  refine c_if_le (tgt := 30) C ⟨by omega, by omega⟩ dX9_append_18 (by decide) (fun c1 => ?_) (fun c1 => ?_)
  · refine c_iconst C dX9_append_30 ?_
    refine hv2 (xl1.ty ts5) (show rvh1 s5 1 = rv s5 1 from (fl1.r ts5 rfl 1)) (fun ty4 re2 => ?_)
    rw [hx5] at re2
    refine hv3 (show 0 ≤ ivh1 s5 2 ∧ ivh1 s5 2 ≤ 200 from W1.int ty4 2) (show ivh1 s5 2 = iv s5 2 from fl1.i ts5 rfl 2) (Phi.le W1 sk1) (fun ri4 ie2 pl1 => ?_)
    refine d_callV (As := [.int (iI 0)]) (rest := []) C hM (C_add_12 (a0 := s5) (x := 0) W1 sk1 ty4 ⟨by decide, by decide⟩ ) dX9_append_31 kV_X9_59 rfl ty4 rfl rfl (by decide) ck_2 rfl (Nat.le_of_ble_eq_true rfl) ⟨(Nat.le_of_ble_eq_true rfl), (Nat.le_of_ble_eq_true rfl)⟩ hph pl1 (show 420 + 600 = 1020 from rfl) (by decide) (fun rh2 Lh2 clh2 lnh2 ivh2 rvh2 h2 => ?_)
    obtain ⟨rfl, xl2, fl2, W2, exf2, o12f2, o42f2, o1xf2⟩ := h2
    refine hv5 (F1.call X1 fl2 rfl) (TX.xt TX.refl xl1) (xl1.ty tx5) (X1.trans xl2) (xl2.skl sk1) (fun F2 tx1 ty5 X2 sk2 => ?_)
    have kp3 := kp2.trans tx1 (KP.i12 W1 fl2 rfl o12f2 (fun bb tb hb k => o42f2 bb tb (fun e => hb (by rw [re2] at e; cases e; rfl)) k))
    refine c_st (st2 := []) rfl ?_
    refine hv6 (xl2.ty ty4) (show ((ivh2 s5 2 = ivh1 s5 2 ∧ ivh1 s5 2 = 200) ∨ (ivh2 s5 2 = ivh1 s5 2 + 1 ∧ ivh1 s5 2 < 200)) ∧ ∀ ss, CT ivh1 rvh1 s5 ss → ivh1 s5 2 < 200 → CT ivh2 rvh2 s5 (va_up ss (ivh1 s5 2).toNat (0 : Int)) from exf2) (xl2.ty ty1) (show ivh2 q4 2 = ivh1 q4 2 from fl2.i ty1 rfl 2) (xl2.ty ty3) (show rvh2 a1 1 = rvh1 a1 1 from (fl2.r ty3 rfl 1)) (fun ty6 gf2 ty7 ie4 ty8 re3 => ?_)
    refine hv2 (show 0 ≤ ivh2 s5 2 ∧ ivh2 s5 2 ≤ 200 from W2.int ty6 2) (show 0 ≤ ivh2 q4 2 ∧ ivh2 q4 2 ≤ 200 from W2.int ty7 2) (fun ri5 ri6 => ?_)
    rw [rq1] at re3
    have pl2 := Phi.le W2 sk2
    exact c_vret C dX9_append_34 rfl (by decide) (rom0 hph pl2 (by decide)) ⟨rfl, X2, F2, W2, trivial, (fun q hq => by
        rw [hq4] at hq
        cases hq
        exact ⟨by omega, fun bb tbb hbb => by have tb1 := xl1.ty tbb; exact (Eq.trans (show ivh2 bb 2 = ivh1 bb 2 from (fl2.i tb1 rfl 2)) (show ivh1 bb 2 = iv bb 2 from (o26f1 bb tbb hbb).1))⟩), (fun q s x h4 h5 hx => by
        rw [hq4] at h4; cases h4
        rw [hs5] at h5; cases h5
        rw [hx5] at hx; cases hx
        refine ⟨kp3, ?_, fun r hr => ?_, fun _ => by omega, fun x2 h2 => ?_, 0, (fun l hl h0 => by rw [lt1] at hl; cases hl; have q := (X1 _ lt1t.1).2.2; omega), (fun ss hs hl => by
          have g1 := CT.fr hs hW ts5 fl1 rfl rfl rfl rfl rfl
          have g2 := gf2.2 ss g1 (by omega)
          rw [show (ivh1 s5 2).toNat = (iv s5 2).toNat from congrArg Int.toNat (by omega)] at g2
          exact g2)⟩
        · rw [(el_fr W1 ty1 rfl rfl fl2 rfl rfl (by omega))]; exact exf1.2.1
        · rw [(el_fr W1 ty1 rfl rfl fl2 rfl rfl (by omega))]; exact exf1.2.2 r hr
        · rcases o1xf2 x2 h2 with e | e
          · rw [re2] at e; cases e; exact Or.inl rfl
          · exact Or.inr (fun hm => e ((X1 _ hm).1)))⟩
  · refine c_aload_n (j := 1) (x := a1) C dX9_append_21 rfl ?_
    refine c_getr (k := 1) C ck_6 dX9_append_22 w3_139 (by decide) ty3 rfl rfl (by decide) rfl rq1 ?_
    refine c_st (st2 := [.ref rb1, .ref s5]) rfl ?_
    refine c_iconst C dX9_append_25 ?_
    refine c_iald C dX9_append_26 trb1 rfl (by omega) (by omega) (by omega) ?_
    have ri7 : (-2147483648) ≤ ivh1 rb1 ((0 : Int).toNat) ∧ ivh1 rb1 ((0 : Int).toNat) ≤ 2147483647 := W1.int trb1 ((0 : Int).toNat)
    refine c_goto (tgt := 31) C dX9_append_27 (by decide) ?_
    refine hv2 (xl1.ty ts5) (show rvh1 s5 1 = rv s5 1 from (fl1.r ts5 rfl 1)) (fun ty9 re4 => ?_)
    rw [hx5] at re4
    refine hv3 (show 0 ≤ ivh1 s5 2 ∧ ivh1 s5 2 ≤ 200 from W1.int ty9 2) (show ivh1 s5 2 = iv s5 2 from fl1.i ts5 rfl 2) (Phi.le W1 sk1) (fun ri8 ie6 pl3 => ?_)
    refine d_callV (As := [.int (iI (ivh1 rb1 (0 : Int).toNat))]) (rest := []) C hM (C_add_12 (a0 := s5) (x := ivh1 rb1 (0 : Int).toNat) W1 sk1 ty9 (by omega) ) dX9_append_31 kV_X9_59 rfl ty9 rfl rfl (by decide) ck_2 rfl (Nat.le_of_ble_eq_true rfl) ⟨(Nat.le_of_ble_eq_true rfl), (Nat.le_of_ble_eq_true rfl)⟩ hph pl3 (show 420 + 600 = 1020 from rfl) (by decide) (fun rh3 Lh3 clh3 lnh3 ivh3 rvh3 h3 => ?_)
    obtain ⟨rfl, xl3, fl3, W3, exf3, o12f3, o42f3, o1xf3⟩ := h3
    refine hv5 (F1.call X1 fl3 rfl) (TX.xt TX.refl xl1) (xl1.ty tx5) (X1.trans xl3) (xl3.skl sk1) (fun F3 tx2 ty10 X3 sk3 => ?_)
    have kp4 := kp2.trans tx2 (KP.i12 W1 fl3 rfl o12f3 (fun bb tb hb k => o42f3 bb tb (fun e => hb (by rw [re4] at e; cases e; rfl)) k))
    refine c_st (st2 := []) rfl ?_
    refine hv6 (xl3.ty ty9) (show ((ivh3 s5 2 = ivh1 s5 2 ∧ ivh1 s5 2 = 200) ∨ (ivh3 s5 2 = ivh1 s5 2 + 1 ∧ ivh1 s5 2 < 200)) ∧ ∀ ss, CT ivh1 rvh1 s5 ss → ivh1 s5 2 < 200 → CT ivh3 rvh3 s5 (va_up ss (ivh1 s5 2).toNat (ivh1 rb1 (0 : Int).toNat)) from exf3) (xl3.ty ty1) (show ivh3 q4 2 = ivh1 q4 2 from fl3.i ty1 rfl 2) (xl3.ty ty3) (show rvh3 a1 1 = rvh1 a1 1 from (fl3.r ty3 rfl 1)) (fun ty11 gf3 ty12 ie8 ty13 re5 => ?_)
    refine hv2 (show 0 ≤ ivh3 s5 2 ∧ ivh3 s5 2 ≤ 200 from W3.int ty11 2) (show 0 ≤ ivh3 q4 2 ∧ ivh3 q4 2 ≤ 200 from W3.int ty12 2) (fun ri9 ri10 => ?_)
    rw [rq1] at re5
    have pl4 := Phi.le W3 sk3
    exact c_vret C dX9_append_34 rfl (by decide) (rom0 hph pl4 (by decide)) ⟨rfl, X3, F3, W3, trivial, (fun q hq => by
        rw [hq4] at hq
        cases hq
        exact ⟨by omega, fun bb tbb hbb => by have tb1 := xl1.ty tbb; exact (Eq.trans (show ivh3 bb 2 = ivh1 bb 2 from (fl3.i tb1 rfl 2)) (show ivh1 bb 2 = iv bb 2 from (o26f1 bb tbb hbb).1))⟩), (fun q s x h4 h5 hx => by
        rw [hq4] at h4; cases h4
        rw [hs5] at h5; cases h5
        rw [hx5] at hx; cases hx
        refine ⟨kp4, ?_, fun r hr => ?_, fun _ => by omega, fun x2 h2 => ?_, ivh1 rb1 (0 : Int).toNat, (fun l hl h0 => by rw [lt1] at hl; cases hl; exact fl1.i lt1t rfl 0), (fun ss hs hl => by
          have g1 := CT.fr hs hW ts5 fl1 rfl rfl rfl rfl rfl
          have g2 := gf3.2 ss g1 (by omega)
          rw [show (ivh1 s5 2).toNat = (iv s5 2).toNat from congrArg Int.toNat (by omega)] at g2
          exact g2)⟩
        · rw [(el_fr W1 ty1 rfl rfl fl3 rfl rfl (by omega))]; exact exf1.2.1
        · rw [(el_fr W1 ty1 rfl rfl fl3 rfl rfl (by omega))]; exact exf1.2.2 r hr
        · rcases o1xf3 x2 h2 with e | e
          · rw [re4] at e; cases e; exact Or.inl rfl
          · exact Or.inr (fun hm => e ((X1 _ hm).1)))⟩
set_option maxHeartbeats 4000000 in
set_option maxRecDepth 100000 in
theorem C_removeLast {l : Launch} {G : GT} {mi : Nat} {sk : Nat → Nat} {L : List Nat} {cl ln : Nat → Nat} {iv : Nat → Nat → Int} {rv : Nat → Nat → Option Nat}  {a0 : Nat} (hW : WT (g0 G) sk L cl ln iv rv) (hS : SKL sk L cl) (t_a0 : ty L cl a0 100)  : Mc l G mi (Phi (g0 G) sk) PHM yX9_removeLast cX9_removeLast 1 none 3 [.ref a0] L cl ln iv rv 0 (fun v L2 cl2 ln2 iv2 rv2 => v = none ∧ L = L2 ∧ cl = cl2 ∧ ln = ln2 ∧ fT [26, 1004, 12] L cl iv rv iv2 rv2 ∧ WT (g0 G) sk L2 cl2 ln2 iv2 rv2 ∧ (True) ∧ (∀ q, rv a0 4 = some q → ((iv q 2 = 0 ∧ iv2 q 2 = 0) ∨ (iv q 2 ≠ 0 ∧ iv2 q 2 = iv q 2 - 1)) ∧ ∀ bb, ty L cl bb 26 → bb ≠ q → iv2 bb 2 = iv bb 2) ∧ (∀ q s, rv a0 4 = some q → rv a0 5 = some s → KP L cl (fun _ => False) (fun b => b = q) (fun b => b = s) (fun _ => False) (fun _ _ => False) iv rv iv2 rv2 ∧ (∀ r : Nat, (r : Int) < iv2 q 2 → el rv2 q r = el rv q r) ∧ (iv s 2 = iv q 2 → iv2 s 2 = iv2 q 2) ∧ rv2 s 1 = rv s 1)) := by
  refine Mc.mk (by decide) (Nat.le_of_ble_eq_true rfl) ?_
  intro p e s m args below meth c A C hM
  refine hv3 (Phi.le hW hS) (show XT L cl ln L cl ln from XT.refl) (show fT [26, 1004, 12] L cl iv rv iv rv from fT.refl) (fun hph hX0 hF0 => ?_)
  obtain ⟨q4, hq4, tq4⟩ := hW.ref t_a0 4 rfl rfl rfl
  have ri1 : 0 ≤ iv q4 2 ∧ iv q4 2 ≤ 200 := hW.int tq4 2
  obtain ⟨s5, hs5, ts5⟩ := hW.ref t_a0 5 rfl rfl rfl
  obtain ⟨x5, hx5, tx5⟩ := hW.ref ts5 1 rfl rfl rfl
  refine hv2 (show 0 ≤ iv s5 2 ∧ iv s5 2 ≤ 200 from hW.int ts5 2) (show KP L cl (fun _ => False) (fun b => b = q4) (fun b => b = s5) (fun _ => False) (fun _ _ => False) iv rv iv rv from KP.refl) (fun ri2 kp1 => ?_)
  refine c_aload_n (j := 0) (x := a0) C dX9_removeLast_0 rfl ?_
  refine c_getr (k := 4) C ck_10 dX9_removeLast_1 w2_186 (by decide) t_a0 rfl rfl (by decide) rfl hq4 ?_
  refine c_st (st2 := [.ref q4]) rfl ?_
  refine d_callV (As := []) (rest := []) C hM (C_isEmpty_26 (a0 := q4) hW hS tq4  ) dX9_removeLast_4 kV_X9_61 rfl tq4 rfl rfl (by decide) ck_0 rfl (Nat.le_of_ble_eq_true rfl) ⟨(Nat.le_of_ble_eq_true rfl), (Nat.le_of_ble_eq_true rfl)⟩ hph hph (show 0 + 0 = 0 from rfl) (by decide) (fun rh1 Lh1 clh1 lnh1 ivh1 rvh1 h1 => ?_)
  obtain ⟨f1, rfl, rfl, rfl, rfl, rfl, rfl, rgf1, exf1⟩ := h1
  refine c_st (st2 := [.int (iI f1)]) rfl ?_
  have gf1 : (f1 = 1 ∧ iv q4 2 = 0) ∨ (f1 = 0 ∧ iv q4 2 ≠ 0) := exf1
  refine c_if_ne (tgt := 41) C (r32_qp gf1) dX9_removeLast_7 (by decide) (fun c1 => ?_) (fun c1 => ?_)
  · replace gf1 := (gf1.resolve_right (fun q => c1 q.1))
    exact c_vret C dX9_removeLast_41 rfl (by decide) (rom0 hph hph (by decide)) ⟨rfl, rfl, rfl, rfl, hF0, hW, trivial, (fun q hq => by
        rw [hq4] at hq
        cases hq
        exact ⟨by omega, fun bb tbb hbb => by exact rfl⟩), (fun q s h4 h5 => by
        rw [hq4] at h4; cases h4
        rw [hs5] at h5; cases h5
        exact ⟨kp1, fun _ _ => rfl, fun _ => by omega, rfl⟩)⟩
  · replace gf1 := (gf1.resolve_left (fun q => absurd (q.1.symm.trans c1) (by decide)))
    refine c_aload_n (j := 0) (x := a0) C dX9_removeLast_10 rfl ?_
    refine c_getr (k := 4) C ck_10 dX9_removeLast_11 w2_186 (by decide) t_a0 rfl rfl (by decide) rfl hq4 ?_
    refine c_st (st2 := [.ref q4]) rfl ?_
    refine c_aload_n (j := 0) (x := a0) C dX9_removeLast_14 rfl ?_
    refine c_getr (k := 4) C ck_10 dX9_removeLast_15 w2_186 (by decide) t_a0 rfl rfl (by decide) rfl hq4 ?_
    refine c_st (st2 := [.ref q4, .ref q4]) rfl ?_
    refine d_callV (As := []) (rest := [.ref q4]) C hM (C_size_26 (a0 := q4) hW hS tq4  ) dX9_removeLast_18 kV_X9_65 rfl tq4 rfl rfl (by decide) ck_0 rfl (Nat.le_of_ble_eq_true rfl) ⟨(Nat.le_of_ble_eq_true rfl), (Nat.le_of_ble_eq_true rfl)⟩ hph hph (show 0 + 0 = 0 from rfl) (by decide) (fun rh2 Lh2 clh2 lnh2 ivh2 rvh2 h2 => ?_)
    obtain ⟨f2, rfl, rfl, rfl, rfl, rfl, rfl, rgf2, exf2⟩ := h2
    refine c_st (st2 := [.int (iI f2), .ref q4]) rfl ?_
    have gf2 : f2 = iv q4 2 := exf2
    refine c_iconst C dX9_removeLast_21 ?_
    refine c_isub C dX9_removeLast_22 ?_
    refine d_callV (As := [.int (iI (f2 - 1))]) (rest := []) C hM (C_remove_26 (a0 := q4) (i := f2 - 1) hW hS tq4 (by omega) (by show (f2 - 1) = iv q4 2 - 1 ∧ 0 ≤ (f2 - 1); omega)) dX9_removeLast_23 kV_X9_69 rfl tq4 rfl rfl (by decide) ck_0 rfl (Nat.le_of_ble_eq_true rfl) ⟨(Nat.le_of_ble_eq_true rfl), (Nat.le_of_ble_eq_true rfl)⟩ hph hph (show 0 + 0 = 0 from rfl) (by decide) (fun rh3 Lh3 clh3 lnh3 ivh3 rvh3 h3 => ?_)
    obtain ⟨f3, rfl, rfl, rfl, rfl, fl3, W3, rgf3, exf3, rmef3, o26f3⟩ := h3
    refine hv2 (hF0.call hX0 fl3 rfl) (kp1.trans TX.refl (KP.l26 hW fl3 o26f3)) (fun F1 kp2 => ?_)
    refine c_st (st2 := [.ref f3]) rfl ?_
    refine hv2 (show 0 ≤ ivh3 q4 2 ∧ ivh3 q4 2 ≤ 200 from W3.int tq4 2) (show ivh3 q4 2 = iv q4 2 - 1 ∧ ∀ j : Nat, (j : Int) < iv q4 2 - 1 → el rvh3 q4 j = el rv q4 j from exf3) (fun ri3 gf3 => ?_)
    refine c_pop C dX9_removeLast_26 rfl ?_
    refine c_aload_n (j := 0) (x := a0) C dX9_removeLast_27 rfl ?_
    have re1 : rvh3 a0 5 = rv a0 5 := (fl3.r t_a0 rfl 5)
    rw [hs5] at re1
    refine c_getr (k := 5) C ck_10 dX9_removeLast_28 w2_190 (by decide) t_a0 rfl rfl (by decide) rfl re1 ?_
    refine c_st (st2 := [.ref s5]) rfl ?_
    refine c_aload_n (j := 0) (x := a0) C dX9_removeLast_31 rfl ?_
    have re2 : rvh3 a0 4 = rv a0 4 := (fl3.r t_a0 rfl 4)
    rw [hq4] at re2
    refine c_getr (k := 4) C ck_10 dX9_removeLast_32 w2_186 (by decide) t_a0 rfl rfl (by decide) rfl re2 ?_
    refine c_st (st2 := [.ref q4, .ref s5]) rfl ?_
    have pl1 := Phi.le W3 hS
    refine d_callV (As := []) (rest := [.ref s5]) C hM (C_size_26 (a0 := q4) W3 hS tq4  ) dX9_removeLast_35 kV_X9_65 rfl tq4 rfl rfl (by decide) ck_0 rfl (Nat.le_of_ble_eq_true rfl) ⟨(Nat.le_of_ble_eq_true rfl), (Nat.le_of_ble_eq_true rfl)⟩ hph pl1 (show 0 + 0 = 0 from rfl) (by decide) (fun rh4 Lh4 clh4 lnh4 ivh4 rvh4 h4 => ?_)
    obtain ⟨f4, rfl, rfl, rfl, rfl, rfl, rfl, rgf4, exf4⟩ := h4
    refine c_st (st2 := [.int (iI f4), .ref s5]) rfl ?_
    refine hv3 (show f4 = ivh3 q4 2 from exf4) (show 0 ≤ ivh3 s5 2 ∧ ivh3 s5 2 ≤ 200 from W3.int ts5 2) (show ivh3 s5 2 = iv s5 2 from fl3.i ts5 rfl 2) (fun gf4 ri4 ie2 => ?_)
    refine d_callV (As := [.int (iI f4)]) (rest := []) C hM (C_keep_12 (a0 := s5) (n := f4) W3 hS ts5 (by omega) ) dX9_removeLast_38 kV_X9_73 rfl ts5 rfl rfl (by decide) ck_2 rfl (Nat.le_of_ble_eq_true rfl) ⟨(Nat.le_of_ble_eq_true rfl), (Nat.le_of_ble_eq_true rfl)⟩ hph pl1 (show 0 + 0 = 0 from rfl) (by decide) (fun rh5 Lh5 clh5 lnh5 ivh5 rvh5 h5 => ?_)
    obtain ⟨rfl, rfl, rfl, rfl, rfl, fl5, W5, exf5, o12f5⟩ := h5
    refine hv2 (F1.call hX0 fl5 rfl) (kp2.trans TX.refl (KP.i12 W3 fl5 rfl (fun bb tb hb => ⟨o12f5 bb tb hb, rfl⟩) (fun bb tb _ k => fl5.i tb rfl k))) (fun F2 kp3 => ?_)
    refine c_st (st2 := []) rfl ?_
    refine hv4 (show 0 ≤ ivh5 s5 2 ∧ ivh5 s5 2 ≤ 200 from W5.int ts5 2) (show ivh5 s5 2 ≤ ivh3 s5 2 ∧ (f4 < 0 ∨ ivh3 s5 2 < f4 ∨ ivh5 s5 2 = f4) from exf5) (show 0 ≤ ivh5 q4 2 ∧ ivh5 q4 2 ≤ 200 from W5.int tq4 2) (show ivh5 q4 2 = ivh3 q4 2 from fl5.i tq4 rfl 2) (fun ri5 gf5 ri6 ie4 => ?_)
    exact c_vret C dX9_removeLast_41 rfl (by decide) (rom0 hph pl1 (by decide)) ⟨rfl, rfl, rfl, rfl, F2, W5, trivial, (fun q hq => by
        rw [hq4] at hq
        cases hq
        exact ⟨by omega, fun bb tbb hbb => by exact (Eq.trans (show ivh5 bb 2 = ivh3 bb 2 from (fl5.i tbb rfl 2)) (show ivh3 bb 2 = iv bb 2 from (o26f3 bb tbb hbb).1))⟩), (fun q s h4 h5 => by
        rw [hq4] at h4; cases h4
        rw [hs5] at h5; cases h5
        exact ⟨kp3, fun r hr => exf3.2 r (by omega), fun _ => by omega, fl3.r ts5 rfl 1⟩)⟩
set_option maxHeartbeats 4000000 in
set_option maxRecDepth 100000 in
theorem C_isFull {l : Launch} {G : GT} {mi : Nat} {sk : Nat → Nat} {L : List Nat} {cl ln : Nat → Nat} {iv : Nat → Nat → Int} {rv : Nat → Nat → Option Nat}  {a0 : Nat} (hW : WT (g0 G) sk L cl ln iv rv) (hS : SKL sk L cl) (t_a0 : ty L cl a0 13)  : Mc l G mi (Phi (g0 G) sk) PHM yX10_isFull cX10_isFull 1 (some .boolean) 1 [.ref a0] L cl ln iv rv 0 (fun v L2 cl2 ln2 iv2 rv2 => ∃ f : Int, v = some (.int (iI f)) ∧ L = L2 ∧ cl = cl2 ∧ ln = ln2 ∧ iv = iv2 ∧ rv = rv2 ∧ (f = 0 ∨ f = 1) ∧ ((f = 1 ∧ 30 ≤ iv (sk 22) 2) ∨ (f = 0 ∧ iv (sk 22) 2 < 30))) := by
  refine Mc.mk (by decide) (Nat.le_of_ble_eq_true rfl) ?_
  intro p e s m args below meth c A C hM
  refine hv5 (Phi.le hW hS) (show ty L cl (sk 22) 22 from ⟨(hS 22 rfl).1, by rw [(hS 22 rfl).2]; rfl⟩) (show ty L cl (sk 23) 23 from ⟨(hS 23 rfl).1, by rw [(hS 23 rfl).2]; rfl⟩) (show XT L cl ln L cl ln from XT.refl) (show fT [] L cl iv rv iv rv from fT.refl) (fun hph tsk22 tsk23 hX0 hF0 => ?_)
  refine c_aload_n (j := 0) (x := a0) C dX10_isFull_0 rfl ?_
  obtain ⟨rb1, rq1, trb1⟩ := hW.ref t_a0 0 rfl rfl rfl
  have erb1 := hW.sk trb1 (by decide) rfl
  subst erb1
  refine c_getr (k := 0) C ck_11 dX10_isFull_1 w1_90 (by decide) t_a0 rfl rfl (by decide) rfl rq1 ?_
  refine c_st (st2 := [.ref (sk 22)]) rfl ?_
  have ri1 : 0 ≤ iv (sk 22) 2 ∧ iv (sk 22) 2 ≤ 30 := hW.int tsk22 2
  refine d_callV (As := []) (rest := []) C hM (C_size_22 (a0 := (sk 22)) hW hS tsk22  ) dX10_isFull_4 kV_X10_21 rfl tsk22 rfl rfl (by decide) ck_0 rfl (Nat.le_of_ble_eq_true rfl) ⟨(Nat.le_of_ble_eq_true rfl), (Nat.le_of_ble_eq_true rfl)⟩ hph hph (show 0 + 0 = 0 from rfl) (by decide) (fun rh1 Lh1 clh1 lnh1 ivh1 rvh1 h1 => ?_)
  obtain ⟨f1, rfl, rfl, rfl, rfl, rfl, rfl, rgf1, exf1⟩ := h1
  refine c_st (st2 := [.int (iI f1)]) rfl ?_
  have gf1 : f1 = iv (sk 22) 2 := exf1
  refine c_bipush (z := 30) C dX10_isFull_7 (by decide) ?_
  refine c_icmp_lt (tgt := 16) C ⟨by omega, by omega⟩ ⟨by decide, by decide⟩ dX10_isFull_9 (by decide) (fun c1 => ?_) (fun c1 => ?_)
  · refine c_iconst C dX10_isFull_16 ?_
    exact c_zret C dX10_isFull_17 rfl (Or.inl rfl) (by decide) (rom0 hph hph (by decide)) ⟨0, rfl, rfl, rfl, rfl, rfl, rfl, (Or.inl rfl), (by omega)⟩
  · refine c_iconst C dX10_isFull_12 ?_
    refine c_goto (tgt := 17) C dX10_isFull_13 (by decide) ?_
    exact c_zret C dX10_isFull_17 rfl (Or.inr rfl) (by decide) (rom0 hph hph (by decide)) ⟨1, rfl, rfl, rfl, rfl, rfl, rfl, (Or.inr rfl), (by omega)⟩
set_option maxHeartbeats 4000000 in
set_option maxRecDepth 100000 in
theorem C_alive {l : Launch} {G : GT} {mi : Nat} {sk : Nat → Nat} {L : List Nat} {cl ln : Nat → Nat} {iv : Nat → Nat → Int} {rv : Nat → Nat → Option Nat}  {a0 : Nat} {i : Int} (hW : WT (g0 G) sk L cl ln iv rv) (hS : SKL sk L cl) (t_a0 : ty L cl a0 13) (h_i : -2147483648 ≤ i ∧ i ≤ 2147483647) (hmr : MRK sk cl iv rv) : Mc l G mi (Phi (g0 G) sk) PHM yX10_alive cX10_alive 3 (some (.object "DotPress$Table")) 3 [.ref a0, .int (iI i)] L cl ln iv rv 0 (fun v L2 cl2 ln2 iv2 rv2 => ∃ f : Option Nat, v = some ((va_rf f)) ∧ L = L2 ∧ cl = cl2 ∧ ln = ln2 ∧ iv = iv2 ∧ rv = rv2 ∧ (∀ b, f = some b → ty L2 cl2 b 100) ∧ ((∀ b, f = some b → ((cl b : Nat) : Int) < 100 + iv (sk 22) 2 ∧ ALV sk iv rv i b) ∧ (f = none → ∀ b, ¬ ALV sk iv rv i b))) := by
  refine Mc.mk (by decide) (Nat.le_of_ble_eq_true rfl) ?_
  intro p e s m args below meth c A C hM
  refine hv5 (Phi.le hW hS) (show ty L cl (sk 22) 22 from ⟨(hS 22 rfl).1, by rw [(hS 22 rfl).2]; rfl⟩) (show ty L cl (sk 23) 23 from ⟨(hS 23 rfl).1, by rw [(hS 23 rfl).2]; rfl⟩) (show XT L cl ln L cl ln from XT.refl) (show fT [] L cl iv rv iv rv from fT.refl) (fun hph tsk22 tsk23 hX0 hF0 => ?_)
  refine c_iload_n (j := 1) C dX10_alive_0 rfl ?_
  refine c_if_lt (tgt := 15) C ⟨by omega, by omega⟩ dX10_alive_1 (by decide) (fun c1 => ?_) (fun c1 => ?_)
  · refine c_null C dX10_alive_15 ?_
    exact c_aret (x := none) C dX10_alive_16 rfl (Or.inl ⟨_, rfl⟩) (by decide) (rom0 hph hph (by decide)) ⟨none, rfl, rfl, rfl, rfl, rfl, rfl, (fun _ q => by cases q), ⟨(fun _ q => by cases q), fun _ b q => by have q1 := q.1; have q2 := q.2.1; omega⟩⟩
  · refine c_iload_n (j := 1) C dX10_alive_4 rfl ?_
    refine c_aload_n (j := 0) (x := a0) C dX10_alive_5 rfl ?_
    obtain ⟨rb1, rq1, trb1⟩ := hW.ref t_a0 0 rfl rfl rfl
    have erb1 := hW.sk trb1 (by decide) rfl
    subst erb1
    refine c_getr (k := 0) C ck_11 dX10_alive_6 w1_90 (by decide) t_a0 rfl rfl (by decide) rfl rq1 ?_
    refine c_st (st2 := [.ref (sk 22), .int (iI i)]) rfl ?_
    have ri1 : 0 ≤ iv (sk 22) 2 ∧ iv (sk 22) 2 ≤ 30 := hW.int tsk22 2
    refine d_callV (As := []) (rest := [.int (iI i)]) C hM (C_size_22 (a0 := (sk 22)) hW hS tsk22  ) dX10_alive_9 kV_X10_21 rfl tsk22 rfl rfl (by decide) ck_0 rfl (Nat.le_of_ble_eq_true rfl) ⟨(Nat.le_of_ble_eq_true rfl), (Nat.le_of_ble_eq_true rfl)⟩ hph hph (show 0 + 0 = 0 from rfl) (by decide) (fun rh1 Lh1 clh1 lnh1 ivh1 rvh1 h1 => ?_)
    obtain ⟨f1, rfl, rfl, rfl, rfl, rfl, rfl, rgf1, exf1⟩ := h1
    refine c_st (st2 := [.int (iI f1), .int (iI i)]) rfl ?_
    have gf1 : f1 = iv (sk 22) 2 := exf1
    refine c_icmp_lt (tgt := 17) C ⟨by omega, by omega⟩ ⟨by omega, by omega⟩ dX10_alive_12 (by decide) (fun c2 => ?_) (fun c2 => ?_)
    · refine c_aload_n (j := 0) (x := a0) C dX10_alive_17 rfl ?_
      refine c_getr (k := 0) C ck_11 dX10_alive_18 w1_90 (by decide) t_a0 rfl rfl (by decide) rfl rq1 ?_
      refine c_st (st2 := [.ref (sk 22)]) rfl ?_
      refine c_iload_n (j := 1) C dX10_alive_21 rfl ?_
      refine d_callV (As := [.int (iI i)]) (rest := []) C hM (C_get_22 (a0 := (sk 22)) (i := i) hW hS tsk22 (by omega) (by show 0 ≤ i ∧ i < iv (sk 22) 2; omega)) dX10_alive_22 kV_X10_25 rfl tsk22 rfl rfl (by decide) ck_0 rfl (Nat.le_of_ble_eq_true rfl) ⟨(Nat.le_of_ble_eq_true rfl), (Nat.le_of_ble_eq_true rfl)⟩ hph hph (show 0 + 0 = 0 from rfl) (by decide) (fun rh2 Lh2 clh2 lnh2 ivh2 rvh2 h2 => ?_)
      obtain ⟨f2, rfl, rfl, rfl, rfl, rfl, rfl, rgf2, exf2⟩ := h2
      refine c_st (st2 := [.ref f2]) rfl ?_
      have gf2 : el rv (sk 22) i.toNat = some f2 := exf2
      refine c_cast C ck_10 dX10_alive_25 w3_88 w8_168t rgf2 rfl rfl (by decide) ?_
      refine c_astore_n (lv2 := [(2, .ref f2), (0, .ref a0), (1, .int (iI i))]) C dX10_alive_28 (by decide) rfl ?_
      refine c_aload_n (j := 0) (x := f2) C dX10_alive_29 rfl ?_
      have ri2 : 0 ≤ iv f2 7 ∧ iv f2 7 ≤ 1 := hW.int rgf2 7
      refine c_get (k := 7) C ck_10 dX10_alive_30 w2_198 (by decide) rgf2 rfl rfl (by decide) rfl ?_
      refine c_if_eq (tgt := 40) C (r32_c (lo := 0) (hi := 1) ri2.1 ri2.2 (by decide) (by decide)) dX10_alive_33 (by decide) (fun c3 => ?_) (fun c3 => ?_)
      · refine c_aload_n (j := 0) (x := f2) C dX10_alive_40 rfl ?_
        exact c_aret (x := some f2) C dX10_alive_41 rfl (Or.inl ⟨_, rfl⟩) (by decide) (rom0 hph hph (by decide)) ⟨(some f2), rfl, rfl, rfl, rfl, rfl, rfl, (fun _ q => by cases q; exact rgf2), ⟨fun _ q => by cases q; have q2 := hmr i.toNat (by omega) _ exf2; exact ⟨by omega, by omega, by omega, exf2, by omega⟩, fun q => by cases q⟩⟩
      · refine c_null C dX10_alive_36 ?_
        refine c_goto (tgt := 41) C dX10_alive_37 (by decide) ?_
        exact c_aret (x := none) C dX10_alive_41 rfl (Or.inl ⟨_, rfl⟩) (by decide) (rom0 hph hph (by decide)) ⟨none, rfl, rfl, rfl, rfl, rfl, rfl, (fun _ q => by cases q), ⟨(fun _ q => by cases q), fun _ b q => by have q3 := q.2.2.1; rw [exf2] at q3; cases q3; have q4 := q.2.2.2; omega⟩⟩
    · refine c_null C dX10_alive_15 ?_
      exact c_aret (x := none) C dX10_alive_16 rfl (Or.inl ⟨_, rfl⟩) (by decide) (rom0 hph hph (by decide)) ⟨none, rfl, rfl, rfl, rfl, rfl, rfl, (fun _ q => by cases q), ⟨(fun _ q => by cases q), fun _ b q => by have q1 := q.1; have q2 := q.2.1; omega⟩⟩
set_option maxHeartbeats 4000000 in
set_option maxRecDepth 100000 in
theorem C_whole {l : Launch} {G : GT} {mi : Nat} {sk : Nat → Nat} {L : List Nat} {cl ln : Nat → Nat} {iv : Nat → Nat → Int} {rv : Nat → Nat → Option Nat}  {a0 : Nat} {i : Int} (hW : WT (g0 G) sk L cl ln iv rv) (hS : SKL sk L cl) (t_a0 : ty L cl a0 13) (h_i : -2147483648 ≤ i ∧ i ≤ 2147483647) (hmr : MRK sk cl iv rv) : Mc l G mi (Phi (g0 G) sk) PHM yX10_whole cX10_whole 3 (some (.object "DotPress$Table")) 4 [.ref a0, .int (iI i)] L cl ln iv rv 0 (fun v L2 cl2 ln2 iv2 rv2 => ∃ f : Option Nat, v = some ((va_rf f)) ∧ L = L2 ∧ cl = cl2 ∧ ln = ln2 ∧ iv = iv2 ∧ rv = rv2 ∧ (∀ b, f = some b → ty L2 cl2 b 100) ∧ (True)) := by
  refine Mc.mk (by decide) (Nat.le_of_ble_eq_true rfl) ?_
  intro p e s m args below meth c A C hM
  refine hv5 (Phi.le hW hS) (show ty L cl (sk 22) 22 from ⟨(hS 22 rfl).1, by rw [(hS 22 rfl).2]; rfl⟩) (show ty L cl (sk 23) 23 from ⟨(hS 23 rfl).1, by rw [(hS 23 rfl).2]; rfl⟩) (show XT L cl ln L cl ln from XT.refl) (show fT [] L cl iv rv iv rv from fT.refl) (fun hph tsk22 tsk23 hX0 hF0 => ?_)
  refine c_aload_n (j := 0) (x := a0) C dX10_whole_0 rfl ?_
  refine c_iload_n (j := 1) C dX10_whole_1 rfl ?_
  have ri1 : 0 ≤ iv (sk 22) 2 ∧ iv (sk 22) 2 ≤ 30 := hW.int tsk22 2
  refine d_callV (As := [.int (iI i)]) (rest := []) C hM (C_alive (a0 := a0) (i := i) hW hS t_a0 (by omega) hmr) dX10_whole_2 kV_X10_35 rfl t_a0 rfl rfl (by decide) ck_11 rfl (Nat.le_of_ble_eq_true rfl) ⟨(Nat.le_of_ble_eq_true rfl), (Nat.le_of_ble_eq_true rfl)⟩ hph hph (show 0 + 0 = 0 from rfl) (by decide) (fun rh1 Lh1 clh1 lnh1 ivh1 rvh1 h1 => ?_)
  obtain ⟨f1, rfl, rfl, rfl, rfl, rfl, rfl, rgf1, exf1⟩ := h1
  refine c_st (st2 := [(va_rf f1)]) rfl ?_
  have gf1 : (∀ b, f1 = some b → ((cl b : Nat) : Int) < 100 + iv (sk 22) 2 ∧ ALV sk iv rv i b) ∧ (f1 = none → ∀ b, ¬ ALV sk iv rv i b) := exf1
  refine c_astorer_n (r := f1) (lv2 := [(2, (va_rf f1)), (0, .ref a0), (1, .int (iI i))]) C dX10_whole_5 (by decide) rfl ?_
  refine c_aloadr_n (j := 0) (r := f1) C dX10_whole_6 rfl ?_
  refine c_ifnull (r := f1) (tgt := 21) C dX10_whole_7 (by decide) (fun oq1 => ?_) (fun ob1 oq1 => ?_)
  · subst oq1
    refine c_lv (lv2 := [(2, .null), (0, .ref a0), (1, .int (iI i))]) [0, 1, 2] rfl ?_
    refine c_st (st2 := []) rfl ?_
    refine c_null C dX10_whole_21 ?_
    exact c_aret (x := none) C dX10_whole_22 rfl (Or.inl ⟨_, rfl⟩) (by decide) (rom0 hph hph (by decide)) ⟨none, rfl, rfl, rfl, rfl, rfl, rfl, (fun _ q => by cases q), trivial⟩
  · subst oq1
    have tob1 := rgf1 ob1 rfl
    refine c_lv (lv2 := [(2, .ref ob1), (0, .ref a0), (1, .int (iI i))]) [0, 1, 2] rfl ?_
    refine c_st (st2 := []) rfl ?_
    refine c_aload_n (j := 0) (x := ob1) C dX10_whole_10 rfl ?_
    refine d_callV (As := []) (rest := []) C hM (C_tisWhole (a0 := ob1) hW hS tob1  ) dX10_whole_11 kV_X10_39 rfl tob1 rfl rfl (by decide) ck_10 rfl (Nat.le_of_ble_eq_true rfl) ⟨(Nat.le_of_ble_eq_true rfl), (Nat.le_of_ble_eq_true rfl)⟩ hph hph (show 0 + 0 = 0 from rfl) (by decide) (fun rh2 Lh2 clh2 lnh2 ivh2 rvh2 h2 => ?_)
    obtain ⟨f2, rfl, rfl, rfl, rfl, rfl, rfl, rgf2, exf2⟩ := h2
    refine c_st (st2 := [.int (iI f2)]) rfl ?_
    refine c_if_eq (tgt := 21) C ⟨by omega, by omega⟩ dX10_whole_14 (by decide) (fun c1 => ?_) (fun c1 => ?_)
    · refine c_null C dX10_whole_21 ?_
      exact c_aret (x := none) C dX10_whole_22 rfl (Or.inl ⟨_, rfl⟩) (by decide) (rom0 hph hph (by decide)) ⟨none, rfl, rfl, rfl, rfl, rfl, rfl, (fun _ q => by cases q), trivial⟩
    · refine c_aload_n (j := 0) (x := ob1) C dX10_whole_17 rfl ?_
      refine c_goto (tgt := 22) C dX10_whole_18 (by decide) ?_
      exact c_aret (x := some ob1) C dX10_whole_22 rfl (Or.inl ⟨_, rfl⟩) (by decide) (rom0 hph hph (by decide)) ⟨(some ob1), rfl, rfl, rfl, rfl, rfl, rfl, (fun _ q => by cases q; exact tob1), trivial⟩
set_option maxHeartbeats 4000000 in
set_option maxRecDepth 100000 in
theorem C_remember {l : Launch} {G : GT} {mi : Nat} {sk : Nat → Nat} {L : List Nat} {cl ln : Nat → Nat} {iv : Nat → Nat → Int} {rv : Nat → Nat → Option Nat}  {a0 : Nat} {a1 : Nat} (hW : WT (g0 G) sk L cl ln iv rv) (hS : SKL sk L cl) (t_a0 : ty L cl a0 13) (t_a1 : ty L cl a1 21) (hch : iv (sk 23) 2 < 512) : Mc l G mi (Phi (g0 G) sk) PHM yX10_remember cX10_remember 2 none 7 [.ref a0, .ref a1] L cl ln iv rv 1216 (fun v L2 cl2 ln2 iv2 rv2 => v = none ∧ XT L cl ln L2 cl2 ln2 ∧ fT [23, 1001] L cl iv rv iv2 rv2 ∧ WT (g0 G) sk L2 cl2 ln2 iv2 rv2 ∧ (iv2 (sk 23) 2 = iv (sk 23) 2 + 1) ∧ (el rv2 (sk 23) (iv (sk 23) 2).toNat = some a1 ∧ ∀ i : Nat, (i : Int) < iv (sk 23) 2 → el rv2 (sk 23) i = el rv (sk 23) i)) := by
  refine Mc.mk (by decide) (Nat.le_of_ble_eq_true rfl) ?_
  intro p e s m args below meth c A C hM
  refine hv5 (Phi.le hW hS) (show ty L cl (sk 22) 22 from ⟨(hS 22 rfl).1, by rw [(hS 22 rfl).2]; rfl⟩) (show ty L cl (sk 23) 23 from ⟨(hS 23 rfl).1, by rw [(hS 23 rfl).2]; rfl⟩) (show XT L cl ln L cl ln from XT.refl) (show fT [23, 1001] L cl iv rv iv rv from fT.refl) (fun hph tsk22 tsk23 hX0 hF0 => ?_)
  refine c_aload_n (j := 0) (x := a0) C dX10_remember_0 rfl ?_
  obtain ⟨rb1, rq1, trb1⟩ := hW.ref t_a0 1 rfl rfl rfl
  have erb1 := hW.sk trb1 (by decide) rfl
  subst erb1
  refine c_getr (k := 1) C ck_11 dX10_remember_1 w1_91 (by decide) t_a0 rfl rfl (by decide) rfl rq1 ?_
  refine c_st (st2 := [.ref (sk 23)]) rfl ?_
  have ri1 : 0 ≤ iv (sk 23) 2 ∧ iv (sk 23) 2 ≤ 512 := hW.int tsk23 2
  refine d_callV (As := []) (rest := []) C hM (C_size_23 (a0 := (sk 23)) hW hS tsk23  ) dX10_remember_4 kV_X10_21 rfl tsk23 rfl rfl (by decide) ck_0 rfl (Nat.le_of_ble_eq_true rfl) ⟨(Nat.le_of_ble_eq_true rfl), (Nat.le_of_ble_eq_true rfl)⟩ hph hph (show 0 + 0 = 0 from rfl) (by decide) (fun rh1 Lh1 clh1 lnh1 ivh1 rvh1 h1 => ?_)
  obtain ⟨f1, rfl, rfl, rfl, rfl, rfl, rfl, rgf1, exf1⟩ := h1
  refine c_st (st2 := [.int (iI f1)]) rfl ?_
  have gf1 : f1 = iv (sk 23) 2 := exf1
  refine c_sipush (z := 512) C dX10_remember_7 (by decide) ?_
  refine c_icmp_lt (tgt := 22) C ⟨by omega, by omega⟩ ⟨by decide, by decide⟩ dX10_remember_10 (by decide) (fun _ => ?_) (fun z => absurd z (by omega))
  refine c_aload_n (j := 0) (x := a0) C dX10_remember_22 rfl ?_
  refine c_getr (k := 1) C ck_11 dX10_remember_23 w1_91 (by decide) t_a0 rfl rfl (by decide) rfl rq1 ?_
  refine c_st (st2 := [.ref (sk 23)]) rfl ?_
  refine c_aload_n (j := 1) (x := a1) C dX10_remember_26 rfl ?_
  refine d_callV (As := [.ref a1]) (rest := []) C hM (C_add_23 (a0 := (sk 23)) (x := a1) hW hS tsk23 t_a1  (by show iv (sk 23) 2 < 512; omega)) dX10_remember_27 kV_X10_43 rfl tsk23 rfl rfl (by decide) ck_0 rfl (Nat.le_of_ble_eq_true rfl) ⟨(Nat.le_of_ble_eq_true rfl), (Nat.le_of_ble_eq_true rfl)⟩ hph hph (show 0 + 1216 = 1216 from rfl) (by decide) (fun rh2 Lh2 clh2 lnh2 ivh2 rvh2 h2 => ?_)
  obtain ⟨f2, rfl, xl2, fl2, W2, rgf2, exf2⟩ := h2
  refine hv3 (hF0.call hX0 fl2 rfl) (hX0.trans xl2) (xl2.skl hS) (fun F1 X1 sk1 => ?_)
  refine c_st (st2 := [.int (iI f2)]) rfl ?_
  refine hv2 (xl2.ty tsk23) (show ivh2 (sk 23) 2 = iv (sk 23) 2 + 1 ∧ el rvh2 (sk 23) (iv (sk 23) 2).toNat = some a1 ∧ ∀ i : Nat, (i : Int) < iv (sk 23) 2 → el rvh2 (sk 23) i = el rv (sk 23) i from exf2) (fun ty1 gf2 => ?_)
  have ri2 : 0 ≤ ivh2 (sk 23) 2 ∧ ivh2 (sk 23) 2 ≤ 512 := W2.int ty1 2
  refine c_pop C dX10_remember_30 rfl ?_
  have pl1 := Phi.le W2 sk1
  exact c_vret C dX10_remember_31 rfl (by decide) (rom0 hph pl1 (by decide)) ⟨rfl, X1, F1, W2, (by omega), ⟨exf2.2.1, exf2.2.2⟩⟩
set_option maxHeartbeats 4000000 in
set_option maxRecDepth 100000 in
theorem C_make {l : Launch} {G : GT} {mi : Nat} {sk : Nat → Nat} {L : List Nat} {cl ln : Nat → Nat} {iv : Nat → Nat → Int} {rv : Nat → Nat → Option Nat}  {a0 : Nat} {a1 : Nat} (hW : WT (g0 G) sk L cl ln iv rv) (hS : SKL sk L cl) (t_a0 : ty L cl a0 13) (t_a1 : ty L cl a1 100) (hmr : MRK sk cl iv rv) (hmk : iv (sk 22) 2 < 30 ∧ iv (sk 23) 2 < 512 ∧ ((cl a1 : Nat) : Int) ≤ 100 + iv (sk 22) 2) : Mc l G mi (Phi (g0 G) sk) PHM yX10_make cX10_make 2 (some .int) 8 [.ref a0, .ref a1] L cl ln iv rv 1320 (fun v L2 cl2 ln2 iv2 rv2 => ∃ f : Int, v = some (.int (iI f)) ∧ XT L cl ln L2 cl2 ln2 ∧ fT [22, 1000, 23, 1001, 201] L cl iv rv iv2 rv2 ∧ WT (g0 G) sk L2 cl2 ln2 iv2 rv2 ∧ (-2147483648 ≤ f ∧ f ≤ 2147483647) ∧ (f = iv (sk 22) 2 ∧ iv2 (sk 22) 2 = iv (sk 22) 2 + 1 ∧ iv2 (sk 23) 2 = iv (sk 23) 2 + 1 ∧ MRK sk cl2 iv2 rv2) ∧ (el rv2 (sk 22) (iv (sk 22) 2).toNat = some a1 ∧ (∀ i : Nat, (i : Int) < iv (sk 22) 2 → el rv2 (sk 22) i = el rv (sk 22) i) ∧ PPSH 0 (some a1) sk iv rv iv2 rv2)) := by
  refine Mc.mk (by decide) (Nat.le_of_ble_eq_true rfl) ?_
  intro p e s m args below meth c A C hM
  refine hv5 (Phi.le hW hS) (show ty L cl (sk 22) 22 from ⟨(hS 22 rfl).1, by rw [(hS 22 rfl).2]; rfl⟩) (show ty L cl (sk 23) 23 from ⟨(hS 23 rfl).1, by rw [(hS 23 rfl).2]; rfl⟩) (show XT L cl ln L cl ln from XT.refl) (show fT [22, 1000, 23, 1001, 201] L cl iv rv iv rv from fT.refl) (fun hph tsk22 tsk23 hX0 hF0 => ?_)
  refine c_aload_n (j := 0) (x := a0) C dX10_make_0 rfl ?_
  obtain ⟨rb1, rq1, trb1⟩ := hW.ref t_a0 0 rfl rfl rfl
  have erb1 := hW.sk trb1 (by decide) rfl
  subst erb1
  refine c_getr (k := 0) C ck_11 dX10_make_1 w1_90 (by decide) t_a0 rfl rfl (by decide) rfl rq1 ?_
  refine c_st (st2 := [.ref (sk 22)]) rfl ?_
  refine c_aload_n (j := 1) (x := a1) C dX10_make_4 rfl ?_
  have ri1 : 0 ≤ iv (sk 22) 2 ∧ iv (sk 22) 2 ≤ 30 := hW.int tsk22 2
  refine d_callV (As := [.ref a1]) (rest := []) C hM (C_add_22 (a0 := (sk 22)) (x := a1) hW hS tsk22 t_a1  (by show iv (sk 22) 2 < 30; omega)) dX10_make_5 kV_X10_43 rfl tsk22 rfl rfl (by decide) ck_0 rfl (Nat.le_of_ble_eq_true rfl) ⟨(Nat.le_of_ble_eq_true rfl), (Nat.le_of_ble_eq_true rfl)⟩ hph hph (show 0 + 80 = 80 from rfl) (by decide) (fun rh1 Lh1 clh1 lnh1 ivh1 rvh1 h1 => ?_)
  obtain ⟨f1, rfl, xl1, fl1, W1, rgf1, exf1⟩ := h1
  refine hv3 (hF0.call hX0 fl1 rfl) (hX0.trans xl1) (xl1.skl hS) (fun F1 X1 sk1 => ?_)
  refine c_st (st2 := [.int (iI f1)]) rfl ?_
  refine hv2 (xl1.ty tsk22) (show ivh1 (sk 22) 2 = iv (sk 22) 2 + 1 ∧ el rvh1 (sk 22) (iv (sk 22) 2).toNat = some a1 ∧ ∀ i : Nat, (i : Int) < iv (sk 22) 2 → el rvh1 (sk 22) i = el rv (sk 22) i from exf1) (fun ty1 gf1 => ?_)
  have ri2 : 0 ≤ ivh1 (sk 22) 2 ∧ ivh1 (sk 22) 2 ≤ 30 := W1.int ty1 2
  have mr1 := MRK.add hmr hW hS xl1 (by omega) exf1.1 exf1.2.1 exf1.2.2 (by rw [(xl1 a1 t_a1.1).2.1]; omega)
  refine c_pop C dX10_make_8 rfl ?_
  refine c_aload_n (j := 0) (x := a0) C dX10_make_9 rfl ?_
  refine hv4 (xl1.ty t_a0) (xl1.ty t_a1) (xl1.ty tsk23) (Phi.le W1 sk1) (fun ty2 ty3 ty4 pl1 => ?_)
  refine c_new C ck_1 dv_1 ⟨rfl, rfl⟩ rfl (by decide) dX10_make_10 w3_34 w3_35 w1_18 (rom2 hph pl1 (by decide)) (fun qn1 cln1 lnn1 ivn1 rvn1 hqn1 hcn1 hln1 hin1 hrn1 => ⟨100, (p_in (Phi.new W1 sk1 hqn1 (fun b _ => by rw [hln1]) hrn1) (by omega)), ?_⟩)
  refine c_g0 C (fun hg1 => ?_)
  refine hv4 (show ∀ b, b ≠ qn1 → lnn1 b = lnh1 b from (fun b _ => by rw [hln1])) (F1.new X1 hqn1 hin1 hrn1) (show ty (Lh1 ++ [qn1]) cln1 qn1 201 from ty_new hcn1) (show qn1 ∉ L from fun h => hqn1 ((X1 qn1 h).1)) (fun hxn1 F2 tqn1 h0qn1 => ?_)
  refine hv2 (W1.new (ln2 := lnn1) hqn1 (hg1 qn1 (List.mem_append_right _ List.mem_cons_self)) hcn1 hxn1 hin1 hrn1 (fun _ => ⟨(show (-2147483648 : Int) ≤ 0 by decide), (show (0 : Int) ≤ 2147483647 by decide)⟩) (Or.inl rfl) (fun q => by cases q) rfl rfl) (XT.new hqn1 hcn1 hxn1) (fun W2 xl2 => ?_)
  refine hv3 (X1.trans xl2) (xl2.skl sk1) (MRK.call mr1 W1 sk1 xl2 ((fT.refl (ls := [])).new (XT.refl (ln := lnh1)) hqn1 hin1 hrn1) rfl rfl) (fun X2 sk2 mr2 => ?_)
  refine c_dup C dX10_make_13 rfl ?_
  refine c_iconst C dX10_make_14 ?_
  refine c_aload_n (j := 1) (x := a1) C dX10_make_15 rfl ?_
  refine c_null C dX10_make_16 ?_
  refine c_iconst C dX10_make_17 ?_
  refine hv2 (xl2.ty ty3) (Phi.le W2 sk2) (fun ty5 pl2 => ?_)
  refine c_callI (As := [.int (iI 0), .ref a1, .null, .int (iI 0)]) (rest := [.ref qn1, .ref a0]) C hM (Z_change (a0 := qn1) (i := 0) (a2 := a1) (r := none) (n := 0) W2 sk2 tqn1 ty5 (fun _ q => by cases q) ⟨by decide, by decide⟩ ⟨by decide, by decide⟩ ) dX10_make_18 kI_X10_49 rfl rfl (Nat.le_of_ble_eq_true rfl) ⟨(Nat.le_of_ble_eq_true rfl), (Nat.le_of_ble_eq_true rfl)⟩ (rz1 hph pl2 (by decide)) (fun rh2 Lh2 clh2 lnh2 ivh2 rvh2 h2 => ⟨100, (zk1 (by obtain ⟨_, _, _, e3, flh2x, Wh2x, _⟩ := h2; subst e3; exact Phi.frn sk2 flh2x rfl)), ?_⟩)
  obtain ⟨rfl, rfl, rfl, rfl, fl2, W3, exf2⟩ := h2
  refine hv2 (F2.call X2 fl2 rfl) (MRK.call mr2 W2 sk2 XT.refl fl2 rfl rfl) (fun F3 mr3 => ?_)
  refine c_st (st2 := [.ref qn1, .ref a0]) rfl ?_
  obtain ⟨exf2x, exf2r, exf2p, exf2i, exf2j⟩ := exf2
  have rn1 : ∀ k, ([1, 2] : List Nat).contains k = false → rvh2 qn1 k = none := fun k hk => (Eq.trans (show rvh2 qn1 k = rvn1 qn1 k from (exf2x k hk)) (show rvn1 qn1 k = none from (by rw [hrn1]; exact up0_s)))
  refine c_retag (q := qn1) (t := 21) (by rw [tqn1.2]; rfl) (fun clr1 hcr1 => ?_)
  refine hv5 (xl2.ty ty2) (ty_rt ty5 hcr1 (ne_ty ty5 tqn1 (by decide))) (xl2.ty ty1) (xl2.ty ty4) (show ty (Lh1 ++ [qn1]) clr1 qn1 21 from ⟨tqn1.1, by rw [hcr1, va_up_self]; rfl⟩) (fun ty6 ty8 ty9 ty11 tqr1 => ?_)
  refine hv3 (ty_rt ty6 hcr1 (ne_ty ty6 tqn1 (by decide))) (ty_rt ty9 hcr1 (ne_ty ty9 tqn1 (by decide))) (ty_rt ty11 hcr1 (ne_ty ty11 tqn1 (by decide))) (fun ty7 ty10 ty12 => ?_)
  have W4 := W3.retag tqn1.1 (by rw [tqn1.2]; rfl) hcr1 (fun k => by
        rcases k with _ | _ | _ | _ | k
        · exact W3.int tqn1 0
        · exact W3.int tqn1 1
        · exact W3.int tqn1 2
        · exact ⟨(by show 0 ≤ ivh2 qn1 3; first | exact bx_lo ‹ivh2 qn1 3 = _› (by decide) | omega), (by show ivh2 qn1 3 ≤ 5; first | exact bx_hi ‹ivh2 qn1 3 = _› (by decide) | omega)⟩
        · exact W3.int tqn1 (k + 4)) (fun k => by
        rcases k with _ | _ | _ | _ | k
        · rw [rn1 0 (by decide)]; exact rok_none tqr1 rfl
        · rw [exf2r]; exact rok_some tqr1 ty8 rfl (by decide) rfl
        · rw [exf2p]; exact rok_ch tqr1 (fun _ q => by cases q)
        · rw [rn1 3 (by decide)]; exact rok_none tqr1 rfl
        · rw [rn1 (k + 4) (by simp)]; exact rok_none tqr1 rfl) rfl (fun z => by cases z) (fun z => by cases z) rfl
  refine hv8 (X2.rt hcr1 h0qn1) (sk2.rt hcr1 (by rw [tqn1.2]; rfl)) (MRK.rt mr3 W3 sk2 hcr1 (by rw [tqn1.2]; rfl)) (show ∀ i : Nat, (i : Int) < iv (sk 23) 2 → el rvh2 (sk 23) i = el rv (sk 23) i from (fun i hi => el_ch hW (tysk23 hS) rfl rfl ((show ∀ bb, ty L cl bb 23 → rvh2 bb 1 = rv bb 1 from fun bb tbb => by have tb1 := xl1.ty tbb; have tb2 := xl2.ty tb1; exact (Eq.trans (show rvh2 bb 1 = rvn1 bb 1 from (fl2.r tb2 rfl 1)) (Eq.trans (show rvn1 bb 1 = rvh1 bb 1 from (by rw [hrn1]; exact congrFun (up0_a (ne_in tb1.1 hqn1)) _)) (show rvh1 bb 1 = rv bb 1 from (fl1.r tbb rfl 1))))) (sk 23) (tysk23 hS)) (fun bb tbb kk => by have tb1 := xl1.ty tbb; have tb2 := xl2.ty tb1; exact (Eq.trans (show rvh2 bb kk = rvn1 bb kk from (fl2.r tb2 rfl kk)) (Eq.trans (show rvn1 bb kk = rvh1 bb kk from (by rw [hrn1]; exact congrFun (up0_a (ne_in tb1.1 hqn1)) _)) (show rvh1 bb kk = rv bb kk from (fl1.r tbb rfl kk))))) hi)) (show 0 ≤ ivh2 (sk 23) 2 ∧ ivh2 (sk 23) 2 ≤ 512 from W4.int ty12 2) (show ivh2 (sk 23) 2 = ivn1 (sk 23) 2 from fl2.i ty11 rfl 2) (show ivn1 (sk 23) 2 = ivh1 (sk 23) 2 from by rw [hin1]; exact congrFun (up0_a (ne_in ty4.1 hqn1)) _) (show ivh1 (sk 23) 2 = iv (sk 23) 2 from fl1.i tsk23 rfl 2) (fun X3 sk3 mr4 ce1 ri3 ie2 ie3 ie4 => ?_)
  have pl3 := Phi.le W4 sk3
  refine d_callV (As := [.ref qn1]) (rest := []) C hM (C_remember (a0 := a0) (a1 := qn1) W4 sk3 ty7 tqr1  (by show ivh2 (sk 23) 2 < 512; omega)) dX10_make_21 kV_X10_52 rfl ty7 rfl rfl (by decide) ck_11 rfl (Nat.le_of_ble_eq_true rfl) ⟨(Nat.le_of_ble_eq_true rfl), (Nat.le_of_ble_eq_true rfl)⟩ hph pl3 (show 100 + 1216 = 1316 from rfl) (by decide) (fun rh3 Lh3 clh3 lnh3 ivh3 rvh3 h3 => ?_)
  obtain ⟨rfl, xl4, fl3, W5, exf3, rmef3⟩ := h3
  refine hv4 (F3.call X3 fl3 rfl) (MRK.call mr4 W4 sk3 xl4 fl3 rfl rfl) (X3.trans xl4) (xl4.skl sk3) (fun F4 mr5 X4 sk4 => ?_)
  refine c_st (st2 := []) rfl ?_
  refine hv2 (xl4.ty ty12) (show ivh3 (sk 23) 2 = ivh2 (sk 23) 2 + 1 from exf3) (fun ty13 gf3 => ?_)
  have ri4 : 0 ≤ ivh3 (sk 23) 2 ∧ ivh3 (sk 23) 2 ≤ 512 := W5.int ty13 2
  refine c_aload_n (j := 0) (x := a0) C dX10_make_24 rfl ?_
  refine hv2 (xl4.ty ty7) (show rvh1 a0 0 = rv a0 0 from (fl1.r t_a0 rfl 0)) (fun ty14 re1 => ?_)
  rw [rq1] at re1
  have re2 : rvn1 a0 0 = rvh1 a0 0 := (by rw [hrn1]; exact congrFun (up0_a (ne_in ty2.1 hqn1)) _)
  rw [re1] at re2
  have re3 : rvh2 a0 0 = rvn1 a0 0 := (fl2.r ty6 rfl 0)
  rw [re2] at re3
  have re4 : rvh3 a0 0 = rvh2 a0 0 := (fl3.r ty7 rfl 0)
  rw [re3] at re4
  refine c_getr (k := 0) C ck_11 dX10_make_25 w1_90 (by decide) ty14 rfl rfl (by decide) rfl re4 ?_
  refine c_st (st2 := [.ref (sk 22)]) rfl ?_
  refine hv5 (xl4.ty ty10) (show ivh3 (sk 22) 2 = ivh2 (sk 22) 2 from fl3.i ty10 rfl 2) (show ivh2 (sk 22) 2 = ivn1 (sk 22) 2 from fl2.i ty9 rfl 2) (show ivn1 (sk 22) 2 = ivh1 (sk 22) 2 from by rw [hin1]; exact congrFun (up0_a (ne_in ty1.1 hqn1)) _) (Phi.le W5 sk4) (fun ty15 ie6 ie7 ie8 pl4 => ?_)
  have ri5 : 0 ≤ ivh3 (sk 22) 2 ∧ ivh3 (sk 22) 2 ≤ 30 := W5.int ty15 2
  refine d_callV (As := []) (rest := []) C hM (C_size_22 (a0 := (sk 22)) W5 sk4 ty15  ) dX10_make_28 kV_X10_21 rfl ty15 rfl rfl (by decide) ck_0 rfl (Nat.le_of_ble_eq_true rfl) ⟨(Nat.le_of_ble_eq_true rfl), (Nat.le_of_ble_eq_true rfl)⟩ hph pl4 (show 1316 + 0 = 1316 from rfl) (by decide) (fun rh4 Lh4 clh4 lnh4 ivh4 rvh4 h4 => ?_)
  obtain ⟨f4, rfl, rfl, rfl, rfl, rfl, rfl, rgf4, exf4⟩ := h4
  refine c_st (st2 := [.int (iI f4)]) rfl ?_
  have gf4 : f4 = ivh3 (sk 22) 2 := exf4
  refine c_iconst C dX10_make_31 ?_
  refine c_isub C dX10_make_32 ?_
  refine hv3 (xl4.ty tqr1) (show ivh3 qn1 0 = ivh2 qn1 0 from fl3.i tqr1 rfl 0) (show rvh3 qn1 1 = rvh2 qn1 1 from (fl3.r tqr1 rfl 1)) (fun ty16 ie9 re5 => ?_)
  have ri6 : (-2147483648) ≤ ivh3 qn1 0 ∧ ivh3 qn1 0 ≤ 2147483647 := W5.int ty16 0
  rw [exf2r] at re5
  exact c_iret C dX10_make_33 rfl (by decide) (rom0 hph pl4 (by decide)) ⟨(f4 - 1), rfl, X4, F4, W5, ⟨by omega, by omega⟩, ⟨(by omega), (by omega), (by omega), mr5⟩, ⟨((fun i hi => el_ch W1 (tysk22 sk1) rfl rfl ((show ∀ bb, ty Lh1 clh1 bb 22 → rvh3 bb 1 = rvh1 bb 1 from fun bb tbb => by have tb2 := xl2.ty tbb; have tb3 := ty_rt tb2 hcr1 (ne_ty tb2 tqn1 (by decide)); exact (Eq.trans (show rvh3 bb 1 = rvh2 bb 1 from (fl3.r tb3 rfl 1)) (Eq.trans (show rvh2 bb 1 = rvn1 bb 1 from (fl2.r tb2 rfl 1)) (show rvn1 bb 1 = rvh1 bb 1 from (by rw [hrn1]; exact congrFun (up0_a (ne_in tbb.1 hqn1)) _))))) (sk 22) (tysk22 sk1)) (fun bb tbb kk => by have tb2 := xl2.ty tbb; have tb3 := ty_rt tb2 hcr1 (ne_ty tb2 tqn1 (by decide)); exact (Eq.trans (show rvh3 bb kk = rvh2 bb kk from (fl3.r tb3 rfl kk)) (Eq.trans (show rvh2 bb kk = rvn1 bb kk from (fl2.r tb2 rfl kk)) (show rvn1 bb kk = rvh1 bb kk from (by rw [hrn1]; exact congrFun (up0_a (ne_in tbb.1 hqn1)) _))))) hi) _ (by omega)).trans exf1.2.1, (fun i hi => ((fun i hi => el_ch W1 (tysk22 sk1) rfl rfl ((show ∀ bb, ty Lh1 clh1 bb 22 → rvh3 bb 1 = rvh1 bb 1 from fun bb tbb => by have tb2 := xl2.ty tbb; have tb3 := ty_rt tb2 hcr1 (ne_ty tb2 tqn1 (by decide)); exact (Eq.trans (show rvh3 bb 1 = rvh2 bb 1 from (fl3.r tb3 rfl 1)) (Eq.trans (show rvh2 bb 1 = rvn1 bb 1 from (fl2.r tb2 rfl 1)) (show rvn1 bb 1 = rvh1 bb 1 from (by rw [hrn1]; exact congrFun (up0_a (ne_in tbb.1 hqn1)) _))))) (sk 22) (tysk22 sk1)) (fun bb tbb kk => by have tb2 := xl2.ty tbb; have tb3 := ty_rt tb2 hcr1 (ne_ty tb2 tqn1 (by decide)); exact (Eq.trans (show rvh3 bb kk = rvh2 bb kk from (fl3.r tb3 rfl kk)) (Eq.trans (show rvh2 bb kk = rvn1 bb kk from (fl2.r tb2 rfl kk)) (show rvn1 bb kk = rvh1 bb kk from (by rw [hrn1]; exact congrFun (up0_a (ne_in tbb.1 hqn1)) _))))) hi) i (by omega)).trans (exf1.2.2 i hi)), ⟨(by omega), CS0.of hW hS (Int.le_refl _) (fun i hi => (rmef3.2 i (by omega)).trans (ce1 i hi)) (fun bb tbb => by have tb1 := xl1.ty tbb; have tb2 := xl2.ty tb1; have tb3 := ty_rt tb2 hcr1 (ne_ty tb2 tqn1 (by decide)); exact (Eq.trans (show ivh3 bb 0 = ivh2 bb 0 from (fl3.i tb3 rfl 0)) (Eq.trans (show ivh2 bb 0 = ivn1 bb 0 from (fl2.i tb2 rfl 0)) (Eq.trans (show ivn1 bb 0 = ivh1 bb 0 from (by rw [hin1]; exact congrFun (up0_a (ne_in tb1.1 hqn1)) _)) (show ivh1 bb 0 = iv bb 0 from (fl1.i tbb rfl 0)))))) (fun bb tbb => by have tb1 := xl1.ty tbb; have tb2 := xl2.ty tb1; have tb3 := ty_rt tb2 hcr1 (ne_ty tb2 tqn1 (by decide)); exact (Eq.trans (show rvh3 bb 1 = rvh2 bb 1 from (fl3.r tb3 rfl 1)) (Eq.trans (show rvh2 bb 1 = rvn1 bb 1 from (fl2.r tb2 rfl 1)) (Eq.trans (show rvn1 bb 1 = rvh1 bb 1 from (by rw [hrn1]; exact congrFun (up0_a (ne_in tb1.1 hqn1)) _)) (show rvh1 bb 1 = rv bb 1 from (fl1.r tbb rfl 1)))))), ⟨qn1, (by rw [show (iv (sk 23) 2).toNat = (ivh2 (sk 23) 2).toNat from congrArg Int.toNat (by omega)]; exact rmef3.1), (by omega), re5⟩⟩⟩⟩
set_option maxHeartbeats 4000000 in
set_option maxRecDepth 100000 in
theorem C_takeBack {l : Launch} {G : GT} {mi : Nat} {sk : Nat → Nat} {L : List Nat} {cl ln : Nat → Nat} {iv : Nat → Nat → Int} {rv : Nat → Nat → Option Nat}  {a0 : Nat} (hW : WT (g0 G) sk L cl ln iv rv) (hS : SKL sk L cl) (t_a0 : ty L cl a0 13) (hmr : MRK sk cl iv rv) : Mc l G mi (Phi (g0 G) sk) PHM yX10_takeBack cX10_takeBack 2 (some .boolean) 4 [.ref a0] L cl ln iv rv 0 (fun v L2 cl2 ln2 iv2 rv2 => ∃ f : Int, v = some (.int (iI f)) ∧ L = L2 ∧ cl = cl2 ∧ ln = ln2 ∧ fT [22, 1000, 23, 1001, 26, 1004, 12, 20, 68, 100] L cl iv rv iv2 rv2 ∧ WT (g0 G) sk L2 cl2 ln2 iv2 rv2 ∧ (f = 0 ∨ f = 1) ∧ (iv2 (sk 22) 2 ≤ iv (sk 22) 2 ∧ iv2 (sk 23) 2 ≤ iv (sk 23) 2 ∧ MRK sk cl2 iv2 rv2) ∧ ((f = 0 ∧ iv (sk 23) 2 = 0 ∧ PSAME sk iv rv iv2 rv2) ∨ (f = 1 ∧ iv (sk 23) 2 ≠ 0 ∧ ∃ ch, el rv (sk 23) (iv (sk 23) 2 - 1).toNat = some ch ∧ PUND ch sk iv rv iv2 rv2)) ∧ ((f = 0 ∧ KP L cl (fun _ => False) (fun _ => False) (fun _ => False) (fun _ => False) (fun _ _ => False) iv rv iv2 rv2) ∨ (f = 1 ∧ ∃ ch, el rv (sk 23) (iv (sk 23) 2 - 1).toNat = some ch ∧ UKP L cl ch iv rv iv2 rv2))) := by
  refine Mc.mk (by decide) (Nat.le_of_ble_eq_true rfl) ?_
  intro p e s m args below meth c A C hM
  refine hv5 (Phi.le hW hS) (show ty L cl (sk 22) 22 from ⟨(hS 22 rfl).1, by rw [(hS 22 rfl).2]; rfl⟩) (show ty L cl (sk 23) 23 from ⟨(hS 23 rfl).1, by rw [(hS 23 rfl).2]; rfl⟩) (show XT L cl ln L cl ln from XT.refl) (show fT [22, 1000, 23, 1001, 26, 1004, 12, 20, 68, 100] L cl iv rv iv rv from fT.refl) (fun hph tsk22 tsk23 hX0 hF0 => ?_)
  refine c_aload_n (j := 0) (x := a0) C dX10_takeBack_0 rfl ?_
  obtain ⟨rb1, rq1, trb1⟩ := hW.ref t_a0 1 rfl rfl rfl
  have erb1 := hW.sk trb1 (by decide) rfl
  subst erb1
  refine c_getr (k := 1) C ck_11 dX10_takeBack_1 w1_91 (by decide) t_a0 rfl rfl (by decide) rfl rq1 ?_
  refine c_st (st2 := [.ref (sk 23)]) rfl ?_
  have ri1 : 0 ≤ iv (sk 23) 2 ∧ iv (sk 23) 2 ≤ 512 := hW.int tsk23 2
  refine d_callV (As := []) (rest := []) C hM (C_isEmpty_23 (a0 := (sk 23)) hW hS tsk23  ) dX10_takeBack_4 kV_X10_59 rfl tsk23 rfl rfl (by decide) ck_0 rfl (Nat.le_of_ble_eq_true rfl) ⟨(Nat.le_of_ble_eq_true rfl), (Nat.le_of_ble_eq_true rfl)⟩ hph hph (show 0 + 0 = 0 from rfl) (by decide) (fun rh1 Lh1 clh1 lnh1 ivh1 rvh1 h1 => ?_)
  obtain ⟨f1, rfl, rfl, rfl, rfl, rfl, rfl, rgf1, exf1⟩ := h1
  refine c_st (st2 := [.int (iI f1)]) rfl ?_
  have gf1 : (f1 = 1 ∧ iv (sk 23) 2 = 0) ∨ (f1 = 0 ∧ iv (sk 23) 2 ≠ 0) := exf1
  refine c_if_eq (tgt := 12) C (r32_qp gf1) dX10_takeBack_7 (by decide) (fun c1 => ?_) (fun c1 => ?_)
  · replace gf1 := (gf1.resolve_left (fun q => absurd (q.1.symm.trans c1) (by decide)))
    refine c_aload_n (j := 0) (x := a0) C dX10_takeBack_12 rfl ?_
    refine c_getr (k := 1) C ck_11 dX10_takeBack_13 w1_91 (by decide) t_a0 rfl rfl (by decide) rfl rq1 ?_
    refine c_st (st2 := [.ref (sk 23)]) rfl ?_
    refine c_aload_n (j := 0) (x := a0) C dX10_takeBack_16 rfl ?_
    refine c_getr (k := 1) C ck_11 dX10_takeBack_17 w1_91 (by decide) t_a0 rfl rfl (by decide) rfl rq1 ?_
    refine c_st (st2 := [.ref (sk 23), .ref (sk 23)]) rfl ?_
    refine d_callV (As := []) (rest := [.ref (sk 23)]) C hM (C_size_23 (a0 := (sk 23)) hW hS tsk23  ) dX10_takeBack_20 kV_X10_21 rfl tsk23 rfl rfl (by decide) ck_0 rfl (Nat.le_of_ble_eq_true rfl) ⟨(Nat.le_of_ble_eq_true rfl), (Nat.le_of_ble_eq_true rfl)⟩ hph hph (show 0 + 0 = 0 from rfl) (by decide) (fun rh2 Lh2 clh2 lnh2 ivh2 rvh2 h2 => ?_)
    obtain ⟨f2, rfl, rfl, rfl, rfl, rfl, rfl, rgf2, exf2⟩ := h2
    refine c_st (st2 := [.int (iI f2), .ref (sk 23)]) rfl ?_
    have gf2 : f2 = iv (sk 23) 2 := exf2
    refine c_iconst C dX10_takeBack_23 ?_
    refine c_isub C dX10_takeBack_24 ?_
    refine d_callV (As := [.int (iI (f2 - 1))]) (rest := []) C hM (C_remove_23 (a0 := (sk 23)) (i := f2 - 1) hW hS tsk23 (by omega) (by show (f2 - 1) = iv (sk 23) 2 - 1 ∧ 0 ≤ (f2 - 1); omega)) dX10_takeBack_25 kV_X10_56 rfl tsk23 rfl rfl (by decide) ck_0 rfl (Nat.le_of_ble_eq_true rfl) ⟨(Nat.le_of_ble_eq_true rfl), (Nat.le_of_ble_eq_true rfl)⟩ hph hph (show 0 + 0 = 0 from rfl) (by decide) (fun rh3 Lh3 clh3 lnh3 ivh3 rvh3 h3 => ?_)
    obtain ⟨f3, rfl, rfl, rfl, rfl, fl3, W3, rgf3, exf3, rmef3⟩ := h3
    refine hv2 (hF0.call hX0 fl3 rfl) (MRK.call hmr hW hS XT.refl fl3 rfl rfl) (fun F1 mr1 => ?_)
    refine c_st (st2 := [.ref f3]) rfl ?_
    refine hv2 (show 0 ≤ ivh3 (sk 23) 2 ∧ ivh3 (sk 23) 2 ≤ 512 from W3.int tsk23 2) (show ivh3 (sk 23) 2 = iv (sk 23) 2 - 1 ∧ ∀ j : Nat, (j : Int) < iv (sk 23) 2 - 1 → el rvh3 (sk 23) j = el rv (sk 23) j from exf3) (fun ri2 gf3 => ?_)
    refine c_cast C ck_1 dX10_takeBack_28 w3_34 w8_170t rgf3 rfl rfl (by decide) ?_
    refine c_astore_n (lv2 := [(1, .ref f3), (0, .ref a0)]) C dX10_takeBack_31 (by decide) rfl ?_
    refine c_aload_n (j := 0) (x := f3) C dX10_takeBack_32 rfl ?_
    refine hv2 (show (-2147483648) ≤ ivh3 f3 0 ∧ ivh3 f3 0 ≤ 2147483647 from W3.int rgf3 0) (show ivh3 f3 0 = iv f3 0 from fl3.i rgf3 rfl 0) (fun ri3 ie2 => ?_)
    refine c_get (k := 0) C ck_1 dX10_takeBack_33 w3_41 (by decide) rgf3 rfl rfl (by decide) rfl ?_
    rcases (show (ivh3 f3 0) = 0 ∨ (ivh3 f3 0) = 1 ∨ (ivh3 f3 0) = 2 ∨ (ivh3 f3 0) = 3 ∨ ((ivh3 f3 0) < 0 ∨ 3 < (ivh3 f3 0)) by omega) with sw1 | sw1 | sw1 | sw1 | sw1
    · refine c_tabIn (tgt := 68) (off := 32) C (r32_c (lo := (-2147483648)) (hi := 2147483647) ri3.1 ri3.2 (by decide) (by decide)) dX10_takeBack_36 (by omega) (by omega) (by rw [sw1]; rfl) (by decide) ?_
      have kp1 : KP L cl (fun _ => False) (fun _ => False) (fun _ => False) (fun _ => False) (fun _ _ => False) iv rv iv rv := KP.refl
      have kp2 := kp1.call TX.refl hW fl3 rfl
      refine c_aload_n (j := 1) (x := a0) C dX10_takeBack_68 rfl ?_
      obtain ⟨rb2, rq2, trb2⟩ := W3.ref t_a0 0 rfl rfl rfl
      have erb2 := W3.sk trb2 (by decide) rfl
      subst erb2
      refine c_getr (k := 0) C ck_11 dX10_takeBack_69 w1_90 (by decide) t_a0 rfl rfl (by decide) rfl rq2 ?_
      refine c_st (st2 := [.ref (sk 22)]) rfl ?_
      refine hv3 (show 0 ≤ ivh3 (sk 22) 2 ∧ ivh3 (sk 22) 2 ≤ 30 from W3.int tsk22 2) (show ivh3 (sk 22) 2 = iv (sk 22) 2 from fl3.i tsk22 rfl 2) (Phi.le W3 hS) (fun ri4 ie3 pl1 => ?_)
      refine d_callV (As := []) (rest := []) C hM (C_isEmpty_22 (a0 := (sk 22)) W3 hS tsk22  ) dX10_takeBack_72 kV_X10_59 rfl tsk22 rfl rfl (by decide) ck_0 rfl (Nat.le_of_ble_eq_true rfl) ⟨(Nat.le_of_ble_eq_true rfl), (Nat.le_of_ble_eq_true rfl)⟩ hph pl1 (show 0 + 0 = 0 from rfl) (by decide) (fun rh4 Lh4 clh4 lnh4 ivh4 rvh4 h4 => ?_)
      obtain ⟨f4, rfl, rfl, rfl, rfl, rfl, rfl, rgf4, exf4⟩ := h4
      refine c_st (st2 := [.int (iI f4)]) rfl ?_
      have gf4 : (f4 = 1 ∧ ivh3 (sk 22) 2 = 0) ∨ (f4 = 0 ∧ ivh3 (sk 22) 2 ≠ 0) := exf4
      refine c_if_ne (tgt := 171) C (r32_qp gf4) dX10_takeBack_75 (by decide) (fun c2 => ?_) (fun c2 => ?_)
      · replace gf4 := (gf4.resolve_right (fun q => c2 q.1))
        refine c_iconst C dX10_takeBack_171 ?_
        refine hv2 (show 0 ≤ ivh3 f3 3 ∧ ivh3 f3 3 ≤ 5 from W3.int rgf3 3) (show ivh3 f3 3 = iv f3 3 from fl3.i rgf3 rfl 3) (fun ri5 ie4 => ?_)
        exact c_zret C dX10_takeBack_172 rfl (Or.inr rfl) (by decide) (rom0 hph pl1 (by decide)) ⟨1, rfl, rfl, rfl, rfl, F1, W3, (Or.inr rfl), ⟨(by omega), (by omega), mr1⟩, (Or.inr ⟨by omega, by omega, f3, rmef3, by omega, CS0.of hW hS (by omega) (fun i hi => exf3.2 i (by omega)) (fun bb tb => F1.i tb rfl 0) (fun bb tb => F1.r tb rfl 1), Or.inl ⟨by omega, by omega, (fun i hi => absurd hi (by omega)), TSF.of hW hS (fun bb tbb hbb => by exact (show ivh3 bb 7 = iv bb 7 from (fl3.i tbb rfl 7))) (fun bb tbb => by exact (show ivh3 bb 0 = iv bb 0 from (fl3.i tbb rfl 0))) (fun bb tbb => by exact (show ivh3 bb 1 = iv bb 1 from (fl3.i tbb rfl 1))) (fun bb tbb => by exact (show rvh3 bb 4 = rv bb 4 from (fl3.r tbb rfl 4))), TSQ.of hW hS (fun bb tbb hbb => by exact (show ivh3 bb 2 = iv bb 2 from (fl3.i tbb rfl 2)))⟩⟩), (Or.inr ⟨by omega, f3, rmef3, (fun _ => kp2), (fun h => absurd h (by omega)), (fun h => absurd h (by omega)), (fun h => absurd h (by omega)), (fun h => absurd h (by omega))⟩)⟩
      · replace gf4 := (gf4.resolve_left (fun q => absurd (q.1.symm.trans c2) (by decide)))
        refine c_aload_n (j := 1) (x := a0) C dX10_takeBack_78 rfl ?_
        refine c_getr (k := 0) C ck_11 dX10_takeBack_79 w1_90 (by decide) t_a0 rfl rfl (by decide) rfl rq2 ?_
        refine c_st (st2 := [.ref (sk 22)]) rfl ?_
        refine c_aload_n (j := 1) (x := a0) C dX10_takeBack_82 rfl ?_
        refine c_getr (k := 0) C ck_11 dX10_takeBack_83 w1_90 (by decide) t_a0 rfl rfl (by decide) rfl rq2 ?_
        refine c_st (st2 := [.ref (sk 22), .ref (sk 22)]) rfl ?_
        refine d_callV (As := []) (rest := [.ref (sk 22)]) C hM (C_size_22 (a0 := (sk 22)) W3 hS tsk22  ) dX10_takeBack_86 kV_X10_21 rfl tsk22 rfl rfl (by decide) ck_0 rfl (Nat.le_of_ble_eq_true rfl) ⟨(Nat.le_of_ble_eq_true rfl), (Nat.le_of_ble_eq_true rfl)⟩ hph pl1 (show 0 + 0 = 0 from rfl) (by decide) (fun rh5 Lh5 clh5 lnh5 ivh5 rvh5 h5 => ?_)
        obtain ⟨f5, rfl, rfl, rfl, rfl, rfl, rfl, rgf5, exf5⟩ := h5
        refine c_st (st2 := [.int (iI f5), .ref (sk 22)]) rfl ?_
        have gf5 : f5 = ivh3 (sk 22) 2 := exf5
        refine c_iconst C dX10_takeBack_89 ?_
        refine c_isub C dX10_takeBack_90 ?_
        have te1 : ∀ i : Nat, (i : Int) < iv (sk 22) 2 → el rvh3 (sk 22) i = el rv (sk 22) i := (fun i hi => el_ch hW (tysk22 hS) rfl rfl ((show ∀ bb, ty L cl bb 22 → rvh3 bb 1 = rv bb 1 from fun bb tbb => by exact (show rvh3 bb 1 = rv bb 1 from (fl3.r tbb rfl 1))) (sk 22) (tysk22 hS)) (fun bb tbb kk => by exact (show rvh3 bb kk = rv bb kk from (fl3.r tbb rfl kk))) hi)
        refine d_callV (As := [.int (iI (f5 - 1))]) (rest := []) C hM (C_remove_22 (a0 := (sk 22)) (i := f5 - 1) W3 hS tsk22 (by omega) (by show (f5 - 1) = ivh3 (sk 22) 2 - 1 ∧ 0 ≤ (f5 - 1); omega)) dX10_takeBack_91 kV_X10_56 rfl tsk22 rfl rfl (by decide) ck_0 rfl (Nat.le_of_ble_eq_true rfl) ⟨(Nat.le_of_ble_eq_true rfl), (Nat.le_of_ble_eq_true rfl)⟩ hph pl1 (show 0 + 0 = 0 from rfl) (by decide) (fun rh6 Lh6 clh6 lnh6 ivh6 rvh6 h6 => ?_)
        obtain ⟨f6, rfl, rfl, rfl, rfl, fl6, W6, rgf6, exf6, rmef6⟩ := h6
        refine hv2 (F1.call hX0 fl6 rfl) (kp2.call TX.refl W3 fl6 rfl) (fun F2 kp3 => ?_)
        refine c_st (st2 := [.ref f6]) rfl ?_
        refine hv3 (show 0 ≤ ivh6 (sk 22) 2 ∧ ivh6 (sk 22) 2 ≤ 30 from W6.int tsk22 2) (show ivh6 (sk 22) 2 = ivh3 (sk 22) 2 - 1 ∧ ∀ j : Nat, (j : Int) < ivh3 (sk 22) 2 - 1 → el rvh6 (sk 22) j = el rvh3 (sk 22) j from exf6) (MRK.rem mr1 exf6.1 exf6.2) (fun ri6 gf6 mr2 => ?_)
        refine c_pop C dX10_takeBack_94 rfl ?_
        refine c_goto (tgt := 171) C dX10_takeBack_95 (by decide) ?_
        refine c_iconst C dX10_takeBack_171 ?_
        refine hv8 (show 0 ≤ ivh6 (sk 23) 2 ∧ ivh6 (sk 23) 2 ≤ 512 from W6.int tsk23 2) (show ivh6 (sk 23) 2 = ivh3 (sk 23) 2 from fl6.i tsk23 rfl 2) (show (-2147483648) ≤ ivh6 f3 0 ∧ ivh6 f3 0 ≤ 2147483647 from W6.int rgf3 0) (show ivh6 f3 0 = ivh3 f3 0 from fl6.i rgf3 rfl 0) (show 0 ≤ ivh6 f3 3 ∧ ivh6 f3 3 ≤ 5 from W6.int rgf3 3) (show ivh6 f3 3 = ivh3 f3 3 from fl6.i rgf3 rfl 3) (show ivh3 f3 3 = iv f3 3 from fl3.i rgf3 rfl 3) (Phi.le W6 hS) (fun ri7 ie6 ri8 ie7 ri9 ie8 ie9 pl2 => ?_)
        exact c_zret C dX10_takeBack_172 rfl (Or.inr rfl) (by decide) (rom0 hph pl2 (by decide)) ⟨1, rfl, rfl, rfl, rfl, F2, W6, (Or.inr rfl), ⟨(by omega), (by omega), mr2⟩, (Or.inr ⟨by omega, by omega, f3, rmef3, by omega, CS0.of hW hS (by omega) (fun i hi => ((fun i hi => el_ch W3 (tysk23 hS) rfl rfl ((show ∀ bb, ty L cl bb 23 → rvh6 bb 1 = rvh3 bb 1 from fun bb tbb => by exact (show rvh6 bb 1 = rvh3 bb 1 from (fl6.r tbb rfl 1))) (sk 23) (tysk23 hS)) (fun bb tbb kk => by exact (show rvh6 bb kk = rvh3 bb kk from (fl6.r tbb rfl kk))) hi) i (by omega)).trans (exf3.2 i (by omega))) (fun bb tb => F2.i tb rfl 0) (fun bb tb => F2.r tb rfl 1), Or.inl ⟨by omega, by omega, (fun i hi => (exf6.2 i (by omega)).trans (te1 i (by omega))), TSF.of hW hS (fun bb tbb hbb => by exact (Eq.trans (show ivh6 bb 7 = ivh3 bb 7 from (fl6.i tbb rfl 7)) (show ivh3 bb 7 = iv bb 7 from (fl3.i tbb rfl 7)))) (fun bb tbb => by exact (Eq.trans (show ivh6 bb 0 = ivh3 bb 0 from (fl6.i tbb rfl 0)) (show ivh3 bb 0 = iv bb 0 from (fl3.i tbb rfl 0)))) (fun bb tbb => by exact (Eq.trans (show ivh6 bb 1 = ivh3 bb 1 from (fl6.i tbb rfl 1)) (show ivh3 bb 1 = iv bb 1 from (fl3.i tbb rfl 1)))) (fun bb tbb => by exact (Eq.trans (show rvh6 bb 4 = rvh3 bb 4 from (fl6.r tbb rfl 4)) (show rvh3 bb 4 = rv bb 4 from (fl3.r tbb rfl 4)))), TSQ.of hW hS (fun bb tbb hbb => by exact (Eq.trans (show ivh6 bb 2 = ivh3 bb 2 from (fl6.i tbb rfl 2)) (show ivh3 bb 2 = iv bb 2 from (fl3.i tbb rfl 2))))⟩⟩), (Or.inr ⟨by omega, f3, rmef3, (fun _ => kp3), (fun h => absurd h (by omega)), (fun h => absurd h (by omega)), (fun h => absurd h (by omega)), (fun h => absurd h (by omega))⟩)⟩
    · refine c_tabIn (tgt := 98) (off := 62) C (r32_c (lo := (-2147483648)) (hi := 2147483647) ri3.1 ri3.2 (by decide) (by decide)) dX10_takeBack_36 (by omega) (by omega) (by rw [sw1]; rfl) (by decide) ?_
      have kp4 : KP L cl (fun _ => False) (fun _ => False) (fun _ => False) (fun _ => False) (fun _ _ => False) iv rv iv rv := KP.refl
      have kp5 := kp4.call TX.refl hW fl3 rfl
      refine c_aload_n (j := 0) (x := f3) C dX10_takeBack_98 rfl ?_
      obtain ⟨rb3, rq3, trb3⟩ := W3.ref rgf3 1 rfl rfl rfl
      refine c_getr (k := 1) C ck_1 dX10_takeBack_99 w3_43 (by decide) rgf3 rfl rfl (by decide) rfl rq3 ?_
      refine c_st (st2 := [.ref rb3]) rfl ?_
      have tt1 : rv f3 1 = some rb3 := by rw [← fl3.r rgf3 rfl 1]; exact rq3
      refine c_iconst C dX10_takeBack_102 ?_
      refine c_put (z := 0) (k := 7) C ck_10 dX10_takeBack_103 w2_198 (by decide) rfl trb3 rfl rfl (by decide) rfl (by decide) (by decide) (fun iv1 pq1 => ?_)
      refine hv4 (kp5.puti TX.refl pq1 trb3 rfl) (W3.puti pq1 trb3 ⟨by decide, by decide⟩ rfl) (F1.puti hX0 pq1 trb3 rfl) (MRK.puti mr1 hS pq1 trb3 (by decide)) (fun kp6 W7 F3 mr3 => ?_)
      refine c_goto (tgt := 171) C dX10_takeBack_106 (by decide) ?_
      refine c_iconst C dX10_takeBack_171 ?_
      refine hv19 (show 0 ≤ iv1 (sk 22) 2 ∧ iv1 (sk 22) 2 ≤ 30 from W7.int tsk22 2) (show iv1 (sk 22) 2 = ivh3 (sk 22) 2 from by rw [pq1]; exact up2_k (ne_ty tsk22 trb3 (by decide))) (show ivh3 (sk 22) 2 = iv (sk 22) 2 from fl3.i tsk22 rfl 2) (show 0 ≤ iv1 (sk 23) 2 ∧ iv1 (sk 23) 2 ≤ 512 from W7.int tsk23 2) (show iv1 (sk 23) 2 = ivh3 (sk 23) 2 from by rw [pq1]; exact up2_k (ne_ty tsk23 trb3 (by decide))) (show (-2147483648) ≤ iv1 f3 0 ∧ iv1 f3 0 ≤ 2147483647 from W7.int rgf3 0) (show iv1 f3 0 = ivh3 f3 0 from by rw [pq1]; exact up2_k (ne_ty rgf3 trb3 (by decide))) (show 0 ≤ iv1 rb3 7 ∧ iv1 rb3 7 ≤ 1 from W7.int trb3 7) (show iv1 rb3 7 = 0 from by rw [pq1]; exact up2_s) (show (-2147483648) ≤ iv1 rb3 0 ∧ iv1 rb3 0 ≤ 2147483647 from W7.int trb3 0) (show iv1 rb3 0 = ivh3 rb3 0 from by rw [pq1]; exact up2_j (by decide)) (show ivh3 rb3 0 = iv rb3 0 from fl3.i trb3 rfl 0) (show (-2147483648) ≤ iv1 rb3 1 ∧ iv1 rb3 1 ≤ 2147483647 from W7.int trb3 1) (show iv1 rb3 1 = ivh3 rb3 1 from by rw [pq1]; exact up2_j (by decide)) (show ivh3 rb3 1 = iv rb3 1 from fl3.i trb3 rfl 1) (show 0 ≤ iv1 f3 3 ∧ iv1 f3 3 ≤ 5 from W7.int rgf3 3) (show iv1 f3 3 = ivh3 f3 3 from by rw [pq1]; exact up2_k (ne_ty rgf3 trb3 (by decide))) (show ivh3 f3 3 = iv f3 3 from fl3.i rgf3 rfl 3) (Phi.le W7 hS) (fun ri10 ie10 ie11 ri11 ie12 ri12 ie13 ri13 ie14 ri14 ie15 ie16 ri15 ie17 ie18 ri16 ie19 ie20 pl3 => ?_)
      exact c_zret C dX10_takeBack_172 rfl (Or.inr rfl) (by decide) (rom0 hph pl3 (by decide)) ⟨1, rfl, rfl, rfl, rfl, F3, W7, (Or.inr rfl), ⟨(by omega), (by omega), mr3⟩, (Or.inr ⟨by omega, by omega, f3, rmef3, by omega, CS0.of hW hS (by omega) (fun i hi => exf3.2 i (by omega)) (fun bb tb => F3.i tb rfl 0) (fun bb tb => F3.r tb rfl 1), Or.inr (Or.inl ⟨by omega, rb3, tt1, by omega, ⟨(fun i hi => el_ch hW (tysk22 hS) rfl rfl ((show ∀ bb, ty L cl bb 22 → rvh3 bb 1 = rv bb 1 from fun bb tbb => by exact (show rvh3 bb 1 = rv bb 1 from (fl3.r tbb rfl 1))) (sk 22) (tysk22 hS)) (fun bb tbb kk => by exact (show rvh3 bb kk = rv bb kk from (fl3.r tbb rfl kk))) hi), TSF.of hW hS (fun bb tbb hbb => by exact (Eq.trans (show iv1 bb 7 = ivh3 bb 7 from (by rw [pq1]; exact up2_k hbb)) (show ivh3 bb 7 = iv bb 7 from (fl3.i tbb rfl 7)))) (fun bb tbb => (Classical.em (bb = rb3)).elim (fun e => by subst e; omega) (fun hbb => by exact (Eq.trans (show iv1 bb 0 = ivh3 bb 0 from (by rw [pq1]; exact up2_k hbb)) (show ivh3 bb 0 = iv bb 0 from (fl3.i tbb rfl 0))))) (fun bb tbb => (Classical.em (bb = rb3)).elim (fun e => by subst e; omega) (fun hbb => by exact (Eq.trans (show iv1 bb 1 = ivh3 bb 1 from (by rw [pq1]; exact up2_k hbb)) (show ivh3 bb 1 = iv bb 1 from (fl3.i tbb rfl 1))))) (fun bb tbb => by exact (show rvh3 bb 4 = rv bb 4 from (fl3.r tbb rfl 4))), TSQ.of hW hS (fun bb tbb hbb => by exact (Eq.trans (show iv1 bb 2 = ivh3 bb 2 from (by rw [pq1]; exact up2_k (ne_ty tbb trb3 (by decide)))) (show ivh3 bb 2 = iv bb 2 from (fl3.i tbb rfl 2))))⟩, by omega⟩)⟩), (Or.inr ⟨by omega, f3, rmef3, (fun h => absurd h (by omega)), (fun _ => kp6), (fun h => absurd h (by omega)), (fun h => absurd h (by omega)), (fun h => absurd h (by omega))⟩)⟩
    · refine c_tabIn (tgt := 109) (off := 73) C (r32_c (lo := (-2147483648)) (hi := 2147483647) ri3.1 ri3.2 (by decide) (by decide)) dX10_takeBack_36 (by omega) (by omega) (by rw [sw1]; rfl) (by decide) ?_
      refine c_aload_n (j := 0) (x := f3) C dX10_takeBack_109 rfl ?_
      obtain ⟨rb4, rq4, trb4⟩ := W3.ref rgf3 1 rfl rfl rfl
      refine c_getr (k := 1) C ck_1 dX10_takeBack_110 w3_43 (by decide) rgf3 rfl rfl (by decide) rfl rq4 ?_
      refine c_st (st2 := [.ref rb4]) rfl ?_
      have tt2 : rv f3 1 = some rb4 := by rw [← fl3.r rgf3 rfl 1]; exact rq4
      obtain ⟨q4, hq4, tq4⟩ := W3.ref trb4 4 rfl rfl rfl
      refine hv2 (show 0 ≤ ivh3 q4 2 ∧ ivh3 q4 2 ≤ 200 from W3.int tq4 2) (show ivh3 q4 2 = iv q4 2 from fl3.i tq4 rfl 2) (fun ri17 ie21 => ?_)
      obtain ⟨s5, hs5, ts5⟩ := W3.ref trb4 5 rfl rfl rfl
      refine hv4 (show 0 ≤ ivh3 s5 2 ∧ ivh3 s5 2 ≤ 200 from W3.int ts5 2) (show ivh3 s5 2 = iv s5 2 from fl3.i ts5 rfl 2) (show KP L cl (fun _ => False) (fun b => b = q4) (fun b => b = s5) (fun _ => False) (fun _ _ => False) iv rv iv rv from KP.refl) (Phi.le W3 hS) (fun ri18 ie22 kp7 pl4 => ?_)
      have kp8 := kp7.call TX.refl hW fl3 rfl
      refine d_callV (As := []) (rest := []) C hM (C_removeLast (a0 := rb4) W3 hS trb4  ) dX10_takeBack_113 kV_X10_70 rfl trb4 rfl rfl (by decide) ck_10 rfl (Nat.le_of_ble_eq_true rfl) ⟨(Nat.le_of_ble_eq_true rfl), (Nat.le_of_ble_eq_true rfl)⟩ hph pl4 (show 0 + 0 = 0 from rfl) (by decide) (fun rh7 Lh7 clh7 lnh7 ivh7 rvh7 h7 => ?_)
      obtain ⟨rfl, rfl, rfl, rfl, fl7, W8, exf7, rlxf7, rlkf7⟩ := h7
      refine hv3 (F1.call hX0 fl7 rfl) (MRK.call mr1 W3 hS XT.refl fl7 rfl rfl) (kp8.trans TX.refl (rlkf7 _ _ hq4 hs5).1) (fun F4 mr4 kp9 => ?_)
      refine c_st (st2 := []) rfl ?_
      refine hv2 (show 0 ≤ ivh7 q4 2 ∧ ivh7 q4 2 ≤ 200 from W8.int tq4 2) ((rlxf7 _ hq4).1) (fun ri19 rq9 => ?_)
      refine c_goto (tgt := 171) C dX10_takeBack_116 (by decide) ?_
      refine c_iconst C dX10_takeBack_171 ?_
      refine hv12 (show 0 ≤ ivh7 (sk 22) 2 ∧ ivh7 (sk 22) 2 ≤ 30 from W8.int tsk22 2) (show ivh7 (sk 22) 2 = ivh3 (sk 22) 2 from fl7.i tsk22 rfl 2) (show ivh3 (sk 22) 2 = iv (sk 22) 2 from fl3.i tsk22 rfl 2) (show 0 ≤ ivh7 (sk 23) 2 ∧ ivh7 (sk 23) 2 ≤ 512 from W8.int tsk23 2) (show ivh7 (sk 23) 2 = ivh3 (sk 23) 2 from fl7.i tsk23 rfl 2) (show (-2147483648) ≤ ivh7 f3 0 ∧ ivh7 f3 0 ≤ 2147483647 from W8.int rgf3 0) (show ivh7 f3 0 = ivh3 f3 0 from fl7.i rgf3 rfl 0) (show 0 ≤ ivh7 f3 3 ∧ ivh7 f3 3 ≤ 5 from W8.int rgf3 3) (show ivh7 f3 3 = ivh3 f3 3 from fl7.i rgf3 rfl 3) (show ivh3 f3 3 = iv f3 3 from fl3.i rgf3 rfl 3) (show 0 ≤ ivh7 s5 2 ∧ ivh7 s5 2 ≤ 200 from W8.int ts5 2) (Phi.le W8 hS) (fun ri20 ie24 ie25 ri21 ie26 ri22 ie27 ri23 ie28 ie29 ri24 pl5 => ?_)
      exact c_zret C dX10_takeBack_172 rfl (Or.inr rfl) (by decide) (rom0 hph pl5 (by decide)) ⟨1, rfl, rfl, rfl, rfl, F4, W8, (Or.inr rfl), ⟨(by omega), (by omega), mr4⟩, (Or.inr ⟨by omega, by omega, f3, rmef3, by omega, CS0.of hW hS (by omega) (fun i hi => ((fun i hi => el_ch W3 (tysk23 hS) rfl rfl ((show ∀ bb, ty L cl bb 23 → rvh7 bb 1 = rvh3 bb 1 from fun bb tbb => by exact (show rvh7 bb 1 = rvh3 bb 1 from (fl7.r tbb rfl 1))) (sk 23) (tysk23 hS)) (fun bb tbb kk => by exact (show rvh7 bb kk = rvh3 bb kk from (fl7.r tbb rfl kk))) hi) i (by omega)).trans (exf3.2 i (by omega))) (fun bb tb => F4.i tb rfl 0) (fun bb tb => F4.r tb rfl 1), Or.inr (Or.inr (Or.inl ⟨by omega, rb4, q4, tt2, ((fl3.r trb4 rfl 4).symm.trans hq4), by omega, ⟨(fun i hi => el_ch hW (tysk22 hS) rfl rfl ((show ∀ bb, ty L cl bb 22 → rvh7 bb 1 = rv bb 1 from fun bb tbb => by exact (Eq.trans (show rvh7 bb 1 = rvh3 bb 1 from (fl7.r tbb rfl 1)) (show rvh3 bb 1 = rv bb 1 from (fl3.r tbb rfl 1)))) (sk 22) (tysk22 hS)) (fun bb tbb kk => by exact (Eq.trans (show rvh7 bb kk = rvh3 bb kk from (fl7.r tbb rfl kk)) (show rvh3 bb kk = rv bb kk from (fl3.r tbb rfl kk)))) hi), TSF.of hW hS (fun bb tbb hbb => by exact (Eq.trans (show ivh7 bb 7 = ivh3 bb 7 from (fl7.i tbb rfl 7)) (show ivh3 bb 7 = iv bb 7 from (fl3.i tbb rfl 7)))) (fun bb tbb => by exact (Eq.trans (show ivh7 bb 0 = ivh3 bb 0 from (fl7.i tbb rfl 0)) (show ivh3 bb 0 = iv bb 0 from (fl3.i tbb rfl 0)))) (fun bb tbb => by exact (Eq.trans (show ivh7 bb 1 = ivh3 bb 1 from (fl7.i tbb rfl 1)) (show ivh3 bb 1 = iv bb 1 from (fl3.i tbb rfl 1)))) (fun bb tbb => by exact (Eq.trans (show rvh7 bb 4 = rvh3 bb 4 from (fl7.r tbb rfl 4)) (show rvh3 bb 4 = rv bb 4 from (fl3.r tbb rfl 4)))), TSQ.of hW hS (fun bb tbb hbb => by exact (Eq.trans (show ivh7 bb 2 = ivh3 bb 2 from ((rlxf7 _ hq4).2 bb tbb hbb)) (show ivh3 bb 2 = iv bb 2 from (fl3.i tbb rfl 2))))⟩, by omega⟩))⟩), (Or.inr ⟨by omega, f3, rmef3, (fun h => absurd h (by omega)), (fun h => absurd h (by omega)), (fun _ t9 q9 s9 h1 h4 h5 => by
          rw [tt2] at h1; cases h1
          rw [((fl3.r trb4 rfl 4).symm.trans hq4)] at h4; cases h4
          rw [((fl3.r trb4 rfl 5).symm.trans hs5)] at h5; cases h5
          exact ⟨kp9, fun r hr => ((rlkf7 _ _ hq4 hs5).2.1 r hr).trans (el_fr hW tq4 rfl rfl fl3 rfl rfl (by omega)), fun hz => (rlkf7 _ _ hq4 hs5).2.2.1 (by rw [fl3.i ts5 rfl 2, fl3.i tq4 rfl 2]; exact hz), (rlkf7 _ _ hq4 hs5).2.2.2.trans (fl3.r ts5 rfl 1)⟩), (fun h => absurd h (by omega)), (fun h => absurd h (by omega))⟩)⟩
    · refine c_tabIn (tgt := 119) (off := 83) C (r32_c (lo := (-2147483648)) (hi := 2147483647) ri3.1 ri3.2 (by decide) (by decide)) dX10_takeBack_36 (by omega) (by omega) (by rw [sw1]; rfl) (by decide) ?_
      refine c_aload_n (j := 0) (x := f3) C dX10_takeBack_119 rfl ?_
      rcases W3.opt rgf3 2 rfl rfl with ⟨nq1, _⟩ | ⟨nb1, nq1, tnb1⟩
      · refine c_getr (k := 2) C ck_1 dX10_takeBack_120 w3_45 (by decide) rgf3 rfl rfl (by decide) rfl nq1 ?_
        refine c_st (st2 := [.null]) rfl ?_
        refine c_ifnull (r := none) (tgt := 171) C dX10_takeBack_123 (by decide) (fun _ => ?_) (fun _ q => by cases q)
        refine c_iconst C dX10_takeBack_171 ?_
        refine hv5 (show 0 ≤ ivh3 (sk 22) 2 ∧ ivh3 (sk 22) 2 ≤ 30 from W3.int tsk22 2) (show ivh3 (sk 22) 2 = iv (sk 22) 2 from fl3.i tsk22 rfl 2) (show 0 ≤ ivh3 f3 3 ∧ ivh3 f3 3 ≤ 5 from W3.int rgf3 3) (show ivh3 f3 3 = iv f3 3 from fl3.i rgf3 rfl 3) (Phi.le W3 hS) (fun ri25 ie31 ri26 ie32 pl6 => ?_)
        exact c_zret C dX10_takeBack_172 rfl (Or.inr rfl) (by decide) (rom0 hph pl6 (by decide)) ⟨1, rfl, rfl, rfl, rfl, F1, W3, (Or.inr rfl), ⟨(by omega), (by omega), mr1⟩, (Or.inr ⟨by omega, by omega, f3, rmef3, by omega, CS0.of hW hS (by omega) (fun i hi => exf3.2 i (by omega)) (fun bb tb => F1.i tb rfl 0) (fun bb tb => F1.r tb rfl 1), Or.inr (Or.inr (Or.inr ⟨by omega, by omega, ⟨(fun i hi => el_ch hW (tysk22 hS) rfl rfl ((show ∀ bb, ty L cl bb 22 → rvh3 bb 1 = rv bb 1 from fun bb tbb => by exact (show rvh3 bb 1 = rv bb 1 from (fl3.r tbb rfl 1))) (sk 22) (tysk22 hS)) (fun bb tbb kk => by exact (show rvh3 bb kk = rv bb kk from (fl3.r tbb rfl kk))) hi), TSF.of hW hS (fun bb tbb hbb => by exact (show ivh3 bb 7 = iv bb 7 from (fl3.i tbb rfl 7))) (fun bb tbb => by exact (show ivh3 bb 0 = iv bb 0 from (fl3.i tbb rfl 0))) (fun bb tbb => by exact (show ivh3 bb 1 = iv bb 1 from (fl3.i tbb rfl 1))) (fun bb tbb => by exact (show rvh3 bb 4 = rv bb 4 from (fl3.r tbb rfl 4))), TSQ.of hW hS (fun bb tbb hbb => by exact (show ivh3 bb 2 = iv bb 2 from (fl3.i tbb rfl 2)))⟩⟩))⟩), (Or.inr ⟨by omega, f3, rmef3, (fun h => absurd h (by omega)), (fun h => absurd h (by omega)), (fun h => absurd h (by omega)), (fun _ w9 hw => by
            rw [((fl3.r rgf3 rfl 2).symm.trans nq1)] at hw; cases hw), (fun h => absurd h (by omega))⟩)⟩
      · refine c_getr (k := 2) C ck_1 dX10_takeBack_120 w3_45 (by decide) rgf3 rfl rfl (by decide) rfl nq1 ?_
        refine c_st (st2 := [.ref nb1]) rfl ?_
        refine c_ifnull (r := (some nb1)) (tgt := 171) C dX10_takeBack_123 (by decide) (fun q => by cases q) (fun _ _ => ?_)
        refine c_aload_n (j := 0) (x := f3) C dX10_takeBack_126 rfl ?_
        refine c_getr (k := 2) C ck_1 dX10_takeBack_127 w3_45 (by decide) rgf3 rfl rfl (by decide) rfl nq1 ?_
        refine c_st (st2 := [.ref nb1]) rfl ?_
        refine c_aload_n (j := 0) (x := f3) C dX10_takeBack_130 rfl ?_
        refine hv2 (show 0 ≤ ivh3 f3 3 ∧ ivh3 f3 3 ≤ 5 from W3.int rgf3 3) (show ivh3 f3 3 = iv f3 3 from fl3.i rgf3 rfl 3) (fun ri27 ie33 => ?_)
        refine c_get (k := 3) C ck_1 dX10_takeBack_131 w3_47 (by decide) rgf3 rfl rfl (by decide) rfl ?_
        have kp10 : KP L cl (fun b => b = nb1) (fun _ => False) (fun _ => False) (fun _ => False) (fun _ _ => False) iv rv iv rv := KP.refl
        have kp11 := kp10.call TX.refl hW fl3 rfl
        refine c_put (z := ivh3 f3 3) (k := 3) C ck_6 dX10_takeBack_134 w3_148 (by decide) rfl tnb1 rfl rfl (by decide) rfl (by rfl) (by rfl) (fun iv2 pq2 => ?_)
        refine hv3 (kp11.putiC TX.refl pq2 tnb1 rfl) (F1.puti hX0 pq2 tnb1 rfl) (MRK.puti mr1 hS pq2 tnb1 (by decide)) (fun kp12 F5 mr5 => ?_)
        have W9 := W3.puti pq2 tnb1 (show 0 ≤ (ivh3 f3 3) ∧ (ivh3 f3 3) ≤ 5 by omega) rfl
        refine c_goto (tgt := 171) C dX10_takeBack_137 (by decide) ?_
        refine c_iconst C dX10_takeBack_171 ?_
        refine hv12 (show 0 ≤ iv2 (sk 22) 2 ∧ iv2 (sk 22) 2 ≤ 30 from W9.int tsk22 2) (show iv2 (sk 22) 2 = ivh3 (sk 22) 2 from by rw [pq2]; exact up2_k (ne_ty tsk22 tnb1 (by decide))) (show ivh3 (sk 22) 2 = iv (sk 22) 2 from fl3.i tsk22 rfl 2) (show 0 ≤ iv2 (sk 23) 2 ∧ iv2 (sk 23) 2 ≤ 512 from W9.int tsk23 2) (show iv2 (sk 23) 2 = ivh3 (sk 23) 2 from by rw [pq2]; exact up2_k (ne_ty tsk23 tnb1 (by decide))) (show (-2147483648) ≤ iv2 f3 0 ∧ iv2 f3 0 ≤ 2147483647 from W9.int rgf3 0) (show iv2 f3 0 = ivh3 f3 0 from by rw [pq2]; exact up2_k (ne_ty rgf3 tnb1 (by decide))) (show 0 ≤ iv2 f3 3 ∧ iv2 f3 3 ≤ 5 from W9.int rgf3 3) (show iv2 f3 3 = ivh3 f3 3 from by rw [pq2]; exact up2_k (ne_ty rgf3 tnb1 (by decide))) (show 0 ≤ iv2 nb1 3 ∧ iv2 nb1 3 ≤ 5 from W9.int tnb1 3) (show iv2 nb1 3 = ivh3 f3 3 from by rw [pq2]; exact up2_s) (Phi.le W9 hS) (fun ri28 ie34 ie35 ri29 ie36 ri30 ie37 ri31 ie38 ri32 ie39 pl7 => ?_)
        exact c_zret C dX10_takeBack_172 rfl (Or.inr rfl) (by decide) (rom0 hph pl7 (by decide)) ⟨1, rfl, rfl, rfl, rfl, F5, W9, (Or.inr rfl), ⟨(by omega), (by omega), mr5⟩, (Or.inr ⟨by omega, by omega, f3, rmef3, by omega, CS0.of hW hS (by omega) (fun i hi => exf3.2 i (by omega)) (fun bb tb => F5.i tb rfl 0) (fun bb tb => F5.r tb rfl 1), Or.inr (Or.inr (Or.inr ⟨by omega, by omega, ⟨(fun i hi => el_ch hW (tysk22 hS) rfl rfl ((show ∀ bb, ty L cl bb 22 → rvh3 bb 1 = rv bb 1 from fun bb tbb => by exact (show rvh3 bb 1 = rv bb 1 from (fl3.r tbb rfl 1))) (sk 22) (tysk22 hS)) (fun bb tbb kk => by exact (show rvh3 bb kk = rv bb kk from (fl3.r tbb rfl kk))) hi), TSF.of hW hS (fun bb tbb hbb => by exact (Eq.trans (show iv2 bb 7 = ivh3 bb 7 from (by rw [pq2]; exact up2_k (ne_ty tbb tnb1 (by decide)))) (show ivh3 bb 7 = iv bb 7 from (fl3.i tbb rfl 7)))) (fun bb tbb => by exact (Eq.trans (show iv2 bb 0 = ivh3 bb 0 from (by rw [pq2]; exact up2_k (ne_ty tbb tnb1 (by decide)))) (show ivh3 bb 0 = iv bb 0 from (fl3.i tbb rfl 0)))) (fun bb tbb => by exact (Eq.trans (show iv2 bb 1 = ivh3 bb 1 from (by rw [pq2]; exact up2_k (ne_ty tbb tnb1 (by decide)))) (show ivh3 bb 1 = iv bb 1 from (fl3.i tbb rfl 1)))) (fun bb tbb => by exact (show rvh3 bb 4 = rv bb 4 from (fl3.r tbb rfl 4))), TSQ.of hW hS (fun bb tbb hbb => by exact (Eq.trans (show iv2 bb 2 = ivh3 bb 2 from (by rw [pq2]; exact up2_k (ne_ty tbb tnb1 (by decide)))) (show ivh3 bb 2 = iv bb 2 from (fl3.i tbb rfl 2))))⟩⟩))⟩), (Or.inr ⟨by omega, f3, rmef3, (fun h => absurd h (by omega)), (fun h => absurd h (by omega)), (fun h => absurd h (by omega)), (fun _ w9 hw => by
            rw [((fl3.r rgf3 rfl 2).symm.trans nq1)] at hw; cases hw
            exact ⟨kp12, by omega⟩), (fun h => absurd h (by omega))⟩)⟩
    · refine c_tabOut (tgt := 140) C (r32_c (lo := (-2147483648)) (hi := 2147483647) ri3.1 ri3.2 (by decide) (by decide)) dX10_takeBack_36 sw1 (by decide) ?_
      refine c_aload_n (j := 0) (x := f3) C dX10_takeBack_140 rfl ?_
      refine hv2 (show 0 ≤ ivh3 f3 3 ∧ ivh3 f3 3 ≤ 5 from W3.int rgf3 3) (show ivh3 f3 3 = iv f3 3 from fl3.i rgf3 rfl 3) (fun ri33 ie40 => ?_)
      refine c_get (k := 3) C ck_1 dX10_takeBack_141 w3_47 (by decide) rgf3 rfl rfl (by decide) rfl ?_
      refine c_if_lt (tgt := 171) C (r32_c (lo := 0) (hi := 5) ri33.1 ri33.2 (by decide) (by decide)) dX10_takeBack_144 (by decide) (fun c3 => ?_) (fun c3 => ?_)
      · refine c_iconst C dX10_takeBack_171 ?_
        refine hv3 (show 0 ≤ ivh3 (sk 22) 2 ∧ ivh3 (sk 22) 2 ≤ 30 from W3.int tsk22 2) (show ivh3 (sk 22) 2 = iv (sk 22) 2 from fl3.i tsk22 rfl 2) (Phi.le W3 hS) (fun ri34 ie41 pl8 => ?_)
        exact c_zret C dX10_takeBack_172 rfl (Or.inr rfl) (by decide) (rom0 hph pl8 (by decide)) ⟨1, rfl, rfl, rfl, rfl, F1, W3, (Or.inr rfl), ⟨(by omega), (by omega), mr1⟩, (Or.inr ⟨by omega, by omega, f3, rmef3, by omega, CS0.of hW hS (by omega) (fun i hi => exf3.2 i (by omega)) (fun bb tb => F1.i tb rfl 0) (fun bb tb => F1.r tb rfl 1), Or.inr (Or.inr (Or.inr ⟨by omega, by omega, ⟨(fun i hi => el_ch hW (tysk22 hS) rfl rfl ((show ∀ bb, ty L cl bb 22 → rvh3 bb 1 = rv bb 1 from fun bb tbb => by exact (show rvh3 bb 1 = rv bb 1 from (fl3.r tbb rfl 1))) (sk 22) (tysk22 hS)) (fun bb tbb kk => by exact (show rvh3 bb kk = rv bb kk from (fl3.r tbb rfl kk))) hi), TSF.of hW hS (fun bb tbb hbb => by exact (show ivh3 bb 7 = iv bb 7 from (fl3.i tbb rfl 7))) (fun bb tbb => by exact (show ivh3 bb 0 = iv bb 0 from (fl3.i tbb rfl 0))) (fun bb tbb => by exact (show ivh3 bb 1 = iv bb 1 from (fl3.i tbb rfl 1))) (fun bb tbb => by exact (show rvh3 bb 4 = rv bb 4 from (fl3.r tbb rfl 4))), TSQ.of hW hS (fun bb tbb hbb => by exact (show ivh3 bb 2 = iv bb 2 from (fl3.i tbb rfl 2)))⟩⟩))⟩), (Or.inr ⟨by omega, f3, rmef3, (fun h => absurd h (by omega)), (fun h => absurd h (by omega)), (fun h => absurd h (by omega)), (fun h => absurd h (by omega)), (fun _ h => absurd h (by omega))⟩)⟩
      · refine c_aload_n (j := 0) (x := f3) C dX10_takeBack_147 rfl ?_
        refine c_get (k := 3) C ck_1 dX10_takeBack_148 w3_47 (by decide) rgf3 rfl rfl (by decide) rfl ?_
        refine c_iconst C dX10_takeBack_151 ?_
        refine c_icmp_gt (tgt := 171) C (r32_c (lo := 0) (hi := 5) ri33.1 ri33.2 (by decide) (by decide)) ⟨by decide, by decide⟩ dX10_takeBack_152 (by decide) (fun c4 => ?_) (fun c4 => ?_)
        · refine c_iconst C dX10_takeBack_171 ?_
          refine hv3 (show 0 ≤ ivh3 (sk 22) 2 ∧ ivh3 (sk 22) 2 ≤ 30 from W3.int tsk22 2) (show ivh3 (sk 22) 2 = iv (sk 22) 2 from fl3.i tsk22 rfl 2) (Phi.le W3 hS) (fun ri35 ie42 pl9 => ?_)
          exact c_zret C dX10_takeBack_172 rfl (Or.inr rfl) (by decide) (rom0 hph pl9 (by decide)) ⟨1, rfl, rfl, rfl, rfl, F1, W3, (Or.inr rfl), ⟨(by omega), (by omega), mr1⟩, (Or.inr ⟨by omega, by omega, f3, rmef3, by omega, CS0.of hW hS (by omega) (fun i hi => exf3.2 i (by omega)) (fun bb tb => F1.i tb rfl 0) (fun bb tb => F1.r tb rfl 1), Or.inr (Or.inr (Or.inr ⟨by omega, by omega, ⟨(fun i hi => el_ch hW (tysk22 hS) rfl rfl ((show ∀ bb, ty L cl bb 22 → rvh3 bb 1 = rv bb 1 from fun bb tbb => by exact (show rvh3 bb 1 = rv bb 1 from (fl3.r tbb rfl 1))) (sk 22) (tysk22 hS)) (fun bb tbb kk => by exact (show rvh3 bb kk = rv bb kk from (fl3.r tbb rfl kk))) hi), TSF.of hW hS (fun bb tbb hbb => by exact (show ivh3 bb 7 = iv bb 7 from (fl3.i tbb rfl 7))) (fun bb tbb => by exact (show ivh3 bb 0 = iv bb 0 from (fl3.i tbb rfl 0))) (fun bb tbb => by exact (show ivh3 bb 1 = iv bb 1 from (fl3.i tbb rfl 1))) (fun bb tbb => by exact (show rvh3 bb 4 = rv bb 4 from (fl3.r tbb rfl 4))), TSQ.of hW hS (fun bb tbb hbb => by exact (show ivh3 bb 2 = iv bb 2 from (fl3.i tbb rfl 2)))⟩⟩))⟩), (Or.inr ⟨by omega, f3, rmef3, (fun h => absurd h (by omega)), (fun h => absurd h (by omega)), (fun h => absurd h (by omega)), (fun h => absurd h (by omega)), (fun _ h => absurd h (by omega))⟩)⟩
        · refine c_aload_n (j := 0) (x := f3) C dX10_takeBack_155 rfl ?_
          obtain ⟨rb5, rq5, trb5⟩ := W3.ref rgf3 1 rfl rfl rfl
          refine c_getr (k := 1) C ck_1 dX10_takeBack_156 w3_43 (by decide) rgf3 rfl rfl (by decide) rfl rq5 ?_
          refine c_st (st2 := [.ref rb5]) rfl ?_
          have tt3 : rv f3 1 = some rb5 := by rw [← fl3.r rgf3 rfl 1]; exact rq5
          obtain ⟨rb6, rq6, trb6⟩ := W3.ref trb5 6 rfl rfl rfl
          have lnrb6 : 4 ≤ ln rb6 ∧ ln rb6 ≤ 4 := W3.len trb6 rfl
          refine c_getr (k := 6) C ck_10 dX10_takeBack_159 w2_194 (by decide) trb5 rfl rfl (by decide) rfl rq6 ?_
          refine c_st (st2 := [.ref rb6]) rfl ?_
          refine c_aload_n (j := 0) (x := f3) C dX10_takeBack_162 rfl ?_
          refine c_get (k := 3) C ck_1 dX10_takeBack_163 w3_47 (by decide) rgf3 rfl rfl (by decide) rfl ?_
          refine c_aload_n (j := 0) (x := f3) C dX10_takeBack_166 rfl ?_
          rcases W3.opt rgf3 2 rfl rfl with ⟨nq2, _⟩ | ⟨nb2, nq2, tnb2⟩
          · refine c_getr (k := 2) C ck_1 dX10_takeBack_167 w3_45 (by decide) rgf3 rfl rfl (by decide) rfl nq2 ?_
            refine c_st (st2 := [.null, .int (iI (ivh3 f3 3)), .ref rb6]) rfl ?_
            refine hv2 (show KP L cl (fun _ => False) (fun _ => False) (fun _ => False) (fun _ => False) (fun b k => b = rb6 ∧ k = (iv f3 3).toNat) iv rv iv rv from KP.refl) (show 4 ≤ ln rb6 ∧ ln rb6 ≤ 4 from W3.len trb6 rfl) (fun kp13 ll1 => ?_)
            have kp14 := kp13.call TX.refl hW fl3 rfl
            refine c_aastNR (z := ivh3 f3 3) C dX10_takeBack_170 trb6 rfl (by omega) (by omega) (by omega) (fun rv1 pq3 => ⟨0, (by rw [Phi.putr hS pq3 trb6 rfl]; exact Nat.le_refl _), ?_⟩)
            refine hv3 (W3.putr pq3 trb6 (fun _ => ⟨fun _ => by rw [trb6.2]; rfl, fun _ qq => by cases qq⟩) rfl (by decide)) (F1.putr hX0 pq3 trb6 rfl) (MRK.putr mr1 W3 hS pq3 trb6 (by decide) (by decide)) (fun W10 F6 mr6 => ?_)
            have kp15 := kp14.putrI TX.refl W3 pq3 trb6 ⟨rfl, by omega⟩
            refine c_iconst C dX10_takeBack_171 ?_
            refine hv3 (show 0 ≤ ivh3 (sk 22) 2 ∧ ivh3 (sk 22) 2 ≤ 30 from W10.int tsk22 2) (show ivh3 (sk 22) 2 = iv (sk 22) 2 from fl3.i tsk22 rfl 2) (Phi.le W10 hS) (fun ri36 ie43 pl10 => ?_)
            exact c_zret C dX10_takeBack_172 rfl (Or.inr rfl) (by decide) (rom0 hph pl10 (by decide)) ⟨1, rfl, rfl, rfl, rfl, F6, W10, (Or.inr rfl), ⟨(by omega), (by omega), mr6⟩, (Or.inr ⟨by omega, by omega, f3, rmef3, by omega, CS0.of hW hS (by omega) (fun i hi => ((fun i hi => el_ch W3 (tysk23 hS) rfl rfl ((show ∀ bb, ty L cl bb 23 → rv1 bb 1 = rvh3 bb 1 from fun bb tbb => by exact (show rv1 bb 1 = rvh3 bb 1 from (by rw [pq3]; exact congrFun (upr_a (ne_ty tbb trb6 (by decide))) _))) (sk 23) (tysk23 hS)) (fun bb tbb kk => by exact (show rv1 bb kk = rvh3 bb kk from (by rw [pq3]; exact congrFun (upr_a (ne_ty tbb trb6 (by decide))) _))) hi) i (by omega)).trans (exf3.2 i (by omega))) (fun bb tb => F6.i tb rfl 0) (fun bb tb => F6.r tb rfl 1), Or.inr (Or.inr (Or.inr ⟨by omega, by omega, ⟨(fun i hi => el_ch hW (tysk22 hS) rfl rfl ((show ∀ bb, ty L cl bb 22 → rv1 bb 1 = rv bb 1 from fun bb tbb => by exact (Eq.trans (show rv1 bb 1 = rvh3 bb 1 from (by rw [pq3]; exact congrFun (upr_a (ne_ty tbb trb6 (by decide))) _)) (show rvh3 bb 1 = rv bb 1 from (fl3.r tbb rfl 1)))) (sk 22) (tysk22 hS)) (fun bb tbb kk => by exact (Eq.trans (show rv1 bb kk = rvh3 bb kk from (by rw [pq3]; exact congrFun (upr_a (ne_ty tbb trb6 (by decide))) _)) (show rvh3 bb kk = rv bb kk from (fl3.r tbb rfl kk)))) hi), TSF.of hW hS (fun bb tbb hbb => by exact (show ivh3 bb 7 = iv bb 7 from (fl3.i tbb rfl 7))) (fun bb tbb => by exact (show ivh3 bb 0 = iv bb 0 from (fl3.i tbb rfl 0))) (fun bb tbb => by exact (show ivh3 bb 1 = iv bb 1 from (fl3.i tbb rfl 1))) (fun bb tbb => by exact (Eq.trans (show rv1 bb 4 = rvh3 bb 4 from (by rw [pq3]; exact congrFun (upr_a (ne_ty tbb trb6 (by decide))) _)) (show rvh3 bb 4 = rv bb 4 from (fl3.r tbb rfl 4)))), TSQ.of hW hS (fun bb tbb hbb => by exact (show ivh3 bb 2 = iv bb 2 from (fl3.i tbb rfl 2)))⟩⟩))⟩), (Or.inr ⟨by omega, f3, rmef3, (fun h => absurd h (by omega)), (fun h => absurd h (by omega)), (fun h => absurd h (by omega)), (fun h => absurd h (by omega)), (fun _ _ t9 n9 h1 h6 => by
                rw [tt3] at h1; cases h1
                rw [((fl3.r trb5 rfl 6).symm.trans rq6)] at h6; cases h6
                exact ⟨kp15, by rw [((fl3.r rgf3 rfl 2).symm.trans nq2), show (iv f3 3).toNat = (ivh3 f3 3).toNat by omega, pq3]; exact upr_s⟩)⟩)⟩
          · refine c_getr (k := 2) C ck_1 dX10_takeBack_167 w3_45 (by decide) rgf3 rfl rfl (by decide) rfl nq2 ?_
            refine c_st (st2 := [.ref nb2, .int (iI (ivh3 f3 3)), .ref rb6]) rfl ?_
            refine hv2 (show KP L cl (fun _ => False) (fun _ => False) (fun _ => False) (fun _ => False) (fun b k => b = rb6 ∧ k = (iv f3 3).toNat) iv rv iv rv from KP.refl) (show 4 ≤ ln rb6 ∧ ln rb6 ≤ 4 from W3.len trb6 rfl) (fun kp16 ll2 => ?_)
            have kp17 := kp16.call TX.refl hW fl3 rfl
            refine c_aastR (z := ivh3 f3 3) C ck_6 dX10_takeBack_170 trb6 rfl tnb2 rfl rfl (by decide) (by omega) (by omega) (by omega) (fun rv2 pq4 => ⟨0, (by rw [Phi.putr hS pq4 trb6 rfl]; exact Nat.le_refl _), ?_⟩)
            refine hv3 (W3.putr pq4 trb6 (rok_some trb6 tnb2 rfl (by decide) rfl) rfl (by decide)) (F1.putr hX0 pq4 trb6 rfl) (MRK.putr mr1 W3 hS pq4 trb6 (by decide) (by decide)) (fun W11 F7 mr7 => ?_)
            have kp18 := kp17.putrI TX.refl W3 pq4 trb6 ⟨rfl, by omega⟩
            refine c_iconst C dX10_takeBack_171 ?_
            refine hv3 (show 0 ≤ ivh3 (sk 22) 2 ∧ ivh3 (sk 22) 2 ≤ 30 from W11.int tsk22 2) (show ivh3 (sk 22) 2 = iv (sk 22) 2 from fl3.i tsk22 rfl 2) (Phi.le W11 hS) (fun ri37 ie44 pl11 => ?_)
            exact c_zret C dX10_takeBack_172 rfl (Or.inr rfl) (by decide) (rom0 hph pl11 (by decide)) ⟨1, rfl, rfl, rfl, rfl, F7, W11, (Or.inr rfl), ⟨(by omega), (by omega), mr7⟩, (Or.inr ⟨by omega, by omega, f3, rmef3, by omega, CS0.of hW hS (by omega) (fun i hi => ((fun i hi => el_ch W3 (tysk23 hS) rfl rfl ((show ∀ bb, ty L cl bb 23 → rv2 bb 1 = rvh3 bb 1 from fun bb tbb => by exact (show rv2 bb 1 = rvh3 bb 1 from (by rw [pq4]; exact congrFun (upr_a (ne_ty tbb trb6 (by decide))) _))) (sk 23) (tysk23 hS)) (fun bb tbb kk => by exact (show rv2 bb kk = rvh3 bb kk from (by rw [pq4]; exact congrFun (upr_a (ne_ty tbb trb6 (by decide))) _))) hi) i (by omega)).trans (exf3.2 i (by omega))) (fun bb tb => F7.i tb rfl 0) (fun bb tb => F7.r tb rfl 1), Or.inr (Or.inr (Or.inr ⟨by omega, by omega, ⟨(fun i hi => el_ch hW (tysk22 hS) rfl rfl ((show ∀ bb, ty L cl bb 22 → rv2 bb 1 = rv bb 1 from fun bb tbb => by exact (Eq.trans (show rv2 bb 1 = rvh3 bb 1 from (by rw [pq4]; exact congrFun (upr_a (ne_ty tbb trb6 (by decide))) _)) (show rvh3 bb 1 = rv bb 1 from (fl3.r tbb rfl 1)))) (sk 22) (tysk22 hS)) (fun bb tbb kk => by exact (Eq.trans (show rv2 bb kk = rvh3 bb kk from (by rw [pq4]; exact congrFun (upr_a (ne_ty tbb trb6 (by decide))) _)) (show rvh3 bb kk = rv bb kk from (fl3.r tbb rfl kk)))) hi), TSF.of hW hS (fun bb tbb hbb => by exact (show ivh3 bb 7 = iv bb 7 from (fl3.i tbb rfl 7))) (fun bb tbb => by exact (show ivh3 bb 0 = iv bb 0 from (fl3.i tbb rfl 0))) (fun bb tbb => by exact (show ivh3 bb 1 = iv bb 1 from (fl3.i tbb rfl 1))) (fun bb tbb => by exact (Eq.trans (show rv2 bb 4 = rvh3 bb 4 from (by rw [pq4]; exact congrFun (upr_a (ne_ty tbb trb6 (by decide))) _)) (show rvh3 bb 4 = rv bb 4 from (fl3.r tbb rfl 4)))), TSQ.of hW hS (fun bb tbb hbb => by exact (show ivh3 bb 2 = iv bb 2 from (fl3.i tbb rfl 2)))⟩⟩))⟩), (Or.inr ⟨by omega, f3, rmef3, (fun h => absurd h (by omega)), (fun h => absurd h (by omega)), (fun h => absurd h (by omega)), (fun h => absurd h (by omega)), (fun _ _ t9 n9 h1 h6 => by
                rw [tt3] at h1; cases h1
                rw [((fl3.r trb5 rfl 6).symm.trans rq6)] at h6; cases h6
                exact ⟨kp18, by rw [((fl3.r rgf3 rfl 2).symm.trans nq2), show (iv f3 3).toNat = (ivh3 f3 3).toNat by omega, pq4]; exact upr_s⟩)⟩)⟩
  · replace gf1 := (gf1.resolve_right (fun q => c1 q.1))
    refine c_iconst C dX10_takeBack_10 ?_
    have ri38 : 0 ≤ iv (sk 22) 2 ∧ iv (sk 22) 2 ≤ 30 := hW.int tsk22 2
    exact c_zret C dX10_takeBack_11 rfl (Or.inl rfl) (by decide) (rom0 hph hph (by decide)) ⟨0, rfl, rfl, rfl, rfl, hF0, hW, (Or.inl rfl), ⟨(by omega), (by omega), hmr⟩, (Or.inl ⟨by omega, by omega, PSAME.refl⟩), (Or.inl ⟨by omega, KP.refl⟩)⟩
