set_option maxHeartbeats 4000000 in
set_option maxRecDepth 100000 in
theorem Y_tables {l : Launch} {G : GT} {mi : Nat} {sk : Nat → Nat} {L : List Nat} {cl ln : Nat → Nat} {iv : Nat → Nat → Int} {rv : Nat → Nat → Option Nat}  {a0 : Nat} (hW : WT (g0 G) sk L cl ln iv rv) (hnt : ∀ t, ([22, 23] : List Nat).contains t = true → ∀ a ∈ L, cl a ≠ t) (t_a0 : ty L cl a0 211)  : Mc l G mi zPf 0 yX10_init cX10_init 1 none 4 [.ref a0] L cl ln iv rv 38 (fun v L2 cl2 ln2 iv2 rv2 => ∃ sk2, v = none ∧ XT L cl ln L2 cl2 ln2 ∧ fT [211, 200] L cl iv rv iv2 rv2 ∧ WT (g0 G) sk2 L2 cl2 ln2 iv2 rv2 ∧ (∃ b0 b1, (∀ k, ([0, 1] : List Nat).contains k = false → rv2 a0 k = rv a0 k) ∧ rv2 a0 0 = some b0 ∧ ty L2 cl2 b0 22 ∧ rv2 a0 1 = some b1 ∧ ty L2 cl2 b1 23 ∧ iv2 b0 2 = 0 ∧ iv2 b1 2 = 0) ∧ NW [200, 22, 23] L L2 cl2) := by
  refine Mc.mk (by decide) (Nat.le_of_ble_eq_true rfl) ?_
  intro p e s m args below meth c A C hM
  have hph := (show zPf ln rv ≤ 0 from Nat.le_refl 0)
  have nw0 : NW [] L L cl := NW.refl
  have hX0 : XT L cl ln L cl ln := XT.refl
  have hF0 : fT [211, 200] L cl iv rv iv rv := fT.refl
  refine c_aload_n (j := 0) (x := a0) C dX10_init_0 rfl ?_
  refine c_objInit C dX10_init_1 w1_63 w1_30 w1_31 (by decide) (Nat.le_of_ble_eq_true rfl) ?_
  refine c_aload_n (j := 0) (x := a0) C dX10_init_4 rfl ?_
  refine c_new C ck_0 dv_0 ⟨rfl, rfl⟩ rfl (by decide) dX10_init_5 w1_64 w1_65 w1_6 (rom2 hph hph (by decide)) (fun qn1 cln1 lnn1 ivn1 rvn1 hqn1 hcn1 hln1 hin1 hrn1 => ⟨19, (z_in (by omega)), ?_⟩)
  refine c_g0 C (fun hg1 => ?_)
  have hxn1 : ∀ b, b ≠ qn1 → lnn1 b = ln b := (fun b _ => by rw [hln1])
  have W1 := hW.new (ln2 := lnn1) hqn1 (hg1 qn1 (List.mem_append_right _ List.mem_cons_self)) hcn1 hxn1 hin1 hrn1 (fun _ => ⟨(show (-2147483648 : Int) ≤ 0 by decide), (show (0 : Int) ≤ 2147483647 by decide)⟩) (Or.inl rfl) (fun q => by cases q) rfl rfl
  have xl1 := XT.new hqn1 hcn1 hxn1
  have X1 := hX0.trans xl1
  have F1 := hF0.new hX0 hqn1 hin1 hrn1
  have nw1 := nw0.new xl1 hcn1
  have tqn1 : ty (L ++ [qn1]) cln1 qn1 200 := ty_new hcn1
  have h0qn1 : qn1 ∉ L := fun h => hqn1 ((hX0 qn1 h).1)
  refine c_dup C dX10_init_8 rfl ?_
  have ri1 : (-2147483648) ≤ ivn1 qn1 2 ∧ ivn1 qn1 2 ≤ 2147483647 := W1.int tqn1 2
  have ie1 : ivn1 qn1 2 = 0 := by rw [hin1]; exact up0_s
  refine c_callI (As := []) (rest := [.ref qn1, .ref a0]) C hM (Y_list (a0 := qn1) W1  tqn1  ) dX10_init_9 kI_X10_11 rfl rfl (Nat.le_of_ble_eq_true rfl) ⟨(Nat.le_of_ble_eq_true rfl), (Nat.le_of_ble_eq_true rfl)⟩ (rz0 hph (by decide)) (fun rh1 Lh1 clh1 lnh1 ivh1 rvh1 h1 => ⟨19, zk0, ?_⟩)
  obtain ⟨rfl, rfl, rfl, rfl, fl1, W2, exf1⟩ := h1
  have F2 := F1.call X1 fl1 rfl
  refine c_st (st2 := [.ref qn1, .ref a0]) rfl ?_
  have exf1r := exf1.1
  have exf1s := exf1.2.1
  have ri2 : (-2147483648) ≤ ivh1 qn1 2 ∧ ivh1 qn1 2 ≤ 2147483647 := W2.int tqn1 2
  have rn1 : ∀ k, ([1] : List Nat).contains k = false → rvh1 qn1 k = none := fun k hk => (Eq.trans (show rvh1 qn1 k = rvn1 qn1 k from (exf1.2.2 k hk)) (show rvn1 qn1 k = none from (by rw [hrn1]; exact up0_s)))
  refine c_retag (q := qn1) (t := 22) (by rw [tqn1.2]; rfl) (fun clr1 hcr1 => ?_)
  have ty1 := xl1.ty t_a0
  have ty2 := ty_rt ty1 hcr1 (ne_ty ty1 tqn1 (by decide))
  have tqr1 : ty (L ++ [qn1]) clr1 qn1 22 := ⟨tqn1.1, by rw [hcr1, va_up_self]; rfl⟩
  have hno1 := NW.no nw1 X1 (hnt 22 (by decide)) (by decide)
  have W3 := W2.retagU tqn1.1 (by rw [tqn1.2]; rfl) hcr1 (fun k => by
        rcases k with _ | _ | _ | k
        · exact W2.int tqn1 0
        · exact W2.int tqn1 1
        · exact ⟨(by show 0 ≤ ivh1 qn1 2; omega), (by show ivh1 qn1 2 ≤ 30; omega)⟩
        · exact W2.int tqn1 (k + 3)) (fun k => by
        rcases k with _ | _ | _ | k
        · rw [rn1 0 (by decide)]; exact rok_none tqr1 rfl
        · rw [exf1r]; exact rok_lst tqr1 rfl
        · rw [rn1 2 (by decide)]; exact rok_none tqr1 rfl
        · rw [rn1 (k + 3) (by simp)]; exact rok_none tqr1 rfl) (fun z => by cases z) (fun _ b hb => by rw [exf1r] at hb; cases hb; exact Or.inl ⟨rfl, by omega⟩) (fun _ b hb i hi => absurd hi (by omega)) hno1
  have nw2 := nw1.rt hcr1
  have X2 := X1.rt hcr1 h0qn1
  have ctr1 : clr1 qn1 = 22 := by rw [hcr1]; exact va_up_self _ _ _
  refine c_putrF (x := (some qn1)) (k := 0) C ck_11 dX10_init_12 w1_90 (by decide) rfl rfl rfl ty2 rfl rfl (by decide) rfl (by rfl) (by rfl) (fun rv1 pq1 => ⟨19, (zp2 (Nat.le_refl _)), ?_⟩)
  have W4 := W3.putr pq1 ty2 (fun qr => by rw [ty2.2] at qr; cases qr) rfl (by decide)
  have F3 := F2.putr X2 pq1 ty2 rfl
  refine c_aload_n (j := 0) (x := a0) C dX10_init_15 rfl ?_
  refine c_new C ck_0 dv_0 ⟨rfl, rfl⟩ rfl (by decide) dX10_init_16 w1_64 w1_65 w1_6 (rom2 hph (Nat.le_refl 0) (by decide)) (fun qn2 cln2 lnn2 ivn2 rvn2 hqn2 hcn2 hln2 hin2 hrn2 => ⟨38, (z_in (by omega)), ?_⟩)
  refine c_g0 C (fun hg2 => ?_)
  have hxn2 : ∀ b, b ≠ qn2 → lnn2 b = lnn1 b := (fun b _ => by rw [hln2])
  have W5 := W4.new (ln2 := lnn2) hqn2 (hg2 qn2 (List.mem_append_right _ List.mem_cons_self)) hcn2 hxn2 hin2 hrn2 (fun _ => ⟨(show (-2147483648 : Int) ≤ 0 by decide), (show (0 : Int) ≤ 2147483647 by decide)⟩) (Or.inl rfl) (fun q => by cases q) rfl rfl
  have xl3 := XT.new hqn2 hcn2 hxn2
  have X3 := X2.trans xl3
  have F4 := F3.new X2 hqn2 hin2 hrn2
  have nw3 := nw2.new xl3 hcn2
  have tqn2 : ty ((L ++ [qn1]) ++ [qn2]) cln2 qn2 200 := ty_new hcn2
  have h0qn2 : qn2 ∉ L := fun h => hqn2 ((X2 qn2 h).1)
  refine c_dup C dX10_init_19 rfl ?_
  have ri3 : (-2147483648) ≤ ivn2 qn2 2 ∧ ivn2 qn2 2 ≤ 2147483647 := W5.int tqn2 2
  have ie2 : ivn2 qn2 2 = 0 := by rw [hin2]; exact up0_s
  refine c_callI (As := []) (rest := [.ref qn2, .ref a0]) C hM (Y_list (a0 := qn2) W5  tqn2  ) dX10_init_20 kI_X10_11 rfl rfl (Nat.le_of_ble_eq_true rfl) ⟨(Nat.le_of_ble_eq_true rfl), (Nat.le_of_ble_eq_true rfl)⟩ (rz0 hph (by decide)) (fun rh2 Lh2 clh2 lnh2 ivh2 rvh2 h2 => ⟨38, zk0, ?_⟩)
  obtain ⟨rfl, rfl, rfl, rfl, fl2, W6, exf2⟩ := h2
  have F5 := F4.call X3 fl2 rfl
  refine c_st (st2 := [.ref qn2, .ref a0]) rfl ?_
  have exf2r := exf2.1
  have exf2s := exf2.2.1
  have ri4 : (-2147483648) ≤ ivh2 qn2 2 ∧ ivh2 qn2 2 ≤ 2147483647 := W6.int tqn2 2
  have rn2 : ∀ k, ([1] : List Nat).contains k = false → rvh2 qn2 k = none := fun k hk => (Eq.trans (show rvh2 qn2 k = rvn2 qn2 k from (exf2.2.2 k hk)) (show rvn2 qn2 k = none from (by rw [hrn2]; exact up0_s)))
  refine c_retag (q := qn2) (t := 23) (by rw [tqn2.2]; rfl) (fun clr2 hcr2 => ?_)
  have ty3 := xl3.ty ty2
  have ty4 := ty_rt ty3 hcr2 (ne_ty ty3 tqn2 (by decide))
  have ty5 := xl3.ty tqr1
  have ty6 := ty_rt ty5 hcr2 (ne_ty ty5 tqn2 (by decide))
  have tqr2 : ty ((L ++ [qn1]) ++ [qn2]) clr2 qn2 23 := ⟨tqn2.1, by rw [hcr2, va_up_self]; rfl⟩
  have hno2 := NW.no nw3 X3 (hnt 23 (by decide)) (by decide)
  have W7 := W6.retagU tqn2.1 (by rw [tqn2.2]; rfl) hcr2 (fun k => by
        rcases k with _ | _ | _ | k
        · exact W6.int tqn2 0
        · exact W6.int tqn2 1
        · exact ⟨(by show 0 ≤ ivh2 qn2 2; omega), (by show ivh2 qn2 2 ≤ 512; omega)⟩
        · exact W6.int tqn2 (k + 3)) (fun k => by
        rcases k with _ | _ | _ | k
        · rw [rn2 0 (by decide)]; exact rok_none tqr2 rfl
        · rw [exf2r]; exact rok_lst tqr2 rfl
        · rw [rn2 2 (by decide)]; exact rok_none tqr2 rfl
        · rw [rn2 (k + 3) (by simp)]; exact rok_none tqr2 rfl) (fun z => by cases z) (fun _ b hb => by rw [exf2r] at hb; cases hb; exact Or.inl ⟨rfl, by omega⟩) (fun _ b hb i hi => absurd hi (by omega)) hno2
  have nw4 := nw3.rt hcr2
  have X4 := X3.rt hcr2 h0qn2
  have ctr2 : clr2 qn2 = 23 := by rw [hcr2]; exact va_up_self _ _ _
  refine c_putrF (x := (some qn2)) (k := 1) C ck_11 dX10_init_23 w1_91 (by decide) rfl rfl rfl ty4 rfl rfl (by decide) rfl (by rfl) (by rfl) (fun rv2 pq2 => ⟨38, (zp2 (Nat.le_refl _)), ?_⟩)
  have W8 := W7.putr pq2 ty4 (fun qr => by rw [ty4.2] at qr; cases qr) rfl (by decide)
  have F6 := F5.putr X4 pq2 ty4 rfl
  have rp1 : rv1 a0 0 = (some qn1) := by rw [pq1]; exact upr_s
  have re1 : rvn2 a0 0 = rv1 a0 0 := (by rw [hrn2]; exact congrFun (up0_a (ne_in ty2.1 hqn2)) _)
  rw [rp1] at re1
  have re2 : rvh2 a0 0 = rvn2 a0 0 := (fl2.r ty3 rfl 0)
  rw [re1] at re2
  have re3 : rv2 a0 0 = rvh2 a0 0 := (by rw [pq2]; exact upr_j (by decide))
  rw [re2] at re3
  have rp2 : rv2 a0 1 = (some qn2) := by rw [pq2]; exact upr_s
  have rn3 : ∀ k, ([0, 1] : List Nat).contains k = false → rv2 a0 k = rv a0 k := fun k hk => (Eq.trans (show rv2 a0 k = rvh2 a0 k from (by rw [pq2]; exact upr_j (fun e => by subst e; exact absurd hk (by decide)))) (Eq.trans (show rvh2 a0 k = rvn2 a0 k from (fl2.r ty3 rfl k)) (Eq.trans (show rvn2 a0 k = rv1 a0 k from (by rw [hrn2]; exact congrFun (up0_a (ne_in ty2.1 hqn2)) _)) (Eq.trans (show rv1 a0 k = rvh1 a0 k from (by rw [pq1]; exact upr_j (fun e => by subst e; exact absurd hk (by decide)))) (Eq.trans (show rvh1 a0 k = rvn1 a0 k from (fl1.r ty1 rfl k)) (show rvn1 a0 k = rv a0 k from (by rw [hrn1]; exact congrFun (up0_a (ne_in t_a0.1 hqn1)) _)))))))
  have ri5 : 0 ≤ ivh2 qn1 2 ∧ ivh2 qn1 2 ≤ 30 := W8.int ty6 2
  have ie3 : ivh2 qn1 2 = ivn2 qn1 2 := fl2.i ty5 rfl 2
  have ie4 : ivn2 qn1 2 = ivh1 qn1 2 := by rw [hin2]; exact congrFun (up0_a (ne_in tqr1.1 hqn2)) _
  exact c_vret C dX10_init_26 rfl (by decide) (rom0 hph (Nat.le_refl 0) (by decide)) ⟨_, rfl, X4, F6, W8, ⟨qn1, qn2, rn3, re3, ty6, rp2, tqr2, (by omega), (by omega)⟩, nw4.sub (by decide)⟩
set_option maxHeartbeats 4000000 in
set_option maxRecDepth 100000 in
theorem Y_reader {l : Launch} {G : GT} {mi : Nat} {sk : Nat → Nat} {L : List Nat} {cl ln : Nat → Nat} {iv : Nat → Nat → Int} {rv : Nat → Nat → Option Nat}  {a0 : Nat} (hW : WT (g0 G) sk L cl ln iv rv) (hnt : ∀ t, ([24, 25, 6, 7, 8, 9, 10] : List Nat).contains t = true → ∀ a ∈ L, cl a ≠ t) (t_a0 : ty L cl a0 204)  : Mc l G mi zPf 0 yX3_init cX3_init 1 none 4 [.ref a0] L cl ln iv rv 293 (fun v L2 cl2 ln2 iv2 rv2 => ∃ sk2, v = none ∧ XT L cl ln L2 cl2 ln2 ∧ fT [204, 200, 202] L cl iv rv iv2 rv2 ∧ WT (g0 G) sk2 L2 cl2 ln2 iv2 rv2 ∧ (∃ b0 b1 b2 b3 b4 b5 b6, (∀ k, ([0, 1, 2, 3, 4, 5, 6] : List Nat).contains k = false → rv2 a0 k = rv a0 k) ∧ rv2 a0 0 = some b0 ∧ ty L2 cl2 b0 24 ∧ rv2 a0 1 = some b1 ∧ ty L2 cl2 b1 25 ∧ rv2 a0 2 = some b2 ∧ ty L2 cl2 b2 6 ∧ rv2 a0 3 = some b3 ∧ ty L2 cl2 b3 7 ∧ rv2 a0 4 = some b4 ∧ ty L2 cl2 b4 8 ∧ rv2 a0 5 = some b5 ∧ ty L2 cl2 b5 9 ∧ rv2 a0 6 = some b6 ∧ ty L2 cl2 b6 10 ∧ iv2 a0 7 = 0) ∧ NW [200, 202, 24, 25, 6, 7, 8, 9, 10, 36, 37, 38, 39, 40] L L2 cl2) := by
  refine Mc.mk (by decide) (Nat.le_of_ble_eq_true rfl) ?_
  intro p e s m args below meth c A C hM
  have hph := (show zPf ln rv ≤ 0 from Nat.le_refl 0)
  have nw0 : NW [] L L cl := NW.refl
  have hX0 : XT L cl ln L cl ln := XT.refl
  have hF0 : fT [204, 200, 202] L cl iv rv iv rv := fT.refl
  refine c_aload_n (j := 0) (x := a0) C dX3_init_0 rfl ?_
  refine c_objInit C dX3_init_1 w1_184 w1_30 w1_31 (by decide) (Nat.le_of_ble_eq_true rfl) ?_
  refine c_aload_n (j := 0) (x := a0) C dX3_init_4 rfl ?_
  refine c_new C ck_0 dv_0 ⟨rfl, rfl⟩ rfl (by decide) dX3_init_5 w1_185 w1_65 w1_6 (rom2 hph hph (by decide)) (fun qn1 cln1 lnn1 ivn1 rvn1 hqn1 hcn1 hln1 hin1 hrn1 => ⟨19, (z_in (by omega)), ?_⟩)
  refine c_g0 C (fun hg1 => ?_)
  have hxn1 : ∀ b, b ≠ qn1 → lnn1 b = ln b := (fun b _ => by rw [hln1])
  have W1 := hW.new (ln2 := lnn1) hqn1 (hg1 qn1 (List.mem_append_right _ List.mem_cons_self)) hcn1 hxn1 hin1 hrn1 (fun _ => ⟨(show (-2147483648 : Int) ≤ 0 by decide), (show (0 : Int) ≤ 2147483647 by decide)⟩) (Or.inl rfl) (fun q => by cases q) rfl rfl
  have xl1 := XT.new hqn1 hcn1 hxn1
  have X1 := hX0.trans xl1
  have F1 := hF0.new hX0 hqn1 hin1 hrn1
  have nw1 := nw0.new xl1 hcn1
  have tqn1 : ty (L ++ [qn1]) cln1 qn1 200 := ty_new hcn1
  have h0qn1 : qn1 ∉ L := fun h => hqn1 ((hX0 qn1 h).1)
  refine c_dup C dX3_init_8 rfl ?_
  have ri1 : (-2147483648) ≤ ivn1 qn1 2 ∧ ivn1 qn1 2 ≤ 2147483647 := W1.int tqn1 2
  have ie1 : ivn1 qn1 2 = 0 := by rw [hin1]; exact up0_s
  refine c_callI (As := []) (rest := [.ref qn1, .ref a0]) C hM (Y_list (a0 := qn1) W1  tqn1  ) dX3_init_9 kI_X3_11 rfl rfl (Nat.le_of_ble_eq_true rfl) ⟨(Nat.le_of_ble_eq_true rfl), (Nat.le_of_ble_eq_true rfl)⟩ (rz0 hph (by decide)) (fun rh1 Lh1 clh1 lnh1 ivh1 rvh1 h1 => ⟨19, zk0, ?_⟩)
  obtain ⟨rfl, rfl, rfl, rfl, fl1, W2, exf1⟩ := h1
  have F2 := F1.call X1 fl1 rfl
  refine c_st (st2 := [.ref qn1, .ref a0]) rfl ?_
  have exf1r := exf1.1
  have exf1s := exf1.2.1
  have ri2 : (-2147483648) ≤ ivh1 qn1 2 ∧ ivh1 qn1 2 ≤ 2147483647 := W2.int tqn1 2
  have rn1 : ∀ k, ([1] : List Nat).contains k = false → rvh1 qn1 k = none := fun k hk => (Eq.trans (show rvh1 qn1 k = rvn1 qn1 k from (exf1.2.2 k hk)) (show rvn1 qn1 k = none from (by rw [hrn1]; exact up0_s)))
  refine c_retag (q := qn1) (t := 24) (by rw [tqn1.2]; rfl) (fun clr1 hcr1 => ?_)
  have ty1 := xl1.ty t_a0
  have ty2 := ty_rt ty1 hcr1 (ne_ty ty1 tqn1 (by decide))
  have tqr1 : ty (L ++ [qn1]) clr1 qn1 24 := ⟨tqn1.1, by rw [hcr1, va_up_self]; rfl⟩
  have hno1 := NW.no nw1 X1 (hnt 24 (by decide)) (by decide)
  have W3 := W2.retagU tqn1.1 (by rw [tqn1.2]; rfl) hcr1 (fun k => by
        rcases k with _ | _ | _ | k
        · exact W2.int tqn1 0
        · exact W2.int tqn1 1
        · exact ⟨(by show 0 ≤ ivh1 qn1 2; omega), (by show ivh1 qn1 2 ≤ 6003; omega)⟩
        · exact W2.int tqn1 (k + 3)) (fun k => by
        rcases k with _ | _ | _ | k
        · rw [rn1 0 (by decide)]; exact rok_none tqr1 rfl
        · rw [exf1r]; exact rok_lst tqr1 rfl
        · rw [rn1 2 (by decide)]; exact rok_none tqr1 rfl
        · rw [rn1 (k + 3) (by simp)]; exact rok_none tqr1 rfl) (fun z => by cases z) (fun _ b hb => by rw [exf1r] at hb; cases hb; exact Or.inl ⟨rfl, by omega⟩) (fun _ b hb i hi => absurd hi (by omega)) hno1
  have nw2 := nw1.rt hcr1
  have X2 := X1.rt hcr1 h0qn1
  have ctr1 : clr1 qn1 = 24 := by rw [hcr1]; exact va_up_self _ _ _
  refine c_putrF (x := (some qn1)) (k := 0) C ck_4 dX3_init_12 w1_190 (by decide) rfl rfl rfl ty2 rfl rfl (by decide) rfl (by rfl) (by rfl) (fun rv1 pq1 => ⟨19, (zp2 (Nat.le_refl _)), ?_⟩)
  have W4 := W3.putr pq1 ty2 (fun qr => by rw [ty2.2] at qr; cases qr) rfl (by decide)
  have F3 := F2.putr X2 pq1 ty2 rfl
  refine c_aload_n (j := 0) (x := a0) C dX3_init_15 rfl ?_
  refine c_new C ck_0 dv_0 ⟨rfl, rfl⟩ rfl (by decide) dX3_init_16 w1_185 w1_65 w1_6 (rom2 hph (Nat.le_refl 0) (by decide)) (fun qn2 cln2 lnn2 ivn2 rvn2 hqn2 hcn2 hln2 hin2 hrn2 => ⟨38, (z_in (by omega)), ?_⟩)
  refine c_g0 C (fun hg2 => ?_)
  have hxn2 : ∀ b, b ≠ qn2 → lnn2 b = lnn1 b := (fun b _ => by rw [hln2])
  have W5 := W4.new (ln2 := lnn2) hqn2 (hg2 qn2 (List.mem_append_right _ List.mem_cons_self)) hcn2 hxn2 hin2 hrn2 (fun _ => ⟨(show (-2147483648 : Int) ≤ 0 by decide), (show (0 : Int) ≤ 2147483647 by decide)⟩) (Or.inl rfl) (fun q => by cases q) rfl rfl
  have xl3 := XT.new hqn2 hcn2 hxn2
  have X3 := X2.trans xl3
  have F4 := F3.new X2 hqn2 hin2 hrn2
  have nw3 := nw2.new xl3 hcn2
  have tqn2 : ty ((L ++ [qn1]) ++ [qn2]) cln2 qn2 200 := ty_new hcn2
  have h0qn2 : qn2 ∉ L := fun h => hqn2 ((X2 qn2 h).1)
  refine c_dup C dX3_init_19 rfl ?_
  have ri3 : (-2147483648) ≤ ivn2 qn2 2 ∧ ivn2 qn2 2 ≤ 2147483647 := W5.int tqn2 2
  have ie2 : ivn2 qn2 2 = 0 := by rw [hin2]; exact up0_s
  refine c_callI (As := []) (rest := [.ref qn2, .ref a0]) C hM (Y_list (a0 := qn2) W5  tqn2  ) dX3_init_20 kI_X3_11 rfl rfl (Nat.le_of_ble_eq_true rfl) ⟨(Nat.le_of_ble_eq_true rfl), (Nat.le_of_ble_eq_true rfl)⟩ (rz0 hph (by decide)) (fun rh2 Lh2 clh2 lnh2 ivh2 rvh2 h2 => ⟨38, zk0, ?_⟩)
  obtain ⟨rfl, rfl, rfl, rfl, fl2, W6, exf2⟩ := h2
  have F5 := F4.call X3 fl2 rfl
  refine c_st (st2 := [.ref qn2, .ref a0]) rfl ?_
  have exf2r := exf2.1
  have exf2s := exf2.2.1
  have ri4 : (-2147483648) ≤ ivh2 qn2 2 ∧ ivh2 qn2 2 ≤ 2147483647 := W6.int tqn2 2
  have rn2 : ∀ k, ([1] : List Nat).contains k = false → rvh2 qn2 k = none := fun k hk => (Eq.trans (show rvh2 qn2 k = rvn2 qn2 k from (exf2.2.2 k hk)) (show rvn2 qn2 k = none from (by rw [hrn2]; exact up0_s)))
  refine c_retag (q := qn2) (t := 25) (by rw [tqn2.2]; rfl) (fun clr2 hcr2 => ?_)
  have ty3 := xl3.ty ty2
  have ty4 := ty_rt ty3 hcr2 (ne_ty ty3 tqn2 (by decide))
  have ty5 := xl3.ty tqr1
  have ty6 := ty_rt ty5 hcr2 (ne_ty ty5 tqn2 (by decide))
  have tqr2 : ty ((L ++ [qn1]) ++ [qn2]) clr2 qn2 25 := ⟨tqn2.1, by rw [hcr2, va_up_self]; rfl⟩
  have hno2 := NW.no nw3 X3 (hnt 25 (by decide)) (by decide)
  have W7 := W6.retagU tqn2.1 (by rw [tqn2.2]; rfl) hcr2 (fun k => by
        rcases k with _ | _ | _ | k
        · exact W6.int tqn2 0
        · exact W6.int tqn2 1
        · exact ⟨(by show 0 ≤ ivh2 qn2 2; omega), (by show ivh2 qn2 2 ≤ 6003; omega)⟩
        · exact W6.int tqn2 (k + 3)) (fun k => by
        rcases k with _ | _ | _ | k
        · rw [rn2 0 (by decide)]; exact rok_none tqr2 rfl
        · rw [exf2r]; exact rok_lst tqr2 rfl
        · rw [rn2 2 (by decide)]; exact rok_none tqr2 rfl
        · rw [rn2 (k + 3) (by simp)]; exact rok_none tqr2 rfl) (fun z => by cases z) (fun _ b hb => by rw [exf2r] at hb; cases hb; exact Or.inl ⟨rfl, by omega⟩) (fun _ b hb i hi => absurd hi (by omega)) hno2
  have nw4 := nw3.rt hcr2
  have X4 := X3.rt hcr2 h0qn2
  have ctr2 : clr2 qn2 = 25 := by rw [hcr2]; exact va_up_self _ _ _
  refine c_putrF (x := (some qn2)) (k := 1) C ck_4 dX3_init_23 w1_193 (by decide) rfl rfl rfl ty4 rfl rfl (by decide) rfl (by rfl) (by rfl) (fun rv2 pq2 => ⟨38, (zp2 (Nat.le_refl _)), ?_⟩)
  have W8 := W7.putr pq2 ty4 (fun qr => by rw [ty4.2] at qr; cases qr) rfl (by decide)
  have F6 := F5.putr X4 pq2 ty4 rfl
  refine c_aload_n (j := 0) (x := a0) C dX3_init_26 rfl ?_
  refine c_new C ck_2 dv_2 ⟨rfl, rfl⟩ rfl (by decide) dX3_init_27 w1_187 w1_33 w1_2 (rom2 hph (Nat.le_refl 0) (by decide)) (fun qn3 cln3 lnn3 ivn3 rvn3 hqn3 hcn3 hln3 hin3 hrn3 => ⟨57, (z_in (by omega)), ?_⟩)
  refine c_g0 C (fun hg3 => ?_)
  have hxn3 : ∀ b, b ≠ qn3 → lnn3 b = lnn2 b := (fun b _ => by rw [hln3])
  have W9 := W8.new (ln2 := lnn3) hqn3 (hg3 qn3 (List.mem_append_right _ List.mem_cons_self)) hcn3 hxn3 hin3 hrn3 (fun _ => ⟨(show (-2147483648 : Int) ≤ 0 by decide), (show (0 : Int) ≤ 2147483647 by decide)⟩) (Or.inl rfl) (fun q => by cases q) rfl rfl
  have xl5 := XT.new hqn3 hcn3 hxn3
  have X5 := X4.trans xl5
  have F7 := F6.new X4 hqn3 hin3 hrn3
  have nw5 := nw4.new xl5 hcn3
  have tqn3 : ty (((L ++ [qn1]) ++ [qn2]) ++ [qn3]) cln3 qn3 202 := ty_new hcn3
  have h0qn3 : qn3 ∉ L := fun h => hqn3 ((X4 qn3 h).1)
  refine c_dup C dX3_init_30 rfl ?_
  refine c_sipush (z := 6003) C dX3_init_31 (by decide) ?_
  refine c_callI (As := [.int (iI 6003)]) (rest := [.ref qn3, .ref a0]) C hM (Y_ints_6 (a0 := qn3) (i := 6003) W9  tqn3 ⟨by decide, by decide⟩ ) dX3_init_34 kI_X3_23 rfl rfl (Nat.le_of_ble_eq_true rfl) ⟨(Nat.le_of_ble_eq_true rfl), (Nat.le_of_ble_eq_true rfl)⟩ (rz0 hph (by decide)) (fun rh3 Lh3 clh3 lnh3 ivh3 rvh3 h3 => ⟨89, zk0, ?_⟩)
  obtain ⟨rfl, xl6, fl3, W10, exf3, nxh3⟩ := h3
  have F8 := F7.call X5 fl3 rfl
  have ty7 := xl5.ty ty4
  have ty8 := xl5.ty ty6
  have ty9 := xl5.ty tqr2
  have X6 := X5.trans xl6
  have nw6 := nw5.call xl6 nxh3
  refine c_st (st2 := [.ref qn3, .ref a0]) rfl ?_
  obtain ⟨bexf3, exf3x, exf3r, exf3t, exf3l, exf3i, exf3j⟩ := exf3
  have rn3 : ∀ k, ([1] : List Nat).contains k = false → rvh3 qn3 k = none := fun k hk => (Eq.trans (show rvh3 qn3 k = rvn3 qn3 k from (exf3x k hk)) (show rvn3 qn3 k = none from (by rw [hrn3]; exact up0_s)))
  have ty10 := xl6.ty tqn3
  refine c_retag (q := qn3) (t := 6) (by rw [ty10.2]; rfl) (fun clr3 hcr3 => ?_)
  have ty11 := xl6.ty ty7
  have ty12 := ty_rt ty11 hcr3 (ne_ty ty11 ty10 (by decide))
  have ty13 := xl6.ty ty8
  have ty14 := ty_rt ty13 hcr3 (ne_ty ty13 ty10 (by decide))
  have ty15 := xl6.ty ty9
  have ty16 := ty_rt ty15 hcr3 (ne_ty ty15 ty10 (by decide))
  have ty17 := ty_rt exf3t hcr3 (ne_ty exf3t ty10 (by decide))
  have tqr3 : ty Lh3 clr3 qn3 6 := ⟨ty10.1, by rw [hcr3, va_up_self]; rfl⟩
  have hno3 := NW.no nw6 X6 (hnt 6 (by decide)) (by decide)
  have W11 := W10.retagU ty10.1 (by rw [ty10.2]; rfl) hcr3 (fun k => by
        rcases k with _ | _ | _ | k
        · exact ⟨(by show 6003 ≤ ivh3 qn3 0; omega), (by show ivh3 qn3 0 ≤ 6003; omega)⟩
        · exact W10.int ty10 1
        · exact ⟨(by show 0 ≤ ivh3 qn3 2; omega), (by show ivh3 qn3 2 ≤ 6003; omega)⟩
        · exact W10.int ty10 (k + 3)) (fun k => by
        rcases k with _ | _ | _ | k
        · rw [rn3 0 (by decide)]; exact rok_none tqr3 rfl
        · rw [exf3r]; exact rok_some tqr3 ty17 rfl (by decide) rfl
        · rw [rn3 2 (by decide)]; exact rok_none tqr3 rfl
        · rw [rn3 (k + 3) (by simp)]; exact rok_none tqr3 rfl) (fun z => by cases z) (fun _ b hb => by rw [exf3r] at hb; cases hb; exact Or.inr ⟨exf3t.1, by omega⟩) (fun z => by cases z) hno3
  have nw7 := nw6.rt hcr3
  have X7 := X6.rt hcr3 h0qn3
  have ctr3 : clr3 qn3 = 6 := by rw [hcr3]; exact va_up_self _ _ _
  refine c_putrF (x := (some qn3)) (k := 2) C ck_4 dX3_init_37 w1_196 (by decide) rfl rfl rfl ty12 rfl rfl (by decide) rfl (by rfl) (by rfl) (fun rv3 pq3 => ⟨89, (zp2 (Nat.le_refl _)), ?_⟩)
  have W12 := W11.putr pq3 ty12 (fun qr => by rw [ty12.2] at qr; cases qr) rfl (by decide)
  have F9 := F8.putr X7 pq3 ty12 rfl
  refine c_aload_n (j := 0) (x := a0) C dX3_init_40 rfl ?_
  refine c_new C ck_2 dv_2 ⟨rfl, rfl⟩ rfl (by decide) dX3_init_41 w1_187 w1_33 w1_2 (rom2 hph (Nat.le_refl 0) (by decide)) (fun qn4 cln4 lnn4 ivn4 rvn4 hqn4 hcn4 hln4 hin4 hrn4 => ⟨108, (z_in (by omega)), ?_⟩)
  refine c_g0 C (fun hg4 => ?_)
  have hxn4 : ∀ b, b ≠ qn4 → lnn4 b = lnh3 b := (fun b _ => by rw [hln4])
  have W13 := W12.new (ln2 := lnn4) hqn4 (hg4 qn4 (List.mem_append_right _ List.mem_cons_self)) hcn4 hxn4 hin4 hrn4 (fun _ => ⟨(show (-2147483648 : Int) ≤ 0 by decide), (show (0 : Int) ≤ 2147483647 by decide)⟩) (Or.inl rfl) (fun q => by cases q) rfl rfl
  have xl7 := XT.new hqn4 hcn4 hxn4
  have X8 := X7.trans xl7
  have F10 := F9.new X7 hqn4 hin4 hrn4
  have nw8 := nw7.new xl7 hcn4
  have tqn4 : ty (Lh3 ++ [qn4]) cln4 qn4 202 := ty_new hcn4
  have h0qn4 : qn4 ∉ L := fun h => hqn4 ((X7 qn4 h).1)
  refine c_dup C dX3_init_44 rfl ?_
  refine c_sipush (z := 6003) C dX3_init_45 (by decide) ?_
  refine c_callI (As := [.int (iI 6003)]) (rest := [.ref qn4, .ref a0]) C hM (Y_ints_7 (a0 := qn4) (i := 6003) W13  tqn4 ⟨by decide, by decide⟩ ) dX3_init_48 kI_X3_23 rfl rfl (Nat.le_of_ble_eq_true rfl) ⟨(Nat.le_of_ble_eq_true rfl), (Nat.le_of_ble_eq_true rfl)⟩ (rz0 hph (by decide)) (fun rh4 Lh4 clh4 lnh4 ivh4 rvh4 h4 => ⟨140, zk0, ?_⟩)
  obtain ⟨rfl, xl8, fl4, W14, exf4, nxh4⟩ := h4
  have F11 := F10.call X8 fl4 rfl
  have ty18 := xl7.ty ty12
  have ty19 := xl7.ty ty14
  have ty20 := xl7.ty ty16
  have ty21 := xl7.ty tqr3
  have ty22 := xl7.ty ty17
  have X9 := X8.trans xl8
  have nw9 := nw8.call xl8 nxh4
  refine c_st (st2 := [.ref qn4, .ref a0]) rfl ?_
  obtain ⟨bexf4, exf4x, exf4r, exf4t, exf4l, exf4i, exf4j⟩ := exf4
  have rn4 : ∀ k, ([1] : List Nat).contains k = false → rvh4 qn4 k = none := fun k hk => (Eq.trans (show rvh4 qn4 k = rvn4 qn4 k from (exf4x k hk)) (show rvn4 qn4 k = none from (by rw [hrn4]; exact up0_s)))
  have ty23 := xl8.ty tqn4
  refine c_retag (q := qn4) (t := 7) (by rw [ty23.2]; rfl) (fun clr4 hcr4 => ?_)
  have ty24 := xl8.ty ty18
  have ty25 := ty_rt ty24 hcr4 (ne_ty ty24 ty23 (by decide))
  have ty26 := xl8.ty ty19
  have ty27 := ty_rt ty26 hcr4 (ne_ty ty26 ty23 (by decide))
  have ty28 := xl8.ty ty20
  have ty29 := ty_rt ty28 hcr4 (ne_ty ty28 ty23 (by decide))
  have ty30 := xl8.ty ty21
  have ty31 := ty_rt ty30 hcr4 (ne_ty ty30 ty23 (by decide))
  have ty32 := xl8.ty ty22
  have ty33 := ty_rt ty32 hcr4 (ne_ty ty32 ty23 (by decide))
  have ty34 := ty_rt exf4t hcr4 (ne_ty exf4t ty23 (by decide))
  have tqr4 : ty Lh4 clr4 qn4 7 := ⟨ty23.1, by rw [hcr4, va_up_self]; rfl⟩
  have hno4 := NW.no nw9 X9 (hnt 7 (by decide)) (by decide)
  have W15 := W14.retagU ty23.1 (by rw [ty23.2]; rfl) hcr4 (fun k => by
        rcases k with _ | _ | _ | k
        · exact ⟨(by show 6003 ≤ ivh4 qn4 0; omega), (by show ivh4 qn4 0 ≤ 6003; omega)⟩
        · exact W14.int ty23 1
        · exact ⟨(by show 0 ≤ ivh4 qn4 2; omega), (by show ivh4 qn4 2 ≤ 6003; omega)⟩
        · exact W14.int ty23 (k + 3)) (fun k => by
        rcases k with _ | _ | _ | k
        · rw [rn4 0 (by decide)]; exact rok_none tqr4 rfl
        · rw [exf4r]; exact rok_some tqr4 ty34 rfl (by decide) rfl
        · rw [rn4 2 (by decide)]; exact rok_none tqr4 rfl
        · rw [rn4 (k + 3) (by simp)]; exact rok_none tqr4 rfl) (fun z => by cases z) (fun _ b hb => by rw [exf4r] at hb; cases hb; exact Or.inr ⟨exf4t.1, by omega⟩) (fun z => by cases z) hno4
  have nw10 := nw9.rt hcr4
  have X10 := X9.rt hcr4 h0qn4
  have ctr4 : clr4 qn4 = 7 := by rw [hcr4]; exact va_up_self _ _ _
  refine c_putrF (x := (some qn4)) (k := 3) C ck_4 dX3_init_51 w1_197 (by decide) rfl rfl rfl ty25 rfl rfl (by decide) rfl (by rfl) (by rfl) (fun rv4 pq4 => ⟨140, (zp2 (Nat.le_refl _)), ?_⟩)
  have W16 := W15.putr pq4 ty25 (fun qr => by rw [ty25.2] at qr; cases qr) rfl (by decide)
  have F12 := F11.putr X10 pq4 ty25 rfl
  refine c_aload_n (j := 0) (x := a0) C dX3_init_54 rfl ?_
  refine c_new C ck_2 dv_2 ⟨rfl, rfl⟩ rfl (by decide) dX3_init_55 w1_187 w1_33 w1_2 (rom2 hph (Nat.le_refl 0) (by decide)) (fun qn5 cln5 lnn5 ivn5 rvn5 hqn5 hcn5 hln5 hin5 hrn5 => ⟨159, (z_in (by omega)), ?_⟩)
  refine c_g0 C (fun hg5 => ?_)
  have hxn5 : ∀ b, b ≠ qn5 → lnn5 b = lnh4 b := (fun b _ => by rw [hln5])
  have W17 := W16.new (ln2 := lnn5) hqn5 (hg5 qn5 (List.mem_append_right _ List.mem_cons_self)) hcn5 hxn5 hin5 hrn5 (fun _ => ⟨(show (-2147483648 : Int) ≤ 0 by decide), (show (0 : Int) ≤ 2147483647 by decide)⟩) (Or.inl rfl) (fun q => by cases q) rfl rfl
  have xl9 := XT.new hqn5 hcn5 hxn5
  have X11 := X10.trans xl9
  have F13 := F12.new X10 hqn5 hin5 hrn5
  have nw11 := nw10.new xl9 hcn5
  have tqn5 : ty (Lh4 ++ [qn5]) cln5 qn5 202 := ty_new hcn5
  have h0qn5 : qn5 ∉ L := fun h => hqn5 ((X10 qn5 h).1)
  refine c_dup C dX3_init_58 rfl ?_
  refine c_ldc (z := 40200) C dX3_init_59 w1_189 rfl ?_
  refine c_callI (As := [.int (iI 40200)]) (rest := [.ref qn5, .ref a0]) C hM (Y_ints_8 (a0 := qn5) (i := 40200) W17  tqn5 ⟨by decide, by decide⟩ ) dX3_init_61 kI_X3_23 rfl rfl (Nat.le_of_ble_eq_true rfl) ⟨(Nat.le_of_ble_eq_true rfl), (Nat.le_of_ble_eq_true rfl)⟩ (rz0 hph (by decide)) (fun rh5 Lh5 clh5 lnh5 ivh5 rvh5 h5 => ⟨191, zk0, ?_⟩)
  obtain ⟨rfl, xl10, fl5, W18, exf5, nxh5⟩ := h5
  have F14 := F13.call X11 fl5 rfl
  have ty35 := xl9.ty ty25
  have ty36 := xl9.ty ty27
  have ty37 := xl9.ty ty29
  have ty38 := xl9.ty ty31
  have ty39 := xl9.ty ty33
  have ty40 := xl9.ty tqr4
  have ty41 := xl9.ty ty34
  have X12 := X11.trans xl10
  have nw12 := nw11.call xl10 nxh5
  refine c_st (st2 := [.ref qn5, .ref a0]) rfl ?_
  obtain ⟨bexf5, exf5x, exf5r, exf5t, exf5l, exf5i, exf5j⟩ := exf5
  have rn5 : ∀ k, ([1] : List Nat).contains k = false → rvh5 qn5 k = none := fun k hk => (Eq.trans (show rvh5 qn5 k = rvn5 qn5 k from (exf5x k hk)) (show rvn5 qn5 k = none from (by rw [hrn5]; exact up0_s)))
  have ty42 := xl10.ty tqn5
  refine c_retag (q := qn5) (t := 8) (by rw [ty42.2]; rfl) (fun clr5 hcr5 => ?_)
  have ty43 := xl10.ty ty35
  have ty44 := ty_rt ty43 hcr5 (ne_ty ty43 ty42 (by decide))
  have ty45 := xl10.ty ty36
  have ty46 := ty_rt ty45 hcr5 (ne_ty ty45 ty42 (by decide))
  have ty47 := xl10.ty ty37
  have ty48 := ty_rt ty47 hcr5 (ne_ty ty47 ty42 (by decide))
  have ty49 := xl10.ty ty38
  have ty50 := ty_rt ty49 hcr5 (ne_ty ty49 ty42 (by decide))
  have ty51 := xl10.ty ty39
  have ty52 := ty_rt ty51 hcr5 (ne_ty ty51 ty42 (by decide))
  have ty53 := xl10.ty ty40
  have ty54 := ty_rt ty53 hcr5 (ne_ty ty53 ty42 (by decide))
  have ty55 := xl10.ty ty41
  have ty56 := ty_rt ty55 hcr5 (ne_ty ty55 ty42 (by decide))
  have ty57 := ty_rt exf5t hcr5 (ne_ty exf5t ty42 (by decide))
  have tqr5 : ty Lh5 clr5 qn5 8 := ⟨ty42.1, by rw [hcr5, va_up_self]; rfl⟩
  have hno5 := NW.no nw12 X12 (hnt 8 (by decide)) (by decide)
  have W19 := W18.retagU ty42.1 (by rw [ty42.2]; rfl) hcr5 (fun k => by
        rcases k with _ | _ | _ | k
        · exact ⟨(by show 40200 ≤ ivh5 qn5 0; omega), (by show ivh5 qn5 0 ≤ 40200; omega)⟩
        · exact W18.int ty42 1
        · exact ⟨(by show 0 ≤ ivh5 qn5 2; omega), (by show ivh5 qn5 2 ≤ 40200; omega)⟩
        · exact W18.int ty42 (k + 3)) (fun k => by
        rcases k with _ | _ | _ | k
        · rw [rn5 0 (by decide)]; exact rok_none tqr5 rfl
        · rw [exf5r]; exact rok_some tqr5 ty57 rfl (by decide) rfl
        · rw [rn5 2 (by decide)]; exact rok_none tqr5 rfl
        · rw [rn5 (k + 3) (by simp)]; exact rok_none tqr5 rfl) (fun z => by cases z) (fun _ b hb => by rw [exf5r] at hb; cases hb; exact Or.inr ⟨exf5t.1, by omega⟩) (fun z => by cases z) hno5
  have nw13 := nw12.rt hcr5
  have X13 := X12.rt hcr5 h0qn5
  have ctr5 : clr5 qn5 = 8 := by rw [hcr5]; exact va_up_self _ _ _
  refine c_putrF (x := (some qn5)) (k := 4) C ck_4 dX3_init_64 w1_198 (by decide) rfl rfl rfl ty44 rfl rfl (by decide) rfl (by rfl) (by rfl) (fun rv5 pq5 => ⟨191, (zp2 (Nat.le_refl _)), ?_⟩)
  have W20 := W19.putr pq5 ty44 (fun qr => by rw [ty44.2] at qr; cases qr) rfl (by decide)
  have F15 := F14.putr X13 pq5 ty44 rfl
  refine c_aload_n (j := 0) (x := a0) C dX3_init_67 rfl ?_
  refine c_new C ck_2 dv_2 ⟨rfl, rfl⟩ rfl (by decide) dX3_init_68 w1_187 w1_33 w1_2 (rom2 hph (Nat.le_refl 0) (by decide)) (fun qn6 cln6 lnn6 ivn6 rvn6 hqn6 hcn6 hln6 hin6 hrn6 => ⟨210, (z_in (by omega)), ?_⟩)
  refine c_g0 C (fun hg6 => ?_)
  have hxn6 : ∀ b, b ≠ qn6 → lnn6 b = lnh5 b := (fun b _ => by rw [hln6])
  have W21 := W20.new (ln2 := lnn6) hqn6 (hg6 qn6 (List.mem_append_right _ List.mem_cons_self)) hcn6 hxn6 hin6 hrn6 (fun _ => ⟨(show (-2147483648 : Int) ≤ 0 by decide), (show (0 : Int) ≤ 2147483647 by decide)⟩) (Or.inl rfl) (fun q => by cases q) rfl rfl
  have xl11 := XT.new hqn6 hcn6 hxn6
  have X14 := X13.trans xl11
  have F16 := F15.new X13 hqn6 hin6 hrn6
  have nw14 := nw13.new xl11 hcn6
  have tqn6 : ty (Lh5 ++ [qn6]) cln6 qn6 202 := ty_new hcn6
  have h0qn6 : qn6 ∉ L := fun h => hqn6 ((X13 qn6 h).1)
  refine c_dup C dX3_init_71 rfl ?_
  refine c_ldc (z := 40200) C dX3_init_72 w1_189 rfl ?_
  refine c_callI (As := [.int (iI 40200)]) (rest := [.ref qn6, .ref a0]) C hM (Y_ints_9 (a0 := qn6) (i := 40200) W21  tqn6 ⟨by decide, by decide⟩ ) dX3_init_74 kI_X3_23 rfl rfl (Nat.le_of_ble_eq_true rfl) ⟨(Nat.le_of_ble_eq_true rfl), (Nat.le_of_ble_eq_true rfl)⟩ (rz0 hph (by decide)) (fun rh6 Lh6 clh6 lnh6 ivh6 rvh6 h6 => ⟨242, zk0, ?_⟩)
  obtain ⟨rfl, xl12, fl6, W22, exf6, nxh6⟩ := h6
  have F17 := F16.call X14 fl6 rfl
  have ty58 := xl11.ty ty44
  have ty59 := xl11.ty ty46
  have ty60 := xl11.ty ty48
  have ty61 := xl11.ty ty50
  have ty62 := xl11.ty ty52
  have ty63 := xl11.ty ty54
  have ty64 := xl11.ty ty56
  have ty65 := xl11.ty tqr5
  have ty66 := xl11.ty ty57
  have X15 := X14.trans xl12
  have nw15 := nw14.call xl12 nxh6
  refine c_st (st2 := [.ref qn6, .ref a0]) rfl ?_
  obtain ⟨bexf6, exf6x, exf6r, exf6t, exf6l, exf6i, exf6j⟩ := exf6
  have rn6 : ∀ k, ([1] : List Nat).contains k = false → rvh6 qn6 k = none := fun k hk => (Eq.trans (show rvh6 qn6 k = rvn6 qn6 k from (exf6x k hk)) (show rvn6 qn6 k = none from (by rw [hrn6]; exact up0_s)))
  have ty67 := xl12.ty tqn6
  refine c_retag (q := qn6) (t := 9) (by rw [ty67.2]; rfl) (fun clr6 hcr6 => ?_)
  have ty68 := xl12.ty ty58
  have ty69 := ty_rt ty68 hcr6 (ne_ty ty68 ty67 (by decide))
  have ty70 := xl12.ty ty59
  have ty71 := ty_rt ty70 hcr6 (ne_ty ty70 ty67 (by decide))
  have ty72 := xl12.ty ty60
  have ty73 := ty_rt ty72 hcr6 (ne_ty ty72 ty67 (by decide))
  have ty74 := xl12.ty ty61
  have ty75 := ty_rt ty74 hcr6 (ne_ty ty74 ty67 (by decide))
  have ty76 := xl12.ty ty62
  have ty77 := ty_rt ty76 hcr6 (ne_ty ty76 ty67 (by decide))
  have ty78 := xl12.ty ty63
  have ty79 := ty_rt ty78 hcr6 (ne_ty ty78 ty67 (by decide))
  have ty80 := xl12.ty ty64
  have ty81 := ty_rt ty80 hcr6 (ne_ty ty80 ty67 (by decide))
  have ty82 := xl12.ty ty65
  have ty83 := ty_rt ty82 hcr6 (ne_ty ty82 ty67 (by decide))
  have ty84 := xl12.ty ty66
  have ty85 := ty_rt ty84 hcr6 (ne_ty ty84 ty67 (by decide))
  have ty86 := ty_rt exf6t hcr6 (ne_ty exf6t ty67 (by decide))
  have tqr6 : ty Lh6 clr6 qn6 9 := ⟨ty67.1, by rw [hcr6, va_up_self]; rfl⟩
  have hno6 := NW.no nw15 X15 (hnt 9 (by decide)) (by decide)
  have W23 := W22.retagU ty67.1 (by rw [ty67.2]; rfl) hcr6 (fun k => by
        rcases k with _ | _ | _ | k
        · exact ⟨(by show 40200 ≤ ivh6 qn6 0; omega), (by show ivh6 qn6 0 ≤ 40200; omega)⟩
        · exact W22.int ty67 1
        · exact ⟨(by show 0 ≤ ivh6 qn6 2; omega), (by show ivh6 qn6 2 ≤ 40200; omega)⟩
        · exact W22.int ty67 (k + 3)) (fun k => by
        rcases k with _ | _ | _ | k
        · rw [rn6 0 (by decide)]; exact rok_none tqr6 rfl
        · rw [exf6r]; exact rok_some tqr6 ty86 rfl (by decide) rfl
        · rw [rn6 2 (by decide)]; exact rok_none tqr6 rfl
        · rw [rn6 (k + 3) (by simp)]; exact rok_none tqr6 rfl) (fun z => by cases z) (fun _ b hb => by rw [exf6r] at hb; cases hb; exact Or.inr ⟨exf6t.1, by omega⟩) (fun z => by cases z) hno6
  have nw16 := nw15.rt hcr6
  have X16 := X15.rt hcr6 h0qn6
  have ctr6 : clr6 qn6 = 9 := by rw [hcr6]; exact va_up_self _ _ _
  refine c_putrF (x := (some qn6)) (k := 5) C ck_4 dX3_init_77 w1_199 (by decide) rfl rfl rfl ty69 rfl rfl (by decide) rfl (by rfl) (by rfl) (fun rv6 pq6 => ⟨242, (zp2 (Nat.le_refl _)), ?_⟩)
  have W24 := W23.putr pq6 ty69 (fun qr => by rw [ty69.2] at qr; cases qr) rfl (by decide)
  have F18 := F17.putr X16 pq6 ty69 rfl
  refine c_aload_n (j := 0) (x := a0) C dX3_init_80 rfl ?_
  refine c_new C ck_2 dv_2 ⟨rfl, rfl⟩ rfl (by decide) dX3_init_81 w1_187 w1_33 w1_2 (rom2 hph (Nat.le_refl 0) (by decide)) (fun qn7 cln7 lnn7 ivn7 rvn7 hqn7 hcn7 hln7 hin7 hrn7 => ⟨261, (z_in (by omega)), ?_⟩)
  refine c_g0 C (fun hg7 => ?_)
  have hxn7 : ∀ b, b ≠ qn7 → lnn7 b = lnh6 b := (fun b _ => by rw [hln7])
  have W25 := W24.new (ln2 := lnn7) hqn7 (hg7 qn7 (List.mem_append_right _ List.mem_cons_self)) hcn7 hxn7 hin7 hrn7 (fun _ => ⟨(show (-2147483648 : Int) ≤ 0 by decide), (show (0 : Int) ≤ 2147483647 by decide)⟩) (Or.inl rfl) (fun q => by cases q) rfl rfl
  have xl13 := XT.new hqn7 hcn7 hxn7
  have X17 := X16.trans xl13
  have F19 := F18.new X16 hqn7 hin7 hrn7
  have nw17 := nw16.new xl13 hcn7
  have tqn7 : ty (Lh6 ++ [qn7]) cln7 qn7 202 := ty_new hcn7
  have h0qn7 : qn7 ∉ L := fun h => hqn7 ((X16 qn7 h).1)
  refine c_dup C dX3_init_84 rfl ?_
  refine c_sipush (z := 4001) C dX3_init_85 (by decide) ?_
  refine c_callI (As := [.int (iI 4001)]) (rest := [.ref qn7, .ref a0]) C hM (Y_ints_10 (a0 := qn7) (i := 4001) W25  tqn7 ⟨by decide, by decide⟩ ) dX3_init_88 kI_X3_23 rfl rfl (Nat.le_of_ble_eq_true rfl) ⟨(Nat.le_of_ble_eq_true rfl), (Nat.le_of_ble_eq_true rfl)⟩ (rz0 hph (by decide)) (fun rh7 Lh7 clh7 lnh7 ivh7 rvh7 h7 => ⟨293, zk0, ?_⟩)
  obtain ⟨rfl, xl14, fl7, W26, exf7, nxh7⟩ := h7
  have F20 := F19.call X17 fl7 rfl
  have ty87 := xl13.ty ty69
  have ty88 := xl13.ty ty71
  have ty89 := xl13.ty ty73
  have ty90 := xl13.ty ty75
  have ty91 := xl13.ty ty77
  have ty92 := xl13.ty ty79
  have ty93 := xl13.ty ty81
  have ty94 := xl13.ty ty83
  have ty95 := xl13.ty ty85
  have ty96 := xl13.ty tqr6
  have ty97 := xl13.ty ty86
  have X18 := X17.trans xl14
  have nw18 := nw17.call xl14 nxh7
  refine c_st (st2 := [.ref qn7, .ref a0]) rfl ?_
  obtain ⟨bexf7, exf7x, exf7r, exf7t, exf7l, exf7i, exf7j⟩ := exf7
  have rn7 : ∀ k, ([1] : List Nat).contains k = false → rvh7 qn7 k = none := fun k hk => (Eq.trans (show rvh7 qn7 k = rvn7 qn7 k from (exf7x k hk)) (show rvn7 qn7 k = none from (by rw [hrn7]; exact up0_s)))
  have ty98 := xl14.ty tqn7
  refine c_retag (q := qn7) (t := 10) (by rw [ty98.2]; rfl) (fun clr7 hcr7 => ?_)
  have ty99 := xl14.ty ty87
  have ty100 := ty_rt ty99 hcr7 (ne_ty ty99 ty98 (by decide))
  have ty101 := xl14.ty ty88
  have ty102 := ty_rt ty101 hcr7 (ne_ty ty101 ty98 (by decide))
  have ty103 := xl14.ty ty89
  have ty104 := ty_rt ty103 hcr7 (ne_ty ty103 ty98 (by decide))
  have ty105 := xl14.ty ty90
  have ty106 := ty_rt ty105 hcr7 (ne_ty ty105 ty98 (by decide))
  have ty107 := xl14.ty ty91
  have ty108 := ty_rt ty107 hcr7 (ne_ty ty107 ty98 (by decide))
  have ty109 := xl14.ty ty92
  have ty110 := ty_rt ty109 hcr7 (ne_ty ty109 ty98 (by decide))
  have ty111 := xl14.ty ty93
  have ty112 := ty_rt ty111 hcr7 (ne_ty ty111 ty98 (by decide))
  have ty113 := xl14.ty ty94
  have ty114 := ty_rt ty113 hcr7 (ne_ty ty113 ty98 (by decide))
  have ty115 := xl14.ty ty95
  have ty116 := ty_rt ty115 hcr7 (ne_ty ty115 ty98 (by decide))
  have ty117 := xl14.ty ty96
  have ty118 := ty_rt ty117 hcr7 (ne_ty ty117 ty98 (by decide))
  have ty119 := xl14.ty ty97
  have ty120 := ty_rt ty119 hcr7 (ne_ty ty119 ty98 (by decide))
  have ty121 := ty_rt exf7t hcr7 (ne_ty exf7t ty98 (by decide))
  have tqr7 : ty Lh7 clr7 qn7 10 := ⟨ty98.1, by rw [hcr7, va_up_self]; rfl⟩
  have hno7 := NW.no nw18 X18 (hnt 10 (by decide)) (by decide)
  have W27 := W26.retagU ty98.1 (by rw [ty98.2]; rfl) hcr7 (fun k => by
        rcases k with _ | _ | _ | k
        · exact ⟨(by show 4001 ≤ ivh7 qn7 0; omega), (by show ivh7 qn7 0 ≤ 4001; omega)⟩
        · exact W26.int ty98 1
        · exact ⟨(by show 0 ≤ ivh7 qn7 2; omega), (by show ivh7 qn7 2 ≤ 4001; omega)⟩
        · exact W26.int ty98 (k + 3)) (fun k => by
        rcases k with _ | _ | _ | k
        · rw [rn7 0 (by decide)]; exact rok_none tqr7 rfl
        · rw [exf7r]; exact rok_some tqr7 ty121 rfl (by decide) rfl
        · rw [rn7 2 (by decide)]; exact rok_none tqr7 rfl
        · rw [rn7 (k + 3) (by simp)]; exact rok_none tqr7 rfl) (fun z => by cases z) (fun _ b hb => by rw [exf7r] at hb; cases hb; exact Or.inr ⟨exf7t.1, by omega⟩) (fun z => by cases z) hno7
  have nw19 := nw18.rt hcr7
  have X19 := X18.rt hcr7 h0qn7
  have ctr7 : clr7 qn7 = 10 := by rw [hcr7]; exact va_up_self _ _ _
  refine c_putrF (x := (some qn7)) (k := 6) C ck_4 dX3_init_91 w1_200 (by decide) rfl rfl rfl ty100 rfl rfl (by decide) rfl (by rfl) (by rfl) (fun rv7 pq7 => ⟨293, (zp2 (Nat.le_refl _)), ?_⟩)
  have W28 := W27.putr pq7 ty100 (fun qr => by rw [ty100.2] at qr; cases qr) rfl (by decide)
  have F21 := F20.putr X19 pq7 ty100 rfl
  refine c_aload_n (j := 0) (x := a0) C dX3_init_94 rfl ?_
  refine c_iconst C dX3_init_95 ?_
  refine c_put (z := 0) (k := 7) C ck_4 dX3_init_96 w1_202 (by decide) rfl ty100 rfl rfl (by decide) rfl (by rfl) (by rfl) (fun iv1 pq8 => ?_)
  have W29 := W28.puti pq8 ty100 ⟨by decide, by decide⟩ rfl
  have F22 := F21.puti X19 pq8 ty100 rfl
  have rp1 : rv1 a0 0 = (some qn1) := by rw [pq1]; exact upr_s
  have re1 : rvn2 a0 0 = rv1 a0 0 := (by rw [hrn2]; exact congrFun (up0_a (ne_in ty2.1 hqn2)) _)
  rw [rp1] at re1
  have re2 : rvh2 a0 0 = rvn2 a0 0 := (fl2.r ty3 rfl 0)
  rw [re1] at re2
  have re3 : rv2 a0 0 = rvh2 a0 0 := (by rw [pq2]; exact upr_j (by decide))
  rw [re2] at re3
  have re4 : rvn3 a0 0 = rv2 a0 0 := (by rw [hrn3]; exact congrFun (up0_a (ne_in ty4.1 hqn3)) _)
  rw [re3] at re4
  have re5 : rvh3 a0 0 = rvn3 a0 0 := (fl3.r ty7 rfl 0)
  rw [re4] at re5
  have re6 : rv3 a0 0 = rvh3 a0 0 := (by rw [pq3]; exact upr_j (by decide))
  rw [re5] at re6
  have re7 : rvn4 a0 0 = rv3 a0 0 := (by rw [hrn4]; exact congrFun (up0_a (ne_in ty12.1 hqn4)) _)
  rw [re6] at re7
  have re8 : rvh4 a0 0 = rvn4 a0 0 := (fl4.r ty18 rfl 0)
  rw [re7] at re8
  have re9 : rv4 a0 0 = rvh4 a0 0 := (by rw [pq4]; exact upr_j (by decide))
  rw [re8] at re9
  have re10 : rvn5 a0 0 = rv4 a0 0 := (by rw [hrn5]; exact congrFun (up0_a (ne_in ty25.1 hqn5)) _)
  rw [re9] at re10
  have re11 : rvh5 a0 0 = rvn5 a0 0 := (fl5.r ty35 rfl 0)
  rw [re10] at re11
  have re12 : rv5 a0 0 = rvh5 a0 0 := (by rw [pq5]; exact upr_j (by decide))
  rw [re11] at re12
  have re13 : rvn6 a0 0 = rv5 a0 0 := (by rw [hrn6]; exact congrFun (up0_a (ne_in ty44.1 hqn6)) _)
  rw [re12] at re13
  have re14 : rvh6 a0 0 = rvn6 a0 0 := (fl6.r ty58 rfl 0)
  rw [re13] at re14
  have re15 : rv6 a0 0 = rvh6 a0 0 := (by rw [pq6]; exact upr_j (by decide))
  rw [re14] at re15
  have re16 : rvn7 a0 0 = rv6 a0 0 := (by rw [hrn7]; exact congrFun (up0_a (ne_in ty69.1 hqn7)) _)
  rw [re15] at re16
  have re17 : rvh7 a0 0 = rvn7 a0 0 := (fl7.r ty87 rfl 0)
  rw [re16] at re17
  have re18 : rv7 a0 0 = rvh7 a0 0 := (by rw [pq7]; exact upr_j (by decide))
  rw [re17] at re18
  have rp2 : rv2 a0 1 = (some qn2) := by rw [pq2]; exact upr_s
  have re19 : rvn3 a0 1 = rv2 a0 1 := (by rw [hrn3]; exact congrFun (up0_a (ne_in ty4.1 hqn3)) _)
  rw [rp2] at re19
  have re20 : rvh3 a0 1 = rvn3 a0 1 := (fl3.r ty7 rfl 1)
  rw [re19] at re20
  have re21 : rv3 a0 1 = rvh3 a0 1 := (by rw [pq3]; exact upr_j (by decide))
  rw [re20] at re21
  have re22 : rvn4 a0 1 = rv3 a0 1 := (by rw [hrn4]; exact congrFun (up0_a (ne_in ty12.1 hqn4)) _)
  rw [re21] at re22
  have re23 : rvh4 a0 1 = rvn4 a0 1 := (fl4.r ty18 rfl 1)
  rw [re22] at re23
  have re24 : rv4 a0 1 = rvh4 a0 1 := (by rw [pq4]; exact upr_j (by decide))
  rw [re23] at re24
  have re25 : rvn5 a0 1 = rv4 a0 1 := (by rw [hrn5]; exact congrFun (up0_a (ne_in ty25.1 hqn5)) _)
  rw [re24] at re25
  have re26 : rvh5 a0 1 = rvn5 a0 1 := (fl5.r ty35 rfl 1)
  rw [re25] at re26
  have re27 : rv5 a0 1 = rvh5 a0 1 := (by rw [pq5]; exact upr_j (by decide))
  rw [re26] at re27
  have re28 : rvn6 a0 1 = rv5 a0 1 := (by rw [hrn6]; exact congrFun (up0_a (ne_in ty44.1 hqn6)) _)
  rw [re27] at re28
  have re29 : rvh6 a0 1 = rvn6 a0 1 := (fl6.r ty58 rfl 1)
  rw [re28] at re29
  have re30 : rv6 a0 1 = rvh6 a0 1 := (by rw [pq6]; exact upr_j (by decide))
  rw [re29] at re30
  have re31 : rvn7 a0 1 = rv6 a0 1 := (by rw [hrn7]; exact congrFun (up0_a (ne_in ty69.1 hqn7)) _)
  rw [re30] at re31
  have re32 : rvh7 a0 1 = rvn7 a0 1 := (fl7.r ty87 rfl 1)
  rw [re31] at re32
  have re33 : rv7 a0 1 = rvh7 a0 1 := (by rw [pq7]; exact upr_j (by decide))
  rw [re32] at re33
  have rp3 : rv3 a0 2 = (some qn3) := by rw [pq3]; exact upr_s
  have re34 : rvn4 a0 2 = rv3 a0 2 := (by rw [hrn4]; exact congrFun (up0_a (ne_in ty12.1 hqn4)) _)
  rw [rp3] at re34
  have re35 : rvh4 a0 2 = rvn4 a0 2 := (fl4.r ty18 rfl 2)
  rw [re34] at re35
  have re36 : rv4 a0 2 = rvh4 a0 2 := (by rw [pq4]; exact upr_j (by decide))
  rw [re35] at re36
  have re37 : rvn5 a0 2 = rv4 a0 2 := (by rw [hrn5]; exact congrFun (up0_a (ne_in ty25.1 hqn5)) _)
  rw [re36] at re37
  have re38 : rvh5 a0 2 = rvn5 a0 2 := (fl5.r ty35 rfl 2)
  rw [re37] at re38
  have re39 : rv5 a0 2 = rvh5 a0 2 := (by rw [pq5]; exact upr_j (by decide))
  rw [re38] at re39
  have re40 : rvn6 a0 2 = rv5 a0 2 := (by rw [hrn6]; exact congrFun (up0_a (ne_in ty44.1 hqn6)) _)
  rw [re39] at re40
  have re41 : rvh6 a0 2 = rvn6 a0 2 := (fl6.r ty58 rfl 2)
  rw [re40] at re41
  have re42 : rv6 a0 2 = rvh6 a0 2 := (by rw [pq6]; exact upr_j (by decide))
  rw [re41] at re42
  have re43 : rvn7 a0 2 = rv6 a0 2 := (by rw [hrn7]; exact congrFun (up0_a (ne_in ty69.1 hqn7)) _)
  rw [re42] at re43
  have re44 : rvh7 a0 2 = rvn7 a0 2 := (fl7.r ty87 rfl 2)
  rw [re43] at re44
  have re45 : rv7 a0 2 = rvh7 a0 2 := (by rw [pq7]; exact upr_j (by decide))
  rw [re44] at re45
  have rp4 : rv4 a0 3 = (some qn4) := by rw [pq4]; exact upr_s
  have re46 : rvn5 a0 3 = rv4 a0 3 := (by rw [hrn5]; exact congrFun (up0_a (ne_in ty25.1 hqn5)) _)
  rw [rp4] at re46
  have re47 : rvh5 a0 3 = rvn5 a0 3 := (fl5.r ty35 rfl 3)
  rw [re46] at re47
  have re48 : rv5 a0 3 = rvh5 a0 3 := (by rw [pq5]; exact upr_j (by decide))
  rw [re47] at re48
  have re49 : rvn6 a0 3 = rv5 a0 3 := (by rw [hrn6]; exact congrFun (up0_a (ne_in ty44.1 hqn6)) _)
  rw [re48] at re49
  have re50 : rvh6 a0 3 = rvn6 a0 3 := (fl6.r ty58 rfl 3)
  rw [re49] at re50
  have re51 : rv6 a0 3 = rvh6 a0 3 := (by rw [pq6]; exact upr_j (by decide))
  rw [re50] at re51
  have re52 : rvn7 a0 3 = rv6 a0 3 := (by rw [hrn7]; exact congrFun (up0_a (ne_in ty69.1 hqn7)) _)
  rw [re51] at re52
  have re53 : rvh7 a0 3 = rvn7 a0 3 := (fl7.r ty87 rfl 3)
  rw [re52] at re53
  have re54 : rv7 a0 3 = rvh7 a0 3 := (by rw [pq7]; exact upr_j (by decide))
  rw [re53] at re54
  have rp5 : rv5 a0 4 = (some qn5) := by rw [pq5]; exact upr_s
  have re55 : rvn6 a0 4 = rv5 a0 4 := (by rw [hrn6]; exact congrFun (up0_a (ne_in ty44.1 hqn6)) _)
  rw [rp5] at re55
  have re56 : rvh6 a0 4 = rvn6 a0 4 := (fl6.r ty58 rfl 4)
  rw [re55] at re56
  have re57 : rv6 a0 4 = rvh6 a0 4 := (by rw [pq6]; exact upr_j (by decide))
  rw [re56] at re57
  have re58 : rvn7 a0 4 = rv6 a0 4 := (by rw [hrn7]; exact congrFun (up0_a (ne_in ty69.1 hqn7)) _)
  rw [re57] at re58
  have re59 : rvh7 a0 4 = rvn7 a0 4 := (fl7.r ty87 rfl 4)
  rw [re58] at re59
  have re60 : rv7 a0 4 = rvh7 a0 4 := (by rw [pq7]; exact upr_j (by decide))
  rw [re59] at re60
  have rp6 : rv6 a0 5 = (some qn6) := by rw [pq6]; exact upr_s
  have re61 : rvn7 a0 5 = rv6 a0 5 := (by rw [hrn7]; exact congrFun (up0_a (ne_in ty69.1 hqn7)) _)
  rw [rp6] at re61
  have re62 : rvh7 a0 5 = rvn7 a0 5 := (fl7.r ty87 rfl 5)
  rw [re61] at re62
  have re63 : rv7 a0 5 = rvh7 a0 5 := (by rw [pq7]; exact upr_j (by decide))
  rw [re62] at re63
  have rp7 : rv7 a0 6 = (some qn7) := by rw [pq7]; exact upr_s
  have rn8 : ∀ k, ([0, 1, 2, 3, 4, 5, 6] : List Nat).contains k = false → rv7 a0 k = rv a0 k := fun k hk => (Eq.trans (show rv7 a0 k = rvh7 a0 k from (by rw [pq7]; exact upr_j (fun e => by subst e; exact absurd hk (by decide)))) (Eq.trans (show rvh7 a0 k = rvn7 a0 k from (fl7.r ty87 rfl k)) (Eq.trans (show rvn7 a0 k = rv6 a0 k from (by rw [hrn7]; exact congrFun (up0_a (ne_in ty69.1 hqn7)) _)) (Eq.trans (show rv6 a0 k = rvh6 a0 k from (by rw [pq6]; exact upr_j (fun e => by subst e; exact absurd hk (by decide)))) (Eq.trans (show rvh6 a0 k = rvn6 a0 k from (fl6.r ty58 rfl k)) (Eq.trans (show rvn6 a0 k = rv5 a0 k from (by rw [hrn6]; exact congrFun (up0_a (ne_in ty44.1 hqn6)) _)) (Eq.trans (show rv5 a0 k = rvh5 a0 k from (by rw [pq5]; exact upr_j (fun e => by subst e; exact absurd hk (by decide)))) (Eq.trans (show rvh5 a0 k = rvn5 a0 k from (fl5.r ty35 rfl k)) (Eq.trans (show rvn5 a0 k = rv4 a0 k from (by rw [hrn5]; exact congrFun (up0_a (ne_in ty25.1 hqn5)) _)) (Eq.trans (show rv4 a0 k = rvh4 a0 k from (by rw [pq4]; exact upr_j (fun e => by subst e; exact absurd hk (by decide)))) (Eq.trans (show rvh4 a0 k = rvn4 a0 k from (fl4.r ty18 rfl k)) (Eq.trans (show rvn4 a0 k = rv3 a0 k from (by rw [hrn4]; exact congrFun (up0_a (ne_in ty12.1 hqn4)) _)) (Eq.trans (show rv3 a0 k = rvh3 a0 k from (by rw [pq3]; exact upr_j (fun e => by subst e; exact absurd hk (by decide)))) (Eq.trans (show rvh3 a0 k = rvn3 a0 k from (fl3.r ty7 rfl k)) (Eq.trans (show rvn3 a0 k = rv2 a0 k from (by rw [hrn3]; exact congrFun (up0_a (ne_in ty4.1 hqn3)) _)) (Eq.trans (show rv2 a0 k = rvh2 a0 k from (by rw [pq2]; exact upr_j (fun e => by subst e; exact absurd hk (by decide)))) (Eq.trans (show rvh2 a0 k = rvn2 a0 k from (fl2.r ty3 rfl k)) (Eq.trans (show rvn2 a0 k = rv1 a0 k from (by rw [hrn2]; exact congrFun (up0_a (ne_in ty2.1 hqn2)) _)) (Eq.trans (show rv1 a0 k = rvh1 a0 k from (by rw [pq1]; exact upr_j (fun e => by subst e; exact absurd hk (by decide)))) (Eq.trans (show rvh1 a0 k = rvn1 a0 k from (fl1.r ty1 rfl k)) (show rvn1 a0 k = rv a0 k from (by rw [hrn1]; exact congrFun (up0_a (ne_in t_a0.1 hqn1)) _))))))))))))))))))))))
  have ri5 : (-2147483648) ≤ iv1 a0 7 ∧ iv1 a0 7 ≤ 2147483647 := W29.int ty100 7
  have ie3 : iv1 a0 7 = 0 := by rw [pq8]; exact up2_s
  exact c_vret C dX3_init_99 rfl (by decide) (rom0 hph (Nat.le_refl 0) (by decide)) ⟨_, rfl, X19, F22, W29, ⟨qn1, qn2, qn3, qn4, qn5, qn6, qn7, rn8, re18, ty102, re33, ty104, re45, ty106, re54, ty110, re60, ty114, re63, ty118, rp7, tqr7, (by omega)⟩, nw19.sub (by decide)⟩
set_option maxHeartbeats 4000000 in
set_option maxRecDepth 100000 in
theorem Y_found {l : Launch} {G : GT} {mi : Nat} {sk : Nat → Nat} {L : List Nat} {cl ln : Nat → Nat} {iv : Nat → Nat → Int} {rv : Nat → Nat → Option Nat}  {a0 : Nat} {a1 : Nat} (hW : WT (g0 G) sk L cl ln iv rv) (hnt : ∀ t, ([11] : List Nat).contains t = true → ∀ a ∈ L, cl a ≠ t) (t_a0 : ty L cl a0 205) (t_a1 : ty L cl a1 16)  : Mc l G mi zPf 0 yX4_init cX4_init 2 none 4 [.ref a0, .ref a1] L cl ln iv rv 887 (fun v L2 cl2 ln2 iv2 rv2 => ∃ sk2, v = none ∧ XT L cl ln L2 cl2 ln2 ∧ fT [205, 202] L cl iv rv iv2 rv2 ∧ WT (g0 G) sk2 L2 cl2 ln2 iv2 rv2 ∧ (∃ b0 b1 b2 b3 b4 b8, (∀ k, ([0, 1, 2, 3, 4, 7, 8] : List Nat).contains k = false → rv2 a0 k = rv a0 k) ∧ rv2 a0 0 = some b0 ∧ ty L2 cl2 b0 59 ∧ rv2 a0 1 = some b1 ∧ ty L2 cl2 b1 60 ∧ rv2 a0 2 = some b2 ∧ ty L2 cl2 b2 61 ∧ rv2 a0 3 = some b3 ∧ ty L2 cl2 b3 62 ∧ rv2 a0 4 = some b4 ∧ ty L2 cl2 b4 11 ∧ rv2 a0 8 = some b8 ∧ ty L2 cl2 b8 63 ∧ iv2 a0 5 = 0 ∧ iv2 a0 6 = 0 ∧ iv2 a0 9 = 0 ∧ iv2 a0 10 = 0 ∧ rv2 a0 7 = some a1 ∧ iv2 b4 2 = 0) ∧ NW [59, 60, 61, 62, 63, 202, 11, 41] L L2 cl2) := by
  refine Mc.mk (by decide) (Nat.le_of_ble_eq_true rfl) ?_
  intro p e s m args below meth c A C hM
  have hph := (show zPf ln rv ≤ 0 from Nat.le_refl 0)
  have nw0 : NW [] L L cl := NW.refl
  have hX0 : XT L cl ln L cl ln := XT.refl
  have hF0 : fT [205, 202] L cl iv rv iv rv := fT.refl
  refine c_aload_n (j := 0) (x := a0) C dX4_init_0 rfl ?_
  refine c_objInit C dX4_init_1 w1_225 w1_30 w1_31 (by decide) (Nat.le_of_ble_eq_true rfl) ?_
  refine c_aload_n (j := 0) (x := a0) C dX4_init_4 rfl ?_
  refine c_sipush (z := 404) C dX4_init_5 (by decide) ?_
  refine c_newaZ (z := 404) (N := 404) C 59 dX4_init_8 w1_129 rfl (by omega) (by omega) (rom2 hph hph (by decide)) (fun qn1 cln1 lnn1 ivn1 rvn1 hqn1 hcn1 hln1 hin1 hrn1 => ⟨420, (z_in (by omega)), ?_⟩)
  refine c_g0 C (fun hg1 => ?_)
  have hxn1 : ∀ b, b ≠ qn1 → lnn1 b = ln b := (fun b hb => by rw [hln1]; exact va_up_ne _ _ hb)
  have lqn1 : lnn1 qn1 = 404 := by rw [hln1]; exact va_up_self _ _ _
  have W1 := hW.new (ln2 := lnn1) hqn1 (hg1 qn1 (List.mem_append_right _ List.mem_cons_self)) hcn1 hxn1 hin1 hrn1 (fun _ => ⟨(show (0 : Int) ≤ 0 by decide), (show (0 : Int) ≤ 1 by decide)⟩) (Or.inr (fun _ => rfl)) (fun _ => by show 404 ≤ lnn1 qn1 ∧ lnn1 qn1 ≤ 404; omega) rfl rfl
  have xl1 := XT.new hqn1 hcn1 hxn1
  have X1 := hX0.trans xl1
  have F1 := hF0.new hX0 hqn1 hin1 hrn1
  have nw1 := nw0.new xl1 hcn1
  have tqn1 : ty (L ++ [qn1]) cln1 qn1 59 := ty_new hcn1
  have h0qn1 : qn1 ∉ L := fun h => hqn1 ((hX0 qn1 h).1)
  have ty1 := xl1.ty t_a0
  refine c_putrF (x := (some qn1)) (k := 0) C ck_5 dX4_init_10 w1_229 (by decide) rfl rfl rfl ty1 rfl rfl (by decide) rfl (by rfl) (by rfl) (fun rv1 pq1 => ⟨420, (zp2 (Nat.le_refl _)), ?_⟩)
  have W2 := W1.putr pq1 ty1 (fun qr => by rw [ty1.2] at qr; cases qr) rfl (by decide)
  have F2 := F1.putr X1 pq1 ty1 rfl
  refine c_aload_n (j := 0) (x := a0) C dX4_init_13 rfl ?_
  refine c_bipush (z := 101) C dX4_init_14 (by decide) ?_
  have ty2 := xl1.ty t_a1
  refine c_newaI (z := 101) (N := 101) C 60 dX4_init_16 w1_57 rfl (by omega) (by omega) (rom2 hph (Nat.le_refl 0) (by decide)) (fun qn2 cln2 lnn2 ivn2 rvn2 hqn2 hcn2 hln2 hin2 hrn2 => ⟨537, (z_in (by omega)), ?_⟩)
  refine c_g0 C (fun hg2 => ?_)
  have hxn2 : ∀ b, b ≠ qn2 → lnn2 b = lnn1 b := (fun b hb => by rw [hln2]; exact va_up_ne _ _ hb)
  have lqn2 : lnn2 qn2 = 101 := by rw [hln2]; exact va_up_self _ _ _
  have W3 := W2.new (ln2 := lnn2) hqn2 (hg2 qn2 (List.mem_append_right _ List.mem_cons_self)) hcn2 hxn2 hin2 hrn2 (fun _ => ⟨(show (-2147483648 : Int) ≤ 0 by decide), (show (0 : Int) ≤ 2147483647 by decide)⟩) (Or.inr (fun _ => rfl)) (fun _ => by show 101 ≤ lnn2 qn2 ∧ lnn2 qn2 ≤ 101; omega) rfl rfl
  have xl2 := XT.new hqn2 hcn2 hxn2
  have X2 := X1.trans xl2
  have F3 := F2.new X1 hqn2 hin2 hrn2
  have nw2 := nw1.new xl2 hcn2
  have tqn2 : ty ((L ++ [qn1]) ++ [qn2]) cln2 qn2 60 := ty_new hcn2
  have h0qn2 : qn2 ∉ L := fun h => hqn2 ((X1 qn2 h).1)
  have ty3 := xl2.ty ty1
  refine c_putrF (x := (some qn2)) (k := 1) C ck_5 dX4_init_18 w1_230 (by decide) rfl rfl rfl ty3 rfl rfl (by decide) rfl (by rfl) (by rfl) (fun rv2 pq2 => ⟨537, (zp2 (Nat.le_refl _)), ?_⟩)
  have W4 := W3.putr pq2 ty3 (fun qr => by rw [ty3.2] at qr; cases qr) rfl (by decide)
  have F4 := F3.putr X2 pq2 ty3 rfl
  refine c_aload_n (j := 0) (x := a0) C dX4_init_21 rfl ?_
  refine c_bipush (z := 101) C dX4_init_22 (by decide) ?_
  have ty4 := xl2.ty ty2
  have ty5 := xl2.ty tqn1
  refine c_newaI (z := 101) (N := 101) C 61 dX4_init_24 w1_57 rfl (by omega) (by omega) (rom2 hph (Nat.le_refl 0) (by decide)) (fun qn3 cln3 lnn3 ivn3 rvn3 hqn3 hcn3 hln3 hin3 hrn3 => ⟨654, (z_in (by omega)), ?_⟩)
  refine c_g0 C (fun hg3 => ?_)
  have hxn3 : ∀ b, b ≠ qn3 → lnn3 b = lnn2 b := (fun b hb => by rw [hln3]; exact va_up_ne _ _ hb)
  have lqn3 : lnn3 qn3 = 101 := by rw [hln3]; exact va_up_self _ _ _
  have W5 := W4.new (ln2 := lnn3) hqn3 (hg3 qn3 (List.mem_append_right _ List.mem_cons_self)) hcn3 hxn3 hin3 hrn3 (fun _ => ⟨(show (-2147483648 : Int) ≤ 0 by decide), (show (0 : Int) ≤ 2147483647 by decide)⟩) (Or.inr (fun _ => rfl)) (fun _ => by show 101 ≤ lnn3 qn3 ∧ lnn3 qn3 ≤ 101; omega) rfl rfl
  have xl3 := XT.new hqn3 hcn3 hxn3
  have X3 := X2.trans xl3
  have F5 := F4.new X2 hqn3 hin3 hrn3
  have nw3 := nw2.new xl3 hcn3
  have tqn3 : ty (((L ++ [qn1]) ++ [qn2]) ++ [qn3]) cln3 qn3 61 := ty_new hcn3
  have h0qn3 : qn3 ∉ L := fun h => hqn3 ((X2 qn3 h).1)
  have ty6 := xl3.ty ty3
  refine c_putrF (x := (some qn3)) (k := 2) C ck_5 dX4_init_26 w1_231 (by decide) rfl rfl rfl ty6 rfl rfl (by decide) rfl (by rfl) (by rfl) (fun rv3 pq3 => ⟨654, (zp2 (Nat.le_refl _)), ?_⟩)
  have W6 := W5.putr pq3 ty6 (fun qr => by rw [ty6.2] at qr; cases qr) rfl (by decide)
  have F6 := F5.putr X3 pq3 ty6 rfl
  refine c_aload_n (j := 0) (x := a0) C dX4_init_29 rfl ?_
  refine c_bipush (z := 50) C dX4_init_30 (by decide) ?_
  have ty7 := xl3.ty ty4
  have ty8 := xl3.ty ty5
  have ty9 := xl3.ty tqn2
  refine c_newaI (z := 50) (N := 50) C 62 dX4_init_32 w1_57 rfl (by omega) (by omega) (rom2 hph (Nat.le_refl 0) (by decide)) (fun qn4 cln4 lnn4 ivn4 rvn4 hqn4 hcn4 hln4 hin4 hrn4 => ⟨720, (z_in (by omega)), ?_⟩)
  refine c_g0 C (fun hg4 => ?_)
  have hxn4 : ∀ b, b ≠ qn4 → lnn4 b = lnn3 b := (fun b hb => by rw [hln4]; exact va_up_ne _ _ hb)
  have lqn4 : lnn4 qn4 = 50 := by rw [hln4]; exact va_up_self _ _ _
  have W7 := W6.new (ln2 := lnn4) hqn4 (hg4 qn4 (List.mem_append_right _ List.mem_cons_self)) hcn4 hxn4 hin4 hrn4 (fun _ => ⟨(show (-2147483648 : Int) ≤ 0 by decide), (show (0 : Int) ≤ 2147483647 by decide)⟩) (Or.inr (fun _ => rfl)) (fun _ => by show 50 ≤ lnn4 qn4 ∧ lnn4 qn4 ≤ 50; omega) rfl rfl
  have xl4 := XT.new hqn4 hcn4 hxn4
  have X4 := X3.trans xl4
  have F7 := F6.new X3 hqn4 hin4 hrn4
  have nw4 := nw3.new xl4 hcn4
  have tqn4 : ty ((((L ++ [qn1]) ++ [qn2]) ++ [qn3]) ++ [qn4]) cln4 qn4 62 := ty_new hcn4
  have h0qn4 : qn4 ∉ L := fun h => hqn4 ((X3 qn4 h).1)
  have ty10 := xl4.ty ty6
  refine c_putrF (x := (some qn4)) (k := 3) C ck_5 dX4_init_34 w1_232 (by decide) rfl rfl rfl ty10 rfl rfl (by decide) rfl (by rfl) (by rfl) (fun rv4 pq4 => ⟨720, (zp2 (Nat.le_refl _)), ?_⟩)
  have W8 := W7.putr pq4 ty10 (fun qr => by rw [ty10.2] at qr; cases qr) rfl (by decide)
  have F8 := F7.putr X4 pq4 ty10 rfl
  refine c_aload_n (j := 0) (x := a0) C dX4_init_37 rfl ?_
  have ty11 := xl4.ty ty7
  have ty12 := xl4.ty ty8
  have ty13 := xl4.ty ty9
  have ty14 := xl4.ty tqn3
  refine c_new C ck_2 dv_2 ⟨rfl, rfl⟩ rfl (by decide) dX4_init_38 w1_226 w1_33 w1_2 (rom2 hph (Nat.le_refl 0) (by decide)) (fun qn5 cln5 lnn5 ivn5 rvn5 hqn5 hcn5 hln5 hin5 hrn5 => ⟨739, (z_in (by omega)), ?_⟩)
  refine c_g0 C (fun hg5 => ?_)
  have hxn5 : ∀ b, b ≠ qn5 → lnn5 b = lnn4 b := (fun b _ => by rw [hln5])
  have W9 := W8.new (ln2 := lnn5) hqn5 (hg5 qn5 (List.mem_append_right _ List.mem_cons_self)) hcn5 hxn5 hin5 hrn5 (fun _ => ⟨(show (-2147483648 : Int) ≤ 0 by decide), (show (0 : Int) ≤ 2147483647 by decide)⟩) (Or.inl rfl) (fun q => by cases q) rfl rfl
  have xl5 := XT.new hqn5 hcn5 hxn5
  have X5 := X4.trans xl5
  have F9 := F8.new X4 hqn5 hin5 hrn5
  have nw5 := nw4.new xl5 hcn5
  have tqn5 : ty (((((L ++ [qn1]) ++ [qn2]) ++ [qn3]) ++ [qn4]) ++ [qn5]) cln5 qn5 202 := ty_new hcn5
  have h0qn5 : qn5 ∉ L := fun h => hqn5 ((X4 qn5 h).1)
  refine c_dup C dX4_init_41 rfl ?_
  refine c_ldc (z := 40000) C dX4_init_42 w1_227 rfl ?_
  refine c_callI (As := [.int (iI 40000)]) (rest := [.ref qn5, .ref a0]) C hM (Y_ints_11 (a0 := qn5) (i := 40000) W9  tqn5 ⟨by decide, by decide⟩ ) dX4_init_44 kI_X4_28 rfl rfl (Nat.le_of_ble_eq_true rfl) ⟨(Nat.le_of_ble_eq_true rfl), (Nat.le_of_ble_eq_true rfl)⟩ (rz0 hph (by decide)) (fun rh1 Lh1 clh1 lnh1 ivh1 rvh1 h1 => ⟨771, zk0, ?_⟩)
  obtain ⟨rfl, xl6, fl1, W10, exf1, nxh1⟩ := h1
  have F10 := F9.call X5 fl1 rfl
  have ty15 := xl5.ty ty10
  have ty16 := xl5.ty ty11
  have ty17 := xl5.ty ty12
  have ty18 := xl5.ty ty13
  have ty19 := xl5.ty ty14
  have ty20 := xl5.ty tqn4
  have X6 := X5.trans xl6
  have nw6 := nw5.call xl6 nxh1
  refine c_st (st2 := [.ref qn5, .ref a0]) rfl ?_
  obtain ⟨bexf1, exf1x, exf1r, exf1t, exf1l, exf1i, exf1j⟩ := exf1
  have rn1 : ∀ k, ([1] : List Nat).contains k = false → rvh1 qn5 k = none := fun k hk => (Eq.trans (show rvh1 qn5 k = rvn5 qn5 k from (exf1x k hk)) (show rvn5 qn5 k = none from (by rw [hrn5]; exact up0_s)))
  have ty21 := xl6.ty tqn5
  refine c_retag (q := qn5) (t := 11) (by rw [ty21.2]; rfl) (fun clr1 hcr1 => ?_)
  have ty22 := xl6.ty ty15
  have ty23 := ty_rt ty22 hcr1 (ne_ty ty22 ty21 (by decide))
  have ty24 := xl6.ty ty16
  have ty25 := ty_rt ty24 hcr1 (ne_ty ty24 ty21 (by decide))
  have ty26 := xl6.ty ty17
  have ty27 := ty_rt ty26 hcr1 (ne_ty ty26 ty21 (by decide))
  have ty28 := xl6.ty ty18
  have ty29 := ty_rt ty28 hcr1 (ne_ty ty28 ty21 (by decide))
  have ty30 := xl6.ty ty19
  have ty31 := ty_rt ty30 hcr1 (ne_ty ty30 ty21 (by decide))
  have ty32 := xl6.ty ty20
  have ty33 := ty_rt ty32 hcr1 (ne_ty ty32 ty21 (by decide))
  have ty34 := ty_rt exf1t hcr1 (ne_ty exf1t ty21 (by decide))
  have tqr1 : ty Lh1 clr1 qn5 11 := ⟨ty21.1, by rw [hcr1, va_up_self]; rfl⟩
  have hno1 := NW.no nw6 X6 (hnt 11 (by decide)) (by decide)
  have W11 := W10.retagU ty21.1 (by rw [ty21.2]; rfl) hcr1 (fun k => by
        rcases k with _ | _ | _ | k
        · exact ⟨(by show 40000 ≤ ivh1 qn5 0; omega), (by show ivh1 qn5 0 ≤ 40000; omega)⟩
        · exact W10.int ty21 1
        · exact ⟨(by show 0 ≤ ivh1 qn5 2; omega), (by show ivh1 qn5 2 ≤ 40000; omega)⟩
        · exact W10.int ty21 (k + 3)) (fun k => by
        rcases k with _ | _ | _ | k
        · rw [rn1 0 (by decide)]; exact rok_none tqr1 rfl
        · rw [exf1r]; exact rok_some tqr1 ty34 rfl (by decide) rfl
        · rw [rn1 2 (by decide)]; exact rok_none tqr1 rfl
        · rw [rn1 (k + 3) (by simp)]; exact rok_none tqr1 rfl) (fun z => by cases z) (fun _ b hb => by rw [exf1r] at hb; cases hb; exact Or.inr ⟨exf1t.1, by omega⟩) (fun z => by cases z) hno1
  have nw7 := nw6.rt hcr1
  have X7 := X6.rt hcr1 h0qn5
  have ctr1 : clr1 qn5 = 11 := by rw [hcr1]; exact va_up_self _ _ _
  refine c_putrF (x := (some qn5)) (k := 4) C ck_5 dX4_init_47 w1_233 (by decide) rfl rfl rfl ty23 rfl rfl (by decide) rfl (by rfl) (by rfl) (fun rv5 pq5 => ⟨771, (zp2 (Nat.le_refl _)), ?_⟩)
  have W12 := W11.putr pq5 ty23 (fun qr => by rw [ty23.2] at qr; cases qr) rfl (by decide)
  have F11 := F10.putr X7 pq5 ty23 rfl
  refine c_aload_n (j := 0) (x := a0) C dX4_init_50 rfl ?_
  refine c_iconst C dX4_init_51 ?_
  refine c_put (z := 0) (k := 5) C ck_5 dX4_init_52 w1_234 (by decide) rfl ty23 rfl rfl (by decide) rfl (by rfl) (by rfl) (fun iv1 pq6 => ?_)
  have W13 := W12.puti pq6 ty23 ⟨by decide, by decide⟩ rfl
  have F12 := F11.puti X7 pq6 ty23 rfl
  refine c_aload_n (j := 0) (x := a0) C dX4_init_55 rfl ?_
  refine c_iconst C dX4_init_56 ?_
  refine c_put (z := 0) (k := 6) C ck_5 dX4_init_57 w1_236 (by decide) rfl ty23 rfl rfl (by decide) rfl (by decide) (by decide) (fun iv2 pq7 => ?_)
  have W14 := W13.puti pq7 ty23 ⟨by decide, by decide⟩ rfl
  have F13 := F12.puti X7 pq7 ty23 rfl
  refine c_aload_n (j := 0) (x := a0) C dX4_init_60 rfl ?_
  refine c_bipush (z := 100) C dX4_init_61 (by decide) ?_
  refine c_newaI (z := 100) (N := 100) C 63 dX4_init_63 w1_57 rfl (by omega) (by omega) (rom2 hph (Nat.le_refl 0) (by decide)) (fun qn6 cln6 lnn6 ivn6 rvn6 hqn6 hcn6 hln6 hin6 hrn6 => ⟨887, (z_in (by omega)), ?_⟩)
  refine c_g0 C (fun hg6 => ?_)
  have hxn6 : ∀ b, b ≠ qn6 → lnn6 b = lnh1 b := (fun b hb => by rw [hln6]; exact va_up_ne _ _ hb)
  have lqn6 : lnn6 qn6 = 100 := by rw [hln6]; exact va_up_self _ _ _
  have W15 := W14.new (ln2 := lnn6) hqn6 (hg6 qn6 (List.mem_append_right _ List.mem_cons_self)) hcn6 hxn6 hin6 hrn6 (fun _ => ⟨(show (-2147483648 : Int) ≤ 0 by decide), (show (0 : Int) ≤ 2147483647 by decide)⟩) (Or.inr (fun _ => rfl)) (fun _ => by show 100 ≤ lnn6 qn6 ∧ lnn6 qn6 ≤ 100; omega) rfl rfl
  have xl7 := XT.new hqn6 hcn6 hxn6
  have X8 := X7.trans xl7
  have F14 := F13.new X7 hqn6 hin6 hrn6
  have nw8 := nw7.new xl7 hcn6
  have tqn6 : ty (Lh1 ++ [qn6]) cln6 qn6 63 := ty_new hcn6
  have h0qn6 : qn6 ∉ L := fun h => hqn6 ((X7 qn6 h).1)
  have ty35 := xl7.ty ty23
  refine c_putrF (x := (some qn6)) (k := 8) C ck_5 dX4_init_65 w1_239 (by decide) rfl rfl rfl ty35 rfl rfl (by decide) rfl (by rfl) (by rfl) (fun rv6 pq8 => ⟨887, (zp2 (Nat.le_refl _)), ?_⟩)
  have W16 := W15.putr pq8 ty35 (fun qr => by rw [ty35.2] at qr; cases qr) rfl (by decide)
  have F15 := F14.putr X8 pq8 ty35 rfl
  refine c_aload_n (j := 0) (x := a0) C dX4_init_68 rfl ?_
  refine c_iconst C dX4_init_69 ?_
  refine c_put (z := 0) (k := 9) C ck_5 dX4_init_70 w2_0 (by decide) rfl ty35 rfl rfl (by decide) rfl (by rfl) (by rfl) (fun iv3 pq9 => ?_)
  have W17 := W16.puti pq9 ty35 ⟨by decide, by decide⟩ rfl
  have F16 := F15.puti X8 pq9 ty35 rfl
  refine c_aload_n (j := 0) (x := a0) C dX4_init_73 rfl ?_
  refine c_iconst C dX4_init_74 ?_
  refine c_put (z := 0) (k := 10) C ck_5 dX4_init_75 w2_1 (by decide) rfl ty35 rfl rfl (by decide) rfl (by rfl) (by rfl) (fun iv4 pq10 => ?_)
  have W18 := W17.puti pq10 ty35 ⟨by decide, by decide⟩ rfl
  have F17 := F16.puti X8 pq10 ty35 rfl
  refine c_aload_n (j := 0) (x := a0) C dX4_init_78 rfl ?_
  refine c_aload_n (j := 1) (x := a1) C dX4_init_79 rfl ?_
  refine c_putrF (x := (some a1)) (k := 7) C ck_5 dX4_init_80 w1_238 (by decide) rfl rfl rfl ty35 rfl rfl (by decide) rfl (by rfl) (by rfl) (fun rv7 pq11 => ⟨887, (zp2 (Nat.le_refl _)), ?_⟩)
  have W19 := W18.putr pq11 ty35 (fun qr => by rw [ty35.2] at qr; cases qr) rfl (by decide)
  have F18 := F17.putr X8 pq11 ty35 rfl
  have rp1 : rv1 a0 0 = (some qn1) := by rw [pq1]; exact upr_s
  have re1 : rvn2 a0 0 = rv1 a0 0 := (by rw [hrn2]; exact congrFun (up0_a (ne_in ty1.1 hqn2)) _)
  rw [rp1] at re1
  have re2 : rv2 a0 0 = rvn2 a0 0 := (by rw [pq2]; exact upr_j (by decide))
  rw [re1] at re2
  have re3 : rvn3 a0 0 = rv2 a0 0 := (by rw [hrn3]; exact congrFun (up0_a (ne_in ty3.1 hqn3)) _)
  rw [re2] at re3
  have re4 : rv3 a0 0 = rvn3 a0 0 := (by rw [pq3]; exact upr_j (by decide))
  rw [re3] at re4
  have re5 : rvn4 a0 0 = rv3 a0 0 := (by rw [hrn4]; exact congrFun (up0_a (ne_in ty6.1 hqn4)) _)
  rw [re4] at re5
  have re6 : rv4 a0 0 = rvn4 a0 0 := (by rw [pq4]; exact upr_j (by decide))
  rw [re5] at re6
  have re7 : rvn5 a0 0 = rv4 a0 0 := (by rw [hrn5]; exact congrFun (up0_a (ne_in ty10.1 hqn5)) _)
  rw [re6] at re7
  have re8 : rvh1 a0 0 = rvn5 a0 0 := (fl1.r ty15 rfl 0)
  rw [re7] at re8
  have re9 : rv5 a0 0 = rvh1 a0 0 := (by rw [pq5]; exact upr_j (by decide))
  rw [re8] at re9
  have re10 : rvn6 a0 0 = rv5 a0 0 := (by rw [hrn6]; exact congrFun (up0_a (ne_in ty23.1 hqn6)) _)
  rw [re9] at re10
  have re11 : rv6 a0 0 = rvn6 a0 0 := (by rw [pq8]; exact upr_j (by decide))
  rw [re10] at re11
  have re12 : rv7 a0 0 = rv6 a0 0 := (by rw [pq11]; exact upr_j (by decide))
  rw [re11] at re12
  have rp2 : rv2 a0 1 = (some qn2) := by rw [pq2]; exact upr_s
  have re13 : rvn3 a0 1 = rv2 a0 1 := (by rw [hrn3]; exact congrFun (up0_a (ne_in ty3.1 hqn3)) _)
  rw [rp2] at re13
  have re14 : rv3 a0 1 = rvn3 a0 1 := (by rw [pq3]; exact upr_j (by decide))
  rw [re13] at re14
  have re15 : rvn4 a0 1 = rv3 a0 1 := (by rw [hrn4]; exact congrFun (up0_a (ne_in ty6.1 hqn4)) _)
  rw [re14] at re15
  have re16 : rv4 a0 1 = rvn4 a0 1 := (by rw [pq4]; exact upr_j (by decide))
  rw [re15] at re16
  have re17 : rvn5 a0 1 = rv4 a0 1 := (by rw [hrn5]; exact congrFun (up0_a (ne_in ty10.1 hqn5)) _)
  rw [re16] at re17
  have re18 : rvh1 a0 1 = rvn5 a0 1 := (fl1.r ty15 rfl 1)
  rw [re17] at re18
  have re19 : rv5 a0 1 = rvh1 a0 1 := (by rw [pq5]; exact upr_j (by decide))
  rw [re18] at re19
  have re20 : rvn6 a0 1 = rv5 a0 1 := (by rw [hrn6]; exact congrFun (up0_a (ne_in ty23.1 hqn6)) _)
  rw [re19] at re20
  have re21 : rv6 a0 1 = rvn6 a0 1 := (by rw [pq8]; exact upr_j (by decide))
  rw [re20] at re21
  have re22 : rv7 a0 1 = rv6 a0 1 := (by rw [pq11]; exact upr_j (by decide))
  rw [re21] at re22
  have rp3 : rv3 a0 2 = (some qn3) := by rw [pq3]; exact upr_s
  have re23 : rvn4 a0 2 = rv3 a0 2 := (by rw [hrn4]; exact congrFun (up0_a (ne_in ty6.1 hqn4)) _)
  rw [rp3] at re23
  have re24 : rv4 a0 2 = rvn4 a0 2 := (by rw [pq4]; exact upr_j (by decide))
  rw [re23] at re24
  have re25 : rvn5 a0 2 = rv4 a0 2 := (by rw [hrn5]; exact congrFun (up0_a (ne_in ty10.1 hqn5)) _)
  rw [re24] at re25
  have re26 : rvh1 a0 2 = rvn5 a0 2 := (fl1.r ty15 rfl 2)
  rw [re25] at re26
  have re27 : rv5 a0 2 = rvh1 a0 2 := (by rw [pq5]; exact upr_j (by decide))
  rw [re26] at re27
  have re28 : rvn6 a0 2 = rv5 a0 2 := (by rw [hrn6]; exact congrFun (up0_a (ne_in ty23.1 hqn6)) _)
  rw [re27] at re28
  have re29 : rv6 a0 2 = rvn6 a0 2 := (by rw [pq8]; exact upr_j (by decide))
  rw [re28] at re29
  have re30 : rv7 a0 2 = rv6 a0 2 := (by rw [pq11]; exact upr_j (by decide))
  rw [re29] at re30
  have rp4 : rv4 a0 3 = (some qn4) := by rw [pq4]; exact upr_s
  have re31 : rvn5 a0 3 = rv4 a0 3 := (by rw [hrn5]; exact congrFun (up0_a (ne_in ty10.1 hqn5)) _)
  rw [rp4] at re31
  have re32 : rvh1 a0 3 = rvn5 a0 3 := (fl1.r ty15 rfl 3)
  rw [re31] at re32
  have re33 : rv5 a0 3 = rvh1 a0 3 := (by rw [pq5]; exact upr_j (by decide))
  rw [re32] at re33
  have re34 : rvn6 a0 3 = rv5 a0 3 := (by rw [hrn6]; exact congrFun (up0_a (ne_in ty23.1 hqn6)) _)
  rw [re33] at re34
  have re35 : rv6 a0 3 = rvn6 a0 3 := (by rw [pq8]; exact upr_j (by decide))
  rw [re34] at re35
  have re36 : rv7 a0 3 = rv6 a0 3 := (by rw [pq11]; exact upr_j (by decide))
  rw [re35] at re36
  have rp5 : rv5 a0 4 = (some qn5) := by rw [pq5]; exact upr_s
  have re37 : rvn6 a0 4 = rv5 a0 4 := (by rw [hrn6]; exact congrFun (up0_a (ne_in ty23.1 hqn6)) _)
  rw [rp5] at re37
  have re38 : rv6 a0 4 = rvn6 a0 4 := (by rw [pq8]; exact upr_j (by decide))
  rw [re37] at re38
  have re39 : rv7 a0 4 = rv6 a0 4 := (by rw [pq11]; exact upr_j (by decide))
  rw [re38] at re39
  have rp6 : rv6 a0 8 = (some qn6) := by rw [pq8]; exact upr_s
  have re40 : rv7 a0 8 = rv6 a0 8 := (by rw [pq11]; exact upr_j (by decide))
  rw [rp6] at re40
  have rn2 : ∀ k, ([0, 1, 2, 3, 4, 7, 8] : List Nat).contains k = false → rv7 a0 k = rv a0 k := fun k hk => (Eq.trans (show rv7 a0 k = rv6 a0 k from (by rw [pq11]; exact upr_j (fun e => by subst e; exact absurd hk (by decide)))) (Eq.trans (show rv6 a0 k = rvn6 a0 k from (by rw [pq8]; exact upr_j (fun e => by subst e; exact absurd hk (by decide)))) (Eq.trans (show rvn6 a0 k = rv5 a0 k from (by rw [hrn6]; exact congrFun (up0_a (ne_in ty23.1 hqn6)) _)) (Eq.trans (show rv5 a0 k = rvh1 a0 k from (by rw [pq5]; exact upr_j (fun e => by subst e; exact absurd hk (by decide)))) (Eq.trans (show rvh1 a0 k = rvn5 a0 k from (fl1.r ty15 rfl k)) (Eq.trans (show rvn5 a0 k = rv4 a0 k from (by rw [hrn5]; exact congrFun (up0_a (ne_in ty10.1 hqn5)) _)) (Eq.trans (show rv4 a0 k = rvn4 a0 k from (by rw [pq4]; exact upr_j (fun e => by subst e; exact absurd hk (by decide)))) (Eq.trans (show rvn4 a0 k = rv3 a0 k from (by rw [hrn4]; exact congrFun (up0_a (ne_in ty6.1 hqn4)) _)) (Eq.trans (show rv3 a0 k = rvn3 a0 k from (by rw [pq3]; exact upr_j (fun e => by subst e; exact absurd hk (by decide)))) (Eq.trans (show rvn3 a0 k = rv2 a0 k from (by rw [hrn3]; exact congrFun (up0_a (ne_in ty3.1 hqn3)) _)) (Eq.trans (show rv2 a0 k = rvn2 a0 k from (by rw [pq2]; exact upr_j (fun e => by subst e; exact absurd hk (by decide)))) (Eq.trans (show rvn2 a0 k = rv1 a0 k from (by rw [hrn2]; exact congrFun (up0_a (ne_in ty1.1 hqn2)) _)) (Eq.trans (show rv1 a0 k = rvn1 a0 k from (by rw [pq1]; exact upr_j (fun e => by subst e; exact absurd hk (by decide)))) (show rvn1 a0 k = rv a0 k from (by rw [hrn1]; exact congrFun (up0_a (ne_in t_a0.1 hqn1)) _)))))))))))))))
  have ty36 := xl7.ty ty27
  have ty37 := xl7.ty ty29
  have ty38 := xl7.ty ty31
  have ty39 := xl7.ty ty33
  have ty40 := xl7.ty tqr1
  have ri1 : (-2147483648) ≤ iv4 a0 5 ∧ iv4 a0 5 ≤ 2147483647 := W19.int ty35 5
  have ie1 : iv4 a0 5 = iv3 a0 5 := by rw [pq10]; exact up2_j (by decide)
  have ie2 : iv3 a0 5 = ivn6 a0 5 := by rw [pq9]; exact up2_j (by decide)
  have ie3 : ivn6 a0 5 = iv2 a0 5 := by rw [hin6]; exact congrFun (up0_a (ne_in ty23.1 hqn6)) _
  have ie4 : iv2 a0 5 = iv1 a0 5 := by rw [pq7]; exact up2_j (by decide)
  have ie5 : iv1 a0 5 = 0 := by rw [pq6]; exact up2_s
  have ri2 : (-2147483648) ≤ iv4 a0 6 ∧ iv4 a0 6 ≤ 2147483647 := W19.int ty35 6
  have ie6 : iv4 a0 6 = iv3 a0 6 := by rw [pq10]; exact up2_j (by decide)
  have ie7 : iv3 a0 6 = ivn6 a0 6 := by rw [pq9]; exact up2_j (by decide)
  have ie8 : ivn6 a0 6 = iv2 a0 6 := by rw [hin6]; exact congrFun (up0_a (ne_in ty23.1 hqn6)) _
  have ie9 : iv2 a0 6 = 0 := by rw [pq7]; exact up2_s
  have ri3 : (-2147483648) ≤ iv4 a0 9 ∧ iv4 a0 9 ≤ 2147483647 := W19.int ty35 9
  have ie10 : iv4 a0 9 = iv3 a0 9 := by rw [pq10]; exact up2_j (by decide)
  have ie11 : iv3 a0 9 = 0 := by rw [pq9]; exact up2_s
  have ri4 : (-2147483648) ≤ iv4 a0 10 ∧ iv4 a0 10 ≤ 2147483647 := W19.int ty35 10
  have ie12 : iv4 a0 10 = 0 := by rw [pq10]; exact up2_s
  have rp7 : rv7 a0 7 = (some a1) := by rw [pq11]; exact upr_s
  have ri5 : 0 ≤ iv4 qn5 2 ∧ iv4 qn5 2 ≤ 40000 := W19.int ty40 2
  have ie13 : iv4 qn5 2 = iv3 qn5 2 := by rw [pq10]; exact up2_k (ne_ty ty40 ty35 (by decide))
  have ie14 : iv3 qn5 2 = ivn6 qn5 2 := by rw [pq9]; exact up2_k (ne_ty ty40 ty35 (by decide))
  have ie15 : ivn6 qn5 2 = iv2 qn5 2 := by rw [hin6]; exact congrFun (up0_a (ne_in tqr1.1 hqn6)) _
  have ie16 : iv2 qn5 2 = iv1 qn5 2 := by rw [pq7]; exact up2_k (ne_ty tqr1 ty23 (by decide))
  have ie17 : iv1 qn5 2 = ivh1 qn5 2 := by rw [pq6]; exact up2_k (ne_ty tqr1 ty23 (by decide))
  exact c_vret C dX4_init_83 rfl (by decide) (rom0 hph (Nat.le_refl 0) (by decide)) ⟨_, rfl, X8, F18, W19, ⟨qn1, qn2, qn3, qn4, qn5, qn6, rn2, re12, ty36, re22, ty37, re30, ty38, re36, ty39, re39, ty40, re40, tqn6, (by omega), (by omega), (by omega), (by omega), rp7, (by omega)⟩, nw8.sub (by decide)⟩
