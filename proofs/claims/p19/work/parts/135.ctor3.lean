section
def SHZ (h0 : Nat) (iv : Nat → Nat → Int) (rv : Nat → Nat → Option Nat) : Prop := ∃ sA sB bA bB, rv h0 9 = some sA ∧ rv h0 10 = some sB ∧ sA ≠ sB ∧ rv sA 0 = some bA ∧ rv sB 0 = some bB ∧ bA ≠ bB ∧ (∀ k, rv bA k = none) ∧ (∀ k, rv bB k = none) ∧ iv sA 1 = 0
theorem SKL.of24 {g : Nat} {sk : Nat → Nat} {L : List Nat} {cl ln : Nat → Nat} {iv : Nat → Nat → Int} {rv : Nat → Nat → Option Nat} (h : WT g sk L cl ln iv rv) (h1 : ∃ a, a ∈ L ∧ cl a = 1) (h2 : ∃ a, a ∈ L ∧ cl a = 2) (h3 : ∃ a, a ∈ L ∧ cl a = 3) (h4 : ∃ a, a ∈ L ∧ cl a = 4) (h5 : ∃ a, a ∈ L ∧ cl a = 5) (h6 : ∃ a, a ∈ L ∧ cl a = 6) (h7 : ∃ a, a ∈ L ∧ cl a = 7) (h8 : ∃ a, a ∈ L ∧ cl a = 8) (h9 : ∃ a, a ∈ L ∧ cl a = 9) (h10 : ∃ a, a ∈ L ∧ cl a = 10) (h11 : ∃ a, a ∈ L ∧ cl a = 11) (h13 : ∃ a, a ∈ L ∧ cl a = 13) (h14 : ∃ a, a ∈ L ∧ cl a = 14) (h15 : ∃ a, a ∈ L ∧ cl a = 15) (h16 : ∃ a, a ∈ L ∧ cl a = 16) (h17 : ∃ a, a ∈ L ∧ cl a = 17) (h18 : ∃ a, a ∈ L ∧ cl a = 18) (h28 : ∃ a, a ∈ L ∧ cl a = 28) (h22 : ∃ a, a ∈ L ∧ cl a = 22) (h23 : ∃ a, a ∈ L ∧ cl a = 23) (h24 : ∃ a, a ∈ L ∧ cl a = 24) (h25 : ∃ a, a ∈ L ∧ cl a = 25) (h67 : ∃ a, a ∈ L ∧ cl a = 67) (h69 : ∃ a, a ∈ L ∧ cl a = 69) : SKL sk L cl := by
  have key : ∀ t, uq t = true → (∃ a, a ∈ L ∧ cl a = t) → sk t ∈ L ∧ cl (sk t) = t := by
    intro t ht ⟨a, h1, h2⟩
    have q := h.2.2.2.2.2.1 a h1 (by rw [h2]; exact ht)
    rw [h2] at q
    rw [← q]; exact ⟨h1, h2⟩
  intro t ht
  refine key t ht ?_
  unfold uq at ht
  have hm := List.contains_iff_mem.mp ht
  simp only [List.mem_cons, List.not_mem_nil, or_false] at hm
  rcases hm with rfl | rfl | rfl | rfl | rfl | rfl | rfl | rfl | rfl | rfl | rfl | rfl | rfl | rfl | rfl | rfl | rfl | rfl | rfl | rfl | rfl | rfl | rfl | rfl
  · exact h1
  · exact h2
  · exact h3
  · exact h4
  · exact h5
  · exact h6
  · exact h7
  · exact h8
  · exact h9
  · exact h10
  · exact h11
  · exact h13
  · exact h14
  · exact h15
  · exact h16
  · exact h17
  · exact h18
  · exact h28
  · exact h22
  · exact h23
  · exact h24
  · exact h25
  · exact h67
  · exact h69
theorem MRK.zero {sk cl : Nat → Nat} {iv : Nat → Nat → Int} {rv : Nat → Nat → Option Nat} {b : Nat} (he : b = sk 22) (hz : iv b 2 = 0) : MRK sk cl iv rv := fun i hi => by rw [← he, hz] at hi; exact absurd hi (by omega)
theorem z23 {sk : Nat → Nat} {iv : Nat → Nat → Int} {b t : Nat} (he : b = sk t) (hz : iv b 2 = 0) : iv (sk t) 2 = 0 := he ▸ hz
theorem zkk {sk : Nat → Nat} {iv : Nat → Nat → Int} {b t k : Nat} (he : b = sk t) (hz : iv b k = 0) : iv (sk t) k = 0 := he ▸ hz
set_option maxHeartbeats 4000000 in
set_option maxRecDepth 100000 in
theorem Y_press {l : Launch} {G : GT} {mi : Nat} {sk : Nat → Nat} {L : List Nat} {cl ln : Nat → Nat} {iv : Nat → Nat → Int} {rv : Nat → Nat → Option Nat}  {a0 : Nat} (hW : WT (g0 G) sk L cl ln iv rv) (hnt : ∀ t, uq t = true → ∀ a ∈ L, cl a ≠ t) (t_a0 : ty L cl a0 212) (hn0 : ∀ k, rv a0 k = none) : Mc l G mi zPf 0 yX11_init cX11_init 1 none 6 [.ref a0] L cl ln iv rv 4620 (fun v L2 cl2 ln2 iv2 rv2 => v = none ∧ ∃ sk2, WT (g0 G) sk2 L2 cl2 ln2 iv2 rv2 ∧ SKL sk2 L2 cl2 ∧ MRK sk2 cl2 iv2 rv2 ∧ iv2 (sk2 23) 2 = 0 ∧ ty L2 cl2 a0 1 ∧ (iv2 a0 14 = 0 ∧ iv2 a0 11 = 32 ∧ iv2 a0 12 = 25 ∧ iv2 a0 13 = 36) ∧ iv2 (sk2 2) 2 = 0 ∧ iv2 (sk2 3) 2 = 0 ∧ iv2 (sk2 22) 2 = 0 ∧ SHZ a0 iv2 rv2 ∧ (iv2 a0 15 = 0 ∧ iv2 a0 16 = 0) ∧ iv2 (sk2 4) 2 = 0 ∧ iv2 (sk2 5) 2 = 0 ∧ (iv2 (sk2 17) 5 = 0 ∧ iv2 (sk2 17) 6 = 0) ∧ iv2 (sk2 11) 2 = 0) := by
  refine Mc.mk (by decide) (Nat.le_of_ble_eq_true rfl) ?_
  intro p e s m args below meth c A C hM
  refine hv4 ((show zPf ln rv ≤ 0 from Nat.le_refl 0)) (show NW [] L L cl from NW.refl) (show XT L cl ln L cl ln from XT.refl) (show fT [212, 211, 200, 202, 204, 205, 207, 208, 209] L cl iv rv iv rv from fT.refl) (fun hph nw0 hX0 hF0 => ?_)
  refine c_aload_n (j := 0) (x := a0) C dX11_init_0 rfl ?_
  refine c_objInit C dX11_init_1 w1_29 w1_30 w1_31 (by decide) (Nat.le_of_ble_eq_true rfl) ?_
  refine c_aload_n (j := 0) (x := a0) C dX11_init_4 rfl ?_
  refine c_new C ck_2 dv_2 ⟨rfl, rfl⟩ rfl (by decide) dX11_init_5 w1_32 w1_33 w1_2 (rom2 hph hph (by decide)) (fun qn1 cln1 lnn1 ivn1 rvn1 hqn1 hcn1 hln1 hin1 hrn1 => ⟨19, (z_in (by omega)), ?_⟩)
  refine c_g0 C (fun hg1 => ?_)
  refine hv4 (show ∀ b, b ≠ qn1 → lnn1 b = ln b from (fun b _ => by rw [hln1])) (hF0.new hX0 hqn1 hin1 hrn1) (show ty (L ++ [qn1]) cln1 qn1 202 from ty_new hcn1) (show qn1 ∉ L from fun h => hqn1 ((hX0 qn1 h).1)) (fun hxn1 F1 tqn1 h0qn1 => ?_)
  refine hv2 (hW.new (ln2 := lnn1) hqn1 (hg1 qn1 (List.mem_append_right _ List.mem_cons_self)) hcn1 hxn1 hin1 hrn1 (fun _ => ⟨(show (-2147483648 : Int) ≤ 0 by decide), (show (0 : Int) ≤ 2147483647 by decide)⟩) (Or.inl rfl) (fun q => by cases q) rfl rfl) (XT.new hqn1 hcn1 hxn1) (fun W1 xl1 => ?_)
  refine hv2 (hX0.trans xl1) (nw0.new xl1 hcn1) (fun X1 nw1 => ?_)
  refine c_dup C dX11_init_8 rfl ?_
  refine c_sipush (z := 3000) C dX11_init_9 (by decide) ?_
  refine c_callI (As := [.int (iI 3000)]) (rest := [.ref qn1, .ref a0]) C hM (Y_ints_2 (a0 := qn1) (i := 3000) W1  tqn1 ⟨by decide, by decide⟩ ) dX11_init_12 kI_X11_11 rfl rfl (Nat.le_of_ble_eq_true rfl) ⟨(Nat.le_of_ble_eq_true rfl), (Nat.le_of_ble_eq_true rfl)⟩ (rz0 hph (by decide)) (fun rh1 Lh1 clh1 lnh1 ivh1 rvh1 h1 => ⟨51, zk0, ?_⟩)
  obtain ⟨rfl, xl2, fl1, W2, exf1, nxh1⟩ := h1
  refine hv4 (F1.call X1 fl1 rfl) (xl1.ty t_a0) (X1.trans xl2) (nw1.call xl2 nxh1) (fun F2 ty1 X2 nw2 => ?_)
  refine c_st (st2 := [.ref qn1, .ref a0]) rfl ?_
  obtain ⟨bexf1, exf1x, exf1r, exf1t, exf1l, exf1i, exf1j⟩ := exf1
  refine hv2 (show ∀ k, ([1] : List Nat).contains k = false → rvh1 qn1 k = none from fun k hk => (Eq.trans (show rvh1 qn1 k = rvn1 qn1 k from (exf1x k hk)) (show rvn1 qn1 k = none from (by rw [hrn1]; exact up0_s)))) (xl2.ty tqn1) (fun rn1 ty2 => ?_)
  refine c_retag (q := qn1) (t := 2) (by rw [ty2.2]; rfl) (fun clr1 hcr1 => ?_)
  refine hv4 (xl2.ty ty1) (ty_rt exf1t hcr1 (ne_ty exf1t ty2 (by decide))) (show ty Lh1 clr1 qn1 2 from ⟨ty2.1, by rw [hcr1, va_up_self]; rfl⟩) (NW.no nw2 X2 (hnt 2 (by decide)) (by decide)) (fun ty3 ty5 tqr1 hno1 => ?_)
  have ty4 := ty_rt ty3 hcr1 (ne_ty ty3 ty2 (by decide))
  have W3 := W2.retagU ty2.1 (by rw [ty2.2]; rfl) hcr1 (fun k => by
        rcases k with _ | _ | _ | k
        · exact ⟨(by show 3000 ≤ ivh1 qn1 0; first | exact bx_lo ‹ivh1 qn1 0 = _› (by decide) | omega), (by show ivh1 qn1 0 ≤ 3000; first | exact bx_hi ‹ivh1 qn1 0 = _› (by decide) | omega)⟩
        · exact W2.int ty2 1
        · exact ⟨(by show 0 ≤ ivh1 qn1 2; first | exact bx_lo ‹ivh1 qn1 2 = _› (by decide) | omega), (by show ivh1 qn1 2 ≤ 3000; first | exact bx_hi ‹ivh1 qn1 2 = _› (by decide) | omega)⟩
        · exact W2.int ty2 (k + 3)) (fun k => by
        rcases k with _ | _ | _ | k
        · rw [rn1 0 (by decide)]; exact rok_none tqr1 rfl
        · rw [exf1r]; exact rok_some tqr1 ty5 rfl (by decide) rfl
        · rw [rn1 2 (by decide)]; exact rok_none tqr1 rfl
        · rw [rn1 (k + 3) (by simp)]; exact rok_none tqr1 rfl) (fun z => by cases z) (fun _ b hb => by rw [exf1r] at hb; cases hb; exact Or.inr ⟨exf1t.1, by omega⟩) (fun z => by cases z) hno1
  refine hv3 (nw2.rt hcr1) (X2.rt hcr1 h0qn1) (show clr1 qn1 = 2 from by rw [hcr1]; exact va_up_self _ _ _) (fun nw3 X3 ctr1 => ?_)
  refine c_putrF (x := (some qn1)) (k := 0) C ck_12 dX11_init_15 w2_44 (by decide) rfl rfl rfl ty4 rfl rfl (by decide) rfl (by rfl) (by rfl) (fun rv1 pq1 => ⟨51, (zp2 (Nat.le_refl _)), ?_⟩)
  refine hv2 (W3.putr pq1 ty4 (fun qr => by rw [ty4.2] at qr; cases qr) rfl (by decide)) (F2.putr X3 pq1 ty4 rfl) (fun W4 F3 => ?_)
  refine c_aload_n (j := 0) (x := a0) C dX11_init_18 rfl ?_
  refine c_new C ck_2 dv_2 ⟨rfl, rfl⟩ rfl (by decide) dX11_init_19 w1_32 w1_33 w1_2 (rom2 hph (Nat.le_refl 0) (by decide)) (fun qn2 cln2 lnn2 ivn2 rvn2 hqn2 hcn2 hln2 hin2 hrn2 => ⟨70, (z_in (by omega)), ?_⟩)
  refine c_g0 C (fun hg2 => ?_)
  refine hv4 (show ∀ b, b ≠ qn2 → lnn2 b = lnh1 b from (fun b _ => by rw [hln2])) (F3.new X3 hqn2 hin2 hrn2) (show ty (Lh1 ++ [qn2]) cln2 qn2 202 from ty_new hcn2) (show qn2 ∉ L from fun h => hqn2 ((X3 qn2 h).1)) (fun hxn2 F4 tqn2 h0qn2 => ?_)
  refine hv2 (W4.new (ln2 := lnn2) hqn2 (hg2 qn2 (List.mem_append_right _ List.mem_cons_self)) hcn2 hxn2 hin2 hrn2 (fun _ => ⟨(show (-2147483648 : Int) ≤ 0 by decide), (show (0 : Int) ≤ 2147483647 by decide)⟩) (Or.inl rfl) (fun q => by cases q) rfl rfl) (XT.new hqn2 hcn2 hxn2) (fun W5 xl3 => ?_)
  refine hv2 (X3.trans xl3) (nw3.new xl3 hcn2) (fun X4 nw4 => ?_)
  refine c_dup C dX11_init_22 rfl ?_
  refine c_sipush (z := 500) C dX11_init_23 (by decide) ?_
  refine c_callI (As := [.int (iI 500)]) (rest := [.ref qn2, .ref a0]) C hM (Y_ints_3 (a0 := qn2) (i := 500) W5  tqn2 ⟨by decide, by decide⟩ ) dX11_init_26 kI_X11_11 rfl rfl (Nat.le_of_ble_eq_true rfl) ⟨(Nat.le_of_ble_eq_true rfl), (Nat.le_of_ble_eq_true rfl)⟩ (rz0 hph (by decide)) (fun rh2 Lh2 clh2 lnh2 ivh2 rvh2 h2 => ⟨102, zk0, ?_⟩)
  obtain ⟨rfl, xl4, fl2, W6, exf2, nxh2⟩ := h2
  refine hv6 (F4.call X4 fl2 rfl) (xl3.ty ty4) (xl3.ty tqr1) (xl3.ty ty5) (X4.trans xl4) (nw4.call xl4 nxh2) (fun F5 ty6 ty7 ty8 X5 nw5 => ?_)
  refine c_st (st2 := [.ref qn2, .ref a0]) rfl ?_
  obtain ⟨bexf2, exf2x, exf2r, exf2t, exf2l, exf2i, exf2j⟩ := exf2
  refine hv2 (show ∀ k, ([1] : List Nat).contains k = false → rvh2 qn2 k = none from fun k hk => (Eq.trans (show rvh2 qn2 k = rvn2 qn2 k from (exf2x k hk)) (show rvn2 qn2 k = none from (by rw [hrn2]; exact up0_s)))) (xl4.ty tqn2) (fun rn2 ty9 => ?_)
  refine c_retag (q := qn2) (t := 3) (by rw [ty9.2]; rfl) (fun clr2 hcr2 => ?_)
  refine hv6 (xl4.ty ty6) (xl4.ty ty7) (xl4.ty ty8) (ty_rt exf2t hcr2 (ne_ty exf2t ty9 (by decide))) (show ty Lh2 clr2 qn2 3 from ⟨ty9.1, by rw [hcr2, va_up_self]; rfl⟩) (NW.no nw5 X5 (hnt 3 (by decide)) (by decide)) (fun ty10 ty12 ty14 ty16 tqr2 hno2 => ?_)
  refine hv3 (ty_rt ty10 hcr2 (ne_ty ty10 ty9 (by decide))) (ty_rt ty12 hcr2 (ne_ty ty12 ty9 (by decide))) (ty_rt ty14 hcr2 (ne_ty ty14 ty9 (by decide))) (fun ty11 ty13 ty15 => ?_)
  have W7 := W6.retagU ty9.1 (by rw [ty9.2]; rfl) hcr2 (fun k => by
        rcases k with _ | _ | _ | k
        · exact ⟨(by show 500 ≤ ivh2 qn2 0; first | exact bx_lo ‹ivh2 qn2 0 = _› (by decide) | omega), (by show ivh2 qn2 0 ≤ 500; first | exact bx_hi ‹ivh2 qn2 0 = _› (by decide) | omega)⟩
        · exact W6.int ty9 1
        · exact ⟨(by show 0 ≤ ivh2 qn2 2; first | exact bx_lo ‹ivh2 qn2 2 = _› (by decide) | omega), (by show ivh2 qn2 2 ≤ 500; first | exact bx_hi ‹ivh2 qn2 2 = _› (by decide) | omega)⟩
        · exact W6.int ty9 (k + 3)) (fun k => by
        rcases k with _ | _ | _ | k
        · rw [rn2 0 (by decide)]; exact rok_none tqr2 rfl
        · rw [exf2r]; exact rok_some tqr2 ty16 rfl (by decide) rfl
        · rw [rn2 2 (by decide)]; exact rok_none tqr2 rfl
        · rw [rn2 (k + 3) (by simp)]; exact rok_none tqr2 rfl) (fun z => by cases z) (fun _ b hb => by rw [exf2r] at hb; cases hb; exact Or.inr ⟨exf2t.1, by omega⟩) (fun z => by cases z) hno2
  refine hv3 (nw5.rt hcr2) (X5.rt hcr2 h0qn2) (show clr2 qn2 = 3 from by rw [hcr2]; exact va_up_self _ _ _) (fun nw6 X6 ctr2 => ?_)
  refine c_putrF (x := (some qn2)) (k := 1) C ck_12 dX11_init_29 w2_45 (by decide) rfl rfl rfl ty11 rfl rfl (by decide) rfl (by rfl) (by rfl) (fun rv2 pq2 => ⟨102, (zp2 (Nat.le_refl _)), ?_⟩)
  refine hv2 (W7.putr pq2 ty11 (fun qr => by rw [ty11.2] at qr; cases qr) rfl (by decide)) (F5.putr X6 pq2 ty11 rfl) (fun W8 F6 => ?_)
  refine c_aload_n (j := 0) (x := a0) C dX11_init_32 rfl ?_
  refine c_new C ck_2 dv_2 ⟨rfl, rfl⟩ rfl (by decide) dX11_init_33 w1_32 w1_33 w1_2 (rom2 hph (Nat.le_refl 0) (by decide)) (fun qn3 cln3 lnn3 ivn3 rvn3 hqn3 hcn3 hln3 hin3 hrn3 => ⟨121, (z_in (by omega)), ?_⟩)
  refine c_g0 C (fun hg3 => ?_)
  refine hv4 (show ∀ b, b ≠ qn3 → lnn3 b = lnh2 b from (fun b _ => by rw [hln3])) (F6.new X6 hqn3 hin3 hrn3) (show ty (Lh2 ++ [qn3]) cln3 qn3 202 from ty_new hcn3) (show qn3 ∉ L from fun h => hqn3 ((X6 qn3 h).1)) (fun hxn3 F7 tqn3 h0qn3 => ?_)
  refine hv2 (W8.new (ln2 := lnn3) hqn3 (hg3 qn3 (List.mem_append_right _ List.mem_cons_self)) hcn3 hxn3 hin3 hrn3 (fun _ => ⟨(show (-2147483648 : Int) ≤ 0 by decide), (show (0 : Int) ≤ 2147483647 by decide)⟩) (Or.inl rfl) (fun q => by cases q) rfl rfl) (XT.new hqn3 hcn3 hxn3) (fun W9 xl5 => ?_)
  refine hv2 (X6.trans xl5) (nw6.new xl5 hcn3) (fun X7 nw7 => ?_)
  refine c_dup C dX11_init_36 rfl ?_
  refine c_sipush (z := 4000) C dX11_init_37 (by decide) ?_
  refine c_callI (As := [.int (iI 4000)]) (rest := [.ref qn3, .ref a0]) C hM (Y_ints_4 (a0 := qn3) (i := 4000) W9  tqn3 ⟨by decide, by decide⟩ ) dX11_init_40 kI_X11_11 rfl rfl (Nat.le_of_ble_eq_true rfl) ⟨(Nat.le_of_ble_eq_true rfl), (Nat.le_of_ble_eq_true rfl)⟩ (rz0 hph (by decide)) (fun rh3 Lh3 clh3 lnh3 ivh3 rvh3 h3 => ⟨153, zk0, ?_⟩)
  obtain ⟨rfl, xl6, fl3, W10, exf3, nxh3⟩ := h3
  refine hv8 (F7.call X7 fl3 rfl) (xl5.ty ty11) (xl5.ty ty13) (xl5.ty ty15) (xl5.ty tqr2) (xl5.ty ty16) (X7.trans xl6) (nw7.call xl6 nxh3) (fun F8 ty17 ty18 ty19 ty20 ty21 X8 nw8 => ?_)
  refine c_st (st2 := [.ref qn3, .ref a0]) rfl ?_
  obtain ⟨bexf3, exf3x, exf3r, exf3t, exf3l, exf3i, exf3j⟩ := exf3
  refine hv2 (show ∀ k, ([1] : List Nat).contains k = false → rvh3 qn3 k = none from fun k hk => (Eq.trans (show rvh3 qn3 k = rvn3 qn3 k from (exf3x k hk)) (show rvn3 qn3 k = none from (by rw [hrn3]; exact up0_s)))) (xl6.ty tqn3) (fun rn3 ty22 => ?_)
  refine c_retag (q := qn3) (t := 4) (by rw [ty22.2]; rfl) (fun clr3 hcr3 => ?_)
  refine hv8 (xl6.ty ty17) (xl6.ty ty18) (xl6.ty ty19) (xl6.ty ty20) (xl6.ty ty21) (ty_rt exf3t hcr3 (ne_ty exf3t ty22 (by decide))) (show ty Lh3 clr3 qn3 4 from ⟨ty22.1, by rw [hcr3, va_up_self]; rfl⟩) (NW.no nw8 X8 (hnt 4 (by decide)) (by decide)) (fun ty23 ty25 ty27 ty29 ty31 ty33 tqr3 hno3 => ?_)
  refine hv5 (ty_rt ty23 hcr3 (ne_ty ty23 ty22 (by decide))) (ty_rt ty25 hcr3 (ne_ty ty25 ty22 (by decide))) (ty_rt ty27 hcr3 (ne_ty ty27 ty22 (by decide))) (ty_rt ty29 hcr3 (ne_ty ty29 ty22 (by decide))) (ty_rt ty31 hcr3 (ne_ty ty31 ty22 (by decide))) (fun ty24 ty26 ty28 ty30 ty32 => ?_)
  have W11 := W10.retagU ty22.1 (by rw [ty22.2]; rfl) hcr3 (fun k => by
        rcases k with _ | _ | _ | k
        · exact ⟨(by show 4000 ≤ ivh3 qn3 0; first | exact bx_lo ‹ivh3 qn3 0 = _› (by decide) | omega), (by show ivh3 qn3 0 ≤ 4000; first | exact bx_hi ‹ivh3 qn3 0 = _› (by decide) | omega)⟩
        · exact W10.int ty22 1
        · exact ⟨(by show 0 ≤ ivh3 qn3 2; first | exact bx_lo ‹ivh3 qn3 2 = _› (by decide) | omega), (by show ivh3 qn3 2 ≤ 4000; first | exact bx_hi ‹ivh3 qn3 2 = _› (by decide) | omega)⟩
        · exact W10.int ty22 (k + 3)) (fun k => by
        rcases k with _ | _ | _ | k
        · rw [rn3 0 (by decide)]; exact rok_none tqr3 rfl
        · rw [exf3r]; exact rok_some tqr3 ty33 rfl (by decide) rfl
        · rw [rn3 2 (by decide)]; exact rok_none tqr3 rfl
        · rw [rn3 (k + 3) (by simp)]; exact rok_none tqr3 rfl) (fun z => by cases z) (fun _ b hb => by rw [exf3r] at hb; cases hb; exact Or.inr ⟨exf3t.1, by omega⟩) (fun z => by cases z) hno3
  refine hv3 (nw8.rt hcr3) (X8.rt hcr3 h0qn3) (show clr3 qn3 = 4 from by rw [hcr3]; exact va_up_self _ _ _) (fun nw9 X9 ctr3 => ?_)
  refine c_putrF (x := (some qn3)) (k := 2) C ck_12 dX11_init_43 w2_46 (by decide) rfl rfl rfl ty24 rfl rfl (by decide) rfl (by rfl) (by rfl) (fun rv3 pq3 => ⟨153, (zp2 (Nat.le_refl _)), ?_⟩)
  refine hv2 (W11.putr pq3 ty24 (fun qr => by rw [ty24.2] at qr; cases qr) rfl (by decide)) (F8.putr X9 pq3 ty24 rfl) (fun W12 F9 => ?_)
  refine c_aload_n (j := 0) (x := a0) C dX11_init_46 rfl ?_
  refine c_new C ck_2 dv_2 ⟨rfl, rfl⟩ rfl (by decide) dX11_init_47 w1_32 w1_33 w1_2 (rom2 hph (Nat.le_refl 0) (by decide)) (fun qn4 cln4 lnn4 ivn4 rvn4 hqn4 hcn4 hln4 hin4 hrn4 => ⟨172, (z_in (by omega)), ?_⟩)
  refine c_g0 C (fun hg4 => ?_)
  refine hv4 (show ∀ b, b ≠ qn4 → lnn4 b = lnh3 b from (fun b _ => by rw [hln4])) (F9.new X9 hqn4 hin4 hrn4) (show ty (Lh3 ++ [qn4]) cln4 qn4 202 from ty_new hcn4) (show qn4 ∉ L from fun h => hqn4 ((X9 qn4 h).1)) (fun hxn4 F10 tqn4 h0qn4 => ?_)
  refine hv2 (W12.new (ln2 := lnn4) hqn4 (hg4 qn4 (List.mem_append_right _ List.mem_cons_self)) hcn4 hxn4 hin4 hrn4 (fun _ => ⟨(show (-2147483648 : Int) ≤ 0 by decide), (show (0 : Int) ≤ 2147483647 by decide)⟩) (Or.inl rfl) (fun q => by cases q) rfl rfl) (XT.new hqn4 hcn4 hxn4) (fun W13 xl7 => ?_)
  refine hv2 (X9.trans xl7) (nw9.new xl7 hcn4) (fun X10 nw10 => ?_)
  refine c_dup C dX11_init_50 rfl ?_
  refine c_sipush (z := 200) C dX11_init_51 (by decide) ?_
  refine c_callI (As := [.int (iI 200)]) (rest := [.ref qn4, .ref a0]) C hM (Y_ints_5 (a0 := qn4) (i := 200) W13  tqn4 ⟨by decide, by decide⟩ ) dX11_init_54 kI_X11_11 rfl rfl (Nat.le_of_ble_eq_true rfl) ⟨(Nat.le_of_ble_eq_true rfl), (Nat.le_of_ble_eq_true rfl)⟩ (rz0 hph (by decide)) (fun rh4 Lh4 clh4 lnh4 ivh4 rvh4 h4 => ⟨204, zk0, ?_⟩)
  obtain ⟨rfl, xl8, fl4, W14, exf4, nxh4⟩ := h4
  refine hv10 (F10.call X10 fl4 rfl) (xl7.ty ty24) (xl7.ty ty26) (xl7.ty ty28) (xl7.ty ty30) (xl7.ty ty32) (xl7.ty tqr3) (xl7.ty ty33) (X10.trans xl8) (nw10.call xl8 nxh4) (fun F11 ty34 ty35 ty36 ty37 ty38 ty39 ty40 X11 nw11 => ?_)
  refine c_st (st2 := [.ref qn4, .ref a0]) rfl ?_
  obtain ⟨bexf4, exf4x, exf4r, exf4t, exf4l, exf4i, exf4j⟩ := exf4
  refine hv2 (show ∀ k, ([1] : List Nat).contains k = false → rvh4 qn4 k = none from fun k hk => (Eq.trans (show rvh4 qn4 k = rvn4 qn4 k from (exf4x k hk)) (show rvn4 qn4 k = none from (by rw [hrn4]; exact up0_s)))) (xl8.ty tqn4) (fun rn4 ty41 => ?_)
  refine c_retag (q := qn4) (t := 5) (by rw [ty41.2]; rfl) (fun clr4 hcr4 => ?_)
  refine hv10 (xl8.ty ty34) (xl8.ty ty35) (xl8.ty ty36) (xl8.ty ty37) (xl8.ty ty38) (xl8.ty ty39) (xl8.ty ty40) (ty_rt exf4t hcr4 (ne_ty exf4t ty41 (by decide))) (show ty Lh4 clr4 qn4 5 from ⟨ty41.1, by rw [hcr4, va_up_self]; rfl⟩) (NW.no nw11 X11 (hnt 5 (by decide)) (by decide)) (fun ty42 ty44 ty46 ty48 ty50 ty52 ty54 ty56 tqr4 hno4 => ?_)
  refine hv7 (ty_rt ty42 hcr4 (ne_ty ty42 ty41 (by decide))) (ty_rt ty44 hcr4 (ne_ty ty44 ty41 (by decide))) (ty_rt ty46 hcr4 (ne_ty ty46 ty41 (by decide))) (ty_rt ty48 hcr4 (ne_ty ty48 ty41 (by decide))) (ty_rt ty50 hcr4 (ne_ty ty50 ty41 (by decide))) (ty_rt ty52 hcr4 (ne_ty ty52 ty41 (by decide))) (ty_rt ty54 hcr4 (ne_ty ty54 ty41 (by decide))) (fun ty43 ty45 ty47 ty49 ty51 ty53 ty55 => ?_)
  have W15 := W14.retagU ty41.1 (by rw [ty41.2]; rfl) hcr4 (fun k => by
        rcases k with _ | _ | _ | k
        · exact ⟨(by show 200 ≤ ivh4 qn4 0; first | exact bx_lo ‹ivh4 qn4 0 = _› (by decide) | omega), (by show ivh4 qn4 0 ≤ 200; first | exact bx_hi ‹ivh4 qn4 0 = _› (by decide) | omega)⟩
        · exact W14.int ty41 1
        · exact ⟨(by show 0 ≤ ivh4 qn4 2; first | exact bx_lo ‹ivh4 qn4 2 = _› (by decide) | omega), (by show ivh4 qn4 2 ≤ 200; first | exact bx_hi ‹ivh4 qn4 2 = _› (by decide) | omega)⟩
        · exact W14.int ty41 (k + 3)) (fun k => by
        rcases k with _ | _ | _ | k
        · rw [rn4 0 (by decide)]; exact rok_none tqr4 rfl
        · rw [exf4r]; exact rok_some tqr4 ty56 rfl (by decide) rfl
        · rw [rn4 2 (by decide)]; exact rok_none tqr4 rfl
        · rw [rn4 (k + 3) (by simp)]; exact rok_none tqr4 rfl) (fun z => by cases z) (fun _ b hb => by rw [exf4r] at hb; cases hb; exact Or.inr ⟨exf4t.1, by omega⟩) (fun z => by cases z) hno4
  refine hv3 (nw11.rt hcr4) (X11.rt hcr4 h0qn4) (show clr4 qn4 = 5 from by rw [hcr4]; exact va_up_self _ _ _) (fun nw12 X12 ctr4 => ?_)
  refine c_putrF (x := (some qn4)) (k := 3) C ck_12 dX11_init_57 w2_47 (by decide) rfl rfl rfl ty43 rfl rfl (by decide) rfl (by rfl) (by rfl) (fun rv4 pq4 => ⟨204, (zp2 (Nat.le_refl _)), ?_⟩)
  refine hv2 (W15.putr pq4 ty43 (fun qr => by rw [ty43.2] at qr; cases qr) rfl (by decide)) (F11.putr X12 pq4 ty43 rfl) (fun W16 F12 => ?_)
  refine c_aload_n (j := 0) (x := a0) C dX11_init_60 rfl ?_
  refine c_new C ck_11 dv_11 ⟨rfl, rfl⟩ rfl (by decide) dX11_init_61 w1_58 w1_59 w1_3 (rom2 hph (Nat.le_refl 0) (by decide)) (fun qn5 cln5 lnn5 ivn5 rvn5 hqn5 hcn5 hln5 hin5 hrn5 => ⟨222, (z_in (by omega)), ?_⟩)
  refine c_g0 C (fun hg5 => ?_)
  refine hv4 (show ∀ b, b ≠ qn5 → lnn5 b = lnh4 b from (fun b _ => by rw [hln5])) (F12.new X12 hqn5 hin5 hrn5) (show ty (Lh4 ++ [qn5]) cln5 qn5 211 from ty_new hcn5) (show qn5 ∉ L from fun h => hqn5 ((X12 qn5 h).1)) (fun hxn5 F13 tqn5 h0qn5 => ?_)
  refine hv2 (W16.new (ln2 := lnn5) hqn5 (hg5 qn5 (List.mem_append_right _ List.mem_cons_self)) hcn5 hxn5 hin5 hrn5 (fun _ => ⟨(show (-2147483648 : Int) ≤ 0 by decide), (show (0 : Int) ≤ 2147483647 by decide)⟩) (Or.inl rfl) (fun q => by cases q) rfl rfl) (XT.new hqn5 hcn5 hxn5) (fun W17 xl9 => ?_)
  refine hv2 (X12.trans xl9) (nw12.new xl9 hcn5) (fun X13 nw13 => ?_)
  refine c_dup C dX11_init_64 rfl ?_
  refine c_callIN (As := []) (rest := [.ref qn5, .ref a0]) C hM (Y_tables (a0 := qn5) W17 (NW.nos (P := uq) nw13 X13 hnt (by decide)) tqn5  ) dX11_init_65 kN_X11_29 rfl rfl (Nat.le_of_ble_eq_true rfl) ⟨(Nat.le_of_ble_eq_true rfl), (Nat.le_of_ble_eq_true rfl)⟩ (rz0 hph (by decide)) (fun rh5 Lh5 clh5 lnh5 ivh5 rvh5 h5 => ⟨260, zk0, ?_⟩)
  obtain ⟨skh5, rfl, xl10, fl5, W18, exf5, nxh5⟩ := h5
  refine hv12 (F13.call X13 fl5 rfl) (xl9.ty ty43) (xl9.ty ty45) (xl9.ty ty47) (xl9.ty ty49) (xl9.ty ty51) (xl9.ty ty53) (xl9.ty ty55) (xl9.ty tqr4) (xl9.ty ty56) (X13.trans xl10) (nw13.call xl10 nxh5) (fun F14 ty57 ty58 ty59 ty60 ty61 ty62 ty63 ty64 ty65 X14 nw14 => ?_)
  refine c_st (st2 := [.ref qn5, .ref a0]) rfl ?_
  obtain ⟨b0exf5, b1exf5, exf5x, exf5r0, exf5t0, exf5r1, exf5t1, exf5j0, exf5j1⟩ := exf5
  refine hv2 (show ∀ k, ([0, 1] : List Nat).contains k = false → rvh5 qn5 k = none from fun k hk => (Eq.trans (show rvh5 qn5 k = rvn5 qn5 k from (exf5x k hk)) (show rvn5 qn5 k = none from (by rw [hrn5]; exact up0_s)))) (xl10.ty tqn5) (fun rn5 ty66 => ?_)
  refine c_retag (q := qn5) (t := 13) (by rw [ty66.2]; rfl) (fun clr5 hcr5 => ?_)
  refine hv13 (xl10.ty ty57) (xl10.ty ty58) (xl10.ty ty59) (xl10.ty ty60) (xl10.ty ty61) (xl10.ty ty62) (xl10.ty ty63) (xl10.ty ty64) (xl10.ty ty65) (ty_rt exf5t0 hcr5 (ne_ty exf5t0 ty66 (by decide))) (ty_rt exf5t1 hcr5 (ne_ty exf5t1 ty66 (by decide))) (show ty Lh5 clr5 qn5 13 from ⟨ty66.1, by rw [hcr5, va_up_self]; rfl⟩) (NW.no nw14 X14 (hnt 13 (by decide)) (by decide)) (fun ty67 ty69 ty71 ty73 ty75 ty77 ty79 ty81 ty83 ty85 ty86 tqr5 hno5 => ?_)
  refine hv9 (ty_rt ty67 hcr5 (ne_ty ty67 ty66 (by decide))) (ty_rt ty69 hcr5 (ne_ty ty69 ty66 (by decide))) (ty_rt ty71 hcr5 (ne_ty ty71 ty66 (by decide))) (ty_rt ty73 hcr5 (ne_ty ty73 ty66 (by decide))) (ty_rt ty75 hcr5 (ne_ty ty75 ty66 (by decide))) (ty_rt ty77 hcr5 (ne_ty ty77 ty66 (by decide))) (ty_rt ty79 hcr5 (ne_ty ty79 ty66 (by decide))) (ty_rt ty81 hcr5 (ne_ty ty81 ty66 (by decide))) (ty_rt ty83 hcr5 (ne_ty ty83 ty66 (by decide))) (fun ty68 ty70 ty72 ty74 ty76 ty78 ty80 ty82 ty84 => ?_)
  have W19 := W18.retagU ty66.1 (by rw [ty66.2]; rfl) hcr5 (fun k => by
        rcases k with _ | _ | k
        · exact W18.int ty66 0
        · exact W18.int ty66 1
        · exact W18.int ty66 (k + 2)) (fun k => by
        rcases k with _ | _ | k
        · rw [exf5r0]; exact rok_some tqr5 ty85 rfl (by decide) rfl
        · rw [exf5r1]; exact rok_some tqr5 ty86 rfl (by decide) rfl
        · rw [rn5 (k + 2) (by simp)]; exact rok_none tqr5 rfl) (fun z => by cases z) (fun z => by cases z) (fun z => by cases z) hno5
  refine hv3 (nw14.rt hcr5) (X14.rt hcr5 h0qn5) (show clr5 qn5 = 13 from by rw [hcr5]; exact va_up_self _ _ _) (fun nw15 X15 ctr5 => ?_)
  refine c_putrF (x := (some qn5)) (k := 4) C ck_12 dX11_init_68 w2_48 (by decide) rfl rfl rfl ty68 rfl rfl (by decide) rfl (by rfl) (by rfl) (fun rv5 pq5 => ⟨260, (zp2 (Nat.le_refl _)), ?_⟩)
  refine hv2 (W19.putr pq5 ty68 (fun qr => by rw [ty68.2] at qr; cases qr) rfl (by decide)) (F14.putr X15 pq5 ty68 rfl) (fun W20 F15 => ?_)
  refine c_aload_n (j := 0) (x := a0) C dX11_init_71 rfl ?_
  refine c_new C ck_9 dv_9 ⟨rfl, rfl⟩ rfl (by decide) dX11_init_72 w1_97 w1_98 w1_7 (rom2 hph (Nat.le_refl 0) (by decide)) (fun qn6 cln6 lnn6 ivn6 rvn6 hqn6 hcn6 hln6 hin6 hrn6 => ⟨284, (z_in (by omega)), ?_⟩)
  refine c_g0 C (fun hg6 => ?_)
  refine hv4 (show ∀ b, b ≠ qn6 → lnn6 b = lnh5 b from (fun b _ => by rw [hln6])) (F15.new X15 hqn6 hin6 hrn6) (show ty (Lh5 ++ [qn6]) cln6 qn6 209 from ty_new hcn6) (show qn6 ∉ L from fun h => hqn6 ((X15 qn6 h).1)) (fun hxn6 F16 tqn6 h0qn6 => ?_)
  refine hv2 (W20.new (ln2 := lnn6) hqn6 (hg6 qn6 (List.mem_append_right _ List.mem_cons_self)) hcn6 hxn6 hin6 hrn6 (fun _ => ⟨(show (-2147483648 : Int) ≤ 0 by decide), (show (0 : Int) ≤ 2147483647 by decide)⟩) (Or.inl rfl) (fun q => by cases q) rfl rfl) (XT.new hqn6 hcn6 hxn6) (fun W21 xl11 => ?_)
  refine hv2 (X15.trans xl11) (nw15.new xl11 hcn6) (fun X16 nw16 => ?_)
  refine c_dup C dX11_init_75 rfl ?_
  refine c_callIN (As := []) (rest := [.ref qn6, .ref a0]) C hM (Y_source (a0 := qn6) W21  tqn6  ) dX11_init_76 kN_X11_36 rfl rfl (Nat.le_of_ble_eq_true rfl) ⟨(Nat.le_of_ble_eq_true rfl), (Nat.le_of_ble_eq_true rfl)⟩ (rz0 hph (by decide)) (fun rh6 Lh6 clh6 lnh6 ivh6 rvh6 h6 => ⟨590, zk0, ?_⟩)
  obtain ⟨rfl, xl12, fl6, W22, exf6, nxh6⟩ := h6
  refine hv15 (F16.call X16 fl6 rfl) (xl11.ty ty68) (xl11.ty ty70) (xl11.ty ty72) (xl11.ty ty74) (xl11.ty ty76) (xl11.ty ty78) (xl11.ty ty80) (xl11.ty ty82) (xl11.ty ty84) (xl11.ty tqr5) (xl11.ty ty85) (xl11.ty ty86) (X16.trans xl12) (nw16.call xl12 nxh6) (fun F17 ty87 ty88 ty89 ty90 ty91 ty92 ty93 ty94 ty95 ty96 ty97 ty98 X17 nw17 => ?_)
  refine c_st (st2 := [.ref qn6, .ref a0]) rfl ?_
  obtain ⟨b3exf6, b4exf6, b6exf6, exf6x, exf6r3, exf6t3, exf6r4, exf6t4, exf6r6, exf6t6, exf6i0, exf6i1, exf6i2, exf6i5, exf6i7⟩ := exf6
  refine hv2 (show ∀ k, ([3, 4, 6] : List Nat).contains k = false → rvh6 qn6 k = none from fun k hk => (Eq.trans (show rvh6 qn6 k = rvn6 qn6 k from (exf6x k hk)) (show rvn6 qn6 k = none from (by rw [hrn6]; exact up0_s)))) (xl12.ty tqn6) (fun rn6 ty99 => ?_)
  refine c_retag (q := qn6) (t := 14) (by rw [ty99.2]; rfl) (fun clr6 hcr6 => ?_)
  refine hv17 (xl12.ty ty87) (xl12.ty ty88) (xl12.ty ty89) (xl12.ty ty90) (xl12.ty ty91) (xl12.ty ty92) (xl12.ty ty93) (xl12.ty ty94) (xl12.ty ty95) (xl12.ty ty96) (xl12.ty ty97) (xl12.ty ty98) (ty_rt exf6t3 hcr6 (ne_ty exf6t3 ty99 (by decide))) (ty_rt exf6t4 hcr6 (ne_ty exf6t4 ty99 (by decide))) (ty_rt exf6t6 hcr6 (ne_ty exf6t6 ty99 (by decide))) (show ty Lh6 clr6 qn6 14 from ⟨ty99.1, by rw [hcr6, va_up_self]; rfl⟩) (NW.no nw17 X17 (hnt 14 (by decide)) (by decide)) (fun ty100 ty102 ty104 ty106 ty108 ty110 ty112 ty114 ty116 ty118 ty120 ty122 ty124 ty125 ty126 tqr6 hno6 => ?_)
  refine hv12 (ty_rt ty100 hcr6 (ne_ty ty100 ty99 (by decide))) (ty_rt ty102 hcr6 (ne_ty ty102 ty99 (by decide))) (ty_rt ty104 hcr6 (ne_ty ty104 ty99 (by decide))) (ty_rt ty106 hcr6 (ne_ty ty106 ty99 (by decide))) (ty_rt ty108 hcr6 (ne_ty ty108 ty99 (by decide))) (ty_rt ty110 hcr6 (ne_ty ty110 ty99 (by decide))) (ty_rt ty112 hcr6 (ne_ty ty112 ty99 (by decide))) (ty_rt ty114 hcr6 (ne_ty ty114 ty99 (by decide))) (ty_rt ty116 hcr6 (ne_ty ty116 ty99 (by decide))) (ty_rt ty118 hcr6 (ne_ty ty118 ty99 (by decide))) (ty_rt ty120 hcr6 (ne_ty ty120 ty99 (by decide))) (ty_rt ty122 hcr6 (ne_ty ty122 ty99 (by decide))) (fun ty101 ty103 ty105 ty107 ty109 ty111 ty113 ty115 ty117 ty119 ty121 ty123 => ?_)
  have W23 := W22.retagU ty99.1 (by rw [ty99.2]; rfl) hcr6 (fun k => by
        rcases k with _ | _ | _ | _ | _ | _ | _ | _ | k
        · exact W22.int ty99 0
        · exact ⟨(by show 0 ≤ ivh6 qn6 1; first | exact bx_lo ‹ivh6 qn6 1 = _› (by decide) | omega), (by show ivh6 qn6 1 ≤ 1; first | exact bx_hi ‹ivh6 qn6 1 = _› (by decide) | omega)⟩
        · exact ⟨(by show 0 ≤ ivh6 qn6 2; first | exact bx_lo ‹ivh6 qn6 2 = _› (by decide) | omega), (by show ivh6 qn6 2 ≤ 1; first | exact bx_hi ‹ivh6 qn6 2 = _› (by decide) | omega)⟩
        · exact W22.int ty99 3
        · exact W22.int ty99 4
        · exact ⟨(by show 0 ≤ ivh6 qn6 5; first | exact bx_lo ‹ivh6 qn6 5 = _› (by decide) | omega), (by show ivh6 qn6 5 ≤ 126; first | exact bx_hi ‹ivh6 qn6 5 = _› (by decide) | omega)⟩
        · exact W22.int ty99 6
        · exact ⟨(by show 0 ≤ ivh6 qn6 7; first | exact bx_lo ‹ivh6 qn6 7 = _› (by decide) | omega), (by show ivh6 qn6 7 ≤ 6; first | exact bx_hi ‹ivh6 qn6 7 = _› (by decide) | omega)⟩
        · exact W22.int ty99 (k + 8)) (fun k => by
        rcases k with _ | _ | _ | _ | _ | _ | _ | _ | k
        · rw [rn6 0 (by decide)]; exact rok_none tqr6 rfl
        · rw [rn6 1 (by decide)]; exact rok_none tqr6 rfl
        · rw [rn6 2 (by decide)]; exact rok_none tqr6 rfl
        · rw [exf6r3]; exact rok_some tqr6 ty124 rfl (by decide) rfl
        · rw [exf6r4]; exact rok_some tqr6 ty125 rfl (by decide) rfl
        · rw [rn6 5 (by decide)]; exact rok_none tqr6 rfl
        · rw [exf6r6]; exact rok_some tqr6 ty126 rfl (by decide) rfl
        · rw [rn6 7 (by decide)]; exact rok_none tqr6 rfl
        · rw [rn6 (k + 8) (by simp)]; exact rok_none tqr6 rfl) (fun z => by cases z) (fun z => by cases z) (fun z => by cases z) hno6
  refine hv3 (nw17.rt hcr6) (X17.rt hcr6 h0qn6) (show clr6 qn6 = 14 from by rw [hcr6]; exact va_up_self _ _ _) (fun nw18 X18 ctr6 => ?_)
  refine c_putrF (x := (some qn6)) (k := 5) C ck_12 dX11_init_79 w2_49 (by decide) rfl rfl rfl ty101 rfl rfl (by decide) rfl (by rfl) (by rfl) (fun rv6 pq6 => ⟨590, (zp2 (Nat.le_refl _)), ?_⟩)
  refine hv2 (W23.putr pq6 ty101 (fun qr => by rw [ty101.2] at qr; cases qr) rfl (by decide)) (F17.putr X18 pq6 ty101 rfl) (fun W24 F18 => ?_)
  refine c_aload_n (j := 0) (x := a0) C dX11_init_82 rfl ?_
  refine c_new C ck_7 dv_7 ⟨rfl, rfl⟩ rfl (by decide) dX11_init_83 w1_130 w1_131 w1_8 (rom2 hph (Nat.le_refl 0) (by decide)) (fun qn7 cln7 lnn7 ivn7 rvn7 hqn7 hcn7 hln7 hin7 hrn7 => ⟨618, (z_in (by omega)), ?_⟩)
  refine c_g0 C (fun hg7 => ?_)
  refine hv4 (show ∀ b, b ≠ qn7 → lnn7 b = lnh6 b from (fun b _ => by rw [hln7])) (F18.new X18 hqn7 hin7 hrn7) (show ty (Lh6 ++ [qn7]) cln7 qn7 207 from ty_new hcn7) (show qn7 ∉ L from fun h => hqn7 ((X18 qn7 h).1)) (fun hxn7 F19 tqn7 h0qn7 => ?_)
  refine hv2 (W24.new (ln2 := lnn7) hqn7 (hg7 qn7 (List.mem_append_right _ List.mem_cons_self)) hcn7 hxn7 hin7 hrn7 (fun _ => ⟨(show (-2147483648 : Int) ≤ 0 by decide), (show (0 : Int) ≤ 2147483647 by decide)⟩) (Or.inl rfl) (fun q => by cases q) rfl rfl) (XT.new hqn7 hcn7 hxn7) (fun W25 xl13 => ?_)
  refine hv2 (X18.trans xl13) (nw18.new xl13 hcn7) (fun X19 nw19 => ?_)
  refine c_dup C dX11_init_86 rfl ?_
  refine c_callIN (As := []) (rest := [.ref qn7, .ref a0]) C hM (Y_setting (a0 := qn7) W25  tqn7  ) dX11_init_87 kN_X11_43 rfl rfl (Nat.le_of_ble_eq_true rfl) ⟨(Nat.le_of_ble_eq_true rfl), (Nat.le_of_ble_eq_true rfl)⟩ (rz0 hph (by decide)) (fun rh7 Lh7 clh7 lnh7 ivh7 rvh7 h7 => ⟨2919, zk0, ?_⟩)
  obtain ⟨rfl, xl14, fl7, W26, exf7, nxh7⟩ := h7
  refine hv19 (F19.call X19 fl7 rfl) (xl13.ty ty101) (xl13.ty ty103) (xl13.ty ty105) (xl13.ty ty107) (xl13.ty ty109) (xl13.ty ty111) (xl13.ty ty113) (xl13.ty ty115) (xl13.ty ty117) (xl13.ty ty119) (xl13.ty ty121) (xl13.ty ty123) (xl13.ty tqr6) (xl13.ty ty124) (xl13.ty ty125) (xl13.ty ty126) (X19.trans xl14) (nw19.call xl14 nxh7) (fun F20 ty127 ty128 ty129 ty130 ty131 ty132 ty133 ty134 ty135 ty136 ty137 ty138 ty139 ty140 ty141 ty142 X20 nw20 => ?_)
  refine c_st (st2 := [.ref qn7, .ref a0]) rfl ?_
  obtain ⟨b0exf7, b1exf7, b2exf7, b3exf7, b6exf7, b8exf7, exf7x, exf7r0, exf7t0, exf7r1, exf7t1, exf7r2, exf7t2, exf7r3, exf7t3, exf7r6, exf7t6, exf7r8, exf7t8, exf7i4, exf7i5, exf7i7, exf7i9, exf7i10, exf7i11⟩ := exf7
  refine hv2 (show ∀ k, ([0, 1, 2, 3, 6, 8] : List Nat).contains k = false → rvh7 qn7 k = none from fun k hk => (Eq.trans (show rvh7 qn7 k = rvn7 qn7 k from (exf7x k hk)) (show rvn7 qn7 k = none from (by rw [hrn7]; exact up0_s)))) (xl14.ty tqn7) (fun rn7 ty143 => ?_)
  refine c_retag (q := qn7) (t := 15) (by rw [ty143.2]; rfl) (fun clr7 hcr7 => ?_)
  refine hv24 (xl14.ty ty127) (xl14.ty ty128) (xl14.ty ty129) (xl14.ty ty130) (xl14.ty ty131) (xl14.ty ty132) (xl14.ty ty133) (xl14.ty ty134) (xl14.ty ty135) (xl14.ty ty136) (xl14.ty ty137) (xl14.ty ty138) (xl14.ty ty139) (xl14.ty ty140) (xl14.ty ty141) (xl14.ty ty142) (ty_rt exf7t0 hcr7 (ne_ty exf7t0 ty143 (by decide))) (ty_rt exf7t1 hcr7 (ne_ty exf7t1 ty143 (by decide))) (ty_rt exf7t2 hcr7 (ne_ty exf7t2 ty143 (by decide))) (ty_rt exf7t3 hcr7 (ne_ty exf7t3 ty143 (by decide))) (ty_rt exf7t6 hcr7 (ne_ty exf7t6 ty143 (by decide))) (ty_rt exf7t8 hcr7 (ne_ty exf7t8 ty143 (by decide))) (show ty Lh7 clr7 qn7 15 from ⟨ty143.1, by rw [hcr7, va_up_self]; rfl⟩) (NW.no nw20 X20 (hnt 15 (by decide)) (by decide)) (fun ty144 ty146 ty148 ty150 ty152 ty154 ty156 ty158 ty160 ty162 ty164 ty166 ty168 ty170 ty172 ty174 ty176 ty177 ty178 ty179 ty180 ty181 tqr7 hno7 => ?_)
  refine hv16 (ty_rt ty144 hcr7 (ne_ty ty144 ty143 (by decide))) (ty_rt ty146 hcr7 (ne_ty ty146 ty143 (by decide))) (ty_rt ty148 hcr7 (ne_ty ty148 ty143 (by decide))) (ty_rt ty150 hcr7 (ne_ty ty150 ty143 (by decide))) (ty_rt ty152 hcr7 (ne_ty ty152 ty143 (by decide))) (ty_rt ty154 hcr7 (ne_ty ty154 ty143 (by decide))) (ty_rt ty156 hcr7 (ne_ty ty156 ty143 (by decide))) (ty_rt ty158 hcr7 (ne_ty ty158 ty143 (by decide))) (ty_rt ty160 hcr7 (ne_ty ty160 ty143 (by decide))) (ty_rt ty162 hcr7 (ne_ty ty162 ty143 (by decide))) (ty_rt ty164 hcr7 (ne_ty ty164 ty143 (by decide))) (ty_rt ty166 hcr7 (ne_ty ty166 ty143 (by decide))) (ty_rt ty168 hcr7 (ne_ty ty168 ty143 (by decide))) (ty_rt ty170 hcr7 (ne_ty ty170 ty143 (by decide))) (ty_rt ty172 hcr7 (ne_ty ty172 ty143 (by decide))) (ty_rt ty174 hcr7 (ne_ty ty174 ty143 (by decide))) (fun ty145 ty147 ty149 ty151 ty153 ty155 ty157 ty159 ty161 ty163 ty165 ty167 ty169 ty171 ty173 ty175 => ?_)
  have W27 := W26.retagU ty143.1 (by rw [ty143.2]; rfl) hcr7 (fun k => by
        rcases k with _ | _ | _ | _ | _ | _ | _ | _ | _ | _ | _ | _ | k
        · exact W26.int ty143 0
        · exact W26.int ty143 1
        · exact W26.int ty143 2
        · exact W26.int ty143 3
        · exact ⟨(by show 0 ≤ ivh7 qn7 4; first | exact bx_lo ‹ivh7 qn7 4 = _› (by decide) | omega), (by show ivh7 qn7 4 ≤ 500; first | exact bx_hi ‹ivh7 qn7 4 = _› (by decide) | omega)⟩
        · exact ⟨(by show 0 ≤ ivh7 qn7 5; first | exact bx_lo ‹ivh7 qn7 5 = _› (by decide) | omega), (by show ivh7 qn7 5 ≤ 1; first | exact bx_hi ‹ivh7 qn7 5 = _› (by decide) | omega)⟩
        · exact W26.int ty143 6
        · exact ⟨(by show 0 ≤ ivh7 qn7 7; first | exact bx_lo ‹ivh7 qn7 7 = _› (by decide) | omega), (by show ivh7 qn7 7 ≤ 100000; first | exact bx_hi ‹ivh7 qn7 7 = _› (by decide) | omega)⟩
        · exact W26.int ty143 8
        · exact W26.int ty143 9
        · exact ⟨(by show 0 ≤ ivh7 qn7 10; first | exact bx_lo ‹ivh7 qn7 10 = _› (by decide) | omega), (by show ivh7 qn7 10 ≤ 500; first | exact bx_hi ‹ivh7 qn7 10 = _› (by decide) | omega)⟩
        · exact ⟨(by show 0 ≤ ivh7 qn7 11; first | exact bx_lo ‹ivh7 qn7 11 = _› (by decide) | omega), (by show ivh7 qn7 11 ≤ 500; first | exact bx_hi ‹ivh7 qn7 11 = _› (by decide) | omega)⟩
        · exact W26.int ty143 (k + 12)) (fun k => by
        rcases k with _ | _ | _ | _ | _ | _ | _ | _ | _ | _ | _ | _ | k
        · rw [exf7r0]; exact rok_some tqr7 ty176 rfl (by decide) rfl
        · rw [exf7r1]; exact rok_some tqr7 ty177 rfl (by decide) rfl
        · rw [exf7r2]; exact rok_some tqr7 ty178 rfl (by decide) rfl
        · rw [exf7r3]; exact rok_some tqr7 ty179 rfl (by decide) rfl
        · rw [rn7 4 (by decide)]; exact rok_none tqr7 rfl
        · rw [rn7 5 (by decide)]; exact rok_none tqr7 rfl
        · rw [exf7r6]; exact rok_some tqr7 ty180 rfl (by decide) rfl
        · rw [rn7 7 (by decide)]; exact rok_none tqr7 rfl
        · rw [exf7r8]; exact rok_some tqr7 ty181 rfl (by decide) rfl
        · rw [rn7 9 (by decide)]; exact rok_none tqr7 rfl
        · rw [rn7 10 (by decide)]; exact rok_none tqr7 rfl
        · rw [rn7 11 (by decide)]; exact rok_none tqr7 rfl
        · rw [rn7 (k + 12) (by simp)]; exact rok_none tqr7 rfl) (fun z => by cases z) (fun z => by cases z) (fun z => by cases z) hno7
  refine hv3 (nw20.rt hcr7) (X20.rt hcr7 h0qn7) (show clr7 qn7 = 15 from by rw [hcr7]; exact va_up_self _ _ _) (fun nw21 X21 ctr7 => ?_)
  refine c_putrF (x := (some qn7)) (k := 6) C ck_12 dX11_init_90 w2_50 (by decide) rfl rfl rfl ty145 rfl rfl (by decide) rfl (by rfl) (by rfl) (fun rv7 pq7 => ⟨2919, (zp2 (Nat.le_refl _)), ?_⟩)
  refine hv2 (W27.putr pq7 ty145 (fun qr => by rw [ty145.2] at qr; cases qr) rfl (by decide)) (F20.putr X21 pq7 ty145 rfl) (fun W28 F21 => ?_)
  refine c_aload_n (j := 0) (x := a0) C dX11_init_93 rfl ?_
  refine c_new C ck_4 dv_4 ⟨rfl, rfl⟩ rfl (by decide) dX11_init_94 w1_179 w1_180 w1_9 (rom2 hph (Nat.le_refl 0) (by decide)) (fun qn8 cln8 lnn8 ivn8 rvn8 hqn8 hcn8 hln8 hin8 hrn8 => ⟨2943, (z_in (by omega)), ?_⟩)
  refine c_g0 C (fun hg8 => ?_)
  refine hv4 (show ∀ b, b ≠ qn8 → lnn8 b = lnh7 b from (fun b _ => by rw [hln8])) (F21.new X21 hqn8 hin8 hrn8) (show ty (Lh7 ++ [qn8]) cln8 qn8 204 from ty_new hcn8) (show qn8 ∉ L from fun h => hqn8 ((X21 qn8 h).1)) (fun hxn8 F22 tqn8 h0qn8 => ?_)
  refine hv2 (W28.new (ln2 := lnn8) hqn8 (hg8 qn8 (List.mem_append_right _ List.mem_cons_self)) hcn8 hxn8 hin8 hrn8 (fun _ => ⟨(show (-2147483648 : Int) ≤ 0 by decide), (show (0 : Int) ≤ 2147483647 by decide)⟩) (Or.inl rfl) (fun q => by cases q) rfl rfl) (XT.new hqn8 hcn8 hxn8) (fun W29 xl15 => ?_)
  refine hv2 (X21.trans xl15) (nw21.new xl15 hcn8) (fun X22 nw22 => ?_)
  refine c_dup C dX11_init_97 rfl ?_
  refine c_callIN (As := []) (rest := [.ref qn8, .ref a0]) C hM (Y_reader (a0 := qn8) W29 (NW.nos (P := uq) nw22 X22 hnt (by decide)) tqn8  ) dX11_init_98 kN_X11_50 rfl rfl (Nat.le_of_ble_eq_true rfl) ⟨(Nat.le_of_ble_eq_true rfl), (Nat.le_of_ble_eq_true rfl)⟩ (rz0 hph (by decide)) (fun rh8 Lh8 clh8 lnh8 ivh8 rvh8 h8 => ⟨3236, zk0, ?_⟩)
  obtain ⟨skh8, rfl, xl16, fl8, W30, exf8, nxh8⟩ := h8
  refine hv26 (F22.call X22 fl8 rfl) (xl15.ty ty145) (xl15.ty ty147) (xl15.ty ty149) (xl15.ty ty151) (xl15.ty ty153) (xl15.ty ty155) (xl15.ty ty157) (xl15.ty ty159) (xl15.ty ty161) (xl15.ty ty163) (xl15.ty ty165) (xl15.ty ty167) (xl15.ty ty169) (xl15.ty ty171) (xl15.ty ty173) (xl15.ty ty175) (xl15.ty tqr7) (xl15.ty ty176) (xl15.ty ty177) (xl15.ty ty178) (xl15.ty ty179) (xl15.ty ty180) (xl15.ty ty181) (X22.trans xl16) (nw22.call xl16 nxh8) (fun F23 ty182 ty183 ty184 ty185 ty186 ty187 ty188 ty189 ty190 ty191 ty192 ty193 ty194 ty195 ty196 ty197 ty198 ty199 ty200 ty201 ty202 ty203 ty204 X23 nw23 => ?_)
  refine c_st (st2 := [.ref qn8, .ref a0]) rfl ?_
  obtain ⟨b0exf8, b1exf8, b2exf8, b3exf8, b4exf8, b5exf8, b6exf8, exf8x, exf8r0, exf8t0, exf8r1, exf8t1, exf8r2, exf8t2, exf8r3, exf8t3, exf8r4, exf8t4, exf8r5, exf8t5, exf8r6, exf8t6, exf8i7⟩ := exf8
  refine hv2 (show ∀ k, ([0, 1, 2, 3, 4, 5, 6] : List Nat).contains k = false → rvh8 qn8 k = none from fun k hk => (Eq.trans (show rvh8 qn8 k = rvn8 qn8 k from (exf8x k hk)) (show rvn8 qn8 k = none from (by rw [hrn8]; exact up0_s)))) (xl16.ty tqn8) (fun rn8 ty205 => ?_)
  refine c_retag (q := qn8) (t := 16) (by rw [ty205.2]; rfl) (fun clr8 hcr8 => ?_)
  refine hv32 (xl16.ty ty182) (xl16.ty ty183) (xl16.ty ty184) (xl16.ty ty185) (xl16.ty ty186) (xl16.ty ty187) (xl16.ty ty188) (xl16.ty ty189) (xl16.ty ty190) (xl16.ty ty191) (xl16.ty ty192) (xl16.ty ty193) (xl16.ty ty194) (xl16.ty ty195) (xl16.ty ty196) (xl16.ty ty197) (xl16.ty ty198) (xl16.ty ty199) (xl16.ty ty200) (xl16.ty ty201) (xl16.ty ty202) (xl16.ty ty203) (xl16.ty ty204) (ty_rt exf8t0 hcr8 (ne_ty exf8t0 ty205 (by decide))) (ty_rt exf8t1 hcr8 (ne_ty exf8t1 ty205 (by decide))) (ty_rt exf8t2 hcr8 (ne_ty exf8t2 ty205 (by decide))) (ty_rt exf8t3 hcr8 (ne_ty exf8t3 ty205 (by decide))) (ty_rt exf8t4 hcr8 (ne_ty exf8t4 ty205 (by decide))) (ty_rt exf8t5 hcr8 (ne_ty exf8t5 ty205 (by decide))) (ty_rt exf8t6 hcr8 (ne_ty exf8t6 ty205 (by decide))) (show ty Lh8 clr8 qn8 16 from ⟨ty205.1, by rw [hcr8, va_up_self]; rfl⟩) (NW.no nw23 X23 (hnt 16 (by decide)) (by decide)) (fun ty206 ty208 ty210 ty212 ty214 ty216 ty218 ty220 ty222 ty224 ty226 ty228 ty230 ty232 ty234 ty236 ty238 ty240 ty242 ty244 ty246 ty248 ty250 ty252 ty253 ty254 ty255 ty256 ty257 ty258 tqr8 hno8 => ?_)
  refine hv23 (ty_rt ty206 hcr8 (ne_ty ty206 ty205 (by decide))) (ty_rt ty208 hcr8 (ne_ty ty208 ty205 (by decide))) (ty_rt ty210 hcr8 (ne_ty ty210 ty205 (by decide))) (ty_rt ty212 hcr8 (ne_ty ty212 ty205 (by decide))) (ty_rt ty214 hcr8 (ne_ty ty214 ty205 (by decide))) (ty_rt ty216 hcr8 (ne_ty ty216 ty205 (by decide))) (ty_rt ty218 hcr8 (ne_ty ty218 ty205 (by decide))) (ty_rt ty220 hcr8 (ne_ty ty220 ty205 (by decide))) (ty_rt ty222 hcr8 (ne_ty ty222 ty205 (by decide))) (ty_rt ty224 hcr8 (ne_ty ty224 ty205 (by decide))) (ty_rt ty226 hcr8 (ne_ty ty226 ty205 (by decide))) (ty_rt ty228 hcr8 (ne_ty ty228 ty205 (by decide))) (ty_rt ty230 hcr8 (ne_ty ty230 ty205 (by decide))) (ty_rt ty232 hcr8 (ne_ty ty232 ty205 (by decide))) (ty_rt ty234 hcr8 (ne_ty ty234 ty205 (by decide))) (ty_rt ty236 hcr8 (ne_ty ty236 ty205 (by decide))) (ty_rt ty238 hcr8 (ne_ty ty238 ty205 (by decide))) (ty_rt ty240 hcr8 (ne_ty ty240 ty205 (by decide))) (ty_rt ty242 hcr8 (ne_ty ty242 ty205 (by decide))) (ty_rt ty244 hcr8 (ne_ty ty244 ty205 (by decide))) (ty_rt ty246 hcr8 (ne_ty ty246 ty205 (by decide))) (ty_rt ty248 hcr8 (ne_ty ty248 ty205 (by decide))) (ty_rt ty250 hcr8 (ne_ty ty250 ty205 (by decide))) (fun ty207 ty209 ty211 ty213 ty215 ty217 ty219 ty221 ty223 ty225 ty227 ty229 ty231 ty233 ty235 ty237 ty239 ty241 ty243 ty245 ty247 ty249 ty251 => ?_)
  have W31 := W30.retagU ty205.1 (by rw [ty205.2]; rfl) hcr8 (fun k => by
        rcases k with _ | _ | _ | _ | _ | _ | _ | _ | k
        · exact W30.int ty205 0
        · exact W30.int ty205 1
        · exact W30.int ty205 2
        · exact W30.int ty205 3
        · exact W30.int ty205 4
        · exact W30.int ty205 5
        · exact W30.int ty205 6
        · exact W30.int ty205 7
        · exact W30.int ty205 (k + 8)) (fun k => by
        rcases k with _ | _ | _ | _ | _ | _ | _ | _ | k
        · rw [exf8r0]; exact rok_some tqr8 ty252 rfl (by decide) rfl
        · rw [exf8r1]; exact rok_some tqr8 ty253 rfl (by decide) rfl
        · rw [exf8r2]; exact rok_some tqr8 ty254 rfl (by decide) rfl
        · rw [exf8r3]; exact rok_some tqr8 ty255 rfl (by decide) rfl
        · rw [exf8r4]; exact rok_some tqr8 ty256 rfl (by decide) rfl
        · rw [exf8r5]; exact rok_some tqr8 ty257 rfl (by decide) rfl
        · rw [exf8r6]; exact rok_some tqr8 ty258 rfl (by decide) rfl
        · rw [rn8 7 (by decide)]; exact rok_none tqr8 rfl
        · rw [rn8 (k + 8) (by simp)]; exact rok_none tqr8 rfl) (fun z => by cases z) (fun z => by cases z) (fun z => by cases z) hno8
  refine hv3 (nw23.rt hcr8) (X23.rt hcr8 h0qn8) (show clr8 qn8 = 16 from by rw [hcr8]; exact va_up_self _ _ _) (fun nw24 X24 ctr8 => ?_)
  refine c_putrF (x := (some qn8)) (k := 7) C ck_12 dX11_init_101 w2_51 (by decide) rfl rfl rfl ty207 rfl rfl (by decide) rfl (by rfl) (by rfl) (fun rv8 pq8 => ⟨3236, (zp2 (Nat.le_refl _)), ?_⟩)
  refine hv2 (W31.putr pq8 ty207 (fun qr => by rw [ty207.2] at qr; cases qr) rfl (by decide)) (F23.putr X24 pq8 ty207 rfl) (fun W32 F24 => ?_)
  refine c_aload_n (j := 0) (x := a0) C dX11_init_104 rfl ?_
  refine c_new C ck_5 dv_5 ⟨rfl, rfl⟩ rfl (by decide) dX11_init_105 w1_220 w1_221 w1_10 (rom2 hph (Nat.le_refl 0) (by decide)) (fun qn9 cln9 lnn9 ivn9 rvn9 hqn9 hcn9 hln9 hin9 hrn9 => ⟨3263, (z_in (by omega)), ?_⟩)
  refine c_g0 C (fun hg9 => ?_)
  refine hv4 (show ∀ b, b ≠ qn9 → lnn9 b = lnh8 b from (fun b _ => by rw [hln9])) (F24.new X24 hqn9 hin9 hrn9) (show ty (Lh8 ++ [qn9]) cln9 qn9 205 from ty_new hcn9) (show qn9 ∉ L from fun h => hqn9 ((X24 qn9 h).1)) (fun hxn9 F25 tqn9 h0qn9 => ?_)
  refine hv2 (W32.new (ln2 := lnn9) hqn9 (hg9 qn9 (List.mem_append_right _ List.mem_cons_self)) hcn9 hxn9 hin9 hrn9 (fun _ => ⟨(show (-2147483648 : Int) ≤ 0 by decide), (show (0 : Int) ≤ 2147483647 by decide)⟩) (Or.inl rfl) (fun q => by cases q) rfl rfl) (XT.new hqn9 hcn9 hxn9) (fun W33 xl17 => ?_)
  refine hv2 (X24.trans xl17) (nw24.new xl17 hcn9) (fun X25 nw25 => ?_)
  refine c_dup C dX11_init_108 rfl ?_
  refine c_aload_n (j := 0) (x := a0) C dX11_init_109 rfl ?_
  refine hv3 (xl17.ty ty207) (show rv8 a0 7 = (some qn8) from by rw [pq8]; exact upr_s) (show rvn9 a0 7 = rv8 a0 7 from (by rw [hrn9]; exact congrFun (up0_a (ne_in ty207.1 hqn9)) _)) (fun ty259 rp1 re1 => ?_)
  rw [rp1] at re1
  refine c_getr (k := 7) C ck_12 dX11_init_110 w2_51 (by decide) ty259 rfl rfl (by decide) rfl re1 ?_
  refine c_st (st2 := [.ref qn8, .ref qn9, .ref qn9, .ref a0]) rfl ?_
  have ty260 := xl17.ty tqr8
  refine c_callI (As := [.ref qn8]) (rest := [.ref qn9, .ref a0]) C hM (Y_found (a0 := qn9) (a1 := qn8) W33 (NW.nos (P := uq) nw25 X25 hnt (by decide)) tqn9 ty260  ) dX11_init_113 kI_X11_57 rfl rfl (Nat.le_of_ble_eq_true rfl) ⟨(Nat.le_of_ble_eq_true rfl), (Nat.le_of_ble_eq_true rfl)⟩ (rz0 hph (by decide)) (fun rh9 Lh9 clh9 lnh9 ivh9 rvh9 h9 => ⟨4150, zk0, ?_⟩)
  obtain ⟨skh9, rfl, xl18, fl9, W34, exf9, nxh9⟩ := h9
  refine hv32 (F25.call X25 fl9 rfl) (xl17.ty ty209) (xl17.ty ty211) (xl17.ty ty213) (xl17.ty ty215) (xl17.ty ty217) (xl17.ty ty219) (xl17.ty ty221) (xl17.ty ty223) (xl17.ty ty225) (xl17.ty ty227) (xl17.ty ty229) (xl17.ty ty231) (xl17.ty ty233) (xl17.ty ty235) (xl17.ty ty237) (xl17.ty ty239) (xl17.ty ty241) (xl17.ty ty243) (xl17.ty ty245) (xl17.ty ty247) (xl17.ty ty249) (xl17.ty ty251) (xl17.ty ty252) (xl17.ty ty253) (xl17.ty ty254) (xl17.ty ty255) (xl17.ty ty256) (xl17.ty ty257) (xl17.ty ty258) (X25.trans xl18) (nw25.call xl18 nxh9) (fun F26 ty261 ty262 ty263 ty264 ty265 ty266 ty267 ty268 ty269 ty270 ty271 ty272 ty273 ty274 ty275 ty276 ty277 ty278 ty279 ty280 ty281 ty282 ty283 ty284 ty285 ty286 ty287 ty288 ty289 X26 nw26 => ?_)
  refine c_st (st2 := [.ref qn9, .ref a0]) rfl ?_
  obtain ⟨b0exf9, b1exf9, b2exf9, b3exf9, b4exf9, b8exf9, exf9x, exf9r0, exf9t0, exf9r1, exf9t1, exf9r2, exf9t2, exf9r3, exf9t3, exf9r4, exf9t4, exf9r8, exf9t8, exf9i5, exf9i6, exf9i9, exf9i10, exf9a, exf9z⟩ := exf9
  refine hv2 (show ∀ k, ([0, 1, 2, 3, 4, 7, 8] : List Nat).contains k = false → rvh9 qn9 k = none from fun k hk => (Eq.trans (show rvh9 qn9 k = rvn9 qn9 k from (exf9x k hk)) (show rvn9 qn9 k = none from (by rw [hrn9]; exact up0_s)))) (xl18.ty tqn9) (fun rn9 ty290 => ?_)
  refine c_retag (q := qn9) (t := 17) (by rw [ty290.2]; rfl) (fun clr9 hcr9 => ?_)
  refine hv39 (xl18.ty ty259) (xl18.ty ty261) (xl18.ty ty262) (xl18.ty ty263) (xl18.ty ty264) (xl18.ty ty265) (xl18.ty ty266) (xl18.ty ty267) (xl18.ty ty268) (xl18.ty ty269) (xl18.ty ty270) (xl18.ty ty271) (xl18.ty ty272) (xl18.ty ty273) (xl18.ty ty274) (xl18.ty ty275) (xl18.ty ty276) (xl18.ty ty277) (xl18.ty ty278) (xl18.ty ty279) (xl18.ty ty280) (xl18.ty ty281) (xl18.ty ty282) (xl18.ty ty260) (xl18.ty ty283) (xl18.ty ty284) (xl18.ty ty285) (xl18.ty ty286) (xl18.ty ty287) (xl18.ty ty288) (xl18.ty ty289) (ty_rt exf9t0 hcr9 (ne_ty exf9t0 ty290 (by decide))) (ty_rt exf9t1 hcr9 (ne_ty exf9t1 ty290 (by decide))) (ty_rt exf9t2 hcr9 (ne_ty exf9t2 ty290 (by decide))) (ty_rt exf9t3 hcr9 (ne_ty exf9t3 ty290 (by decide))) (ty_rt exf9t4 hcr9 (ne_ty exf9t4 ty290 (by decide))) (ty_rt exf9t8 hcr9 (ne_ty exf9t8 ty290 (by decide))) (show ty Lh9 clr9 qn9 17 from ⟨ty290.1, by rw [hcr9, va_up_self]; rfl⟩) (NW.no nw26 X26 (hnt 17 (by decide)) (by decide)) (fun ty291 ty293 ty295 ty297 ty299 ty301 ty303 ty305 ty307 ty309 ty311 ty313 ty315 ty317 ty319 ty321 ty323 ty325 ty327 ty329 ty331 ty333 ty335 ty337 ty339 ty341 ty343 ty345 ty347 ty349 ty351 ty353 ty354 ty355 ty356 ty357 ty358 tqr9 hno9 => ?_)
  refine hv31 (ty_rt ty291 hcr9 (ne_ty ty291 ty290 (by decide))) (ty_rt ty293 hcr9 (ne_ty ty293 ty290 (by decide))) (ty_rt ty295 hcr9 (ne_ty ty295 ty290 (by decide))) (ty_rt ty297 hcr9 (ne_ty ty297 ty290 (by decide))) (ty_rt ty299 hcr9 (ne_ty ty299 ty290 (by decide))) (ty_rt ty301 hcr9 (ne_ty ty301 ty290 (by decide))) (ty_rt ty303 hcr9 (ne_ty ty303 ty290 (by decide))) (ty_rt ty305 hcr9 (ne_ty ty305 ty290 (by decide))) (ty_rt ty307 hcr9 (ne_ty ty307 ty290 (by decide))) (ty_rt ty309 hcr9 (ne_ty ty309 ty290 (by decide))) (ty_rt ty311 hcr9 (ne_ty ty311 ty290 (by decide))) (ty_rt ty313 hcr9 (ne_ty ty313 ty290 (by decide))) (ty_rt ty315 hcr9 (ne_ty ty315 ty290 (by decide))) (ty_rt ty317 hcr9 (ne_ty ty317 ty290 (by decide))) (ty_rt ty319 hcr9 (ne_ty ty319 ty290 (by decide))) (ty_rt ty321 hcr9 (ne_ty ty321 ty290 (by decide))) (ty_rt ty323 hcr9 (ne_ty ty323 ty290 (by decide))) (ty_rt ty325 hcr9 (ne_ty ty325 ty290 (by decide))) (ty_rt ty327 hcr9 (ne_ty ty327 ty290 (by decide))) (ty_rt ty329 hcr9 (ne_ty ty329 ty290 (by decide))) (ty_rt ty331 hcr9 (ne_ty ty331 ty290 (by decide))) (ty_rt ty333 hcr9 (ne_ty ty333 ty290 (by decide))) (ty_rt ty335 hcr9 (ne_ty ty335 ty290 (by decide))) (ty_rt ty337 hcr9 (ne_ty ty337 ty290 (by decide))) (ty_rt ty339 hcr9 (ne_ty ty339 ty290 (by decide))) (ty_rt ty341 hcr9 (ne_ty ty341 ty290 (by decide))) (ty_rt ty343 hcr9 (ne_ty ty343 ty290 (by decide))) (ty_rt ty345 hcr9 (ne_ty ty345 ty290 (by decide))) (ty_rt ty347 hcr9 (ne_ty ty347 ty290 (by decide))) (ty_rt ty349 hcr9 (ne_ty ty349 ty290 (by decide))) (ty_rt ty351 hcr9 (ne_ty ty351 ty290 (by decide))) (fun ty292 ty294 ty296 ty298 ty300 ty302 ty304 ty306 ty308 ty310 ty312 ty314 ty316 ty318 ty320 ty322 ty324 ty326 ty328 ty330 ty332 ty334 ty336 ty338 ty340 ty342 ty344 ty346 ty348 ty350 ty352 => ?_)
  have W35 := W34.retagU ty290.1 (by rw [ty290.2]; rfl) hcr9 (fun k => by
        rcases k with _ | _ | _ | _ | _ | _ | _ | _ | _ | _ | _ | k
        · exact W34.int ty290 0
        · exact W34.int ty290 1
        · exact W34.int ty290 2
        · exact W34.int ty290 3
        · exact W34.int ty290 4
        · exact ⟨(by show 0 ≤ ivh9 qn9 5; first | exact bx_lo ‹ivh9 qn9 5 = _› (by decide) | omega), (by show ivh9 qn9 5 ≤ 50; first | exact bx_hi ‹ivh9 qn9 5 = _› (by decide) | omega)⟩
        · exact ⟨(by show 0 ≤ ivh9 qn9 6; first | exact bx_lo ‹ivh9 qn9 6 = _› (by decide) | omega), (by show ivh9 qn9 6 ≤ 1; first | exact bx_hi ‹ivh9 qn9 6 = _› (by decide) | omega)⟩
        · exact W34.int ty290 7
        · exact W34.int ty290 8
        · exact ⟨(by show 0 ≤ ivh9 qn9 9; first | exact bx_lo ‹ivh9 qn9 9 = _› (by decide) | omega), (by show ivh9 qn9 9 ≤ 100; first | exact bx_hi ‹ivh9 qn9 9 = _› (by decide) | omega)⟩
        · exact W34.int ty290 10
        · exact W34.int ty290 (k + 11)) (fun k => by
        rcases k with _ | _ | _ | _ | _ | _ | _ | _ | _ | _ | _ | k
        · rw [exf9r0]; exact rok_some tqr9 ty353 rfl (by decide) rfl
        · rw [exf9r1]; exact rok_some tqr9 ty354 rfl (by decide) rfl
        · rw [exf9r2]; exact rok_some tqr9 ty355 rfl (by decide) rfl
        · rw [exf9r3]; exact rok_some tqr9 ty356 rfl (by decide) rfl
        · rw [exf9r4]; exact rok_some tqr9 ty357 rfl (by decide) rfl
        · rw [rn9 5 (by decide)]; exact rok_none tqr9 rfl
        · rw [rn9 6 (by decide)]; exact rok_none tqr9 rfl
        · rw [exf9a]; exact rok_some tqr9 ty338 rfl (by decide) rfl
        · rw [exf9r8]; exact rok_some tqr9 ty358 rfl (by decide) rfl
        · rw [rn9 9 (by decide)]; exact rok_none tqr9 rfl
        · rw [rn9 10 (by decide)]; exact rok_none tqr9 rfl
        · rw [rn9 (k + 11) (by simp)]; exact rok_none tqr9 rfl) (fun z => by cases z) (fun z => by cases z) (fun z => by cases z) hno9
  refine hv3 (nw26.rt hcr9) (X26.rt hcr9 h0qn9) (show clr9 qn9 = 17 from by rw [hcr9]; exact va_up_self _ _ _) (fun nw27 X27 ctr9 => ?_)
  refine c_putrF (x := (some qn9)) (k := 8) C ck_12 dX11_init_116 w2_52 (by decide) rfl rfl rfl ty292 rfl rfl (by decide) rfl (by rfl) (by rfl) (fun rv9 pq9 => ⟨4150, (zp2 (Nat.le_refl _)), ?_⟩)
  refine hv2 (W35.putr pq9 ty292 (fun qr => by rw [ty292.2] at qr; cases qr) rfl (by decide)) (F26.putr X27 pq9 ty292 rfl) (fun W36 F27 => ?_)
  refine c_aload_n (j := 0) (x := a0) C dX11_init_119 rfl ?_
  refine c_new C ck_8 dv_8 ⟨rfl, rfl⟩ rfl (by decide) dX11_init_120 w2_25 w2_26 w1_11 (rom2 hph (Nat.le_refl 0) (by decide)) (fun qn10 cln10 lnn10 ivn10 rvn10 hqn10 hcn10 hln10 hin10 hrn10 => ⟨4169, (z_in (by omega)), ?_⟩)
  refine c_g0 C (fun hg10 => ?_)
  refine hv4 (show ∀ b, b ≠ qn10 → lnn10 b = lnh9 b from (fun b _ => by rw [hln10])) (F27.new X27 hqn10 hin10 hrn10) (show ty (Lh9 ++ [qn10]) cln10 qn10 208 from ty_new hcn10) (show qn10 ∉ L from fun h => hqn10 ((X27 qn10 h).1)) (fun hxn10 F28 tqn10 h0qn10 => ?_)
  refine hv2 (W36.new (ln2 := lnn10) hqn10 (hg10 qn10 (List.mem_append_right _ List.mem_cons_self)) hcn10 hxn10 hin10 hrn10 (fun _ => ⟨(show (-2147483648 : Int) ≤ 0 by decide), (show (0 : Int) ≤ 2147483647 by decide)⟩) (Or.inl rfl) (fun q => by cases q) rfl rfl) (XT.new hqn10 hcn10 hxn10) (fun W37 xl19 => ?_)
  refine hv2 (X27.trans xl19) (nw27.new xl19 hcn10) (fun X28 nw28 => ?_)
  refine c_dup C dX11_init_123 rfl ?_
  refine c_callIN (As := []) (rest := [.ref qn10, .ref a0]) C hM (Y_sheet (a0 := qn10) W37  tqn10  ) dX11_init_124 kN_X11_66 rfl rfl (Nat.le_of_ble_eq_true rfl) ⟨(Nat.le_of_ble_eq_true rfl), (Nat.le_of_ble_eq_true rfl)⟩ (rz0 hph (by decide)) (fun rh10 Lh10 clh10 lnh10 ivh10 rvh10 h10 => ⟨4385, zk0, ?_⟩)
  obtain ⟨rfl, xl20, fl10, W38, exf10, nxh10⟩ := h10
  refine hv40 (F28.call X28 fl10 rfl) (xl19.ty ty292) (xl19.ty ty294) (xl19.ty ty296) (xl19.ty ty298) (xl19.ty ty300) (xl19.ty ty302) (xl19.ty ty304) (xl19.ty ty306) (xl19.ty ty308) (xl19.ty ty310) (xl19.ty ty312) (xl19.ty ty314) (xl19.ty ty316) (xl19.ty ty318) (xl19.ty ty320) (xl19.ty ty322) (xl19.ty ty324) (xl19.ty ty326) (xl19.ty ty328) (xl19.ty ty330) (xl19.ty ty332) (xl19.ty ty334) (xl19.ty ty336) (xl19.ty ty338) (xl19.ty ty340) (xl19.ty ty342) (xl19.ty ty344) (xl19.ty ty346) (xl19.ty ty348) (xl19.ty ty350) (xl19.ty ty352) (xl19.ty tqr9) (xl19.ty ty353) (xl19.ty ty354) (xl19.ty ty355) (xl19.ty ty356) (xl19.ty ty357) (xl19.ty ty358) (X28.trans xl20) (fun F29 ty359 ty360 ty361 ty362 ty363 ty364 ty365 ty366 ty367 ty368 ty369 ty370 ty371 ty372 ty373 ty374 ty375 ty376 ty377 ty378 ty379 ty380 ty381 ty382 ty383 ty384 ty385 ty386 ty387 ty388 ty389 ty390 ty391 ty392 ty393 ty394 ty395 ty396 X29 => ?_)
  have nw29 := nw28.call xl20 nxh10
  refine c_st (st2 := [.ref qn10, .ref a0]) rfl ?_
  obtain ⟨bexf10, exf10x, exf10r, exf10t, exf10l, exf10z, exf10n, exf10i⟩ := exf10
  refine hv2 (show bexf10 ∉ L from fun h => exf10n ((X28 bexf10 h).1)) (show ∀ k, ([0] : List Nat).contains k = false → rvh10 qn10 k = none from fun k hk => (Eq.trans (show rvh10 qn10 k = rvn10 qn10 k from (exf10x k hk)) (show rvn10 qn10 k = none from (by rw [hrn10]; exact up0_s)))) (fun h0bexf10 rn10 => ?_)
  refine c_retag (q := bexf10) (t := 67) (by rw [exf10t.2]; rfl) (fun clr10 hcr10 => ?_)
  refine hv40 (xl20.ty ty359) (xl20.ty ty360) (xl20.ty ty361) (xl20.ty ty362) (xl20.ty ty363) (xl20.ty ty364) (xl20.ty ty365) (xl20.ty ty366) (xl20.ty ty367) (xl20.ty ty368) (xl20.ty ty369) (xl20.ty ty370) (xl20.ty ty371) (xl20.ty ty372) (xl20.ty ty373) (xl20.ty ty374) (xl20.ty ty375) (xl20.ty ty376) (xl20.ty ty377) (xl20.ty ty378) (xl20.ty ty379) (xl20.ty ty380) (xl20.ty ty381) (xl20.ty ty382) (xl20.ty ty383) (xl20.ty ty384) (xl20.ty ty385) (xl20.ty ty386) (xl20.ty ty387) (xl20.ty ty388) (xl20.ty ty389) (xl20.ty ty390) (xl20.ty ty391) (xl20.ty ty392) (xl20.ty ty393) (xl20.ty ty394) (xl20.ty ty395) (xl20.ty ty396) (xl20.ty tqn10) (show ty Lh10 clr10 bexf10 67 from ⟨exf10t.1, by rw [hcr10, va_up_self]; rfl⟩) (fun ty397 ty399 ty401 ty403 ty405 ty407 ty409 ty411 ty413 ty415 ty417 ty419 ty421 ty423 ty425 ty427 ty429 ty431 ty433 ty435 ty437 ty439 ty441 ty443 ty445 ty447 ty449 ty451 ty453 ty455 ty457 ty459 ty461 ty463 ty465 ty467 ty469 ty471 ty473 tqr10 => ?_)
  refine hv4 (NW.no nw29 X29 (hnt 67 (by decide)) (by decide)) (nw29.rt hcr10) (X29.rt hcr10 h0bexf10) (show clr10 bexf10 = 67 from by rw [hcr10]; exact va_up_self _ _ _) (fun hno10 nw30 X30 ctr10 => ?_)
  refine hv39 (ty_rt ty397 hcr10 (ne_ty ty397 exf10t (by decide))) (ty_rt ty399 hcr10 (ne_ty ty399 exf10t (by decide))) (ty_rt ty401 hcr10 (ne_ty ty401 exf10t (by decide))) (ty_rt ty403 hcr10 (ne_ty ty403 exf10t (by decide))) (ty_rt ty405 hcr10 (ne_ty ty405 exf10t (by decide))) (ty_rt ty407 hcr10 (ne_ty ty407 exf10t (by decide))) (ty_rt ty409 hcr10 (ne_ty ty409 exf10t (by decide))) (ty_rt ty411 hcr10 (ne_ty ty411 exf10t (by decide))) (ty_rt ty413 hcr10 (ne_ty ty413 exf10t (by decide))) (ty_rt ty415 hcr10 (ne_ty ty415 exf10t (by decide))) (ty_rt ty417 hcr10 (ne_ty ty417 exf10t (by decide))) (ty_rt ty419 hcr10 (ne_ty ty419 exf10t (by decide))) (ty_rt ty421 hcr10 (ne_ty ty421 exf10t (by decide))) (ty_rt ty423 hcr10 (ne_ty ty423 exf10t (by decide))) (ty_rt ty425 hcr10 (ne_ty ty425 exf10t (by decide))) (ty_rt ty427 hcr10 (ne_ty ty427 exf10t (by decide))) (ty_rt ty429 hcr10 (ne_ty ty429 exf10t (by decide))) (ty_rt ty431 hcr10 (ne_ty ty431 exf10t (by decide))) (ty_rt ty433 hcr10 (ne_ty ty433 exf10t (by decide))) (ty_rt ty435 hcr10 (ne_ty ty435 exf10t (by decide))) (ty_rt ty437 hcr10 (ne_ty ty437 exf10t (by decide))) (ty_rt ty439 hcr10 (ne_ty ty439 exf10t (by decide))) (ty_rt ty441 hcr10 (ne_ty ty441 exf10t (by decide))) (ty_rt ty443 hcr10 (ne_ty ty443 exf10t (by decide))) (ty_rt ty445 hcr10 (ne_ty ty445 exf10t (by decide))) (ty_rt ty447 hcr10 (ne_ty ty447 exf10t (by decide))) (ty_rt ty449 hcr10 (ne_ty ty449 exf10t (by decide))) (ty_rt ty451 hcr10 (ne_ty ty451 exf10t (by decide))) (ty_rt ty453 hcr10 (ne_ty ty453 exf10t (by decide))) (ty_rt ty455 hcr10 (ne_ty ty455 exf10t (by decide))) (ty_rt ty457 hcr10 (ne_ty ty457 exf10t (by decide))) (ty_rt ty459 hcr10 (ne_ty ty459 exf10t (by decide))) (ty_rt ty461 hcr10 (ne_ty ty461 exf10t (by decide))) (ty_rt ty463 hcr10 (ne_ty ty463 exf10t (by decide))) (ty_rt ty465 hcr10 (ne_ty ty465 exf10t (by decide))) (ty_rt ty467 hcr10 (ne_ty ty467 exf10t (by decide))) (ty_rt ty469 hcr10 (ne_ty ty469 exf10t (by decide))) (ty_rt ty471 hcr10 (ne_ty ty471 exf10t (by decide))) (ty_rt ty473 hcr10 (ne_ty ty473 exf10t (by decide))) (fun ty398 ty400 ty402 ty404 ty406 ty408 ty410 ty412 ty414 ty416 ty418 ty420 ty422 ty424 ty426 ty428 ty430 ty432 ty434 ty436 ty438 ty440 ty442 ty444 ty446 ty448 ty450 ty452 ty454 ty456 ty458 ty460 ty462 ty464 ty466 ty468 ty470 ty472 ty474 => ?_)
  have W39 := W38.retagU exf10t.1 (by rw [exf10t.2]; rfl) hcr10 (fun k => W38.int exf10t k) (fun k => by rw [exf10z k]; exact rok_none tqr10 rfl) (fun _ => by show 200 ≤ lnh10 bexf10 ∧ lnh10 bexf10 ≤ 200; omega) (fun z => by cases z) (fun z => by cases z) hno10
  refine c_retag (q := qn10) (t := 18) (by rw [ty474.2]; rfl) (fun clr11 hcr11 => ?_)
  refine hv40 (ty_rt ty398 hcr11 (ne_ty ty398 ty474 (by decide))) (ty_rt ty400 hcr11 (ne_ty ty400 ty474 (by decide))) (ty_rt ty402 hcr11 (ne_ty ty402 ty474 (by decide))) (ty_rt ty404 hcr11 (ne_ty ty404 ty474 (by decide))) (ty_rt ty406 hcr11 (ne_ty ty406 ty474 (by decide))) (ty_rt ty408 hcr11 (ne_ty ty408 ty474 (by decide))) (ty_rt ty410 hcr11 (ne_ty ty410 ty474 (by decide))) (ty_rt ty412 hcr11 (ne_ty ty412 ty474 (by decide))) (ty_rt ty414 hcr11 (ne_ty ty414 ty474 (by decide))) (ty_rt ty416 hcr11 (ne_ty ty416 ty474 (by decide))) (ty_rt ty418 hcr11 (ne_ty ty418 ty474 (by decide))) (ty_rt ty420 hcr11 (ne_ty ty420 ty474 (by decide))) (ty_rt ty422 hcr11 (ne_ty ty422 ty474 (by decide))) (ty_rt ty424 hcr11 (ne_ty ty424 ty474 (by decide))) (ty_rt ty426 hcr11 (ne_ty ty426 ty474 (by decide))) (ty_rt ty428 hcr11 (ne_ty ty428 ty474 (by decide))) (ty_rt ty430 hcr11 (ne_ty ty430 ty474 (by decide))) (ty_rt ty432 hcr11 (ne_ty ty432 ty474 (by decide))) (ty_rt ty434 hcr11 (ne_ty ty434 ty474 (by decide))) (ty_rt ty436 hcr11 (ne_ty ty436 ty474 (by decide))) (ty_rt ty438 hcr11 (ne_ty ty438 ty474 (by decide))) (ty_rt ty440 hcr11 (ne_ty ty440 ty474 (by decide))) (ty_rt ty442 hcr11 (ne_ty ty442 ty474 (by decide))) (ty_rt ty444 hcr11 (ne_ty ty444 ty474 (by decide))) (ty_rt ty446 hcr11 (ne_ty ty446 ty474 (by decide))) (ty_rt ty448 hcr11 (ne_ty ty448 ty474 (by decide))) (ty_rt ty450 hcr11 (ne_ty ty450 ty474 (by decide))) (ty_rt ty452 hcr11 (ne_ty ty452 ty474 (by decide))) (ty_rt ty454 hcr11 (ne_ty ty454 ty474 (by decide))) (ty_rt ty456 hcr11 (ne_ty ty456 ty474 (by decide))) (ty_rt ty458 hcr11 (ne_ty ty458 ty474 (by decide))) (ty_rt ty460 hcr11 (ne_ty ty460 ty474 (by decide))) (ty_rt ty462 hcr11 (ne_ty ty462 ty474 (by decide))) (ty_rt ty464 hcr11 (ne_ty ty464 ty474 (by decide))) (ty_rt ty466 hcr11 (ne_ty ty466 ty474 (by decide))) (ty_rt ty468 hcr11 (ne_ty ty468 ty474 (by decide))) (ty_rt ty470 hcr11 (ne_ty ty470 ty474 (by decide))) (ty_rt ty472 hcr11 (ne_ty ty472 ty474 (by decide))) (ty_rt tqr10 hcr11 (ne_ty tqr10 ty474 (by decide))) (show ty Lh10 clr11 qn10 18 from ⟨ty474.1, by rw [hcr11, va_up_self]; rfl⟩) (fun ty475 ty476 ty477 ty478 ty479 ty480 ty481 ty482 ty483 ty484 ty485 ty486 ty487 ty488 ty489 ty490 ty491 ty492 ty493 ty494 ty495 ty496 ty497 ty498 ty499 ty500 ty501 ty502 ty503 ty504 ty505 ty506 ty507 ty508 ty509 ty510 ty511 ty512 ty513 tqr11 => ?_)
  have hno11 := NW.no nw30 X30 (hnt 18 (by decide)) (by decide)
  have W40 := W39.retagU ty474.1 (by rw [ty474.2]; rfl) hcr11 (fun k => by
        rcases k with _ | _ | _ | k
        · exact W39.int ty474 0
        · exact ⟨(by show 0 ≤ ivh10 qn10 1; first | exact bx_lo ‹ivh10 qn10 1 = _› (by decide) | omega), (by show ivh10 qn10 1 ≤ 200; first | exact bx_hi ‹ivh10 qn10 1 = _› (by decide) | omega)⟩
        · exact W39.int ty474 2
        · exact W39.int ty474 (k + 3)) (fun k => by
        rcases k with _ | _ | _ | k
        · rw [exf10r]; exact rok_some tqr11 ty513 rfl (by decide) rfl
        · rw [rn10 1 (by decide)]; exact rok_none tqr11 rfl
        · rw [rn10 2 (by decide)]; exact rok_none tqr11 rfl
        · rw [rn10 (k + 3) (by simp)]; exact rok_none tqr11 rfl) (fun z => by cases z) (fun z => by cases z) (fun z => by cases z) hno11
  refine hv3 (nw30.rt hcr11) (X30.rt hcr11 h0qn10) (show clr11 qn10 = 18 from by rw [hcr11]; exact va_up_self _ _ _) (fun nw31 X31 ctr11 => ?_)
  refine c_putr (x := (some qn10)) (k := 9) C ck_12 dX11_init_127 w2_53 (by decide) rfl ty475 rfl rfl (by decide) rfl (by rfl) (by rfl) (fun rv10 pq10 => ⟨4385, (zp2 (Nat.le_refl _)), ?_⟩)
  refine hv2 (W40.putr pq10 ty475 (fun qr => by rw [ty475.2] at qr; cases qr) rfl (by decide)) (F29.putr X31 pq10 ty475 rfl) (fun W41 F30 => ?_)
  refine c_aload_n (j := 0) (x := a0) C dX11_init_130 rfl ?_
  refine c_new C ck_8 dv_8 ⟨rfl, rfl⟩ rfl (by decide) dX11_init_131 w2_25 w2_26 w1_11 (rom2 hph (Nat.le_refl 0) (by decide)) (fun qn11 cln11 lnn11 ivn11 rvn11 hqn11 hcn11 hln11 hin11 hrn11 => ⟨4404, (z_in (by omega)), ?_⟩)
  refine c_g0 C (fun hg11 => ?_)
  refine hv4 (show ∀ b, b ≠ qn11 → lnn11 b = lnh10 b from (fun b _ => by rw [hln11])) (F30.new X31 hqn11 hin11 hrn11) (show ty (Lh10 ++ [qn11]) cln11 qn11 208 from ty_new hcn11) (show qn11 ∉ L from fun h => hqn11 ((X31 qn11 h).1)) (fun hxn11 F31 tqn11 h0qn11 => ?_)
  refine hv2 (W41.new (ln2 := lnn11) hqn11 (hg11 qn11 (List.mem_append_right _ List.mem_cons_self)) hcn11 hxn11 hin11 hrn11 (fun _ => ⟨(show (-2147483648 : Int) ≤ 0 by decide), (show (0 : Int) ≤ 2147483647 by decide)⟩) (Or.inl rfl) (fun q => by cases q) rfl rfl) (XT.new hqn11 hcn11 hxn11) (fun W42 xl21 => ?_)
  refine hv2 (X31.trans xl21) (nw31.new xl21 hcn11) (fun X32 nw32 => ?_)
  refine c_dup C dX11_init_134 rfl ?_
  refine c_callIN (As := []) (rest := [.ref qn11, .ref a0]) C hM (Y_sheet (a0 := qn11) W42  tqn11  ) dX11_init_135 kN_X11_66 rfl rfl (Nat.le_of_ble_eq_true rfl) ⟨(Nat.le_of_ble_eq_true rfl), (Nat.le_of_ble_eq_true rfl)⟩ (rz0 hph (by decide)) (fun rh11 Lh11 clh11 lnh11 ivh11 rvh11 h11 => ⟨4620, zk0, ?_⟩)
  obtain ⟨rfl, xl22, fl11, W43, exf11, nxh11⟩ := h11
  refine hv40 (F31.call X32 fl11 rfl) (xl21.ty ty475) (xl21.ty ty476) (xl21.ty ty477) (xl21.ty ty478) (xl21.ty ty479) (xl21.ty ty480) (xl21.ty ty481) (xl21.ty ty482) (xl21.ty ty483) (xl21.ty ty484) (xl21.ty ty485) (xl21.ty ty486) (xl21.ty ty487) (xl21.ty ty488) (xl21.ty ty489) (xl21.ty ty490) (xl21.ty ty491) (xl21.ty ty492) (xl21.ty ty493) (xl21.ty ty494) (xl21.ty ty495) (xl21.ty ty496) (xl21.ty ty497) (xl21.ty ty498) (xl21.ty ty499) (xl21.ty ty500) (xl21.ty ty501) (xl21.ty ty502) (xl21.ty ty503) (xl21.ty ty504) (xl21.ty ty505) (xl21.ty ty506) (xl21.ty ty507) (xl21.ty ty508) (xl21.ty ty509) (xl21.ty ty510) (xl21.ty ty511) (xl21.ty ty512) (xl21.ty tqr11) (fun F32 ty514 ty515 ty516 ty517 ty518 ty519 ty520 ty521 ty522 ty523 ty524 ty525 ty526 ty527 ty528 ty529 ty530 ty531 ty532 ty533 ty534 ty535 ty536 ty537 ty538 ty539 ty540 ty541 ty542 ty543 ty544 ty545 ty546 ty547 ty548 ty549 ty550 ty551 ty552 => ?_)
  refine hv3 (xl21.ty ty513) (X32.trans xl22) (nw32.call xl22 nxh11) (fun ty553 X33 nw33 => ?_)
  refine c_st (st2 := [.ref qn11, .ref a0]) rfl ?_
  obtain ⟨bexf11, exf11x, exf11r, exf11t, exf11l, exf11z, exf11n, exf11i⟩ := exf11
  refine hv2 (show bexf11 ∉ L from fun h => exf11n ((X32 bexf11 h).1)) (show ∀ k, ([0] : List Nat).contains k = false → rvh11 qn11 k = none from fun k hk => (Eq.trans (show rvh11 qn11 k = rvn11 qn11 k from (exf11x k hk)) (show rvn11 qn11 k = none from (by rw [hrn11]; exact up0_s)))) (fun h0bexf11 rn11 => ?_)
  refine c_retag (q := bexf11) (t := 69) (by rw [exf11t.2]; rfl) (fun clr12 hcr12 => ?_)
  refine hv40 (xl22.ty ty514) (xl22.ty ty515) (xl22.ty ty516) (xl22.ty ty517) (xl22.ty ty518) (xl22.ty ty519) (xl22.ty ty520) (xl22.ty ty521) (xl22.ty ty522) (xl22.ty ty523) (xl22.ty ty524) (xl22.ty ty525) (xl22.ty ty526) (xl22.ty ty527) (xl22.ty ty528) (xl22.ty ty529) (xl22.ty ty530) (xl22.ty ty531) (xl22.ty ty532) (xl22.ty ty533) (xl22.ty ty534) (xl22.ty ty535) (xl22.ty ty536) (xl22.ty ty537) (xl22.ty ty538) (xl22.ty ty539) (xl22.ty ty540) (xl22.ty ty541) (xl22.ty ty542) (xl22.ty ty543) (xl22.ty ty544) (xl22.ty ty545) (xl22.ty ty546) (xl22.ty ty547) (xl22.ty ty548) (xl22.ty ty549) (xl22.ty ty550) (xl22.ty ty551) (xl22.ty ty552) (xl22.ty ty553) (fun ty554 ty556 ty558 ty560 ty562 ty564 ty566 ty568 ty570 ty572 ty574 ty576 ty578 ty580 ty582 ty584 ty586 ty588 ty590 ty592 ty594 ty596 ty598 ty600 ty602 ty604 ty606 ty608 ty610 ty612 ty614 ty616 ty618 ty620 ty622 ty624 ty626 ty628 ty630 ty632 => ?_)
  refine hv6 (xl22.ty tqn11) (show ty Lh11 clr12 bexf11 67 from ⟨exf11t.1, by rw [hcr12, va_up_self]; rfl⟩) (NW.no nw33 X33 (hnt 69 (by decide)) (by decide)) (nw33.rt hcr12) (X33.rt hcr12 h0bexf11) (show clr12 bexf11 = 69 from by rw [hcr12]; exact va_up_self _ _ _) (fun ty634 tqr12 hno12 nw34 X34 ctr12 => ?_)
  refine hv40 (ty_rt ty554 hcr12 (ne_ty ty554 exf11t (by decide))) (ty_rt ty556 hcr12 (ne_ty ty556 exf11t (by decide))) (ty_rt ty558 hcr12 (ne_ty ty558 exf11t (by decide))) (ty_rt ty560 hcr12 (ne_ty ty560 exf11t (by decide))) (ty_rt ty562 hcr12 (ne_ty ty562 exf11t (by decide))) (ty_rt ty564 hcr12 (ne_ty ty564 exf11t (by decide))) (ty_rt ty566 hcr12 (ne_ty ty566 exf11t (by decide))) (ty_rt ty568 hcr12 (ne_ty ty568 exf11t (by decide))) (ty_rt ty570 hcr12 (ne_ty ty570 exf11t (by decide))) (ty_rt ty572 hcr12 (ne_ty ty572 exf11t (by decide))) (ty_rt ty574 hcr12 (ne_ty ty574 exf11t (by decide))) (ty_rt ty576 hcr12 (ne_ty ty576 exf11t (by decide))) (ty_rt ty578 hcr12 (ne_ty ty578 exf11t (by decide))) (ty_rt ty580 hcr12 (ne_ty ty580 exf11t (by decide))) (ty_rt ty582 hcr12 (ne_ty ty582 exf11t (by decide))) (ty_rt ty584 hcr12 (ne_ty ty584 exf11t (by decide))) (ty_rt ty586 hcr12 (ne_ty ty586 exf11t (by decide))) (ty_rt ty588 hcr12 (ne_ty ty588 exf11t (by decide))) (ty_rt ty590 hcr12 (ne_ty ty590 exf11t (by decide))) (ty_rt ty592 hcr12 (ne_ty ty592 exf11t (by decide))) (ty_rt ty594 hcr12 (ne_ty ty594 exf11t (by decide))) (ty_rt ty596 hcr12 (ne_ty ty596 exf11t (by decide))) (ty_rt ty598 hcr12 (ne_ty ty598 exf11t (by decide))) (ty_rt ty600 hcr12 (ne_ty ty600 exf11t (by decide))) (ty_rt ty602 hcr12 (ne_ty ty602 exf11t (by decide))) (ty_rt ty604 hcr12 (ne_ty ty604 exf11t (by decide))) (ty_rt ty606 hcr12 (ne_ty ty606 exf11t (by decide))) (ty_rt ty608 hcr12 (ne_ty ty608 exf11t (by decide))) (ty_rt ty610 hcr12 (ne_ty ty610 exf11t (by decide))) (ty_rt ty612 hcr12 (ne_ty ty612 exf11t (by decide))) (ty_rt ty614 hcr12 (ne_ty ty614 exf11t (by decide))) (ty_rt ty616 hcr12 (ne_ty ty616 exf11t (by decide))) (ty_rt ty618 hcr12 (ne_ty ty618 exf11t (by decide))) (ty_rt ty620 hcr12 (ne_ty ty620 exf11t (by decide))) (ty_rt ty622 hcr12 (ne_ty ty622 exf11t (by decide))) (ty_rt ty624 hcr12 (ne_ty ty624 exf11t (by decide))) (ty_rt ty626 hcr12 (ne_ty ty626 exf11t (by decide))) (ty_rt ty628 hcr12 (ne_ty ty628 exf11t (by decide))) (ty_rt ty630 hcr12 (ne_ty ty630 exf11t (by decide))) (ty_rt ty632 hcr12 (ne_ty ty632 exf11t (by decide))) (fun ty555 ty557 ty559 ty561 ty563 ty565 ty567 ty569 ty571 ty573 ty575 ty577 ty579 ty581 ty583 ty585 ty587 ty589 ty591 ty593 ty595 ty597 ty599 ty601 ty603 ty605 ty607 ty609 ty611 ty613 ty615 ty617 ty619 ty621 ty623 ty625 ty627 ty629 ty631 ty633 => ?_)
  have ty635 := ty_rt ty634 hcr12 (ne_ty ty634 exf11t (by decide))
  have W44 := W43.retagU exf11t.1 (by rw [exf11t.2]; rfl) hcr12 (fun k => W43.int exf11t k) (fun k => by rw [exf11z k]; exact rok_none tqr12 rfl) (fun _ => by show 200 ≤ lnh11 bexf11 ∧ lnh11 bexf11 ≤ 200; omega) (fun z => by cases z) (fun z => by cases z) hno12
  refine c_retag (q := qn11) (t := 28) (by rw [ty635.2]; rfl) (fun clr13 hcr13 => ?_)
  refine hv40 (ty_rt ty555 hcr13 (ne_ty ty555 ty635 (by decide))) (ty_rt ty557 hcr13 (ne_ty ty557 ty635 (by decide))) (ty_rt ty559 hcr13 (ne_ty ty559 ty635 (by decide))) (ty_rt ty561 hcr13 (ne_ty ty561 ty635 (by decide))) (ty_rt ty563 hcr13 (ne_ty ty563 ty635 (by decide))) (ty_rt ty565 hcr13 (ne_ty ty565 ty635 (by decide))) (ty_rt ty567 hcr13 (ne_ty ty567 ty635 (by decide))) (ty_rt ty569 hcr13 (ne_ty ty569 ty635 (by decide))) (ty_rt ty571 hcr13 (ne_ty ty571 ty635 (by decide))) (ty_rt ty573 hcr13 (ne_ty ty573 ty635 (by decide))) (ty_rt ty575 hcr13 (ne_ty ty575 ty635 (by decide))) (ty_rt ty577 hcr13 (ne_ty ty577 ty635 (by decide))) (ty_rt ty579 hcr13 (ne_ty ty579 ty635 (by decide))) (ty_rt ty581 hcr13 (ne_ty ty581 ty635 (by decide))) (ty_rt ty583 hcr13 (ne_ty ty583 ty635 (by decide))) (ty_rt ty585 hcr13 (ne_ty ty585 ty635 (by decide))) (ty_rt ty587 hcr13 (ne_ty ty587 ty635 (by decide))) (ty_rt ty589 hcr13 (ne_ty ty589 ty635 (by decide))) (ty_rt ty591 hcr13 (ne_ty ty591 ty635 (by decide))) (ty_rt ty593 hcr13 (ne_ty ty593 ty635 (by decide))) (ty_rt ty595 hcr13 (ne_ty ty595 ty635 (by decide))) (ty_rt ty597 hcr13 (ne_ty ty597 ty635 (by decide))) (ty_rt ty599 hcr13 (ne_ty ty599 ty635 (by decide))) (ty_rt ty601 hcr13 (ne_ty ty601 ty635 (by decide))) (ty_rt ty603 hcr13 (ne_ty ty603 ty635 (by decide))) (ty_rt ty605 hcr13 (ne_ty ty605 ty635 (by decide))) (ty_rt ty607 hcr13 (ne_ty ty607 ty635 (by decide))) (ty_rt ty609 hcr13 (ne_ty ty609 ty635 (by decide))) (ty_rt ty611 hcr13 (ne_ty ty611 ty635 (by decide))) (ty_rt ty613 hcr13 (ne_ty ty613 ty635 (by decide))) (ty_rt ty615 hcr13 (ne_ty ty615 ty635 (by decide))) (ty_rt ty617 hcr13 (ne_ty ty617 ty635 (by decide))) (ty_rt ty619 hcr13 (ne_ty ty619 ty635 (by decide))) (ty_rt ty621 hcr13 (ne_ty ty621 ty635 (by decide))) (ty_rt ty623 hcr13 (ne_ty ty623 ty635 (by decide))) (ty_rt ty625 hcr13 (ne_ty ty625 ty635 (by decide))) (ty_rt ty627 hcr13 (ne_ty ty627 ty635 (by decide))) (ty_rt ty629 hcr13 (ne_ty ty629 ty635 (by decide))) (ty_rt ty631 hcr13 (ne_ty ty631 ty635 (by decide))) (ty_rt ty633 hcr13 (ne_ty ty633 ty635 (by decide))) (fun ty636 ty637 ty638 ty639 ty640 ty641 ty642 ty643 ty644 ty645 ty646 ty647 ty648 ty649 ty650 ty651 ty652 ty653 ty654 ty655 ty656 ty657 ty658 ty659 ty660 ty661 ty662 ty663 ty664 ty665 ty666 ty667 ty668 ty669 ty670 ty671 ty672 ty673 ty674 ty675 => ?_)
  refine hv3 (ty_rt tqr12 hcr13 (ne_ty tqr12 ty635 (by decide))) (show ty Lh11 clr13 qn11 18 from ⟨ty635.1, by rw [hcr13, va_up_self]; rfl⟩) (NW.no nw34 X34 (hnt 28 (by decide)) (by decide)) (fun ty676 tqr13 hno13 => ?_)
  have W45 := W44.retagU ty635.1 (by rw [ty635.2]; rfl) hcr13 (fun k => by
        rcases k with _ | _ | _ | k
        · exact W44.int ty635 0
        · exact ⟨(by show 0 ≤ ivh11 qn11 1; first | exact bx_lo ‹ivh11 qn11 1 = _› (by decide) | omega), (by show ivh11 qn11 1 ≤ 200; first | exact bx_hi ‹ivh11 qn11 1 = _› (by decide) | omega)⟩
        · exact W44.int ty635 2
        · exact W44.int ty635 (k + 3)) (fun k => by
        rcases k with _ | _ | _ | k
        · rw [exf11r]; exact rok_some tqr13 ty676 rfl (by decide) rfl
        · rw [rn11 1 (by decide)]; exact rok_none tqr13 rfl
        · rw [rn11 2 (by decide)]; exact rok_none tqr13 rfl
        · rw [rn11 (k + 3) (by simp)]; exact rok_none tqr13 rfl) (fun z => by cases z) (fun z => by cases z) (fun z => by cases z) hno13
  refine hv3 (nw34.rt hcr13) (X34.rt hcr13 h0qn11) (show clr13 qn11 = 28 from by rw [hcr13]; exact va_up_self _ _ _) (fun nw35 X35 ctr13 => ?_)
  refine c_putr (x := (some qn11)) (k := 10) C ck_12 dX11_init_138 w2_54 (by decide) rfl ty636 rfl rfl (by decide) rfl (by rfl) (by rfl) (fun rv11 pq11 => ⟨4620, (zp2 (Nat.le_refl _)), ?_⟩)
  refine hv2 (W45.putr pq11 ty636 (fun qr => by rw [ty636.2] at qr; cases qr) rfl (by decide)) (F32.putr X35 pq11 ty636 rfl) (fun W46 F33 => ?_)
  refine c_aload_n (j := 0) (x := a0) C dX11_init_141 rfl ?_
  refine c_bipush (z := 32) C dX11_init_142 (by decide) ?_
  refine c_put (z := 32) (k := 11) C ck_12 dX11_init_144 w2_55 (by decide) rfl ty636 rfl rfl (by decide) rfl (by rfl) (by rfl) (fun iv1 pq12 => ?_)
  refine hv2 (W46.puti pq12 ty636 ⟨by decide, by decide⟩ rfl) (F33.puti X35 pq12 ty636 rfl) (fun W47 F34 => ?_)
  refine c_aload_n (j := 0) (x := a0) C dX11_init_147 rfl ?_
  refine c_bipush (z := 25) C dX11_init_148 (by decide) ?_
  refine c_put (z := 25) (k := 12) C ck_12 dX11_init_150 w2_56 (by decide) rfl ty636 rfl rfl (by decide) rfl (by rfl) (by rfl) (fun iv2 pq13 => ?_)
  refine hv2 (W47.puti pq13 ty636 ⟨by decide, by decide⟩ rfl) (F34.puti X35 pq13 ty636 rfl) (fun W48 F35 => ?_)
  refine c_aload_n (j := 0) (x := a0) C dX11_init_153 rfl ?_
  refine c_bipush (z := 36) C dX11_init_154 (by decide) ?_
  refine c_put (z := 36) (k := 13) C ck_12 dX11_init_156 w2_57 (by decide) rfl ty636 rfl rfl (by decide) rfl (by rfl) (by rfl) (fun iv3 pq14 => ?_)
  refine hv2 (W48.puti pq14 ty636 ⟨by decide, by decide⟩ rfl) (F35.puti X35 pq14 ty636 rfl) (fun W49 F36 => ?_)
  refine c_aload_n (j := 0) (x := a0) C dX11_init_159 rfl ?_
  refine c_iconst C dX11_init_160 ?_
  refine c_put (z := 0) (k := 14) C ck_12 dX11_init_161 w2_58 (by decide) rfl ty636 rfl rfl (by decide) rfl (by rfl) (by rfl) (fun iv4 pq15 => ?_)
  refine hv2 (W49.puti pq15 ty636 ⟨by decide, by decide⟩ rfl) (F36.puti X35 pq15 ty636 rfl) (fun W50 F37 => ?_)
  refine c_aload_n (j := 0) (x := a0) C dX11_init_164 rfl ?_
  refine c_iconst C dX11_init_165 ?_
  refine c_put (z := 0) (k := 15) C ck_12 dX11_init_166 w2_59 (by decide) rfl ty636 rfl rfl (by decide) rfl (by rfl) (by rfl) (fun iv5 pq16 => ?_)
  refine hv2 (W50.puti pq16 ty636 ⟨by decide, by decide⟩ rfl) (F37.puti X35 pq16 ty636 rfl) (fun W51 F38 => ?_)
  refine c_aload_n (j := 0) (x := a0) C dX11_init_169 rfl ?_
  refine c_iconst C dX11_init_170 ?_
  refine c_put (z := 0) (k := 16) C ck_12 dX11_init_171 w2_60 (by decide) rfl ty636 rfl rfl (by decide) rfl (by rfl) (by rfl) (fun iv6 pq17 => ?_)
  refine hv2 (W51.puti pq17 ty636 ⟨by decide, by decide⟩ rfl) (F38.puti X35 pq17 ty636 rfl) (fun W52 F39 => ?_)
  refine c_aload_n (j := 0) (x := a0) C dX11_init_174 rfl ?_
  refine c_iconst C dX11_init_175 ?_
  refine c_put (z := 0) (k := 17) C ck_12 dX11_init_176 w2_61 (by decide) rfl ty636 rfl rfl (by decide) rfl (by rfl) (by rfl) (fun iv7 pq18 => ?_)
  refine hv2 (W52.puti pq18 ty636 ⟨by decide, by decide⟩ rfl) (F39.puti X35 pq18 ty636 rfl) (fun W53 F40 => ?_)
  refine c_aload_n (j := 0) (x := a0) C dX11_init_179 rfl ?_
  refine c_iconst C dX11_init_180 ?_
  refine c_put (z := (-1)) (k := 18) C ck_12 dX11_init_181 w2_62 (by decide) rfl ty636 rfl rfl (by decide) rfl (by rfl) (by rfl) (fun iv8 pq19 => ?_)
  refine hv4 (W53.puti pq19 ty636 ⟨by decide, by decide⟩ rfl) (F40.puti X35 pq19 ty636 rfl) (show rv1 a0 0 = (some qn1) from by rw [pq1]; exact upr_s) (show rvn2 a0 0 = rv1 a0 0 from (by rw [hrn2]; exact congrFun (up0_a (ne_in ty4.1 hqn2)) _)) (fun W54 F41 rp2 re2 => ?_)
  rw [rp2] at re2
  have re3 : rvh2 a0 0 = rvn2 a0 0 := (fl2.r ty6 rfl 0)
  rw [re2] at re3
  have re4 : rv2 a0 0 = rvh2 a0 0 := (by rw [pq2]; exact upr_j (by decide))
  rw [re3] at re4
  have re5 : rvn3 a0 0 = rv2 a0 0 := (by rw [hrn3]; exact congrFun (up0_a (ne_in ty11.1 hqn3)) _)
  rw [re4] at re5
  have re6 : rvh3 a0 0 = rvn3 a0 0 := (fl3.r ty17 rfl 0)
  rw [re5] at re6
  have re7 : rv3 a0 0 = rvh3 a0 0 := (by rw [pq3]; exact upr_j (by decide))
  rw [re6] at re7
  have re8 : rvn4 a0 0 = rv3 a0 0 := (by rw [hrn4]; exact congrFun (up0_a (ne_in ty24.1 hqn4)) _)
  rw [re7] at re8
  have re9 : rvh4 a0 0 = rvn4 a0 0 := (fl4.r ty34 rfl 0)
  rw [re8] at re9
  have re10 : rv4 a0 0 = rvh4 a0 0 := (by rw [pq4]; exact upr_j (by decide))
  rw [re9] at re10
  have re11 : rvn5 a0 0 = rv4 a0 0 := (by rw [hrn5]; exact congrFun (up0_a (ne_in ty43.1 hqn5)) _)
  rw [re10] at re11
  have re12 : rvh5 a0 0 = rvn5 a0 0 := (fl5.r ty57 rfl 0)
  rw [re11] at re12
  have re13 : rv5 a0 0 = rvh5 a0 0 := (by rw [pq5]; exact upr_j (by decide))
  rw [re12] at re13
  have re14 : rvn6 a0 0 = rv5 a0 0 := (by rw [hrn6]; exact congrFun (up0_a (ne_in ty68.1 hqn6)) _)
  rw [re13] at re14
  have re15 : rvh6 a0 0 = rvn6 a0 0 := (fl6.r ty87 rfl 0)
  rw [re14] at re15
  have re16 : rv6 a0 0 = rvh6 a0 0 := (by rw [pq6]; exact upr_j (by decide))
  rw [re15] at re16
  have re17 : rvn7 a0 0 = rv6 a0 0 := (by rw [hrn7]; exact congrFun (up0_a (ne_in ty101.1 hqn7)) _)
  rw [re16] at re17
  have re18 : rvh7 a0 0 = rvn7 a0 0 := (fl7.r ty127 rfl 0)
  rw [re17] at re18
  have re19 : rv7 a0 0 = rvh7 a0 0 := (by rw [pq7]; exact upr_j (by decide))
  rw [re18] at re19
  have re20 : rvn8 a0 0 = rv7 a0 0 := (by rw [hrn8]; exact congrFun (up0_a (ne_in ty145.1 hqn8)) _)
  rw [re19] at re20
  have re21 : rvh8 a0 0 = rvn8 a0 0 := (fl8.r ty182 rfl 0)
  rw [re20] at re21
  have re22 : rv8 a0 0 = rvh8 a0 0 := (by rw [pq8]; exact upr_j (by decide))
  rw [re21] at re22
  have re23 : rvn9 a0 0 = rv8 a0 0 := (by rw [hrn9]; exact congrFun (up0_a (ne_in ty207.1 hqn9)) _)
  rw [re22] at re23
  have re24 : rvh9 a0 0 = rvn9 a0 0 := (fl9.r ty259 rfl 0)
  rw [re23] at re24
  have re25 : rv9 a0 0 = rvh9 a0 0 := (by rw [pq9]; exact upr_j (by decide))
  rw [re24] at re25
  have re26 : rvn10 a0 0 = rv9 a0 0 := (by rw [hrn10]; exact congrFun (up0_a (ne_in ty292.1 hqn10)) _)
  rw [re25] at re26
  have re27 : rvh10 a0 0 = rvn10 a0 0 := (fl10.r ty359 rfl 0)
  rw [re26] at re27
  have re28 : rv10 a0 0 = rvh10 a0 0 := (by rw [pq10]; exact upr_j (by decide))
  rw [re27] at re28
  have re29 : rvn11 a0 0 = rv10 a0 0 := (by rw [hrn11]; exact congrFun (up0_a (ne_in ty475.1 hqn11)) _)
  rw [re28] at re29
  have re30 : rvh11 a0 0 = rvn11 a0 0 := (fl11.r ty514 rfl 0)
  rw [re29] at re30
  have re31 : rv11 a0 0 = rvh11 a0 0 := (by rw [pq11]; exact upr_j (by decide))
  rw [re30] at re31
  refine hv2 (show rv2 a0 1 = (some qn2) from by rw [pq2]; exact upr_s) (show rvn3 a0 1 = rv2 a0 1 from (by rw [hrn3]; exact congrFun (up0_a (ne_in ty11.1 hqn3)) _)) (fun rp3 re32 => ?_)
  rw [rp3] at re32
  have re33 : rvh3 a0 1 = rvn3 a0 1 := (fl3.r ty17 rfl 1)
  rw [re32] at re33
  have re34 : rv3 a0 1 = rvh3 a0 1 := (by rw [pq3]; exact upr_j (by decide))
  rw [re33] at re34
  have re35 : rvn4 a0 1 = rv3 a0 1 := (by rw [hrn4]; exact congrFun (up0_a (ne_in ty24.1 hqn4)) _)
  rw [re34] at re35
  have re36 : rvh4 a0 1 = rvn4 a0 1 := (fl4.r ty34 rfl 1)
  rw [re35] at re36
  have re37 : rv4 a0 1 = rvh4 a0 1 := (by rw [pq4]; exact upr_j (by decide))
  rw [re36] at re37
  have re38 : rvn5 a0 1 = rv4 a0 1 := (by rw [hrn5]; exact congrFun (up0_a (ne_in ty43.1 hqn5)) _)
  rw [re37] at re38
  have re39 : rvh5 a0 1 = rvn5 a0 1 := (fl5.r ty57 rfl 1)
  rw [re38] at re39
  have re40 : rv5 a0 1 = rvh5 a0 1 := (by rw [pq5]; exact upr_j (by decide))
  rw [re39] at re40
  have re41 : rvn6 a0 1 = rv5 a0 1 := (by rw [hrn6]; exact congrFun (up0_a (ne_in ty68.1 hqn6)) _)
  rw [re40] at re41
  have re42 : rvh6 a0 1 = rvn6 a0 1 := (fl6.r ty87 rfl 1)
  rw [re41] at re42
  have re43 : rv6 a0 1 = rvh6 a0 1 := (by rw [pq6]; exact upr_j (by decide))
  rw [re42] at re43
  have re44 : rvn7 a0 1 = rv6 a0 1 := (by rw [hrn7]; exact congrFun (up0_a (ne_in ty101.1 hqn7)) _)
  rw [re43] at re44
  have re45 : rvh7 a0 1 = rvn7 a0 1 := (fl7.r ty127 rfl 1)
  rw [re44] at re45
  have re46 : rv7 a0 1 = rvh7 a0 1 := (by rw [pq7]; exact upr_j (by decide))
  rw [re45] at re46
  have re47 : rvn8 a0 1 = rv7 a0 1 := (by rw [hrn8]; exact congrFun (up0_a (ne_in ty145.1 hqn8)) _)
  rw [re46] at re47
  have re48 : rvh8 a0 1 = rvn8 a0 1 := (fl8.r ty182 rfl 1)
  rw [re47] at re48
  have re49 : rv8 a0 1 = rvh8 a0 1 := (by rw [pq8]; exact upr_j (by decide))
  rw [re48] at re49
  have re50 : rvn9 a0 1 = rv8 a0 1 := (by rw [hrn9]; exact congrFun (up0_a (ne_in ty207.1 hqn9)) _)
  rw [re49] at re50
  have re51 : rvh9 a0 1 = rvn9 a0 1 := (fl9.r ty259 rfl 1)
  rw [re50] at re51
  have re52 : rv9 a0 1 = rvh9 a0 1 := (by rw [pq9]; exact upr_j (by decide))
  rw [re51] at re52
  have re53 : rvn10 a0 1 = rv9 a0 1 := (by rw [hrn10]; exact congrFun (up0_a (ne_in ty292.1 hqn10)) _)
  rw [re52] at re53
  have re54 : rvh10 a0 1 = rvn10 a0 1 := (fl10.r ty359 rfl 1)
  rw [re53] at re54
  have re55 : rv10 a0 1 = rvh10 a0 1 := (by rw [pq10]; exact upr_j (by decide))
  rw [re54] at re55
  have re56 : rvn11 a0 1 = rv10 a0 1 := (by rw [hrn11]; exact congrFun (up0_a (ne_in ty475.1 hqn11)) _)
  rw [re55] at re56
  have re57 : rvh11 a0 1 = rvn11 a0 1 := (fl11.r ty514 rfl 1)
  rw [re56] at re57
  have re58 : rv11 a0 1 = rvh11 a0 1 := (by rw [pq11]; exact upr_j (by decide))
  rw [re57] at re58
  refine hv2 (show rv3 a0 2 = (some qn3) from by rw [pq3]; exact upr_s) (show rvn4 a0 2 = rv3 a0 2 from (by rw [hrn4]; exact congrFun (up0_a (ne_in ty24.1 hqn4)) _)) (fun rp4 re59 => ?_)
  rw [rp4] at re59
  have re60 : rvh4 a0 2 = rvn4 a0 2 := (fl4.r ty34 rfl 2)
  rw [re59] at re60
  have re61 : rv4 a0 2 = rvh4 a0 2 := (by rw [pq4]; exact upr_j (by decide))
  rw [re60] at re61
  have re62 : rvn5 a0 2 = rv4 a0 2 := (by rw [hrn5]; exact congrFun (up0_a (ne_in ty43.1 hqn5)) _)
  rw [re61] at re62
  have re63 : rvh5 a0 2 = rvn5 a0 2 := (fl5.r ty57 rfl 2)
  rw [re62] at re63
  have re64 : rv5 a0 2 = rvh5 a0 2 := (by rw [pq5]; exact upr_j (by decide))
  rw [re63] at re64
  have re65 : rvn6 a0 2 = rv5 a0 2 := (by rw [hrn6]; exact congrFun (up0_a (ne_in ty68.1 hqn6)) _)
  rw [re64] at re65
  have re66 : rvh6 a0 2 = rvn6 a0 2 := (fl6.r ty87 rfl 2)
  rw [re65] at re66
  have re67 : rv6 a0 2 = rvh6 a0 2 := (by rw [pq6]; exact upr_j (by decide))
  rw [re66] at re67
  have re68 : rvn7 a0 2 = rv6 a0 2 := (by rw [hrn7]; exact congrFun (up0_a (ne_in ty101.1 hqn7)) _)
  rw [re67] at re68
  have re69 : rvh7 a0 2 = rvn7 a0 2 := (fl7.r ty127 rfl 2)
  rw [re68] at re69
  have re70 : rv7 a0 2 = rvh7 a0 2 := (by rw [pq7]; exact upr_j (by decide))
  rw [re69] at re70
  have re71 : rvn8 a0 2 = rv7 a0 2 := (by rw [hrn8]; exact congrFun (up0_a (ne_in ty145.1 hqn8)) _)
  rw [re70] at re71
  have re72 : rvh8 a0 2 = rvn8 a0 2 := (fl8.r ty182 rfl 2)
  rw [re71] at re72
  have re73 : rv8 a0 2 = rvh8 a0 2 := (by rw [pq8]; exact upr_j (by decide))
  rw [re72] at re73
  have re74 : rvn9 a0 2 = rv8 a0 2 := (by rw [hrn9]; exact congrFun (up0_a (ne_in ty207.1 hqn9)) _)
  rw [re73] at re74
  have re75 : rvh9 a0 2 = rvn9 a0 2 := (fl9.r ty259 rfl 2)
  rw [re74] at re75
  have re76 : rv9 a0 2 = rvh9 a0 2 := (by rw [pq9]; exact upr_j (by decide))
  rw [re75] at re76
  have re77 : rvn10 a0 2 = rv9 a0 2 := (by rw [hrn10]; exact congrFun (up0_a (ne_in ty292.1 hqn10)) _)
  rw [re76] at re77
  have re78 : rvh10 a0 2 = rvn10 a0 2 := (fl10.r ty359 rfl 2)
  rw [re77] at re78
  have re79 : rv10 a0 2 = rvh10 a0 2 := (by rw [pq10]; exact upr_j (by decide))
  rw [re78] at re79
  have re80 : rvn11 a0 2 = rv10 a0 2 := (by rw [hrn11]; exact congrFun (up0_a (ne_in ty475.1 hqn11)) _)
  rw [re79] at re80
  have re81 : rvh11 a0 2 = rvn11 a0 2 := (fl11.r ty514 rfl 2)
  rw [re80] at re81
  have re82 : rv11 a0 2 = rvh11 a0 2 := (by rw [pq11]; exact upr_j (by decide))
  rw [re81] at re82
  refine hv2 (show rv4 a0 3 = (some qn4) from by rw [pq4]; exact upr_s) (show rvn5 a0 3 = rv4 a0 3 from (by rw [hrn5]; exact congrFun (up0_a (ne_in ty43.1 hqn5)) _)) (fun rp5 re83 => ?_)
  rw [rp5] at re83
  have re84 : rvh5 a0 3 = rvn5 a0 3 := (fl5.r ty57 rfl 3)
  rw [re83] at re84
  have re85 : rv5 a0 3 = rvh5 a0 3 := (by rw [pq5]; exact upr_j (by decide))
  rw [re84] at re85
  have re86 : rvn6 a0 3 = rv5 a0 3 := (by rw [hrn6]; exact congrFun (up0_a (ne_in ty68.1 hqn6)) _)
  rw [re85] at re86
  have re87 : rvh6 a0 3 = rvn6 a0 3 := (fl6.r ty87 rfl 3)
  rw [re86] at re87
  have re88 : rv6 a0 3 = rvh6 a0 3 := (by rw [pq6]; exact upr_j (by decide))
  rw [re87] at re88
  have re89 : rvn7 a0 3 = rv6 a0 3 := (by rw [hrn7]; exact congrFun (up0_a (ne_in ty101.1 hqn7)) _)
  rw [re88] at re89
  have re90 : rvh7 a0 3 = rvn7 a0 3 := (fl7.r ty127 rfl 3)
  rw [re89] at re90
  have re91 : rv7 a0 3 = rvh7 a0 3 := (by rw [pq7]; exact upr_j (by decide))
  rw [re90] at re91
  have re92 : rvn8 a0 3 = rv7 a0 3 := (by rw [hrn8]; exact congrFun (up0_a (ne_in ty145.1 hqn8)) _)
  rw [re91] at re92
  have re93 : rvh8 a0 3 = rvn8 a0 3 := (fl8.r ty182 rfl 3)
  rw [re92] at re93
  have re94 : rv8 a0 3 = rvh8 a0 3 := (by rw [pq8]; exact upr_j (by decide))
  rw [re93] at re94
  have re95 : rvn9 a0 3 = rv8 a0 3 := (by rw [hrn9]; exact congrFun (up0_a (ne_in ty207.1 hqn9)) _)
  rw [re94] at re95
  have re96 : rvh9 a0 3 = rvn9 a0 3 := (fl9.r ty259 rfl 3)
  rw [re95] at re96
  have re97 : rv9 a0 3 = rvh9 a0 3 := (by rw [pq9]; exact upr_j (by decide))
  rw [re96] at re97
  have re98 : rvn10 a0 3 = rv9 a0 3 := (by rw [hrn10]; exact congrFun (up0_a (ne_in ty292.1 hqn10)) _)
  rw [re97] at re98
  have re99 : rvh10 a0 3 = rvn10 a0 3 := (fl10.r ty359 rfl 3)
  rw [re98] at re99
  have re100 : rv10 a0 3 = rvh10 a0 3 := (by rw [pq10]; exact upr_j (by decide))
  rw [re99] at re100
  have re101 : rvn11 a0 3 = rv10 a0 3 := (by rw [hrn11]; exact congrFun (up0_a (ne_in ty475.1 hqn11)) _)
  rw [re100] at re101
  have re102 : rvh11 a0 3 = rvn11 a0 3 := (fl11.r ty514 rfl 3)
  rw [re101] at re102
  have re103 : rv11 a0 3 = rvh11 a0 3 := (by rw [pq11]; exact upr_j (by decide))
  rw [re102] at re103
  refine hv2 (show rv5 a0 4 = (some qn5) from by rw [pq5]; exact upr_s) (show rvn6 a0 4 = rv5 a0 4 from (by rw [hrn6]; exact congrFun (up0_a (ne_in ty68.1 hqn6)) _)) (fun rp6 re104 => ?_)
  rw [rp6] at re104
  have re105 : rvh6 a0 4 = rvn6 a0 4 := (fl6.r ty87 rfl 4)
  rw [re104] at re105
  have re106 : rv6 a0 4 = rvh6 a0 4 := (by rw [pq6]; exact upr_j (by decide))
  rw [re105] at re106
  have re107 : rvn7 a0 4 = rv6 a0 4 := (by rw [hrn7]; exact congrFun (up0_a (ne_in ty101.1 hqn7)) _)
  rw [re106] at re107
  have re108 : rvh7 a0 4 = rvn7 a0 4 := (fl7.r ty127 rfl 4)
  rw [re107] at re108
  have re109 : rv7 a0 4 = rvh7 a0 4 := (by rw [pq7]; exact upr_j (by decide))
  rw [re108] at re109
  have re110 : rvn8 a0 4 = rv7 a0 4 := (by rw [hrn8]; exact congrFun (up0_a (ne_in ty145.1 hqn8)) _)
  rw [re109] at re110
  have re111 : rvh8 a0 4 = rvn8 a0 4 := (fl8.r ty182 rfl 4)
  rw [re110] at re111
  have re112 : rv8 a0 4 = rvh8 a0 4 := (by rw [pq8]; exact upr_j (by decide))
  rw [re111] at re112
  have re113 : rvn9 a0 4 = rv8 a0 4 := (by rw [hrn9]; exact congrFun (up0_a (ne_in ty207.1 hqn9)) _)
  rw [re112] at re113
  have re114 : rvh9 a0 4 = rvn9 a0 4 := (fl9.r ty259 rfl 4)
  rw [re113] at re114
  have re115 : rv9 a0 4 = rvh9 a0 4 := (by rw [pq9]; exact upr_j (by decide))
  rw [re114] at re115
  have re116 : rvn10 a0 4 = rv9 a0 4 := (by rw [hrn10]; exact congrFun (up0_a (ne_in ty292.1 hqn10)) _)
  rw [re115] at re116
  have re117 : rvh10 a0 4 = rvn10 a0 4 := (fl10.r ty359 rfl 4)
  rw [re116] at re117
  have re118 : rv10 a0 4 = rvh10 a0 4 := (by rw [pq10]; exact upr_j (by decide))
  rw [re117] at re118
  have re119 : rvn11 a0 4 = rv10 a0 4 := (by rw [hrn11]; exact congrFun (up0_a (ne_in ty475.1 hqn11)) _)
  rw [re118] at re119
  have re120 : rvh11 a0 4 = rvn11 a0 4 := (fl11.r ty514 rfl 4)
  rw [re119] at re120
  have re121 : rv11 a0 4 = rvh11 a0 4 := (by rw [pq11]; exact upr_j (by decide))
  rw [re120] at re121
  refine hv2 (show rv6 a0 5 = (some qn6) from by rw [pq6]; exact upr_s) (show rvn7 a0 5 = rv6 a0 5 from (by rw [hrn7]; exact congrFun (up0_a (ne_in ty101.1 hqn7)) _)) (fun rp7 re122 => ?_)
  rw [rp7] at re122
  have re123 : rvh7 a0 5 = rvn7 a0 5 := (fl7.r ty127 rfl 5)
  rw [re122] at re123
  have re124 : rv7 a0 5 = rvh7 a0 5 := (by rw [pq7]; exact upr_j (by decide))
  rw [re123] at re124
  have re125 : rvn8 a0 5 = rv7 a0 5 := (by rw [hrn8]; exact congrFun (up0_a (ne_in ty145.1 hqn8)) _)
  rw [re124] at re125
  have re126 : rvh8 a0 5 = rvn8 a0 5 := (fl8.r ty182 rfl 5)
  rw [re125] at re126
  have re127 : rv8 a0 5 = rvh8 a0 5 := (by rw [pq8]; exact upr_j (by decide))
  rw [re126] at re127
  have re128 : rvn9 a0 5 = rv8 a0 5 := (by rw [hrn9]; exact congrFun (up0_a (ne_in ty207.1 hqn9)) _)
  rw [re127] at re128
  have re129 : rvh9 a0 5 = rvn9 a0 5 := (fl9.r ty259 rfl 5)
  rw [re128] at re129
  have re130 : rv9 a0 5 = rvh9 a0 5 := (by rw [pq9]; exact upr_j (by decide))
  rw [re129] at re130
  have re131 : rvn10 a0 5 = rv9 a0 5 := (by rw [hrn10]; exact congrFun (up0_a (ne_in ty292.1 hqn10)) _)
  rw [re130] at re131
  have re132 : rvh10 a0 5 = rvn10 a0 5 := (fl10.r ty359 rfl 5)
  rw [re131] at re132
  have re133 : rv10 a0 5 = rvh10 a0 5 := (by rw [pq10]; exact upr_j (by decide))
  rw [re132] at re133
  have re134 : rvn11 a0 5 = rv10 a0 5 := (by rw [hrn11]; exact congrFun (up0_a (ne_in ty475.1 hqn11)) _)
  rw [re133] at re134
  have re135 : rvh11 a0 5 = rvn11 a0 5 := (fl11.r ty514 rfl 5)
  rw [re134] at re135
  have re136 : rv11 a0 5 = rvh11 a0 5 := (by rw [pq11]; exact upr_j (by decide))
  rw [re135] at re136
  refine hv2 (show rv7 a0 6 = (some qn7) from by rw [pq7]; exact upr_s) (show rvn8 a0 6 = rv7 a0 6 from (by rw [hrn8]; exact congrFun (up0_a (ne_in ty145.1 hqn8)) _)) (fun rp8 re137 => ?_)
  rw [rp8] at re137
  have re138 : rvh8 a0 6 = rvn8 a0 6 := (fl8.r ty182 rfl 6)
  rw [re137] at re138
  have re139 : rv8 a0 6 = rvh8 a0 6 := (by rw [pq8]; exact upr_j (by decide))
  rw [re138] at re139
  have re140 : rvn9 a0 6 = rv8 a0 6 := (by rw [hrn9]; exact congrFun (up0_a (ne_in ty207.1 hqn9)) _)
  rw [re139] at re140
  have re141 : rvh9 a0 6 = rvn9 a0 6 := (fl9.r ty259 rfl 6)
  rw [re140] at re141
  have re142 : rv9 a0 6 = rvh9 a0 6 := (by rw [pq9]; exact upr_j (by decide))
  rw [re141] at re142
  have re143 : rvn10 a0 6 = rv9 a0 6 := (by rw [hrn10]; exact congrFun (up0_a (ne_in ty292.1 hqn10)) _)
  rw [re142] at re143
  have re144 : rvh10 a0 6 = rvn10 a0 6 := (fl10.r ty359 rfl 6)
  rw [re143] at re144
  have re145 : rv10 a0 6 = rvh10 a0 6 := (by rw [pq10]; exact upr_j (by decide))
  rw [re144] at re145
  have re146 : rvn11 a0 6 = rv10 a0 6 := (by rw [hrn11]; exact congrFun (up0_a (ne_in ty475.1 hqn11)) _)
  rw [re145] at re146
  have re147 : rvh11 a0 6 = rvn11 a0 6 := (fl11.r ty514 rfl 6)
  rw [re146] at re147
  have re148 : rv11 a0 6 = rvh11 a0 6 := (by rw [pq11]; exact upr_j (by decide))
  rw [re147] at re148
  have re149 : rvh9 a0 7 = rvn9 a0 7 := (fl9.r ty259 rfl 7)
  rw [re1] at re149
  have re150 : rv9 a0 7 = rvh9 a0 7 := (by rw [pq9]; exact upr_j (by decide))
  rw [re149] at re150
  have re151 : rvn10 a0 7 = rv9 a0 7 := (by rw [hrn10]; exact congrFun (up0_a (ne_in ty292.1 hqn10)) _)
  rw [re150] at re151
  have re152 : rvh10 a0 7 = rvn10 a0 7 := (fl10.r ty359 rfl 7)
  rw [re151] at re152
  have re153 : rv10 a0 7 = rvh10 a0 7 := (by rw [pq10]; exact upr_j (by decide))
  rw [re152] at re153
  have re154 : rvn11 a0 7 = rv10 a0 7 := (by rw [hrn11]; exact congrFun (up0_a (ne_in ty475.1 hqn11)) _)
  rw [re153] at re154
  have re155 : rvh11 a0 7 = rvn11 a0 7 := (fl11.r ty514 rfl 7)
  rw [re154] at re155
  have re156 : rv11 a0 7 = rvh11 a0 7 := (by rw [pq11]; exact upr_j (by decide))
  rw [re155] at re156
  refine hv2 (show rv9 a0 8 = (some qn9) from by rw [pq9]; exact upr_s) (show rvn10 a0 8 = rv9 a0 8 from (by rw [hrn10]; exact congrFun (up0_a (ne_in ty292.1 hqn10)) _)) (fun rp9 re157 => ?_)
  rw [rp9] at re157
  have re158 : rvh10 a0 8 = rvn10 a0 8 := (fl10.r ty359 rfl 8)
  rw [re157] at re158
  have re159 : rv10 a0 8 = rvh10 a0 8 := (by rw [pq10]; exact upr_j (by decide))
  rw [re158] at re159
  have re160 : rvn11 a0 8 = rv10 a0 8 := (by rw [hrn11]; exact congrFun (up0_a (ne_in ty475.1 hqn11)) _)
  rw [re159] at re160
  have re161 : rvh11 a0 8 = rvn11 a0 8 := (fl11.r ty514 rfl 8)
  rw [re160] at re161
  have re162 : rv11 a0 8 = rvh11 a0 8 := (by rw [pq11]; exact upr_j (by decide))
  rw [re161] at re162
  refine hv2 (show rv10 a0 9 = (some qn10) from by rw [pq10]; exact upr_s) (show rvn11 a0 9 = rv10 a0 9 from (by rw [hrn11]; exact congrFun (up0_a (ne_in ty475.1 hqn11)) _)) (fun rp10 re163 => ?_)
  rw [rp10] at re163
  have re164 : rvh11 a0 9 = rvn11 a0 9 := (fl11.r ty514 rfl 9)
  rw [re163] at re164
  have re165 : rv11 a0 9 = rvh11 a0 9 := (by rw [pq11]; exact upr_j (by decide))
  rw [re164] at re165
  refine hv19 (show rv11 a0 10 = (some qn11) from by rw [pq11]; exact upr_s) (show (-2147483648) ≤ iv8 a0 11 ∧ iv8 a0 11 ≤ 2147483647 from W54.int ty636 11) (show iv8 a0 11 = iv7 a0 11 from by rw [pq19]; exact up2_j (by decide)) (show iv7 a0 11 = iv6 a0 11 from by rw [pq18]; exact up2_j (by decide)) (show iv6 a0 11 = iv5 a0 11 from by rw [pq17]; exact up2_j (by decide)) (show iv5 a0 11 = iv4 a0 11 from by rw [pq16]; exact up2_j (by decide)) (show iv4 a0 11 = iv3 a0 11 from by rw [pq15]; exact up2_j (by decide)) (show iv3 a0 11 = iv2 a0 11 from by rw [pq14]; exact up2_j (by decide)) (show iv2 a0 11 = iv1 a0 11 from by rw [pq13]; exact up2_j (by decide)) (show iv1 a0 11 = 32 from by rw [pq12]; exact up2_s) (show (-2147483648) ≤ iv8 a0 12 ∧ iv8 a0 12 ≤ 2147483647 from W54.int ty636 12) (show iv8 a0 12 = iv7 a0 12 from by rw [pq19]; exact up2_j (by decide)) (show iv7 a0 12 = iv6 a0 12 from by rw [pq18]; exact up2_j (by decide)) (show iv6 a0 12 = iv5 a0 12 from by rw [pq17]; exact up2_j (by decide)) (show iv5 a0 12 = iv4 a0 12 from by rw [pq16]; exact up2_j (by decide)) (show iv4 a0 12 = iv3 a0 12 from by rw [pq15]; exact up2_j (by decide)) (show iv3 a0 12 = iv2 a0 12 from by rw [pq14]; exact up2_j (by decide)) (show iv2 a0 12 = 25 from by rw [pq13]; exact up2_s) (show ∀ k, ([0, 1, 2, 3, 4, 5, 6, 7, 8, 9, 10] : List Nat).contains k = false → rv11 a0 k = rv a0 k from fun k hk => (Eq.trans (show rv11 a0 k = rvh11 a0 k from (by rw [pq11]; exact upr_j (fun e => by subst e; exact absurd hk (by decide)))) (Eq.trans (show rvh11 a0 k = rvn11 a0 k from (fl11.r ty514 rfl k)) (Eq.trans (show rvn11 a0 k = rv10 a0 k from (by rw [hrn11]; exact congrFun (up0_a (ne_in ty475.1 hqn11)) _)) (Eq.trans (show rv10 a0 k = rvh10 a0 k from (by rw [pq10]; exact upr_j (fun e => by subst e; exact absurd hk (by decide)))) (Eq.trans (show rvh10 a0 k = rvn10 a0 k from (fl10.r ty359 rfl k)) (Eq.trans (show rvn10 a0 k = rv9 a0 k from (by rw [hrn10]; exact congrFun (up0_a (ne_in ty292.1 hqn10)) _)) (Eq.trans (show rv9 a0 k = rvh9 a0 k from (by rw [pq9]; exact upr_j (fun e => by subst e; exact absurd hk (by decide)))) (Eq.trans (show rvh9 a0 k = rvn9 a0 k from (fl9.r ty259 rfl k)) (Eq.trans (show rvn9 a0 k = rv8 a0 k from (by rw [hrn9]; exact congrFun (up0_a (ne_in ty207.1 hqn9)) _)) (Eq.trans (show rv8 a0 k = rvh8 a0 k from (by rw [pq8]; exact upr_j (fun e => by subst e; exact absurd hk (by decide)))) (Eq.trans (show rvh8 a0 k = rvn8 a0 k from (fl8.r ty182 rfl k)) (Eq.trans (show rvn8 a0 k = rv7 a0 k from (by rw [hrn8]; exact congrFun (up0_a (ne_in ty145.1 hqn8)) _)) (Eq.trans (show rv7 a0 k = rvh7 a0 k from (by rw [pq7]; exact upr_j (fun e => by subst e; exact absurd hk (by decide)))) (Eq.trans (show rvh7 a0 k = rvn7 a0 k from (fl7.r ty127 rfl k)) (Eq.trans (show rvn7 a0 k = rv6 a0 k from (by rw [hrn7]; exact congrFun (up0_a (ne_in ty101.1 hqn7)) _)) (Eq.trans (show rv6 a0 k = rvh6 a0 k from (by rw [pq6]; exact upr_j (fun e => by subst e; exact absurd hk (by decide)))) (Eq.trans (show rvh6 a0 k = rvn6 a0 k from (fl6.r ty87 rfl k)) (Eq.trans (show rvn6 a0 k = rv5 a0 k from (by rw [hrn6]; exact congrFun (up0_a (ne_in ty68.1 hqn6)) _)) (Eq.trans (show rv5 a0 k = rvh5 a0 k from (by rw [pq5]; exact upr_j (fun e => by subst e; exact absurd hk (by decide)))) (Eq.trans (show rvh5 a0 k = rvn5 a0 k from (fl5.r ty57 rfl k)) (Eq.trans (show rvn5 a0 k = rv4 a0 k from (by rw [hrn5]; exact congrFun (up0_a (ne_in ty43.1 hqn5)) _)) (Eq.trans (show rv4 a0 k = rvh4 a0 k from (by rw [pq4]; exact upr_j (fun e => by subst e; exact absurd hk (by decide)))) (Eq.trans (show rvh4 a0 k = rvn4 a0 k from (fl4.r ty34 rfl k)) (Eq.trans (show rvn4 a0 k = rv3 a0 k from (by rw [hrn4]; exact congrFun (up0_a (ne_in ty24.1 hqn4)) _)) (Eq.trans (show rv3 a0 k = rvh3 a0 k from (by rw [pq3]; exact upr_j (fun e => by subst e; exact absurd hk (by decide)))) (Eq.trans (show rvh3 a0 k = rvn3 a0 k from (fl3.r ty17 rfl k)) (Eq.trans (show rvn3 a0 k = rv2 a0 k from (by rw [hrn3]; exact congrFun (up0_a (ne_in ty11.1 hqn3)) _)) (Eq.trans (show rv2 a0 k = rvh2 a0 k from (by rw [pq2]; exact upr_j (fun e => by subst e; exact absurd hk (by decide)))) (Eq.trans (show rvh2 a0 k = rvn2 a0 k from (fl2.r ty6 rfl k)) (Eq.trans (show rvn2 a0 k = rv1 a0 k from (by rw [hrn2]; exact congrFun (up0_a (ne_in ty4.1 hqn2)) _)) (Eq.trans (show rv1 a0 k = rvh1 a0 k from (by rw [pq1]; exact upr_j (fun e => by subst e; exact absurd hk (by decide)))) (Eq.trans (show rvh1 a0 k = rvn1 a0 k from (fl1.r ty1 rfl k)) (show rvn1 a0 k = rv a0 k from (by rw [hrn1]; exact congrFun (up0_a (ne_in t_a0.1 hqn1)) _))))))))))))))))))))))))))))))))))) (fun rp11 ri1 ie1 ie2 ie3 ie4 ie5 ie6 ie7 ie8 ri2 ie9 ie10 ie11 ie12 ie13 ie14 ie15 rn12 => ?_)
  have rz0 : ∀ k, ([0, 1, 2, 3, 4, 5, 6, 7, 8, 9, 10] : List Nat).contains k = false → rv11 a0 k = none := fun k hk => (rn12 k hk).trans (hn0 k)
  refine c_retag (q := a0) (t := 1) (by rw [ty636.2]; rfl) (fun clr14 hcr14 => ?_)
  refine hv40 (ty_rt ty637 hcr14 (ne_ty ty637 ty636 (by decide))) (ty_rt ty638 hcr14 (ne_ty ty638 ty636 (by decide))) (ty_rt ty639 hcr14 (ne_ty ty639 ty636 (by decide))) (ty_rt ty640 hcr14 (ne_ty ty640 ty636 (by decide))) (ty_rt ty641 hcr14 (ne_ty ty641 ty636 (by decide))) (ty_rt ty642 hcr14 (ne_ty ty642 ty636 (by decide))) (ty_rt ty643 hcr14 (ne_ty ty643 ty636 (by decide))) (ty_rt ty644 hcr14 (ne_ty ty644 ty636 (by decide))) (ty_rt ty645 hcr14 (ne_ty ty645 ty636 (by decide))) (ty_rt ty646 hcr14 (ne_ty ty646 ty636 (by decide))) (ty_rt ty647 hcr14 (ne_ty ty647 ty636 (by decide))) (ty_rt ty648 hcr14 (ne_ty ty648 ty636 (by decide))) (ty_rt ty649 hcr14 (ne_ty ty649 ty636 (by decide))) (ty_rt ty650 hcr14 (ne_ty ty650 ty636 (by decide))) (ty_rt ty651 hcr14 (ne_ty ty651 ty636 (by decide))) (ty_rt ty652 hcr14 (ne_ty ty652 ty636 (by decide))) (ty_rt ty653 hcr14 (ne_ty ty653 ty636 (by decide))) (ty_rt ty654 hcr14 (ne_ty ty654 ty636 (by decide))) (ty_rt ty655 hcr14 (ne_ty ty655 ty636 (by decide))) (ty_rt ty656 hcr14 (ne_ty ty656 ty636 (by decide))) (ty_rt ty657 hcr14 (ne_ty ty657 ty636 (by decide))) (ty_rt ty658 hcr14 (ne_ty ty658 ty636 (by decide))) (ty_rt ty659 hcr14 (ne_ty ty659 ty636 (by decide))) (ty_rt ty660 hcr14 (ne_ty ty660 ty636 (by decide))) (ty_rt ty661 hcr14 (ne_ty ty661 ty636 (by decide))) (ty_rt ty662 hcr14 (ne_ty ty662 ty636 (by decide))) (ty_rt ty663 hcr14 (ne_ty ty663 ty636 (by decide))) (ty_rt ty664 hcr14 (ne_ty ty664 ty636 (by decide))) (ty_rt ty665 hcr14 (ne_ty ty665 ty636 (by decide))) (ty_rt ty666 hcr14 (ne_ty ty666 ty636 (by decide))) (ty_rt ty667 hcr14 (ne_ty ty667 ty636 (by decide))) (ty_rt ty668 hcr14 (ne_ty ty668 ty636 (by decide))) (ty_rt ty669 hcr14 (ne_ty ty669 ty636 (by decide))) (ty_rt ty670 hcr14 (ne_ty ty670 ty636 (by decide))) (ty_rt ty671 hcr14 (ne_ty ty671 ty636 (by decide))) (ty_rt ty672 hcr14 (ne_ty ty672 ty636 (by decide))) (ty_rt ty673 hcr14 (ne_ty ty673 ty636 (by decide))) (ty_rt ty674 hcr14 (ne_ty ty674 ty636 (by decide))) (ty_rt ty675 hcr14 (ne_ty ty675 ty636 (by decide))) (ty_rt tqr13 hcr14 (ne_ty tqr13 ty636 (by decide))) (fun ty677 ty678 ty679 ty680 ty681 ty682 ty683 ty684 ty685 ty686 ty687 ty688 ty689 ty690 ty691 ty692 ty693 ty694 ty695 ty696 ty697 ty698 ty699 ty700 ty701 ty702 ty703 ty704 ty705 ty706 ty707 ty708 ty709 ty710 ty711 ty712 ty713 ty714 ty715 ty716 => ?_)
  refine hv3 (ty_rt ty676 hcr14 (ne_ty ty676 ty636 (by decide))) (show ty Lh11 clr14 a0 1 from ⟨ty636.1, by rw [hcr14, va_up_self]; rfl⟩) (NW.no nw35 X35 (hnt 1 (by decide)) (by decide)) (fun ty717 tqr14 hno14 => ?_)
  have W55 := W54.retagU ty636.1 (by rw [ty636.2]; rfl) hcr14 (fun k => by
        rcases k with _ | _ | _ | _ | _ | _ | _ | _ | _ | _ | _ | _ | _ | _ | _ | _ | _ | _ | _ | k
        · exact W54.int ty636 0
        · exact W54.int ty636 1
        · exact W54.int ty636 2
        · exact W54.int ty636 3
        · exact W54.int ty636 4
        · exact W54.int ty636 5
        · exact W54.int ty636 6
        · exact W54.int ty636 7
        · exact W54.int ty636 8
        · exact W54.int ty636 9
        · exact W54.int ty636 10
        · exact ⟨(by show 1 ≤ iv8 a0 11; first | exact bx_lo ‹iv8 a0 11 = _› (by decide) | omega), (by show iv8 a0 11 ≤ 100; first | exact bx_hi ‹iv8 a0 11 = _› (by decide) | omega)⟩
        · exact ⟨(by show 1 ≤ iv8 a0 12; first | exact bx_lo ‹iv8 a0 12 = _› (by decide) | omega), (by show iv8 a0 12 ≤ 50; first | exact bx_hi ‹iv8 a0 12 = _› (by decide) | omega)⟩
        · exact W54.int ty636 13
        · exact W54.int ty636 14
        · exact W54.int ty636 15
        · exact W54.int ty636 16
        · exact W54.int ty636 17
        · exact W54.int ty636 18
        · exact W54.int ty636 (k + 19)) (fun k => by
        rcases k with _ | _ | _ | _ | _ | _ | _ | _ | _ | _ | _ | _ | _ | _ | _ | _ | _ | _ | _ | k
        · rw [re31]; exact rok_some tqr14 ty677 rfl (by decide) rfl
        · rw [re58]; exact rok_some tqr14 ty679 rfl (by decide) rfl
        · rw [re82]; exact rok_some tqr14 ty681 rfl (by decide) rfl
        · rw [re103]; exact rok_some tqr14 ty683 rfl (by decide) rfl
        · rw [re121]; exact rok_some tqr14 ty685 rfl (by decide) rfl
        · rw [re136]; exact rok_some tqr14 ty688 rfl (by decide) rfl
        · rw [re148]; exact rok_some tqr14 ty692 rfl (by decide) rfl
        · rw [re156]; exact rok_some tqr14 ty699 rfl (by decide) rfl
        · rw [re162]; exact rok_some tqr14 ty707 rfl (by decide) rfl
        · rw [re165]; exact rok_some tqr14 ty714 rfl (by decide) rfl
        · rw [rp11]; exact rok_some tqr14 ty716 rfl (by decide) rfl
        · rw [rz0 11 (by decide)]; exact rok_none tqr14 rfl
        · rw [rz0 12 (by decide)]; exact rok_none tqr14 rfl
        · rw [rz0 13 (by decide)]; exact rok_none tqr14 rfl
        · rw [rz0 14 (by decide)]; exact rok_none tqr14 rfl
        · rw [rz0 15 (by decide)]; exact rok_none tqr14 rfl
        · rw [rz0 16 (by decide)]; exact rok_none tqr14 rfl
        · rw [rz0 17 (by decide)]; exact rok_none tqr14 rfl
        · rw [rz0 18 (by decide)]; exact rok_none tqr14 rfl
        · rw [rz0 (k + 19) (by simp)]; exact rok_none tqr14 rfl) (fun z => by cases z) (fun z => by cases z) (fun z => by cases z) hno14
  refine hv40 (nw35.rt hcr14) (show clr14 a0 = 1 from by rw [hcr14]; exact va_up_self _ _ _) (show clh10 qn10 = cln10 qn10 from (xl20 qn10 tqn10.1).2.1) (show clr10 qn10 = clh10 qn10 from by rw [hcr10]; exact va_up_ne _ _ (ne_ty ty473 exf10t (by decide))) (show cln11 qn10 = clr11 qn10 from (xl21 qn10 tqr11.1).2.1) (show clh11 qn10 = cln11 qn10 from (xl22 qn10 ty552.1).2.1) (show clr12 qn10 = clh11 qn10 from by rw [hcr12]; exact va_up_ne _ _ (ne_ty ty630 exf11t (by decide))) (show clr13 qn10 = clr12 qn10 from by rw [hcr13]; exact va_up_ne _ _ (ne_ty ty631 ty635 (by decide))) (show clr14 qn10 = clr13 qn10 from by rw [hcr14]; exact va_up_ne _ _ (ne_ty ty674 ty636 (by decide))) (show clh11 qn11 = cln11 qn11 from (xl22 qn11 tqn11.1).2.1) (show clr12 qn11 = clh11 qn11 from by rw [hcr12]; exact va_up_ne _ _ (ne_ty ty634 exf11t (by decide))) (show clr14 qn11 = clr13 qn11 from by rw [hcr14]; exact va_up_ne _ _ (ne_ty tqr13 ty636 (by decide))) (show clr11 bexf10 = clr10 bexf10 from by rw [hcr11]; exact va_up_ne _ _ (ne_ty tqr10 ty474 (by decide))) (show cln11 bexf10 = clr11 bexf10 from (xl21 bexf10 ty513.1).2.1) (show clh11 bexf10 = cln11 bexf10 from (xl22 bexf10 ty553.1).2.1) (show clr12 bexf10 = clh11 bexf10 from by rw [hcr12]; exact va_up_ne _ _ (ne_ty ty632 exf11t (by decide))) (show clr13 bexf10 = clr12 bexf10 from by rw [hcr13]; exact va_up_ne _ _ (ne_ty ty633 ty635 (by decide))) (show clr14 bexf10 = clr13 bexf10 from by rw [hcr14]; exact va_up_ne _ _ (ne_ty ty675 ty636 (by decide))) (show clr13 bexf11 = clr12 bexf11 from by rw [hcr13]; exact va_up_ne _ _ (ne_ty tqr12 ty635 (by decide))) (show clr14 bexf11 = clr13 bexf11 from by rw [hcr14]; exact va_up_ne _ _ (ne_ty ty676 ty636 (by decide))) (show 0 ≤ iv8 b0exf5 2 ∧ iv8 b0exf5 2 ≤ 30 from W55.int ty686 2) (show iv8 b0exf5 2 = iv7 b0exf5 2 from by rw [pq19]; exact up2_k (ne_ty ty646 ty636 (by decide))) (show iv7 b0exf5 2 = iv6 b0exf5 2 from by rw [pq18]; exact up2_k (ne_ty ty646 ty636 (by decide))) (show iv6 b0exf5 2 = iv5 b0exf5 2 from by rw [pq17]; exact up2_k (ne_ty ty646 ty636 (by decide))) (show iv5 b0exf5 2 = iv4 b0exf5 2 from by rw [pq16]; exact up2_k (ne_ty ty646 ty636 (by decide))) (show iv4 b0exf5 2 = iv3 b0exf5 2 from by rw [pq15]; exact up2_k (ne_ty ty646 ty636 (by decide))) (show iv3 b0exf5 2 = iv2 b0exf5 2 from by rw [pq14]; exact up2_k (ne_ty ty646 ty636 (by decide))) (show iv2 b0exf5 2 = iv1 b0exf5 2 from by rw [pq13]; exact up2_k (ne_ty ty646 ty636 (by decide))) (show iv1 b0exf5 2 = ivh11 b0exf5 2 from by rw [pq12]; exact up2_k (ne_ty ty646 ty636 (by decide))) (show ivh11 b0exf5 2 = ivn11 b0exf5 2 from fl11.i ty524 rfl 2) (show ivn11 b0exf5 2 = ivh10 b0exf5 2 from by rw [hin11]; exact congrFun (up0_a (ne_in ty485.1 hqn11)) _) (show ivh10 b0exf5 2 = ivn10 b0exf5 2 from fl10.i ty369 rfl 2) (show ivn10 b0exf5 2 = ivh9 b0exf5 2 from by rw [hin10]; exact congrFun (up0_a (ne_in ty312.1 hqn10)) _) (show ivh9 b0exf5 2 = ivn9 b0exf5 2 from fl9.i ty270 rfl 2) (show ivn9 b0exf5 2 = ivh8 b0exf5 2 from by rw [hin9]; exact congrFun (up0_a (ne_in ty227.1 hqn9)) _) (show ivh8 b0exf5 2 = ivn8 b0exf5 2 from fl8.i ty192 rfl 2) (show ivn8 b0exf5 2 = ivh7 b0exf5 2 from by rw [hin8]; exact congrFun (up0_a (ne_in ty165.1 hqn8)) _) (show ivh7 b0exf5 2 = ivn7 b0exf5 2 from fl7.i ty137 rfl 2) (show ivn7 b0exf5 2 = ivh6 b0exf5 2 from by rw [hin7]; exact congrFun (up0_a (ne_in ty121.1 hqn7)) _) (show ivh6 b0exf5 2 = ivn6 b0exf5 2 from fl6.i ty97 rfl 2) (fun nw36 ctr14 ce1 ce2 ce3 ce4 ce5 ce6 ce7 ce8 ce9 ce10 ce11 ce12 ce13 ce14 ce15 ce16 ce17 ce18 ri3 ie16 ie17 ie18 ie19 ie20 ie21 ie22 ie23 ie24 ie25 ie26 ie27 ie28 ie29 ie30 ie31 ie32 ie33 ie34 => ?_)
  refine hv40 (show ivn6 b0exf5 2 = ivh5 b0exf5 2 from by rw [hin6]; exact congrFun (up0_a (ne_in ty85.1 hqn6)) _) (show 0 ≤ iv8 b1exf5 2 ∧ iv8 b1exf5 2 ≤ 512 from W55.int ty687 2) (show iv8 b1exf5 2 = iv7 b1exf5 2 from by rw [pq19]; exact up2_k (ne_ty ty647 ty636 (by decide))) (show iv7 b1exf5 2 = iv6 b1exf5 2 from by rw [pq18]; exact up2_k (ne_ty ty647 ty636 (by decide))) (show iv6 b1exf5 2 = iv5 b1exf5 2 from by rw [pq17]; exact up2_k (ne_ty ty647 ty636 (by decide))) (show iv5 b1exf5 2 = iv4 b1exf5 2 from by rw [pq16]; exact up2_k (ne_ty ty647 ty636 (by decide))) (show iv4 b1exf5 2 = iv3 b1exf5 2 from by rw [pq15]; exact up2_k (ne_ty ty647 ty636 (by decide))) (show iv3 b1exf5 2 = iv2 b1exf5 2 from by rw [pq14]; exact up2_k (ne_ty ty647 ty636 (by decide))) (show iv2 b1exf5 2 = iv1 b1exf5 2 from by rw [pq13]; exact up2_k (ne_ty ty647 ty636 (by decide))) (show iv1 b1exf5 2 = ivh11 b1exf5 2 from by rw [pq12]; exact up2_k (ne_ty ty647 ty636 (by decide))) (show ivh11 b1exf5 2 = ivn11 b1exf5 2 from fl11.i ty525 rfl 2) (show ivn11 b1exf5 2 = ivh10 b1exf5 2 from by rw [hin11]; exact congrFun (up0_a (ne_in ty486.1 hqn11)) _) (show ivh10 b1exf5 2 = ivn10 b1exf5 2 from fl10.i ty370 rfl 2) (show ivn10 b1exf5 2 = ivh9 b1exf5 2 from by rw [hin10]; exact congrFun (up0_a (ne_in ty314.1 hqn10)) _) (show ivh9 b1exf5 2 = ivn9 b1exf5 2 from fl9.i ty271 rfl 2) (show ivn9 b1exf5 2 = ivh8 b1exf5 2 from by rw [hin9]; exact congrFun (up0_a (ne_in ty229.1 hqn9)) _) (show ivh8 b1exf5 2 = ivn8 b1exf5 2 from fl8.i ty193 rfl 2) (show ivn8 b1exf5 2 = ivh7 b1exf5 2 from by rw [hin8]; exact congrFun (up0_a (ne_in ty167.1 hqn8)) _) (show ivh7 b1exf5 2 = ivn7 b1exf5 2 from fl7.i ty138 rfl 2) (show ivn7 b1exf5 2 = ivh6 b1exf5 2 from by rw [hin7]; exact congrFun (up0_a (ne_in ty123.1 hqn7)) _) (show ivh6 b1exf5 2 = ivn6 b1exf5 2 from fl6.i ty98 rfl 2) (show ivn6 b1exf5 2 = ivh5 b1exf5 2 from by rw [hin6]; exact congrFun (up0_a (ne_in ty86.1 hqn6)) _) (show (-2147483648) ≤ iv8 a0 13 ∧ iv8 a0 13 ≤ 2147483647 from W55.int tqr14 13) (show iv8 a0 13 = iv7 a0 13 from by rw [pq19]; exact up2_j (by decide)) (show iv7 a0 13 = iv6 a0 13 from by rw [pq18]; exact up2_j (by decide)) (show iv6 a0 13 = iv5 a0 13 from by rw [pq17]; exact up2_j (by decide)) (show iv5 a0 13 = iv4 a0 13 from by rw [pq16]; exact up2_j (by decide)) (show iv4 a0 13 = iv3 a0 13 from by rw [pq15]; exact up2_j (by decide)) (show iv3 a0 13 = 36 from by rw [pq14]; exact up2_s) (show (-2147483648) ≤ iv8 a0 14 ∧ iv8 a0 14 ≤ 2147483647 from W55.int tqr14 14) (show iv8 a0 14 = iv7 a0 14 from by rw [pq19]; exact up2_j (by decide)) (show iv7 a0 14 = iv6 a0 14 from by rw [pq18]; exact up2_j (by decide)) (show iv6 a0 14 = iv5 a0 14 from by rw [pq17]; exact up2_j (by decide)) (show iv5 a0 14 = iv4 a0 14 from by rw [pq16]; exact up2_j (by decide)) (show iv4 a0 14 = 0 from by rw [pq15]; exact up2_s) (show (-2147483648) ≤ iv8 a0 15 ∧ iv8 a0 15 ≤ 2147483647 from W55.int tqr14 15) (show iv8 a0 15 = iv7 a0 15 from by rw [pq19]; exact up2_j (by decide)) (show iv7 a0 15 = iv6 a0 15 from by rw [pq18]; exact up2_j (by decide)) (show iv6 a0 15 = iv5 a0 15 from by rw [pq17]; exact up2_j (by decide)) (show iv5 a0 15 = 0 from by rw [pq16]; exact up2_s) (fun ie35 ri4 ie37 ie38 ie39 ie40 ie41 ie42 ie43 ie44 ie45 ie46 ie47 ie48 ie49 ie50 ie51 ie52 ie53 ie54 ie55 ie56 ri5 ie58 ie59 ie60 ie61 ie62 ie63 ri6 ie64 ie65 ie66 ie67 ie68 ri7 ie69 ie70 ie71 ie72 => ?_)
  refine hv40 (show (-2147483648) ≤ iv8 a0 16 ∧ iv8 a0 16 ≤ 2147483647 from W55.int tqr14 16) (show iv8 a0 16 = iv7 a0 16 from by rw [pq19]; exact up2_j (by decide)) (show iv7 a0 16 = iv6 a0 16 from by rw [pq18]; exact up2_j (by decide)) (show iv6 a0 16 = 0 from by rw [pq17]; exact up2_s) (show 0 ≤ iv8 qn1 2 ∧ iv8 qn1 2 ≤ 3000 from W55.int ty677 2) (show iv8 qn1 2 = iv7 qn1 2 from by rw [pq19]; exact up2_k (ne_ty ty637 ty636 (by decide))) (show iv7 qn1 2 = iv6 qn1 2 from by rw [pq18]; exact up2_k (ne_ty ty637 ty636 (by decide))) (show iv6 qn1 2 = iv5 qn1 2 from by rw [pq17]; exact up2_k (ne_ty ty637 ty636 (by decide))) (show iv5 qn1 2 = iv4 qn1 2 from by rw [pq16]; exact up2_k (ne_ty ty637 ty636 (by decide))) (show iv4 qn1 2 = iv3 qn1 2 from by rw [pq15]; exact up2_k (ne_ty ty637 ty636 (by decide))) (show iv3 qn1 2 = iv2 qn1 2 from by rw [pq14]; exact up2_k (ne_ty ty637 ty636 (by decide))) (show iv2 qn1 2 = iv1 qn1 2 from by rw [pq13]; exact up2_k (ne_ty ty637 ty636 (by decide))) (show iv1 qn1 2 = ivh11 qn1 2 from by rw [pq12]; exact up2_k (ne_ty ty637 ty636 (by decide))) (show ivh11 qn1 2 = ivn11 qn1 2 from fl11.i ty515 rfl 2) (show ivn11 qn1 2 = ivh10 qn1 2 from by rw [hin11]; exact congrFun (up0_a (ne_in ty476.1 hqn11)) _) (show ivh10 qn1 2 = ivn10 qn1 2 from fl10.i ty360 rfl 2) (show ivn10 qn1 2 = ivh9 qn1 2 from by rw [hin10]; exact congrFun (up0_a (ne_in ty294.1 hqn10)) _) (show ivh9 qn1 2 = ivn9 qn1 2 from fl9.i ty261 rfl 2) (show ivn9 qn1 2 = ivh8 qn1 2 from by rw [hin9]; exact congrFun (up0_a (ne_in ty209.1 hqn9)) _) (show ivh8 qn1 2 = ivn8 qn1 2 from fl8.i ty183 rfl 2) (show ivn8 qn1 2 = ivh7 qn1 2 from by rw [hin8]; exact congrFun (up0_a (ne_in ty147.1 hqn8)) _) (show ivh7 qn1 2 = ivn7 qn1 2 from fl7.i ty128 rfl 2) (show ivn7 qn1 2 = ivh6 qn1 2 from by rw [hin7]; exact congrFun (up0_a (ne_in ty103.1 hqn7)) _) (show ivh6 qn1 2 = ivn6 qn1 2 from fl6.i ty88 rfl 2) (show ivn6 qn1 2 = ivh5 qn1 2 from by rw [hin6]; exact congrFun (up0_a (ne_in ty70.1 hqn6)) _) (show ivh5 qn1 2 = ivn5 qn1 2 from fl5.i ty58 rfl 2) (show ivn5 qn1 2 = ivh4 qn1 2 from by rw [hin5]; exact congrFun (up0_a (ne_in ty45.1 hqn5)) _) (show ivh4 qn1 2 = ivn4 qn1 2 from fl4.i ty35 rfl 2) (show ivn4 qn1 2 = ivh3 qn1 2 from by rw [hin4]; exact congrFun (up0_a (ne_in ty26.1 hqn4)) _) (show ivh3 qn1 2 = ivn3 qn1 2 from fl3.i ty18 rfl 2) (show ivn3 qn1 2 = ivh2 qn1 2 from by rw [hin3]; exact congrFun (up0_a (ne_in ty13.1 hqn3)) _) (show ivh2 qn1 2 = ivn2 qn1 2 from fl2.i ty7 rfl 2) (show ivn2 qn1 2 = ivh1 qn1 2 from by rw [hin2]; exact congrFun (up0_a (ne_in tqr1.1 hqn2)) _) (show 0 ≤ iv8 qn2 2 ∧ iv8 qn2 2 ≤ 500 from W55.int ty679 2) (show iv8 qn2 2 = iv7 qn2 2 from by rw [pq19]; exact up2_k (ne_ty ty639 ty636 (by decide))) (show iv7 qn2 2 = iv6 qn2 2 from by rw [pq18]; exact up2_k (ne_ty ty639 ty636 (by decide))) (show iv6 qn2 2 = iv5 qn2 2 from by rw [pq17]; exact up2_k (ne_ty ty639 ty636 (by decide))) (show iv5 qn2 2 = iv4 qn2 2 from by rw [pq16]; exact up2_k (ne_ty ty639 ty636 (by decide))) (show iv4 qn2 2 = iv3 qn2 2 from by rw [pq15]; exact up2_k (ne_ty ty639 ty636 (by decide))) (show iv3 qn2 2 = iv2 qn2 2 from by rw [pq14]; exact up2_k (ne_ty ty639 ty636 (by decide))) (fun ri8 ie73 ie74 ie75 ri9 ie76 ie77 ie78 ie79 ie80 ie81 ie82 ie83 ie84 ie85 ie86 ie87 ie88 ie89 ie90 ie91 ie92 ie93 ie94 ie95 ie96 ie97 ie98 ie99 ie100 ie101 ie102 ie103 ri10 ie104 ie105 ie106 ie107 ie108 ie109 => ?_)
  refine hv40 (show iv2 qn2 2 = iv1 qn2 2 from by rw [pq13]; exact up2_k (ne_ty ty639 ty636 (by decide))) (show iv1 qn2 2 = ivh11 qn2 2 from by rw [pq12]; exact up2_k (ne_ty ty639 ty636 (by decide))) (show ivh11 qn2 2 = ivn11 qn2 2 from fl11.i ty517 rfl 2) (show ivn11 qn2 2 = ivh10 qn2 2 from by rw [hin11]; exact congrFun (up0_a (ne_in ty478.1 hqn11)) _) (show ivh10 qn2 2 = ivn10 qn2 2 from fl10.i ty362 rfl 2) (show ivn10 qn2 2 = ivh9 qn2 2 from by rw [hin10]; exact congrFun (up0_a (ne_in ty298.1 hqn10)) _) (show ivh9 qn2 2 = ivn9 qn2 2 from fl9.i ty263 rfl 2) (show ivn9 qn2 2 = ivh8 qn2 2 from by rw [hin9]; exact congrFun (up0_a (ne_in ty213.1 hqn9)) _) (show ivh8 qn2 2 = ivn8 qn2 2 from fl8.i ty185 rfl 2) (show ivn8 qn2 2 = ivh7 qn2 2 from by rw [hin8]; exact congrFun (up0_a (ne_in ty151.1 hqn8)) _) (show ivh7 qn2 2 = ivn7 qn2 2 from fl7.i ty130 rfl 2) (show ivn7 qn2 2 = ivh6 qn2 2 from by rw [hin7]; exact congrFun (up0_a (ne_in ty107.1 hqn7)) _) (show ivh6 qn2 2 = ivn6 qn2 2 from fl6.i ty90 rfl 2) (show ivn6 qn2 2 = ivh5 qn2 2 from by rw [hin6]; exact congrFun (up0_a (ne_in ty74.1 hqn6)) _) (show ivh5 qn2 2 = ivn5 qn2 2 from fl5.i ty60 rfl 2) (show ivn5 qn2 2 = ivh4 qn2 2 from by rw [hin5]; exact congrFun (up0_a (ne_in ty49.1 hqn5)) _) (show ivh4 qn2 2 = ivn4 qn2 2 from fl4.i ty37 rfl 2) (show ivn4 qn2 2 = ivh3 qn2 2 from by rw [hin4]; exact congrFun (up0_a (ne_in ty30.1 hqn4)) _) (show ivh3 qn2 2 = ivn3 qn2 2 from fl3.i ty20 rfl 2) (show ivn3 qn2 2 = ivh2 qn2 2 from by rw [hin3]; exact congrFun (up0_a (ne_in tqr2.1 hqn3)) _) (show 0 ≤ iv8 qn3 2 ∧ iv8 qn3 2 ≤ 4000 from W55.int ty681 2) (show iv8 qn3 2 = iv7 qn3 2 from by rw [pq19]; exact up2_k (ne_ty ty641 ty636 (by decide))) (show iv7 qn3 2 = iv6 qn3 2 from by rw [pq18]; exact up2_k (ne_ty ty641 ty636 (by decide))) (show iv6 qn3 2 = iv5 qn3 2 from by rw [pq17]; exact up2_k (ne_ty ty641 ty636 (by decide))) (show iv5 qn3 2 = iv4 qn3 2 from by rw [pq16]; exact up2_k (ne_ty ty641 ty636 (by decide))) (show iv4 qn3 2 = iv3 qn3 2 from by rw [pq15]; exact up2_k (ne_ty ty641 ty636 (by decide))) (show iv3 qn3 2 = iv2 qn3 2 from by rw [pq14]; exact up2_k (ne_ty ty641 ty636 (by decide))) (show iv2 qn3 2 = iv1 qn3 2 from by rw [pq13]; exact up2_k (ne_ty ty641 ty636 (by decide))) (show iv1 qn3 2 = ivh11 qn3 2 from by rw [pq12]; exact up2_k (ne_ty ty641 ty636 (by decide))) (show ivh11 qn3 2 = ivn11 qn3 2 from fl11.i ty519 rfl 2) (show ivn11 qn3 2 = ivh10 qn3 2 from by rw [hin11]; exact congrFun (up0_a (ne_in ty480.1 hqn11)) _) (show ivh10 qn3 2 = ivn10 qn3 2 from fl10.i ty364 rfl 2) (show ivn10 qn3 2 = ivh9 qn3 2 from by rw [hin10]; exact congrFun (up0_a (ne_in ty302.1 hqn10)) _) (show ivh9 qn3 2 = ivn9 qn3 2 from fl9.i ty265 rfl 2) (show ivn9 qn3 2 = ivh8 qn3 2 from by rw [hin9]; exact congrFun (up0_a (ne_in ty217.1 hqn9)) _) (show ivh8 qn3 2 = ivn8 qn3 2 from fl8.i ty187 rfl 2) (show ivn8 qn3 2 = ivh7 qn3 2 from by rw [hin8]; exact congrFun (up0_a (ne_in ty155.1 hqn8)) _) (show ivh7 qn3 2 = ivn7 qn3 2 from fl7.i ty132 rfl 2) (show ivn7 qn3 2 = ivh6 qn3 2 from by rw [hin7]; exact congrFun (up0_a (ne_in ty111.1 hqn7)) _) (show ivh6 qn3 2 = ivn6 qn3 2 from fl6.i ty92 rfl 2) (fun ie110 ie111 ie112 ie113 ie114 ie115 ie116 ie117 ie118 ie119 ie120 ie121 ie122 ie123 ie124 ie125 ie126 ie127 ie128 ie129 ri11 ie130 ie131 ie132 ie133 ie134 ie135 ie136 ie137 ie138 ie139 ie140 ie141 ie142 ie143 ie144 ie145 ie146 ie147 ie148 => ?_)
  refine hv40 (show ivn6 qn3 2 = ivh5 qn3 2 from by rw [hin6]; exact congrFun (up0_a (ne_in ty78.1 hqn6)) _) (show ivh5 qn3 2 = ivn5 qn3 2 from fl5.i ty62 rfl 2) (show ivn5 qn3 2 = ivh4 qn3 2 from by rw [hin5]; exact congrFun (up0_a (ne_in ty53.1 hqn5)) _) (show ivh4 qn3 2 = ivn4 qn3 2 from fl4.i ty39 rfl 2) (show ivn4 qn3 2 = ivh3 qn3 2 from by rw [hin4]; exact congrFun (up0_a (ne_in tqr3.1 hqn4)) _) (show 0 ≤ iv8 qn4 2 ∧ iv8 qn4 2 ≤ 200 from W55.int ty683 2) (show iv8 qn4 2 = iv7 qn4 2 from by rw [pq19]; exact up2_k (ne_ty ty643 ty636 (by decide))) (show iv7 qn4 2 = iv6 qn4 2 from by rw [pq18]; exact up2_k (ne_ty ty643 ty636 (by decide))) (show iv6 qn4 2 = iv5 qn4 2 from by rw [pq17]; exact up2_k (ne_ty ty643 ty636 (by decide))) (show iv5 qn4 2 = iv4 qn4 2 from by rw [pq16]; exact up2_k (ne_ty ty643 ty636 (by decide))) (show iv4 qn4 2 = iv3 qn4 2 from by rw [pq15]; exact up2_k (ne_ty ty643 ty636 (by decide))) (show iv3 qn4 2 = iv2 qn4 2 from by rw [pq14]; exact up2_k (ne_ty ty643 ty636 (by decide))) (show iv2 qn4 2 = iv1 qn4 2 from by rw [pq13]; exact up2_k (ne_ty ty643 ty636 (by decide))) (show iv1 qn4 2 = ivh11 qn4 2 from by rw [pq12]; exact up2_k (ne_ty ty643 ty636 (by decide))) (show ivh11 qn4 2 = ivn11 qn4 2 from fl11.i ty521 rfl 2) (show ivn11 qn4 2 = ivh10 qn4 2 from by rw [hin11]; exact congrFun (up0_a (ne_in ty482.1 hqn11)) _) (show ivh10 qn4 2 = ivn10 qn4 2 from fl10.i ty366 rfl 2) (show ivn10 qn4 2 = ivh9 qn4 2 from by rw [hin10]; exact congrFun (up0_a (ne_in ty306.1 hqn10)) _) (show ivh9 qn4 2 = ivn9 qn4 2 from fl9.i ty267 rfl 2) (show ivn9 qn4 2 = ivh8 qn4 2 from by rw [hin9]; exact congrFun (up0_a (ne_in ty221.1 hqn9)) _) (show ivh8 qn4 2 = ivn8 qn4 2 from fl8.i ty189 rfl 2) (show ivn8 qn4 2 = ivh7 qn4 2 from by rw [hin8]; exact congrFun (up0_a (ne_in ty159.1 hqn8)) _) (show ivh7 qn4 2 = ivn7 qn4 2 from fl7.i ty134 rfl 2) (show ivn7 qn4 2 = ivh6 qn4 2 from by rw [hin7]; exact congrFun (up0_a (ne_in ty115.1 hqn7)) _) (show ivh6 qn4 2 = ivn6 qn4 2 from fl6.i ty94 rfl 2) (show ivn6 qn4 2 = ivh5 qn4 2 from by rw [hin6]; exact congrFun (up0_a (ne_in ty82.1 hqn6)) _) (show ivh5 qn4 2 = ivn5 qn4 2 from fl5.i ty64 rfl 2) (show ivn5 qn4 2 = ivh4 qn4 2 from by rw [hin5]; exact congrFun (up0_a (ne_in tqr4.1 hqn5)) _) (show 0 ≤ iv8 qn9 5 ∧ iv8 qn9 5 ≤ 50 from W55.int ty707 5) (show iv8 qn9 5 = iv7 qn9 5 from by rw [pq19]; exact up2_k (ne_ty ty667 ty636 (by decide))) (show iv7 qn9 5 = iv6 qn9 5 from by rw [pq18]; exact up2_k (ne_ty ty667 ty636 (by decide))) (show iv6 qn9 5 = iv5 qn9 5 from by rw [pq17]; exact up2_k (ne_ty ty667 ty636 (by decide))) (show iv5 qn9 5 = iv4 qn9 5 from by rw [pq16]; exact up2_k (ne_ty ty667 ty636 (by decide))) (show iv4 qn9 5 = iv3 qn9 5 from by rw [pq15]; exact up2_k (ne_ty ty667 ty636 (by decide))) (show iv3 qn9 5 = iv2 qn9 5 from by rw [pq14]; exact up2_k (ne_ty ty667 ty636 (by decide))) (show iv2 qn9 5 = iv1 qn9 5 from by rw [pq13]; exact up2_k (ne_ty ty667 ty636 (by decide))) (show iv1 qn9 5 = ivh11 qn9 5 from by rw [pq12]; exact up2_k (ne_ty ty667 ty636 (by decide))) (show ivh11 qn9 5 = ivn11 qn9 5 from fl11.i ty545 rfl 5) (show ivn11 qn9 5 = ivh10 qn9 5 from by rw [hin11]; exact congrFun (up0_a (ne_in ty506.1 hqn11)) _) (show ivh10 qn9 5 = ivn10 qn9 5 from fl10.i ty390 rfl 5) (fun ie149 ie150 ie151 ie152 ie153 ri12 ie154 ie155 ie156 ie157 ie158 ie159 ie160 ie161 ie162 ie163 ie164 ie165 ie166 ie167 ie168 ie169 ie170 ie171 ie172 ie173 ie174 ie175 ri13 ie176 ie177 ie178 ie179 ie180 ie181 ie182 ie183 ie184 ie185 ie186 => ?_)
  refine hv40 (show ivn10 qn9 5 = ivh9 qn9 5 from by rw [hin10]; exact congrFun (up0_a (ne_in tqr9.1 hqn10)) _) (show 0 ≤ iv8 qn9 6 ∧ iv8 qn9 6 ≤ 1 from W55.int ty707 6) (show iv8 qn9 6 = iv7 qn9 6 from by rw [pq19]; exact up2_k (ne_ty ty667 ty636 (by decide))) (show iv7 qn9 6 = iv6 qn9 6 from by rw [pq18]; exact up2_k (ne_ty ty667 ty636 (by decide))) (show iv6 qn9 6 = iv5 qn9 6 from by rw [pq17]; exact up2_k (ne_ty ty667 ty636 (by decide))) (show iv5 qn9 6 = iv4 qn9 6 from by rw [pq16]; exact up2_k (ne_ty ty667 ty636 (by decide))) (show iv4 qn9 6 = iv3 qn9 6 from by rw [pq15]; exact up2_k (ne_ty ty667 ty636 (by decide))) (show iv3 qn9 6 = iv2 qn9 6 from by rw [pq14]; exact up2_k (ne_ty ty667 ty636 (by decide))) (show iv2 qn9 6 = iv1 qn9 6 from by rw [pq13]; exact up2_k (ne_ty ty667 ty636 (by decide))) (show iv1 qn9 6 = ivh11 qn9 6 from by rw [pq12]; exact up2_k (ne_ty ty667 ty636 (by decide))) (show ivh11 qn9 6 = ivn11 qn9 6 from fl11.i ty545 rfl 6) (show ivn11 qn9 6 = ivh10 qn9 6 from by rw [hin11]; exact congrFun (up0_a (ne_in ty506.1 hqn11)) _) (show ivh10 qn9 6 = ivn10 qn9 6 from fl10.i ty390 rfl 6) (show ivn10 qn9 6 = ivh9 qn9 6 from by rw [hin10]; exact congrFun (up0_a (ne_in tqr9.1 hqn10)) _) (show 0 ≤ iv8 b4exf9 2 ∧ iv8 b4exf9 2 ≤ 40000 from W55.int ty712 2) (show iv8 b4exf9 2 = iv7 b4exf9 2 from by rw [pq19]; exact up2_k (ne_ty ty672 ty636 (by decide))) (show iv7 b4exf9 2 = iv6 b4exf9 2 from by rw [pq18]; exact up2_k (ne_ty ty672 ty636 (by decide))) (show iv6 b4exf9 2 = iv5 b4exf9 2 from by rw [pq17]; exact up2_k (ne_ty ty672 ty636 (by decide))) (show iv5 b4exf9 2 = iv4 b4exf9 2 from by rw [pq16]; exact up2_k (ne_ty ty672 ty636 (by decide))) (show iv4 b4exf9 2 = iv3 b4exf9 2 from by rw [pq15]; exact up2_k (ne_ty ty672 ty636 (by decide))) (show iv3 b4exf9 2 = iv2 b4exf9 2 from by rw [pq14]; exact up2_k (ne_ty ty672 ty636 (by decide))) (show iv2 b4exf9 2 = iv1 b4exf9 2 from by rw [pq13]; exact up2_k (ne_ty ty672 ty636 (by decide))) (show iv1 b4exf9 2 = ivh11 b4exf9 2 from by rw [pq12]; exact up2_k (ne_ty ty672 ty636 (by decide))) (show ivh11 b4exf9 2 = ivn11 b4exf9 2 from fl11.i ty550 rfl 2) (show ivn11 b4exf9 2 = ivh10 b4exf9 2 from by rw [hin11]; exact congrFun (up0_a (ne_in ty511.1 hqn11)) _) (show ivh10 b4exf9 2 = ivn10 b4exf9 2 from fl10.i ty395 rfl 2) (show ivn10 b4exf9 2 = ivh9 b4exf9 2 from by rw [hin10]; exact congrFun (up0_a (ne_in ty357.1 hqn10)) _) (show 0 ≤ iv8 qn10 1 ∧ iv8 qn10 1 ≤ 200 from W55.int ty714 1) (show iv8 qn10 1 = iv7 qn10 1 from by rw [pq19]; exact up2_k (ne_ty ty674 ty636 (by decide))) (show iv7 qn10 1 = iv6 qn10 1 from by rw [pq18]; exact up2_k (ne_ty ty674 ty636 (by decide))) (show iv6 qn10 1 = iv5 qn10 1 from by rw [pq17]; exact up2_k (ne_ty ty674 ty636 (by decide))) (show iv5 qn10 1 = iv4 qn10 1 from by rw [pq16]; exact up2_k (ne_ty ty674 ty636 (by decide))) (show iv4 qn10 1 = iv3 qn10 1 from by rw [pq15]; exact up2_k (ne_ty ty674 ty636 (by decide))) (show iv3 qn10 1 = iv2 qn10 1 from by rw [pq14]; exact up2_k (ne_ty ty674 ty636 (by decide))) (show iv2 qn10 1 = iv1 qn10 1 from by rw [pq13]; exact up2_k (ne_ty ty674 ty636 (by decide))) (show iv1 qn10 1 = ivh11 qn10 1 from by rw [pq12]; exact up2_k (ne_ty ty674 ty636 (by decide))) (show ivh11 qn10 1 = ivn11 qn10 1 from fl11.i ty552 rfl 1) (show ivn11 qn10 1 = ivh10 qn10 1 from by rw [hin11]; exact congrFun (up0_a (ne_in tqr11.1 hqn11)) _) (show ∀ k, ([] : List Nat).contains k = false → rv11 bexf10 k = rvh10 bexf10 k from fun k hk => (Eq.trans (show rv11 bexf10 k = rvh11 bexf10 k from (by rw [pq11]; exact congrFun (upr_a (ne_ty ty675 ty636 (by decide))) _)) (Eq.trans (show rvh11 bexf10 k = rvn11 bexf10 k from (fl11.r ty553 rfl k)) (Eq.trans (show rvn11 bexf10 k = rv10 bexf10 k from (by rw [hrn11]; exact congrFun (up0_a (ne_in ty513.1 hqn11)) _)) (show rv10 bexf10 k = rvh10 bexf10 k from (by rw [pq10]; exact congrFun (upr_a (ne_ty ty513 ty475 (by decide))) _)))))) (show ∀ k, ([] : List Nat).contains k = false → rv11 bexf11 k = rvh11 bexf11 k from fun k hk => (show rv11 bexf11 k = rvh11 bexf11 k from (by rw [pq11]; exact congrFun (upr_a (ne_ty ty676 ty636 (by decide))) _))) (fun ie187 ri14 ie188 ie189 ie190 ie191 ie192 ie193 ie194 ie195 ie196 ie197 ie198 ie199 ri15 ie200 ie201 ie202 ie203 ie204 ie205 ie206 ie207 ie208 ie209 ie210 ie211 ri16 ie213 ie214 ie215 ie216 ie217 ie218 ie219 ie220 ie221 ie222 rn13 rn14 => ?_)
  have re166 : rv10 qn10 0 = rvh10 qn10 0 := (by rw [pq10]; exact congrFun (upr_a (ne_ty tqr11 ty475 (by decide))) _)
  have ct18 : clr14 qn10 = 18 := by omega
  have ct28 : clr14 qn11 = 28 := by omega
  have ct67 : clr14 bexf10 = 67 := by omega
  have ct69 : clr14 bexf11 = 69 := by omega
  rw [exf10r] at re166
  have re167 : rvn11 qn10 0 = rv10 qn10 0 := (by rw [hrn11]; exact congrFun (up0_a (ne_in tqr11.1 hqn11)) _)
  rw [re166] at re167
  have re168 : rvh11 qn10 0 = rvn11 qn10 0 := (fl11.r ty552 rfl 0)
  rw [re167] at re168
  have re169 : rv11 qn10 0 = rvh11 qn10 0 := (by rw [pq11]; exact congrFun (upr_a (ne_ty ty674 ty636 (by decide))) _)
  rw [re168] at re169
  have re170 : rv11 qn11 0 = rvh11 qn11 0 := (by rw [pq11]; exact congrFun (upr_a (ne_ty tqr13 ty636 (by decide))) _)
  rw [exf11r] at re170
  exact c_vret C dX11_init_184 rfl (by decide) (rom0 hph (Nat.le_refl 0) (by decide)) ⟨rfl, _, W55, SKL.of24 W55 ⟨a0, tqr14.1, bt_id tqr14.2 (by decide)⟩ ⟨qn1, ty677.1, bt_id ty677.2 (by decide)⟩ ⟨qn2, ty679.1, bt_id ty679.2 (by decide)⟩ ⟨qn3, ty681.1, bt_id ty681.2 (by decide)⟩ ⟨qn4, ty683.1, bt_id ty683.2 (by decide)⟩ ⟨b2exf8, ty702.1, bt_id ty702.2 (by decide)⟩ ⟨b3exf8, ty703.1, bt_id ty703.2 (by decide)⟩ ⟨b4exf8, ty704.1, bt_id ty704.2 (by decide)⟩ ⟨b5exf8, ty705.1, bt_id ty705.2 (by decide)⟩ ⟨b6exf8, ty706.1, bt_id ty706.2 (by decide)⟩ ⟨b4exf9, ty712.1, bt_id ty712.2 (by decide)⟩ ⟨qn5, ty685.1, bt_id ty685.2 (by decide)⟩ ⟨qn6, ty688.1, bt_id ty688.2 (by decide)⟩ ⟨qn7, ty692.1, bt_id ty692.2 (by decide)⟩ ⟨qn8, ty699.1, bt_id ty699.2 (by decide)⟩ ⟨qn9, ty707.1, bt_id ty707.2 (by decide)⟩ ⟨qn10, ty714.1, by omega⟩ ⟨qn11, ty716.1, by omega⟩ ⟨b0exf5, ty686.1, bt_id ty686.2 (by decide)⟩ ⟨b1exf5, ty687.1, bt_id ty687.2 (by decide)⟩ ⟨b0exf8, ty700.1, bt_id ty700.2 (by decide)⟩ ⟨b1exf8, ty701.1, bt_id ty701.2 (by decide)⟩ ⟨bexf10, ty715.1, by omega⟩ ⟨bexf11, ty717.1, by omega⟩, MRK.zero (W55.sk ty686 (by decide) rfl) (by omega), z23 (W55.sk ty687 (by decide) rfl) (by omega), tqr14, by omega, z23 (W55.sk ty677 (by decide) rfl) (by omega), z23 (W55.sk ty679 (by decide) rfl) (by omega), z23 (W55.sk ty686 (by decide) rfl) (by omega), ⟨qn10, qn11, bexf10, bexf11, re165, rp11, (fun e => by have q := congrArg clr14 e; omega), re169, re170, (fun e => by have q := congrArg clr14 e; omega), (fun k => (rn13 k rfl).trans (exf10z k)), (fun k => (rn14 k rfl).trans (exf11z k)), (by omega)⟩, ⟨by omega, by omega⟩, z23 (W55.sk ty681 (by decide) rfl) (by omega), z23 (W55.sk ty683 (by decide) rfl) (by omega), ⟨zkk (W55.sk ty707 (by decide) rfl) (by omega), zkk (W55.sk ty707 (by decide) rfl) (by omega)⟩, z23 (W55.sk ty712 (by decide) rfl) (by omega)⟩
end
section
def PMI (G : GT) (h0 : Nat) (D : List Nat) (ad : Nat → Nat) (v : Nat → Int) (L : List Nat) (E : Nat → va_E) : Prop := h0 ∈ L ∧ (∃ f, E h0 = ob 13 67 f ∧ (∀ k, D.contains k = true → f k = .ref (ad k)) ∧ (∀ k, k < 67 → mA k = false → f k = .int (iI (v k)))) ∧ (∀ k, D.contains k = true → mA k = true ∧ ad k ∈ L ∧ E (ad k) = mar G (mlen k) k (fun _ => 0) ∧ h0 ≠ ad k) ∧ (∀ i j, D.contains i = true → D.contains j = true → ad i = ad j → i = j)
section PMIS
variable {G : GT} {h0 q k : Nat} {D : List Nat} {ad : Nat → Nat} {v : Nat → Int} {L L2 : List Nat} {E E2 : Nat → va_E} {f : Nat → Value} {z : Int}
theorem mar_I {n : Nat} (h : mZ k = false) (hn : mlen k = n) : aI G n (fun _ => 0) = mar G (mlen k) k (fun _ => 0) := by unfold mar; rw [h, hn]; rfl
theorem mar_Z {n : Nat} (h : mZ k = true) (hn : mlen k = n) : aZ G n (fun _ => 0) = mar G (mlen k) k (fun _ => 0) := by unfold mar; rw [h, hn]; rfl
theorem cns {i : Nat} (h : (k :: D).contains i = true) : i = k ∨ D.contains i = true := by
  rw [List.contains_cons, Bool.or_eq_true, beq_iff_eq] at h; exact h
theorem PMI.arr {X : va_E} (hL : h0 ∈ L) (hE : E h0 = ob 13 67 f) (hf : ∀ k, D.contains k = true → f k = .ref (ad k)) (hg : ∀ k, k < 67 → mA k = false → f k = .int (iI (v k))) (hA : ∀ k, D.contains k = true → mA k = true ∧ ad k ∈ L ∧ E (ad k) = mar G (mlen k) k (fun _ => 0) ∧ h0 ≠ ad k) (hJ : ∀ i j, D.contains i = true → D.contains j = true → ad i = ad j → i = j) (nq : q ∉ L) (hl : L2 = L ++ [q]) (he : E2 = va_up (va_up E q X) h0 (ob 13 67 (va_up f k (.ref q)))) (hX : X = mar G (mlen k) k (fun _ => 0)) (hm : mA k = true) (hk : D.contains k = false) : PMI G h0 (k :: D) (va_up ad k q) v L2 E2 := by
  subst hl; subst he; subst hX
  refine hv2 (show ∀ i, D.contains i = true → i ≠ k from fun i hi e => by rw [e, hk] at hi; cases hi) (show h0 ≠ q from ne_in hL nq) (fun hkk h0q => ?_)
  refine ⟨List.mem_append_left _ hL, ⟨_, va_up_self _ _ _, ?_, ?_⟩, ?_, ?_⟩
  · intro i hi
    rcases cns hi with e | e
    · subst e; rw [va_up_self, va_up_self]
    · rw [va_up_ne _ _ (hkk i e), va_up_ne _ _ (hkk i e)]; exact hf i e
  · intro i hi hn
    rw [va_up_ne _ _ (fun e => by rw [e, hm] at hn; cases hn)]
    exact hg i hi hn
  · intro i hi
    rcases cns hi with e | e
    · subst e
      rw [va_up_self]
      exact ⟨hm, List.mem_append_right _ (List.mem_singleton.mpr rfl), (va_up_ne _ _ (Ne.symm h0q)).trans (va_up_self _ _ _), h0q⟩
    · obtain ⟨a1, a2, a3, a4⟩ := hA i e
      rw [va_up_ne _ _ (hkk i e)]
      exact ⟨a1, List.mem_append_left _ a2, (va_up_ne _ _ (Ne.symm a4)).trans ((va_up_ne _ _ (ne_in a2 nq)).trans a3), a4⟩
  · intro i j hi hj he
    rcases cns hi with e | e <;> rcases cns hj with e2 | e2
    · rw [e, e2]
    · subst e; rw [va_up_self, va_up_ne _ _ (hkk j e2)] at he; exact absurd (he ▸ (hA j e2).2.1) nq
    · subst e2; rw [va_up_self, va_up_ne _ _ (hkk i e)] at he; exact absurd (he ▸ (hA i e).2.1) nq
    · rw [va_up_ne _ _ (hkk i e), va_up_ne _ _ (hkk j e2)] at he; exact hJ i j e e2 he
theorem PMI.int (hL : h0 ∈ L) (hE : E h0 = ob 13 67 f) (hf : ∀ k, D.contains k = true → f k = .ref (ad k)) (hg : ∀ k, k < 67 → mA k = false → f k = .int (iI (v k))) (hA : ∀ k, D.contains k = true → mA k = true ∧ ad k ∈ L ∧ E (ad k) = mar G (mlen k) k (fun _ => 0) ∧ h0 ≠ ad k) (hJ : ∀ i j, D.contains i = true → D.contains j = true → ad i = ad j → i = j) (hl : L2 = L) (he : E2 = va_up E h0 (ob 13 67 (va_up f k (.int (iI z))))) (hm : mA k = false) : PMI G h0 D ad (va_up v k z) L2 E2 := by
  subst hl; subst he
  have hkk : ∀ i, D.contains i = true → i ≠ k := fun i hi e => by rw [e] at hi; rw [(hA k hi).1] at hm; cases hm
  refine ⟨hL, ⟨_, va_up_self _ _ _, ?_, ?_⟩, ?_, hJ⟩
  · intro i hi
    rw [va_up_ne _ _ (hkk i hi)]; exact hf i hi
  · intro i hi hn
    by_cases e : i = k
    · subst e; rw [va_up_self, va_up_self]
    · rw [va_up_ne _ _ e, va_up_ne _ _ e]; exact hg i hi hn
  · intro i hi
    obtain ⟨a1, a2, a3, a4⟩ := hA i hi
    exact ⟨a1, a2, (va_up_ne _ _ (Ne.symm a4)).trans a3, a4⟩
theorem mA_sub (h : mA k = true) : [2, 5, 6, 7, 8, 9, 10, 11, 12, 13, 14, 15, 16, 17, 18, 20, 21, 22, 24, 26, 27, 29, 34, 35, 37, 38, 40, 44, 45, 46, 47, 48, 49, 51, 54, 57, 58, 59, 62, 65].contains k = true := h
theorem PMI.fin (h : PMI G h0 D ad v L E) (hD : ([2, 5, 6, 7, 8, 9, 10, 11, 12, 13, 14, 15, 16, 17, 18, 20, 21, 22, 24, 26, 27, 29, 34, 35, 37, 38, 40, 44, 45, 46, 47, 48, 49, 51, 54, 57, 58, 59, 62, 65] : List Nat).all (fun t => D.contains t) = true) : mI G h0 ad mlen v (fun _ _ => 0) L E := by
  obtain ⟨hL, ⟨f, hE, hf, hg⟩, hA, hJ⟩ := h
  have hc : ∀ k, mA k = true → D.contains k = true := fun k hk => List.all_eq_true.mp hD k (List.contains_iff_mem.mp (mA_sub hk))
  refine ⟨hL, ?_, fun k hk => ⟨(hA k (hc k hk)).2.1, (hA k (hc k hk)).2.2.1⟩, fun k hk => (hA k (hc k hk)).2.2.2, fun i j hi hj => hJ i j (hc i hi) (hc j hj), fun _ _ => rfl, by decide, by decide⟩
  rw [hE]
  unfold ob
  congr 2
  refine List.map_congr_left (fun k hk => ?_)
  cases hm : mA k
  · rw [mfv_i hm]; exact hg k (List.mem_range.mp hk) hm
  · rw [mfv_a hm]; exact hf k (hc k hm)
end PMIS
def mv0 : Nat → Int := (va_up (va_up (va_up (va_up (fun _ => 0) 1 (-1)) 31 32) 32 25) 33 36)
set_option maxHeartbeats 4000000 in
set_option maxRecDepth 100000 in
theorem M_init {l : Launch} {G : GT} {L : List Nat} {E : Nat → va_E} {h0 : Nat} {f : Nat → Value} (hL : h0 ∈ L) (hE : E h0 = ob 13 67 f) (hf : ∀ k, k < 67 → mA k = false → f k = .int (iI 0)) : Mq l G yX12_init cX12_init 1 none 1 [.ref h0] L E 40 349703 (fun v L2 E2 => v = none ∧ ∃ ad, mI G h0 ad mlen mv0 (fun _ _ => 0) L2 E2) := by
  refine Mq.mk (by decide) (Nat.le_of_ble_eq_true rfl) ?_
  intro p e s m args below meth c A C
  have hI0 : PMI G h0 [] (fun _ => 0) (fun _ => 0) L E := ⟨hL, ⟨f, hE, (fun k hk => by cases hk), hf⟩, (fun k hk => by cases hk), (fun i j hi => by cases hi)⟩
  obtain ⟨hL0, ⟨f0, hE0, hf0, hg0⟩, hA0, hJ0⟩ := hI0
  refine q_aload_n (j := 0) C dX12_init_0 rfl ?_
  refine q_objInit C dX12_init_1 w6_54 w1_30 w1_31 ⟨Nat.le_of_ble_eq_true rfl, Nat.le_of_ble_eq_true rfl⟩ (Nat.le_of_ble_eq_true rfl) ?_
  refine q_aload_n (j := 0) C dX12_init_4 rfl ?_
  refine q_iconst (v := iI (-1)) C dX12_init_5 (by decide) ?_
  refine q_put (k := 1) C ck_13 dX12_init_6 w6_60 (by decide) rfl hL0 hE0 rfl rfl ?_
  refine q_cut (fun L1 E1 hl1 he1 => ?_)
  have hI1 := PMI.int (k := 1) (z := (-1)) hL0 hE0 hf0 hg0 hA0 hJ0 hl1 he1 (by decide)
  clear hL0 hE0 hf0 hg0 hA0 hJ0 hl1 he1
  obtain ⟨hL1, ⟨f1, hE1, hf1, hg1⟩, hA1, hJ1⟩ := hI1
  refine q_aload_n (j := 0) C dX12_init_9 rfl ?_
  refine q_sipush (v := iI 3000) C dX12_init_10 (by decide) ?_
  refine q_newaI (N := 3000) C dX12_init_13 w1_57 (by decide) (by decide) (by decide) ⟨Nat.le_of_ble_eq_true rfl, Nat.le_of_ble_eq_true rfl⟩ (fun q1 nq1 => ?_)
  refine q_putF (k := 2) C ck_13 dX12_init_15 w6_61 (by decide) rfl rfl rfl (List.mem_append_left _ hL1) ((va_up_ne _ _ (ne_in hL1 nq1)).trans hE1) rfl rfl ?_
  refine q_cut (fun L2 E2 hl2 he2 => ?_)
  have hI2 := PMI.arr (k := 2) hL1 hE1 hf1 hg1 hA1 hJ1 nq1 hl2 he2 (mar_I (by decide) (by decide)) (by decide) (by decide)
  clear hL1 hE1 hf1 hg1 hA1 hJ1 nq1 hl2 he2
  obtain ⟨hL2, ⟨f2, hE2, hf2, hg2⟩, hA2, hJ2⟩ := hI2
  refine q_aload_n (j := 0) C dX12_init_18 rfl ?_
  refine q_bipush (v := iI 30) C dX12_init_19 (by decide) ?_
  refine q_newaZ (N := 30) C dX12_init_21 w1_129 (by decide) (by decide) (by decide) ⟨Nat.le_of_ble_eq_true rfl, Nat.le_of_ble_eq_true rfl⟩ (fun q2 nq2 => ?_)
  refine q_putF (k := 5) C ck_13 dX12_init_23 w6_64 (by decide) rfl rfl rfl (List.mem_append_left _ hL2) ((va_up_ne _ _ (ne_in hL2 nq2)).trans hE2) rfl rfl ?_
  refine q_cut (fun L3 E3 hl3 he3 => ?_)
  have hI3 := PMI.arr (k := 5) hL2 hE2 hf2 hg2 hA2 hJ2 nq2 hl3 he3 (mar_Z (by decide) (by decide)) (by decide) (by decide)
  clear hL2 hE2 hf2 hg2 hA2 hJ2 nq2 hl3 he3
  obtain ⟨hL3, ⟨f3, hE3, hf3, hg3⟩, hA3, hJ3⟩ := hI3
  refine q_aload_n (j := 0) C dX12_init_26 rfl ?_
  refine q_bipush (v := iI 30) C dX12_init_27 (by decide) ?_
  refine q_newaI (N := 30) C dX12_init_29 w1_57 (by decide) (by decide) (by decide) ⟨Nat.le_of_ble_eq_true rfl, Nat.le_of_ble_eq_true rfl⟩ (fun q3 nq3 => ?_)
  refine q_putF (k := 6) C ck_13 dX12_init_31 w6_65 (by decide) rfl rfl rfl (List.mem_append_left _ hL3) ((va_up_ne _ _ (ne_in hL3 nq3)).trans hE3) rfl rfl ?_
  refine q_cut (fun L4 E4 hl4 he4 => ?_)
  have hI4 := PMI.arr (k := 6) hL3 hE3 hf3 hg3 hA3 hJ3 nq3 hl4 he4 (mar_I (by decide) (by decide)) (by decide) (by decide)
  clear hL3 hE3 hf3 hg3 hA3 hJ3 nq3 hl4 he4
  obtain ⟨hL4, ⟨f4, hE4, hf4, hg4⟩, hA4, hJ4⟩ := hI4
  refine q_aload_n (j := 0) C dX12_init_34 rfl ?_
  refine q_bipush (v := iI 30) C dX12_init_35 (by decide) ?_
  refine q_newaI (N := 30) C dX12_init_37 w1_57 (by decide) (by decide) (by decide) ⟨Nat.le_of_ble_eq_true rfl, Nat.le_of_ble_eq_true rfl⟩ (fun q4 nq4 => ?_)
  refine q_putF (k := 7) C ck_13 dX12_init_39 w6_66 (by decide) rfl rfl rfl (List.mem_append_left _ hL4) ((va_up_ne _ _ (ne_in hL4 nq4)).trans hE4) rfl rfl ?_
  refine q_cut (fun L5 E5 hl5 he5 => ?_)
  have hI5 := PMI.arr (k := 7) hL4 hE4 hf4 hg4 hA4 hJ4 nq4 hl5 he5 (mar_I (by decide) (by decide)) (by decide) (by decide)
  clear hL4 hE4 hf4 hg4 hA4 hJ4 nq4 hl5 he5
  obtain ⟨hL5, ⟨f5, hE5, hf5, hg5⟩, hA5, hJ5⟩ := hI5
  refine q_aload_n (j := 0) C dX12_init_42 rfl ?_
  refine q_bipush (v := iI 30) C dX12_init_43 (by decide) ?_
  refine q_newaI (N := 30) C dX12_init_45 w1_57 (by decide) (by decide) (by decide) ⟨Nat.le_of_ble_eq_true rfl, Nat.le_of_ble_eq_true rfl⟩ (fun q5 nq5 => ?_)
  refine q_putF (k := 8) C ck_13 dX12_init_47 w6_67 (by decide) rfl rfl rfl (List.mem_append_left _ hL5) ((va_up_ne _ _ (ne_in hL5 nq5)).trans hE5) rfl rfl ?_
  refine q_cut (fun L6 E6 hl6 he6 => ?_)
  have hI6 := PMI.arr (k := 8) hL5 hE5 hf5 hg5 hA5 hJ5 nq5 hl6 he6 (mar_I (by decide) (by decide)) (by decide) (by decide)
  clear hL5 hE5 hf5 hg5 hA5 hJ5 nq5 hl6 he6
  obtain ⟨hL6, ⟨f6, hE6, hf6, hg6⟩, hA6, hJ6⟩ := hI6
  refine q_aload_n (j := 0) C dX12_init_50 rfl ?_
  refine q_bipush (v := iI 30) C dX12_init_51 (by decide) ?_
  refine q_newaI (N := 30) C dX12_init_53 w1_57 (by decide) (by decide) (by decide) ⟨Nat.le_of_ble_eq_true rfl, Nat.le_of_ble_eq_true rfl⟩ (fun q6 nq6 => ?_)
  refine q_putF (k := 9) C ck_13 dX12_init_55 w6_68 (by decide) rfl rfl rfl (List.mem_append_left _ hL6) ((va_up_ne _ _ (ne_in hL6 nq6)).trans hE6) rfl rfl ?_
  refine q_cut (fun L7 E7 hl7 he7 => ?_)
  have hI7 := PMI.arr (k := 9) hL6 hE6 hf6 hg6 hA6 hJ6 nq6 hl7 he7 (mar_I (by decide) (by decide)) (by decide) (by decide)
  clear hL6 hE6 hf6 hg6 hA6 hJ6 nq6 hl7 he7
  obtain ⟨hL7, ⟨f7, hE7, hf7, hg7⟩, hA7, hJ7⟩ := hI7
  refine q_aload_n (j := 0) C dX12_init_58 rfl ?_
  refine q_bipush (v := iI 30) C dX12_init_59 (by decide) ?_
  refine q_newaI (N := 30) C dX12_init_61 w1_57 (by decide) (by decide) (by decide) ⟨Nat.le_of_ble_eq_true rfl, Nat.le_of_ble_eq_true rfl⟩ (fun q7 nq7 => ?_)
  refine q_putF (k := 10) C ck_13 dX12_init_63 w6_69 (by decide) rfl rfl rfl (List.mem_append_left _ hL7) ((va_up_ne _ _ (ne_in hL7 nq7)).trans hE7) rfl rfl ?_
  refine q_cut (fun L8 E8 hl8 he8 => ?_)
  have hI8 := PMI.arr (k := 10) hL7 hE7 hf7 hg7 hA7 hJ7 nq7 hl8 he8 (mar_I (by decide) (by decide)) (by decide) (by decide)
  clear hL7 hE7 hf7 hg7 hA7 hJ7 nq7 hl8 he8
  obtain ⟨hL8, ⟨f8, hE8, hf8, hg8⟩, hA8, hJ8⟩ := hI8
  refine q_aload_n (j := 0) C dX12_init_66 rfl ?_
  refine q_sipush (v := iI 6000) C dX12_init_67 (by decide) ?_
  refine q_newaI (N := 6000) C dX12_init_70 w1_57 (by decide) (by decide) (by decide) ⟨Nat.le_of_ble_eq_true rfl, Nat.le_of_ble_eq_true rfl⟩ (fun q8 nq8 => ?_)
  refine q_putF (k := 11) C ck_13 dX12_init_72 w6_70 (by decide) rfl rfl rfl (List.mem_append_left _ hL8) ((va_up_ne _ _ (ne_in hL8 nq8)).trans hE8) rfl rfl ?_
  refine q_cut (fun L9 E9 hl9 he9 => ?_)
  have hI9 := PMI.arr (k := 11) hL8 hE8 hf8 hg8 hA8 hJ8 nq8 hl9 he9 (mar_I (by decide) (by decide)) (by decide) (by decide)
  clear hL8 hE8 hf8 hg8 hA8 hJ8 nq8 hl9 he9
  obtain ⟨hL9, ⟨f9, hE9, hf9, hg9⟩, hA9, hJ9⟩ := hI9
  refine q_aload_n (j := 0) C dX12_init_75 rfl ?_
  refine q_sipush (v := iI 6000) C dX12_init_76 (by decide) ?_
  refine q_newaI (N := 6000) C dX12_init_79 w1_57 (by decide) (by decide) (by decide) ⟨Nat.le_of_ble_eq_true rfl, Nat.le_of_ble_eq_true rfl⟩ (fun q9 nq9 => ?_)
  refine q_putF (k := 12) C ck_13 dX12_init_81 w6_71 (by decide) rfl rfl rfl (List.mem_append_left _ hL9) ((va_up_ne _ _ (ne_in hL9 nq9)).trans hE9) rfl rfl ?_
  refine q_cut (fun L10 E10 hl10 he10 => ?_)
  have hI10 := PMI.arr (k := 12) hL9 hE9 hf9 hg9 hA9 hJ9 nq9 hl10 he10 (mar_I (by decide) (by decide)) (by decide) (by decide)
  clear hL9 hE9 hf9 hg9 hA9 hJ9 nq9 hl10 he10
  obtain ⟨hL10, ⟨f10, hE10, hf10, hg10⟩, hA10, hJ10⟩ := hI10
  refine q_aload_n (j := 0) C dX12_init_84 rfl ?_
  refine q_sipush (v := iI 6000) C dX12_init_85 (by decide) ?_
  refine q_newaI (N := 6000) C dX12_init_88 w1_57 (by decide) (by decide) (by decide) ⟨Nat.le_of_ble_eq_true rfl, Nat.le_of_ble_eq_true rfl⟩ (fun q10 nq10 => ?_)
  refine q_putF (k := 13) C ck_13 dX12_init_90 w6_72 (by decide) rfl rfl rfl (List.mem_append_left _ hL10) ((va_up_ne _ _ (ne_in hL10 nq10)).trans hE10) rfl rfl ?_
  refine q_cut (fun L11 E11 hl11 he11 => ?_)
  have hI11 := PMI.arr (k := 13) hL10 hE10 hf10 hg10 hA10 hJ10 nq10 hl11 he11 (mar_I (by decide) (by decide)) (by decide) (by decide)
  clear hL10 hE10 hf10 hg10 hA10 hJ10 nq10 hl11 he11
  obtain ⟨hL11, ⟨f11, hE11, hf11, hg11⟩, hA11, hJ11⟩ := hI11
  refine q_aload_n (j := 0) C dX12_init_93 rfl ?_
  refine q_ldc (v := iI 48000) C dX12_init_94 w6_55 ?_
  refine q_newaI (N := 48000) C dX12_init_96 w1_57 (by decide) (by decide) (by decide) ⟨Nat.le_of_ble_eq_true rfl, Nat.le_of_ble_eq_true rfl⟩ (fun q11 nq11 => ?_)
  refine q_putF (k := 14) C ck_13 dX12_init_98 w6_73 (by decide) rfl rfl rfl (List.mem_append_left _ hL11) ((va_up_ne _ _ (ne_in hL11 nq11)).trans hE11) rfl rfl ?_
  refine q_cut (fun L12 E12 hl12 he12 => ?_)
  have hI12 := PMI.arr (k := 14) hL11 hE11 hf11 hg11 hA11 hJ11 nq11 hl12 he12 (mar_I (by decide) (by decide)) (by decide) (by decide)
  clear hL11 hE11 hf11 hg11 hA11 hJ11 nq11 hl12 he12
  obtain ⟨hL12, ⟨f12, hE12, hf12, hg12⟩, hA12, hJ12⟩ := hI12
  refine q_aload_n (j := 0) C dX12_init_101 rfl ?_
  refine q_sipush (v := iI 24000) C dX12_init_102 (by decide) ?_
  refine q_newaI (N := 24000) C dX12_init_105 w1_57 (by decide) (by decide) (by decide) ⟨Nat.le_of_ble_eq_true rfl, Nat.le_of_ble_eq_true rfl⟩ (fun q12 nq12 => ?_)
  refine q_putF (k := 15) C ck_13 dX12_init_107 w6_74 (by decide) rfl rfl rfl (List.mem_append_left _ hL12) ((va_up_ne _ _ (ne_in hL12 nq12)).trans hE12) rfl rfl ?_
  refine q_cut (fun L13 E13 hl13 he13 => ?_)
  have hI13 := PMI.arr (k := 15) hL12 hE12 hf12 hg12 hA12 hJ12 nq12 hl13 he13 (mar_I (by decide) (by decide)) (by decide) (by decide)
  clear hL12 hE12 hf12 hg12 hA12 hJ12 nq12 hl13 he13
  obtain ⟨hL13, ⟨f13, hE13, hf13, hg13⟩, hA13, hJ13⟩ := hI13
  refine q_aload_n (j := 0) C dX12_init_110 rfl ?_
  refine q_bipush (v := iI 120) C dX12_init_111 (by decide) ?_
  refine q_newaI (N := 120) C dX12_init_113 w1_57 (by decide) (by decide) (by decide) ⟨Nat.le_of_ble_eq_true rfl, Nat.le_of_ble_eq_true rfl⟩ (fun q13 nq13 => ?_)
  refine q_putF (k := 16) C ck_13 dX12_init_115 w6_75 (by decide) rfl rfl rfl (List.mem_append_left _ hL13) ((va_up_ne _ _ (ne_in hL13 nq13)).trans hE13) rfl rfl ?_
  refine q_cut (fun L14 E14 hl14 he14 => ?_)
  have hI14 := PMI.arr (k := 16) hL13 hE13 hf13 hg13 hA13 hJ13 nq13 hl14 he14 (mar_I (by decide) (by decide)) (by decide) (by decide)
  clear hL13 hE13 hf13 hg13 hA13 hJ13 nq13 hl14 he14
  obtain ⟨hL14, ⟨f14, hE14, hf14, hg14⟩, hA14, hJ14⟩ := hI14
  refine q_aload_n (j := 0) C dX12_init_118 rfl ?_
  refine q_sipush (v := iI 480) C dX12_init_119 (by decide) ?_
  refine q_newaI (N := 480) C dX12_init_122 w1_57 (by decide) (by decide) (by decide) ⟨Nat.le_of_ble_eq_true rfl, Nat.le_of_ble_eq_true rfl⟩ (fun q14 nq14 => ?_)
  refine q_putF (k := 17) C ck_13 dX12_init_124 w6_76 (by decide) rfl rfl rfl (List.mem_append_left _ hL14) ((va_up_ne _ _ (ne_in hL14 nq14)).trans hE14) rfl rfl ?_
  refine q_cut (fun L15 E15 hl15 he15 => ?_)
  have hI15 := PMI.arr (k := 17) hL14 hE14 hf14 hg14 hA14 hJ14 nq14 hl15 he15 (mar_I (by decide) (by decide)) (by decide) (by decide)
  clear hL14 hE14 hf14 hg14 hA14 hJ14 nq14 hl15 he15
  obtain ⟨hL15, ⟨f15, hE15, hf15, hg15⟩, hA15, hJ15⟩ := hI15
  refine q_aload_n (j := 0) C dX12_init_127 rfl ?_
  refine q_bipush (v := iI 64) C dX12_init_128 (by decide) ?_
  refine q_newaI (N := 64) C dX12_init_130 w1_57 (by decide) (by decide) (by decide) ⟨Nat.le_of_ble_eq_true rfl, Nat.le_of_ble_eq_true rfl⟩ (fun q15 nq15 => ?_)
  refine q_put (k := 18) C ck_13 dX12_init_132 w6_77 (by decide) rfl (List.mem_append_left _ hL15) ((va_up_ne _ _ (ne_in hL15 nq15)).trans hE15) rfl rfl ?_
  refine q_cut (fun L16 E16 hl16 he16 => ?_)
  have hI16 := PMI.arr (k := 18) hL15 hE15 hf15 hg15 hA15 hJ15 nq15 hl16 he16 (mar_I (by decide) (by decide)) (by decide) (by decide)
  clear hL15 hE15 hf15 hg15 hA15 hJ15 nq15 hl16 he16
  obtain ⟨hL16, ⟨f16, hE16, hf16, hg16⟩, hA16, hJ16⟩ := hI16
  refine q_aload_n (j := 0) C dX12_init_135 rfl ?_
  refine q_sipush (v := iI 512) C dX12_init_136 (by decide) ?_
  refine q_newaI (N := 512) C dX12_init_139 w1_57 (by decide) (by decide) (by decide) ⟨Nat.le_of_ble_eq_true rfl, Nat.le_of_ble_eq_true rfl⟩ (fun q16 nq16 => ?_)
  refine q_putF (k := 20) C ck_13 dX12_init_141 w6_79 (by decide) rfl rfl rfl (List.mem_append_left _ hL16) ((va_up_ne _ _ (ne_in hL16 nq16)).trans hE16) rfl rfl ?_
  refine q_cut (fun L17 E17 hl17 he17 => ?_)
  have hI17 := PMI.arr (k := 20) hL16 hE16 hf16 hg16 hA16 hJ16 nq16 hl17 he17 (mar_I (by decide) (by decide)) (by decide) (by decide)
  clear hL16 hE16 hf16 hg16 hA16 hJ16 nq16 hl17 he17
  obtain ⟨hL17, ⟨f17, hE17, hf17, hg17⟩, hA17, hJ17⟩ := hI17
  refine q_aload_n (j := 0) C dX12_init_144 rfl ?_
  refine q_sipush (v := iI 512) C dX12_init_145 (by decide) ?_
  refine q_newaI (N := 512) C dX12_init_148 w1_57 (by decide) (by decide) (by decide) ⟨Nat.le_of_ble_eq_true rfl, Nat.le_of_ble_eq_true rfl⟩ (fun q17 nq17 => ?_)
  refine q_putF (k := 21) C ck_13 dX12_init_150 w6_80 (by decide) rfl rfl rfl (List.mem_append_left _ hL17) ((va_up_ne _ _ (ne_in hL17 nq17)).trans hE17) rfl rfl ?_
  refine q_cut (fun L18 E18 hl18 he18 => ?_)
  have hI18 := PMI.arr (k := 21) hL17 hE17 hf17 hg17 hA17 hJ17 nq17 hl18 he18 (mar_I (by decide) (by decide)) (by decide) (by decide)
  clear hL17 hE17 hf17 hg17 hA17 hJ17 nq17 hl18 he18
  obtain ⟨hL18, ⟨f18, hE18, hf18, hg18⟩, hA18, hJ18⟩ := hI18
  refine q_aload_n (j := 0) C dX12_init_153 rfl ?_
  refine q_sipush (v := iI 513) C dX12_init_154 (by decide) ?_
  refine q_newaZ (N := 513) C dX12_init_157 w1_129 (by decide) (by decide) (by decide) ⟨Nat.le_of_ble_eq_true rfl, Nat.le_of_ble_eq_true rfl⟩ (fun q18 nq18 => ?_)
  refine q_putF (k := 22) C ck_13 dX12_init_159 w6_81 (by decide) rfl rfl rfl (List.mem_append_left _ hL18) ((va_up_ne _ _ (ne_in hL18 nq18)).trans hE18) rfl rfl ?_
  refine q_cut (fun L19 E19 hl19 he19 => ?_)
  have hI19 := PMI.arr (k := 22) hL18 hE18 hf18 hg18 hA18 hJ18 nq18 hl19 he19 (mar_Z (by decide) (by decide)) (by decide) (by decide)
  clear hL18 hE18 hf18 hg18 hA18 hJ18 nq18 hl19 he19
  obtain ⟨hL19, ⟨f19, hE19, hf19, hg19⟩, hA19, hJ19⟩ := hI19
  refine q_aload_n (j := 0) C dX12_init_162 rfl ?_
  refine q_sipush (v := iI 6144) C dX12_init_163 (by decide) ?_
  refine q_newaI (N := 6144) C dX12_init_166 w1_57 (by decide) (by decide) (by decide) ⟨Nat.le_of_ble_eq_true rfl, Nat.le_of_ble_eq_true rfl⟩ (fun q19 nq19 => ?_)
  refine q_putF (k := 24) C ck_13 dX12_init_168 w6_83 (by decide) rfl rfl rfl (List.mem_append_left _ hL19) ((va_up_ne _ _ (ne_in hL19 nq19)).trans hE19) rfl rfl ?_
  refine q_cut (fun L20 E20 hl20 he20 => ?_)
  have hI20 := PMI.arr (k := 24) hL19 hE19 hf19 hg19 hA19 hJ19 nq19 hl20 he20 (mar_I (by decide) (by decide)) (by decide) (by decide)
  clear hL19 hE19 hf19 hg19 hA19 hJ19 nq19 hl20 he20
  obtain ⟨hL20, ⟨f20, hE20, hf20, hg20⟩, hA20, hJ20⟩ := hI20
  refine q_aload_n (j := 0) C dX12_init_171 rfl ?_
  refine q_sipush (v := iI 513) C dX12_init_172 (by decide) ?_
  refine q_newaI (N := 513) C dX12_init_175 w1_57 (by decide) (by decide) (by decide) ⟨Nat.le_of_ble_eq_true rfl, Nat.le_of_ble_eq_true rfl⟩ (fun q20 nq20 => ?_)
  refine q_putF (k := 26) C ck_13 dX12_init_177 w6_85 (by decide) rfl rfl rfl (List.mem_append_left _ hL20) ((va_up_ne _ _ (ne_in hL20 nq20)).trans hE20) rfl rfl ?_
  refine q_cut (fun L21 E21 hl21 he21 => ?_)
  have hI21 := PMI.arr (k := 26) hL20 hE20 hf20 hg20 hA20 hJ20 nq20 hl21 he21 (mar_I (by decide) (by decide)) (by decide) (by decide)
  clear hL20 hE20 hf20 hg20 hA20 hJ20 nq20 hl21 he21
  obtain ⟨hL21, ⟨f21, hE21, hf21, hg21⟩, hA21, hJ21⟩ := hI21
  refine q_aload_n (j := 0) C dX12_init_180 rfl ?_
  refine q_iconst (v := iI 5) C dX12_init_181 (by decide) ?_
  refine q_newaI (N := 5) C dX12_init_182 w1_57 (by decide) (by decide) (by decide) ⟨Nat.le_of_ble_eq_true rfl, Nat.le_of_ble_eq_true rfl⟩ (fun q21 nq21 => ?_)
  refine q_putF (k := 27) C ck_13 dX12_init_184 w6_86 (by decide) rfl rfl rfl (List.mem_append_left _ hL21) ((va_up_ne _ _ (ne_in hL21 nq21)).trans hE21) rfl rfl ?_
  refine q_cut (fun L22 E22 hl22 he22 => ?_)
  have hI22 := PMI.arr (k := 27) hL21 hE21 hf21 hg21 hA21 hJ21 nq21 hl22 he22 (mar_I (by decide) (by decide)) (by decide) (by decide)
  clear hL21 hE21 hf21 hg21 hA21 hJ21 nq21 hl22 he22
  obtain ⟨hL22, ⟨f22, hE22, hf22, hg22⟩, hA22, hJ22⟩ := hI22
  refine q_aload_n (j := 0) C dX12_init_187 rfl ?_
  refine q_sipush (v := iI 500) C dX12_init_188 (by decide) ?_
  refine q_newaI (N := 500) C dX12_init_191 w1_57 (by decide) (by decide) (by decide) ⟨Nat.le_of_ble_eq_true rfl, Nat.le_of_ble_eq_true rfl⟩ (fun q22 nq22 => ?_)
  refine q_putF (k := 29) C ck_13 dX12_init_193 w6_88 (by decide) rfl rfl rfl (List.mem_append_left _ hL22) ((va_up_ne _ _ (ne_in hL22 nq22)).trans hE22) rfl rfl ?_
  refine q_cut (fun L23 E23 hl23 he23 => ?_)
  have hI23 := PMI.arr (k := 29) hL22 hE22 hf22 hg22 hA22 hJ22 nq22 hl23 he23 (mar_I (by decide) (by decide)) (by decide) (by decide)
  clear hL22 hE22 hf22 hg22 hA22 hJ22 nq22 hl23 he23
  obtain ⟨hL23, ⟨f23, hE23, hf23, hg23⟩, hA23, hJ23⟩ := hI23
  refine q_aload_n (j := 0) C dX12_init_196 rfl ?_
  refine q_bipush (v := iI 32) C dX12_init_197 (by decide) ?_
  refine q_put (k := 31) C ck_13 dX12_init_199 w6_90 (by decide) rfl hL23 hE23 rfl rfl ?_
  refine q_cut (fun L24 E24 hl24 he24 => ?_)
  have hI24 := PMI.int (k := 31) (z := 32) hL23 hE23 hf23 hg23 hA23 hJ23 hl24 he24 (by decide)
  clear hL23 hE23 hf23 hg23 hA23 hJ23 hl24 he24
  obtain ⟨hL24, ⟨f24, hE24, hf24, hg24⟩, hA24, hJ24⟩ := hI24
  refine q_aload_n (j := 0) C dX12_init_202 rfl ?_
  refine q_bipush (v := iI 25) C dX12_init_203 (by decide) ?_
  refine q_put (k := 32) C ck_13 dX12_init_205 w6_91 (by decide) rfl hL24 hE24 rfl rfl ?_
  refine q_cut (fun L25 E25 hl25 he25 => ?_)
  have hI25 := PMI.int (k := 32) (z := 25) hL24 hE24 hf24 hg24 hA24 hJ24 hl25 he25 (by decide)
  clear hL24 hE24 hf24 hg24 hA24 hJ24 hl25 he25
  obtain ⟨hL25, ⟨f25, hE25, hf25, hg25⟩, hA25, hJ25⟩ := hI25
  refine q_aload_n (j := 0) C dX12_init_208 rfl ?_
  refine q_bipush (v := iI 36) C dX12_init_209 (by decide) ?_
  refine q_put (k := 33) C ck_13 dX12_init_211 w6_92 (by decide) rfl hL25 hE25 rfl rfl ?_
  refine q_cut (fun L26 E26 hl26 he26 => ?_)
  have hI26 := PMI.int (k := 33) (z := 36) hL25 hE25 hf25 hg25 hA25 hJ25 hl26 he26 (by decide)
  clear hL25 hE25 hf25 hg25 hA25 hJ25 hl26 he26
  obtain ⟨hL26, ⟨f26, hE26, hf26, hg26⟩, hA26, hJ26⟩ := hI26
  refine q_aload_n (j := 0) C dX12_init_214 rfl ?_
  refine q_sipush (v := iI 200) C dX12_init_215 (by decide) ?_
  refine q_newaI (N := 200) C dX12_init_218 w1_57 (by decide) (by decide) (by decide) ⟨Nat.le_of_ble_eq_true rfl, Nat.le_of_ble_eq_true rfl⟩ (fun q26 nq26 => ?_)
  refine q_putF (k := 34) C ck_13 dX12_init_220 w6_93 (by decide) rfl rfl rfl (List.mem_append_left _ hL26) ((va_up_ne _ _ (ne_in hL26 nq26)).trans hE26) rfl rfl ?_
  refine q_cut (fun L27 E27 hl27 he27 => ?_)
  have hI27 := PMI.arr (k := 34) hL26 hE26 hf26 hg26 hA26 hJ26 nq26 hl27 he27 (mar_I (by decide) (by decide)) (by decide) (by decide)
  clear hL26 hE26 hf26 hg26 hA26 hJ26 nq26 hl27 he27
  obtain ⟨hL27, ⟨f27, hE27, hf27, hg27⟩, hA27, hJ27⟩ := hI27
  refine q_aload_n (j := 0) C dX12_init_223 rfl ?_
  refine q_ldc (v := iI 40000) C dX12_init_224 w6_56 ?_
  refine q_newaI (N := 40000) C dX12_init_226 w1_57 (by decide) (by decide) (by decide) ⟨Nat.le_of_ble_eq_true rfl, Nat.le_of_ble_eq_true rfl⟩ (fun q27 nq27 => ?_)
  refine q_putF (k := 35) C ck_13 dX12_init_228 w6_94 (by decide) rfl rfl rfl (List.mem_append_left _ hL27) ((va_up_ne _ _ (ne_in hL27 nq27)).trans hE27) rfl rfl ?_
  refine q_cut (fun L28 E28 hl28 he28 => ?_)
  have hI28 := PMI.arr (k := 35) hL27 hE27 hf27 hg27 hA27 hJ27 nq27 hl28 he28 (mar_I (by decide) (by decide)) (by decide) (by decide)
  clear hL27 hE27 hf27 hg27 hA27 hJ27 nq27 hl28 he28
  obtain ⟨hL28, ⟨f28, hE28, hf28, hg28⟩, hA28, hJ28⟩ := hI28
  refine q_aload_n (j := 0) C dX12_init_231 rfl ?_
  refine q_sipush (v := iI 200) C dX12_init_232 (by decide) ?_
  refine q_newaI (N := 200) C dX12_init_235 w1_57 (by decide) (by decide) (by decide) ⟨Nat.le_of_ble_eq_true rfl, Nat.le_of_ble_eq_true rfl⟩ (fun q28 nq28 => ?_)
  refine q_putF (k := 37) C ck_13 dX12_init_237 w6_96 (by decide) rfl rfl rfl (List.mem_append_left _ hL28) ((va_up_ne _ _ (ne_in hL28 nq28)).trans hE28) rfl rfl ?_
  refine q_cut (fun L29 E29 hl29 he29 => ?_)
  have hI29 := PMI.arr (k := 37) hL28 hE28 hf28 hg28 hA28 hJ28 nq28 hl29 he29 (mar_I (by decide) (by decide)) (by decide) (by decide)
  clear hL28 hE28 hf28 hg28 hA28 hJ28 nq28 hl29 he29
  obtain ⟨hL29, ⟨f29, hE29, hf29, hg29⟩, hA29, hJ29⟩ := hI29
  refine q_aload_n (j := 0) C dX12_init_240 rfl ?_
  refine q_ldc (v := iI 40000) C dX12_init_241 w6_56 ?_
  refine q_newaI (N := 40000) C dX12_init_243 w1_57 (by decide) (by decide) (by decide) ⟨Nat.le_of_ble_eq_true rfl, Nat.le_of_ble_eq_true rfl⟩ (fun q29 nq29 => ?_)
  refine q_putF (k := 38) C ck_13 dX12_init_245 w6_97 (by decide) rfl rfl rfl (List.mem_append_left _ hL29) ((va_up_ne _ _ (ne_in hL29 nq29)).trans hE29) rfl rfl ?_
  refine q_cut (fun L30 E30 hl30 he30 => ?_)
  have hI30 := PMI.arr (k := 38) hL29 hE29 hf29 hg29 hA29 hJ29 nq29 hl30 he30 (mar_I (by decide) (by decide)) (by decide) (by decide)
  clear hL29 hE29 hf29 hg29 hA29 hJ29 nq29 hl30 he30
  obtain ⟨hL30, ⟨f30, hE30, hf30, hg30⟩, hA30, hJ30⟩ := hI30
  refine q_aload_n (j := 0) C dX12_init_248 rfl ?_
  refine q_sipush (v := iI 200) C dX12_init_249 (by decide) ?_
  refine q_newaI (N := 200) C dX12_init_252 w1_57 (by decide) (by decide) (by decide) ⟨Nat.le_of_ble_eq_true rfl, Nat.le_of_ble_eq_true rfl⟩ (fun q30 nq30 => ?_)
  refine q_putF (k := 40) C ck_13 dX12_init_254 w6_99 (by decide) rfl rfl rfl (List.mem_append_left _ hL30) ((va_up_ne _ _ (ne_in hL30 nq30)).trans hE30) rfl rfl ?_
  refine q_cut (fun L31 E31 hl31 he31 => ?_)
  have hI31 := PMI.arr (k := 40) hL30 hE30 hf30 hg30 hA30 hJ30 nq30 hl31 he31 (mar_I (by decide) (by decide)) (by decide) (by decide)
  clear hL30 hE30 hf30 hg30 hA30 hJ30 nq30 hl31 he31
  obtain ⟨hL31, ⟨f31, hE31, hf31, hg31⟩, hA31, hJ31⟩ := hI31
  refine q_aload_n (j := 0) C dX12_init_257 rfl ?_
  refine q_sipush (v := iI 12016) C dX12_init_258 (by decide) ?_
  refine q_newaI (N := 12016) C dX12_init_261 w1_57 (by decide) (by decide) (by decide) ⟨Nat.le_of_ble_eq_true rfl, Nat.le_of_ble_eq_true rfl⟩ (fun q31 nq31 => ?_)
  refine q_putF (k := 44) C ck_13 dX12_init_263 w6_103 (by decide) rfl rfl rfl (List.mem_append_left _ hL31) ((va_up_ne _ _ (ne_in hL31 nq31)).trans hE31) rfl rfl ?_
  refine q_cut (fun L32 E32 hl32 he32 => ?_)
  have hI32 := PMI.arr (k := 44) hL31 hE31 hf31 hg31 hA31 hJ31 nq31 hl32 he32 (mar_I (by decide) (by decide)) (by decide) (by decide)
  clear hL31 hE31 hf31 hg31 hA31 hJ31 nq31 hl32 he32
  obtain ⟨hL32, ⟨f32, hE32, hf32, hg32⟩, hA32, hJ32⟩ := hI32
  refine q_aload_n (j := 0) C dX12_init_266 rfl ?_
  refine q_sipush (v := iI 12016) C dX12_init_267 (by decide) ?_
  refine q_newaI (N := 12016) C dX12_init_270 w1_57 (by decide) (by decide) (by decide) ⟨Nat.le_of_ble_eq_true rfl, Nat.le_of_ble_eq_true rfl⟩ (fun q32 nq32 => ?_)
  refine q_putF (k := 45) C ck_13 dX12_init_272 w6_104 (by decide) rfl rfl rfl (List.mem_append_left _ hL32) ((va_up_ne _ _ (ne_in hL32 nq32)).trans hE32) rfl rfl ?_
  refine q_cut (fun L33 E33 hl33 he33 => ?_)
  have hI33 := PMI.arr (k := 45) hL32 hE32 hf32 hg32 hA32 hJ32 nq32 hl33 he33 (mar_I (by decide) (by decide)) (by decide) (by decide)
  clear hL32 hE32 hf32 hg32 hA32 hJ32 nq32 hl33 he33
  obtain ⟨hL33, ⟨f33, hE33, hf33, hg33⟩, hA33, hJ33⟩ := hI33
  refine q_aload_n (j := 0) C dX12_init_275 rfl ?_
  refine q_sipush (v := iI 12016) C dX12_init_276 (by decide) ?_
  refine q_newaI (N := 12016) C dX12_init_279 w1_57 (by decide) (by decide) (by decide) ⟨Nat.le_of_ble_eq_true rfl, Nat.le_of_ble_eq_true rfl⟩ (fun q33 nq33 => ?_)
  refine q_putF (k := 46) C ck_13 dX12_init_281 w6_105 (by decide) rfl rfl rfl (List.mem_append_left _ hL33) ((va_up_ne _ _ (ne_in hL33 nq33)).trans hE33) rfl rfl ?_
  refine q_cut (fun L34 E34 hl34 he34 => ?_)
  have hI34 := PMI.arr (k := 46) hL33 hE33 hf33 hg33 hA33 hJ33 nq33 hl34 he34 (mar_I (by decide) (by decide)) (by decide) (by decide)
  clear hL33 hE33 hf33 hg33 hA33 hJ33 nq33 hl34 he34
  obtain ⟨hL34, ⟨f34, hE34, hf34, hg34⟩, hA34, hJ34⟩ := hI34
  refine q_aload_n (j := 0) C dX12_init_284 rfl ?_
  refine q_iconst (v := iI 2) C dX12_init_285 (by decide) ?_
  refine q_newaI (N := 2) C dX12_init_286 w1_57 (by decide) (by decide) (by decide) ⟨Nat.le_of_ble_eq_true rfl, Nat.le_of_ble_eq_true rfl⟩ (fun q34 nq34 => ?_)
  refine q_putF (k := 47) C ck_13 dX12_init_288 w6_106 (by decide) rfl rfl rfl (List.mem_append_left _ hL34) ((va_up_ne _ _ (ne_in hL34 nq34)).trans hE34) rfl rfl ?_
  refine q_cut (fun L35 E35 hl35 he35 => ?_)
  have hI35 := PMI.arr (k := 47) hL34 hE34 hf34 hg34 hA34 hJ34 nq34 hl35 he35 (mar_I (by decide) (by decide)) (by decide) (by decide)
  clear hL34 hE34 hf34 hg34 hA34 hJ34 nq34 hl35 he35
  obtain ⟨hL35, ⟨f35, hE35, hf35, hg35⟩, hA35, hJ35⟩ := hI35
  refine q_aload_n (j := 0) C dX12_init_291 rfl ?_
  refine q_ldc (v := iI 40200) C dX12_init_292 w6_57 ?_
  refine q_newaI (N := 40200) C dX12_init_294 w1_57 (by decide) (by decide) (by decide) ⟨Nat.le_of_ble_eq_true rfl, Nat.le_of_ble_eq_true rfl⟩ (fun q35 nq35 => ?_)
  refine q_putF (k := 48) C ck_13 dX12_init_296 w6_107 (by decide) rfl rfl rfl (List.mem_append_left _ hL35) ((va_up_ne _ _ (ne_in hL35 nq35)).trans hE35) rfl rfl ?_
  refine q_cut (fun L36 E36 hl36 he36 => ?_)
  have hI36 := PMI.arr (k := 48) hL35 hE35 hf35 hg35 hA35 hJ35 nq35 hl36 he36 (mar_I (by decide) (by decide)) (by decide) (by decide)
  clear hL35 hE35 hf35 hg35 hA35 hJ35 nq35 hl36 he36
  obtain ⟨hL36, ⟨f36, hE36, hf36, hg36⟩, hA36, hJ36⟩ := hI36
  refine q_aload_n (j := 0) C dX12_init_299 rfl ?_
  refine q_ldc (v := iI 40200) C dX12_init_300 w6_57 ?_
  refine q_newaI (N := 40200) C dX12_init_302 w1_57 (by decide) (by decide) (by decide) ⟨Nat.le_of_ble_eq_true rfl, Nat.le_of_ble_eq_true rfl⟩ (fun q36 nq36 => ?_)
  refine q_putF (k := 49) C ck_13 dX12_init_304 w6_108 (by decide) rfl rfl rfl (List.mem_append_left _ hL36) ((va_up_ne _ _ (ne_in hL36 nq36)).trans hE36) rfl rfl ?_
  refine q_cut (fun L37 E37 hl37 he37 => ?_)
  have hI37 := PMI.arr (k := 49) hL36 hE36 hf36 hg36 hA36 hJ36 nq36 hl37 he37 (mar_I (by decide) (by decide)) (by decide) (by decide)
  clear hL36 hE36 hf36 hg36 hA36 hJ36 nq36 hl37 he37
  obtain ⟨hL37, ⟨f37, hE37, hf37, hg37⟩, hA37, hJ37⟩ := hI37
  refine q_aload_n (j := 0) C dX12_init_307 rfl ?_
  refine q_sipush (v := iI 4000) C dX12_init_308 (by decide) ?_
  refine q_newaI (N := 4000) C dX12_init_311 w1_57 (by decide) (by decide) (by decide) ⟨Nat.le_of_ble_eq_true rfl, Nat.le_of_ble_eq_true rfl⟩ (fun q37 nq37 => ?_)
  refine q_putF (k := 51) C ck_13 dX12_init_313 w6_110 (by decide) rfl rfl rfl (List.mem_append_left _ hL37) ((va_up_ne _ _ (ne_in hL37 nq37)).trans hE37) rfl rfl ?_
  refine q_cut (fun L38 E38 hl38 he38 => ?_)
  have hI38 := PMI.arr (k := 51) hL37 hE37 hf37 hg37 hA37 hJ37 nq37 hl38 he38 (mar_I (by decide) (by decide)) (by decide) (by decide)
  clear hL37 hE37 hf37 hg37 hA37 hJ37 nq37 hl38 he38
  obtain ⟨hL38, ⟨f38, hE38, hf38, hg38⟩, hA38, hJ38⟩ := hI38
  refine q_aload_n (j := 0) C dX12_init_316 rfl ?_
  refine q_sipush (v := iI 4000) C dX12_init_317 (by decide) ?_
  refine q_newaI (N := 4000) C dX12_init_320 w1_57 (by decide) (by decide) (by decide) ⟨Nat.le_of_ble_eq_true rfl, Nat.le_of_ble_eq_true rfl⟩ (fun q38 nq38 => ?_)
  refine q_putF (k := 54) C ck_13 dX12_init_322 w6_113 (by decide) rfl rfl rfl (List.mem_append_left _ hL38) ((va_up_ne _ _ (ne_in hL38 nq38)).trans hE38) rfl rfl ?_
  refine q_cut (fun L39 E39 hl39 he39 => ?_)
  have hI39 := PMI.arr (k := 54) hL38 hE38 hf38 hg38 hA38 hJ38 nq38 hl39 he39 (mar_I (by decide) (by decide)) (by decide) (by decide)
  clear hL38 hE38 hf38 hg38 hA38 hJ38 nq38 hl39 he39
  obtain ⟨hL39, ⟨f39, hE39, hf39, hg39⟩, hA39, hJ39⟩ := hI39
  refine q_aload_n (j := 0) C dX12_init_325 rfl ?_
  refine q_sipush (v := iI 404) C dX12_init_326 (by decide) ?_
  refine q_newaZ (N := 404) C dX12_init_329 w1_129 (by decide) (by decide) (by decide) ⟨Nat.le_of_ble_eq_true rfl, Nat.le_of_ble_eq_true rfl⟩ (fun q39 nq39 => ?_)
  refine q_putF (k := 57) C ck_13 dX12_init_331 w6_116 (by decide) rfl rfl rfl (List.mem_append_left _ hL39) ((va_up_ne _ _ (ne_in hL39 nq39)).trans hE39) rfl rfl ?_
  refine q_cut (fun L40 E40 hl40 he40 => ?_)
  have hI40 := PMI.arr (k := 57) hL39 hE39 hf39 hg39 hA39 hJ39 nq39 hl40 he40 (mar_Z (by decide) (by decide)) (by decide) (by decide)
  clear hL39 hE39 hf39 hg39 hA39 hJ39 nq39 hl40 he40
  obtain ⟨hL40, ⟨f40, hE40, hf40, hg40⟩, hA40, hJ40⟩ := hI40
  refine q_aload_n (j := 0) C dX12_init_334 rfl ?_
  refine q_ldc (v := iI 40400) C dX12_init_335 w6_58 ?_
  refine q_newaI (N := 40400) C dX12_init_337 w1_57 (by decide) (by decide) (by decide) ⟨Nat.le_of_ble_eq_true rfl, Nat.le_of_ble_eq_true rfl⟩ (fun q40 nq40 => ?_)
  refine q_putF (k := 58) C ck_13 dX12_init_339 w6_117 (by decide) rfl rfl rfl (List.mem_append_left _ hL40) ((va_up_ne _ _ (ne_in hL40 nq40)).trans hE40) rfl rfl ?_
  refine q_cut (fun L41 E41 hl41 he41 => ?_)
  have hI41 := PMI.arr (k := 58) hL40 hE40 hf40 hg40 hA40 hJ40 nq40 hl41 he41 (mar_I (by decide) (by decide)) (by decide) (by decide)
  clear hL40 hE40 hf40 hg40 hA40 hJ40 nq40 hl41 he41
  obtain ⟨hL41, ⟨f41, hE41, hf41, hg41⟩, hA41, hJ41⟩ := hI41
  refine q_aload_n (j := 0) C dX12_init_342 rfl ?_
  refine q_bipush (v := iI 50) C dX12_init_343 (by decide) ?_
  refine q_newaI (N := 50) C dX12_init_345 w1_57 (by decide) (by decide) (by decide) ⟨Nat.le_of_ble_eq_true rfl, Nat.le_of_ble_eq_true rfl⟩ (fun q41 nq41 => ?_)
  refine q_putF (k := 59) C ck_13 dX12_init_347 w6_118 (by decide) rfl rfl rfl (List.mem_append_left _ hL41) ((va_up_ne _ _ (ne_in hL41 nq41)).trans hE41) rfl rfl ?_
  refine q_cut (fun L42 E42 hl42 he42 => ?_)
  have hI42 := PMI.arr (k := 59) hL41 hE41 hf41 hg41 hA41 hJ41 nq41 hl42 he42 (mar_I (by decide) (by decide)) (by decide) (by decide)
  clear hL41 hE41 hf41 hg41 hA41 hJ41 nq41 hl42 he42
  obtain ⟨hL42, ⟨f42, hE42, hf42, hg42⟩, hA42, hJ42⟩ := hI42
  refine q_aload_n (j := 0) C dX12_init_350 rfl ?_
  refine q_sipush (v := iI 1000) C dX12_init_351 (by decide) ?_
  refine q_newaI (N := 1000) C dX12_init_354 w1_57 (by decide) (by decide) (by decide) ⟨Nat.le_of_ble_eq_true rfl, Nat.le_of_ble_eq_true rfl⟩ (fun q42 nq42 => ?_)
  refine q_putF (k := 62) C ck_13 dX12_init_356 w6_121 (by decide) rfl rfl rfl (List.mem_append_left _ hL42) ((va_up_ne _ _ (ne_in hL42 nq42)).trans hE42) rfl rfl ?_
  refine q_cut (fun L43 E43 hl43 he43 => ?_)
  have hI43 := PMI.arr (k := 62) hL42 hE42 hf42 hg42 hA42 hJ42 nq42 hl43 he43 (mar_I (by decide) (by decide)) (by decide) (by decide)
  clear hL42 hE42 hf42 hg42 hA42 hJ42 nq42 hl43 he43
  obtain ⟨hL43, ⟨f43, hE43, hf43, hg43⟩, hA43, hJ43⟩ := hI43
  refine q_aload_n (j := 0) C dX12_init_359 rfl ?_
  refine q_sipush (v := iI 256) C dX12_init_360 (by decide) ?_
  refine q_newaI (N := 256) C dX12_init_363 w1_57 (by decide) (by decide) (by decide) ⟨Nat.le_of_ble_eq_true rfl, Nat.le_of_ble_eq_true rfl⟩ (fun q43 nq43 => ?_)
  refine q_putF (k := 65) C ck_13 dX12_init_365 w6_124 (by decide) rfl rfl rfl (List.mem_append_left _ hL43) ((va_up_ne _ _ (ne_in hL43 nq43)).trans hE43) rfl rfl ?_
  refine q_cut (fun L44 E44 hl44 he44 => ?_)
  have hI44 := PMI.arr (k := 65) hL43 hE43 hf43 hg43 hA43 hJ43 nq43 hl44 he44 (mar_I (by decide) (by decide)) (by decide) (by decide)
  clear hL43 hE43 hf43 hg43 hA43 hJ43 nq43 hl44 he44
  exact q_vret C dX12_init_368 rfl (Nat.le_of_ble_eq_true rfl) (Nat.le_of_ble_eq_true rfl) ⟨rfl, _, hI44.fin (by decide)⟩
theorem M_init0 : ∀ k, k < 67 → mA k = false → defaultValue (tyX12 k) = .int (iI 0) := by
  intro k hk hm
  rcases (show k = 0 ∨ k = 1 ∨ k = 2 ∨ k = 3 ∨ k = 4 ∨ k = 5 ∨ k = 6 ∨ k = 7 ∨ k = 8 ∨ k = 9 ∨ k = 10 ∨ k = 11 ∨ k = 12 ∨ k = 13 ∨ k = 14 ∨ k = 15 ∨ k = 16 ∨ k = 17 ∨ k = 18 ∨ k = 19 ∨ k = 20 ∨ k = 21 ∨ k = 22 ∨ k = 23 ∨ k = 24 ∨ k = 25 ∨ k = 26 ∨ k = 27 ∨ k = 28 ∨ k = 29 ∨ k = 30 ∨ k = 31 ∨ k = 32 ∨ k = 33 ∨ k = 34 ∨ k = 35 ∨ k = 36 ∨ k = 37 ∨ k = 38 ∨ k = 39 ∨ k = 40 ∨ k = 41 ∨ k = 42 ∨ k = 43 ∨ k = 44 ∨ k = 45 ∨ k = 46 ∨ k = 47 ∨ k = 48 ∨ k = 49 ∨ k = 50 ∨ k = 51 ∨ k = 52 ∨ k = 53 ∨ k = 54 ∨ k = 55 ∨ k = 56 ∨ k = 57 ∨ k = 58 ∨ k = 59 ∨ k = 60 ∨ k = 61 ∨ k = 62 ∨ k = 63 ∨ k = 64 ∨ k = 65 ∨ k = 66 by omega) with rfl | rfl | rfl | rfl | rfl | rfl | rfl | rfl | rfl | rfl | rfl | rfl | rfl | rfl | rfl | rfl | rfl | rfl | rfl | rfl | rfl | rfl | rfl | rfl | rfl | rfl | rfl | rfl | rfl | rfl | rfl | rfl | rfl | rfl | rfl | rfl | rfl | rfl | rfl | rfl | rfl | rfl | rfl | rfl | rfl | rfl | rfl | rfl | rfl | rfl | rfl | rfl | rfl | rfl | rfl | rfl | rfl | rfl | rfl | rfl | rfl | rfl | rfl | rfl | rfl | rfl | rfl <;> first | rfl | (exact absurd hm (by decide))
end
section
section LB
variable {p : Program} {l : Launch} {e : Env} {R : Room} {s : State} {m : MethodId} {args : Array Value} {below : List Frame} {meth : Method} {c : Code} {cc : ByteArray} {y : MethodName} {ret : Option FieldType} {G : GT} {A : Nat → Prop} {nL mi : Nat} {Q : State → Prop} {L : List Nat} {E : Nat → va_E} {kc ks u pc : Nat} {lv : List (Nat × Value)} {st : List Value}
theorem u_sub (C : Cq p s m args meth c cc y ret G A nL) (hu : 16 * kc + ks ≤ u) {mc2 ms2 : Nat} {a2 : Array Value} {st0 rest : List Value} {P2 : PU} {H : Heap} {locs : List Loc} {ls : Array Slot} {Lx Lm : List Nat} (hP : va_P G.1 vwCl (va_pl (Lm ++ Lx) E) H) (hD : va_D A (va_pl (Lm ++ Lx) E)) (hS : va_S A s.heap H locs) (hl : lv_has ls nL lv) (hr : va_Run p l e R s m args below meth c H locs kc ks mc2 ms2 (F0 m pc ls st0) rest (Qu G (va_A (va_pl Lx E) H.size) P2 a2) (va_A (va_pl Lx E) H.size)) (kk : ∀ (v : Option Value) (L2 : List Nat) (E2 : Nat → va_E) (E3 : Nat → va_E) (u2 : Nat), P2 v L2 E2 u2 → (∀ a ∈ Lm, E3 a = E a) → (∀ a ∈ L2, E3 a = E2 a) → (∀ a ∈ Lm, a ∉ L2) → ∀ kc2 ks2 : Nat, 16 * kc2 + ks2 ≤ u + u2 → wq p l e R s m args below meth c G A nL Q (Lm ++ L2) E3 kc2 ks2 (pc + 3) lv (v.toList ++ rest)) : W p l e R s m args below meth c H locs kc ks Q (F0 m pc ls st0) := by
  have hsp : va_pl (Lm ++ Lx) E = va_pl Lm E ++ va_pl Lx E := List.map_append
  rw [hsp] at hP hD
  have hlen : (va_pl Lm E).length = Lm.length := List.length_map _
  have pR : ∀ (j : Nat) (q : Nat × va_E), (va_pl Lx E)[j]? = some q → (va_pl Lm E ++ va_pl Lx E)[(va_pl Lm E).length + j]? = some q := fun j q h => by rw [List.getElem?_append_right (by omega), Nat.add_sub_cancel_left]; exact h
  have pL : ∀ (j : Nat) (q : Nat × va_E), (va_pl Lm E)[j]? = some q → (va_pl Lm E ++ va_pl Lx E)[j]? = some q := fun j q h => by rw [List.getElem?_append_left ((List.getElem?_eq_some_iff.mp h).1)]; exact h
  have hDx : va_D A (va_pl Lx E) := ⟨fun i j x y hi hj e => by have := hD.1 _ _ x y (pR i x hi) (pR j y hj) e; omega, fun k q hk => hD.2 _ q (pR k q hk)⟩
  have hF := pl_free hDx hS C.2.2.2.2.2.2.1
  intro T hT X
  obtain ⟨v, st₀, t, T', Lc, h0, X', hL, e1, e2, ⟨⟨v', L', E', u2, hv, hp, hm, hP', hD'⟩, hz, hk⟩, stp⟩ := hr T hT X
  cases hv
  have hmu := stand_mu X
  rw [hT] at hmu
  rw [h0] at hz hk hm
  obtain ⟨kc2, ks2, hn, X2⟩ := stand_narrow X' (u := u + u2) (by rw [e1]; omega)
  have hS1 : va_S A s.heap T'.heap (locs ++ Lc) := ⟨Nat.le_trans hS.1 (by rw [e1]; exact hz), fun q h1 h2 => by rw [e1, hk q (Nat.lt_of_lt_of_le h1 hS.1) (fun z => h2 (hF q z))]; exact hS.2.1 q h1 h2, fun q hq => by
      rcases List.mem_append.mp hq with h | h
      · exact hS.2.2 q h
      · exact hF _ (hL q h)⟩
  have apart : ∀ a ∈ Lm, a < H.size ∧ ¬ va_A (va_pl Lx E) H.size a := by
    intro a ha
    obtain ⟨j, hj⟩ := pl_at (E := E) ha
    have hlt := (hP _ _ (pL j _ hj)).lt
    refine ⟨hlt, fun z => ?_⟩
    rcases z with ⟨k, x, z⟩ | z
    · have := hD.1 _ _ _ _ (pL j _ hj) (pR k _ z) rfl
      have hjl := (List.getElem?_eq_some_iff.mp hj).1
      omega
    · omega
  have dis : ∀ a ∈ Lm, a ∉ L' := by
    intro a ha hb
    obtain ⟨j, hj⟩ := pl_at (E := E') hb
    exact (apart a ha).2 (hD'.2 j _ hj)
  refine hv2 (show ∀ a ∈ Lm, (fun a => if a ∈ Lm then E a else E' a) a = E a from fun a ha => if_pos ha) (show ∀ a ∈ L', (fun a => if a ∈ Lm then E a else E' a) a = E' a from fun a ha => if_neg (fun z => dis a z ha)) (fun e3a e3b => ?_)
  have hw : va_pl (Lm ++ L') (fun a => if a ∈ Lm then E a else E' a) = va_pl Lm E ++ va_pl L' E' := by
    show List.map _ (Lm ++ L') = _
    rw [List.map_append]
    congr 1
    · exact List.map_congr_left (fun a ha => by rw [e3a a ha])
    · exact List.map_congr_left (fun a ha => by rw [e3b a ha])
  have hPm : va_P G.1 vwCl (va_pl Lm E) T'.heap := by
    intro k q hq
    have hqm : q.1 ∈ Lm := by
      obtain ⟨a, ha, ea⟩ := List.mem_map.mp (List.mem_of_getElem? hq)
      rw [← ea]; exact ha
    exact (hP _ _ (pL k q hq)).kept (by rw [e1]; exact hk q.1 (apart _ hqm).1 (apart _ hqm).2)
  have hDm : va_D A (va_pl Lm E) := ⟨fun i j x y hi hj e => hD.1 _ _ x y (pL i x hi) (pL j y hj) e, fun k q hk => hD.2 _ q (pL k q hk)⟩
  obtain ⟨t2, a1, b1⟩ := kk v L' E' _ u2 hp e3a e3b dis kc2 ks2 hn T'.heap (locs ++ Lc) ls (by rw [hw]; exact va_P.app hPm (by rw [e1]; exact hP')) (by
      rw [hw]
      refine va_D.app hDm (hD'.weaken (fun _ q _ h => hF q.1 h)) (fun i j x y hx hy hxy => ?_)
      have hxm : x.1 ∈ Lm := by
        obtain ⟨a, ha, ea⟩ := List.mem_map.mp (List.mem_of_getElem? hx)
        rw [← ea]; exact ha
      have hym : y.1 ∈ L' := by
        obtain ⟨a, ha, ea⟩ := List.mem_map.mp (List.mem_of_getElem? hy)
        rw [← ea]; exact ha
      exact dis _ hxm (hxy ▸ hym)) hS1 hl T' rfl X2
  exact ⟨t2, stp t2 a1, b1⟩
theorem u_subV (C : Cq p s m args meth c cc y ret G A nL) (hM : Mir mi s) (hu : 16 * kc + ks ≤ u) {y2 : MethodName} {cc2 : ByteArray} {n2 d2 r2 idx b ci N k2 : Nat} {ret2 : Option FieldType} {P2 : PU} {As rest : List Value} {T : u_T} {ty : Nat → FieldType} {f : Nat → Value} {Lm Lx : List Nat} (M : Mu l G mi y2 cc2 n2 ret2 d2 (.ref b :: As) Lx E r2 P2) (d : decode cc pc = .ok (.invokevirtual idx, 3)) (hw : Wv y.cls idx y2 cc2 n2 ret2 k2) (hk : As.length = k2) (hb : b ∈ Lx) (hE : E b = ob ci N f) (ck : Ck ci y2.cls T N ty) (hst : st = As.reverse ++ .ref b :: rest) (hcat : (rest.map fun v => v.category).sum ≤ 8) (hR : d2 + 1 ≤ R.frames ∧ 8 + (n2 + 11) + 64 * d2 ≤ R.locals) (hf : kc + r2 / 16 ≤ R.cells ∧ ks + r2 ≤ R.slots) (kk : ∀ (v : Option Value) (L2 : List Nat) (E2 E3 : Nat → va_E) (u2 : Nat), P2 v L2 E2 u2 → (∀ a ∈ Lm, E3 a = E a) → (∀ a ∈ L2, E3 a = E2 a) → (∀ a ∈ Lm, a ∉ L2) → ∀ kc2 ks2 : Nat, 16 * kc2 + ks2 ≤ u + u2 → wq p l e R s m args below meth c G A nL Q (Lm ++ L2) E3 kc2 ks2 (pc + 3) lv (v.toList ++ rest)) : wq p l e R s m args below meth c G A nL Q (Lm ++ Lx) E kc ks pc lv st := by
  intro H locs ls hP hD hS hl
  subst hst
  obtain ⟨q0, hq⟩ := pl_at (E := E) hb
  obtain ⟨⟨w1, w2, w3, w4⟩, w5, w6⟩ := hw
  have hts := C.2.2.2.2.1
  exact u_sub C hu hP hD hS hl (va_runV (As := As) (rest := rest) (Ts := lw_g) ⟨C.1, C.2.1, C.2.2.1, C.2.2.2.1, hts⟩ (M H.size) ⟨callB_of k2 hts (lw_goodIn w3) rfl rfl rfl (hts _ w2) (hts _ w1) w4 hR, hts _ w5, hts _ w6⟩ ⟨Pcu.blind, va_recv C.2.2.2.2.2.1 (pl_partP hP) (ci := ci) (q0 := q0) ck.1 (by rw [hq, hE]; rfl), fun U hU hW => ⟨rfl, ⟨by rw [hU], by rw [hU]; exact pl_partP hP, va_K.moved hW.alike C.2.2.2.2.2.1, (pl_partD hD).weaken (fun _ _ _ _ => trivial), C.2.2.2.2.2.2.2.1.pass hS (pl_free (pl_partD hD) hS C.2.2.2.2.2.2.1) hW.alike hU, C.2.2.2.2.2.2.2.2.2.2.2.warm hW⟩, hM.warm hW⟩⟩ rfl hk hl.1 rfl (lv_room hcat) d hf) kk
theorem u_subI (C : Cq p s m args meth c cc y ret G A nL) (hM : Mir mi s) (hu : 16 * kc + ks ≤ u) {y2 : MethodName} {cc2 : ByteArray} {n2 d2 r2 idx b k2 : Nat} {P2 : PU} {As rest : List Value} {Lm Lx : List Nat} (M : Mu l G mi y2 cc2 n2 none d2 (.ref b :: As) Lx E r2 P2) (d : decode cc pc = .ok (.invokespecial idx, 3)) (hw : Wi y.cls idx y2 cc2 n2 k2) (hk : As.length = k2) (hst : st = As.reverse ++ .ref b :: rest) (hcat : (rest.map fun v => v.category).sum ≤ 8) (hR : d2 + 1 ≤ R.frames ∧ 8 + (n2 + 11) + 64 * d2 ≤ R.locals) (hf : kc + r2 / 16 ≤ R.cells ∧ ks + r2 ≤ R.slots) (kk : ∀ (v : Option Value) (L2 : List Nat) (E2 E3 : Nat → va_E) (u2 : Nat), P2 v L2 E2 u2 → (∀ a ∈ Lm, E3 a = E a) → (∀ a ∈ L2, E3 a = E2 a) → (∀ a ∈ Lm, a ∉ L2) → ∀ kc2 ks2 : Nat, 16 * kc2 + ks2 ≤ u + u2 → wq p l e R s m args below meth c G A nL Q (Lm ++ L2) E3 kc2 ks2 (pc + 3) lv (v.toList ++ rest)) : wq p l e R s m args below meth c G A nL Q (Lm ++ Lx) E kc ks pc lv st := by
  intro H locs ls hP hD hS hl
  subst hst
  obtain ⟨⟨w1, w2, w3, w4⟩, w5, w6⟩ := hw
  have hts := C.2.2.2.2.1
  exact u_sub C hu hP hD hS hl (va_runI (As := As) (rest := rest) (Ts := lw_g) ⟨C.1, C.2.1, C.2.2.1, C.2.2.2.1, hts⟩ (M H.size) ⟨callB_of k2 hts (lw_goodIn w3) rfl rfl rfl (hts _ w2) (hts _ w1) w4 hR, w5, hts _ w6⟩ ⟨Pcu.blind, fun U hU hW => ⟨rfl, ⟨by rw [hU], by rw [hU]; exact pl_partP hP, va_K.moved hW.alike C.2.2.2.2.2.1, (pl_partD hD).weaken (fun _ _ _ _ => trivial), C.2.2.2.2.2.2.2.1.pass hS (pl_free (pl_partD hD) hS C.2.2.2.2.2.2.1) hW.alike hU, C.2.2.2.2.2.2.2.2.2.2.2.warm hW⟩, hM.warm hW⟩⟩ rfl hk hl.1 rfl (lv_room hcat) d hf) kk
end LB
end
section
def LNK (rv : Nat → Nat → Option Nat) (s1 s2 : Nat) : Prop := s1 ≠ s2 ∧ (∀ c, rv s1 0 = some c → rv s2 0 ≠ some c) ∧ ∀ x y, (x = s1 ∨ x = s2) → (y = s1 ∨ y = s2) → ∀ (rb rb' l l' r r' c : Nat), rv x 0 = some rb → rv y 0 = some rb' → rv rb l = some r → rv rb' l' = some r' → rv r 0 = some c → rv r' 0 = some c → x = y ∧ l = l'
def SAM (iv : Nat → Nat → Int) (rv : Nat → Nat → Option Nat) (iv2 : Nat → Nat → Int) (rv2 : Nat → Nat → Option Nat) (s : Nat) : Prop := iv2 s = iv s ∧ rv2 s = rv s ∧ ∀ rb, rv s 0 = some rb → rv2 rb = rv rb ∧ ∀ (l r : Nat), rv rb l = some r → iv2 r = iv r ∧ rv2 r = rv r ∧ ∀ cb, rv r 0 = some cb → iv2 cb = iv cb
def SHQ (h0 : Nat) (iv : Nat → Nat → Int) (rv : Nat → Nat → Option Nat) (v : Nat → Int) : Prop := ∃ sA sB, rv h0 9 = some sA ∧ rv h0 10 = some sB ∧ LNK rv sB sA ∧ iv sA 1 = v 36
def KSQ (h0 : Nat) (iv : Nat → Nat → Int) (rv : Nat → Nat → Option Nat) (iv2 : Nat → Nat → Int) (rv2 : Nat → Nat → Option Nat) : Prop := ∀ v, SHQ h0 iv rv v → SHQ h0 iv2 rv2 v
def KSC (h0 : Nat) (iv : Nat → Nat → Int) (rv : Nat → Nat → Option Nat) (iv2 : Nat → Nat → Int) (rv2 : Nat → Nat → Option Nat) : Prop := ∀ sA sB, rv h0 9 = some sA → rv h0 10 = some sB → LNK rv sB sA → rv2 h0 9 = some sA ∧ rv2 h0 10 = some sB ∧ LNK rv2 sB sA ∧ SAM iv rv iv2 rv2 sA
def FKP (sk : Nat → Nat) (iv : Nat → Nat → Int) (rv : Nat → Nat → Option Nat) (iv2 : Nat → Nat → Int) (rv2 : Nat → Nat → Option Nat) : Prop := iv2 (sk 17) = iv (sk 17) ∧ rv2 (sk 17) = rv (sk 17) ∧ iv2 (sk 11) 2 = iv (sk 11) 2 ∧ (∀ ss, CT iv rv (sk 11) ss → CT iv2 rv2 (sk 11) ss) ∧ ∀ eb, rv (sk 17) 3 = some eb → iv2 eb = iv eb
section SHQS
variable {h : Nat} {sk : Nat → Nat} {L L2 : List Nat} {cl ln cl2 ln2 : Nat → Nat} {iv iv1 iv2 : Nat → Nat → Int} {rv rv1 rv2 : Nat → Nat → Option Nat} {s s2 rb r cb l h0 : Nat} {v v2 : Nat → Int} {a a2 : Nat → Nat → Int} {ls : List Nat}
theorem SAM.refl : SAM iv rv iv rv s := ⟨rfl, rfl, fun _ _ => ⟨rfl, fun _ _ _ => ⟨rfl, rfl, fun _ _ => rfl⟩⟩⟩
theorem SAM.trans (h1 : SAM iv rv iv1 rv1 s) (h2 : SAM iv1 rv1 iv2 rv2 s) : SAM iv rv iv2 rv2 s := by
  obtain ⟨a1, a2, a3⟩ := h1
  obtain ⟨b1, b2, b3⟩ := h2
  refine ⟨b1.trans a1, b2.trans a2, fun rb hb => ?_⟩
  obtain ⟨c1, c2⟩ := a3 rb hb
  obtain ⟨d1, d2⟩ := b3 rb (by rw [a2]; exact hb)
  refine ⟨d1.trans c1, fun l r hr => ?_⟩
  obtain ⟨e1, e2, e3⟩ := c2 l r hr
  obtain ⟨f1, f2, f3⟩ := d2 l r (by rw [c1]; exact hr)
  refine ⟨f1.trans e1, f2.trans e2, fun cb hc => ?_⟩
  rw [f3 cb (by rw [e2]; exact hc)]
  exact e3 cb hc
theorem LNK.sym (hK : LNK rv s s2) : LNK rv s2 s := ⟨fun e => hK.1 e.symm, fun c h1 h2 => hK.2.1 c h2 h1, fun x y hx hy => hK.2.2 x y hx.symm hy.symm⟩
theorem sh67 (hW : WT h sk L cl ln iv rv) (ts : ty L cl s 18) (h0 : rv s 0 = some rb) : ty L cl rb 67 := by
  obtain ⟨b', q1, t3⟩ := hW.ref ts 0 rfl rfl rfl
  rw [h0] at q1; cases q1
  exact t3
theorem ro19 (hW : WT h sk L cl ln iv rv) (tb : ty L cl rb 67) (h0 : rv rb l = some r) : ty L cl r 19 := by
  rcases hW.opt tb l rfl rfl with ⟨q1, _⟩ | ⟨b', q1, t3⟩
  · rw [h0] at q1; cases q1
  · rw [h0] at q1; cases q1
    exact t3
theorem li64 (hW : WT h sk L cl ln iv rv) (tr : ty L cl r 19) (h0 : rv r 0 = some cb) : ty L cl cb 64 := by
  obtain ⟨b', q1, t3⟩ := hW.ref tr 0 rfl rfl rfl
  rw [h0] at q1; cases q1
  exact t3
theorem SAM.frm (hW : WT h sk L cl ln iv rv) (ts : ty L cl s 18) (hF : fT ls L cl iv rv iv2 rv2) (a18 : ls.contains 18 = false) (a19 : ls.contains 19 = false) (a64 : ls.contains 64 = false) (a67 : ls.contains 67 = false) : SAM iv rv iv2 rv2 s := by
  refine ⟨funext fun j => hF.i ts a18 j, funext fun j => hF.r ts a18 j, fun rb h0 => ?_⟩
  have tb := sh67 hW ts h0
  refine ⟨funext fun j => hF.r tb a67 j, fun l r hr => ?_⟩
  have tr := ro19 hW tb hr
  exact ⟨funext fun j => hF.i tr a19 j, funext fun j => hF.r tr a19 j, fun cb hc => funext fun j => hF.i (li64 hW tr hc) a64 j⟩
theorem LNK.frm (hK : LNK rv s s2) (hW : WT h sk L cl ln iv rv) (ts : ty L cl s 18) (ts2 : ty L cl s2 18) (hF : fT ls L cl iv rv iv2 rv2) (a18 : ls.contains 18 = false) (a19 : ls.contains 19 = false) (a67 : ls.contains 67 = false) : LNK rv2 s s2 := by
  have k : ∀ x, (x = s ∨ x = s2) → ty L cl x 18 := fun x hx => by
    rcases hx with e | e
    · rw [e]; exact ts
    · rw [e]; exact ts2
  have o : ∀ x rb l r e, (x = s ∨ x = s2) → rv2 x 0 = some rb → rv2 rb l = some r → rv2 r 0 = some e → rv x 0 = some rb ∧ rv rb l = some r ∧ rv r 0 = some e := fun x rb l r e hx h0 h1 h2 => by
    rw [hF.r (k x hx) a18 0] at h0
    have tb := sh67 hW (k x hx) h0
    rw [hF.r tb a67 l] at h1
    have tr := ro19 hW tb h1
    rw [hF.r tr a19 0] at h2
    exact ⟨h0, h1, h2⟩
  refine ⟨hK.1, fun e h1 h2 => hK.2.1 e (by rw [← hF.r ts a18 0]; exact h1) (by rw [← hF.r ts2 a18 0]; exact h2), fun x y hx hy rb rb' l l' r r' e a1 a2 a3 a4 a5 a6 => ?_⟩
  obtain ⟨o1, o2, o3⟩ := o x rb l r e hx a1 a3 a5
  obtain ⟨p1, p2, p3⟩ := o y rb' l' r' e hy a2 a4 a6
  exact hK.2.2 x y hx hy rb rb' l l' r r' e o1 p1 o2 p2 o3 p3
theorem KSQ.refl : KSQ h0 iv rv iv rv := fun _ q => q
theorem KSQ.ni (hW : WT h sk L cl ln iv rv) (ht : ty L cl h0 1) (hF : fT ls L cl iv rv iv2 rv) (a18 : ls.contains 18 = false) : KSQ h0 iv rv iv2 rv := fun v hq => by
  obtain ⟨sA, sB, q1, q2, q3, q4⟩ := hq
  obtain ⟨b1, e1, t1⟩ := hW.ref ht 9 rfl rfl rfl
  rw [q1] at e1; cases e1
  have tA : ty L cl sA 18 := t1
  exact ⟨sA, sB, q1, q2, q3, (hF.i tA a18 1).trans q4⟩
theorem KSQ.fr (hW : WT h sk L cl ln iv rv) (ht : ty L cl h0 1) (hF : fT ls L cl iv rv iv2 rv2) (h9 : rv2 h0 9 = rv h0 9) (h10 : rv2 h0 10 = rv h0 10) (a18 : ls.contains 18 = false) (a19 : ls.contains 19 = false) (a67 : ls.contains 67 = false) : KSQ h0 iv rv iv2 rv2 := fun v hq => by
  obtain ⟨sA, sB, q1, q2, q3, q4⟩ := hq
  obtain ⟨b1, e1, t1⟩ := hW.ref ht 9 rfl rfl rfl
  obtain ⟨b2, e2, t2⟩ := hW.ref ht 10 rfl rfl rfl
  rw [q1] at e1; cases e1
  rw [q2] at e2; cases e2
  refine hv2 (show ty L cl sA 18 from t1) (show ty L cl sB 18 from t2) (fun tA tB => ?_)
  exact ⟨sA, sB, h9.trans q1, h10.trans q2, q3.frm hW tB tA hF a18 a19 a67, (hF.i tA a18 1).trans q4⟩
theorem KSC.refl : KSC h0 iv rv iv rv := fun _ _ q1 q2 q3 => ⟨q1, q2, q3, SAM.refl⟩
theorem KSC.fr (hW : WT h sk L cl ln iv rv) (ht : ty L cl h0 1) (hF : fT ls L cl iv rv iv2 rv2) (h9 : rv2 h0 9 = rv h0 9) (h10 : rv2 h0 10 = rv h0 10) (a18 : ls.contains 18 = false) (a19 : ls.contains 19 = false) (a64 : ls.contains 64 = false) (a67 : ls.contains 67 = false) : KSC h0 iv rv iv2 rv2 := fun sA sB q1 q2 q3 => by
  obtain ⟨b1, e1, t1⟩ := hW.ref ht 9 rfl rfl rfl
  obtain ⟨b2, e2, t2⟩ := hW.ref ht 10 rfl rfl rfl
  rw [q1] at e1; cases e1
  rw [q2] at e2; cases e2
  refine hv2 (show ty L cl sA 18 from t1) (show ty L cl sB 18 from t2) (fun tA tB => ?_)
  exact ⟨h9.trans q1, h10.trans q2, q3.frm hW tB tA hF a18 a19 a67, SAM.frm hW tA hF a18 a19 a64 a67⟩
theorem SHQ.cg (hq : SHQ h0 iv rv v) (h36 : v2 36 = v 36) : SHQ h0 iv rv v2 := by
  obtain ⟨sA, sB, q1, q2, q3, q4⟩ := hq
  exact ⟨sA, sB, q1, q2, q3, q4.trans h36.symm⟩
theorem SHZ.mk (hz : SHZ h0 iv rv) (h36 : v 36 = 0) : SHQ h0 iv rv v := by
  obtain ⟨sA, sB, bA, bB, q1, q2, q3, q4, q5, q6, q7, q8, q9⟩ := hz
  have no : ∀ x rb l r, (x = sB ∨ x = sA) → rv x 0 = some rb → rv rb l = some r → False := fun x rb l r hx e1 e2 => by
    rcases hx with e | e
    · rw [e, q5] at e1
      cases e1
      rw [q8 l] at e2
      cases e2
    · rw [e, q4] at e1
      cases e1
      rw [q7 l] at e2
      cases e2
  refine ⟨sA, sB, q1, q2, ⟨fun e => q3 e.symm, fun c e1 e2 => ?_, fun x y hx hy rb rb' l l' r r' c a1 a2 a3 a4 a5 a6 => (no x rb l r hx a1 a3).elim⟩, by omega⟩
  rw [q5] at e1
  rw [q4] at e2
  cases e1
  cases e2
  exact q6 rfl
theorem tysq {t : Nat} (hS : SKL sk L cl) (hu : uq t = true) (hb : bt t = t) : ty L cl (sk t) t := ⟨(hS t hu).1, by rw [(hS t hu).2]; exact hb⟩
theorem FKP.refl : FKP sk iv rv iv rv := ⟨rfl, rfl, rfl, fun _ h => h, fun _ _ => rfl⟩
theorem FKP.fr (hW : WT h sk L cl ln iv rv) (hS : SKL sk L cl) (hF : fT ls L cl iv rv iv2 rv2) (a17 : ls.contains 17 = false) (a11 : ls.contains 11 = false) (a41 : ls.contains 41 = false) (a62 : ls.contains 62 = false) : FKP sk iv rv iv2 rv2 := by
  refine hv2 (show ty L cl (sk 17) 17 from tysq hS rfl rfl) (show ty L cl (sk 11) 11 from tysq hS rfl rfl) (fun t17 t11 => ?_)
  refine ⟨funext fun j => hF.i t17 a17 j, funext fun j => hF.r t17 a17 j, hF.i t11 a11 2, fun ss hs => CT.fr hs hW t11 hF a11 a41 rfl rfl rfl, fun eb he => ?_⟩
  obtain ⟨b1, e1, t1⟩ := hW.ref t17 3 rfl rfl rfl
  rw [he] at e1; cases e1
  exact funext fun j => hF.i t1 a62 j
end SHQS
end
section
set_option maxHeartbeats 4000000 in
set_option maxRecDepth 100000 in
theorem C_measure2 {l : Launch} {G : GT} {mi : Nat} {sk : Nat → Nat} {L : List Nat} {cl ln : Nat → Nat} {iv : Nat → Nat → Int} {rv : Nat → Nat → Option Nat}  {a0 : Nat} {x : Int} {y : Int} {h : Int} (hW : WT (g0 G) sk L cl ln iv rv) (hS : SKL sk L cl) (t_a0 : ty L cl a0 1) (h_x : -2147483648 ≤ x ∧ x ≤ 2147483647) (h_y : -2147483648 ≤ y ∧ y ≤ 2147483647) (h_h : -2147483648 ≤ h ∧ h ≤ 2147483647)  : Mc l G mi (Phi (g0 G) sk) PHM yX11_measure cX11_measure 4 (some .int) 1 [.ref a0, .int (iI x), .int (iI y), .int (iI h)] L cl ln iv rv 0 (fun v L2 cl2 ln2 iv2 rv2 => ∃ f : Int, v = some (.int (iI f)) ∧ L = L2 ∧ cl = cl2 ∧ ln = ln2 ∧ rv = rv2 ∧ fT [1] L cl iv rv iv2 rv2 ∧ WT (g0 G) sk L2 cl2 ln2 iv2 rv2 ∧ (-2147483648 ≤ f ∧ f ≤ 2147483647) ∧ (((f = 1 ∧ 1 ≤ x ∧ x ≤ 100 ∧ 1 ≤ y ∧ y ≤ 50 ∧ 1 ≤ h ∧ h ≤ 255) ∨ (f = -1 ∧ ¬ (1 ≤ x ∧ x ≤ 100 ∧ 1 ≤ y ∧ y ≤ 50 ∧ 1 ≤ h ∧ h ≤ 255))) ∧ ((f = 1 ∧ iv2 a0 11 = x ∧ iv2 a0 12 = y ∧ iv2 a0 13 = h) ∨ (f = -1 ∧ iv2 a0 11 = iv a0 11 ∧ iv2 a0 12 = iv a0 12 ∧ iv2 a0 13 = iv a0 13))) ∧ iv2 a0 14 = iv a0 14 ∧ iv2 a0 15 = iv a0 15 ∧ iv2 a0 16 = iv a0 16) := by
  refine Mc.mk (by decide) (Nat.le_of_ble_eq_true rfl) ?_
  intro p e s m args below meth c A C hM
  refine hv3 (Phi.le hW hS) (show XT L cl ln L cl ln from XT.refl) (show fT [1] L cl iv rv iv rv from fT.refl) (fun hph hX0 hF0 => ?_)
  refine c_iload_n (j := 1) C dX11_measure_0 rfl ?_
  refine c_iconst C dX11_measure_1 ?_
  refine c_icmp_lt (tgt := 34) C ⟨by omega, by omega⟩ ⟨by decide, by decide⟩ dX11_measure_2 (by decide) (fun c1 => ?_) (fun c1 => ?_)
  · refine c_aload_n (j := 0) (x := a0) C dX11_measure_34 rfl ?_
    refine c_bipush (z := 6) C dX11_measure_35 (by decide) ?_
    refine d_callV (As := [.int (iI 6)]) (rest := []) C hM (C_refuse (a0 := a0) (x := 6) hW hS t_a0 ⟨by decide, by decide⟩ ) dX11_measure_37 kV_X11_102 rfl t_a0 rfl rfl (by decide) ck_12 rfl (Nat.le_of_ble_eq_true rfl) ⟨(Nat.le_of_ble_eq_true rfl), (Nat.le_of_ble_eq_true rfl)⟩ hph hph (show 0 + 0 = 0 from rfl) (by decide) (fun rh1 Lh1 clh1 lnh1 ivh1 rvh1 h1 => ?_)
    obtain ⟨f1, rfl, rfl, rfl, rfl, rfl, fl1, W1, rgf1, exf1, kp11f1, kp12f1, kp13f1, kp14f1, kp15f1, kp16f1⟩ := h1
    refine hv7 (show 1 ≤ iv a0 11 ∧ iv a0 11 ≤ 100 from hW.int t_a0 11) (show 1 ≤ iv a0 12 ∧ iv a0 12 ≤ 50 from hW.int t_a0 12) (show (-2147483648) ≤ iv a0 13 ∧ iv a0 13 ≤ 2147483647 from hW.int t_a0 13) (show (-2147483648) ≤ iv a0 14 ∧ iv a0 14 ≤ 2147483647 from hW.int t_a0 14) (show (-2147483648) ≤ iv a0 15 ∧ iv a0 15 ≤ 2147483647 from hW.int t_a0 15) (show (-2147483648) ≤ iv a0 16 ∧ iv a0 16 ≤ 2147483647 from hW.int t_a0 16) (hF0.call hX0 fl1 rfl) (fun ri1 ri2 ri3 ri4 ri5 ri6 F1 => ?_)
    refine c_st (st2 := [.int (iI f1)]) rfl ?_
    refine hv13 (show ivh1 a0 11 = iv a0 11 from kp11f1) (show ivh1 a0 12 = iv a0 12 from kp12f1) (show ivh1 a0 13 = iv a0 13 from kp13f1) (show ivh1 a0 14 = iv a0 14 from kp14f1) (show ivh1 a0 15 = iv a0 15 from kp15f1) (show ivh1 a0 16 = iv a0 16 from kp16f1) (show f1 = -1 from exf1) (show (-2147483648) ≤ ivh1 a0 14 ∧ ivh1 a0 14 ≤ 2147483647 from W1.int t_a0 14) (show (-2147483648) ≤ ivh1 a0 15 ∧ ivh1 a0 15 ≤ 2147483647 from W1.int t_a0 15) (show (-2147483648) ≤ ivh1 a0 16 ∧ ivh1 a0 16 ≤ 2147483647 from W1.int t_a0 16) (show 1 ≤ ivh1 a0 11 ∧ ivh1 a0 11 ≤ 100 from W1.int t_a0 11) (show 1 ≤ ivh1 a0 12 ∧ ivh1 a0 12 ≤ 50 from W1.int t_a0 12) (show (-2147483648) ≤ ivh1 a0 13 ∧ ivh1 a0 13 ≤ 2147483647 from W1.int t_a0 13) (fun gk11f1 gk12f1 gk13f1 gk14f1 gk15f1 gk16f1 gf1 ri7 ri8 ri9 ri10 ri11 ri12 => ?_)
    exact c_iret C dX11_measure_40 rfl (by decide) (rom0 hph hph (by decide)) ⟨f1, rfl, rfl, rfl, rfl, rfl, F1, W1, ⟨by omega, by omega⟩, ⟨by omega, by omega⟩, gk14f1, gk15f1, gk16f1⟩
  · refine c_iload_n (j := 1) C dX11_measure_5 rfl ?_
    refine c_bipush (z := 100) C dX11_measure_6 (by decide) ?_
    refine c_icmp_gt (tgt := 34) C ⟨by omega, by omega⟩ ⟨by decide, by decide⟩ dX11_measure_8 (by decide) (fun c2 => ?_) (fun c2 => ?_)
    · refine c_aload_n (j := 0) (x := a0) C dX11_measure_34 rfl ?_
      refine c_bipush (z := 6) C dX11_measure_35 (by decide) ?_
      refine d_callV (As := [.int (iI 6)]) (rest := []) C hM (C_refuse (a0 := a0) (x := 6) hW hS t_a0 ⟨by decide, by decide⟩ ) dX11_measure_37 kV_X11_102 rfl t_a0 rfl rfl (by decide) ck_12 rfl (Nat.le_of_ble_eq_true rfl) ⟨(Nat.le_of_ble_eq_true rfl), (Nat.le_of_ble_eq_true rfl)⟩ hph hph (show 0 + 0 = 0 from rfl) (by decide) (fun rh2 Lh2 clh2 lnh2 ivh2 rvh2 h2 => ?_)
      obtain ⟨f2, rfl, rfl, rfl, rfl, rfl, fl2, W2, rgf2, exf2, kp11f2, kp12f2, kp13f2, kp14f2, kp15f2, kp16f2⟩ := h2
      refine hv7 (show 1 ≤ iv a0 11 ∧ iv a0 11 ≤ 100 from hW.int t_a0 11) (show 1 ≤ iv a0 12 ∧ iv a0 12 ≤ 50 from hW.int t_a0 12) (show (-2147483648) ≤ iv a0 13 ∧ iv a0 13 ≤ 2147483647 from hW.int t_a0 13) (show (-2147483648) ≤ iv a0 14 ∧ iv a0 14 ≤ 2147483647 from hW.int t_a0 14) (show (-2147483648) ≤ iv a0 15 ∧ iv a0 15 ≤ 2147483647 from hW.int t_a0 15) (show (-2147483648) ≤ iv a0 16 ∧ iv a0 16 ≤ 2147483647 from hW.int t_a0 16) (hF0.call hX0 fl2 rfl) (fun ri13 ri14 ri15 ri16 ri17 ri18 F2 => ?_)
      refine c_st (st2 := [.int (iI f2)]) rfl ?_
      refine hv13 (show ivh2 a0 11 = iv a0 11 from kp11f2) (show ivh2 a0 12 = iv a0 12 from kp12f2) (show ivh2 a0 13 = iv a0 13 from kp13f2) (show ivh2 a0 14 = iv a0 14 from kp14f2) (show ivh2 a0 15 = iv a0 15 from kp15f2) (show ivh2 a0 16 = iv a0 16 from kp16f2) (show f2 = -1 from exf2) (show (-2147483648) ≤ ivh2 a0 14 ∧ ivh2 a0 14 ≤ 2147483647 from W2.int t_a0 14) (show (-2147483648) ≤ ivh2 a0 15 ∧ ivh2 a0 15 ≤ 2147483647 from W2.int t_a0 15) (show (-2147483648) ≤ ivh2 a0 16 ∧ ivh2 a0 16 ≤ 2147483647 from W2.int t_a0 16) (show 1 ≤ ivh2 a0 11 ∧ ivh2 a0 11 ≤ 100 from W2.int t_a0 11) (show 1 ≤ ivh2 a0 12 ∧ ivh2 a0 12 ≤ 50 from W2.int t_a0 12) (show (-2147483648) ≤ ivh2 a0 13 ∧ ivh2 a0 13 ≤ 2147483647 from W2.int t_a0 13) (fun gk11f2 gk12f2 gk13f2 gk14f2 gk15f2 gk16f2 gf2 ri19 ri20 ri21 ri22 ri23 ri24 => ?_)
      exact c_iret C dX11_measure_40 rfl (by decide) (rom0 hph hph (by decide)) ⟨f2, rfl, rfl, rfl, rfl, rfl, F2, W2, ⟨by omega, by omega⟩, ⟨by omega, by omega⟩, gk14f2, gk15f2, gk16f2⟩
    · refine c_iload_n (j := 2) C dX11_measure_11 rfl ?_
      refine c_iconst C dX11_measure_12 ?_
      refine c_icmp_lt (tgt := 34) C ⟨by omega, by omega⟩ ⟨by decide, by decide⟩ dX11_measure_13 (by decide) (fun c3 => ?_) (fun c3 => ?_)
      · refine c_aload_n (j := 0) (x := a0) C dX11_measure_34 rfl ?_
        refine c_bipush (z := 6) C dX11_measure_35 (by decide) ?_
        refine d_callV (As := [.int (iI 6)]) (rest := []) C hM (C_refuse (a0 := a0) (x := 6) hW hS t_a0 ⟨by decide, by decide⟩ ) dX11_measure_37 kV_X11_102 rfl t_a0 rfl rfl (by decide) ck_12 rfl (Nat.le_of_ble_eq_true rfl) ⟨(Nat.le_of_ble_eq_true rfl), (Nat.le_of_ble_eq_true rfl)⟩ hph hph (show 0 + 0 = 0 from rfl) (by decide) (fun rh3 Lh3 clh3 lnh3 ivh3 rvh3 h3 => ?_)
        obtain ⟨f3, rfl, rfl, rfl, rfl, rfl, fl3, W3, rgf3, exf3, kp11f3, kp12f3, kp13f3, kp14f3, kp15f3, kp16f3⟩ := h3
        refine hv7 (show 1 ≤ iv a0 11 ∧ iv a0 11 ≤ 100 from hW.int t_a0 11) (show 1 ≤ iv a0 12 ∧ iv a0 12 ≤ 50 from hW.int t_a0 12) (show (-2147483648) ≤ iv a0 13 ∧ iv a0 13 ≤ 2147483647 from hW.int t_a0 13) (show (-2147483648) ≤ iv a0 14 ∧ iv a0 14 ≤ 2147483647 from hW.int t_a0 14) (show (-2147483648) ≤ iv a0 15 ∧ iv a0 15 ≤ 2147483647 from hW.int t_a0 15) (show (-2147483648) ≤ iv a0 16 ∧ iv a0 16 ≤ 2147483647 from hW.int t_a0 16) (hF0.call hX0 fl3 rfl) (fun ri25 ri26 ri27 ri28 ri29 ri30 F3 => ?_)
        refine c_st (st2 := [.int (iI f3)]) rfl ?_
        refine hv13 (show ivh3 a0 11 = iv a0 11 from kp11f3) (show ivh3 a0 12 = iv a0 12 from kp12f3) (show ivh3 a0 13 = iv a0 13 from kp13f3) (show ivh3 a0 14 = iv a0 14 from kp14f3) (show ivh3 a0 15 = iv a0 15 from kp15f3) (show ivh3 a0 16 = iv a0 16 from kp16f3) (show f3 = -1 from exf3) (show (-2147483648) ≤ ivh3 a0 14 ∧ ivh3 a0 14 ≤ 2147483647 from W3.int t_a0 14) (show (-2147483648) ≤ ivh3 a0 15 ∧ ivh3 a0 15 ≤ 2147483647 from W3.int t_a0 15) (show (-2147483648) ≤ ivh3 a0 16 ∧ ivh3 a0 16 ≤ 2147483647 from W3.int t_a0 16) (show 1 ≤ ivh3 a0 11 ∧ ivh3 a0 11 ≤ 100 from W3.int t_a0 11) (show 1 ≤ ivh3 a0 12 ∧ ivh3 a0 12 ≤ 50 from W3.int t_a0 12) (show (-2147483648) ≤ ivh3 a0 13 ∧ ivh3 a0 13 ≤ 2147483647 from W3.int t_a0 13) (fun gk11f3 gk12f3 gk13f3 gk14f3 gk15f3 gk16f3 gf3 ri31 ri32 ri33 ri34 ri35 ri36 => ?_)
        exact c_iret C dX11_measure_40 rfl (by decide) (rom0 hph hph (by decide)) ⟨f3, rfl, rfl, rfl, rfl, rfl, F3, W3, ⟨by omega, by omega⟩, ⟨by omega, by omega⟩, gk14f3, gk15f3, gk16f3⟩
      · refine c_iload_n (j := 2) C dX11_measure_16 rfl ?_
        refine c_bipush (z := 50) C dX11_measure_17 (by decide) ?_
        refine c_icmp_gt (tgt := 34) C ⟨by omega, by omega⟩ ⟨by decide, by decide⟩ dX11_measure_19 (by decide) (fun c4 => ?_) (fun c4 => ?_)
        · refine c_aload_n (j := 0) (x := a0) C dX11_measure_34 rfl ?_
          refine c_bipush (z := 6) C dX11_measure_35 (by decide) ?_
          refine d_callV (As := [.int (iI 6)]) (rest := []) C hM (C_refuse (a0 := a0) (x := 6) hW hS t_a0 ⟨by decide, by decide⟩ ) dX11_measure_37 kV_X11_102 rfl t_a0 rfl rfl (by decide) ck_12 rfl (Nat.le_of_ble_eq_true rfl) ⟨(Nat.le_of_ble_eq_true rfl), (Nat.le_of_ble_eq_true rfl)⟩ hph hph (show 0 + 0 = 0 from rfl) (by decide) (fun rh4 Lh4 clh4 lnh4 ivh4 rvh4 h4 => ?_)
          obtain ⟨f4, rfl, rfl, rfl, rfl, rfl, fl4, W4, rgf4, exf4, kp11f4, kp12f4, kp13f4, kp14f4, kp15f4, kp16f4⟩ := h4
          refine hv7 (show 1 ≤ iv a0 11 ∧ iv a0 11 ≤ 100 from hW.int t_a0 11) (show 1 ≤ iv a0 12 ∧ iv a0 12 ≤ 50 from hW.int t_a0 12) (show (-2147483648) ≤ iv a0 13 ∧ iv a0 13 ≤ 2147483647 from hW.int t_a0 13) (show (-2147483648) ≤ iv a0 14 ∧ iv a0 14 ≤ 2147483647 from hW.int t_a0 14) (show (-2147483648) ≤ iv a0 15 ∧ iv a0 15 ≤ 2147483647 from hW.int t_a0 15) (show (-2147483648) ≤ iv a0 16 ∧ iv a0 16 ≤ 2147483647 from hW.int t_a0 16) (hF0.call hX0 fl4 rfl) (fun ri37 ri38 ri39 ri40 ri41 ri42 F4 => ?_)
          refine c_st (st2 := [.int (iI f4)]) rfl ?_
          refine hv13 (show ivh4 a0 11 = iv a0 11 from kp11f4) (show ivh4 a0 12 = iv a0 12 from kp12f4) (show ivh4 a0 13 = iv a0 13 from kp13f4) (show ivh4 a0 14 = iv a0 14 from kp14f4) (show ivh4 a0 15 = iv a0 15 from kp15f4) (show ivh4 a0 16 = iv a0 16 from kp16f4) (show f4 = -1 from exf4) (show (-2147483648) ≤ ivh4 a0 14 ∧ ivh4 a0 14 ≤ 2147483647 from W4.int t_a0 14) (show (-2147483648) ≤ ivh4 a0 15 ∧ ivh4 a0 15 ≤ 2147483647 from W4.int t_a0 15) (show (-2147483648) ≤ ivh4 a0 16 ∧ ivh4 a0 16 ≤ 2147483647 from W4.int t_a0 16) (show 1 ≤ ivh4 a0 11 ∧ ivh4 a0 11 ≤ 100 from W4.int t_a0 11) (show 1 ≤ ivh4 a0 12 ∧ ivh4 a0 12 ≤ 50 from W4.int t_a0 12) (show (-2147483648) ≤ ivh4 a0 13 ∧ ivh4 a0 13 ≤ 2147483647 from W4.int t_a0 13) (fun gk11f4 gk12f4 gk13f4 gk14f4 gk15f4 gk16f4 gf4 ri43 ri44 ri45 ri46 ri47 ri48 => ?_)
          exact c_iret C dX11_measure_40 rfl (by decide) (rom0 hph hph (by decide)) ⟨f4, rfl, rfl, rfl, rfl, rfl, F4, W4, ⟨by omega, by omega⟩, ⟨by omega, by omega⟩, gk14f4, gk15f4, gk16f4⟩
        · refine c_iload_n (j := 3) C dX11_measure_22 rfl ?_
          refine c_iconst C dX11_measure_23 ?_
          refine c_icmp_lt (tgt := 34) C ⟨by omega, by omega⟩ ⟨by decide, by decide⟩ dX11_measure_24 (by decide) (fun c5 => ?_) (fun c5 => ?_)
          · refine c_aload_n (j := 0) (x := a0) C dX11_measure_34 rfl ?_
            refine c_bipush (z := 6) C dX11_measure_35 (by decide) ?_
            refine d_callV (As := [.int (iI 6)]) (rest := []) C hM (C_refuse (a0 := a0) (x := 6) hW hS t_a0 ⟨by decide, by decide⟩ ) dX11_measure_37 kV_X11_102 rfl t_a0 rfl rfl (by decide) ck_12 rfl (Nat.le_of_ble_eq_true rfl) ⟨(Nat.le_of_ble_eq_true rfl), (Nat.le_of_ble_eq_true rfl)⟩ hph hph (show 0 + 0 = 0 from rfl) (by decide) (fun rh5 Lh5 clh5 lnh5 ivh5 rvh5 h5 => ?_)
            obtain ⟨f5, rfl, rfl, rfl, rfl, rfl, fl5, W5, rgf5, exf5, kp11f5, kp12f5, kp13f5, kp14f5, kp15f5, kp16f5⟩ := h5
            refine hv7 (show 1 ≤ iv a0 11 ∧ iv a0 11 ≤ 100 from hW.int t_a0 11) (show 1 ≤ iv a0 12 ∧ iv a0 12 ≤ 50 from hW.int t_a0 12) (show (-2147483648) ≤ iv a0 13 ∧ iv a0 13 ≤ 2147483647 from hW.int t_a0 13) (show (-2147483648) ≤ iv a0 14 ∧ iv a0 14 ≤ 2147483647 from hW.int t_a0 14) (show (-2147483648) ≤ iv a0 15 ∧ iv a0 15 ≤ 2147483647 from hW.int t_a0 15) (show (-2147483648) ≤ iv a0 16 ∧ iv a0 16 ≤ 2147483647 from hW.int t_a0 16) (hF0.call hX0 fl5 rfl) (fun ri49 ri50 ri51 ri52 ri53 ri54 F5 => ?_)
            refine c_st (st2 := [.int (iI f5)]) rfl ?_
            refine hv13 (show ivh5 a0 11 = iv a0 11 from kp11f5) (show ivh5 a0 12 = iv a0 12 from kp12f5) (show ivh5 a0 13 = iv a0 13 from kp13f5) (show ivh5 a0 14 = iv a0 14 from kp14f5) (show ivh5 a0 15 = iv a0 15 from kp15f5) (show ivh5 a0 16 = iv a0 16 from kp16f5) (show f5 = -1 from exf5) (show (-2147483648) ≤ ivh5 a0 14 ∧ ivh5 a0 14 ≤ 2147483647 from W5.int t_a0 14) (show (-2147483648) ≤ ivh5 a0 15 ∧ ivh5 a0 15 ≤ 2147483647 from W5.int t_a0 15) (show (-2147483648) ≤ ivh5 a0 16 ∧ ivh5 a0 16 ≤ 2147483647 from W5.int t_a0 16) (show 1 ≤ ivh5 a0 11 ∧ ivh5 a0 11 ≤ 100 from W5.int t_a0 11) (show 1 ≤ ivh5 a0 12 ∧ ivh5 a0 12 ≤ 50 from W5.int t_a0 12) (show (-2147483648) ≤ ivh5 a0 13 ∧ ivh5 a0 13 ≤ 2147483647 from W5.int t_a0 13) (fun gk11f5 gk12f5 gk13f5 gk14f5 gk15f5 gk16f5 gf5 ri55 ri56 ri57 ri58 ri59 ri60 => ?_)
            exact c_iret C dX11_measure_40 rfl (by decide) (rom0 hph hph (by decide)) ⟨f5, rfl, rfl, rfl, rfl, rfl, F5, W5, ⟨by omega, by omega⟩, ⟨by omega, by omega⟩, gk14f5, gk15f5, gk16f5⟩
          · refine c_iload_n (j := 3) C dX11_measure_27 rfl ?_
            refine c_sipush (z := 255) C dX11_measure_28 (by decide) ?_
            refine c_icmp_le (tgt := 41) C ⟨by omega, by omega⟩ ⟨by decide, by decide⟩ dX11_measure_31 (by decide) (fun c6 => ?_) (fun c6 => ?_)
            · refine c_aload_n (j := 0) (x := a0) C dX11_measure_41 rfl ?_
              refine c_iload_n (j := 1) C dX11_measure_42 rfl ?_
              refine c_put (z := x) (k := 11) C ck_12 dX11_measure_43 w2_55 (by decide) rfl t_a0 rfl rfl (by decide) rfl (by rfl) (by rfl) (fun iv1 pq1 => ?_)
              refine hv2 (hW.puti pq1 t_a0 (show 1 ≤ x ∧ x ≤ 100 by omega) rfl) (hF0.puti hX0 pq1 t_a0 rfl) (fun W6 F6 => ?_)
              refine c_aload_n (j := 0) (x := a0) C dX11_measure_46 rfl ?_
              refine c_iload_n (j := 2) C dX11_measure_47 rfl ?_
              refine c_put (z := y) (k := 12) C ck_12 dX11_measure_48 w2_56 (by decide) rfl t_a0 rfl rfl (by decide) rfl (by rfl) (by rfl) (fun iv2 pq2 => ?_)
              refine hv2 (W6.puti pq2 t_a0 (show 1 ≤ y ∧ y ≤ 50 by omega) rfl) (F6.puti hX0 pq2 t_a0 rfl) (fun W7 F7 => ?_)
              refine c_aload_n (j := 0) (x := a0) C dX11_measure_51 rfl ?_
              refine c_iload_n (j := 3) C dX11_measure_52 rfl ?_
              refine c_put (z := h) (k := 13) C ck_12 dX11_measure_53 w2_57 (by decide) rfl t_a0 rfl rfl (by decide) rfl (by rfl) (by rfl) (fun iv3 pq3 => ?_)
              refine hv2 (W7.puti pq3 t_a0 (show (-2147483648) ≤ h ∧ h ≤ 2147483647 by omega) rfl) (F7.puti hX0 pq3 t_a0 rfl) (fun W8 F8 => ?_)
              refine c_aload_n (j := 0) (x := a0) C dX11_measure_56 rfl ?_
              refine c_iconst C dX11_measure_57 ?_
              refine d_callV (As := [.int (iI 1)]) (rest := []) C hM (C_done (a0 := a0) (x := 1) W8 hS t_a0 ⟨by decide, by decide⟩ ) dX11_measure_58 kV_X11_109 rfl t_a0 rfl rfl (by decide) ck_12 rfl (Nat.le_of_ble_eq_true rfl) ⟨(Nat.le_of_ble_eq_true rfl), (Nat.le_of_ble_eq_true rfl)⟩ hph hph (show 0 + 0 = 0 from rfl) (by decide) (fun rh6 Lh6 clh6 lnh6 ivh6 rvh6 h6 => ?_)
              obtain ⟨f6, rfl, rfl, rfl, rfl, rfl, fl6, W9, rgf6, exf6, kp11f6, kp12f6, kp13f6, kp14f6, kp15f6, kp16f6⟩ := h6
              refine hv22 (show 1 ≤ iv3 a0 11 ∧ iv3 a0 11 ≤ 100 from W8.int t_a0 11) (show iv3 a0 11 = iv2 a0 11 from by rw [pq3]; exact up2_j (by decide)) (show iv2 a0 11 = iv1 a0 11 from by rw [pq2]; exact up2_j (by decide)) (show iv1 a0 11 = x from by rw [pq1]; exact up2_s) (show 1 ≤ iv3 a0 12 ∧ iv3 a0 12 ≤ 50 from W8.int t_a0 12) (show iv3 a0 12 = iv2 a0 12 from by rw [pq3]; exact up2_j (by decide)) (show iv2 a0 12 = y from by rw [pq2]; exact up2_s) (show (-2147483648) ≤ iv3 a0 13 ∧ iv3 a0 13 ≤ 2147483647 from W8.int t_a0 13) (show iv3 a0 13 = h from by rw [pq3]; exact up2_s) (show (-2147483648) ≤ iv3 a0 14 ∧ iv3 a0 14 ≤ 2147483647 from W8.int t_a0 14) (show iv3 a0 14 = iv2 a0 14 from by rw [pq3]; exact up2_j (by decide)) (show iv2 a0 14 = iv1 a0 14 from by rw [pq2]; exact up2_j (by decide)) (show iv1 a0 14 = iv a0 14 from by rw [pq1]; exact up2_j (by decide)) (show (-2147483648) ≤ iv3 a0 15 ∧ iv3 a0 15 ≤ 2147483647 from W8.int t_a0 15) (show iv3 a0 15 = iv2 a0 15 from by rw [pq3]; exact up2_j (by decide)) (show iv2 a0 15 = iv1 a0 15 from by rw [pq2]; exact up2_j (by decide)) (show iv1 a0 15 = iv a0 15 from by rw [pq1]; exact up2_j (by decide)) (show (-2147483648) ≤ iv3 a0 16 ∧ iv3 a0 16 ≤ 2147483647 from W8.int t_a0 16) (show iv3 a0 16 = iv2 a0 16 from by rw [pq3]; exact up2_j (by decide)) (show iv2 a0 16 = iv1 a0 16 from by rw [pq2]; exact up2_j (by decide)) (show iv1 a0 16 = iv a0 16 from by rw [pq1]; exact up2_j (by decide)) (F8.call hX0 fl6 rfl) (fun ri61 ie31 ie32 ie33 ri62 ie34 ie35 ri63 ie36 ri64 ie37 ie38 ie39 ri65 ie40 ie41 ie42 ri66 ie43 ie44 ie45 F9 => ?_)
              refine c_st (st2 := [.int (iI f6)]) rfl ?_
              refine hv13 (show ivh6 a0 11 = iv3 a0 11 from kp11f6) (show ivh6 a0 12 = iv3 a0 12 from kp12f6) (show ivh6 a0 13 = iv3 a0 13 from kp13f6) (show ivh6 a0 14 = iv3 a0 14 from kp14f6) (show ivh6 a0 15 = iv3 a0 15 from kp15f6) (show ivh6 a0 16 = iv3 a0 16 from kp16f6) (show f6 = (1 : Int) from exf6) (show (-2147483648) ≤ ivh6 a0 14 ∧ ivh6 a0 14 ≤ 2147483647 from W9.int t_a0 14) (show (-2147483648) ≤ ivh6 a0 15 ∧ ivh6 a0 15 ≤ 2147483647 from W9.int t_a0 15) (show (-2147483648) ≤ ivh6 a0 16 ∧ ivh6 a0 16 ≤ 2147483647 from W9.int t_a0 16) (show 1 ≤ ivh6 a0 11 ∧ ivh6 a0 11 ≤ 100 from W9.int t_a0 11) (show 1 ≤ ivh6 a0 12 ∧ ivh6 a0 12 ≤ 50 from W9.int t_a0 12) (show (-2147483648) ≤ ivh6 a0 13 ∧ ivh6 a0 13 ≤ 2147483647 from W9.int t_a0 13) (fun gk11f6 gk12f6 gk13f6 gk14f6 gk15f6 gk16f6 gf6 ri67 ri68 ri69 ri70 ri71 ri72 => ?_)
              exact c_iret C dX11_measure_61 rfl (by decide) (rom0 hph hph (by decide)) ⟨f6, rfl, rfl, rfl, rfl, rfl, F9, W9, ⟨by omega, by omega⟩, ⟨by omega, by omega⟩, (gk14f6.trans (ie37.trans (ie38.trans ie39))), (gk15f6.trans (ie40.trans (ie41.trans ie42))), (gk16f6.trans (ie43.trans (ie44.trans ie45)))⟩
            · refine c_aload_n (j := 0) (x := a0) C dX11_measure_34 rfl ?_
              refine c_bipush (z := 6) C dX11_measure_35 (by decide) ?_
              refine d_callV (As := [.int (iI 6)]) (rest := []) C hM (C_refuse (a0 := a0) (x := 6) hW hS t_a0 ⟨by decide, by decide⟩ ) dX11_measure_37 kV_X11_102 rfl t_a0 rfl rfl (by decide) ck_12 rfl (Nat.le_of_ble_eq_true rfl) ⟨(Nat.le_of_ble_eq_true rfl), (Nat.le_of_ble_eq_true rfl)⟩ hph hph (show 0 + 0 = 0 from rfl) (by decide) (fun rh7 Lh7 clh7 lnh7 ivh7 rvh7 h7 => ?_)
              obtain ⟨f7, rfl, rfl, rfl, rfl, rfl, fl7, W10, rgf7, exf7, kp11f7, kp12f7, kp13f7, kp14f7, kp15f7, kp16f7⟩ := h7
              refine hv7 (show 1 ≤ iv a0 11 ∧ iv a0 11 ≤ 100 from hW.int t_a0 11) (show 1 ≤ iv a0 12 ∧ iv a0 12 ≤ 50 from hW.int t_a0 12) (show (-2147483648) ≤ iv a0 13 ∧ iv a0 13 ≤ 2147483647 from hW.int t_a0 13) (show (-2147483648) ≤ iv a0 14 ∧ iv a0 14 ≤ 2147483647 from hW.int t_a0 14) (show (-2147483648) ≤ iv a0 15 ∧ iv a0 15 ≤ 2147483647 from hW.int t_a0 15) (show (-2147483648) ≤ iv a0 16 ∧ iv a0 16 ≤ 2147483647 from hW.int t_a0 16) (hF0.call hX0 fl7 rfl) (fun ri73 ri74 ri75 ri76 ri77 ri78 F10 => ?_)
              refine c_st (st2 := [.int (iI f7)]) rfl ?_
              refine hv13 (show ivh7 a0 11 = iv a0 11 from kp11f7) (show ivh7 a0 12 = iv a0 12 from kp12f7) (show ivh7 a0 13 = iv a0 13 from kp13f7) (show ivh7 a0 14 = iv a0 14 from kp14f7) (show ivh7 a0 15 = iv a0 15 from kp15f7) (show ivh7 a0 16 = iv a0 16 from kp16f7) (show f7 = -1 from exf7) (show (-2147483648) ≤ ivh7 a0 14 ∧ ivh7 a0 14 ≤ 2147483647 from W10.int t_a0 14) (show (-2147483648) ≤ ivh7 a0 15 ∧ ivh7 a0 15 ≤ 2147483647 from W10.int t_a0 15) (show (-2147483648) ≤ ivh7 a0 16 ∧ ivh7 a0 16 ≤ 2147483647 from W10.int t_a0 16) (show 1 ≤ ivh7 a0 11 ∧ ivh7 a0 11 ≤ 100 from W10.int t_a0 11) (show 1 ≤ ivh7 a0 12 ∧ ivh7 a0 12 ≤ 50 from W10.int t_a0 12) (show (-2147483648) ≤ ivh7 a0 13 ∧ ivh7 a0 13 ≤ 2147483647 from W10.int t_a0 13) (fun gk11f7 gk12f7 gk13f7 gk14f7 gk15f7 gk16f7 gf7 ri79 ri80 ri81 ri82 ri83 ri84 => ?_)
              exact c_iret C dX11_measure_40 rfl (by decide) (rom0 hph hph (by decide)) ⟨f7, rfl, rfl, rfl, rfl, rfl, F10, W10, ⟨by omega, by omega⟩, ⟨by omega, by omega⟩, gk14f7, gk15f7, gk16f7⟩
set_option maxHeartbeats 4000000 in
set_option maxRecDepth 100000 in
theorem C_failed2 {l : Launch} {G : GT} {mi : Nat} {sk : Nat → Nat} {L : List Nat} {cl ln : Nat → Nat} {iv : Nat → Nat → Int} {rv : Nat → Nat → Option Nat}  {a0 : Nat} {i : Int} {x : Int} (hW : WT (g0 G) sk L cl ln iv rv) (hS : SKL sk L cl) (t_a0 : ty L cl a0 1) (h_i : -2147483648 ≤ i ∧ i ≤ 2147483647) (h_x : -2147483648 ≤ x ∧ x ≤ 2147483647)  : Mc l G mi (Phi (g0 G) sk) PHM yX11_failed cX11_failed 4 (some .int) 1 [.ref a0, .int (iI i), .int (iI x)] L cl ln iv rv 0 (fun v L2 cl2 ln2 iv2 rv2 => ∃ f : Int, v = some (.int (iI f)) ∧ L = L2 ∧ cl = cl2 ∧ ln = ln2 ∧ rv = rv2 ∧ fT [1] L cl iv rv iv2 rv2 ∧ WT (g0 G) sk L2 cl2 ln2 iv2 rv2 ∧ (-2147483648 ≤ f ∧ f ≤ 2147483647) ∧ (((i < 0 ∨ 7 < i) ∧ f = -1 ∧ iv2 a0 14 = iv a0 14) ∨ (0 ≤ i ∧ i ≤ 7 ∧ iI (iv2 a0 14) = fdv (iI (iv a0 14)) i x ∧ iI f = bcn (iI (iv2 a0 14)))) ∧ iv2 a0 11 = iv a0 11 ∧ iv2 a0 12 = iv a0 12 ∧ iv2 a0 13 = iv a0 13 ∧ iv2 a0 15 = iv a0 15 ∧ iv2 a0 16 = iv a0 16) := by
  refine Mc.mk (by decide) (Nat.le_of_ble_eq_true rfl) ?_
  intro p e s m args below meth c A C hM
  refine hv3 (Phi.le hW hS) (show XT L cl ln L cl ln from XT.refl) (show fT [1] L cl iv rv iv rv from fT.refl) (fun hph hX0 hF0 => ?_)
  refine c_iload_n (j := 1) C dX11_failed_0 rfl ?_
  refine c_if_lt (tgt := 10) C ⟨by omega, by omega⟩ dX11_failed_1 (by decide) (fun c1 => ?_) (fun c1 => ?_)
  · refine c_aload_n (j := 0) (x := a0) C dX11_failed_10 rfl ?_
    refine c_bipush (z := 6) C dX11_failed_11 (by decide) ?_
    refine d_callV (As := [.int (iI 6)]) (rest := []) C hM (C_refuse (a0 := a0) (x := 6) hW hS t_a0 ⟨by decide, by decide⟩ ) dX11_failed_13 kV_X11_102 rfl t_a0 rfl rfl (by decide) ck_12 rfl (Nat.le_of_ble_eq_true rfl) ⟨(Nat.le_of_ble_eq_true rfl), (Nat.le_of_ble_eq_true rfl)⟩ hph hph (show 0 + 0 = 0 from rfl) (by decide) (fun rh1 Lh1 clh1 lnh1 ivh1 rvh1 h1 => ?_)
    obtain ⟨f1, rfl, rfl, rfl, rfl, rfl, fl1, W1, rgf1, exf1, kp11f1, kp12f1, kp13f1, kp14f1, kp15f1, kp16f1⟩ := h1
    refine hv7 (show 1 ≤ iv a0 11 ∧ iv a0 11 ≤ 100 from hW.int t_a0 11) (show 1 ≤ iv a0 12 ∧ iv a0 12 ≤ 50 from hW.int t_a0 12) (show (-2147483648) ≤ iv a0 13 ∧ iv a0 13 ≤ 2147483647 from hW.int t_a0 13) (show (-2147483648) ≤ iv a0 14 ∧ iv a0 14 ≤ 2147483647 from hW.int t_a0 14) (show (-2147483648) ≤ iv a0 15 ∧ iv a0 15 ≤ 2147483647 from hW.int t_a0 15) (show (-2147483648) ≤ iv a0 16 ∧ iv a0 16 ≤ 2147483647 from hW.int t_a0 16) (hF0.call hX0 fl1 rfl) (fun ri1 ri2 ri3 ri4 ri5 ri6 F1 => ?_)
    refine c_st (st2 := [.int (iI f1)]) rfl ?_
    refine hv13 (show ivh1 a0 11 = iv a0 11 from kp11f1) (show ivh1 a0 12 = iv a0 12 from kp12f1) (show ivh1 a0 13 = iv a0 13 from kp13f1) (show ivh1 a0 14 = iv a0 14 from kp14f1) (show ivh1 a0 15 = iv a0 15 from kp15f1) (show ivh1 a0 16 = iv a0 16 from kp16f1) (show f1 = -1 from exf1) (show 1 ≤ ivh1 a0 11 ∧ ivh1 a0 11 ≤ 100 from W1.int t_a0 11) (show 1 ≤ ivh1 a0 12 ∧ ivh1 a0 12 ≤ 50 from W1.int t_a0 12) (show (-2147483648) ≤ ivh1 a0 13 ∧ ivh1 a0 13 ≤ 2147483647 from W1.int t_a0 13) (show (-2147483648) ≤ ivh1 a0 15 ∧ ivh1 a0 15 ≤ 2147483647 from W1.int t_a0 15) (show (-2147483648) ≤ ivh1 a0 16 ∧ ivh1 a0 16 ≤ 2147483647 from W1.int t_a0 16) (show (-2147483648) ≤ ivh1 a0 14 ∧ ivh1 a0 14 ≤ 2147483647 from W1.int t_a0 14) (fun gk11f1 gk12f1 gk13f1 gk14f1 gk15f1 gk16f1 gf1 ri7 ri8 ri9 ri10 ri11 ri12 => ?_)
    exact c_iret C dX11_failed_16 rfl (by decide) (rom0 hph hph (by decide)) ⟨f1, rfl, rfl, rfl, rfl, rfl, F1, W1, ⟨by omega, by omega⟩, (Or.inl ⟨by omega, by omega, by omega⟩), gk11f1, gk12f1, gk13f1, gk15f1, gk16f1⟩
  · refine c_iload_n (j := 1) C dX11_failed_4 rfl ?_
    refine c_bipush (z := 7) C dX11_failed_5 (by decide) ?_
    refine c_icmp_le (tgt := 17) C ⟨by omega, by omega⟩ ⟨by decide, by decide⟩ dX11_failed_7 (by decide) (fun c2 => ?_) (fun c2 => ?_)
    · refine c_iconst C dX11_failed_17 ?_
      refine c_iload_n (j := 1) C dX11_failed_18 rfl ?_
      obtain ⟨zz1, hzz1, ezz1⟩ := iI_of (iI 1 <<< (iI i &&& 31))
      refine c_ishl (w := iI zz1) C dX11_failed_19 ezz1 ?_
      refine c_istore_n (lv2 := [(3, .int (iI zz1)), (0, .ref a0), (1, .int (iI i)), (2, .int (iI x))]) C dX11_failed_20 (by decide) rfl ?_
      refine c_aload_n (j := 1) (x := a0) C dX11_failed_21 rfl ?_
      refine c_iload_n (j := 3) C dX11_failed_22 rfl ?_
      refine c_if_eq (tgt := 35) C ⟨by omega, by omega⟩ dX11_failed_23 (by decide) (fun c3 => ?_) (fun c3 => ?_)
      · refine c_aload_n (j := 1) (x := a0) C dX11_failed_35 rfl ?_
        have ri13 : (-2147483648) ≤ iv a0 14 ∧ iv a0 14 ≤ 2147483647 := hW.int t_a0 14
        refine c_get (k := 14) C ck_12 dX11_failed_36 w2_58 (by decide) t_a0 rfl rfl (by decide) rfl ?_
        refine c_iload_n (j := 0) C dX11_failed_39 rfl ?_
        refine c_iconst C dX11_failed_40 ?_
        obtain ⟨zz2, hzz2, ezz2⟩ := iI_of (iI zz1 ^^^ iI (-1))
        refine c_ixor (w := iI zz2) C dX11_failed_41 ezz2 ?_
        obtain ⟨zz3, hzz3, ezz3⟩ := iI_of (iI (iv a0 14) &&& iI zz2)
        refine c_iand (w := iI zz3) C dX11_failed_42 ezz3 ?_
        refine c_put (z := zz3) (k := 14) C ck_12 dX11_failed_43 w2_58 (by decide) rfl t_a0 rfl rfl (by decide) rfl (by rfl) (by rfl) (fun iv1 pq1 => ?_)
        refine hv2 (hW.puti pq1 t_a0 (show (-2147483648) ≤ zz3 ∧ zz3 ≤ 2147483647 by omega) rfl) (hF0.puti hX0 pq1 t_a0 rfl) (fun W2 F2 => ?_)
        refine c_aload_n (j := 1) (x := a0) C dX11_failed_46 rfl ?_
        refine c_aload_n (j := 1) (x := a0) C dX11_failed_47 rfl ?_
        refine hv2 (show (-2147483648) ≤ iv1 a0 14 ∧ iv1 a0 14 ≤ 2147483647 from W2.int t_a0 14) (show iv1 a0 14 = zz3 from by rw [pq1]; exact up2_s) (fun ri14 ie7 => ?_)
        refine c_get (k := 14) C ck_12 dX11_failed_48 w2_58 (by decide) t_a0 rfl rfl (by decide) rfl ?_
        refine c_callS0 (As := [.int (iI (iv1 a0 14))]) (rest := [.ref a0]) C (fun L E => s_bitCount (iI (iv1 a0 14))) dX11_failed_51 kS_X11_351 rfl rfl (Nat.le_of_ble_eq_true rfl) ⟨(Nat.le_of_ble_eq_true rfl), (Nat.le_of_ble_eq_true rfl)⟩ (rom0 hph hph (by decide)) ?_
        obtain ⟨zz4, hzz4, ezz4⟩ := iI_of (bcn (iI (iv1 a0 14)))
        refine c_st (st2 := [.int (iI zz4), .ref a0]) (by rw [ezz4]) ?_
        refine d_callV (As := [.int (iI zz4)]) (rest := []) C hM (C_done (a0 := a0) (x := zz4) W2 hS t_a0 (by omega) ) dX11_failed_54 kV_X11_109 rfl t_a0 rfl rfl (by decide) ck_12 rfl (Nat.le_of_ble_eq_true rfl) ⟨(Nat.le_of_ble_eq_true rfl), (Nat.le_of_ble_eq_true rfl)⟩ hph hph (show 0 + 0 = 0 from rfl) (by decide) (fun rh2 Lh2 clh2 lnh2 ivh2 rvh2 h2 => ?_)
        obtain ⟨f2, rfl, rfl, rfl, rfl, rfl, fl2, W3, rgf2, exf2, kp11f2, kp12f2, kp13f2, kp14f2, kp15f2, kp16f2⟩ := h2
        refine hv11 (show 1 ≤ iv1 a0 11 ∧ iv1 a0 11 ≤ 100 from W2.int t_a0 11) (show iv1 a0 11 = iv a0 11 from by rw [pq1]; exact up2_j (by decide)) (show 1 ≤ iv1 a0 12 ∧ iv1 a0 12 ≤ 50 from W2.int t_a0 12) (show iv1 a0 12 = iv a0 12 from by rw [pq1]; exact up2_j (by decide)) (show (-2147483648) ≤ iv1 a0 13 ∧ iv1 a0 13 ≤ 2147483647 from W2.int t_a0 13) (show iv1 a0 13 = iv a0 13 from by rw [pq1]; exact up2_j (by decide)) (show (-2147483648) ≤ iv1 a0 15 ∧ iv1 a0 15 ≤ 2147483647 from W2.int t_a0 15) (show iv1 a0 15 = iv a0 15 from by rw [pq1]; exact up2_j (by decide)) (show (-2147483648) ≤ iv1 a0 16 ∧ iv1 a0 16 ≤ 2147483647 from W2.int t_a0 16) (show iv1 a0 16 = iv a0 16 from by rw [pq1]; exact up2_j (by decide)) (F2.call hX0 fl2 rfl) (fun ri15 ie8 ri16 ie9 ri17 ie10 ri18 ie11 ri19 ie12 F3 => ?_)
        refine c_st (st2 := [.int (iI f2)]) rfl ?_
        refine hv13 (show ivh2 a0 11 = iv1 a0 11 from kp11f2) (show ivh2 a0 12 = iv1 a0 12 from kp12f2) (show ivh2 a0 13 = iv1 a0 13 from kp13f2) (show ivh2 a0 14 = iv1 a0 14 from kp14f2) (show ivh2 a0 15 = iv1 a0 15 from kp15f2) (show ivh2 a0 16 = iv1 a0 16 from kp16f2) (show f2 = zz4 from exf2) (show 1 ≤ ivh2 a0 11 ∧ ivh2 a0 11 ≤ 100 from W3.int t_a0 11) (show 1 ≤ ivh2 a0 12 ∧ ivh2 a0 12 ≤ 50 from W3.int t_a0 12) (show (-2147483648) ≤ ivh2 a0 13 ∧ ivh2 a0 13 ≤ 2147483647 from W3.int t_a0 13) (show (-2147483648) ≤ ivh2 a0 15 ∧ ivh2 a0 15 ≤ 2147483647 from W3.int t_a0 15) (show (-2147483648) ≤ ivh2 a0 16 ∧ ivh2 a0 16 ≤ 2147483647 from W3.int t_a0 16) (show (-2147483648) ≤ ivh2 a0 14 ∧ ivh2 a0 14 ≤ 2147483647 from W3.int t_a0 14) (fun gk11f2 gk12f2 gk13f2 gk14f2 gk15f2 gk16f2 gf2 ri20 ri21 ri22 ri23 ri24 ri25 => ?_)
        exact c_iret C dX11_failed_57 rfl (by decide) (rom0 hph hph (by decide)) ⟨f2, rfl, rfl, rfl, rfl, rfl, F3, W3, ⟨by omega, by omega⟩, (Or.inr ⟨by omega, by omega, by rw [show ivh2 a0 14 = zz3 by omega]; unfold fdv; rw [if_pos (show x = 0 by omega), ← ezz3, ← ezz2, ← ezz1], by rw [show f2 = zz4 by omega, ← ezz4]; exact congrArg (fun q => bcn (iI q)) (by omega)⟩), (gk11f2.trans ie8), (gk12f2.trans ie9), (gk13f2.trans ie10), (gk15f2.trans ie11), (gk16f2.trans ie12)⟩
      · refine c_aload_n (j := 1) (x := a0) C dX11_failed_26 rfl ?_
        have ri26 : (-2147483648) ≤ iv a0 14 ∧ iv a0 14 ≤ 2147483647 := hW.int t_a0 14
        refine c_get (k := 14) C ck_12 dX11_failed_27 w2_58 (by decide) t_a0 rfl rfl (by decide) rfl ?_
        refine c_iload_n (j := 0) C dX11_failed_30 rfl ?_
        obtain ⟨zz5, hzz5, ezz5⟩ := iI_of (iI (iv a0 14) ||| iI zz1)
        refine c_ior (w := iI zz5) C dX11_failed_31 ezz5 ?_
        refine c_goto (tgt := 43) C dX11_failed_32 (by decide) ?_
        refine c_put (z := zz5) (k := 14) C ck_12 dX11_failed_43 w2_58 (by decide) rfl t_a0 rfl rfl (by decide) rfl (by rfl) (by rfl) (fun iv2 pq2 => ?_)
        refine hv2 (hW.puti pq2 t_a0 (show (-2147483648) ≤ zz5 ∧ zz5 ≤ 2147483647 by omega) rfl) (hF0.puti hX0 pq2 t_a0 rfl) (fun W4 F4 => ?_)
        refine c_aload_n (j := 1) (x := a0) C dX11_failed_46 rfl ?_
        refine c_aload_n (j := 1) (x := a0) C dX11_failed_47 rfl ?_
        refine hv2 (show (-2147483648) ≤ iv2 a0 14 ∧ iv2 a0 14 ≤ 2147483647 from W4.int t_a0 14) (show iv2 a0 14 = zz5 from by rw [pq2]; exact up2_s) (fun ri27 ie19 => ?_)
        refine c_get (k := 14) C ck_12 dX11_failed_48 w2_58 (by decide) t_a0 rfl rfl (by decide) rfl ?_
        refine c_callS0 (As := [.int (iI (iv2 a0 14))]) (rest := [.ref a0]) C (fun L E => s_bitCount (iI (iv2 a0 14))) dX11_failed_51 kS_X11_351 rfl rfl (Nat.le_of_ble_eq_true rfl) ⟨(Nat.le_of_ble_eq_true rfl), (Nat.le_of_ble_eq_true rfl)⟩ (rom0 hph hph (by decide)) ?_
        obtain ⟨zz6, hzz6, ezz6⟩ := iI_of (bcn (iI (iv2 a0 14)))
        refine c_st (st2 := [.int (iI zz6), .ref a0]) (by rw [ezz6]) ?_
        refine d_callV (As := [.int (iI zz6)]) (rest := []) C hM (C_done (a0 := a0) (x := zz6) W4 hS t_a0 (by omega) ) dX11_failed_54 kV_X11_109 rfl t_a0 rfl rfl (by decide) ck_12 rfl (Nat.le_of_ble_eq_true rfl) ⟨(Nat.le_of_ble_eq_true rfl), (Nat.le_of_ble_eq_true rfl)⟩ hph hph (show 0 + 0 = 0 from rfl) (by decide) (fun rh3 Lh3 clh3 lnh3 ivh3 rvh3 h3 => ?_)
        obtain ⟨f3, rfl, rfl, rfl, rfl, rfl, fl3, W5, rgf3, exf3, kp11f3, kp12f3, kp13f3, kp14f3, kp15f3, kp16f3⟩ := h3
        refine hv11 (show 1 ≤ iv2 a0 11 ∧ iv2 a0 11 ≤ 100 from W4.int t_a0 11) (show iv2 a0 11 = iv a0 11 from by rw [pq2]; exact up2_j (by decide)) (show 1 ≤ iv2 a0 12 ∧ iv2 a0 12 ≤ 50 from W4.int t_a0 12) (show iv2 a0 12 = iv a0 12 from by rw [pq2]; exact up2_j (by decide)) (show (-2147483648) ≤ iv2 a0 13 ∧ iv2 a0 13 ≤ 2147483647 from W4.int t_a0 13) (show iv2 a0 13 = iv a0 13 from by rw [pq2]; exact up2_j (by decide)) (show (-2147483648) ≤ iv2 a0 15 ∧ iv2 a0 15 ≤ 2147483647 from W4.int t_a0 15) (show iv2 a0 15 = iv a0 15 from by rw [pq2]; exact up2_j (by decide)) (show (-2147483648) ≤ iv2 a0 16 ∧ iv2 a0 16 ≤ 2147483647 from W4.int t_a0 16) (show iv2 a0 16 = iv a0 16 from by rw [pq2]; exact up2_j (by decide)) (F4.call hX0 fl3 rfl) (fun ri28 ie20 ri29 ie21 ri30 ie22 ri31 ie23 ri32 ie24 F5 => ?_)
        refine c_st (st2 := [.int (iI f3)]) rfl ?_
        refine hv13 (show ivh3 a0 11 = iv2 a0 11 from kp11f3) (show ivh3 a0 12 = iv2 a0 12 from kp12f3) (show ivh3 a0 13 = iv2 a0 13 from kp13f3) (show ivh3 a0 14 = iv2 a0 14 from kp14f3) (show ivh3 a0 15 = iv2 a0 15 from kp15f3) (show ivh3 a0 16 = iv2 a0 16 from kp16f3) (show f3 = zz6 from exf3) (show 1 ≤ ivh3 a0 11 ∧ ivh3 a0 11 ≤ 100 from W5.int t_a0 11) (show 1 ≤ ivh3 a0 12 ∧ ivh3 a0 12 ≤ 50 from W5.int t_a0 12) (show (-2147483648) ≤ ivh3 a0 13 ∧ ivh3 a0 13 ≤ 2147483647 from W5.int t_a0 13) (show (-2147483648) ≤ ivh3 a0 15 ∧ ivh3 a0 15 ≤ 2147483647 from W5.int t_a0 15) (show (-2147483648) ≤ ivh3 a0 16 ∧ ivh3 a0 16 ≤ 2147483647 from W5.int t_a0 16) (show (-2147483648) ≤ ivh3 a0 14 ∧ ivh3 a0 14 ≤ 2147483647 from W5.int t_a0 14) (fun gk11f3 gk12f3 gk13f3 gk14f3 gk15f3 gk16f3 gf3 ri33 ri34 ri35 ri36 ri37 ri38 => ?_)
        exact c_iret C dX11_failed_57 rfl (by decide) (rom0 hph hph (by decide)) ⟨f3, rfl, rfl, rfl, rfl, rfl, F5, W5, ⟨by omega, by omega⟩, (Or.inr ⟨by omega, by omega, by rw [show ivh3 a0 14 = zz5 by omega]; unfold fdv; rw [if_neg (show ¬ x = 0 by omega), ← ezz5, ← ezz1], by rw [show f3 = zz6 by omega, ← ezz6]; exact congrArg (fun q => bcn (iI q)) (by omega)⟩), (gk11f3.trans ie20), (gk12f3.trans ie21), (gk13f3.trans ie22), (gk15f3.trans ie23), (gk16f3.trans ie24)⟩
    · refine c_aload_n (j := 0) (x := a0) C dX11_failed_10 rfl ?_
      refine c_bipush (z := 6) C dX11_failed_11 (by decide) ?_
      refine d_callV (As := [.int (iI 6)]) (rest := []) C hM (C_refuse (a0 := a0) (x := 6) hW hS t_a0 ⟨by decide, by decide⟩ ) dX11_failed_13 kV_X11_102 rfl t_a0 rfl rfl (by decide) ck_12 rfl (Nat.le_of_ble_eq_true rfl) ⟨(Nat.le_of_ble_eq_true rfl), (Nat.le_of_ble_eq_true rfl)⟩ hph hph (show 0 + 0 = 0 from rfl) (by decide) (fun rh4 Lh4 clh4 lnh4 ivh4 rvh4 h4 => ?_)
      obtain ⟨f4, rfl, rfl, rfl, rfl, rfl, fl4, W6, rgf4, exf4, kp11f4, kp12f4, kp13f4, kp14f4, kp15f4, kp16f4⟩ := h4
      refine hv7 (show 1 ≤ iv a0 11 ∧ iv a0 11 ≤ 100 from hW.int t_a0 11) (show 1 ≤ iv a0 12 ∧ iv a0 12 ≤ 50 from hW.int t_a0 12) (show (-2147483648) ≤ iv a0 13 ∧ iv a0 13 ≤ 2147483647 from hW.int t_a0 13) (show (-2147483648) ≤ iv a0 14 ∧ iv a0 14 ≤ 2147483647 from hW.int t_a0 14) (show (-2147483648) ≤ iv a0 15 ∧ iv a0 15 ≤ 2147483647 from hW.int t_a0 15) (show (-2147483648) ≤ iv a0 16 ∧ iv a0 16 ≤ 2147483647 from hW.int t_a0 16) (hF0.call hX0 fl4 rfl) (fun ri39 ri40 ri41 ri42 ri43 ri44 F6 => ?_)
      refine c_st (st2 := [.int (iI f4)]) rfl ?_
      refine hv13 (show ivh4 a0 11 = iv a0 11 from kp11f4) (show ivh4 a0 12 = iv a0 12 from kp12f4) (show ivh4 a0 13 = iv a0 13 from kp13f4) (show ivh4 a0 14 = iv a0 14 from kp14f4) (show ivh4 a0 15 = iv a0 15 from kp15f4) (show ivh4 a0 16 = iv a0 16 from kp16f4) (show f4 = -1 from exf4) (show 1 ≤ ivh4 a0 11 ∧ ivh4 a0 11 ≤ 100 from W6.int t_a0 11) (show 1 ≤ ivh4 a0 12 ∧ ivh4 a0 12 ≤ 50 from W6.int t_a0 12) (show (-2147483648) ≤ ivh4 a0 13 ∧ ivh4 a0 13 ≤ 2147483647 from W6.int t_a0 13) (show (-2147483648) ≤ ivh4 a0 15 ∧ ivh4 a0 15 ≤ 2147483647 from W6.int t_a0 15) (show (-2147483648) ≤ ivh4 a0 16 ∧ ivh4 a0 16 ≤ 2147483647 from W6.int t_a0 16) (show (-2147483648) ≤ ivh4 a0 14 ∧ ivh4 a0 14 ≤ 2147483647 from W6.int t_a0 14) (fun gk11f4 gk12f4 gk13f4 gk14f4 gk15f4 gk16f4 gf4 ri45 ri46 ri47 ri48 ri49 ri50 => ?_)
      exact c_iret C dX11_failed_16 rfl (by decide) (rom0 hph hph (by decide)) ⟨f4, rfl, rfl, rfl, rfl, rfl, F6, W6, ⟨by omega, by omega⟩, (Or.inl ⟨by omega, by omega, by omega⟩), gk11f4, gk12f4, gk13f4, gk15f4, gk16f4⟩
def PRS (G : GT) (h0 n : Nat) (L : List Nat) (cl ln : Nat → Nat) (iv : Nat → Nat → Int) (rv : Nat → Nat → Option Nat) (sk : Nat → Nat) : Prop := WT (g0 G) sk L cl ln iv rv ∧ SKL sk L cl ∧ MRK sk cl iv rv ∧ iv (sk 23) 2 ≤ n ∧ ty L cl h0 1
def POSTN (G : GT) (sk : Nat → Nat) (L : List Nat) (cl ln : Nat → Nat) (iv : Nat → Nat → Int) (rv : Nat → Nat → Option Nat) (EX : (Nat → Nat) → List Nat → (Nat → Nat) → (Nat → Nat) → (Nat → Nat → Int) → (Nat → Nat → Option Nat) → List Nat → (Nat → Nat) → (Nat → Nat) → (Nat → Nat → Int) → (Nat → Nat → Option Nat) → Int → Prop) : PC := fun r L2 cl2 ln2 iv2 rv2 => ∃ f : Int, r = some (.int (iI f)) ∧ (-2147483648 ≤ f ∧ f ≤ 2147483647) ∧ XT L cl ln L2 cl2 ln2 ∧ WT (g0 G) sk L2 cl2 ln2 iv2 rv2 ∧ MRK sk cl2 iv2 rv2 ∧ iv2 (sk 23) 2 ≤ iv (sk 23) 2 + 1 ∧ EX sk L cl ln iv rv L2 cl2 ln2 iv2 rv2 f
def PressOp (l : Launch) (G : GT) (mi : Nat) (y2 : MethodName) (cc2 : ByteArray) (n2 : Nat) (ret2 : Option FieldType) (d2 : Nat) (As : List Value) (h0 : Nat) (EX : (Nat → Nat) → List Nat → (Nat → Nat) → (Nat → Nat) → (Nat → Nat → Int) → (Nat → Nat → Option Nat) → List Nat → (Nat → Nat) → (Nat → Nat) → (Nat → Nat → Int) → (Nat → Nat → Option Nat) → Int → Prop) : Prop := ∀ (n : Nat) (L : List Nat) (cl ln : Nat → Nat) (iv : Nat → Nat → Int) (rv : Nat → Nat → Option Nat) (sk : Nat → Nat), n ≤ 511 → PRS G h0 n L cl ln iv rv sk → ∃ (c0 : Nat) (P2 : PC), c0 ≤ 2330 ∧ Mc l G mi (Phi (g0 G) sk) PHM y2 cc2 n2 ret2 d2 (.ref h0 :: As) L cl ln iv rv c0 P2 ∧ ∀ v L2 cl2 ln2 iv2 rv2, P2 v L2 cl2 ln2 iv2 rv2 → POSTN G sk L cl ln iv rv EX v L2 cl2 ln2 iv2 rv2
theorem PO_feed {l : Launch} {G : GT} {mi h0 : Nat} {x1 : Int} {x2 : Int} {x3 : Int} {x4 : Int} {x5 : Int} (h_x1 : -2147483648 ≤ x1 ∧ x1 ≤ 2147483647) (h_x2 : -2147483648 ≤ x2 ∧ x2 ≤ 2147483647) (h_x3 : -2147483648 ≤ x3 ∧ x3 ≤ 2147483647) (h_x4 : -2147483648 ≤ x4 ∧ x4 ≤ 2147483647) (h_x5 : -2147483648 ≤ x5 ∧ x5 ≤ 2147483647) : PressOp l G mi yX11_feed cX11_feed 6 (some .int) 4 [.int (iI x1), .int (iI x2), .int (iI x3), .int (iI x4), .int (iI x5)] h0 (fun sk L cl ln iv rv L2 cl2 ln2 iv2 rv2 f => (True ∧ (KSQ h0 iv rv iv2 rv2 ∧ KSC h0 iv rv iv2 rv2 ∧ iv2 h0 15 = iv h0 15 ∧ iv2 h0 16 = iv h0 16 ∧ (iv2 (sk 5) 2 = iv (sk 5) 2 ∧ ∀ ss, CT iv rv (sk 5) ss → CT iv2 rv2 (sk 5) ss) ∧ (iv2 (sk 4) 2 = iv (sk 4) 2 ∧ ∀ ss, CT iv rv (sk 4) ss → CT iv2 rv2 (sk 4) ss) ∧ FKP sk iv rv iv2 rv2)) ∧ (iv2 h0 14 = iv h0 14 ∧ iv2 h0 11 = iv h0 11 ∧ iv2 h0 12 = iv h0 12 ∧ iv2 h0 13 = iv h0 13) ∧ (((f = -1 ∧ 3000 < iv (sk 2) 2 + 20 ∧ iv2 (sk 2) 2 = iv (sk 2) 2) ∨ (f = iv2 (sk 2) 2 ∧ iv2 (sk 2) 2 = iv (sk 2) 2 + 20 ∧ iv (sk 2) 2 ≤ 2980)) ∧ ∀ ss, CT iv rv (sk 2) ss → (iv (sk 2) 2 ≤ 2980 → CT iv2 rv2 (sk 2) (fd5 ss (iv (sk 2) 2).toNat x1 x2 x3 x4 x5)) ∧ (2980 < iv (sk 2) 2 → CT iv2 rv2 (sk 2) ss)) ∧ (iv2 (sk 3) 2 = iv (sk 3) 2 ∧ (∀ tt, CT iv rv (sk 3) tt → CT iv2 rv2 (sk 3) tt)) ∧ PSAME sk iv rv iv2 rv2 ∧ (∃ g, WT g sk L cl ln iv rv ∧ WT g sk L2 cl2 ln2 iv2 rv2) ∧ SKL sk L cl ∧ XT L cl ln L2 cl2 ln2 ∧ (KP L cl (fun _ => False) (fun _ => False) (fun _ => False) (fun _ => False) (fun _ _ => False) iv rv iv2 rv2)) := by
  intro n L cl ln iv rv sk hn hp
  obtain ⟨hW, hS, hm, h23, ht⟩ := hp
  refine hv3 (show ty L cl (sk 23) 23 from ⟨(hS 23 rfl).1, by rw [(hS 23 rfl).2]; rfl⟩) (show ty L cl (sk 2) 2 from ⟨(hS 2 rfl).1, by rw [(hS 2 rfl).2]; rfl⟩) (show ty L cl (sk 3) 3 from ⟨(hS 3 rfl).1, by rw [(hS 3 rfl).2]; rfl⟩) (fun t23 t2 t3 => ?_)
  refine ⟨0, _, by decide, C_feed hW hS ht h_x1 h_x2 h_x3 h_x4 h_x5 , fun v L2 cl2 ln2 iv2 rv2 h => ?_⟩
  obtain ⟨f, rfl, hX, hF, hW2, rg, ex, kp11, kp12, kp13, kp14, kp15, kp16, kr9, kr10⟩ := h
  exact ⟨f, rfl, by omega, hX, hW2, (MRK.call hm hW hS hX hF rfl rfl), (by have q := hF.i t23 rfl 2; omega), ⟨⟨trivial, ⟨(KSQ.fr hW ht hF kr9 kr10 rfl rfl rfl), (KSC.fr hW ht hF kr9 kr10 rfl rfl rfl rfl), kp15, kp16, ⟨hF.i (tysq (t := 5) hS rfl rfl) rfl 2, fun ss hs => CT.fr hs hW (tysq (t := 5) hS rfl rfl) hF rfl rfl rfl rfl rfl⟩, ⟨hF.i (tysq (t := 4) hS rfl rfl) rfl 2, fun ss hs => CT.fr hs hW (tysq (t := 4) hS rfl rfl) hF rfl rfl rfl rfl rfl⟩, (FKP.fr hW hS hF rfl rfl rfl rfl)⟩⟩, ⟨kp14, kp11, kp12, kp13⟩, ⟨by have q : iv2 (sk 2) 2 ≤ 3000 := (hW2.int (hX.ty t2) 2).2; have w := ex.1; omega, ex.2⟩, ⟨hF.i t3 rfl 2, fun tt ht => CT.fr ht hW t3 hF rfl rfl rfl rfl rfl⟩, (PSAME.fr hW hS hF rfl rfl rfl rfl rfl rfl rfl), ⟨⟨_, hW, hW2⟩, hS, hX, (KP.fr hW hF rfl)⟩⟩⟩
theorem PO_end {l : Launch} {G : GT} {mi h0 : Nat} {n : Int} (h_n : -2147483648 ≤ n ∧ n ≤ 2147483647) : PressOp l G mi yX11_end cX11_end 2 (some .int) 2 [.int (iI n)] h0 (fun sk L cl ln iv rv L2 cl2 ln2 iv2 rv2 f => (True ∧ (KSQ h0 iv rv iv2 rv2 ∧ KSC h0 iv rv iv2 rv2 ∧ iv2 h0 15 = iv h0 15 ∧ iv2 h0 16 = iv h0 16 ∧ (iv2 (sk 5) 2 = iv (sk 5) 2 ∧ ∀ ss, CT iv rv (sk 5) ss → CT iv2 rv2 (sk 5) ss) ∧ (iv2 (sk 4) 2 = iv (sk 4) 2 ∧ ∀ ss, CT iv rv (sk 4) ss → CT iv2 rv2 (sk 4) ss) ∧ FKP sk iv rv iv2 rv2)) ∧ (iv2 h0 14 = iv h0 14 ∧ iv2 h0 11 = iv h0 11 ∧ iv2 h0 12 = iv h0 12 ∧ iv2 h0 13 = iv h0 13) ∧ (((f = -1 ∧ iv2 (sk 2) 2 = iv (sk 2) 2 ∧ (n < 0 ∨ iv (sk 2) 2 < n)) ∨ (f = n ∧ iv2 (sk 2) 2 = n ∧ 0 ≤ n ∧ n ≤ iv (sk 2) 2)) ∧ (∀ ss, CT iv rv (sk 2) ss → CT iv2 rv2 (sk 2) ss)) ∧ (iv2 (sk 3) 2 = iv (sk 3) 2 ∧ (∀ tt, CT iv rv (sk 3) tt → CT iv2 rv2 (sk 3) tt)) ∧ PSAME sk iv rv iv2 rv2 ∧ (∃ g, WT g sk L cl ln iv rv ∧ WT g sk L2 cl2 ln2 iv2 rv2) ∧ SKL sk L cl ∧ XT L cl ln L2 cl2 ln2 ∧ (KP L cl (fun _ => False) (fun _ => False) (fun _ => False) (fun _ => False) (fun _ _ => False) iv rv iv2 rv2)) := by
  intro n L cl ln iv rv sk hn hp
  obtain ⟨hW, hS, hm, h23, ht⟩ := hp
  refine hv3 (show ty L cl (sk 23) 23 from ⟨(hS 23 rfl).1, by rw [(hS 23 rfl).2]; rfl⟩) (show ty L cl (sk 2) 2 from ⟨(hS 2 rfl).1, by rw [(hS 2 rfl).2]; rfl⟩) (show ty L cl (sk 3) 3 from ⟨(hS 3 rfl).1, by rw [(hS 3 rfl).2]; rfl⟩) (fun t23 t2 t3 => ?_)
  refine ⟨0, _, by decide, C_end hW hS ht h_n , fun v L2 cl2 ln2 iv2 rv2 h => ?_⟩
  obtain ⟨f, rfl, rfl, rfl, rfl, rfl, hF, hW2, rg, ex, kp11, kp12, kp13, kp14, kp15, kp16⟩ := h
  exact ⟨f, rfl, by omega, XT.refl, hW2, (MRK.call hm hW hS XT.refl hF rfl rfl), (by have q := hF.i t23 rfl 2; omega), ⟨⟨trivial, ⟨(KSQ.ni hW ht hF rfl), (KSC.fr hW ht hF rfl rfl rfl rfl rfl rfl), kp15, kp16, ⟨hF.i (tysq (t := 5) hS rfl rfl) rfl 2, fun ss hs => CT.fr hs hW (tysq (t := 5) hS rfl rfl) hF rfl rfl rfl rfl rfl⟩, ⟨hF.i (tysq (t := 4) hS rfl rfl) rfl 2, fun ss hs => CT.fr hs hW (tysq (t := 4) hS rfl rfl) hF rfl rfl rfl rfl rfl⟩, (FKP.fr hW hS hF rfl rfl rfl rfl)⟩⟩, ⟨kp14, kp11, kp12, kp13⟩, ⟨ex, fun ss hs => CT.cut hs hW t2 hF rfl rfl rfl rfl rfl (by omega)⟩, ⟨hF.i t3 rfl 2, fun tt ht => CT.fr ht hW t3 hF rfl rfl rfl rfl rfl⟩, (PSAME.fr hW hS hF rfl rfl rfl rfl rfl rfl rfl), ⟨⟨_, hW, hW2⟩, hS, XT.refl, (KP.fr hW hF rfl)⟩⟩⟩
theorem PO_table {l : Launch} {G : GT} {mi h0 : Nat} {x : Int} {y : Int} {i : Int} (h_x : -2147483648 ≤ x ∧ x ≤ 2147483647) (h_y : -2147483648 ≤ y ∧ y ≤ 2147483647) (h_i : -2147483648 ≤ i ∧ i ≤ 2147483647) : PressOp l G mi yX11_table cX11_table 5 (some .int) 9 [.int (iI x), .int (iI y), .int (iI i)] h0 (fun sk L cl ln iv rv L2 cl2 ln2 iv2 rv2 f => (True ∧ (KSQ h0 iv rv iv2 rv2 ∧ KSC h0 iv rv iv2 rv2 ∧ iv2 h0 15 = iv h0 15 ∧ iv2 h0 16 = iv h0 16 ∧ (iv2 (sk 5) 2 = iv (sk 5) 2 ∧ ∀ ss, CT iv rv (sk 5) ss → CT iv2 rv2 (sk 5) ss) ∧ (iv2 (sk 4) 2 = iv (sk 4) 2 ∧ ∀ ss, CT iv rv (sk 4) ss → CT iv2 rv2 (sk 4) ss) ∧ FKP sk iv rv iv2 rv2)) ∧ (iv2 h0 14 = iv h0 14 ∧ iv2 h0 11 = iv h0 11 ∧ iv2 h0 12 = iv h0 12 ∧ iv2 h0 13 = iv h0 13) ∧ (iv2 (sk 2) 2 = iv (sk 2) 2 ∧ (∀ ss, CT iv rv (sk 2) ss → CT iv2 rv2 (sk 2) ss)) ∧ (iv2 (sk 3) 2 = iv (sk 3) 2 ∧ (∀ tt, CT iv rv (sk 3) tt → CT iv2 rv2 (sk 3) tt)) ∧ PTBL x y i f sk iv rv iv2 rv2 ∧ (∃ g, WT g sk L cl ln iv rv ∧ WT g sk L2 cl2 ln2 iv2 rv2) ∧ SKL sk L cl ∧ XT L cl ln L2 cl2 ln2 ∧ ((f = -1 ∧ KP L cl (fun _ => False) (fun _ => False) (fun _ => False) (fun _ => False) (fun _ _ => False) iv rv iv2 rv2) ∨ (f ≠ -1 ∧ KP L cl (fun _ => False) (fun _ => False) (fun _ => False) (fun _ => False) (fun _ _ => False) iv rv iv2 rv2 ∧ ∃ b, (((x < 1 ∨ 3 < x) ∧ b = none) ∨ ((1 ≤ x ∧ x ≤ 3) ∧ ∃ t, ALV sk iv rv i t ∧ b = some t)) ∧ KNW L sk b none iv iv2 rv2))) := by
  intro n L cl ln iv rv sk hn hp
  obtain ⟨hW, hS, hm, h23, ht⟩ := hp
  refine hv3 (show ty L cl (sk 23) 23 from ⟨(hS 23 rfl).1, by rw [(hS 23 rfl).2]; rfl⟩) (show ty L cl (sk 2) 2 from ⟨(hS 2 rfl).1, by rw [(hS 2 rfl).2]; rfl⟩) (show ty L cl (sk 3) 3 from ⟨(hS 3 rfl).1, by rw [(hS 3 rfl).2]; rfl⟩) (fun t23 t2 t3 => ?_)
  refine ⟨1434, _, by decide, C_table hW hS ht h_x h_y h_i hm (by omega), fun v L2 cl2 ln2 iv2 rv2 h => ?_⟩
  obtain ⟨f, rfl, hX, hF, hW2, rg, ex, kp11, kp12, kp13, kp14, kp15, kp16, tbx, kbx, kr9, kr10⟩ := h
  exact ⟨f, rfl, by omega, hX, hW2, ex.2, ex.1, ⟨⟨trivial, ⟨(KSQ.fr hW ht hF kr9 kr10 rfl rfl rfl), (KSC.fr hW ht hF kr9 kr10 rfl rfl rfl rfl), kp15, kp16, ⟨hF.i (tysq (t := 5) hS rfl rfl) rfl 2, fun ss hs => CT.fr hs hW (tysq (t := 5) hS rfl rfl) hF rfl rfl rfl rfl rfl⟩, ⟨hF.i (tysq (t := 4) hS rfl rfl) rfl 2, fun ss hs => CT.fr hs hW (tysq (t := 4) hS rfl rfl) hF rfl rfl rfl rfl rfl⟩, (FKP.fr hW hS hF rfl rfl rfl rfl)⟩⟩, ⟨kp14, kp11, kp12, kp13⟩, ⟨hF.i t2 rfl 2, fun ss hs => CT.fr hs hW t2 hF rfl rfl rfl rfl rfl⟩, ⟨hF.i t3 rfl 2, fun tt ht => CT.fr ht hW t3 hF rfl rfl rfl rfl rfl⟩, tbx, ⟨⟨_, hW, hW2⟩, hS, hX, kbx⟩⟩⟩
theorem PO_join {l : Launch} {G : GT} {mi h0 : Nat} {i : Int} {j : Int} (h_i : -2147483648 ≤ i ∧ i ≤ 2147483647) (h_j : -2147483648 ≤ j ∧ j ≤ 2147483647) : PressOp l G mi yX11_join cX11_join 5 (some .int) 9 [.int (iI i), .int (iI j)] h0 (fun sk L cl ln iv rv L2 cl2 ln2 iv2 rv2 f => (True ∧ (KSQ h0 iv rv iv2 rv2 ∧ KSC h0 iv rv iv2 rv2 ∧ iv2 h0 15 = iv h0 15 ∧ iv2 h0 16 = iv h0 16 ∧ (iv2 (sk 5) 2 = iv (sk 5) 2 ∧ ∀ ss, CT iv rv (sk 5) ss → CT iv2 rv2 (sk 5) ss) ∧ (iv2 (sk 4) 2 = iv (sk 4) 2 ∧ ∀ ss, CT iv rv (sk 4) ss → CT iv2 rv2 (sk 4) ss) ∧ FKP sk iv rv iv2 rv2)) ∧ (iv2 h0 14 = iv h0 14 ∧ iv2 h0 11 = iv h0 11 ∧ iv2 h0 12 = iv h0 12 ∧ iv2 h0 13 = iv h0 13) ∧ (iv2 (sk 2) 2 = iv (sk 2) 2 ∧ (∀ ss, CT iv rv (sk 2) ss → CT iv2 rv2 (sk 2) ss)) ∧ (iv2 (sk 3) 2 = iv (sk 3) 2 ∧ (∀ tt, CT iv rv (sk 3) tt → CT iv2 rv2 (sk 3) tt)) ∧ PJOI i j f sk iv rv iv2 rv2 ∧ (∃ g, WT g sk L cl ln iv rv ∧ WT g sk L2 cl2 ln2 iv2 rv2) ∧ SKL sk L cl ∧ XT L cl ln L2 cl2 ln2 ∧ ((f = -1 ∧ KP L cl (fun _ => False) (fun _ => False) (fun _ => False) (fun _ => False) (fun _ _ => False) iv rv iv2 rv2) ∨ (f ≠ -1 ∧ KP L cl (fun _ => False) (fun _ => False) (fun _ => False) (fun _ => False) (fun _ _ => False) iv rv iv2 rv2 ∧ ∃ t u, ALV sk iv rv i t ∧ ALV sk iv rv j u ∧ KNW L sk (some t) (some u) iv iv2 rv2))) := by
  intro n L cl ln iv rv sk hn hp
  obtain ⟨hW, hS, hm, h23, ht⟩ := hp
  refine hv3 (show ty L cl (sk 23) 23 from ⟨(hS 23 rfl).1, by rw [(hS 23 rfl).2]; rfl⟩) (show ty L cl (sk 2) 2 from ⟨(hS 2 rfl).1, by rw [(hS 2 rfl).2]; rfl⟩) (show ty L cl (sk 3) 3 from ⟨(hS 3 rfl).1, by rw [(hS 3 rfl).2]; rfl⟩) (fun t23 t2 t3 => ?_)
  refine ⟨1434, _, by decide, C_join hW hS ht h_i h_j hm (by omega), fun v L2 cl2 ln2 iv2 rv2 h => ?_⟩
  obtain ⟨f, rfl, hX, hF, hW2, rg, ex, kp11, kp12, kp13, kp14, kp15, kp16, tbx, kbx, kr9, kr10⟩ := h
  exact ⟨f, rfl, by omega, hX, hW2, ex.2, ex.1, ⟨⟨trivial, ⟨(KSQ.fr hW ht hF kr9 kr10 rfl rfl rfl), (KSC.fr hW ht hF kr9 kr10 rfl rfl rfl rfl), kp15, kp16, ⟨hF.i (tysq (t := 5) hS rfl rfl) rfl 2, fun ss hs => CT.fr hs hW (tysq (t := 5) hS rfl rfl) hF rfl rfl rfl rfl rfl⟩, ⟨hF.i (tysq (t := 4) hS rfl rfl) rfl 2, fun ss hs => CT.fr hs hW (tysq (t := 4) hS rfl rfl) hF rfl rfl rfl rfl rfl⟩, (FKP.fr hW hS hF rfl rfl rfl rfl)⟩⟩, ⟨kp14, kp11, kp12, kp13⟩, ⟨hF.i t2 rfl 2, fun ss hs => CT.fr hs hW t2 hF rfl rfl rfl rfl rfl⟩, ⟨hF.i t3 rfl 2, fun tt ht => CT.fr ht hW t3 hF rfl rfl rfl rfl rfl⟩, tbx, ⟨⟨_, hW, hW2⟩, hS, hX, kbx⟩⟩⟩
theorem PO_drop {l : Launch} {G : GT} {mi h0 : Nat} {i : Int} (h_i : -2147483648 ≤ i ∧ i ≤ 2147483647) : PressOp l G mi yX11_drop cX11_drop 3 (some .int) 8 [.int (iI i)] h0 (fun sk L cl ln iv rv L2 cl2 ln2 iv2 rv2 f => (True ∧ (KSQ h0 iv rv iv2 rv2 ∧ KSC h0 iv rv iv2 rv2 ∧ iv2 h0 15 = iv h0 15 ∧ iv2 h0 16 = iv h0 16 ∧ (iv2 (sk 5) 2 = iv (sk 5) 2 ∧ ∀ ss, CT iv rv (sk 5) ss → CT iv2 rv2 (sk 5) ss) ∧ (iv2 (sk 4) 2 = iv (sk 4) 2 ∧ ∀ ss, CT iv rv (sk 4) ss → CT iv2 rv2 (sk 4) ss) ∧ FKP sk iv rv iv2 rv2)) ∧ (iv2 h0 14 = iv h0 14 ∧ iv2 h0 11 = iv h0 11 ∧ iv2 h0 12 = iv h0 12 ∧ iv2 h0 13 = iv h0 13) ∧ (iv2 (sk 2) 2 = iv (sk 2) 2 ∧ (∀ ss, CT iv rv (sk 2) ss → CT iv2 rv2 (sk 2) ss)) ∧ (iv2 (sk 3) 2 = iv (sk 3) 2 ∧ (∀ tt, CT iv rv (sk 3) tt → CT iv2 rv2 (sk 3) tt)) ∧ PDRP i f sk iv rv iv2 rv2 ∧ (∃ g, WT g sk L cl ln iv rv ∧ WT g sk L2 cl2 ln2 iv2 rv2) ∧ SKL sk L cl ∧ XT L cl ln L2 cl2 ln2 ∧ (KP L cl (fun _ => False) (fun _ => False) (fun _ => False) (fun _ => False) (fun _ _ => False) iv rv iv2 rv2)) := by
  intro n L cl ln iv rv sk hn hp
  obtain ⟨hW, hS, hm, h23, ht⟩ := hp
  refine hv3 (show ty L cl (sk 23) 23 from ⟨(hS 23 rfl).1, by rw [(hS 23 rfl).2]; rfl⟩) (show ty L cl (sk 2) 2 from ⟨(hS 2 rfl).1, by rw [(hS 2 rfl).2]; rfl⟩) (show ty L cl (sk 3) 3 from ⟨(hS 3 rfl).1, by rw [(hS 3 rfl).2]; rfl⟩) (fun t23 t2 t3 => ?_)
  refine ⟨1236, _, by decide, C_drop hW hS ht h_i hm (by omega), fun v L2 cl2 ln2 iv2 rv2 h => ?_⟩
  obtain ⟨f, rfl, hX, hF, hW2, rg, ex, kp11, kp12, kp13, kp14, kp15, kp16, tbx, kbx, kr9, kr10⟩ := h
  exact ⟨f, rfl, by omega, hX, hW2, ex.2, ex.1, ⟨⟨trivial, ⟨(KSQ.fr hW ht hF kr9 kr10 rfl rfl rfl), (KSC.fr hW ht hF kr9 kr10 rfl rfl rfl rfl), kp15, kp16, ⟨hF.i (tysq (t := 5) hS rfl rfl) rfl 2, fun ss hs => CT.fr hs hW (tysq (t := 5) hS rfl rfl) hF rfl rfl rfl rfl rfl⟩, ⟨hF.i (tysq (t := 4) hS rfl rfl) rfl 2, fun ss hs => CT.fr hs hW (tysq (t := 4) hS rfl rfl) hF rfl rfl rfl rfl rfl⟩, (FKP.fr hW hS hF rfl rfl rfl rfl)⟩⟩, ⟨kp14, kp11, kp12, kp13⟩, ⟨hF.i t2 rfl 2, fun ss hs => CT.fr hs hW t2 hF rfl rfl rfl rfl rfl⟩, ⟨hF.i t3 rfl 2, fun tt ht => CT.fr ht hW t3 hF rfl rfl rfl rfl rfl⟩, tbx, ⟨⟨_, hW, hW2⟩, hS, hX, kbx⟩⟩⟩
theorem PO_rule {l : Launch} {G : GT} {mi h0 : Nat} {i : Int} {cnd : Int} {n : Int} (h_i : -2147483648 ≤ i ∧ i ≤ 2147483647) (h_cnd : -2147483648 ≤ cnd ∧ cnd ≤ 2147483647) (h_n : -2147483648 ≤ n ∧ n ≤ 2147483647) : PressOp l G mi yX11_rule cX11_rule 5 (some .int) 9 [.int (iI i), .int (iI cnd), .int (iI n)] h0 (fun sk L cl ln iv rv L2 cl2 ln2 iv2 rv2 f => (True ∧ (KSQ h0 iv rv iv2 rv2 ∧ KSC h0 iv rv iv2 rv2 ∧ iv2 h0 15 = iv h0 15 ∧ iv2 h0 16 = iv h0 16 ∧ (iv2 (sk 5) 2 = iv (sk 5) 2 ∧ ∀ ss, CT iv rv (sk 5) ss → CT iv2 rv2 (sk 5) ss) ∧ (iv2 (sk 4) 2 = iv (sk 4) 2 ∧ ∀ ss, CT iv rv (sk 4) ss → CT iv2 rv2 (sk 4) ss) ∧ FKP sk iv rv iv2 rv2)) ∧ (iv2 h0 14 = iv h0 14 ∧ iv2 h0 11 = iv h0 11 ∧ iv2 h0 12 = iv h0 12 ∧ iv2 h0 13 = iv h0 13) ∧ iv2 (sk 2) 2 = 0 ∧ (iv2 (sk 3) 2 = iv (sk 3) 2 ∧ (∀ tt, CT iv rv (sk 3) tt → CT iv2 rv2 (sk 3) tt)) ∧ PRUL i cnd n f sk iv rv iv2 rv2 ∧ (∃ g, WT g sk L cl ln iv rv ∧ WT g sk L2 cl2 ln2 iv2 rv2) ∧ SKL sk L cl ∧ XT L cl ln L2 cl2 ln2 ∧ (KRU L cl sk iv rv L2 cl2 ln2 iv2 rv2 i cnd n f)) := by
  intro n L cl ln iv rv sk hn hp
  obtain ⟨hW, hS, hm, h23, ht⟩ := hp
  refine hv3 (show ty L cl (sk 23) 23 from ⟨(hS 23 rfl).1, by rw [(hS 23 rfl).2]; rfl⟩) (show ty L cl (sk 2) 2 from ⟨(hS 2 rfl).1, by rw [(hS 2 rfl).2]; rfl⟩) (show ty L cl (sk 3) 3 from ⟨(hS 3 rfl).1, by rw [(hS 3 rfl).2]; rfl⟩) (fun t23 t2 t3 => ?_)
  refine ⟨2320, _, by decide, C_rule hW hS ht h_i h_cnd h_n hm (by omega), fun v L2 cl2 ln2 iv2 rv2 h => ?_⟩
  obtain ⟨f, rfl, hX, hF, hW2, rg, ex, kp11, kp12, kp13, kp14, kp15, kp16, ktz, tbx, kbx, kr9, kr10⟩ := h
  exact ⟨f, rfl, by omega, hX, hW2, ex.2, ex.1, ⟨⟨trivial, ⟨(KSQ.fr hW ht hF kr9 kr10 rfl rfl rfl), (KSC.fr hW ht hF kr9 kr10 rfl rfl rfl rfl), kp15, kp16, ⟨hF.i (tysq (t := 5) hS rfl rfl) rfl 2, fun ss hs => CT.fr hs hW (tysq (t := 5) hS rfl rfl) hF rfl rfl rfl rfl rfl⟩, ⟨hF.i (tysq (t := 4) hS rfl rfl) rfl 2, fun ss hs => CT.fr hs hW (tysq (t := 4) hS rfl rfl) hF rfl rfl rfl rfl rfl⟩, (FKP.fr hW hS hF rfl rfl rfl rfl)⟩⟩, ⟨kp14, kp11, kp12, kp13⟩, ktz, ⟨hF.i t3 rfl 2, fun tt ht => CT.fr ht hW t3 hF rfl rfl rfl rfl rfl⟩, tbx, ⟨⟨_, hW, hW2⟩, hS, hX, kbx⟩⟩⟩
theorem PO_condition {l : Launch} {G : GT} {mi h0 : Nat} {i : Int} {j : Int} {cnd : Int} (h_i : -2147483648 ≤ i ∧ i ≤ 2147483647) (h_j : -2147483648 ≤ j ∧ j ≤ 2147483647) (h_cnd : -2147483648 ≤ cnd ∧ cnd ≤ 2147483647) : PressOp l G mi yX11_condition cX11_condition 7 (some .int) 8 [.int (iI i), .int (iI j), .int (iI cnd)] h0 (fun sk L cl ln iv rv L2 cl2 ln2 iv2 rv2 f => (True ∧ (KSQ h0 iv rv iv2 rv2 ∧ KSC h0 iv rv iv2 rv2 ∧ iv2 h0 15 = iv h0 15 ∧ iv2 h0 16 = iv h0 16 ∧ (iv2 (sk 5) 2 = iv (sk 5) 2 ∧ ∀ ss, CT iv rv (sk 5) ss → CT iv2 rv2 (sk 5) ss) ∧ (iv2 (sk 4) 2 = iv (sk 4) 2 ∧ ∀ ss, CT iv rv (sk 4) ss → CT iv2 rv2 (sk 4) ss) ∧ FKP sk iv rv iv2 rv2)) ∧ (iv2 h0 14 = iv h0 14 ∧ iv2 h0 11 = iv h0 11 ∧ iv2 h0 12 = iv h0 12 ∧ iv2 h0 13 = iv h0 13) ∧ (iv2 (sk 2) 2 = iv (sk 2) 2 ∧ (∀ ss, CT iv rv (sk 2) ss → CT iv2 rv2 (sk 2) ss)) ∧ (iv2 (sk 3) 2 = iv (sk 3) 2 ∧ (∀ tt, CT iv rv (sk 3) tt → CT iv2 rv2 (sk 3) tt)) ∧ PCND i j cnd f sk iv rv iv2 rv2 ∧ (∃ g, WT g sk L cl ln iv rv ∧ WT g sk L2 cl2 ln2 iv2 rv2) ∧ SKL sk L cl ∧ XT L cl ln L2 cl2 ln2 ∧ (KCN L cl sk iv rv iv2 rv2 i j cnd f)) := by
  intro n L cl ln iv rv sk hn hp
  obtain ⟨hW, hS, hm, h23, ht⟩ := hp
  refine hv3 (show ty L cl (sk 23) 23 from ⟨(hS 23 rfl).1, by rw [(hS 23 rfl).2]; rfl⟩) (show ty L cl (sk 2) 2 from ⟨(hS 2 rfl).1, by rw [(hS 2 rfl).2]; rfl⟩) (show ty L cl (sk 3) 3 from ⟨(hS 3 rfl).1, by rw [(hS 3 rfl).2]; rfl⟩) (fun t23 t2 t3 => ?_)
  refine ⟨1236, _, by decide, C_condition hW hS ht h_i h_j h_cnd hm (by omega), fun v L2 cl2 ln2 iv2 rv2 h => ?_⟩
  obtain ⟨f, rfl, hX, hF, hW2, rg, ex, kp11, kp12, kp13, kp14, kp15, kp16, tbx, kbx, kr9, kr10⟩ := h
  exact ⟨f, rfl, by omega, hX, hW2, ex.2, ex.1, ⟨⟨trivial, ⟨(KSQ.fr hW ht hF kr9 kr10 rfl rfl rfl), (KSC.fr hW ht hF kr9 kr10 rfl rfl rfl rfl), kp15, kp16, ⟨hF.i (tysq (t := 5) hS rfl rfl) rfl 2, fun ss hs => CT.fr hs hW (tysq (t := 5) hS rfl rfl) hF rfl rfl rfl rfl rfl⟩, ⟨hF.i (tysq (t := 4) hS rfl rfl) rfl 2, fun ss hs => CT.fr hs hW (tysq (t := 4) hS rfl rfl) hF rfl rfl rfl rfl rfl⟩, (FKP.fr hW hS hF rfl rfl rfl rfl)⟩⟩, ⟨kp14, kp11, kp12, kp13⟩, ⟨hF.i t2 rfl 2, fun ss hs => CT.fr hs hW t2 hF rfl rfl rfl rfl rfl⟩, ⟨hF.i t3 rfl 2, fun tt ht => CT.fr ht hW t3 hF rfl rfl rfl rfl rfl⟩, tbx, ⟨⟨_, hW, hW2⟩, hS, hX, kbx⟩⟩⟩
theorem PO_indicator {l : Launch} {G : GT} {mi h0 : Nat} {i : Int} {j : Int} (h_i : -2147483648 ≤ i ∧ i ≤ 2147483647) (h_j : -2147483648 ≤ j ∧ j ≤ 2147483647) : PressOp l G mi yX11_indicator cX11_indicator 4 (some .int) 9 [.int (iI i), .int (iI j)] h0 (fun sk L cl ln iv rv L2 cl2 ln2 iv2 rv2 f => (True ∧ (KSQ h0 iv rv iv2 rv2 ∧ KSC h0 iv rv iv2 rv2 ∧ iv2 h0 15 = iv h0 15 ∧ iv2 h0 16 = iv h0 16 ∧ (iv2 (sk 5) 2 = iv (sk 5) 2 ∧ ∀ ss, CT iv rv (sk 5) ss → CT iv2 rv2 (sk 5) ss) ∧ (iv2 (sk 4) 2 = iv (sk 4) 2 ∧ ∀ ss, CT iv rv (sk 4) ss → CT iv2 rv2 (sk 4) ss) ∧ FKP sk iv rv iv2 rv2)) ∧ (iv2 h0 14 = iv h0 14 ∧ iv2 h0 11 = iv h0 11 ∧ iv2 h0 12 = iv h0 12 ∧ iv2 h0 13 = iv h0 13) ∧ iv2 (sk 2) 2 = 0 ∧ (iv2 (sk 3) 2 = iv (sk 3) 2 ∧ (∀ tt, CT iv rv (sk 3) tt → CT iv2 rv2 (sk 3) tt)) ∧ PIND i j f sk iv rv iv2 rv2 ∧ (∃ g, WT g sk L cl ln iv rv ∧ WT g sk L2 cl2 ln2 iv2 rv2) ∧ SKL sk L cl ∧ XT L cl ln L2 cl2 ln2 ∧ (KIN L cl sk iv rv L2 cl2 ln2 iv2 rv2 i j f)) := by
  intro n L cl ln iv rv sk hn hp
  obtain ⟨hW, hS, hm, h23, ht⟩ := hp
  refine hv3 (show ty L cl (sk 23) 23 from ⟨(hS 23 rfl).1, by rw [(hS 23 rfl).2]; rfl⟩) (show ty L cl (sk 2) 2 from ⟨(hS 2 rfl).1, by rw [(hS 2 rfl).2]; rfl⟩) (show ty L cl (sk 3) 3 from ⟨(hS 3 rfl).1, by rw [(hS 3 rfl).2]; rfl⟩) (fun t23 t2 t3 => ?_)
  refine ⟨1300, _, by decide, C_indicator hW hS ht h_i h_j hm (by omega), fun v L2 cl2 ln2 iv2 rv2 h => ?_⟩
  obtain ⟨f, rfl, hX, hF, hW2, rg, ex, kp11, kp12, kp13, kp14, kp15, kp16, ktz, tbx, kbx, kr9, kr10⟩ := h
  exact ⟨f, rfl, by omega, hX, hW2, ex.2, ex.1, ⟨⟨trivial, ⟨(KSQ.fr hW ht hF kr9 kr10 rfl rfl rfl), (KSC.fr hW ht hF kr9 kr10 rfl rfl rfl rfl), kp15, kp16, ⟨hF.i (tysq (t := 5) hS rfl rfl) rfl 2, fun ss hs => CT.fr hs hW (tysq (t := 5) hS rfl rfl) hF rfl rfl rfl rfl rfl⟩, ⟨hF.i (tysq (t := 4) hS rfl rfl) rfl 2, fun ss hs => CT.fr hs hW (tysq (t := 4) hS rfl rfl) hF rfl rfl rfl rfl rfl⟩, (FKP.fr hW hS hF rfl rfl rfl rfl)⟩⟩, ⟨kp14, kp11, kp12, kp13⟩, ktz, ⟨hF.i t3 rfl 2, fun tt ht => CT.fr ht hW t3 hF rfl rfl rfl rfl rfl⟩, tbx, ⟨⟨_, hW, hW2⟩, hS, hX, kbx⟩⟩⟩
theorem PO_undo {l : Launch} {G : GT} {mi h0 : Nat} : PressOp l G mi yX11_undo cX11_undo 1 (some .int) 5 [] h0 (fun sk L cl ln iv rv L2 cl2 ln2 iv2 rv2 f => (True ∧ (KSQ h0 iv rv iv2 rv2 ∧ KSC h0 iv rv iv2 rv2 ∧ iv2 h0 15 = iv h0 15 ∧ iv2 h0 16 = iv h0 16 ∧ (iv2 (sk 5) 2 = iv (sk 5) 2 ∧ ∀ ss, CT iv rv (sk 5) ss → CT iv2 rv2 (sk 5) ss) ∧ (iv2 (sk 4) 2 = iv (sk 4) 2 ∧ ∀ ss, CT iv rv (sk 4) ss → CT iv2 rv2 (sk 4) ss) ∧ FKP sk iv rv iv2 rv2)) ∧ (iv2 h0 14 = iv h0 14 ∧ iv2 h0 11 = iv h0 11 ∧ iv2 h0 12 = iv h0 12 ∧ iv2 h0 13 = iv h0 13) ∧ (iv2 (sk 2) 2 = iv (sk 2) 2 ∧ (∀ ss, CT iv rv (sk 2) ss → CT iv2 rv2 (sk 2) ss)) ∧ (iv2 (sk 3) 2 = iv (sk 3) 2 ∧ (∀ tt, CT iv rv (sk 3) tt → CT iv2 rv2 (sk 3) tt)) ∧ PUNX f sk iv rv iv2 rv2 ∧ (∃ g, WT g sk L cl ln iv rv ∧ WT g sk L2 cl2 ln2 iv2 rv2) ∧ SKL sk L cl ∧ XT L cl ln L2 cl2 ln2 ∧ ((f = 0 ∧ KP L cl (fun _ => False) (fun _ => False) (fun _ => False) (fun _ => False) (fun _ _ => False) iv rv iv2 rv2) ∨ (f = 1 ∧ ∃ ch, el rv (sk 23) (iv (sk 23) 2 - 1).toNat = some ch ∧ UKP L cl ch iv rv iv2 rv2))) := by
  intro n L cl ln iv rv sk hn hp
  obtain ⟨hW, hS, hm, h23, ht⟩ := hp
  refine hv3 (show ty L cl (sk 23) 23 from ⟨(hS 23 rfl).1, by rw [(hS 23 rfl).2]; rfl⟩) (show ty L cl (sk 2) 2 from ⟨(hS 2 rfl).1, by rw [(hS 2 rfl).2]; rfl⟩) (show ty L cl (sk 3) 3 from ⟨(hS 3 rfl).1, by rw [(hS 3 rfl).2]; rfl⟩) (fun t23 t2 t3 => ?_)
  refine ⟨0, _, by decide, C_undo hW hS ht  hm, fun v L2 cl2 ln2 iv2 rv2 h => ?_⟩
  obtain ⟨f, rfl, rfl, rfl, rfl, hF, hW2, rg, ex, kp11, kp12, kp13, kp14, kp15, kp16, tbx, kbx, kr9, kr10⟩ := h
  exact ⟨f, rfl, by omega, XT.refl, hW2, ex.2, ex.1, ⟨⟨trivial, ⟨(KSQ.fr hW ht hF kr9 kr10 rfl rfl rfl), (KSC.fr hW ht hF kr9 kr10 rfl rfl rfl rfl), kp15, kp16, ⟨hF.i (tysq (t := 5) hS rfl rfl) rfl 2, fun ss hs => CT.fr hs hW (tysq (t := 5) hS rfl rfl) hF rfl rfl rfl rfl rfl⟩, ⟨hF.i (tysq (t := 4) hS rfl rfl) rfl 2, fun ss hs => CT.fr hs hW (tysq (t := 4) hS rfl rfl) hF rfl rfl rfl rfl rfl⟩, (FKP.fr hW hS hF rfl rfl rfl rfl)⟩⟩, ⟨kp14, kp11, kp12, kp13⟩, ⟨hF.i t2 rfl 2, fun ss hs => CT.fr hs hW t2 hF rfl rfl rfl rfl rfl⟩, ⟨hF.i t3 rfl 2, fun tt ht => CT.fr ht hW t3 hF rfl rfl rfl rfl rfl⟩, tbx, ⟨⟨_, hW, hW2⟩, hS, XT.refl, kbx⟩⟩⟩
theorem PO_text {l : Launch} {G : GT} {mi h0 : Nat} : PressOp l G mi yX11_text cX11_text 2 (some .int) 5 [] h0 (fun sk L cl ln iv rv L2 cl2 ln2 iv2 rv2 f => (True ∧ (KSQ h0 iv rv iv2 rv2 ∧ KSC h0 iv rv iv2 rv2 ∧ iv2 h0 15 = iv h0 15 ∧ iv2 h0 16 = iv h0 16 ∧ (iv2 (sk 5) 2 = iv (sk 5) 2 ∧ ∀ ss, CT iv rv (sk 5) ss → CT iv2 rv2 (sk 5) ss) ∧ (iv2 (sk 4) 2 = iv (sk 4) 2 ∧ ∀ ss, CT iv rv (sk 4) ss → CT iv2 rv2 (sk 4) ss) ∧ FKP sk iv rv iv2 rv2)) ∧ (iv2 h0 14 = iv h0 14 ∧ iv2 h0 11 = iv h0 11 ∧ iv2 h0 12 = iv h0 12 ∧ iv2 h0 13 = iv h0 13) ∧ iv2 (sk 2) 2 = 0 ∧ ((∀ ss, CT iv rv (sk 2) ss → ((f = -1 ∧ iv2 (sk 3) 2 = iv (sk 3) 2 ∧ ¬ (TOK ss (iv (sk 2) 2) ∧ iv (sk 3) 2 + iv (sk 2) 2 ≤ 500)) ∨ (f = iv2 (sk 3) 2 ∧ TOK ss (iv (sk 2) 2) ∧ iv (sk 3) 2 + iv (sk 2) 2 ≤ 500 ∧ ((iv (sk 2) 2 = 0 ∧ iv2 (sk 3) 2 = 0) ∨ (iv (sk 2) 2 ≠ 0 ∧ iv2 (sk 3) 2 = iv (sk 3) 2 + iv (sk 2) 2))))) ∧ (∀ ss tt, CT iv rv (sk 2) ss → CT iv rv (sk 3) tt → (f = -1 → CT iv2 rv2 (sk 3) tt) ∧ (f ≠ -1 → CT iv2 rv2 (sk 3) (apd tt (iv (sk 3) 2).toNat ss)))) ∧ PSAME sk iv rv iv2 rv2 ∧ (∃ g, WT g sk L cl ln iv rv ∧ WT g sk L2 cl2 ln2 iv2 rv2) ∧ SKL sk L cl ∧ XT L cl ln L2 cl2 ln2 ∧ (KP L cl (fun _ => False) (fun _ => False) (fun _ => False) (fun _ => False) (fun _ _ => False) iv rv iv2 rv2)) := by
  intro n L cl ln iv rv sk hn hp
  obtain ⟨hW, hS, hm, h23, ht⟩ := hp
  refine hv3 (show ty L cl (sk 23) 23 from ⟨(hS 23 rfl).1, by rw [(hS 23 rfl).2]; rfl⟩) (show ty L cl (sk 2) 2 from ⟨(hS 2 rfl).1, by rw [(hS 2 rfl).2]; rfl⟩) (show ty L cl (sk 3) 3 from ⟨(hS 3 rfl).1, by rw [(hS 3 rfl).2]; rfl⟩) (fun t23 t2 t3 => ?_)
  refine ⟨0, _, by decide, C_text hW hS ht  , fun v L2 cl2 ln2 iv2 rv2 h => ?_⟩
  obtain ⟨f, rfl, hX, hF, hW2, rg, ex, kp11, kp12, kp13, kp14, kp15, kp16, ktz, txk, kr9, kr10⟩ := h
  exact ⟨f, rfl, by omega, hX, hW2, (MRK.call hm hW hS hX hF rfl rfl), (by have q := hF.i t23 rfl 2; omega), ⟨⟨trivial, ⟨(KSQ.fr hW ht hF kr9 kr10 rfl rfl rfl), (KSC.fr hW ht hF kr9 kr10 rfl rfl rfl rfl), kp15, kp16, ⟨hF.i (tysq (t := 5) hS rfl rfl) rfl 2, fun ss hs => CT.fr hs hW (tysq (t := 5) hS rfl rfl) hF rfl rfl rfl rfl rfl⟩, ⟨hF.i (tysq (t := 4) hS rfl rfl) rfl 2, fun ss hs => CT.fr hs hW (tysq (t := 4) hS rfl rfl) hF rfl rfl rfl rfl rfl⟩, (FKP.fr hW hS hF rfl rfl rfl rfl)⟩⟩, ⟨kp14, kp11, kp12, kp13⟩, ktz, ⟨ex, txk⟩, (PSAME.fr hW hS hF rfl rfl rfl rfl rfl rfl rfl), ⟨⟨_, hW, hW2⟩, hS, hX, (KP.fr hW hF rfl)⟩⟩⟩
theorem PO_measure {l : Launch} {G : GT} {mi h0 : Nat} {x : Int} {y : Int} {h : Int} (h_x : -2147483648 ≤ x ∧ x ≤ 2147483647) (h_y : -2147483648 ≤ y ∧ y ≤ 2147483647) (h_h : -2147483648 ≤ h ∧ h ≤ 2147483647) : PressOp l G mi yX11_measure cX11_measure 4 (some .int) 1 [.int (iI x), .int (iI y), .int (iI h)] h0 (fun sk L cl ln iv rv L2 cl2 ln2 iv2 rv2 f => (((f = 1 ∧ 1 ≤ x ∧ x ≤ 100 ∧ 1 ≤ y ∧ y ≤ 50 ∧ 1 ≤ h ∧ h ≤ 255) ∨ (f = -1 ∧ ¬ (1 ≤ x ∧ x ≤ 100 ∧ 1 ≤ y ∧ y ≤ 50 ∧ 1 ≤ h ∧ h ≤ 255))) ∧ (KSQ h0 iv rv iv2 rv2 ∧ KSC h0 iv rv iv2 rv2 ∧ iv2 h0 15 = iv h0 15 ∧ iv2 h0 16 = iv h0 16 ∧ (iv2 (sk 5) 2 = iv (sk 5) 2 ∧ ∀ ss, CT iv rv (sk 5) ss → CT iv2 rv2 (sk 5) ss) ∧ (iv2 (sk 4) 2 = iv (sk 4) 2 ∧ ∀ ss, CT iv rv (sk 4) ss → CT iv2 rv2 (sk 4) ss) ∧ FKP sk iv rv iv2 rv2)) ∧ (iv2 h0 14 = iv h0 14 ∧ ((f = 1 ∧ iv2 h0 11 = x ∧ iv2 h0 12 = y ∧ iv2 h0 13 = h) ∨ (f = -1 ∧ iv2 h0 11 = iv h0 11 ∧ iv2 h0 12 = iv h0 12 ∧ iv2 h0 13 = iv h0 13))) ∧ (iv2 (sk 2) 2 = iv (sk 2) 2 ∧ (∀ ss, CT iv rv (sk 2) ss → CT iv2 rv2 (sk 2) ss)) ∧ (iv2 (sk 3) 2 = iv (sk 3) 2 ∧ (∀ tt, CT iv rv (sk 3) tt → CT iv2 rv2 (sk 3) tt)) ∧ PSAME sk iv rv iv2 rv2 ∧ (∃ g, WT g sk L cl ln iv rv ∧ WT g sk L2 cl2 ln2 iv2 rv2) ∧ SKL sk L cl ∧ XT L cl ln L2 cl2 ln2 ∧ (KP L cl (fun _ => False) (fun _ => False) (fun _ => False) (fun _ => False) (fun _ _ => False) iv rv iv2 rv2)) := by
  intro n L cl ln iv rv sk hn hp
  obtain ⟨hW, hS, hm, h23, ht⟩ := hp
  refine hv3 (show ty L cl (sk 23) 23 from ⟨(hS 23 rfl).1, by rw [(hS 23 rfl).2]; rfl⟩) (show ty L cl (sk 2) 2 from ⟨(hS 2 rfl).1, by rw [(hS 2 rfl).2]; rfl⟩) (show ty L cl (sk 3) 3 from ⟨(hS 3 rfl).1, by rw [(hS 3 rfl).2]; rfl⟩) (fun t23 t2 t3 => ?_)
  refine ⟨0, _, by decide, C_measure2 hW hS ht h_x h_y h_h , fun v L2 cl2 ln2 iv2 rv2 h => ?_⟩
  obtain ⟨f, rfl, rfl, rfl, rfl, rfl, hF, hW2, rg, ex, kp14, kp15, kp16⟩ := h
  exact ⟨f, rfl, by omega, XT.refl, hW2, (MRK.call hm hW hS XT.refl hF rfl rfl), (by have q := hF.i t23 rfl 2; omega), ⟨⟨ex.1, ⟨(KSQ.ni hW ht hF rfl), (KSC.fr hW ht hF rfl rfl rfl rfl rfl rfl), kp15, kp16, ⟨hF.i (tysq (t := 5) hS rfl rfl) rfl 2, fun ss hs => CT.fr hs hW (tysq (t := 5) hS rfl rfl) hF rfl rfl rfl rfl rfl⟩, ⟨hF.i (tysq (t := 4) hS rfl rfl) rfl 2, fun ss hs => CT.fr hs hW (tysq (t := 4) hS rfl rfl) hF rfl rfl rfl rfl rfl⟩, (FKP.fr hW hS hF rfl rfl rfl rfl)⟩⟩, ⟨kp14, ex.2⟩, ⟨hF.i t2 rfl 2, fun ss hs => CT.fr hs hW t2 hF rfl rfl rfl rfl rfl⟩, ⟨hF.i t3 rfl 2, fun tt ht => CT.fr ht hW t3 hF rfl rfl rfl rfl rfl⟩, (PSAME.fr hW hS hF rfl rfl rfl rfl rfl rfl rfl), ⟨⟨_, hW, hW2⟩, hS, XT.refl, (KP.fr hW hF rfl)⟩⟩⟩
theorem PO_lines {l : Launch} {G : GT} {mi h0 : Nat} : PressOp l G mi yX11_lines cX11_lines 1 (some .int) 0 [] h0 (fun sk L cl ln iv rv L2 cl2 ln2 iv2 rv2 f => (True ∧ (KSQ h0 iv rv iv2 rv2 ∧ KSC h0 iv rv iv2 rv2 ∧ iv2 h0 15 = iv h0 15 ∧ iv2 h0 16 = iv h0 16 ∧ (iv2 (sk 5) 2 = iv (sk 5) 2 ∧ ∀ ss, CT iv rv (sk 5) ss → CT iv2 rv2 (sk 5) ss) ∧ (iv2 (sk 4) 2 = iv (sk 4) 2 ∧ ∀ ss, CT iv rv (sk 4) ss → CT iv2 rv2 (sk 4) ss) ∧ FKP sk iv rv iv2 rv2)) ∧ (iv2 h0 14 = iv h0 14 ∧ iv2 h0 11 = iv h0 11 ∧ iv2 h0 12 = iv h0 12 ∧ iv2 h0 13 = iv h0 13) ∧ (iv2 (sk 2) 2 = iv (sk 2) 2 ∧ (∀ ss, CT iv rv (sk 2) ss → CT iv2 rv2 (sk 2) ss)) ∧ (iv2 (sk 3) 2 = iv (sk 3) 2 ∧ (∀ tt, CT iv rv (sk 3) tt → CT iv2 rv2 (sk 3) tt)) ∧ PSAME sk iv rv iv2 rv2 ∧ (∃ g, WT g sk L cl ln iv rv ∧ WT g sk L2 cl2 ln2 iv2 rv2) ∧ SKL sk L cl ∧ XT L cl ln L2 cl2 ln2 ∧ (KP L cl (fun _ => False) (fun _ => False) (fun _ => False) (fun _ => False) (fun _ _ => False) iv rv iv2 rv2)) := by
  intro n L cl ln iv rv sk hn hp
  obtain ⟨hW, hS, hm, h23, ht⟩ := hp
  refine hv3 (show ty L cl (sk 23) 23 from ⟨(hS 23 rfl).1, by rw [(hS 23 rfl).2]; rfl⟩) (show ty L cl (sk 2) 2 from ⟨(hS 2 rfl).1, by rw [(hS 2 rfl).2]; rfl⟩) (show ty L cl (sk 3) 3 from ⟨(hS 3 rfl).1, by rw [(hS 3 rfl).2]; rfl⟩) (fun t23 t2 t3 => ?_)
  refine ⟨0, _, by decide, C_lines hW hS ht  , fun v L2 cl2 ln2 iv2 rv2 h => ?_⟩
  obtain ⟨f, rfl, rfl, rfl, rfl, rfl, rfl, rg, ex⟩ := h
  exact ⟨f, rfl, by omega, XT.refl, hW, hm, (by omega), ⟨⟨trivial, ⟨KSQ.refl, KSC.refl, rfl, rfl, ⟨rfl, fun ss hs => hs⟩, ⟨rfl, fun ss hs => hs⟩, FKP.refl⟩⟩, ⟨rfl, rfl, rfl, rfl⟩, ⟨rfl, fun ss hs => hs⟩, ⟨rfl, fun tt ht => ht⟩, PSAME.refl, ⟨⟨_, hW, hW⟩, hS, XT.refl, KP.refl⟩⟩⟩
theorem PO_pages {l : Launch} {G : GT} {mi h0 : Nat} : PressOp l G mi yX11_pages cX11_pages 2 (some .int) 2 [] h0 (fun sk L cl ln iv rv L2 cl2 ln2 iv2 rv2 f => (True ∧ (KSQ h0 iv rv iv2 rv2 ∧ KSC h0 iv rv iv2 rv2 ∧ iv2 h0 15 = iv h0 15 ∧ iv2 h0 16 = iv h0 16 ∧ (iv2 (sk 5) 2 = iv (sk 5) 2 ∧ ∀ ss, CT iv rv (sk 5) ss → CT iv2 rv2 (sk 5) ss) ∧ (iv2 (sk 4) 2 = iv (sk 4) 2 ∧ ∀ ss, CT iv rv (sk 4) ss → CT iv2 rv2 (sk 4) ss) ∧ FKP sk iv rv iv2 rv2)) ∧ (iv2 h0 14 = iv h0 14 ∧ iv2 h0 11 = iv h0 11 ∧ iv2 h0 12 = iv h0 12 ∧ iv2 h0 13 = iv h0 13) ∧ (iv2 (sk 2) 2 = iv (sk 2) 2 ∧ (∀ ss, CT iv rv (sk 2) ss → CT iv2 rv2 (sk 2) ss)) ∧ (iv2 (sk 3) 2 = iv (sk 3) 2 ∧ (∀ tt, CT iv rv (sk 3) tt → CT iv2 rv2 (sk 3) tt)) ∧ PSAME sk iv rv iv2 rv2 ∧ (∃ g, WT g sk L cl ln iv rv ∧ WT g sk L2 cl2 ln2 iv2 rv2) ∧ SKL sk L cl ∧ XT L cl ln L2 cl2 ln2 ∧ (KP L cl (fun _ => False) (fun _ => False) (fun _ => False) (fun _ => False) (fun _ _ => False) iv rv iv2 rv2)) := by
  intro n L cl ln iv rv sk hn hp
  obtain ⟨hW, hS, hm, h23, ht⟩ := hp
  refine hv3 (show ty L cl (sk 23) 23 from ⟨(hS 23 rfl).1, by rw [(hS 23 rfl).2]; rfl⟩) (show ty L cl (sk 2) 2 from ⟨(hS 2 rfl).1, by rw [(hS 2 rfl).2]; rfl⟩) (show ty L cl (sk 3) 3 from ⟨(hS 3 rfl).1, by rw [(hS 3 rfl).2]; rfl⟩) (fun t23 t2 t3 => ?_)
  refine ⟨0, _, by decide, C_pages hW hS ht  , fun v L2 cl2 ln2 iv2 rv2 h => ?_⟩
  obtain ⟨f, rfl, rfl, rfl, rfl, rfl, rfl, rg, ex⟩ := h
  exact ⟨f, rfl, by omega, XT.refl, hW, hm, (by omega), ⟨⟨trivial, ⟨KSQ.refl, KSC.refl, rfl, rfl, ⟨rfl, fun ss hs => hs⟩, ⟨rfl, fun ss hs => hs⟩, FKP.refl⟩⟩, ⟨rfl, rfl, rfl, rfl⟩, ⟨rfl, fun ss hs => hs⟩, ⟨rfl, fun tt ht => ht⟩, PSAME.refl, ⟨⟨_, hW, hW⟩, hS, XT.refl, KP.refl⟩⟩⟩
theorem PO_length {l : Launch} {G : GT} {mi h0 : Nat} {i : Int} (h_i : -2147483648 ≤ i ∧ i ≤ 2147483647) : PressOp l G mi yX11_length cX11_length 3 (some .int) 2 [.int (iI i)] h0 (fun sk L cl ln iv rv L2 cl2 ln2 iv2 rv2 f => (True ∧ (KSQ h0 iv rv iv2 rv2 ∧ KSC h0 iv rv iv2 rv2 ∧ iv2 h0 15 = iv h0 15 ∧ iv2 h0 16 = iv h0 16 ∧ (iv2 (sk 5) 2 = iv (sk 5) 2 ∧ ∀ ss, CT iv rv (sk 5) ss → CT iv2 rv2 (sk 5) ss) ∧ (iv2 (sk 4) 2 = iv (sk 4) 2 ∧ ∀ ss, CT iv rv (sk 4) ss → CT iv2 rv2 (sk 4) ss) ∧ FKP sk iv rv iv2 rv2)) ∧ (iv2 h0 14 = iv h0 14 ∧ iv2 h0 11 = iv h0 11 ∧ iv2 h0 12 = iv h0 12 ∧ iv2 h0 13 = iv h0 13) ∧ (iv2 (sk 2) 2 = iv (sk 2) 2 ∧ (∀ ss, CT iv rv (sk 2) ss → CT iv2 rv2 (sk 2) ss)) ∧ (iv2 (sk 3) 2 = iv (sk 3) 2 ∧ (∀ tt, CT iv rv (sk 3) tt → CT iv2 rv2 (sk 3) tt)) ∧ PSAME sk iv rv iv2 rv2 ∧ (∃ g, WT g sk L cl ln iv rv ∧ WT g sk L2 cl2 ln2 iv2 rv2) ∧ SKL sk L cl ∧ XT L cl ln L2 cl2 ln2 ∧ (KP L cl (fun _ => False) (fun _ => False) (fun _ => False) (fun _ => False) (fun _ _ => False) iv rv iv2 rv2)) := by
  intro n L cl ln iv rv sk hn hp
  obtain ⟨hW, hS, hm, h23, ht⟩ := hp
  refine hv3 (show ty L cl (sk 23) 23 from ⟨(hS 23 rfl).1, by rw [(hS 23 rfl).2]; rfl⟩) (show ty L cl (sk 2) 2 from ⟨(hS 2 rfl).1, by rw [(hS 2 rfl).2]; rfl⟩) (show ty L cl (sk 3) 3 from ⟨(hS 3 rfl).1, by rw [(hS 3 rfl).2]; rfl⟩) (fun t23 t2 t3 => ?_)
  refine ⟨0, _, by decide, C_length hW hS ht h_i , fun v L2 cl2 ln2 iv2 rv2 h => ?_⟩
  obtain ⟨f, rfl, rfl, rfl, rfl, rfl, hF, hW2, rg, ex, kp11, kp12, kp13, kp14, kp15, kp16⟩ := h
  exact ⟨f, rfl, by omega, XT.refl, hW2, (MRK.call hm hW hS XT.refl hF rfl rfl), (by have q := hF.i t23 rfl 2; omega), ⟨⟨trivial, ⟨(KSQ.ni hW ht hF rfl), (KSC.fr hW ht hF rfl rfl rfl rfl rfl rfl), kp15, kp16, ⟨hF.i (tysq (t := 5) hS rfl rfl) rfl 2, fun ss hs => CT.fr hs hW (tysq (t := 5) hS rfl rfl) hF rfl rfl rfl rfl rfl⟩, ⟨hF.i (tysq (t := 4) hS rfl rfl) rfl 2, fun ss hs => CT.fr hs hW (tysq (t := 4) hS rfl rfl) hF rfl rfl rfl rfl rfl⟩, (FKP.fr hW hS hF rfl rfl rfl rfl)⟩⟩, ⟨kp14, kp11, kp12, kp13⟩, ⟨hF.i t2 rfl 2, fun ss hs => CT.fr hs hW t2 hF rfl rfl rfl rfl rfl⟩, ⟨hF.i t3 rfl 2, fun tt ht => CT.fr ht hW t3 hF rfl rfl rfl rfl rfl⟩, (PSAME.fr hW hS hF rfl rfl rfl rfl rfl rfl rfl), ⟨⟨_, hW, hW2⟩, hS, XT.refl, (KP.fr hW hF rfl)⟩⟩⟩
theorem PO_cell {l : Launch} {G : GT} {mi h0 : Nat} {i : Int} {j : Int} (h_i : -2147483648 ≤ i ∧ i ≤ 2147483647) (h_j : -2147483648 ≤ j ∧ j ≤ 2147483647) : PressOp l G mi yX11_cell cX11_cell 3 (some .int) 3 [.int (iI i), .int (iI j)] h0 (fun sk L cl ln iv rv L2 cl2 ln2 iv2 rv2 f => (True ∧ (KSQ h0 iv rv iv2 rv2 ∧ KSC h0 iv rv iv2 rv2 ∧ iv2 h0 15 = iv h0 15 ∧ iv2 h0 16 = iv h0 16 ∧ (iv2 (sk 5) 2 = iv (sk 5) 2 ∧ ∀ ss, CT iv rv (sk 5) ss → CT iv2 rv2 (sk 5) ss) ∧ (iv2 (sk 4) 2 = iv (sk 4) 2 ∧ ∀ ss, CT iv rv (sk 4) ss → CT iv2 rv2 (sk 4) ss) ∧ FKP sk iv rv iv2 rv2)) ∧ (iv2 h0 14 = iv h0 14 ∧ iv2 h0 11 = iv h0 11 ∧ iv2 h0 12 = iv h0 12 ∧ iv2 h0 13 = iv h0 13) ∧ (iv2 (sk 2) 2 = iv (sk 2) 2 ∧ (∀ ss, CT iv rv (sk 2) ss → CT iv2 rv2 (sk 2) ss)) ∧ (iv2 (sk 3) 2 = iv (sk 3) 2 ∧ (∀ tt, CT iv rv (sk 3) tt → CT iv2 rv2 (sk 3) tt)) ∧ PSAME sk iv rv iv2 rv2 ∧ (∃ g, WT g sk L cl ln iv rv ∧ WT g sk L2 cl2 ln2 iv2 rv2) ∧ SKL sk L cl ∧ XT L cl ln L2 cl2 ln2 ∧ (KP L cl (fun _ => False) (fun _ => False) (fun _ => False) (fun _ => False) (fun _ _ => False) iv rv iv2 rv2)) := by
  intro n L cl ln iv rv sk hn hp
  obtain ⟨hW, hS, hm, h23, ht⟩ := hp
  refine hv3 (show ty L cl (sk 23) 23 from ⟨(hS 23 rfl).1, by rw [(hS 23 rfl).2]; rfl⟩) (show ty L cl (sk 2) 2 from ⟨(hS 2 rfl).1, by rw [(hS 2 rfl).2]; rfl⟩) (show ty L cl (sk 3) 3 from ⟨(hS 3 rfl).1, by rw [(hS 3 rfl).2]; rfl⟩) (fun t23 t2 t3 => ?_)
  refine ⟨0, _, by decide, C_cell hW hS ht h_i h_j , fun v L2 cl2 ln2 iv2 rv2 h => ?_⟩
  obtain ⟨f, rfl, rfl, rfl, rfl, rfl, hF, hW2, rg, ex, kp11, kp12, kp13, kp14, kp15, kp16⟩ := h
  exact ⟨f, rfl, by omega, XT.refl, hW2, (MRK.call hm hW hS XT.refl hF rfl rfl), (by have q := hF.i t23 rfl 2; omega), ⟨⟨trivial, ⟨(KSQ.ni hW ht hF rfl), (KSC.fr hW ht hF rfl rfl rfl rfl rfl rfl), kp15, kp16, ⟨hF.i (tysq (t := 5) hS rfl rfl) rfl 2, fun ss hs => CT.fr hs hW (tysq (t := 5) hS rfl rfl) hF rfl rfl rfl rfl rfl⟩, ⟨hF.i (tysq (t := 4) hS rfl rfl) rfl 2, fun ss hs => CT.fr hs hW (tysq (t := 4) hS rfl rfl) hF rfl rfl rfl rfl rfl⟩, (FKP.fr hW hS hF rfl rfl rfl rfl)⟩⟩, ⟨kp14, kp11, kp12, kp13⟩, ⟨hF.i t2 rfl 2, fun ss hs => CT.fr hs hW t2 hF rfl rfl rfl rfl rfl⟩, ⟨hF.i t3 rfl 2, fun tt ht => CT.fr ht hW t3 hF rfl rfl rfl rfl rfl⟩, (PSAME.fr hW hS hF rfl rfl rfl rfl rfl rfl rfl), ⟨⟨_, hW, hW2⟩, hS, XT.refl, (KP.fr hW hF rfl)⟩⟩⟩
theorem PO_copied {l : Launch} {G : GT} {mi h0 : Nat} : PressOp l G mi yX11_copied cX11_copied 1 (some .int) 0 [] h0 (fun sk L cl ln iv rv L2 cl2 ln2 iv2 rv2 f => (True ∧ (KSQ h0 iv rv iv2 rv2 ∧ KSC h0 iv rv iv2 rv2 ∧ iv2 h0 15 = iv h0 15 ∧ iv2 h0 16 = iv h0 16 ∧ (iv2 (sk 5) 2 = iv (sk 5) 2 ∧ ∀ ss, CT iv rv (sk 5) ss → CT iv2 rv2 (sk 5) ss) ∧ (iv2 (sk 4) 2 = iv (sk 4) 2 ∧ ∀ ss, CT iv rv (sk 4) ss → CT iv2 rv2 (sk 4) ss) ∧ FKP sk iv rv iv2 rv2)) ∧ (iv2 h0 14 = iv h0 14 ∧ iv2 h0 11 = iv h0 11 ∧ iv2 h0 12 = iv h0 12 ∧ iv2 h0 13 = iv h0 13) ∧ (iv2 (sk 2) 2 = iv (sk 2) 2 ∧ (∀ ss, CT iv rv (sk 2) ss → CT iv2 rv2 (sk 2) ss)) ∧ (iv2 (sk 3) 2 = iv (sk 3) 2 ∧ (∀ tt, CT iv rv (sk 3) tt → CT iv2 rv2 (sk 3) tt)) ∧ PSAME sk iv rv iv2 rv2 ∧ (∃ g, WT g sk L cl ln iv rv ∧ WT g sk L2 cl2 ln2 iv2 rv2) ∧ SKL sk L cl ∧ XT L cl ln L2 cl2 ln2 ∧ (KP L cl (fun _ => False) (fun _ => False) (fun _ => False) (fun _ => False) (fun _ _ => False) iv rv iv2 rv2)) := by
  intro n L cl ln iv rv sk hn hp
  obtain ⟨hW, hS, hm, h23, ht⟩ := hp
  refine hv3 (show ty L cl (sk 23) 23 from ⟨(hS 23 rfl).1, by rw [(hS 23 rfl).2]; rfl⟩) (show ty L cl (sk 2) 2 from ⟨(hS 2 rfl).1, by rw [(hS 2 rfl).2]; rfl⟩) (show ty L cl (sk 3) 3 from ⟨(hS 3 rfl).1, by rw [(hS 3 rfl).2]; rfl⟩) (fun t23 t2 t3 => ?_)
  refine ⟨0, _, by decide, C_copied hW hS ht  , fun v L2 cl2 ln2 iv2 rv2 h => ?_⟩
  obtain ⟨f, rfl, rfl, rfl, rfl, rfl, rfl, rg, ex⟩ := h
  exact ⟨f, rfl, by omega, XT.refl, hW, hm, (by omega), ⟨⟨trivial, ⟨KSQ.refl, KSC.refl, rfl, rfl, ⟨rfl, fun ss hs => hs⟩, ⟨rfl, fun ss hs => hs⟩, FKP.refl⟩⟩, ⟨rfl, rfl, rfl, rfl⟩, ⟨rfl, fun ss hs => hs⟩, ⟨rfl, fun tt ht => ht⟩, PSAME.refl, ⟨⟨_, hW, hW⟩, hS, XT.refl, KP.refl⟩⟩⟩
theorem PO_closed {l : Launch} {G : GT} {mi h0 : Nat} : PressOp l G mi yX11_closed cX11_closed 1 (some .int) 0 [] h0 (fun sk L cl ln iv rv L2 cl2 ln2 iv2 rv2 f => (True ∧ (KSQ h0 iv rv iv2 rv2 ∧ KSC h0 iv rv iv2 rv2 ∧ iv2 h0 15 = iv h0 15 ∧ iv2 h0 16 = iv h0 16 ∧ (iv2 (sk 5) 2 = iv (sk 5) 2 ∧ ∀ ss, CT iv rv (sk 5) ss → CT iv2 rv2 (sk 5) ss) ∧ (iv2 (sk 4) 2 = iv (sk 4) 2 ∧ ∀ ss, CT iv rv (sk 4) ss → CT iv2 rv2 (sk 4) ss) ∧ FKP sk iv rv iv2 rv2)) ∧ (iv2 h0 14 = iv h0 14 ∧ iv2 h0 11 = iv h0 11 ∧ iv2 h0 12 = iv h0 12 ∧ iv2 h0 13 = iv h0 13) ∧ (iv2 (sk 2) 2 = iv (sk 2) 2 ∧ (∀ ss, CT iv rv (sk 2) ss → CT iv2 rv2 (sk 2) ss)) ∧ (iv2 (sk 3) 2 = iv (sk 3) 2 ∧ (∀ tt, CT iv rv (sk 3) tt → CT iv2 rv2 (sk 3) tt)) ∧ PSAME sk iv rv iv2 rv2 ∧ (∃ g, WT g sk L cl ln iv rv ∧ WT g sk L2 cl2 ln2 iv2 rv2) ∧ SKL sk L cl ∧ XT L cl ln L2 cl2 ln2 ∧ (KP L cl (fun _ => False) (fun _ => False) (fun _ => False) (fun _ => False) (fun _ _ => False) iv rv iv2 rv2)) := by
  intro n L cl ln iv rv sk hn hp
  obtain ⟨hW, hS, hm, h23, ht⟩ := hp
  refine hv3 (show ty L cl (sk 23) 23 from ⟨(hS 23 rfl).1, by rw [(hS 23 rfl).2]; rfl⟩) (show ty L cl (sk 2) 2 from ⟨(hS 2 rfl).1, by rw [(hS 2 rfl).2]; rfl⟩) (show ty L cl (sk 3) 3 from ⟨(hS 3 rfl).1, by rw [(hS 3 rfl).2]; rfl⟩) (fun t23 t2 t3 => ?_)
  refine ⟨0, _, by decide, C_closed hW hS ht  , fun v L2 cl2 ln2 iv2 rv2 h => ?_⟩
  obtain ⟨f, rfl, rfl, rfl, rfl, rfl, rfl, rg, ex⟩ := h
  exact ⟨f, rfl, by omega, XT.refl, hW, hm, (by omega), ⟨⟨trivial, ⟨KSQ.refl, KSC.refl, rfl, rfl, ⟨rfl, fun ss hs => hs⟩, ⟨rfl, fun ss hs => hs⟩, FKP.refl⟩⟩, ⟨rfl, rfl, rfl, rfl⟩, ⟨rfl, fun ss hs => hs⟩, ⟨rfl, fun tt ht => ht⟩, PSAME.refl, ⟨⟨_, hW, hW⟩, hS, XT.refl, KP.refl⟩⟩⟩
theorem PO_read {l : Launch} {G : GT} {mi h0 : Nat} {i : Int} {x : Int} {n : Int} (h_i : -2147483648 ≤ i ∧ i ≤ 2147483647) (h_x : -2147483648 ≤ x ∧ x ≤ 2147483647) (h_n : -2147483648 ≤ n ∧ n ≤ 2147483647) : PressOp l G mi yX11_read cX11_read 6 (some .int) 10 [.int (iI i), .int (iI x), .int (iI n)] h0 (fun sk L cl ln iv rv L2 cl2 ln2 iv2 rv2 f => (True ∧ (KSQ h0 iv rv iv2 rv2 ∧ KSC h0 iv rv iv2 rv2 ∧ iv2 h0 15 = iv h0 15 ∧ iv2 h0 16 = iv h0 16 ∧ (iv2 (sk 5) 2 = iv (sk 5) 2 ∧ ∀ ss, CT iv rv (sk 5) ss → CT iv2 rv2 (sk 5) ss) ∧ True ∧ FKP sk iv rv iv2 rv2)) ∧ (iv2 h0 14 = iv h0 14 ∧ iv2 h0 11 = iv h0 11 ∧ iv2 h0 12 = iv h0 12 ∧ iv2 h0 13 = iv h0 13) ∧ (iv2 (sk 2) 2 = iv (sk 2) 2 ∧ (∀ ss, CT iv rv (sk 2) ss → CT iv2 rv2 (sk 2) ss)) ∧ (iv2 (sk 3) 2 = iv (sk 3) 2 ∧ (∀ tt, CT iv rv (sk 3) tt → CT iv2 rv2 (sk 3) tt)) ∧ PSAME sk iv rv iv2 rv2 ∧ (∃ g, WT g sk L cl ln iv rv ∧ WT g sk L2 cl2 ln2 iv2 rv2) ∧ SKL sk L cl ∧ XT L cl ln L2 cl2 ln2 ∧ (KP L cl (fun _ => False) (fun _ => False) (fun _ => False) (fun _ => False) (fun _ _ => False) iv rv iv2 rv2)) := by
  intro n L cl ln iv rv sk hn hp
  obtain ⟨hW, hS, hm, h23, ht⟩ := hp
  refine hv3 (show ty L cl (sk 23) 23 from ⟨(hS 23 rfl).1, by rw [(hS 23 rfl).2]; rfl⟩) (show ty L cl (sk 2) 2 from ⟨(hS 2 rfl).1, by rw [(hS 2 rfl).2]; rfl⟩) (show ty L cl (sk 3) 3 from ⟨(hS 3 rfl).1, by rw [(hS 3 rfl).2]; rfl⟩) (fun t23 t2 t3 => ?_)
  refine ⟨0, _, by decide, C_read hW hS ht h_i h_x h_n hm, fun v L2 cl2 ln2 iv2 rv2 h => ?_⟩
  obtain ⟨f, rfl, hX, hF, hW2, rg, ex, kp11, kp12, kp13, kp14, kp15, kp16, kr9, kr10⟩ := h
  exact ⟨f, rfl, by omega, hX, hW2, (MRK.call hm hW hS hX hF rfl rfl), (by have q := hF.i t23 rfl 2; omega), ⟨⟨trivial, ⟨(KSQ.fr hW ht hF kr9 kr10 rfl rfl rfl), (KSC.fr hW ht hF kr9 kr10 rfl rfl rfl rfl), kp15, kp16, ⟨hF.i (tysq (t := 5) hS rfl rfl) rfl 2, fun ss hs => CT.fr hs hW (tysq (t := 5) hS rfl rfl) hF rfl rfl rfl rfl rfl⟩, trivial, (FKP.fr hW hS hF rfl rfl rfl rfl)⟩⟩, ⟨kp14, kp11, kp12, kp13⟩, ⟨hF.i t2 rfl 2, fun ss hs => CT.fr hs hW t2 hF rfl rfl rfl rfl rfl⟩, ⟨hF.i t3 rfl 2, fun tt ht => CT.fr ht hW t3 hF rfl rfl rfl rfl rfl⟩, (PSAME.fr hW hS hF rfl rfl rfl rfl rfl rfl rfl), ⟨⟨_, hW, hW2⟩, hS, hX, (KP.fr hW hF rfl)⟩⟩⟩
theorem PO_letter {l : Launch} {G : GT} {mi h0 : Nat} {i : Int} (h_i : -2147483648 ≤ i ∧ i ≤ 2147483647) : PressOp l G mi yX11_letter cX11_letter 2 (some .int) 1 [.int (iI i)] h0 (fun sk L cl ln iv rv L2 cl2 ln2 iv2 rv2 f => (True ∧ (KSQ h0 iv rv iv2 rv2 ∧ KSC h0 iv rv iv2 rv2 ∧ iv2 h0 15 = iv h0 15 ∧ iv2 h0 16 = iv h0 16 ∧ (iv2 (sk 5) 2 = iv (sk 5) 2 ∧ ∀ ss, CT iv rv (sk 5) ss → CT iv2 rv2 (sk 5) ss) ∧ (iv2 (sk 4) 2 = iv (sk 4) 2 ∧ ∀ ss, CT iv rv (sk 4) ss → CT iv2 rv2 (sk 4) ss) ∧ FKP sk iv rv iv2 rv2)) ∧ (iv2 h0 14 = iv h0 14 ∧ iv2 h0 11 = iv h0 11 ∧ iv2 h0 12 = iv h0 12 ∧ iv2 h0 13 = iv h0 13) ∧ (iv2 (sk 2) 2 = iv (sk 2) 2 ∧ (∀ ss, CT iv rv (sk 2) ss → CT iv2 rv2 (sk 2) ss)) ∧ (iv2 (sk 3) 2 = iv (sk 3) 2 ∧ (∀ tt, CT iv rv (sk 3) tt → CT iv2 rv2 (sk 3) tt)) ∧ PSAME sk iv rv iv2 rv2 ∧ (∃ g, WT g sk L cl ln iv rv ∧ WT g sk L2 cl2 ln2 iv2 rv2) ∧ SKL sk L cl ∧ XT L cl ln L2 cl2 ln2 ∧ (KP L cl (fun _ => False) (fun _ => False) (fun _ => False) (fun _ => False) (fun _ _ => False) iv rv iv2 rv2)) := by
  intro n L cl ln iv rv sk hn hp
  obtain ⟨hW, hS, hm, h23, ht⟩ := hp
  refine hv3 (show ty L cl (sk 23) 23 from ⟨(hS 23 rfl).1, by rw [(hS 23 rfl).2]; rfl⟩) (show ty L cl (sk 2) 2 from ⟨(hS 2 rfl).1, by rw [(hS 2 rfl).2]; rfl⟩) (show ty L cl (sk 3) 3 from ⟨(hS 3 rfl).1, by rw [(hS 3 rfl).2]; rfl⟩) (fun t23 t2 t3 => ?_)
  refine ⟨0, _, by decide, C_letter hW hS ht h_i , fun v L2 cl2 ln2 iv2 rv2 h => ?_⟩
  obtain ⟨f, rfl, rfl, rfl, rfl, rfl, hF, hW2, rg, ex, kp11, kp12, kp13, kp14, kp15, kp16⟩ := h
  exact ⟨f, rfl, by omega, XT.refl, hW2, (MRK.call hm hW hS XT.refl hF rfl rfl), (by have q := hF.i t23 rfl 2; omega), ⟨⟨trivial, ⟨(KSQ.ni hW ht hF rfl), (KSC.fr hW ht hF rfl rfl rfl rfl rfl rfl), kp15, kp16, ⟨hF.i (tysq (t := 5) hS rfl rfl) rfl 2, fun ss hs => CT.fr hs hW (tysq (t := 5) hS rfl rfl) hF rfl rfl rfl rfl rfl⟩, ⟨hF.i (tysq (t := 4) hS rfl rfl) rfl 2, fun ss hs => CT.fr hs hW (tysq (t := 4) hS rfl rfl) hF rfl rfl rfl rfl rfl⟩, (FKP.fr hW hS hF rfl rfl rfl rfl)⟩⟩, ⟨kp14, kp11, kp12, kp13⟩, ⟨hF.i t2 rfl 2, fun ss hs => CT.fr hs hW t2 hF rfl rfl rfl rfl rfl⟩, ⟨hF.i t3 rfl 2, fun tt ht => CT.fr ht hW t3 hF rfl rfl rfl rfl rfl⟩, (PSAME.fr hW hS hF rfl rfl rfl rfl rfl rfl rfl), ⟨⟨_, hW, hW2⟩, hS, XT.refl, (KP.fr hW hF rfl)⟩⟩⟩
theorem PO_failed {l : Launch} {G : GT} {mi h0 : Nat} {i : Int} {x : Int} (h_i : -2147483648 ≤ i ∧ i ≤ 2147483647) (h_x : -2147483648 ≤ x ∧ x ≤ 2147483647) : PressOp l G mi yX11_failed cX11_failed 4 (some .int) 1 [.int (iI i), .int (iI x)] h0 (fun sk L cl ln iv rv L2 cl2 ln2 iv2 rv2 f => (True ∧ (KSQ h0 iv rv iv2 rv2 ∧ KSC h0 iv rv iv2 rv2 ∧ iv2 h0 15 = iv h0 15 ∧ iv2 h0 16 = iv h0 16 ∧ (iv2 (sk 5) 2 = iv (sk 5) 2 ∧ ∀ ss, CT iv rv (sk 5) ss → CT iv2 rv2 (sk 5) ss) ∧ (iv2 (sk 4) 2 = iv (sk 4) 2 ∧ ∀ ss, CT iv rv (sk 4) ss → CT iv2 rv2 (sk 4) ss) ∧ FKP sk iv rv iv2 rv2)) ∧ ((((i < 0 ∨ 7 < i) ∧ f = -1 ∧ iv2 h0 14 = iv h0 14) ∨ (0 ≤ i ∧ i ≤ 7 ∧ iI (iv2 h0 14) = fdv (iI (iv h0 14)) i x ∧ iI f = bcn (iI (iv2 h0 14)))) ∧ iv2 h0 11 = iv h0 11 ∧ iv2 h0 12 = iv h0 12 ∧ iv2 h0 13 = iv h0 13) ∧ (iv2 (sk 2) 2 = iv (sk 2) 2 ∧ (∀ ss, CT iv rv (sk 2) ss → CT iv2 rv2 (sk 2) ss)) ∧ (iv2 (sk 3) 2 = iv (sk 3) 2 ∧ (∀ tt, CT iv rv (sk 3) tt → CT iv2 rv2 (sk 3) tt)) ∧ PSAME sk iv rv iv2 rv2 ∧ (∃ g, WT g sk L cl ln iv rv ∧ WT g sk L2 cl2 ln2 iv2 rv2) ∧ SKL sk L cl ∧ XT L cl ln L2 cl2 ln2 ∧ (KP L cl (fun _ => False) (fun _ => False) (fun _ => False) (fun _ => False) (fun _ _ => False) iv rv iv2 rv2)) := by
  intro n L cl ln iv rv sk hn hp
  obtain ⟨hW, hS, hm, h23, ht⟩ := hp
  refine hv3 (show ty L cl (sk 23) 23 from ⟨(hS 23 rfl).1, by rw [(hS 23 rfl).2]; rfl⟩) (show ty L cl (sk 2) 2 from ⟨(hS 2 rfl).1, by rw [(hS 2 rfl).2]; rfl⟩) (show ty L cl (sk 3) 3 from ⟨(hS 3 rfl).1, by rw [(hS 3 rfl).2]; rfl⟩) (fun t23 t2 t3 => ?_)
  refine ⟨0, _, by decide, C_failed2 hW hS ht h_i h_x , fun v L2 cl2 ln2 iv2 rv2 h => ?_⟩
  obtain ⟨f, rfl, rfl, rfl, rfl, rfl, hF, hW2, rg, ex, kp11, kp12, kp13, kp15, kp16⟩ := h
  exact ⟨f, rfl, by omega, XT.refl, hW2, (MRK.call hm hW hS XT.refl hF rfl rfl), (by have q := hF.i t23 rfl 2; omega), ⟨⟨trivial, ⟨(KSQ.ni hW ht hF rfl), (KSC.fr hW ht hF rfl rfl rfl rfl rfl rfl), kp15, kp16, ⟨hF.i (tysq (t := 5) hS rfl rfl) rfl 2, fun ss hs => CT.fr hs hW (tysq (t := 5) hS rfl rfl) hF rfl rfl rfl rfl rfl⟩, ⟨hF.i (tysq (t := 4) hS rfl rfl) rfl 2, fun ss hs => CT.fr hs hW (tysq (t := 4) hS rfl rfl) hF rfl rfl rfl rfl rfl⟩, (FKP.fr hW hS hF rfl rfl rfl rfl)⟩⟩, ⟨ex, kp11, kp12, kp13⟩, ⟨hF.i t2 rfl 2, fun ss hs => CT.fr hs hW t2 hF rfl rfl rfl rfl rfl⟩, ⟨hF.i t3 rfl 2, fun tt ht => CT.fr ht hW t3 hF rfl rfl rfl rfl rfl⟩, (PSAME.fr hW hS hF rfl rfl rfl rfl rfl rfl rfl), ⟨⟨_, hW, hW2⟩, hS, XT.refl, (KP.fr hW hF rfl)⟩⟩⟩
theorem PO_readings {l : Launch} {G : GT} {mi h0 : Nat} {i : Int} {j : Int} {n : Int} (h_i : -2147483648 ≤ i ∧ i ≤ 2147483647) (h_j : -2147483648 ≤ j ∧ j ≤ 2147483647) (h_n : -2147483648 ≤ n ∧ n ≤ 2147483647) : PressOp l G mi yX11_readings cX11_readings 6 (some .int) 10 [.int (iI i), .int (iI j), .int (iI n)] h0 (fun sk L cl ln iv rv L2 cl2 ln2 iv2 rv2 f => (True ∧ (KSQ h0 iv rv iv2 rv2 ∧ KSC h0 iv rv iv2 rv2 ∧ iv2 h0 15 = iv h0 15 ∧ iv2 h0 16 = iv h0 16 ∧ (iv2 (sk 5) 2 = iv (sk 5) 2 ∧ ∀ ss, CT iv rv (sk 5) ss → CT iv2 rv2 (sk 5) ss) ∧ (iv2 (sk 4) 2 = iv (sk 4) 2 ∧ ∀ ss, CT iv rv (sk 4) ss → CT iv2 rv2 (sk 4) ss) ∧ True)) ∧ (iv2 h0 14 = iv h0 14 ∧ iv2 h0 11 = iv h0 11 ∧ iv2 h0 12 = iv h0 12 ∧ iv2 h0 13 = iv h0 13) ∧ (iv2 (sk 2) 2 = iv (sk 2) 2 ∧ (∀ ss, CT iv rv (sk 2) ss → CT iv2 rv2 (sk 2) ss)) ∧ (iv2 (sk 3) 2 = iv (sk 3) 2 ∧ (∀ tt, CT iv rv (sk 3) tt → CT iv2 rv2 (sk 3) tt)) ∧ PSAME sk iv rv iv2 rv2 ∧ (∃ g, WT g sk L cl ln iv rv ∧ WT g sk L2 cl2 ln2 iv2 rv2) ∧ SKL sk L cl ∧ XT L cl ln L2 cl2 ln2 ∧ (KP L cl (fun _ => False) (fun _ => False) (fun _ => False) (fun _ => False) (fun _ _ => False) iv rv iv2 rv2)) := by
  intro n L cl ln iv rv sk hn hp
  obtain ⟨hW, hS, hm, h23, ht⟩ := hp
  refine hv3 (show ty L cl (sk 23) 23 from ⟨(hS 23 rfl).1, by rw [(hS 23 rfl).2]; rfl⟩) (show ty L cl (sk 2) 2 from ⟨(hS 2 rfl).1, by rw [(hS 2 rfl).2]; rfl⟩) (show ty L cl (sk 3) 3 from ⟨(hS 3 rfl).1, by rw [(hS 3 rfl).2]; rfl⟩) (fun t23 t2 t3 => ?_)
  refine ⟨0, _, by decide, C_readings hW hS ht h_i h_j h_n hm, fun v L2 cl2 ln2 iv2 rv2 h => ?_⟩
  obtain ⟨f, rfl, hX, hF, hW2, rg, ex, kp11, kp12, kp13, kp14, kp15, kp16, kr9, kr10⟩ := h
  exact ⟨f, rfl, by omega, hX, hW2, (MRK.call hm hW hS hX hF rfl rfl), (by have q := hF.i t23 rfl 2; omega), ⟨⟨trivial, ⟨(KSQ.fr hW ht hF kr9 kr10 rfl rfl rfl), (KSC.fr hW ht hF kr9 kr10 rfl rfl rfl rfl), kp15, kp16, ⟨hF.i (tysq (t := 5) hS rfl rfl) rfl 2, fun ss hs => CT.fr hs hW (tysq (t := 5) hS rfl rfl) hF rfl rfl rfl rfl rfl⟩, ⟨hF.i (tysq (t := 4) hS rfl rfl) rfl 2, fun ss hs => CT.fr hs hW (tysq (t := 4) hS rfl rfl) hF rfl rfl rfl rfl rfl⟩, trivial⟩⟩, ⟨kp14, kp11, kp12, kp13⟩, ⟨hF.i t2 rfl 2, fun ss hs => CT.fr hs hW t2 hF rfl rfl rfl rfl rfl⟩, ⟨hF.i t3 rfl 2, fun tt ht => CT.fr ht hW t3 hF rfl rfl rfl rfl rfl⟩, (PSAME.fr hW hS hF rfl rfl rfl rfl rfl rfl rfl), ⟨⟨_, hW, hW2⟩, hS, hX, (KP.fr hW hF rfl)⟩⟩⟩
theorem PO_more {l : Launch} {G : GT} {mi h0 : Nat} : PressOp l G mi yX11_more cX11_more 1 (some .int) 0 [] h0 (fun sk L cl ln iv rv L2 cl2 ln2 iv2 rv2 f => (True ∧ (KSQ h0 iv rv iv2 rv2 ∧ KSC h0 iv rv iv2 rv2 ∧ iv2 h0 15 = iv h0 15 ∧ iv2 h0 16 = iv h0 16 ∧ (iv2 (sk 5) 2 = iv (sk 5) 2 ∧ ∀ ss, CT iv rv (sk 5) ss → CT iv2 rv2 (sk 5) ss) ∧ (iv2 (sk 4) 2 = iv (sk 4) 2 ∧ ∀ ss, CT iv rv (sk 4) ss → CT iv2 rv2 (sk 4) ss) ∧ FKP sk iv rv iv2 rv2)) ∧ (iv2 h0 14 = iv h0 14 ∧ iv2 h0 11 = iv h0 11 ∧ iv2 h0 12 = iv h0 12 ∧ iv2 h0 13 = iv h0 13) ∧ (iv2 (sk 2) 2 = iv (sk 2) 2 ∧ (∀ ss, CT iv rv (sk 2) ss → CT iv2 rv2 (sk 2) ss)) ∧ (iv2 (sk 3) 2 = iv (sk 3) 2 ∧ (∀ tt, CT iv rv (sk 3) tt → CT iv2 rv2 (sk 3) tt)) ∧ PSAME sk iv rv iv2 rv2 ∧ (∃ g, WT g sk L cl ln iv rv ∧ WT g sk L2 cl2 ln2 iv2 rv2) ∧ SKL sk L cl ∧ XT L cl ln L2 cl2 ln2 ∧ (KP L cl (fun _ => False) (fun _ => False) (fun _ => False) (fun _ => False) (fun _ _ => False) iv rv iv2 rv2)) := by
  intro n L cl ln iv rv sk hn hp
  obtain ⟨hW, hS, hm, h23, ht⟩ := hp
  refine hv3 (show ty L cl (sk 23) 23 from ⟨(hS 23 rfl).1, by rw [(hS 23 rfl).2]; rfl⟩) (show ty L cl (sk 2) 2 from ⟨(hS 2 rfl).1, by rw [(hS 2 rfl).2]; rfl⟩) (show ty L cl (sk 3) 3 from ⟨(hS 3 rfl).1, by rw [(hS 3 rfl).2]; rfl⟩) (fun t23 t2 t3 => ?_)
  refine ⟨0, _, by decide, C_more hW hS ht  , fun v L2 cl2 ln2 iv2 rv2 h => ?_⟩
  obtain ⟨f, rfl, rfl, rfl, rfl, rfl, rfl, rg, ex⟩ := h
  exact ⟨f, rfl, by omega, XT.refl, hW, hm, (by omega), ⟨⟨trivial, ⟨KSQ.refl, KSC.refl, rfl, rfl, ⟨rfl, fun ss hs => hs⟩, ⟨rfl, fun ss hs => hs⟩, FKP.refl⟩⟩, ⟨rfl, rfl, rfl, rfl⟩, ⟨rfl, fun ss hs => hs⟩, ⟨rfl, fun tt ht => ht⟩, PSAME.refl, ⟨⟨_, hW, hW⟩, hS, XT.refl, KP.refl⟩⟩⟩
theorem PO_reading {l : Launch} {G : GT} {mi h0 : Nat} {i : Int} {j : Int} (h_i : -2147483648 ≤ i ∧ i ≤ 2147483647) (h_j : -2147483648 ≤ j ∧ j ≤ 2147483647) : PressOp l G mi yX11_reading cX11_reading 4 (some .int) 2 [.int (iI i), .int (iI j)] h0 (fun sk L cl ln iv rv L2 cl2 ln2 iv2 rv2 f => (True ∧ (KSQ h0 iv rv iv2 rv2 ∧ KSC h0 iv rv iv2 rv2 ∧ iv2 h0 15 = iv h0 15 ∧ iv2 h0 16 = iv h0 16 ∧ (iv2 (sk 5) 2 = iv (sk 5) 2 ∧ ∀ ss, CT iv rv (sk 5) ss → CT iv2 rv2 (sk 5) ss) ∧ (iv2 (sk 4) 2 = iv (sk 4) 2 ∧ ∀ ss, CT iv rv (sk 4) ss → CT iv2 rv2 (sk 4) ss) ∧ FKP sk iv rv iv2 rv2)) ∧ (iv2 h0 14 = iv h0 14 ∧ iv2 h0 11 = iv h0 11 ∧ iv2 h0 12 = iv h0 12 ∧ iv2 h0 13 = iv h0 13) ∧ (iv2 (sk 2) 2 = iv (sk 2) 2 ∧ (∀ ss, CT iv rv (sk 2) ss → CT iv2 rv2 (sk 2) ss)) ∧ (iv2 (sk 3) 2 = iv (sk 3) 2 ∧ (∀ tt, CT iv rv (sk 3) tt → CT iv2 rv2 (sk 3) tt)) ∧ PSAME sk iv rv iv2 rv2 ∧ (∃ g, WT g sk L cl ln iv rv ∧ WT g sk L2 cl2 ln2 iv2 rv2) ∧ SKL sk L cl ∧ XT L cl ln L2 cl2 ln2 ∧ (KP L cl (fun _ => False) (fun _ => False) (fun _ => False) (fun _ => False) (fun _ _ => False) iv rv iv2 rv2)) := by
  intro n L cl ln iv rv sk hn hp
  obtain ⟨hW, hS, hm, h23, ht⟩ := hp
  refine hv3 (show ty L cl (sk 23) 23 from ⟨(hS 23 rfl).1, by rw [(hS 23 rfl).2]; rfl⟩) (show ty L cl (sk 2) 2 from ⟨(hS 2 rfl).1, by rw [(hS 2 rfl).2]; rfl⟩) (show ty L cl (sk 3) 3 from ⟨(hS 3 rfl).1, by rw [(hS 3 rfl).2]; rfl⟩) (fun t23 t2 t3 => ?_)
  refine ⟨0, _, by decide, C_reading hW hS ht h_i h_j , fun v L2 cl2 ln2 iv2 rv2 h => ?_⟩
  obtain ⟨f, rfl, rfl, rfl, rfl, rfl, hF, hW2, rg, ex, kp11, kp12, kp13, kp14, kp15, kp16⟩ := h
  exact ⟨f, rfl, by omega, XT.refl, hW2, (MRK.call hm hW hS XT.refl hF rfl rfl), (by have q := hF.i t23 rfl 2; omega), ⟨⟨trivial, ⟨(KSQ.ni hW ht hF rfl), (KSC.fr hW ht hF rfl rfl rfl rfl rfl rfl), kp15, kp16, ⟨hF.i (tysq (t := 5) hS rfl rfl) rfl 2, fun ss hs => CT.fr hs hW (tysq (t := 5) hS rfl rfl) hF rfl rfl rfl rfl rfl⟩, ⟨hF.i (tysq (t := 4) hS rfl rfl) rfl 2, fun ss hs => CT.fr hs hW (tysq (t := 4) hS rfl rfl) hF rfl rfl rfl rfl rfl⟩, (FKP.fr hW hS hF rfl rfl rfl rfl)⟩⟩, ⟨kp14, kp11, kp12, kp13⟩, ⟨hF.i t2 rfl 2, fun ss hs => CT.fr hs hW t2 hF rfl rfl rfl rfl rfl⟩, ⟨hF.i t3 rfl 2, fun tt ht => CT.fr ht hW t3 hF rfl rfl rfl rfl rfl⟩, (PSAME.fr hW hS hF rfl rfl rfl rfl rfl rfl rfl), ⟨⟨_, hW, hW2⟩, hS, XT.refl, (KP.fr hW hF rfl)⟩⟩⟩
theorem PO_judge {l : Launch} {G : GT} {mi h0 : Nat} {i : Int} (h_i : -2147483648 ≤ i ∧ i ≤ 2147483647) : PressOp l G mi yX11_judge cX11_judge 4 (some .int) 10 [.int (iI i)] h0 (fun sk L cl ln iv rv L2 cl2 ln2 iv2 rv2 f => (True ∧ (KSQ h0 iv rv iv2 rv2 ∧ KSC h0 iv rv iv2 rv2 ∧ iv2 h0 15 = iv h0 15 ∧ iv2 h0 16 = iv h0 16 ∧ (iv2 (sk 5) 2 = iv (sk 5) 2 ∧ ∀ ss, CT iv rv (sk 5) ss → CT iv2 rv2 (sk 5) ss) ∧ (iv2 (sk 4) 2 = iv (sk 4) 2 ∧ ∀ ss, CT iv rv (sk 4) ss → CT iv2 rv2 (sk 4) ss) ∧ FKP sk iv rv iv2 rv2)) ∧ (iv2 h0 14 = iv h0 14 ∧ iv2 h0 11 = iv h0 11 ∧ iv2 h0 12 = iv h0 12 ∧ iv2 h0 13 = iv h0 13) ∧ (iv2 (sk 2) 2 = iv (sk 2) 2 ∧ (∀ ss, CT iv rv (sk 2) ss → CT iv2 rv2 (sk 2) ss)) ∧ (iv2 (sk 3) 2 = iv (sk 3) 2 ∧ (∀ tt, CT iv rv (sk 3) tt → CT iv2 rv2 (sk 3) tt)) ∧ PSAME sk iv rv iv2 rv2 ∧ (∃ g, WT g sk L cl ln iv rv ∧ WT g sk L2 cl2 ln2 iv2 rv2) ∧ SKL sk L cl ∧ XT L cl ln L2 cl2 ln2 ∧ (KP L cl (fun _ => False) (fun _ => False) (fun _ => False) (fun _ => False) (fun _ _ => False) iv rv iv2 rv2)) := by
  intro n L cl ln iv rv sk hn hp
  obtain ⟨hW, hS, hm, h23, ht⟩ := hp
  refine hv3 (show ty L cl (sk 23) 23 from ⟨(hS 23 rfl).1, by rw [(hS 23 rfl).2]; rfl⟩) (show ty L cl (sk 2) 2 from ⟨(hS 2 rfl).1, by rw [(hS 2 rfl).2]; rfl⟩) (show ty L cl (sk 3) 3 from ⟨(hS 3 rfl).1, by rw [(hS 3 rfl).2]; rfl⟩) (fun t23 t2 t3 => ?_)
  refine ⟨0, _, by decide, C_judge hW hS ht h_i hm, fun v L2 cl2 ln2 iv2 rv2 h => ?_⟩
  obtain ⟨f, rfl, hX, hF, hW2, rg, ex, kp11, kp12, kp13, kp14, kp15, kp16, kr9, kr10⟩ := h
  exact ⟨f, rfl, by omega, hX, hW2, (MRK.call hm hW hS hX hF rfl rfl), (by have q := hF.i t23 rfl 2; omega), ⟨⟨trivial, ⟨(KSQ.fr hW ht hF kr9 kr10 rfl rfl rfl), (KSC.fr hW ht hF kr9 kr10 rfl rfl rfl rfl), kp15, kp16, ⟨hF.i (tysq (t := 5) hS rfl rfl) rfl 2, fun ss hs => CT.fr hs hW (tysq (t := 5) hS rfl rfl) hF rfl rfl rfl rfl rfl⟩, ⟨hF.i (tysq (t := 4) hS rfl rfl) rfl 2, fun ss hs => CT.fr hs hW (tysq (t := 4) hS rfl rfl) hF rfl rfl rfl rfl rfl⟩, (FKP.fr hW hS hF rfl rfl rfl rfl)⟩⟩, ⟨kp14, kp11, kp12, kp13⟩, ⟨hF.i t2 rfl 2, fun ss hs => CT.fr hs hW t2 hF rfl rfl rfl rfl rfl⟩, ⟨hF.i t3 rfl 2, fun tt ht => CT.fr ht hW t3 hF rfl rfl rfl rfl rfl⟩, (PSAME.fr hW hS hF rfl rfl rfl rfl rfl rfl rfl), ⟨⟨_, hW, hW2⟩, hS, hX, (KP.fr hW hF rfl)⟩⟩⟩
theorem PO_parts {l : Launch} {G : GT} {mi h0 : Nat} {i : Int} {j : Int} {k : Int} (h_i : -2147483648 ≤ i ∧ i ≤ 2147483647) (h_j : -2147483648 ≤ j ∧ j ≤ 2147483647) (h_k : -2147483648 ≤ k ∧ k ≤ 2147483647) : PressOp l G mi yX11_parts cX11_parts 10 (some .int) 10 [.int (iI i), .int (iI j), .int (iI k)] h0 (fun sk L cl ln iv rv L2 cl2 ln2 iv2 rv2 f => (True ∧ (KSQ h0 iv rv iv2 rv2 ∧ KSC h0 iv rv iv2 rv2 ∧ iv2 h0 15 = iv h0 15 ∧ iv2 h0 16 = iv h0 16 ∧ (iv2 (sk 5) 2 = iv (sk 5) 2 ∧ ∀ ss, CT iv rv (sk 5) ss → CT iv2 rv2 (sk 5) ss) ∧ (iv2 (sk 4) 2 = iv (sk 4) 2 ∧ ∀ ss, CT iv rv (sk 4) ss → CT iv2 rv2 (sk 4) ss) ∧ FKP sk iv rv iv2 rv2)) ∧ (iv2 h0 14 = iv h0 14 ∧ iv2 h0 11 = iv h0 11 ∧ iv2 h0 12 = iv h0 12 ∧ iv2 h0 13 = iv h0 13) ∧ (iv2 (sk 2) 2 = iv (sk 2) 2 ∧ (∀ ss, CT iv rv (sk 2) ss → CT iv2 rv2 (sk 2) ss)) ∧ (iv2 (sk 3) 2 = iv (sk 3) 2 ∧ (∀ tt, CT iv rv (sk 3) tt → CT iv2 rv2 (sk 3) tt)) ∧ PSAME sk iv rv iv2 rv2 ∧ (∃ g, WT g sk L cl ln iv rv ∧ WT g sk L2 cl2 ln2 iv2 rv2) ∧ SKL sk L cl ∧ XT L cl ln L2 cl2 ln2 ∧ (KP L cl (fun _ => False) (fun _ => False) (fun _ => False) (fun _ => False) (fun _ _ => False) iv rv iv2 rv2)) := by
  intro n L cl ln iv rv sk hn hp
  obtain ⟨hW, hS, hm, h23, ht⟩ := hp
  refine hv3 (show ty L cl (sk 23) 23 from ⟨(hS 23 rfl).1, by rw [(hS 23 rfl).2]; rfl⟩) (show ty L cl (sk 2) 2 from ⟨(hS 2 rfl).1, by rw [(hS 2 rfl).2]; rfl⟩) (show ty L cl (sk 3) 3 from ⟨(hS 3 rfl).1, by rw [(hS 3 rfl).2]; rfl⟩) (fun t23 t2 t3 => ?_)
  refine ⟨0, _, by decide, C_parts hW hS ht h_i h_j h_k hm, fun v L2 cl2 ln2 iv2 rv2 h => ?_⟩
  obtain ⟨f, rfl, hX, hF, hW2, rg, ex, kp11, kp12, kp13, kp14, kp15, kp16, kr9, kr10⟩ := h
  exact ⟨f, rfl, by omega, hX, hW2, (MRK.call hm hW hS hX hF rfl rfl), (by have q := hF.i t23 rfl 2; omega), ⟨⟨trivial, ⟨(KSQ.fr hW ht hF kr9 kr10 rfl rfl rfl), (KSC.fr hW ht hF kr9 kr10 rfl rfl rfl rfl), kp15, kp16, ⟨hF.i (tysq (t := 5) hS rfl rfl) rfl 2, fun ss hs => CT.fr hs hW (tysq (t := 5) hS rfl rfl) hF rfl rfl rfl rfl rfl⟩, ⟨hF.i (tysq (t := 4) hS rfl rfl) rfl 2, fun ss hs => CT.fr hs hW (tysq (t := 4) hS rfl rfl) hF rfl rfl rfl rfl rfl⟩, (FKP.fr hW hS hF rfl rfl rfl rfl)⟩⟩, ⟨kp14, kp11, kp12, kp13⟩, ⟨hF.i t2 rfl 2, fun ss hs => CT.fr hs hW t2 hF rfl rfl rfl rfl rfl⟩, ⟨hF.i t3 rfl 2, fun tt ht => CT.fr ht hW t3 hF rfl rfl rfl rfl rfl⟩, (PSAME.fr hW hS hF rfl rfl rfl rfl rfl rfl rfl), ⟨⟨_, hW, hW2⟩, hS, hX, (KP.fr hW hF rfl)⟩⟩⟩
theorem PO_unreadable {l : Launch} {G : GT} {mi h0 : Nat} {i : Int} {n : Int} {lim : Int} (h_i : -2147483648 ≤ i ∧ i ≤ 2147483647) (h_n : -2147483648 ≤ n ∧ n ≤ 2147483647) (h_lim : -2147483648 ≤ lim ∧ lim ≤ 2147483647) : PressOp l G mi yX11_unreadable cX11_unreadable 7 (some .int) 10 [.int (iI i), .int (iI n), .int (iI lim)] h0 (fun sk L cl ln iv rv L2 cl2 ln2 iv2 rv2 f => (True ∧ (KSQ h0 iv rv iv2 rv2 ∧ KSC h0 iv rv iv2 rv2 ∧ iv2 h0 15 = iv h0 15 ∧ iv2 h0 16 = iv h0 16 ∧ (iv2 (sk 5) 2 = iv (sk 5) 2 ∧ ∀ ss, CT iv rv (sk 5) ss → CT iv2 rv2 (sk 5) ss) ∧ True ∧ FKP sk iv rv iv2 rv2)) ∧ (iv2 h0 14 = iv h0 14 ∧ iv2 h0 11 = iv h0 11 ∧ iv2 h0 12 = iv h0 12 ∧ iv2 h0 13 = iv h0 13) ∧ (iv2 (sk 2) 2 = iv (sk 2) 2 ∧ (∀ ss, CT iv rv (sk 2) ss → CT iv2 rv2 (sk 2) ss)) ∧ (iv2 (sk 3) 2 = iv (sk 3) 2 ∧ (∀ tt, CT iv rv (sk 3) tt → CT iv2 rv2 (sk 3) tt)) ∧ PSAME sk iv rv iv2 rv2 ∧ (∃ g, WT g sk L cl ln iv rv ∧ WT g sk L2 cl2 ln2 iv2 rv2) ∧ SKL sk L cl ∧ XT L cl ln L2 cl2 ln2 ∧ (KP L cl (fun _ => False) (fun _ => False) (fun _ => False) (fun _ => False) (fun _ _ => False) iv rv iv2 rv2)) := by
  intro n L cl ln iv rv sk hn hp
  obtain ⟨hW, hS, hm, h23, ht⟩ := hp
  refine hv3 (show ty L cl (sk 23) 23 from ⟨(hS 23 rfl).1, by rw [(hS 23 rfl).2]; rfl⟩) (show ty L cl (sk 2) 2 from ⟨(hS 2 rfl).1, by rw [(hS 2 rfl).2]; rfl⟩) (show ty L cl (sk 3) 3 from ⟨(hS 3 rfl).1, by rw [(hS 3 rfl).2]; rfl⟩) (fun t23 t2 t3 => ?_)
  refine ⟨0, _, by decide, C_unreadable hW hS ht h_i h_n h_lim hm, fun v L2 cl2 ln2 iv2 rv2 h => ?_⟩
  obtain ⟨f, rfl, hX, hF, hW2, rg, ex, kp11, kp12, kp13, kp14, kp15, kp16, kr9, kr10⟩ := h
  exact ⟨f, rfl, by omega, hX, hW2, (MRK.call hm hW hS hX hF rfl rfl), (by have q := hF.i t23 rfl 2; omega), ⟨⟨trivial, ⟨(KSQ.fr hW ht hF kr9 kr10 rfl rfl rfl), (KSC.fr hW ht hF kr9 kr10 rfl rfl rfl rfl), kp15, kp16, ⟨hF.i (tysq (t := 5) hS rfl rfl) rfl 2, fun ss hs => CT.fr hs hW (tysq (t := 5) hS rfl rfl) hF rfl rfl rfl rfl rfl⟩, trivial, (FKP.fr hW hS hF rfl rfl rfl rfl)⟩⟩, ⟨kp14, kp11, kp12, kp13⟩, ⟨hF.i t2 rfl 2, fun ss hs => CT.fr hs hW t2 hF rfl rfl rfl rfl rfl⟩, ⟨hF.i t3 rfl 2, fun tt ht => CT.fr ht hW t3 hF rfl rfl rfl rfl rfl⟩, (PSAME.fr hW hS hF rfl rfl rfl rfl rfl rfl rfl), ⟨⟨_, hW, hW2⟩, hS, hX, (KP.fr hW hF rfl)⟩⟩⟩
theorem PO_saved {l : Launch} {G : GT} {mi h0 : Nat} {i : Int} {j : Int} (h_i : -2147483648 ≤ i ∧ i ≤ 2147483647) (h_j : -2147483648 ≤ j ∧ j ≤ 2147483647) : PressOp l G mi yX11_saved cX11_saved 10 (some .int) 8 [.int (iI i), .int (iI j)] h0 (fun sk L cl ln iv rv L2 cl2 ln2 iv2 rv2 f => (True ∧ (KSQ h0 iv rv iv2 rv2 ∧ KSC h0 iv rv iv2 rv2 ∧ iv2 h0 15 = iv h0 15 ∧ iv2 h0 16 = iv h0 16 ∧ (iv2 (sk 5) 2 = iv (sk 5) 2 ∧ ∀ ss, CT iv rv (sk 5) ss → CT iv2 rv2 (sk 5) ss) ∧ (iv2 (sk 4) 2 = iv (sk 4) 2 ∧ ∀ ss, CT iv rv (sk 4) ss → CT iv2 rv2 (sk 4) ss) ∧ FKP sk iv rv iv2 rv2)) ∧ (iv2 h0 14 = iv h0 14 ∧ iv2 h0 11 = iv h0 11 ∧ iv2 h0 12 = iv h0 12 ∧ iv2 h0 13 = iv h0 13) ∧ (iv2 (sk 2) 2 = iv (sk 2) 2 ∧ (∀ ss, CT iv rv (sk 2) ss → CT iv2 rv2 (sk 2) ss)) ∧ (iv2 (sk 3) 2 = iv (sk 3) 2 ∧ (∀ tt, CT iv rv (sk 3) tt → CT iv2 rv2 (sk 3) tt)) ∧ PSAME sk iv rv iv2 rv2 ∧ (∃ g, WT g sk L cl ln iv rv ∧ WT g sk L2 cl2 ln2 iv2 rv2) ∧ SKL sk L cl ∧ XT L cl ln L2 cl2 ln2 ∧ (KP L cl (fun _ => False) (fun _ => False) (fun _ => False) (fun _ => False) (fun _ _ => False) iv rv iv2 rv2)) := by
  intro n L cl ln iv rv sk hn hp
  obtain ⟨hW, hS, hm, h23, ht⟩ := hp
  refine hv3 (show ty L cl (sk 23) 23 from ⟨(hS 23 rfl).1, by rw [(hS 23 rfl).2]; rfl⟩) (show ty L cl (sk 2) 2 from ⟨(hS 2 rfl).1, by rw [(hS 2 rfl).2]; rfl⟩) (show ty L cl (sk 3) 3 from ⟨(hS 3 rfl).1, by rw [(hS 3 rfl).2]; rfl⟩) (fun t23 t2 t3 => ?_)
  refine ⟨0, _, by decide, C_saved hW hS ht h_i h_j hm, fun v L2 cl2 ln2 iv2 rv2 h => ?_⟩
  obtain ⟨f, rfl, rfl, rfl, rfl, rfl, hF, hW2, rg, ex, kp11, kp12, kp13, kp14, kp15, kp16⟩ := h
  exact ⟨f, rfl, by omega, XT.refl, hW2, (MRK.call hm hW hS XT.refl hF rfl rfl), (by have q := hF.i t23 rfl 2; omega), ⟨⟨trivial, ⟨(KSQ.ni hW ht hF rfl), (KSC.fr hW ht hF rfl rfl rfl rfl rfl rfl), kp15, kp16, ⟨hF.i (tysq (t := 5) hS rfl rfl) rfl 2, fun ss hs => CT.fr hs hW (tysq (t := 5) hS rfl rfl) hF rfl rfl rfl rfl rfl⟩, ⟨hF.i (tysq (t := 4) hS rfl rfl) rfl 2, fun ss hs => CT.fr hs hW (tysq (t := 4) hS rfl rfl) hF rfl rfl rfl rfl rfl⟩, (FKP.fr hW hS hF rfl rfl rfl rfl)⟩⟩, ⟨kp14, kp11, kp12, kp13⟩, ⟨hF.i t2 rfl 2, fun ss hs => CT.fr hs hW t2 hF rfl rfl rfl rfl rfl⟩, ⟨hF.i t3 rfl 2, fun tt ht => CT.fr ht hW t3 hF rfl rfl rfl rfl rfl⟩, (PSAME.fr hW hS hF rfl rfl rfl rfl rfl rfl rfl), ⟨⟨_, hW, hW2⟩, hS, XT.refl, (KP.fr hW hF rfl)⟩⟩⟩
theorem PO_place {l : Launch} {G : GT} {mi h0 : Nat} : PressOp l G mi yX11_place cX11_place 1 (some .int) 0 [] h0 (fun sk L cl ln iv rv L2 cl2 ln2 iv2 rv2 f => (True ∧ (KSQ h0 iv rv iv2 rv2 ∧ KSC h0 iv rv iv2 rv2 ∧ iv2 h0 15 = iv h0 15 ∧ iv2 h0 16 = iv h0 16 ∧ (iv2 (sk 5) 2 = iv (sk 5) 2 ∧ ∀ ss, CT iv rv (sk 5) ss → CT iv2 rv2 (sk 5) ss) ∧ (iv2 (sk 4) 2 = iv (sk 4) 2 ∧ ∀ ss, CT iv rv (sk 4) ss → CT iv2 rv2 (sk 4) ss) ∧ FKP sk iv rv iv2 rv2)) ∧ (iv2 h0 14 = iv h0 14 ∧ iv2 h0 11 = iv h0 11 ∧ iv2 h0 12 = iv h0 12 ∧ iv2 h0 13 = iv h0 13) ∧ (iv2 (sk 2) 2 = iv (sk 2) 2 ∧ (∀ ss, CT iv rv (sk 2) ss → CT iv2 rv2 (sk 2) ss)) ∧ (iv2 (sk 3) 2 = iv (sk 3) 2 ∧ (∀ tt, CT iv rv (sk 3) tt → CT iv2 rv2 (sk 3) tt)) ∧ PSAME sk iv rv iv2 rv2 ∧ (∃ g, WT g sk L cl ln iv rv ∧ WT g sk L2 cl2 ln2 iv2 rv2) ∧ SKL sk L cl ∧ XT L cl ln L2 cl2 ln2 ∧ (KP L cl (fun _ => False) (fun _ => False) (fun _ => False) (fun _ => False) (fun _ _ => False) iv rv iv2 rv2)) := by
  intro n L cl ln iv rv sk hn hp
  obtain ⟨hW, hS, hm, h23, ht⟩ := hp
  refine hv3 (show ty L cl (sk 23) 23 from ⟨(hS 23 rfl).1, by rw [(hS 23 rfl).2]; rfl⟩) (show ty L cl (sk 2) 2 from ⟨(hS 2 rfl).1, by rw [(hS 2 rfl).2]; rfl⟩) (show ty L cl (sk 3) 3 from ⟨(hS 3 rfl).1, by rw [(hS 3 rfl).2]; rfl⟩) (fun t23 t2 t3 => ?_)
  refine ⟨0, _, by decide, C_place hW hS ht  , fun v L2 cl2 ln2 iv2 rv2 h => ?_⟩
  obtain ⟨f, rfl, rfl, rfl, rfl, rfl, rfl, rg, ex⟩ := h
  exact ⟨f, rfl, by omega, XT.refl, hW, hm, (by omega), ⟨⟨trivial, ⟨KSQ.refl, KSC.refl, rfl, rfl, ⟨rfl, fun ss hs => hs⟩, ⟨rfl, fun ss hs => hs⟩, FKP.refl⟩⟩, ⟨rfl, rfl, rfl, rfl⟩, ⟨rfl, fun ss hs => hs⟩, ⟨rfl, fun tt ht => ht⟩, PSAME.refl, ⟨⟨_, hW, hW⟩, hS, XT.refl, KP.refl⟩⟩⟩
theorem PO_finds {l : Launch} {G : GT} {mi h0 : Nat} {i : Int} (h_i : -2147483648 ≤ i ∧ i ≤ 2147483647) : PressOp l G mi yX11_finds cX11_finds 2 (some .int) 1 [.int (iI i)] h0 (fun sk L cl ln iv rv L2 cl2 ln2 iv2 rv2 f => (True ∧ (KSQ h0 iv rv iv2 rv2 ∧ KSC h0 iv rv iv2 rv2 ∧ iv2 h0 15 = iv h0 15 ∧ iv2 h0 16 = iv h0 16 ∧ (iv2 (sk 5) 2 = iv (sk 5) 2 ∧ ∀ ss, CT iv rv (sk 5) ss → CT iv2 rv2 (sk 5) ss) ∧ (iv2 (sk 4) 2 = iv (sk 4) 2 ∧ ∀ ss, CT iv rv (sk 4) ss → CT iv2 rv2 (sk 4) ss) ∧ FKP sk iv rv iv2 rv2)) ∧ (iv2 h0 14 = iv h0 14 ∧ iv2 h0 11 = iv h0 11 ∧ iv2 h0 12 = iv h0 12 ∧ iv2 h0 13 = iv h0 13) ∧ (iv2 (sk 2) 2 = iv (sk 2) 2 ∧ (∀ ss, CT iv rv (sk 2) ss → CT iv2 rv2 (sk 2) ss)) ∧ (iv2 (sk 3) 2 = iv (sk 3) 2 ∧ (∀ tt, CT iv rv (sk 3) tt → CT iv2 rv2 (sk 3) tt)) ∧ PSAME sk iv rv iv2 rv2 ∧ (∃ g, WT g sk L cl ln iv rv ∧ WT g sk L2 cl2 ln2 iv2 rv2) ∧ SKL sk L cl ∧ XT L cl ln L2 cl2 ln2 ∧ (KP L cl (fun _ => False) (fun _ => False) (fun _ => False) (fun _ => False) (fun _ _ => False) iv rv iv2 rv2)) := by
  intro n L cl ln iv rv sk hn hp
  obtain ⟨hW, hS, hm, h23, ht⟩ := hp
  refine hv3 (show ty L cl (sk 23) 23 from ⟨(hS 23 rfl).1, by rw [(hS 23 rfl).2]; rfl⟩) (show ty L cl (sk 2) 2 from ⟨(hS 2 rfl).1, by rw [(hS 2 rfl).2]; rfl⟩) (show ty L cl (sk 3) 3 from ⟨(hS 3 rfl).1, by rw [(hS 3 rfl).2]; rfl⟩) (fun t23 t2 t3 => ?_)
  refine ⟨0, _, by decide, C_finds hW hS ht h_i , fun v L2 cl2 ln2 iv2 rv2 h => ?_⟩
  obtain ⟨f, rfl, rfl, rfl, rfl, rfl, rfl, rg, ex⟩ := h
  exact ⟨f, rfl, by omega, XT.refl, hW, hm, (by omega), ⟨⟨trivial, ⟨KSQ.refl, KSC.refl, rfl, rfl, ⟨rfl, fun ss hs => hs⟩, ⟨rfl, fun ss hs => hs⟩, FKP.refl⟩⟩, ⟨rfl, rfl, rfl, rfl⟩, ⟨rfl, fun ss hs => hs⟩, ⟨rfl, fun tt ht => ht⟩, PSAME.refl, ⟨⟨_, hW, hW⟩, hS, XT.refl, KP.refl⟩⟩⟩
theorem PO_status {l : Launch} {G : GT} {mi h0 : Nat} : PressOp l G mi yX11_status cX11_status 1 (some .int) 0 [] h0 (fun sk L cl ln iv rv L2 cl2 ln2 iv2 rv2 f => (True ∧ (KSQ h0 iv rv iv2 rv2 ∧ KSC h0 iv rv iv2 rv2 ∧ iv2 h0 15 = iv h0 15 ∧ iv2 h0 16 = iv h0 16 ∧ (iv2 (sk 5) 2 = iv (sk 5) 2 ∧ ∀ ss, CT iv rv (sk 5) ss → CT iv2 rv2 (sk 5) ss) ∧ (iv2 (sk 4) 2 = iv (sk 4) 2 ∧ ∀ ss, CT iv rv (sk 4) ss → CT iv2 rv2 (sk 4) ss) ∧ FKP sk iv rv iv2 rv2)) ∧ (iv2 h0 14 = iv h0 14 ∧ iv2 h0 11 = iv h0 11 ∧ iv2 h0 12 = iv h0 12 ∧ iv2 h0 13 = iv h0 13) ∧ (iv2 (sk 2) 2 = iv (sk 2) 2 ∧ (∀ ss, CT iv rv (sk 2) ss → CT iv2 rv2 (sk 2) ss)) ∧ (iv2 (sk 3) 2 = iv (sk 3) 2 ∧ (∀ tt, CT iv rv (sk 3) tt → CT iv2 rv2 (sk 3) tt)) ∧ PSAME sk iv rv iv2 rv2 ∧ (∃ g, WT g sk L cl ln iv rv ∧ WT g sk L2 cl2 ln2 iv2 rv2) ∧ SKL sk L cl ∧ XT L cl ln L2 cl2 ln2 ∧ (KP L cl (fun _ => False) (fun _ => False) (fun _ => False) (fun _ => False) (fun _ _ => False) iv rv iv2 rv2)) := by
  intro n L cl ln iv rv sk hn hp
  obtain ⟨hW, hS, hm, h23, ht⟩ := hp
  refine hv3 (show ty L cl (sk 23) 23 from ⟨(hS 23 rfl).1, by rw [(hS 23 rfl).2]; rfl⟩) (show ty L cl (sk 2) 2 from ⟨(hS 2 rfl).1, by rw [(hS 2 rfl).2]; rfl⟩) (show ty L cl (sk 3) 3 from ⟨(hS 3 rfl).1, by rw [(hS 3 rfl).2]; rfl⟩) (fun t23 t2 t3 => ?_)
  refine ⟨0, _, by decide, C_status hW hS ht  , fun v L2 cl2 ln2 iv2 rv2 h => ?_⟩
  obtain ⟨f, rfl, rfl, rfl, rfl, rfl, rfl, rg, ex⟩ := h
  exact ⟨f, rfl, by omega, XT.refl, hW, hm, (by omega), ⟨⟨trivial, ⟨KSQ.refl, KSC.refl, rfl, rfl, ⟨rfl, fun ss hs => hs⟩, ⟨rfl, fun ss hs => hs⟩, FKP.refl⟩⟩, ⟨rfl, rfl, rfl, rfl⟩, ⟨rfl, fun ss hs => hs⟩, ⟨rfl, fun tt ht => ht⟩, PSAME.refl, ⟨⟨_, hW, hW⟩, hS, XT.refl, KP.refl⟩⟩⟩
theorem PO_digest {l : Launch} {G : GT} {mi h0 : Nat} : PressOp l G mi yX11_digest cX11_digest 3 (some .int) 3 [] h0 (fun sk L cl ln iv rv L2 cl2 ln2 iv2 rv2 f => (True ∧ (KSQ h0 iv rv iv2 rv2 ∧ KSC h0 iv rv iv2 rv2 ∧ iv2 h0 15 = iv h0 15 ∧ iv2 h0 16 = iv h0 16 ∧ (iv2 (sk 5) 2 = iv (sk 5) 2 ∧ ∀ ss, CT iv rv (sk 5) ss → CT iv2 rv2 (sk 5) ss) ∧ (iv2 (sk 4) 2 = iv (sk 4) 2 ∧ ∀ ss, CT iv rv (sk 4) ss → CT iv2 rv2 (sk 4) ss) ∧ FKP sk iv rv iv2 rv2)) ∧ (iv2 h0 14 = iv h0 14 ∧ iv2 h0 11 = iv h0 11 ∧ iv2 h0 12 = iv h0 12 ∧ iv2 h0 13 = iv h0 13) ∧ (iv2 (sk 2) 2 = iv (sk 2) 2 ∧ (∀ ss, CT iv rv (sk 2) ss → CT iv2 rv2 (sk 2) ss)) ∧ (iv2 (sk 3) 2 = iv (sk 3) 2 ∧ (∀ tt, CT iv rv (sk 3) tt → CT iv2 rv2 (sk 3) tt)) ∧ PSAME sk iv rv iv2 rv2 ∧ (∃ g, WT g sk L cl ln iv rv ∧ WT g sk L2 cl2 ln2 iv2 rv2) ∧ SKL sk L cl ∧ XT L cl ln L2 cl2 ln2 ∧ (KP L cl (fun _ => False) (fun _ => False) (fun _ => False) (fun _ => False) (fun _ _ => False) iv rv iv2 rv2)) := by
  intro n L cl ln iv rv sk hn hp
  obtain ⟨hW, hS, hm, h23, ht⟩ := hp
  refine hv3 (show ty L cl (sk 23) 23 from ⟨(hS 23 rfl).1, by rw [(hS 23 rfl).2]; rfl⟩) (show ty L cl (sk 2) 2 from ⟨(hS 2 rfl).1, by rw [(hS 2 rfl).2]; rfl⟩) (show ty L cl (sk 3) 3 from ⟨(hS 3 rfl).1, by rw [(hS 3 rfl).2]; rfl⟩) (fun t23 t2 t3 => ?_)
  refine ⟨0, _, by decide, C_digest hW hS ht  , fun v L2 cl2 ln2 iv2 rv2 h => ?_⟩
  obtain ⟨f, rfl, rfl, rfl, rfl, rfl, rfl, rg, ex⟩ := h
  exact ⟨f, rfl, by omega, XT.refl, hW, hm, (by omega), ⟨⟨trivial, ⟨KSQ.refl, KSC.refl, rfl, rfl, ⟨rfl, fun ss hs => hs⟩, ⟨rfl, fun ss hs => hs⟩, FKP.refl⟩⟩, ⟨rfl, rfl, rfl, rfl⟩, ⟨rfl, fun ss hs => hs⟩, ⟨rfl, fun tt ht => ht⟩, PSAME.refl, ⟨⟨_, hW, hW⟩, hS, XT.refl, KP.refl⟩⟩⟩
end
section
def MIV (n : Nat) (ln : Nat → Nat) (v : Nat → Int) (a : Nat → Nat → Int) : Prop := BX v a ∧ TBL v a ∧ STK ln v a ∧ RWS a ∧ v 19 ≤ 4 * (n : Int)
def ModelOp (l : Launch) (G : GT) (y2 : MethodName) (cc2 : ByteArray) (n2 : Nat) (ret2 : Option FieldType) (d2 : Nat) (As : List Value) (mm mc ms : Nat) (EX : (Nat → Int) → (Nat → Nat → Int) → (Nat → Int) → (Nat → Nat → Int) → Int → Prop) : Prop := ∀ (n : Nat) (ad ln : Nat → Nat) (v : Nat → Int) (a : Nat → Nat → Int) (L : List Nat) (E : Nat → va_E), n ≤ 511 → MIV n ln v a → mI G mm ad ln v a L E → ∃ P2 : PT, Mq l G y2 cc2 n2 ret2 d2 (.ref mm :: As) L E mc ms P2 ∧ ∀ r L2 E2, P2 r L2 E2 → ∃ (f : Int) (ad2 ln2 : Nat → Nat) (v2 : Nat → Int) (a2 : Nat → Nat → Int), r = some (.int (iI f)) ∧ mI G mm ad2 ln2 v2 a2 L2 E2 ∧ MIV (n + 1) ln2 v2 a2 ∧ EX v a v2 a2 f
theorem MO_feed {l : Launch} {G : GT} {mm : Nat} {x1 : Int} {x2 : Int} {x3 : Int} {x4 : Int} {x5 : Int} (h_x1 : -2147483648 ≤ x1 ∧ x1 ≤ 2147483647) (h_x2 : -2147483648 ≤ x2 ∧ x2 ≤ 2147483647) (h_x3 : -2147483648 ≤ x3 ∧ x3 ≤ 2147483647) (h_x4 : -2147483648 ≤ x4 ∧ x4 ≤ 2147483647) (h_x5 : -2147483648 ≤ x5 ∧ x5 ≤ 2147483647) : ModelOp l G yX12_feed cX12_feed 8 (some .int) 1 [.int (iI x1), .int (iI x2), .int (iI x3), .int (iI x4), .int (iI x5)] mm 0 0 (fun v a v2 a2 f => (True ∧ (v2 36 = v 36 ∧ KSA v a v2 a2 ∧ v2 42 = v 42 ∧ v2 43 = v 43 ∧ (v2 41 = v 41 ∧ a2 40 = a 40) ∧ (v2 52 = v 52 ∧ a2 51 = a 51) ∧ (v2 60 = v 60 ∧ v2 61 = v 61 ∧ a2 58 = a 58 ∧ a2 59 = a 59))) ∧ (v2 56 = v 56 ∧ v2 31 = v 31 ∧ v2 32 = v 32 ∧ v2 33 = v 33) ∧ ((f = -1 ∧ v2 3 = v 3 ∧ 2980 < v 3 ∧ a2 2 = a 2) ∨ (f = v 3 + 20 ∧ v2 3 = v 3 + 20 ∧ v 3 ≤ 2980 ∧ a2 2 = rfd (a 2) (v 3).toNat x1 x2 x3 x4 x5 20)) ∧ (v2 30 = v 30 ∧ a2 29 = a 29) ∧ TSAME v a v2 a2) := by
  intro n ad ln v a L E hn hV hI
  obtain ⟨hB, hT, hS, hR, h19⟩ := hV
  refine ⟨_, B_feed (x1 := x1) (x2 := x2) (x3 := x3) (x4 := x4) (x5 := x5) hB h_x1 h_x2 h_x3 h_x4 h_x5 L E hI, fun r L2 E2 h => ?_⟩
  obtain ⟨v2, a2, hI2, f, rfl, hf, hB2, hx⟩ := h
  exact ⟨f, ad, ln, v2, a2, rfl, hI2, ⟨hB2, (hT.fr hf rfl rfl), (hS.fr hf rfl rfl), (hR.fr hf rfl), (by have q := hf.1 19 rfl; push_cast; omega)⟩, ⟨⟨trivial, ⟨hf.1 36 rfl, ⟨hf.1 36 rfl, hf.2 34 rfl, hf.2 35 rfl⟩, hf.1 42 rfl, hf.1 43 rfl, ⟨hf.1 41 rfl, hf.2 40 rfl⟩, ⟨hf.1 52 rfl, hf.2 51 rfl⟩, ⟨hf.1 60 rfl, hf.1 61 rfl, hf.2 58 rfl, hf.2 59 rfl⟩⟩⟩, ⟨hf.1 56 rfl, hf.1 31 rfl, hf.1 32 rfl, hf.1 33 rfl⟩, hx, ⟨hf.1 30 rfl, hf.2 29 rfl⟩, ⟨hf.1 4 rfl, hf.2 5 rfl, hf.2 6 rfl, hf.2 7 rfl, hf.2 10 rfl, hf.1 19 rfl, hf.2 18 rfl, hf.2 11 rfl, hf.2 8 rfl, hf.2 9 rfl, hf.2 12 rfl, hf.2 13 rfl, hf.2 14 rfl, hf.2 15 rfl, hf.2 16 rfl, hf.2 17 rfl⟩⟩⟩
theorem MO_end {l : Launch} {G : GT} {mm : Nat} {x1 : Int} (h_x1 : -2147483648 ≤ x1 ∧ x1 ≤ 2147483647) : ModelOp l G yX12_end cX12_end 2 (some .int) 1 [.int (iI x1)] mm 0 0 (fun v a v2 a2 f => (True ∧ (v2 36 = v 36 ∧ KSA v a v2 a2 ∧ v2 42 = v 42 ∧ v2 43 = v 43 ∧ (v2 41 = v 41 ∧ a2 40 = a 40) ∧ (v2 52 = v 52 ∧ a2 51 = a 51) ∧ (v2 60 = v 60 ∧ v2 61 = v 61 ∧ a2 58 = a 58 ∧ a2 59 = a 59))) ∧ (v2 56 = v 56 ∧ v2 31 = v 31 ∧ v2 32 = v 32 ∧ v2 33 = v 33) ∧ (((f = -1 ∧ v2 3 = v 3 ∧ (x1 < 0 ∨ v 3 < x1)) ∨ (f = x1 ∧ v2 3 = x1 ∧ 0 ≤ x1 ∧ x1 ≤ v 3)) ∧ a2 2 = a 2) ∧ (v2 30 = v 30 ∧ a2 29 = a 29) ∧ TSAME v a v2 a2) := by
  intro n ad ln v a L E hn hV hI
  obtain ⟨hB, hT, hS, hR, h19⟩ := hV
  refine ⟨_, B_end (n1 := x1) hB h_x1 L E hI, fun r L2 E2 h => ?_⟩
  obtain ⟨v2, a2, hI2, f, rfl, hf, hB2, hx⟩ := h
  exact ⟨f, ad, ln, v2, a2, rfl, hI2, ⟨hB2, (hT.fr hf rfl rfl), (hS.fr hf rfl rfl), (hR.fr hf rfl), (by have q := hf.1 19 rfl; push_cast; omega)⟩, ⟨⟨trivial, ⟨hf.1 36 rfl, ⟨hf.1 36 rfl, hf.2 34 rfl, hf.2 35 rfl⟩, hf.1 42 rfl, hf.1 43 rfl, ⟨hf.1 41 rfl, hf.2 40 rfl⟩, ⟨hf.1 52 rfl, hf.2 51 rfl⟩, ⟨hf.1 60 rfl, hf.1 61 rfl, hf.2 58 rfl, hf.2 59 rfl⟩⟩⟩, ⟨hf.1 56 rfl, hf.1 31 rfl, hf.1 32 rfl, hf.1 33 rfl⟩, ⟨hx, hf.2 2 rfl⟩, ⟨hf.1 30 rfl, hf.2 29 rfl⟩, ⟨hf.1 4 rfl, hf.2 5 rfl, hf.2 6 rfl, hf.2 7 rfl, hf.2 10 rfl, hf.1 19 rfl, hf.2 18 rfl, hf.2 11 rfl, hf.2 8 rfl, hf.2 9 rfl, hf.2 12 rfl, hf.2 13 rfl, hf.2 14 rfl, hf.2 15 rfl, hf.2 16 rfl, hf.2 17 rfl⟩⟩⟩
theorem MO_table {l : Launch} {G : GT} {mm : Nat} {x1 : Int} {x2 : Int} {x3 : Int} (h_x1 : -2147483648 ≤ x1 ∧ x1 ≤ 2147483647) (h_x2 : -2147483648 ≤ x2 ∧ x2 ≤ 2147483647) (h_x3 : -2147483648 ≤ x3 ∧ x3 ≤ 2147483647) : ModelOp l G yX12_table cX12_table 5 (some .int) 2 [.int (iI x1), .int (iI x2), .int (iI x3)] mm 1 4110 (fun v a v2 a2 f => (True ∧ (v2 36 = v 36 ∧ KSA v a v2 a2 ∧ v2 42 = v 42 ∧ v2 43 = v 43 ∧ (v2 41 = v 41 ∧ a2 40 = a 40) ∧ (v2 52 = v 52 ∧ a2 51 = a 51) ∧ (v2 60 = v 60 ∧ v2 61 = v 61 ∧ a2 58 = a 58 ∧ a2 59 = a 59))) ∧ (v2 56 = v 56 ∧ v2 31 = v 31 ∧ v2 32 = v 32 ∧ v2 33 = v 33) ∧ (v2 3 = v 3 ∧ a2 2 = a 2) ∧ (v2 30 = v 30 ∧ a2 29 = a 29) ∧ ((f = -1 ∧ TSAME v a v2 a2 ∧ ¬ (0 ≤ x1 ∧ x1 ≤ 4 ∧ (x2 = 6 ∨ x2 = 8) ∧ v 4 ≠ 30 ∧ (x1 < 1 ∨ 3 < x1 ∨ (0 ≤ x3 ∧ x3 < v 4 ∧ a 5 x3.toNat = 1 ∧ a 6 x3.toNat ≤ 3)))) ∨ (f = v 4 ∧ (0 ≤ x1 ∧ x1 ≤ 4 ∧ (x2 = 6 ∨ x2 = 8) ∧ v 4 ≠ 30 ∧ (x1 < 1 ∨ 3 < x1 ∨ (0 ≤ x3 ∧ x3 < v 4 ∧ a 5 x3.toNat = 1 ∧ a 6 x3.toNat ≤ 3))) ∧ TNEW x1 x2 (if x1 < 1 ∨ 3 < x1 then -1 else x3) (-1) v a v2 a2))) := by
  intro n ad ln v a L E hn hV hI
  obtain ⟨hB, hT, hS, hR, h19⟩ := hV
  refine ⟨_, M_table (k0 := x1) (d0 := x2) (b0 := x3) hB hT hS h_x1 h_x2 h_x3 (by omega) L E hI, fun r L2 E2 h => ?_⟩
  obtain ⟨ad2, ln2, v2, a2, hI2, f, rfl, hf, hB2, hx⟩ := h
  exact ⟨f, ad2, ln2, v2, a2, rfl, hI2, ⟨hB2, hx.1, hx.2.1, (hR.fr hf rfl), (by have q := hx.2.2.1; push_cast; omega)⟩, ⟨⟨trivial, ⟨hf.1 36 rfl, ⟨hf.1 36 rfl, hf.2 34 rfl, hf.2 35 rfl⟩, hf.1 42 rfl, hf.1 43 rfl, ⟨hf.1 41 rfl, hf.2 40 rfl⟩, ⟨hf.1 52 rfl, hf.2 51 rfl⟩, ⟨hf.1 60 rfl, hf.1 61 rfl, hf.2 58 rfl, hf.2 59 rfl⟩⟩⟩, ⟨hf.1 56 rfl, hf.1 31 rfl, hf.1 32 rfl, hf.1 33 rfl⟩, ⟨hf.1 3 rfl, hf.2 2 rfl⟩, ⟨hf.1 30 rfl, hf.2 29 rfl⟩, hx.2.2.2⟩⟩
theorem MO_join {l : Launch} {G : GT} {mm : Nat} {x1 : Int} {x2 : Int} (h_x1 : -2147483648 ≤ x1 ∧ x1 ≤ 2147483647) (h_x2 : -2147483648 ≤ x2 ∧ x2 ≤ 2147483647) : ModelOp l G yX12_join cX12_join 3 (some .int) 2 [.int (iI x1), .int (iI x2)] mm 1 4110 (fun v a v2 a2 f => (True ∧ (v2 36 = v 36 ∧ KSA v a v2 a2 ∧ v2 42 = v 42 ∧ v2 43 = v 43 ∧ (v2 41 = v 41 ∧ a2 40 = a 40) ∧ (v2 52 = v 52 ∧ a2 51 = a 51) ∧ (v2 60 = v 60 ∧ v2 61 = v 61 ∧ a2 58 = a 58 ∧ a2 59 = a 59))) ∧ (v2 56 = v 56 ∧ v2 31 = v 31 ∧ v2 32 = v 32 ∧ v2 33 = v 33) ∧ (v2 3 = v 3 ∧ a2 2 = a 2) ∧ (v2 30 = v 30 ∧ a2 29 = a 29) ∧ ((f = -1 ∧ TSAME v a v2 a2 ∧ ¬ (0 ≤ x1 ∧ x1 < v 4 ∧ a 5 x1.toNat = 1 ∧ a 6 x1.toNat ≤ 3 ∧ 0 ≤ x2 ∧ x2 < v 4 ∧ a 5 x2.toNat = 1 ∧ a 6 x2.toNat ≤ 3 ∧ v 4 ≠ 30)) ∨ (f = v 4 ∧ (0 ≤ x1 ∧ x1 < v 4 ∧ a 5 x1.toNat = 1 ∧ a 6 x1.toNat ≤ 3 ∧ 0 ≤ x2 ∧ x2 < v 4 ∧ a 5 x2.toNat = 1 ∧ a 6 x2.toNat ≤ 3 ∧ v 4 ≠ 30) ∧ TNEW 5 (max (a 7 x1.toNat) (a 7 x2.toNat)) x1 x2 v a v2 a2))) := by
  intro n ad ln v a L E hn hV hI
  obtain ⟨hB, hT, hS, hR, h19⟩ := hV
  refine ⟨_, M_join (x := x1) (y := x2) hB hT hS h_x1 h_x2 (by omega) L E hI, fun r L2 E2 h => ?_⟩
  obtain ⟨ad2, ln2, v2, a2, hI2, f, rfl, hf, hB2, hx⟩ := h
  exact ⟨f, ad2, ln2, v2, a2, rfl, hI2, ⟨hB2, hx.1, hx.2.1, (hR.fr hf rfl), (by have q := hx.2.2.1; push_cast; omega)⟩, ⟨⟨trivial, ⟨hf.1 36 rfl, ⟨hf.1 36 rfl, hf.2 34 rfl, hf.2 35 rfl⟩, hf.1 42 rfl, hf.1 43 rfl, ⟨hf.1 41 rfl, hf.2 40 rfl⟩, ⟨hf.1 52 rfl, hf.2 51 rfl⟩, ⟨hf.1 60 rfl, hf.1 61 rfl, hf.2 58 rfl, hf.2 59 rfl⟩⟩⟩, ⟨hf.1 56 rfl, hf.1 31 rfl, hf.1 32 rfl, hf.1 33 rfl⟩, ⟨hf.1 3 rfl, hf.2 2 rfl⟩, ⟨hf.1 30 rfl, hf.2 29 rfl⟩, hx.2.2.2⟩⟩
theorem MO_drop {l : Launch} {G : GT} {mm : Nat} {x1 : Int} (h_x1 : -2147483648 ≤ x1 ∧ x1 ≤ 2147483647) : ModelOp l G yX12_drop cX12_drop 2 (some .int) 1 [.int (iI x1)] mm 1 4110 (fun v a v2 a2 f => (True ∧ (v2 36 = v 36 ∧ KSA v a v2 a2 ∧ v2 42 = v 42 ∧ v2 43 = v 43 ∧ (v2 41 = v 41 ∧ a2 40 = a 40) ∧ (v2 52 = v 52 ∧ a2 51 = a 51) ∧ (v2 60 = v 60 ∧ v2 61 = v 61 ∧ a2 58 = a 58 ∧ a2 59 = a 59))) ∧ (v2 56 = v 56 ∧ v2 31 = v 31 ∧ v2 32 = v 32 ∧ v2 33 = v 33) ∧ (v2 3 = v 3 ∧ a2 2 = a 2) ∧ (v2 30 = v 30 ∧ a2 29 = a 29) ∧ ((f = -1 ∧ TSAME v a v2 a2 ∧ ¬ (0 ≤ x1 ∧ x1 < v 4 ∧ a 5 x1.toNat = 1)) ∨ (f = 1 ∧ (0 ≤ x1 ∧ x1 < v 4 ∧ a 5 x1.toNat = 1) ∧ TDRP x1 v a v2 a2))) := by
  intro n ad ln v a L E hn hV hI
  obtain ⟨hB, hT, hS, hR, h19⟩ := hV
  refine ⟨_, M_drop (t := x1) hB hT hS h_x1 (by omega) L E hI, fun r L2 E2 h => ?_⟩
  obtain ⟨ad2, ln2, v2, a2, hI2, f, rfl, hf, hB2, hx⟩ := h
  exact ⟨f, ad2, ln2, v2, a2, rfl, hI2, ⟨hB2, hx.1, hx.2.1, (hR.fr hf rfl), (by have q := hx.2.2.1; push_cast; omega)⟩, ⟨⟨trivial, ⟨hf.1 36 rfl, ⟨hf.1 36 rfl, hf.2 34 rfl, hf.2 35 rfl⟩, hf.1 42 rfl, hf.1 43 rfl, ⟨hf.1 41 rfl, hf.2 40 rfl⟩, ⟨hf.1 52 rfl, hf.2 51 rfl⟩, ⟨hf.1 60 rfl, hf.1 61 rfl, hf.2 58 rfl, hf.2 59 rfl⟩⟩⟩, ⟨hf.1 56 rfl, hf.1 31 rfl, hf.1 32 rfl, hf.1 33 rfl⟩, ⟨hf.1 3 rfl, hf.2 2 rfl⟩, ⟨hf.1 30 rfl, hf.2 29 rfl⟩, hx.2.2.2⟩⟩
theorem MO_rule {l : Launch} {G : GT} {mm : Nat} {x1 : Int} {x2 : Int} {x3 : Int} (h_x1 : -2147483648 ≤ x1 ∧ x1 ≤ 2147483647) (h_x2 : -2147483648 ≤ x2 ∧ x2 ≤ 2147483647) (h_x3 : -2147483648 ≤ x3 ∧ x3 ≤ 2147483647) : ModelOp l G yX12_rule cX12_rule 8 (some .int) 2 [.int (iI x1), .int (iI x2), .int (iI x3)] mm 1 4110 (fun v a v2 a2 f => (True ∧ (v2 36 = v 36 ∧ KSA v a v2 a2 ∧ v2 42 = v 42 ∧ v2 43 = v 43 ∧ (v2 41 = v 41 ∧ a2 40 = a 40) ∧ (v2 52 = v 52 ∧ a2 51 = a 51) ∧ (v2 60 = v 60 ∧ v2 61 = v 61 ∧ a2 58 = a 58 ∧ a2 59 = a 59))) ∧ (v2 56 = v 56 ∧ v2 31 = v 31 ∧ v2 32 = v 32 ∧ v2 33 = v 33) ∧ v2 3 = 0 ∧ (v2 30 = v 30 ∧ a2 29 = a 29) ∧ ((f = -1 ∧ TSAME v a v2 a2 ∧ ¬ ((0 ≤ x1 ∧ x1 < v 4 ∧ a 5 x1.toNat = 1 ∧ a 6 x1.toNat ≠ 5 ∧ 0 ≤ x2 ∧ x2 ≤ 5 ∧ 1 ≤ x3 ∧ x3 ≤ 8 ∧ 1 ≤ v 3 - x3 ∧ v 3 - x3 ≤ 4 ∧ a 10 x1.toNat ≠ 200) ∧ ACL (a 2) x3 (v 3 - x3) (DC (a 7 x1.toNat)) ∧ LTK (a 2) x3)) ∨ (f = a 10 x1.toNat ∧ ((0 ≤ x1 ∧ x1 < v 4 ∧ a 5 x1.toNat = 1 ∧ a 6 x1.toNat ≠ 5 ∧ 0 ≤ x2 ∧ x2 ≤ 5 ∧ 1 ≤ x3 ∧ x3 ≤ 8 ∧ 1 ≤ v 3 - x3 ∧ v 3 - x3 ≤ 4 ∧ a 10 x1.toNat ≠ 200) ∧ ACL (a 2) x3 (v 3 - x3) (DC (a 7 x1.toNat)) ∧ LTK (a 2) x3) ∧ TRUL x1 x2 x3 v a v2 a2))) := by
  intro n ad ln v a L E hn hV hI
  obtain ⟨hB, hT, hS, hR, h19⟩ := hV
  refine ⟨_, M_rule (t := x1) (x := x2) (m1 := x3) hB hT hS h_x1 h_x2 h_x3 (by omega) L E hI, fun r L2 E2 h => ?_⟩
  obtain ⟨ad2, ln2, v2, a2, hI2, f, rfl, hf, hB2, hx⟩ := h
  exact ⟨f, ad2, ln2, v2, a2, rfl, hI2, ⟨hB2, hx.1, hx.2.1, (hR.fr hf rfl), (by have q := hx.2.2.1; push_cast; omega)⟩, ⟨⟨trivial, ⟨hf.1 36 rfl, ⟨hf.1 36 rfl, hf.2 34 rfl, hf.2 35 rfl⟩, hf.1 42 rfl, hf.1 43 rfl, ⟨hf.1 41 rfl, hf.2 40 rfl⟩, ⟨hf.1 52 rfl, hf.2 51 rfl⟩, ⟨hf.1 60 rfl, hf.1 61 rfl, hf.2 58 rfl, hf.2 59 rfl⟩⟩⟩, ⟨hf.1 56 rfl, hf.1 31 rfl, hf.1 32 rfl, hf.1 33 rfl⟩, hx.2.2.2.1, ⟨hf.1 30 rfl, hf.2 29 rfl⟩, hx.2.2.2.2⟩⟩
theorem MO_condition {l : Launch} {G : GT} {mm : Nat} {x1 : Int} {x2 : Int} {x3 : Int} (h_x1 : -2147483648 ≤ x1 ∧ x1 ≤ 2147483647) (h_x2 : -2147483648 ≤ x2 ∧ x2 ≤ 2147483647) (h_x3 : -2147483648 ≤ x3 ∧ x3 ≤ 2147483647) : ModelOp l G yX12_condition cX12_condition 5 (some .int) 2 [.int (iI x1), .int (iI x2), .int (iI x3)] mm 1 4110 (fun v a v2 a2 f => (True ∧ (v2 36 = v 36 ∧ KSA v a v2 a2 ∧ v2 42 = v 42 ∧ v2 43 = v 43 ∧ (v2 41 = v 41 ∧ a2 40 = a 40) ∧ (v2 52 = v 52 ∧ a2 51 = a 51) ∧ (v2 60 = v 60 ∧ v2 61 = v 61 ∧ a2 58 = a 58 ∧ a2 59 = a 59))) ∧ (v2 56 = v 56 ∧ v2 31 = v 31 ∧ v2 32 = v 32 ∧ v2 33 = v 33) ∧ (v2 3 = v 3 ∧ a2 2 = a 2) ∧ (v2 30 = v 30 ∧ a2 29 = a 29) ∧ ((f = -1 ∧ TSAME v a v2 a2 ∧ ¬ (0 ≤ x1 ∧ x1 < v 4 ∧ a 5 x1.toNat = 1 ∧ a 6 x1.toNat ≠ 5 ∧ 0 ≤ x2 ∧ x2 < a 10 x1.toNat ∧ 0 ≤ x3 ∧ x3 ≤ 5)) ∨ (f = a 11 (200 * x1 + x2).toNat ∧ (0 ≤ x1 ∧ x1 < v 4 ∧ a 5 x1.toNat = 1 ∧ a 6 x1.toNat ≠ 5 ∧ 0 ≤ x2 ∧ x2 < a 10 x1.toNat ∧ 0 ≤ x3 ∧ x3 ≤ 5) ∧ TCND x1 x2 x3 v a v2 a2))) := by
  intro n ad ln v a L E hn hV hI
  obtain ⟨hB, hT, hS, hR, h19⟩ := hV
  refine ⟨_, M_condition (t := x1) (r0 := x2) (x := x3) hB hT hS h_x1 h_x2 h_x3 (by omega) L E hI, fun r L2 E2 h => ?_⟩
  obtain ⟨ad2, ln2, v2, a2, hI2, f, rfl, hf, hB2, hx⟩ := h
  exact ⟨f, ad2, ln2, v2, a2, rfl, hI2, ⟨hB2, hx.1, hx.2.1, (hR.fr hf rfl), (by have q := hx.2.2.1; push_cast; omega)⟩, ⟨⟨trivial, ⟨hf.1 36 rfl, ⟨hf.1 36 rfl, hf.2 34 rfl, hf.2 35 rfl⟩, hf.1 42 rfl, hf.1 43 rfl, ⟨hf.1 41 rfl, hf.2 40 rfl⟩, ⟨hf.1 52 rfl, hf.2 51 rfl⟩, ⟨hf.1 60 rfl, hf.1 61 rfl, hf.2 58 rfl, hf.2 59 rfl⟩⟩⟩, ⟨hf.1 56 rfl, hf.1 31 rfl, hf.1 32 rfl, hf.1 33 rfl⟩, ⟨hf.1 3 rfl, hf.2 2 rfl⟩, ⟨hf.1 30 rfl, hf.2 29 rfl⟩, hx.2.2.2⟩⟩
theorem MO_indicator {l : Launch} {G : GT} {mm : Nat} {x1 : Int} {x2 : Int} (h_x1 : -2147483648 ≤ x1 ∧ x1 ≤ 2147483647) (h_x2 : -2147483648 ≤ x2 ∧ x2 ≤ 2147483647) : ModelOp l G yX12_indicator cX12_indicator 8 (some .int) 2 [.int (iI x1), .int (iI x2)] mm 1 4110 (fun v a v2 a2 f => (True ∧ (v2 36 = v 36 ∧ KSA v a v2 a2 ∧ v2 42 = v 42 ∧ v2 43 = v 43 ∧ (v2 41 = v 41 ∧ a2 40 = a 40) ∧ (v2 52 = v 52 ∧ a2 51 = a 51) ∧ (v2 60 = v 60 ∧ v2 61 = v 61 ∧ a2 58 = a 58 ∧ a2 59 = a 59))) ∧ (v2 56 = v 56 ∧ v2 31 = v 31 ∧ v2 32 = v 32 ∧ v2 33 = v 33) ∧ v2 3 = 0 ∧ (v2 30 = v 30 ∧ a2 29 = a 29) ∧ ((f = -1 ∧ TSAME v a v2 a2 ∧ ¬ ((0 ≤ x2 ∧ x2 ≤ 3 ∧ 0 ≤ x1 ∧ x1 < v 4 ∧ a 5 x1.toNat = 1 ∧ ((x2 = 0 ∧ a 6 x1.toNat ≤ 2) ∨ (x2 = 1 ∧ a 6 x1.toNat = 2) ∨ (x2 ≠ 0 ∧ x2 ≠ 1 ∧ a 6 x1.toNat = 5)) ∧ v 3 ≤ 4) ∧ ACL (a 2) 0 (v 3) (DC (a 7 x1.toNat)) ∧ True)) ∨ (f = v 3 ∧ ((0 ≤ x2 ∧ x2 ≤ 3 ∧ 0 ≤ x1 ∧ x1 < v 4 ∧ a 5 x1.toNat = 1 ∧ ((x2 = 0 ∧ a 6 x1.toNat ≤ 2) ∨ (x2 = 1 ∧ a 6 x1.toNat = 2) ∨ (x2 ≠ 0 ∧ x2 ≠ 1 ∧ a 6 x1.toNat = 5)) ∧ v 3 ≤ 4) ∧ ACL (a 2) 0 (v 3) (DC (a 7 x1.toNat)) ∧ True) ∧ TIND x1 x2 v a v2 a2))) := by
  intro n ad ln v a L E hn hV hI
  obtain ⟨hB, hT, hS, hR, h19⟩ := hV
  refine ⟨_, M_indicator (t := x1) (x := x2) hB hT hS h_x1 h_x2 (by omega) L E hI, fun r L2 E2 h => ?_⟩
  obtain ⟨ad2, ln2, v2, a2, hI2, f, rfl, hf, hB2, hx⟩ := h
  exact ⟨f, ad2, ln2, v2, a2, rfl, hI2, ⟨hB2, hx.1, hx.2.1, (hR.fr hf rfl), (by have q := hx.2.2.1; push_cast; omega)⟩, ⟨⟨trivial, ⟨hf.1 36 rfl, ⟨hf.1 36 rfl, hf.2 34 rfl, hf.2 35 rfl⟩, hf.1 42 rfl, hf.1 43 rfl, ⟨hf.1 41 rfl, hf.2 40 rfl⟩, ⟨hf.1 52 rfl, hf.2 51 rfl⟩, ⟨hf.1 60 rfl, hf.1 61 rfl, hf.2 58 rfl, hf.2 59 rfl⟩⟩⟩, ⟨hf.1 56 rfl, hf.1 31 rfl, hf.1 32 rfl, hf.1 33 rfl⟩, hx.2.2.2.1, ⟨hf.1 30 rfl, hf.2 29 rfl⟩, hx.2.2.2.2⟩⟩
theorem MO_undo {l : Launch} {G : GT} {mm : Nat} : ModelOp l G yX12_undo cX12_undo 5 (some .int) 1 [] mm 0 0 (fun v a v2 a2 f => (True ∧ (v2 36 = v 36 ∧ KSA v a v2 a2 ∧ v2 42 = v 42 ∧ v2 43 = v 43 ∧ (v2 41 = v 41 ∧ a2 40 = a 40) ∧ (v2 52 = v 52 ∧ a2 51 = a 51) ∧ (v2 60 = v 60 ∧ v2 61 = v 61 ∧ a2 58 = a 58 ∧ a2 59 = a 59))) ∧ (v2 56 = v 56 ∧ v2 31 = v 31 ∧ v2 32 = v 32 ∧ v2 33 = v 33) ∧ (v2 3 = v 3 ∧ a2 2 = a 2) ∧ (v2 30 = v 30 ∧ a2 29 = a 29) ∧ ((∃ ln, STK ln v a) ∧ (∃ ln, STK ln v2 a2) ∧ ((v 19 = 0 ∧ f = 0 ∧ TSAME v a v2 a2) ∨ (v 19 ≠ 0 ∧ f = 1 ∧ TUND v a v2 a2)))) := by
  intro n ad ln v a L E hn hV hI
  obtain ⟨hB, hT, hS, hR, h19⟩ := hV
  refine ⟨_, M_undo  hB hT hS (by omega) L E hI, fun r L2 E2 h => ?_⟩
  obtain ⟨ad2, ln2, v2, a2, hI2, f, rfl, hf, hB2, hx⟩ := h
  exact ⟨f, ad2, ln2, v2, a2, rfl, hI2, ⟨hB2, hx.1, hx.2.1, (hR.fr hf rfl), (by have q := hx.2.2.1; push_cast; omega)⟩, ⟨⟨trivial, ⟨hf.1 36 rfl, ⟨hf.1 36 rfl, hf.2 34 rfl, hf.2 35 rfl⟩, hf.1 42 rfl, hf.1 43 rfl, ⟨hf.1 41 rfl, hf.2 40 rfl⟩, ⟨hf.1 52 rfl, hf.2 51 rfl⟩, ⟨hf.1 60 rfl, hf.1 61 rfl, hf.2 58 rfl, hf.2 59 rfl⟩⟩⟩, ⟨hf.1 56 rfl, hf.1 31 rfl, hf.1 32 rfl, hf.1 33 rfl⟩, ⟨hf.1 3 rfl, hf.2 2 rfl⟩, ⟨hf.1 30 rfl, hf.2 29 rfl⟩, ⟨⟨ln, hS⟩, ⟨ln2, hx.2.1⟩, hx.2.2.2⟩⟩⟩
theorem MO_text {l : Launch} {G : GT} {mm : Nat} : ModelOp l G yX12_text cX12_text 4 (some .int) 1 [] mm 0 0 (fun v a v2 a2 f => (True ∧ (v2 36 = v 36 ∧ KSA v a v2 a2 ∧ v2 42 = v 42 ∧ v2 43 = v 43 ∧ (v2 41 = v 41 ∧ a2 40 = a 40) ∧ (v2 52 = v 52 ∧ a2 51 = a 51) ∧ (v2 60 = v 60 ∧ v2 61 = v 61 ∧ a2 58 = a 58 ∧ a2 59 = a 59))) ∧ (v2 56 = v 56 ∧ v2 31 = v 31 ∧ v2 32 = v 32 ∧ v2 33 = v 33) ∧ v2 3 = 0 ∧ ((((f = -1 ∧ v2 30 = v 30 ∧ ¬ (TOK (a 2) (v 3) ∧ v 30 + v 3 ≤ 500)) ∨ (f = v2 30 ∧ TOK (a 2) (v 3) ∧ v 30 + v 3 ≤ 500 ∧ ((v 3 = 0 ∧ v2 30 = 0) ∨ (v 3 ≠ 0 ∧ v2 30 = v 30 + v 3))))) ∧ TXR v a v2 a2 f) ∧ TSAME v a v2 a2) := by
  intro n ad ln v a L E hn hV hI
  obtain ⟨hB, hT, hS, hR, h19⟩ := hV
  refine ⟨_, B_text  hB L E hI, fun r L2 E2 h => ?_⟩
  obtain ⟨v2, a2, hI2, f, rfl, hf, hB2, hx⟩ := h
  exact ⟨f, ad, ln, v2, a2, rfl, hI2, ⟨hB2, (hT.fr hf rfl rfl), (hS.fr hf rfl rfl), (hR.fr hf rfl), (by have q := hf.1 19 rfl; push_cast; omega)⟩, ⟨⟨trivial, ⟨hf.1 36 rfl, ⟨hf.1 36 rfl, hf.2 34 rfl, hf.2 35 rfl⟩, hf.1 42 rfl, hf.1 43 rfl, ⟨hf.1 41 rfl, hf.2 40 rfl⟩, ⟨hf.1 52 rfl, hf.2 51 rfl⟩, ⟨hf.1 60 rfl, hf.1 61 rfl, hf.2 58 rfl, hf.2 59 rfl⟩⟩⟩, ⟨hf.1 56 rfl, hf.1 31 rfl, hf.1 32 rfl, hf.1 33 rfl⟩, hx.1.1, ⟨hx.1.2, hx.2⟩, ⟨hf.1 4 rfl, hf.2 5 rfl, hf.2 6 rfl, hf.2 7 rfl, hf.2 10 rfl, hf.1 19 rfl, hf.2 18 rfl, hf.2 11 rfl, hf.2 8 rfl, hf.2 9 rfl, hf.2 12 rfl, hf.2 13 rfl, hf.2 14 rfl, hf.2 15 rfl, hf.2 16 rfl, hf.2 17 rfl⟩⟩⟩
theorem MO_measure {l : Launch} {G : GT} {mm : Nat} {x1 : Int} {x2 : Int} {x3 : Int} (h_x1 : -2147483648 ≤ x1 ∧ x1 ≤ 2147483647) (h_x2 : -2147483648 ≤ x2 ∧ x2 ≤ 2147483647) (h_x3 : -2147483648 ≤ x3 ∧ x3 ≤ 2147483647) : ModelOp l G yX12_measure cX12_measure 4 (some .int) 1 [.int (iI x1), .int (iI x2), .int (iI x3)] mm 0 0 (fun v a v2 a2 f => (((f = 1 ∧ 1 ≤ x1 ∧ x1 ≤ 100 ∧ 1 ≤ x2 ∧ x2 ≤ 50 ∧ 1 ≤ x3 ∧ x3 ≤ 255) ∨ (f = -1 ∧ ¬ (1 ≤ x1 ∧ x1 ≤ 100 ∧ 1 ≤ x2 ∧ x2 ≤ 50 ∧ 1 ≤ x3 ∧ x3 ≤ 255))) ∧ (v2 36 = v 36 ∧ KSA v a v2 a2 ∧ v2 42 = v 42 ∧ v2 43 = v 43 ∧ (v2 41 = v 41 ∧ a2 40 = a 40) ∧ (v2 52 = v 52 ∧ a2 51 = a 51) ∧ (v2 60 = v 60 ∧ v2 61 = v 61 ∧ a2 58 = a 58 ∧ a2 59 = a 59))) ∧ (v2 56 = v 56 ∧ ((f = 1 ∧ v2 31 = x1 ∧ v2 32 = x2 ∧ v2 33 = x3) ∨ (f = -1 ∧ v2 31 = v 31 ∧ v2 32 = v 32 ∧ v2 33 = v 33))) ∧ (v2 3 = v 3 ∧ a2 2 = a 2) ∧ (v2 30 = v 30 ∧ a2 29 = a 29) ∧ TSAME v a v2 a2) := by
  intro n ad ln v a L E hn hV hI
  obtain ⟨hB, hT, hS, hR, h19⟩ := hV
  refine ⟨_, N_measure (w1 := x1) (h1 := x2) (y1 := x3) hB h_x1 h_x2 h_x3 L E hI, fun r L2 E2 h => ?_⟩
  obtain ⟨v2, a2, hI2, f, rfl, hf, hB2, hx⟩ := h
  exact ⟨f, ad, ln, v2, a2, rfl, hI2, ⟨hB2, (hT.fr hf rfl rfl), (hS.fr hf rfl rfl), (hR.fr hf rfl), (by have q := hf.1 19 rfl; push_cast; omega)⟩, ⟨⟨hx.1, ⟨hf.1 36 rfl, ⟨hf.1 36 rfl, hf.2 34 rfl, hf.2 35 rfl⟩, hf.1 42 rfl, hf.1 43 rfl, ⟨hf.1 41 rfl, hf.2 40 rfl⟩, ⟨hf.1 52 rfl, hf.2 51 rfl⟩, ⟨hf.1 60 rfl, hf.1 61 rfl, hf.2 58 rfl, hf.2 59 rfl⟩⟩⟩, ⟨hf.1 56 rfl, hx.2⟩, ⟨hf.1 3 rfl, hf.2 2 rfl⟩, ⟨hf.1 30 rfl, hf.2 29 rfl⟩, ⟨hf.1 4 rfl, hf.2 5 rfl, hf.2 6 rfl, hf.2 7 rfl, hf.2 10 rfl, hf.1 19 rfl, hf.2 18 rfl, hf.2 11 rfl, hf.2 8 rfl, hf.2 9 rfl, hf.2 12 rfl, hf.2 13 rfl, hf.2 14 rfl, hf.2 15 rfl, hf.2 16 rfl, hf.2 17 rfl⟩⟩⟩
theorem MO_lines {l : Launch} {G : GT} {mm : Nat} : ModelOp l G yX12_lines cX12_lines 1 (some .int) 0 [] mm 0 0 (fun v a v2 a2 f => (True ∧ (v2 36 = v 36 ∧ KSA v a v2 a2 ∧ v2 42 = v 42 ∧ v2 43 = v 43 ∧ (v2 41 = v 41 ∧ a2 40 = a 40) ∧ (v2 52 = v 52 ∧ a2 51 = a 51) ∧ (v2 60 = v 60 ∧ v2 61 = v 61 ∧ a2 58 = a 58 ∧ a2 59 = a 59))) ∧ (v2 56 = v 56 ∧ v2 31 = v 31 ∧ v2 32 = v 32 ∧ v2 33 = v 33) ∧ (v2 3 = v 3 ∧ a2 2 = a 2) ∧ (v2 30 = v 30 ∧ a2 29 = a 29) ∧ TSAME v a v2 a2) := by
  intro n ad ln v a L E hn hV hI
  obtain ⟨hB, hT, hS, hR, h19⟩ := hV
  refine ⟨_, B_lines  hB L E hI, fun r L2 E2 h => ?_⟩
  obtain ⟨v2, a2, hI2, f, rfl, hf, hB2, hx⟩ := h
  exact ⟨f, ad, ln, v2, a2, rfl, hI2, ⟨hB2, (hT.fr hf rfl rfl), (hS.fr hf rfl rfl), (hR.fr hf rfl), (by have q := hf.1 19 rfl; push_cast; omega)⟩, ⟨⟨trivial, ⟨hf.1 36 rfl, ⟨hf.1 36 rfl, hf.2 34 rfl, hf.2 35 rfl⟩, hf.1 42 rfl, hf.1 43 rfl, ⟨hf.1 41 rfl, hf.2 40 rfl⟩, ⟨hf.1 52 rfl, hf.2 51 rfl⟩, ⟨hf.1 60 rfl, hf.1 61 rfl, hf.2 58 rfl, hf.2 59 rfl⟩⟩⟩, ⟨hf.1 56 rfl, hf.1 31 rfl, hf.1 32 rfl, hf.1 33 rfl⟩, ⟨hf.1 3 rfl, hf.2 2 rfl⟩, ⟨hf.1 30 rfl, hf.2 29 rfl⟩, ⟨hf.1 4 rfl, hf.2 5 rfl, hf.2 6 rfl, hf.2 7 rfl, hf.2 10 rfl, hf.1 19 rfl, hf.2 18 rfl, hf.2 11 rfl, hf.2 8 rfl, hf.2 9 rfl, hf.2 12 rfl, hf.2 13 rfl, hf.2 14 rfl, hf.2 15 rfl, hf.2 16 rfl, hf.2 17 rfl⟩⟩⟩
theorem MO_pages {l : Launch} {G : GT} {mm : Nat} : ModelOp l G yX12_pages cX12_pages 1 (some .int) 2 [] mm 0 0 (fun v a v2 a2 f => (True ∧ (v2 36 = v 36 ∧ KSA v a v2 a2 ∧ v2 42 = v 42 ∧ v2 43 = v 43 ∧ (v2 41 = v 41 ∧ a2 40 = a 40) ∧ (v2 52 = v 52 ∧ a2 51 = a 51) ∧ (v2 60 = v 60 ∧ v2 61 = v 61 ∧ a2 58 = a 58 ∧ a2 59 = a 59))) ∧ (v2 56 = v 56 ∧ v2 31 = v 31 ∧ v2 32 = v 32 ∧ v2 33 = v 33) ∧ (v2 3 = v 3 ∧ a2 2 = a 2) ∧ (v2 30 = v 30 ∧ a2 29 = a 29) ∧ TSAME v a v2 a2) := by
  intro n ad ln v a L E hn hV hI
  obtain ⟨hB, hT, hS, hR, h19⟩ := hV
  refine ⟨_, M_pages  hB L E hI, fun r L2 E2 h => ?_⟩
  obtain ⟨v2, a2, hI2, f, rfl, hf, hB2, hx⟩ := h
  exact ⟨f, ad, ln, v2, a2, rfl, hI2, ⟨hB2, (hT.fr hf rfl rfl), (hS.fr hf rfl rfl), (hR.fr hf rfl), (by have q := hf.1 19 rfl; push_cast; omega)⟩, ⟨⟨trivial, ⟨hf.1 36 rfl, ⟨hf.1 36 rfl, hf.2 34 rfl, hf.2 35 rfl⟩, hf.1 42 rfl, hf.1 43 rfl, ⟨hf.1 41 rfl, hf.2 40 rfl⟩, ⟨hf.1 52 rfl, hf.2 51 rfl⟩, ⟨hf.1 60 rfl, hf.1 61 rfl, hf.2 58 rfl, hf.2 59 rfl⟩⟩⟩, ⟨hf.1 56 rfl, hf.1 31 rfl, hf.1 32 rfl, hf.1 33 rfl⟩, ⟨hf.1 3 rfl, hf.2 2 rfl⟩, ⟨hf.1 30 rfl, hf.2 29 rfl⟩, ⟨hf.1 4 rfl, hf.2 5 rfl, hf.2 6 rfl, hf.2 7 rfl, hf.2 10 rfl, hf.1 19 rfl, hf.2 18 rfl, hf.2 11 rfl, hf.2 8 rfl, hf.2 9 rfl, hf.2 12 rfl, hf.2 13 rfl, hf.2 14 rfl, hf.2 15 rfl, hf.2 16 rfl, hf.2 17 rfl⟩⟩⟩
theorem MO_length {l : Launch} {G : GT} {mm : Nat} {x1 : Int} (h_x1 : -2147483648 ≤ x1 ∧ x1 ≤ 2147483647) : ModelOp l G yX12_length cX12_length 2 (some .int) 2 [.int (iI x1)] mm 0 0 (fun v a v2 a2 f => (True ∧ (v2 36 = v 36 ∧ KSA v a v2 a2 ∧ v2 42 = v 42 ∧ v2 43 = v 43 ∧ (v2 41 = v 41 ∧ a2 40 = a 40) ∧ (v2 52 = v 52 ∧ a2 51 = a 51) ∧ (v2 60 = v 60 ∧ v2 61 = v 61 ∧ a2 58 = a 58 ∧ a2 59 = a 59))) ∧ (v2 56 = v 56 ∧ v2 31 = v 31 ∧ v2 32 = v 32 ∧ v2 33 = v 33) ∧ (v2 3 = v 3 ∧ a2 2 = a 2) ∧ (v2 30 = v 30 ∧ a2 29 = a 29) ∧ TSAME v a v2 a2) := by
  intro n ad ln v a L E hn hV hI
  obtain ⟨hB, hT, hS, hR, h19⟩ := hV
  refine ⟨_, B_length (l0 := x1) hB h_x1 L E hI, fun r L2 E2 h => ?_⟩
  obtain ⟨v2, a2, hI2, f, rfl, hf, hB2, hx⟩ := h
  exact ⟨f, ad, ln, v2, a2, rfl, hI2, ⟨hB2, (hT.fr hf rfl rfl), (hS.fr hf rfl rfl), (hR.fr hf rfl), (by have q := hf.1 19 rfl; push_cast; omega)⟩, ⟨⟨trivial, ⟨hf.1 36 rfl, ⟨hf.1 36 rfl, hf.2 34 rfl, hf.2 35 rfl⟩, hf.1 42 rfl, hf.1 43 rfl, ⟨hf.1 41 rfl, hf.2 40 rfl⟩, ⟨hf.1 52 rfl, hf.2 51 rfl⟩, ⟨hf.1 60 rfl, hf.1 61 rfl, hf.2 58 rfl, hf.2 59 rfl⟩⟩⟩, ⟨hf.1 56 rfl, hf.1 31 rfl, hf.1 32 rfl, hf.1 33 rfl⟩, ⟨hf.1 3 rfl, hf.2 2 rfl⟩, ⟨hf.1 30 rfl, hf.2 29 rfl⟩, ⟨hf.1 4 rfl, hf.2 5 rfl, hf.2 6 rfl, hf.2 7 rfl, hf.2 10 rfl, hf.1 19 rfl, hf.2 18 rfl, hf.2 11 rfl, hf.2 8 rfl, hf.2 9 rfl, hf.2 12 rfl, hf.2 13 rfl, hf.2 14 rfl, hf.2 15 rfl, hf.2 16 rfl, hf.2 17 rfl⟩⟩⟩
theorem MO_cell {l : Launch} {G : GT} {mm : Nat} {x1 : Int} {x2 : Int} (h_x1 : -2147483648 ≤ x1 ∧ x1 ≤ 2147483647) (h_x2 : -2147483648 ≤ x2 ∧ x2 ≤ 2147483647) : ModelOp l G yX12_cell cX12_cell 3 (some .int) 2 [.int (iI x1), .int (iI x2)] mm 0 0 (fun v a v2 a2 f => (True ∧ (v2 36 = v 36 ∧ KSA v a v2 a2 ∧ v2 42 = v 42 ∧ v2 43 = v 43 ∧ (v2 41 = v 41 ∧ a2 40 = a 40) ∧ (v2 52 = v 52 ∧ a2 51 = a 51) ∧ (v2 60 = v 60 ∧ v2 61 = v 61 ∧ a2 58 = a 58 ∧ a2 59 = a 59))) ∧ (v2 56 = v 56 ∧ v2 31 = v 31 ∧ v2 32 = v 32 ∧ v2 33 = v 33) ∧ (v2 3 = v 3 ∧ a2 2 = a 2) ∧ (v2 30 = v 30 ∧ a2 29 = a 29) ∧ TSAME v a v2 a2) := by
  intro n ad ln v a L E hn hV hI
  obtain ⟨hB, hT, hS, hR, h19⟩ := hV
  refine ⟨_, B_cell (l0 := x1) (i := x2) hB h_x1 h_x2 L E hI, fun r L2 E2 h => ?_⟩
  obtain ⟨v2, a2, hI2, f, rfl, hf, hB2, hx⟩ := h
  exact ⟨f, ad, ln, v2, a2, rfl, hI2, ⟨hB2, (hT.fr hf rfl rfl), (hS.fr hf rfl rfl), (hR.fr hf rfl), (by have q := hf.1 19 rfl; push_cast; omega)⟩, ⟨⟨trivial, ⟨hf.1 36 rfl, ⟨hf.1 36 rfl, hf.2 34 rfl, hf.2 35 rfl⟩, hf.1 42 rfl, hf.1 43 rfl, ⟨hf.1 41 rfl, hf.2 40 rfl⟩, ⟨hf.1 52 rfl, hf.2 51 rfl⟩, ⟨hf.1 60 rfl, hf.1 61 rfl, hf.2 58 rfl, hf.2 59 rfl⟩⟩⟩, ⟨hf.1 56 rfl, hf.1 31 rfl, hf.1 32 rfl, hf.1 33 rfl⟩, ⟨hf.1 3 rfl, hf.2 2 rfl⟩, ⟨hf.1 30 rfl, hf.2 29 rfl⟩, ⟨hf.1 4 rfl, hf.2 5 rfl, hf.2 6 rfl, hf.2 7 rfl, hf.2 10 rfl, hf.1 19 rfl, hf.2 18 rfl, hf.2 11 rfl, hf.2 8 rfl, hf.2 9 rfl, hf.2 12 rfl, hf.2 13 rfl, hf.2 14 rfl, hf.2 15 rfl, hf.2 16 rfl, hf.2 17 rfl⟩⟩⟩
theorem MO_copied {l : Launch} {G : GT} {mm : Nat} : ModelOp l G yX12_copied cX12_copied 1 (some .int) 0 [] mm 0 0 (fun v a v2 a2 f => (True ∧ (v2 36 = v 36 ∧ KSA v a v2 a2 ∧ v2 42 = v 42 ∧ v2 43 = v 43 ∧ (v2 41 = v 41 ∧ a2 40 = a 40) ∧ (v2 52 = v 52 ∧ a2 51 = a 51) ∧ (v2 60 = v 60 ∧ v2 61 = v 61 ∧ a2 58 = a 58 ∧ a2 59 = a 59))) ∧ (v2 56 = v 56 ∧ v2 31 = v 31 ∧ v2 32 = v 32 ∧ v2 33 = v 33) ∧ (v2 3 = v 3 ∧ a2 2 = a 2) ∧ (v2 30 = v 30 ∧ a2 29 = a 29) ∧ TSAME v a v2 a2) := by
  intro n ad ln v a L E hn hV hI
  obtain ⟨hB, hT, hS, hR, h19⟩ := hV
  refine ⟨_, B_copied  hB L E hI, fun r L2 E2 h => ?_⟩
  obtain ⟨v2, a2, hI2, f, rfl, hf, hB2, hx⟩ := h
  exact ⟨f, ad, ln, v2, a2, rfl, hI2, ⟨hB2, (hT.fr hf rfl rfl), (hS.fr hf rfl rfl), (hR.fr hf rfl), (by have q := hf.1 19 rfl; push_cast; omega)⟩, ⟨⟨trivial, ⟨hf.1 36 rfl, ⟨hf.1 36 rfl, hf.2 34 rfl, hf.2 35 rfl⟩, hf.1 42 rfl, hf.1 43 rfl, ⟨hf.1 41 rfl, hf.2 40 rfl⟩, ⟨hf.1 52 rfl, hf.2 51 rfl⟩, ⟨hf.1 60 rfl, hf.1 61 rfl, hf.2 58 rfl, hf.2 59 rfl⟩⟩⟩, ⟨hf.1 56 rfl, hf.1 31 rfl, hf.1 32 rfl, hf.1 33 rfl⟩, ⟨hf.1 3 rfl, hf.2 2 rfl⟩, ⟨hf.1 30 rfl, hf.2 29 rfl⟩, ⟨hf.1 4 rfl, hf.2 5 rfl, hf.2 6 rfl, hf.2 7 rfl, hf.2 10 rfl, hf.1 19 rfl, hf.2 18 rfl, hf.2 11 rfl, hf.2 8 rfl, hf.2 9 rfl, hf.2 12 rfl, hf.2 13 rfl, hf.2 14 rfl, hf.2 15 rfl, hf.2 16 rfl, hf.2 17 rfl⟩⟩⟩
theorem MO_closed {l : Launch} {G : GT} {mm : Nat} : ModelOp l G yX12_closed cX12_closed 1 (some .int) 0 [] mm 0 0 (fun v a v2 a2 f => (True ∧ (v2 36 = v 36 ∧ KSA v a v2 a2 ∧ v2 42 = v 42 ∧ v2 43 = v 43 ∧ (v2 41 = v 41 ∧ a2 40 = a 40) ∧ (v2 52 = v 52 ∧ a2 51 = a 51) ∧ (v2 60 = v 60 ∧ v2 61 = v 61 ∧ a2 58 = a 58 ∧ a2 59 = a 59))) ∧ (v2 56 = v 56 ∧ v2 31 = v 31 ∧ v2 32 = v 32 ∧ v2 33 = v 33) ∧ (v2 3 = v 3 ∧ a2 2 = a 2) ∧ (v2 30 = v 30 ∧ a2 29 = a 29) ∧ TSAME v a v2 a2) := by
  intro n ad ln v a L E hn hV hI
  obtain ⟨hB, hT, hS, hR, h19⟩ := hV
  refine ⟨_, B_closed  hB L E hI, fun r L2 E2 h => ?_⟩
  obtain ⟨v2, a2, hI2, f, rfl, hf, hB2, hx⟩ := h
  exact ⟨f, ad, ln, v2, a2, rfl, hI2, ⟨hB2, (hT.fr hf rfl rfl), (hS.fr hf rfl rfl), (hR.fr hf rfl), (by have q := hf.1 19 rfl; push_cast; omega)⟩, ⟨⟨trivial, ⟨hf.1 36 rfl, ⟨hf.1 36 rfl, hf.2 34 rfl, hf.2 35 rfl⟩, hf.1 42 rfl, hf.1 43 rfl, ⟨hf.1 41 rfl, hf.2 40 rfl⟩, ⟨hf.1 52 rfl, hf.2 51 rfl⟩, ⟨hf.1 60 rfl, hf.1 61 rfl, hf.2 58 rfl, hf.2 59 rfl⟩⟩⟩, ⟨hf.1 56 rfl, hf.1 31 rfl, hf.1 32 rfl, hf.1 33 rfl⟩, ⟨hf.1 3 rfl, hf.2 2 rfl⟩, ⟨hf.1 30 rfl, hf.2 29 rfl⟩, ⟨hf.1 4 rfl, hf.2 5 rfl, hf.2 6 rfl, hf.2 7 rfl, hf.2 10 rfl, hf.1 19 rfl, hf.2 18 rfl, hf.2 11 rfl, hf.2 8 rfl, hf.2 9 rfl, hf.2 12 rfl, hf.2 13 rfl, hf.2 14 rfl, hf.2 15 rfl, hf.2 16 rfl, hf.2 17 rfl⟩⟩⟩
theorem MO_read {l : Launch} {G : GT} {mm : Nat} {x1 : Int} {x2 : Int} {x3 : Int} (h_x1 : -2147483648 ≤ x1 ∧ x1 ≤ 2147483647) (h_x2 : -2147483648 ≤ x2 ∧ x2 ≤ 2147483647) (h_x3 : -2147483648 ≤ x3 ∧ x3 ≤ 2147483647) : ModelOp l G yX12_read cX12_read 11 (some .int) 36 [.int (iI x1), .int (iI x2), .int (iI x3)] mm 0 0 (fun v a v2 a2 f => (True ∧ (v2 36 = v 36 ∧ KSA v a v2 a2 ∧ v2 42 = v 42 ∧ v2 43 = v 43 ∧ (v2 41 = v 41 ∧ a2 40 = a 40) ∧ True ∧ (v2 60 = v 60 ∧ v2 61 = v 61 ∧ a2 58 = a 58 ∧ a2 59 = a 59))) ∧ (v2 56 = v 56 ∧ v2 31 = v 31 ∧ v2 32 = v 32 ∧ v2 33 = v 33) ∧ (v2 3 = v 3 ∧ a2 2 = a 2) ∧ (v2 30 = v 30 ∧ a2 29 = a 29) ∧ TSAME v a v2 a2) := by
  intro n ad ln v a L E hn hV hI
  obtain ⟨hB, hT, hS, hR, h19⟩ := hV
  refine ⟨_, N_read (t := x1) (q := x2) (n1 := x3) hB hT hR h_x1 h_x2 h_x3 L E hI, fun r L2 E2 h => ?_⟩
  obtain ⟨v2, a2, hI2, f, rfl, hf, hB2, hx⟩ := h
  exact ⟨f, ad, ln, v2, a2, rfl, hI2, ⟨hB2, (hT.fr hf rfl rfl), (hS.fr hf rfl rfl), hx, (by have q := hf.1 19 rfl; push_cast; omega)⟩, ⟨⟨trivial, ⟨hf.1 36 rfl, ⟨hf.1 36 rfl, hf.2 34 rfl, hf.2 35 rfl⟩, hf.1 42 rfl, hf.1 43 rfl, ⟨hf.1 41 rfl, hf.2 40 rfl⟩, trivial, ⟨hf.1 60 rfl, hf.1 61 rfl, hf.2 58 rfl, hf.2 59 rfl⟩⟩⟩, ⟨hf.1 56 rfl, hf.1 31 rfl, hf.1 32 rfl, hf.1 33 rfl⟩, ⟨hf.1 3 rfl, hf.2 2 rfl⟩, ⟨hf.1 30 rfl, hf.2 29 rfl⟩, ⟨hf.1 4 rfl, hf.2 5 rfl, hf.2 6 rfl, hf.2 7 rfl, hf.2 10 rfl, hf.1 19 rfl, hf.2 18 rfl, hf.2 11 rfl, hf.2 8 rfl, hf.2 9 rfl, hf.2 12 rfl, hf.2 13 rfl, hf.2 14 rfl, hf.2 15 rfl, hf.2 16 rfl, hf.2 17 rfl⟩⟩⟩
theorem MO_letter {l : Launch} {G : GT} {mm : Nat} {x1 : Int} (h_x1 : -2147483648 ≤ x1 ∧ x1 ≤ 2147483647) : ModelOp l G yX12_letter cX12_letter 2 (some .int) 2 [.int (iI x1)] mm 0 0 (fun v a v2 a2 f => (True ∧ (v2 36 = v 36 ∧ KSA v a v2 a2 ∧ v2 42 = v 42 ∧ v2 43 = v 43 ∧ (v2 41 = v 41 ∧ a2 40 = a 40) ∧ (v2 52 = v 52 ∧ a2 51 = a 51) ∧ (v2 60 = v 60 ∧ v2 61 = v 61 ∧ a2 58 = a 58 ∧ a2 59 = a 59))) ∧ (v2 56 = v 56 ∧ v2 31 = v 31 ∧ v2 32 = v 32 ∧ v2 33 = v 33) ∧ (v2 3 = v 3 ∧ a2 2 = a 2) ∧ (v2 30 = v 30 ∧ a2 29 = a 29) ∧ TSAME v a v2 a2) := by
  intro n ad ln v a L E hn hV hI
  obtain ⟨hB, hT, hS, hR, h19⟩ := hV
  refine ⟨_, B_letter (i := x1) hB h_x1 L E hI, fun r L2 E2 h => ?_⟩
  obtain ⟨v2, a2, hI2, f, rfl, hf, hB2, hx⟩ := h
  exact ⟨f, ad, ln, v2, a2, rfl, hI2, ⟨hB2, (hT.fr hf rfl rfl), (hS.fr hf rfl rfl), (hR.fr hf rfl), (by have q := hf.1 19 rfl; push_cast; omega)⟩, ⟨⟨trivial, ⟨hf.1 36 rfl, ⟨hf.1 36 rfl, hf.2 34 rfl, hf.2 35 rfl⟩, hf.1 42 rfl, hf.1 43 rfl, ⟨hf.1 41 rfl, hf.2 40 rfl⟩, ⟨hf.1 52 rfl, hf.2 51 rfl⟩, ⟨hf.1 60 rfl, hf.1 61 rfl, hf.2 58 rfl, hf.2 59 rfl⟩⟩⟩, ⟨hf.1 56 rfl, hf.1 31 rfl, hf.1 32 rfl, hf.1 33 rfl⟩, ⟨hf.1 3 rfl, hf.2 2 rfl⟩, ⟨hf.1 30 rfl, hf.2 29 rfl⟩, ⟨hf.1 4 rfl, hf.2 5 rfl, hf.2 6 rfl, hf.2 7 rfl, hf.2 10 rfl, hf.1 19 rfl, hf.2 18 rfl, hf.2 11 rfl, hf.2 8 rfl, hf.2 9 rfl, hf.2 12 rfl, hf.2 13 rfl, hf.2 14 rfl, hf.2 15 rfl, hf.2 16 rfl, hf.2 17 rfl⟩⟩⟩
theorem MO_failed {l : Launch} {G : GT} {mm : Nat} {x1 : Int} {x2 : Int} (h_x1 : -2147483648 ≤ x1 ∧ x1 ≤ 2147483647) (h_x2 : x2 = 0 ∨ x2 = 1) : ModelOp l G yX12_failed cX12_failed 3 (some .int) 1 [.int (iI x1), .int (iI x2)] mm 0 0 (fun v a v2 a2 f => (True ∧ (v2 36 = v 36 ∧ KSA v a v2 a2 ∧ v2 42 = v 42 ∧ v2 43 = v 43 ∧ (v2 41 = v 41 ∧ a2 40 = a 40) ∧ (v2 52 = v 52 ∧ a2 51 = a 51) ∧ (v2 60 = v 60 ∧ v2 61 = v 61 ∧ a2 58 = a 58 ∧ a2 59 = a 59))) ∧ ((((x1 < 0 ∨ 7 < x1) ∧ f = -1 ∧ v2 56 = v 56) ∨ (0 ≤ x1 ∧ x1 ≤ 7 ∧ iI (v2 56) = fdv (iI (v 56)) x1 x2 ∧ iI f = bcn (iI (v2 56)))) ∧ v2 31 = v 31 ∧ v2 32 = v 32 ∧ v2 33 = v 33) ∧ (v2 3 = v 3 ∧ a2 2 = a 2) ∧ (v2 30 = v 30 ∧ a2 29 = a 29) ∧ TSAME v a v2 a2) := by
  intro n ad ln v a L E hn hV hI
  obtain ⟨hB, hT, hS, hR, h19⟩ := hV
  refine ⟨_, N_failed (x := x1) (g := x2) hB h_x1 h_x2 L E hI, fun r L2 E2 h => ?_⟩
  obtain ⟨v2, a2, hI2, f, rfl, hf, hB2, hx⟩ := h
  exact ⟨f, ad, ln, v2, a2, rfl, hI2, ⟨hB2, (hT.fr hf rfl rfl), (hS.fr hf rfl rfl), (hR.fr hf rfl), (by have q := hf.1 19 rfl; push_cast; omega)⟩, ⟨⟨trivial, ⟨hf.1 36 rfl, ⟨hf.1 36 rfl, hf.2 34 rfl, hf.2 35 rfl⟩, hf.1 42 rfl, hf.1 43 rfl, ⟨hf.1 41 rfl, hf.2 40 rfl⟩, ⟨hf.1 52 rfl, hf.2 51 rfl⟩, ⟨hf.1 60 rfl, hf.1 61 rfl, hf.2 58 rfl, hf.2 59 rfl⟩⟩⟩, ⟨hx, hf.1 31 rfl, hf.1 32 rfl, hf.1 33 rfl⟩, ⟨hf.1 3 rfl, hf.2 2 rfl⟩, ⟨hf.1 30 rfl, hf.2 29 rfl⟩, ⟨hf.1 4 rfl, hf.2 5 rfl, hf.2 6 rfl, hf.2 7 rfl, hf.2 10 rfl, hf.1 19 rfl, hf.2 18 rfl, hf.2 11 rfl, hf.2 8 rfl, hf.2 9 rfl, hf.2 12 rfl, hf.2 13 rfl, hf.2 14 rfl, hf.2 15 rfl, hf.2 16 rfl, hf.2 17 rfl⟩⟩⟩
theorem MO_readings {l : Launch} {G : GT} {mm : Nat} {x1 : Int} {x2 : Int} {x3 : Int} (h_x1 : -2147483648 ≤ x1 ∧ x1 ≤ 2147483647) (h_x2 : -2147483648 ≤ x2 ∧ x2 ≤ 2147483647) (h_x3 : -2147483648 ≤ x3 ∧ x3 ≤ 2147483647) : ModelOp l G yX12_readings cX12_readings 5 (some .int) 105 [.int (iI x1), .int (iI x2), .int (iI x3)] mm 0 0 (fun v a v2 a2 f => (True ∧ (v2 36 = v 36 ∧ KSA v a v2 a2 ∧ v2 42 = v 42 ∧ v2 43 = v 43 ∧ (v2 41 = v 41 ∧ a2 40 = a 40) ∧ (v2 52 = v 52 ∧ a2 51 = a 51) ∧ True)) ∧ (v2 56 = v 56 ∧ v2 31 = v 31 ∧ v2 32 = v 32 ∧ v2 33 = v 33) ∧ (v2 3 = v 3 ∧ a2 2 = a 2) ∧ (v2 30 = v 30 ∧ a2 29 = a 29) ∧ TSAME v a v2 a2) := by
  intro n ad ln v a L E hn hV hI
  obtain ⟨hB, hT, hS, hR, h19⟩ := hV
  refine ⟨_, N_readings (t := x1) (l0 := x2) (n1 := x3) hB hT hR h_x1 h_x2 h_x3 L E hI, fun r L2 E2 h => ?_⟩
  obtain ⟨v2, a2, hI2, f, rfl, hf, hB2, hx⟩ := h
  exact ⟨f, ad, ln, v2, a2, rfl, hI2, ⟨hB2, (hT.fr hf rfl rfl), (hS.fr hf rfl rfl), hx, (by have q := hf.1 19 rfl; push_cast; omega)⟩, ⟨⟨trivial, ⟨hf.1 36 rfl, ⟨hf.1 36 rfl, hf.2 34 rfl, hf.2 35 rfl⟩, hf.1 42 rfl, hf.1 43 rfl, ⟨hf.1 41 rfl, hf.2 40 rfl⟩, ⟨hf.1 52 rfl, hf.2 51 rfl⟩, trivial⟩⟩, ⟨hf.1 56 rfl, hf.1 31 rfl, hf.1 32 rfl, hf.1 33 rfl⟩, ⟨hf.1 3 rfl, hf.2 2 rfl⟩, ⟨hf.1 30 rfl, hf.2 29 rfl⟩, ⟨hf.1 4 rfl, hf.2 5 rfl, hf.2 6 rfl, hf.2 7 rfl, hf.2 10 rfl, hf.1 19 rfl, hf.2 18 rfl, hf.2 11 rfl, hf.2 8 rfl, hf.2 9 rfl, hf.2 12 rfl, hf.2 13 rfl, hf.2 14 rfl, hf.2 15 rfl, hf.2 16 rfl, hf.2 17 rfl⟩⟩⟩
theorem MO_more {l : Launch} {G : GT} {mm : Nat} : ModelOp l G yX12_more cX12_more 1 (some .int) 0 [] mm 0 0 (fun v a v2 a2 f => (True ∧ (v2 36 = v 36 ∧ KSA v a v2 a2 ∧ v2 42 = v 42 ∧ v2 43 = v 43 ∧ (v2 41 = v 41 ∧ a2 40 = a 40) ∧ (v2 52 = v 52 ∧ a2 51 = a 51) ∧ (v2 60 = v 60 ∧ v2 61 = v 61 ∧ a2 58 = a 58 ∧ a2 59 = a 59))) ∧ (v2 56 = v 56 ∧ v2 31 = v 31 ∧ v2 32 = v 32 ∧ v2 33 = v 33) ∧ (v2 3 = v 3 ∧ a2 2 = a 2) ∧ (v2 30 = v 30 ∧ a2 29 = a 29) ∧ TSAME v a v2 a2) := by
  intro n ad ln v a L E hn hV hI
  obtain ⟨hB, hT, hS, hR, h19⟩ := hV
  refine ⟨_, B_more  hB L E hI, fun r L2 E2 h => ?_⟩
  obtain ⟨v2, a2, hI2, f, rfl, hf, hB2, hx⟩ := h
  exact ⟨f, ad, ln, v2, a2, rfl, hI2, ⟨hB2, (hT.fr hf rfl rfl), (hS.fr hf rfl rfl), (hR.fr hf rfl), (by have q := hf.1 19 rfl; push_cast; omega)⟩, ⟨⟨trivial, ⟨hf.1 36 rfl, ⟨hf.1 36 rfl, hf.2 34 rfl, hf.2 35 rfl⟩, hf.1 42 rfl, hf.1 43 rfl, ⟨hf.1 41 rfl, hf.2 40 rfl⟩, ⟨hf.1 52 rfl, hf.2 51 rfl⟩, ⟨hf.1 60 rfl, hf.1 61 rfl, hf.2 58 rfl, hf.2 59 rfl⟩⟩⟩, ⟨hf.1 56 rfl, hf.1 31 rfl, hf.1 32 rfl, hf.1 33 rfl⟩, ⟨hf.1 3 rfl, hf.2 2 rfl⟩, ⟨hf.1 30 rfl, hf.2 29 rfl⟩, ⟨hf.1 4 rfl, hf.2 5 rfl, hf.2 6 rfl, hf.2 7 rfl, hf.2 10 rfl, hf.1 19 rfl, hf.2 18 rfl, hf.2 11 rfl, hf.2 8 rfl, hf.2 9 rfl, hf.2 12 rfl, hf.2 13 rfl, hf.2 14 rfl, hf.2 15 rfl, hf.2 16 rfl, hf.2 17 rfl⟩⟩⟩
theorem MO_reading {l : Launch} {G : GT} {mm : Nat} {x1 : Int} {x2 : Int} (h_x1 : -2147483648 ≤ x1 ∧ x1 ≤ 2147483647) (h_x2 : -2147483648 ≤ x2 ∧ x2 ≤ 2147483647) : ModelOp l G yX12_reading cX12_reading 3 (some .int) 2 [.int (iI x1), .int (iI x2)] mm 0 0 (fun v a v2 a2 f => (True ∧ (v2 36 = v 36 ∧ KSA v a v2 a2 ∧ v2 42 = v 42 ∧ v2 43 = v 43 ∧ (v2 41 = v 41 ∧ a2 40 = a 40) ∧ (v2 52 = v 52 ∧ a2 51 = a 51) ∧ (v2 60 = v 60 ∧ v2 61 = v 61 ∧ a2 58 = a 58 ∧ a2 59 = a 59))) ∧ (v2 56 = v 56 ∧ v2 31 = v 31 ∧ v2 32 = v 32 ∧ v2 33 = v 33) ∧ (v2 3 = v 3 ∧ a2 2 = a 2) ∧ (v2 30 = v 30 ∧ a2 29 = a 29) ∧ TSAME v a v2 a2) := by
  intro n ad ln v a L E hn hV hI
  obtain ⟨hB, hT, hS, hR, h19⟩ := hV
  refine ⟨_, B_reading (k := x1) (i := x2) hB h_x1 h_x2 L E hI, fun r L2 E2 h => ?_⟩
  obtain ⟨v2, a2, hI2, f, rfl, hf, hB2, hx⟩ := h
  exact ⟨f, ad, ln, v2, a2, rfl, hI2, ⟨hB2, (hT.fr hf rfl rfl), (hS.fr hf rfl rfl), (hR.fr hf rfl), (by have q := hf.1 19 rfl; push_cast; omega)⟩, ⟨⟨trivial, ⟨hf.1 36 rfl, ⟨hf.1 36 rfl, hf.2 34 rfl, hf.2 35 rfl⟩, hf.1 42 rfl, hf.1 43 rfl, ⟨hf.1 41 rfl, hf.2 40 rfl⟩, ⟨hf.1 52 rfl, hf.2 51 rfl⟩, ⟨hf.1 60 rfl, hf.1 61 rfl, hf.2 58 rfl, hf.2 59 rfl⟩⟩⟩, ⟨hf.1 56 rfl, hf.1 31 rfl, hf.1 32 rfl, hf.1 33 rfl⟩, ⟨hf.1 3 rfl, hf.2 2 rfl⟩, ⟨hf.1 30 rfl, hf.2 29 rfl⟩, ⟨hf.1 4 rfl, hf.2 5 rfl, hf.2 6 rfl, hf.2 7 rfl, hf.2 10 rfl, hf.1 19 rfl, hf.2 18 rfl, hf.2 11 rfl, hf.2 8 rfl, hf.2 9 rfl, hf.2 12 rfl, hf.2 13 rfl, hf.2 14 rfl, hf.2 15 rfl, hf.2 16 rfl, hf.2 17 rfl⟩⟩⟩
theorem MO_judge {l : Launch} {G : GT} {mm : Nat} {x1 : Int} (h_x1 : -2147483648 ≤ x1 ∧ x1 ≤ 2147483647) : ModelOp l G yX12_judge cX12_judge 3 (some .int) 36 [.int (iI x1)] mm 0 0 (fun v a v2 a2 f => (True ∧ (v2 36 = v 36 ∧ KSA v a v2 a2 ∧ v2 42 = v 42 ∧ v2 43 = v 43 ∧ (v2 41 = v 41 ∧ a2 40 = a 40) ∧ (v2 52 = v 52 ∧ a2 51 = a 51) ∧ (v2 60 = v 60 ∧ v2 61 = v 61 ∧ a2 58 = a 58 ∧ a2 59 = a 59))) ∧ (v2 56 = v 56 ∧ v2 31 = v 31 ∧ v2 32 = v 32 ∧ v2 33 = v 33) ∧ (v2 3 = v 3 ∧ a2 2 = a 2) ∧ (v2 30 = v 30 ∧ a2 29 = a 29) ∧ TSAME v a v2 a2) := by
  intro n ad ln v a L E hn hV hI
  obtain ⟨hB, hT, hS, hR, h19⟩ := hV
  refine ⟨_, N_judge (t := x1) hB hT hR h_x1 L E hI, fun r L2 E2 h => ?_⟩
  obtain ⟨v2, a2, hI2, f, rfl, hf, hB2, hx⟩ := h
  exact ⟨f, ad, ln, v2, a2, rfl, hI2, ⟨hB2, (hT.fr hf rfl rfl), (hS.fr hf rfl rfl), hx, (by have q := hf.1 19 rfl; push_cast; omega)⟩, ⟨⟨trivial, ⟨hf.1 36 rfl, ⟨hf.1 36 rfl, hf.2 34 rfl, hf.2 35 rfl⟩, hf.1 42 rfl, hf.1 43 rfl, ⟨hf.1 41 rfl, hf.2 40 rfl⟩, ⟨hf.1 52 rfl, hf.2 51 rfl⟩, ⟨hf.1 60 rfl, hf.1 61 rfl, hf.2 58 rfl, hf.2 59 rfl⟩⟩⟩, ⟨hf.1 56 rfl, hf.1 31 rfl, hf.1 32 rfl, hf.1 33 rfl⟩, ⟨hf.1 3 rfl, hf.2 2 rfl⟩, ⟨hf.1 30 rfl, hf.2 29 rfl⟩, ⟨hf.1 4 rfl, hf.2 5 rfl, hf.2 6 rfl, hf.2 7 rfl, hf.2 10 rfl, hf.1 19 rfl, hf.2 18 rfl, hf.2 11 rfl, hf.2 8 rfl, hf.2 9 rfl, hf.2 12 rfl, hf.2 13 rfl, hf.2 14 rfl, hf.2 15 rfl, hf.2 16 rfl, hf.2 17 rfl⟩⟩⟩
theorem MO_parts {l : Launch} {G : GT} {mm : Nat} {x1 : Int} {x2 : Int} {x3 : Int} (h_x1 : -2147483648 ≤ x1 ∧ x1 ≤ 2147483647) (h_x2 : -2147483648 ≤ x2 ∧ x2 ≤ 2147483647) (h_x3 : -2147483648 ≤ x3 ∧ x3 ≤ 2147483647) : ModelOp l G yX12_parts cX12_parts 5 (some .int) 36 [.int (iI x1), .int (iI x2), .int (iI x3)] mm 0 0 (fun v a v2 a2 f => (True ∧ (v2 36 = v 36 ∧ KSA v a v2 a2 ∧ v2 42 = v 42 ∧ v2 43 = v 43 ∧ (v2 41 = v 41 ∧ a2 40 = a 40) ∧ (v2 52 = v 52 ∧ a2 51 = a 51) ∧ (v2 60 = v 60 ∧ v2 61 = v 61 ∧ a2 58 = a 58 ∧ a2 59 = a 59))) ∧ (v2 56 = v 56 ∧ v2 31 = v 31 ∧ v2 32 = v 32 ∧ v2 33 = v 33) ∧ (v2 3 = v 3 ∧ a2 2 = a 2) ∧ (v2 30 = v 30 ∧ a2 29 = a 29) ∧ TSAME v a v2 a2) := by
  intro n ad ln v a L E hn hV hI
  obtain ⟨hB, hT, hS, hR, h19⟩ := hV
  refine ⟨_, N_parts (t := x1) (x := x2) (y := x3) hB hT hR h_x1 h_x2 h_x3 L E hI, fun r L2 E2 h => ?_⟩
  obtain ⟨v2, a2, hI2, f, rfl, hf, hB2, hx⟩ := h
  exact ⟨f, ad, ln, v2, a2, rfl, hI2, ⟨hB2, (hT.fr hf rfl rfl), (hS.fr hf rfl rfl), hx, (by have q := hf.1 19 rfl; push_cast; omega)⟩, ⟨⟨trivial, ⟨hf.1 36 rfl, ⟨hf.1 36 rfl, hf.2 34 rfl, hf.2 35 rfl⟩, hf.1 42 rfl, hf.1 43 rfl, ⟨hf.1 41 rfl, hf.2 40 rfl⟩, ⟨hf.1 52 rfl, hf.2 51 rfl⟩, ⟨hf.1 60 rfl, hf.1 61 rfl, hf.2 58 rfl, hf.2 59 rfl⟩⟩⟩, ⟨hf.1 56 rfl, hf.1 31 rfl, hf.1 32 rfl, hf.1 33 rfl⟩, ⟨hf.1 3 rfl, hf.2 2 rfl⟩, ⟨hf.1 30 rfl, hf.2 29 rfl⟩, ⟨hf.1 4 rfl, hf.2 5 rfl, hf.2 6 rfl, hf.2 7 rfl, hf.2 10 rfl, hf.1 19 rfl, hf.2 18 rfl, hf.2 11 rfl, hf.2 8 rfl, hf.2 9 rfl, hf.2 12 rfl, hf.2 13 rfl, hf.2 14 rfl, hf.2 15 rfl, hf.2 16 rfl, hf.2 17 rfl⟩⟩⟩
theorem MO_unreadable {l : Launch} {G : GT} {mm : Nat} {x1 : Int} {x2 : Int} {x3 : Int} (h_x1 : -2147483648 ≤ x1 ∧ x1 ≤ 2147483647) (h_x2 : -2147483648 ≤ x2 ∧ x2 ≤ 2147483647) (h_x3 : -2147483648 ≤ x3 ∧ x3 ≤ 2147483647) : ModelOp l G yX12_unreadable cX12_unreadable 9 (some .int) 67 [.int (iI x1), .int (iI x2), .int (iI x3)] mm 2 262 (fun v a v2 a2 f => (True ∧ (v2 36 = v 36 ∧ KSA v a v2 a2 ∧ v2 42 = v 42 ∧ v2 43 = v 43 ∧ (v2 41 = v 41 ∧ a2 40 = a 40) ∧ True ∧ (v2 60 = v 60 ∧ v2 61 = v 61 ∧ a2 58 = a 58 ∧ a2 59 = a 59))) ∧ (v2 56 = v 56 ∧ v2 31 = v 31 ∧ v2 32 = v 32 ∧ v2 33 = v 33) ∧ (v2 3 = v 3 ∧ a2 2 = a 2) ∧ (v2 30 = v 30 ∧ a2 29 = a 29) ∧ TSAME v a v2 a2) := by
  intro n ad ln v a L E hn hV hI
  obtain ⟨hB, hT, hS, hR, h19⟩ := hV
  refine ⟨_, N_unreadable (t := x1) (n1 := x2) (m1 := x3) hB hT hR h_x1 h_x2 h_x3 L E hI, fun r L2 E2 h => ?_⟩
  obtain ⟨v2, a2, hI2, f, rfl, hf, hB2, hx⟩ := h
  exact ⟨f, ad, ln, v2, a2, rfl, hI2, ⟨hB2, (hT.fr hf rfl rfl), (hS.fr hf rfl rfl), hx, (by have q := hf.1 19 rfl; push_cast; omega)⟩, ⟨⟨trivial, ⟨hf.1 36 rfl, ⟨hf.1 36 rfl, hf.2 34 rfl, hf.2 35 rfl⟩, hf.1 42 rfl, hf.1 43 rfl, ⟨hf.1 41 rfl, hf.2 40 rfl⟩, trivial, ⟨hf.1 60 rfl, hf.1 61 rfl, hf.2 58 rfl, hf.2 59 rfl⟩⟩⟩, ⟨hf.1 56 rfl, hf.1 31 rfl, hf.1 32 rfl, hf.1 33 rfl⟩, ⟨hf.1 3 rfl, hf.2 2 rfl⟩, ⟨hf.1 30 rfl, hf.2 29 rfl⟩, ⟨hf.1 4 rfl, hf.2 5 rfl, hf.2 6 rfl, hf.2 7 rfl, hf.2 10 rfl, hf.1 19 rfl, hf.2 18 rfl, hf.2 11 rfl, hf.2 8 rfl, hf.2 9 rfl, hf.2 12 rfl, hf.2 13 rfl, hf.2 14 rfl, hf.2 15 rfl, hf.2 16 rfl, hf.2 17 rfl⟩⟩⟩
theorem MO_saved {l : Launch} {G : GT} {mm : Nat} {x1 : Int} {x2 : Int} (h_x1 : -2147483648 ≤ x1 ∧ x1 ≤ 2147483647) (h_x2 : -2147483648 ≤ x2 ∧ x2 ≤ 2147483647) : ModelOp l G yX12_saved cX12_saved 8 (some .int) 66 [.int (iI x1), .int (iI x2)] mm 0 0 (fun v a v2 a2 f => (True ∧ (v2 36 = v 36 ∧ KSA v a v2 a2 ∧ v2 42 = v 42 ∧ v2 43 = v 43 ∧ (v2 41 = v 41 ∧ a2 40 = a 40) ∧ (v2 52 = v 52 ∧ a2 51 = a 51) ∧ (v2 60 = v 60 ∧ v2 61 = v 61 ∧ a2 58 = a 58 ∧ a2 59 = a 59))) ∧ (v2 56 = v 56 ∧ v2 31 = v 31 ∧ v2 32 = v 32 ∧ v2 33 = v 33) ∧ (v2 3 = v 3 ∧ a2 2 = a 2) ∧ (v2 30 = v 30 ∧ a2 29 = a 29) ∧ TSAME v a v2 a2) := by
  intro n ad ln v a L E hn hV hI
  obtain ⟨hB, hT, hS, hR, h19⟩ := hV
  refine ⟨_, M_saved (x1 := x1) (y1 := x2) hB hT h_x1 h_x2 L E hI, fun r L2 E2 h => ?_⟩
  obtain ⟨v2, a2, hI2, f, rfl, hf, hB2, hx⟩ := h
  exact ⟨f, ad, ln, v2, a2, rfl, hI2, ⟨hB2, (hT.fr hf rfl rfl), (hS.fr hf rfl rfl), (hR.fr hf rfl), (by have q := hf.1 19 rfl; push_cast; omega)⟩, ⟨⟨trivial, ⟨hf.1 36 rfl, ⟨hf.1 36 rfl, hf.2 34 rfl, hf.2 35 rfl⟩, hf.1 42 rfl, hf.1 43 rfl, ⟨hf.1 41 rfl, hf.2 40 rfl⟩, ⟨hf.1 52 rfl, hf.2 51 rfl⟩, ⟨hf.1 60 rfl, hf.1 61 rfl, hf.2 58 rfl, hf.2 59 rfl⟩⟩⟩, ⟨hf.1 56 rfl, hf.1 31 rfl, hf.1 32 rfl, hf.1 33 rfl⟩, ⟨hf.1 3 rfl, hf.2 2 rfl⟩, ⟨hf.1 30 rfl, hf.2 29 rfl⟩, ⟨hf.1 4 rfl, hf.2 5 rfl, hf.2 6 rfl, hf.2 7 rfl, hf.2 10 rfl, hf.1 19 rfl, hf.2 18 rfl, hf.2 11 rfl, hf.2 8 rfl, hf.2 9 rfl, hf.2 12 rfl, hf.2 13 rfl, hf.2 14 rfl, hf.2 15 rfl, hf.2 16 rfl, hf.2 17 rfl⟩⟩⟩
theorem MO_place {l : Launch} {G : GT} {mm : Nat} : ModelOp l G yX12_place cX12_place 1 (some .int) 0 [] mm 0 0 (fun v a v2 a2 f => (True ∧ (v2 36 = v 36 ∧ KSA v a v2 a2 ∧ v2 42 = v 42 ∧ v2 43 = v 43 ∧ (v2 41 = v 41 ∧ a2 40 = a 40) ∧ (v2 52 = v 52 ∧ a2 51 = a 51) ∧ (v2 60 = v 60 ∧ v2 61 = v 61 ∧ a2 58 = a 58 ∧ a2 59 = a 59))) ∧ (v2 56 = v 56 ∧ v2 31 = v 31 ∧ v2 32 = v 32 ∧ v2 33 = v 33) ∧ (v2 3 = v 3 ∧ a2 2 = a 2) ∧ (v2 30 = v 30 ∧ a2 29 = a 29) ∧ TSAME v a v2 a2) := by
  intro n ad ln v a L E hn hV hI
  obtain ⟨hB, hT, hS, hR, h19⟩ := hV
  refine ⟨_, B_place  hB L E hI, fun r L2 E2 h => ?_⟩
  obtain ⟨v2, a2, hI2, f, rfl, hf, hB2, hx⟩ := h
  exact ⟨f, ad, ln, v2, a2, rfl, hI2, ⟨hB2, (hT.fr hf rfl rfl), (hS.fr hf rfl rfl), (hR.fr hf rfl), (by have q := hf.1 19 rfl; push_cast; omega)⟩, ⟨⟨trivial, ⟨hf.1 36 rfl, ⟨hf.1 36 rfl, hf.2 34 rfl, hf.2 35 rfl⟩, hf.1 42 rfl, hf.1 43 rfl, ⟨hf.1 41 rfl, hf.2 40 rfl⟩, ⟨hf.1 52 rfl, hf.2 51 rfl⟩, ⟨hf.1 60 rfl, hf.1 61 rfl, hf.2 58 rfl, hf.2 59 rfl⟩⟩⟩, ⟨hf.1 56 rfl, hf.1 31 rfl, hf.1 32 rfl, hf.1 33 rfl⟩, ⟨hf.1 3 rfl, hf.2 2 rfl⟩, ⟨hf.1 30 rfl, hf.2 29 rfl⟩, ⟨hf.1 4 rfl, hf.2 5 rfl, hf.2 6 rfl, hf.2 7 rfl, hf.2 10 rfl, hf.1 19 rfl, hf.2 18 rfl, hf.2 11 rfl, hf.2 8 rfl, hf.2 9 rfl, hf.2 12 rfl, hf.2 13 rfl, hf.2 14 rfl, hf.2 15 rfl, hf.2 16 rfl, hf.2 17 rfl⟩⟩⟩
theorem MO_finds {l : Launch} {G : GT} {mm : Nat} {x1 : Int} (h_x1 : -2147483648 ≤ x1 ∧ x1 ≤ 2147483647) : ModelOp l G yX12_finds cX12_finds 2 (some .int) 1 [.int (iI x1)] mm 0 0 (fun v a v2 a2 f => (True ∧ (v2 36 = v 36 ∧ KSA v a v2 a2 ∧ v2 42 = v 42 ∧ v2 43 = v 43 ∧ (v2 41 = v 41 ∧ a2 40 = a 40) ∧ (v2 52 = v 52 ∧ a2 51 = a 51) ∧ (v2 60 = v 60 ∧ v2 61 = v 61 ∧ a2 58 = a 58 ∧ a2 59 = a 59))) ∧ (v2 56 = v 56 ∧ v2 31 = v 31 ∧ v2 32 = v 32 ∧ v2 33 = v 33) ∧ (v2 3 = v 3 ∧ a2 2 = a 2) ∧ (v2 30 = v 30 ∧ a2 29 = a 29) ∧ TSAME v a v2 a2) := by
  intro n ad ln v a L E hn hV hI
  obtain ⟨hB, hT, hS, hR, h19⟩ := hV
  refine ⟨_, M_finds (k := x1) hB h_x1 L E hI, fun r L2 E2 h => ?_⟩
  obtain ⟨v2, a2, hI2, f, rfl, hf, hB2, hx⟩ := h
  exact ⟨f, ad, ln, v2, a2, rfl, hI2, ⟨hB2, (hT.fr hf rfl rfl), (hS.fr hf rfl rfl), (hR.fr hf rfl), (by have q := hf.1 19 rfl; push_cast; omega)⟩, ⟨⟨trivial, ⟨hf.1 36 rfl, ⟨hf.1 36 rfl, hf.2 34 rfl, hf.2 35 rfl⟩, hf.1 42 rfl, hf.1 43 rfl, ⟨hf.1 41 rfl, hf.2 40 rfl⟩, ⟨hf.1 52 rfl, hf.2 51 rfl⟩, ⟨hf.1 60 rfl, hf.1 61 rfl, hf.2 58 rfl, hf.2 59 rfl⟩⟩⟩, ⟨hf.1 56 rfl, hf.1 31 rfl, hf.1 32 rfl, hf.1 33 rfl⟩, ⟨hf.1 3 rfl, hf.2 2 rfl⟩, ⟨hf.1 30 rfl, hf.2 29 rfl⟩, ⟨hf.1 4 rfl, hf.2 5 rfl, hf.2 6 rfl, hf.2 7 rfl, hf.2 10 rfl, hf.1 19 rfl, hf.2 18 rfl, hf.2 11 rfl, hf.2 8 rfl, hf.2 9 rfl, hf.2 12 rfl, hf.2 13 rfl, hf.2 14 rfl, hf.2 15 rfl, hf.2 16 rfl, hf.2 17 rfl⟩⟩⟩
theorem MO_status {l : Launch} {G : GT} {mm : Nat} : ModelOp l G yX12_status cX12_status 1 (some .int) 0 [] mm 0 0 (fun v a v2 a2 f => (True ∧ (v2 36 = v 36 ∧ KSA v a v2 a2 ∧ v2 42 = v 42 ∧ v2 43 = v 43 ∧ (v2 41 = v 41 ∧ a2 40 = a 40) ∧ (v2 52 = v 52 ∧ a2 51 = a 51) ∧ (v2 60 = v 60 ∧ v2 61 = v 61 ∧ a2 58 = a 58 ∧ a2 59 = a 59))) ∧ (v2 56 = v 56 ∧ v2 31 = v 31 ∧ v2 32 = v 32 ∧ v2 33 = v 33) ∧ (v2 3 = v 3 ∧ a2 2 = a 2) ∧ (v2 30 = v 30 ∧ a2 29 = a 29) ∧ TSAME v a v2 a2) := by
  intro n ad ln v a L E hn hV hI
  obtain ⟨hB, hT, hS, hR, h19⟩ := hV
  refine ⟨_, B_status  hB L E hI, fun r L2 E2 h => ?_⟩
  obtain ⟨v2, a2, hI2, f, rfl, hf, hB2, hx⟩ := h
  exact ⟨f, ad, ln, v2, a2, rfl, hI2, ⟨hB2, (hT.fr hf rfl rfl), (hS.fr hf rfl rfl), (hR.fr hf rfl), (by have q := hf.1 19 rfl; push_cast; omega)⟩, ⟨⟨trivial, ⟨hf.1 36 rfl, ⟨hf.1 36 rfl, hf.2 34 rfl, hf.2 35 rfl⟩, hf.1 42 rfl, hf.1 43 rfl, ⟨hf.1 41 rfl, hf.2 40 rfl⟩, ⟨hf.1 52 rfl, hf.2 51 rfl⟩, ⟨hf.1 60 rfl, hf.1 61 rfl, hf.2 58 rfl, hf.2 59 rfl⟩⟩⟩, ⟨hf.1 56 rfl, hf.1 31 rfl, hf.1 32 rfl, hf.1 33 rfl⟩, ⟨hf.1 3 rfl, hf.2 2 rfl⟩, ⟨hf.1 30 rfl, hf.2 29 rfl⟩, ⟨hf.1 4 rfl, hf.2 5 rfl, hf.2 6 rfl, hf.2 7 rfl, hf.2 10 rfl, hf.1 19 rfl, hf.2 18 rfl, hf.2 11 rfl, hf.2 8 rfl, hf.2 9 rfl, hf.2 12 rfl, hf.2 13 rfl, hf.2 14 rfl, hf.2 15 rfl, hf.2 16 rfl, hf.2 17 rfl⟩⟩⟩
theorem MO_digest {l : Launch} {G : GT} {mm : Nat} : ModelOp l G yX12_digest cX12_digest 4 (some .int) 0 [] mm 0 0 (fun v a v2 a2 f => (True ∧ (v2 36 = v 36 ∧ KSA v a v2 a2 ∧ v2 42 = v 42 ∧ v2 43 = v 43 ∧ (v2 41 = v 41 ∧ a2 40 = a 40) ∧ (v2 52 = v 52 ∧ a2 51 = a 51) ∧ (v2 60 = v 60 ∧ v2 61 = v 61 ∧ a2 58 = a 58 ∧ a2 59 = a 59))) ∧ (v2 56 = v 56 ∧ v2 31 = v 31 ∧ v2 32 = v 32 ∧ v2 33 = v 33) ∧ (v2 3 = v 3 ∧ a2 2 = a 2) ∧ (v2 30 = v 30 ∧ a2 29 = a 29) ∧ TSAME v a v2 a2) := by
  intro n ad ln v a L E hn hV hI
  obtain ⟨hB, hT, hS, hR, h19⟩ := hV
  refine ⟨_, M_digest  hB L E hI, fun r L2 E2 h => ?_⟩
  obtain ⟨v2, a2, hI2, f, rfl, hf, hB2, hx⟩ := h
  exact ⟨f, ad, ln, v2, a2, rfl, hI2, ⟨hB2, (hT.fr hf rfl rfl), (hS.fr hf rfl rfl), (hR.fr hf rfl), (by have q := hf.1 19 rfl; push_cast; omega)⟩, ⟨⟨trivial, ⟨hf.1 36 rfl, ⟨hf.1 36 rfl, hf.2 34 rfl, hf.2 35 rfl⟩, hf.1 42 rfl, hf.1 43 rfl, ⟨hf.1 41 rfl, hf.2 40 rfl⟩, ⟨hf.1 52 rfl, hf.2 51 rfl⟩, ⟨hf.1 60 rfl, hf.1 61 rfl, hf.2 58 rfl, hf.2 59 rfl⟩⟩⟩, ⟨hf.1 56 rfl, hf.1 31 rfl, hf.1 32 rfl, hf.1 33 rfl⟩, ⟨hf.1 3 rfl, hf.2 2 rfl⟩, ⟨hf.1 30 rfl, hf.2 29 rfl⟩, ⟨hf.1 4 rfl, hf.2 5 rfl, hf.2 6 rfl, hf.2 7 rfl, hf.2 10 rfl, hf.1 19 rfl, hf.2 18 rfl, hf.2 11 rfl, hf.2 8 rfl, hf.2 9 rfl, hf.2 12 rfl, hf.2 13 rfl, hf.2 14 rfl, hf.2 15 rfl, hf.2 16 rfl, hf.2 17 rfl⟩⟩⟩
end
section
section LW
variable {p : Program} {l : Launch} {e : Env} {R : Room} {s : State} {m : MethodId} {args : Array Value} {below : List Frame} {meth : Method} {c : Code} {cc : ByteArray} {y : MethodName} {ret : Option FieldType} {G : GT} {A : Nat → Prop} {nL : Nat} {Q : State → Prop} {L : List Nat} {E : Nat → va_E} {kc ks pc : Nat} {lv : List (Nat × Value)} {st : List Value}
theorem q_sld (C : Cq p s m args meth c cc y ret G A nL) {b Ln : Nat} {xs : Nat → Int32} (hX : va_X b Ln xs s s.heap) (hbl : b < s.heap.size) (hbA : ¬ A b) {i v : Int32} (d : decode cc pc = .ok (.iaload, 1)) (hin : vp_in i Ln) (hv : xs i.toNatClampNeg = v) (k : wq p l e R s m args below meth c G A nL Q L E kc ks (pc + 1) lv (.int v :: st)) : wq p l e R s m args below meth c G A nL Q L E kc ks pc lv (.int i :: .ref b :: st) := fun H locs ls hP hD hS hl => va_sld C.1 C.2.1 hX hbl hbA hS hin d (hv ▸ k H locs ls hP hD hS hl)
theorem q_slen (C : Cq p s m args meth c cc y ret G A nL) {b Ln : Nat} {xs : Nat → Int32} (hX : va_X b Ln xs s s.heap) (hbl : b < s.heap.size) (hbA : ¬ A b) {v : Int32} (d : decode cc pc = .ok (.arraylength, 1)) (hv : Int32.ofNat Ln = v) (k : wq p l e R s m args below meth c G A nL Q L E kc ks (pc + 1) lv (.int v :: st)) : wq p l e R s m args below meth c G A nL Q L E kc ks pc lv (.ref b :: st) := fun H locs ls hP hD hS hl => va_slen C.1 C.2.1 hX hbl hbA hS d (hv ▸ k H locs ls hP hD hS hl)
theorem q_tabIn (C : Cq p s m args meth c cc y ret G A nL) {dflt lo hi : Int} {offs : Array Int} {len : Nat} {x : Int32} {off : Int} {tgt : Nat} (d : decode cc pc = .ok (.tableswitch dflt lo hi offs, len)) (h1 : ¬ x.toInt < lo) (h2 : ¬ hi < x.toInt) (ho : offs[(x.toInt - lo).toNat]? = some off) (ht : (pc : Int) + off = (tgt : Int)) (k : wq p l e R s m args below meth c G A nL Q L E kc ks tgt lv st) : wq p l e R s m args below meth c G A nL Q L E kc ks pc lv (.int x :: st) := fun H locs ls hP hD hS hl => lv_tableIn C.1 C.2.1 d h1 h2 ho ht (k H locs ls hP hD hS hl)
theorem q_tabOut (C : Cq p s m args meth c cc y ret G A nL) {dflt lo hi : Int} {offs : Array Int} {len : Nat} {x : Int32} {tgt : Nat} (d : decode cc pc = .ok (.tableswitch dflt lo hi offs, len)) (h : x.toInt < lo ∨ hi < x.toInt) (ht : (pc : Int) + dflt = (tgt : Int)) (k : wq p l e R s m args below meth c G A nL Q L E kc ks tgt lv st) : wq p l e R s m args below meth c G A nL Q L E kc ks pc lv (.int x :: st) := fun H locs ls hP hD hS hl => lv_tableOut C.1 C.2.1 d h ht (k H locs ls hP hD hS hl)
theorem q_swap {La Lb : List Nat} (k : wq p l e R s m args below meth c G A nL Q (Lb ++ La) E kc ks pc lv st) : wq p l e R s m args below meth c G A nL Q (La ++ Lb) E kc ks pc lv st := by
  intro H locs ls hP hD hS hl
  refine hv2 (show va_pl (La ++ Lb) E = va_pl La E ++ va_pl Lb E from List.map_append) (show va_pl (Lb ++ La) E = va_pl Lb E ++ va_pl La E from List.map_append) (fun e1 e2 => ?_)
  rw [e1] at hP hD
  have pR : ∀ (j : Nat) (q : Nat × va_E), (va_pl Lb E)[j]? = some q → (va_pl La E ++ va_pl Lb E)[(va_pl La E).length + j]? = some q := fun j q h => by rw [List.getElem?_append_right (by omega), Nat.add_sub_cancel_left]; exact h
  have pL : ∀ (j : Nat) (q : Nat × va_E), (va_pl La E)[j]? = some q → (va_pl La E ++ va_pl Lb E)[j]? = some q := fun j q h => by rw [List.getElem?_append_left ((List.getElem?_eq_some_iff.mp h).1)]; exact h
  refine k H locs ls ?_ ?_ hS hl
  · rw [e2]
    exact va_P.app (fun j q h => hP _ q (pR j q h)) (fun j q h => hP _ q (pL j q h))
  · rw [e2]
    refine va_D.app ⟨fun i j x y hi hj e => by have := hD.1 _ _ x y (pR i x hi) (pR j y hj) e; omega, fun k q hk => hD.2 _ q (pR k q hk)⟩ ⟨fun i j x y hi hj e => hD.1 _ _ x y (pL i x hi) (pL j y hj) e, fun k q hk => hD.2 _ q (pL k q hk)⟩ (fun i j x y hx hy hxy => ?_)
    have := hD.1 _ _ y x (pL j y hy) (pR i x hx) hxy.symm
    have hj := (List.getElem?_eq_some_iff.mp hy).1
    omega
end LW

def R_law : String := "DotPressLaw"
def lw_P (b : Addr) (xs : List Int32) (args : Array Value) (s : State) : Prop := args = #[.ref b] ∧ s.IntsAt b xs ∧ xs.length ≤ 3072 ∧ (Jvm.Cond.and given_1 narrow_1).before args s = true
def lw_Q (_ : Array Value) (s : State) (o : Outcome) (t : State) : Prop := o = .returned (some (.int 1)) ∧ Framed s o t [] 600000 7302250
def lw_Z (below : List Frame) (a : Array Value) (s : State) : State → Prop := fun t => ∃ o, t.status = .running ∧ Ended t below o ∧ lw_Q a s o t
theorem lw_ret {p : Program} {l : Launch} {e : Env} {s : State} {m : MethodId} {below : List Frame} {meth : Method} {c : Code} {b : Nat} (hx : p.tables.exec = Jvm.exec) (hb : c.code = code) (hr : meth.sig.returnType = ret) (hlocks : meth.locks = false) {pc : Nat} {H : Heap} {ls : Array Slot} (hdg : decode code pc = .ok (.ireturn, 1)) : W p l e room_1 s m #[Value.ref b] below meth c H [] 600000 7302250 (lw_Z below #[Value.ref b] s) (F0 m pc ls [.int 1]) := by
  intro T hT X
  obtain ⟨fs, hret, hrun, hended, hW, hframe⟩ := X.leave (v := some (.int 1)) (hlocks := hlocks) (fun h => by rw [hr] at h; cases h)
  have hmeth' : T.vm.method? m = some meth := X.method'
  refine ⟨T.setFrames fs, ?_, .returned (some (.int 1)), hrun, hended, rfl, ⟨_, rfl⟩, hW, hframe⟩
  jvm_step X.here [X.here.top, hx, hb, hdg, hmeth', hr, ret, narrow_b1]
  (try refine ⟨rfl, ?_⟩); (try refine ⟨rfl, ?_⟩)
  first | (intro acts; rw [hret _ acts rfl rfl rfl]) | rw [hret _ _ rfl rfl rfl]
  exact Steps.refl _
def lw_At (p : Program) (s : State) (m : MethodId) (meth : Method) (c : Code) (b L : Nat) (xs : Nat → Int32) : Prop :=
  p.tables.exec = Jvm.exec ∧ c.code = code ∧ meth.sig.returnType = ret ∧ c.maxLocals = 4 ∧ s.vm.findClass R_law = some m.cls ∧ (∀ w ∈ lw_tbl, w.before #[Value.ref b] s = true) ∧ va_X b L xs s s.heap ∧ b < s.heap.size ∧ meth.locks = false ∧ (Jvm.Cond.and given_1 narrow_1).before #[Value.ref b] s = true

theorem law_ret {p : Program} {l : Launch} {e : Env} {s : State} {m : MethodId} {below : List Frame} {meth : Method} {c : Code} {y : MethodName} {rt : Option FieldType} {G : GT} {b : Nat} (C : Cq p s m #[Value.ref b] meth c cL_law ⟨RL, y.name, y.desc⟩ rt G (fun q => s.heap.size ≤ q) 4) (hr : meth.sig.returnType = ret) (hlk : meth.locks = false) {L : List Nat} {E : Nat → va_E} {kc ks pc : Nat} {lv : List (Nat × Value)} (h1 : kc ≤ 600000) (h2 : ks ≤ 7302250) (d : decode cL_law pc = .ok (.ireturn, 1)) : wq p l e room_1 s m #[Value.ref b] below meth c G (fun q => s.heap.size ≤ q) 4 (lw_Z below #[Value.ref b] s) L E kc ks pc lv [.int 1] := fun H locs ls hP hD hS hl => va_forget (fun q hq => hS.2.2 q hq) (W.widen h1 h2 (lw_ret C.1 C.2.1 hr hlk d))

theorem Mu.congr {l : Launch} {G : GT} {mi : Nat} {y : MethodName} {cc : ByteArray} {n : Nat} {ret : Option FieldType} {d : Nat} {av : List Value} {L : List Nat} {E E2 : Nat → va_E} {r : Nat} {P : PU} (h : Mu l G mi y cc n ret d av L E r P) (he : ∀ a ∈ L, E2 a = E a) : Mu l G mi y cc n ret d av L E2 r P := by
  have e : va_pl L E2 = va_pl L E := List.map_congr_left (fun a ha => by rw [he a ha])
  intro sz
  have e2 : Pcu G mi L E2 sz = Pcu G mi L E sz := by funext U; unfold Pcu Pcq; rw [e]
  rw [e, e2]
  exact h sz
theorem mI.cgE {G : GT} {h0 : Nat} {ad ln : Nat → Nat} {v : Nat → Int} {a : Nat → Nat → Int} {L : List Nat} {E E2 : Nat → va_E} (h : mI G h0 ad ln v a L E) (he : ∀ b ∈ L, E2 b = E b) : mI G h0 ad ln v a L E2 := ⟨h.1, (he _ h.1).trans h.2.1, fun k hk => ⟨(h.2.2.1 k hk).1, (he _ (h.2.2.1 k hk).1).trans (h.2.2.1 k hk).2⟩, h.2.2.2⟩
def LI (R : (Nat → Nat) → List Nat → (Nat → Nat) → (Nat → Nat) → (Nat → Nat → Int) → (Nat → Nat → Option Nat) → (Nat → Int) → (Nat → Nat → Int) → Prop) (G : GT) (h0 mm n n2 w u : Nat) (Lx Lm : List Nat) (E : Nat → va_E) : Prop := ∃ (cl ln : Nat → Nat) (iv : Nat → Nat → Int) (rv : Nat → Nat → Option Nat) (sk ad lnm : Nat → Nat) (v : Nat → Int) (a : Nat → Nat → Int), (∀ b ∈ Lx, E b = enc G cl ln iv rv b) ∧ PRS G h0 n Lx cl ln iv rv sk ∧ mI G mm ad lnm v a Lm E ∧ MIV n2 lnm v a ∧ u ≤ 360000 + Phi (g0 G) sk ln rv + w ∧ R sk Lx cl ln iv rv v a
def LV (b h0 mm n : Nat) : List (Nat × Value) := [(3, .int (iI (6 * (n : Int)))), (2, .ref mm), (1, .ref h0), (0, .ref b)]
section LAWS
variable {p : Program} {l : Launch} {e : Env} {s : State} {m : MethodId} {below : List Frame} {meth : Method} {c : Code} {y : MethodName} {rt : Option FieldType} {G : GT} {b mi h0 mm n u kc ks pc Ln w : Nat} {Lx Lm : List Nat} {E : Nat → va_E} {Q : State → Prop} {lv : List (Nat × Value)} {st rest : List Value} {xs : Nat → Int32} {zs : Nat → Int} {EX : (Nat → Nat) → List Nat → (Nat → Nat) → (Nat → Nat) → (Nat → Nat → Int) → (Nat → Nat → Option Nat) → List Nat → (Nat → Nat) → (Nat → Nat) → (Nat → Nat → Int) → (Nat → Nat → Option Nat) → Int → Prop} {EXm : (Nat → Int) → (Nat → Nat → Int) → (Nat → Int) → (Nat → Nat → Int) → Int → Prop} {R : (Nat → Nat) → List Nat → (Nat → Nat) → (Nat → Nat) → (Nat → Nat → Int) → (Nat → Nat → Option Nat) → (Nat → Int) → (Nat → Nat → Int) → Prop} {As : List Value} {y2 : MethodName} {cc2 : ByteArray} {n2 d2 idx k2 mc ms : Nat}
theorem q_ld (C : Cq p s m #[Value.ref b] meth c cL_law ⟨RL, y.name, y.desc⟩ rt G (fun q => s.heap.size ≤ q) 4) (hX : va_X b Ln xs s s.heap) (hbl : b < s.heap.size) (hzs : ∀ k, xs k = iI (zs k)) (hn : 6 * n + 6 ≤ Ln) (hLn : Ln ≤ 3072) {j : Nat} (hj : j < 6) {jj : Int} (hjj : jj = j) {L : List Nat} (d0 : decode cL_law pc = .ok (.aload_n 0, 1)) (d1 : decode cL_law (pc + 1) = .ok (.iload_n 3, 1)) (d2 : decode cL_law (pc + 2) = .ok (.iconst jj, 1)) (d3 : decode cL_law (pc + 3) = .ok (.iadd, 1)) (d4 : decode cL_law (pc + 4) = .ok (.iaload, 1)) (k : wq p l e room_1 s m #[Value.ref b] below meth c G (fun q => s.heap.size ≤ q) 4 Q L E kc ks (pc + 5) (LV b h0 mm n) (.int (iI (zs (6 * n + j))) :: st)) : wq p l e room_1 s m #[Value.ref b] below meth c G (fun q => s.heap.size ≤ q) 4 Q L E kc ks pc (LV b h0 mm n) st := by
  have hbA : ¬ (fun q : Nat => s.heap.size ≤ q) b := Nat.not_le.mpr hbl
  refine q_aload_n (j := 3) C d0 rfl ?_
  refine q_iload_n (j := 0) C d1 rfl ?_
  refine q_iconst (v := iI jj) C d2 rfl ?_
  refine q_iadd (v := iI (6 * (n : Int) + j)) C d3 (by rw [hjj]; exact (Int32.ofInt_add ..).symm) ?_
  refine q_sld (v := iI (zs (6 * n + j))) C hX hbl hbA d4 (iI_in ⟨by omega, by omega⟩ (by omega) (by omega)) (by rw [iI_cl ⟨by omega, by omega⟩, ← hzs]; congr 1) ?_
  exact k
theorem law_press (C : Cq p s m #[Value.ref b] meth c cL_law ⟨RL, y.name, y.desc⟩ rt G (fun q => s.heap.size ≤ q) 4) (hM : Mir mi s) (hI : LI R G h0 mm n n w u Lx Lm E) (hn : n ≤ 511) (hw0 : w ≤ 3400000) (hu : 16 * kc + ks ≤ u) (op : PressOp l G mi y2 cc2 n2 (some .int) d2 As h0 EX) (d : decode cL_law pc = .ok (.invokevirtual idx, 3)) (hw : Wv RL idx y2 cc2 n2 (some .int) k2) (hk : As.length = k2) (hcls : y2.cls = RX11) (hst : st = As.reverse ++ .ref h0 :: rest) (hcat : (rest.map fun v => v.category).sum ≤ 8) (hR : d2 + 1 ≤ 2048 ∧ 8 + (n2 + 11) + 64 * d2 ≤ 84000) (kk : ∀ (f : Int) (L2 : List Nat) (E3 : Nat → va_E) (kc2 ks2 u2 : Nat), (-2147483648 ≤ f ∧ f ≤ 2147483647) → LI (fun sk L2 cl2 ln2 iv2 rv2 v a => ∃ L cl ln iv rv, R sk L cl ln iv rv v a ∧ EX sk L cl ln iv rv L2 cl2 ln2 iv2 rv2 f) G h0 mm (n + 1) n (w + 2330) u2 L2 Lm E3 → 16 * kc2 + ks2 ≤ u2 → wq p l e room_1 s m #[Value.ref b] below meth c G (fun q => s.heap.size ≤ q) 4 Q (Lm ++ L2) E3 kc2 ks2 (pc + 3) lv (.int (iI f) :: rest)) : wq p l e room_1 s m #[Value.ref b] below meth c G (fun q => s.heap.size ≤ q) 4 Q (Lm ++ Lx) E kc ks pc lv st := by
  obtain ⟨cl, ln, iv, rv, sk, ad, lnm, v, a, hE, hP, hmI, hV, hU, hR0⟩ := hI
  obtain ⟨c0, P2, hc0, M, hpost⟩ := op n Lx cl ln iv rv sk hn hP
  obtain ⟨hW, hS, hm, h23, ht⟩ := hP
  refine hv2 (Phi.le hW hS) (show PHM = 1110000 from rfl) (fun hph e0 => ?_)
  have hEh : E h0 = ob 12 19 (ofv 12 (iv h0) (rv h0)) := by
    rw [hE h0 ht.1]; unfold enc; rw [ht.2]; rfl
  have M2 := Mu.congr (E2 := E) M (fun q hq => hE q hq)
  refine u_subV (As := As) (rest := rest) C hM hu M2 d hw hk ht.1 hEh (hcls ▸ ck_12) hst hcat hR ⟨by show kc + _ / 16 ≤ 600000; omega, by show ks + _ ≤ 7302250; omega⟩ (fun r L2 E2 E3 u2 h ha hb hc kc2 ks2 hk2 => ?_)
  obtain ⟨cl2, ln2, iv2, rv2, rfl, hu2, hp2⟩ := h
  obtain ⟨f, rfl, hf, hX2, hW2, hm2, h232, hex⟩ := hpost _ _ _ _ _ _ hp2
  exact kk f L2 E3 kc2 ks2 (u + u2) hf ⟨cl2, ln2, iv2, rv2, sk, ad, lnm, v, a, hb, ⟨hW2, hX2.skl hS, hm2, by push_cast; omega, hX2.ty ht⟩, hmI.cgE ha, hV, by omega, Lx, cl, ln, iv, rv, hR0, hex⟩ hk2
theorem law_model (C : Cq p s m #[Value.ref b] meth c cL_law ⟨RL, y.name, y.desc⟩ rt G (fun q => s.heap.size ≤ q) 4) (hI : LI R G h0 mm (n + 1) n w u Lx Lm E) (hn : n ≤ 511) (hw0 : w ≤ 3400000) (hu : 16 * kc + ks ≤ u) (op : ModelOp l G y2 cc2 n2 (some .int) d2 As mm mc ms EXm) (hcost : 16 * mc + ms ≤ 4126) (d : decode cL_law pc = .ok (.invokevirtual idx, 3)) (hw : Wv RL idx y2 cc2 n2 (some .int) k2) (hk : As.length = k2) (hcls : y2.cls = RX12) (hst : st = As.reverse ++ .ref mm :: rest) (hcat : (rest.map fun v => v.category).sum ≤ 8) (hR : d2 + 1 ≤ 2048 ∧ 8 + (n2 + 11) + 64 * d2 ≤ 84000) (kk : ∀ (f : Int) (L2 : List Nat) (E3 : Nat → va_E) (kc2 ks2 u2 : Nat), LI (fun sk L cl ln iv rv v2 a2 => ∃ v a, R sk L cl ln iv rv v a ∧ EXm v a v2 a2 f) G h0 mm (n + 1) (n + 1) (w + 4126) u2 Lx L2 E3 → 16 * kc2 + ks2 ≤ u2 → wq p l e room_1 s m #[Value.ref b] below meth c G (fun q => s.heap.size ≤ q) 4 Q (L2 ++ Lx) E3 kc2 ks2 (pc + 3) lv (.int (iI f) :: rest)) : wq p l e room_1 s m #[Value.ref b] below meth c G (fun q => s.heap.size ≤ q) 4 Q (Lm ++ Lx) E kc ks pc lv st := by
  obtain ⟨cl, ln, iv, rv, sk, ad, lnm, v, a, hE, hP, hmI, hV, hU, hR0⟩ := hI
  refine hv2 (Phi.le hP.1 hP.2.1) (show PHM = 1110000 from rfl) (fun hph e0 => ?_)
  obtain ⟨P2, M, hpost⟩ := op n ad lnm v a Lm E hn hV hmI
  refine q_swap ?_
  refine q_subV (As := As) (rest := rest) C M d hw hk hmI.1 hmI.2.1 (hcls ▸ ck_13) hst hcat hR ⟨by show kc + mc ≤ 600000; omega, by show ks + ms ≤ 7302250; omega⟩ (fun r L2 E2 E3 h ha hb hc => ?_)
  obtain ⟨f, ad2, ln2, v2, a2, rfl, hmI2, hV2, hex⟩ := hpost _ _ _ h
  refine q_swap ?_
  exact kk f L2 E3 _ _ (u + (16 * mc + ms)) ⟨cl, ln, iv, rv, sk, ad2, ln2, v2, a2, fun q hq => (ha q hq).trans (hE q hq), hP, hmI2.cgE hb, hV2, by omega, v, a, hR0, hex⟩ (by omega)
end LAWS
end
section
theorem stk_lt {s : Nat → Int} : ∀ (n : Nat) (T : Int) (R : Nat → Int), stk s n T R → ∀ k : Nat, k < n → (s (4 * k) = 1 ∨ s (4 * k) = 2) → 0 ≤ s (4 * k + 1) ∧ s (4 * k + 1) < T := by
  intro n
  induction n with
  | zero => intro T R _ k hk; exact absurd hk (by omega)
  | succ n ih =>
    intro T R h k hk hw
    obtain ⟨T0, R0, he, hs⟩ := h
    by_cases e : k = n
    · subst e
      rcases he with ⟨q1, _⟩ | ⟨_, q2, _⟩ | ⟨_, q2, _⟩ | ⟨q1, _⟩ | ⟨q1, _⟩
      · omega
      · exact q2
      · exact q2
      · omega
      · omega
    · have q := ih T0 R0 hs k (by omega) hw
      rcases he with ⟨_, _, q3, _⟩ | ⟨_, _, q3, _⟩ | ⟨_, _, _, q3, _⟩ | ⟨_, _, _, q3, _⟩ | ⟨_, _, _, q3, _⟩ <;> exact ⟨q.1, by omega⟩
theorem STK.lt {ln : Nat → Nat} {v : Nat → Int} {a : Nat → Nat → Int} (h : STK ln v a) (k : Nat) (hk : 4 * (k : Int) < v 19) (hw : a 18 (4 * k) = 1 ∨ a 18 (4 * k) = 2) : 0 ≤ a 18 (4 * k + 1) ∧ a 18 (4 * k + 1) < v 4 := by
  obtain ⟨_, _, n, hn, hs⟩ := h
  exact stk_lt n _ _ hs k (by omega) hw
def CHP (sk : Nat → Nat) (iv : Nat → Nat → Int) (rv : Nat → Nat → Option Nat) (v : Nat → Int) (a : Nat → Nat → Int) : Prop := ∀ k : Nat, (k : Int) < iv (sk 23) 2 → ∃ ch, el rv (sk 23) k = some ch ∧ iv ch 0 = a 18 (4 * k) ∧ ((a 18 (4 * k) = 1 ∨ a 18 (4 * k) = 2) → (0 ≤ a 18 (4 * k + 1) ∧ a 18 (4 * k + 1) < v 4) ∧ rv ch 1 = el rv (sk 22) (a 18 (4 * k + 1)).toNat)
def TBR (sk : Nat → Nat) (iv : Nat → Nat → Int) (rv : Nat → Nat → Option Nat) (v : Nat → Int) (a : Nat → Nat → Int) : Prop := ∀ i : Nat, (i : Int) < v 4 → ∃ t q, el rv (sk 22) i = some t ∧ rv t 4 = some q ∧ iv t 0 = a 6 i ∧ iv t 1 = a 7 i ∧ iv t 7 + a 5 i = 1 ∧ iv q 2 = a 10 i ∧ (a 7 i = 6 ∨ a 7 i = 8) ∧ (a 5 i = 0 ∨ a 5 i = 1) ∧ (0 ≤ a 10 i ∧ a 10 i ≤ 200)
def LNJ (sk : Nat → Nat) (rv : Nat → Nat → Option Nat) (n : Int) : Prop := ∀ i j t u q : Nat, (i : Int) < n → (j : Int) < n → el rv (sk 22) i = some t → el rv (sk 22) j = some u → rv t 4 = some q → rv u 4 = some q → i = j
def TABR (sk : Nat → Nat) (iv : Nat → Nat → Int) (rv : Nat → Nat → Option Nat) (v : Nat → Int) (a : Nat → Nat → Int) : Prop := iv (sk 22) 2 = v 4 ∧ TBR sk iv rv v a ∧ LNJ sk rv (v 4) ∧ 4 * iv (sk 23) 2 = v 19 ∧ CHP sk iv rv v a ∧ (0 ≤ v 4 ∧ v 4 ≤ 30) ∧ 0 ≤ v 19
section TABS
variable {sk : Nat → Nat} {iv iv2 : Nat → Nat → Int} {rv rv2 : Nat → Nat → Option Nat} {v v2 : Nat → Int} {a a2 : Nat → Nat → Int} {i : Int} {t : Nat}
theorem TABR.al (h : TABR sk iv rv v a) (ha : ALV sk iv rv i t) : (0 ≤ i ∧ i < v 4 ∧ a 5 i.toNat = 1) ∧ iv t 0 = a 6 i.toNat ∧ iv t 1 = a 7 i.toNat ∧ (iv t 1 = 6 ∨ iv t 1 = 8) ∧ ∃ q, rv t 4 = some q ∧ iv q 2 = a 10 i.toNat := by
  obtain ⟨h1, h2, _⟩ := h
  obtain ⟨a1, a2, a3, a4⟩ := ha
  obtain ⟨t2, q, b1, b2, b3, b4, b5, b6, b7, b8⟩ := h2 i.toNat (by omega)
  rw [a3] at b1; cases b1
  exact ⟨⟨a1, by omega, by omega⟩, b3, b4, by omega, q, b2, b6⟩
theorem TABR.la (h : TABR sk iv rv v a) (w1 : 0 ≤ i) (w2 : i < v 4) (w3 : a 5 i.toNat = 1) : ∃ t, ALV sk iv rv i t := by
  obtain ⟨g1, g2, _⟩ := h
  obtain ⟨t, q, b1, b2, b3, b4, b5, b6, b7, b8⟩ := g2 i.toNat (by omega)
  exact ⟨t, w1, by omega, b1, by omega⟩
theorem TABR.no (h : TABR sk iv rv v a) (w1 : 0 ≤ i) (w2 : i < v 4) (w3 : el rv (sk 22) i.toNat = some t) {j : Nat} {u : Nat} (hj : (j : Int) < v 4) (hu : el rv (sk 22) j = some u) (ne : j ≠ i.toNat) : u ≠ t ∧ ∀ q r, rv t 4 = some q → rv u 4 = some r → r ≠ q := by
  have key : ∀ q, rv t 4 = some q → rv u 4 = some q → False := fun q e1 e2 => ne (h.2.2.1 j i.toNat u t q hj (by omega) hu w3 e2 e1)
  obtain ⟨t2, q, b1, b2, _⟩ := h.2.1 i.toNat (by omega)
  rw [w3] at b1; cases b1
  refine ⟨fun e => ?_, fun q2 r e1 e2 e3 => ?_⟩
  · subst e; exact key q b2 b2
  · subst e3; exact key r e1 e2
theorem LNJ.keep {n n2 : Int} (h : LNJ sk rv n) (hn : n2 ≤ n) (he : ∀ i : Nat, (i : Int) < n2 → el rv2 (sk 22) i = el rv (sk 22) i) (h4 : ∀ i t : Nat, (i : Int) < n2 → el rv (sk 22) i = some t → rv2 t 4 = rv t 4) : LNJ sk rv2 n2 := by
  intro i j t u q hi hj ht hu e1 e2
  refine hv2 ((he i hi).symm.trans ht) ((he j hj).symm.trans hu) (fun ht2 hu2 => ?_)
  exact h i j t u q (by omega) (by omega) ht2 hu2 ((h4 i t hi ht2).symm.trans e1) ((h4 j u hj hu2).symm.trans e2)
theorem CHP.push {w tt cc dd : Int} {x : Option Nat} (h : CHP sk iv rv v a) (hn : iv (sk 22) 2 = v 4) (h19 : 4 * iv (sk 23) 2 = v 19) (h0 : 0 ≤ v 19) (h4 : v 4 ≤ v2 4) (ts : TS0 sk iv rv rv2) (hp : PPSH w x sk iv rv iv2 rv2) (hq : PSH v a v2 a2 w tt cc dd) (hx : (w = 1 ∨ w = 2) → (0 ≤ tt ∧ tt < v2 4) ∧ x = el rv2 (sk 22) tt.toNat) : CHP sk iv2 rv2 v2 a2 := by
  obtain ⟨r1, r2, ch, r3, r4, r5⟩ := hp
  obtain ⟨s1, s2, s3, s4, _⟩ := hq
  intro k hk
  by_cases e : (k : Int) < iv (sk 23) 2
  · obtain ⟨c, b1, b2, b3⟩ := h k e
    have g := r2 k e
    have g2 := g.2 c b1
    have z0 := s2 (4 * k) (by omega)
    have z1 := s2 (4 * k + 1) (by omega)
    refine ⟨c, g.1.trans b1, by rw [z0, g2.1]; exact b2, fun hw => ?_⟩
    rw [z0] at hw
    rw [z1]
    obtain ⟨e1, e2⟩ := b3 hw
    exact ⟨⟨e1.1, by omega⟩, g2.2.trans (e2.trans (ts _ (by omega)).symm)⟩
  · have ek : k = (iv (sk 23) 2).toNat := by omega
    have z0 : a2 18 (4 * k) = w := by rw [show 4 * k = (v 19).toNat by omega]; exact s3
    have z1 : a2 18 (4 * k + 1) = tt := by rw [show 4 * k + 1 = (v 19 + 1).toNat by omega]; exact s4
    refine ⟨ch, by rw [ek]; exact r3, by rw [z0]; exact r4, fun hw => ?_⟩
    rw [z0] at hw
    rw [z1]
    have g := hx hw
    exact ⟨g.1, r5.trans g.2⟩
theorem tab_same (h : TABR sk iv rv v a) (hp : PSAME sk iv rv iv2 rv2) (hq : TSAME v a v2 a2) : TABR sk iv2 rv2 v2 a2 := by
  obtain ⟨h1, h2, h3, h4, h5, h6, h7⟩ := h
  obtain ⟨p1, p2, ⟨p3, p4, p5⟩, p6⟩ := hp
  obtain ⟨q1, q2, q3, q4, q5, q6, q7, _⟩ := hq
  refine ⟨by omega, fun i hi => ?_, h3.keep (by omega) (fun i hi => p3 i (by omega)) (fun i t hi ht => (p4 i t (by omega) ht).2.2.2), by omega, fun k hk => ?_, by omega, by omega⟩
  · obtain ⟨t, q, b1, b2, b3, b4, b5, b6, b7, b8⟩ := h2 i (by omega)
    have c := p4 i t (by omega) b1
    have d := p5 i t q (by omega) b1 b2 trivial
    rw [q2, q3, q4, q5]
    exact ⟨t, q, (p3 i (by omega)).trans b1, c.2.2.2.trans b2, c.2.1.trans b3, c.2.2.1.trans b4, by rw [c.1 trivial]; exact b5, d.trans b6, b7, b8⟩
  · obtain ⟨ch, b1, b2, b3⟩ := h5 k (by omega)
    have c := p6 k (by omega)
    have d := c.2 ch b1
    rw [q7]
    refine ⟨ch, c.1.trans b1, d.1.trans b2, fun hw => ?_⟩
    obtain ⟨e1, e2⟩ := b3 hw
    exact ⟨⟨e1.1, by omega⟩, d.2.trans (e2.trans (p3 _ (by omega)).symm)⟩
theorem tab_new {k d bb ss : Int} (h : TABR sk iv rv v a) (hp : PNEW k d sk iv rv iv2 rv2) (hq : TNEW k d bb ss v a v2 a2) (hd : d = 6 ∨ d = 8) (hlt : v 4 ≠ 30) : TABR sk iv2 rv2 v2 a2 := by
  obtain ⟨h1, h2, h3, h4, h5, h6, h7⟩ := h
  obtain ⟨q, r, p1, p2, p3, p4, p5, p6, p7, p8, ⟨p9, p10, p11⟩, p12⟩ := hp
  obtain ⟨q1, q2, q3, q4, q5, q6, _⟩ := hq
  have old : ∀ j t w : Nat, (j : Int) < v 4 → el rv2 (sk 22) j = some t → rv2 t 4 = some w → el rv (sk 22) j = some t ∧ rv t 4 = some w := by
    intro j t w hj ht hw
    have ht2 := (p9 j (by omega)).symm.trans ht
    exact ⟨ht2, (p10 j t (by omega) ht2).2.2.2.symm.trans hw⟩
  have nw : ∀ j t w : Nat, ¬ (j : Int) < v 4 → (j : Int) < v2 4 → el rv2 (sk 22) j = some t → rv2 t 4 = some w → w = r := by
    intro j t w hj hj2 ht hw
    rw [show j = (iv (sk 22) 2).toNat by omega, p1] at ht
    cases ht
    rw [p5] at hw
    cases hw
    rfl
  refine ⟨by omega, fun i hi => ?_, fun i j t u w hi hj ht hu e1 e2 => ?_, by have := q6.1; have := p12.1; omega, h5.push h1 h4 h7 (by omega) p9 p12 q6 (fun hw => absurd hw (by omega)), by omega, by have := q6.1; omega⟩
  · rw [q2, q3, q4, q5]
    by_cases e : (i : Int) < v 4
    · obtain ⟨t, w, b1, b2, b3, b4, b5, b6, b7, b8⟩ := h2 i e
      have c := p10 i t (by omega) b1
      have dd := p11 i t w (by omega) b1 b2 trivial
      have ne : i ≠ (v 4).toNat := by omega
      rw [va_up_ne _ _ ne, va_up_ne _ _ ne, va_up_ne _ _ ne, va_up_ne _ _ ne]
      exact ⟨t, w, (p9 i (by omega)).trans b1, c.2.2.2.trans b2, c.2.1.trans b3, c.2.2.1.trans b4, by rw [c.1 trivial]; exact b5, dd.trans b6, b7, b8⟩
    · have ei : i = (v 4).toNat := by omega
      rw [ei, va_up_self, va_up_self, va_up_self, va_up_self]
      exact ⟨q, r, by rw [← h1]; exact p1, p5, p2, p3, by omega, p6, hd, Or.inr rfl, ⟨by decide, by decide⟩⟩
  · by_cases ei : (i : Int) < v 4
    · by_cases ej : (j : Int) < v 4
      · have o1 := old i t w ei ht e1
        have o2 := old j u w ej hu e2
        exact h3 i j t u w ei ej o1.1 o2.1 o1.2 o2.2
      · have o1 := old i t w ei ht e1
        have o2 := nw j u w ej hj hu e2
        subst o2
        exact absurd o1.2 (p7 i t (by omega) o1.1)
    · by_cases ej : (j : Int) < v 4
      · have o1 := old j u w ej hu e2
        have o2 := nw i t w ei hi ht e1
        subst o2
        exact absurd o1.2 (p7 j u (by omega) o1.1)
      · omega
theorem tab_drop (h : TABR sk iv rv v a) (ha : ALV sk iv rv i t) (hn : iv2 (sk 22) 2 = iv (sk 22) 2) (hp : PTAB (fun b => b ≠ t) (fun _ => True) sk iv rv iv2 rv2) (h7t : iv2 t 7 = 1) (hs : PPSH 1 (some t) sk iv rv iv2 rv2) (hq : TDRP i v a v2 a2) : TABR sk iv2 rv2 v2 a2 := by
  have no := fun {j u : Nat} => h.no (j := j) (u := u) ha.1 (h.al ha).1.2.1 ha.2.2.1
  obtain ⟨h1, h2, h3, h4, h5, h6, h7⟩ := h
  obtain ⟨p3, p4, p5⟩ := hp
  obtain ⟨q1, q2, q3, q4, q5, q6, _⟩ := hq
  obtain ⟨a1, a2', a3, a4⟩ := ha
  refine ⟨by omega, fun j hj => ?_, h3.keep (by omega) (fun i hi => p3 i (by omega)) (fun i t hi ht => (p4 i t (by omega) ht).2.2.2), by have := q6.1; have := hs.1; omega, h5.push h1 h4 h7 (by omega) p3 hs q6 (fun _ => ⟨⟨a1, by omega⟩, ((p3 i.toNat (by omega)).trans a3).symm⟩), by omega, by have := q6.1; omega⟩
  obtain ⟨u, w, b1, b2, b3, b4, b5, b6, b7, b8⟩ := h2 j (by omega)
  have c := p4 j u (by omega) b1
  have d := p5 j u w (by omega) b1 b2 trivial
  rw [q2, q3, q4, q5]
  by_cases e : j = i.toNat
  · have b1' := b1
    rw [e, a3] at b1'; cases b1'
    rw [e, va_up_self]
    rw [e] at b1 b3 b4 b6 b7 b8
    exact ⟨_, w, (p3 i.toNat (by omega)).trans b1, c.2.2.2.trans b2, c.2.1.trans b3, c.2.2.1.trans b4, by omega, d.trans b6, b7, Or.inl rfl, b8.2⟩
  · rw [va_up_ne _ _ e]
    have n1 := (no (by omega) b1 e).1
    exact ⟨u, w, (p3 j (by omega)).trans b1, c.2.2.2.trans b2, c.2.1.trans b3, c.2.2.1.trans b4, by rw [c.1 n1]; exact b5, d.trans b6, b7, b8⟩
theorem tab_rule {q : Nat} {xx nn : Int} (h : TABR sk iv rv v a) (ha : ALV sk iv rv i t) (h4t : rv t 4 = some q) (hn : iv2 (sk 22) 2 = iv (sk 22) 2) (hp : PTAB (fun _ => True) (fun b => b ≠ q) sk iv rv iv2 rv2) (hz : iv2 q 2 = iv q 2 + 1) (hlt : iv q 2 < 200) (hs : PPSH 2 (some t) sk iv rv iv2 rv2) (hq : TRUL i xx nn v a v2 a2) : TABR sk iv2 rv2 v2 a2 := by
  have no := fun {j u : Nat} => h.no (j := j) (u := u) ha.1 (h.al ha).1.2.1 ha.2.2.1
  obtain ⟨h1, h2, h3, h4, h5, h6, h7⟩ := h
  obtain ⟨p3, p4, p5⟩ := hp
  obtain ⟨q1, q2, q3, q4, q5, q6, _⟩ := hq
  obtain ⟨a1, a2', a3, a4⟩ := ha
  refine ⟨by omega, fun j hj => ?_, h3.keep (by omega) (fun i hi => p3 i (by omega)) (fun i t hi ht => (p4 i t (by omega) ht).2.2.2), by have := q6.1; have := hs.1; omega, h5.push h1 h4 h7 (by omega) p3 hs q6 (fun _ => ⟨⟨a1, by omega⟩, ((p3 i.toNat (by omega)).trans a3).symm⟩), by omega, by have := q6.1; omega⟩
  obtain ⟨u, w, b1, b2, b3, b4, b5, b6, b7, b8⟩ := h2 j (by omega)
  have c := p4 j u (by omega) b1
  rw [q2, q3, q4, q5]
  by_cases e : j = i.toNat
  · have b1' := b1
    rw [e, a3] at b1'; cases b1'
    rw [h4t] at b2; cases b2
    rw [e, va_up_self]
    rw [e] at b1 b3 b4 b5 b6 b7 b8
    exact ⟨_, _, (p3 i.toNat (by omega)).trans b1, c.2.2.2.trans h4t, c.2.1.trans b3, c.2.2.1.trans b4, by rw [c.1 trivial]; exact b5, by omega, b7, b8.1, by omega⟩
  · rw [va_up_ne _ _ e]
    have n1 := (no (by omega) b1 e).2 q w h4t b2
    exact ⟨u, w, (p3 j (by omega)).trans b1, c.2.2.2.trans b2, c.2.1.trans b3, c.2.2.1.trans b4, by rw [c.1 trivial]; exact b5, (p5 j u w (by omega) b1 b2 n1).trans b6, b7, b8⟩
theorem tab_oth {w x cc dd : Int} {y : Option Nat} (h : TABR sk iv rv v a) (hn : iv2 (sk 22) 2 = iv (sk 22) 2) (hp : PTAB (fun _ => True) (fun _ => True) sk iv rv iv2 rv2) (hs : PPSH w y sk iv rv iv2 rv2) (hq : TOTH w x cc dd v a v2 a2) (hw : w ≠ 1 ∧ w ≠ 2) : TABR sk iv2 rv2 v2 a2 := by
  obtain ⟨h1, h2, h3, h4, h5, h6, h7⟩ := h
  obtain ⟨p3, p4, p5⟩ := hp
  obtain ⟨q1, q2, q3, q4, q5, q6⟩ := hq
  refine ⟨by omega, fun j hj => ?_, h3.keep (by omega) (fun i hi => p3 i (by omega)) (fun i t hi ht => (p4 i t (by omega) ht).2.2.2), by have := q6.1; have := hs.1; omega, h5.push h1 h4 h7 (by omega) p3 hs q6 (fun e => absurd e (by omega)), by omega, by have := q6.1; omega⟩
  obtain ⟨u, q, b1, b2, b3, b4, b5, b6, b7, b8⟩ := h2 j (by omega)
  have c := p4 j u (by omega) b1
  rw [q2, q3, q4, q5]
  exact ⟨u, q, (p3 j (by omega)).trans b1, c.2.2.2.trans b2, c.2.1.trans b3, c.2.2.1.trans b4, by rw [c.1 trivial]; exact b5, (p5 j u q (by omega) b1 b2 trivial).trans b6, b7, b8⟩
theorem tab_undo {ln ln2 : Nat → Nat} {ch : Nat} (h : TABR sk iv rv v a) (hS : STK ln v a) (hS2 : STK ln2 v2 a2) (h0 : v 19 ≠ 0) (hc : el rv (sk 23) (iv (sk 23) 2 - 1).toNat = some ch) (hp : PUND ch sk iv rv iv2 rv2) (hq : TUND v a v2 a2) : TABR sk iv2 rv2 v2 a2 := by
  obtain ⟨_, T0, R0, hent, _⟩ := STK.pop hS h0
  have hh := h
  obtain ⟨h1, h2, h3, h4, h5, h6, h7⟩ := h
  obtain ⟨p1, p2, p3⟩ := hp
  obtain ⟨q1, q2, q3, q4, _, q5⟩ := hq
  obtain ⟨c, g1, g2, g3⟩ := h5 (iv (sk 23) 2 - 1).toNat (by omega)
  rw [hc] at g1; cases g1
  rw [show 4 * (iv (sk 23) 2 - 1).toNat = (v 19 - 4).toNat by omega] at g2 g3
  rw [show (v 19 - 4).toNat + 1 = (v 19 - 4 + 1).toNat by omega] at g3
  have chp : (∀ j : Nat, (j : Int) < v2 4 → el rv2 (sk 22) j = el rv (sk 22) j) → CHP sk iv2 rv2 v2 a2 := by
    intro he k hk
    obtain ⟨c, b1, b2, b3⟩ := h5 k (by omega)
    have g := p2 k (by omega)
    have g4 := g.2 c b1
    have lt := hS2.lt k (by omega)
    rw [q2] at lt ⊢
    refine ⟨c, g.1.trans b1, g4.1.trans b2, fun hw => ?_⟩
    have l2 := lt hw
    exact ⟨l2, g4.2.trans ((b3 hw).2.trans (he _ (by omega)).symm)⟩
  rcases q5 with ⟨w1, w2, w3, w4, _⟩ | ⟨w1, w2, w3, w4, _⟩ | ⟨w1, w2, w3, w4, _⟩ | ⟨w1, w2, w3, w4, _⟩ | ⟨w1, w2, w3, w4, _⟩
  · obtain ⟨e1, _, _⟩ := hent.e0 w1
    rcases p3 with ⟨d1, d2, d3, d4, d5⟩ | ⟨d1, _⟩ | ⟨d1, _⟩ | ⟨d1, _⟩
    · refine ⟨by omega, fun j hj => ?_, h3.keep (by omega) (fun i hi => d3 i (by omega)) (fun i t hi ht => (d4 i t (by omega) ht).2.2.2), by omega, chp (fun j hj => d3 j (by omega)), by omega, by omega⟩
      obtain ⟨u, q, b1, b2, b3, b4, b5, b6, b7, b8⟩ := h2 j (by omega)
      have c := d4 j u (by omega) b1
      rw [w3, w4, q3, q4]
      exact ⟨u, q, (d3 j (by omega)).trans b1, c.2.2.2.trans b2, c.2.1.trans b3, c.2.2.1.trans b4, by rw [c.1 trivial]; exact b5, (d5 j u q (by omega) b1 b2 trivial).trans b6, b7, b8⟩
    · omega
    · omega
    · omega
  · obtain ⟨e1, _, _⟩ := hent.e1 w1
    rcases p3 with ⟨d1, _⟩ | ⟨d1, t, d2, d3, ⟨d4, d5, d6⟩, d7⟩ | ⟨d1, _⟩ | ⟨d1, _⟩
    · omega
    · obtain ⟨_, x2⟩ := g3 (Or.inl w1)
      have x3 := (x2.symm.trans d2)
      have no := fun {j u : Nat} => hh.no (j := j) (u := u) e1.1 e1.2 x3
      refine ⟨by omega, fun j hj => ?_, h3.keep (by omega) (fun i hi => d4 i (by omega)) (fun i t hi ht => (d5 i t (by omega) ht).2.2.2), by omega, chp (fun j hj => d4 j (by omega)), by omega, by omega⟩
      obtain ⟨u, q, b1, b2, b3, b4, b5, b6, b7, b8⟩ := h2 j (by omega)
      have c := d5 j u (by omega) b1
      have d := d6 j u q (by omega) b1 b2 trivial
      rw [w3, w4, q3, q4]
      by_cases e : j = (a 18 (v 19 - 4 + 1).toNat).toNat
      · have b1' := b1
        rw [e, x3] at b1'; cases b1'
        rw [e, va_up_self]
        rw [e] at b1 b3 b4 b6 b7 b8
        exact ⟨_, _, (d4 _ (by omega)).trans b1, c.2.2.2.trans b2, c.2.1.trans b3, c.2.2.1.trans b4, by omega, d.trans b6, b7, Or.inr rfl, b8.2⟩
      · rw [va_up_ne _ _ e]
        exact ⟨u, q, (d4 j (by omega)).trans b1, c.2.2.2.trans b2, c.2.1.trans b3, c.2.2.1.trans b4, by rw [c.1 (no (by omega) b1 e).1]; exact b5, d.trans b6, b7, b8⟩
    · omega
    · omega
  · obtain ⟨e1, e2, _, _⟩ := hent.e2 w1
    rcases p3 with ⟨d1, _⟩ | ⟨d1, _⟩ | ⟨d1, t, r, d2, d8, d3, ⟨d4, d5, d6⟩, d7⟩ | ⟨d1, _⟩
    · omega
    · omega
    · obtain ⟨_, x2⟩ := g3 (Or.inr w1)
      have x3 := (x2.symm.trans d2)
      have no := fun {j u : Nat} => hh.no (j := j) (u := u) e1.1 e1.2 x3
      refine ⟨by omega, fun j hj => ?_, h3.keep (by omega) (fun i hi => d4 i (by omega)) (fun i t hi ht => (d5 i t (by omega) ht).2.2.2), by omega, chp (fun j hj => d4 j (by omega)), by omega, by omega⟩
      obtain ⟨u, q, b1, b2, b3, b4, b5, b6, b7, b8⟩ := h2 j (by omega)
      have c := d5 j u (by omega) b1
      rw [w3, w4, q3, q4]
      by_cases e : j = (a 18 (v 19 - 4 + 1).toNat).toNat
      · have b1' := b1
        rw [e, x3] at b1'; cases b1'
        rw [d8] at b2; cases b2
        rw [e, va_up_self]
        rw [e] at b1 b3 b4 b5 b6 b7 b8
        exact ⟨_, _, (d4 _ (by omega)).trans b1, c.2.2.2.trans d8, c.2.1.trans b3, c.2.2.1.trans b4, by rw [c.1 trivial]; exact b5, by omega, b7, b8.1, by omega⟩
      · rw [va_up_ne _ _ e]
        have n1 := (no (by omega) b1 e).2 r q d8 b2
        exact ⟨u, q, (d4 j (by omega)).trans b1, c.2.2.2.trans b2, c.2.1.trans b3, c.2.2.1.trans b4, by rw [c.1 trivial]; exact b5, (d6 j u q (by omega) b1 b2 n1).trans b6, b7, b8⟩
    · omega
  · rcases p3 with ⟨d1, _⟩ | ⟨d1, _⟩ | ⟨d1, _⟩ | ⟨d1, d3, ⟨d4, d5, d6⟩⟩
    · omega
    · omega
    · omega
    · refine ⟨by omega, fun j hj => ?_, h3.keep (by omega) (fun i hi => d4 i (by omega)) (fun i t hi ht => (d5 i t (by omega) ht).2.2.2), by omega, chp (fun j hj => d4 j (by omega)), by omega, by omega⟩
      obtain ⟨u, q, b1, b2, b3, b4, b5, b6, b7, b8⟩ := h2 j (by omega)
      have c := d5 j u (by omega) b1
      rw [w3, w4, q3, q4]
      exact ⟨u, q, (d4 j (by omega)).trans b1, c.2.2.2.trans b2, c.2.1.trans b3, c.2.2.1.trans b4, by rw [c.1 trivial]; exact b5, (d6 j u q (by omega) b1 b2 trivial).trans b6, b7, b8⟩
  · rcases p3 with ⟨d1, _⟩ | ⟨d1, _⟩ | ⟨d1, _⟩ | ⟨d1, d3, ⟨d4, d5, d6⟩⟩
    · omega
    · omega
    · omega
    · refine ⟨by omega, fun j hj => ?_, h3.keep (by omega) (fun i hi => d4 i (by omega)) (fun i t hi ht => (d5 i t (by omega) ht).2.2.2), by omega, chp (fun j hj => d4 j (by omega)), by omega, by omega⟩
      obtain ⟨u, q, b1, b2, b3, b4, b5, b6, b7, b8⟩ := h2 j (by omega)
      have c := d5 j u (by omega) b1
      rw [w3, w4, q3, q4]
      exact ⟨u, q, (d4 j (by omega)).trans b1, c.2.2.2.trans b2, c.2.1.trans b3, c.2.2.1.trans b4, by rw [c.1 trivial]; exact b5, (d6 j u q (by omega) b1 b2 trivial).trans b6, b7, b8⟩
theorem tab_zero (h1 : iv (sk 22) 2 = 0) (h2 : iv (sk 23) 2 = 0) (h3 : v 4 = 0) (h4 : v 19 = 0) : TABR sk iv rv v a := ⟨by omega, fun i hi => absurd hi (by omega), fun i j t u q hi => absurd hi (by omega), by omega, fun k hk => absurd hk (by omega), by omega, by omega⟩
theorem tbl_both {x y f1 f2 : Int} (h : TABR sk iv rv v a) (hp : PTBL x y i f1 sk iv rv iv2 rv2) (hq : ((f2 = -1 ∧ TSAME v a v2 a2 ∧ ¬ (0 ≤ x ∧ x ≤ 4 ∧ (y = 6 ∨ y = 8) ∧ v 4 ≠ 30 ∧ (x < 1 ∨ 3 < x ∨ (0 ≤ i ∧ i < v 4 ∧ a 5 i.toNat = 1 ∧ a 6 i.toNat ≤ 3)))) ∨ (f2 = v 4 ∧ (0 ≤ x ∧ x ≤ 4 ∧ (y = 6 ∨ y = 8) ∧ v 4 ≠ 30 ∧ (x < 1 ∨ 3 < x ∨ (0 ≤ i ∧ i < v 4 ∧ a 5 i.toNat = 1 ∧ a 6 i.toNat ≤ 3))) ∧ TNEW x y (if x < 1 ∨ 3 < x then -1 else i) (-1) v a v2 a2))) : f1 = f2 ∧ TABR sk iv2 rv2 v2 a2 := by
  refine hv2 (h.1) (h.2.2.2.2.2.1) (fun h1 h30 => ?_)
  rcases hp with ⟨p1, p2, p3⟩ | ⟨p1, ⟨p2, p4⟩, p3⟩ <;> rcases hq with ⟨q1, q2, q3⟩ | ⟨q1, q2, q3⟩
  · exact ⟨by omega, tab_same h p2 q2⟩
  · refine absurd ⟨⟨by omega, by omega, by omega, by omega⟩, ?_⟩ p3
    by_cases e : x < 1 ∨ 3 < x
    · rcases e with e | e
      · exact Or.inl e
      · exact Or.inr (Or.inl e)
    · have g : 0 ≤ i ∧ i < v 4 ∧ a 5 i.toNat = 1 ∧ a 6 i.toNat ≤ 3 := by omega
      obtain ⟨t, ht⟩ := h.la g.1 g.2.1 g.2.2.1
      exact Or.inr (Or.inr ⟨t, ht, by rw [(h.al ht).2.1]; exact g.2.2.2⟩)
  · refine absurd ?_ q3
    have g : x < 1 ∨ 3 < x ∨ (0 ≤ i ∧ i < v 4 ∧ a 5 i.toNat = 1 ∧ a 6 i.toNat ≤ 3) := by
      rcases p4 with e | e | ⟨t, ht, e⟩
      · exact Or.inl e
      · exact Or.inr (Or.inl e)
      · have w := h.al ht
        rw [w.2.1] at e
        exact Or.inr (Or.inr ⟨w.1.1, w.1.2.1, w.1.2.2, e⟩)
    clear p4 q3
    exact ⟨by omega, by omega, by omega, by omega, g⟩
  · clear p4
    exact ⟨by omega, tab_new h p3 q3 p2.2.2.1 (by omega)⟩
theorem joi_both {j f1 f2 : Int} (h : TABR sk iv rv v a) (hp : PJOI i j f1 sk iv rv iv2 rv2) (hq : ((f2 = -1 ∧ TSAME v a v2 a2 ∧ ¬ (0 ≤ i ∧ i < v 4 ∧ a 5 i.toNat = 1 ∧ a 6 i.toNat ≤ 3 ∧ 0 ≤ j ∧ j < v 4 ∧ a 5 j.toNat = 1 ∧ a 6 j.toNat ≤ 3 ∧ v 4 ≠ 30)) ∨ (f2 = v 4 ∧ (0 ≤ i ∧ i < v 4 ∧ a 5 i.toNat = 1 ∧ a 6 i.toNat ≤ 3 ∧ 0 ≤ j ∧ j < v 4 ∧ a 5 j.toNat = 1 ∧ a 6 j.toNat ≤ 3 ∧ v 4 ≠ 30) ∧ TNEW 5 (max (a 7 i.toNat) (a 7 j.toNat)) i j v a v2 a2))) : f1 = f2 ∧ TABR sk iv2 rv2 v2 a2 := by
  refine hv2 (h.1) (h.2.2.2.2.2.1) (fun h1 h30 => ?_)
  rcases hp with ⟨p1, p2, p3⟩ | ⟨p1, p2, t, u, ⟨ht, et⟩, ⟨hu, eu⟩, p3⟩ <;> rcases hq with ⟨q1, q2, q3⟩ | ⟨q1, q2, q3⟩
  · exact ⟨by omega, tab_same h p2 q2⟩
  · obtain ⟨t, ht⟩ := h.la (i := i) (by omega) (by omega) (by omega)
    obtain ⟨u, hu⟩ := h.la (i := j) (by omega) (by omega) (by omega)
    exact absurd ⟨by omega, ⟨t, ht, by rw [(h.al ht).2.1]; omega⟩, ⟨u, hu, by rw [(h.al hu).2.1]; omega⟩⟩ p3
  · have w := h.al ht
    have w2 := h.al hu
    rw [w.2.1] at et
    rw [w2.2.1] at eu
    exact absurd ⟨w.1.1, w.1.2.1, w.1.2.2, et, w2.1.1, w2.1.2.1, w2.1.2.2, eu, by omega⟩ q3
  · have w := h.al ht
    refine hv3 (h.al hu) (w.2.2.2.1) (w.2.2.1) (fun w2 d1 e1 => ?_)
    refine hv2 (w2.2.2.2.1) (w2.2.2.1) (fun d2 e2 => ?_)
    rw [e1, e2] at p3
    exact ⟨by omega, tab_new h p3 q3 (by omega) (by omega)⟩
theorem drp_both {f1 f2 : Int} (h : TABR sk iv rv v a) (hp : PDRP i f1 sk iv rv iv2 rv2) (hq : ((f2 = -1 ∧ TSAME v a v2 a2 ∧ ¬ (0 ≤ i ∧ i < v 4 ∧ a 5 i.toNat = 1)) ∨ (f2 = 1 ∧ (0 ≤ i ∧ i < v 4 ∧ a 5 i.toNat = 1) ∧ TDRP i v a v2 a2))) : f1 = f2 ∧ TABR sk iv2 rv2 v2 a2 := by
  rcases hp with ⟨p1, p2, p3⟩ | ⟨p1, t, ht, p2, p3, p4, p5⟩ <;> rcases hq with ⟨q1, q2, q3⟩ | ⟨q1, q2, q3⟩
  · exact ⟨by omega, tab_same h p2 q2⟩
  · obtain ⟨t, ht⟩ := h.la q2.1 q2.2.1 q2.2.2
    exact absurd ht (p3 t)
  · exact absurd (h.al ht).1 q3
  · exact ⟨by omega, tab_drop h ht p2 p3 p4 p5 q3⟩
theorem rul_both {x n f1 f2 : Int} (h : TABR sk iv rv v a) (hs : iv (sk 2) 2 = v 3) (hc : CT iv rv (sk 2) (a 2)) (hp : PRUL i x n f1 sk iv rv iv2 rv2) (hq : ((f2 = -1 ∧ TSAME v a v2 a2 ∧ ¬ ((0 ≤ i ∧ i < v 4 ∧ a 5 i.toNat = 1 ∧ a 6 i.toNat ≠ 5 ∧ 0 ≤ x ∧ x ≤ 5 ∧ 1 ≤ n ∧ n ≤ 8 ∧ 1 ≤ v 3 - n ∧ v 3 - n ≤ 4 ∧ a 10 i.toNat ≠ 200) ∧ ACL (a 2) n (v 3 - n) (DC (a 7 i.toNat)) ∧ LTK (a 2) n)) ∨ (f2 = a 10 i.toNat ∧ ((0 ≤ i ∧ i < v 4 ∧ a 5 i.toNat = 1 ∧ a 6 i.toNat ≠ 5 ∧ 0 ≤ x ∧ x ≤ 5 ∧ 1 ≤ n ∧ n ≤ 8 ∧ 1 ≤ v 3 - n ∧ v 3 - n ≤ 4 ∧ a 10 i.toNat ≠ 200) ∧ ACL (a 2) n (v 3 - n) (DC (a 7 i.toNat)) ∧ LTK (a 2) n) ∧ TRUL i x n v a v2 a2))) : f1 = f2 ∧ TABR sk iv2 rv2 v2 a2 := by
  rcases hp with ⟨p1, p2, p3⟩ | ⟨t, q, ht, h4, p1, p2, p3, p4, p5, p6⟩ <;> rcases hq with ⟨q1, q2, q3⟩ | ⟨q1, ⟨q2, q4, q5⟩, q3⟩
  · exact ⟨by omega, tab_same h p2 q2⟩
  · obtain ⟨t, ht⟩ := h.la (i := i) (by omega) (by omega) (by omega)
    obtain ⟨w1, w2, w3, w4, q, w5, w6⟩ := h.al ht
    obtain ⟨_, _, b1, b2, _, _, _, _, _, _, b9⟩ := h.2.1 i.toNat (by omega)
    refine absurd ⟨⟨by omega, by omega, by omega, by omega, by omega, by omega, by omega, by omega⟩, ?_, q5⟩ (p3 (a 2) t q hc ht w5 w4)
    rw [hs, w3]; exact q4
  · obtain ⟨w1, w2, w3, w4, q', w5, w6⟩ := h.al ht
    rw [h4] at w5; cases w5
    obtain ⟨⟨r1, r2, r3, r4, r5, r6, r7, r8⟩, r9, r10⟩ := p2 (a 2) hc w4
    rw [hs, w3] at r9
    exact absurd ⟨⟨w1.1, w1.2.1, w1.2.2, by omega, by omega, by omega, by omega, by omega, by omega, by omega, by omega⟩, r9, r10⟩ q3
  · obtain ⟨w1, w2, w3, w4, q', w5, w6⟩ := h.al ht
    rw [h4] at w5; cases w5
    obtain ⟨⟨r1, r2, r3, r4, r5, r6, r7, r8⟩, r9, r10⟩ := p2 (a 2) hc w4
    exact ⟨by omega, tab_rule h ht h4 p3 p4 p5 r8 p6 q3⟩
theorem cnd_both {r x f1 f2 : Int} (h : TABR sk iv rv v a) (hp : PCND i r x f1 sk iv rv iv2 rv2) (hq : ((f2 = -1 ∧ TSAME v a v2 a2 ∧ ¬ (0 ≤ i ∧ i < v 4 ∧ a 5 i.toNat = 1 ∧ a 6 i.toNat ≠ 5 ∧ 0 ≤ r ∧ r < a 10 i.toNat ∧ 0 ≤ x ∧ x ≤ 5)) ∨ (f2 = a 11 (200 * i + r).toNat ∧ (0 ≤ i ∧ i < v 4 ∧ a 5 i.toNat = 1 ∧ a 6 i.toNat ≠ 5 ∧ 0 ≤ r ∧ r < a 10 i.toNat ∧ 0 ≤ x ∧ x ≤ 5) ∧ TCND i r x v a v2 a2))) : TABR sk iv2 rv2 v2 a2 := by
  rcases hp with ⟨p1, p2, p3⟩ | ⟨t, q, ht, h4, p1, p3, p4, p6⟩ <;> rcases hq with ⟨q1, q2, q3⟩ | ⟨q1, q2, q3⟩
  · exact tab_same h p2 q2
  · obtain ⟨t, ht⟩ := h.la (i := i) (by omega) (by omega) (by omega)
    obtain ⟨w1, w2, w3, w4, q, w5, w6⟩ := h.al ht
    exact absurd ⟨by omega, by omega, by omega, by omega, by omega⟩ (p3 t q ht w5)
  · obtain ⟨w1, w2, w3, w4, q', w5, w6⟩ := h.al ht
    rw [h4] at w5; cases w5
    exact absurd ⟨w1.1, w1.2.1, w1.2.2, by omega, by omega, by omega, by omega, by omega⟩ q3
  · exact tab_oth h p3 p4 p6 q3.1 (by decide)
theorem ind_both {x f1 f2 : Int} (h : TABR sk iv rv v a) (hs : iv (sk 2) 2 = v 3) (hc : CT iv rv (sk 2) (a 2)) (hp : PIND i x f1 sk iv rv iv2 rv2) (hq : ((f2 = -1 ∧ TSAME v a v2 a2 ∧ ¬ ((0 ≤ x ∧ x ≤ 3 ∧ 0 ≤ i ∧ i < v 4 ∧ a 5 i.toNat = 1 ∧ ((x = 0 ∧ a 6 i.toNat ≤ 2) ∨ (x = 1 ∧ a 6 i.toNat = 2) ∨ (x ≠ 0 ∧ x ≠ 1 ∧ a 6 i.toNat = 5)) ∧ v 3 ≤ 4) ∧ ACL (a 2) 0 (v 3) (DC (a 7 i.toNat)) ∧ True)) ∨ (f2 = v 3 ∧ ((0 ≤ x ∧ x ≤ 3 ∧ 0 ≤ i ∧ i < v 4 ∧ a 5 i.toNat = 1 ∧ ((x = 0 ∧ a 6 i.toNat ≤ 2) ∨ (x = 1 ∧ a 6 i.toNat = 2) ∨ (x ≠ 0 ∧ x ≠ 1 ∧ a 6 i.toNat = 5)) ∧ v 3 ≤ 4) ∧ ACL (a 2) 0 (v 3) (DC (a 7 i.toNat)) ∧ True) ∧ TIND i x v a v2 a2))) : f1 = f2 ∧ TABR sk iv2 rv2 v2 a2 := by
  rcases hp with ⟨p1, p2, p3⟩ | ⟨p1, t, ht, p2, p3, p4, p6⟩ <;> rcases hq with ⟨q1, q2, q3⟩ | ⟨q1, ⟨q2, q4, _⟩, q3⟩
  · exact ⟨by omega, tab_same h p2 q2⟩
  · obtain ⟨t, ht⟩ := h.la (i := i) (by omega) (by omega) (by omega)
    obtain ⟨w1, w2, w3, w4, q, w5, w6⟩ := h.al ht
    refine absurd ⟨⟨by omega, by omega, by omega, by omega⟩, ?_⟩ (p3 (a 2) t hc ht w4)
    rw [hs, w3]; exact q4
  · obtain ⟨w1, w2, w3, w4, q', w5, w6⟩ := h.al ht
    obtain ⟨⟨r1, r2, r3, r4⟩, r9⟩ := p2 (a 2) hc w4
    rw [hs, w3] at r9
    exact absurd ⟨⟨by omega, by omega, w1.1, w1.2.1, w1.2.2, by omega, by omega⟩, r9, trivial⟩ q3
  · exact ⟨by omega, tab_oth h p3 p4 p6 q3.1 (by decide)⟩
theorem und_both {f1 f2 : Int} (h : TABR sk iv rv v a) (hp : PUNX f1 sk iv rv iv2 rv2) (hq : (∃ ln, STK ln v a) ∧ (∃ ln, STK ln v2 a2) ∧ ((v 19 = 0 ∧ f2 = 0 ∧ TSAME v a v2 a2) ∨ (v 19 ≠ 0 ∧ f2 = 1 ∧ TUND v a v2 a2))) : f1 = f2 ∧ TABR sk iv2 rv2 v2 a2 := by
  obtain ⟨⟨ln, s1⟩, ⟨ln2, s2⟩, hq⟩ := hq
  have h4 := h.2.2.2.1
  rcases hp with ⟨p1, p2, p3⟩ | ⟨p1, p2, ch, p3, p4⟩ <;> rcases hq with ⟨q1, q2, q3⟩ | ⟨q1, q2, q3⟩
  · exact ⟨by omega, tab_same h p3 q3⟩
  · omega
  · omega
  · exact ⟨by omega, tab_undo h s1 s2 q1 p3 p4 q3⟩
end TABS
end
section
def ROWR (ln : Nat → Nat) (iv : Nat → Nat → Int) (rv : Nat → Nat → Option Nat) (a : Nat → Nat → Int) (w R : Nat) : Prop := iv w 3 = a 11 R ∧ iv w 0 = 4 ∧ ∃ l c, rv w 1 = some l ∧ rv w 2 = some c ∧ ((ln l : Nat) : Int) = a 12 R ∧ ((ln c : Nat) : Int) = a 13 R ∧ (∀ k : Nat, k < ln l → iv l k = a 14 (8 * R + k) ∧ 33 ≤ iv l k ∧ iv l k ≤ 125) ∧ (∀ k : Nat, k < ln c → iv c k = a 15 (4 * R + k) ∧ 1 ≤ iv c k ∧ iv c k ≤ 255)
def INDR (ln : Nat → Nat) (iv : Nat → Nat → Int) (rv : Nat → Nat → Option Nat) (r : Option Nat) (w m : Int) (y : Nat → Int) : Prop := (r = none ∧ m = 0) ∨ ∃ b c, r = some b ∧ (iv b 0 = w ∧ ∃ lb, rv b 1 = some lb ∧ ln lb = 0) ∧ rv b 2 = some c ∧ ((ln c : Nat) : Int) = m ∧ 0 < m ∧ ∀ k : Nat, k < ln c → iv c k = y k ∧ 1 ≤ iv c k ∧ iv c k ≤ 255
def BASR (sk : Nat → Nat) (rv : Nat → Nat → Option Nat) (i : Nat) (r : Option Nat) (x : Int) : Prop := (x = -1 ∧ r = none) ∨ (0 ≤ x ∧ x < (i : Int) ∧ r = el rv (sk 22) x.toNat)
def TB2 (o : Nat → Nat) (sk : Nat → Nat) (ln : Nat → Nat) (iv : Nat → Nat → Int) (rv : Nat → Nat → Option Nat) (a : Nat → Nat → Int) (i t : Nat) : Prop := ∃ q s x n, (rv t 4 = some q ∧ rv t 5 = some s ∧ rv s 1 = some x ∧ rv t 6 = some n) ∧ (o t = i ∧ o q = i ∧ o s = i ∧ o x = i ∧ o n = i) ∧ (BASR sk rv i (rv t 2) (a 8 i) ∧ BASR sk rv i (rv t 3) (a 9 i)) ∧ (iv s 2 = a 10 i ∧ iv q 2 = a 10 i) ∧ (∀ r : Nat, (r : Int) < a 10 i → ∃ w, el rv q r = some w ∧ o w = 200 * i + r ∧ ROWR ln iv rv a w (200 * i + r)) ∧ CT iv rv s (fun r => a 14 (8 * (200 * i + r))) ∧ (∀ w : Nat, w < 4 → INDR ln iv rv (rv n w) (w : Int) (a 16 (4 * i + w)) (fun k => a 17 (4 * (4 * i + w) + k)))
def CH2 (sk : Nat → Nat) (ln : Nat → Nat) (iv : Nat → Nat → Int) (rv : Nat → Nat → Option Nat) (v : Nat → Int) (a : Nat → Nat → Int) (k ch : Nat) : Prop := (a 18 (4 * k) = 3 → ((0 ≤ a 18 (4 * k + 1) ∧ a 18 (4 * k + 1) < v 4) ∧ 0 ≤ a 18 (4 * k + 2) ∧ a 18 (4 * k + 2) < a 10 (a 18 (4 * k + 1)).toNat) ∧ (∃ t q, el rv (sk 22) (a 18 (4 * k + 1)).toNat = some t ∧ rv t 4 = some q ∧ rv ch 2 = el rv q (a 18 (4 * k + 2)).toNat) ∧ iv ch 3 = a 18 (4 * k + 3)) ∧ (a 18 (4 * k) = 4 → (0 ≤ a 18 (4 * k + 1) ∧ a 18 (4 * k + 1) < 4 * v 4) ∧ rv ch 1 = el rv (sk 22) (a 18 (4 * k + 1) / 4).toNat ∧ iv ch 3 = a 18 (4 * k + 1) % 4 ∧ INDR ln iv rv (rv ch 2) (a 18 (4 * k + 1) % 4) (a 18 (4 * k + 2)) (fun j => UPK (a 18 (4 * k + 3)) (a 18 (4 * k + 2)) (j : Int)))
def RP2 (o : Nat → Nat) (sk : Nat → Nat) (ln : Nat → Nat) (iv : Nat → Nat → Int) (rv : Nat → Nat → Option Nat) (v : Nat → Int) (a : Nat → Nat → Int) : Prop := (∀ i : Nat, (i : Int) < v 4 → ∃ t, el rv (sk 22) i = some t ∧ TB2 o sk ln iv rv a i t) ∧ (∀ k : Nat, (k : Int) < iv (sk 23) 2 → ∃ ch, el rv (sk 23) k = some ch ∧ CH2 sk ln iv rv v a k ch)
def IDD (sk : Nat → Nat) (L2 : List Nat) (cl2 ln2 : Nat → Nat) (iv : Nat → Nat → Int) (rv : Nat → Nat → Option Nat) (iv2 : Nat → Nat → Int) (rv2 : Nat → Nat → Option Nat) (n : Nat) (j : Int) : Prop := (iv (sk 2) 2 = 0 ∧ rv2 n j.toNat = none) ∨ ∃ w c, rv2 n j.toNat = some w ∧ (ty L2 cl2 w 20 ∧ (iv2 w 0 = j ∧ ∃ lb, rv2 w 1 = some lb ∧ ln2 lb = 0) ∧ rv2 w 2 = some c) ∧ ty L2 cl2 c 66 ∧ ln2 c = (iv (sk 2) 2).toNat ∧ 0 < iv (sk 2) 2 ∧ ∀ ss, CT iv rv (sk 2) ss → ∀ k : Nat, k < ln2 c → iv2 c k = ss k
def ARW (a a2 : Nat → Nat → Int) (R : Nat) : Prop := a2 12 R = a 12 R ∧ a2 13 R = a 13 R ∧ (∀ k : Nat, k < 8 → a2 14 (8 * R + k) = a 14 (8 * R + k)) ∧ (∀ k : Nat, k < 4 → a2 15 (4 * R + k) = a 15 (4 * R + k))
def AIN (a a2 : Nat → Nat → Int) (I : Nat) : Prop := a2 16 I = a 16 I ∧ ∀ k : Nat, k < 4 → a2 17 (4 * I + k) = a 17 (4 * I + k)
section REPS
variable {g : Nat} {sk o o2 : Nat → Nat} {L L2 : List Nat} {cl ln cl2 ln2 : Nat → Nat} {iv iv2 : Nat → Nat → Int} {rv rv2 : Nat → Nat → Option Nat} {v v2 : Nat → Int} {a a2 : Nat → Nat → Int} {C Q S X : Nat → Prop} {N : Nat → Nat → Prop} {w R i t q s x n k ch : Nat}
theorem el26 (h : WT g sk L cl ln iv rv) (tq : ty L cl q 26) {r : Nat} (hi : (r : Int) < iv q 2) (he : el rv q r = some w) : ty L cl w 20 := by
  obtain ⟨b, q1, q2, q3, q4⟩ := h.ed2 tq rfl rfl (by omega)
  rw [el_of q1] at he
  obtain ⟨c, w1, w2⟩ := h.elem tq rfl q1 q2 rfl rfl hi
  rw [he] at w1; cases w1
  exact w2
theorem ty4 (hW : WT g sk L cl ln iv rv) (tt : ty L cl t 100) (h4 : rv t 4 = some q) : ty L cl q 26 := by
  obtain ⟨b, w1, w2⟩ := hW.ref tt 4 rfl rfl rfl
  rw [w1] at h4; cases h4
  exact w2
theorem ROWR.keep (h : ROWR ln iv rv a w R) (tw : ty L cl w 20) (hW : WT g sk L cl ln iv rv) (hX : XT L cl ln L2 cl2 ln2) (hk : KP L cl C Q S X N iv rv iv2 rv2) (hc : iv2 w 3 = a2 11 R) (ha : ARW a a2 R) : ROWR ln2 iv2 rv2 a2 w R := by
  obtain ⟨_, e2, l, c, e3, e4, e5, e6, e7, e8⟩ := h
  obtain ⟨l', w1, tl⟩ := hW.ref tw 1 rfl rfl rfl
  rw [e3] at w1; cases w1
  obtain ⟨c', w2, tc⟩ := hW.ref tw 2 rfl rfl rfl
  rw [e4] at w2; cases w2
  refine hv5 (hk.rw0 w tw) ((hX l tl.1).2.2) ((hX c tc.1).2.2) (show ln l ≤ 8 from (hW.len tl rfl).2) (show ln c ≤ 4 from (hW.len tc rfl).2) (fun q n1 n2 b1 b2 => ?_)
  refine ⟨hc, q.1.trans e2, l, c, q.2.1.trans e3, q.2.2.trans e4, by rw [n1, ha.1]; exact e5, by rw [n2, ha.2.1]; exact e6, fun k hk2 => ?_, fun k hk2 => ?_⟩
  · rw [n1] at hk2
    rw [hk.le l tl k, ha.2.2.1 k (by omega)]; exact e7 k hk2
  · rw [n2] at hk2
    rw [hk.ce c tc k, ha.2.2.2 k (by omega)]; exact e8 k hk2
theorem INDR.keep {r : Option Nat} {z m : Int} {y y2 : Nat → Int} (h : INDR ln iv rv r z m y) (hr : ∀ b, r = some b → ty L cl b 20) (hW : WT g sk L cl ln iv rv) (hX : XT L cl ln L2 cl2 ln2) (hk : KP L cl C Q S X N iv rv iv2 rv2) (hy : ∀ k : Nat, (k : Int) < m → k < 4 → y2 k = y k) : INDR ln2 iv2 rv2 r z m y2 := by
  rcases h with h | ⟨b, c, e1, e2, e3, e4, e5, e6⟩
  · exact Or.inl h
  · have tb := hr b e1
    obtain ⟨c', w2, tc⟩ := hW.ref tb 2 rfl rfl rfl
    rw [e3] at w2; cases w2
    refine hv3 (hk.rw0 b tb) ((hX c tc.1).2.2) (show ln c ≤ 4 from (hW.len tc rfl).2) (fun q n2 b2 => ?_)
    obtain ⟨e2, lb, e7, e8⟩ := e2
    obtain ⟨l', w3, tl⟩ := hW.ref tb 1 rfl rfl rfl
    rw [e7] at w3; cases w3
    refine Or.inr ⟨b, c, e1, ⟨q.1.trans e2, lb, q.2.1.trans e7, by rw [(hX lb tl.1).2.2]; exact e8⟩, q.2.2.trans e3, by rw [n2]; exact e4, e5, fun k hk2 => ?_⟩
    rw [n2] at hk2
    rw [hk.ce c tc k, hy k (by omega) (by omega)]; exact e6 k hk2
theorem BASR.keep {r : Option Nat} {z : Int} (h : BASR sk rv i r z) (he : ∀ j : Nat, j < i → el rv2 (sk 22) j = el rv (sk 22) j) : BASR sk rv2 i r z := by
  rcases h with h | ⟨h1, h2, h3⟩
  · exact Or.inl h
  · exact Or.inr ⟨h1, h2, h3.trans (he _ (by omega)).symm⟩
theorem rows_keep {z : Int} (hr : ∀ r : Nat, (r : Int) < z → ∃ w, el rv q r = some w ∧ o w = 200 * i + r ∧ ROWR ln iv rv a w (200 * i + r)) (tq : ty L cl q 26) (hn : z ≤ iv q 2) (hel : ∀ r : Nat, (r : Int) < z → el rv2 q r = el rv q r) (hW : WT g sk L cl ln iv rv) (hX : XT L cl ln L2 cl2 ln2) (hk : KP L cl C Q S X N iv rv iv2 rv2) (ho : ∀ b ∈ L, o2 b = o b) (hc : ∀ r w : Nat, (r : Int) < z → el rv q r = some w → ty L cl w 20 → o w = 200 * i + r → iv w 3 = a 11 (200 * i + r) → iv2 w 3 = a2 11 (200 * i + r)) (ha : ∀ r : Nat, (r : Int) < z → ARW a a2 (200 * i + r)) : ∀ r : Nat, (r : Int) < z → ∃ w, el rv2 q r = some w ∧ o2 w = 200 * i + r ∧ ROWR ln2 iv2 rv2 a2 w (200 * i + r) := by
  intro r hz
  obtain ⟨w, e1, e2, e3⟩ := hr r hz
  have tw := el26 hW tq (by omega) e1
  exact ⟨w, (hel r hz).trans e1, (ho w tw.1).trans e2, e3.keep tw hW hX hk (hc r w hz e1 tw e2 e3.1) (ha r hz)⟩
theorem CT.kp {ss ss2 : Nat → Int} (h : CT iv rv s ss) (ts : ty L cl s 12) (hW : WT g sk L cl ln iv rv) (hk : KP L cl C Q S X N iv rv iv2 rv2) (h1 : rv2 s 1 = rv s 1) (h2 : iv2 s 2 ≤ iv s 2) (hx : ∀ b, rv s 1 = some b → ¬ X b) (hs : ∀ j : Nat, (j : Int) < iv2 s 2 → ss2 j = ss j) : CT iv2 rv2 s ss2 := by
  intro b hb j hj
  rw [h1] at hb
  obtain ⟨b', w1, w2⟩ := hW.ref ts 1 rfl rfl rfl
  have e := w1
  rw [hb] at e; cases e
  rw [hk.ia b w2 (hx b hb) j, hs j hj]
  exact h b hb j (by omega)
theorem inds_keep {w : Nat} (hn : INDR ln iv rv (rv n w) (w : Int) (a 16 (4 * i + w)) (fun k => a 17 (4 * (4 * i + w) + k))) (tn : ty L cl n 68) (hW : WT g sk L cl ln iv rv) (hX : XT L cl ln L2 cl2 ln2) (hk : KP L cl C Q S X N iv rv iv2 rv2) (hN : ¬ N n w) (ha : AIN a a2 (4 * i + w)) : INDR ln2 iv2 rv2 (rv2 n w) (w : Int) (a2 16 (4 * i + w)) (fun k => a2 17 (4 * (4 * i + w) + k)) := by
  rw [hk.nd n tn w hN, ha.1]
  refine hn.keep (fun b hb => ?_) hW hX hk (fun k _ hk4 => ha.2 k hk4)
  rcases hW.opt tn w rfl rfl with e | ⟨c, e1, e2⟩
  · rw [e.1] at hb; cases hb
  · rw [e1] at hb; cases hb; exact e2
theorem TB2.types (h : TB2 o sk ln iv rv a i t) (tt : ty L cl t 100) (hW : WT g sk L cl ln iv rv) : ∃ q s x n, (rv t 4 = some q ∧ rv t 5 = some s ∧ rv s 1 = some x ∧ rv t 6 = some n) ∧ (ty L cl q 26 ∧ ty L cl s 12 ∧ ty L cl x 42 ∧ ty L cl n 68) := by
  obtain ⟨q, s, x, n, ⟨e1, e2, e3, e4⟩, _⟩ := h
  obtain ⟨q', w1, w2⟩ := hW.ref tt 4 rfl rfl rfl
  rw [e1] at w1; cases w1
  obtain ⟨s', w3, w4⟩ := hW.ref tt 5 rfl rfl rfl
  rw [e2] at w3; cases w3
  obtain ⟨x', w5, w6⟩ := hW.ref w4 1 rfl rfl rfl
  rw [e3] at w5; cases w5
  obtain ⟨n', w7, w8⟩ := hW.ref tt 6 rfl rfl rfl
  rw [e4] at w7; cases w7
  exact ⟨q, s, x, n, ⟨e1, e2, e3, e4⟩, w2, w4, w6, w8⟩
theorem TB2.keep (h : TB2 o sk ln iv rv a i t) (tt : ty L cl t 100) (hW : WT g sk L cl ln iv rv) (hX : XT L cl ln L2 cl2 ln2) (hk : KP L cl C Q S X N iv rv iv2 rv2) (he : ∀ j : Nat, j < i → el rv2 (sk 22) j = el rv (sk 22) j) (ho : ∀ b ∈ L, o2 b = o b) (hQ : ∀ b, Q b → o b ≠ i) (hS : ∀ b, S b → o b ≠ i) (hXx : ∀ b, X b → o b ≠ i) (a8 : a2 8 i = a 8 i) (a9 : a2 9 i = a 9 i) (a10 : a2 10 i = a 10 i) (h200 : a 10 i ≤ 200) (hc : ∀ q r w : Nat, rv t 4 = some q → (r : Int) < a 10 i → el rv q r = some w → ty L cl w 20 → o w = 200 * i + r → iv w 3 = a 11 (200 * i + r) → iv2 w 3 = a2 11 (200 * i + r)) (hA : ∀ r : Nat, r < 200 → ARW a a2 (200 * i + r)) (hI : ∀ n w : Nat, rv t 6 = some n → ty L cl n 68 → o n = i → w < 4 → INDR ln iv rv (rv n w) (w : Int) (a 16 (4 * i + w)) (fun k => a 17 (4 * (4 * i + w) + k)) → INDR ln2 iv2 rv2 (rv2 n w) (w : Int) (a2 16 (4 * i + w)) (fun k => a2 17 (4 * (4 * i + w) + k))) : TB2 o2 sk ln2 iv2 rv2 a2 i t := by
  have hty := h.types tt hW
  obtain ⟨q, s, x, n, ⟨e1, e2, e3, e4⟩, ⟨o1, o2', o3, o4, o5⟩, ⟨b1, b2⟩, ⟨z1, z2⟩, hr, hct, hi⟩ := h
  obtain ⟨q', s', x', n', ⟨f1, f2, f3, f4⟩, tq, ts, tx, tn⟩ := hty
  rw [e1] at f1; cases f1
  rw [e2] at f2; cases f2
  rw [e3] at f3; cases f3
  rw [e4] at f4; cases f4
  refine hv3 (hk.tb t tt) (hk.it s ts (fun e => hS s e o3)) (hk.li q tq (fun e => hQ q e o2')) (fun kt ks kq => ?_)
  refine ⟨q, s, x, n, ⟨kt.2.2.1.trans e1, kt.2.2.2.1.trans e2, ks.2.trans e3, kt.2.2.2.2.trans e4⟩, ⟨(ho t tt.1).trans o1, (ho q tq.1).trans o2', (ho s ts.1).trans o3, (ho x tx.1).trans o4, (ho n tn.1).trans o5⟩, ⟨by rw [kt.1, a8]; exact b1.keep he, by rw [kt.2.1, a9]; exact b2.keep he⟩, ⟨by rw [ks.1, a10]; exact z1, by rw [kq.1, a10]; exact z2⟩, ?_, ?_, fun w hw => hI n w e4 tn o5 hw (hi w hw)⟩
  · rw [a10]
    exact rows_keep hr tq (by omega) (fun r hz => kq.2 r (by omega)) hW hX hk ho (fun r w hz he2 tw ow e => hc q r w e1 hz he2 tw ow e) (fun r hz => hA r (by omega))
  · exact hct.kp ts hW hk ks.2 (by rw [ks.1]; omega) (fun b hb eb => by rw [e3] at hb; cases hb; exact hXx _ eb o4) (fun j hj => (hA j (by rw [ks.1] at hj; omega)).2.2.1 0 (by omega))
theorem CH2.keep {T : Int} (h : CH2 sk ln iv rv v a k ch) (tch : ty L cl ch 21) (hW : WT g sk L cl ln iv rv) (hX : XT L cl ln L2 cl2 ln2) (hk : KP L cl C Q S X N iv rv iv2 rv2) (h1 : rv2 ch 1 = rv ch 1) (hs : ∀ j : Nat, j < 4 → a2 18 (4 * k + j) = a 18 (4 * k + j)) (hT2 : T ≤ v2 4) (hle : T ≤ v 4) (b3 : a 18 (4 * k) = 3 → a 18 (4 * k + 1) < T ∧ a 18 (4 * k + 2) < a2 10 (a 18 (4 * k + 1)).toNat) (b4 : a 18 (4 * k) = 4 → a 18 (4 * k + 1) < 4 * T) (he : ∀ j : Nat, (j : Int) < T → el rv2 (sk 22) j = el rv (sk 22) j) (ht4 : ∀ j t : Nat, (j : Int) < T → el rv (sk 22) j = some t → rv2 t 4 = rv t 4) (hel : ∀ j t q : Nat, (j : Int) < T → el rv (sk 22) j = some t → rv t 4 = some q → ∀ y : Nat, (y : Int) < a 10 j → (y : Int) < a2 10 j → el rv2 q y = el rv q y) : CH2 sk ln2 iv2 rv2 v2 a2 k ch := by
  have s0 := hs 0 (by omega); have s1 := hs 1 (by omega); have s2 := hs 2 (by omega); have s3 := hs 3 (by omega)
  rw [Nat.add_zero] at s0
  have kc := hk.ch ch tch
  refine ⟨fun e => ?_, fun e => ?_⟩
  · rw [s0] at e
    obtain ⟨⟨c1, c2, c3⟩, ⟨t, q, d1, d2, d3⟩, d4⟩ := h.1 e
    obtain ⟨g1, g2⟩ := b3 e
    rw [s1, s2, s3]
    refine ⟨⟨⟨c1.1, by omega⟩, c2, g2⟩, ⟨t, q, (he _ (by omega)).trans d1, (ht4 _ t (by omega) d1).trans d2, ?_⟩, kc.1.trans d4⟩
    rw [kc.2, d3]
    exact (hel _ t q (by omega) d1 d2 _ (by omega) (by omega)).symm
  · rw [s0] at e
    obtain ⟨c1, d1, d2, d3⟩ := h.2 e
    have g1 := b4 e
    rw [s1, s2, s3, kc.2]
    refine ⟨⟨c1.1, by omega⟩, (h1.trans d1).trans (he _ (by omega)).symm, kc.1.trans d2, d3.keep (fun b hb => ?_) hW hX hk (fun _ _ _ => rfl)⟩
    rcases hW.opt tch 2 rfl rfl with e2 | ⟨c, e1, e2⟩
    · rw [e2.1] at hb; cases hb
    · rw [e1] at hb; cases hb; exact e2
theorem ARW.of (h12 : a2 12 = a 12) (h13 : a2 13 = a 13) (h14 : a2 14 = a 14) (h15 : a2 15 = a 15) : ARW a a2 R := ⟨by rw [h12], by rw [h13], fun k _ => by rw [h14], fun k _ => by rw [h15]⟩
theorem AIN.of (h16 : a2 16 = a 16) (h17 : a2 17 = a 17) : AIN a a2 R := ⟨by rw [h16], fun k _ => by rw [h17]⟩
theorem TABR.r200 (h : TABR sk iv rv v a) (hi : (i : Int) < v 4) : 0 ≤ a 10 i ∧ a 10 i ≤ 200 := by
  obtain ⟨_, _, _, _, _, _, _, _, _, _, b⟩ := h.2.1 i hi
  exact b
theorem TABR.sz (h : TABR sk iv rv v a) (hi : (i : Int) < v 4) (ht : el rv (sk 22) i = some t) (hq : rv t 4 = some q) : iv q 2 = a 10 i := by
  obtain ⟨t', q', b1, b2, _, _, _, b6, _⟩ := h.2.1 i hi
  rw [ht] at b1; cases b1
  rw [hq] at b2; cases b2
  exact b6
theorem TB2.keep0 (h : TB2 o sk ln iv rv a i t) (tt : ty L cl t 100) (hW : WT g sk L cl ln iv rv) (hX : XT L cl ln L2 cl2 ln2) (hk : KP L cl (fun _ => False) (fun _ => False) (fun _ => False) (fun _ => False) (fun _ _ => False) iv rv iv2 rv2) (he : ∀ j : Nat, j < i → el rv2 (sk 22) j = el rv (sk 22) j) (ho : ∀ b ∈ L, o2 b = o b) (h200 : a 10 i ≤ 200) (a8 : a2 8 i = a 8 i) (a9 : a2 9 i = a 9 i) (a10 : a2 10 i = a 10 i) (hA : ∀ r : Nat, r < 200 → a2 11 (200 * i + r) = a 11 (200 * i + r) ∧ ARW a a2 (200 * i + r)) (hI : ∀ w : Nat, w < 4 → AIN a a2 (4 * i + w)) : TB2 o2 sk ln2 iv2 rv2 a2 i t := h.keep tt hW hX hk he ho (fun _ e => e.elim) (fun _ e => e.elim) (fun _ e => e.elim) a8 a9 a10 h200 (fun q r w _ hr _ tw _ e => by rw [hk.rwc w tw (fun e => e), (hA r (by omega)).1]; exact e) (fun r hr => (hA r hr).2) (fun n w _ tn _ hw hi => inds_keep hi tn hW hX hk (fun e => e) (hI w hw))
theorem CH2.keepU (h : CH2 sk ln iv rv v a k ch) (tch : ty L cl ch 21) (hW : WT g sk L cl ln iv rv) (hX : XT L cl ln L2 cl2 ln2) (hk : KP L cl C Q S X N iv rv iv2 rv2) (h1 : rv2 ch 1 = rv ch 1) (hs : ∀ j : Nat, j < 4 → a2 18 (4 * k + j) = a 18 (4 * k + j)) (hv : v 4 ≤ v2 4) (ha : ∀ j : Nat, (j : Int) < v 4 → a 10 j ≤ a2 10 j) (he : ∀ j : Nat, (j : Int) < v 4 → el rv2 (sk 22) j = el rv (sk 22) j) (ht4 : ∀ j t : Nat, (j : Int) < v 4 → el rv (sk 22) j = some t → rv2 t 4 = rv t 4) (hel : ∀ j t q : Nat, (j : Int) < v 4 → el rv (sk 22) j = some t → rv t 4 = some q → ∀ y : Nat, (y : Int) < a 10 j → (y : Int) < a2 10 j → el rv2 q y = el rv q y) : CH2 sk ln2 iv2 rv2 v2 a2 k ch :=
  h.keep (T := v 4) tch hW hX hk h1 hs hv (Int.le_refl _) (fun e => by
    obtain ⟨⟨c1, c2, c3⟩, _⟩ := h.1 e
    have q := ha (a 18 (4 * k + 1)).toNat (by omega)
    exact ⟨c1.2, by omega⟩) (fun e => (h.2 e).1.2) he ht4 hel
theorem rp_same (h : RP2 o sk ln iv rv v a) (hT : TABR sk iv rv v a) (hW : WT g sk L cl ln iv rv) (hS : SKL sk L cl) (hX : XT L cl ln L2 cl2 ln2) (hk : KP L cl (fun _ => False) (fun _ => False) (fun _ => False) (fun _ => False) (fun _ _ => False) iv rv iv2 rv2) (hp : PSAME sk iv rv iv2 rv2) (hq : TSAME v a v2 a2) : RP2 o sk ln2 iv2 rv2 v2 a2 := by
  obtain ⟨p1, p2, ⟨p3, p4, p5⟩, p6⟩ := hp
  obtain ⟨q4, q5, q6, q7, q10, q19, q18, q11, q8, q9, q12, q13, q14, q15, q16, q17⟩ := hq
  have n22 := hT.1
  refine ⟨fun i hi => ?_, fun k hk2 => ?_⟩
  · obtain ⟨t, e1, e2⟩ := h.1 i (by omega)
    exact ⟨t, (p3 i (by omega)).trans e1, e2.keep0 (el22 hW hS (by omega) e1) hW hX hk (fun j hj => p3 j (by omega)) (fun _ _ => rfl) (hT.r200 (by omega)).2 (by rw [q8]) (by rw [q9]) (by rw [q10]) (fun r _ => ⟨by rw [q11], ARW.of q12 q13 q14 q15⟩) (fun w _ => AIN.of q16 q17)⟩
  · obtain ⟨ch, c1, c2⟩ := h.2 k (by omega)
    have c := p6 k (by omega)
    exact ⟨ch, c.1.trans c1, c2.keepU (el23 hW hS (by omega) c1) hW hX hk (c.2 ch c1).2 (fun j _ => by rw [q18]) (by omega) (fun j _ => by rw [q10]; exact Int.le_refl _) (fun j hj => p3 j (by omega)) (fun j t hj ht => (hk.tb t (el22 hW hS (by omega) ht)).2.2.1) (fun j t q hj ht hq y hy _ => (hk.li q (ty4 hW (el22 hW hS (by omega) ht) hq) (fun e => e)).2 y (by rw [hT.sz hj ht hq]; exact hy))⟩
theorem stk_old {w t c d : Int} (hq : PSH v a v2 a2 w t c d) (h19 : 4 * iv (sk 23) 2 = v 19) (hk : (k : Int) < iv (sk 23) 2) : ∀ j : Nat, j < 4 → a2 18 (4 * k + j) = a 18 (4 * k + j) := fun j hj => hq.2.1 _ (by omega)
theorem stk_new {w t c d : Int} (hq : PSH v a v2 a2 w t c d) (h19 : 4 * iv (sk 23) 2 = v 19) (h0 : 0 ≤ v 19) (hk : ¬ (k : Int) < iv (sk 23) 2) (hk2 : (k : Int) < iv (sk 23) 2 + 1) : a2 18 (4 * k) = w ∧ a2 18 (4 * k + 1) = t ∧ a2 18 (4 * k + 2) = c ∧ a2 18 (4 * k + 3) = d := by
  obtain ⟨_, _, s3, s4, s5, s6⟩ := hq
  refine ⟨?_, ?_, ?_, ?_⟩
  · rw [show 4 * k = (v 19).toNat by omega]; exact s3
  · rw [show 4 * k + 1 = (v 19 + 1).toNat by omega]; exact s4
  · rw [show 4 * k + 2 = (v 19 + 2).toNat by omega]; exact s5
  · rw [show 4 * k + 3 = (v 19 + 3).toNat by omega]; exact s6
theorem rp_new {kd d bb ss : Int} {b s : Option Nat} (h : RP2 o sk ln iv rv v a) (hT : TABR sk iv rv v a) (hW : WT g sk L cl ln iv rv) (hS : SKL sk L cl) (hX : XT L cl ln L2 cl2 ln2) (hk : KP L cl (fun _ => False) (fun _ => False) (fun _ => False) (fun _ => False) (fun _ _ => False) iv rv iv2 rv2) (hp : PNEW kd d sk iv rv iv2 rv2) (hn : KNW L sk b s iv iv2 rv2) (hq : TNEW kd d bb ss v a v2 a2) (hb : BASR sk rv (v 4).toNat b bb) (hs : BASR sk rv (v 4).toNat s ss) : ∃ o2, RP2 o2 sk ln2 iv2 rv2 v2 a2 := by
  obtain ⟨q, r, p1, p2, p3, p4, p5, p6, p7, p8, ⟨p9, p10, p11⟩, p12⟩ := hp
  obtain ⟨q', r', s5, x, n, m1, ⟨m2, m3, m4, m5, m6⟩, ⟨m7, m8, m9, m10, m11, m12⟩, m13, m14⟩ := hn
  rw [p1] at m1; cases m1
  rw [p5] at m9; cases m9
  obtain ⟨q1, q2, q3, q4, q5, q6, q7, q8, q9, q12, q13, q14, q15, q17, q16⟩ := hq
  refine hv4 (hT.1) (hT.2.2.2.1) (hT.2.2.2.2.2.1) (hT.2.2.2.2.2.2) (fun n22 n23 v0 v19 => ?_)
  refine ⟨fun z => if z ∈ L then o z else (v 4).toNat, fun i hi => ?_, fun k hk2 => ?_⟩
  · by_cases e : (i : Int) < v 4
    · obtain ⟨t, e1, e2⟩ := h.1 i e
      have ne : i ≠ (v 4).toNat := by omega
      exact ⟨t, (p9 i (by omega)).trans e1, e2.keep0 (el22 hW hS (by omega) e1) hW hX hk (fun j hj => p9 j (by omega)) (fun z hz => if_pos hz) (hT.r200 e).2 (by rw [q8, va_up_ne _ _ ne]) (by rw [q9, va_up_ne _ _ ne]) (by rw [q5, va_up_ne _ _ ne]) (fun r _ => ⟨by rw [q7], ARW.of q12 q13 q14 q15⟩) (fun w hw => ⟨q16.2 _ (Or.inl (by omega)), fun k _ => by rw [q17]⟩)⟩
    · have ei : i = (v 4).toNat := by omega
      subst ei
      have e10 : a2 10 (v 4).toNat = 0 := by rw [q5, va_up_self]
      refine ⟨_, by rw [← n22]; exact p1, _, s5, x, n, ⟨p5, m10, m12, m11⟩, ⟨if_neg m2, if_neg m3, if_neg m4, if_neg m5, if_neg m6⟩, ⟨?_, ?_⟩, ⟨by rw [e10]; exact m13, by rw [e10]; exact p6⟩, fun r hr => absurd hr (by rw [e10]; omega), CT.zero m13, fun w hw => Or.inl ⟨m14 w, ?_⟩⟩
      · rw [m7, q8, va_up_self]; exact hb.keep (fun j hj => p9 j (by omega))
      · rw [m8, q9, va_up_self]; exact hs.keep (fun j hj => p9 j (by omega))
      · rw [show 4 * (v 4).toNat + w = (4 * v 4).toNat + w by omega]; exact q16.1 w hw
  · obtain ⟨r1, r2, ch', r3, r4, r5⟩ := p12
    by_cases e : (k : Int) < iv (sk 23) 2
    · obtain ⟨ch, c1, c2⟩ := h.2 k e
      exact ⟨ch, (r2 k e).1.trans c1, c2.keepU (el23 hW hS (by omega) c1) hW hX hk ((r2 k e).2 ch c1).2 (fun j hj => stk_old q6 n23 e j hj) (by omega) (fun j hj => by rw [q5, va_up_ne _ _ (by omega)]; exact Int.le_refl _) (fun j hj => p9 j (by omega)) (fun j t hj ht => (hk.tb t (el22 hW hS (by omega) ht)).2.2.1) (fun j t q hj ht hq y hy _ => (hk.li q (ty4 hW (el22 hW hS (by omega) ht) hq) (fun e => e)).2 y (by rw [hT.sz hj ht hq]; exact hy))⟩
    · obtain ⟨z0, _, _, _⟩ := stk_new q6 n23 v19 e (by omega)
      exact ⟨ch', by rw [show k = (iv (sk 23) 2).toNat by omega]; exact r3, fun e3 => absurd (z0.symm.trans e3) (by decide), fun e3 => absurd (z0.symm.trans e3) (by decide)⟩
theorem rp_drop {i0 : Int} {P : Nat → Prop} {y : Option Nat} (h : RP2 o sk ln iv rv v a) (hT : TABR sk iv rv v a) (hW : WT g sk L cl ln iv rv) (hS : SKL sk L cl) (hX : XT L cl ln L2 cl2 ln2) (hk : KP L cl (fun _ => False) (fun _ => False) (fun _ => False) (fun _ => False) (fun _ _ => False) iv rv iv2 rv2) (hp : PTAB P (fun _ => True) sk iv rv iv2 rv2) (hps : PPSH 1 y sk iv rv iv2 rv2) (hq : TDRP i0 v a v2 a2) : RP2 o sk ln2 iv2 rv2 v2 a2 := by
  obtain ⟨p9, p10, p11⟩ := hp
  obtain ⟨q4, q5, q6, q7, q10, qs, q11, q8, q9, q12, q13, q14, q15, q16, q17⟩ := hq
  refine hv3 (hT.1) (hT.2.2.2.1) (hT.2.2.2.2.2.2) (fun n22 n23 v19 => ?_)
  refine ⟨fun i hi => ?_, fun k hk2 => ?_⟩
  · obtain ⟨t, e1, e2⟩ := h.1 i (by omega)
    exact ⟨t, (p9 i (by omega)).trans e1, e2.keep0 (el22 hW hS (by omega) e1) hW hX hk (fun j hj => p9 j (by omega)) (fun _ _ => rfl) (hT.r200 (by omega)).2 (by rw [q8]) (by rw [q9]) (by rw [q10]) (fun r _ => ⟨by rw [q11], ARW.of q12 q13 q14 q15⟩) (fun w _ => AIN.of q16 q17)⟩
  · obtain ⟨r1, r2, ch', r3, r4, r5⟩ := hps
    by_cases e : (k : Int) < iv (sk 23) 2
    · obtain ⟨ch, c1, c2⟩ := h.2 k e
      exact ⟨ch, (r2 k e).1.trans c1, c2.keepU (el23 hW hS (by omega) c1) hW hX hk ((r2 k e).2 ch c1).2 (fun j hj => stk_old qs n23 e j hj) (by omega) (fun j hj => by rw [q10]; exact Int.le_refl _) (fun j hj => p9 j (by omega)) (fun j t hj ht => (hk.tb t (el22 hW hS (by omega) ht)).2.2.1) (fun j t q hj ht hq y hy _ => (hk.li q (ty4 hW (el22 hW hS (by omega) ht) hq) (fun e => e)).2 y (by rw [hT.sz hj ht hq]; exact hy))⟩
    · obtain ⟨z0, _, _, _⟩ := stk_new qs n23 v19 e (by omega)
      exact ⟨ch', by rw [show k = (iv (sk 23) 2).toNat by omega]; exact r3, fun e3 => absurd (z0.symm.trans e3) (by decide), fun e3 => absurd (z0.symm.trans e3) (by decide)⟩
theorem lo8 {z : Int} {i : Nat} (h1 : 0 ≤ z) (h2 : z ≤ 255) (h8 : 8 ≤ i) : (iI z).toBitVec.getLsbD i = false := by
  obtain ⟨n, hn⟩ := Int.eq_ofNat_of_zero_le h1
  subst hn
  show (BitVec.ofInt 32 ((n : Nat) : Int)).getLsbD i = false
  rw [BitVec.ofInt_natCast, BitVec.getLsbD_ofNat]
  have lt : n < 2 ^ i := Nat.lt_of_lt_of_le (show n < 2 ^ 8 by omega) (Nat.pow_le_pow_right (by decide) h8)
  rw [Nat.testBit_lt_two_pow lt, Bool.and_false]
theorem pkb_bit (ss : Nat → Int) (b : Nat) : ∀ m : Nat, m ≤ 4 → (∀ k : Nat, k < m → 0 ≤ ss (b + k) ∧ ss (b + k) ≤ 255) → ∀ k : Nat, k < m → ∀ i : Nat, i < 8 → (iI (PKB ss b m)).toBitVec.getLsbD (8 * (m - 1 - k) + i) = (iI (ss (b + k))).toBitVec.getLsbD i := by
  intro m
  induction m with
  | zero => intro _ _ k hk; exact absurd hk (by omega)
  | succ n ih =>
    intro hm hs k hk i h8
    have e : (iI (PKB ss b (n + 1))).toBitVec = ((iI (PKB ss b n)).toBitVec <<< 8) ||| (iI (ss (b + n))).toBitVec := by
      show (iI ((iI (PKB ss b n) <<< (iI 8 &&& 31)) ||| iI (ss (b + n))).toInt).toBitVec = _
      rw [show iI ((iI (PKB ss b n) <<< (iI 8 &&& 31)) ||| iI (ss (b + n))).toInt = (iI (PKB ss b n) <<< (iI 8 &&& 31)) ||| iI (ss (b + n)) from Int32.ofInt_toInt _]
      rw [Int32.toBitVec_or]
      rfl
    rw [e, BitVec.getLsbD_or, BitVec.getLsbD_shiftLeft]
    by_cases ek : k = n
    · subst ek
      rw [show 8 * (k + 1 - 1 - k) + i = i by omega]
      simp [h8]
    · rw [lo8 (hs n (by omega)).1 (hs n (by omega)).2 (by omega), Bool.or_false]
      have := ih (by omega) (fun k hk => hs k (by omega)) k (by omega) i h8
      rw [show 8 * (n + 1 - 1 - k) + i - 8 = 8 * (n - 1 - k) + i by omega, this]
      have h1 : ¬ (8 * (n + 1 - 1 - k) + i < 8) := by omega
      have h2 : 8 * (n + 1 - 1 - k) + i < 32 := by omega
      simp [h1, h2]
      intro _
      omega
theorem upk_pkb (ss : Nat → Int) (b m k : Nat) (hm : m ≤ 4) (hs : ∀ k : Nat, k < m → 0 ≤ ss (b + k) ∧ ss (b + k) ≤ 255) (hk : k < m) : UPK (PKB ss b m) (m : Int) (k : Int) = ss (b + k) := by
  refine hv2 (pkb_bit ss b m hm hs k hk) (hs k hk) (fun pb hk4 => ?_)
  have e : ((iI (PKB ss b m) >>> (iI (8 * (((m : Int) - 1) - (k : Int))) &&& 31)) &&& iI 255) = iI (ss (b + k)) := by
    have es : (8 * (((m : Int) - 1) - (k : Int))) = ((8 * (m - 1 - k) : Nat) : Int) := by omega
    rw [es]
    have h24 : 8 * (m - 1 - k) ≤ 24 := by omega
    apply Int32.toBitVec_inj.mp
    have b2 : (iI (PKB ss b m) >>> (iI ((8 * (m - 1 - k) : Nat) : Int) &&& 31)).toBitVec = (iI (PKB ss b m)).toBitVec.sshiftRight (8 * (m - 1 - k)) := by
      have q : 8 * (m - 1 - k) = 0 ∨ 8 * (m - 1 - k) = 8 ∨ 8 * (m - 1 - k) = 16 ∨ 8 * (m - 1 - k) = 24 := by omega
      rcases q with q | q | q | q <;> rw [q] <;> rfl
    rw [Int32.toBitVec_and, b2]
    apply BitVec.eq_of_getLsbD_eq
    intro i hi
    rw [BitVec.getLsbD_and]
    by_cases h8 : i < 8
    · rw [BitVec.getLsbD_sshiftRight, ← pb i h8]
      have h1 : ¬ (32 ≤ i) := by omega
      have h2 : 8 * (m - 1 - k) + i < 32 := by omega
      have h3 : (iI 255).toBitVec.getLsbD i = true := by
        have : ∀ i : Nat, i < 8 → (iI 255).toBitVec.getLsbD i = true := by decide
        exact this i h8
      have h4 : (255#32 : BitVec 32).getLsbD i = true := by
        have : ∀ i : Nat, i < 8 → (255#32 : BitVec 32).getLsbD i = true := by decide
        exact this i h8
      simp [h1, h2, h3]
      intro _
      exact h4
    · rw [lo8 (z := 255) (by decide) (by decide) (by omega), Bool.and_false, lo8 hk4.1 hk4.2 (by omega)]
  unfold UPK
  rw [e, iI_int ⟨by omega, by omega⟩]
theorem rp_cond {i0 j x f : Int} (h : RP2 o sk ln iv rv v a) (hT : TABR sk iv rv v a) (hW : WT g sk L cl ln iv rv) (hS : SKL sk L cl) (hX : XT L cl ln L2 cl2 ln2) (ha : ALV sk iv rv i0 t) (h4 : rv t 4 = some q) (hw : el rv q j.toNat = some w) (hj : 0 ≤ j ∧ j < a 10 i0.toNat) (hf : f = iv w 3) (hk : KP L cl (fun b => b = w) (fun _ => False) (fun _ => False) (fun _ => False) (fun _ _ => False) iv rv iv2 rv2) (hx : iv2 w 3 = x) (hp : PTAB (fun _ => True) (fun _ => True) sk iv rv iv2 rv2) (hps : CS0 (iv (sk 23) 2) sk iv rv iv2 rv2) (h2 : PPS2 sk (some t) (some w) f iv iv2 rv2) (hq : TCND i0 j x v a v2 a2) : RP2 o sk ln2 iv2 rv2 v2 a2 := by
  obtain ⟨p9, p10, p11⟩ := hp
  obtain ⟨⟨q4, q5, q6, q7, q10, qs⟩, q11, q8, q9, q12, q13, q14, q15, q16, q17⟩ := hq
  refine hv6 ((hT.al ha).1) (hT.1) (hT.2.2.2.1) (hT.2.2.2.2.2.2) (ha.tt hW hS) ((ha.t4 hW hS h4).1) (fun hi0 n22 n23 v19 tt tq => ?_)
  obtain ⟨t', e1', e2'⟩ := h.1 i0.toNat (by omega)
  rw [ha.2.2.1] at e1'; cases e1'
  have ow : o w = 200 * i0.toNat + j.toNat ∧ iv w 3 = a 11 (200 * i0.toNat + j.toNat) := by
    obtain ⟨qq, _, _, _, ⟨f1, _⟩, _, _, _, rr, _⟩ := e2'
    rw [h4] at f1; cases f1
    obtain ⟨w', g1, g2, g3⟩ := rr j.toNat (by omega)
    rw [hw] at g1; cases g1
    exact ⟨g2, g3.1⟩
  have b0 := hT.r200 (i := i0.toNat) (by omega)
  have ix : (200 * i0 + j).toNat = 200 * i0.toNat + j.toNat := by omega
  refine ⟨fun i hi => ?_, fun k hk2 => ?_⟩
  · obtain ⟨u, e1, e2⟩ := h.1 i (by omega)
    have r2 := hT.r200 (i := i) (by omega)
    refine ⟨u, (p9 i (by omega)).trans e1, e2.keep (el22 hW hS (by omega) e1) hW hX hk (fun j hj => p9 j (by omega)) (fun _ _ => rfl) (fun _ e => e.elim) (fun _ e => e.elim) (fun _ e => e.elim) (by rw [q8]) (by rw [q9]) (by rw [q10]) r2.2 (fun qb r wb hqb hr hel tw o1 e3 => ?_) (fun r _ => ARW.of q12 q13 q14 q15) (fun n w _ tn _ hw hi => inds_keep hi tn hW hX hk (fun e => e) (AIN.of q16 q17))⟩
    rw [q11, ix]
    by_cases e : 200 * i + r = 200 * i0.toNat + j.toNat
    · have ei : i = i0.toNat := by omega
      have er : r = j.toNat := by omega
      rw [ei, ha.2.2.1] at e1; cases e1
      rw [h4] at hqb; cases hqb
      rw [er, hw] at hel; cases hel
      rw [e, va_up_self]; exact hx
    · rw [va_up_ne _ _ e, hk.rwc wb tw (fun ec => e (by rw [← o1, ec]; exact ow.1))]
      exact e3
  · obtain ⟨s1, ch', s2, s3, s4, s5⟩ := h2
    by_cases e : (k : Int) < iv (sk 23) 2
    · obtain ⟨ch, c1, c2⟩ := h.2 k e
      exact ⟨ch, (hps k e).1.trans c1, c2.keepU (el23 hW hS (by omega) c1) hW hX hk ((hps k e).2 ch c1).2 (fun j hj => stk_old qs n23 e j hj) (by omega) (fun j hj => by rw [q10]; exact Int.le_refl _) (fun j hj => p9 j (by omega)) (fun j t hj ht => (hk.tb t (el22 hW hS (by omega) ht)).2.2.1) (fun j t q hj ht hq y hy _ => (hk.li q (ty4 hW (el22 hW hS (by omega) ht) hq) (fun e => e)).2 y (by rw [hT.sz hj ht hq]; exact hy))⟩
    · obtain ⟨z0, z1, z2, z3⟩ := stk_new qs n23 v19 e (by omega)
      refine ⟨ch', by rw [show k = (iv (sk 23) 2).toNat by omega]; exact s2, fun _ => ?_, fun e4 => absurd (z0.symm.trans e4) (by decide)⟩
      rw [z1, z2, z3, q10, q4]
      refine ⟨⟨⟨by omega, by omega⟩, hj⟩, ⟨t, q, (p9 _ (by omega)).trans ha.2.2.1, (hk.tb t tt).2.2.1.trans h4, s4.trans ?_⟩, ?_⟩
      · rw [(hk.li q tq (fun e => e)).2 j.toNat (by rw [hT.sz (i := i0.toNat) (by omega) ha.2.2.1 h4]; omega)]; exact hw.symm
      · rw [s5, hf, ow.2, ix]
theorem rp_ind {i0 j : Int} (h : RP2 o sk ln iv rv v a) (hT : TABR sk iv rv v a) (hW : WT g sk L cl ln iv rv) (hS : SKL sk L cl) (hX : XT L cl ln L2 cl2 ln2) (hs2 : iv (sk 2) 2 = v 3) (hct : CT iv rv (sk 2) (a 2)) (hacl : ∀ k : Nat, (k : Int) < v 3 → 1 ≤ a 2 k ∧ a 2 k ≤ 255) (h34 : 0 ≤ v 3 ∧ v 3 ≤ 4) (ha : ALV sk iv rv i0 t) (h6 : rv t 6 = some n) (hj : 0 ≤ j ∧ j ≤ 3) (hk : KP L cl (fun _ => False) (fun _ => False) (fun _ => False) (fun _ => False) (fun b k => b = n ∧ k = j.toNat) iv rv iv2 rv2) (hd : IDD sk L2 cl2 ln2 iv rv iv2 rv2 n j) (hp : PTAB (fun _ => True) (fun _ => True) sk iv rv iv2 rv2) (hps : CS0 (iv (sk 23) 2) sk iv rv iv2 rv2) (h2 : PPS2 sk (some t) (rv n j.toNat) j iv iv2 rv2) (hq : TIND i0 j v a v2 a2) : RP2 o sk ln2 iv2 rv2 v2 a2 := by
  obtain ⟨p9, p10, p11⟩ := hp
  obtain ⟨⟨q4, q5, q6, q7, q10, qs⟩, q11, q8, q9, q12, q13, q14, q15, q16, q17⟩ := hq
  refine hv6 ((hT.al ha).1) (hT.1) (hT.2.2.2.1) (hT.2.2.2.2.2.2) (ha.tt hW hS) (ha.t6 hW hS h6) (fun hi0 n22 n23 v19 tt tn => ?_)
  obtain ⟨t', e1', e2'⟩ := h.1 i0.toNat (by omega)
  rw [ha.2.2.1] at e1'; cases e1'
  have on : o n = i0.toNat ∧ INDR ln iv rv (rv n j.toNat) (j.toNat : Int) (a 16 (4 * i0.toNat + j.toNat)) (fun k => a 17 (4 * (4 * i0.toNat + j.toNat) + k)) := by
    obtain ⟨_, _, _, nn, ⟨_, _, _, f1⟩, ⟨_, _, _, _, g⟩, _, _, _, _, hi⟩ := e2'
    rw [h6] at f1; cases f1
    exact ⟨g, hi j.toNat (by omega)⟩
  have ix : (4 * i0 + j).toNat = 4 * i0.toNat + j.toNat := by omega
  have ix4 : (4 * (4 * i0 + j)).toNat = 4 * (4 * i0.toNat + j.toNat) := by omega
  rw [ix] at q16
  rw [ix4] at q17
  have ain : ∀ i w : Nat, w < 4 → (i ≠ i0.toNat ∨ w ≠ j.toNat) → AIN a a2 (4 * i + w) := fun i w hw he => ⟨by rw [q16, va_up_ne _ _ (by omega)], fun k hk4 => q17.2 _ (by omega)⟩
  refine ⟨fun i hi => ?_, fun k hk2 => ?_⟩
  · obtain ⟨u, e1, e2⟩ := h.1 i (by omega)
    have r2 := hT.r200 (i := i) (by omega)
    refine ⟨u, (p9 i (by omega)).trans e1, e2.keep (el22 hW hS (by omega) e1) hW hX hk (fun j hj => p9 j (by omega)) (fun _ _ => rfl) (fun _ e => e.elim) (fun _ e => e.elim) (fun _ e => e.elim) (by rw [q8]) (by rw [q9]) (by rw [q10]) r2.2 (fun qb r wb hqb hr hel tw o1 e3 => by rw [hk.rwc wb tw (fun e => e), q11]; exact e3) (fun r _ => ARW.of q12 q13 q14 q15) (fun nb w hnb tnb onb hw hi => ?_)⟩
    by_cases e : i = i0.toNat ∧ w = j.toNat
    · obtain ⟨ei, ew⟩ := e
      rw [ei, ha.2.2.1] at e1; cases e1
      rw [h6] at hnb; cases hnb
      rw [ei, ew, q16, va_up_self]
      rcases hd with ⟨d1, d2⟩ | ⟨w', c, d1, ⟨d2, d3, d4⟩, d5, d6, d7, d8⟩
      · exact Or.inl ⟨d2, by omega⟩
      · refine Or.inr ⟨w', c, d1, ⟨by rw [d3.1]; omega, d3.2⟩, d4, by rw [d6]; omega, by omega, fun k hk3 => ?_⟩
        have g := q17.1 k (by omega)
        show _ = a2 17 (4 * (4 * i0.toNat + j.toNat) + k) ∧ _ ∧ _
        rw [d8 _ hct k hk3, g]
        exact ⟨rfl, (hacl k (by omega)).1, (hacl k (by omega)).2⟩
    · exact inds_keep hi tnb hW hX hk (fun eN => e ⟨by rw [← onb, eN.1]; exact on.1, eN.2⟩) (ain i w hw (by omega))
  · obtain ⟨s1, ch', s2, s3, s4, s5⟩ := h2
    by_cases e : (k : Int) < iv (sk 23) 2
    · obtain ⟨ch, c1, c2⟩ := h.2 k e
      exact ⟨ch, (hps k e).1.trans c1, c2.keepU (el23 hW hS (by omega) c1) hW hX hk ((hps k e).2 ch c1).2 (fun j hj => stk_old qs n23 e j hj) (by omega) (fun j hj => by rw [q10]; exact Int.le_refl _) (fun j hj => p9 j (by omega)) (fun j t hj ht => (hk.tb t (el22 hW hS (by omega) ht)).2.2.1) (fun j t q hj ht hq y hy _ => (hk.li q (ty4 hW (el22 hW hS (by omega) ht) hq) (fun e => e)).2 y (by rw [hT.sz hj ht hq]; exact hy))⟩
    · obtain ⟨z0, z1, z2, z3⟩ := stk_new qs n23 v19 e (by omega)
      refine ⟨ch', by rw [show k = (iv (sk 23) 2).toNat by omega]; exact s2, fun e4 => absurd (z0.symm.trans e4) (by decide), fun _ => ?_⟩
      rw [z1, z2, z3, q4]
      have m4 : (4 * i0 + j) / 4 = i0 := by omega
      have m5 : (4 * i0 + j) % 4 = j := by omega
      rw [m4, m5, s4]
      refine ⟨⟨by omega, by omega⟩, s3.trans ((p9 _ (by omega)).trans ha.2.2.1).symm, s5, ?_⟩
      have old := on.2
      rw [Int.toNat_of_nonneg hj.1] at old
      rw [ix, ix4]
      refine old.keep (fun b hb => ?_) hW hX hk (fun k hk3 hk4 => ?_)
      · rcases hW.opt tn j.toNat rfl rfl with e3 | ⟨c, e3, e5⟩
        · rw [e3.1] at hb; cases hb
        · rw [e3] at hb; cases hb; exact e5
      · rcases old with ⟨_, o1⟩ | ⟨b, c, o1, o2, o3, o4, o5, o6⟩
        · omega
        · have tb : ty L cl b 20 := by
            rcases hW.opt tn j.toNat rfl rfl with e3 | ⟨c, e3, e5⟩
            · rw [e3.1] at o1; cases o1
            · rw [e3] at o1; cases o1; exact e5
          obtain ⟨c', w2, tc⟩ := hW.ref tb 2 rfl rfl rfl
          rw [o3] at w2; cases w2
          have b2 : ln c ≤ 4 := (hW.len tc rfl).2
          have g := upk_pkb (a 17) (4 * (4 * i0.toNat + j.toNat)) (a 16 (4 * i0.toNat + j.toNat)).toNat k (by omega) (fun y hy => by
            have g1 := o6 y (by omega)
            refine hv2 (show iv c y = a 17 (4 * (4 * i0.toNat + j.toNat) + y) from g1.1) (g1.2) (fun g2 g3 => ?_)
            rw [← g2]; omega) (by omega)
          rw [Int.toNat_of_nonneg (by omega)] at g
          exact g
theorem CT.cgs {ss ss2 : Nat → Int} (h : CT iv rv q ss) (hs : ∀ j : Nat, (j : Int) < iv q 2 → ss2 j = ss j) : CT iv rv q ss2 := fun b hb j hj => (h b hb j hj).trans (hs j hj).symm
theorem rp_rule {i0 cnd m : Int} {l c : Nat} (h : RP2 o sk ln iv rv v a) (hT : TABR sk iv rv v a) (hW : WT g sk L cl ln iv rv) (hS : SKL sk L cl) (hX : XT L cl ln L2 cl2 ln2) (hW2 : WT g sk L2 cl2 ln2 iv2 rv2) (hs2 : iv (sk 2) 2 = v 3) (hct : CT iv rv (sk 2) (a 2)) (hm : 1 ≤ m ∧ m ≤ 8) (h3m : 1 ≤ v 3 - m ∧ v 3 - m ≤ 4) (hlt : ∀ k : Nat, (k : Int) < m → 33 ≤ a 2 k ∧ a 2 k ≤ 125) (hce : ∀ k : Nat, m ≤ (k : Int) → (k : Int) < v 3 → 1 ≤ a 2 k ∧ a 2 k ≤ 255) (h200 : a 10 i0.toNat < 200) (ha : ALV sk iv rv i0 t) (h4 : rv t 4 = some q) (h5 : rv t 5 = some s) (hx : rv s 1 = some x) (hk : KP L cl (fun _ => False) (fun b => b = q) (fun b => b = s) (fun b => b = x) (fun _ _ => False) iv rv iv2 rv2) (d1 : el rv2 q (iv q 2).toNat = some w) (d2 : iv2 q 2 = iv q 2 + 1) (d3 : ∀ r : Nat, (r : Int) < iv q 2 → el rv2 q r = el rv q r) (e1 : w ∉ L) (e2 : ty L2 cl2 w 20) (e3 : iv2 w 0 = 4) (e4 : iv2 w 3 = cnd) (e5 : rv2 w 1 = some l) (e6 : rv2 w 2 = some c) (f2 : ln2 l = m.toNat) (f3 : ∀ ss, CT iv rv (sk 2) ss → ∀ k : Nat, k < ln2 l → iv2 l k = ss k) (g2 : ln2 c = (iv (sk 2) 2 - m).toNat) (g3 : ∀ ss, CT iv rv (sk 2) ss → ∀ k : Nat, k < ln2 c → iv2 c k = ss (m.toNat + k)) (i1 : iv s 2 < 200 → iv2 s 2 = iv s 2 + 1) (i2 : ∀ x2, rv2 s 1 = some x2 → x2 = x ∨ x2 ∉ L) (i3 : ∀ ss, CT iv rv s ss → iv s 2 < 200 → ∀ tt, CT iv rv (sk 2) tt → CT iv2 rv2 s (va_up ss (iv s 2).toNat (tt 0))) (hp : PTAB (fun _ => True) (fun b => b ≠ q) sk iv rv iv2 rv2) {y : Option Nat} (hps : PPSH 2 y sk iv rv iv2 rv2) (hq : TRUL i0 cnd m v a v2 a2) : ∃ o2, RP2 o2 sk ln2 iv2 rv2 v2 a2 := by
  obtain ⟨p9, p10, p11⟩ := hp
  obtain ⟨q4, q5, q6, q7, q10, qs, q11, q8, q9, q16, q17, q12, q13, q14, q15⟩ := hq
  refine hv7 ((hT.al ha).1) (hT.1) (hT.2.2.2.1) (hT.2.2.2.2.2.2) (ha.tt hW hS) ((ha.t4 hW hS h4).1) (ha.t5 hW hS h5) (fun hi0 n22 n23 v19 tt tq ts => ?_)
  have b0 := hT.r200 (i := i0.toNat) (by omega)
  have zq := hT.sz (i := i0.toNat) (by omega) ha.2.2.1 h4
  obtain ⟨t', w1', w2'⟩ := h.1 i0.toNat (by omega)
  rw [ha.2.2.1] at w1'; cases w1'
  obtain ⟨qq, s9, x9, n6, ⟨g4, g5, gx, g6⟩, ⟨o1, o2', o3, o4, o5⟩, ⟨bs1, bs2⟩, ⟨z1, z2⟩, rr, ctt, ii⟩ := w2'
  rw [h4] at g4; cases g4
  rw [h5] at g5; cases g5
  rw [hx] at gx; cases gx
  have tn := ha.t6 hW hS g6
  have ix : (200 * i0 + a 10 i0.toNat).toNat = 200 * i0.toNat + (a 10 i0.toNat).toNat := by omega
  have ix8 : (8 * (200 * i0 + a 10 i0.toNat)).toNat = 8 * (200 * i0.toNat + (a 10 i0.toNat).toNat) := by omega
  have ix4 : (4 * (200 * i0 + a 10 i0.toNat)).toNat = 4 * (200 * i0.toNat + (a 10 i0.toNat).toNat) := by omega
  rw [ix] at q11 q12 q13
  rw [ix8] at q14
  rw [ix4] at q15
  refine hv3 (show ∀ i r : Nat, r < 200 → (i ≠ i0.toNat ∨ r ≠ (a 10 i0.toNat).toNat) → a2 11 (200 * i + r) = a 11 (200 * i + r) ∧ ARW a a2 (200 * i + r) from fun i r hr he => ⟨by rw [q11, va_up_ne _ _ (by omega)], by rw [q12, va_up_ne _ _ (by omega)], by rw [q13, va_up_ne _ _ (by omega)], fun k hk4 => q14.2 _ (by omega), fun k hk4 => q15.2 _ (by omega)⟩) (show ∀ i : Nat, i ≠ i0.toNat → a2 10 i = a 10 i from fun i hi => by rw [q10, va_up_ne _ _ hi]) (show a2 10 i0.toNat = a 10 i0.toNat + 1 from by rw [q10, va_up_self]) (fun arw a10 a10s => ?_)
  refine ⟨fun z => if z ∈ L then o z else if z = w then 200 * i0.toNat + (a 10 i0.toNat).toNat else i0.toNat, fun i hi => ?_, fun k hk2 => ?_⟩
  · by_cases ei : i = i0.toNat
    · subst ei
      obtain ⟨x2, wx1, wx2⟩ := hW2.ref (hX.ty ts) 1 rfl rfl rfl
      have ks := hk.tb t tt
      refine ⟨t, (p9 _ (by omega)).trans ha.2.2.1, q, s, x2, n6, ⟨ks.2.2.1.trans h4, ks.2.2.2.1.trans h5, wx1, ks.2.2.2.2.trans g6⟩, ⟨(if_pos tt.1).trans o1, (if_pos tq.1).trans o2', (if_pos ts.1).trans o3, ?_, (if_pos tn.1).trans o5⟩, ⟨by rw [ks.1, q8]; exact bs1.keep (fun j hj => p9 j (by omega)), by rw [ks.2.1, q9]; exact bs2.keep (fun j hj => p9 j (by omega))⟩, ⟨by rw [a10s, i1 (by omega)]; omega, by rw [a10s, d2]; omega⟩, fun r hr => ?_, ?_, fun w' hw' => inds_keep (ii w' hw') tn hW hX hk (fun e => e) (AIN.of q16 q17)⟩
      · show (if x2 ∈ L then o x2 else if x2 = w then 200 * i0.toNat + (a 10 i0.toNat).toNat else i0.toNat) = i0.toNat
        rcases i2 x2 wx1 with e | e
        · subst e
          rw [if_pos ((WT.ref hW ts 1 rfl rfl rfl).elim (fun b hb => by have := hb.1; rw [hx] at this; cases this; exact hb.2.1))]
          exact o4
        · rw [if_neg e, if_neg (ne_ty wx2 e2 (by decide))]
      · rw [a10s] at hr
        by_cases er : (r : Int) < a 10 i0.toNat
        · obtain ⟨w', k1, k2, k3⟩ := rr r er
          have tw := el26 hW tq (by omega) k1
          have ar := arw i0.toNat r (by omega) (Or.inr (by omega))
          exact ⟨w', (d3 r (by omega)).trans k1, (if_pos tw.1).trans k2, k3.keep tw hW hX hk (by rw [hk.rwc w' tw (fun e => e), ar.1]; exact k3.1) ar.2⟩
        · have er2 : r = (a 10 i0.toNat).toNat := by omega
          subst er2
          refine ⟨w, by rw [show (a 10 i0.toNat).toNat = (iv q 2).toNat by omega]; exact d1, (by show (if w ∈ L then o w else if w = w then 200 * i0.toNat + (a 10 i0.toNat).toNat else i0.toNat) = _; rw [if_neg e1, if_pos rfl]), by rw [e4, q11, va_up_self], e3, l, c, e5, e6, by rw [f2, q12, va_up_self]; omega, by rw [g2, q13, va_up_self]; omega, fun k hk3 => ?_, fun k hk3 => ?_⟩
          · have y1 := f3 _ hct k hk3
            have y2 := q14.1 k (by omega)
            rw [y1, y2]
            exact ⟨rfl, (hlt k (by omega)).1, (hlt k (by omega)).2⟩
          · have y1 := g3 _ hct k hk3
            have y2 := q15.1 k (by omega)
            rw [y1, y2]
            exact ⟨rfl, (hce (m.toNat + k) (by omega) (by omega)).1, (hce (m.toNat + k) (by omega) (by omega)).2⟩
      · refine (i3 _ ctt (by omega) _ hct).cgs (fun j hj => ?_)
        rw [i1 (by omega)] at hj
        by_cases er : j = (iv s 2).toNat
        · rw [er, va_up_self]
          have y2 := q14.1 0 (by omega)
          rw [show 8 * (200 * i0.toNat + (iv s 2).toNat) = 8 * (200 * i0.toNat + (a 10 i0.toNat).toNat) + 0 by omega, y2]
        · rw [va_up_ne _ _ er]
          exact (arw i0.toNat j (by omega) (Or.inr (by omega))).2.2.2.1 0 (by omega)
    · obtain ⟨u, k1, k2⟩ := h.1 i (by omega)
      have r2 := hT.r200 (i := i) (by omega)
      exact ⟨u, (p9 i (by omega)).trans k1, k2.keep (el22 hW hS (by omega) k1) hW hX hk (fun j hj => p9 j (by omega)) (fun z hz => if_pos hz) (fun b e => by rw [e, o2']; exact Ne.symm ei) (fun b e => by rw [e, o3]; exact Ne.symm ei) (fun b e => by rw [e, o4]; exact Ne.symm ei) (by rw [q8]) (by rw [q9]) (a10 i ei) r2.2 (fun qb r wb hqb hr hel tw ow e => by rw [hk.rwc wb tw (fun e => e), (arw i r (by omega) (Or.inl ei)).1]; exact e) (fun r hr => (arw i r hr (Or.inl ei)).2) (fun n w _ tn _ hw hi => inds_keep hi tn hW hX hk (fun e => e) (AIN.of q16 q17))⟩
  · obtain ⟨r1, r2, ch', r3, r4, r5⟩ := hps
    by_cases e : (k : Int) < iv (sk 23) 2
    · obtain ⟨ch, c1, c2⟩ := h.2 k e
      exact ⟨ch, (r2 k e).1.trans c1, c2.keepU (el23 hW hS (by omega) c1) hW hX hk ((r2 k e).2 ch c1).2 (fun j hj => stk_old qs n23 e j hj) (by omega) (fun j hj => by
        by_cases ej : j = i0.toNat
        · rw [ej, a10s]; omega
        · rw [a10 j ej]; exact Int.le_refl _) (fun j hj => p9 j (by omega)) (fun j t hj ht => (hk.tb t (el22 hW hS (by omega) ht)).2.2.1) (fun j t9 q9 hj ht hq y hy _ => by
        by_cases eq : q9 = q
        · subst eq; exact d3 y (by rw [hT.sz hj ht hq]; exact hy)
        · exact (hk.li q9 (ty4 hW (el22 hW hS (by omega) ht) hq) eq).2 y (by rw [hT.sz hj ht hq]; exact hy))⟩
    · obtain ⟨z0, _, _, _⟩ := stk_new qs n23 v19 e (by omega)
      exact ⟨ch', by rw [show k = (iv (sk 23) 2).toNat by omega]; exact r3, fun e3 => absurd (z0.symm.trans e3) (by decide), fun e3 => absurd (z0.symm.trans e3) (by decide)⟩
theorem stk_lt2 {s : Nat → Int} : ∀ (n : Nat) (T : Int) (R : Nat → Int), stk s n T R → ∀ k : Nat, k < n → (s (4 * k) = 3 → (0 ≤ s (4 * k + 1) ∧ s (4 * k + 1) < T) ∧ (0 ≤ s (4 * k + 2) ∧ s (4 * k + 2) < R (s (4 * k + 1)).toNat)) ∧ (s (4 * k) = 4 → 0 ≤ s (4 * k + 1) ∧ s (4 * k + 1) < 4 * T) := by
  intro n
  induction n with
  | zero => intro T R _ k hk; exact absurd hk (by omega)
  | succ n ih =>
    intro T R h k hk
    obtain ⟨T0, R0, he, hs⟩ := h
    by_cases e : k = n
    · subst e
      exact ⟨fun e3 => ⟨(he.e3 e3).1, (he.e3 e3).2.1⟩, fun e4 => (he.e4 (by omega)).2.1⟩
    · have q := ih T0 R0 hs k (by omega)
      have lt : T0 ≤ T ∧ ∀ j, R0 j ≤ R j := by
        rcases he with ⟨_, _, q3, q4⟩ | ⟨_, _, q3, q4⟩ | ⟨_, _, _, q3, q4⟩ | ⟨_, _, _, q3, q4⟩ | ⟨_, _, _, q3, q4⟩
        · exact ⟨by omega, fun j => by rw [q4]; exact Int.le_refl _⟩
        · exact ⟨by omega, fun j => by rw [q4]; exact Int.le_refl _⟩
        · refine ⟨by omega, fun j => ?_⟩
          have e9 : R0 j = if j = (s (4 * n + 1)).toNat then R j - 1 else R j := by rw [q4]
          rw [e9]
          split <;> omega
        · exact ⟨by omega, fun j => by rw [q4]; exact Int.le_refl _⟩
        · exact ⟨by omega, fun j => by rw [q4]; exact Int.le_refl _⟩
      refine ⟨fun e3 => ?_, fun e4 => ?_⟩
      · have g := q.1 e3
        have g2 := lt.2 (s (4 * k + 1)).toNat
        exact ⟨⟨g.1.1, by omega⟩, ⟨g.2.1, by omega⟩⟩
      · have g := q.2 e4
        exact ⟨g.1, by omega⟩
theorem STK.lt2 {ln : Nat → Nat} {v : Nat → Int} {a : Nat → Nat → Int} (h : STK ln v a) (k : Nat) (hk : 4 * (k : Int) < v 19) : (a 18 (4 * k) = 3 → (0 ≤ a 18 (4 * k + 1) ∧ a 18 (4 * k + 1) < v 4) ∧ (0 ≤ a 18 (4 * k + 2) ∧ a 18 (4 * k + 2) < a 10 (a 18 (4 * k + 1)).toNat)) ∧ (a 18 (4 * k) = 4 → 0 ≤ a 18 (4 * k + 1) ∧ a 18 (4 * k + 1) < 4 * v 4) := by
  obtain ⟨_, _, n, hn, hs⟩ := h
  exact stk_lt2 n _ _ hs k (by omega)
theorem CH2.e3 {K KA KB KC : Nat} (h : CH2 sk ln iv rv v a k ch) (k0 : 4 * k = K) (k1 : K + 1 = KA) (k2 : K + 2 = KB) (k3 : K + 3 = KC) (e : a 18 K = 3) : ((0 ≤ a 18 KA ∧ a 18 KA < v 4) ∧ 0 ≤ a 18 KB ∧ a 18 KB < a 10 (a 18 KA).toNat) ∧ (∃ t q, el rv (sk 22) (a 18 KA).toNat = some t ∧ rv t 4 = some q ∧ rv ch 2 = el rv q (a 18 KB).toNat) ∧ iv ch 3 = a 18 KC := by
  subst k0
  subst k1
  subst k2
  subst k3
  exact h.1 e
theorem CH2.e4 {K KA KB KC : Nat} (h : CH2 sk ln iv rv v a k ch) (k0 : 4 * k = K) (k1 : K + 1 = KA) (k2 : K + 2 = KB) (k3 : K + 3 = KC) (e : a 18 K = 4) : (0 ≤ a 18 KA ∧ a 18 KA < 4 * v 4) ∧ rv ch 1 = el rv (sk 22) (a 18 KA / 4).toNat ∧ iv ch 3 = a 18 KA % 4 ∧ INDR ln iv rv (rv ch 2) (a 18 KA % 4) (a 18 KB) (fun j => UPK (a 18 KC) (a 18 KB) (j : Int)) := by
  subst k0
  subst k1
  subst k2
  subst k3
  exact h.2 e
theorem rp_undo {lm lm2 : Nat → Nat} (h : RP2 o sk ln iv rv v a) (hT : TABR sk iv rv v a) (hW : WT g sk L cl ln iv rv) (hS : SKL sk L cl) (hX : XT L cl ln L2 cl2 ln2) (hSt : STK lm v a) (hSt2 : STK lm2 v2 a2) (h0 : v 19 ≠ 0) (hc : el rv (sk 23) (iv (sk 23) 2 - 1).toNat = some ch) (hp : PUND ch sk iv rv iv2 rv2) (hu : UKP L cl ch iv rv iv2 rv2) (hq : TUND v a v2 a2) : RP2 o sk ln2 iv2 rv2 v2 a2 := by
  obtain ⟨h4s, T0, R0, hent, _⟩ := STK.pop hSt h0
  obtain ⟨p1, p2, p3⟩ := hp
  obtain ⟨q19, q18, q6, q7, ⟨q8, q9, q12, q13, q14, q15⟩, q5⟩ := hq
  refine hv2 (hT.1) (hT.2.2.2.1) (fun n22 n23 => ?_)
  have tch := el23 hW hS (by omega) hc
  have k0 : 4 * (iv (sk 23) 2 - 1).toNat = (v 19 - 4).toNat := by omega
  have k1 : (v 19 - 4).toNat + 1 = (v 19 - 4 + 1).toNat := by omega
  have k2 : (v 19 - 4).toNat + 2 = (v 19 - 4 + 2).toNat := by omega
  have k3 : (v 19 - 4).toNat + 3 = (v 19 - 4 + 3).toNat := by omega
  have t0 : (((v 19 - 4).toNat : Nat) : Int) = v 19 - 4 := Int.toNat_of_nonneg (by omega)
  have t1 : (((v 19 - 4 + 1).toNat : Nat) : Int) = v 19 - 4 + 1 := Int.toNat_of_nonneg (by omega)
  have t2 : (((v 19 - 4 + 2).toNat : Nat) : Int) = v 19 - 4 + 2 := Int.toNat_of_nonneg (by omega)
  have t3 : (((v 19 - 4 + 3).toNat : Nat) : Int) = v 19 - 4 + 3 := Int.toNat_of_nonneg (by omega)
  have t9 : (((iv (sk 23) 2 - 1).toNat : Nat) : Int) = iv (sk 23) 2 - 1 := Int.toNat_of_nonneg (by omega)
  obtain ⟨c', c1', c2', c3'⟩ := hT.2.2.2.2.1 (iv (sk 23) 2 - 1).toNat (by omega)
  rw [hc] at c1'; cases c1'
  rw [k0] at c2' c3'
  rw [k1] at c3'
  obtain ⟨c', d1', top⟩ := h.2 (iv (sk 23) 2 - 1).toNat (by omega)
  rw [hc] at d1'; cases d1'
  have hle : v2 4 ≤ v 4 := by rcases q5 with q | q | q | q | q <;> omega
  have stk2 : ∀ {C Q S X : Nat → Prop} {N : Nat → Nat → Prop}, KP L cl C Q S X N iv rv iv2 rv2 → (∀ j : Nat, (j : Int) < v2 4 → el rv2 (sk 22) j = el rv (sk 22) j) → (∀ j t q : Nat, (j : Int) < v2 4 → el rv (sk 22) j = some t → rv t 4 = some q → ∀ y : Nat, (y : Int) < a 10 j → (y : Int) < a2 10 j → el rv2 q y = el rv q y) → ∀ k : Nat, (k : Int) < iv2 (sk 23) 2 → ∃ ch, el rv2 (sk 23) k = some ch ∧ CH2 sk ln2 iv2 rv2 v2 a2 k ch := by
    intro C Q S X N hk he hel k hk2
    obtain ⟨c, c1, c2⟩ := h.2 k (by omega)
    have g := p2 k (by omega)
    have lt := hSt2.lt2 k (by omega)
    rw [q18] at lt
    exact ⟨c, g.1.trans c1, c2.keep (T := v2 4) (el23 hW hS (by omega) c1) hW hX hk (g.2 c c1).2 (fun j _ => by rw [q18]) (Int.le_refl _) hle (fun e => ⟨(lt.1 e).1.2, (lt.1 e).2.2⟩) (fun e => (lt.2 e).2) he (fun j t hj ht => (hk.tb t (el22 hW hS (by omega) ht)).2.2.1) hel⟩
  rcases q5 with ⟨w1, w2, w5, w10, w11, w16, w17⟩ | ⟨w1, w2, w5, w10, w11, w16, w17⟩ | ⟨w1, w2, w5, w10, w11, w16, w17⟩ | ⟨w1, w2, w5, w10, w11, w16, w17⟩ | ⟨w1, w2, w5, w10, w11, w16, w17⟩
  · have hk := hu.1 (by omega)
    obtain ⟨e1, _, _⟩ := hent.e0 w1
    have he : ∀ j : Nat, (j : Int) < v2 4 → el rv2 (sk 22) j = el rv (sk 22) j := by
      rcases p3 with ⟨d1, d2, d3, d4, d5⟩ | ⟨d1, _⟩ | ⟨d1, _⟩ | ⟨d1, _⟩
      · exact fun j hj => d3 j (by omega)
      · omega
      · omega
      · omega
    refine ⟨fun i hi => ?_, stk2 hk he (fun j t q hj ht hq y hy _ => (hk.li q (ty4 hW (el22 hW hS (by omega) ht) hq) (fun e => e)).2 y (by rw [hT.sz (by omega) ht hq]; exact hy))⟩
    obtain ⟨t, e1, e2⟩ := h.1 i (by omega)
    exact ⟨t, (he i hi).trans e1, e2.keep0 (el22 hW hS (by omega) e1) hW hX hk (fun j hj => he j (by omega)) (fun _ _ => rfl) (hT.r200 (by omega)).2 (by rw [q8]) (by rw [q9]) (by rw [w10]) (fun r _ => ⟨by rw [w11], ARW.of q12 q13 q14 q15⟩) (fun w _ => AIN.of w16 w17)⟩
  · have hk := hu.2.1 (by omega)
    have he : ∀ j : Nat, (j : Int) < v2 4 → el rv2 (sk 22) j = el rv (sk 22) j := by
      rcases p3 with ⟨d1, _⟩ | ⟨d1, t, d2, d3, ⟨d4, d5, d6⟩, d7⟩ | ⟨d1, _⟩ | ⟨d1, _⟩
      · omega
      · exact fun j hj => d4 j (by omega)
      · omega
      · omega
    refine ⟨fun i hi => ?_, stk2 hk he (fun j t q hj ht hq y hy _ => (hk.li q (ty4 hW (el22 hW hS (by omega) ht) hq) (fun e => e)).2 y (by rw [hT.sz (by omega) ht hq]; exact hy))⟩
    obtain ⟨t, e1, e2⟩ := h.1 i (by omega)
    exact ⟨t, (he i hi).trans e1, e2.keep0 (el22 hW hS (by omega) e1) hW hX hk (fun j hj => he j (by omega)) (fun _ _ => rfl) (hT.r200 (by omega)).2 (by rw [q8]) (by rw [q9]) (by rw [w10]) (fun r _ => ⟨by rw [w11], ARW.of q12 q13 q14 q15⟩) (fun w _ => AIN.of w16 w17)⟩
  · obtain ⟨x1, x2, _, _⟩ := hent.e2 w1
    have ta : (((a 18 (v 19 - 4 + 1).toNat).toNat : Nat) : Int) = a 18 (v 19 - 4 + 1).toNat := Int.toNat_of_nonneg x1.1
    rcases p3 with ⟨d1, _⟩ | ⟨d1, _⟩ | ⟨d1, t, q, d2, d8, d3, ⟨d4, d5, d6⟩, d7⟩ | ⟨d1, _⟩
    · omega
    · omega
    · have y3 : el rv (sk 22) (a 18 (v 19 - 4 + 1).toNat).toNat = some t := ((c3' (Or.inr w1)).2).symm.trans d2
      have tt := el22 hW hS (by omega) y3
      have tq := ty4 hW tt d8
      have zq := hT.sz (i := (a 18 (v 19 - 4 + 1).toNat).toNat) (by omega) y3 d8
      obtain ⟨t', e1', e2'⟩ := h.1 (a 18 (v 19 - 4 + 1).toNat).toNat (by omega)
      rw [y3] at e1'; cases e1'
      obtain ⟨qq, s, x, n6, ⟨g4, g5, gx, g6⟩, ⟨o1, o2', o3, o4, o5⟩, ⟨bs1, bs2⟩, ⟨z1, z2⟩, rr, ctt, ii⟩ := e2'
      rw [d8] at g4; cases g4
      obtain ⟨s', ws1, ts⟩ := hW.ref tt 5 rfl rfl rfl
      rw [g5] at ws1; cases ws1
      obtain ⟨n', wn1, tn⟩ := hW.ref tt 6 rfl rfl rfl
      rw [g6] at wn1; cases wn1
      obtain ⟨x', wx1, tx⟩ := hW.ref ts 1 rfl rfl rfl
      rw [gx] at wx1; cases wx1
      obtain ⟨hk, hel, hsz, hrv⟩ := hu.2.2.1 (by omega) t q s d2 d8 g5
      refine hv2 (show ∀ j : Nat, (j : Int) < v2 4 → el rv2 (sk 22) j = el rv (sk 22) j from fun j hj => d4 j (by omega)) (show a2 10 (a 18 (v 19 - 4 + 1).toNat).toNat = a 10 (a 18 (v 19 - 4 + 1).toNat).toNat - 1 from by rw [w10, va_up_self]) (fun he a10s => ?_)
      have b0 := hT.r200 (i := (a 18 (v 19 - 4 + 1).toNat).toNat) (by omega)
      have s2 := hsz (by omega)
      refine ⟨fun i hi => ?_, stk2 hk he (fun j t9 q9 hj ht hq y hy hy2 => ?_)⟩
      · by_cases ei : i = (a 18 (v 19 - 4 + 1).toNat).toNat
        · subst ei
          have ks := hk.tb t tt
          refine ⟨t, (he _ (by omega)).trans y3, q, s, x, n6, ⟨ks.2.2.1.trans d8, ks.2.2.2.1.trans g5, hrv.trans gx, ks.2.2.2.2.trans g6⟩, ⟨o1, o2', o3, o4, o5⟩, ⟨by rw [ks.1, q8]; exact bs1.keep (fun j hj => he j (by omega)), by rw [ks.2.1, q9]; exact bs2.keep (fun j hj => he j (by omega))⟩, ⟨by rw [a10s]; omega, by rw [a10s]; omega⟩, ?_, ?_, fun w' hw' => inds_keep (ii w' hw') tn hW hX hk (fun e => e) (AIN.of w16 w17)⟩
          · rw [a10s]
            exact rows_keep (z := a 10 (a 18 (v 19 - 4 + 1).toNat).toNat - 1) (fun r hr => rr r (by omega)) tq (by omega) (fun r hr => hel r (by omega)) hW hX hk (fun _ _ => rfl) (fun r w hz _ tw _ e => by rw [hk.rwc w tw (fun e => e), w11]; exact e) (fun r _ => ARW.of q12 q13 q14 q15)
          · exact ctt.kp ts hW hk hrv (by omega) (fun _ _ e => e) (fun j hj => by rw [q14])
        · obtain ⟨u, e1, e2⟩ := h.1 i (by omega)
          have r2 := hT.r200 (i := i) (by omega)
          exact ⟨u, (he i hi).trans e1, e2.keep (el22 hW hS (by omega) e1) hW hX hk (fun j hj => he j (by omega)) (fun _ _ => rfl) (fun b e => by rw [e, o2']; exact Ne.symm ei) (fun b e => by rw [e, o3]; exact Ne.symm ei) (fun _ e => e.elim) (by rw [q8]) (by rw [q9]) (by rw [w10, va_up_ne _ _ ei]) r2.2 (fun qb r wb _ _ _ tw _ e => by rw [hk.rwc wb tw (fun e => e), w11]; exact e) (fun r _ => ARW.of q12 q13 q14 q15) (fun n w _ tn _ hw hi => inds_keep hi tn hW hX hk (fun e => e) (AIN.of w16 w17))⟩
      · by_cases eq : q9 = q
        · subst eq
          have ej : j = (a 18 (v 19 - 4 + 1).toNat).toNat := hT.2.2.1 j (a 18 (v 19 - 4 + 1).toNat).toNat t9 t q9 (by omega) (by omega) ht y3 hq d8
          subst ej
          exact hel y (by omega)
        · exact (hk.li q9 (ty4 hW (el22 hW hS (by omega) ht) hq) eq).2 y (by rw [hT.sz (by omega) ht hq]; exact hy)
    · omega
  · obtain ⟨⟨y1, y2, y3⟩, ⟨t, q, e1t, e4q, e2w⟩, e3z⟩ := top.e3 k0 k1 k2 k3 w1
    have ta : (((a 18 (v 19 - 4 + 1).toNat).toNat : Nat) : Int) = a 18 (v 19 - 4 + 1).toNat := Int.toNat_of_nonneg (by omega)
    have tb : (((a 18 (v 19 - 4 + 2).toNat).toNat : Nat) : Int) = a 18 (v 19 - 4 + 2).toNat := Int.toNat_of_nonneg (by omega)
    have he : ∀ j : Nat, (j : Int) < v2 4 → el rv2 (sk 22) j = el rv (sk 22) j := by
      rcases p3 with ⟨d1, _⟩ | ⟨d1, _⟩ | ⟨d1, _⟩ | ⟨d1, d3, ⟨d4, d5, d6⟩⟩
      · omega
      · omega
      · omega
      · exact fun j hj => d4 j (by omega)
    obtain ⟨t', e1', e2'⟩ := h.1 (a 18 (v 19 - 4 + 1).toNat).toNat (by omega)
    rw [e1t] at e1'; cases e1'
    obtain ⟨qq, s, x, n6, ⟨g4, g5, gx, g6⟩, _, _, _, rr, _, _⟩ := e2'
    rw [e4q] at g4; cases g4
    obtain ⟨w, k1', k2', k3'⟩ := rr (a 18 (v 19 - 4 + 2).toNat).toNat (by omega)
    obtain ⟨hk, hx⟩ := hu.2.2.2.1 (by omega) w (e2w.trans k1')
    have b0 := hT.r200 (i := (a 18 (v 19 - 4 + 1).toNat).toNat) (by omega)
    have ix : (200 * a 18 (v 19 - 4 + 1).toNat + a 18 (v 19 - 4 + 2).toNat).toNat = 200 * (a 18 (v 19 - 4 + 1).toNat).toNat + (a 18 (v 19 - 4 + 2).toNat).toNat := by omega
    rw [ix] at w11
    refine ⟨fun i hi => ?_, stk2 hk he (fun j t q hj ht hq y hy _ => (hk.li q (ty4 hW (el22 hW hS (by omega) ht) hq) (fun e => e)).2 y (by rw [hT.sz (by omega) ht hq]; exact hy))⟩
    obtain ⟨u, e1, e2⟩ := h.1 i (by omega)
    have r2 := hT.r200 (i := i) (by omega)
    refine ⟨u, (he i hi).trans e1, e2.keep (el22 hW hS (by omega) e1) hW hX hk (fun j hj => he j (by omega)) (fun _ _ => rfl) (fun _ e => e.elim) (fun _ e => e.elim) (fun _ e => e.elim) (by rw [q8]) (by rw [q9]) (by rw [w10]) r2.2 (fun qb r wb hqb hr hel tw ow e3 => ?_) (fun r _ => ARW.of q12 q13 q14 q15) (fun n w _ tn _ hw hi => inds_keep hi tn hW hX hk (fun e => e) (AIN.of w16 w17))⟩
    rw [w11]
    by_cases e : 200 * i + r = 200 * (a 18 (v 19 - 4 + 1).toNat).toNat + (a 18 (v 19 - 4 + 2).toNat).toNat
    · have ei : i = (a 18 (v 19 - 4 + 1).toNat).toNat := by omega
      have er : r = (a 18 (v 19 - 4 + 2).toNat).toNat := by omega
      rw [ei, e1t] at e1; cases e1
      rw [e4q] at hqb; cases hqb
      rw [er, k1'] at hel; cases hel
      rw [e, va_up_self, hx]; exact e3z
    · rw [va_up_ne _ _ e, hk.rwc wb tw (fun ec => e (by rw [← ow, ec]; exact k2'))]
      exact e3
  · obtain ⟨y1, e1t, e3z, ind⟩ := top.e4 k0 k1 k2 k3 w1
    have ta : (((a 18 (v 19 - 4 + 1).toNat).toNat : Nat) : Int) = a 18 (v 19 - 4 + 1).toNat := Int.toNat_of_nonneg (by omega)
    have he : ∀ j : Nat, (j : Int) < v2 4 → el rv2 (sk 22) j = el rv (sk 22) j := by
      rcases p3 with ⟨d1, _⟩ | ⟨d1, _⟩ | ⟨d1, _⟩ | ⟨d1, d3, ⟨d4, d5, d6⟩⟩
      · omega
      · omega
      · omega
      · exact fun j hj => d4 j (by omega)
    obtain ⟨t, e1', e2'⟩ := h.1 (a 18 (v 19 - 4 + 1).toNat / 4).toNat (by omega)
    have tt := el22 hW hS (by omega) e1'
    obtain ⟨qq, s, x, n6, ⟨g4, g5, gx, g6⟩, ⟨o1, o2', o3, o4, o5⟩, _, _, _, _, _⟩ := e2'
    obtain ⟨n', wn1, tn⟩ := hW.ref tt 6 rfl rfl rfl
    rw [g6] at wn1; cases wn1
    obtain ⟨hk, hx⟩ := hu.2.2.2.2 (by omega) (by omega) t n6 (e1t.trans e1') g6
    have m5 : (iv ch 3).toNat = (a 18 (v 19 - 4 + 1).toNat).toNat % 4 := by omega
    rw [m5] at hk hx
    have ix : (a 18 (v 19 - 4 + 1).toNat).toNat = 4 * (a 18 (v 19 - 4 + 1).toNat / 4).toNat + (a 18 (v 19 - 4 + 1).toNat).toNat % 4 := by omega
    have ix4 : (4 * a 18 (v 19 - 4 + 1).toNat).toNat = 4 * (a 18 (v 19 - 4 + 1).toNat).toNat := by omega
    rw [ix4] at w17
    have ain : ∀ i w : Nat, w < 4 → 4 * i + w ≠ (a 18 (v 19 - 4 + 1).toNat).toNat → AIN a a2 (4 * i + w) := fun i w hw hne => ⟨by rw [w16, va_up_ne _ _ hne], fun k hk4 => w17.2 _ (by omega)⟩
    refine ⟨fun i hi => ?_, stk2 hk he (fun j t q hj ht hq y hy _ => (hk.li q (ty4 hW (el22 hW hS (by omega) ht) hq) (fun e => e)).2 y (by rw [hT.sz (by omega) ht hq]; exact hy))⟩
    obtain ⟨u, e1, e2⟩ := h.1 i (by omega)
    have r2 := hT.r200 (i := i) (by omega)
    refine ⟨u, (he i hi).trans e1, e2.keep (el22 hW hS (by omega) e1) hW hX hk (fun j hj => he j (by omega)) (fun _ _ => rfl) (fun _ e => e.elim) (fun _ e => e.elim) (fun _ e => e.elim) (by rw [q8]) (by rw [q9]) (by rw [w10]) r2.2 (fun qb r wb _ _ _ tw _ e => by rw [hk.rwc wb tw (fun e => e), w11]; exact e) (fun r _ => ARW.of q12 q13 q14 q15) (fun nb w hnb tnb onb hw hi => ?_)⟩
    by_cases e : 4 * i + w = (a 18 (v 19 - 4 + 1).toNat).toNat
    · have ei : i = (a 18 (v 19 - 4 + 1).toNat / 4).toNat := by omega
      have ew : w = (a 18 (v 19 - 4 + 1).toNat).toNat % 4 := by omega
      rw [ei, e1'] at e1; cases e1
      rw [g6] at hnb; cases hnb
      rw [e, w16, va_up_self, ew, hx]
      have ind2 := ind
      rw [show a 18 (v 19 - 4 + 1).toNat % 4 = (((a 18 (v 19 - 4 + 1).toNat).toNat % 4 : Nat) : Int) by omega] at ind2
      refine ind2.keep (fun b hb => ?_) hW hX hk (fun k hk3 hk4 => w17.1 k (by omega))
      rcases hW.opt tch 2 rfl rfl with f1 | ⟨c, f1, f2⟩
      · rw [f1.1] at hb; cases hb
      · rw [f1] at hb; cases hb; exact f2
    · exact inds_keep hi tnb hW hX hk (fun eN => e (by have f1 : i = (a 18 (v 19 - 4 + 1).toNat / 4).toNat := by rw [← onb, eN.1]; exact o5
                                                       have f2 := eN.2
                                                       omega)) (ain i w hw e)
end REPS
section RPB
variable {sk : Nat → Nat} {L L2 : List Nat} {cl ln cl2 ln2 : Nat → Nat} {iv iv2 : Nat → Nat → Int} {rv rv2 : Nat → Nat → Option Nat} {v v2 : Nat → Int} {a a2 : Nat → Nat → Int} {i j x y n r f1 f2 : Int}
theorem rps_same (hr : TABR sk iv rv v a ∧ ∃ o, RP2 o sk ln iv rv v a) (hp : PSAME sk iv rv iv2 rv2 ∧ (∃ g, WT g sk L cl ln iv rv ∧ WT g sk L2 cl2 ln2 iv2 rv2) ∧ SKL sk L cl ∧ XT L cl ln L2 cl2 ln2 ∧ (KP L cl (fun _ => False) (fun _ => False) (fun _ => False) (fun _ => False) (fun _ _ => False) iv rv iv2 rv2)) (hq : TSAME v a v2 a2) : ∃ o, RP2 o sk ln2 iv2 rv2 v2 a2 := by
  obtain ⟨hT, o, h⟩ := hr
  obtain ⟨p, ⟨g, hW, _⟩, hS, hX, hk⟩ := hp
  exact ⟨o, rp_same h hT hW hS hX hk p hq⟩
theorem tbl_rp (hT : TABR sk iv rv v a) (hr : ∃ o, RP2 o sk ln iv rv v a) (hp : PTBL x y i f1 sk iv rv iv2 rv2) (hk : (∃ g, WT g sk L cl ln iv rv ∧ WT g sk L2 cl2 ln2 iv2 rv2) ∧ SKL sk L cl ∧ XT L cl ln L2 cl2 ln2 ∧ ((f1 = -1 ∧ KP L cl (fun _ => False) (fun _ => False) (fun _ => False) (fun _ => False) (fun _ _ => False) iv rv iv2 rv2) ∨ (f1 ≠ -1 ∧ KP L cl (fun _ => False) (fun _ => False) (fun _ => False) (fun _ => False) (fun _ _ => False) iv rv iv2 rv2 ∧ ∃ b, (((x < 1 ∨ 3 < x) ∧ b = none) ∨ ((1 ≤ x ∧ x ≤ 3) ∧ ∃ t, ALV sk iv rv i t ∧ b = some t)) ∧ KNW L sk b none iv iv2 rv2))) (hq : ((f2 = -1 ∧ TSAME v a v2 a2 ∧ ¬ (0 ≤ x ∧ x ≤ 4 ∧ (y = 6 ∨ y = 8) ∧ v 4 ≠ 30 ∧ (x < 1 ∨ 3 < x ∨ (0 ≤ i ∧ i < v 4 ∧ a 5 i.toNat = 1 ∧ a 6 i.toNat ≤ 3)))) ∨ (f2 = v 4 ∧ (0 ≤ x ∧ x ≤ 4 ∧ (y = 6 ∨ y = 8) ∧ v 4 ≠ 30 ∧ (x < 1 ∨ 3 < x ∨ (0 ≤ i ∧ i < v 4 ∧ a 5 i.toNat = 1 ∧ a 6 i.toNat ≤ 3))) ∧ TNEW x y (if x < 1 ∨ 3 < x then -1 else i) (-1) v a v2 a2))) : ∃ o, RP2 o sk ln2 iv2 rv2 v2 a2 := by
  have fe := (tbl_both hT hp hq).1
  obtain ⟨o, h⟩ := hr
  obtain ⟨⟨g, hW, hW2⟩, hS, hX, kb⟩ := hk
  refine hv2 (hT.2.2.2.2.2.1) (hT.1) (fun v0 n22 => ?_)
  rcases hp with ⟨p1, p2, -⟩ | ⟨p1, -, p3⟩
  · rcases kb with ⟨_, k2⟩ | ⟨k1, -⟩
    · rcases hq with ⟨q1, q2, -⟩ | ⟨q1, -⟩
      · exact ⟨o, rp_same h hT hW hS hX k2 p2 q2⟩
      · omega
    · clear hq; omega
  · rcases kb with ⟨k1, -⟩ | ⟨_, k2, b, k3, k4⟩
    · clear hq; omega
    · rcases hq with ⟨q1, -⟩ | ⟨q1, -, q3⟩
      · omega
      · refine rp_new h hT hW hS hX k2 p3 k4 q3 ?_ (Or.inl ⟨rfl, rfl⟩)
        rcases k3 with ⟨k5, k6⟩ | ⟨k5, t, k6, k7⟩
        · rw [k6, if_pos k5]; exact Or.inl ⟨rfl, rfl⟩
        · have w := (hT.al k6).1
          rw [k7, if_neg (by omega)]; exact Or.inr ⟨w.1, by omega, k6.2.2.1.symm⟩
theorem joi_rp (hT : TABR sk iv rv v a) (hr : ∃ o, RP2 o sk ln iv rv v a) (hp : PJOI i j f1 sk iv rv iv2 rv2) (hk : (∃ g, WT g sk L cl ln iv rv ∧ WT g sk L2 cl2 ln2 iv2 rv2) ∧ SKL sk L cl ∧ XT L cl ln L2 cl2 ln2 ∧ ((f1 = -1 ∧ KP L cl (fun _ => False) (fun _ => False) (fun _ => False) (fun _ => False) (fun _ _ => False) iv rv iv2 rv2) ∨ (f1 ≠ -1 ∧ KP L cl (fun _ => False) (fun _ => False) (fun _ => False) (fun _ => False) (fun _ _ => False) iv rv iv2 rv2 ∧ ∃ t u, ALV sk iv rv i t ∧ ALV sk iv rv j u ∧ KNW L sk (some t) (some u) iv iv2 rv2))) (hq : ((f2 = -1 ∧ TSAME v a v2 a2 ∧ ¬ (0 ≤ i ∧ i < v 4 ∧ a 5 i.toNat = 1 ∧ a 6 i.toNat ≤ 3 ∧ 0 ≤ j ∧ j < v 4 ∧ a 5 j.toNat = 1 ∧ a 6 j.toNat ≤ 3 ∧ v 4 ≠ 30)) ∨ (f2 = v 4 ∧ (0 ≤ i ∧ i < v 4 ∧ a 5 i.toNat = 1 ∧ a 6 i.toNat ≤ 3 ∧ 0 ≤ j ∧ j < v 4 ∧ a 5 j.toNat = 1 ∧ a 6 j.toNat ≤ 3 ∧ v 4 ≠ 30) ∧ TNEW 5 (max (a 7 i.toNat) (a 7 j.toNat)) i j v a v2 a2))) : ∃ o, RP2 o sk ln2 iv2 rv2 v2 a2 := by
  have fe := (joi_both hT hp hq).1
  obtain ⟨o, h⟩ := hr
  obtain ⟨⟨g, hW, hW2⟩, hS, hX, kb⟩ := hk
  refine hv2 (hT.2.2.2.2.2.1) (hT.1) (fun v0 n22 => ?_)
  rcases hp with ⟨p1, p2, -⟩ | ⟨p1, p2, t, u, ⟨ht, -⟩, ⟨hu, -⟩, p3⟩
  · rcases kb with ⟨_, k2⟩ | ⟨k1, -⟩
    · rcases hq with ⟨q1, q2, -⟩ | ⟨q1, -⟩
      · exact ⟨o, rp_same h hT hW hS hX k2 p2 q2⟩
      · omega
    · clear hq; omega
  · rcases kb with ⟨k1, -⟩ | ⟨_, k2, t', u', k3, k4, k5⟩
    · clear hq; omega
    · rcases hq with ⟨q1, -⟩ | ⟨q1, -, q3⟩
      · omega
      · have e1 := k3.uni ht
        have e2 := k4.uni hu
        subst e1
        subst e2
        refine hv2 ((hT.al ht).1) ((hT.al hu).1) (fun w w2 => ?_)
        rw [(hT.al ht).2.2.1, (hT.al hu).2.2.1] at p3
        exact rp_new h hT hW hS hX k2 p3 k5 q3 (Or.inr ⟨w.1, by omega, ht.2.2.1.symm⟩) (Or.inr ⟨w2.1, by omega, hu.2.2.1.symm⟩)
theorem drp_rp (hT : TABR sk iv rv v a) (hr : ∃ o, RP2 o sk ln iv rv v a) (hp : PDRP i f1 sk iv rv iv2 rv2) (hk : (∃ g, WT g sk L cl ln iv rv ∧ WT g sk L2 cl2 ln2 iv2 rv2) ∧ SKL sk L cl ∧ XT L cl ln L2 cl2 ln2 ∧ (KP L cl (fun _ => False) (fun _ => False) (fun _ => False) (fun _ => False) (fun _ _ => False) iv rv iv2 rv2)) (hq : ((f2 = -1 ∧ TSAME v a v2 a2 ∧ ¬ (0 ≤ i ∧ i < v 4 ∧ a 5 i.toNat = 1)) ∨ (f2 = 1 ∧ (0 ≤ i ∧ i < v 4 ∧ a 5 i.toNat = 1) ∧ TDRP i v a v2 a2))) : ∃ o, RP2 o sk ln2 iv2 rv2 v2 a2 := by
  have fe := (drp_both hT hp hq).1
  obtain ⟨o, h⟩ := hr
  obtain ⟨⟨g, hW, hW2⟩, hS, hX, kb⟩ := hk
  rcases hp with ⟨p1, p2, -⟩ | ⟨p1, t, -, -, p3, -, p5⟩
  · rcases hq with ⟨q1, q2, -⟩ | ⟨q1, -⟩
    · exact ⟨o, rp_same h hT hW hS hX kb p2 q2⟩
    · omega
  · rcases hq with ⟨q1, -⟩ | ⟨q1, -, q3⟩
    · omega
    · exact ⟨o, rp_drop h hT hW hS hX kb p3 p5 q3⟩
theorem rul_rp (hT : TABR sk iv rv v a) (hr : ∃ o, RP2 o sk ln iv rv v a) (hs : iv (sk 2) 2 = v 3) (hc : CT iv rv (sk 2) (a 2)) (hp : PRUL i x n f1 sk iv rv iv2 rv2) (hk : (∃ g, WT g sk L cl ln iv rv ∧ WT g sk L2 cl2 ln2 iv2 rv2) ∧ SKL sk L cl ∧ XT L cl ln L2 cl2 ln2 ∧ (KRU L cl sk iv rv L2 cl2 ln2 iv2 rv2 i x n f1)) (hq : ((f2 = -1 ∧ TSAME v a v2 a2 ∧ ¬ ((0 ≤ i ∧ i < v 4 ∧ a 5 i.toNat = 1 ∧ a 6 i.toNat ≠ 5 ∧ 0 ≤ x ∧ x ≤ 5 ∧ 1 ≤ n ∧ n ≤ 8 ∧ 1 ≤ v 3 - n ∧ v 3 - n ≤ 4 ∧ a 10 i.toNat ≠ 200) ∧ ACL (a 2) n (v 3 - n) (DC (a 7 i.toNat)) ∧ LTK (a 2) n)) ∨ (f2 = a 10 i.toNat ∧ ((0 ≤ i ∧ i < v 4 ∧ a 5 i.toNat = 1 ∧ a 6 i.toNat ≠ 5 ∧ 0 ≤ x ∧ x ≤ 5 ∧ 1 ≤ n ∧ n ≤ 8 ∧ 1 ≤ v 3 - n ∧ v 3 - n ≤ 4 ∧ a 10 i.toNat ≠ 200) ∧ ACL (a 2) n (v 3 - n) (DC (a 7 i.toNat)) ∧ LTK (a 2) n) ∧ TRUL i x n v a v2 a2))) : ∃ o, RP2 o sk ln2 iv2 rv2 v2 a2 := by
  have fe := (rul_both hT hs hc hp hq).1
  obtain ⟨o, h⟩ := hr
  obtain ⟨⟨g, hW, hW2⟩, hS, hX, kb⟩ := hk
  rcases hp with ⟨p1, p2, -⟩ | ⟨t, q, ht, h4, p1, p2, p3, p4, p5, p6⟩
  · rcases kb with ⟨_, k2⟩ | ⟨t, q, s, x5, w, l, c, ⟨c1, c2, c3, c4, c5⟩, -⟩
    · rcases hq with ⟨q1, q2, -⟩ | ⟨q1, ⟨q2, -⟩, -⟩
      · exact ⟨o, rp_same h hT hW hS hX k2 p2 q2⟩
      · have b := hT.r200 (i := i.toNat) (by omega)
        omega
    · have b := (c1.t4 hW hS c2).2
      clear hq; omega
  · have b := (ht.t4 hW hS h4).2
    obtain ⟨w1, w2, w3, w4, q', w5, w6⟩ := hT.al ht
    rw [h4] at w5; cases w5
    obtain ⟨⟨r1, r2, r3, r4, r5, r6, r7, r8⟩, r9, r10⟩ := p2 (a 2) hc w4
    rcases kb with ⟨k1, -⟩ | ⟨t', q', s, x5, w, l, c, ⟨c1, c2, c3, c4, c5⟩, k, ⟨d1, d2, d3⟩, ⟨e1, e2, e3, e4, e5, e6⟩, ⟨f1', f2', f3'⟩, ⟨g1, g2, g3⟩, ⟨i1, i2, i3⟩⟩
    · clear hq; omega
    · have e := c1.uni ht
      subst e
      rw [h4] at c2; cases c2
      rcases hq with ⟨q1, -⟩ | ⟨q1, -, q3⟩
      · omega
      · exact rp_rule h hT hW hS hX hW2 hs hc ⟨r4, r5⟩ (by omega) (fun k hk => r10 k hk) (fun k h1 h2 => by
          refine hv2 (r9 k h1 (by omega)) (dcf (iv t' 1)) (fun b1 b2 => ?_)
          exact ⟨b1.1, by omega⟩) (by omega) ht h4 c3 c4 k d1 d2 d3 e1 e2 e3 e4 e5 e6 f2' f3' g2 g3 i1 i2 i3 p4 p6 q3
theorem cnd_rp (hT : TABR sk iv rv v a) (hr : ∃ o, RP2 o sk ln iv rv v a) (hp : PCND i r x f1 sk iv rv iv2 rv2) (hk : (∃ g, WT g sk L cl ln iv rv ∧ WT g sk L2 cl2 ln2 iv2 rv2) ∧ SKL sk L cl ∧ XT L cl ln L2 cl2 ln2 ∧ (KCN L cl sk iv rv iv2 rv2 i r x f1)) (hq : ((f2 = -1 ∧ TSAME v a v2 a2 ∧ ¬ (0 ≤ i ∧ i < v 4 ∧ a 5 i.toNat = 1 ∧ a 6 i.toNat ≠ 5 ∧ 0 ≤ r ∧ r < a 10 i.toNat ∧ 0 ≤ x ∧ x ≤ 5)) ∨ (f2 = a 11 (200 * i + r).toNat ∧ (0 ≤ i ∧ i < v 4 ∧ a 5 i.toNat = 1 ∧ a 6 i.toNat ≠ 5 ∧ 0 ≤ r ∧ r < a 10 i.toNat ∧ 0 ≤ x ∧ x ≤ 5) ∧ TCND i r x v a v2 a2))) : f1 = f2 ∧ ∃ o, RP2 o sk ln2 iv2 rv2 v2 a2 := by
  obtain ⟨o, h⟩ := hr
  obtain ⟨⟨g, hW, hW2⟩, hS, hX, kb⟩ := hk
  rcases hp with ⟨p1, p2, p3⟩ | ⟨t, q, ht, h4, p1, p3, p4, p6⟩
  · rcases hq with ⟨q1, q2, -⟩ | ⟨q1, q2, -⟩
    · rcases kb with ⟨_, k2, _⟩ | ⟨t, q, w, ⟨c1, c2, c3, c4⟩, k, k2, k3⟩
      · exact ⟨by omega, o, rp_same h hT hW hS hX k2 p2 q2⟩
      · exfalso
        obtain ⟨s1, -⟩ := k3
        have e1 := p2.2.1
        omega
    · exfalso
      obtain ⟨t, ht⟩ := hT.la (i := i) (by omega) (by omega) (by omega)
      obtain ⟨w1, w2, w3, w4, q, w5, w6⟩ := hT.al ht
      exact p3 t q ht w5 ⟨by omega, by omega, by omega, by omega, by omega⟩
  · obtain ⟨w1, w2, w3, w4, q', w5, w6⟩ := hT.al ht
    rw [h4] at w5; cases w5
    rcases hq with ⟨q1, q2, q3⟩ | ⟨q1, q2, q3⟩
    · exact absurd ⟨w1.1, w1.2.1, w1.2.2, by omega, by omega, by omega, by omega, by omega⟩ q3
    · rcases kb with ⟨k1, k2, k4⟩ | ⟨t', q', w, ⟨c1, c2, c3, c4⟩, k, k2, k3⟩
      · exfalso
        have e1 := p6.1
        omega
      · have e := c1.uni ht
        subst e
        rw [h4] at c2; cases c2
        refine ⟨?_, o, rp_cond h hT hW hS hX ht h4 c3 ⟨by omega, by omega⟩ c4 k k2 p4 p6.2.1 k3 q3⟩
        obtain ⟨t2, e1', e2'⟩ := h.1 i.toNat (by omega)
        rw [ht.2.2.1] at e1'; cases e1'
        obtain ⟨qq, _, _, _, ⟨g1, _⟩, _, _, _, rr, _⟩ := e2'
        rw [h4] at g1; cases g1
        obtain ⟨w', k1', k2', k3'⟩ := rr r.toNat (by omega)
        rw [c3] at k1'; cases k1'
        rw [c4, q1, k3'.1]
        exact congrArg (a 11) (by omega)
theorem ind_rp (hT : TABR sk iv rv v a) (hr : ∃ o, RP2 o sk ln iv rv v a) (hs : iv (sk 2) 2 = v 3) (hc : CT iv rv (sk 2) (a 2)) (hp : PIND i x f1 sk iv rv iv2 rv2) (hk : (∃ g, WT g sk L cl ln iv rv ∧ WT g sk L2 cl2 ln2 iv2 rv2) ∧ SKL sk L cl ∧ XT L cl ln L2 cl2 ln2 ∧ (KIN L cl sk iv rv L2 cl2 ln2 iv2 rv2 i x f1)) (hq : ((f2 = -1 ∧ TSAME v a v2 a2 ∧ ¬ ((0 ≤ x ∧ x ≤ 3 ∧ 0 ≤ i ∧ i < v 4 ∧ a 5 i.toNat = 1 ∧ ((x = 0 ∧ a 6 i.toNat ≤ 2) ∨ (x = 1 ∧ a 6 i.toNat = 2) ∨ (x ≠ 0 ∧ x ≠ 1 ∧ a 6 i.toNat = 5)) ∧ v 3 ≤ 4) ∧ ACL (a 2) 0 (v 3) (DC (a 7 i.toNat)) ∧ True)) ∨ (f2 = v 3 ∧ ((0 ≤ x ∧ x ≤ 3 ∧ 0 ≤ i ∧ i < v 4 ∧ a 5 i.toNat = 1 ∧ ((x = 0 ∧ a 6 i.toNat ≤ 2) ∨ (x = 1 ∧ a 6 i.toNat = 2) ∨ (x ≠ 0 ∧ x ≠ 1 ∧ a 6 i.toNat = 5)) ∧ v 3 ≤ 4) ∧ ACL (a 2) 0 (v 3) (DC (a 7 i.toNat)) ∧ True) ∧ TIND i x v a v2 a2))) : ∃ o, RP2 o sk ln2 iv2 rv2 v2 a2 := by
  have fe := (ind_both hT hs hc hp hq).1
  obtain ⟨o, h⟩ := hr
  obtain ⟨⟨g, hW, hW2⟩, hS, hX, kb⟩ := hk
  have z2 : 0 ≤ iv (sk 2) 2 := (hW.int (show ty L cl (sk 2) 2 from ⟨(hS 2 rfl).1, by rw [(hS 2 rfl).2]; rfl⟩) 2).1
  rcases hp with ⟨p1, p2, -⟩ | ⟨p1, t, ht, p2, p3, p4, p6⟩
  · rcases kb with ⟨_, k2⟩ | ⟨t, n6, ⟨c1, c2, c3⟩, -⟩
    · rcases hq with ⟨q1, q2, -⟩ | ⟨q1, -⟩
      · exact ⟨o, rp_same h hT hW hS hX k2 p2 q2⟩
      · omega
    · clear hq; omega
  · obtain ⟨w1, w2, w3, w4, q', w5, w6⟩ := hT.al ht
    obtain ⟨⟨r1, r2, r3, r4⟩, r9⟩ := p2 (a 2) hc w4
    rcases kb with ⟨k1, -⟩ | ⟨t', n6, ⟨c1, c2, c3⟩, k, k2, k3⟩
    · clear hq; omega
    · have e := c1.uni ht
      subst e
      have k2i : IDD sk L2 cl2 ln2 iv rv iv2 rv2 n6 x := k2
      clear k2
      rcases hq with ⟨q1, -⟩ | ⟨q1, -, q3⟩
      · omega
      · exact ⟨o, rp_ind h hT hW hS hX hs hc (fun k hk => by
          refine hv2 (r9 k (by omega) (by omega)) (dcf (iv t' 1)) (fun b1 b2 => ?_)
          exact ⟨b1.1, by omega⟩) (by omega) ht c2 ⟨r1, r2⟩ k k2i p4 p6.2.1 k3 q3⟩
theorem und_rp (hT : TABR sk iv rv v a) (hr : ∃ o, RP2 o sk ln iv rv v a) (hp : PUNX f1 sk iv rv iv2 rv2) (hk : (∃ g, WT g sk L cl ln iv rv ∧ WT g sk L2 cl2 ln2 iv2 rv2) ∧ SKL sk L cl ∧ XT L cl ln L2 cl2 ln2 ∧ ((f1 = 0 ∧ KP L cl (fun _ => False) (fun _ => False) (fun _ => False) (fun _ => False) (fun _ _ => False) iv rv iv2 rv2) ∨ (f1 = 1 ∧ ∃ ch, el rv (sk 23) (iv (sk 23) 2 - 1).toNat = some ch ∧ UKP L cl ch iv rv iv2 rv2))) (hq : (∃ ln, STK ln v a) ∧ (∃ ln, STK ln v2 a2) ∧ ((v 19 = 0 ∧ f2 = 0 ∧ TSAME v a v2 a2) ∨ (v 19 ≠ 0 ∧ f2 = 1 ∧ TUND v a v2 a2))) : ∃ o, RP2 o sk ln2 iv2 rv2 v2 a2 := by
  obtain ⟨o, h⟩ := hr
  obtain ⟨⟨g, hW, hW2⟩, hS, hX, kb⟩ := hk
  obtain ⟨⟨lm, s1⟩, ⟨lm2, s2⟩, hq⟩ := hq
  have n23 := hT.2.2.2.1
  rcases hp with ⟨p1, p2, p3⟩ | ⟨p1, p2, ch, p3, p4⟩
  · rcases kb with ⟨_, k2⟩ | ⟨k1, -⟩
    · rcases hq with ⟨q1, q2, q3⟩ | ⟨q1, -⟩
      · exact ⟨o, rp_same h hT hW hS hX k2 p3 q3⟩
      · omega
    · clear hq; omega
  · rcases kb with ⟨k1, -⟩ | ⟨_, ch', k2, k3⟩
    · clear hq; omega
    · rw [p3] at k2; cases k2
      rcases hq with ⟨q1, -⟩ | ⟨q1, -, q3⟩
      · omega
      · exact ⟨o, rp_undo h hT hW hS hX s1 s2 q1 p3 p4 k3 q3⟩
theorem rp_zero (h2 : iv (sk 23) 2 = 0) (h3 : v 4 = 0) : ∃ o, RP2 o sk ln iv rv v a := ⟨fun _ => 0, fun i hi => absurd hi (by omega), fun k hk => absurd hk (by omega)⟩
end RPB
end
section
def SEC (v : Nat → Int) (a : Nat → Nat → Int) : Prop := ∀ i : Nat, (i : Int) < v 4 → a 6 i ≠ 5 → a 9 i = -1
def TRL (sk ln : Nat → Nat) (iv : Nat → Nat → Int) (rv : Nat → Nat → Option Nat) (v : Nat → Int) (a : Nat → Nat → Int) : Prop := TABR sk iv rv v a ∧ (∃ o, RP2 o sk ln iv rv v a) ∧ TBL v a ∧ SEC v a
def QT (g : Nat) (sk : Nat → Nat) (L : List Nat) (cl ln : Nat → Nat) (iv : Nat → Nat → Int) (rv : Nat → Nat → Option Nat) (L1 : List Nat) (cl1 ln1 : Nat → Nat) (iv1 : Nat → Nat → Int) (rv1 : Nat → Nat → Option Nat) : Prop := WT g sk L cl ln iv rv ∧ SKL sk L cl ∧ XT L cl ln L1 cl1 ln1 ∧ PSAME sk iv rv iv1 rv1 ∧ KP L cl (fun _ => False) (fun _ => False) (fun _ => False) (fun _ => False) (fun _ _ => False) iv rv iv1 rv1
def UPX (sk ln : Nat → Nat) (iv : Nat → Nat → Int) (rv : Nat → Nat → Option Nat) (r : Option Nat) (f : Int) : Prop := ∀ v a, TRL sk ln iv rv v a → ∀ t : Int, BASR sk rv (v 4).toNat r t → (f = 1 ↔ UPC a t)
def UPI (sk ln : Nat → Nat) (iv : Nat → Nat → Int) (rv : Nat → Nat → Option Nat) (r x : Option Nat) : Prop := ∀ v a, TRL sk ln iv rv v a → ∀ t : Int, BASR sk rv (v 4).toNat r t → ∃ t2 : Int, BASR sk rv (v 4).toNat x t2 ∧ (UPC a t ↔ UPC a t2)
def TWX (sk ln : Nat → Nat) (iv : Nat → Nat → Int) (rv : Nat → Nat → Option Nat) (b : Nat) (f : Int) : Prop := ∀ v a, TRL sk ln iv rv v a → ∀ i : Nat, (i : Int) < v 4 → el rv (sk 22) i = some b → (f = 1 ↔ WHL v a i)
def WOX (sk ln : Nat → Nat) (iv : Nat → Nat → Int) (rv : Nat → Nat → Option Nat) (i : Int) (f : Option Nat) : Prop := ∀ v a, TRL sk ln iv rv v a → (f = none ∧ ¬ WHL v a i) ∨ (∃ b, f = some b ∧ (0 ≤ i ∧ i < v 4) ∧ el rv (sk 22) i.toNat = some b ∧ WHL v a i)
section ROWS
variable {g : Nat} {sk : Nat → Nat} {L L1 L2 L3 : List Nat} {cl ln cl1 ln1 cl2 ln2 cl3 ln3 : Nat → Nat} {iv iv1 iv2 iv3 : Nat → Nat → Int} {rv rv1 rv2 rv3 : Nat → Nat → Option Nat} {v : Nat → Int} {a : Nat → Nat → Int} {ls : List Nat} {t b q n w u c0 tr : Nat} {d f f1 f2 i0 j0 k0 : Int} {r x y : Option Nat} {l : List Int}
theorem QT.of (hW : WT g sk L cl ln iv rv) (hS : SKL sk L cl) (hX : XT L cl ln L1 cl1 ln1) (hF : fT ls L cl iv rv iv1 rv1) (h1 : kpl ls = true) (a1 : ls.contains 22 = false) (a2 : ls.contains 1000 = false) (a3 : ls.contains 23 = false) (a4 : ls.contains 1001 = false) : QT g sk L cl ln iv rv L1 cl1 ln1 iv1 rv1 :=
  have k := kpl_no h1
  ⟨hW, hS, hX, PSAME.fr hW hS hF a1 a2 a3 a4 k.1 k.2.2.2.2.2.2.1 k.2.2.1, KP.fr hW hF h1⟩
theorem TSAME.rf : TSAME v a v a := ⟨rfl, rfl, rfl, rfl, rfl, rfl, rfl, rfl, rfl, rfl, rfl, rfl, rfl, rfl, rfl, rfl⟩
theorem TRL.qq (h : TRL sk ln iv rv v a) (q : QT g sk L cl ln iv rv L1 cl1 ln1 iv1 rv1) : TRL sk ln1 iv1 rv1 v a := by
  obtain ⟨hW, hS, hX, hp, hk⟩ := q
  obtain ⟨h1, ⟨o, h2⟩, h3, h4⟩ := h
  exact ⟨tab_same h1 hp TSAME.rf, ⟨o, rp_same h2 h1 hW hS hX hk hp TSAME.rf⟩, h3, h4⟩
theorem TRL.tab (h : TRL sk ln iv rv v a) {i : Nat} (hi : (i : Int) < v 4) (ht : el rv (sk 22) i = some t) : (iv t 0 = a 6 i ∧ iv t 7 + a 5 i = 1 ∧ (a 5 i = 0 ∨ a 5 i = 1) ∧ 0 ≤ a 10 i ∧ a 10 i ≤ 200) ∧ (BASR sk rv i (rv t 2) (a 8 i) ∧ BASR sk rv i (rv t 3) (a 9 i)) ∧ ∃ q n, (rv t 4 = some q ∧ rv t 6 = some n ∧ iv q 2 = a 10 i) ∧ (∀ r : Nat, (r : Int) < a 10 i → ∃ w, el rv q r = some w ∧ ROWR ln iv rv a w (200 * i + r)) ∧ (∀ w : Nat, w < 4 → INDR ln iv rv (rv n w) (w : Int) (a 16 (4 * i + w)) (fun k => a 17 (4 * (4 * i + w) + k))) := by
  obtain ⟨h1, ⟨o, h2⟩, _, _⟩ := h
  obtain ⟨t1, q1, b1, b2, b3, b4, b5, b6, b7, b8, b9⟩ := h1.2.1 i hi
  rw [ht] at b1; cases b1
  obtain ⟨t1, c1, c2⟩ := h2.1 i hi
  rw [ht] at c1; cases c1
  obtain ⟨q2, s, x, n, ⟨e1, e2, e3, e4⟩, _, e5, ⟨_, e6⟩, e7, _, e8⟩ := c2
  rw [b2] at e1; cases e1
  refine ⟨⟨b3, b5, b8, b9⟩, e5, q1, n, ⟨b2, e4, b6⟩, fun r hr => ?_, e8⟩
  obtain ⟨w, g1, _, g2⟩ := e7 r hr
  exact ⟨w, g1, g2⟩
theorem TRL.smt (h : TRL sk ln iv rv v a) {i : Nat} (hi : (i : Int) < v 4) : ∃ t, el rv (sk 22) i = some t := by
  obtain ⟨t, q, b1, _⟩ := h.1.2.1 i hi
  exact ⟨t, b1⟩
theorem BASR.up {i m : Nat} {z : Int} (h : BASR sk rv i r z) (hm : i ≤ m) : BASR sk rv m r z := by
  rcases h with h | ⟨h1, h2, h3⟩
  · exact Or.inl h
  · exact Or.inr ⟨h1, by omega, h3⟩
theorem BASR.tb {z : Int} (h : TRL sk ln iv rv v a) (hb : BASR sk rv (v 4).toNat (some b) z) : 0 ≤ z ∧ z < v 4 ∧ el rv (sk 22) z.toNat = some b := by
  have h4 := h.1.2.2.2.2.2.1.1
  rcases hb with ⟨_, e⟩ | ⟨h1, h2, h3⟩
  · cases e
  · exact ⟨h1, by omega, h3.symm⟩
theorem BASR.no {z : Int} (h : TRL sk ln iv rv v a) (hb : BASR sk rv (v 4).toNat none z) : z < 0 := by
  have h4 := h.1.2.2.2.2.2.1.1
  rcases hb with ⟨e, _⟩ | ⟨h1, h2, h3⟩
  · omega
  · obtain ⟨t, ht⟩ := h.smt (i := z.toNat) (by omega)
    rw [ht] at h3; cases h3
theorem TRL.v30 (h : TRL sk ln iv rv v a) : v 4 ≤ 30 := h.1.2.2.2.2.2.1.2
theorem TRL.b0 (h : TRL sk ln iv rv v a) : 0 ≤ v 4 := h.1.2.2.2.2.2.1.1
theorem TRL.s (h : TRL sk ln iv rv v a) {z : Int} (h0 : 0 ≤ z) (h4 : z < v 4) : UPC a z ↔ (a 5 z.toNat = 1 ∧ UPC a (a 8 z.toNat)) := UPC.s h.2.2.1 h.v30 h0 h4
theorem TRL.both (h : TRL sk ln iv rv v a) {i : Nat} (hi : (i : Int) < v 4) : WHL v a i ↔ (UPC a i ∧ UPC a (a 9 i)) := by
  by_cases e : a 6 i = 5
  · exact WHL.j h.2.2.1 h.v30 (by omega) hi e
  · have e9 := h.2.2.2 i hi e
    rw [WHL.p h.2.2.1 h.v30 (t := (i : Int)) (by omega) hi e]
    exact ⟨fun g => ⟨g, UPC.neg0 (by omega)⟩, fun g => g.1⟩
theorem UPI.refl : UPI sk ln iv rv r r := fun v a _ t hb => ⟨t, hb, Iff.rfl⟩
theorem UPI.no (h : UPI sk ln iv rv r (some b)) (h7 : iv b 7 ≠ 0) : UPX sk ln iv rv r 0 := by
  intro v a hR t hb
  obtain ⟨t2, g1, g2⟩ := h v a hR t hb
  obtain ⟨p1, p2, p3⟩ := g1.tb hR
  have p4 := (hR.tab (i := t2.toNat) (by omega) p3).1
  refine ⟨fun e => absurd e (by decide), fun e => ?_⟩
  have p5 := ((hR.s p1 p2).mp (g2.mp e)).1
  omega
theorem UPI.yes (h : UPI sk ln iv rv r none) : UPX sk ln iv rv r 1 := by
  intro v a hR t hb
  obtain ⟨t2, g1, g2⟩ := h v a hR t hb
  exact ⟨fun _ => g2.mpr (UPC.neg0 (g1.no hR)), fun _ => rfl⟩
theorem UPI.next (h : UPI sk ln iv rv r (some b)) (h7 : iv b 7 = 0) (h2 : rv b 2 = x) : UPI sk ln iv rv r x := by
  intro v a hR t hb
  obtain ⟨t2, g1, g2⟩ := h v a hR t hb
  obtain ⟨p1, p2, p3⟩ := g1.tb hR
  obtain ⟨⟨_, p4, _⟩, ⟨p5, _⟩, _⟩ := hR.tab (i := t2.toNat) (by omega) p3
  rw [h2] at p5
  refine ⟨_, p5.up (by omega), g2.trans ?_⟩
  rw [hR.s p1 p2]
  exact ⟨fun g => g.2, fun g => ⟨by omega, g⟩⟩
theorem el_bas {i m : Nat} (h : el rv (sk 22) i = some b) (hi : i < m) : BASR sk rv m (some b) (i : Int) := Or.inr ⟨by omega, by omega, by rw [Int.toNat_natCast]; exact h.symm⟩
theorem TWX.yes (h1 : UPX sk ln iv rv (some b) f1) (h2 : UPX sk ln iv rv x f2) (hx : rv b 3 = x) (e1 : f1 = 1) (e2 : f2 = 1) : TWX sk ln iv rv b 1 := by
  intro v a hR i hi ht
  have h4 := hR.b0
  obtain ⟨_, ⟨_, p6⟩, _⟩ := hR.tab hi ht
  rw [hx] at p6
  exact ⟨fun _ => (hR.both hi).mpr ⟨(h1 v a hR i (el_bas ht (by omega))).mp e1, (h2 v a hR _ (p6.up (by omega))).mp e2⟩, fun _ => rfl⟩
theorem TWX.no1 (h1 : UPX sk ln iv rv (some b) f1) (e1 : f1 ≠ 1) : TWX sk ln iv rv b 0 := by
  intro v a hR i hi ht
  exact ⟨fun e => absurd e (by decide), fun e => absurd ((h1 v a hR i (el_bas ht (by omega))).mpr ((hR.both hi).mp e).1) e1⟩
theorem TWX.no2 (h2 : UPX sk ln iv rv x f2) (hx : rv b 3 = x) (e2 : f2 ≠ 1) : TWX sk ln iv rv b 0 := by
  intro v a hR i hi ht
  obtain ⟨_, ⟨_, p6⟩, _⟩ := hR.tab hi ht
  rw [hx] at p6
  exact ⟨fun e => absurd e (by decide), fun e => absurd ((h2 v a hR _ (p6.up (by omega))).mpr ((hR.both hi).mp e).2) e2⟩
theorem WOX.n1 (h : ∀ b, ¬ ALV sk iv rv i0 b) : WOX sk ln iv rv i0 none := fun v a hR => Or.inl ⟨rfl, fun hw => by
  obtain ⟨w1, w2, w3⟩ := WHL.tr hw
  obtain ⟨t, ht⟩ := hR.1.la w1 w2 w3
  exact h t ht⟩
theorem ALV.i (hA : ALV sk iv rv i0 b) (hR : TRL sk ln iv rv v a) : 0 ≤ i0 ∧ i0 < v 4 ∧ ((i0.toNat : Nat) : Int) = i0 := ⟨hA.1, by have := hA.2.1; rw [hR.1.1] at this; exact this, Int.toNat_of_nonneg hA.1⟩
theorem WOX.n2 (hA : ALV sk iv rv i0 b) (hw : TWX sk ln iv rv b f2) (e : f2 ≠ 1) : WOX sk ln iv rv i0 none := fun v a hR => Or.inl ⟨rfl, fun g => by
  obtain ⟨p1, p2, p3⟩ := hA.i hR
  exact e ((hw v a hR i0.toNat (by omega) hA.2.2.1).mpr (by rw [p3]; exact g))⟩
theorem WOX.ys (hA : ALV sk iv rv i0 b) (hw : TWX sk ln iv rv b f2) (e : f2 = 1) : WOX sk ln iv rv i0 (some b) := fun v a hR => by
  obtain ⟨p1, p2, p3⟩ := hA.i hR
  have g := (hw v a hR i0.toNat (by omega) hA.2.2.1).mp e
  rw [p3] at g
  exact Or.inr ⟨b, rfl, ⟨p1, p2⟩, hA.2.2.1, g⟩
theorem ty26 (hW : WT g sk L cl ln iv rv) (tt : ty L cl t 100) (h4 : rv t 4 = some q) : ty L cl q 26 := ty4 hW tt h4
theorem WOX.smt (h : WOX sk ln iv rv i0 (some b)) (hR : TRL sk ln iv rv v a) : (0 ≤ i0 ∧ i0 < v 4) ∧ el rv (sk 22) i0.toNat = some b ∧ WHL v a i0 := by
  rcases h v a hR with ⟨e, _⟩ | ⟨b', e, g⟩
  · cases e
  · cases e; exact g
end ROWS
theorem el24.fr {g : Nat} {sk : Nat → Nat} {L : List Nat} {cl ln : Nat → Nat} {iv iv2 : Nat → Nat → Int} {rv rv2 : Nat → Nat → Option Nat} {ls : List Nat} (h : WT g sk L cl ln iv rv) (hS : SKL sk L cl) (hF : fT ls L cl iv rv iv2 rv2) (a1 : ls.contains 24 = false) (a2 : ls.contains 1002 = false) : iv2 (sk 24) 2 = iv (sk 24) 2 ∧ ∀ j : Nat, (j : Int) < iv (sk 24) 2 → el rv2 (sk 24) j = el rv (sk 24) j := by
  have tq : ty L cl (sk 24) 24 := ⟨(hS 24 rfl).1, by rw [(hS 24 rfl).2]; rfl⟩
  refine ⟨hF.i tq a1 2, fun j hj => ?_⟩
  obtain ⟨b, q1, q2, q3, q4⟩ := h.ed2 tq rfl rfl (by omega)
  rw [el_of ((hF.r tq a1 1).trans q1), el_of q1]
  exact hF.r q2 a2 j
theorem el25.fr {g : Nat} {sk : Nat → Nat} {L : List Nat} {cl ln : Nat → Nat} {iv iv2 : Nat → Nat → Int} {rv rv2 : Nat → Nat → Option Nat} {ls : List Nat} (h : WT g sk L cl ln iv rv) (hS : SKL sk L cl) (hF : fT ls L cl iv rv iv2 rv2) (a1 : ls.contains 25 = false) (a2 : ls.contains 1003 = false) : iv2 (sk 25) 2 = iv (sk 25) 2 ∧ ∀ j : Nat, (j : Int) < iv (sk 25) 2 → el rv2 (sk 25) j = el rv (sk 25) j := by
  have tq : ty L cl (sk 25) 25 := ⟨(hS 25 rfl).1, by rw [(hS 25 rfl).2]; rfl⟩
  refine ⟨hF.i tq a1 2, fun j hj => ?_⟩
  obtain ⟨b, q1, q2, q3, q4⟩ := h.ed2 tq rfl rfl (by omega)
  rw [el_of ((hF.r tq a1 1).trans q1), el_of q1]
  exact hF.r q2 a2 j
end
section
set_option maxHeartbeats 4000000 in
set_option maxRecDepth 100000 in
theorem G_isUpright {l : Launch} {G : GT} {mi : Nat} {sk : Nat → Nat} {L : List Nat} {cl ln : Nat → Nat} {iv : Nat → Nat → Int} {rv : Nat → Nat → Option Nat}  {r : Option Nat} (hW : WT (g0 G) sk L cl ln iv rv) (hS : SKL sk L cl) (t_r : ∀ b, r = some b → ty L cl b 100)  : Mc l G mi (Phi (g0 G) sk) PHM yX9_isUpright cX9_isUpright 2 (some .boolean) 0 [va_rf r] L cl ln iv rv 0 (fun v L2 cl2 ln2 iv2 rv2 => ∃ f : Int, v = some (.int (iI f)) ∧ L = L2 ∧ cl = cl2 ∧ ln = ln2 ∧ iv = iv2 ∧ rv = rv2 ∧ (f = 0 ∨ f = 1) ∧ (UPX sk ln iv rv r f)) := by
  refine Mc.mk (by decide) (by cases r <;> exact Nat.le_of_ble_eq_true rfl) ?_
  intro p e s m args below meth c A C hM
  have hph := Phi.le hW hS
  refine c_lveq (show lv_args 0 [va_rf r] = [(0, (va_rf r))] from by cases r <;> rfl) ?_
  refine hv2 (show XT L cl ln L cl ln from XT.refl) (show fT [] L cl iv rv iv rv from fT.refl) (fun hX0 hF0 => ?_)
  refine c_aloadr_n (j := 0) (r := r) C dX9_isUpright_0 rfl ?_
  refine c_astorer_n (r := r) (lv2 := [(1, (va_rf r)), (0, (va_rf r))]) C dX9_isUpright_1 (by decide) (by cases r <;> rfl) ?_
  have Lp1 : ∀ (nn : Nat) (tq : Option Nat) (rk : Int) , rk - 99 < (nn : Int) → (∀ b, tq = some b → ty L cl b 100) → (99 ≤ rk) → (∀ b, tq = some b → ((cl b : Nat) : Int) ≤ rk) → (UPI sk ln iv rv r tq) → cw p l e 0 ((PHM) + 0 - ((Phi (g0 G) sk) ln rv)) s m args below meth c G A 2 (MQ below (Qu G A (Qp G (Phi (g0 G) sk) ((Phi (g0 G) sk) ln rv) 0 (fun v L2 cl2 ln2 iv2 rv2 => ∃ f : Int, v = some (.int (iI f)) ∧ L = L2 ∧ cl = cl2 ∧ ln = ln2 ∧ iv = iv2 ∧ rv = rv2 ∧ (f = 0 ∨ f = 1) ∧ (UPX sk ln iv rv r f)))) args s (((PHM) + 0 - ((Phi (g0 G) sk) ln rv)) / 16) ((PHM) + 0 - ((Phi (g0 G) sk) ln rv)) A) (Phi (g0 G) sk) ((Phi (g0 G) sk) ln rv) L cl ln iv rv 0 2 [(1, (va_rf tq)), (0, (va_rf r))] [] := by
    intro nn
    induction nn with
    | zero =>
      intro tq rk  hm  ty_tq h99 hrk hup
      exact absurd hm (by omega)
    | succ nn ih1 =>
      intro tq rk  hm  ty_tq h99 hrk hup
      refine c_aloadr_n (j := 0) (r := tq) C dX9_isUpright_2 rfl ?_
      refine c_ifnull (r := tq) (tgt := 23) C dX9_isUpright_3 (by decide) (fun oq1 => ?_) (fun ob1 oq1 => ?_)
      · subst oq1
        refine c_lv (lv2 := [(1, .null), (0, (va_rf r))]) [0, 1] rfl ?_
        refine c_st (st2 := []) rfl ?_
        refine c_iconst C dX9_isUpright_23 ?_
        exact c_zret C dX9_isUpright_24 rfl (Or.inr rfl) (by decide) (rom0 hph hph (by decide)) ⟨1, rfl, rfl, rfl, rfl, rfl, rfl, (Or.inr rfl), hup.yes⟩
      · subst oq1
        refine hv2 (ty_tq ob1 rfl) (hrk ob1 rfl) (fun tob1 hkob1 => ?_)
        have tgob1 := bt_100 tob1.2
        refine c_lv (lv2 := [(1, .ref ob1), (0, (va_rf r))]) [0, 1] rfl ?_
        refine c_st (st2 := []) rfl ?_
        refine c_aload_n (j := 0) (x := ob1) C dX9_isUpright_6 rfl ?_
        have ri1 : 0 ≤ iv ob1 7 ∧ iv ob1 7 ≤ 1 := hW.int tob1 7
        refine c_get (k := 7) C ck_10 dX9_isUpright_7 w2_197 (by decide) tob1 rfl rfl (by decide) rfl ?_
        refine c_if_eq (tgt := 15) C (r32_c (lo := 0) (hi := 1) ri1.1 ri1.2 (by decide) (by decide)) dX9_isUpright_10 (by decide) (fun c1 => ?_) (fun c1 => ?_)
        · refine c_aload_n (j := 0) (x := ob1) C dX9_isUpright_15 rfl ?_
          rcases hW.opt tob1 2 rfl rfl with ⟨nq1, _⟩ | ⟨nb1, nq1, tnb1⟩
          · refine c_getr (k := 2) C ck_10 dX9_isUpright_16 w2_180 (by decide) tob1 rfl rfl (by decide) rfl nq1 ?_
            refine c_st (st2 := [.null]) rfl ?_
            refine c_astorer_n (r := none) (lv2 := [(1, .null), (0, (va_rf r))]) C dX9_isUpright_19 (by decide) (by cases r <;> rfl) ?_
            refine c_goto (tgt := 2) C dX9_isUpright_20 (by decide) ?_
            refine c_lv (lv2 := [(1, .null), (0, (va_rf r))]) [0, 1] rfl ?_
            exact ih1  none (rk - 1)  (by omega)  (fun _ q => by cases q) (by omega) (fun _ q => by cases q) (hup.next (by omega) nq1)
          · have rknb1 := hW.rank tob1 (k := 2) (by decide) nq1
            refine c_getr (k := 2) C ck_10 dX9_isUpright_16 w2_180 (by decide) tob1 rfl rfl (by decide) rfl nq1 ?_
            refine c_st (st2 := [.ref nb1]) rfl ?_
            refine c_astore_n (lv2 := [(1, .ref nb1), (0, (va_rf r))]) C dX9_isUpright_19 (by decide) (by cases r <;> rfl) ?_
            refine c_goto (tgt := 2) C dX9_isUpright_20 (by decide) ?_
            have trnb1 := bt_100 tnb1.2
            refine c_lv (lv2 := [(1, .ref nb1), (0, (va_rf r))]) [0, 1] rfl ?_
            exact ih1  (some nb1) (rk - 1)  (by omega)  (fun _ q => by cases q; exact tnb1) (by omega) (fun _ q => by cases q; omega) (hup.next (by omega) nq1)
        · refine c_iconst C dX9_isUpright_13 ?_
          exact c_zret C dX9_isUpright_14 rfl (Or.inl rfl) (by decide) (rom0 hph hph (by decide)) ⟨0, rfl, rfl, rfl, rfl, rfl, rfl, (Or.inl rfl), (hup.no (by omega))⟩
  refine c_lv (lv2 := [(1, (va_rf r)), (0, (va_rf r))]) [0, 1] rfl ?_
  exact Lp1 31 r 129  (by omega)  t_r (by omega) (fun b q => by have q2 := bt_100 (t_r b q).2; omega) UPI.refl
set_option maxHeartbeats 4000000 in
set_option maxRecDepth 100000 in
theorem G_tisWhole {l : Launch} {G : GT} {mi : Nat} {sk : Nat → Nat} {L : List Nat} {cl ln : Nat → Nat} {iv : Nat → Nat → Int} {rv : Nat → Nat → Option Nat}  {a0 : Nat} (hW : WT (g0 G) sk L cl ln iv rv) (hS : SKL sk L cl) (t_a0 : ty L cl a0 100)  : Mc l G mi (Phi (g0 G) sk) PHM yX9_isWhole cX9_isWhole 1 (some .boolean) 1 [.ref a0] L cl ln iv rv 0 (fun v L2 cl2 ln2 iv2 rv2 => ∃ f : Int, v = some (.int (iI f)) ∧ L = L2 ∧ cl = cl2 ∧ ln = ln2 ∧ iv = iv2 ∧ rv = rv2 ∧ (f = 0 ∨ f = 1) ∧ (TWX sk ln iv rv a0 f)) := by
  refine Mc.mk (by decide) (Nat.le_of_ble_eq_true rfl) ?_
  intro p e s m args below meth c A C hM
  refine hv3 (Phi.le hW hS) (show XT L cl ln L cl ln from XT.refl) (show fT [] L cl iv rv iv rv from fT.refl) (fun hph hX0 hF0 => ?_)
  refine c_aload_n (j := 0) (x := a0) C dX9_isWhole_0 rfl ?_
  refine d_callS (As := [.ref a0]) (rest := []) C hM (G_isUpright (r := (some a0)) hW hS (fun _ q => by cases q; exact t_a0)  ) dX9_isWhole_1 kS_X9_76 rfl rfl (Nat.le_of_ble_eq_true rfl) ⟨(Nat.le_of_ble_eq_true rfl), (Nat.le_of_ble_eq_true rfl)⟩ hph hph (show 0 + 0 = 0 from rfl) (by decide) (fun rh1 Lh1 clh1 lnh1 ivh1 rvh1 h1 => ?_)
  obtain ⟨f1, rfl, rfl, rfl, rfl, rfl, rfl, rgf1, exf1⟩ := h1
  refine c_st (st2 := [.int (iI f1)]) rfl ?_
  have gf1 : UPX sk ln iv rv (some a0) f1 := exf1
  refine c_if_eq (tgt := 21) C ⟨by omega, by omega⟩ dX9_isWhole_4 (by decide) (fun c1 => ?_) (fun c1 => ?_)
  · refine c_iconst C dX9_isWhole_21 ?_
    exact c_zret C dX9_isWhole_22 rfl (Or.inl rfl) (by decide) (rom0 hph hph (by decide)) ⟨0, rfl, rfl, rfl, rfl, rfl, rfl, (Or.inl rfl), (TWX.no1 gf1 (by omega))⟩
  · refine c_aload_n (j := 0) (x := a0) C dX9_isWhole_7 rfl ?_
    rcases hW.opt t_a0 3 rfl rfl with ⟨nq1, _⟩ | ⟨nb1, nq1, tnb1⟩
    · refine c_getr (k := 3) C ck_10 dX9_isWhole_8 w2_183 (by decide) t_a0 rfl rfl (by decide) rfl nq1 ?_
      refine c_st (st2 := [.null]) rfl ?_
      refine d_callS (As := [.null]) (rest := []) C hM (G_isUpright (r := none) hW hS (fun _ q => by cases q)  ) dX9_isWhole_11 kS_X9_76 rfl rfl (Nat.le_of_ble_eq_true rfl) ⟨(Nat.le_of_ble_eq_true rfl), (Nat.le_of_ble_eq_true rfl)⟩ hph hph (show 0 + 0 = 0 from rfl) (by decide) (fun rh2 Lh2 clh2 lnh2 ivh2 rvh2 h2 => ?_)
      obtain ⟨f2, rfl, rfl, rfl, rfl, rfl, rfl, rgf2, exf2⟩ := h2
      refine c_st (st2 := [.int (iI f2)]) rfl ?_
      have gf2 : UPX sk ln iv rv none f2 := exf2
      refine c_if_eq (tgt := 21) C ⟨by omega, by omega⟩ dX9_isWhole_14 (by decide) (fun c2 => ?_) (fun c2 => ?_)
      · refine c_iconst C dX9_isWhole_21 ?_
        exact c_zret C dX9_isWhole_22 rfl (Or.inl rfl) (by decide) (rom0 hph hph (by decide)) ⟨0, rfl, rfl, rfl, rfl, rfl, rfl, (Or.inl rfl), (TWX.no2 gf2 nq1 (by omega))⟩
      · refine c_iconst C dX9_isWhole_17 ?_
        refine c_goto (tgt := 22) C dX9_isWhole_18 (by decide) ?_
        exact c_zret C dX9_isWhole_22 rfl (Or.inr rfl) (by decide) (rom0 hph hph (by decide)) ⟨1, rfl, rfl, rfl, rfl, rfl, rfl, (Or.inr rfl), (TWX.yes gf1 gf2 nq1 (by omega) (by omega))⟩
    · have rknb1 := hW.rank t_a0 (k := 3) (by decide) nq1
      refine c_getr (k := 3) C ck_10 dX9_isWhole_8 w2_183 (by decide) t_a0 rfl rfl (by decide) rfl nq1 ?_
      refine c_st (st2 := [.ref nb1]) rfl ?_
      refine d_callS (As := [.ref nb1]) (rest := []) C hM (G_isUpright (r := (some nb1)) hW hS (fun _ q => by cases q; exact tnb1)  ) dX9_isWhole_11 kS_X9_76 rfl rfl (Nat.le_of_ble_eq_true rfl) ⟨(Nat.le_of_ble_eq_true rfl), (Nat.le_of_ble_eq_true rfl)⟩ hph hph (show 0 + 0 = 0 from rfl) (by decide) (fun rh3 Lh3 clh3 lnh3 ivh3 rvh3 h3 => ?_)
      obtain ⟨f3, rfl, rfl, rfl, rfl, rfl, rfl, rgf3, exf3⟩ := h3
      refine c_st (st2 := [.int (iI f3)]) rfl ?_
      have gf3 : UPX sk ln iv rv (some nb1) f3 := exf3
      refine c_if_eq (tgt := 21) C ⟨by omega, by omega⟩ dX9_isWhole_14 (by decide) (fun c3 => ?_) (fun c3 => ?_)
      · refine c_iconst C dX9_isWhole_21 ?_
        exact c_zret C dX9_isWhole_22 rfl (Or.inl rfl) (by decide) (rom0 hph hph (by decide)) ⟨0, rfl, rfl, rfl, rfl, rfl, rfl, (Or.inl rfl), (TWX.no2 gf3 nq1 (by omega))⟩
      · refine c_iconst C dX9_isWhole_17 ?_
        refine c_goto (tgt := 22) C dX9_isWhole_18 (by decide) ?_
        exact c_zret C dX9_isWhole_22 rfl (Or.inr rfl) (by decide) (rom0 hph hph (by decide)) ⟨1, rfl, rfl, rfl, rfl, rfl, rfl, (Or.inr rfl), (TWX.yes gf1 gf3 nq1 (by omega) (by omega))⟩
set_option maxHeartbeats 4000000 in
set_option maxRecDepth 100000 in
theorem G_whole {l : Launch} {G : GT} {mi : Nat} {sk : Nat → Nat} {L : List Nat} {cl ln : Nat → Nat} {iv : Nat → Nat → Int} {rv : Nat → Nat → Option Nat}  {a0 : Nat} {i : Int} (hW : WT (g0 G) sk L cl ln iv rv) (hS : SKL sk L cl) (t_a0 : ty L cl a0 13) (h_i : -2147483648 ≤ i ∧ i ≤ 2147483647) (hmr : MRK sk cl iv rv) : Mc l G mi (Phi (g0 G) sk) PHM yX10_whole cX10_whole 3 (some (.object "DotPress$Table")) 4 [.ref a0, .int (iI i)] L cl ln iv rv 0 (fun v L2 cl2 ln2 iv2 rv2 => ∃ f : Option Nat, v = some ((va_rf f)) ∧ L = L2 ∧ cl = cl2 ∧ ln = ln2 ∧ iv = iv2 ∧ rv = rv2 ∧ (∀ b, f = some b → ty L2 cl2 b 100) ∧ (WOX sk ln iv rv i f)) := by
  refine Mc.mk (by decide) (Nat.le_of_ble_eq_true rfl) ?_
  intro p e s m args below meth c A C hM
  refine hv5 (Phi.le hW hS) (show ty L cl (sk 22) 22 from ⟨(hS 22 rfl).1, by rw [(hS 22 rfl).2]; rfl⟩) (show ty L cl (sk 23) 23 from ⟨(hS 23 rfl).1, by rw [(hS 23 rfl).2]; rfl⟩) (show XT L cl ln L cl ln from XT.refl) (show fT [] L cl iv rv iv rv from fT.refl) (fun hph tsk22 tsk23 hX0 hF0 => ?_)
  refine c_aload_n (j := 0) (x := a0) C dX10_whole_0 rfl ?_
  refine c_iload_n (j := 1) C dX10_whole_1 rfl ?_
  have ri1 : 0 ≤ iv (sk 22) 2 ∧ iv (sk 22) 2 ≤ 30 := hW.int tsk22 2
  refine d_callV (As := [.int (iI i)]) (rest := []) C hM (C_alive (a0 := a0) (i := i) hW hS t_a0 (by omega) hmr) dX10_whole_2 kV_X10_35 rfl t_a0 rfl rfl (by decide) ck_11 rfl (Nat.le_of_ble_eq_true rfl) ⟨(Nat.le_of_ble_eq_true rfl), (Nat.le_of_ble_eq_true rfl)⟩ hph hph (show 0 + 0 = 0 from rfl) (by decide) (fun rh1 Lh1 clh1 lnh1 ivh1 rvh1 h1 => ?_)
  obtain ⟨f1, rfl, rfl, rfl, rfl, rfl, rfl, rgf1, exf1⟩ := h1
  refine c_st (st2 := [(va_rf f1)]) rfl ?_
  have gf1 : (∀ b, f1 = some b → ((cl b : Nat) : Int) < 100 + iv (sk 22) 2 ∧ ALV sk iv rv i b) ∧ (f1 = none → ∀ b, ¬ ALV sk iv rv i b) := exf1
  refine c_astorer_n (r := f1) (lv2 := [(2, (va_rf f1)), (0, .ref a0), (1, .int (iI i))]) C dX10_whole_5 (by decide) rfl ?_
  refine c_aloadr_n (j := 0) (r := f1) C dX10_whole_6 rfl ?_
  refine c_ifnull (r := f1) (tgt := 21) C dX10_whole_7 (by decide) (fun oq1 => ?_) (fun ob1 oq1 => ?_)
  · subst oq1
    refine c_lv (lv2 := [(2, .null), (0, .ref a0), (1, .int (iI i))]) [0, 1, 2] rfl ?_
    refine c_st (st2 := []) rfl ?_
    refine c_null C dX10_whole_21 ?_
    exact c_aret (x := none) C dX10_whole_22 rfl (Or.inl ⟨_, rfl⟩) (by decide) (rom0 hph hph (by decide)) ⟨none, rfl, rfl, rfl, rfl, rfl, rfl, (fun _ q => by cases q), (WOX.n1 (gf1.2 rfl))⟩
  · subst oq1
    refine hv2 (rgf1 ob1 rfl) (gf1.1 ob1 rfl) (fun tob1 akob1 => ?_)
    refine c_lv (lv2 := [(2, .ref ob1), (0, .ref a0), (1, .int (iI i))]) [0, 1, 2] rfl ?_
    refine c_st (st2 := []) rfl ?_
    refine c_aload_n (j := 0) (x := ob1) C dX10_whole_10 rfl ?_
    refine d_callV (As := []) (rest := []) C hM (G_tisWhole (a0 := ob1) hW hS tob1  ) dX10_whole_11 kV_X10_39 rfl tob1 rfl rfl (by decide) ck_10 rfl (Nat.le_of_ble_eq_true rfl) ⟨(Nat.le_of_ble_eq_true rfl), (Nat.le_of_ble_eq_true rfl)⟩ hph hph (show 0 + 0 = 0 from rfl) (by decide) (fun rh2 Lh2 clh2 lnh2 ivh2 rvh2 h2 => ?_)
    obtain ⟨f2, rfl, rfl, rfl, rfl, rfl, rfl, rgf2, exf2⟩ := h2
    refine c_st (st2 := [.int (iI f2)]) rfl ?_
    have gf2 : TWX sk ln iv rv ob1 f2 := exf2
    refine c_if_eq (tgt := 21) C ⟨by omega, by omega⟩ dX10_whole_14 (by decide) (fun c1 => ?_) (fun c1 => ?_)
    · refine c_null C dX10_whole_21 ?_
      exact c_aret (x := none) C dX10_whole_22 rfl (Or.inl ⟨_, rfl⟩) (by decide) (rom0 hph hph (by decide)) ⟨none, rfl, rfl, rfl, rfl, rfl, rfl, (fun _ q => by cases q), (WOX.n2 akob1.2 gf2 (by omega))⟩
    · refine c_aload_n (j := 0) (x := ob1) C dX10_whole_17 rfl ?_
      refine c_goto (tgt := 22) C dX10_whole_18 (by decide) ?_
      exact c_aret (x := some ob1) C dX10_whole_22 rfl (Or.inl ⟨_, rfl⟩) (by decide) (rom0 hph hph (by decide)) ⟨(some ob1), rfl, rfl, rfl, rfl, rfl, rfl, (fun _ q => by cases q; exact tob1), (WOX.ys akob1.2 gf2 (by omega))⟩
end
