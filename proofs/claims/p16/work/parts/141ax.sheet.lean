set_option maxHeartbeats 4000000 in
set_option maxRecDepth 100000 in
theorem G_zline {l : Launch} {G : GT} {mi : Nat} {sk : Nat → Nat} {L : List Nat} {cl ln : Nat → Nat} {iv : Nat → Nat → Int} {rv : Nat → Nat → Option Nat}  {a0 : Nat} (hW : WT (g0 G) sk L cl ln iv rv) (hS : SKL sk L cl) (t_a0 : ty L cl a0 203)  : Mc l G mi zPf 0 yX2_init cX2_init 1 none 1 [.ref a0] L cl ln iv rv 216 (fun v L2 cl2 ln2 iv2 rv2 => v = none ∧ XT L cl ln L2 cl2 ln2 ∧ fT [203] L cl iv rv iv2 rv2 ∧ WT (g0 G) sk L2 cl2 ln2 iv2 rv2 ∧ (∃ b, (∀ k, ([0] : List Nat).contains k = false → rv2 a0 k = rv a0 k) ∧ rv2 a0 0 = some b ∧ ty L2 cl2 b 64 ∧ iv2 a0 1 = 0 ∧ iv2 a0 2 = 0 ∧ b ∉ L)) := by
  refine Mc.mk (by decide) (Nat.le_of_ble_eq_true rfl) ?_
  intro p e s m args below meth c A C hM
  refine hv3 ((show zPf ln rv ≤ 0 from Nat.le_refl 0)) (show XT L cl ln L cl ln from XT.refl) (show fT [203] L cl iv rv iv rv from fT.refl) (fun hph hX0 hF0 => ?_)
  refine c_aload_n (j := 0) (x := a0) C dX2_init_0 rfl ?_
  refine c_objInit C dX2_init_1 w4_43 w1_30 w1_31 (by decide) (Nat.le_of_ble_eq_true rfl) ?_
  refine c_aload_n (j := 0) (x := a0) C dX2_init_4 rfl ?_
  refine c_sipush (z := 200) C dX2_init_5 (by decide) ?_
  refine c_newaI (z := 200) (N := 200) C 64 dX2_init_8 w1_57 rfl (by omega) (by omega) (rom2 hph hph (by decide)) (fun qn1 cln1 lnn1 ivn1 rvn1 hqn1 hcn1 hln1 hin1 hrn1 => ⟨216, (z_in (by omega)), ?_⟩)
  refine c_g0 C (fun hg1 => ?_)
  refine hv5 (show ∀ b, b ≠ qn1 → lnn1 b = ln b from (fun b hb => by rw [hln1]; exact va_up_ne _ _ hb)) (show lnn1 qn1 = 200 from by rw [hln1]; exact va_up_self _ _ _) (hF0.new hX0 hqn1 hin1 hrn1) (show ty (L ++ [qn1]) cln1 qn1 64 from ty_new hcn1) (show qn1 ∉ L from fun h => hqn1 ((hX0 qn1 h).1)) (fun hxn1 lqn1 F1 tqn1 h0qn1 => ?_)
  refine hv2 (hW.new (ln2 := lnn1) hqn1 (hg1 qn1 (List.mem_append_right _ List.mem_cons_self)) hcn1 hxn1 hin1 hrn1 (fun _ => ⟨(show (-2147483648 : Int) ≤ 0 by decide), (show (0 : Int) ≤ 2147483647 by decide)⟩) (Or.inr (fun _ => rfl)) (fun _ => by show 200 ≤ lnn1 qn1 ∧ lnn1 qn1 ≤ 200; omega) rfl rfl) (XT.new hqn1 hcn1 hxn1) (fun W1 xl1 => ?_)
  refine hv3 (hX0.trans xl1) (xl1.skl hS) (xl1.ty t_a0) (fun X1 sk1 ty1 => ?_)
  refine c_putrF (x := (some qn1)) (k := 0) C ck_3 dX2_init_10 w4_44 (by decide) rfl rfl rfl ty1 rfl rfl (by decide) rfl (by rfl) (by rfl) (fun rv1 pq1 => ⟨216, (zp2 (Nat.le_refl _)), ?_⟩)
  refine hv2 (W1.putr pq1 ty1 (fun qr => by rw [ty1.2] at qr; cases qr) rfl (by decide)) (F1.putr X1 pq1 ty1 rfl) (fun W2 F2 => ?_)
  refine c_aload_n (j := 0) (x := a0) C dX2_init_13 rfl ?_
  refine c_iconst C dX2_init_14 ?_
  refine c_put (z := 0) (k := 1) C ck_3 dX2_init_15 w4_49 (by decide) rfl ty1 rfl rfl (by decide) rfl (by rfl) (by rfl) (fun iv1 pq2 => ?_)
  refine hv2 (W2.puti pq2 ty1 ⟨by decide, by decide⟩ rfl) (F2.puti X1 pq2 ty1 rfl) (fun W3 F3 => ?_)
  refine c_aload_n (j := 0) (x := a0) C dX2_init_18 rfl ?_
  refine c_iconst C dX2_init_19 ?_
  refine c_put (z := 0) (k := 2) C ck_3 dX2_init_20 w4_54 (by decide) rfl ty1 rfl rfl (by decide) rfl (by decide) (by decide) (fun iv2 pq3 => ?_)
  refine hv7 (W3.puti pq3 ty1 ⟨by decide, by decide⟩ rfl) (F3.puti X1 pq3 ty1 rfl) (show rv1 a0 0 = (some qn1) from by rw [pq1]; exact upr_s) (show ∀ k, ([0] : List Nat).contains k = false → rv1 a0 k = rv a0 k from fun k hk => (Eq.trans (show rv1 a0 k = rvn1 a0 k from (by rw [pq1]; exact upr_j (fun e => by subst e; exact absurd hk (by decide)))) (show rvn1 a0 k = rv a0 k from (by rw [hrn1]; exact congrFun (up0_a (ne_in t_a0.1 hqn1)) _)))) (show iv2 a0 1 = iv1 a0 1 from by rw [pq3]; exact up2_j (by decide)) (show iv1 a0 1 = 0 from by rw [pq2]; exact up2_s) (show iv2 a0 2 = 0 from by rw [pq3]; exact up2_s) (fun W4 F4 rp1 rn1 ie1 ie2 ie3 => ?_)
  refine hv2 (show (-2147483648) ≤ iv2 a0 1 ∧ iv2 a0 1 ≤ 2147483647 from W4.int ty1 1) (show (-2147483648) ≤ iv2 a0 2 ∧ iv2 a0 2 ≤ 2147483647 from W4.int ty1 2) (fun ri1 ri2 => ?_)
  exact c_vret C dX2_init_23 rfl (by decide) (rom0 hph (Nat.le_refl 0) (by decide)) ⟨rfl, X1, F4, W4, ⟨qn1, rn1, rp1, tqn1, (by omega), (by omega), h0qn1⟩⟩
set_option maxHeartbeats 4000000 in
set_option maxRecDepth 100000 in
theorem G_sat {l : Launch} {G : GT} {mi : Nat} {sk : Nat → Nat} {L : List Nat} {cl ln : Nat → Nat} {iv : Nat → Nat → Int} {rv : Nat → Nat → Option Nat}  {a0 : Nat} {i : Int} (hW : WT (g0 G) sk L cl ln iv rv) (hS : SKL sk L cl) (t_a0 : ty L cl a0 18) (h_i : -2147483648 ≤ i ∧ i ≤ 2147483647)  : Mc l G mi (Phi (g0 G) sk) PHM yX7_at cX7_at 2 (some (.object "DotPress$Line")) 0 [.ref a0, .int (iI i)] L cl ln iv rv 0 (fun v L2 cl2 ln2 iv2 rv2 => ∃ f : Option Nat, v = some ((va_rf f)) ∧ L = L2 ∧ cl = cl2 ∧ ln = ln2 ∧ iv = iv2 ∧ rv = rv2 ∧ (∀ b, f = some b → ty L2 cl2 b 19) ∧ (SATX iv rv a0 i f)) := by
  refine Mc.mk (by decide) (Nat.le_of_ble_eq_true rfl) ?_
  intro p e s m args below meth c A C hM
  refine hv4 (Phi.le hW hS) (show XT L cl ln L cl ln from XT.refl) (show fT [] L cl iv rv iv rv from fT.refl) (show 0 ≤ iv a0 1 ∧ iv a0 1 ≤ 200 from hW.int t_a0 1) (fun hph hX0 hF0 ri1 => ?_)
  refine c_iload_n (j := 1) C dX7_at_0 rfl ?_
  refine c_if_lt (tgt := 21) C ⟨by omega, by omega⟩ dX7_at_1 (by decide) (fun c1 => ?_) (fun c1 => ?_)
  · refine c_null C dX7_at_21 ?_
    exact c_aret (x := none) C dX7_at_22 rfl (Or.inl ⟨_, rfl⟩) (by decide) (rom0 hph hph (by decide)) ⟨none, rfl, rfl, rfl, rfl, rfl, rfl, (fun _ q => by cases q), (Or.inr ⟨by omega, rfl⟩)⟩
  · refine c_iload_n (j := 1) C dX7_at_4 rfl ?_
    refine c_aload_n (j := 0) (x := a0) C dX7_at_5 rfl ?_
    refine c_get (k := 1) C ck_8 dX7_at_6 w2_34 (by decide) t_a0 rfl rfl (by decide) rfl ?_
    refine c_icmp_ge (tgt := 21) C ⟨by omega, by omega⟩ (r32_c (lo := 0) (hi := 200) ri1.1 ri1.2 (by decide) (by decide)) dX7_at_9 (by decide) (fun c2 => ?_) (fun c2 => ?_)
    · refine c_null C dX7_at_21 ?_
      exact c_aret (x := none) C dX7_at_22 rfl (Or.inl ⟨_, rfl⟩) (by decide) (rom0 hph hph (by decide)) ⟨none, rfl, rfl, rfl, rfl, rfl, rfl, (fun _ q => by cases q), (Or.inr ⟨by omega, rfl⟩)⟩
    · refine c_aload_n (j := 0) (x := a0) C dX7_at_12 rfl ?_
      obtain ⟨rb1, rq1, trb1⟩ := hW.ref t_a0 0 rfl rfl rfl
      have lnrb1 : 200 ≤ ln rb1 ∧ ln rb1 ≤ 200 := hW.len trb1 rfl
      refine c_getr (k := 0) C ck_8 dX7_at_13 w2_33 (by decide) t_a0 rfl rfl (by decide) rfl rq1 ?_
      refine c_st (st2 := [.ref rb1]) rfl ?_
      refine c_iload_n (j := 1) C dX7_at_16 rfl ?_
      have ll1 : 200 ≤ ln rb1 ∧ ln rb1 ≤ 200 := hW.len trb1 rfl
      rcases hW.opt trb1 (i.toNat) rfl rfl with ⟨nq1, _⟩ | ⟨nb1, nq1, tnb1⟩
      · refine c_aaldL C dX7_at_17 trb1 rfl (by omega) (by omega) (by omega) nq1 ?_
        refine c_st (st2 := [.null]) rfl ?_
        refine c_goto (tgt := 22) C dX7_at_18 (by decide) ?_
        exact c_aret (x := none) C dX7_at_22 rfl (Or.inl ⟨_, rfl⟩) (by decide) (rom0 hph hph (by decide)) ⟨none, rfl, rfl, rfl, rfl, rfl, rfl, (fun _ q => by cases q), (Or.inl ⟨⟨by omega, by omega⟩, _, rq1, nq1.symm⟩)⟩
      · have tnb1 : ty L cl nb1 19 := tnb1
        refine c_aaldL C dX7_at_17 trb1 rfl (by omega) (by omega) (by omega) nq1 ?_
        refine c_st (st2 := [.ref nb1]) rfl ?_
        refine c_goto (tgt := 22) C dX7_at_18 (by decide) ?_
        exact c_aret (x := some nb1) C dX7_at_22 rfl (Or.inl ⟨_, rfl⟩) (by decide) (rom0 hph hph (by decide)) ⟨(some nb1), rfl, rfl, rfl, rfl, rfl, rfl, (fun _ q => by cases q; exact tnb1), (Or.inl ⟨⟨by omega, by omega⟩, _, rq1, nq1.symm⟩)⟩
set_option maxHeartbeats 4000000 in
set_option maxRecDepth 100000 in
theorem G_begin {l : Launch} {G : GT} {mi : Nat} {sk : Nat → Nat} {L : List Nat} {cl ln : Nat → Nat} {iv : Nat → Nat → Int} {rv : Nat → Nat → Option Nat}  {a0 : Nat} (hW : WT (g0 G) sk L cl ln iv rv) (hS : SKL sk L cl) (t_a0 : ty L cl a0 18)  : Mc l G mi (Phi (g0 G) sk) PHM yX7_begin cX7_begin 1 (some .boolean) 2 [.ref a0] L cl ln iv rv 0 (fun v L2 cl2 ln2 iv2 rv2 => ∃ f : Int, v = some (.int (iI f)) ∧ XT L cl ln L2 cl2 ln2 ∧ fT [18, 19, 64, 67, 203] L cl iv rv iv2 rv2 ∧ WT (g0 G) sk L2 cl2 ln2 iv2 rv2 ∧ (f = 0 ∨ f = 1) ∧ (((f = 0 ∧ iv2 a0 1 = iv a0 1) ∨ (f = 1 ∧ iv2 a0 1 = iv a0 1 + 1)) ∧ iv2 a0 2 = iv a0 2 ∧ BEX L cl iv rv iv2 rv2 a0 f)) := by
  refine Mc.mk (by decide) (Nat.le_of_ble_eq_true rfl) ?_
  intro p e s m args below meth c A C hM
  refine hv3 (Phi.le hW hS) (show XT L cl ln L cl ln from XT.refl) (show fT [18, 19, 64, 67, 203] L cl iv rv iv rv from fT.refl) (fun hph hX0 hF0 => ?_)
  refine c_aload_n (j := 0) (x := a0) C dX7_begin_0 rfl ?_
  have ri1 : 0 ≤ iv a0 1 ∧ iv a0 1 ≤ 200 := hW.int t_a0 1
  refine c_get (k := 1) C ck_8 dX7_begin_1 w2_34 (by decide) t_a0 rfl rfl (by decide) rfl ?_
  refine c_sipush (z := 200) C dX7_begin_4 (by decide) ?_
  refine c_icmp_lt (tgt := 12) C (r32_c (lo := 0) (hi := 200) ri1.1 ri1.2 (by decide) (by decide)) ⟨by decide, by decide⟩ dX7_begin_7 (by decide) (fun c1 => ?_) (fun c1 => ?_)
  · refine c_aload_n (j := 0) (x := a0) C dX7_begin_12 rfl ?_
    obtain ⟨rb1, rq1, trb1⟩ := hW.ref t_a0 0 rfl rfl rfl
    have lnrb1 : 200 ≤ ln rb1 ∧ ln rb1 ≤ 200 := hW.len trb1 rfl
    refine c_getr (k := 0) C ck_8 dX7_begin_13 w2_33 (by decide) t_a0 rfl rfl (by decide) rfl rq1 ?_
    refine c_st (st2 := [.ref rb1]) rfl ?_
    refine c_aload_n (j := 0) (x := a0) C dX7_begin_16 rfl ?_
    refine c_get (k := 1) C ck_8 dX7_begin_17 w2_34 (by decide) t_a0 rfl rfl (by decide) rfl ?_
    have ll1 : 200 ≤ ln rb1 ∧ ln rb1 ≤ 200 := hW.len trb1 rfl
    rcases hW.opt trb1 ((iv a0 1).toNat) rfl rfl with ⟨nq1, _⟩ | ⟨nb1, nq1, tnb1⟩
    · refine c_aaldL C dX7_begin_20 trb1 rfl (by omega) (by omega) (by omega) nq1 ?_
      refine c_st (st2 := [.null]) rfl ?_
      refine c_ifnonnull (r := none) (tgt := 40) C dX7_begin_21 (by decide) (fun _ q => by cases q) (fun _ => ?_)
      refine c_aload_n (j := 0) (x := a0) C dX7_begin_24 rfl ?_
      refine c_getr (k := 0) C ck_8 dX7_begin_25 w2_33 (by decide) t_a0 rfl rfl (by decide) rfl rq1 ?_
      refine c_st (st2 := [.ref rb1]) rfl ?_
      refine c_aload_n (j := 0) (x := a0) C dX7_begin_28 rfl ?_
      refine c_get (k := 1) C ck_8 dX7_begin_29 w2_34 (by decide) t_a0 rfl rfl (by decide) rfl ?_
      refine c_new C ck_3 dv_3 ⟨rfl, rfl⟩ rfl (by decide) dX7_begin_32 w2_31 w4_39 w1_22 (rom3 hph (Phi.le3 hW hS).1 (by omega)) (fun qn1 cln1 lnn1 ivn1 rvn1 hqn1 hcn1 hln1 hin1 hrn1 => ⟨19, (p_in (Phi.new hW hS hqn1 (fun b _ => by rw [hln1]) hrn1) (by omega)), ?_⟩)
      refine c_g0 C (fun hg1 => ?_)
      refine hv4 (show ∀ b, b ≠ qn1 → lnn1 b = ln b from (fun b _ => by rw [hln1])) (hF0.new hX0 hqn1 hin1 hrn1) (show ty (L ++ [qn1]) cln1 qn1 203 from ty_new hcn1) (show qn1 ∉ L from fun h => hqn1 ((hX0 qn1 h).1)) (fun hxn1 F1 tqn1 h0qn1 => ?_)
      refine hv2 (hW.new (ln2 := lnn1) hqn1 (hg1 qn1 (List.mem_append_right _ List.mem_cons_self)) hcn1 hxn1 hin1 hrn1 (fun _ => ⟨(show (-2147483648 : Int) ≤ 0 by decide), (show (0 : Int) ≤ 2147483647 by decide)⟩) (Or.inl rfl) (fun q => by cases q) rfl rfl) (XT.new hqn1 hcn1 hxn1) (fun W1 xl1 => ?_)
      refine hv2 (hX0.trans xl1) (xl1.skl hS) (fun X1 sk1 => ?_)
      refine c_dup C dX7_begin_35 rfl ?_
      have pl1 := Phi.le W1 sk1
      refine c_callIN (As := []) (rest := [.ref qn1, .int (iI (iv a0 1)), .ref rb1]) C hM (G_zline (a0 := qn1) W1 sk1 tqn1  ) dX7_begin_36 kN_X7_32 rfl rfl (Nat.le_of_ble_eq_true rfl) ⟨(Nat.le_of_ble_eq_true rfl), (Nat.le_of_ble_eq_true rfl)⟩ (rz3 hph (Phi.le3 W1 sk1).1 (by omega)) (fun rh1 Lh1 clh1 lnh1 ivh1 rvh1 h1 => ⟨235, (zk1 (by obtain ⟨_, xlh1x, flh1x, Wh1x, _⟩ := h1; exact Phi.fr W1 sk1 xlh1x flh1x rfl)), ?_⟩)
      obtain ⟨rfl, xl2, fl1, W2, exf1⟩ := h1
      refine hv5 (F1.call X1 fl1 rfl) (xl1.ty t_a0) (xl1.ty trb1) (X1.trans xl2) (xl2.skl sk1) (fun F2 ty1 ty2 X2 sk2 => ?_)
      refine c_st (st2 := [.ref qn1, .int (iI (iv a0 1)), .ref rb1]) rfl ?_
      obtain ⟨bexf1, exf1x, exf1r, exf1t, exf1i, exf1j, exf1n⟩ := exf1
      refine hv2 (show ∀ k, ([0] : List Nat).contains k = false → rvh1 qn1 k = none from fun k hk => (Eq.trans (show rvh1 qn1 k = rvn1 qn1 k from (exf1x k hk)) (show rvn1 qn1 k = none from (by rw [hrn1]; exact up0_s)))) (xl2.ty tqn1) (fun rn1 ty3 => ?_)
      refine c_retag (q := qn1) (t := 19) (by rw [ty3.2]; rfl) (fun clr1 hcr1 => ?_)
      refine hv4 (xl2.ty ty1) (xl2.ty ty2) (ty_rt exf1t hcr1 (ne_ty exf1t ty3 (by decide))) (show ty Lh1 clr1 qn1 19 from ⟨ty3.1, by rw [hcr1, va_up_self]; rfl⟩) (fun ty4 ty6 ty8 tqr1 => ?_)
      refine hv2 (ty_rt ty4 hcr1 (ne_ty ty4 ty3 (by decide))) (ty_rt ty6 hcr1 (ne_ty ty6 ty3 (by decide))) (fun ty5 ty7 => ?_)
      have W3 := W2.retag ty3.1 (by rw [ty3.2]; rfl) hcr1 (fun k => by
            rcases k with _ | _ | _ | k
            · exact W2.int ty3 0
            · exact ⟨(by show 0 ≤ ivh1 qn1 1; omega), (by show ivh1 qn1 1 ≤ 200; omega)⟩
            · exact ⟨(by show 0 ≤ ivh1 qn1 2; omega), (by show ivh1 qn1 2 ≤ 1; omega)⟩
            · exact W2.int ty3 (k + 3)) (fun k => by
            rcases k with _ | _ | _ | k
            · rw [exf1r]; exact rok_some tqr1 ty8 rfl (by decide) rfl
            · rw [rn1 1 (by decide)]; exact rok_none tqr1 rfl
            · rw [rn1 2 (by decide)]; exact rok_none tqr1 rfl
            · rw [rn1 (k + 3) (by simp)]; exact rok_none tqr1 rfl) rfl (fun z => by cases z) (fun z => by cases z) rfl
      refine hv4 (X2.rt hcr1 h0qn1) (sk2.rt hcr1 (by rw [ty3.2]; rfl)) (show 200 ≤ lnh1 rb1 ∧ lnh1 rb1 ≤ 200 from W3.len ty7 rfl) (show rvn1 rb1 ((iv a0 1).toNat) = rv rb1 ((iv a0 1).toNat) from (by rw [hrn1]; exact congrFun (up0_a (ne_in trb1.1 hqn1)) _)) (fun X3 sk3 ll2 re1 => ?_)
      rw [nq1] at re1
      have re2 : rvh1 rb1 ((iv a0 1).toNat) = rvn1 rb1 ((iv a0 1).toNat) := (fl1.r ty2 rfl (iv a0 1).toNat)
      rw [re1] at re2
      have ixe : (iv a0 1).toNat = (iv a0 1).toNat := by omega
      refine c_aastL (z := iv a0 1) C ck_3 dX7_begin_39 ty7 rfl tqr1 rfl rfl (by decide) (by omega) (by omega) (by omega) (fun rv1 pq1 => ⟨0, (by rw [Phi.line (iv := ivh1) W3 sk3 ty7 pq1 (by omega) (by rw [ixe]; exact re2)]; omega), ?_⟩)
      refine hv2 (W3.putr pq1 ty7 (rok_some ty7 tqr1 rfl (by decide) rfl) rfl (by decide)) (F2.putr X3 pq1 ty7 rfl) (fun W4 F3 => ?_)
      refine c_aload_n (j := 0) (x := a0) C dX7_begin_40 rfl ?_
      have re3 : rvn1 a0 0 = rv a0 0 := (by rw [hrn1]; exact congrFun (up0_a (ne_in t_a0.1 hqn1)) _)
      rw [rq1] at re3
      have re4 : rvh1 a0 0 = rvn1 a0 0 := (fl1.r ty1 rfl 0)
      rw [re3] at re4
      have re5 : rv1 a0 0 = rvh1 a0 0 := (by rw [pq1]; exact congrFun (upr_a (ne_ty ty5 ty7 (by decide))) _)
      rw [re4] at re5
      refine c_getr (k := 0) C ck_8 dX7_begin_41 w2_33 (by decide) ty5 rfl rfl (by decide) rfl re5 ?_
      refine c_st (st2 := [.ref rb1]) rfl ?_
      refine c_aload_n (j := 0) (x := a0) C dX7_begin_44 rfl ?_
      refine hv3 (show 0 ≤ ivh1 a0 1 ∧ ivh1 a0 1 ≤ 200 from W4.int ty5 1) (show ivh1 a0 1 = ivn1 a0 1 from fl1.i ty1 rfl 1) (show ivn1 a0 1 = iv a0 1 from by rw [hin1]; exact congrFun (up0_a (ne_in t_a0.1 hqn1)) _) (fun ri2 ie1 ie2 => ?_)
      refine c_get (k := 1) C ck_8 dX7_begin_45 w2_34 (by decide) ty5 rfl rfl (by decide) rfl ?_
      have re6 : rv1 rb1 (ivh1 a0 1).toNat = (some qn1) := by rw [show (ivh1 a0 1).toNat = (iv a0 1).toNat by omega, pq1]; exact upr_s
      refine c_aaldL C dX7_begin_48 ty7 rfl (by omega) (by omega) (by omega) re6 ?_
      refine c_st (st2 := [.ref qn1]) rfl ?_
      have pl2 := Phi.le W4 sk3
      refine d_callV (As := []) (rest := []) C hM (G_lclear (a0 := qn1) W4 sk3 tqr1  ) dX7_begin_49 kV_X7_33 rfl tqr1 rfl rfl (by decide) ck_3 rfl (Nat.le_of_ble_eq_true rfl) ⟨(Nat.le_of_ble_eq_true rfl), (Nat.le_of_ble_eq_true rfl)⟩ hph pl2 (show 0 + 0 = 0 from rfl) (by decide) (fun rh2 Lh2 clh2 lnh2 ivh2 rvh2 h2 => ?_)
      obtain ⟨rfl, rfl, rfl, rfl, rfl, fl2, W5, exf2⟩ := h2
      have F4 := F3.call X3 fl2 rfl
      refine c_st (st2 := []) rfl ?_
      refine hv3 (show 0 ≤ ivh2 qn1 1 ∧ ivh2 qn1 1 ≤ 200 from W5.int tqr1 1) (show 0 ≤ ivh2 qn1 2 ∧ ivh2 qn1 2 ≤ 1 from W5.int tqr1 2) (show ivh2 qn1 1 = 0 ∧ ivh2 qn1 2 = 0 ∧ LFR Lh1 clr1 ivh1 rv1 ivh2 qn1 from exf2) (fun ri3 ri4 gf2 => ?_)
      refine c_aload_n (j := 0) (x := a0) C dX7_begin_52 rfl ?_
      refine c_dup C dX7_begin_53 rfl ?_
      refine hv2 (show 0 ≤ ivh2 a0 1 ∧ ivh2 a0 1 ≤ 200 from W5.int ty5 1) (show ivh2 a0 1 = ivh1 a0 1 from fl2.i ty5 rfl 1) (fun ri5 ie5 => ?_)
      refine c_get (k := 1) C ck_8 dX7_begin_54 w2_34 (by decide) ty5 rfl rfl (by decide) rfl ?_
      refine c_iconst C dX7_begin_57 ?_
      refine c_iadd C dX7_begin_58 ?_
      refine c_put (z := (ivh2 a0 1) + 1) (k := 1) C ck_8 dX7_begin_59 w2_34 (by decide) rfl ty5 rfl rfl (by decide) rfl (by rfl) (by rfl) (fun iv1 pq2 => ?_)
      refine hv2 (W5.puti pq2 ty5 (show 0 ≤ ((ivh2 a0 1) + 1) ∧ ((ivh2 a0 1) + 1) ≤ 200 by omega) rfl) (F4.puti X3 pq2 ty5 rfl) (fun W6 F5 => ?_)
      refine c_iconst C dX7_begin_62 ?_
      refine hv13 (show 0 ≤ iv1 a0 1 ∧ iv1 a0 1 ≤ 200 from W6.int ty5 1) (show iv1 a0 1 = (ivh2 a0 1) + 1 from by rw [pq2]; exact up2_s) (show (-2147483648) ≤ iv1 a0 2 ∧ iv1 a0 2 ≤ 2147483647 from W6.int ty5 2) (show iv1 a0 2 = ivh2 a0 2 from by rw [pq2]; exact up2_j (by decide)) (show ivh2 a0 2 = ivh1 a0 2 from fl2.i ty5 rfl 2) (show ivh1 a0 2 = ivn1 a0 2 from fl1.i ty1 rfl 2) (show ivn1 a0 2 = iv a0 2 from by rw [hin1]; exact congrFun (up0_a (ne_in t_a0.1 hqn1)) _) (show 0 ≤ iv1 qn1 1 ∧ iv1 qn1 1 ≤ 200 from W6.int tqr1 1) (show iv1 qn1 1 = ivh2 qn1 1 from by rw [pq2]; exact up2_k (ne_ty tqr1 ty5 (by decide))) (show 0 ≤ iv1 qn1 2 ∧ iv1 qn1 2 ≤ 1 from W6.int tqr1 2) (show iv1 qn1 2 = ivh2 qn1 2 from by rw [pq2]; exact up2_k (ne_ty tqr1 ty5 (by decide))) (show rv1 rb1 ((iv a0 1).toNat) = (some qn1) from by rw [pq1]; exact upr_s) (show rv1 qn1 0 = rvh1 qn1 0 from (by rw [pq1]; exact congrFun (upr_a (ne_ty tqr1 ty7 (by decide))) _)) (fun ri6 ie6 ri7 ie7 ie8 ie9 ie10 ri8 ie11 ri9 ie12 rp1 re7 => ?_)
      have rn2 : rv1 rb1 (iv a0 1).toNat = some qn1 := by rw [show (iv a0 1).toNat = (iv a0 1).toNat by omega]; exact rp1
      have rr1 : ∀ j, j ≠ (iv a0 1).toNat → rv1 rb1 j = rv rb1 j := fun j hj => (Eq.trans (show rv1 rb1 j = rvh1 rb1 j from (by rw [pq1]; exact upr_j (by omega))) (Eq.trans (show rvh1 rb1 j = rvn1 rb1 j from (fl1.r ty2 rfl j)) (show rvn1 rb1 j = rv rb1 j from (by rw [hrn1]; exact congrFun (up0_a (ne_in trb1.1 hqn1)) _))))
      rw [exf1r] at re7
      exact c_zret C dX7_begin_63 rfl (Or.inr rfl) (by decide) (rom0 hph pl2 (by decide)) ⟨1, rfl, X3, F5, W6, (Or.inr rfl), ⟨by omega, by omega, BEX.fresh t_a0 hW rq1 (by omega) (by omega) h0qn1 (fun z => exf1n (X1 bexf1 z).1) (fun bb tbb hne j => by have tb1 := xl1.ty tbb; have tb2 := xl2.ty tb1; have tb3 := ty_rt tb2 hcr1 (ne_ty tb2 ty3 (by decide)); exact (Eq.trans (show iv1 bb j = ivh2 bb j from (by rw [pq2]; exact up2_k hne)) (Eq.trans (show ivh2 bb j = ivh1 bb j from (fl2.i tb3 rfl j)) (Eq.trans (show ivh1 bb j = ivn1 bb j from (fl1.i tb1 rfl j)) (show ivn1 bb j = iv bb j from (by rw [hin1]; exact congrFun (up0_a (ne_in tbb.1 hqn1)) _)))))) (fun bb tbb j => by have tb1 := xl1.ty tbb; have tb2 := xl2.ty tb1; have tb3 := ty_rt tb2 hcr1 (ne_ty tb2 ty3 (by decide)); exact (Eq.trans (show iv1 bb j = ivh2 bb j from (by rw [pq2]; exact up2_k (ne_ty tb3 ty5 (by decide)))) (Eq.trans (show ivh2 bb j = ivh1 bb j from (congrFun (exf2.2.2.1 _ tb3 (ne_in tbb.1 h0qn1)) j)) (Eq.trans (show ivh1 bb j = ivn1 bb j from (fl1.i tb1 rfl j)) (show ivn1 bb j = iv bb j from (by rw [hin1]; exact congrFun (up0_a (ne_in tbb.1 hqn1)) _)))))) (fun bb tbb j => by have tb1 := xl1.ty tbb; have tb2 := xl2.ty tb1; have tb3 := ty_rt tb2 hcr1 (ne_ty tb2 ty3 (by decide)); exact (Eq.trans (show iv1 bb j = ivh2 bb j from (by rw [pq2]; exact up2_k (ne_ty tb3 ty5 (by decide)))) (Eq.trans (show ivh2 bb j = ivh1 bb j from (fl2.i tb3 rfl j)) (Eq.trans (show ivh1 bb j = ivn1 bb j from (fl1.i tb1 rfl j)) (show ivn1 bb j = iv bb j from (by rw [hin1]; exact congrFun (up0_a (ne_in tbb.1 hqn1)) _)))))) (fun bb tbb j => by have tb1 := xl1.ty tbb; have tb2 := xl2.ty tb1; have tb3 := ty_rt tb2 hcr1 (ne_ty tb2 ty3 (by decide)); exact (Eq.trans (show rv1 bb j = rvh1 bb j from (by rw [pq1]; exact congrFun (upr_a (ne_ty tb3 ty7 (by decide))) _)) (Eq.trans (show rvh1 bb j = rvn1 bb j from (fl1.r tb1 rfl j)) (show rvn1 bb j = rv bb j from (by rw [hrn1]; exact congrFun (up0_a (ne_in tbb.1 hqn1)) _))))) (fun bb tbb j => by have tb1 := xl1.ty tbb; have tb2 := xl2.ty tb1; have tb3 := ty_rt tb2 hcr1 (ne_ty tb2 ty3 (by decide)); exact (Eq.trans (show rv1 bb j = rvh1 bb j from (by rw [pq1]; exact congrFun (upr_a (ne_ty tb3 ty7 (by decide))) _)) (Eq.trans (show rvh1 bb j = rvn1 bb j from (fl1.r tb1 rfl j)) (show rvn1 bb j = rv bb j from (by rw [hrn1]; exact congrFun (up0_a (ne_in tbb.1 hqn1)) _))))) (fun bb tbb hne j => by have tb1 := xl1.ty tbb; have tb2 := xl2.ty tb1; have tb3 := ty_rt tb2 hcr1 (ne_ty tb2 ty3 (by decide)); exact (Eq.trans (show rv1 bb j = rvh1 bb j from (by rw [pq1]; exact congrFun (upr_a hne) _)) (Eq.trans (show rvh1 bb j = rvn1 bb j from (fl1.r tb1 rfl j)) (show rvn1 bb j = rv bb j from (by rw [hrn1]; exact congrFun (up0_a (ne_in tbb.1 hqn1)) _))))) rr1 rn2 re7 (by omega) (by omega) (by omega) rfl⟩⟩
    · have tnb1 : ty L cl nb1 19 := tnb1
      refine c_aaldL C dX7_begin_20 trb1 rfl (by omega) (by omega) (by omega) nq1 ?_
      refine c_st (st2 := [.ref nb1]) rfl ?_
      refine c_ifnonnull (r := (some nb1)) (tgt := 40) C dX7_begin_21 (by decide) (fun _ _ => ?_) (fun q => by cases q)
      refine c_aload_n (j := 0) (x := a0) C dX7_begin_40 rfl ?_
      refine c_getr (k := 0) C ck_8 dX7_begin_41 w2_33 (by decide) t_a0 rfl rfl (by decide) rfl rq1 ?_
      refine c_st (st2 := [.ref rb1]) rfl ?_
      refine c_aload_n (j := 0) (x := a0) C dX7_begin_44 rfl ?_
      refine c_get (k := 1) C ck_8 dX7_begin_45 w2_34 (by decide) t_a0 rfl rfl (by decide) rfl ?_
      refine c_aaldL C dX7_begin_48 trb1 rfl (by omega) (by omega) (by omega) nq1 ?_
      refine c_st (st2 := [.ref nb1]) rfl ?_
      refine d_callV (As := []) (rest := []) C hM (G_lclear (a0 := nb1) hW hS tnb1  ) dX7_begin_49 kV_X7_33 rfl tnb1 rfl rfl (by decide) ck_3 rfl (Nat.le_of_ble_eq_true rfl) ⟨(Nat.le_of_ble_eq_true rfl), (Nat.le_of_ble_eq_true rfl)⟩ hph hph (show 0 + 0 = 0 from rfl) (by decide) (fun rh3 Lh3 clh3 lnh3 ivh3 rvh3 h3 => ?_)
      obtain ⟨rfl, rfl, rfl, rfl, rfl, fl3, W7, exf3⟩ := h3
      have F6 := hF0.call hX0 fl3 rfl
      refine c_st (st2 := []) rfl ?_
      refine hv3 (show 0 ≤ ivh3 nb1 1 ∧ ivh3 nb1 1 ≤ 200 from W7.int tnb1 1) (show 0 ≤ ivh3 nb1 2 ∧ ivh3 nb1 2 ≤ 1 from W7.int tnb1 2) (show ivh3 nb1 1 = 0 ∧ ivh3 nb1 2 = 0 ∧ LFR L cl iv rv ivh3 nb1 from exf3) (fun ri10 ri11 gf3 => ?_)
      refine c_aload_n (j := 0) (x := a0) C dX7_begin_52 rfl ?_
      refine c_dup C dX7_begin_53 rfl ?_
      refine hv2 (show 0 ≤ ivh3 a0 1 ∧ ivh3 a0 1 ≤ 200 from W7.int t_a0 1) (show ivh3 a0 1 = iv a0 1 from fl3.i t_a0 rfl 1) (fun ri12 ie15 => ?_)
      refine c_get (k := 1) C ck_8 dX7_begin_54 w2_34 (by decide) t_a0 rfl rfl (by decide) rfl ?_
      refine c_iconst C dX7_begin_57 ?_
      refine c_iadd C dX7_begin_58 ?_
      refine c_put (z := (ivh3 a0 1) + 1) (k := 1) C ck_8 dX7_begin_59 w2_34 (by decide) rfl t_a0 rfl rfl (by decide) rfl (by rfl) (by rfl) (fun iv2 pq3 => ?_)
      refine hv2 (W7.puti pq3 t_a0 (show 0 ≤ ((ivh3 a0 1) + 1) ∧ ((ivh3 a0 1) + 1) ≤ 200 by omega) rfl) (F6.puti hX0 pq3 t_a0 rfl) (fun W8 F7 => ?_)
      refine c_iconst C dX7_begin_62 ?_
      refine hv5 (show 0 ≤ iv2 a0 1 ∧ iv2 a0 1 ≤ 200 from W8.int t_a0 1) (show iv2 a0 1 = (ivh3 a0 1) + 1 from by rw [pq3]; exact up2_s) (show (-2147483648) ≤ iv2 a0 2 ∧ iv2 a0 2 ≤ 2147483647 from W8.int t_a0 2) (show iv2 a0 2 = ivh3 a0 2 from by rw [pq3]; exact up2_j (by decide)) (show ivh3 a0 2 = iv a0 2 from fl3.i t_a0 rfl 2) (fun ri13 ie16 ri14 ie17 ie18 => ?_)
      exact c_zret C dX7_begin_63 rfl (Or.inr rfl) (by decide) (rom0 hph hph (by decide)) ⟨1, rfl, hX0, F7, W8, (Or.inr rfl), ⟨by omega, by omega, BEX.old t_a0 hW W7 rq1 nq1 exf3.2.2 fl3 exf3.1 exf3.2.1 pq3 (by omega) (by omega) rfl⟩⟩
  · refine c_iconst C dX7_begin_10 ?_
    have ri15 : (-2147483648) ≤ iv a0 2 ∧ iv a0 2 ≤ 2147483647 := hW.int t_a0 2
    exact c_zret C dX7_begin_11 rfl (Or.inl rfl) (by decide) (rom0 hph hph (by decide)) ⟨0, rfl, hX0, hF0, hW, (Or.inl rfl), ⟨by omega, by omega, BEX.no (by decide) (by omega) (by omega)⟩⟩
set_option maxHeartbeats 4000000 in
set_option maxRecDepth 100000 in
theorem G_beginText {l : Launch} {G : GT} {mi : Nat} {sk : Nat → Nat} {L : List Nat} {cl ln : Nat → Nat} {iv : Nat → Nat → Int} {rv : Nat → Nat → Option Nat}  {a0 : Nat} (hW : WT (g0 G) sk L cl ln iv rv) (hS : SKL sk L cl) (t_a0 : ty L cl a0 18)  : Mc l G mi (Phi (g0 G) sk) PHM yX7_beginText cX7_beginText 1 (some .boolean) 3 [.ref a0] L cl ln iv rv 0 (fun v L2 cl2 ln2 iv2 rv2 => ∃ f : Int, v = some (.int (iI f)) ∧ XT L cl ln L2 cl2 ln2 ∧ fT [18, 19, 64, 67, 203] L cl iv rv iv2 rv2 ∧ WT (g0 G) sk L2 cl2 ln2 iv2 rv2 ∧ (f = 0 ∨ f = 1) ∧ (BTX L cl iv rv iv2 rv2 a0 f)) := by
  refine Mc.mk (by decide) (Nat.le_of_ble_eq_true rfl) ?_
  intro p e s m args below meth c A C hM
  refine hv3 (Phi.le hW hS) (show XT L cl ln L cl ln from XT.refl) (show fT [18, 19, 64, 67, 203] L cl iv rv iv rv from fT.refl) (fun hph hX0 hF0 => ?_)
  refine c_aload_n (j := 0) (x := a0) C dX7_beginText_0 rfl ?_
  refine c_aload_n (j := 0) (x := a0) C dX7_beginText_1 rfl ?_
  have ri1 : 0 ≤ iv a0 1 ∧ iv a0 1 ≤ 200 := hW.int t_a0 1
  refine c_get (k := 1) C ck_8 dX7_beginText_2 w2_34 (by decide) t_a0 rfl rfl (by decide) rfl ?_
  refine c_put (z := iv a0 1) (k := 2) C ck_8 dX7_beginText_5 w2_36 (by decide) rfl t_a0 rfl rfl (by decide) rfl (by rfl) (by rfl) (fun iv1 pq1 => ?_)
  refine hv2 (hW.puti pq1 t_a0 (show (-2147483648) ≤ (iv a0 1) ∧ (iv a0 1) ≤ 2147483647 by omega) rfl) (hF0.puti hX0 pq1 t_a0 rfl) (fun W1 F1 => ?_)
  refine c_aload_n (j := 0) (x := a0) C dX7_beginText_8 rfl ?_
  refine hv4 (show 0 ≤ iv1 a0 1 ∧ iv1 a0 1 ≤ 200 from W1.int t_a0 1) (show iv1 a0 1 = iv a0 1 from by rw [pq1]; exact up2_j (by decide)) (show (-2147483648) ≤ iv1 a0 2 ∧ iv1 a0 2 ≤ 2147483647 from W1.int t_a0 2) (show iv1 a0 2 = iv a0 1 from by rw [pq1]; exact up2_s) (fun ri2 ie1 ri3 ie2 => ?_)
  refine d_callV (As := []) (rest := []) C hM (G_begin (a0 := a0) W1 hS t_a0  ) dX7_beginText_9 kV_X7_54 rfl t_a0 rfl rfl (by decide) ck_8 rfl (Nat.le_of_ble_eq_true rfl) ⟨(Nat.le_of_ble_eq_true rfl), (Nat.le_of_ble_eq_true rfl)⟩ hph hph (show 0 + 0 = 0 from rfl) (by decide) (fun rh1 Lh1 clh1 lnh1 ivh1 rvh1 h1 => ?_)
  obtain ⟨f1, rfl, xl1, fl1, W2, rgf1, exf1⟩ := h1
  refine hv3 (F1.call hX0 fl1 rfl) (hX0.trans xl1) (xl1.skl hS) (fun F2 X1 sk1 => ?_)
  refine c_st (st2 := [.int (iI f1)]) rfl ?_
  refine hv3 (xl1.ty t_a0) (show ((f1 = 0 ∧ ivh1 a0 1 = iv1 a0 1) ∨ (f1 = 1 ∧ ivh1 a0 1 = iv1 a0 1 + 1)) ∧ ivh1 a0 2 = iv1 a0 2 ∧ BEX L cl iv1 rv ivh1 rvh1 a0 f1 from exf1) (Phi.le W2 sk1) (fun ty1 gf1 pl1 => ?_)
  refine hv2 (show 0 ≤ ivh1 a0 1 ∧ ivh1 a0 1 ≤ 200 from W2.int ty1 1) (show (-2147483648) ≤ ivh1 a0 2 ∧ ivh1 a0 2 ≤ 2147483647 from W2.int ty1 2) (fun ri4 ri5 => ?_)
  exact c_zret C dX7_beginText_12 rfl (by omega) (by decide) (rom0 hph pl1 (by decide)) ⟨f1, rfl, X1, F2, W2, (by omega), (BTX.mk t_a0 hW pq1 rfl gf1.2.2 gf1.2.1)⟩
set_option maxHeartbeats 4000000 in
set_option maxRecDepth 100000 in
theorem G_take {l : Launch} {G : GT} {mi : Nat} {sk : Nat → Nat} {L : List Nat} {cl ln : Nat → Nat} {iv : Nat → Nat → Int} {rv : Nat → Nat → Option Nat}  {a0 : Nat} {a1 : Nat} {x : Int} {w1 : Int} {h1 : Int} (hW : WT (g0 G) sk L cl ln iv rv) (hS : SKL sk L cl) (t_a0 : ty L cl a0 18) (t_a1 : ty L cl a1 15) (h_x : -2147483648 ≤ x ∧ x ≤ 2147483647) (h_w1 : -2147483648 ≤ w1 ∧ w1 ≤ 2147483647) (h_h1 : -2147483648 ≤ h1 ∧ h1 ≤ 2147483647) (hw : 1 ≤ w1 ∧ w1 ≤ 100) : Mc l G mi (Phi (g0 G) sk) PHM yX7_take cX7_take 10 (some .boolean) 4 [.ref a0, .ref a1, .int (iI x), .int (iI w1), .int (iI h1)] L cl ln iv rv 0 (fun v L2 cl2 ln2 iv2 rv2 => ∃ f : Int, v = some (.int (iI f)) ∧ XT L cl ln L2 cl2 ln2 ∧ fT [18, 19, 64, 67, 203] L cl iv rv iv2 rv2 ∧ WT (g0 G) sk L2 cl2 ln2 iv2 rv2 ∧ (f = 0 ∨ f = 1) ∧ (iv2 a0 2 = iv a0 2 ∧ TKE L cl iv rv iv2 rv2 a0 a1 x w1 h1 f)) := by
  refine Mc.mk (by decide) (Nat.le_of_ble_eq_true rfl) ?_
  intro p e s m args below meth c A C hM
  refine hv4 (Phi.le hW hS) (show XT L cl ln L cl ln from XT.refl) (show fT [18, 19, 64, 67, 203] L cl iv rv iv rv from fT.refl) (show (-2147483648) ≤ iv a0 2 ∧ iv a0 2 ≤ 2147483647 from hW.int t_a0 2) (fun hph hX0 hF0 ri1 => ?_)
  refine c_iconst C dX7_take_0 ?_
  refine c_istore (lv2 := [(5, .int (iI 0)), (0, .ref a0), (1, .ref a1), (2, .int (iI x)), (3, .int (iI w1)), (4, .int (iI h1))]) C dX7_take_1 (by decide) rfl ?_
  refine c_iconst C dX7_take_3 ?_
  refine c_istore (lv2 := [(6, .int (iI 0)), (5, .int (iI 0)), (0, .ref a0), (1, .ref a1), (2, .int (iI x)), (3, .int (iI w1)), (4, .int (iI h1))]) C dX7_take_4 (by decide) rfl ?_
  have Lp1 : ∀ (nn : Nat) (fr tn : Int) (Lb1 : List Nat) (clb1 lnb1 : Nat → Nat) (ivb1 : Nat → Nat → Int) (rvb1 : Nat → Nat → Option Nat) , 202 - tn < (nn : Int) → XT L cl ln Lb1 clb1 lnb1 → WT (g0 G) sk Lb1 clb1 lnb1 ivb1 rvb1 → fT [18, 19, 64, 67, 203] L cl iv rv ivb1 rvb1 → (0 ≤ fr ∧ fr ≤ 2147483647) → (0 ≤ tn ∧ tn ≤ 201) → (ivb1 a0 2 = iv a0 2) → (TKJ L cl iv rv ivb1 rvb1 a0 a1 x w1 h1 fr tn) → cw p l e 4 ((PHM) + 0 - ((Phi (g0 G) sk) ln rv)) s m args below meth c G A 10 (MQ below (Qu G A (Qp G (Phi (g0 G) sk) ((Phi (g0 G) sk) ln rv) 0 (fun v L2 cl2 ln2 iv2 rv2 => ∃ f : Int, v = some (.int (iI f)) ∧ XT L cl ln L2 cl2 ln2 ∧ fT [18, 19, 64, 67, 203] L cl iv rv iv2 rv2 ∧ WT (g0 G) sk L2 cl2 ln2 iv2 rv2 ∧ (f = 0 ∨ f = 1) ∧ (iv2 a0 2 = iv a0 2 ∧ TKE L cl iv rv iv2 rv2 a0 a1 x w1 h1 f)))) args s (((PHM) + 0 - ((Phi (g0 G) sk) ln rv)) / 16) ((PHM) + 0 - ((Phi (g0 G) sk) ln rv)) A) (Phi (g0 G) sk) ((Phi (g0 G) sk) ln rv) Lb1 clb1 lnb1 ivb1 rvb1 0 6 [(5, .int (iI fr)), (6, .int (iI tn)), (0, .ref a0), (1, .ref a1), (2, .int (iI x)), (3, .int (iI w1)), (4, .int (iI h1))] [] := by
    intro nn
    induction nn with
    | zero =>
      intro  fr tn Lb1 clb1 lnb1 ivb1 rvb1 hm Xb1 Wb1 Fb1  hfr htn hb2 hT
      have skb1 := Xb1.skl hS
      exact absurd hm (by omega)
    | succ nn ih1 =>
      intro  fr tn Lb1 clb1 lnb1 ivb1 rvb1 hm Xb1 Wb1 Fb1  hfr htn hb2 hT
      have skb1 := Xb1.skl hS
      refine c_iload (j := 1) C dX7_take_6 rfl ?_
      refine c_sipush (z := 200) C dX7_take_8 (by decide) ?_
      refine c_icmp_gt (tgt := 163) C (r32_c (lo := 0) (hi := 201) htn.1 htn.2 (by decide) (by decide)) ⟨by decide, by decide⟩ dX7_take_11 (by decide) (fun c1 => ?_) (fun c1 => ?_)
      · refine c_iconst C dX7_take_163 ?_
        refine hv2 (Xb1.ty t_a0) (Phi.le Wb1 skb1) (fun ty1 pl1 => ?_)
        have ri2 : (-2147483648) ≤ ivb1 a0 2 ∧ ivb1 a0 2 ≤ 2147483647 := Wb1.int ty1 2
        exact c_zret C dX7_take_164 rfl (Or.inl rfl) (by decide) (rom0 hph pl1 (by decide)) ⟨0, rfl, Xb1, Fb1, Wb1, (Or.inl rfl), ⟨by omega, hT.out (by omega) rfl⟩⟩
      · refine c_aload_n (j := 2) (x := a0) C dX7_take_14 rfl ?_
        refine c_aload_n (j := 2) (x := a0) C dX7_take_15 rfl ?_
        have ty2 := Xb1.ty t_a0
        have ri3 : 0 ≤ ivb1 a0 1 ∧ ivb1 a0 1 ≤ 200 := Wb1.int ty2 1
        refine c_get (k := 1) C ck_8 dX7_take_16 w2_34 (by decide) ty2 rfl rfl (by decide) rfl ?_
        refine c_iconst C dX7_take_19 ?_
        refine c_isub C dX7_take_20 ?_
        have pl2 := Phi.le Wb1 skb1
        refine d_callV (As := [.int (iI ((ivb1 a0 1) - 1))]) (rest := []) C hM (G_sat (a0 := a0) (i := (ivb1 a0 1) - 1) Wb1 skb1 ty2 (by omega) ) dX7_take_21 kV_X7_24 rfl ty2 rfl rfl (by decide) ck_8 rfl (Nat.le_of_ble_eq_true rfl) ⟨(Nat.le_of_ble_eq_true rfl), (Nat.le_of_ble_eq_true rfl)⟩ hph pl2 (show 0 + 0 = 0 from rfl) (by decide) (fun rh1 Lh1 clh1 lnh1 ivh1 rvh1 h1 => ?_)
        obtain ⟨f1, rfl, rfl, rfl, rfl, rfl, rfl, rgf1, exf1⟩ := h1
        refine c_st (st2 := [(va_rf f1)]) rfl ?_
        have gf1 : SATX ivb1 rvb1 a0 ((ivb1 a0 1) - 1) f1 := exf1
        refine c_astorer (r := f1) (lv2 := [(7, (va_rf f1)), (5, .int (iI fr)), (6, .int (iI tn)), (0, .ref a0), (1, .ref a1), (2, .int (iI x)), (3, .int (iI w1)), (4, .int (iI h1))]) C dX7_take_24 (by decide) rfl ?_
        refine c_aloadr (j := 0) (r := f1) C dX7_take_26 rfl ?_
        refine c_ifnonnull (r := f1) (tgt := 33) C dX7_take_28 (by decide) (fun ob1 oq1 => ?_) (fun oq1 => ?_)
        · subst oq1
          have tob1 := rgf1 ob1 rfl
          refine c_lv (lv2 := [(7, .ref ob1), (5, .int (iI fr)), (6, .int (iI tn)), (0, .ref a0), (1, .ref a1), (2, .int (iI x)), (3, .int (iI w1)), (4, .int (iI h1))]) [0, 1, 2, 3, 4, 5, 6, 7] rfl ?_
          refine c_st (st2 := []) rfl ?_
          refine c_iload_n (j := 6) C dX7_take_33 rfl ?_
          refine c_aload (j := 0) (x := ob1) C dX7_take_34 rfl ?_
          have ri4 : 0 ≤ ivb1 ob1 1 ∧ ivb1 ob1 1 ≤ 200 := Wb1.int tob1 1
          refine c_get (k := 1) C ck_3 dX7_take_36 w4_51 (by decide) tob1 rfl rfl (by decide) rfl ?_
          refine c_if_le (tgt := 52) C (r32_c (lo := 0) (hi := 200) ri4.1 ri4.2 (by decide) (by decide)) dX7_take_39 (by decide) (fun c2 => ?_) (fun c2 => ?_)
          · refine c_iconst C dX7_take_52 ?_
            refine c_isub C dX7_take_53 ?_
            refine c_istore (lv2 := [(8, .int (iI (w1 - 0))), (7, .ref ob1), (5, .int (iI fr)), (6, .int (iI tn)), (0, .ref a0), (1, .ref a1), (2, .int (iI x)), (3, .int (iI w1)), (4, .int (iI h1))]) C dX7_take_54 (by decide) rfl ?_
            refine c_aload_n (j := 5) (x := a1) C dX7_take_56 rfl ?_
            refine hv2 (Xb1.ty t_a1) (show ivb1 a1 7 = iv a1 7 from Fb1.i t_a1 rfl 7) (fun ty3 ie4 => ?_)
            have ri5 : 0 ≤ ivb1 a1 7 ∧ ivb1 a1 7 ≤ 100000 := Wb1.int ty3 7
            refine c_get (k := 7) C ck_7 dX7_take_57 w1_148 (by decide) ty3 rfl rfl (by decide) rfl ?_
            refine c_iload (j := 2) C dX7_take_60 rfl ?_
            refine c_isub C dX7_take_62 ?_
            refine c_iload (j := 0) C dX7_take_63 rfl ?_
            refine c_icmp_gt (tgt := 82) C ⟨by omega, by omega⟩ ⟨by omega, by omega⟩ dX7_take_65 (by decide) (fun c3 => ?_) (fun c3 => ?_)
            · refine c_aload_n (j := 5) (x := a1) C dX7_take_82 rfl ?_
              refine c_iload_n (j := 6) C dX7_take_83 rfl ?_
              refine c_iload (j := 2) C dX7_take_84 rfl ?_
              refine c_iload (j := 0) C dX7_take_86 rfl ?_
              refine c_iconst C dX7_take_88 ?_
              refine c_isub C dX7_take_89 ?_
              refine d_callV (As := [.int (iI x), .int (iI fr), .int (iI ((w1 - 0) - 1))]) (rest := []) C hM (G_lastBreak (a0 := a1) (x := x) (i := fr) (n := (w1 - 0) - 1) Wb1 skb1 ty3 (by omega) (by omega) (by omega) (by show 0 ≤ fr; omega)) dX7_take_90 kV_X7_46 rfl ty3 rfl rfl (by decide) ck_7 rfl (Nat.le_of_ble_eq_true rfl) ⟨(Nat.le_of_ble_eq_true rfl), (Nat.le_of_ble_eq_true rfl)⟩ hph pl2 (show 0 + 0 = 0 from rfl) (by decide) (fun rh2 Lh2 clh2 lnh2 ivh2 rvh2 h2 => ?_)
              obtain ⟨f2, rfl, rfl, rfl, rfl, rfl, rfl, rgf2, exf2⟩ := h2
              refine c_st (st2 := [.int (iI f2)]) rfl ?_
              have gf2 : fr ≤ f2 ∧ LBX ivb1 rvb1 a1 x fr ((w1 - 0) - 1) f2 := exf2
              refine c_istore (lv2 := [(9, .int (iI f2)), (8, .int (iI (w1 - 0))), (7, .ref ob1), (5, .int (iI fr)), (6, .int (iI tn)), (0, .ref a0), (1, .ref a1), (2, .int (iI x)), (3, .int (iI w1)), (4, .int (iI h1))]) C dX7_take_93 (by decide) rfl ?_
              refine c_iload (j := 0) C dX7_take_95 rfl ?_
              refine c_iload (j := 3) C dX7_take_97 rfl ?_
              refine c_icmp_le (tgt := 126) C ⟨by omega, by omega⟩ (r32_c (lo := 0) (hi := 2147483647) hfr.1 hfr.2 (by decide) (by decide)) dX7_take_99 (by decide) (fun c4 => ?_) (fun c4 => ?_)
              · refine c_aload (j := 2) (x := ob1) C dX7_take_126 rfl ?_
                refine c_get (k := 1) C ck_3 dX7_take_128 w4_51 (by decide) tob1 rfl rfl (by decide) rfl ?_
                refine c_if_ne (tgt := 148) C (r32_c (lo := 0) (hi := 200) ri4.1 ri4.2 (by decide) (by decide)) dX7_take_131 (by decide) (fun c5 => ?_) (fun c5 => ?_)
                · have tm : TKM L cl iv rv ivb1 rvb1 a0 a1 x w1 h1 fr tn := TKJ.next (m := ivb1 a1 7) (z := w1 - 0) hT Xb1 hW Fb1 t_a1 gf1 rfl (by omega) ⟨by omega, by omega⟩ (by omega) (by omega) gf2.2 (by omega) (by omega)
                  refine c_aload_n (j := 5) (x := a0) C dX7_take_148 rfl ?_
                  have ri6 : (-2147483648) ≤ ivb1 a0 2 ∧ ivb1 a0 2 ≤ 2147483647 := Wb1.int ty2 2
                  refine d_callV (As := []) (rest := []) C hM (G_begin (a0 := a0) Wb1 skb1 ty2  ) dX7_take_149 kV_X7_54 rfl ty2 rfl rfl (by decide) ck_8 rfl (Nat.le_of_ble_eq_true rfl) ⟨(Nat.le_of_ble_eq_true rfl), (Nat.le_of_ble_eq_true rfl)⟩ hph pl2 (show 0 + 0 = 0 from rfl) (by decide) (fun rh3 Lh3 clh3 lnh3 ivh3 rvh3 h3 => ?_)
                  obtain ⟨f3, rfl, xl3, fl3, W3, rgf3, exf3⟩ := h3
                  refine hv3 (Fb1.call Xb1 fl3 rfl) (Xb1.trans xl3) (xl3.skl skb1) (fun F1 X1 sk1 => ?_)
                  refine c_st (st2 := [.int (iI f3)]) rfl ?_
                  refine hv2 (xl3.ty ty2) (show ((f3 = 0 ∧ ivh3 a0 1 = ivb1 a0 1) ∨ (f3 = 1 ∧ ivh3 a0 1 = ivb1 a0 1 + 1)) ∧ ivh3 a0 2 = ivb1 a0 2 ∧ BEX Lb1 clb1 ivb1 rvb1 ivh3 rvh3 a0 f3 from exf3) (fun ty4 gf3 => ?_)
                  refine hv2 (show 0 ≤ ivh3 a0 1 ∧ ivh3 a0 1 ≤ 200 from W3.int ty4 1) (show (-2147483648) ≤ ivh3 a0 2 ∧ ivh3 a0 2 ≤ 2147483647 from W3.int ty4 2) (fun ri7 ri8 => ?_)
                  refine c_if_ne (tgt := 157) C (r32_pq gf3.1) dX7_take_152 (by decide) (fun c6 => ?_) (fun c6 => ?_)
                  · replace gf3 := (And.intro (gf3.1.resolve_left (fun q => c6 q.1)) gf3.2)
                    refine c_iinc (z := tn) (j := 4) (lv2 := [(6, .int (iI (tn + 1))), (9, .int (iI f2)), (8, .int (iI (w1 - 0))), (7, .ref ob1), (5, .int (iI fr)), (0, .ref a0), (1, .ref a1), (2, .int (iI x)), (3, .int (iI w1)), (4, .int (iI h1))]) C dX7_take_157 rfl (by decide) rfl ?_
                    refine c_goto (tgt := 6) C dX7_take_160 (by decide) ?_
                    refine c_lv (lv2 := [(5, .int (iI fr)), (6, .int (iI (tn + 1))), (0, .ref a0), (1, .ref a1), (2, .int (iI x)), (3, .int (iI w1)), (4, .int (iI h1))]) [4, 0, 5, 6, 7, 8, 9] rfl ?_
                    exact ih1  fr (tn + 1) _ _ _ _ _ (by omega) X1 W3 F1  (by omega) (by omega) (by show ivh3 a0 2 = iv a0 2; omega) (tm.go Xb1 gf3.2.2 (by omega))
                  · replace gf3 := (And.intro (gf3.1.resolve_right (fun q => absurd (q.1.symm.trans c6) (by decide))) gf3.2)
                    refine c_iconst C dX7_take_155 ?_
                    have pl3 := Phi.le W3 sk1
                    exact c_zret C dX7_take_156 rfl (Or.inl rfl) (by decide) (rom0 hph pl3 (by decide)) ⟨0, rfl, X1, F1, W3, (Or.inl rfl), ⟨by omega, tm.full Xb1 gf3.2.2 (by omega) rfl⟩⟩
                · refine c_aload (j := 2) (x := ob1) C dX7_take_134 rfl ?_
                  refine c_aload_n (j := 6) (x := a1) C dX7_take_136 rfl ?_
                  refine c_iload (j := 3) C dX7_take_137 rfl ?_
                  refine c_aload_n (j := 6) (x := a1) C dX7_take_139 rfl ?_
                  refine c_get (k := 7) C ck_7 dX7_take_140 w1_148 (by decide) ty3 rfl rfl (by decide) rfl ?_
                  have ri9 : 0 ≤ ivb1 ob1 2 ∧ ivb1 ob1 2 ≤ 1 := Wb1.int tob1 2
                  refine d_callV (As := [.ref a1, .int (iI fr), .int (iI (ivb1 a1 7))]) (rest := []) C hM (G_addPart (a0 := ob1) (a1 := a1) (i := fr) (j := ivb1 a1 7) Wb1 skb1 tob1 ty3 (by omega) (by omega) (by show 0 ≤ fr; omega)) dX7_take_143 kV_X7_42 rfl tob1 rfl rfl (by decide) ck_3 rfl (Nat.le_of_ble_eq_true rfl) ⟨(Nat.le_of_ble_eq_true rfl), (Nat.le_of_ble_eq_true rfl)⟩ hph pl2 (show 0 + 0 = 0 from rfl) (by decide) (fun rh4 Lh4 clh4 lnh4 ivh4 rvh4 h4 => ?_)
                  obtain ⟨rfl, rfl, rfl, rfl, rfl, fl4, W4, exf4⟩ := h4
                  have F2 := Fb1.call Xb1 fl4 rfl
                  refine c_st (st2 := []) rfl ?_
                  refine hv2 (show 0 ≤ ivh4 ob1 2 ∧ ivh4 ob1 2 ≤ 1 from W4.int tob1 2) (show (LFR Lb1 clb1 ivb1 rvb1 ivh4 ob1 ∧ ivh4 ob1 2 = ivb1 ob1 2) ∧ APX ivb1 rvb1 ivh4 ob1 a1 fr (ivb1 a1 7) from exf4) (fun ri10 gf4 => ?_)
                  refine c_iconst C dX7_take_146 ?_
                  refine hv2 (show (-2147483648) ≤ ivh4 a0 2 ∧ ivh4 a0 2 ≤ 2147483647 from W4.int ty2 2) (show ivh4 a0 2 = ivb1 a0 2 from fl4.i ty2 rfl 2) (fun ri11 ie10 => ?_)
                  exact c_zret C dX7_take_147 rfl (Or.inr rfl) (by decide) (rom0 hph pl2 (by decide)) ⟨1, rfl, Xb1, F2, W4, (Or.inr rfl), ⟨by omega, TKJ.add (z := w1 - 0) hT Xb1 hW Wb1 Fb1 t_a0 t_a1 gf1 gf4.1.1 fl4 gf4.1.2 gf4.2 rfl (by omega) ⟨by omega, by omega⟩ (by omega) (by omega) (Or.inr ⟨by omega, gf2.2, by omega⟩) rfl⟩⟩
              · refine c_aload (j := 2) (x := ob1) C dX7_take_102 rfl ?_
                refine c_aload_n (j := 6) (x := a1) C dX7_take_104 rfl ?_
                refine c_iload (j := 3) C dX7_take_105 rfl ?_
                refine c_iload (j := 0) C dX7_take_107 rfl ?_
                have ri12 : 0 ≤ ivb1 ob1 2 ∧ ivb1 ob1 2 ≤ 1 := Wb1.int tob1 2
                refine d_callV (As := [.ref a1, .int (iI fr), .int (iI f2)]) (rest := []) C hM (G_addPart (a0 := ob1) (a1 := a1) (i := fr) (j := f2) Wb1 skb1 tob1 ty3 (by omega) (by omega) (by show 0 ≤ fr; omega)) dX7_take_109 kV_X7_42 rfl tob1 rfl rfl (by decide) ck_3 rfl (Nat.le_of_ble_eq_true rfl) ⟨(Nat.le_of_ble_eq_true rfl), (Nat.le_of_ble_eq_true rfl)⟩ hph pl2 (show 0 + 0 = 0 from rfl) (by decide) (fun rh5 Lh5 clh5 lnh5 ivh5 rvh5 h5 => ?_)
                obtain ⟨rfl, rfl, rfl, rfl, rfl, fl5, W5, exf5⟩ := h5
                have F3 := Fb1.call Xb1 fl5 rfl
                refine c_st (st2 := []) rfl ?_
                refine hv2 (show 0 ≤ ivh5 ob1 2 ∧ ivh5 ob1 2 ≤ 1 from W5.int tob1 2) (show (LFR Lb1 clb1 ivb1 rvb1 ivh5 ob1 ∧ ivh5 ob1 2 = ivb1 ob1 2) ∧ APX ivb1 rvb1 ivh5 ob1 a1 fr f2 from exf5) (fun ri13 gf5 => ?_)
                refine c_aload (j := 2) (x := ob1) C dX7_take_112 rfl ?_
                refine c_iload (j := 9) C dX7_take_114 rfl ?_
                have ri14 : 0 ≤ ivh5 ob1 1 ∧ ivh5 ob1 1 ≤ 200 := W5.int tob1 1
                refine d_callV (As := [.int (iI h1)]) (rest := []) C hM (G_ladd (a0 := ob1) (x := h1) W5 skb1 tob1 (by omega) ) dX7_take_116 kV_X7_50 rfl tob1 rfl rfl (by decide) ck_3 rfl (Nat.le_of_ble_eq_true rfl) ⟨(Nat.le_of_ble_eq_true rfl), (Nat.le_of_ble_eq_true rfl)⟩ hph pl2 (show 0 + 0 = 0 from rfl) (by decide) (fun rh6 Lh6 clh6 lnh6 ivh6 rvh6 h6 => ?_)
                obtain ⟨rfl, rfl, rfl, rfl, rfl, fl6, W6, exf6⟩ := h6
                have F4 := F3.call Xb1 fl6 rfl
                refine c_st (st2 := []) rfl ?_
                refine hv3 (show 0 ≤ ivh6 ob1 1 ∧ ivh6 ob1 1 ≤ 200 from W6.int tob1 1) (show 0 ≤ ivh6 ob1 2 ∧ ivh6 ob1 2 ≤ 1 from W6.int tob1 2) (show ((ivh6 ob1 1 = ivh5 ob1 1 ∧ ivh5 ob1 1 = 200) ∨ ivh6 ob1 1 = ivh5 ob1 1 + 1) ∧ (LFR Lb1 clb1 ivh5 rvb1 ivh6 ob1 ∧ ivh6 ob1 2 = ivh5 ob1 2) ∧ LAX ivh5 rvb1 ivh6 ob1 h1 from exf6) (fun ri15 ri16 gf6 => ?_)
                refine c_iload (j := 0) C dX7_take_119 rfl ?_
                refine c_istore (lv2 := [(5, .int (iI f2)), (9, .int (iI f2)), (8, .int (iI (w1 - 0))), (7, .ref ob1), (6, .int (iI tn)), (0, .ref a0), (1, .ref a1), (2, .int (iI x)), (3, .int (iI w1)), (4, .int (iI h1))]) C dX7_take_121 (by decide) rfl ?_
                refine c_goto (tgt := 148) C dX7_take_123 (by decide) ?_
                have tm : TKM L cl iv rv ivh6 rvb1 a0 a1 x w1 h1 f2 tn := TKJ.part (m := ivb1 a1 7) (z := w1 - 0) hT Xb1 hW Wb1 Fb1 t_a0 t_a1 gf1 gf5.1.1 fl5 gf5.1.2 gf5.2 gf6.2.1.1 fl6 gf6.2.1.2 gf6.2.2 rfl (by omega) ⟨by omega, by omega⟩ (by omega) (by omega) (by omega) gf2.2 (by omega)
                refine c_aload_n (j := 5) (x := a0) C dX7_take_148 rfl ?_
                refine hv6 (show 0 ≤ ivh6 a0 1 ∧ ivh6 a0 1 ≤ 200 from W6.int ty2 1) (show ivh6 a0 1 = ivh5 a0 1 from fl6.i ty2 rfl 1) (show ivh5 a0 1 = ivb1 a0 1 from fl5.i ty2 rfl 1) (show (-2147483648) ≤ ivh6 a0 2 ∧ ivh6 a0 2 ≤ 2147483647 from W6.int ty2 2) (show ivh6 a0 2 = ivh5 a0 2 from fl6.i ty2 rfl 2) (show ivh5 a0 2 = ivb1 a0 2 from fl5.i ty2 rfl 2) (fun ri17 ie17 ie18 ri18 ie19 ie20 => ?_)
                refine d_callV (As := []) (rest := []) C hM (G_begin (a0 := a0) W6 skb1 ty2  ) dX7_take_149 kV_X7_54 rfl ty2 rfl rfl (by decide) ck_8 rfl (Nat.le_of_ble_eq_true rfl) ⟨(Nat.le_of_ble_eq_true rfl), (Nat.le_of_ble_eq_true rfl)⟩ hph pl2 (show 0 + 0 = 0 from rfl) (by decide) (fun rh7 Lh7 clh7 lnh7 ivh7 rvh7 h7 => ?_)
                obtain ⟨f7, rfl, xl7, fl7, W7, rgf7, exf7⟩ := h7
                refine hv3 (F4.call Xb1 fl7 rfl) (Xb1.trans xl7) (xl7.skl skb1) (fun F5 X2 sk2 => ?_)
                refine c_st (st2 := [.int (iI f7)]) rfl ?_
                refine hv2 (xl7.ty ty2) (show ((f7 = 0 ∧ ivh7 a0 1 = ivh6 a0 1) ∨ (f7 = 1 ∧ ivh7 a0 1 = ivh6 a0 1 + 1)) ∧ ivh7 a0 2 = ivh6 a0 2 ∧ BEX Lb1 clb1 ivh6 rvb1 ivh7 rvh7 a0 f7 from exf7) (fun ty5 gf7 => ?_)
                refine hv2 (show 0 ≤ ivh7 a0 1 ∧ ivh7 a0 1 ≤ 200 from W7.int ty5 1) (show (-2147483648) ≤ ivh7 a0 2 ∧ ivh7 a0 2 ≤ 2147483647 from W7.int ty5 2) (fun ri19 ri20 => ?_)
                refine c_if_ne (tgt := 157) C (r32_pq gf7.1) dX7_take_152 (by decide) (fun c7 => ?_) (fun c7 => ?_)
                · replace gf7 := (And.intro (gf7.1.resolve_left (fun q => c7 q.1)) gf7.2)
                  refine c_iinc (z := tn) (j := 4) (lv2 := [(6, .int (iI (tn + 1))), (5, .int (iI f2)), (9, .int (iI f2)), (8, .int (iI (w1 - 0))), (7, .ref ob1), (0, .ref a0), (1, .ref a1), (2, .int (iI x)), (3, .int (iI w1)), (4, .int (iI h1))]) C dX7_take_157 rfl (by decide) rfl ?_
                  refine c_goto (tgt := 6) C dX7_take_160 (by decide) ?_
                  refine c_lv (lv2 := [(5, .int (iI f2)), (6, .int (iI (tn + 1))), (0, .ref a0), (1, .ref a1), (2, .int (iI x)), (3, .int (iI w1)), (4, .int (iI h1))]) [1, 0, 5, 6, 7, 8, 9] rfl ?_
                  exact ih1  f2 (tn + 1) _ _ _ _ _ (by omega) X2 W7 F5  (by omega) (by omega) (by show ivh7 a0 2 = iv a0 2; omega) (tm.go Xb1 gf7.2.2 (by omega))
                · replace gf7 := (And.intro (gf7.1.resolve_right (fun q => absurd (q.1.symm.trans c7) (by decide))) gf7.2)
                  refine c_iconst C dX7_take_155 ?_
                  have pl4 := Phi.le W7 sk2
                  exact c_zret C dX7_take_156 rfl (Or.inl rfl) (by decide) (rom0 hph pl4 (by decide)) ⟨0, rfl, X2, F5, W7, (Or.inl rfl), ⟨by omega, tm.full Xb1 gf7.2.2 (by omega) rfl⟩⟩
            · refine c_aload (j := 1) (x := ob1) C dX7_take_68 rfl ?_
              refine c_aload_n (j := 5) (x := a1) C dX7_take_70 rfl ?_
              refine c_iload (j := 2) C dX7_take_71 rfl ?_
              refine c_aload_n (j := 5) (x := a1) C dX7_take_73 rfl ?_
              refine c_get (k := 7) C ck_7 dX7_take_74 w1_148 (by decide) ty3 rfl rfl (by decide) rfl ?_
              have ri21 : 0 ≤ ivb1 ob1 2 ∧ ivb1 ob1 2 ≤ 1 := Wb1.int tob1 2
              refine d_callV (As := [.ref a1, .int (iI fr), .int (iI (ivb1 a1 7))]) (rest := []) C hM (G_addPart (a0 := ob1) (a1 := a1) (i := fr) (j := ivb1 a1 7) Wb1 skb1 tob1 ty3 (by omega) (by omega) (by show 0 ≤ fr; omega)) dX7_take_77 kV_X7_42 rfl tob1 rfl rfl (by decide) ck_3 rfl (Nat.le_of_ble_eq_true rfl) ⟨(Nat.le_of_ble_eq_true rfl), (Nat.le_of_ble_eq_true rfl)⟩ hph pl2 (show 0 + 0 = 0 from rfl) (by decide) (fun rh8 Lh8 clh8 lnh8 ivh8 rvh8 h8 => ?_)
              obtain ⟨rfl, rfl, rfl, rfl, rfl, fl8, W8, exf8⟩ := h8
              have F6 := Fb1.call Xb1 fl8 rfl
              refine c_st (st2 := []) rfl ?_
              refine hv2 (show 0 ≤ ivh8 ob1 2 ∧ ivh8 ob1 2 ≤ 1 from W8.int tob1 2) (show (LFR Lb1 clb1 ivb1 rvb1 ivh8 ob1 ∧ ivh8 ob1 2 = ivb1 ob1 2) ∧ APX ivb1 rvb1 ivh8 ob1 a1 fr (ivb1 a1 7) from exf8) (fun ri22 gf8 => ?_)
              refine c_iconst C dX7_take_80 ?_
              refine hv2 (show (-2147483648) ≤ ivh8 a0 2 ∧ ivh8 a0 2 ≤ 2147483647 from W8.int ty2 2) (show ivh8 a0 2 = ivb1 a0 2 from fl8.i ty2 rfl 2) (fun ri23 ie26 => ?_)
              exact c_zret C dX7_take_81 rfl (Or.inr rfl) (by decide) (rom0 hph pl2 (by decide)) ⟨1, rfl, Xb1, F6, W8, (Or.inr rfl), ⟨by omega, TKJ.add (x := 0) (z := w1 - 0) hT Xb1 hW Wb1 Fb1 t_a0 t_a1 gf1 gf8.1.1 fl8 gf8.1.2 gf8.2 rfl (by omega) ⟨by omega, by omega⟩ (by omega) (by omega) (Or.inl (by omega)) rfl⟩⟩
          · refine c_aload (j := 0) (x := ob1) C dX7_take_42 rfl ?_
            refine c_get (k := 1) C ck_3 dX7_take_44 w4_51 (by decide) tob1 rfl rfl (by decide) rfl ?_
            refine c_iconst C dX7_take_47 ?_
            refine c_iadd C dX7_take_48 ?_
            refine c_goto (tgt := 53) C dX7_take_49 (by decide) ?_
            refine c_isub C dX7_take_53 ?_
            refine c_istore (lv2 := [(8, .int (iI (w1 - ((ivb1 ob1 1) + 1)))), (7, .ref ob1), (5, .int (iI fr)), (6, .int (iI tn)), (0, .ref a0), (1, .ref a1), (2, .int (iI x)), (3, .int (iI w1)), (4, .int (iI h1))]) C dX7_take_54 (by decide) rfl ?_
            refine c_aload_n (j := 5) (x := a1) C dX7_take_56 rfl ?_
            refine hv2 (Xb1.ty t_a1) (show ivb1 a1 7 = iv a1 7 from Fb1.i t_a1 rfl 7) (fun ty6 ie28 => ?_)
            have ri24 : 0 ≤ ivb1 a1 7 ∧ ivb1 a1 7 ≤ 100000 := Wb1.int ty6 7
            refine c_get (k := 7) C ck_7 dX7_take_57 w1_148 (by decide) ty6 rfl rfl (by decide) rfl ?_
            refine c_iload (j := 2) C dX7_take_60 rfl ?_
            refine c_isub C dX7_take_62 ?_
            refine c_iload (j := 0) C dX7_take_63 rfl ?_
            refine c_icmp_gt (tgt := 82) C ⟨by omega, by omega⟩ ⟨by omega, by omega⟩ dX7_take_65 (by decide) (fun c8 => ?_) (fun c8 => ?_)
            · refine c_aload_n (j := 5) (x := a1) C dX7_take_82 rfl ?_
              refine c_iload_n (j := 6) C dX7_take_83 rfl ?_
              refine c_iload (j := 2) C dX7_take_84 rfl ?_
              refine c_iload (j := 0) C dX7_take_86 rfl ?_
              refine c_iconst C dX7_take_88 ?_
              refine c_isub C dX7_take_89 ?_
              refine d_callV (As := [.int (iI x), .int (iI fr), .int (iI ((w1 - ((ivb1 ob1 1) + 1)) - 1))]) (rest := []) C hM (G_lastBreak (a0 := a1) (x := x) (i := fr) (n := (w1 - ((ivb1 ob1 1) + 1)) - 1) Wb1 skb1 ty6 (by omega) (by omega) (by omega) (by show 0 ≤ fr; omega)) dX7_take_90 kV_X7_46 rfl ty6 rfl rfl (by decide) ck_7 rfl (Nat.le_of_ble_eq_true rfl) ⟨(Nat.le_of_ble_eq_true rfl), (Nat.le_of_ble_eq_true rfl)⟩ hph pl2 (show 0 + 0 = 0 from rfl) (by decide) (fun rh9 Lh9 clh9 lnh9 ivh9 rvh9 h9 => ?_)
              obtain ⟨f9, rfl, rfl, rfl, rfl, rfl, rfl, rgf9, exf9⟩ := h9
              refine c_st (st2 := [.int (iI f9)]) rfl ?_
              have gf9 : fr ≤ f9 ∧ LBX ivb1 rvb1 a1 x fr ((w1 - ((ivb1 ob1 1) + 1)) - 1) f9 := exf9
              refine c_istore (lv2 := [(9, .int (iI f9)), (8, .int (iI (w1 - ((ivb1 ob1 1) + 1)))), (7, .ref ob1), (5, .int (iI fr)), (6, .int (iI tn)), (0, .ref a0), (1, .ref a1), (2, .int (iI x)), (3, .int (iI w1)), (4, .int (iI h1))]) C dX7_take_93 (by decide) rfl ?_
              refine c_iload (j := 0) C dX7_take_95 rfl ?_
              refine c_iload (j := 3) C dX7_take_97 rfl ?_
              refine c_icmp_le (tgt := 126) C ⟨by omega, by omega⟩ (r32_c (lo := 0) (hi := 2147483647) hfr.1 hfr.2 (by decide) (by decide)) dX7_take_99 (by decide) (fun c9 => ?_) (fun c9 => ?_)
              · refine c_aload (j := 2) (x := ob1) C dX7_take_126 rfl ?_
                refine c_get (k := 1) C ck_3 dX7_take_128 w4_51 (by decide) tob1 rfl rfl (by decide) rfl ?_
                refine c_if_ne (tgt := 148) C (r32_c (lo := 0) (hi := 200) ri4.1 ri4.2 (by decide) (by decide)) dX7_take_131 (by decide) (fun _ => ?_) (fun z => absurd z (by omega))
                have tm : TKM L cl iv rv ivb1 rvb1 a0 a1 x w1 h1 fr tn := TKJ.next (m := ivb1 a1 7) (z := w1 - ((ivb1 ob1 1) + 1)) hT Xb1 hW Fb1 t_a1 gf1 rfl (by omega) ⟨by omega, by omega⟩ (by omega) (by omega) gf9.2 (by omega) (by omega)
                refine c_aload_n (j := 5) (x := a0) C dX7_take_148 rfl ?_
                have ri25 : (-2147483648) ≤ ivb1 a0 2 ∧ ivb1 a0 2 ≤ 2147483647 := Wb1.int ty2 2
                refine d_callV (As := []) (rest := []) C hM (G_begin (a0 := a0) Wb1 skb1 ty2  ) dX7_take_149 kV_X7_54 rfl ty2 rfl rfl (by decide) ck_8 rfl (Nat.le_of_ble_eq_true rfl) ⟨(Nat.le_of_ble_eq_true rfl), (Nat.le_of_ble_eq_true rfl)⟩ hph pl2 (show 0 + 0 = 0 from rfl) (by decide) (fun rh10 Lh10 clh10 lnh10 ivh10 rvh10 h10 => ?_)
                obtain ⟨f10, rfl, xl10, fl10, W10, rgf10, exf10⟩ := h10
                refine hv3 (Fb1.call Xb1 fl10 rfl) (Xb1.trans xl10) (xl10.skl skb1) (fun F7 X3 sk3 => ?_)
                refine c_st (st2 := [.int (iI f10)]) rfl ?_
                refine hv2 (xl10.ty ty2) (show ((f10 = 0 ∧ ivh10 a0 1 = ivb1 a0 1) ∨ (f10 = 1 ∧ ivh10 a0 1 = ivb1 a0 1 + 1)) ∧ ivh10 a0 2 = ivb1 a0 2 ∧ BEX Lb1 clb1 ivb1 rvb1 ivh10 rvh10 a0 f10 from exf10) (fun ty7 gf10 => ?_)
                refine hv2 (show 0 ≤ ivh10 a0 1 ∧ ivh10 a0 1 ≤ 200 from W10.int ty7 1) (show (-2147483648) ≤ ivh10 a0 2 ∧ ivh10 a0 2 ≤ 2147483647 from W10.int ty7 2) (fun ri26 ri27 => ?_)
                refine c_if_ne (tgt := 157) C (r32_pq gf10.1) dX7_take_152 (by decide) (fun c10 => ?_) (fun c10 => ?_)
                · replace gf10 := (And.intro (gf10.1.resolve_left (fun q => c10 q.1)) gf10.2)
                  refine c_iinc (z := tn) (j := 4) (lv2 := [(6, .int (iI (tn + 1))), (9, .int (iI f9)), (8, .int (iI (w1 - ((ivb1 ob1 1) + 1)))), (7, .ref ob1), (5, .int (iI fr)), (0, .ref a0), (1, .ref a1), (2, .int (iI x)), (3, .int (iI w1)), (4, .int (iI h1))]) C dX7_take_157 rfl (by decide) rfl ?_
                  refine c_goto (tgt := 6) C dX7_take_160 (by decide) ?_
                  refine c_lv (lv2 := [(5, .int (iI fr)), (6, .int (iI (tn + 1))), (0, .ref a0), (1, .ref a1), (2, .int (iI x)), (3, .int (iI w1)), (4, .int (iI h1))]) [4, 0, 5, 6, 7, 8, 9] rfl ?_
                  exact ih1  fr (tn + 1) _ _ _ _ _ (by omega) X3 W10 F7  (by omega) (by omega) (by show ivh10 a0 2 = iv a0 2; omega) (tm.go Xb1 gf10.2.2 (by omega))
                · replace gf10 := (And.intro (gf10.1.resolve_right (fun q => absurd (q.1.symm.trans c10) (by decide))) gf10.2)
                  refine c_iconst C dX7_take_155 ?_
                  have pl5 := Phi.le W10 sk3
                  exact c_zret C dX7_take_156 rfl (Or.inl rfl) (by decide) (rom0 hph pl5 (by decide)) ⟨0, rfl, X3, F7, W10, (Or.inl rfl), ⟨by omega, tm.full Xb1 gf10.2.2 (by omega) rfl⟩⟩
              · refine c_aload (j := 2) (x := ob1) C dX7_take_102 rfl ?_
                refine c_aload_n (j := 6) (x := a1) C dX7_take_104 rfl ?_
                refine c_iload (j := 3) C dX7_take_105 rfl ?_
                refine c_iload (j := 0) C dX7_take_107 rfl ?_
                have ri28 : 0 ≤ ivb1 ob1 2 ∧ ivb1 ob1 2 ≤ 1 := Wb1.int tob1 2
                refine d_callV (As := [.ref a1, .int (iI fr), .int (iI f9)]) (rest := []) C hM (G_addPart (a0 := ob1) (a1 := a1) (i := fr) (j := f9) Wb1 skb1 tob1 ty6 (by omega) (by omega) (by show 0 ≤ fr; omega)) dX7_take_109 kV_X7_42 rfl tob1 rfl rfl (by decide) ck_3 rfl (Nat.le_of_ble_eq_true rfl) ⟨(Nat.le_of_ble_eq_true rfl), (Nat.le_of_ble_eq_true rfl)⟩ hph pl2 (show 0 + 0 = 0 from rfl) (by decide) (fun rh11 Lh11 clh11 lnh11 ivh11 rvh11 h11 => ?_)
                obtain ⟨rfl, rfl, rfl, rfl, rfl, fl11, W11, exf11⟩ := h11
                have F8 := Fb1.call Xb1 fl11 rfl
                refine c_st (st2 := []) rfl ?_
                refine hv2 (show 0 ≤ ivh11 ob1 2 ∧ ivh11 ob1 2 ≤ 1 from W11.int tob1 2) (show (LFR Lb1 clb1 ivb1 rvb1 ivh11 ob1 ∧ ivh11 ob1 2 = ivb1 ob1 2) ∧ APX ivb1 rvb1 ivh11 ob1 a1 fr f9 from exf11) (fun ri29 gf11 => ?_)
                refine c_aload (j := 2) (x := ob1) C dX7_take_112 rfl ?_
                refine c_iload (j := 9) C dX7_take_114 rfl ?_
                have ri30 : 0 ≤ ivh11 ob1 1 ∧ ivh11 ob1 1 ≤ 200 := W11.int tob1 1
                refine d_callV (As := [.int (iI h1)]) (rest := []) C hM (G_ladd (a0 := ob1) (x := h1) W11 skb1 tob1 (by omega) ) dX7_take_116 kV_X7_50 rfl tob1 rfl rfl (by decide) ck_3 rfl (Nat.le_of_ble_eq_true rfl) ⟨(Nat.le_of_ble_eq_true rfl), (Nat.le_of_ble_eq_true rfl)⟩ hph pl2 (show 0 + 0 = 0 from rfl) (by decide) (fun rh12 Lh12 clh12 lnh12 ivh12 rvh12 h12 => ?_)
                obtain ⟨rfl, rfl, rfl, rfl, rfl, fl12, W12, exf12⟩ := h12
                have F9 := F8.call Xb1 fl12 rfl
                refine c_st (st2 := []) rfl ?_
                refine hv3 (show 0 ≤ ivh12 ob1 1 ∧ ivh12 ob1 1 ≤ 200 from W12.int tob1 1) (show 0 ≤ ivh12 ob1 2 ∧ ivh12 ob1 2 ≤ 1 from W12.int tob1 2) (show ((ivh12 ob1 1 = ivh11 ob1 1 ∧ ivh11 ob1 1 = 200) ∨ ivh12 ob1 1 = ivh11 ob1 1 + 1) ∧ (LFR Lb1 clb1 ivh11 rvb1 ivh12 ob1 ∧ ivh12 ob1 2 = ivh11 ob1 2) ∧ LAX ivh11 rvb1 ivh12 ob1 h1 from exf12) (fun ri31 ri32 gf12 => ?_)
                refine c_iload (j := 0) C dX7_take_119 rfl ?_
                refine c_istore (lv2 := [(5, .int (iI f9)), (9, .int (iI f9)), (8, .int (iI (w1 - ((ivb1 ob1 1) + 1)))), (7, .ref ob1), (6, .int (iI tn)), (0, .ref a0), (1, .ref a1), (2, .int (iI x)), (3, .int (iI w1)), (4, .int (iI h1))]) C dX7_take_121 (by decide) rfl ?_
                refine c_goto (tgt := 148) C dX7_take_123 (by decide) ?_
                have tm : TKM L cl iv rv ivh12 rvb1 a0 a1 x w1 h1 f9 tn := TKJ.part (m := ivb1 a1 7) (z := w1 - ((ivb1 ob1 1) + 1)) hT Xb1 hW Wb1 Fb1 t_a0 t_a1 gf1 gf11.1.1 fl11 gf11.1.2 gf11.2 gf12.2.1.1 fl12 gf12.2.1.2 gf12.2.2 rfl (by omega) ⟨by omega, by omega⟩ (by omega) (by omega) (by omega) gf9.2 (by omega)
                refine c_aload_n (j := 5) (x := a0) C dX7_take_148 rfl ?_
                refine hv6 (show 0 ≤ ivh12 a0 1 ∧ ivh12 a0 1 ≤ 200 from W12.int ty2 1) (show ivh12 a0 1 = ivh11 a0 1 from fl12.i ty2 rfl 1) (show ivh11 a0 1 = ivb1 a0 1 from fl11.i ty2 rfl 1) (show (-2147483648) ≤ ivh12 a0 2 ∧ ivh12 a0 2 ≤ 2147483647 from W12.int ty2 2) (show ivh12 a0 2 = ivh11 a0 2 from fl12.i ty2 rfl 2) (show ivh11 a0 2 = ivb1 a0 2 from fl11.i ty2 rfl 2) (fun ri33 ie37 ie38 ri34 ie39 ie40 => ?_)
                refine d_callV (As := []) (rest := []) C hM (G_begin (a0 := a0) W12 skb1 ty2  ) dX7_take_149 kV_X7_54 rfl ty2 rfl rfl (by decide) ck_8 rfl (Nat.le_of_ble_eq_true rfl) ⟨(Nat.le_of_ble_eq_true rfl), (Nat.le_of_ble_eq_true rfl)⟩ hph pl2 (show 0 + 0 = 0 from rfl) (by decide) (fun rh13 Lh13 clh13 lnh13 ivh13 rvh13 h13 => ?_)
                obtain ⟨f13, rfl, xl13, fl13, W13, rgf13, exf13⟩ := h13
                refine hv3 (F9.call Xb1 fl13 rfl) (Xb1.trans xl13) (xl13.skl skb1) (fun F10 X4 sk4 => ?_)
                refine c_st (st2 := [.int (iI f13)]) rfl ?_
                refine hv2 (xl13.ty ty2) (show ((f13 = 0 ∧ ivh13 a0 1 = ivh12 a0 1) ∨ (f13 = 1 ∧ ivh13 a0 1 = ivh12 a0 1 + 1)) ∧ ivh13 a0 2 = ivh12 a0 2 ∧ BEX Lb1 clb1 ivh12 rvb1 ivh13 rvh13 a0 f13 from exf13) (fun ty8 gf13 => ?_)
                refine hv2 (show 0 ≤ ivh13 a0 1 ∧ ivh13 a0 1 ≤ 200 from W13.int ty8 1) (show (-2147483648) ≤ ivh13 a0 2 ∧ ivh13 a0 2 ≤ 2147483647 from W13.int ty8 2) (fun ri35 ri36 => ?_)
                refine c_if_ne (tgt := 157) C (r32_pq gf13.1) dX7_take_152 (by decide) (fun c11 => ?_) (fun c11 => ?_)
                · replace gf13 := (And.intro (gf13.1.resolve_left (fun q => c11 q.1)) gf13.2)
                  refine c_iinc (z := tn) (j := 4) (lv2 := [(6, .int (iI (tn + 1))), (5, .int (iI f9)), (9, .int (iI f9)), (8, .int (iI (w1 - ((ivb1 ob1 1) + 1)))), (7, .ref ob1), (0, .ref a0), (1, .ref a1), (2, .int (iI x)), (3, .int (iI w1)), (4, .int (iI h1))]) C dX7_take_157 rfl (by decide) rfl ?_
                  refine c_goto (tgt := 6) C dX7_take_160 (by decide) ?_
                  refine c_lv (lv2 := [(5, .int (iI f9)), (6, .int (iI (tn + 1))), (0, .ref a0), (1, .ref a1), (2, .int (iI x)), (3, .int (iI w1)), (4, .int (iI h1))]) [1, 0, 5, 6, 7, 8, 9] rfl ?_
                  exact ih1  f9 (tn + 1) _ _ _ _ _ (by omega) X4 W13 F10  (by omega) (by omega) (by show ivh13 a0 2 = iv a0 2; omega) (tm.go Xb1 gf13.2.2 (by omega))
                · replace gf13 := (And.intro (gf13.1.resolve_right (fun q => absurd (q.1.symm.trans c11) (by decide))) gf13.2)
                  refine c_iconst C dX7_take_155 ?_
                  have pl6 := Phi.le W13 sk4
                  exact c_zret C dX7_take_156 rfl (Or.inl rfl) (by decide) (rom0 hph pl6 (by decide)) ⟨0, rfl, X4, F10, W13, (Or.inl rfl), ⟨by omega, tm.full Xb1 gf13.2.2 (by omega) rfl⟩⟩
            · refine c_aload (j := 1) (x := ob1) C dX7_take_68 rfl ?_
              refine c_aload_n (j := 5) (x := a1) C dX7_take_70 rfl ?_
              refine c_iload (j := 2) C dX7_take_71 rfl ?_
              refine c_aload_n (j := 5) (x := a1) C dX7_take_73 rfl ?_
              refine c_get (k := 7) C ck_7 dX7_take_74 w1_148 (by decide) ty6 rfl rfl (by decide) rfl ?_
              have ri37 : 0 ≤ ivb1 ob1 2 ∧ ivb1 ob1 2 ≤ 1 := Wb1.int tob1 2
              refine d_callV (As := [.ref a1, .int (iI fr), .int (iI (ivb1 a1 7))]) (rest := []) C hM (G_addPart (a0 := ob1) (a1 := a1) (i := fr) (j := ivb1 a1 7) Wb1 skb1 tob1 ty6 (by omega) (by omega) (by show 0 ≤ fr; omega)) dX7_take_77 kV_X7_42 rfl tob1 rfl rfl (by decide) ck_3 rfl (Nat.le_of_ble_eq_true rfl) ⟨(Nat.le_of_ble_eq_true rfl), (Nat.le_of_ble_eq_true rfl)⟩ hph pl2 (show 0 + 0 = 0 from rfl) (by decide) (fun rh14 Lh14 clh14 lnh14 ivh14 rvh14 h14 => ?_)
              obtain ⟨rfl, rfl, rfl, rfl, rfl, fl14, W14, exf14⟩ := h14
              have F11 := Fb1.call Xb1 fl14 rfl
              refine c_st (st2 := []) rfl ?_
              refine hv2 (show 0 ≤ ivh14 ob1 2 ∧ ivh14 ob1 2 ≤ 1 from W14.int tob1 2) (show (LFR Lb1 clb1 ivb1 rvb1 ivh14 ob1 ∧ ivh14 ob1 2 = ivb1 ob1 2) ∧ APX ivb1 rvb1 ivh14 ob1 a1 fr (ivb1 a1 7) from exf14) (fun ri38 gf14 => ?_)
              refine c_iconst C dX7_take_80 ?_
              refine hv2 (show (-2147483648) ≤ ivh14 a0 2 ∧ ivh14 a0 2 ≤ 2147483647 from W14.int ty2 2) (show ivh14 a0 2 = ivb1 a0 2 from fl14.i ty2 rfl 2) (fun ri39 ie46 => ?_)
              exact c_zret C dX7_take_81 rfl (Or.inr rfl) (by decide) (rom0 hph pl2 (by decide)) ⟨1, rfl, Xb1, F11, W14, (Or.inr rfl), ⟨by omega, TKJ.add (x := 0) (z := w1 - ((ivb1 ob1 1) + 1)) hT Xb1 hW Wb1 Fb1 t_a0 t_a1 gf1 gf14.1.1 fl14 gf14.1.2 gf14.2 rfl (by omega) ⟨by omega, by omega⟩ (by omega) (by omega) (Or.inl (by omega)) rfl⟩⟩
        · subst oq1
          refine c_lv (lv2 := [(7, .null), (5, .int (iI fr)), (6, .int (iI tn)), (0, .ref a0), (1, .ref a1), (2, .int (iI x)), (3, .int (iI w1)), (4, .int (iI h1))]) [0, 1, 2, 3, 4, 5, 6, 7] rfl ?_
          refine c_st (st2 := []) rfl ?_
          refine c_iconst C dX7_take_31 ?_
          have ri40 : (-2147483648) ≤ ivb1 a0 2 ∧ ivb1 a0 2 ≤ 2147483647 := Wb1.int ty2 2
          exact c_zret C dX7_take_32 rfl (Or.inl rfl) (by decide) (rom0 hph pl2 (by decide)) ⟨0, rfl, Xb1, Fb1, Wb1, (Or.inl rfl), ⟨by omega, hT.nul gf1 rfl⟩⟩
  refine c_lv (lv2 := [(5, .int (iI 0)), (6, .int (iI 0)), (0, .ref a0), (1, .ref a1), (2, .int (iI x)), (3, .int (iI w1)), (4, .int (iI h1))]) [1, 0, 2, 3, 4, 5, 6] rfl ?_
  exact Lp1 204 0 0 _ _ _ _ _ (by omega) hX0 hW hF0  (by omega) (by omega) (by show iv a0 2 = iv a0 2; omega) (TKJ.zero rfl rfl)
set_option maxHeartbeats 4000000 in
set_option maxRecDepth 100000 in
theorem G_endText {l : Launch} {G : GT} {mi : Nat} {sk : Nat → Nat} {L : List Nat} {cl ln : Nat → Nat} {iv : Nat → Nat → Int} {rv : Nat → Nat → Option Nat}  {a0 : Nat} {g : Int} {w1 : Int} (hW : WT (g0 G) sk L cl ln iv rv) (hS : SKL sk L cl) (t_a0 : ty L cl a0 18) (h_g : -2147483648 ≤ g ∧ g ≤ 2147483647) (h_w1 : -2147483648 ≤ w1 ∧ w1 ≤ 2147483647) (hw : 1 ≤ w1 ∧ w1 ≤ 100) : Mc l G mi (Phi (g0 G) sk) PHM yX7_endText cX7_endText 5 none 2 [.ref a0, .int (iI g), .int (iI w1)] L cl ln iv rv 0 (fun v L2 cl2 ln2 iv2 rv2 => v = none ∧ L = L2 ∧ cl = cl2 ∧ ln = ln2 ∧ rv = rv2 ∧ fT [19, 64] L cl iv rv iv2 rv2 ∧ WT (g0 G) sk L2 cl2 ln2 iv2 rv2 ∧ (ENX L cl iv rv iv2 a0 g w1)) := by
  refine Mc.mk (by decide) (Nat.le_of_ble_eq_true rfl) ?_
  intro p e s m args below meth c A C hM
  refine hv5 (Phi.le hW hS) (show XT L cl ln L cl ln from XT.refl) (show fT [19, 64] L cl iv rv iv rv from fT.refl) (show 0 ≤ iv a0 1 ∧ iv a0 1 ≤ 200 from hW.int t_a0 1) (show (-2147483648) ≤ iv a0 2 ∧ iv a0 2 ≤ 2147483647 from hW.int t_a0 2) (fun hph hX0 hF0 ri1 ri2 => ?_)
  refine c_aload_n (j := 0) (x := a0) C dX7_endText_0 rfl ?_
  refine c_get (k := 2) C ck_8 dX7_endText_1 w2_36 (by decide) t_a0 rfl rfl (by decide) rfl ?_
  refine c_istore_n (lv2 := [(3, .int (iI (iv a0 2))), (0, .ref a0), (1, .int (iI g)), (2, .int (iI w1))]) C dX7_endText_4 (by decide) rfl ?_
  have Lp1 : ∀ (nn : Nat) (k : Int) (ivb1 : Nat → Nat → Int) , max 0 (201 - k) < (nn : Int) → WT (g0 G) sk L cl ln ivb1 rv → fT [19, 64] L cl iv rv ivb1 rv → (-2147483648 ≤ k ∧ k ≤ 2147483647) → (iv a0 2 ≤ k) → (g ≠ 0 ∨ k = iv a0 2) → (ENI L cl iv rv ivb1 a0 w1 k) → cw p l e 2 ((PHM) + 0 - ((Phi (g0 G) sk) ln rv)) s m args below meth c G A 5 (MQ below (Qu G A (Qp G (Phi (g0 G) sk) ((Phi (g0 G) sk) ln rv) 0 (fun v L2 cl2 ln2 iv2 rv2 => v = none ∧ L = L2 ∧ cl = cl2 ∧ ln = ln2 ∧ rv = rv2 ∧ fT [19, 64] L cl iv rv iv2 rv2 ∧ WT (g0 G) sk L2 cl2 ln2 iv2 rv2 ∧ (ENX L cl iv rv iv2 a0 g w1)))) args s (((PHM) + 0 - ((Phi (g0 G) sk) ln rv)) / 16) ((PHM) + 0 - ((Phi (g0 G) sk) ln rv)) A) (Phi (g0 G) sk) ((Phi (g0 G) sk) ln rv) L cl ln ivb1 rv 0 5 [(3, .int (iI k)), (0, .ref a0), (1, .int (iI g)), (2, .int (iI w1))] [] := by
    intro nn
    induction nn with
    | zero =>
      intro  k ivb1 hm Wb1 Fb1  hk hkb hgk hE
      exact absurd hm (by omega)
    | succ nn ih1 =>
      intro  k ivb1 hm Wb1 Fb1  hk hkb hgk hE
      refine c_iload_n (j := 2) C dX7_endText_5 rfl ?_
      refine c_if_eq (tgt := 49) C ⟨by omega, by omega⟩ dX7_endText_6 (by decide) (fun c1 => ?_) (fun c1 => ?_)
      · have ri3 : 0 ≤ ivb1 a0 1 ∧ ivb1 a0 1 ≤ 200 := Wb1.int t_a0 1
        refine hv3 (show ivb1 a0 1 = iv a0 1 from Fb1.i t_a0 rfl 1) (show (-2147483648) ≤ ivb1 a0 2 ∧ ivb1 a0 2 ≤ 2147483647 from Wb1.int t_a0 2) (show ivb1 a0 2 = iv a0 2 from Fb1.i t_a0 rfl 2) (fun ie1 ri4 ie2 => ?_)
        exact c_vret C dX7_endText_49 rfl (by decide) (rom0 hph hph (by decide)) ⟨rfl, rfl, rfl, rfl, rfl, Fb1, Wb1, (hE.non (by omega) (by omega))⟩
      · refine c_iload_n (j := 0) C dX7_endText_9 rfl ?_
        refine c_aload_n (j := 1) (x := a0) C dX7_endText_10 rfl ?_
        refine hv2 (show 0 ≤ ivb1 a0 1 ∧ ivb1 a0 1 ≤ 200 from Wb1.int t_a0 1) (show ivb1 a0 1 = iv a0 1 from Fb1.i t_a0 rfl 1) (fun ri5 ie3 => ?_)
        refine c_get (k := 1) C ck_8 dX7_endText_11 w2_34 (by decide) t_a0 rfl rfl (by decide) rfl ?_
        refine c_icmp_ge (tgt := 49) C (r32_c (lo := (-2147483648)) (hi := 2147483647) hk.1 hk.2 (by decide) (by decide)) (r32_c (lo := 0) (hi := 200) ri5.1 ri5.2 (by decide) (by decide)) dX7_endText_14 (by decide) (fun c2 => ?_) (fun c2 => ?_)
        · have ri6 : (-2147483648) ≤ ivb1 a0 2 ∧ ivb1 a0 2 ≤ 2147483647 := Wb1.int t_a0 2
          have ie4 : ivb1 a0 2 = iv a0 2 := Fb1.i t_a0 rfl 2
          exact c_vret C dX7_endText_49 rfl (by decide) (rom0 hph hph (by decide)) ⟨rfl, rfl, rfl, rfl, rfl, Fb1, Wb1, (hE.fin (by omega) (by omega))⟩
        · refine c_aload_n (j := 1) (x := a0) C dX7_endText_17 rfl ?_
          refine c_iload_n (j := 0) C dX7_endText_18 rfl ?_
          refine d_callV (As := [.int (iI k)]) (rest := []) C hM (G_sat (a0 := a0) (i := k) Wb1 hS t_a0 (by omega) ) dX7_endText_19 kV_X7_24 rfl t_a0 rfl rfl (by decide) ck_8 rfl (Nat.le_of_ble_eq_true rfl) ⟨(Nat.le_of_ble_eq_true rfl), (Nat.le_of_ble_eq_true rfl)⟩ hph hph (show 0 + 0 = 0 from rfl) (by decide) (fun rh1 Lh1 clh1 lnh1 ivh1 rvh1 h1 => ?_)
          obtain ⟨f1, rfl, rfl, rfl, rfl, rfl, rfl, rgf1, exf1⟩ := h1
          refine c_st (st2 := [(va_rf f1)]) rfl ?_
          have gf1 : SATX ivb1 rv a0 k f1 := exf1
          refine c_astorer (r := f1) (lv2 := [(4, (va_rf f1)), (3, .int (iI k)), (0, .ref a0), (1, .int (iI g)), (2, .int (iI w1))]) C dX7_endText_22 (by decide) rfl ?_
          refine c_aloadr (j := 0) (r := f1) C dX7_endText_24 rfl ?_
          refine c_ifnull (r := f1) (tgt := 43) C dX7_endText_26 (by decide) (fun oq1 => ?_) (fun ob1 oq1 => ?_)
          · subst oq1
            refine c_lv (lv2 := [(4, .null), (3, .int (iI k)), (0, .ref a0), (1, .int (iI g)), (2, .int (iI w1))]) [0, 1, 2, 3, 4] rfl ?_
            refine c_st (st2 := []) rfl ?_
            refine c_iinc (z := k) (j := 1) (lv2 := [(3, .int (iI (k + 1))), (4, .null), (0, .ref a0), (1, .int (iI g)), (2, .int (iI w1))]) C dX7_endText_43 rfl (by decide) rfl ?_
            refine c_goto (tgt := 5) C dX7_endText_46 (by decide) ?_
            refine hv2 (show (-2147483648) ≤ ivb1 a0 2 ∧ ivb1 a0 2 ≤ 2147483647 from Wb1.int t_a0 2) (show ivb1 a0 2 = iv a0 2 from Fb1.i t_a0 rfl 2) (fun ri7 ie5 => ?_)
            refine c_lv (lv2 := [(3, .int (iI (k + 1))), (0, .ref a0), (1, .int (iI g)), (2, .int (iI w1))]) [0, 2, 3, 4] rfl ?_
            exact ih1  (k + 1) _ (by omega) Wb1 Fb1  (by omega) (by omega) (by omega) (hE.skip gf1 (by omega))
          · subst oq1
            have tob1 := rgf1 ob1 rfl
            refine c_lv (lv2 := [(4, .ref ob1), (3, .int (iI k)), (0, .ref a0), (1, .int (iI g)), (2, .int (iI w1))]) [0, 1, 2, 3, 4] rfl ?_
            refine c_st (st2 := []) rfl ?_
            refine c_aload (j := 0) (x := ob1) C dX7_endText_29 rfl ?_
            refine c_iload_n (j := 4) C dX7_endText_31 rfl ?_
            refine c_aload (j := 0) (x := ob1) C dX7_endText_32 rfl ?_
            have ri8 : 0 ≤ ivb1 ob1 1 ∧ ivb1 ob1 1 ≤ 200 := Wb1.int tob1 1
            refine c_get (k := 1) C ck_3 dX7_endText_34 w4_51 (by decide) tob1 rfl rfl (by decide) rfl ?_
            refine c_isub C dX7_endText_37 ?_
            refine c_iconst C dX7_endText_38 ?_
            obtain ⟨zz1, rzz1, hzz1, ezz1⟩ := dv2 (x := w1 - (ivb1 ob1 1)) ⟨by omega, by omega⟩
            refine c_idiv (w := iI zz1) C dX7_endText_39 (by decide) ezz1 ?_
            have ri9 : 0 ≤ ivb1 ob1 2 ∧ ivb1 ob1 2 ≤ 1 := Wb1.int tob1 2
            refine d_callV (As := [.int (iI zz1)]) (rest := []) C hM (G_indent (a0 := ob1) (n := zz1) Wb1 hS tob1 (by omega) ) dX7_endText_40 kV_X7_58 rfl tob1 rfl rfl (by decide) ck_3 rfl (Nat.le_of_ble_eq_true rfl) ⟨(Nat.le_of_ble_eq_true rfl), (Nat.le_of_ble_eq_true rfl)⟩ hph hph (show 0 + 0 = 0 from rfl) (by decide) (fun rh2 Lh2 clh2 lnh2 ivh2 rvh2 h2 => ?_)
            obtain ⟨rfl, rfl, rfl, rfl, rfl, fl2, W2, exf2⟩ := h2
            have F1 := Fb1.call hX0 fl2 rfl
            refine c_st (st2 := []) rfl ?_
            refine hv2 (show 0 ≤ ivh2 ob1 2 ∧ ivh2 ob1 2 ≤ 1 from W2.int tob1 2) (show (LFR L cl ivb1 rv ivh2 ob1 ∧ ivh2 ob1 2 = ivb1 ob1 2) ∧ INX ivb1 rv ivh2 ob1 zz1 from exf2) (fun ri10 gf2 => ?_)
            refine c_iinc (z := k) (j := 1) (lv2 := [(3, .int (iI (k + 1))), (4, .ref ob1), (0, .ref a0), (1, .int (iI g)), (2, .int (iI w1))]) C dX7_endText_43 rfl (by decide) rfl ?_
            refine c_goto (tgt := 5) C dX7_endText_46 (by decide) ?_
            refine hv5 (show 0 ≤ ivh2 a0 1 ∧ ivh2 a0 1 ≤ 200 from W2.int t_a0 1) (show ivh2 a0 1 = ivb1 a0 1 from fl2.i t_a0 rfl 1) (show (-2147483648) ≤ ivh2 a0 2 ∧ ivh2 a0 2 ≤ 2147483647 from W2.int t_a0 2) (show ivh2 a0 2 = ivb1 a0 2 from fl2.i t_a0 rfl 2) (show ivb1 a0 2 = iv a0 2 from Fb1.i t_a0 rfl 2) (fun ri11 ie9 ri12 ie10 ie11 => ?_)
            refine c_lv (lv2 := [(3, .int (iI (k + 1))), (0, .ref a0), (1, .int (iI g)), (2, .int (iI w1))]) [0, 2, 3, 4] rfl ?_
            exact ih1  (k + 1) _ (by omega) W2 F1  (by omega) (by omega) (by omega) (hE.step Wb1 t_a0 gf1 (by omega) gf2.1.1 fl2 gf2.1.2 gf2.2 hzz1 (by omega))
  refine c_lv (lv2 := [(3, .int (iI (iv a0 2))), (0, .ref a0), (1, .int (iI g)), (2, .int (iI w1))]) [0, 1, 2, 3] rfl ?_
  exact Lp1 2147483900 (iv a0 2) _ (by omega) hW hF0  (by omega) (by omega) (by omega) (ENI.zero rfl)
