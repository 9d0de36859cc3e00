set_option maxHeartbeats 4000000 in
set_option maxRecDepth 100000 in
theorem G_copyOf_5 {l : Launch} {G : GT} {mi : Nat} {sk : Nat → Nat} {L : List Nat} {cl ln : Nat → Nat} {iv : Nat → Nat → Int} {rv : Nat → Nat → Option Nat}  {a0 : Nat} {n : Int} (hW : WT (g0 G) sk L cl ln iv rv) (hS : SKL sk L cl) (t_a0 : ty L cl a0 35) (h_n : -2147483648 ≤ n ∧ n ≤ 2147483647) (hn : ((ln a0 : Nat) : Int) < n ∧ 16 ≤ n ∧ n ≤ 400) : Mc l G mi zPf 0 yJ7_copyOf_59c91 cJ7_copyOf_59c91 3 (some (.array .int)) 1 [.ref a0, .int (iI n)] L cl ln iv rv (16 + n.toNat) (fun v L2 cl2 ln2 iv2 rv2 => ∃ f : Nat, v = some (.ref f) ∧ XT L cl ln L2 cl2 ln2 ∧ fT [35] L cl iv rv iv2 rv2 ∧ WT (g0 G) sk L2 cl2 ln2 iv2 rv2 ∧ ty L2 cl2 f 35 ∧ (ln2 f = n.toNat ∧ ∀ j : Nat, j < ln a0 → iv2 f j = iv a0 j)) := by
  refine Mc.mk (by decide) (Nat.le_of_ble_eq_true rfl) ?_
  intro p e s m args below meth c A C hM
  refine hv3 ((show zPf ln rv ≤ 0 from Nat.le_refl 0)) (show XT L cl ln L cl ln from XT.refl) (show fT [35] L cl iv rv iv rv from fT.refl) (fun hph hX0 hF0 => ?_)
  refine c_iload_n (j := 1) C dJ7_copyOf_59c91_0 rfl ?_
  refine c_aload_n (j := 0) (x := a0) C dJ7_copyOf_59c91_1 rfl ?_
  have ll1 : 16 ≤ ln a0 ∧ ln a0 ≤ 400 := hW.len t_a0 rfl
  refine c_alenI C dJ7_copyOf_59c91_2 t_a0 rfl ?_
  refine c_icmp_ne (tgt := 14) C ⟨by omega, by omega⟩ ⟨by omega, by omega⟩ dJ7_copyOf_59c91_3 (by decide) (fun _ => ?_) (fun z => absurd z (by omega))
  refine c_iload_n (j := 1) C dJ7_copyOf_59c91_14 rfl ?_
  refine c_newaI (z := n) (N := n.toNat) C 35 dJ7_copyOf_59c91_15 w1_57 rfl (by omega) (by omega) (rom2 hph hph (by omega)) (fun qn1 cln1 lnn1 ivn1 rvn1 hqn1 hcn1 hln1 hin1 hrn1 => ⟨(0 + (16 + n.toNat)), (z_in (by omega)), ?_⟩)
  refine c_g0 C (fun hg1 => ?_)
  refine hv5 (show ∀ b, b ≠ qn1 → lnn1 b = ln b from (fun b hb => by rw [hln1]; exact va_up_ne _ _ hb)) (show lnn1 qn1 = n.toNat from by rw [hln1]; exact va_up_self _ _ _) (hF0.new hX0 hqn1 hin1 hrn1) (show ty (L ++ [qn1]) cln1 qn1 35 from ty_new hcn1) (show qn1 ∉ L from fun h => hqn1 ((hX0 qn1 h).1)) (fun hxn1 lqn1 F1 tqn1 h0qn1 => ?_)
  refine hv2 (hW.new (ln2 := lnn1) hqn1 (hg1 qn1 (List.mem_append_right _ List.mem_cons_self)) hcn1 hxn1 hin1 hrn1 (fun _ => ⟨(show (-2147483648 : Int) ≤ 0 by decide), (show (0 : Int) ≤ 2147483647 by decide)⟩) (Or.inr (fun _ => rfl)) (fun _ => by show 16 ≤ lnn1 qn1 ∧ lnn1 qn1 ≤ 400; omega) rfl rfl) (XT.new hqn1 hcn1 hxn1) (fun W1 xl1 => ?_)
  refine hv2 (hX0.trans xl1) (xl1.skl hS) (fun X1 sk1 => ?_)
  refine c_astore_n (lv2 := [(2, .ref qn1), (0, .ref a0), (1, .int (iI n))]) C dJ7_copyOf_59c91_17 (by decide) rfl ?_
  refine c_aload_n (j := 1) (x := a0) C dJ7_copyOf_59c91_18 rfl ?_
  refine c_iconst C dJ7_copyOf_59c91_19 ?_
  refine c_aload_n (j := 0) (x := qn1) C dJ7_copyOf_59c91_20 rfl ?_
  refine c_iconst C dJ7_copyOf_59c91_21 ?_
  refine c_aload_n (j := 1) (x := a0) C dJ7_copyOf_59c91_22 rfl ?_
  have ty1 := xl1.ty t_a0
  have ll2 : 16 ≤ lnn1 a0 ∧ lnn1 a0 ≤ 400 := W1.len ty1 rfl
  refine c_alenI C dJ7_copyOf_59c91_23 ty1 rfl ?_
  refine c_iload_n (j := 2) C dJ7_copyOf_59c91_24 rfl ?_
  obtain ⟨mn1, hmn1, emn1⟩ := mmin_c (x := ((lnn1 a0 : Nat) : Int)) (y := n) ⟨by omega, by omega⟩ ⟨by omega, by omega⟩
  refine c_mmin (w := iI mn1) C dJ7_copyOf_59c91_25 w2_128 w2_129 w1_14 w2_130 (by decide) (rom0 hph (Nat.le_refl 0) (by omega)) (Nat.le_of_ble_eq_true rfl) emn1 ?_
  have ll3 : 16 ≤ lnn1 qn1 ∧ lnn1 qn1 ≤ 400 := W1.len tqn1 rfl
  refine c_copyi (sp := 0) (dp := 0) (n := mn1) C dJ7_copyOf_59c91_28 w2_131 w2_133 w2_132 w1_15 ty1 rfl tqn1 rfl (by omega) (by omega) (by omega) (by omega) (by omega) (by omega) (by omega) (by decide) (Nat.le_of_ble_eq_true rfl) (fun iv1 pq1 => ?_)
  refine hv2 (W1.copy pq1 tqn1 ty1 (fun _ => rfl) (fun _ => rfl) (fun _ => rfl) (fun _ => rfl) rfl) (F1.copy X1 pq1 tqn1 rfl) (fun W2 F2 => ?_)
  refine c_aload_n (j := 0) (x := qn1) C dJ7_copyOf_59c91_31 rfl ?_
  have le1 : lnn1 a0 = ln a0 := (xl1 a0 t_a0.1).2.2
  exact c_aret (x := some qn1) C dJ7_copyOf_59c91_32 rfl (Or.inr ⟨_, rfl⟩) (by omega) (rom0 hph (Nat.le_refl 0) (by omega)) ⟨qn1, rfl, X1, F2, W2, tqn1, ⟨lqn1, fun j hj => by
      rw [pq1]
      show (if qn1 = qn1 then (if (0 : Int).toNat ≤ j ∧ j < (0 : Int).toNat + mn1.toNat then ivn1 a0 ((0 : Int).toNat + (j - (0 : Int).toNat)) else ivn1 qn1 j) else ivn1 qn1 j) = _
      rw [if_pos rfl, if_pos ⟨by omega, by omega⟩, hin1, congrFun (up0_a (ne_in t_a0.1 hqn1)) _]
      exact congrArg (iv a0) (by omega)⟩⟩
set_option maxHeartbeats 4000000 in
set_option maxRecDepth 100000 in
theorem G_add_5 {l : Launch} {G : GT} {mi : Nat} {sk : Nat → Nat} {L : List Nat} {cl ln : Nat → Nat} {iv : Nat → Nat → Int} {rv : Nat → Nat → Option Nat}  {a0 : Nat} {x : Int} (hW : WT (g0 G) sk L cl ln iv rv) (hS : SKL sk L cl) (t_a0 : ty L cl a0 5) (h_x : -2147483648 ≤ x ∧ x ≤ 2147483647)  : Mc l G mi (Phi (g0 G) sk) PHM yX1_add cX1_add 2 none 2 [.ref a0, .int (iI x)] L cl ln iv rv 0 (fun v L2 cl2 ln2 iv2 rv2 => v = none ∧ XT L cl ln L2 cl2 ln2 ∧ fT [5, 35] L cl iv rv iv2 rv2 ∧ WT (g0 G) sk L2 cl2 ln2 iv2 rv2 ∧ (((iv2 a0 2 = iv a0 2 ∧ iv a0 2 = 200) ∨ (iv2 a0 2 = iv a0 2 + 1 ∧ iv a0 2 < 200)) ∧ (∀ ss, CT iv rv a0 ss → iv a0 2 < 200 → CT iv2 rv2 a0 (va_up ss (iv a0 2).toNat x)) ∧ (iv a0 2 = 200 → ∀ ss, CT iv rv a0 ss → CT iv2 rv2 a0 ss))) := by
  refine Mc.mk (by decide) (Nat.le_of_ble_eq_true rfl) ?_
  intro p e s m args below meth c A C hM
  refine hv3 (Phi.le hW hS) (show XT L cl ln L cl ln from XT.refl) (show fT [5, 35] L cl iv rv iv rv from fT.refl) (fun hph hX0 hF0 => ?_)
  refine c_aload_n (j := 0) (x := a0) C dX1_add_0 rfl ?_
  have ri1 : 0 ≤ iv a0 2 ∧ iv a0 2 ≤ 200 := hW.int t_a0 2
  refine c_get (k := 2) C ck_2 dX1_add_1 w1_43 (by decide) t_a0 rfl rfl (by decide) rfl ?_
  refine c_aload_n (j := 0) (x := a0) C dX1_add_4 rfl ?_
  have ri2 : 200 ≤ iv a0 0 ∧ iv a0 0 ≤ 200 := hW.int t_a0 0
  refine c_get (k := 0) C ck_2 dX1_add_5 w1_38 (by decide) t_a0 rfl rfl (by decide) rfl ?_
  refine c_icmp_lt (tgt := 12) C (r32_c (lo := 0) (hi := 200) ri1.1 ri1.2 (by decide) (by decide)) (r32_c (lo := 200) (hi := 200) ri2.1 ri2.2 (by decide) (by decide)) dX1_add_8 (by decide) (fun c1 => ?_) (fun c1 => ?_)
  · refine c_aload_n (j := 0) (x := a0) C dX1_add_12 rfl ?_
    refine c_get (k := 2) C ck_2 dX1_add_13 w1_43 (by decide) t_a0 rfl rfl (by decide) rfl ?_
    refine c_aload_n (j := 0) (x := a0) C dX1_add_16 rfl ?_
    obtain ⟨rb1, rq1, trb1⟩ := hW.ref t_a0 1 rfl rfl rfl
    refine hv2 (show 16 ≤ ln rb1 ∧ ln rb1 ≤ 400 from hW.len trb1 rfl) (hW.isz t_a0 rfl rfl rq1) (fun lnrb1 szrb1 => ?_)
    refine c_getr (k := 1) C ck_2 dX1_add_17 w1_39 (by decide) t_a0 rfl rfl (by decide) rfl rq1 ?_
    refine c_st (st2 := [.ref rb1, .int (iI (iv a0 2))]) rfl ?_
    have ll1 : 16 ≤ ln rb1 ∧ ln rb1 ≤ 400 := hW.len trb1 rfl
    refine c_alenI C dX1_add_20 trb1 rfl ?_
    refine c_icmp_lt (tgt := 42) C (r32_c (lo := 0) (hi := 200) ri1.1 ri1.2 (by decide) (by decide)) ⟨by omega, by omega⟩ dX1_add_21 (by decide) (fun c2 => ?_) (fun c2 => ?_)
    · refine c_aload_n (j := 0) (x := a0) C dX1_add_42 rfl ?_
      refine c_getr (k := 1) C ck_2 dX1_add_43 w1_39 (by decide) t_a0 rfl rfl (by decide) rfl rq1 ?_
      refine c_st (st2 := [.ref rb1]) rfl ?_
      refine c_aload_n (j := 0) (x := a0) C dX1_add_46 rfl ?_
      refine c_get (k := 2) C ck_2 dX1_add_47 w1_43 (by decide) t_a0 rfl rfl (by decide) rfl ?_
      refine c_iload_n (j := 1) C dX1_add_50 rfl ?_
      refine c_iast (x := x) C dX1_add_51 trb1 rfl (by omega) (by omega) (by omega) (fun iv1 pq1 => ?_)
      refine hv2 (hW.puti pq1 trb1 (show (-2147483648) ≤ x ∧ x ≤ 2147483647 by omega) rfl) (hF0.puti hX0 pq1 trb1 rfl) (fun W1 F1 => ?_)
      refine c_aload_n (j := 0) (x := a0) C dX1_add_52 rfl ?_
      refine c_dup C dX1_add_53 rfl ?_
      refine hv2 (show 0 ≤ iv1 a0 2 ∧ iv1 a0 2 ≤ 200 from W1.int t_a0 2) (show iv1 a0 2 = iv a0 2 from by rw [pq1]; exact up2_k (ne_ty t_a0 trb1 (by decide))) (fun ri3 ie1 => ?_)
      refine c_get (k := 2) C ck_2 dX1_add_54 w1_43 (by decide) t_a0 rfl rfl (by decide) rfl ?_
      refine c_iconst C dX1_add_57 ?_
      refine c_iadd C dX1_add_58 ?_
      refine c_put (z := (iv1 a0 2) + 1) (k := 2) C ck_2 dX1_add_59 w1_43 (by decide) rfl t_a0 rfl rfl (by decide) rfl (by rfl) (by rfl) (fun iv2 pq2 => ?_)
      refine hv3 (W1.isz_put pq2 t_a0 (show 0 ≤ ((iv1 a0 2) + 1) ∧ ((iv1 a0 2) + 1) ≤ 200 by omega) rfl rfl rq1 (show ((iv1 a0 2) + 1) ≤ ((ln rb1 : Nat) : Int) by omega)) (F1.puti hX0 pq2 t_a0 rfl) (show iv2 a0 2 = (iv1 a0 2) + 1 from by rw [pq2]; exact up2_s) (fun W2 F2 ie2 => ?_)
      have ri4 : 0 ≤ iv2 a0 2 ∧ iv2 a0 2 ≤ 200 := W2.int t_a0 2
      exact c_vret C dX1_add_62 rfl (by decide) (rom0 hph hph (by decide)) ⟨rfl, hX0, F2, W2, ⟨by omega, (fun ss hs hq b2 hb j hj => by
          rw [rq1] at hb
          cases hb
          rw [pq2, up2_k (ne_ty trb1 t_a0 (by decide)), pq1]
          by_cases e : j = (iv a0 2).toNat
          · subst e; rw [up2_s, va_up_self]
          · rw [up2_j e, va_up_ne _ _ e]; exact hs _ rq1 j (by omega)), (fun e => absurd e (by omega))⟩⟩
    · refine c_aload_n (j := 0) (x := a0) C dX1_add_24 rfl ?_
      refine c_aload_n (j := 0) (x := a0) C dX1_add_25 rfl ?_
      refine c_getr (k := 1) C ck_2 dX1_add_26 w1_39 (by decide) t_a0 rfl rfl (by decide) rfl rq1 ?_
      refine c_st (st2 := [.ref rb1, .ref a0]) rfl ?_
      refine c_aload_n (j := 0) (x := a0) C dX1_add_29 rfl ?_
      refine c_getr (k := 1) C ck_2 dX1_add_30 w1_39 (by decide) t_a0 rfl rfl (by decide) rfl rq1 ?_
      refine c_st (st2 := [.ref rb1, .ref rb1, .ref a0]) rfl ?_
      refine c_alenI C dX1_add_33 trb1 rfl ?_
      refine c_iconst C dX1_add_34 ?_
      refine c_imul C dX1_add_35 ?_
      refine c_g0 C (fun hg0 => ?_)
      refine hv2 (hW.sk t_a0 (by decide) rfl) (cap_of (ln := ln) rq1 (hg0 rb1 trb1.1)) (fun ask0 cp0 => ?_)
      have sl0 := Phi.slack (t := 5) (n := ln rb1) hW hS ⟨by decide, by decide⟩ (by rw [← ask0]; exact cp0) (by show ln rb1 ≤ 200; omega)
      refine c_callS (As := [.ref rb1, .int (iI (((ln rb1 : Nat) : Int) * 2))]) (rest := [.ref a0]) C hM (G_copyOf_5 (a0 := rb1) (n := ((ln rb1 : Nat) : Int) * 2) hW hS trb1 (by omega) (by show ((ln rb1 : Nat) : Int) < (((ln rb1 : Nat) : Int) * 2) ∧ 16 ≤ (((ln rb1 : Nat) : Int) * 2) ∧ (((ln rb1 : Nat) : Int) * 2) ≤ 400; omega)) dX1_add_36 kS_X1_20 rfl rfl (Nat.le_of_ble_eq_true rfl) ⟨(Nat.le_of_ble_eq_true rfl), (Nat.le_of_ble_eq_true rfl)⟩ (by unfold zPf; omega) (fun rh1 Lh1 clh1 lnh1 ivh1 rvh1 h1 => ⟨(0 + (16 + (((ln rb1 : Nat) : Int) * 2).toNat)), (zk1 (by obtain ⟨_, _, xlh1x, flh1x, Wh1x, _⟩ := h1; exact Phi.fr hW hS xlh1x flh1x rfl)), ?_⟩)
      obtain ⟨f1, rfl, xl1, fl1, W3, rgf1, exf1⟩ := h1
      refine hv3 (hF0.call hX0 fl1 rfl) (hX0.trans xl1) (xl1.skl hS) (fun F3 X1 sk1 => ?_)
      refine c_st (st2 := [.ref f1, .ref a0]) rfl ?_
      refine hv3 (show lnh1 f1 = (((ln rb1 : Nat) : Int) * 2).toNat ∧ ∀ j : Nat, j < ln rb1 → ivh1 f1 j = iv rb1 j from exf1) (xl1.ty t_a0) (show rvh1 a0 1 = rv a0 1 from (fl1.r t_a0 rfl 1)) (fun gf1 ty1 re1 => ?_)
      rw [rq1] at re1
      refine hv4 (show 0 ≤ ivh1 a0 2 ∧ ivh1 a0 2 ≤ 200 from W3.int ty1 2) (show ivh1 a0 2 = iv a0 2 from fl1.i t_a0 rfl 2) (xl1.ty trb1) (show lnh1 rb1 = ln rb1 from (xl1 rb1 trb1.1).2.2) (fun ri5 ie3 ty2 le1 => ?_)
      refine c_g0 C (fun hg1 => ?_)
      refine hv2 (W3.sk ty1 (by decide) rfl) (cap_of (ln := lnh1) re1 (hg1 rb1 ty2.1)) (fun ask cpo => ?_)
      refine c_putr (x := (some f1)) (k := 1) C ck_2 dX1_add_39 w1_39 (by decide) rfl ty1 rfl rfl (by decide) rfl (by rfl) (by rfl) (fun rv1 pq3 => ⟨0, (by have gr := Phi.grow (g := g0 G) (rv2 := rv1) (rv := rvh1) (b := f1) (ln := lnh1) (t := 5) sk1 (by rw [← ask]; exact pq3) (hg1 f1 rgf1.1) (Or.inl ⟨by decide, by decide⟩); rw [← ask] at gr; have gr2 : Phi (g0 G) sk lnh1 rv1 + 3 * cap (g0 G) lnh1 rvh1 a0 = Phi (g0 G) sk lnh1 rvh1 + 3 * lnh1 f1 := gr; omega), ?_⟩)
      refine hv2 (W3.putit pq3 ty1 rfl rfl rgf1 (by omega)) (F3.putr X1 pq3 ty1 rfl) (fun W4 F4 => ?_)
      refine c_aload_n (j := 0) (x := a0) C dX1_add_42 rfl ?_
      have rp1 : rv1 a0 1 = (some f1) := by rw [pq3]; exact upr_s
      refine c_getr (k := 1) C ck_2 dX1_add_43 w1_39 (by decide) ty1 rfl rfl (by decide) rfl rp1 ?_
      refine c_st (st2 := [.ref f1]) rfl ?_
      refine c_aload_n (j := 0) (x := a0) C dX1_add_46 rfl ?_
      refine c_get (k := 2) C ck_2 dX1_add_47 w1_43 (by decide) ty1 rfl rfl (by decide) rfl ?_
      refine c_iload_n (j := 1) C dX1_add_50 rfl ?_
      have ll2 : 16 ≤ lnh1 f1 ∧ lnh1 f1 ≤ 400 := W4.len rgf1 rfl
      refine c_iast (x := x) C dX1_add_51 rgf1 rfl (by omega) (by omega) (by omega) (fun iv3 pq4 => ?_)
      refine hv2 (W4.puti pq4 rgf1 (show (-2147483648) ≤ x ∧ x ≤ 2147483647 by omega) rfl) (F4.puti X1 pq4 rgf1 rfl) (fun W5 F5 => ?_)
      refine c_aload_n (j := 0) (x := a0) C dX1_add_52 rfl ?_
      refine c_dup C dX1_add_53 rfl ?_
      refine hv2 (show 0 ≤ iv3 a0 2 ∧ iv3 a0 2 ≤ 200 from W5.int ty1 2) (show iv3 a0 2 = ivh1 a0 2 from by rw [pq4]; exact up2_k (ne_ty ty1 rgf1 (by decide))) (fun ri6 ie4 => ?_)
      refine c_get (k := 2) C ck_2 dX1_add_54 w1_43 (by decide) ty1 rfl rfl (by decide) rfl ?_
      refine c_iconst C dX1_add_57 ?_
      refine c_iadd C dX1_add_58 ?_
      refine c_put (z := (iv3 a0 2) + 1) (k := 2) C ck_2 dX1_add_59 w1_43 (by decide) rfl ty1 rfl rfl (by decide) rfl (by rfl) (by rfl) (fun iv4 pq5 => ?_)
      refine hv3 (W5.isz_put pq5 ty1 (show 0 ≤ ((iv3 a0 2) + 1) ∧ ((iv3 a0 2) + 1) ≤ 200 by omega) rfl rfl rp1 (show ((iv3 a0 2) + 1) ≤ ((lnh1 f1 : Nat) : Int) by omega)) (F5.puti X1 pq5 ty1 rfl) (show iv4 a0 2 = (iv3 a0 2) + 1 from by rw [pq5]; exact up2_s) (fun W6 F6 ie5 => ?_)
      refine hv2 (show 0 ≤ iv4 a0 2 ∧ iv4 a0 2 ≤ 200 from W6.int ty1 2) (Phi.le W6 sk1) (fun ri7 pl1 => ?_)
      exact c_vret C dX1_add_62 rfl (by decide) (rom0 hph pl1 (by decide)) ⟨rfl, X1, F6, W6, ⟨by omega, (fun ss hs hq b2 hb j hj => by
          rw [rp1] at hb
          cases hb
          rw [pq5, up2_k (ne_ty rgf1 ty1 (by decide)), pq4]
          by_cases e : j = (iv a0 2).toNat
          · subst e; rw [show (iv a0 2).toNat = (ivh1 a0 2).toNat from congrArg Int.toNat (by omega), up2_s, va_up_self]
          · rw [up2_j (fun e2 => e (e2.trans (congrArg Int.toNat (by omega)))), va_up_ne _ _ e, gf1.2 j (by omega)]; exact hs _ rq1 j (by omega)), (fun e => absurd e (by omega))⟩⟩
  · exact c_vret C dX1_add_11 rfl (by decide) (rom0 hph hph (by decide)) ⟨rfl, hX0, hF0, hW, ⟨by omega, (fun ss hs hq => absurd hq (by omega)), fun _ ss hs => hs⟩⟩
