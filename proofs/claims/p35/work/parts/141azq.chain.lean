set_option maxHeartbeats 4000000 in
set_option maxRecDepth 100000 in
theorem G_copyOf_8 {l : Launch} {G : GT} {mi : Nat} {sk : Nat → Nat} {L : List Nat} {cl ln : Nat → Nat} {iv : Nat → Nat → Int} {rv : Nat → Nat → Option Nat}  {a0 : Nat} {n : Int} (hW : WT (g0 G) sk L cl ln iv rv) (hS : SKL sk L cl) (t_a0 : ty L cl a0 38) (h_n : -2147483648 ≤ n ∧ n ≤ 2147483647) (hn : ((ln a0 : Nat) : Int) < n ∧ 16 ≤ n ∧ n ≤ 80400) : Mc l G mi zPf 0 yJ7_copyOf_59c91 cJ7_copyOf_59c91 3 (some (.array .int)) 1 [.ref a0, .int (iI n)] L cl ln iv rv (16 + n.toNat) (fun v L2 cl2 ln2 iv2 rv2 => ∃ f : Nat, v = some (.ref f) ∧ XT L cl ln L2 cl2 ln2 ∧ fT [38] L cl iv rv iv2 rv2 ∧ WT (g0 G) sk L2 cl2 ln2 iv2 rv2 ∧ ty L2 cl2 f 38 ∧ (ln2 f = n.toNat ∧ ∀ j : Nat, j < ln a0 → iv2 f j = iv a0 j)) := by
  refine Mc.mk (by decide) (Nat.le_of_ble_eq_true rfl) ?_
  intro p e s m args below meth c A C hM
  refine hv3 ((show zPf ln rv ≤ 0 from Nat.le_refl 0)) (show XT L cl ln L cl ln from XT.refl) (show fT [38] L cl iv rv iv rv from fT.refl) (fun hph hX0 hF0 => ?_)
  refine c_iload_n (j := 1) C dJ7_copyOf_59c91_0 rfl ?_
  refine c_aload_n (j := 0) (x := a0) C dJ7_copyOf_59c91_1 rfl ?_
  have ll1 : 16 ≤ ln a0 ∧ ln a0 ≤ 80400 := hW.len t_a0 rfl
  refine c_alenI C dJ7_copyOf_59c91_2 t_a0 rfl ?_
  refine c_icmp_ne (tgt := 14) C ⟨by omega, by omega⟩ ⟨by omega, by omega⟩ dJ7_copyOf_59c91_3 (by decide) (fun _ => ?_) (fun z => absurd z (by omega))
  refine c_iload_n (j := 1) C dJ7_copyOf_59c91_14 rfl ?_
  refine c_newaI (z := n) (N := n.toNat) C 38 dJ7_copyOf_59c91_15 w1_57 rfl (by omega) (by omega) (rom2 hph hph (by omega)) (fun qn1 cln1 lnn1 ivn1 rvn1 hqn1 hcn1 hln1 hin1 hrn1 => ⟨(0 + (16 + n.toNat)), (z_in (by omega)), ?_⟩)
  refine c_g0 C (fun hg1 => ?_)
  refine hv5 (show ∀ b, b ≠ qn1 → lnn1 b = ln b from (fun b hb => by rw [hln1]; exact va_up_ne _ _ hb)) (show lnn1 qn1 = n.toNat from by rw [hln1]; exact va_up_self _ _ _) (hF0.new hX0 hqn1 hin1 hrn1) (show ty (L ++ [qn1]) cln1 qn1 38 from ty_new hcn1) (show qn1 ∉ L from fun h => hqn1 ((hX0 qn1 h).1)) (fun hxn1 lqn1 F1 tqn1 h0qn1 => ?_)
  refine hv2 (hW.new (ln2 := lnn1) hqn1 (hg1 qn1 (List.mem_append_right _ List.mem_cons_self)) hcn1 hxn1 hin1 hrn1 (fun _ => ⟨(show (-2147483648 : Int) ≤ 0 by decide), (show (0 : Int) ≤ 2147483647 by decide)⟩) (Or.inr (fun _ => rfl)) (fun _ => by show 16 ≤ lnn1 qn1 ∧ lnn1 qn1 ≤ 80400; omega) rfl rfl) (XT.new hqn1 hcn1 hxn1) (fun W1 xl1 => ?_)
  refine hv2 (hX0.trans xl1) (xl1.skl hS) (fun X1 sk1 => ?_)
  refine c_astore_n (lv2 := [(2, .ref qn1), (0, .ref a0), (1, .int (iI n))]) C dJ7_copyOf_59c91_17 (by decide) rfl ?_
  refine c_aload_n (j := 1) (x := a0) C dJ7_copyOf_59c91_18 rfl ?_
  refine c_iconst C dJ7_copyOf_59c91_19 ?_
  refine c_aload_n (j := 0) (x := qn1) C dJ7_copyOf_59c91_20 rfl ?_
  refine c_iconst C dJ7_copyOf_59c91_21 ?_
  refine c_aload_n (j := 1) (x := a0) C dJ7_copyOf_59c91_22 rfl ?_
  have ty1 := xl1.ty t_a0
  have ll2 : 16 ≤ lnn1 a0 ∧ lnn1 a0 ≤ 80400 := W1.len ty1 rfl
  refine c_alenI C dJ7_copyOf_59c91_23 ty1 rfl ?_
  refine c_iload_n (j := 2) C dJ7_copyOf_59c91_24 rfl ?_
  obtain ⟨mn1, hmn1, emn1⟩ := mmin_c (x := ((lnn1 a0 : Nat) : Int)) (y := n) ⟨by omega, by omega⟩ ⟨by omega, by omega⟩
  refine c_mmin (w := iI mn1) C dJ7_copyOf_59c91_25 w2_128 w2_129 w1_14 w2_130 (by decide) (rom0 hph (Nat.le_refl 0) (by omega)) (Nat.le_of_ble_eq_true rfl) emn1 ?_
  have ll3 : 16 ≤ lnn1 qn1 ∧ lnn1 qn1 ≤ 80400 := W1.len tqn1 rfl
  refine c_copyi (sp := 0) (dp := 0) (n := mn1) C dJ7_copyOf_59c91_28 w2_131 w2_133 w2_132 w1_15 ty1 rfl tqn1 rfl (by omega) (by omega) (by omega) (by omega) (by omega) (by omega) (by omega) (by decide) (Nat.le_of_ble_eq_true rfl) (fun iv1 pq1 => ?_)
  refine hv2 (W1.copy pq1 tqn1 ty1 (fun _ => rfl) (fun _ => rfl) (fun _ => rfl) (fun _ => rfl) rfl) (F1.copy X1 pq1 tqn1 rfl) (fun W2 F2 => ?_)
  refine c_aload_n (j := 0) (x := qn1) C dJ7_copyOf_59c91_31 rfl ?_
  have le1 : lnn1 a0 = ln a0 := (xl1 a0 t_a0.1).2.2
  exact c_aret (x := some qn1) C dJ7_copyOf_59c91_32 rfl (Or.inr ⟨_, rfl⟩) (by omega) (rom0 hph (Nat.le_refl 0) (by omega)) ⟨qn1, rfl, X1, F2, W2, tqn1, ⟨lqn1, fun j hj => by
      rw [pq1]
      show (if qn1 = qn1 then (if (0 : Int).toNat ≤ j ∧ j < (0 : Int).toNat + mn1.toNat then ivn1 a0 ((0 : Int).toNat + (j - (0 : Int).toNat)) else ivn1 qn1 j) else ivn1 qn1 j) = _
      rw [if_pos rfl, if_pos ⟨by omega, by omega⟩, hin1, congrFun (up0_a (ne_in t_a0.1 hqn1)) _]
      exact congrArg (iv a0) (by omega)⟩⟩
set_option maxHeartbeats 4000000 in
set_option maxRecDepth 100000 in
theorem G_add_8 {l : Launch} {G : GT} {mi : Nat} {sk : Nat → Nat} {L : List Nat} {cl ln : Nat → Nat} {iv : Nat → Nat → Int} {rv : Nat → Nat → Option Nat}  {a0 : Nat} {x : Int} (hW : WT (g0 G) sk L cl ln iv rv) (hS : SKL sk L cl) (t_a0 : ty L cl a0 8) (h_x : -2147483648 ≤ x ∧ x ≤ 2147483647)  : Mc l G mi (Phi (g0 G) sk) PHM yX1_add cX1_add 2 none 2 [.ref a0, .int (iI x)] L cl ln iv rv 0 (fun v L2 cl2 ln2 iv2 rv2 => v = none ∧ XT L cl ln L2 cl2 ln2 ∧ fT [8, 38] L cl iv rv iv2 rv2 ∧ WT (g0 G) sk L2 cl2 ln2 iv2 rv2 ∧ (((iv2 a0 2 = iv a0 2 ∧ iv a0 2 = 40200) ∨ (iv2 a0 2 = iv a0 2 + 1 ∧ iv a0 2 < 40200)) ∧ (∀ ss, CT iv rv a0 ss → iv a0 2 < 40200 → CT iv2 rv2 a0 (va_up ss (iv a0 2).toNat x)) ∧ (iv a0 2 = 40200 → ∀ ss, CT iv rv a0 ss → CT iv2 rv2 a0 ss))) := by
  refine Mc.mk (by decide) (Nat.le_of_ble_eq_true rfl) ?_
  intro p e s m args below meth c A C hM
  refine hv3 (Phi.le hW hS) (show XT L cl ln L cl ln from XT.refl) (show fT [8, 38] L cl iv rv iv rv from fT.refl) (fun hph hX0 hF0 => ?_)
  refine c_aload_n (j := 0) (x := a0) C dX1_add_0 rfl ?_
  have ri1 : 0 ≤ iv a0 2 ∧ iv a0 2 ≤ 40200 := hW.int t_a0 2
  refine c_get (k := 2) C ck_2 dX1_add_1 w1_43 (by decide) t_a0 rfl rfl (by decide) rfl ?_
  refine c_aload_n (j := 0) (x := a0) C dX1_add_4 rfl ?_
  have ri2 : 40200 ≤ iv a0 0 ∧ iv a0 0 ≤ 40200 := hW.int t_a0 0
  refine c_get (k := 0) C ck_2 dX1_add_5 w1_38 (by decide) t_a0 rfl rfl (by decide) rfl ?_
  refine c_icmp_lt (tgt := 12) C (r32_c (lo := 0) (hi := 40200) ri1.1 ri1.2 (by decide) (by decide)) (r32_c (lo := 40200) (hi := 40200) ri2.1 ri2.2 (by decide) (by decide)) dX1_add_8 (by decide) (fun c1 => ?_) (fun c1 => ?_)
  · refine c_aload_n (j := 0) (x := a0) C dX1_add_12 rfl ?_
    refine c_get (k := 2) C ck_2 dX1_add_13 w1_43 (by decide) t_a0 rfl rfl (by decide) rfl ?_
    refine c_aload_n (j := 0) (x := a0) C dX1_add_16 rfl ?_
    obtain ⟨rb1, rq1, trb1⟩ := hW.ref t_a0 1 rfl rfl rfl
    refine hv2 (show 16 ≤ ln rb1 ∧ ln rb1 ≤ 80400 from hW.len trb1 rfl) (hW.isz t_a0 rfl rfl rq1) (fun lnrb1 szrb1 => ?_)
    refine c_getr (k := 1) C ck_2 dX1_add_17 w1_39 (by decide) t_a0 rfl rfl (by decide) rfl rq1 ?_
    refine c_st (st2 := [.ref rb1, .int (iI (iv a0 2))]) rfl ?_
    have ll1 : 16 ≤ ln rb1 ∧ ln rb1 ≤ 80400 := hW.len trb1 rfl
    refine c_alenI C dX1_add_20 trb1 rfl ?_
    refine c_icmp_lt (tgt := 42) C (r32_c (lo := 0) (hi := 40200) ri1.1 ri1.2 (by decide) (by decide)) ⟨by omega, by omega⟩ dX1_add_21 (by decide) (fun c2 => ?_) (fun c2 => ?_)
    · refine c_aload_n (j := 0) (x := a0) C dX1_add_42 rfl ?_
      refine c_getr (k := 1) C ck_2 dX1_add_43 w1_39 (by decide) t_a0 rfl rfl (by decide) rfl rq1 ?_
      refine c_st (st2 := [.ref rb1]) rfl ?_
      refine c_aload_n (j := 0) (x := a0) C dX1_add_46 rfl ?_
      refine c_get (k := 2) C ck_2 dX1_add_47 w1_43 (by decide) t_a0 rfl rfl (by decide) rfl ?_
      refine c_iload_n (j := 1) C dX1_add_50 rfl ?_
      refine c_iast (x := x) C dX1_add_51 trb1 rfl (by omega) (by omega) (by omega) (fun iv1 pq1 => ?_)
      refine hv2 (hW.puti pq1 trb1 (show (-2147483648) ≤ x ∧ x ≤ 2147483647 by omega) rfl) (hF0.puti hX0 pq1 trb1 rfl) (fun W1 F1 => ?_)
      refine c_aload_n (j := 0) (x := a0) C dX1_add_52 rfl ?_
      refine c_dup C dX1_add_53 rfl ?_
      refine hv2 (show 0 ≤ iv1 a0 2 ∧ iv1 a0 2 ≤ 40200 from W1.int t_a0 2) (show iv1 a0 2 = iv a0 2 from by rw [pq1]; exact up2_k (ne_ty t_a0 trb1 (by decide))) (fun ri3 ie1 => ?_)
      refine c_get (k := 2) C ck_2 dX1_add_54 w1_43 (by decide) t_a0 rfl rfl (by decide) rfl ?_
      refine c_iconst C dX1_add_57 ?_
      refine c_iadd C dX1_add_58 ?_
      refine c_put (z := (iv1 a0 2) + 1) (k := 2) C ck_2 dX1_add_59 w1_43 (by decide) rfl t_a0 rfl rfl (by decide) rfl (by rfl) (by rfl) (fun iv2 pq2 => ?_)
      refine hv3 (W1.isz_put pq2 t_a0 (show 0 ≤ ((iv1 a0 2) + 1) ∧ ((iv1 a0 2) + 1) ≤ 40200 by omega) rfl rfl rq1 (show ((iv1 a0 2) + 1) ≤ ((ln rb1 : Nat) : Int) by omega)) (F1.puti hX0 pq2 t_a0 rfl) (show iv2 a0 2 = (iv1 a0 2) + 1 from by rw [pq2]; exact up2_s) (fun W2 F2 ie2 => ?_)
      have ri4 : 0 ≤ iv2 a0 2 ∧ iv2 a0 2 ≤ 40200 := W2.int t_a0 2
      exact c_vret C dX1_add_62 rfl (by decide) (rom0 hph hph (by decide)) ⟨rfl, hX0, F2, W2, ⟨by omega, (fun ss hs hq b2 hb j hj => by
          rw [rq1] at hb
          cases hb
          rw [pq2, up2_k (ne_ty trb1 t_a0 (by decide)), pq1]
          by_cases e : j = (iv a0 2).toNat
          · subst e; rw [up2_s, va_up_self]
          · rw [up2_j e, va_up_ne _ _ e]; exact hs _ rq1 j (by omega)), (fun e => absurd e (by omega))⟩⟩
    · refine c_aload_n (j := 0) (x := a0) C dX1_add_24 rfl ?_
      refine c_aload_n (j := 0) (x := a0) C dX1_add_25 rfl ?_
      refine c_getr (k := 1) C ck_2 dX1_add_26 w1_39 (by decide) t_a0 rfl rfl (by decide) rfl rq1 ?_
      refine c_st (st2 := [.ref rb1, .ref a0]) rfl ?_
      refine c_aload_n (j := 0) (x := a0) C dX1_add_29 rfl ?_
      refine c_getr (k := 1) C ck_2 dX1_add_30 w1_39 (by decide) t_a0 rfl rfl (by decide) rfl rq1 ?_
      refine c_st (st2 := [.ref rb1, .ref rb1, .ref a0]) rfl ?_
      refine c_alenI C dX1_add_33 trb1 rfl ?_
      refine c_iconst C dX1_add_34 ?_
      refine c_imul C dX1_add_35 ?_
      refine c_g0 C (fun hg0 => ?_)
      refine hv2 (hW.sk t_a0 (by decide) rfl) (cap_of (ln := ln) rq1 (hg0 rb1 trb1.1)) (fun ask0 cp0 => ?_)
      have sl0 := Phi.slack (t := 8) (n := ln rb1) hW hS ⟨by decide, by decide⟩ (by rw [← ask0]; exact cp0) (by show ln rb1 ≤ 40200; omega)
      refine c_callS (As := [.ref rb1, .int (iI (((ln rb1 : Nat) : Int) * 2))]) (rest := [.ref a0]) C hM (G_copyOf_8 (a0 := rb1) (n := ((ln rb1 : Nat) : Int) * 2) hW hS trb1 (by omega) (by show ((ln rb1 : Nat) : Int) < (((ln rb1 : Nat) : Int) * 2) ∧ 16 ≤ (((ln rb1 : Nat) : Int) * 2) ∧ (((ln rb1 : Nat) : Int) * 2) ≤ 80400; omega)) dX1_add_36 kS_X1_20 rfl rfl (Nat.le_of_ble_eq_true rfl) ⟨(Nat.le_of_ble_eq_true rfl), (Nat.le_of_ble_eq_true rfl)⟩ (by unfold zPf; omega) (fun rh1 Lh1 clh1 lnh1 ivh1 rvh1 h1 => ⟨(0 + (16 + (((ln rb1 : Nat) : Int) * 2).toNat)), (zk1 (by obtain ⟨_, _, xlh1x, flh1x, Wh1x, _⟩ := h1; exact Phi.fr hW hS xlh1x flh1x rfl)), ?_⟩)
      obtain ⟨f1, rfl, xl1, fl1, W3, rgf1, exf1⟩ := h1
      refine hv3 (hF0.call hX0 fl1 rfl) (hX0.trans xl1) (xl1.skl hS) (fun F3 X1 sk1 => ?_)
      refine c_st (st2 := [.ref f1, .ref a0]) rfl ?_
      refine hv3 (show lnh1 f1 = (((ln rb1 : Nat) : Int) * 2).toNat ∧ ∀ j : Nat, j < ln rb1 → ivh1 f1 j = iv rb1 j from exf1) (xl1.ty t_a0) (show rvh1 a0 1 = rv a0 1 from (fl1.r t_a0 rfl 1)) (fun gf1 ty1 re1 => ?_)
      rw [rq1] at re1
      refine hv4 (show 0 ≤ ivh1 a0 2 ∧ ivh1 a0 2 ≤ 40200 from W3.int ty1 2) (show ivh1 a0 2 = iv a0 2 from fl1.i t_a0 rfl 2) (xl1.ty trb1) (show lnh1 rb1 = ln rb1 from (xl1 rb1 trb1.1).2.2) (fun ri5 ie3 ty2 le1 => ?_)
      refine c_g0 C (fun hg1 => ?_)
      refine hv2 (W3.sk ty1 (by decide) rfl) (cap_of (ln := lnh1) re1 (hg1 rb1 ty2.1)) (fun ask cpo => ?_)
      refine c_putr (x := (some f1)) (k := 1) C ck_2 dX1_add_39 w1_39 (by decide) rfl ty1 rfl rfl (by decide) rfl (by rfl) (by rfl) (fun rv1 pq3 => ⟨0, (by have gr := Phi.grow (g := g0 G) (rv2 := rv1) (rv := rvh1) (b := f1) (ln := lnh1) (t := 8) sk1 (by rw [← ask]; exact pq3) (hg1 f1 rgf1.1) (Or.inl ⟨by decide, by decide⟩); rw [← ask] at gr; have gr2 : Phi (g0 G) sk lnh1 rv1 + 3 * cap (g0 G) lnh1 rvh1 a0 = Phi (g0 G) sk lnh1 rvh1 + 3 * lnh1 f1 := gr; omega), ?_⟩)
      refine hv2 (W3.putit pq3 ty1 rfl rfl rgf1 (by omega)) (F3.putr X1 pq3 ty1 rfl) (fun W4 F4 => ?_)
      refine c_aload_n (j := 0) (x := a0) C dX1_add_42 rfl ?_
      have rp1 : rv1 a0 1 = (some f1) := by rw [pq3]; exact upr_s
      refine c_getr (k := 1) C ck_2 dX1_add_43 w1_39 (by decide) ty1 rfl rfl (by decide) rfl rp1 ?_
      refine c_st (st2 := [.ref f1]) rfl ?_
      refine c_aload_n (j := 0) (x := a0) C dX1_add_46 rfl ?_
      refine c_get (k := 2) C ck_2 dX1_add_47 w1_43 (by decide) ty1 rfl rfl (by decide) rfl ?_
      refine c_iload_n (j := 1) C dX1_add_50 rfl ?_
      have ll2 : 16 ≤ lnh1 f1 ∧ lnh1 f1 ≤ 80400 := W4.len rgf1 rfl
      refine c_iast (x := x) C dX1_add_51 rgf1 rfl (by omega) (by omega) (by omega) (fun iv3 pq4 => ?_)
      refine hv2 (W4.puti pq4 rgf1 (show (-2147483648) ≤ x ∧ x ≤ 2147483647 by omega) rfl) (F4.puti X1 pq4 rgf1 rfl) (fun W5 F5 => ?_)
      refine c_aload_n (j := 0) (x := a0) C dX1_add_52 rfl ?_
      refine c_dup C dX1_add_53 rfl ?_
      refine hv2 (show 0 ≤ iv3 a0 2 ∧ iv3 a0 2 ≤ 40200 from W5.int ty1 2) (show iv3 a0 2 = ivh1 a0 2 from by rw [pq4]; exact up2_k (ne_ty ty1 rgf1 (by decide))) (fun ri6 ie4 => ?_)
      refine c_get (k := 2) C ck_2 dX1_add_54 w1_43 (by decide) ty1 rfl rfl (by decide) rfl ?_
      refine c_iconst C dX1_add_57 ?_
      refine c_iadd C dX1_add_58 ?_
      refine c_put (z := (iv3 a0 2) + 1) (k := 2) C ck_2 dX1_add_59 w1_43 (by decide) rfl ty1 rfl rfl (by decide) rfl (by rfl) (by rfl) (fun iv4 pq5 => ?_)
      refine hv3 (W5.isz_put pq5 ty1 (show 0 ≤ ((iv3 a0 2) + 1) ∧ ((iv3 a0 2) + 1) ≤ 40200 by omega) rfl rfl rp1 (show ((iv3 a0 2) + 1) ≤ ((lnh1 f1 : Nat) : Int) by omega)) (F5.puti X1 pq5 ty1 rfl) (show iv4 a0 2 = (iv3 a0 2) + 1 from by rw [pq5]; exact up2_s) (fun W6 F6 ie5 => ?_)
      refine hv2 (show 0 ≤ iv4 a0 2 ∧ iv4 a0 2 ≤ 40200 from W6.int ty1 2) (Phi.le W6 sk1) (fun ri7 pl1 => ?_)
      exact c_vret C dX1_add_62 rfl (by decide) (rom0 hph pl1 (by decide)) ⟨rfl, X1, F6, W6, ⟨by omega, (fun ss hs hq b2 hb j hj => by
          rw [rp1] at hb
          cases hb
          rw [pq5, up2_k (ne_ty rgf1 ty1 (by decide)), pq4]
          by_cases e : j = (iv a0 2).toNat
          · subst e; rw [show (iv a0 2).toNat = (ivh1 a0 2).toNat from congrArg Int.toNat (by omega), up2_s, va_up_self]
          · rw [up2_j (fun e2 => e (e2.trans (congrArg Int.toNat (by omega)))), va_up_ne _ _ e, gf1.2 j (by omega)]; exact hs _ rq1 j (by omega)), (fun e => absurd e (by omega))⟩⟩
  · exact c_vret C dX1_add_11 rfl (by decide) (rom0 hph hph (by decide)) ⟨rfl, hX0, hF0, hW, ⟨by omega, (fun ss hs hq => absurd hq (by omega)), fun _ ss hs => hs⟩⟩
def CEL (iv : Nat → Nat → Int) (rv : Nat → Nat → Option Nat) (q : Nat) (xs : List Int) : Prop := iv q 2 = ((xs.length : Nat) : Int) ∧ ∀ b, rv q 1 = some b → ∀ (j : Nat) (x : Int), xs[j]? = some x → iv b j = x
def ACX (iv : Nat → Nat → Int) (rv : Nat → Nat → Option Nat) (sk : Nat → Nat) (iv2 : Nat → Nat → Int) (rv2 : Nat → Nat → Option Nat) (x : Int) : Prop := ∀ xs, CEL iv rv (sk 8) xs → xs.length < 40200 → CEL iv2 rv2 (sk 8) (xs ++ [x])
def LNW (iv : Nat → Nat → Int) (rv : Nat → Nat → Option Nat) (r : Nat) (x f : Int) : Prop := ∀ ys, LNE iv rv r ys → (f = 1 ↔ goon x ys)
def sgp (hy la : Int) (ys : List Int) : List Int := if 0 < ys.length ∧ gd0 ys (ys.length - 1) = hy then ys.take (ys.length - 1) else if la = 1 then ys else ys ++ [0]
def CHX (iv : Nat → Nat → Int) (rv : Nat → Nat → Option Nat) (sk : Nat → Nat) (iv2 : Nat → Nat → Int) (rv2 : Nat → Nat → Option Nat) (r : Nat) (hy la : Int) : Prop := ∀ xs ys, CEL iv rv (sk 8) xs → LNE iv rv r ys → ys.length ≤ 200 → xs.length ≤ 39999 → CEL iv2 rv2 (sk 8) (xs ++ sgp hy la ys)
def CHI (iv : Nat → Nat → Int) (rv : Nat → Nat → Option Nat) (sk : Nat → Nat) (iv1 : Nat → Nat → Int) (rv1 : Nat → Nat → Option Nat) (r : Nat) (k : Int) : Prop := ∀ xs ys, CEL iv rv (sk 8) xs → LNE iv rv r ys → ys.length ≤ 200 → xs.length ≤ 39999 → k ≤ ((ys.length : Nat) : Int) → CEL iv1 rv1 (sk 8) (xs ++ ys.take k.toNat)
section CHAI
variable {h : Nat} {sk : Nat → Nat} {L : List Nat} {cl ln : Nat → Nat} {iv iv1 iv2 : Nat → Nat → Int} {rv rv1 rv2 : Nat → Nat → Option Nat} {q r cb b : Nat} {x y f k hy la n : Int} {xs ys : List Int} {ls : List Nat}
theorem CEL.nil (h0 : iv q 2 = 0) : CEL iv rv q [] := ⟨h0, fun b _ j x e => by simp at e⟩
theorem CEL.ct (hc : CEL iv rv q xs) : CT iv rv q (fun j => (xs[j]?).getD 0) := fun b hq j hj => by
  have e := hc.1
  have lt : j < xs.length := by omega
  have e2 := List.getElem?_eq_getElem lt
  show iv b j = (xs[j]?).getD 0
  rw [e2, hc.2 b hq j _ e2]
  rfl
theorem CEL.rct (hc : CEL iv rv q xs) : RCT iv rv q (RR0 xs) := ⟨hc.ct, fun j hj => by
  have e := hc.1
  unfold RR0
  rw [List.getElem?_eq_none (by omega)]
  rfl⟩
theorem CEL.snoc (hc : CEL iv rv q xs) (hl : xs.length < 40200) (g : ((iv2 q 2 = iv q 2 ∧ iv q 2 = 40200) ∨ (iv2 q 2 = iv q 2 + 1 ∧ iv q 2 < 40200)) ∧ (∀ ss, CT iv rv q ss → iv q 2 < 40200 → CT iv2 rv2 q (va_up ss (iv q 2).toNat x)) ∧ (iv q 2 = 40200 → ∀ ss, CT iv rv q ss → CT iv2 rv2 q ss)) : CEL iv2 rv2 q (xs ++ [x]) := by
  obtain ⟨g1, g2, g3⟩ := g
  have e := hc.1
  have w := g2 _ hc.ct (by omega)
  refine ⟨by rw [len1]; omega, fun b hq j y ej => ?_⟩
  rw [w b hq j (by rcases ap1 ej with ⟨c, _⟩ | ⟨c, _⟩ <;> omega)]
  rcases ap1 ej with ⟨c, ej⟩ | ⟨c, ej⟩
  · rw [va_up_ne _ _ (by omega)]
    show (xs[j]?).getD 0 = y
    rw [ej]
    rfl
  · rw [show j = (iv q 2).toNat by omega, va_up_self]
    exact ej
theorem CEL.fr (hc : CEL iv rv q xs) (hW : WT h sk L cl ln iv rv) (tq : ty L cl q 8) (hF : fT ls L cl iv rv iv2 rv2) (h1 : ls.contains 8 = false) (h2 : ls.contains 38 = false) : CEL iv2 rv2 q xs := by
  refine ⟨(hF.i tq h1 2).trans hc.1, fun b hq j x e => ?_⟩
  rw [hF.r tq h1 1] at hq
  obtain ⟨b', w1, tb⟩ := hW.ref tq 1 rfl rfl rfl
  rw [hq] at w1; cases w1
  rw [hF.i tb h2 j]
  exact hc.2 b hq j x e
theorem LNW.mk1 (hc : rv r 0 = some cb) (h1 : 0 < iv r 1) (e : iv cb (iv r 1 - 1).toNat = x) (hf : f = 1) : LNW iv rv r x f := fun ys hl => by
  obtain ⟨l1, l2⟩ := hl
  have lt : ys.length - 1 < ys.length := by omega
  have e2 := List.getElem?_eq_getElem lt
  have e3 := l2 cb hc _ _ e2
  refine ⟨fun _ => ⟨by omega, ?_⟩, fun _ => hf⟩
  unfold gd0
  rw [e2, ← e3, show ys.length - 1 = (iv r 1 - 1).toNat by omega]
  exact e
theorem LNW.mk0 (hn : iv r 1 ≤ 0 ∨ (0 < iv r 1 ∧ ∃ cb, rv r 0 = some cb ∧ iv cb (iv r 1 - 1).toNat ≠ x)) (hf : f = 0) : LNW iv rv r x f := fun ys hl => by
  obtain ⟨l1, l2⟩ := hl
  refine ⟨fun e => absurd e (by omega), fun e => ?_⟩
  rcases hn with hn | ⟨h1, cb, hc, hn⟩
  · exact absurd e.1 (by omega)
  · have lt : ys.length - 1 < ys.length := by have := e.1; omega
    have e2 := List.getElem?_eq_getElem lt
    refine hv2 (l2 cb hc _ _ e2) (e.2) (fun e3 e4 => ?_)
    unfold gd0 at e4
    rw [e2, ← e3, show ys.length - 1 = (iv r 1 - 1).toNat by omega] at e4
    exact absurd e4 hn
theorem CHI.init : CHI iv rv sk iv rv r 0 := fun xs ys hc _ _ _ _ => by
  show CEL iv rv (sk 8) (xs ++ [])
  rw [List.append_nil]
  exact hc
theorem CHI.step (hI : CHI iv rv sk iv1 rv1 r k) (hk : 0 ≤ k) (hc : rv r 0 = some cb) (hx : x = iv cb k.toNat) (ha : ACX iv1 rv1 sk iv2 rv2 x) : CHI iv rv sk iv2 rv2 r (k + 1) := fun xs ys h1 h2 h3 h4 h5 => by
  have g := hI xs ys h1 h2 h3 h4 (by omega)
  have lt : k.toNat < ys.length := by omega
  have e := h2.2 cb hc _ _ (List.getElem?_eq_getElem lt)
  have w := ha _ g (by rw [List.length_append, List.length_take]; omega)
  rw [show (k + 1).toNat = k.toNat + 1 by omega, List.take_succ_eq_append_getElem lt, ← List.append_assoc, ← e, ← hx]
  exact w
theorem CHX.go (hI : CHI iv rv sk iv1 rv1 r k) (hE : LNW iv rv r hy f) (hf : f = 1) (hk : k = iv r 1 - 1) : CHX iv rv sk iv1 rv1 r hy la := fun xs ys h1 h2 h3 h4 => by
  refine hv2 (h2.1) ((hE ys h2).mp hf) (fun l1 g => ?_)
  have w := hI xs ys h1 h2 h3 h4 (by omega)
  unfold sgp
  rw [if_pos (show 0 < ys.length ∧ gd0 ys (ys.length - 1) = hy from g)]
  rw [show k.toNat = ys.length - 1 by omega] at w
  exact w
theorem CHX.las (hI : CHI iv rv sk iv1 rv1 r k) (hE : LNW iv rv r hy f) (hf : f ≠ 1) (hk : k = iv r 1) (hla : la = 1) : CHX iv rv sk iv1 rv1 r hy la := fun xs ys h1 h2 h3 h4 => by
  have l1 := h2.1
  have w := hI xs ys h1 h2 h3 h4 (by omega)
  unfold sgp
  rw [if_neg (show ¬ (0 < ys.length ∧ gd0 ys (ys.length - 1) = hy) from fun e => hf ((hE ys h2).mpr e)), if_pos hla]
  rw [show k.toNat = ys.length by omega, List.take_length] at w
  exact w
theorem CHX.bl (hI : CHI iv rv sk iv1 rv1 r k) (hE : LNW iv rv r hy f) (hf : f ≠ 1) (hk : k = iv r 1) (hla : la ≠ 1) (ha : ACX iv1 rv1 sk iv2 rv2 0) : CHX iv rv sk iv2 rv2 r hy la := fun xs ys h1 h2 h3 h4 => by
  have l1 := h2.1
  have w := hI xs ys h1 h2 h3 h4 (by omega)
  rw [show k.toNat = ys.length by omega, List.take_length] at w
  unfold sgp
  rw [if_neg (show ¬ (0 < ys.length ∧ gd0 ys (ys.length - 1) = hy) from fun e => hf ((hE ys h2).mpr e)), if_neg hla, ← List.append_assoc]
  exact ha _ w (by rw [List.length_append]; omega)
end CHAI
set_option maxHeartbeats 4000000 in
set_option maxRecDepth 100000 in
theorem G_addCell {l : Launch} {G : GT} {mi : Nat} {sk : Nat → Nat} {L : List Nat} {cl ln : Nat → Nat} {iv : Nat → Nat → Int} {rv : Nat → Nat → Option Nat}  {a0 : Nat} {x : Int} {y : Int} (hW : WT (g0 G) sk L cl ln iv rv) (hS : SKL sk L cl) (t_a0 : ty L cl a0 16) (h_x : -2147483648 ≤ x ∧ x ≤ 2147483647) (h_y : -2147483648 ≤ y ∧ y ≤ 2147483647)  : Mc l G mi (Phi (g0 G) sk) PHM yX3_addCell cX3_addCell 3 none 3 [.ref a0, .int (iI x), .int (iI y)] L cl ln iv rv 0 (fun v L2 cl2 ln2 iv2 rv2 => v = none ∧ XT L cl ln L2 cl2 ln2 ∧ fT [8, 38, 9, 39] L cl iv rv iv2 rv2 ∧ WT (g0 G) sk L2 cl2 ln2 iv2 rv2 ∧ (ACX iv rv sk iv2 rv2 x)) := by
  refine Mc.mk (by decide) (Nat.le_of_ble_eq_true rfl) ?_
  intro p e s m args below meth c A C hM
  refine hv10 (Phi.le hW hS) (show ty L cl (sk 6) 6 from ⟨(hS 6 rfl).1, by rw [(hS 6 rfl).2]; rfl⟩) (show ty L cl (sk 7) 7 from ⟨(hS 7 rfl).1, by rw [(hS 7 rfl).2]; rfl⟩) (show ty L cl (sk 8) 8 from ⟨(hS 8 rfl).1, by rw [(hS 8 rfl).2]; rfl⟩) (show ty L cl (sk 9) 9 from ⟨(hS 9 rfl).1, by rw [(hS 9 rfl).2]; rfl⟩) (show ty L cl (sk 10) 10 from ⟨(hS 10 rfl).1, by rw [(hS 10 rfl).2]; rfl⟩) (show ty L cl (sk 24) 24 from ⟨(hS 24 rfl).1, by rw [(hS 24 rfl).2]; rfl⟩) (show ty L cl (sk 25) 25 from ⟨(hS 25 rfl).1, by rw [(hS 25 rfl).2]; rfl⟩) (show XT L cl ln L cl ln from XT.refl) (show fT [8, 38, 9, 39] L cl iv rv iv rv from fT.refl) (fun hph tsk6 tsk7 tsk8 tsk9 tsk10 tsk24 tsk25 hX0 hF0 => ?_)
  refine c_aload_n (j := 0) (x := a0) C dX3_addCell_0 rfl ?_
  obtain ⟨rb1, rq1, trb1⟩ := hW.ref t_a0 4 rfl rfl rfl
  have erb1 := hW.sk trb1 (by decide) rfl
  subst erb1
  refine c_getr (k := 4) C ck_4 dX3_addCell_1 w1_198 (by decide) t_a0 rfl rfl (by decide) rfl rq1 ?_
  refine c_st (st2 := [.ref (sk 8)]) rfl ?_
  refine c_iload_n (j := 1) C dX3_addCell_4 rfl ?_
  have ri1 : 0 ≤ iv (sk 8) 2 ∧ iv (sk 8) 2 ≤ 40200 := hW.int tsk8 2
  refine d_callV (As := [.int (iI x)]) (rest := []) C hM (G_add_8 (a0 := (sk 8)) (x := x) hW hS tsk8 (by omega) ) dX3_addCell_5 kV_X3_91 rfl tsk8 rfl rfl (by decide) ck_2 rfl (Nat.le_of_ble_eq_true rfl) ⟨(Nat.le_of_ble_eq_true rfl), (Nat.le_of_ble_eq_true rfl)⟩ hph hph (show 0 + 0 = 0 from rfl) (by decide) (fun rh1 Lh1 clh1 lnh1 ivh1 rvh1 h1 => ?_)
  obtain ⟨rfl, xl1, fl1, W1, exf1⟩ := h1
  refine hv3 (hF0.call hX0 fl1 rfl) (hX0.trans xl1) (xl1.skl hS) (fun F1 X1 sk1 => ?_)
  refine c_st (st2 := []) rfl ?_
  refine hv2 (xl1.ty tsk8) (show ((ivh1 (sk 8) 2 = iv (sk 8) 2 ∧ iv (sk 8) 2 = 40200) ∨ (ivh1 (sk 8) 2 = iv (sk 8) 2 + 1 ∧ iv (sk 8) 2 < 40200)) ∧ (∀ ss, CT iv rv (sk 8) ss → iv (sk 8) 2 < 40200 → CT ivh1 rvh1 (sk 8) (va_up ss (iv (sk 8) 2).toNat x)) ∧ (iv (sk 8) 2 = 40200 → ∀ ss, CT iv rv (sk 8) ss → CT ivh1 rvh1 (sk 8) ss) from exf1) (fun ty1 gf1 => ?_)
  have ri2 : 0 ≤ ivh1 (sk 8) 2 ∧ ivh1 (sk 8) 2 ≤ 40200 := W1.int ty1 2
  refine c_aload_n (j := 0) (x := a0) C dX3_addCell_8 rfl ?_
  have ty2 := xl1.ty t_a0
  obtain ⟨rb2, rq2, trb2⟩ := W1.ref ty2 5 rfl rfl rfl
  have erb2 := W1.sk trb2 (by decide) rfl
  subst erb2
  refine c_getr (k := 5) C ck_4 dX3_addCell_9 w1_199 (by decide) ty2 rfl rfl (by decide) rfl rq2 ?_
  refine c_st (st2 := [.ref (sk 9)]) rfl ?_
  refine c_iload_n (j := 2) C dX3_addCell_12 rfl ?_
  refine hv3 (xl1.ty tsk9) (show ivh1 (sk 9) 2 = iv (sk 9) 2 from fl1.i tsk9 rfl 2) (Phi.le W1 sk1) (fun ty3 ie2 pl1 => ?_)
  have ri3 : 0 ≤ ivh1 (sk 9) 2 ∧ ivh1 (sk 9) 2 ≤ 40200 := W1.int ty3 2
  refine d_callV (As := [.int (iI y)]) (rest := []) C hM (C_add_9 (a0 := (sk 9)) (x := y) W1 sk1 ty3 (by omega) ) dX3_addCell_13 kV_X3_91 rfl ty3 rfl rfl (by decide) ck_2 rfl (Nat.le_of_ble_eq_true rfl) ⟨(Nat.le_of_ble_eq_true rfl), (Nat.le_of_ble_eq_true rfl)⟩ hph pl1 (show 0 + 0 = 0 from rfl) (by decide) (fun rh2 Lh2 clh2 lnh2 ivh2 rvh2 h2 => ?_)
  obtain ⟨rfl, xl2, fl2, W2, exf2⟩ := h2
  refine hv8 (F1.call X1 fl2 rfl) (xl1.ty tsk6) (xl1.ty tsk7) (xl1.ty tsk10) (xl1.ty tsk24) (xl1.ty tsk25) (X1.trans xl2) (xl2.skl sk1) (fun F2 ty4 ty5 ty6 ty7 ty8 X2 sk2 => ?_)
  refine c_st (st2 := []) rfl ?_
  refine hv3 (xl2.ty ty3) (show ((ivh2 (sk 9) 2 = ivh1 (sk 9) 2 ∧ ivh1 (sk 9) 2 = 40200) ∨ (ivh2 (sk 9) 2 = ivh1 (sk 9) 2 + 1 ∧ ivh1 (sk 9) 2 < 40200)) from exf2) (Phi.le W2 sk2) (fun ty9 gf2 pl2 => ?_)
  have ri4 : 0 ≤ ivh2 (sk 9) 2 ∧ ivh2 (sk 9) 2 ≤ 40200 := W2.int ty9 2
  exact c_vret C dX3_addCell_16 rfl (by decide) (rom0 hph pl2 (by decide)) ⟨rfl, X2, F2, W2, (fun xs hc hl => (hc.snoc hl gf1).fr W1 ty1 fl2 rfl rfl)⟩
set_option maxHeartbeats 4000000 in
set_option maxRecDepth 100000 in
theorem G_lends2 {l : Launch} {G : GT} {mi : Nat} {sk : Nat → Nat} {L : List Nat} {cl ln : Nat → Nat} {iv : Nat → Nat → Int} {rv : Nat → Nat → Option Nat}  {a0 : Nat} {x : Int} (hW : WT (g0 G) sk L cl ln iv rv) (hS : SKL sk L cl) (t_a0 : ty L cl a0 19) (h_x : -2147483648 ≤ x ∧ x ≤ 2147483647)  : Mc l G mi (Phi (g0 G) sk) PHM yX2_endsWith cX2_endsWith 2 (some .boolean) 0 [.ref a0, .int (iI x)] L cl ln iv rv 0 (fun v L2 cl2 ln2 iv2 rv2 => ∃ f : Int, v = some (.int (iI f)) ∧ L = L2 ∧ cl = cl2 ∧ ln = ln2 ∧ iv = iv2 ∧ rv = rv2 ∧ (f = 0 ∨ f = 1) ∧ ((f = 0 ∨ 0 < iv a0 1) ∧ LNW iv rv a0 x f)) := by
  refine Mc.mk (by decide) (Nat.le_of_ble_eq_true rfl) ?_
  intro p e s m args below meth c A C hM
  refine hv4 (Phi.le hW hS) (show XT L cl ln L cl ln from XT.refl) (show fT [] L cl iv rv iv rv from fT.refl) (show 0 ≤ iv a0 1 ∧ iv a0 1 ≤ 200 from hW.int t_a0 1) (fun hph hX0 hF0 ri1 => ?_)
  refine c_aload_n (j := 0) (x := a0) C dX2_endsWith_0 rfl ?_
  refine c_get (k := 1) C ck_3 dX2_endsWith_1 w4_49 (by decide) t_a0 rfl rfl (by decide) rfl ?_
  refine c_if_le (tgt := 26) C (r32_c (lo := 0) (hi := 200) ri1.1 ri1.2 (by decide) (by decide)) dX2_endsWith_4 (by decide) (fun c1 => ?_) (fun c1 => ?_)
  · refine c_iconst C dX2_endsWith_26 ?_
    exact c_zret C dX2_endsWith_27 rfl (Or.inl rfl) (by decide) (rom0 hph hph (by decide)) ⟨0, rfl, rfl, rfl, rfl, rfl, rfl, (Or.inl rfl), ⟨by omega, (LNW.mk0 (Or.inl (by omega)) rfl)⟩⟩
  · refine c_aload_n (j := 0) (x := a0) C dX2_endsWith_7 rfl ?_
    obtain ⟨rb1, rq1, trb1⟩ := hW.ref t_a0 0 rfl rfl rfl
    have lnrb1 : 200 ≤ ln rb1 ∧ ln rb1 ≤ 200 := hW.len trb1 rfl
    refine c_getr (k := 0) C ck_3 dX2_endsWith_8 w4_44 (by decide) t_a0 rfl rfl (by decide) rfl rq1 ?_
    refine c_st (st2 := [.ref rb1]) rfl ?_
    refine c_aload_n (j := 0) (x := a0) C dX2_endsWith_11 rfl ?_
    refine c_get (k := 1) C ck_3 dX2_endsWith_12 w4_49 (by decide) t_a0 rfl rfl (by decide) rfl ?_
    refine c_iconst C dX2_endsWith_15 ?_
    refine c_isub C dX2_endsWith_16 ?_
    have ll1 : 200 ≤ ln rb1 ∧ ln rb1 ≤ 200 := hW.len trb1 rfl
    refine c_iald C dX2_endsWith_17 trb1 rfl (by omega) (by omega) (by omega) ?_
    have ri2 : (-2147483648) ≤ iv rb1 (((iv a0 1) - 1).toNat) ∧ iv rb1 (((iv a0 1) - 1).toNat) ≤ 2147483647 := hW.int trb1 (((iv a0 1) - 1).toNat)
    refine c_iload_n (j := 1) C dX2_endsWith_18 rfl ?_
    refine c_icmp_ne (tgt := 26) C ⟨by omega, by omega⟩ ⟨by omega, by omega⟩ dX2_endsWith_19 (by decide) (fun c2 => ?_) (fun c2 => ?_)
    · refine c_iconst C dX2_endsWith_26 ?_
      exact c_zret C dX2_endsWith_27 rfl (Or.inl rfl) (by decide) (rom0 hph hph (by decide)) ⟨0, rfl, rfl, rfl, rfl, rfl, rfl, (Or.inl rfl), ⟨by omega, (LNW.mk0 (Or.inr ⟨by omega, _, rq1, by omega⟩) rfl)⟩⟩
    · refine c_iconst C dX2_endsWith_22 ?_
      refine c_goto (tgt := 27) C dX2_endsWith_23 (by decide) ?_
      exact c_zret C dX2_endsWith_27 rfl (Or.inr rfl) (by decide) (rom0 hph hph (by decide)) ⟨1, rfl, rfl, rfl, rfl, rfl, rfl, (Or.inr rfl), ⟨by omega, (LNW.mk1 rq1 (by omega) (by omega) rfl)⟩⟩
set_option maxHeartbeats 4000000 in
set_option maxRecDepth 100000 in
theorem G_chain {l : Launch} {G : GT} {mi : Nat} {sk : Nat → Nat} {L : List Nat} {cl ln : Nat → Nat} {iv : Nat → Nat → Int} {rv : Nat → Nat → Option Nat}  {a0 : Nat} {a1 : Nat} {x : Int} {y : Int} {g : Int} (hW : WT (g0 G) sk L cl ln iv rv) (hS : SKL sk L cl) (t_a0 : ty L cl a0 16) (t_a1 : ty L cl a1 19) (h_x : -2147483648 ≤ x ∧ x ≤ 2147483647) (h_y : -2147483648 ≤ y ∧ y ≤ 2147483647) (h_g : -2147483648 ≤ g ∧ g ≤ 2147483647) (hg01 : g = 0 ∨ g = 1) : Mc l G mi (Phi (g0 G) sk) PHM yX3_chain cX3_chain 8 none 4 [.ref a0, .ref a1, .int (iI x), .int (iI y), .int (iI g)] L cl ln iv rv 0 (fun v L2 cl2 ln2 iv2 rv2 => v = none ∧ XT L cl ln L2 cl2 ln2 ∧ fT [8, 38, 9, 39] L cl iv rv iv2 rv2 ∧ WT (g0 G) sk L2 cl2 ln2 iv2 rv2 ∧ (CHX iv rv sk iv2 rv2 a1 y g)) := by
  refine Mc.mk (by decide) (Nat.le_of_ble_eq_true rfl) ?_
  intro p e s m args below meth c A C hM
  refine hv11 (Phi.le hW hS) (show ty L cl (sk 6) 6 from ⟨(hS 6 rfl).1, by rw [(hS 6 rfl).2]; rfl⟩) (show ty L cl (sk 7) 7 from ⟨(hS 7 rfl).1, by rw [(hS 7 rfl).2]; rfl⟩) (show ty L cl (sk 8) 8 from ⟨(hS 8 rfl).1, by rw [(hS 8 rfl).2]; rfl⟩) (show ty L cl (sk 9) 9 from ⟨(hS 9 rfl).1, by rw [(hS 9 rfl).2]; rfl⟩) (show ty L cl (sk 10) 10 from ⟨(hS 10 rfl).1, by rw [(hS 10 rfl).2]; rfl⟩) (show ty L cl (sk 24) 24 from ⟨(hS 24 rfl).1, by rw [(hS 24 rfl).2]; rfl⟩) (show ty L cl (sk 25) 25 from ⟨(hS 25 rfl).1, by rw [(hS 25 rfl).2]; rfl⟩) (show XT L cl ln L cl ln from XT.refl) (show fT [8, 38, 9, 39] L cl iv rv iv rv from fT.refl) (show 0 ≤ iv a1 1 ∧ iv a1 1 ≤ 200 from hW.int t_a1 1) (fun hph tsk6 tsk7 tsk8 tsk9 tsk10 tsk24 tsk25 hX0 hF0 ri1 => ?_)
  obtain ⟨c9, hc9, tc9⟩ := hW.ref t_a1 0 rfl rfl rfl
  refine c_aload_n (j := 1) (x := a1) C dX3_chain_0 rfl ?_
  refine c_iload_n (j := 3) C dX3_chain_1 rfl ?_
  refine d_callV (As := [.int (iI y)]) (rest := []) C hM (G_lends2 (a0 := a1) (x := y) hW hS t_a1 (by omega) ) dX3_chain_2 kV_X3_108 rfl t_a1 rfl rfl (by decide) ck_3 rfl (Nat.le_of_ble_eq_true rfl) ⟨(Nat.le_of_ble_eq_true rfl), (Nat.le_of_ble_eq_true rfl)⟩ hph hph (show 0 + 0 = 0 from rfl) (by decide) (fun rh1 Lh1 clh1 lnh1 ivh1 rvh1 h1 => ?_)
  obtain ⟨f1, rfl, rfl, rfl, rfl, rfl, rfl, rgf1, exf1⟩ := h1
  refine c_st (st2 := [.int (iI f1)]) rfl ?_
  have gf1 : (f1 = 0 ∨ 0 < iv a1 1) ∧ LNW iv rv a1 y f1 := exf1
  refine c_istore (lv2 := [(5, .int (iI f1)), (0, .ref a0), (1, .ref a1), (2, .int (iI x)), (3, .int (iI y)), (4, .int (iI g))]) C dX3_chain_5 (by decide) rfl ?_
  refine c_iload (j := 0) C dX3_chain_7 rfl ?_
  refine c_if_eq (tgt := 21) C ⟨by omega, by omega⟩ dX3_chain_9 (by decide) (fun c1 => ?_) (fun c1 => ?_)
  · replace gf1 := (And.intro c1 gf1.2)
    refine c_aload_n (j := 2) (x := a1) C dX3_chain_21 rfl ?_
    refine c_get (k := 1) C ck_3 dX3_chain_22 w4_52 (by decide) t_a1 rfl rfl (by decide) rfl ?_
    refine c_istore (lv2 := [(6, .int (iI (iv a1 1))), (5, .int (iI f1)), (0, .ref a0), (1, .ref a1), (2, .int (iI x)), (3, .int (iI y)), (4, .int (iI g))]) C dX3_chain_25 (by decide) rfl ?_
    refine c_iconst C dX3_chain_27 ?_
    refine c_istore (lv2 := [(7, .int (iI 0)), (6, .int (iI (iv a1 1))), (5, .int (iI f1)), (0, .ref a0), (1, .ref a1), (2, .int (iI x)), (3, .int (iI y)), (4, .int (iI g))]) C dX3_chain_28 (by decide) rfl ?_
    have Lp1 : ∀ (nn : Nat) (k : Int) (Lb1 : List Nat) (clb1 lnb1 : Nat → Nat) (ivb1 : Nat → Nat → Int) (rvb1 : Nat → Nat → Option Nat) , 201 - k < (nn : Int) → XT L cl ln Lb1 clb1 lnb1 → WT (g0 G) sk Lb1 clb1 lnb1 ivb1 rvb1 → fT [8, 38, 9, 39] L cl iv rv ivb1 rvb1 → (0 ≤ k ∧ k ≤ 200) → (k ≤ (iv a1 1)) → (CHI iv rv sk ivb1 rvb1 a1 k) → cw p l e 4 ((PHM) + 0 - ((Phi (g0 G) sk) ln rv)) s m args below meth c G A 8 (MQ below (Qu G A (Qp G (Phi (g0 G) sk) ((Phi (g0 G) sk) ln rv) 0 (fun v L2 cl2 ln2 iv2 rv2 => v = none ∧ XT L cl ln L2 cl2 ln2 ∧ fT [8, 38, 9, 39] L cl iv rv iv2 rv2 ∧ WT (g0 G) sk L2 cl2 ln2 iv2 rv2 ∧ (CHX iv rv sk iv2 rv2 a1 y g)))) args s (((PHM) + 0 - ((Phi (g0 G) sk) ln rv)) / 16) ((PHM) + 0 - ((Phi (g0 G) sk) ln rv)) A) (Phi (g0 G) sk) ((Phi (g0 G) sk) ln rv) Lb1 clb1 lnb1 ivb1 rvb1 0 30 [(7, .int (iI k)), (6, .int (iI (iv a1 1))), (5, .int (iI f1)), (0, .ref a0), (1, .ref a1), (2, .int (iI x)), (3, .int (iI y)), (4, .int (iI g))] [] := by
      intro nn
      induction nn with
      | zero =>
        intro  k Lb1 clb1 lnb1 ivb1 rvb1 hm Xb1 Wb1 Fb1  hk hkl hI
        have skb1 := Xb1.skl hS
        exact absurd hm (by omega)
      | succ nn ih1 =>
        intro  k Lb1 clb1 lnb1 ivb1 rvb1 hm Xb1 Wb1 Fb1  hk hkl hI
        have skb1 := Xb1.skl hS
        refine c_iload (j := 0) C dX3_chain_30 rfl ?_
        refine c_iload (j := 1) C dX3_chain_32 rfl ?_
        refine c_icmp_ge (tgt := 62) C (r32_c (lo := 0) (hi := 200) hk.1 hk.2 (by decide) (by decide)) ⟨by omega, by omega⟩ dX3_chain_34 (by decide) (fun c2 => ?_) (fun c2 => ?_)
        · refine c_iload (j := 2) C dX3_chain_62 rfl ?_
          refine c_if_ne (tgt := 78) C ⟨by omega, by omega⟩ dX3_chain_64 (by decide) (fun c3 => ?_) (fun c3 => ?_)
          · have ty1 := Xb1.ty t_a1
            refine hv3 (show 0 ≤ ivb1 a1 1 ∧ ivb1 a1 1 ≤ 200 from Wb1.int ty1 1) (show ivb1 a1 1 = iv a1 1 from Fb1.i t_a1 rfl 1) (Phi.le Wb1 skb1) (fun ri2 ie1 pl1 => ?_)
            exact c_vret C dX3_chain_78 rfl (by decide) (rom0 hph pl1 (by decide)) ⟨rfl, Xb1, Fb1, Wb1, (CHX.go hI gf1.2 (by omega) (by omega))⟩
          · refine c_iload (j := 7) C dX3_chain_67 rfl ?_
            refine c_if_ne (tgt := 78) C ⟨by omega, by omega⟩ dX3_chain_69 (by decide) (fun c4 => ?_) (fun c4 => ?_)
            · have ty2 := Xb1.ty t_a1
              refine hv3 (show 0 ≤ ivb1 a1 1 ∧ ivb1 a1 1 ≤ 200 from Wb1.int ty2 1) (show ivb1 a1 1 = iv a1 1 from Fb1.i t_a1 rfl 1) (Phi.le Wb1 skb1) (fun ri3 ie2 pl2 => ?_)
              exact c_vret C dX3_chain_78 rfl (by decide) (rom0 hph pl2 (by decide)) ⟨rfl, Xb1, Fb1, Wb1, (CHX.las hI gf1.2 (by omega) (by omega) (by omega))⟩
            · refine c_aload_n (j := 3) (x := a0) C dX3_chain_72 rfl ?_
              refine c_iconst C dX3_chain_73 ?_
              refine c_iconst C dX3_chain_74 ?_
              refine hv2 (Xb1.ty t_a0) (Phi.le Wb1 skb1) (fun ty3 pl3 => ?_)
              refine d_callV (As := [.int (iI 0), .int (iI (-1))]) (rest := []) C hM (G_addCell (a0 := a0) (x := 0) (y := (-1)) Wb1 skb1 ty3 ⟨by decide, by decide⟩ ⟨by decide, by decide⟩ ) dX3_chain_75 kV_X3_114 rfl ty3 rfl rfl (by decide) ck_4 rfl (Nat.le_of_ble_eq_true rfl) ⟨(Nat.le_of_ble_eq_true rfl), (Nat.le_of_ble_eq_true rfl)⟩ hph pl3 (show 0 + 0 = 0 from rfl) (by decide) (fun rh2 Lh2 clh2 lnh2 ivh2 rvh2 h2 => ?_)
              obtain ⟨rfl, xl2, fl2, W2, exf2⟩ := h2
              refine hv12 (Fb1.call Xb1 fl2 rfl) (Xb1.ty t_a1) (Xb1.ty tsk6) (Xb1.ty tsk7) (Xb1.ty tsk8) (Xb1.ty tsk9) (Xb1.ty tsk10) (Xb1.ty tsk24) (Xb1.ty tsk25) (Xb1.ty tc9) (Xb1.trans xl2) (xl2.skl skb1) (fun F1 ty4 ty5 ty6 ty7 ty8 ty9 ty10 ty11 ty12 X1 sk1 => ?_)
              refine c_st (st2 := []) rfl ?_
              refine hv5 (show ACX ivb1 rvb1 sk ivh2 rvh2 (0 : Int) from exf2) (xl2.ty ty4) (show ivh2 a1 1 = ivb1 a1 1 from fl2.i ty4 rfl 1) (show ivb1 a1 1 = iv a1 1 from Fb1.i t_a1 rfl 1) (Phi.le W2 sk1) (fun gf2 ty13 ie3 ie4 pl4 => ?_)
              have ri4 : 0 ≤ ivh2 a1 1 ∧ ivh2 a1 1 ≤ 200 := W2.int ty13 1
              exact c_vret C dX3_chain_78 rfl (by decide) (rom0 hph pl4 (by decide)) ⟨rfl, X1, F1, W2, (CHX.bl hI gf1.2 (by omega) (by omega) (by omega) gf2)⟩
        · refine c_aload_n (j := 3) (x := a0) C dX3_chain_37 rfl ?_
          refine c_aload_n (j := 4) (x := a1) C dX3_chain_38 rfl ?_
          refine hv2 (Xb1.ty t_a1) (show rvb1 a1 0 = rv a1 0 from (Fb1.r t_a1 rfl 0)) (fun ty14 re1 => ?_)
          rw [hc9] at re1
          refine c_getr (k := 0) C ck_3 dX3_chain_39 w4_46 (by decide) ty14 rfl rfl (by decide) rfl re1 ?_
          refine c_st (st2 := [.ref c9, .ref a0]) rfl ?_
          refine c_iload (j := 0) C dX3_chain_42 rfl ?_
          have ty15 := Xb1.ty tc9
          have ll1 : 200 ≤ lnb1 c9 ∧ lnb1 c9 ≤ 200 := Wb1.len ty15 rfl
          refine c_iald C dX3_chain_44 ty15 rfl (by omega) (by omega) (by omega) ?_
          refine hv2 (show (-2147483648) ≤ ivb1 c9 k.toNat ∧ ivb1 c9 k.toNat ≤ 2147483647 from Wb1.int ty15 k.toNat) (show ivb1 c9 k.toNat = iv c9 k.toNat from Fb1.i tc9 rfl k.toNat) (fun ri5 ie5 => ?_)
          refine c_iload_n (j := 5) C dX3_chain_45 rfl ?_
          refine c_sipush (z := 1000) C dX3_chain_46 (by decide) ?_
          refine c_imul C dX3_chain_49 ?_
          obtain ⟨zz1, hzz1, ezz1⟩ := iI_of (iI (x * 1000))
          refine c_st (st2 := [.int (iI zz1), .int (iI (ivb1 c9 k.toNat)), .ref a0]) (by rw [ezz1]) ?_
          refine c_iload (j := 0) C dX3_chain_50 rfl ?_
          refine c_iadd C dX3_chain_52 ?_
          obtain ⟨zz2, hzz2, ezz2⟩ := iI_of (iI (zz1 + k))
          refine c_st (st2 := [.int (iI zz2), .int (iI (ivb1 c9 k.toNat)), .ref a0]) (by rw [ezz2]) ?_
          refine hv2 (Xb1.ty t_a0) (Phi.le Wb1 skb1) (fun ty16 pl5 => ?_)
          refine d_callV (As := [.int (iI (ivb1 c9 k.toNat)), .int (iI zz2)]) (rest := []) C hM (G_addCell (a0 := a0) (x := ivb1 c9 k.toNat) (y := zz2) Wb1 skb1 ty16 (by omega) (by omega) ) dX3_chain_53 kV_X3_114 rfl ty16 rfl rfl (by decide) ck_4 rfl (Nat.le_of_ble_eq_true rfl) ⟨(Nat.le_of_ble_eq_true rfl), (Nat.le_of_ble_eq_true rfl)⟩ hph pl5 (show 0 + 0 = 0 from rfl) (by decide) (fun rh3 Lh3 clh3 lnh3 ivh3 rvh3 h3 => ?_)
          obtain ⟨rfl, xl3, fl3, W3, exf3⟩ := h3
          refine hv10 (Fb1.call Xb1 fl3 rfl) (Xb1.ty tsk6) (Xb1.ty tsk7) (Xb1.ty tsk8) (Xb1.ty tsk9) (Xb1.ty tsk10) (Xb1.ty tsk24) (Xb1.ty tsk25) (Xb1.trans xl3) (xl3.skl skb1) (fun F2 ty17 ty18 ty19 ty20 ty21 ty22 ty23 X2 sk2 => ?_)
          refine c_st (st2 := []) rfl ?_
          have gf3 : ACX ivb1 rvb1 sk ivh3 rvh3 (ivb1 c9 k.toNat) := exf3
          refine c_iinc (z := k) (j := 0) (lv2 := [(7, .int (iI (k + 1))), (6, .int (iI (iv a1 1))), (5, .int (iI f1)), (0, .ref a0), (1, .ref a1), (2, .int (iI x)), (3, .int (iI y)), (4, .int (iI g))]) C dX3_chain_56 rfl (by decide) rfl ?_
          refine c_goto (tgt := 30) C dX3_chain_59 (by decide) ?_
          refine c_lv (lv2 := [(7, .int (iI (k + 1))), (6, .int (iI (iv a1 1))), (5, .int (iI f1)), (0, .ref a0), (1, .ref a1), (2, .int (iI x)), (3, .int (iI y)), (4, .int (iI g))]) [0, 1, 2, 3, 4, 5, 6, 7] rfl ?_
          exact ih1  (k + 1) _ _ _ _ _ (by omega) X2 W3 F2  (by omega) (by omega) (hI.step (by omega) hc9 (Fb1.i tc9 rfl k.toNat) gf3)
    refine c_lv (lv2 := [(7, .int (iI 0)), (6, .int (iI (iv a1 1))), (5, .int (iI f1)), (0, .ref a0), (1, .ref a1), (2, .int (iI x)), (3, .int (iI y)), (4, .int (iI g))]) [0, 1, 2, 3, 4, 5, 6, 7] rfl ?_
    exact Lp1 203 0 _ _ _ _ _ (by omega) hX0 hW hF0  (by omega) (by omega) CHI.init
  · replace gf1 := (And.intro (gf1.1.resolve_left c1) gf1.2)
    refine c_aload_n (j := 2) (x := a1) C dX3_chain_12 rfl ?_
    refine c_get (k := 1) C ck_3 dX3_chain_13 w4_52 (by decide) t_a1 rfl rfl (by decide) rfl ?_
    refine c_iconst C dX3_chain_16 ?_
    refine c_isub C dX3_chain_17 ?_
    refine c_goto (tgt := 25) C dX3_chain_18 (by decide) ?_
    refine c_istore (lv2 := [(6, .int (iI ((iv a1 1) - 1))), (5, .int (iI f1)), (0, .ref a0), (1, .ref a1), (2, .int (iI x)), (3, .int (iI y)), (4, .int (iI g))]) C dX3_chain_25 (by decide) rfl ?_
    refine c_iconst C dX3_chain_27 ?_
    refine c_istore (lv2 := [(7, .int (iI 0)), (6, .int (iI ((iv a1 1) - 1))), (5, .int (iI f1)), (0, .ref a0), (1, .ref a1), (2, .int (iI x)), (3, .int (iI y)), (4, .int (iI g))]) C dX3_chain_28 (by decide) rfl ?_
    have Lp2 : ∀ (nn : Nat) (k : Int) (Lb2 : List Nat) (clb2 lnb2 : Nat → Nat) (ivb2 : Nat → Nat → Int) (rvb2 : Nat → Nat → Option Nat) , 201 - k < (nn : Int) → XT L cl ln Lb2 clb2 lnb2 → WT (g0 G) sk Lb2 clb2 lnb2 ivb2 rvb2 → fT [8, 38, 9, 39] L cl iv rv ivb2 rvb2 → (0 ≤ k ∧ k ≤ 200) → (k ≤ ((iv a1 1) - 1)) → (CHI iv rv sk ivb2 rvb2 a1 k) → cw p l e 4 ((PHM) + 0 - ((Phi (g0 G) sk) ln rv)) s m args below meth c G A 8 (MQ below (Qu G A (Qp G (Phi (g0 G) sk) ((Phi (g0 G) sk) ln rv) 0 (fun v L2 cl2 ln2 iv2 rv2 => v = none ∧ XT L cl ln L2 cl2 ln2 ∧ fT [8, 38, 9, 39] L cl iv rv iv2 rv2 ∧ WT (g0 G) sk L2 cl2 ln2 iv2 rv2 ∧ (CHX iv rv sk iv2 rv2 a1 y g)))) args s (((PHM) + 0 - ((Phi (g0 G) sk) ln rv)) / 16) ((PHM) + 0 - ((Phi (g0 G) sk) ln rv)) A) (Phi (g0 G) sk) ((Phi (g0 G) sk) ln rv) Lb2 clb2 lnb2 ivb2 rvb2 0 30 [(7, .int (iI k)), (6, .int (iI ((iv a1 1) - 1))), (5, .int (iI f1)), (0, .ref a0), (1, .ref a1), (2, .int (iI x)), (3, .int (iI y)), (4, .int (iI g))] [] := by
      intro nn
      induction nn with
      | zero =>
        intro  k Lb2 clb2 lnb2 ivb2 rvb2 hm Xb2 Wb2 Fb2  hk hkl hI
        have skb2 := Xb2.skl hS
        exact absurd hm (by omega)
      | succ nn ih2 =>
        intro  k Lb2 clb2 lnb2 ivb2 rvb2 hm Xb2 Wb2 Fb2  hk hkl hI
        have skb2 := Xb2.skl hS
        refine c_iload (j := 0) C dX3_chain_30 rfl ?_
        refine c_iload (j := 1) C dX3_chain_32 rfl ?_
        refine c_icmp_ge (tgt := 62) C (r32_c (lo := 0) (hi := 200) hk.1 hk.2 (by decide) (by decide)) ⟨by omega, by omega⟩ dX3_chain_34 (by decide) (fun c5 => ?_) (fun c5 => ?_)
        · refine c_iload (j := 2) C dX3_chain_62 rfl ?_
          refine c_if_ne (tgt := 78) C ⟨by omega, by omega⟩ dX3_chain_64 (by decide) (fun c6 => ?_) (fun c6 => ?_)
          · have ty24 := Xb2.ty t_a1
            refine hv3 (show 0 ≤ ivb2 a1 1 ∧ ivb2 a1 1 ≤ 200 from Wb2.int ty24 1) (show ivb2 a1 1 = iv a1 1 from Fb2.i t_a1 rfl 1) (Phi.le Wb2 skb2) (fun ri6 ie6 pl6 => ?_)
            exact c_vret C dX3_chain_78 rfl (by decide) (rom0 hph pl6 (by decide)) ⟨rfl, Xb2, Fb2, Wb2, (CHX.go hI gf1.2 (by omega) (by omega))⟩
          · refine c_iload (j := 7) C dX3_chain_67 rfl ?_
            refine c_if_ne (tgt := 78) C ⟨by omega, by omega⟩ dX3_chain_69 (by decide) (fun c7 => ?_) (fun c7 => ?_)
            · have ty25 := Xb2.ty t_a1
              refine hv3 (show 0 ≤ ivb2 a1 1 ∧ ivb2 a1 1 ≤ 200 from Wb2.int ty25 1) (show ivb2 a1 1 = iv a1 1 from Fb2.i t_a1 rfl 1) (Phi.le Wb2 skb2) (fun ri7 ie7 pl7 => ?_)
              exact c_vret C dX3_chain_78 rfl (by decide) (rom0 hph pl7 (by decide)) ⟨rfl, Xb2, Fb2, Wb2, (CHX.las hI gf1.2 (by omega) (by omega) (by omega))⟩
            · refine c_aload_n (j := 3) (x := a0) C dX3_chain_72 rfl ?_
              refine c_iconst C dX3_chain_73 ?_
              refine c_iconst C dX3_chain_74 ?_
              refine hv2 (Xb2.ty t_a0) (Phi.le Wb2 skb2) (fun ty26 pl8 => ?_)
              refine d_callV (As := [.int (iI 0), .int (iI (-1))]) (rest := []) C hM (G_addCell (a0 := a0) (x := 0) (y := (-1)) Wb2 skb2 ty26 ⟨by decide, by decide⟩ ⟨by decide, by decide⟩ ) dX3_chain_75 kV_X3_114 rfl ty26 rfl rfl (by decide) ck_4 rfl (Nat.le_of_ble_eq_true rfl) ⟨(Nat.le_of_ble_eq_true rfl), (Nat.le_of_ble_eq_true rfl)⟩ hph pl8 (show 0 + 0 = 0 from rfl) (by decide) (fun rh4 Lh4 clh4 lnh4 ivh4 rvh4 h4 => ?_)
              obtain ⟨rfl, xl4, fl4, W4, exf4⟩ := h4
              refine hv12 (Fb2.call Xb2 fl4 rfl) (Xb2.ty t_a1) (Xb2.ty tsk6) (Xb2.ty tsk7) (Xb2.ty tsk8) (Xb2.ty tsk9) (Xb2.ty tsk10) (Xb2.ty tsk24) (Xb2.ty tsk25) (Xb2.ty tc9) (Xb2.trans xl4) (xl4.skl skb2) (fun F3 ty27 ty28 ty29 ty30 ty31 ty32 ty33 ty34 ty35 X3 sk3 => ?_)
              refine c_st (st2 := []) rfl ?_
              refine hv5 (show ACX ivb2 rvb2 sk ivh4 rvh4 (0 : Int) from exf4) (xl4.ty ty27) (show ivh4 a1 1 = ivb2 a1 1 from fl4.i ty27 rfl 1) (show ivb2 a1 1 = iv a1 1 from Fb2.i t_a1 rfl 1) (Phi.le W4 sk3) (fun gf4 ty36 ie8 ie9 pl9 => ?_)
              have ri8 : 0 ≤ ivh4 a1 1 ∧ ivh4 a1 1 ≤ 200 := W4.int ty36 1
              exact c_vret C dX3_chain_78 rfl (by decide) (rom0 hph pl9 (by decide)) ⟨rfl, X3, F3, W4, (CHX.bl hI gf1.2 (by omega) (by omega) (by omega) gf4)⟩
        · refine c_aload_n (j := 3) (x := a0) C dX3_chain_37 rfl ?_
          refine c_aload_n (j := 4) (x := a1) C dX3_chain_38 rfl ?_
          refine hv2 (Xb2.ty t_a1) (show rvb2 a1 0 = rv a1 0 from (Fb2.r t_a1 rfl 0)) (fun ty37 re2 => ?_)
          rw [hc9] at re2
          refine c_getr (k := 0) C ck_3 dX3_chain_39 w4_46 (by decide) ty37 rfl rfl (by decide) rfl re2 ?_
          refine c_st (st2 := [.ref c9, .ref a0]) rfl ?_
          refine c_iload (j := 0) C dX3_chain_42 rfl ?_
          have ty38 := Xb2.ty tc9
          have ll2 : 200 ≤ lnb2 c9 ∧ lnb2 c9 ≤ 200 := Wb2.len ty38 rfl
          refine c_iald C dX3_chain_44 ty38 rfl (by omega) (by omega) (by omega) ?_
          refine hv2 (show (-2147483648) ≤ ivb2 c9 k.toNat ∧ ivb2 c9 k.toNat ≤ 2147483647 from Wb2.int ty38 k.toNat) (show ivb2 c9 k.toNat = iv c9 k.toNat from Fb2.i tc9 rfl k.toNat) (fun ri9 ie10 => ?_)
          refine c_iload_n (j := 5) C dX3_chain_45 rfl ?_
          refine c_sipush (z := 1000) C dX3_chain_46 (by decide) ?_
          refine c_imul C dX3_chain_49 ?_
          obtain ⟨zz3, hzz3, ezz3⟩ := iI_of (iI (x * 1000))
          refine c_st (st2 := [.int (iI zz3), .int (iI (ivb2 c9 k.toNat)), .ref a0]) (by rw [ezz3]) ?_
          refine c_iload (j := 0) C dX3_chain_50 rfl ?_
          refine c_iadd C dX3_chain_52 ?_
          obtain ⟨zz4, hzz4, ezz4⟩ := iI_of (iI (zz3 + k))
          refine c_st (st2 := [.int (iI zz4), .int (iI (ivb2 c9 k.toNat)), .ref a0]) (by rw [ezz4]) ?_
          refine hv2 (Xb2.ty t_a0) (Phi.le Wb2 skb2) (fun ty39 pl10 => ?_)
          refine d_callV (As := [.int (iI (ivb2 c9 k.toNat)), .int (iI zz4)]) (rest := []) C hM (G_addCell (a0 := a0) (x := ivb2 c9 k.toNat) (y := zz4) Wb2 skb2 ty39 (by omega) (by omega) ) dX3_chain_53 kV_X3_114 rfl ty39 rfl rfl (by decide) ck_4 rfl (Nat.le_of_ble_eq_true rfl) ⟨(Nat.le_of_ble_eq_true rfl), (Nat.le_of_ble_eq_true rfl)⟩ hph pl10 (show 0 + 0 = 0 from rfl) (by decide) (fun rh5 Lh5 clh5 lnh5 ivh5 rvh5 h5 => ?_)
          obtain ⟨rfl, xl5, fl5, W5, exf5⟩ := h5
          refine hv10 (Fb2.call Xb2 fl5 rfl) (Xb2.ty tsk6) (Xb2.ty tsk7) (Xb2.ty tsk8) (Xb2.ty tsk9) (Xb2.ty tsk10) (Xb2.ty tsk24) (Xb2.ty tsk25) (Xb2.trans xl5) (xl5.skl skb2) (fun F4 ty40 ty41 ty42 ty43 ty44 ty45 ty46 X4 sk4 => ?_)
          refine c_st (st2 := []) rfl ?_
          have gf5 : ACX ivb2 rvb2 sk ivh5 rvh5 (ivb2 c9 k.toNat) := exf5
          refine c_iinc (z := k) (j := 0) (lv2 := [(7, .int (iI (k + 1))), (6, .int (iI ((iv a1 1) - 1))), (5, .int (iI f1)), (0, .ref a0), (1, .ref a1), (2, .int (iI x)), (3, .int (iI y)), (4, .int (iI g))]) C dX3_chain_56 rfl (by decide) rfl ?_
          refine c_goto (tgt := 30) C dX3_chain_59 (by decide) ?_
          refine c_lv (lv2 := [(7, .int (iI (k + 1))), (6, .int (iI ((iv a1 1) - 1))), (5, .int (iI f1)), (0, .ref a0), (1, .ref a1), (2, .int (iI x)), (3, .int (iI y)), (4, .int (iI g))]) [0, 1, 2, 3, 4, 5, 6, 7] rfl ?_
          exact ih2  (k + 1) _ _ _ _ _ (by omega) X4 W5 F4  (by omega) (by omega) (hI.step (by omega) hc9 (Fb2.i tc9 rfl k.toNat) gf5)
    refine c_lv (lv2 := [(7, .int (iI 0)), (6, .int (iI ((iv a1 1) - 1))), (5, .int (iI f1)), (0, .ref a0), (1, .ref a1), (2, .int (iI x)), (3, .int (iI y)), (4, .int (iI g))]) [0, 1, 2, 3, 4, 5, 6, 7] rfl ?_
    exact Lp2 203 0 _ _ _ _ _ (by omega) hX0 hW hF0  (by omega) (by omega) CHI.init
