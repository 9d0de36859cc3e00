set_option maxHeartbeats 4000000 in
set_option maxRecDepth 100000 in
theorem Y_acoll {l : Launch} {G : GT} {mi : Nat} {sk : Nat → Nat} {L : List Nat} {cl ln : Nat → Nat} {iv : Nat → Nat → Int} {rv : Nat → Nat → Option Nat}  {a0 : Nat} (hW : WT (g0 G) sk L cl ln iv rv) (t_a0 : ty L cl a0 200)  : Mc l G mi zPf 0 yJxa1e45_init_da8c8 cJxa1e45_init_da8c8 1 none 1 [.ref a0] L cl ln iv rv 0 (fun v L2 cl2 ln2 iv2 rv2 => v = none ∧ L = L2 ∧ cl = cl2 ∧ ln = ln2 ∧ iv = iv2 ∧ rv = rv2 ∧ (True)) := by
  refine Mc.mk (by decide) (Nat.le_of_ble_eq_true rfl) ?_
  intro p e s m args below meth c A C hM
  refine hv4 ((show zPf ln rv ≤ 0 from Nat.le_refl 0)) (show NW [] L L cl from NW.refl) (show XT L cl ln L cl ln from XT.refl) (show fT [] L cl iv rv iv rv from fT.refl) (fun hph nw0 hX0 hF0 => ?_)
  refine c_aload_n (j := 0) (x := a0) C dJxa1e45_init_da8c8_0 rfl ?_
  refine c_objInit C dJxa1e45_init_da8c8_1 w1_75 w1_30 w1_31 (by decide) (Nat.le_of_ble_eq_true rfl) ?_
  exact c_vret C dJxa1e45_init_da8c8_4 rfl (by decide) (rom0 hph hph (by decide)) ⟨rfl, rfl, rfl, rfl, rfl, rfl, trivial⟩
set_option maxHeartbeats 4000000 in
set_option maxRecDepth 100000 in
theorem Y_alist {l : Launch} {G : GT} {mi : Nat} {sk : Nat → Nat} {L : List Nat} {cl ln : Nat → Nat} {iv : Nat → Nat → Int} {rv : Nat → Nat → Option Nat}  {a0 : Nat} (hW : WT (g0 G) sk L cl ln iv rv) (t_a0 : ty L cl a0 200)  : Mc l G mi zPf 0 yJxc12de_init_da8c8 cJxc12de_init_da8c8 1 none 2 [.ref a0] L cl ln iv rv 0 (fun v L2 cl2 ln2 iv2 rv2 => v = none ∧ L = L2 ∧ cl = cl2 ∧ ln = ln2 ∧ rv = rv2 ∧ fT [200] L cl iv rv iv2 rv2 ∧ WT (g0 G) sk L2 cl2 ln2 iv2 rv2 ∧ (iv2 a0 2 = iv a0 2)) := by
  refine Mc.mk (by decide) (Nat.le_of_ble_eq_true rfl) ?_
  intro p e s m args below meth c A C hM
  refine hv4 ((show zPf ln rv ≤ 0 from Nat.le_refl 0)) (show NW [] L L cl from NW.refl) (show XT L cl ln L cl ln from XT.refl) (show fT [200] L cl iv rv iv rv from fT.refl) (fun hph nw0 hX0 hF0 => ?_)
  refine c_aload_n (j := 0) (x := a0) C dJxc12de_init_da8c8_0 rfl ?_
  refine c_callI (As := []) (rest := []) C hM (Y_acoll (a0 := a0) hW  t_a0  ) dJxc12de_init_da8c8_1 kI_Jxc12de_1 rfl rfl (Nat.le_of_ble_eq_true rfl) ⟨(Nat.le_of_ble_eq_true rfl), (Nat.le_of_ble_eq_true rfl)⟩ (rz0 hph (by decide)) (fun rh1 Lh1 clh1 lnh1 ivh1 rvh1 h1 => ⟨0, zk0, ?_⟩)
  obtain ⟨rfl, rfl, rfl, rfl, rfl, rfl, exf1⟩ := h1
  refine c_st (st2 := []) rfl ?_
  refine c_aload_n (j := 0) (x := a0) C dJxc12de_init_da8c8_4 rfl ?_
  refine c_iconst C dJxc12de_init_da8c8_5 ?_
  refine c_put (z := 0) (k := 0) C ck_0 dJxc12de_init_da8c8_6 w1_80 (by decide) rfl t_a0 rfl rfl (by decide) rfl (by rfl) (by rfl) (fun iv1 pq1 => ?_)
  refine hv3 (hW.puti pq1 t_a0 ⟨by decide, by decide⟩ rfl) (hF0.puti hX0 pq1 t_a0 rfl) (show iv1 a0 2 = iv a0 2 from by rw [pq1]; exact up2_j (by decide)) (fun W2 F1 ie1 => ?_)
  have ri1 : (-2147483648) ≤ iv1 a0 2 ∧ iv1 a0 2 ≤ 2147483647 := W2.int t_a0 2
  exact c_vret C dJxc12de_init_da8c8_9 rfl (by decide) (rom0 hph hph (by decide)) ⟨rfl, rfl, rfl, rfl, rfl, F1, W2, (by omega)⟩
set_option maxHeartbeats 4000000 in
set_option maxRecDepth 100000 in
theorem Y_list {l : Launch} {G : GT} {mi : Nat} {sk : Nat → Nat} {L : List Nat} {cl ln : Nat → Nat} {iv : Nat → Nat → Int} {rv : Nat → Nat → Option Nat}  {a0 : Nat} (hW : WT (g0 G) sk L cl ln iv rv) (t_a0 : ty L cl a0 200)  : Mc l G mi zPf 0 yJx4a65c_init_da8c8 cJx4a65c_init_da8c8 1 none 3 [.ref a0] L cl ln iv rv 0 (fun v L2 cl2 ln2 iv2 rv2 => v = none ∧ L = L2 ∧ cl = cl2 ∧ ln = ln2 ∧ fT [200] L cl iv rv iv2 rv2 ∧ WT (g0 G) sk L2 cl2 ln2 iv2 rv2 ∧ (rv2 a0 1 = some (g0 G) ∧ iv2 a0 2 = iv a0 2 ∧ (∀ k, ([1] : List Nat).contains k = false → rv2 a0 k = rv a0 k))) := by
  refine Mc.mk (by decide) (Nat.le_of_ble_eq_true rfl) ?_
  intro p e s m args below meth c A C hM
  refine hv4 ((show zPf ln rv ≤ 0 from Nat.le_refl 0)) (show NW [] L L cl from NW.refl) (show XT L cl ln L cl ln from XT.refl) (show fT [200] L cl iv rv iv rv from fT.refl) (fun hph nw0 hX0 hF0 => ?_)
  refine c_aload_n (j := 0) (x := a0) C dJx4a65c_init_da8c8_0 rfl ?_
  have ri1 : (-2147483648) ≤ iv a0 2 ∧ iv a0 2 ≤ 2147483647 := hW.int t_a0 2
  refine c_callI (As := []) (rest := []) C hM (Y_alist (a0 := a0) hW  t_a0  ) dJx4a65c_init_da8c8_1 kI_Jx4a65c_1 rfl rfl (Nat.le_of_ble_eq_true rfl) ⟨(Nat.le_of_ble_eq_true rfl), (Nat.le_of_ble_eq_true rfl)⟩ (rz0 hph (by decide)) (fun rh1 Lh1 clh1 lnh1 ivh1 rvh1 h1 => ⟨0, zk0, ?_⟩)
  obtain ⟨rfl, rfl, rfl, rfl, rfl, fl1, W1, exf1⟩ := h1
  have F1 := hF0.call hX0 fl1 rfl
  refine c_st (st2 := []) rfl ?_
  refine hv2 (show (-2147483648) ≤ ivh1 a0 2 ∧ ivh1 a0 2 ≤ 2147483647 from W1.int t_a0 2) (show ivh1 a0 2 = iv a0 2 from exf1) (fun ri2 gf1 => ?_)
  refine c_aload_n (j := 0) (x := a0) C dJx4a65c_init_da8c8_4 rfl ?_
  refine c_gets C dJx4a65c_init_da8c8_5 w1_76 ?_
  refine c_putr (x := (some (g0 G))) (k := 1) C ck_0 dJx4a65c_init_da8c8_8 w1_78 (by decide) rfl t_a0 rfl rfl (by decide) rfl (by rfl) (by rfl) (fun rv1 pq1 => ⟨0, (zp2 (Nat.le_refl _)), ?_⟩)
  refine hv4 (W1.putr pq1 t_a0 (fun qr => by rw [t_a0.2] at qr; cases qr) rfl (by decide)) (F1.putr hX0 pq1 t_a0 rfl) (show rv1 a0 1 = (some (g0 G)) from by rw [pq1]; exact upr_s) (show ∀ k, ([1] : List Nat).contains k = false → rv1 a0 k = rv a0 k from fun k hk => (show rv1 a0 k = rv a0 k from (by rw [pq1]; exact upr_j (fun e => by subst e; exact absurd hk (by decide))))) (fun W2 F2 rp1 rn1 => ?_)
  exact c_vret C dJx4a65c_init_da8c8_11 rfl (by decide) (rom0 hph (Nat.le_refl 0) (by decide)) ⟨rfl, rfl, rfl, rfl, F2, W2, ⟨rp1, (by omega), rn1⟩⟩
set_option maxHeartbeats 4000000 in
set_option maxRecDepth 100000 in
theorem Y_ints_2 {l : Launch} {G : GT} {mi : Nat} {sk : Nat → Nat} {L : List Nat} {cl ln : Nat → Nat} {iv : Nat → Nat → Int} {rv : Nat → Nat → Option Nat}  {a0 : Nat} {i : Int} (hW : WT (g0 G) sk L cl ln iv rv) (t_a0 : ty L cl a0 202) (h_i : -2147483648 ≤ i ∧ i ≤ 2147483647)  : Mc l G mi zPf 0 yX1_init cX1_init 2 none 1 [.ref a0, .int (iI i)] L cl ln iv rv 32 (fun v L2 cl2 ln2 iv2 rv2 => v = none ∧ XT L cl ln L2 cl2 ln2 ∧ fT [202] L cl iv rv iv2 rv2 ∧ WT (g0 G) sk L2 cl2 ln2 iv2 rv2 ∧ (∃ b, (∀ k, ([1] : List Nat).contains k = false → rv2 a0 k = rv a0 k) ∧ rv2 a0 1 = some b ∧ ty L2 cl2 b 32 ∧ ln2 b = 16 ∧ iv2 a0 0 = i ∧ iv2 a0 2 = 0) ∧ NW [32] L L2 cl2) := by
  refine Mc.mk (by decide) (Nat.le_of_ble_eq_true rfl) ?_
  intro p e s m args below meth c A C hM
  refine hv4 ((show zPf ln rv ≤ 0 from Nat.le_refl 0)) (show NW [] L L cl from NW.refl) (show XT L cl ln L cl ln from XT.refl) (show fT [202] L cl iv rv iv rv from fT.refl) (fun hph nw0 hX0 hF0 => ?_)
  refine c_aload_n (j := 0) (x := a0) C dX1_init_0 rfl ?_
  refine c_objInit C dX1_init_1 w1_37 w1_30 w1_31 (by decide) (Nat.le_of_ble_eq_true rfl) ?_
  refine c_aload_n (j := 0) (x := a0) C dX1_init_4 rfl ?_
  refine c_iconst C dX1_init_5 ?_
  refine c_put (z := 0) (k := 2) C ck_2 dX1_init_6 w1_43 (by decide) rfl t_a0 rfl rfl (by decide) rfl (by rfl) (by rfl) (fun iv1 pq1 => ?_)
  refine hv2 (hW.puti pq1 t_a0 ⟨by decide, by decide⟩ rfl) (hF0.puti hX0 pq1 t_a0 rfl) (fun W1 F1 => ?_)
  refine c_aload_n (j := 0) (x := a0) C dX1_init_9 rfl ?_
  refine c_iload_n (j := 1) C dX1_init_10 rfl ?_
  refine c_putF (z := i) (k := 0) C ck_2 dX1_init_11 w1_38 (by decide) rfl rfl rfl t_a0 rfl rfl (by decide) rfl (by rfl) (by rfl) (fun iv2 pq2 => ?_)
  refine hv2 (W1.puti pq2 t_a0 (show (-2147483648) ≤ i ∧ i ≤ 2147483647 by omega) rfl) (F1.puti hX0 pq2 t_a0 rfl) (fun W2 F2 => ?_)
  refine c_aload_n (j := 0) (x := a0) C dX1_init_14 rfl ?_
  refine c_bipush (z := 16) C dX1_init_15 (by decide) ?_
  refine c_newaI (z := 16) (N := 16) C 32 dX1_init_17 w1_57 rfl (by omega) (by omega) (rom2 hph hph (by decide)) (fun qn1 cln1 lnn1 ivn1 rvn1 hqn1 hcn1 hln1 hin1 hrn1 => ⟨32, (z_in (by omega)), ?_⟩)
  refine c_g0 C (fun hg1 => ?_)
  refine hv5 (show ∀ b, b ≠ qn1 → lnn1 b = ln b from (fun b hb => by rw [hln1]; exact va_up_ne _ _ hb)) (show lnn1 qn1 = 16 from by rw [hln1]; exact va_up_self _ _ _) (F2.new hX0 hqn1 hin1 hrn1) (show ty (L ++ [qn1]) cln1 qn1 32 from ty_new hcn1) (show qn1 ∉ L from fun h => hqn1 ((hX0 qn1 h).1)) (fun hxn1 lqn1 F3 tqn1 h0qn1 => ?_)
  refine hv2 (W2.new (ln2 := lnn1) hqn1 (hg1 qn1 (List.mem_append_right _ List.mem_cons_self)) hcn1 hxn1 hin1 hrn1 (fun _ => ⟨(show (-2147483648 : Int) ≤ 0 by decide), (show (0 : Int) ≤ 2147483647 by decide)⟩) (Or.inr (fun _ => rfl)) (fun _ => by show 16 ≤ lnn1 qn1 ∧ lnn1 qn1 ≤ 6000; omega) rfl rfl) (XT.new hqn1 hcn1 hxn1) (fun W3 xl1 => ?_)
  refine hv3 (hX0.trans xl1) (nw0.new xl1 hcn1) (xl1.ty t_a0) (fun X1 nw1 ty1 => ?_)
  refine c_putr (x := (some qn1)) (k := 1) C ck_2 dX1_init_19 w1_39 (by decide) rfl ty1 rfl rfl (by decide) rfl (by rfl) (by rfl) (fun rv1 pq3 => ⟨32, (zp2 (Nat.le_refl _)), ?_⟩)
  refine hv9 (W3.putr pq3 ty1 (fun qr => by rw [ty1.2] at qr; cases qr) rfl (by decide)) (F3.putr X1 pq3 ty1 rfl) (show rv1 a0 1 = (some qn1) from by rw [pq3]; exact upr_s) (show ∀ k, ([1] : List Nat).contains k = false → rv1 a0 k = rv a0 k from fun k hk => (Eq.trans (show rv1 a0 k = rvn1 a0 k from (by rw [pq3]; exact upr_j (fun e => by subst e; exact absurd hk (by decide)))) (show rvn1 a0 k = rv a0 k from (by rw [hrn1]; exact congrFun (up0_a (ne_in t_a0.1 hqn1)) _)))) (show ivn1 a0 0 = iv2 a0 0 from by rw [hin1]; exact congrFun (up0_a (ne_in t_a0.1 hqn1)) _) (show iv2 a0 0 = i from by rw [pq2]; exact up2_s) (show ivn1 a0 2 = iv2 a0 2 from by rw [hin1]; exact congrFun (up0_a (ne_in t_a0.1 hqn1)) _) (show iv2 a0 2 = iv1 a0 2 from by rw [pq2]; exact up2_j (by decide)) (show iv1 a0 2 = 0 from by rw [pq1]; exact up2_s) (fun W4 F4 rp1 rn1 ie1 ie2 ie3 ie4 ie5 => ?_)
  refine hv2 (show (-2147483648) ≤ ivn1 a0 0 ∧ ivn1 a0 0 ≤ 2147483647 from W4.int ty1 0) (show (-2147483648) ≤ ivn1 a0 2 ∧ ivn1 a0 2 ≤ 2147483647 from W4.int ty1 2) (fun ri1 ri2 => ?_)
  exact c_vret C dX1_init_22 rfl (by decide) (rom0 hph (Nat.le_refl 0) (by decide)) ⟨rfl, X1, F4, W4, ⟨qn1, rn1, rp1, tqn1, (by omega), (by omega), (by omega)⟩, nw1.sub (by decide)⟩
set_option maxHeartbeats 4000000 in
set_option maxRecDepth 100000 in
theorem Y_ints_3 {l : Launch} {G : GT} {mi : Nat} {sk : Nat → Nat} {L : List Nat} {cl ln : Nat → Nat} {iv : Nat → Nat → Int} {rv : Nat → Nat → Option Nat}  {a0 : Nat} {i : Int} (hW : WT (g0 G) sk L cl ln iv rv) (t_a0 : ty L cl a0 202) (h_i : -2147483648 ≤ i ∧ i ≤ 2147483647)  : Mc l G mi zPf 0 yX1_init cX1_init 2 none 1 [.ref a0, .int (iI i)] L cl ln iv rv 32 (fun v L2 cl2 ln2 iv2 rv2 => v = none ∧ XT L cl ln L2 cl2 ln2 ∧ fT [202] L cl iv rv iv2 rv2 ∧ WT (g0 G) sk L2 cl2 ln2 iv2 rv2 ∧ (∃ b, (∀ k, ([1] : List Nat).contains k = false → rv2 a0 k = rv a0 k) ∧ rv2 a0 1 = some b ∧ ty L2 cl2 b 33 ∧ ln2 b = 16 ∧ iv2 a0 0 = i ∧ iv2 a0 2 = 0) ∧ NW [33] L L2 cl2) := by
  refine Mc.mk (by decide) (Nat.le_of_ble_eq_true rfl) ?_
  intro p e s m args below meth c A C hM
  refine hv4 ((show zPf ln rv ≤ 0 from Nat.le_refl 0)) (show NW [] L L cl from NW.refl) (show XT L cl ln L cl ln from XT.refl) (show fT [202] L cl iv rv iv rv from fT.refl) (fun hph nw0 hX0 hF0 => ?_)
  refine c_aload_n (j := 0) (x := a0) C dX1_init_0 rfl ?_
  refine c_objInit C dX1_init_1 w1_37 w1_30 w1_31 (by decide) (Nat.le_of_ble_eq_true rfl) ?_
  refine c_aload_n (j := 0) (x := a0) C dX1_init_4 rfl ?_
  refine c_iconst C dX1_init_5 ?_
  refine c_put (z := 0) (k := 2) C ck_2 dX1_init_6 w1_43 (by decide) rfl t_a0 rfl rfl (by decide) rfl (by rfl) (by rfl) (fun iv1 pq1 => ?_)
  refine hv2 (hW.puti pq1 t_a0 ⟨by decide, by decide⟩ rfl) (hF0.puti hX0 pq1 t_a0 rfl) (fun W1 F1 => ?_)
  refine c_aload_n (j := 0) (x := a0) C dX1_init_9 rfl ?_
  refine c_iload_n (j := 1) C dX1_init_10 rfl ?_
  refine c_putF (z := i) (k := 0) C ck_2 dX1_init_11 w1_38 (by decide) rfl rfl rfl t_a0 rfl rfl (by decide) rfl (by rfl) (by rfl) (fun iv2 pq2 => ?_)
  refine hv2 (W1.puti pq2 t_a0 (show (-2147483648) ≤ i ∧ i ≤ 2147483647 by omega) rfl) (F1.puti hX0 pq2 t_a0 rfl) (fun W2 F2 => ?_)
  refine c_aload_n (j := 0) (x := a0) C dX1_init_14 rfl ?_
  refine c_bipush (z := 16) C dX1_init_15 (by decide) ?_
  refine c_newaI (z := 16) (N := 16) C 33 dX1_init_17 w1_57 rfl (by omega) (by omega) (rom2 hph hph (by decide)) (fun qn1 cln1 lnn1 ivn1 rvn1 hqn1 hcn1 hln1 hin1 hrn1 => ⟨32, (z_in (by omega)), ?_⟩)
  refine c_g0 C (fun hg1 => ?_)
  refine hv5 (show ∀ b, b ≠ qn1 → lnn1 b = ln b from (fun b hb => by rw [hln1]; exact va_up_ne _ _ hb)) (show lnn1 qn1 = 16 from by rw [hln1]; exact va_up_self _ _ _) (F2.new hX0 hqn1 hin1 hrn1) (show ty (L ++ [qn1]) cln1 qn1 33 from ty_new hcn1) (show qn1 ∉ L from fun h => hqn1 ((hX0 qn1 h).1)) (fun hxn1 lqn1 F3 tqn1 h0qn1 => ?_)
  refine hv2 (W2.new (ln2 := lnn1) hqn1 (hg1 qn1 (List.mem_append_right _ List.mem_cons_self)) hcn1 hxn1 hin1 hrn1 (fun _ => ⟨(show (-2147483648 : Int) ≤ 0 by decide), (show (0 : Int) ≤ 2147483647 by decide)⟩) (Or.inr (fun _ => rfl)) (fun _ => by show 16 ≤ lnn1 qn1 ∧ lnn1 qn1 ≤ 1000; omega) rfl rfl) (XT.new hqn1 hcn1 hxn1) (fun W3 xl1 => ?_)
  refine hv3 (hX0.trans xl1) (nw0.new xl1 hcn1) (xl1.ty t_a0) (fun X1 nw1 ty1 => ?_)
  refine c_putr (x := (some qn1)) (k := 1) C ck_2 dX1_init_19 w1_39 (by decide) rfl ty1 rfl rfl (by decide) rfl (by rfl) (by rfl) (fun rv1 pq3 => ⟨32, (zp2 (Nat.le_refl _)), ?_⟩)
  refine hv9 (W3.putr pq3 ty1 (fun qr => by rw [ty1.2] at qr; cases qr) rfl (by decide)) (F3.putr X1 pq3 ty1 rfl) (show rv1 a0 1 = (some qn1) from by rw [pq3]; exact upr_s) (show ∀ k, ([1] : List Nat).contains k = false → rv1 a0 k = rv a0 k from fun k hk => (Eq.trans (show rv1 a0 k = rvn1 a0 k from (by rw [pq3]; exact upr_j (fun e => by subst e; exact absurd hk (by decide)))) (show rvn1 a0 k = rv a0 k from (by rw [hrn1]; exact congrFun (up0_a (ne_in t_a0.1 hqn1)) _)))) (show ivn1 a0 0 = iv2 a0 0 from by rw [hin1]; exact congrFun (up0_a (ne_in t_a0.1 hqn1)) _) (show iv2 a0 0 = i from by rw [pq2]; exact up2_s) (show ivn1 a0 2 = iv2 a0 2 from by rw [hin1]; exact congrFun (up0_a (ne_in t_a0.1 hqn1)) _) (show iv2 a0 2 = iv1 a0 2 from by rw [pq2]; exact up2_j (by decide)) (show iv1 a0 2 = 0 from by rw [pq1]; exact up2_s) (fun W4 F4 rp1 rn1 ie1 ie2 ie3 ie4 ie5 => ?_)
  refine hv2 (show (-2147483648) ≤ ivn1 a0 0 ∧ ivn1 a0 0 ≤ 2147483647 from W4.int ty1 0) (show (-2147483648) ≤ ivn1 a0 2 ∧ ivn1 a0 2 ≤ 2147483647 from W4.int ty1 2) (fun ri1 ri2 => ?_)
  exact c_vret C dX1_init_22 rfl (by decide) (rom0 hph (Nat.le_refl 0) (by decide)) ⟨rfl, X1, F4, W4, ⟨qn1, rn1, rp1, tqn1, (by omega), (by omega), (by omega)⟩, nw1.sub (by decide)⟩
set_option maxHeartbeats 4000000 in
set_option maxRecDepth 100000 in
theorem Y_ints_4 {l : Launch} {G : GT} {mi : Nat} {sk : Nat → Nat} {L : List Nat} {cl ln : Nat → Nat} {iv : Nat → Nat → Int} {rv : Nat → Nat → Option Nat}  {a0 : Nat} {i : Int} (hW : WT (g0 G) sk L cl ln iv rv) (t_a0 : ty L cl a0 202) (h_i : -2147483648 ≤ i ∧ i ≤ 2147483647)  : Mc l G mi zPf 0 yX1_init cX1_init 2 none 1 [.ref a0, .int (iI i)] L cl ln iv rv 32 (fun v L2 cl2 ln2 iv2 rv2 => v = none ∧ XT L cl ln L2 cl2 ln2 ∧ fT [202] L cl iv rv iv2 rv2 ∧ WT (g0 G) sk L2 cl2 ln2 iv2 rv2 ∧ (∃ b, (∀ k, ([1] : List Nat).contains k = false → rv2 a0 k = rv a0 k) ∧ rv2 a0 1 = some b ∧ ty L2 cl2 b 34 ∧ ln2 b = 16 ∧ iv2 a0 0 = i ∧ iv2 a0 2 = 0) ∧ NW [34] L L2 cl2) := by
  refine Mc.mk (by decide) (Nat.le_of_ble_eq_true rfl) ?_
  intro p e s m args below meth c A C hM
  refine hv4 ((show zPf ln rv ≤ 0 from Nat.le_refl 0)) (show NW [] L L cl from NW.refl) (show XT L cl ln L cl ln from XT.refl) (show fT [202] L cl iv rv iv rv from fT.refl) (fun hph nw0 hX0 hF0 => ?_)
  refine c_aload_n (j := 0) (x := a0) C dX1_init_0 rfl ?_
  refine c_objInit C dX1_init_1 w1_37 w1_30 w1_31 (by decide) (Nat.le_of_ble_eq_true rfl) ?_
  refine c_aload_n (j := 0) (x := a0) C dX1_init_4 rfl ?_
  refine c_iconst C dX1_init_5 ?_
  refine c_put (z := 0) (k := 2) C ck_2 dX1_init_6 w1_43 (by decide) rfl t_a0 rfl rfl (by decide) rfl (by rfl) (by rfl) (fun iv1 pq1 => ?_)
  refine hv2 (hW.puti pq1 t_a0 ⟨by decide, by decide⟩ rfl) (hF0.puti hX0 pq1 t_a0 rfl) (fun W1 F1 => ?_)
  refine c_aload_n (j := 0) (x := a0) C dX1_init_9 rfl ?_
  refine c_iload_n (j := 1) C dX1_init_10 rfl ?_
  refine c_putF (z := i) (k := 0) C ck_2 dX1_init_11 w1_38 (by decide) rfl rfl rfl t_a0 rfl rfl (by decide) rfl (by rfl) (by rfl) (fun iv2 pq2 => ?_)
  refine hv2 (W1.puti pq2 t_a0 (show (-2147483648) ≤ i ∧ i ≤ 2147483647 by omega) rfl) (F1.puti hX0 pq2 t_a0 rfl) (fun W2 F2 => ?_)
  refine c_aload_n (j := 0) (x := a0) C dX1_init_14 rfl ?_
  refine c_bipush (z := 16) C dX1_init_15 (by decide) ?_
  refine c_newaI (z := 16) (N := 16) C 34 dX1_init_17 w1_57 rfl (by omega) (by omega) (rom2 hph hph (by decide)) (fun qn1 cln1 lnn1 ivn1 rvn1 hqn1 hcn1 hln1 hin1 hrn1 => ⟨32, (z_in (by omega)), ?_⟩)
  refine c_g0 C (fun hg1 => ?_)
  refine hv5 (show ∀ b, b ≠ qn1 → lnn1 b = ln b from (fun b hb => by rw [hln1]; exact va_up_ne _ _ hb)) (show lnn1 qn1 = 16 from by rw [hln1]; exact va_up_self _ _ _) (F2.new hX0 hqn1 hin1 hrn1) (show ty (L ++ [qn1]) cln1 qn1 34 from ty_new hcn1) (show qn1 ∉ L from fun h => hqn1 ((hX0 qn1 h).1)) (fun hxn1 lqn1 F3 tqn1 h0qn1 => ?_)
  refine hv2 (W2.new (ln2 := lnn1) hqn1 (hg1 qn1 (List.mem_append_right _ List.mem_cons_self)) hcn1 hxn1 hin1 hrn1 (fun _ => ⟨(show (-2147483648 : Int) ≤ 0 by decide), (show (0 : Int) ≤ 2147483647 by decide)⟩) (Or.inr (fun _ => rfl)) (fun _ => by show 16 ≤ lnn1 qn1 ∧ lnn1 qn1 ≤ 8000; omega) rfl rfl) (XT.new hqn1 hcn1 hxn1) (fun W3 xl1 => ?_)
  refine hv3 (hX0.trans xl1) (nw0.new xl1 hcn1) (xl1.ty t_a0) (fun X1 nw1 ty1 => ?_)
  refine c_putr (x := (some qn1)) (k := 1) C ck_2 dX1_init_19 w1_39 (by decide) rfl ty1 rfl rfl (by decide) rfl (by rfl) (by rfl) (fun rv1 pq3 => ⟨32, (zp2 (Nat.le_refl _)), ?_⟩)
  refine hv9 (W3.putr pq3 ty1 (fun qr => by rw [ty1.2] at qr; cases qr) rfl (by decide)) (F3.putr X1 pq3 ty1 rfl) (show rv1 a0 1 = (some qn1) from by rw [pq3]; exact upr_s) (show ∀ k, ([1] : List Nat).contains k = false → rv1 a0 k = rv a0 k from fun k hk => (Eq.trans (show rv1 a0 k = rvn1 a0 k from (by rw [pq3]; exact upr_j (fun e => by subst e; exact absurd hk (by decide)))) (show rvn1 a0 k = rv a0 k from (by rw [hrn1]; exact congrFun (up0_a (ne_in t_a0.1 hqn1)) _)))) (show ivn1 a0 0 = iv2 a0 0 from by rw [hin1]; exact congrFun (up0_a (ne_in t_a0.1 hqn1)) _) (show iv2 a0 0 = i from by rw [pq2]; exact up2_s) (show ivn1 a0 2 = iv2 a0 2 from by rw [hin1]; exact congrFun (up0_a (ne_in t_a0.1 hqn1)) _) (show iv2 a0 2 = iv1 a0 2 from by rw [pq2]; exact up2_j (by decide)) (show iv1 a0 2 = 0 from by rw [pq1]; exact up2_s) (fun W4 F4 rp1 rn1 ie1 ie2 ie3 ie4 ie5 => ?_)
  refine hv2 (show (-2147483648) ≤ ivn1 a0 0 ∧ ivn1 a0 0 ≤ 2147483647 from W4.int ty1 0) (show (-2147483648) ≤ ivn1 a0 2 ∧ ivn1 a0 2 ≤ 2147483647 from W4.int ty1 2) (fun ri1 ri2 => ?_)
  exact c_vret C dX1_init_22 rfl (by decide) (rom0 hph (Nat.le_refl 0) (by decide)) ⟨rfl, X1, F4, W4, ⟨qn1, rn1, rp1, tqn1, (by omega), (by omega), (by omega)⟩, nw1.sub (by decide)⟩
set_option maxHeartbeats 4000000 in
set_option maxRecDepth 100000 in
theorem Y_ints_5 {l : Launch} {G : GT} {mi : Nat} {sk : Nat → Nat} {L : List Nat} {cl ln : Nat → Nat} {iv : Nat → Nat → Int} {rv : Nat → Nat → Option Nat}  {a0 : Nat} {i : Int} (hW : WT (g0 G) sk L cl ln iv rv) (t_a0 : ty L cl a0 202) (h_i : -2147483648 ≤ i ∧ i ≤ 2147483647)  : Mc l G mi zPf 0 yX1_init cX1_init 2 none 1 [.ref a0, .int (iI i)] L cl ln iv rv 32 (fun v L2 cl2 ln2 iv2 rv2 => v = none ∧ XT L cl ln L2 cl2 ln2 ∧ fT [202] L cl iv rv iv2 rv2 ∧ WT (g0 G) sk L2 cl2 ln2 iv2 rv2 ∧ (∃ b, (∀ k, ([1] : List Nat).contains k = false → rv2 a0 k = rv a0 k) ∧ rv2 a0 1 = some b ∧ ty L2 cl2 b 35 ∧ ln2 b = 16 ∧ iv2 a0 0 = i ∧ iv2 a0 2 = 0) ∧ NW [35] L L2 cl2) := by
  refine Mc.mk (by decide) (Nat.le_of_ble_eq_true rfl) ?_
  intro p e s m args below meth c A C hM
  refine hv4 ((show zPf ln rv ≤ 0 from Nat.le_refl 0)) (show NW [] L L cl from NW.refl) (show XT L cl ln L cl ln from XT.refl) (show fT [202] L cl iv rv iv rv from fT.refl) (fun hph nw0 hX0 hF0 => ?_)
  refine c_aload_n (j := 0) (x := a0) C dX1_init_0 rfl ?_
  refine c_objInit C dX1_init_1 w1_37 w1_30 w1_31 (by decide) (Nat.le_of_ble_eq_true rfl) ?_
  refine c_aload_n (j := 0) (x := a0) C dX1_init_4 rfl ?_
  refine c_iconst C dX1_init_5 ?_
  refine c_put (z := 0) (k := 2) C ck_2 dX1_init_6 w1_43 (by decide) rfl t_a0 rfl rfl (by decide) rfl (by rfl) (by rfl) (fun iv1 pq1 => ?_)
  refine hv2 (hW.puti pq1 t_a0 ⟨by decide, by decide⟩ rfl) (hF0.puti hX0 pq1 t_a0 rfl) (fun W1 F1 => ?_)
  refine c_aload_n (j := 0) (x := a0) C dX1_init_9 rfl ?_
  refine c_iload_n (j := 1) C dX1_init_10 rfl ?_
  refine c_putF (z := i) (k := 0) C ck_2 dX1_init_11 w1_38 (by decide) rfl rfl rfl t_a0 rfl rfl (by decide) rfl (by rfl) (by rfl) (fun iv2 pq2 => ?_)
  refine hv2 (W1.puti pq2 t_a0 (show (-2147483648) ≤ i ∧ i ≤ 2147483647 by omega) rfl) (F1.puti hX0 pq2 t_a0 rfl) (fun W2 F2 => ?_)
  refine c_aload_n (j := 0) (x := a0) C dX1_init_14 rfl ?_
  refine c_bipush (z := 16) C dX1_init_15 (by decide) ?_
  refine c_newaI (z := 16) (N := 16) C 35 dX1_init_17 w1_57 rfl (by omega) (by omega) (rom2 hph hph (by decide)) (fun qn1 cln1 lnn1 ivn1 rvn1 hqn1 hcn1 hln1 hin1 hrn1 => ⟨32, (z_in (by omega)), ?_⟩)
  refine c_g0 C (fun hg1 => ?_)
  refine hv5 (show ∀ b, b ≠ qn1 → lnn1 b = ln b from (fun b hb => by rw [hln1]; exact va_up_ne _ _ hb)) (show lnn1 qn1 = 16 from by rw [hln1]; exact va_up_self _ _ _) (F2.new hX0 hqn1 hin1 hrn1) (show ty (L ++ [qn1]) cln1 qn1 35 from ty_new hcn1) (show qn1 ∉ L from fun h => hqn1 ((hX0 qn1 h).1)) (fun hxn1 lqn1 F3 tqn1 h0qn1 => ?_)
  refine hv2 (W2.new (ln2 := lnn1) hqn1 (hg1 qn1 (List.mem_append_right _ List.mem_cons_self)) hcn1 hxn1 hin1 hrn1 (fun _ => ⟨(show (-2147483648 : Int) ≤ 0 by decide), (show (0 : Int) ≤ 2147483647 by decide)⟩) (Or.inr (fun _ => rfl)) (fun _ => by show 16 ≤ lnn1 qn1 ∧ lnn1 qn1 ≤ 400; omega) rfl rfl) (XT.new hqn1 hcn1 hxn1) (fun W3 xl1 => ?_)
  refine hv3 (hX0.trans xl1) (nw0.new xl1 hcn1) (xl1.ty t_a0) (fun X1 nw1 ty1 => ?_)
  refine c_putr (x := (some qn1)) (k := 1) C ck_2 dX1_init_19 w1_39 (by decide) rfl ty1 rfl rfl (by decide) rfl (by rfl) (by rfl) (fun rv1 pq3 => ⟨32, (zp2 (Nat.le_refl _)), ?_⟩)
  refine hv9 (W3.putr pq3 ty1 (fun qr => by rw [ty1.2] at qr; cases qr) rfl (by decide)) (F3.putr X1 pq3 ty1 rfl) (show rv1 a0 1 = (some qn1) from by rw [pq3]; exact upr_s) (show ∀ k, ([1] : List Nat).contains k = false → rv1 a0 k = rv a0 k from fun k hk => (Eq.trans (show rv1 a0 k = rvn1 a0 k from (by rw [pq3]; exact upr_j (fun e => by subst e; exact absurd hk (by decide)))) (show rvn1 a0 k = rv a0 k from (by rw [hrn1]; exact congrFun (up0_a (ne_in t_a0.1 hqn1)) _)))) (show ivn1 a0 0 = iv2 a0 0 from by rw [hin1]; exact congrFun (up0_a (ne_in t_a0.1 hqn1)) _) (show iv2 a0 0 = i from by rw [pq2]; exact up2_s) (show ivn1 a0 2 = iv2 a0 2 from by rw [hin1]; exact congrFun (up0_a (ne_in t_a0.1 hqn1)) _) (show iv2 a0 2 = iv1 a0 2 from by rw [pq2]; exact up2_j (by decide)) (show iv1 a0 2 = 0 from by rw [pq1]; exact up2_s) (fun W4 F4 rp1 rn1 ie1 ie2 ie3 ie4 ie5 => ?_)
  refine hv2 (show (-2147483648) ≤ ivn1 a0 0 ∧ ivn1 a0 0 ≤ 2147483647 from W4.int ty1 0) (show (-2147483648) ≤ ivn1 a0 2 ∧ ivn1 a0 2 ≤ 2147483647 from W4.int ty1 2) (fun ri1 ri2 => ?_)
  exact c_vret C dX1_init_22 rfl (by decide) (rom0 hph (Nat.le_refl 0) (by decide)) ⟨rfl, X1, F4, W4, ⟨qn1, rn1, rp1, tqn1, (by omega), (by omega), (by omega)⟩, nw1.sub (by decide)⟩
set_option maxHeartbeats 4000000 in
set_option maxRecDepth 100000 in
theorem Y_ints_6 {l : Launch} {G : GT} {mi : Nat} {sk : Nat → Nat} {L : List Nat} {cl ln : Nat → Nat} {iv : Nat → Nat → Int} {rv : Nat → Nat → Option Nat}  {a0 : Nat} {i : Int} (hW : WT (g0 G) sk L cl ln iv rv) (t_a0 : ty L cl a0 202) (h_i : -2147483648 ≤ i ∧ i ≤ 2147483647)  : Mc l G mi zPf 0 yX1_init cX1_init 2 none 1 [.ref a0, .int (iI i)] L cl ln iv rv 32 (fun v L2 cl2 ln2 iv2 rv2 => v = none ∧ XT L cl ln L2 cl2 ln2 ∧ fT [202] L cl iv rv iv2 rv2 ∧ WT (g0 G) sk L2 cl2 ln2 iv2 rv2 ∧ (∃ b, (∀ k, ([1] : List Nat).contains k = false → rv2 a0 k = rv a0 k) ∧ rv2 a0 1 = some b ∧ ty L2 cl2 b 36 ∧ ln2 b = 16 ∧ iv2 a0 0 = i ∧ iv2 a0 2 = 0) ∧ NW [36] L L2 cl2) := by
  refine Mc.mk (by decide) (Nat.le_of_ble_eq_true rfl) ?_
  intro p e s m args below meth c A C hM
  refine hv4 ((show zPf ln rv ≤ 0 from Nat.le_refl 0)) (show NW [] L L cl from NW.refl) (show XT L cl ln L cl ln from XT.refl) (show fT [202] L cl iv rv iv rv from fT.refl) (fun hph nw0 hX0 hF0 => ?_)
  refine c_aload_n (j := 0) (x := a0) C dX1_init_0 rfl ?_
  refine c_objInit C dX1_init_1 w1_37 w1_30 w1_31 (by decide) (Nat.le_of_ble_eq_true rfl) ?_
  refine c_aload_n (j := 0) (x := a0) C dX1_init_4 rfl ?_
  refine c_iconst C dX1_init_5 ?_
  refine c_put (z := 0) (k := 2) C ck_2 dX1_init_6 w1_43 (by decide) rfl t_a0 rfl rfl (by decide) rfl (by rfl) (by rfl) (fun iv1 pq1 => ?_)
  refine hv2 (hW.puti pq1 t_a0 ⟨by decide, by decide⟩ rfl) (hF0.puti hX0 pq1 t_a0 rfl) (fun W1 F1 => ?_)
  refine c_aload_n (j := 0) (x := a0) C dX1_init_9 rfl ?_
  refine c_iload_n (j := 1) C dX1_init_10 rfl ?_
  refine c_putF (z := i) (k := 0) C ck_2 dX1_init_11 w1_38 (by decide) rfl rfl rfl t_a0 rfl rfl (by decide) rfl (by rfl) (by rfl) (fun iv2 pq2 => ?_)
  refine hv2 (W1.puti pq2 t_a0 (show (-2147483648) ≤ i ∧ i ≤ 2147483647 by omega) rfl) (F1.puti hX0 pq2 t_a0 rfl) (fun W2 F2 => ?_)
  refine c_aload_n (j := 0) (x := a0) C dX1_init_14 rfl ?_
  refine c_bipush (z := 16) C dX1_init_15 (by decide) ?_
  refine c_newaI (z := 16) (N := 16) C 36 dX1_init_17 w1_57 rfl (by omega) (by omega) (rom2 hph hph (by decide)) (fun qn1 cln1 lnn1 ivn1 rvn1 hqn1 hcn1 hln1 hin1 hrn1 => ⟨32, (z_in (by omega)), ?_⟩)
  refine c_g0 C (fun hg1 => ?_)
  refine hv5 (show ∀ b, b ≠ qn1 → lnn1 b = ln b from (fun b hb => by rw [hln1]; exact va_up_ne _ _ hb)) (show lnn1 qn1 = 16 from by rw [hln1]; exact va_up_self _ _ _) (F2.new hX0 hqn1 hin1 hrn1) (show ty (L ++ [qn1]) cln1 qn1 36 from ty_new hcn1) (show qn1 ∉ L from fun h => hqn1 ((hX0 qn1 h).1)) (fun hxn1 lqn1 F3 tqn1 h0qn1 => ?_)
  refine hv2 (W2.new (ln2 := lnn1) hqn1 (hg1 qn1 (List.mem_append_right _ List.mem_cons_self)) hcn1 hxn1 hin1 hrn1 (fun _ => ⟨(show (-2147483648 : Int) ≤ 0 by decide), (show (0 : Int) ≤ 2147483647 by decide)⟩) (Or.inr (fun _ => rfl)) (fun _ => by show 16 ≤ lnn1 qn1 ∧ lnn1 qn1 ≤ 12006; omega) rfl rfl) (XT.new hqn1 hcn1 hxn1) (fun W3 xl1 => ?_)
  refine hv3 (hX0.trans xl1) (nw0.new xl1 hcn1) (xl1.ty t_a0) (fun X1 nw1 ty1 => ?_)
  refine c_putr (x := (some qn1)) (k := 1) C ck_2 dX1_init_19 w1_39 (by decide) rfl ty1 rfl rfl (by decide) rfl (by rfl) (by rfl) (fun rv1 pq3 => ⟨32, (zp2 (Nat.le_refl _)), ?_⟩)
  refine hv9 (W3.putr pq3 ty1 (fun qr => by rw [ty1.2] at qr; cases qr) rfl (by decide)) (F3.putr X1 pq3 ty1 rfl) (show rv1 a0 1 = (some qn1) from by rw [pq3]; exact upr_s) (show ∀ k, ([1] : List Nat).contains k = false → rv1 a0 k = rv a0 k from fun k hk => (Eq.trans (show rv1 a0 k = rvn1 a0 k from (by rw [pq3]; exact upr_j (fun e => by subst e; exact absurd hk (by decide)))) (show rvn1 a0 k = rv a0 k from (by rw [hrn1]; exact congrFun (up0_a (ne_in t_a0.1 hqn1)) _)))) (show ivn1 a0 0 = iv2 a0 0 from by rw [hin1]; exact congrFun (up0_a (ne_in t_a0.1 hqn1)) _) (show iv2 a0 0 = i from by rw [pq2]; exact up2_s) (show ivn1 a0 2 = iv2 a0 2 from by rw [hin1]; exact congrFun (up0_a (ne_in t_a0.1 hqn1)) _) (show iv2 a0 2 = iv1 a0 2 from by rw [pq2]; exact up2_j (by decide)) (show iv1 a0 2 = 0 from by rw [pq1]; exact up2_s) (fun W4 F4 rp1 rn1 ie1 ie2 ie3 ie4 ie5 => ?_)
  refine hv2 (show (-2147483648) ≤ ivn1 a0 0 ∧ ivn1 a0 0 ≤ 2147483647 from W4.int ty1 0) (show (-2147483648) ≤ ivn1 a0 2 ∧ ivn1 a0 2 ≤ 2147483647 from W4.int ty1 2) (fun ri1 ri2 => ?_)
  exact c_vret C dX1_init_22 rfl (by decide) (rom0 hph (Nat.le_refl 0) (by decide)) ⟨rfl, X1, F4, W4, ⟨qn1, rn1, rp1, tqn1, (by omega), (by omega), (by omega)⟩, nw1.sub (by decide)⟩
set_option maxHeartbeats 4000000 in
set_option maxRecDepth 100000 in
theorem Y_ints_7 {l : Launch} {G : GT} {mi : Nat} {sk : Nat → Nat} {L : List Nat} {cl ln : Nat → Nat} {iv : Nat → Nat → Int} {rv : Nat → Nat → Option Nat}  {a0 : Nat} {i : Int} (hW : WT (g0 G) sk L cl ln iv rv) (t_a0 : ty L cl a0 202) (h_i : -2147483648 ≤ i ∧ i ≤ 2147483647)  : Mc l G mi zPf 0 yX1_init cX1_init 2 none 1 [.ref a0, .int (iI i)] L cl ln iv rv 32 (fun v L2 cl2 ln2 iv2 rv2 => v = none ∧ XT L cl ln L2 cl2 ln2 ∧ fT [202] L cl iv rv iv2 rv2 ∧ WT (g0 G) sk L2 cl2 ln2 iv2 rv2 ∧ (∃ b, (∀ k, ([1] : List Nat).contains k = false → rv2 a0 k = rv a0 k) ∧ rv2 a0 1 = some b ∧ ty L2 cl2 b 37 ∧ ln2 b = 16 ∧ iv2 a0 0 = i ∧ iv2 a0 2 = 0) ∧ NW [37] L L2 cl2) := by
  refine Mc.mk (by decide) (Nat.le_of_ble_eq_true rfl) ?_
  intro p e s m args below meth c A C hM
  refine hv4 ((show zPf ln rv ≤ 0 from Nat.le_refl 0)) (show NW [] L L cl from NW.refl) (show XT L cl ln L cl ln from XT.refl) (show fT [202] L cl iv rv iv rv from fT.refl) (fun hph nw0 hX0 hF0 => ?_)
  refine c_aload_n (j := 0) (x := a0) C dX1_init_0 rfl ?_
  refine c_objInit C dX1_init_1 w1_37 w1_30 w1_31 (by decide) (Nat.le_of_ble_eq_true rfl) ?_
  refine c_aload_n (j := 0) (x := a0) C dX1_init_4 rfl ?_
  refine c_iconst C dX1_init_5 ?_
  refine c_put (z := 0) (k := 2) C ck_2 dX1_init_6 w1_43 (by decide) rfl t_a0 rfl rfl (by decide) rfl (by rfl) (by rfl) (fun iv1 pq1 => ?_)
  refine hv2 (hW.puti pq1 t_a0 ⟨by decide, by decide⟩ rfl) (hF0.puti hX0 pq1 t_a0 rfl) (fun W1 F1 => ?_)
  refine c_aload_n (j := 0) (x := a0) C dX1_init_9 rfl ?_
  refine c_iload_n (j := 1) C dX1_init_10 rfl ?_
  refine c_putF (z := i) (k := 0) C ck_2 dX1_init_11 w1_38 (by decide) rfl rfl rfl t_a0 rfl rfl (by decide) rfl (by rfl) (by rfl) (fun iv2 pq2 => ?_)
  refine hv2 (W1.puti pq2 t_a0 (show (-2147483648) ≤ i ∧ i ≤ 2147483647 by omega) rfl) (F1.puti hX0 pq2 t_a0 rfl) (fun W2 F2 => ?_)
  refine c_aload_n (j := 0) (x := a0) C dX1_init_14 rfl ?_
  refine c_bipush (z := 16) C dX1_init_15 (by decide) ?_
  refine c_newaI (z := 16) (N := 16) C 37 dX1_init_17 w1_57 rfl (by omega) (by omega) (rom2 hph hph (by decide)) (fun qn1 cln1 lnn1 ivn1 rvn1 hqn1 hcn1 hln1 hin1 hrn1 => ⟨32, (z_in (by omega)), ?_⟩)
  refine c_g0 C (fun hg1 => ?_)
  refine hv5 (show ∀ b, b ≠ qn1 → lnn1 b = ln b from (fun b hb => by rw [hln1]; exact va_up_ne _ _ hb)) (show lnn1 qn1 = 16 from by rw [hln1]; exact va_up_self _ _ _) (F2.new hX0 hqn1 hin1 hrn1) (show ty (L ++ [qn1]) cln1 qn1 37 from ty_new hcn1) (show qn1 ∉ L from fun h => hqn1 ((hX0 qn1 h).1)) (fun hxn1 lqn1 F3 tqn1 h0qn1 => ?_)
  refine hv2 (W2.new (ln2 := lnn1) hqn1 (hg1 qn1 (List.mem_append_right _ List.mem_cons_self)) hcn1 hxn1 hin1 hrn1 (fun _ => ⟨(show (-2147483648 : Int) ≤ 0 by decide), (show (0 : Int) ≤ 2147483647 by decide)⟩) (Or.inr (fun _ => rfl)) (fun _ => by show 16 ≤ lnn1 qn1 ∧ lnn1 qn1 ≤ 12006; omega) rfl rfl) (XT.new hqn1 hcn1 hxn1) (fun W3 xl1 => ?_)
  refine hv3 (hX0.trans xl1) (nw0.new xl1 hcn1) (xl1.ty t_a0) (fun X1 nw1 ty1 => ?_)
  refine c_putr (x := (some qn1)) (k := 1) C ck_2 dX1_init_19 w1_39 (by decide) rfl ty1 rfl rfl (by decide) rfl (by rfl) (by rfl) (fun rv1 pq3 => ⟨32, (zp2 (Nat.le_refl _)), ?_⟩)
  refine hv9 (W3.putr pq3 ty1 (fun qr => by rw [ty1.2] at qr; cases qr) rfl (by decide)) (F3.putr X1 pq3 ty1 rfl) (show rv1 a0 1 = (some qn1) from by rw [pq3]; exact upr_s) (show ∀ k, ([1] : List Nat).contains k = false → rv1 a0 k = rv a0 k from fun k hk => (Eq.trans (show rv1 a0 k = rvn1 a0 k from (by rw [pq3]; exact upr_j (fun e => by subst e; exact absurd hk (by decide)))) (show rvn1 a0 k = rv a0 k from (by rw [hrn1]; exact congrFun (up0_a (ne_in t_a0.1 hqn1)) _)))) (show ivn1 a0 0 = iv2 a0 0 from by rw [hin1]; exact congrFun (up0_a (ne_in t_a0.1 hqn1)) _) (show iv2 a0 0 = i from by rw [pq2]; exact up2_s) (show ivn1 a0 2 = iv2 a0 2 from by rw [hin1]; exact congrFun (up0_a (ne_in t_a0.1 hqn1)) _) (show iv2 a0 2 = iv1 a0 2 from by rw [pq2]; exact up2_j (by decide)) (show iv1 a0 2 = 0 from by rw [pq1]; exact up2_s) (fun W4 F4 rp1 rn1 ie1 ie2 ie3 ie4 ie5 => ?_)
  refine hv2 (show (-2147483648) ≤ ivn1 a0 0 ∧ ivn1 a0 0 ≤ 2147483647 from W4.int ty1 0) (show (-2147483648) ≤ ivn1 a0 2 ∧ ivn1 a0 2 ≤ 2147483647 from W4.int ty1 2) (fun ri1 ri2 => ?_)
  exact c_vret C dX1_init_22 rfl (by decide) (rom0 hph (Nat.le_refl 0) (by decide)) ⟨rfl, X1, F4, W4, ⟨qn1, rn1, rp1, tqn1, (by omega), (by omega), (by omega)⟩, nw1.sub (by decide)⟩
set_option maxHeartbeats 4000000 in
set_option maxRecDepth 100000 in
theorem Y_ints_8 {l : Launch} {G : GT} {mi : Nat} {sk : Nat → Nat} {L : List Nat} {cl ln : Nat → Nat} {iv : Nat → Nat → Int} {rv : Nat → Nat → Option Nat}  {a0 : Nat} {i : Int} (hW : WT (g0 G) sk L cl ln iv rv) (t_a0 : ty L cl a0 202) (h_i : -2147483648 ≤ i ∧ i ≤ 2147483647)  : Mc l G mi zPf 0 yX1_init cX1_init 2 none 1 [.ref a0, .int (iI i)] L cl ln iv rv 32 (fun v L2 cl2 ln2 iv2 rv2 => v = none ∧ XT L cl ln L2 cl2 ln2 ∧ fT [202] L cl iv rv iv2 rv2 ∧ WT (g0 G) sk L2 cl2 ln2 iv2 rv2 ∧ (∃ b, (∀ k, ([1] : List Nat).contains k = false → rv2 a0 k = rv a0 k) ∧ rv2 a0 1 = some b ∧ ty L2 cl2 b 38 ∧ ln2 b = 16 ∧ iv2 a0 0 = i ∧ iv2 a0 2 = 0) ∧ NW [38] L L2 cl2) := by
  refine Mc.mk (by decide) (Nat.le_of_ble_eq_true rfl) ?_
  intro p e s m args below meth c A C hM
  refine hv4 ((show zPf ln rv ≤ 0 from Nat.le_refl 0)) (show NW [] L L cl from NW.refl) (show XT L cl ln L cl ln from XT.refl) (show fT [202] L cl iv rv iv rv from fT.refl) (fun hph nw0 hX0 hF0 => ?_)
  refine c_aload_n (j := 0) (x := a0) C dX1_init_0 rfl ?_
  refine c_objInit C dX1_init_1 w1_37 w1_30 w1_31 (by decide) (Nat.le_of_ble_eq_true rfl) ?_
  refine c_aload_n (j := 0) (x := a0) C dX1_init_4 rfl ?_
  refine c_iconst C dX1_init_5 ?_
  refine c_put (z := 0) (k := 2) C ck_2 dX1_init_6 w1_43 (by decide) rfl t_a0 rfl rfl (by decide) rfl (by rfl) (by rfl) (fun iv1 pq1 => ?_)
  refine hv2 (hW.puti pq1 t_a0 ⟨by decide, by decide⟩ rfl) (hF0.puti hX0 pq1 t_a0 rfl) (fun W1 F1 => ?_)
  refine c_aload_n (j := 0) (x := a0) C dX1_init_9 rfl ?_
  refine c_iload_n (j := 1) C dX1_init_10 rfl ?_
  refine c_putF (z := i) (k := 0) C ck_2 dX1_init_11 w1_38 (by decide) rfl rfl rfl t_a0 rfl rfl (by decide) rfl (by rfl) (by rfl) (fun iv2 pq2 => ?_)
  refine hv2 (W1.puti pq2 t_a0 (show (-2147483648) ≤ i ∧ i ≤ 2147483647 by omega) rfl) (F1.puti hX0 pq2 t_a0 rfl) (fun W2 F2 => ?_)
  refine c_aload_n (j := 0) (x := a0) C dX1_init_14 rfl ?_
  refine c_bipush (z := 16) C dX1_init_15 (by decide) ?_
  refine c_newaI (z := 16) (N := 16) C 38 dX1_init_17 w1_57 rfl (by omega) (by omega) (rom2 hph hph (by decide)) (fun qn1 cln1 lnn1 ivn1 rvn1 hqn1 hcn1 hln1 hin1 hrn1 => ⟨32, (z_in (by omega)), ?_⟩)
  refine c_g0 C (fun hg1 => ?_)
  refine hv5 (show ∀ b, b ≠ qn1 → lnn1 b = ln b from (fun b hb => by rw [hln1]; exact va_up_ne _ _ hb)) (show lnn1 qn1 = 16 from by rw [hln1]; exact va_up_self _ _ _) (F2.new hX0 hqn1 hin1 hrn1) (show ty (L ++ [qn1]) cln1 qn1 38 from ty_new hcn1) (show qn1 ∉ L from fun h => hqn1 ((hX0 qn1 h).1)) (fun hxn1 lqn1 F3 tqn1 h0qn1 => ?_)
  refine hv2 (W2.new (ln2 := lnn1) hqn1 (hg1 qn1 (List.mem_append_right _ List.mem_cons_self)) hcn1 hxn1 hin1 hrn1 (fun _ => ⟨(show (-2147483648 : Int) ≤ 0 by decide), (show (0 : Int) ≤ 2147483647 by decide)⟩) (Or.inr (fun _ => rfl)) (fun _ => by show 16 ≤ lnn1 qn1 ∧ lnn1 qn1 ≤ 80400; omega) rfl rfl) (XT.new hqn1 hcn1 hxn1) (fun W3 xl1 => ?_)
  refine hv3 (hX0.trans xl1) (nw0.new xl1 hcn1) (xl1.ty t_a0) (fun X1 nw1 ty1 => ?_)
  refine c_putr (x := (some qn1)) (k := 1) C ck_2 dX1_init_19 w1_39 (by decide) rfl ty1 rfl rfl (by decide) rfl (by rfl) (by rfl) (fun rv1 pq3 => ⟨32, (zp2 (Nat.le_refl _)), ?_⟩)
  refine hv9 (W3.putr pq3 ty1 (fun qr => by rw [ty1.2] at qr; cases qr) rfl (by decide)) (F3.putr X1 pq3 ty1 rfl) (show rv1 a0 1 = (some qn1) from by rw [pq3]; exact upr_s) (show ∀ k, ([1] : List Nat).contains k = false → rv1 a0 k = rv a0 k from fun k hk => (Eq.trans (show rv1 a0 k = rvn1 a0 k from (by rw [pq3]; exact upr_j (fun e => by subst e; exact absurd hk (by decide)))) (show rvn1 a0 k = rv a0 k from (by rw [hrn1]; exact congrFun (up0_a (ne_in t_a0.1 hqn1)) _)))) (show ivn1 a0 0 = iv2 a0 0 from by rw [hin1]; exact congrFun (up0_a (ne_in t_a0.1 hqn1)) _) (show iv2 a0 0 = i from by rw [pq2]; exact up2_s) (show ivn1 a0 2 = iv2 a0 2 from by rw [hin1]; exact congrFun (up0_a (ne_in t_a0.1 hqn1)) _) (show iv2 a0 2 = iv1 a0 2 from by rw [pq2]; exact up2_j (by decide)) (show iv1 a0 2 = 0 from by rw [pq1]; exact up2_s) (fun W4 F4 rp1 rn1 ie1 ie2 ie3 ie4 ie5 => ?_)
  refine hv2 (show (-2147483648) ≤ ivn1 a0 0 ∧ ivn1 a0 0 ≤ 2147483647 from W4.int ty1 0) (show (-2147483648) ≤ ivn1 a0 2 ∧ ivn1 a0 2 ≤ 2147483647 from W4.int ty1 2) (fun ri1 ri2 => ?_)
  exact c_vret C dX1_init_22 rfl (by decide) (rom0 hph (Nat.le_refl 0) (by decide)) ⟨rfl, X1, F4, W4, ⟨qn1, rn1, rp1, tqn1, (by omega), (by omega), (by omega)⟩, nw1.sub (by decide)⟩
set_option maxHeartbeats 4000000 in
set_option maxRecDepth 100000 in
theorem Y_ints_9 {l : Launch} {G : GT} {mi : Nat} {sk : Nat → Nat} {L : List Nat} {cl ln : Nat → Nat} {iv : Nat → Nat → Int} {rv : Nat → Nat → Option Nat}  {a0 : Nat} {i : Int} (hW : WT (g0 G) sk L cl ln iv rv) (t_a0 : ty L cl a0 202) (h_i : -2147483648 ≤ i ∧ i ≤ 2147483647)  : Mc l G mi zPf 0 yX1_init cX1_init 2 none 1 [.ref a0, .int (iI i)] L cl ln iv rv 32 (fun v L2 cl2 ln2 iv2 rv2 => v = none ∧ XT L cl ln L2 cl2 ln2 ∧ fT [202] L cl iv rv iv2 rv2 ∧ WT (g0 G) sk L2 cl2 ln2 iv2 rv2 ∧ (∃ b, (∀ k, ([1] : List Nat).contains k = false → rv2 a0 k = rv a0 k) ∧ rv2 a0 1 = some b ∧ ty L2 cl2 b 39 ∧ ln2 b = 16 ∧ iv2 a0 0 = i ∧ iv2 a0 2 = 0) ∧ NW [39] L L2 cl2) := by
  refine Mc.mk (by decide) (Nat.le_of_ble_eq_true rfl) ?_
  intro p e s m args below meth c A C hM
  refine hv4 ((show zPf ln rv ≤ 0 from Nat.le_refl 0)) (show NW [] L L cl from NW.refl) (show XT L cl ln L cl ln from XT.refl) (show fT [202] L cl iv rv iv rv from fT.refl) (fun hph nw0 hX0 hF0 => ?_)
  refine c_aload_n (j := 0) (x := a0) C dX1_init_0 rfl ?_
  refine c_objInit C dX1_init_1 w1_37 w1_30 w1_31 (by decide) (Nat.le_of_ble_eq_true rfl) ?_
  refine c_aload_n (j := 0) (x := a0) C dX1_init_4 rfl ?_
  refine c_iconst C dX1_init_5 ?_
  refine c_put (z := 0) (k := 2) C ck_2 dX1_init_6 w1_43 (by decide) rfl t_a0 rfl rfl (by decide) rfl (by rfl) (by rfl) (fun iv1 pq1 => ?_)
  refine hv2 (hW.puti pq1 t_a0 ⟨by decide, by decide⟩ rfl) (hF0.puti hX0 pq1 t_a0 rfl) (fun W1 F1 => ?_)
  refine c_aload_n (j := 0) (x := a0) C dX1_init_9 rfl ?_
  refine c_iload_n (j := 1) C dX1_init_10 rfl ?_
  refine c_putF (z := i) (k := 0) C ck_2 dX1_init_11 w1_38 (by decide) rfl rfl rfl t_a0 rfl rfl (by decide) rfl (by rfl) (by rfl) (fun iv2 pq2 => ?_)
  refine hv2 (W1.puti pq2 t_a0 (show (-2147483648) ≤ i ∧ i ≤ 2147483647 by omega) rfl) (F1.puti hX0 pq2 t_a0 rfl) (fun W2 F2 => ?_)
  refine c_aload_n (j := 0) (x := a0) C dX1_init_14 rfl ?_
  refine c_bipush (z := 16) C dX1_init_15 (by decide) ?_
  refine c_newaI (z := 16) (N := 16) C 39 dX1_init_17 w1_57 rfl (by omega) (by omega) (rom2 hph hph (by decide)) (fun qn1 cln1 lnn1 ivn1 rvn1 hqn1 hcn1 hln1 hin1 hrn1 => ⟨32, (z_in (by omega)), ?_⟩)
  refine c_g0 C (fun hg1 => ?_)
  refine hv5 (show ∀ b, b ≠ qn1 → lnn1 b = ln b from (fun b hb => by rw [hln1]; exact va_up_ne _ _ hb)) (show lnn1 qn1 = 16 from by rw [hln1]; exact va_up_self _ _ _) (F2.new hX0 hqn1 hin1 hrn1) (show ty (L ++ [qn1]) cln1 qn1 39 from ty_new hcn1) (show qn1 ∉ L from fun h => hqn1 ((hX0 qn1 h).1)) (fun hxn1 lqn1 F3 tqn1 h0qn1 => ?_)
  refine hv2 (W2.new (ln2 := lnn1) hqn1 (hg1 qn1 (List.mem_append_right _ List.mem_cons_self)) hcn1 hxn1 hin1 hrn1 (fun _ => ⟨(show (-2147483648 : Int) ≤ 0 by decide), (show (0 : Int) ≤ 2147483647 by decide)⟩) (Or.inr (fun _ => rfl)) (fun _ => by show 16 ≤ lnn1 qn1 ∧ lnn1 qn1 ≤ 80400; omega) rfl rfl) (XT.new hqn1 hcn1 hxn1) (fun W3 xl1 => ?_)
  refine hv3 (hX0.trans xl1) (nw0.new xl1 hcn1) (xl1.ty t_a0) (fun X1 nw1 ty1 => ?_)
  refine c_putr (x := (some qn1)) (k := 1) C ck_2 dX1_init_19 w1_39 (by decide) rfl ty1 rfl rfl (by decide) rfl (by rfl) (by rfl) (fun rv1 pq3 => ⟨32, (zp2 (Nat.le_refl _)), ?_⟩)
  refine hv9 (W3.putr pq3 ty1 (fun qr => by rw [ty1.2] at qr; cases qr) rfl (by decide)) (F3.putr X1 pq3 ty1 rfl) (show rv1 a0 1 = (some qn1) from by rw [pq3]; exact upr_s) (show ∀ k, ([1] : List Nat).contains k = false → rv1 a0 k = rv a0 k from fun k hk => (Eq.trans (show rv1 a0 k = rvn1 a0 k from (by rw [pq3]; exact upr_j (fun e => by subst e; exact absurd hk (by decide)))) (show rvn1 a0 k = rv a0 k from (by rw [hrn1]; exact congrFun (up0_a (ne_in t_a0.1 hqn1)) _)))) (show ivn1 a0 0 = iv2 a0 0 from by rw [hin1]; exact congrFun (up0_a (ne_in t_a0.1 hqn1)) _) (show iv2 a0 0 = i from by rw [pq2]; exact up2_s) (show ivn1 a0 2 = iv2 a0 2 from by rw [hin1]; exact congrFun (up0_a (ne_in t_a0.1 hqn1)) _) (show iv2 a0 2 = iv1 a0 2 from by rw [pq2]; exact up2_j (by decide)) (show iv1 a0 2 = 0 from by rw [pq1]; exact up2_s) (fun W4 F4 rp1 rn1 ie1 ie2 ie3 ie4 ie5 => ?_)
  refine hv2 (show (-2147483648) ≤ ivn1 a0 0 ∧ ivn1 a0 0 ≤ 2147483647 from W4.int ty1 0) (show (-2147483648) ≤ ivn1 a0 2 ∧ ivn1 a0 2 ≤ 2147483647 from W4.int ty1 2) (fun ri1 ri2 => ?_)
  exact c_vret C dX1_init_22 rfl (by decide) (rom0 hph (Nat.le_refl 0) (by decide)) ⟨rfl, X1, F4, W4, ⟨qn1, rn1, rp1, tqn1, (by omega), (by omega), (by omega)⟩, nw1.sub (by decide)⟩
set_option maxHeartbeats 4000000 in
set_option maxRecDepth 100000 in
theorem Y_ints_10 {l : Launch} {G : GT} {mi : Nat} {sk : Nat → Nat} {L : List Nat} {cl ln : Nat → Nat} {iv : Nat → Nat → Int} {rv : Nat → Nat → Option Nat}  {a0 : Nat} {i : Int} (hW : WT (g0 G) sk L cl ln iv rv) (t_a0 : ty L cl a0 202) (h_i : -2147483648 ≤ i ∧ i ≤ 2147483647)  : Mc l G mi zPf 0 yX1_init cX1_init 2 none 1 [.ref a0, .int (iI i)] L cl ln iv rv 32 (fun v L2 cl2 ln2 iv2 rv2 => v = none ∧ XT L cl ln L2 cl2 ln2 ∧ fT [202] L cl iv rv iv2 rv2 ∧ WT (g0 G) sk L2 cl2 ln2 iv2 rv2 ∧ (∃ b, (∀ k, ([1] : List Nat).contains k = false → rv2 a0 k = rv a0 k) ∧ rv2 a0 1 = some b ∧ ty L2 cl2 b 40 ∧ ln2 b = 16 ∧ iv2 a0 0 = i ∧ iv2 a0 2 = 0) ∧ NW [40] L L2 cl2) := by
  refine Mc.mk (by decide) (Nat.le_of_ble_eq_true rfl) ?_
  intro p e s m args below meth c A C hM
  refine hv4 ((show zPf ln rv ≤ 0 from Nat.le_refl 0)) (show NW [] L L cl from NW.refl) (show XT L cl ln L cl ln from XT.refl) (show fT [202] L cl iv rv iv rv from fT.refl) (fun hph nw0 hX0 hF0 => ?_)
  refine c_aload_n (j := 0) (x := a0) C dX1_init_0 rfl ?_
  refine c_objInit C dX1_init_1 w1_37 w1_30 w1_31 (by decide) (Nat.le_of_ble_eq_true rfl) ?_
  refine c_aload_n (j := 0) (x := a0) C dX1_init_4 rfl ?_
  refine c_iconst C dX1_init_5 ?_
  refine c_put (z := 0) (k := 2) C ck_2 dX1_init_6 w1_43 (by decide) rfl t_a0 rfl rfl (by decide) rfl (by rfl) (by rfl) (fun iv1 pq1 => ?_)
  refine hv2 (hW.puti pq1 t_a0 ⟨by decide, by decide⟩ rfl) (hF0.puti hX0 pq1 t_a0 rfl) (fun W1 F1 => ?_)
  refine c_aload_n (j := 0) (x := a0) C dX1_init_9 rfl ?_
  refine c_iload_n (j := 1) C dX1_init_10 rfl ?_
  refine c_putF (z := i) (k := 0) C ck_2 dX1_init_11 w1_38 (by decide) rfl rfl rfl t_a0 rfl rfl (by decide) rfl (by rfl) (by rfl) (fun iv2 pq2 => ?_)
  refine hv2 (W1.puti pq2 t_a0 (show (-2147483648) ≤ i ∧ i ≤ 2147483647 by omega) rfl) (F1.puti hX0 pq2 t_a0 rfl) (fun W2 F2 => ?_)
  refine c_aload_n (j := 0) (x := a0) C dX1_init_14 rfl ?_
  refine c_bipush (z := 16) C dX1_init_15 (by decide) ?_
  refine c_newaI (z := 16) (N := 16) C 40 dX1_init_17 w1_57 rfl (by omega) (by omega) (rom2 hph hph (by decide)) (fun qn1 cln1 lnn1 ivn1 rvn1 hqn1 hcn1 hln1 hin1 hrn1 => ⟨32, (z_in (by omega)), ?_⟩)
  refine c_g0 C (fun hg1 => ?_)
  refine hv5 (show ∀ b, b ≠ qn1 → lnn1 b = ln b from (fun b hb => by rw [hln1]; exact va_up_ne _ _ hb)) (show lnn1 qn1 = 16 from by rw [hln1]; exact va_up_self _ _ _) (F2.new hX0 hqn1 hin1 hrn1) (show ty (L ++ [qn1]) cln1 qn1 40 from ty_new hcn1) (show qn1 ∉ L from fun h => hqn1 ((hX0 qn1 h).1)) (fun hxn1 lqn1 F3 tqn1 h0qn1 => ?_)
  refine hv2 (W2.new (ln2 := lnn1) hqn1 (hg1 qn1 (List.mem_append_right _ List.mem_cons_self)) hcn1 hxn1 hin1 hrn1 (fun _ => ⟨(show (-2147483648 : Int) ≤ 0 by decide), (show (0 : Int) ≤ 2147483647 by decide)⟩) (Or.inr (fun _ => rfl)) (fun _ => by show 16 ≤ lnn1 qn1 ∧ lnn1 qn1 ≤ 8002; omega) rfl rfl) (XT.new hqn1 hcn1 hxn1) (fun W3 xl1 => ?_)
  refine hv3 (hX0.trans xl1) (nw0.new xl1 hcn1) (xl1.ty t_a0) (fun X1 nw1 ty1 => ?_)
  refine c_putr (x := (some qn1)) (k := 1) C ck_2 dX1_init_19 w1_39 (by decide) rfl ty1 rfl rfl (by decide) rfl (by rfl) (by rfl) (fun rv1 pq3 => ⟨32, (zp2 (Nat.le_refl _)), ?_⟩)
  refine hv9 (W3.putr pq3 ty1 (fun qr => by rw [ty1.2] at qr; cases qr) rfl (by decide)) (F3.putr X1 pq3 ty1 rfl) (show rv1 a0 1 = (some qn1) from by rw [pq3]; exact upr_s) (show ∀ k, ([1] : List Nat).contains k = false → rv1 a0 k = rv a0 k from fun k hk => (Eq.trans (show rv1 a0 k = rvn1 a0 k from (by rw [pq3]; exact upr_j (fun e => by subst e; exact absurd hk (by decide)))) (show rvn1 a0 k = rv a0 k from (by rw [hrn1]; exact congrFun (up0_a (ne_in t_a0.1 hqn1)) _)))) (show ivn1 a0 0 = iv2 a0 0 from by rw [hin1]; exact congrFun (up0_a (ne_in t_a0.1 hqn1)) _) (show iv2 a0 0 = i from by rw [pq2]; exact up2_s) (show ivn1 a0 2 = iv2 a0 2 from by rw [hin1]; exact congrFun (up0_a (ne_in t_a0.1 hqn1)) _) (show iv2 a0 2 = iv1 a0 2 from by rw [pq2]; exact up2_j (by decide)) (show iv1 a0 2 = 0 from by rw [pq1]; exact up2_s) (fun W4 F4 rp1 rn1 ie1 ie2 ie3 ie4 ie5 => ?_)
  refine hv2 (show (-2147483648) ≤ ivn1 a0 0 ∧ ivn1 a0 0 ≤ 2147483647 from W4.int ty1 0) (show (-2147483648) ≤ ivn1 a0 2 ∧ ivn1 a0 2 ≤ 2147483647 from W4.int ty1 2) (fun ri1 ri2 => ?_)
  exact c_vret C dX1_init_22 rfl (by decide) (rom0 hph (Nat.le_refl 0) (by decide)) ⟨rfl, X1, F4, W4, ⟨qn1, rn1, rp1, tqn1, (by omega), (by omega), (by omega)⟩, nw1.sub (by decide)⟩
set_option maxHeartbeats 4000000 in
set_option maxRecDepth 100000 in
theorem Y_ints_11 {l : Launch} {G : GT} {mi : Nat} {sk : Nat → Nat} {L : List Nat} {cl ln : Nat → Nat} {iv : Nat → Nat → Int} {rv : Nat → Nat → Option Nat}  {a0 : Nat} {i : Int} (hW : WT (g0 G) sk L cl ln iv rv) (t_a0 : ty L cl a0 202) (h_i : -2147483648 ≤ i ∧ i ≤ 2147483647)  : Mc l G mi zPf 0 yX1_init cX1_init 2 none 1 [.ref a0, .int (iI i)] L cl ln iv rv 32 (fun v L2 cl2 ln2 iv2 rv2 => v = none ∧ XT L cl ln L2 cl2 ln2 ∧ fT [202] L cl iv rv iv2 rv2 ∧ WT (g0 G) sk L2 cl2 ln2 iv2 rv2 ∧ (∃ b, (∀ k, ([1] : List Nat).contains k = false → rv2 a0 k = rv a0 k) ∧ rv2 a0 1 = some b ∧ ty L2 cl2 b 41 ∧ ln2 b = 16 ∧ iv2 a0 0 = i ∧ iv2 a0 2 = 0) ∧ NW [41] L L2 cl2) := by
  refine Mc.mk (by decide) (Nat.le_of_ble_eq_true rfl) ?_
  intro p e s m args below meth c A C hM
  refine hv4 ((show zPf ln rv ≤ 0 from Nat.le_refl 0)) (show NW [] L L cl from NW.refl) (show XT L cl ln L cl ln from XT.refl) (show fT [202] L cl iv rv iv rv from fT.refl) (fun hph nw0 hX0 hF0 => ?_)
  refine c_aload_n (j := 0) (x := a0) C dX1_init_0 rfl ?_
  refine c_objInit C dX1_init_1 w1_37 w1_30 w1_31 (by decide) (Nat.le_of_ble_eq_true rfl) ?_
  refine c_aload_n (j := 0) (x := a0) C dX1_init_4 rfl ?_
  refine c_iconst C dX1_init_5 ?_
  refine c_put (z := 0) (k := 2) C ck_2 dX1_init_6 w1_43 (by decide) rfl t_a0 rfl rfl (by decide) rfl (by rfl) (by rfl) (fun iv1 pq1 => ?_)
  refine hv2 (hW.puti pq1 t_a0 ⟨by decide, by decide⟩ rfl) (hF0.puti hX0 pq1 t_a0 rfl) (fun W1 F1 => ?_)
  refine c_aload_n (j := 0) (x := a0) C dX1_init_9 rfl ?_
  refine c_iload_n (j := 1) C dX1_init_10 rfl ?_
  refine c_putF (z := i) (k := 0) C ck_2 dX1_init_11 w1_38 (by decide) rfl rfl rfl t_a0 rfl rfl (by decide) rfl (by rfl) (by rfl) (fun iv2 pq2 => ?_)
  refine hv2 (W1.puti pq2 t_a0 (show (-2147483648) ≤ i ∧ i ≤ 2147483647 by omega) rfl) (F1.puti hX0 pq2 t_a0 rfl) (fun W2 F2 => ?_)
  refine c_aload_n (j := 0) (x := a0) C dX1_init_14 rfl ?_
  refine c_bipush (z := 16) C dX1_init_15 (by decide) ?_
  refine c_newaI (z := 16) (N := 16) C 41 dX1_init_17 w1_57 rfl (by omega) (by omega) (rom2 hph hph (by decide)) (fun qn1 cln1 lnn1 ivn1 rvn1 hqn1 hcn1 hln1 hin1 hrn1 => ⟨32, (z_in (by omega)), ?_⟩)
  refine c_g0 C (fun hg1 => ?_)
  refine hv5 (show ∀ b, b ≠ qn1 → lnn1 b = ln b from (fun b hb => by rw [hln1]; exact va_up_ne _ _ hb)) (show lnn1 qn1 = 16 from by rw [hln1]; exact va_up_self _ _ _) (F2.new hX0 hqn1 hin1 hrn1) (show ty (L ++ [qn1]) cln1 qn1 41 from ty_new hcn1) (show qn1 ∉ L from fun h => hqn1 ((hX0 qn1 h).1)) (fun hxn1 lqn1 F3 tqn1 h0qn1 => ?_)
  refine hv2 (W2.new (ln2 := lnn1) hqn1 (hg1 qn1 (List.mem_append_right _ List.mem_cons_self)) hcn1 hxn1 hin1 hrn1 (fun _ => ⟨(show (-2147483648 : Int) ≤ 0 by decide), (show (0 : Int) ≤ 2147483647 by decide)⟩) (Or.inr (fun _ => rfl)) (fun _ => by show 16 ≤ lnn1 qn1 ∧ lnn1 qn1 ≤ 80000; omega) rfl rfl) (XT.new hqn1 hcn1 hxn1) (fun W3 xl1 => ?_)
  refine hv3 (hX0.trans xl1) (nw0.new xl1 hcn1) (xl1.ty t_a0) (fun X1 nw1 ty1 => ?_)
  refine c_putr (x := (some qn1)) (k := 1) C ck_2 dX1_init_19 w1_39 (by decide) rfl ty1 rfl rfl (by decide) rfl (by rfl) (by rfl) (fun rv1 pq3 => ⟨32, (zp2 (Nat.le_refl _)), ?_⟩)
  refine hv9 (W3.putr pq3 ty1 (fun qr => by rw [ty1.2] at qr; cases qr) rfl (by decide)) (F3.putr X1 pq3 ty1 rfl) (show rv1 a0 1 = (some qn1) from by rw [pq3]; exact upr_s) (show ∀ k, ([1] : List Nat).contains k = false → rv1 a0 k = rv a0 k from fun k hk => (Eq.trans (show rv1 a0 k = rvn1 a0 k from (by rw [pq3]; exact upr_j (fun e => by subst e; exact absurd hk (by decide)))) (show rvn1 a0 k = rv a0 k from (by rw [hrn1]; exact congrFun (up0_a (ne_in t_a0.1 hqn1)) _)))) (show ivn1 a0 0 = iv2 a0 0 from by rw [hin1]; exact congrFun (up0_a (ne_in t_a0.1 hqn1)) _) (show iv2 a0 0 = i from by rw [pq2]; exact up2_s) (show ivn1 a0 2 = iv2 a0 2 from by rw [hin1]; exact congrFun (up0_a (ne_in t_a0.1 hqn1)) _) (show iv2 a0 2 = iv1 a0 2 from by rw [pq2]; exact up2_j (by decide)) (show iv1 a0 2 = 0 from by rw [pq1]; exact up2_s) (fun W4 F4 rp1 rn1 ie1 ie2 ie3 ie4 ie5 => ?_)
  refine hv2 (show (-2147483648) ≤ ivn1 a0 0 ∧ ivn1 a0 0 ≤ 2147483647 from W4.int ty1 0) (show (-2147483648) ≤ ivn1 a0 2 ∧ ivn1 a0 2 ≤ 2147483647 from W4.int ty1 2) (fun ri1 ri2 => ?_)
  exact c_vret C dX1_init_22 rfl (by decide) (rom0 hph (Nat.le_refl 0) (by decide)) ⟨rfl, X1, F4, W4, ⟨qn1, rn1, rp1, tqn1, (by omega), (by omega), (by omega)⟩, nw1.sub (by decide)⟩
set_option maxHeartbeats 4000000 in
set_option maxRecDepth 100000 in
theorem Y_source {l : Launch} {G : GT} {mi : Nat} {sk : Nat → Nat} {L : List Nat} {cl ln : Nat → Nat} {iv : Nat → Nat → Int} {rv : Nat → Nat → Option Nat}  {a0 : Nat} (hW : WT (g0 G) sk L cl ln iv rv) (t_a0 : ty L cl a0 209)  : Mc l G mi zPf 0 yX8_init cX8_init 1 none 1 [.ref a0] L cl ln iv rv 306 (fun v L2 cl2 ln2 iv2 rv2 => v = none ∧ XT L cl ln L2 cl2 ln2 ∧ fT [209] L cl iv rv iv2 rv2 ∧ WT (g0 G) sk L2 cl2 ln2 iv2 rv2 ∧ (∃ b3 b4 b6, (∀ k, ([3, 4, 6] : List Nat).contains k = false → rv2 a0 k = rv a0 k) ∧ rv2 a0 3 = some b3 ∧ ty L2 cl2 b3 56 ∧ rv2 a0 4 = some b4 ∧ ty L2 cl2 b4 57 ∧ rv2 a0 6 = some b6 ∧ ty L2 cl2 b6 58 ∧ iv2 a0 0 = 0 ∧ iv2 a0 1 = 0 ∧ iv2 a0 2 = 0 ∧ iv2 a0 5 = 0 ∧ iv2 a0 7 = 0) ∧ NW [56, 57, 58] L L2 cl2) := by
  refine Mc.mk (by decide) (Nat.le_of_ble_eq_true rfl) ?_
  intro p e s m args below meth c A C hM
  refine hv4 ((show zPf ln rv ≤ 0 from Nat.le_refl 0)) (show NW [] L L cl from NW.refl) (show XT L cl ln L cl ln from XT.refl) (show fT [209] L cl iv rv iv rv from fT.refl) (fun hph nw0 hX0 hF0 => ?_)
  refine c_aload_n (j := 0) (x := a0) C dX8_init_0 rfl ?_
  refine c_objInit C dX8_init_1 w1_102 w1_30 w1_31 (by decide) (Nat.le_of_ble_eq_true rfl) ?_
  refine c_aload_n (j := 0) (x := a0) C dX8_init_4 rfl ?_
  refine c_iconst C dX8_init_5 ?_
  refine c_put (z := 0) (k := 0) C ck_9 dX8_init_6 w1_103 (by decide) rfl t_a0 rfl rfl (by decide) rfl (by rfl) (by rfl) (fun iv1 pq1 => ?_)
  refine hv2 (hW.puti pq1 t_a0 ⟨by decide, by decide⟩ rfl) (hF0.puti hX0 pq1 t_a0 rfl) (fun W1 F1 => ?_)
  refine c_aload_n (j := 0) (x := a0) C dX8_init_9 rfl ?_
  refine c_iconst C dX8_init_10 ?_
  refine c_put (z := 0) (k := 1) C ck_9 dX8_init_11 w1_104 (by decide) rfl t_a0 rfl rfl (by decide) rfl (by decide) (by decide) (fun iv2 pq2 => ?_)
  refine hv2 (W1.puti pq2 t_a0 ⟨by decide, by decide⟩ rfl) (F1.puti hX0 pq2 t_a0 rfl) (fun W2 F2 => ?_)
  refine c_aload_n (j := 0) (x := a0) C dX8_init_14 rfl ?_
  refine c_iconst C dX8_init_15 ?_
  refine c_put (z := 0) (k := 2) C ck_9 dX8_init_16 w1_105 (by decide) rfl t_a0 rfl rfl (by decide) rfl (by decide) (by decide) (fun iv3 pq3 => ?_)
  refine hv2 (W2.puti pq3 t_a0 ⟨by decide, by decide⟩ rfl) (F2.puti hX0 pq3 t_a0 rfl) (fun W3 F3 => ?_)
  refine c_aload_n (j := 0) (x := a0) C dX8_init_19 rfl ?_
  refine c_bipush (z := 126) C dX8_init_20 (by decide) ?_
  refine c_newaZ (z := 126) (N := 126) C 56 dX8_init_22 w1_129 rfl (by omega) (by omega) (rom2 hph hph (by decide)) (fun qn1 cln1 lnn1 ivn1 rvn1 hqn1 hcn1 hln1 hin1 hrn1 => ⟨142, (z_in (by omega)), ?_⟩)
  refine c_g0 C (fun hg1 => ?_)
  refine hv5 (show ∀ b, b ≠ qn1 → lnn1 b = ln b from (fun b hb => by rw [hln1]; exact va_up_ne _ _ hb)) (show lnn1 qn1 = 126 from by rw [hln1]; exact va_up_self _ _ _) (F3.new hX0 hqn1 hin1 hrn1) (show ty (L ++ [qn1]) cln1 qn1 56 from ty_new hcn1) (show qn1 ∉ L from fun h => hqn1 ((hX0 qn1 h).1)) (fun hxn1 lqn1 F4 tqn1 h0qn1 => ?_)
  refine hv2 (W3.new (ln2 := lnn1) hqn1 (hg1 qn1 (List.mem_append_right _ List.mem_cons_self)) hcn1 hxn1 hin1 hrn1 (fun _ => ⟨(show (0 : Int) ≤ 0 by decide), (show (0 : Int) ≤ 1 by decide)⟩) (Or.inr (fun _ => rfl)) (fun _ => by show 126 ≤ lnn1 qn1 ∧ lnn1 qn1 ≤ 126; omega) rfl rfl) (XT.new hqn1 hcn1 hxn1) (fun W4 xl1 => ?_)
  refine hv3 (hX0.trans xl1) (nw0.new xl1 hcn1) (xl1.ty t_a0) (fun X1 nw1 ty1 => ?_)
  refine c_putrF (x := (some qn1)) (k := 3) C ck_9 dX8_init_24 w1_107 (by decide) rfl rfl rfl ty1 rfl rfl (by decide) rfl (by rfl) (by rfl) (fun rv1 pq4 => ⟨142, (zp2 (Nat.le_refl _)), ?_⟩)
  refine hv2 (W4.putr pq4 ty1 (fun qr => by rw [ty1.2] at qr; cases qr) rfl (by decide)) (F4.putr X1 pq4 ty1 rfl) (fun W5 F5 => ?_)
  refine c_aload_n (j := 0) (x := a0) C dX8_init_27 rfl ?_
  refine c_bipush (z := 126) C dX8_init_28 (by decide) ?_
  refine c_newaI (z := 126) (N := 126) C 57 dX8_init_30 w1_57 rfl (by omega) (by omega) (rom2 hph (Nat.le_refl 0) (by decide)) (fun qn2 cln2 lnn2 ivn2 rvn2 hqn2 hcn2 hln2 hin2 hrn2 => ⟨284, (z_in (by omega)), ?_⟩)
  refine c_g0 C (fun hg2 => ?_)
  refine hv5 (show ∀ b, b ≠ qn2 → lnn2 b = lnn1 b from (fun b hb => by rw [hln2]; exact va_up_ne _ _ hb)) (show lnn2 qn2 = 126 from by rw [hln2]; exact va_up_self _ _ _) (F5.new X1 hqn2 hin2 hrn2) (show ty ((L ++ [qn1]) ++ [qn2]) cln2 qn2 57 from ty_new hcn2) (show qn2 ∉ L from fun h => hqn2 ((X1 qn2 h).1)) (fun hxn2 lqn2 F6 tqn2 h0qn2 => ?_)
  refine hv2 (W5.new (ln2 := lnn2) hqn2 (hg2 qn2 (List.mem_append_right _ List.mem_cons_self)) hcn2 hxn2 hin2 hrn2 (fun _ => ⟨(show (-2147483648 : Int) ≤ 0 by decide), (show (0 : Int) ≤ 2147483647 by decide)⟩) (Or.inr (fun _ => rfl)) (fun _ => by show 126 ≤ lnn2 qn2 ∧ lnn2 qn2 ≤ 126; omega) rfl rfl) (XT.new hqn2 hcn2 hxn2) (fun W6 xl2 => ?_)
  refine hv3 (X1.trans xl2) (nw1.new xl2 hcn2) (xl2.ty ty1) (fun X2 nw2 ty2 => ?_)
  refine c_putrF (x := (some qn2)) (k := 4) C ck_9 dX8_init_32 w1_108 (by decide) rfl rfl rfl ty2 rfl rfl (by decide) rfl (by rfl) (by rfl) (fun rv2 pq5 => ⟨284, (zp2 (Nat.le_refl _)), ?_⟩)
  refine hv2 (W6.putr pq5 ty2 (fun qr => by rw [ty2.2] at qr; cases qr) rfl (by decide)) (F6.putr X2 pq5 ty2 rfl) (fun W7 F7 => ?_)
  refine c_aload_n (j := 0) (x := a0) C dX8_init_35 rfl ?_
  refine c_iconst C dX8_init_36 ?_
  refine c_put (z := 0) (k := 5) C ck_9 dX8_init_37 w1_109 (by decide) rfl ty2 rfl rfl (by decide) rfl (by rfl) (by rfl) (fun iv4 pq6 => ?_)
  refine hv2 (W7.puti pq6 ty2 ⟨by decide, by decide⟩ rfl) (F7.puti X2 pq6 ty2 rfl) (fun W8 F8 => ?_)
  refine c_aload_n (j := 0) (x := a0) C dX8_init_40 rfl ?_
  refine c_bipush (z := 6) C dX8_init_41 (by decide) ?_
  have ty3 := xl2.ty tqn1
  refine c_newaI (z := 6) (N := 6) C 58 dX8_init_43 w1_57 rfl (by omega) (by omega) (rom2 hph (Nat.le_refl 0) (by decide)) (fun qn3 cln3 lnn3 ivn3 rvn3 hqn3 hcn3 hln3 hin3 hrn3 => ⟨306, (z_in (by omega)), ?_⟩)
  refine c_g0 C (fun hg3 => ?_)
  refine hv5 (show ∀ b, b ≠ qn3 → lnn3 b = lnn2 b from (fun b hb => by rw [hln3]; exact va_up_ne _ _ hb)) (show lnn3 qn3 = 6 from by rw [hln3]; exact va_up_self _ _ _) (F8.new X2 hqn3 hin3 hrn3) (show ty (((L ++ [qn1]) ++ [qn2]) ++ [qn3]) cln3 qn3 58 from ty_new hcn3) (show qn3 ∉ L from fun h => hqn3 ((X2 qn3 h).1)) (fun hxn3 lqn3 F9 tqn3 h0qn3 => ?_)
  refine hv2 (W8.new (ln2 := lnn3) hqn3 (hg3 qn3 (List.mem_append_right _ List.mem_cons_self)) hcn3 hxn3 hin3 hrn3 (fun _ => ⟨(show (0 : Int) ≤ 0 by decide), (show (0 : Int) ≤ 125 by decide)⟩) (Or.inr (fun _ => rfl)) (fun _ => by show 6 ≤ lnn3 qn3 ∧ lnn3 qn3 ≤ 6; omega) rfl rfl) (XT.new hqn3 hcn3 hxn3) (fun W9 xl3 => ?_)
  refine hv3 (X2.trans xl3) (nw2.new xl3 hcn3) (xl3.ty ty2) (fun X3 nw3 ty4 => ?_)
  refine c_putrF (x := (some qn3)) (k := 6) C ck_9 dX8_init_45 w1_110 (by decide) rfl rfl rfl ty4 rfl rfl (by decide) rfl (by rfl) (by rfl) (fun rv3 pq7 => ⟨306, (zp2 (Nat.le_refl _)), ?_⟩)
  refine hv2 (W9.putr pq7 ty4 (fun qr => by rw [ty4.2] at qr; cases qr) rfl (by decide)) (F9.putr X3 pq7 ty4 rfl) (fun W10 F10 => ?_)
  refine c_aload_n (j := 0) (x := a0) C dX8_init_48 rfl ?_
  refine c_iconst C dX8_init_49 ?_
  refine c_put (z := 0) (k := 7) C ck_9 dX8_init_50 w1_111 (by decide) rfl ty4 rfl rfl (by decide) rfl (by rfl) (by rfl) (fun iv5 pq8 => ?_)
  refine hv4 (W10.puti pq8 ty4 ⟨by decide, by decide⟩ rfl) (F10.puti X3 pq8 ty4 rfl) (show rv1 a0 3 = (some qn1) from by rw [pq4]; exact upr_s) (show rvn2 a0 3 = rv1 a0 3 from (by rw [hrn2]; exact congrFun (up0_a (ne_in ty1.1 hqn2)) _)) (fun W11 F11 rp1 re1 => ?_)
  rw [rp1] at re1
  have re2 : rv2 a0 3 = rvn2 a0 3 := (by rw [pq5]; exact upr_j (by decide))
  rw [re1] at re2
  have re3 : rvn3 a0 3 = rv2 a0 3 := (by rw [hrn3]; exact congrFun (up0_a (ne_in ty2.1 hqn3)) _)
  rw [re2] at re3
  have re4 : rv3 a0 3 = rvn3 a0 3 := (by rw [pq7]; exact upr_j (by decide))
  rw [re3] at re4
  refine hv2 (show rv2 a0 4 = (some qn2) from by rw [pq5]; exact upr_s) (show rvn3 a0 4 = rv2 a0 4 from (by rw [hrn3]; exact congrFun (up0_a (ne_in ty2.1 hqn3)) _)) (fun rp2 re5 => ?_)
  rw [rp2] at re5
  have re6 : rv3 a0 4 = rvn3 a0 4 := (by rw [pq7]; exact upr_j (by decide))
  rw [re5] at re6
  refine hv34 (show rv3 a0 6 = (some qn3) from by rw [pq7]; exact upr_s) (show ∀ k, ([3, 4, 6] : List Nat).contains k = false → rv3 a0 k = rv a0 k from fun k hk => (Eq.trans (show rv3 a0 k = rvn3 a0 k from (by rw [pq7]; exact upr_j (fun e => by subst e; exact absurd hk (by decide)))) (Eq.trans (show rvn3 a0 k = rv2 a0 k from (by rw [hrn3]; exact congrFun (up0_a (ne_in ty2.1 hqn3)) _)) (Eq.trans (show rv2 a0 k = rvn2 a0 k from (by rw [pq5]; exact upr_j (fun e => by subst e; exact absurd hk (by decide)))) (Eq.trans (show rvn2 a0 k = rv1 a0 k from (by rw [hrn2]; exact congrFun (up0_a (ne_in ty1.1 hqn2)) _)) (Eq.trans (show rv1 a0 k = rvn1 a0 k from (by rw [pq4]; exact upr_j (fun e => by subst e; exact absurd hk (by decide)))) (show rvn1 a0 k = rv a0 k from (by rw [hrn1]; exact congrFun (up0_a (ne_in t_a0.1 hqn1)) _)))))))) (xl3.ty ty3) (xl3.ty tqn2) (show (-2147483648) ≤ iv5 a0 0 ∧ iv5 a0 0 ≤ 2147483647 from W11.int ty4 0) (show iv5 a0 0 = ivn3 a0 0 from by rw [pq8]; exact up2_j (by decide)) (show ivn3 a0 0 = iv4 a0 0 from by rw [hin3]; exact congrFun (up0_a (ne_in ty2.1 hqn3)) _) (show iv4 a0 0 = ivn2 a0 0 from by rw [pq6]; exact up2_j (by decide)) (show ivn2 a0 0 = ivn1 a0 0 from by rw [hin2]; exact congrFun (up0_a (ne_in ty1.1 hqn2)) _) (show ivn1 a0 0 = iv3 a0 0 from by rw [hin1]; exact congrFun (up0_a (ne_in t_a0.1 hqn1)) _) (show iv3 a0 0 = iv2 a0 0 from by rw [pq3]; exact up2_j (by decide)) (show iv2 a0 0 = iv1 a0 0 from by rw [pq2]; exact up2_j (by decide)) (show iv1 a0 0 = 0 from by rw [pq1]; exact up2_s) (show (-2147483648) ≤ iv5 a0 1 ∧ iv5 a0 1 ≤ 2147483647 from W11.int ty4 1) (show iv5 a0 1 = ivn3 a0 1 from by rw [pq8]; exact up2_j (by decide)) (show ivn3 a0 1 = iv4 a0 1 from by rw [hin3]; exact congrFun (up0_a (ne_in ty2.1 hqn3)) _) (show iv4 a0 1 = ivn2 a0 1 from by rw [pq6]; exact up2_j (by decide)) (show ivn2 a0 1 = ivn1 a0 1 from by rw [hin2]; exact congrFun (up0_a (ne_in ty1.1 hqn2)) _) (show ivn1 a0 1 = iv3 a0 1 from by rw [hin1]; exact congrFun (up0_a (ne_in t_a0.1 hqn1)) _) (show iv3 a0 1 = iv2 a0 1 from by rw [pq3]; exact up2_j (by decide)) (show iv2 a0 1 = 0 from by rw [pq2]; exact up2_s) (show (-2147483648) ≤ iv5 a0 2 ∧ iv5 a0 2 ≤ 2147483647 from W11.int ty4 2) (show iv5 a0 2 = ivn3 a0 2 from by rw [pq8]; exact up2_j (by decide)) (show ivn3 a0 2 = iv4 a0 2 from by rw [hin3]; exact congrFun (up0_a (ne_in ty2.1 hqn3)) _) (show iv4 a0 2 = ivn2 a0 2 from by rw [pq6]; exact up2_j (by decide)) (show ivn2 a0 2 = ivn1 a0 2 from by rw [hin2]; exact congrFun (up0_a (ne_in ty1.1 hqn2)) _) (show ivn1 a0 2 = iv3 a0 2 from by rw [hin1]; exact congrFun (up0_a (ne_in t_a0.1 hqn1)) _) (show iv3 a0 2 = 0 from by rw [pq3]; exact up2_s) (show (-2147483648) ≤ iv5 a0 5 ∧ iv5 a0 5 ≤ 2147483647 from W11.int ty4 5) (show iv5 a0 5 = ivn3 a0 5 from by rw [pq8]; exact up2_j (by decide)) (show ivn3 a0 5 = iv4 a0 5 from by rw [hin3]; exact congrFun (up0_a (ne_in ty2.1 hqn3)) _) (show iv4 a0 5 = 0 from by rw [pq6]; exact up2_s) (show (-2147483648) ≤ iv5 a0 7 ∧ iv5 a0 7 ≤ 2147483647 from W11.int ty4 7) (show iv5 a0 7 = 0 from by rw [pq8]; exact up2_s) (fun rp3 rn1 ty5 ty6 ri1 ie1 ie2 ie3 ie4 ie5 ie6 ie7 ie8 ri2 ie9 ie10 ie11 ie12 ie13 ie14 ie15 ri3 ie16 ie17 ie18 ie19 ie20 ie21 ri4 ie22 ie23 ie24 ri5 ie25 => ?_)
  exact c_vret C dX8_init_53 rfl (by decide) (rom0 hph (Nat.le_refl 0) (by decide)) ⟨rfl, X3, F11, W11, ⟨qn1, qn2, qn3, rn1, re4, ty5, re6, ty6, rp3, tqn3, (by omega), (by omega), (by omega), (by omega), (by omega)⟩, nw3.sub (by decide)⟩
set_option maxHeartbeats 4000000 in
set_option maxRecDepth 100000 in
theorem Y_setting {l : Launch} {G : GT} {mi : Nat} {sk : Nat → Nat} {L : List Nat} {cl ln : Nat → Nat} {iv : Nat → Nat → Int} {rv : Nat → Nat → Option Nat}  {a0 : Nat} (hW : WT (g0 G) sk L cl ln iv rv) (t_a0 : ty L cl a0 207)  : Mc l G mi zPf 0 yX6_init cX6_init 1 none 1 [.ref a0] L cl ln iv rv 2301 (fun v L2 cl2 ln2 iv2 rv2 => v = none ∧ XT L cl ln L2 cl2 ln2 ∧ fT [207] L cl iv rv iv2 rv2 ∧ WT (g0 G) sk L2 cl2 ln2 iv2 rv2 ∧ (∃ b0 b1 b2 b3 b6 b8, (∀ k, ([0, 1, 2, 3, 6, 8] : List Nat).contains k = false → rv2 a0 k = rv a0 k) ∧ rv2 a0 0 = some b0 ∧ ty L2 cl2 b0 50 ∧ rv2 a0 1 = some b1 ∧ ty L2 cl2 b1 51 ∧ rv2 a0 2 = some b2 ∧ ty L2 cl2 b2 52 ∧ rv2 a0 3 = some b3 ∧ ty L2 cl2 b3 53 ∧ rv2 a0 6 = some b6 ∧ ty L2 cl2 b6 54 ∧ rv2 a0 8 = some b8 ∧ ty L2 cl2 b8 55 ∧ iv2 a0 4 = 0 ∧ iv2 a0 5 = 0 ∧ iv2 a0 7 = 0 ∧ iv2 a0 9 = 0 ∧ iv2 a0 10 = 0 ∧ iv2 a0 11 = 0) ∧ NW [50, 51, 52, 53, 54, 55] L L2 cl2) := by
  refine Mc.mk (by decide) (Nat.le_of_ble_eq_true rfl) ?_
  intro p e s m args below meth c A C hM
  refine hv4 ((show zPf ln rv ≤ 0 from Nat.le_refl 0)) (show NW [] L L cl from NW.refl) (show XT L cl ln L cl ln from XT.refl) (show fT [207] L cl iv rv iv rv from fT.refl) (fun hph nw0 hX0 hF0 => ?_)
  refine c_aload_n (j := 0) (x := a0) C dX6_init_0 rfl ?_
  refine c_objInit C dX6_init_1 w1_135 w1_30 w1_31 (by decide) (Nat.le_of_ble_eq_true rfl) ?_
  refine c_aload_n (j := 0) (x := a0) C dX6_init_4 rfl ?_
  refine c_sipush (z := 500) C dX6_init_5 (by decide) ?_
  refine c_newaI (z := 500) (N := 500) C 50 dX6_init_8 w1_57 rfl (by omega) (by omega) (rom2 hph hph (by decide)) (fun qn1 cln1 lnn1 ivn1 rvn1 hqn1 hcn1 hln1 hin1 hrn1 => ⟨516, (z_in (by omega)), ?_⟩)
  refine c_g0 C (fun hg1 => ?_)
  refine hv5 (show ∀ b, b ≠ qn1 → lnn1 b = ln b from (fun b hb => by rw [hln1]; exact va_up_ne _ _ hb)) (show lnn1 qn1 = 500 from by rw [hln1]; exact va_up_self _ _ _) (hF0.new hX0 hqn1 hin1 hrn1) (show ty (L ++ [qn1]) cln1 qn1 50 from ty_new hcn1) (show qn1 ∉ L from fun h => hqn1 ((hX0 qn1 h).1)) (fun hxn1 lqn1 F1 tqn1 h0qn1 => ?_)
  refine hv2 (hW.new (ln2 := lnn1) hqn1 (hg1 qn1 (List.mem_append_right _ List.mem_cons_self)) hcn1 hxn1 hin1 hrn1 (fun _ => ⟨(show (-2147483648 : Int) ≤ 0 by decide), (show (0 : Int) ≤ 2147483647 by decide)⟩) (Or.inr (fun _ => rfl)) (fun _ => by show 500 ≤ lnn1 qn1 ∧ lnn1 qn1 ≤ 500; omega) rfl rfl) (XT.new hqn1 hcn1 hxn1) (fun W1 xl1 => ?_)
  refine hv3 (hX0.trans xl1) (nw0.new xl1 hcn1) (xl1.ty t_a0) (fun X1 nw1 ty1 => ?_)
  refine c_putrF (x := (some qn1)) (k := 0) C ck_7 dX6_init_10 w1_136 (by decide) rfl rfl rfl ty1 rfl rfl (by decide) rfl (by rfl) (by rfl) (fun rv1 pq1 => ⟨516, (zp2 (Nat.le_refl _)), ?_⟩)
  refine hv2 (W1.putr pq1 ty1 (fun qr => by rw [ty1.2] at qr; cases qr) rfl (by decide)) (F1.putr X1 pq1 ty1 rfl) (fun W2 F2 => ?_)
  refine c_aload_n (j := 0) (x := a0) C dX6_init_13 rfl ?_
  refine c_sipush (z := 500) C dX6_init_14 (by decide) ?_
  refine c_newaI (z := 500) (N := 500) C 51 dX6_init_17 w1_57 rfl (by omega) (by omega) (rom2 hph (Nat.le_refl 0) (by decide)) (fun qn2 cln2 lnn2 ivn2 rvn2 hqn2 hcn2 hln2 hin2 hrn2 => ⟨1032, (z_in (by omega)), ?_⟩)
  refine c_g0 C (fun hg2 => ?_)
  refine hv5 (show ∀ b, b ≠ qn2 → lnn2 b = lnn1 b from (fun b hb => by rw [hln2]; exact va_up_ne _ _ hb)) (show lnn2 qn2 = 500 from by rw [hln2]; exact va_up_self _ _ _) (F2.new X1 hqn2 hin2 hrn2) (show ty ((L ++ [qn1]) ++ [qn2]) cln2 qn2 51 from ty_new hcn2) (show qn2 ∉ L from fun h => hqn2 ((X1 qn2 h).1)) (fun hxn2 lqn2 F3 tqn2 h0qn2 => ?_)
  refine hv2 (W2.new (ln2 := lnn2) hqn2 (hg2 qn2 (List.mem_append_right _ List.mem_cons_self)) hcn2 hxn2 hin2 hrn2 (fun _ => ⟨(show (-2147483648 : Int) ≤ 0 by decide), (show (0 : Int) ≤ 2147483647 by decide)⟩) (Or.inr (fun _ => rfl)) (fun _ => by show 500 ≤ lnn2 qn2 ∧ lnn2 qn2 ≤ 500; omega) rfl rfl) (XT.new hqn2 hcn2 hxn2) (fun W3 xl2 => ?_)
  refine hv3 (X1.trans xl2) (nw1.new xl2 hcn2) (xl2.ty ty1) (fun X2 nw2 ty2 => ?_)
  refine c_putrF (x := (some qn2)) (k := 1) C ck_7 dX6_init_19 w1_137 (by decide) rfl rfl rfl ty2 rfl rfl (by decide) rfl (by rfl) (by rfl) (fun rv2 pq2 => ⟨1032, (zp2 (Nat.le_refl _)), ?_⟩)
  refine hv2 (W3.putr pq2 ty2 (fun qr => by rw [ty2.2] at qr; cases qr) rfl (by decide)) (F3.putr X2 pq2 ty2 rfl) (fun W4 F4 => ?_)
  refine c_aload_n (j := 0) (x := a0) C dX6_init_22 rfl ?_
  refine c_sipush (z := 500) C dX6_init_23 (by decide) ?_
  have ty3 := xl2.ty tqn1
  refine c_newaZ (z := 500) (N := 500) C 52 dX6_init_26 w1_129 rfl (by omega) (by omega) (rom2 hph (Nat.le_refl 0) (by decide)) (fun qn3 cln3 lnn3 ivn3 rvn3 hqn3 hcn3 hln3 hin3 hrn3 => ⟨1548, (z_in (by omega)), ?_⟩)
  refine c_g0 C (fun hg3 => ?_)
  refine hv5 (show ∀ b, b ≠ qn3 → lnn3 b = lnn2 b from (fun b hb => by rw [hln3]; exact va_up_ne _ _ hb)) (show lnn3 qn3 = 500 from by rw [hln3]; exact va_up_self _ _ _) (F4.new X2 hqn3 hin3 hrn3) (show ty (((L ++ [qn1]) ++ [qn2]) ++ [qn3]) cln3 qn3 52 from ty_new hcn3) (show qn3 ∉ L from fun h => hqn3 ((X2 qn3 h).1)) (fun hxn3 lqn3 F5 tqn3 h0qn3 => ?_)
  refine hv2 (W4.new (ln2 := lnn3) hqn3 (hg3 qn3 (List.mem_append_right _ List.mem_cons_self)) hcn3 hxn3 hin3 hrn3 (fun _ => ⟨(show (0 : Int) ≤ 0 by decide), (show (0 : Int) ≤ 1 by decide)⟩) (Or.inr (fun _ => rfl)) (fun _ => by show 500 ≤ lnn3 qn3 ∧ lnn3 qn3 ≤ 500; omega) rfl rfl) (XT.new hqn3 hcn3 hxn3) (fun W5 xl3 => ?_)
  refine hv3 (X2.trans xl3) (nw2.new xl3 hcn3) (xl3.ty ty2) (fun X3 nw3 ty4 => ?_)
  refine c_putrF (x := (some qn3)) (k := 2) C ck_7 dX6_init_28 w1_138 (by decide) rfl rfl rfl ty4 rfl rfl (by decide) rfl (by rfl) (by rfl) (fun rv3 pq3 => ⟨1548, (zp2 (Nat.le_refl _)), ?_⟩)
  refine hv2 (W5.putr pq3 ty4 (fun qr => by rw [ty4.2] at qr; cases qr) rfl (by decide)) (F5.putr X3 pq3 ty4 rfl) (fun W6 F6 => ?_)
  refine c_aload_n (j := 0) (x := a0) C dX6_init_31 rfl ?_
  refine c_sipush (z := 500) C dX6_init_32 (by decide) ?_
  refine hv2 (xl3.ty ty3) (xl3.ty tqn2) (fun ty5 ty6 => ?_)
  refine c_newaI (z := 500) (N := 500) C 53 dX6_init_35 w1_57 rfl (by omega) (by omega) (rom2 hph (Nat.le_refl 0) (by decide)) (fun qn4 cln4 lnn4 ivn4 rvn4 hqn4 hcn4 hln4 hin4 hrn4 => ⟨2064, (z_in (by omega)), ?_⟩)
  refine c_g0 C (fun hg4 => ?_)
  refine hv5 (show ∀ b, b ≠ qn4 → lnn4 b = lnn3 b from (fun b hb => by rw [hln4]; exact va_up_ne _ _ hb)) (show lnn4 qn4 = 500 from by rw [hln4]; exact va_up_self _ _ _) (F6.new X3 hqn4 hin4 hrn4) (show ty ((((L ++ [qn1]) ++ [qn2]) ++ [qn3]) ++ [qn4]) cln4 qn4 53 from ty_new hcn4) (show qn4 ∉ L from fun h => hqn4 ((X3 qn4 h).1)) (fun hxn4 lqn4 F7 tqn4 h0qn4 => ?_)
  refine hv2 (W6.new (ln2 := lnn4) hqn4 (hg4 qn4 (List.mem_append_right _ List.mem_cons_self)) hcn4 hxn4 hin4 hrn4 (fun _ => ⟨(show (-2147483648 : Int) ≤ 0 by decide), (show (0 : Int) ≤ 2147483647 by decide)⟩) (Or.inr (fun _ => rfl)) (fun _ => by show 500 ≤ lnn4 qn4 ∧ lnn4 qn4 ≤ 500; omega) rfl rfl) (XT.new hqn4 hcn4 hxn4) (fun W7 xl4 => ?_)
  refine hv3 (X3.trans xl4) (nw3.new xl4 hcn4) (xl4.ty ty4) (fun X4 nw4 ty7 => ?_)
  refine c_putrF (x := (some qn4)) (k := 3) C ck_7 dX6_init_37 w1_139 (by decide) rfl rfl rfl ty7 rfl rfl (by decide) rfl (by rfl) (by rfl) (fun rv4 pq4 => ⟨2064, (zp2 (Nat.le_refl _)), ?_⟩)
  refine hv2 (W7.putr pq4 ty7 (fun qr => by rw [ty7.2] at qr; cases qr) rfl (by decide)) (F7.putr X4 pq4 ty7 rfl) (fun W8 F8 => ?_)
  refine c_aload_n (j := 0) (x := a0) C dX6_init_40 rfl ?_
  refine c_iconst C dX6_init_41 ?_
  refine c_put (z := 0) (k := 4) C ck_7 dX6_init_42 w1_140 (by decide) rfl ty7 rfl rfl (by decide) rfl (by rfl) (by rfl) (fun iv1 pq5 => ?_)
  refine hv2 (W8.puti pq5 ty7 ⟨by decide, by decide⟩ rfl) (F8.puti X4 pq5 ty7 rfl) (fun W9 F9 => ?_)
  refine c_aload_n (j := 0) (x := a0) C dX6_init_45 rfl ?_
  refine c_iconst C dX6_init_46 ?_
  refine c_put (z := 0) (k := 5) C ck_7 dX6_init_47 w1_143 (by decide) rfl ty7 rfl rfl (by decide) rfl (by decide) (by decide) (fun iv2 pq6 => ?_)
  refine hv2 (W9.puti pq6 ty7 ⟨by decide, by decide⟩ rfl) (F9.puti X4 pq6 ty7 rfl) (fun W10 F10 => ?_)
  refine c_aload_n (j := 0) (x := a0) C dX6_init_50 rfl ?_
  refine c_sipush (z := 200) C dX6_init_51 (by decide) ?_
  refine hv3 (xl4.ty ty5) (xl4.ty ty6) (xl4.ty tqn3) (fun ty8 ty9 ty10 => ?_)
  refine c_newaI (z := 200) (N := 200) C 54 dX6_init_54 w1_57 rfl (by omega) (by omega) (rom2 hph (Nat.le_refl 0) (by decide)) (fun qn5 cln5 lnn5 ivn5 rvn5 hqn5 hcn5 hln5 hin5 hrn5 => ⟨2280, (z_in (by omega)), ?_⟩)
  refine c_g0 C (fun hg5 => ?_)
  refine hv5 (show ∀ b, b ≠ qn5 → lnn5 b = lnn4 b from (fun b hb => by rw [hln5]; exact va_up_ne _ _ hb)) (show lnn5 qn5 = 200 from by rw [hln5]; exact va_up_self _ _ _) (F10.new X4 hqn5 hin5 hrn5) (show ty (((((L ++ [qn1]) ++ [qn2]) ++ [qn3]) ++ [qn4]) ++ [qn5]) cln5 qn5 54 from ty_new hcn5) (show qn5 ∉ L from fun h => hqn5 ((X4 qn5 h).1)) (fun hxn5 lqn5 F11 tqn5 h0qn5 => ?_)
  refine hv2 (W10.new (ln2 := lnn5) hqn5 (hg5 qn5 (List.mem_append_right _ List.mem_cons_self)) hcn5 hxn5 hin5 hrn5 (fun _ => ⟨(show (-2147483648 : Int) ≤ 0 by decide), (show (0 : Int) ≤ 2147483647 by decide)⟩) (Or.inr (fun _ => rfl)) (fun _ => by show 200 ≤ lnn5 qn5 ∧ lnn5 qn5 ≤ 200; omega) rfl rfl) (XT.new hqn5 hcn5 hxn5) (fun W11 xl5 => ?_)
  refine hv3 (X4.trans xl5) (nw4.new xl5 hcn5) (xl5.ty ty7) (fun X5 nw5 ty11 => ?_)
  refine c_putrF (x := (some qn5)) (k := 6) C ck_7 dX6_init_56 w1_144 (by decide) rfl rfl rfl ty11 rfl rfl (by decide) rfl (by rfl) (by rfl) (fun rv5 pq7 => ⟨2280, (zp2 (Nat.le_refl _)), ?_⟩)
  refine hv2 (W11.putr pq7 ty11 (fun qr => by rw [ty11.2] at qr; cases qr) rfl (by decide)) (F11.putr X5 pq7 ty11 rfl) (fun W12 F12 => ?_)
  refine c_aload_n (j := 0) (x := a0) C dX6_init_59 rfl ?_
  refine c_iconst C dX6_init_60 ?_
  refine c_put (z := 0) (k := 7) C ck_7 dX6_init_61 w1_147 (by decide) rfl ty11 rfl rfl (by decide) rfl (by rfl) (by rfl) (fun iv3 pq8 => ?_)
  refine hv2 (W12.puti pq8 ty11 ⟨by decide, by decide⟩ rfl) (F12.puti X5 pq8 ty11 rfl) (fun W13 F13 => ?_)
  refine c_aload_n (j := 0) (x := a0) C dX6_init_64 rfl ?_
  refine c_iconst C dX6_init_65 ?_
  refine hv4 (xl5.ty ty8) (xl5.ty ty9) (xl5.ty ty10) (xl5.ty tqn4) (fun ty12 ty13 ty14 ty15 => ?_)
  refine c_newaI (z := 5) (N := 5) C 55 dX6_init_66 w1_57 rfl (by omega) (by omega) (rom2 hph (Nat.le_refl 0) (by decide)) (fun qn6 cln6 lnn6 ivn6 rvn6 hqn6 hcn6 hln6 hin6 hrn6 => ⟨2301, (z_in (by omega)), ?_⟩)
  refine c_g0 C (fun hg6 => ?_)
  refine hv5 (show ∀ b, b ≠ qn6 → lnn6 b = lnn5 b from (fun b hb => by rw [hln6]; exact va_up_ne _ _ hb)) (show lnn6 qn6 = 5 from by rw [hln6]; exact va_up_self _ _ _) (F13.new X5 hqn6 hin6 hrn6) (show ty ((((((L ++ [qn1]) ++ [qn2]) ++ [qn3]) ++ [qn4]) ++ [qn5]) ++ [qn6]) cln6 qn6 55 from ty_new hcn6) (show qn6 ∉ L from fun h => hqn6 ((X5 qn6 h).1)) (fun hxn6 lqn6 F14 tqn6 h0qn6 => ?_)
  refine hv2 (W13.new (ln2 := lnn6) hqn6 (hg6 qn6 (List.mem_append_right _ List.mem_cons_self)) hcn6 hxn6 hin6 hrn6 (fun _ => ⟨(show (-2147483648 : Int) ≤ 0 by decide), (show (0 : Int) ≤ 2147483647 by decide)⟩) (Or.inr (fun _ => rfl)) (fun _ => by show 5 ≤ lnn6 qn6 ∧ lnn6 qn6 ≤ 5; omega) rfl rfl) (XT.new hqn6 hcn6 hxn6) (fun W14 xl6 => ?_)
  refine hv3 (X5.trans xl6) (nw5.new xl6 hcn6) (xl6.ty ty11) (fun X6 nw6 ty16 => ?_)
  refine c_putrF (x := (some qn6)) (k := 8) C ck_7 dX6_init_68 w1_150 (by decide) rfl rfl rfl ty16 rfl rfl (by decide) rfl (by rfl) (by rfl) (fun rv6 pq9 => ⟨2301, (zp2 (Nat.le_refl _)), ?_⟩)
  refine hv2 (W14.putr pq9 ty16 (fun qr => by rw [ty16.2] at qr; cases qr) rfl (by decide)) (F14.putr X6 pq9 ty16 rfl) (fun W15 F15 => ?_)
  refine c_aload_n (j := 0) (x := a0) C dX6_init_71 rfl ?_
  refine c_iconst C dX6_init_72 ?_
  refine c_put (z := 0) (k := 9) C ck_7 dX6_init_73 w1_151 (by decide) rfl ty16 rfl rfl (by decide) rfl (by rfl) (by rfl) (fun iv4 pq10 => ?_)
  refine hv2 (W15.puti pq10 ty16 ⟨by decide, by decide⟩ rfl) (F15.puti X6 pq10 ty16 rfl) (fun W16 F16 => ?_)
  refine c_aload_n (j := 0) (x := a0) C dX6_init_76 rfl ?_
  refine c_iconst C dX6_init_77 ?_
  refine c_put (z := 0) (k := 10) C ck_7 dX6_init_78 w1_152 (by decide) rfl ty16 rfl rfl (by decide) rfl (by rfl) (by rfl) (fun iv5 pq11 => ?_)
  refine hv2 (W16.puti pq11 ty16 ⟨by decide, by decide⟩ rfl) (F16.puti X6 pq11 ty16 rfl) (fun W17 F17 => ?_)
  refine c_aload_n (j := 0) (x := a0) C dX6_init_81 rfl ?_
  refine c_iconst C dX6_init_82 ?_
  refine c_put (z := 0) (k := 11) C ck_7 dX6_init_83 w1_153 (by decide) rfl ty16 rfl rfl (by decide) rfl (by rfl) (by rfl) (fun iv6 pq12 => ?_)
  refine hv4 (W17.puti pq12 ty16 ⟨by decide, by decide⟩ rfl) (F17.puti X6 pq12 ty16 rfl) (show rv1 a0 0 = (some qn1) from by rw [pq1]; exact upr_s) (show rvn2 a0 0 = rv1 a0 0 from (by rw [hrn2]; exact congrFun (up0_a (ne_in ty1.1 hqn2)) _)) (fun W18 F18 rp1 re1 => ?_)
  rw [rp1] at re1
  have re2 : rv2 a0 0 = rvn2 a0 0 := (by rw [pq2]; exact upr_j (by decide))
  rw [re1] at re2
  have re3 : rvn3 a0 0 = rv2 a0 0 := (by rw [hrn3]; exact congrFun (up0_a (ne_in ty2.1 hqn3)) _)
  rw [re2] at re3
  have re4 : rv3 a0 0 = rvn3 a0 0 := (by rw [pq3]; exact upr_j (by decide))
  rw [re3] at re4
  have re5 : rvn4 a0 0 = rv3 a0 0 := (by rw [hrn4]; exact congrFun (up0_a (ne_in ty4.1 hqn4)) _)
  rw [re4] at re5
  have re6 : rv4 a0 0 = rvn4 a0 0 := (by rw [pq4]; exact upr_j (by decide))
  rw [re5] at re6
  have re7 : rvn5 a0 0 = rv4 a0 0 := (by rw [hrn5]; exact congrFun (up0_a (ne_in ty7.1 hqn5)) _)
  rw [re6] at re7
  have re8 : rv5 a0 0 = rvn5 a0 0 := (by rw [pq7]; exact upr_j (by decide))
  rw [re7] at re8
  have re9 : rvn6 a0 0 = rv5 a0 0 := (by rw [hrn6]; exact congrFun (up0_a (ne_in ty11.1 hqn6)) _)
  rw [re8] at re9
  have re10 : rv6 a0 0 = rvn6 a0 0 := (by rw [pq9]; exact upr_j (by decide))
  rw [re9] at re10
  refine hv2 (show rv2 a0 1 = (some qn2) from by rw [pq2]; exact upr_s) (show rvn3 a0 1 = rv2 a0 1 from (by rw [hrn3]; exact congrFun (up0_a (ne_in ty2.1 hqn3)) _)) (fun rp2 re11 => ?_)
  rw [rp2] at re11
  have re12 : rv3 a0 1 = rvn3 a0 1 := (by rw [pq3]; exact upr_j (by decide))
  rw [re11] at re12
  have re13 : rvn4 a0 1 = rv3 a0 1 := (by rw [hrn4]; exact congrFun (up0_a (ne_in ty4.1 hqn4)) _)
  rw [re12] at re13
  have re14 : rv4 a0 1 = rvn4 a0 1 := (by rw [pq4]; exact upr_j (by decide))
  rw [re13] at re14
  have re15 : rvn5 a0 1 = rv4 a0 1 := (by rw [hrn5]; exact congrFun (up0_a (ne_in ty7.1 hqn5)) _)
  rw [re14] at re15
  have re16 : rv5 a0 1 = rvn5 a0 1 := (by rw [pq7]; exact upr_j (by decide))
  rw [re15] at re16
  have re17 : rvn6 a0 1 = rv5 a0 1 := (by rw [hrn6]; exact congrFun (up0_a (ne_in ty11.1 hqn6)) _)
  rw [re16] at re17
  have re18 : rv6 a0 1 = rvn6 a0 1 := (by rw [pq9]; exact upr_j (by decide))
  rw [re17] at re18
  refine hv2 (show rv3 a0 2 = (some qn3) from by rw [pq3]; exact upr_s) (show rvn4 a0 2 = rv3 a0 2 from (by rw [hrn4]; exact congrFun (up0_a (ne_in ty4.1 hqn4)) _)) (fun rp3 re19 => ?_)
  rw [rp3] at re19
  have re20 : rv4 a0 2 = rvn4 a0 2 := (by rw [pq4]; exact upr_j (by decide))
  rw [re19] at re20
  have re21 : rvn5 a0 2 = rv4 a0 2 := (by rw [hrn5]; exact congrFun (up0_a (ne_in ty7.1 hqn5)) _)
  rw [re20] at re21
  have re22 : rv5 a0 2 = rvn5 a0 2 := (by rw [pq7]; exact upr_j (by decide))
  rw [re21] at re22
  have re23 : rvn6 a0 2 = rv5 a0 2 := (by rw [hrn6]; exact congrFun (up0_a (ne_in ty11.1 hqn6)) _)
  rw [re22] at re23
  have re24 : rv6 a0 2 = rvn6 a0 2 := (by rw [pq9]; exact upr_j (by decide))
  rw [re23] at re24
  refine hv2 (show rv4 a0 3 = (some qn4) from by rw [pq4]; exact upr_s) (show rvn5 a0 3 = rv4 a0 3 from (by rw [hrn5]; exact congrFun (up0_a (ne_in ty7.1 hqn5)) _)) (fun rp4 re25 => ?_)
  rw [rp4] at re25
  have re26 : rv5 a0 3 = rvn5 a0 3 := (by rw [pq7]; exact upr_j (by decide))
  rw [re25] at re26
  have re27 : rvn6 a0 3 = rv5 a0 3 := (by rw [hrn6]; exact congrFun (up0_a (ne_in ty11.1 hqn6)) _)
  rw [re26] at re27
  have re28 : rv6 a0 3 = rvn6 a0 3 := (by rw [pq9]; exact upr_j (by decide))
  rw [re27] at re28
  refine hv2 (show rv5 a0 6 = (some qn5) from by rw [pq7]; exact upr_s) (show rvn6 a0 6 = rv5 a0 6 from (by rw [hrn6]; exact congrFun (up0_a (ne_in ty11.1 hqn6)) _)) (fun rp5 re29 => ?_)
  rw [rp5] at re29
  have re30 : rv6 a0 6 = rvn6 a0 6 := (by rw [pq9]; exact upr_j (by decide))
  rw [re29] at re30
  refine hv39 (show rv6 a0 8 = (some qn6) from by rw [pq9]; exact upr_s) (show ∀ k, ([0, 1, 2, 3, 6, 8] : List Nat).contains k = false → rv6 a0 k = rv a0 k from fun k hk => (Eq.trans (show rv6 a0 k = rvn6 a0 k from (by rw [pq9]; exact upr_j (fun e => by subst e; exact absurd hk (by decide)))) (Eq.trans (show rvn6 a0 k = rv5 a0 k from (by rw [hrn6]; exact congrFun (up0_a (ne_in ty11.1 hqn6)) _)) (Eq.trans (show rv5 a0 k = rvn5 a0 k from (by rw [pq7]; exact upr_j (fun e => by subst e; exact absurd hk (by decide)))) (Eq.trans (show rvn5 a0 k = rv4 a0 k from (by rw [hrn5]; exact congrFun (up0_a (ne_in ty7.1 hqn5)) _)) (Eq.trans (show rv4 a0 k = rvn4 a0 k from (by rw [pq4]; exact upr_j (fun e => by subst e; exact absurd hk (by decide)))) (Eq.trans (show rvn4 a0 k = rv3 a0 k from (by rw [hrn4]; exact congrFun (up0_a (ne_in ty4.1 hqn4)) _)) (Eq.trans (show rv3 a0 k = rvn3 a0 k from (by rw [pq3]; exact upr_j (fun e => by subst e; exact absurd hk (by decide)))) (Eq.trans (show rvn3 a0 k = rv2 a0 k from (by rw [hrn3]; exact congrFun (up0_a (ne_in ty2.1 hqn3)) _)) (Eq.trans (show rv2 a0 k = rvn2 a0 k from (by rw [pq2]; exact upr_j (fun e => by subst e; exact absurd hk (by decide)))) (Eq.trans (show rvn2 a0 k = rv1 a0 k from (by rw [hrn2]; exact congrFun (up0_a (ne_in ty1.1 hqn2)) _)) (Eq.trans (show rv1 a0 k = rvn1 a0 k from (by rw [pq1]; exact upr_j (fun e => by subst e; exact absurd hk (by decide)))) (show rvn1 a0 k = rv a0 k from (by rw [hrn1]; exact congrFun (up0_a (ne_in t_a0.1 hqn1)) _)))))))))))))) (xl6.ty ty12) (xl6.ty ty13) (xl6.ty ty14) (xl6.ty ty15) (xl6.ty tqn5) (show (-2147483648) ≤ iv6 a0 4 ∧ iv6 a0 4 ≤ 2147483647 from W18.int ty16 4) (show iv6 a0 4 = iv5 a0 4 from by rw [pq12]; exact up2_j (by decide)) (show iv5 a0 4 = iv4 a0 4 from by rw [pq11]; exact up2_j (by decide)) (show iv4 a0 4 = ivn6 a0 4 from by rw [pq10]; exact up2_j (by decide)) (show ivn6 a0 4 = iv3 a0 4 from by rw [hin6]; exact congrFun (up0_a (ne_in ty11.1 hqn6)) _) (show iv3 a0 4 = ivn5 a0 4 from by rw [pq8]; exact up2_j (by decide)) (show ivn5 a0 4 = iv2 a0 4 from by rw [hin5]; exact congrFun (up0_a (ne_in ty7.1 hqn5)) _) (show iv2 a0 4 = iv1 a0 4 from by rw [pq6]; exact up2_j (by decide)) (show iv1 a0 4 = 0 from by rw [pq5]; exact up2_s) (show (-2147483648) ≤ iv6 a0 5 ∧ iv6 a0 5 ≤ 2147483647 from W18.int ty16 5) (show iv6 a0 5 = iv5 a0 5 from by rw [pq12]; exact up2_j (by decide)) (show iv5 a0 5 = iv4 a0 5 from by rw [pq11]; exact up2_j (by decide)) (show iv4 a0 5 = ivn6 a0 5 from by rw [pq10]; exact up2_j (by decide)) (show ivn6 a0 5 = iv3 a0 5 from by rw [hin6]; exact congrFun (up0_a (ne_in ty11.1 hqn6)) _) (show iv3 a0 5 = ivn5 a0 5 from by rw [pq8]; exact up2_j (by decide)) (show ivn5 a0 5 = iv2 a0 5 from by rw [hin5]; exact congrFun (up0_a (ne_in ty7.1 hqn5)) _) (show iv2 a0 5 = 0 from by rw [pq6]; exact up2_s) (show (-2147483648) ≤ iv6 a0 7 ∧ iv6 a0 7 ≤ 2147483647 from W18.int ty16 7) (show iv6 a0 7 = iv5 a0 7 from by rw [pq12]; exact up2_j (by decide)) (show iv5 a0 7 = iv4 a0 7 from by rw [pq11]; exact up2_j (by decide)) (show iv4 a0 7 = ivn6 a0 7 from by rw [pq10]; exact up2_j (by decide)) (show ivn6 a0 7 = iv3 a0 7 from by rw [hin6]; exact congrFun (up0_a (ne_in ty11.1 hqn6)) _) (show iv3 a0 7 = 0 from by rw [pq8]; exact up2_s) (show (-2147483648) ≤ iv6 a0 9 ∧ iv6 a0 9 ≤ 2147483647 from W18.int ty16 9) (show iv6 a0 9 = iv5 a0 9 from by rw [pq12]; exact up2_j (by decide)) (show iv5 a0 9 = iv4 a0 9 from by rw [pq11]; exact up2_j (by decide)) (show iv4 a0 9 = 0 from by rw [pq10]; exact up2_s) (show (-2147483648) ≤ iv6 a0 10 ∧ iv6 a0 10 ≤ 2147483647 from W18.int ty16 10) (show iv6 a0 10 = iv5 a0 10 from by rw [pq12]; exact up2_j (by decide)) (show iv5 a0 10 = 0 from by rw [pq11]; exact up2_s) (show (-2147483648) ≤ iv6 a0 11 ∧ iv6 a0 11 ≤ 2147483647 from W18.int ty16 11) (show iv6 a0 11 = 0 from by rw [pq12]; exact up2_s) (fun rp6 rn1 ty17 ty18 ty19 ty20 ty21 ri1 ie1 ie2 ie3 ie4 ie5 ie6 ie7 ie8 ri2 ie9 ie10 ie11 ie12 ie13 ie14 ie15 ri3 ie16 ie17 ie18 ie19 ie20 ri4 ie21 ie22 ie23 ri5 ie24 ie25 ri6 ie26 => ?_)
  exact c_vret C dX6_init_86 rfl (by decide) (rom0 hph (Nat.le_refl 0) (by decide)) ⟨rfl, X6, F18, W18, ⟨qn1, qn2, qn3, qn4, qn5, qn6, rn1, re10, ty17, re18, ty18, re24, ty19, re28, ty20, re30, ty21, rp6, tqn6, (by omega), (by omega), (by omega), (by omega), (by omega), (by omega)⟩, nw6.sub (by decide)⟩
set_option maxHeartbeats 4000000 in
set_option maxRecDepth 100000 in
theorem Y_sheet {l : Launch} {G : GT} {mi : Nat} {sk : Nat → Nat} {L : List Nat} {cl ln : Nat → Nat} {iv : Nat → Nat → Int} {rv : Nat → Nat → Option Nat}  {a0 : Nat} (hW : WT (g0 G) sk L cl ln iv rv) (t_a0 : ty L cl a0 208)  : Mc l G mi zPf 0 yX7_init cX7_init 1 none 1 [.ref a0] L cl ln iv rv 216 (fun v L2 cl2 ln2 iv2 rv2 => v = none ∧ XT L cl ln L2 cl2 ln2 ∧ fT [208] L cl iv rv iv2 rv2 ∧ WT (g0 G) sk L2 cl2 ln2 iv2 rv2 ∧ (∃ b, (∀ k, ([0] : List Nat).contains k = false → rv2 a0 k = rv a0 k) ∧ rv2 a0 0 = some b ∧ ty L2 cl2 b 213 ∧ ln2 b = 200 ∧ (∀ k, rv2 b k = none) ∧ b ∉ L ∧ iv2 a0 1 = 0) ∧ NW [213] L L2 cl2) := by
  refine Mc.mk (by decide) (Nat.le_of_ble_eq_true rfl) ?_
  intro p e s m args below meth c A C hM
  refine hv4 ((show zPf ln rv ≤ 0 from Nat.le_refl 0)) (show NW [] L L cl from NW.refl) (show XT L cl ln L cl ln from XT.refl) (show fT [208] L cl iv rv iv rv from fT.refl) (fun hph nw0 hX0 hF0 => ?_)
  refine c_aload_n (j := 0) (x := a0) C dX7_init_0 rfl ?_
  refine c_objInit C dX7_init_1 w2_30 w1_30 w1_31 (by decide) (Nat.le_of_ble_eq_true rfl) ?_
  refine c_aload_n (j := 0) (x := a0) C dX7_init_4 rfl ?_
  refine c_sipush (z := 200) C dX7_init_5 (by decide) ?_
  refine c_newaL (z := 200) (N := 200) C 213 dX7_init_8 w2_31 w2_32t rfl (by omega) (by omega) (rom2 hph hph (by decide)) (fun qn1 cln1 lnn1 ivn1 rvn1 hqn1 hcn1 hln1 hin1 hrn1 => ⟨216, (z_in (by omega)), ?_⟩)
  refine c_g0 C (fun hg1 => ?_)
  refine hv5 (show ∀ b, b ≠ qn1 → lnn1 b = ln b from (fun b hb => by rw [hln1]; exact va_up_ne _ _ hb)) (show lnn1 qn1 = 200 from by rw [hln1]; exact va_up_self _ _ _) (hF0.new hX0 hqn1 hin1 hrn1) (show ty (L ++ [qn1]) cln1 qn1 213 from ty_new hcn1) (show qn1 ∉ L from fun h => hqn1 ((hX0 qn1 h).1)) (fun hxn1 lqn1 F1 tqn1 h0qn1 => ?_)
  refine hv2 (hW.new (ln2 := lnn1) hqn1 (hg1 qn1 (List.mem_append_right _ List.mem_cons_self)) hcn1 hxn1 hin1 hrn1 (fun _ => ⟨(show (-2147483648 : Int) ≤ 0 by decide), (show (0 : Int) ≤ 2147483647 by decide)⟩) (Or.inl rfl) (fun q => by cases q) rfl rfl) (XT.new hqn1 hcn1 hxn1) (fun W1 xl1 => ?_)
  refine hv3 (hX0.trans xl1) (nw0.new xl1 hcn1) (xl1.ty t_a0) (fun X1 nw1 ty1 => ?_)
  refine c_putrF (x := (some qn1)) (k := 0) C ck_8 dX7_init_11 w2_33 (by decide) rfl rfl rfl ty1 rfl rfl (by decide) rfl (by rfl) (by rfl) (fun rv1 pq1 => ⟨216, (zp2 (Nat.le_refl _)), ?_⟩)
  refine hv2 (W1.putr pq1 ty1 (fun qr => by rw [ty1.2] at qr; cases qr) rfl (by decide)) (F1.putr X1 pq1 ty1 rfl) (fun W2 F2 => ?_)
  refine c_aload_n (j := 0) (x := a0) C dX7_init_14 rfl ?_
  refine c_iconst C dX7_init_15 ?_
  refine c_put (z := 0) (k := 1) C ck_8 dX7_init_16 w2_34 (by decide) rfl ty1 rfl rfl (by decide) rfl (by rfl) (by rfl) (fun iv1 pq2 => ?_)
  refine hv2 (W2.puti pq2 ty1 ⟨by decide, by decide⟩ rfl) (F2.puti X1 pq2 ty1 rfl) (fun W3 F3 => ?_)
  refine c_aload_n (j := 0) (x := a0) C dX7_init_19 rfl ?_
  refine c_iconst C dX7_init_20 ?_
  refine c_put (z := 0) (k := 2) C ck_8 dX7_init_21 w2_36 (by decide) rfl ty1 rfl rfl (by decide) rfl (by rfl) (by rfl) (fun iv2 pq3 => ?_)
  refine hv7 (W3.puti pq3 ty1 ⟨by decide, by decide⟩ rfl) (F3.puti X1 pq3 ty1 rfl) (show rv1 a0 0 = (some qn1) from by rw [pq1]; exact upr_s) (show ∀ k, ([] : List Nat).contains k = false → rv1 qn1 k = none from fun k hk => (Eq.trans (show rv1 qn1 k = rvn1 qn1 k from (by rw [pq1]; exact congrFun (upr_a (ne_ty tqn1 ty1 (by decide))) _)) (show rvn1 qn1 k = none from (by rw [hrn1]; exact up0_s)))) (show iv2 a0 1 = iv1 a0 1 from by rw [pq3]; exact up2_j (by decide)) (show iv1 a0 1 = 0 from by rw [pq2]; exact up2_s) (show ∀ k, ([0] : List Nat).contains k = false → rv1 a0 k = rv a0 k from fun k hk => (Eq.trans (show rv1 a0 k = rvn1 a0 k from (by rw [pq1]; exact upr_j (fun e => by subst e; exact absurd hk (by decide)))) (show rvn1 a0 k = rv a0 k from (by rw [hrn1]; exact congrFun (up0_a (ne_in t_a0.1 hqn1)) _)))) (fun W4 F4 rp1 rn1 ie1 ie2 rn2 => ?_)
  have ri1 : (-2147483648) ≤ iv2 a0 1 ∧ iv2 a0 1 ≤ 2147483647 := W4.int ty1 1
  exact c_vret C dX7_init_24 rfl (by decide) (rom0 hph (Nat.le_refl 0) (by decide)) ⟨rfl, X1, F4, W4, ⟨qn1, rn2, rp1, tqn1, (by omega), (fun k => rn1 k rfl), h0qn1, (by omega)⟩, nw1.sub (by decide)⟩
