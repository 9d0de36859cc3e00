section
set_option maxHeartbeats 4000000 in
set_option maxRecDepth 100000 in
theorem Y_acoll {l : Launch} {G : GT} {mi : Nat} {sk : Nat → Nat} {L : List Nat} {cl ln : Nat → Nat} {iv : Nat → Nat → Int} {rv : Nat → Nat → Option Nat}  {a0 : Nat} (hW : WT (g0 G) sk L cl ln iv rv) (t_a0 : ty L cl a0 200)  : Mc l G mi zPf 0 yJxa1e45_init_da8c8 cJxa1e45_init_da8c8 1 none 1 [.ref a0] L cl ln iv rv 0 (fun v L2 cl2 ln2 iv2 rv2 => v = none ∧ L = L2 ∧ cl = cl2 ∧ ln = ln2 ∧ iv = iv2 ∧ rv = rv2 ∧ (True)) := by
  refine Mc.mk (by decide) (Nat.le_of_ble_eq_true rfl) ?_
  intro p e s m args below meth c A C hM
  refine hv4 ((show zPf ln rv ≤ 0 from Nat.le_refl 0)) (show NW [] L L cl from NW.refl) (show XT L cl ln L cl ln from XT.refl) (show fT [] L cl iv rv iv rv from fT.refl) (fun hph nw0 hX0 hF0 => ?_)
  refine c_aload_n (j := 0) (x := a0) C dJxa1e45_init_da8c8_0 rfl ?_
  refine c_objInit C dJxa1e45_init_da8c8_1 w1_75 w1_30 w1_31 (by decide) (Nat.le_of_ble_eq_true rfl) ?_
  exact c_vret C dJxa1e45_init_da8c8_4 rfl (by decide) (rom0 hph hph (by decide)) ⟨rfl, rfl, rfl, rfl, rfl, rfl, trivial⟩
set_option maxHeartbeats 4000000 in
set_option maxRecDepth 100000 in
theorem Y_alist {l : Launch} {G : GT} {mi : Nat} {sk : Nat → Nat} {L : List Nat} {cl ln : Nat → Nat} {iv : Nat → Nat → Int} {rv : Nat → Nat → Option Nat}  {a0 : Nat} (hW : WT (g0 G) sk L cl ln iv rv) (t_a0 : ty L cl a0 200)  : Mc l G mi zPf 0 yJxc12de_init_da8c8 cJxc12de_init_da8c8 1 none 2 [.ref a0] L cl ln iv rv 0 (fun v L2 cl2 ln2 iv2 rv2 => v = none ∧ L = L2 ∧ cl = cl2 ∧ ln = ln2 ∧ rv = rv2 ∧ fT [200] L cl iv rv iv2 rv2 ∧ WT (g0 G) sk L2 cl2 ln2 iv2 rv2 ∧ (iv2 a0 2 = iv a0 2)) := by
  refine Mc.mk (by decide) (Nat.le_of_ble_eq_true rfl) ?_
  intro p e s m args below meth c A C hM
  refine hv4 ((show zPf ln rv ≤ 0 from Nat.le_refl 0)) (show NW [] L L cl from NW.refl) (show XT L cl ln L cl ln from XT.refl) (show fT [200] L cl iv rv iv rv from fT.refl) (fun hph nw0 hX0 hF0 => ?_)
  refine c_aload_n (j := 0) (x := a0) C dJxc12de_init_da8c8_0 rfl ?_
  refine c_callI (As := []) (rest := []) C hM (Y_acoll (a0 := a0) hW  t_a0  ) dJxc12de_init_da8c8_1 kI_Jxc12de_1 rfl rfl (Nat.le_of_ble_eq_true rfl) ⟨(Nat.le_of_ble_eq_true rfl), (Nat.le_of_ble_eq_true rfl)⟩ (rz0 hph (by decide)) (fun rh1 Lh1 clh1 lnh1 ivh1 rvh1 h1 => ⟨0, zk0, ?_⟩)
  obtain ⟨rfl, rfl, rfl, rfl, rfl, rfl, exf1⟩ := h1
  refine c_st (st2 := []) rfl ?_
  refine c_aload_n (j := 0) (x := a0) C dJxc12de_init_da8c8_4 rfl ?_
  refine c_iconst C dJxc12de_init_da8c8_5 ?_
  refine c_put (z := 0) (k := 0) C ck_0 dJxc12de_init_da8c8_6 w1_80 (by decide) rfl t_a0 rfl rfl (by decide) rfl (by rfl) (by rfl) (fun iv1 pq1 => ?_)
  refine hv3 (hW.puti pq1 t_a0 ⟨by decide, by decide⟩ rfl) (hF0.puti hX0 pq1 t_a0 rfl) (show iv1 a0 2 = iv a0 2 from by rw [pq1]; exact up2_j (by decide)) (fun W2 F1 ie1 => ?_)
  have ri1 : (-2147483648) ≤ iv1 a0 2 ∧ iv1 a0 2 ≤ 2147483647 := W2.int t_a0 2
  exact c_vret C dJxc12de_init_da8c8_9 rfl (by decide) (rom0 hph hph (by decide)) ⟨rfl, rfl, rfl, rfl, rfl, F1, W2, (by omega)⟩
set_option maxHeartbeats 4000000 in
set_option maxRecDepth 100000 in
theorem Y_list {l : Launch} {G : GT} {mi : Nat} {sk : Nat → Nat} {L : List Nat} {cl ln : Nat → Nat} {iv : Nat → Nat → Int} {rv : Nat → Nat → Option Nat}  {a0 : Nat} (hW : WT (g0 G) sk L cl ln iv rv) (t_a0 : ty L cl a0 200)  : Mc l G mi zPf 0 yJx4a65c_init_da8c8 cJx4a65c_init_da8c8 1 none 3 [.ref a0] L cl ln iv rv 0 (fun v L2 cl2 ln2 iv2 rv2 => v = none ∧ L = L2 ∧ cl = cl2 ∧ ln = ln2 ∧ fT [200] L cl iv rv iv2 rv2 ∧ WT (g0 G) sk L2 cl2 ln2 iv2 rv2 ∧ (rv2 a0 1 = some (g0 G) ∧ iv2 a0 2 = iv a0 2 ∧ (∀ k, ([1] : List Nat).contains k = false → rv2 a0 k = rv a0 k))) := by
  refine Mc.mk (by decide) (Nat.le_of_ble_eq_true rfl) ?_
  intro p e s m args below meth c A C hM
  refine hv4 ((show zPf ln rv ≤ 0 from Nat.le_refl 0)) (show NW [] L L cl from NW.refl) (show XT L cl ln L cl ln from XT.refl) (show fT [200] L cl iv rv iv rv from fT.refl) (fun hph nw0 hX0 hF0 => ?_)
  refine c_aload_n (j := 0) (x := a0) C dJx4a65c_init_da8c8_0 rfl ?_
  have ri1 : (-2147483648) ≤ iv a0 2 ∧ iv a0 2 ≤ 2147483647 := hW.int t_a0 2
  refine c_callI (As := []) (rest := []) C hM (Y_alist (a0 := a0) hW  t_a0  ) dJx4a65c_init_da8c8_1 kI_Jx4a65c_1 rfl rfl (Nat.le_of_ble_eq_true rfl) ⟨(Nat.le_of_ble_eq_true rfl), (Nat.le_of_ble_eq_true rfl)⟩ (rz0 hph (by decide)) (fun rh1 Lh1 clh1 lnh1 ivh1 rvh1 h1 => ⟨0, zk0, ?_⟩)
  obtain ⟨rfl, rfl, rfl, rfl, rfl, fl1, W1, exf1⟩ := h1
  have F1 := hF0.call hX0 fl1 rfl
  refine c_st (st2 := []) rfl ?_
  refine hv2 (show (-2147483648) ≤ ivh1 a0 2 ∧ ivh1 a0 2 ≤ 2147483647 from W1.int t_a0 2) (show ivh1 a0 2 = iv a0 2 from exf1) (fun ri2 gf1 => ?_)
  refine c_aload_n (j := 0) (x := a0) C dJx4a65c_init_da8c8_4 rfl ?_
  refine c_gets C dJx4a65c_init_da8c8_5 w1_76 ?_
  refine c_putr (x := (some (g0 G))) (k := 1) C ck_0 dJx4a65c_init_da8c8_8 w1_78 (by decide) rfl t_a0 rfl rfl (by decide) rfl (by rfl) (by rfl) (fun rv1 pq1 => ⟨0, (zp2 (Nat.le_refl _)), ?_⟩)
  refine hv4 (W1.putr pq1 t_a0 (fun qr => by rw [t_a0.2] at qr; cases qr) rfl (by decide)) (F1.putr hX0 pq1 t_a0 rfl) (show rv1 a0 1 = (some (g0 G)) from by rw [pq1]; exact upr_s) (show ∀ k, ([1] : List Nat).contains k = false → rv1 a0 k = rv a0 k from fun k hk => (show rv1 a0 k = rv a0 k from (by rw [pq1]; exact upr_j (fun e => by subst e; exact absurd hk (by decide))))) (fun W2 F2 rp1 rn1 => ?_)
  exact c_vret C dJx4a65c_init_da8c8_11 rfl (by decide) (rom0 hph (Nat.le_refl 0) (by decide)) ⟨rfl, rfl, rfl, rfl, F2, W2, ⟨rp1, (by omega), rn1⟩⟩
set_option maxHeartbeats 4000000 in
set_option maxRecDepth 100000 in
theorem Y_ints_2 {l : Launch} {G : GT} {mi : Nat} {sk : Nat → Nat} {L : List Nat} {cl ln : Nat → Nat} {iv : Nat → Nat → Int} {rv : Nat → Nat → Option Nat}  {a0 : Nat} {i : Int} (hW : WT (g0 G) sk L cl ln iv rv) (t_a0 : ty L cl a0 202) (h_i : -2147483648 ≤ i ∧ i ≤ 2147483647)  : Mc l G mi zPf 0 yX1_init cX1_init 2 none 1 [.ref a0, .int (iI i)] L cl ln iv rv 32 (fun v L2 cl2 ln2 iv2 rv2 => v = none ∧ XT L cl ln L2 cl2 ln2 ∧ fT [202] L cl iv rv iv2 rv2 ∧ WT (g0 G) sk L2 cl2 ln2 iv2 rv2 ∧ (∃ b, (∀ k, ([1] : List Nat).contains k = false → rv2 a0 k = rv a0 k) ∧ rv2 a0 1 = some b ∧ ty L2 cl2 b 32 ∧ ln2 b = 16 ∧ iv2 a0 0 = i ∧ iv2 a0 2 = 0) ∧ NW [32] L L2 cl2) := by
  refine Mc.mk (by decide) (Nat.le_of_ble_eq_true rfl) ?_
  intro p e s m args below meth c A C hM
  refine hv4 ((show zPf ln rv ≤ 0 from Nat.le_refl 0)) (show NW [] L L cl from NW.refl) (show XT L cl ln L cl ln from XT.refl) (show fT [202] L cl iv rv iv rv from fT.refl) (fun hph nw0 hX0 hF0 => ?_)
  refine c_aload_n (j := 0) (x := a0) C dX1_init_0 rfl ?_
  refine c_objInit C dX1_init_1 w1_37 w1_30 w1_31 (by decide) (Nat.le_of_ble_eq_true rfl) ?_
  refine c_aload_n (j := 0) (x := a0) C dX1_init_4 rfl ?_
  refine c_iconst C dX1_init_5 ?_
  refine c_put (z := 0) (k := 2) C ck_2 dX1_init_6 w1_43 (by decide) rfl t_a0 rfl rfl (by decide) rfl (by rfl) (by rfl) (fun iv1 pq1 => ?_)
  refine hv2 (hW.puti pq1 t_a0 ⟨by decide, by decide⟩ rfl) (hF0.puti hX0 pq1 t_a0 rfl) (fun W1 F1 => ?_)
  refine c_aload_n (j := 0) (x := a0) C dX1_init_9 rfl ?_
  refine c_iload_n (j := 1) C dX1_init_10 rfl ?_
  refine c_putF (z := i) (k := 0) C ck_2 dX1_init_11 w1_38 (by decide) rfl rfl rfl t_a0 rfl rfl (by decide) rfl (by rfl) (by rfl) (fun iv2 pq2 => ?_)
  refine hv2 (W1.puti pq2 t_a0 (show (-2147483648) ≤ i ∧ i ≤ 2147483647 by omega) rfl) (F1.puti hX0 pq2 t_a0 rfl) (fun W2 F2 => ?_)
  refine c_aload_n (j := 0) (x := a0) C dX1_init_14 rfl ?_
  refine c_bipush (z := 16) C dX1_init_15 (by decide) ?_
  refine c_newaI (z := 16) (N := 16) C 32 dX1_init_17 w1_57 rfl (by omega) (by omega) (rom2 hph hph (by decide)) (fun qn1 cln1 lnn1 ivn1 rvn1 hqn1 hcn1 hln1 hin1 hrn1 => ⟨32, (z_in (by omega)), ?_⟩)
  refine c_g0 C (fun hg1 => ?_)
  refine hv5 (show ∀ b, b ≠ qn1 → lnn1 b = ln b from (fun b hb => by rw [hln1]; exact va_up_ne _ _ hb)) (show lnn1 qn1 = 16 from by rw [hln1]; exact va_up_self _ _ _) (F2.new hX0 hqn1 hin1 hrn1) (show ty (L ++ [qn1]) cln1 qn1 32 from ty_new hcn1) (show qn1 ∉ L from fun h => hqn1 ((hX0 qn1 h).1)) (fun hxn1 lqn1 F3 tqn1 h0qn1 => ?_)
  refine hv2 (W2.new (ln2 := lnn1) hqn1 (hg1 qn1 (List.mem_append_right _ List.mem_cons_self)) hcn1 hxn1 hin1 hrn1 (fun _ => ⟨(show (-2147483648 : Int) ≤ 0 by decide), (show (0 : Int) ≤ 2147483647 by decide)⟩) (Or.inr (fun _ => rfl)) (fun _ => by show 16 ≤ lnn1 qn1 ∧ lnn1 qn1 ≤ 6000; omega) rfl rfl) (XT.new hqn1 hcn1 hxn1) (fun W3 xl1 => ?_)
  refine hv3 (hX0.trans xl1) (nw0.new xl1 hcn1) (xl1.ty t_a0) (fun X1 nw1 ty1 => ?_)
  refine c_putr (x := (some qn1)) (k := 1) C ck_2 dX1_init_19 w1_39 (by decide) rfl ty1 rfl rfl (by decide) rfl (by rfl) (by rfl) (fun rv1 pq3 => ⟨32, (zp2 (Nat.le_refl _)), ?_⟩)
  refine hv9 (W3.putr pq3 ty1 (fun qr => by rw [ty1.2] at qr; cases qr) rfl (by decide)) (F3.putr X1 pq3 ty1 rfl) (show rv1 a0 1 = (some qn1) from by rw [pq3]; exact upr_s) (show ∀ k, ([1] : List Nat).contains k = false → rv1 a0 k = rv a0 k from fun k hk => (Eq.trans (show rv1 a0 k = rvn1 a0 k from (by rw [pq3]; exact upr_j (fun e => by subst e; exact absurd hk (by decide)))) (show rvn1 a0 k = rv a0 k from (by rw [hrn1]; exact congrFun (up0_a (ne_in t_a0.1 hqn1)) _)))) (show ivn1 a0 0 = iv2 a0 0 from by rw [hin1]; exact congrFun (up0_a (ne_in t_a0.1 hqn1)) _) (show iv2 a0 0 = i from by rw [pq2]; exact up2_s) (show ivn1 a0 2 = iv2 a0 2 from by rw [hin1]; exact congrFun (up0_a (ne_in t_a0.1 hqn1)) _) (show iv2 a0 2 = iv1 a0 2 from by rw [pq2]; exact up2_j (by decide)) (show iv1 a0 2 = 0 from by rw [pq1]; exact up2_s) (fun W4 F4 rp1 rn1 ie1 ie2 ie3 ie4 ie5 => ?_)
  refine hv2 (show (-2147483648) ≤ ivn1 a0 0 ∧ ivn1 a0 0 ≤ 2147483647 from W4.int ty1 0) (show (-2147483648) ≤ ivn1 a0 2 ∧ ivn1 a0 2 ≤ 2147483647 from W4.int ty1 2) (fun ri1 ri2 => ?_)
  exact c_vret C dX1_init_22 rfl (by decide) (rom0 hph (Nat.le_refl 0) (by decide)) ⟨rfl, X1, F4, W4, ⟨qn1, rn1, rp1, tqn1, (by omega), (by omega), (by omega)⟩, nw1.sub (by decide)⟩
set_option maxHeartbeats 4000000 in
set_option maxRecDepth 100000 in
theorem Y_ints_3 {l : Launch} {G : GT} {mi : Nat} {sk : Nat → Nat} {L : List Nat} {cl ln : Nat → Nat} {iv : Nat → Nat → Int} {rv : Nat → Nat → Option Nat}  {a0 : Nat} {i : Int} (hW : WT (g0 G) sk L cl ln iv rv) (t_a0 : ty L cl a0 202) (h_i : -2147483648 ≤ i ∧ i ≤ 2147483647)  : Mc l G mi zPf 0 yX1_init cX1_init 2 none 1 [.ref a0, .int (iI i)] L cl ln iv rv 32 (fun v L2 cl2 ln2 iv2 rv2 => v = none ∧ XT L cl ln L2 cl2 ln2 ∧ fT [202] L cl iv rv iv2 rv2 ∧ WT (g0 G) sk L2 cl2 ln2 iv2 rv2 ∧ (∃ b, (∀ k, ([1] : List Nat).contains k = false → rv2 a0 k = rv a0 k) ∧ rv2 a0 1 = some b ∧ ty L2 cl2 b 33 ∧ ln2 b = 16 ∧ iv2 a0 0 = i ∧ iv2 a0 2 = 0) ∧ NW [33] L L2 cl2) := by
  refine Mc.mk (by decide) (Nat.le_of_ble_eq_true rfl) ?_
  intro p e s m args below meth c A C hM
  refine hv4 ((show zPf ln rv ≤ 0 from Nat.le_refl 0)) (show NW [] L L cl from NW.refl) (show XT L cl ln L cl ln from XT.refl) (show fT [202] L cl iv rv iv rv from fT.refl) (fun hph nw0 hX0 hF0 => ?_)
  refine c_aload_n (j := 0) (x := a0) C dX1_init_0 rfl ?_
  refine c_objInit C dX1_init_1 w1_37 w1_30 w1_31 (by decide) (Nat.le_of_ble_eq_true rfl) ?_
  refine c_aload_n (j := 0) (x := a0) C dX1_init_4 rfl ?_
  refine c_iconst C dX1_init_5 ?_
  refine c_put (z := 0) (k := 2) C ck_2 dX1_init_6 w1_43 (by decide) rfl t_a0 rfl rfl (by decide) rfl (by rfl) (by rfl) (fun iv1 pq1 => ?_)
  refine hv2 (hW.puti pq1 t_a0 ⟨by decide, by decide⟩ rfl) (hF0.puti hX0 pq1 t_a0 rfl) (fun W1 F1 => ?_)
  refine c_aload_n (j := 0) (x := a0) C dX1_init_9 rfl ?_
  refine c_iload_n (j := 1) C dX1_init_10 rfl ?_
  refine c_putF (z := i) (k := 0) C ck_2 dX1_init_11 w1_38 (by decide) rfl rfl rfl t_a0 rfl rfl (by decide) rfl (by rfl) (by rfl) (fun iv2 pq2 => ?_)
  refine hv2 (W1.puti pq2 t_a0 (show (-2147483648) ≤ i ∧ i ≤ 2147483647 by omega) rfl) (F1.puti hX0 pq2 t_a0 rfl) (fun W2 F2 => ?_)
  refine c_aload_n (j := 0) (x := a0) C dX1_init_14 rfl ?_
  refine c_bipush (z := 16) C dX1_init_15 (by decide) ?_
  refine c_newaI (z := 16) (N := 16) C 33 dX1_init_17 w1_57 rfl (by omega) (by omega) (rom2 hph hph (by decide)) (fun qn1 cln1 lnn1 ivn1 rvn1 hqn1 hcn1 hln1 hin1 hrn1 => ⟨32, (z_in (by omega)), ?_⟩)
  refine c_g0 C (fun hg1 => ?_)
  refine hv5 (show ∀ b, b ≠ qn1 → lnn1 b = ln b from (fun b hb => by rw [hln1]; exact va_up_ne _ _ hb)) (show lnn1 qn1 = 16 from by rw [hln1]; exact va_up_self _ _ _) (F2.new hX0 hqn1 hin1 hrn1) (show ty (L ++ [qn1]) cln1 qn1 33 from ty_new hcn1) (show qn1 ∉ L from fun h => hqn1 ((hX0 qn1 h).1)) (fun hxn1 lqn1 F3 tqn1 h0qn1 => ?_)
  refine hv2 (W2.new (ln2 := lnn1) hqn1 (hg1 qn1 (List.mem_append_right _ List.mem_cons_self)) hcn1 hxn1 hin1 hrn1 (fun _ => ⟨(show (-2147483648 : Int) ≤ 0 by decide), (show (0 : Int) ≤ 2147483647 by decide)⟩) (Or.inr (fun _ => rfl)) (fun _ => by show 16 ≤ lnn1 qn1 ∧ lnn1 qn1 ≤ 1000; omega) rfl rfl) (XT.new hqn1 hcn1 hxn1) (fun W3 xl1 => ?_)
  refine hv3 (hX0.trans xl1) (nw0.new xl1 hcn1) (xl1.ty t_a0) (fun X1 nw1 ty1 => ?_)
  refine c_putr (x := (some qn1)) (k := 1) C ck_2 dX1_init_19 w1_39 (by decide) rfl ty1 rfl rfl (by decide) rfl (by rfl) (by rfl) (fun rv1 pq3 => ⟨32, (zp2 (Nat.le_refl _)), ?_⟩)
  refine hv9 (W3.putr pq3 ty1 (fun qr => by rw [ty1.2] at qr; cases qr) rfl (by decide)) (F3.putr X1 pq3 ty1 rfl) (show rv1 a0 1 = (some qn1) from by rw [pq3]; exact upr_s) (show ∀ k, ([1] : List Nat).contains k = false → rv1 a0 k = rv a0 k from fun k hk => (Eq.trans (show rv1 a0 k = rvn1 a0 k from (by rw [pq3]; exact upr_j (fun e => by subst e; exact absurd hk (by decide)))) (show rvn1 a0 k = rv a0 k from (by rw [hrn1]; exact congrFun (up0_a (ne_in t_a0.1 hqn1)) _)))) (show ivn1 a0 0 = iv2 a0 0 from by rw [hin1]; exact congrFun (up0_a (ne_in t_a0.1 hqn1)) _) (show iv2 a0 0 = i from by rw [pq2]; exact up2_s) (show ivn1 a0 2 = iv2 a0 2 from by rw [hin1]; exact congrFun (up0_a (ne_in t_a0.1 hqn1)) _) (show iv2 a0 2 = iv1 a0 2 from by rw [pq2]; exact up2_j (by decide)) (show iv1 a0 2 = 0 from by rw [pq1]; exact up2_s) (fun W4 F4 rp1 rn1 ie1 ie2 ie3 ie4 ie5 => ?_)
  refine hv2 (show (-2147483648) ≤ ivn1 a0 0 ∧ ivn1 a0 0 ≤ 2147483647 from W4.int ty1 0) (show (-2147483648) ≤ ivn1 a0 2 ∧ ivn1 a0 2 ≤ 2147483647 from W4.int ty1 2) (fun ri1 ri2 => ?_)
  exact c_vret C dX1_init_22 rfl (by decide) (rom0 hph (Nat.le_refl 0) (by decide)) ⟨rfl, X1, F4, W4, ⟨qn1, rn1, rp1, tqn1, (by omega), (by omega), (by omega)⟩, nw1.sub (by decide)⟩
set_option maxHeartbeats 4000000 in
set_option maxRecDepth 100000 in
theorem Y_ints_4 {l : Launch} {G : GT} {mi : Nat} {sk : Nat → Nat} {L : List Nat} {cl ln : Nat → Nat} {iv : Nat → Nat → Int} {rv : Nat → Nat → Option Nat}  {a0 : Nat} {i : Int} (hW : WT (g0 G) sk L cl ln iv rv) (t_a0 : ty L cl a0 202) (h_i : -2147483648 ≤ i ∧ i ≤ 2147483647)  : Mc l G mi zPf 0 yX1_init cX1_init 2 none 1 [.ref a0, .int (iI i)] L cl ln iv rv 32 (fun v L2 cl2 ln2 iv2 rv2 => v = none ∧ XT L cl ln L2 cl2 ln2 ∧ fT [202] L cl iv rv iv2 rv2 ∧ WT (g0 G) sk L2 cl2 ln2 iv2 rv2 ∧ (∃ b, (∀ k, ([1] : List Nat).contains k = false → rv2 a0 k = rv a0 k) ∧ rv2 a0 1 = some b ∧ ty L2 cl2 b 34 ∧ ln2 b = 16 ∧ iv2 a0 0 = i ∧ iv2 a0 2 = 0) ∧ NW [34] L L2 cl2) := by
  refine Mc.mk (by decide) (Nat.le_of_ble_eq_true rfl) ?_
  intro p e s m args below meth c A C hM
  refine hv4 ((show zPf ln rv ≤ 0 from Nat.le_refl 0)) (show NW [] L L cl from NW.refl) (show XT L cl ln L cl ln from XT.refl) (show fT [202] L cl iv rv iv rv from fT.refl) (fun hph nw0 hX0 hF0 => ?_)
  refine c_aload_n (j := 0) (x := a0) C dX1_init_0 rfl ?_
  refine c_objInit C dX1_init_1 w1_37 w1_30 w1_31 (by decide) (Nat.le_of_ble_eq_true rfl) ?_
  refine c_aload_n (j := 0) (x := a0) C dX1_init_4 rfl ?_
  refine c_iconst C dX1_init_5 ?_
  refine c_put (z := 0) (k := 2) C ck_2 dX1_init_6 w1_43 (by decide) rfl t_a0 rfl rfl (by decide) rfl (by rfl) (by rfl) (fun iv1 pq1 => ?_)
  refine hv2 (hW.puti pq1 t_a0 ⟨by decide, by decide⟩ rfl) (hF0.puti hX0 pq1 t_a0 rfl) (fun W1 F1 => ?_)
  refine c_aload_n (j := 0) (x := a0) C dX1_init_9 rfl ?_
  refine c_iload_n (j := 1) C dX1_init_10 rfl ?_
  refine c_putF (z := i) (k := 0) C ck_2 dX1_init_11 w1_38 (by decide) rfl rfl rfl t_a0 rfl rfl (by decide) rfl (by rfl) (by rfl) (fun iv2 pq2 => ?_)
  refine hv2 (W1.puti pq2 t_a0 (show (-2147483648) ≤ i ∧ i ≤ 2147483647 by omega) rfl) (F1.puti hX0 pq2 t_a0 rfl) (fun W2 F2 => ?_)
  refine c_aload_n (j := 0) (x := a0) C dX1_init_14 rfl ?_
  refine c_bipush (z := 16) C dX1_init_15 (by decide) ?_
  refine c_newaI (z := 16) (N := 16) C 34 dX1_init_17 w1_57 rfl (by omega) (by omega) (rom2 hph hph (by decide)) (fun qn1 cln1 lnn1 ivn1 rvn1 hqn1 hcn1 hln1 hin1 hrn1 => ⟨32, (z_in (by omega)), ?_⟩)
  refine c_g0 C (fun hg1 => ?_)
  refine hv5 (show ∀ b, b ≠ qn1 → lnn1 b = ln b from (fun b hb => by rw [hln1]; exact va_up_ne _ _ hb)) (show lnn1 qn1 = 16 from by rw [hln1]; exact va_up_self _ _ _) (F2.new hX0 hqn1 hin1 hrn1) (show ty (L ++ [qn1]) cln1 qn1 34 from ty_new hcn1) (show qn1 ∉ L from fun h => hqn1 ((hX0 qn1 h).1)) (fun hxn1 lqn1 F3 tqn1 h0qn1 => ?_)
  refine hv2 (W2.new (ln2 := lnn1) hqn1 (hg1 qn1 (List.mem_append_right _ List.mem_cons_self)) hcn1 hxn1 hin1 hrn1 (fun _ => ⟨(show (-2147483648 : Int) ≤ 0 by decide), (show (0 : Int) ≤ 2147483647 by decide)⟩) (Or.inr (fun _ => rfl)) (fun _ => by show 16 ≤ lnn1 qn1 ∧ lnn1 qn1 ≤ 8000; omega) rfl rfl) (XT.new hqn1 hcn1 hxn1) (fun W3 xl1 => ?_)
  refine hv3 (hX0.trans xl1) (nw0.new xl1 hcn1) (xl1.ty t_a0) (fun X1 nw1 ty1 => ?_)
  refine c_putr (x := (some qn1)) (k := 1) C ck_2 dX1_init_19 w1_39 (by decide) rfl ty1 rfl rfl (by decide) rfl (by rfl) (by rfl) (fun rv1 pq3 => ⟨32, (zp2 (Nat.le_refl _)), ?_⟩)
  refine hv9 (W3.putr pq3 ty1 (fun qr => by rw [ty1.2] at qr; cases qr) rfl (by decide)) (F3.putr X1 pq3 ty1 rfl) (show rv1 a0 1 = (some qn1) from by rw [pq3]; exact upr_s) (show ∀ k, ([1] : List Nat).contains k = false → rv1 a0 k = rv a0 k from fun k hk => (Eq.trans (show rv1 a0 k = rvn1 a0 k from (by rw [pq3]; exact upr_j (fun e => by subst e; exact absurd hk (by decide)))) (show rvn1 a0 k = rv a0 k from (by rw [hrn1]; exact congrFun (up0_a (ne_in t_a0.1 hqn1)) _)))) (show ivn1 a0 0 = iv2 a0 0 from by rw [hin1]; exact congrFun (up0_a (ne_in t_a0.1 hqn1)) _) (show iv2 a0 0 = i from by rw [pq2]; exact up2_s) (show ivn1 a0 2 = iv2 a0 2 from by rw [hin1]; exact congrFun (up0_a (ne_in t_a0.1 hqn1)) _) (show iv2 a0 2 = iv1 a0 2 from by rw [pq2]; exact up2_j (by decide)) (show iv1 a0 2 = 0 from by rw [pq1]; exact up2_s) (fun W4 F4 rp1 rn1 ie1 ie2 ie3 ie4 ie5 => ?_)
  refine hv2 (show (-2147483648) ≤ ivn1 a0 0 ∧ ivn1 a0 0 ≤ 2147483647 from W4.int ty1 0) (show (-2147483648) ≤ ivn1 a0 2 ∧ ivn1 a0 2 ≤ 2147483647 from W4.int ty1 2) (fun ri1 ri2 => ?_)
  exact c_vret C dX1_init_22 rfl (by decide) (rom0 hph (Nat.le_refl 0) (by decide)) ⟨rfl, X1, F4, W4, ⟨qn1, rn1, rp1, tqn1, (by omega), (by omega), (by omega)⟩, nw1.sub (by decide)⟩
set_option maxHeartbeats 4000000 in
set_option maxRecDepth 100000 in
theorem Y_ints_5 {l : Launch} {G : GT} {mi : Nat} {sk : Nat → Nat} {L : List Nat} {cl ln : Nat → Nat} {iv : Nat → Nat → Int} {rv : Nat → Nat → Option Nat}  {a0 : Nat} {i : Int} (hW : WT (g0 G) sk L cl ln iv rv) (t_a0 : ty L cl a0 202) (h_i : -2147483648 ≤ i ∧ i ≤ 2147483647)  : Mc l G mi zPf 0 yX1_init cX1_init 2 none 1 [.ref a0, .int (iI i)] L cl ln iv rv 32 (fun v L2 cl2 ln2 iv2 rv2 => v = none ∧ XT L cl ln L2 cl2 ln2 ∧ fT [202] L cl iv rv iv2 rv2 ∧ WT (g0 G) sk L2 cl2 ln2 iv2 rv2 ∧ (∃ b, (∀ k, ([1] : List Nat).contains k = false → rv2 a0 k = rv a0 k) ∧ rv2 a0 1 = some b ∧ ty L2 cl2 b 35 ∧ ln2 b = 16 ∧ iv2 a0 0 = i ∧ iv2 a0 2 = 0) ∧ NW [35] L L2 cl2) := by
  refine Mc.mk (by decide) (Nat.le_of_ble_eq_true rfl) ?_
  intro p e s m args below meth c A C hM
  refine hv4 ((show zPf ln rv ≤ 0 from Nat.le_refl 0)) (show NW [] L L cl from NW.refl) (show XT L cl ln L cl ln from XT.refl) (show fT [202] L cl iv rv iv rv from fT.refl) (fun hph nw0 hX0 hF0 => ?_)
  refine c_aload_n (j := 0) (x := a0) C dX1_init_0 rfl ?_
  refine c_objInit C dX1_init_1 w1_37 w1_30 w1_31 (by decide) (Nat.le_of_ble_eq_true rfl) ?_
  refine c_aload_n (j := 0) (x := a0) C dX1_init_4 rfl ?_
  refine c_iconst C dX1_init_5 ?_
  refine c_put (z := 0) (k := 2) C ck_2 dX1_init_6 w1_43 (by decide) rfl t_a0 rfl rfl (by decide) rfl (by rfl) (by rfl) (fun iv1 pq1 => ?_)
  refine hv2 (hW.puti pq1 t_a0 ⟨by decide, by decide⟩ rfl) (hF0.puti hX0 pq1 t_a0 rfl) (fun W1 F1 => ?_)
  refine c_aload_n (j := 0) (x := a0) C dX1_init_9 rfl ?_
  refine c_iload_n (j := 1) C dX1_init_10 rfl ?_
  refine c_putF (z := i) (k := 0) C ck_2 dX1_init_11 w1_38 (by decide) rfl rfl rfl t_a0 rfl rfl (by decide) rfl (by rfl) (by rfl) (fun iv2 pq2 => ?_)
  refine hv2 (W1.puti pq2 t_a0 (show (-2147483648) ≤ i ∧ i ≤ 2147483647 by omega) rfl) (F1.puti hX0 pq2 t_a0 rfl) (fun W2 F2 => ?_)
  refine c_aload_n (j := 0) (x := a0) C dX1_init_14 rfl ?_
  refine c_bipush (z := 16) C dX1_init_15 (by decide) ?_
  refine c_newaI (z := 16) (N := 16) C 35 dX1_init_17 w1_57 rfl (by omega) (by omega) (rom2 hph hph (by decide)) (fun qn1 cln1 lnn1 ivn1 rvn1 hqn1 hcn1 hln1 hin1 hrn1 => ⟨32, (z_in (by omega)), ?_⟩)
  refine c_g0 C (fun hg1 => ?_)
  refine hv5 (show ∀ b, b ≠ qn1 → lnn1 b = ln b from (fun b hb => by rw [hln1]; exact va_up_ne _ _ hb)) (show lnn1 qn1 = 16 from by rw [hln1]; exact va_up_self _ _ _) (F2.new hX0 hqn1 hin1 hrn1) (show ty (L ++ [qn1]) cln1 qn1 35 from ty_new hcn1) (show qn1 ∉ L from fun h => hqn1 ((hX0 qn1 h).1)) (fun hxn1 lqn1 F3 tqn1 h0qn1 => ?_)
  refine hv2 (W2.new (ln2 := lnn1) hqn1 (hg1 qn1 (List.mem_append_right _ List.mem_cons_self)) hcn1 hxn1 hin1 hrn1 (fun _ => ⟨(show (-2147483648 : Int) ≤ 0 by decide), (show (0 : Int) ≤ 2147483647 by decide)⟩) (Or.inr (fun _ => rfl)) (fun _ => by show 16 ≤ lnn1 qn1 ∧ lnn1 qn1 ≤ 400; omega) rfl rfl) (XT.new hqn1 hcn1 hxn1) (fun W3 xl1 => ?_)
  refine hv3 (hX0.trans xl1) (nw0.new xl1 hcn1) (xl1.ty t_a0) (fun X1 nw1 ty1 => ?_)
  refine c_putr (x := (some qn1)) (k := 1) C ck_2 dX1_init_19 w1_39 (by decide) rfl ty1 rfl rfl (by decide) rfl (by rfl) (by rfl) (fun rv1 pq3 => ⟨32, (zp2 (Nat.le_refl _)), ?_⟩)
  refine hv9 (W3.putr pq3 ty1 (fun qr => by rw [ty1.2] at qr; cases qr) rfl (by decide)) (F3.putr X1 pq3 ty1 rfl) (show rv1 a0 1 = (some qn1) from by rw [pq3]; exact upr_s) (show ∀ k, ([1] : List Nat).contains k = false → rv1 a0 k = rv a0 k from fun k hk => (Eq.trans (show rv1 a0 k = rvn1 a0 k from (by rw [pq3]; exact upr_j (fun e => by subst e; exact absurd hk (by decide)))) (show rvn1 a0 k = rv a0 k from (by rw [hrn1]; exact congrFun (up0_a (ne_in t_a0.1 hqn1)) _)))) (show ivn1 a0 0 = iv2 a0 0 from by rw [hin1]; exact congrFun (up0_a (ne_in t_a0.1 hqn1)) _) (show iv2 a0 0 = i from by rw [pq2]; exact up2_s) (show ivn1 a0 2 = iv2 a0 2 from by rw [hin1]; exact congrFun (up0_a (ne_in t_a0.1 hqn1)) _) (show iv2 a0 2 = iv1 a0 2 from by rw [pq2]; exact up2_j (by decide)) (show iv1 a0 2 = 0 from by rw [pq1]; exact up2_s) (fun W4 F4 rp1 rn1 ie1 ie2 ie3 ie4 ie5 => ?_)
  refine hv2 (show (-2147483648) ≤ ivn1 a0 0 ∧ ivn1 a0 0 ≤ 2147483647 from W4.int ty1 0) (show (-2147483648) ≤ ivn1 a0 2 ∧ ivn1 a0 2 ≤ 2147483647 from W4.int ty1 2) (fun ri1 ri2 => ?_)
  exact c_vret C dX1_init_22 rfl (by decide) (rom0 hph (Nat.le_refl 0) (by decide)) ⟨rfl, X1, F4, W4, ⟨qn1, rn1, rp1, tqn1, (by omega), (by omega), (by omega)⟩, nw1.sub (by decide)⟩
set_option maxHeartbeats 4000000 in
set_option maxRecDepth 100000 in
theorem Y_ints_6 {l : Launch} {G : GT} {mi : Nat} {sk : Nat → Nat} {L : List Nat} {cl ln : Nat → Nat} {iv : Nat → Nat → Int} {rv : Nat → Nat → Option Nat}  {a0 : Nat} {i : Int} (hW : WT (g0 G) sk L cl ln iv rv) (t_a0 : ty L cl a0 202) (h_i : -2147483648 ≤ i ∧ i ≤ 2147483647)  : Mc l G mi zPf 0 yX1_init cX1_init 2 none 1 [.ref a0, .int (iI i)] L cl ln iv rv 32 (fun v L2 cl2 ln2 iv2 rv2 => v = none ∧ XT L cl ln L2 cl2 ln2 ∧ fT [202] L cl iv rv iv2 rv2 ∧ WT (g0 G) sk L2 cl2 ln2 iv2 rv2 ∧ (∃ b, (∀ k, ([1] : List Nat).contains k = false → rv2 a0 k = rv a0 k) ∧ rv2 a0 1 = some b ∧ ty L2 cl2 b 36 ∧ ln2 b = 16 ∧ iv2 a0 0 = i ∧ iv2 a0 2 = 0) ∧ NW [36] L L2 cl2) := by
  refine Mc.mk (by decide) (Nat.le_of_ble_eq_true rfl) ?_
  intro p e s m args below meth c A C hM
  refine hv4 ((show zPf ln rv ≤ 0 from Nat.le_refl 0)) (show NW [] L L cl from NW.refl) (show XT L cl ln L cl ln from XT.refl) (show fT [202] L cl iv rv iv rv from fT.refl) (fun hph nw0 hX0 hF0 => ?_)
  refine c_aload_n (j := 0) (x := a0) C dX1_init_0 rfl ?_
  refine c_objInit C dX1_init_1 w1_37 w1_30 w1_31 (by decide) (Nat.le_of_ble_eq_true rfl) ?_
  refine c_aload_n (j := 0) (x := a0) C dX1_init_4 rfl ?_
  refine c_iconst C dX1_init_5 ?_
  refine c_put (z := 0) (k := 2) C ck_2 dX1_init_6 w1_43 (by decide) rfl t_a0 rfl rfl (by decide) rfl (by rfl) (by rfl) (fun iv1 pq1 => ?_)
  refine hv2 (hW.puti pq1 t_a0 ⟨by decide, by decide⟩ rfl) (hF0.puti hX0 pq1 t_a0 rfl) (fun W1 F1 => ?_)
  refine c_aload_n (j := 0) (x := a0) C dX1_init_9 rfl ?_
  refine c_iload_n (j := 1) C dX1_init_10 rfl ?_
  refine c_putF (z := i) (k := 0) C ck_2 dX1_init_11 w1_38 (by decide) rfl rfl rfl t_a0 rfl rfl (by decide) rfl (by rfl) (by rfl) (fun iv2 pq2 => ?_)
  refine hv2 (W1.puti pq2 t_a0 (show (-2147483648) ≤ i ∧ i ≤ 2147483647 by omega) rfl) (F1.puti hX0 pq2 t_a0 rfl) (fun W2 F2 => ?_)
  refine c_aload_n (j := 0) (x := a0) C dX1_init_14 rfl ?_
  refine c_bipush (z := 16) C dX1_init_15 (by decide) ?_
  refine c_newaI (z := 16) (N := 16) C 36 dX1_init_17 w1_57 rfl (by omega) (by omega) (rom2 hph hph (by decide)) (fun qn1 cln1 lnn1 ivn1 rvn1 hqn1 hcn1 hln1 hin1 hrn1 => ⟨32, (z_in (by omega)), ?_⟩)
  refine c_g0 C (fun hg1 => ?_)
  refine hv5 (show ∀ b, b ≠ qn1 → lnn1 b = ln b from (fun b hb => by rw [hln1]; exact va_up_ne _ _ hb)) (show lnn1 qn1 = 16 from by rw [hln1]; exact va_up_self _ _ _) (F2.new hX0 hqn1 hin1 hrn1) (show ty (L ++ [qn1]) cln1 qn1 36 from ty_new hcn1) (show qn1 ∉ L from fun h => hqn1 ((hX0 qn1 h).1)) (fun hxn1 lqn1 F3 tqn1 h0qn1 => ?_)
  refine hv2 (W2.new (ln2 := lnn1) hqn1 (hg1 qn1 (List.mem_append_right _ List.mem_cons_self)) hcn1 hxn1 hin1 hrn1 (fun _ => ⟨(show (-2147483648 : Int) ≤ 0 by decide), (show (0 : Int) ≤ 2147483647 by decide)⟩) (Or.inr (fun _ => rfl)) (fun _ => by show 16 ≤ lnn1 qn1 ∧ lnn1 qn1 ≤ 12006; omega) rfl rfl) (XT.new hqn1 hcn1 hxn1) (fun W3 xl1 => ?_)
  refine hv3 (hX0.trans xl1) (nw0.new xl1 hcn1) (xl1.ty t_a0) (fun X1 nw1 ty1 => ?_)
  refine c_putr (x := (some qn1)) (k := 1) C ck_2 dX1_init_19 w1_39 (by decide) rfl ty1 rfl rfl (by decide) rfl (by rfl) (by rfl) (fun rv1 pq3 => ⟨32, (zp2 (Nat.le_refl _)), ?_⟩)
  refine hv9 (W3.putr pq3 ty1 (fun qr => by rw [ty1.2] at qr; cases qr) rfl (by decide)) (F3.putr X1 pq3 ty1 rfl) (show rv1 a0 1 = (some qn1) from by rw [pq3]; exact upr_s) (show ∀ k, ([1] : List Nat).contains k = false → rv1 a0 k = rv a0 k from fun k hk => (Eq.trans (show rv1 a0 k = rvn1 a0 k from (by rw [pq3]; exact upr_j (fun e => by subst e; exact absurd hk (by decide)))) (show rvn1 a0 k = rv a0 k from (by rw [hrn1]; exact congrFun (up0_a (ne_in t_a0.1 hqn1)) _)))) (show ivn1 a0 0 = iv2 a0 0 from by rw [hin1]; exact congrFun (up0_a (ne_in t_a0.1 hqn1)) _) (show iv2 a0 0 = i from by rw [pq2]; exact up2_s) (show ivn1 a0 2 = iv2 a0 2 from by rw [hin1]; exact congrFun (up0_a (ne_in t_a0.1 hqn1)) _) (show iv2 a0 2 = iv1 a0 2 from by rw [pq2]; exact up2_j (by decide)) (show iv1 a0 2 = 0 from by rw [pq1]; exact up2_s) (fun W4 F4 rp1 rn1 ie1 ie2 ie3 ie4 ie5 => ?_)
  refine hv2 (show (-2147483648) ≤ ivn1 a0 0 ∧ ivn1 a0 0 ≤ 2147483647 from W4.int ty1 0) (show (-2147483648) ≤ ivn1 a0 2 ∧ ivn1 a0 2 ≤ 2147483647 from W4.int ty1 2) (fun ri1 ri2 => ?_)
  exact c_vret C dX1_init_22 rfl (by decide) (rom0 hph (Nat.le_refl 0) (by decide)) ⟨rfl, X1, F4, W4, ⟨qn1, rn1, rp1, tqn1, (by omega), (by omega), (by omega)⟩, nw1.sub (by decide)⟩
set_option maxHeartbeats 4000000 in
set_option maxRecDepth 100000 in
theorem Y_ints_7 {l : Launch} {G : GT} {mi : Nat} {sk : Nat → Nat} {L : List Nat} {cl ln : Nat → Nat} {iv : Nat → Nat → Int} {rv : Nat → Nat → Option Nat}  {a0 : Nat} {i : Int} (hW : WT (g0 G) sk L cl ln iv rv) (t_a0 : ty L cl a0 202) (h_i : -2147483648 ≤ i ∧ i ≤ 2147483647)  : Mc l G mi zPf 0 yX1_init cX1_init 2 none 1 [.ref a0, .int (iI i)] L cl ln iv rv 32 (fun v L2 cl2 ln2 iv2 rv2 => v = none ∧ XT L cl ln L2 cl2 ln2 ∧ fT [202] L cl iv rv iv2 rv2 ∧ WT (g0 G) sk L2 cl2 ln2 iv2 rv2 ∧ (∃ b, (∀ k, ([1] : List Nat).contains k = false → rv2 a0 k = rv a0 k) ∧ rv2 a0 1 = some b ∧ ty L2 cl2 b 37 ∧ ln2 b = 16 ∧ iv2 a0 0 = i ∧ iv2 a0 2 = 0) ∧ NW [37] L L2 cl2) := by
  refine Mc.mk (by decide) (Nat.le_of_ble_eq_true rfl) ?_
  intro p e s m args below meth c A C hM
  refine hv4 ((show zPf ln rv ≤ 0 from Nat.le_refl 0)) (show NW [] L L cl from NW.refl) (show XT L cl ln L cl ln from XT.refl) (show fT [202] L cl iv rv iv rv from fT.refl) (fun hph nw0 hX0 hF0 => ?_)
  refine c_aload_n (j := 0) (x := a0) C dX1_init_0 rfl ?_
  refine c_objInit C dX1_init_1 w1_37 w1_30 w1_31 (by decide) (Nat.le_of_ble_eq_true rfl) ?_
  refine c_aload_n (j := 0) (x := a0) C dX1_init_4 rfl ?_
  refine c_iconst C dX1_init_5 ?_
  refine c_put (z := 0) (k := 2) C ck_2 dX1_init_6 w1_43 (by decide) rfl t_a0 rfl rfl (by decide) rfl (by rfl) (by rfl) (fun iv1 pq1 => ?_)
  refine hv2 (hW.puti pq1 t_a0 ⟨by decide, by decide⟩ rfl) (hF0.puti hX0 pq1 t_a0 rfl) (fun W1 F1 => ?_)
  refine c_aload_n (j := 0) (x := a0) C dX1_init_9 rfl ?_
  refine c_iload_n (j := 1) C dX1_init_10 rfl ?_
  refine c_putF (z := i) (k := 0) C ck_2 dX1_init_11 w1_38 (by decide) rfl rfl rfl t_a0 rfl rfl (by decide) rfl (by rfl) (by rfl) (fun iv2 pq2 => ?_)
  refine hv2 (W1.puti pq2 t_a0 (show (-2147483648) ≤ i ∧ i ≤ 2147483647 by omega) rfl) (F1.puti hX0 pq2 t_a0 rfl) (fun W2 F2 => ?_)
  refine c_aload_n (j := 0) (x := a0) C dX1_init_14 rfl ?_
  refine c_bipush (z := 16) C dX1_init_15 (by decide) ?_
  refine c_newaI (z := 16) (N := 16) C 37 dX1_init_17 w1_57 rfl (by omega) (by omega) (rom2 hph hph (by decide)) (fun qn1 cln1 lnn1 ivn1 rvn1 hqn1 hcn1 hln1 hin1 hrn1 => ⟨32, (z_in (by omega)), ?_⟩)
  refine c_g0 C (fun hg1 => ?_)
  refine hv5 (show ∀ b, b ≠ qn1 → lnn1 b = ln b from (fun b hb => by rw [hln1]; exact va_up_ne _ _ hb)) (show lnn1 qn1 = 16 from by rw [hln1]; exact va_up_self _ _ _) (F2.new hX0 hqn1 hin1 hrn1) (show ty (L ++ [qn1]) cln1 qn1 37 from ty_new hcn1) (show qn1 ∉ L from fun h => hqn1 ((hX0 qn1 h).1)) (fun hxn1 lqn1 F3 tqn1 h0qn1 => ?_)
  refine hv2 (W2.new (ln2 := lnn1) hqn1 (hg1 qn1 (List.mem_append_right _ List.mem_cons_self)) hcn1 hxn1 hin1 hrn1 (fun _ => ⟨(show (-2147483648 : Int) ≤ 0 by decide), (show (0 : Int) ≤ 2147483647 by decide)⟩) (Or.inr (fun _ => rfl)) (fun _ => by show 16 ≤ lnn1 qn1 ∧ lnn1 qn1 ≤ 12006; omega) rfl rfl) (XT.new hqn1 hcn1 hxn1) (fun W3 xl1 => ?_)
  refine hv3 (hX0.trans xl1) (nw0.new xl1 hcn1) (xl1.ty t_a0) (fun X1 nw1 ty1 => ?_)
  refine c_putr (x := (some qn1)) (k := 1) C ck_2 dX1_init_19 w1_39 (by decide) rfl ty1 rfl rfl (by decide) rfl (by rfl) (by rfl) (fun rv1 pq3 => ⟨32, (zp2 (Nat.le_refl _)), ?_⟩)
  refine hv9 (W3.putr pq3 ty1 (fun qr => by rw [ty1.2] at qr; cases qr) rfl (by decide)) (F3.putr X1 pq3 ty1 rfl) (show rv1 a0 1 = (some qn1) from by rw [pq3]; exact upr_s) (show ∀ k, ([1] : List Nat).contains k = false → rv1 a0 k = rv a0 k from fun k hk => (Eq.trans (show rv1 a0 k = rvn1 a0 k from (by rw [pq3]; exact upr_j (fun e => by subst e; exact absurd hk (by decide)))) (show rvn1 a0 k = rv a0 k from (by rw [hrn1]; exact congrFun (up0_a (ne_in t_a0.1 hqn1)) _)))) (show ivn1 a0 0 = iv2 a0 0 from by rw [hin1]; exact congrFun (up0_a (ne_in t_a0.1 hqn1)) _) (show iv2 a0 0 = i from by rw [pq2]; exact up2_s) (show ivn1 a0 2 = iv2 a0 2 from by rw [hin1]; exact congrFun (up0_a (ne_in t_a0.1 hqn1)) _) (show iv2 a0 2 = iv1 a0 2 from by rw [pq2]; exact up2_j (by decide)) (show iv1 a0 2 = 0 from by rw [pq1]; exact up2_s) (fun W4 F4 rp1 rn1 ie1 ie2 ie3 ie4 ie5 => ?_)
  refine hv2 (show (-2147483648) ≤ ivn1 a0 0 ∧ ivn1 a0 0 ≤ 2147483647 from W4.int ty1 0) (show (-2147483648) ≤ ivn1 a0 2 ∧ ivn1 a0 2 ≤ 2147483647 from W4.int ty1 2) (fun ri1 ri2 => ?_)
  exact c_vret C dX1_init_22 rfl (by decide) (rom0 hph (Nat.le_refl 0) (by decide)) ⟨rfl, X1, F4, W4, ⟨qn1, rn1, rp1, tqn1, (by omega), (by omega), (by omega)⟩, nw1.sub (by decide)⟩
set_option maxHeartbeats 4000000 in
set_option maxRecDepth 100000 in
theorem Y_ints_8 {l : Launch} {G : GT} {mi : Nat} {sk : Nat → Nat} {L : List Nat} {cl ln : Nat → Nat} {iv : Nat → Nat → Int} {rv : Nat → Nat → Option Nat}  {a0 : Nat} {i : Int} (hW : WT (g0 G) sk L cl ln iv rv) (t_a0 : ty L cl a0 202) (h_i : -2147483648 ≤ i ∧ i ≤ 2147483647)  : Mc l G mi zPf 0 yX1_init cX1_init 2 none 1 [.ref a0, .int (iI i)] L cl ln iv rv 32 (fun v L2 cl2 ln2 iv2 rv2 => v = none ∧ XT L cl ln L2 cl2 ln2 ∧ fT [202] L cl iv rv iv2 rv2 ∧ WT (g0 G) sk L2 cl2 ln2 iv2 rv2 ∧ (∃ b, (∀ k, ([1] : List Nat).contains k = false → rv2 a0 k = rv a0 k) ∧ rv2 a0 1 = some b ∧ ty L2 cl2 b 38 ∧ ln2 b = 16 ∧ iv2 a0 0 = i ∧ iv2 a0 2 = 0) ∧ NW [38] L L2 cl2) := by
  refine Mc.mk (by decide) (Nat.le_of_ble_eq_true rfl) ?_
  intro p e s m args below meth c A C hM
  refine hv4 ((show zPf ln rv ≤ 0 from Nat.le_refl 0)) (show NW [] L L cl from NW.refl) (show XT L cl ln L cl ln from XT.refl) (show fT [202] L cl iv rv iv rv from fT.refl) (fun hph nw0 hX0 hF0 => ?_)
  refine c_aload_n (j := 0) (x := a0) C dX1_init_0 rfl ?_
  refine c_objInit C dX1_init_1 w1_37 w1_30 w1_31 (by decide) (Nat.le_of_ble_eq_true rfl) ?_
  refine c_aload_n (j := 0) (x := a0) C dX1_init_4 rfl ?_
  refine c_iconst C dX1_init_5 ?_
  refine c_put (z := 0) (k := 2) C ck_2 dX1_init_6 w1_43 (by decide) rfl t_a0 rfl rfl (by decide) rfl (by rfl) (by rfl) (fun iv1 pq1 => ?_)
  refine hv2 (hW.puti pq1 t_a0 ⟨by decide, by decide⟩ rfl) (hF0.puti hX0 pq1 t_a0 rfl) (fun W1 F1 => ?_)
  refine c_aload_n (j := 0) (x := a0) C dX1_init_9 rfl ?_
  refine c_iload_n (j := 1) C dX1_init_10 rfl ?_
  refine c_putF (z := i) (k := 0) C ck_2 dX1_init_11 w1_38 (by decide) rfl rfl rfl t_a0 rfl rfl (by decide) rfl (by rfl) (by rfl) (fun iv2 pq2 => ?_)
  refine hv2 (W1.puti pq2 t_a0 (show (-2147483648) ≤ i ∧ i ≤ 2147483647 by omega) rfl) (F1.puti hX0 pq2 t_a0 rfl) (fun W2 F2 => ?_)
  refine c_aload_n (j := 0) (x := a0) C dX1_init_14 rfl ?_
  refine c_bipush (z := 16) C dX1_init_15 (by decide) ?_
  refine c_newaI (z := 16) (N := 16) C 38 dX1_init_17 w1_57 rfl (by omega) (by omega) (rom2 hph hph (by decide)) (fun qn1 cln1 lnn1 ivn1 rvn1 hqn1 hcn1 hln1 hin1 hrn1 => ⟨32, (z_in (by omega)), ?_⟩)
  refine c_g0 C (fun hg1 => ?_)
  refine hv5 (show ∀ b, b ≠ qn1 → lnn1 b = ln b from (fun b hb => by rw [hln1]; exact va_up_ne _ _ hb)) (show lnn1 qn1 = 16 from by rw [hln1]; exact va_up_self _ _ _) (F2.new hX0 hqn1 hin1 hrn1) (show ty (L ++ [qn1]) cln1 qn1 38 from ty_new hcn1) (show qn1 ∉ L from fun h => hqn1 ((hX0 qn1 h).1)) (fun hxn1 lqn1 F3 tqn1 h0qn1 => ?_)
  refine hv2 (W2.new (ln2 := lnn1) hqn1 (hg1 qn1 (List.mem_append_right _ List.mem_cons_self)) hcn1 hxn1 hin1 hrn1 (fun _ => ⟨(show (-2147483648 : Int) ≤ 0 by decide), (show (0 : Int) ≤ 2147483647 by decide)⟩) (Or.inr (fun _ => rfl)) (fun _ => by show 16 ≤ lnn1 qn1 ∧ lnn1 qn1 ≤ 80400; omega) rfl rfl) (XT.new hqn1 hcn1 hxn1) (fun W3 xl1 => ?_)
  refine hv3 (hX0.trans xl1) (nw0.new xl1 hcn1) (xl1.ty t_a0) (fun X1 nw1 ty1 => ?_)
  refine c_putr (x := (some qn1)) (k := 1) C ck_2 dX1_init_19 w1_39 (by decide) rfl ty1 rfl rfl (by decide) rfl (by rfl) (by rfl) (fun rv1 pq3 => ⟨32, (zp2 (Nat.le_refl _)), ?_⟩)
  refine hv9 (W3.putr pq3 ty1 (fun qr => by rw [ty1.2] at qr; cases qr) rfl (by decide)) (F3.putr X1 pq3 ty1 rfl) (show rv1 a0 1 = (some qn1) from by rw [pq3]; exact upr_s) (show ∀ k, ([1] : List Nat).contains k = false → rv1 a0 k = rv a0 k from fun k hk => (Eq.trans (show rv1 a0 k = rvn1 a0 k from (by rw [pq3]; exact upr_j (fun e => by subst e; exact absurd hk (by decide)))) (show rvn1 a0 k = rv a0 k from (by rw [hrn1]; exact congrFun (up0_a (ne_in t_a0.1 hqn1)) _)))) (show ivn1 a0 0 = iv2 a0 0 from by rw [hin1]; exact congrFun (up0_a (ne_in t_a0.1 hqn1)) _) (show iv2 a0 0 = i from by rw [pq2]; exact up2_s) (show ivn1 a0 2 = iv2 a0 2 from by rw [hin1]; exact congrFun (up0_a (ne_in t_a0.1 hqn1)) _) (show iv2 a0 2 = iv1 a0 2 from by rw [pq2]; exact up2_j (by decide)) (show iv1 a0 2 = 0 from by rw [pq1]; exact up2_s) (fun W4 F4 rp1 rn1 ie1 ie2 ie3 ie4 ie5 => ?_)
  refine hv2 (show (-2147483648) ≤ ivn1 a0 0 ∧ ivn1 a0 0 ≤ 2147483647 from W4.int ty1 0) (show (-2147483648) ≤ ivn1 a0 2 ∧ ivn1 a0 2 ≤ 2147483647 from W4.int ty1 2) (fun ri1 ri2 => ?_)
  exact c_vret C dX1_init_22 rfl (by decide) (rom0 hph (Nat.le_refl 0) (by decide)) ⟨rfl, X1, F4, W4, ⟨qn1, rn1, rp1, tqn1, (by omega), (by omega), (by omega)⟩, nw1.sub (by decide)⟩
set_option maxHeartbeats 4000000 in
set_option maxRecDepth 100000 in
theorem Y_ints_9 {l : Launch} {G : GT} {mi : Nat} {sk : Nat → Nat} {L : List Nat} {cl ln : Nat → Nat} {iv : Nat → Nat → Int} {rv : Nat → Nat → Option Nat}  {a0 : Nat} {i : Int} (hW : WT (g0 G) sk L cl ln iv rv) (t_a0 : ty L cl a0 202) (h_i : -2147483648 ≤ i ∧ i ≤ 2147483647)  : Mc l G mi zPf 0 yX1_init cX1_init 2 none 1 [.ref a0, .int (iI i)] L cl ln iv rv 32 (fun v L2 cl2 ln2 iv2 rv2 => v = none ∧ XT L cl ln L2 cl2 ln2 ∧ fT [202] L cl iv rv iv2 rv2 ∧ WT (g0 G) sk L2 cl2 ln2 iv2 rv2 ∧ (∃ b, (∀ k, ([1] : List Nat).contains k = false → rv2 a0 k = rv a0 k) ∧ rv2 a0 1 = some b ∧ ty L2 cl2 b 39 ∧ ln2 b = 16 ∧ iv2 a0 0 = i ∧ iv2 a0 2 = 0) ∧ NW [39] L L2 cl2) := by
  refine Mc.mk (by decide) (Nat.le_of_ble_eq_true rfl) ?_
  intro p e s m args below meth c A C hM
  refine hv4 ((show zPf ln rv ≤ 0 from Nat.le_refl 0)) (show NW [] L L cl from NW.refl) (show XT L cl ln L cl ln from XT.refl) (show fT [202] L cl iv rv iv rv from fT.refl) (fun hph nw0 hX0 hF0 => ?_)
  refine c_aload_n (j := 0) (x := a0) C dX1_init_0 rfl ?_
  refine c_objInit C dX1_init_1 w1_37 w1_30 w1_31 (by decide) (Nat.le_of_ble_eq_true rfl) ?_
  refine c_aload_n (j := 0) (x := a0) C dX1_init_4 rfl ?_
  refine c_iconst C dX1_init_5 ?_
  refine c_put (z := 0) (k := 2) C ck_2 dX1_init_6 w1_43 (by decide) rfl t_a0 rfl rfl (by decide) rfl (by rfl) (by rfl) (fun iv1 pq1 => ?_)
  refine hv2 (hW.puti pq1 t_a0 ⟨by decide, by decide⟩ rfl) (hF0.puti hX0 pq1 t_a0 rfl) (fun W1 F1 => ?_)
  refine c_aload_n (j := 0) (x := a0) C dX1_init_9 rfl ?_
  refine c_iload_n (j := 1) C dX1_init_10 rfl ?_
  refine c_putF (z := i) (k := 0) C ck_2 dX1_init_11 w1_38 (by decide) rfl rfl rfl t_a0 rfl rfl (by decide) rfl (by rfl) (by rfl) (fun iv2 pq2 => ?_)
  refine hv2 (W1.puti pq2 t_a0 (show (-2147483648) ≤ i ∧ i ≤ 2147483647 by omega) rfl) (F1.puti hX0 pq2 t_a0 rfl) (fun W2 F2 => ?_)
  refine c_aload_n (j := 0) (x := a0) C dX1_init_14 rfl ?_
  refine c_bipush (z := 16) C dX1_init_15 (by decide) ?_
  refine c_newaI (z := 16) (N := 16) C 39 dX1_init_17 w1_57 rfl (by omega) (by omega) (rom2 hph hph (by decide)) (fun qn1 cln1 lnn1 ivn1 rvn1 hqn1 hcn1 hln1 hin1 hrn1 => ⟨32, (z_in (by omega)), ?_⟩)
  refine c_g0 C (fun hg1 => ?_)
  refine hv5 (show ∀ b, b ≠ qn1 → lnn1 b = ln b from (fun b hb => by rw [hln1]; exact va_up_ne _ _ hb)) (show lnn1 qn1 = 16 from by rw [hln1]; exact va_up_self _ _ _) (F2.new hX0 hqn1 hin1 hrn1) (show ty (L ++ [qn1]) cln1 qn1 39 from ty_new hcn1) (show qn1 ∉ L from fun h => hqn1 ((hX0 qn1 h).1)) (fun hxn1 lqn1 F3 tqn1 h0qn1 => ?_)
  refine hv2 (W2.new (ln2 := lnn1) hqn1 (hg1 qn1 (List.mem_append_right _ List.mem_cons_self)) hcn1 hxn1 hin1 hrn1 (fun _ => ⟨(show (-2147483648 : Int) ≤ 0 by decide), (show (0 : Int) ≤ 2147483647 by decide)⟩) (Or.inr (fun _ => rfl)) (fun _ => by show 16 ≤ lnn1 qn1 ∧ lnn1 qn1 ≤ 80400; omega) rfl rfl) (XT.new hqn1 hcn1 hxn1) (fun W3 xl1 => ?_)
  refine hv3 (hX0.trans xl1) (nw0.new xl1 hcn1) (xl1.ty t_a0) (fun X1 nw1 ty1 => ?_)
  refine c_putr (x := (some qn1)) (k := 1) C ck_2 dX1_init_19 w1_39 (by decide) rfl ty1 rfl rfl (by decide) rfl (by rfl) (by rfl) (fun rv1 pq3 => ⟨32, (zp2 (Nat.le_refl _)), ?_⟩)
  refine hv9 (W3.putr pq3 ty1 (fun qr => by rw [ty1.2] at qr; cases qr) rfl (by decide)) (F3.putr X1 pq3 ty1 rfl) (show rv1 a0 1 = (some qn1) from by rw [pq3]; exact upr_s) (show ∀ k, ([1] : List Nat).contains k = false → rv1 a0 k = rv a0 k from fun k hk => (Eq.trans (show rv1 a0 k = rvn1 a0 k from (by rw [pq3]; exact upr_j (fun e => by subst e; exact absurd hk (by decide)))) (show rvn1 a0 k = rv a0 k from (by rw [hrn1]; exact congrFun (up0_a (ne_in t_a0.1 hqn1)) _)))) (show ivn1 a0 0 = iv2 a0 0 from by rw [hin1]; exact congrFun (up0_a (ne_in t_a0.1 hqn1)) _) (show iv2 a0 0 = i from by rw [pq2]; exact up2_s) (show ivn1 a0 2 = iv2 a0 2 from by rw [hin1]; exact congrFun (up0_a (ne_in t_a0.1 hqn1)) _) (show iv2 a0 2 = iv1 a0 2 from by rw [pq2]; exact up2_j (by decide)) (show iv1 a0 2 = 0 from by rw [pq1]; exact up2_s) (fun W4 F4 rp1 rn1 ie1 ie2 ie3 ie4 ie5 => ?_)
  refine hv2 (show (-2147483648) ≤ ivn1 a0 0 ∧ ivn1 a0 0 ≤ 2147483647 from W4.int ty1 0) (show (-2147483648) ≤ ivn1 a0 2 ∧ ivn1 a0 2 ≤ 2147483647 from W4.int ty1 2) (fun ri1 ri2 => ?_)
  exact c_vret C dX1_init_22 rfl (by decide) (rom0 hph (Nat.le_refl 0) (by decide)) ⟨rfl, X1, F4, W4, ⟨qn1, rn1, rp1, tqn1, (by omega), (by omega), (by omega)⟩, nw1.sub (by decide)⟩
set_option maxHeartbeats 4000000 in
set_option maxRecDepth 100000 in
theorem Y_ints_10 {l : Launch} {G : GT} {mi : Nat} {sk : Nat → Nat} {L : List Nat} {cl ln : Nat → Nat} {iv : Nat → Nat → Int} {rv : Nat → Nat → Option Nat}  {a0 : Nat} {i : Int} (hW : WT (g0 G) sk L cl ln iv rv) (t_a0 : ty L cl a0 202) (h_i : -2147483648 ≤ i ∧ i ≤ 2147483647)  : Mc l G mi zPf 0 yX1_init cX1_init 2 none 1 [.ref a0, .int (iI i)] L cl ln iv rv 32 (fun v L2 cl2 ln2 iv2 rv2 => v = none ∧ XT L cl ln L2 cl2 ln2 ∧ fT [202] L cl iv rv iv2 rv2 ∧ WT (g0 G) sk L2 cl2 ln2 iv2 rv2 ∧ (∃ b, (∀ k, ([1] : List Nat).contains k = false → rv2 a0 k = rv a0 k) ∧ rv2 a0 1 = some b ∧ ty L2 cl2 b 40 ∧ ln2 b = 16 ∧ iv2 a0 0 = i ∧ iv2 a0 2 = 0) ∧ NW [40] L L2 cl2) := by
  refine Mc.mk (by decide) (Nat.le_of_ble_eq_true rfl) ?_
  intro p e s m args below meth c A C hM
  refine hv4 ((show zPf ln rv ≤ 0 from Nat.le_refl 0)) (show NW [] L L cl from NW.refl) (show XT L cl ln L cl ln from XT.refl) (show fT [202] L cl iv rv iv rv from fT.refl) (fun hph nw0 hX0 hF0 => ?_)
  refine c_aload_n (j := 0) (x := a0) C dX1_init_0 rfl ?_
  refine c_objInit C dX1_init_1 w1_37 w1_30 w1_31 (by decide) (Nat.le_of_ble_eq_true rfl) ?_
  refine c_aload_n (j := 0) (x := a0) C dX1_init_4 rfl ?_
  refine c_iconst C dX1_init_5 ?_
  refine c_put (z := 0) (k := 2) C ck_2 dX1_init_6 w1_43 (by decide) rfl t_a0 rfl rfl (by decide) rfl (by rfl) (by rfl) (fun iv1 pq1 => ?_)
  refine hv2 (hW.puti pq1 t_a0 ⟨by decide, by decide⟩ rfl) (hF0.puti hX0 pq1 t_a0 rfl) (fun W1 F1 => ?_)
  refine c_aload_n (j := 0) (x := a0) C dX1_init_9 rfl ?_
  refine c_iload_n (j := 1) C dX1_init_10 rfl ?_
  refine c_putF (z := i) (k := 0) C ck_2 dX1_init_11 w1_38 (by decide) rfl rfl rfl t_a0 rfl rfl (by decide) rfl (by rfl) (by rfl) (fun iv2 pq2 => ?_)
  refine hv2 (W1.puti pq2 t_a0 (show (-2147483648) ≤ i ∧ i ≤ 2147483647 by omega) rfl) (F1.puti hX0 pq2 t_a0 rfl) (fun W2 F2 => ?_)
  refine c_aload_n (j := 0) (x := a0) C dX1_init_14 rfl ?_
  refine c_bipush (z := 16) C dX1_init_15 (by decide) ?_
  refine c_newaI (z := 16) (N := 16) C 40 dX1_init_17 w1_57 rfl (by omega) (by omega) (rom2 hph hph (by decide)) (fun qn1 cln1 lnn1 ivn1 rvn1 hqn1 hcn1 hln1 hin1 hrn1 => ⟨32, (z_in (by omega)), ?_⟩)
  refine c_g0 C (fun hg1 => ?_)
  refine hv5 (show ∀ b, b ≠ qn1 → lnn1 b = ln b from (fun b hb => by rw [hln1]; exact va_up_ne _ _ hb)) (show lnn1 qn1 = 16 from by rw [hln1]; exact va_up_self _ _ _) (F2.new hX0 hqn1 hin1 hrn1) (show ty (L ++ [qn1]) cln1 qn1 40 from ty_new hcn1) (show qn1 ∉ L from fun h => hqn1 ((hX0 qn1 h).1)) (fun hxn1 lqn1 F3 tqn1 h0qn1 => ?_)
  refine hv2 (W2.new (ln2 := lnn1) hqn1 (hg1 qn1 (List.mem_append_right _ List.mem_cons_self)) hcn1 hxn1 hin1 hrn1 (fun _ => ⟨(show (-2147483648 : Int) ≤ 0 by decide), (show (0 : Int) ≤ 2147483647 by decide)⟩) (Or.inr (fun _ => rfl)) (fun _ => by show 16 ≤ lnn1 qn1 ∧ lnn1 qn1 ≤ 8002; omega) rfl rfl) (XT.new hqn1 hcn1 hxn1) (fun W3 xl1 => ?_)
  refine hv3 (hX0.trans xl1) (nw0.new xl1 hcn1) (xl1.ty t_a0) (fun X1 nw1 ty1 => ?_)
  refine c_putr (x := (some qn1)) (k := 1) C ck_2 dX1_init_19 w1_39 (by decide) rfl ty1 rfl rfl (by decide) rfl (by rfl) (by rfl) (fun rv1 pq3 => ⟨32, (zp2 (Nat.le_refl _)), ?_⟩)
  refine hv9 (W3.putr pq3 ty1 (fun qr => by rw [ty1.2] at qr; cases qr) rfl (by decide)) (F3.putr X1 pq3 ty1 rfl) (show rv1 a0 1 = (some qn1) from by rw [pq3]; exact upr_s) (show ∀ k, ([1] : List Nat).contains k = false → rv1 a0 k = rv a0 k from fun k hk => (Eq.trans (show rv1 a0 k = rvn1 a0 k from (by rw [pq3]; exact upr_j (fun e => by subst e; exact absurd hk (by decide)))) (show rvn1 a0 k = rv a0 k from (by rw [hrn1]; exact congrFun (up0_a (ne_in t_a0.1 hqn1)) _)))) (show ivn1 a0 0 = iv2 a0 0 from by rw [hin1]; exact congrFun (up0_a (ne_in t_a0.1 hqn1)) _) (show iv2 a0 0 = i from by rw [pq2]; exact up2_s) (show ivn1 a0 2 = iv2 a0 2 from by rw [hin1]; exact congrFun (up0_a (ne_in t_a0.1 hqn1)) _) (show iv2 a0 2 = iv1 a0 2 from by rw [pq2]; exact up2_j (by decide)) (show iv1 a0 2 = 0 from by rw [pq1]; exact up2_s) (fun W4 F4 rp1 rn1 ie1 ie2 ie3 ie4 ie5 => ?_)
  refine hv2 (show (-2147483648) ≤ ivn1 a0 0 ∧ ivn1 a0 0 ≤ 2147483647 from W4.int ty1 0) (show (-2147483648) ≤ ivn1 a0 2 ∧ ivn1 a0 2 ≤ 2147483647 from W4.int ty1 2) (fun ri1 ri2 => ?_)
  exact c_vret C dX1_init_22 rfl (by decide) (rom0 hph (Nat.le_refl 0) (by decide)) ⟨rfl, X1, F4, W4, ⟨qn1, rn1, rp1, tqn1, (by omega), (by omega), (by omega)⟩, nw1.sub (by decide)⟩
set_option maxHeartbeats 4000000 in
set_option maxRecDepth 100000 in
theorem Y_ints_11 {l : Launch} {G : GT} {mi : Nat} {sk : Nat → Nat} {L : List Nat} {cl ln : Nat → Nat} {iv : Nat → Nat → Int} {rv : Nat → Nat → Option Nat}  {a0 : Nat} {i : Int} (hW : WT (g0 G) sk L cl ln iv rv) (t_a0 : ty L cl a0 202) (h_i : -2147483648 ≤ i ∧ i ≤ 2147483647)  : Mc l G mi zPf 0 yX1_init cX1_init 2 none 1 [.ref a0, .int (iI i)] L cl ln iv rv 32 (fun v L2 cl2 ln2 iv2 rv2 => v = none ∧ XT L cl ln L2 cl2 ln2 ∧ fT [202] L cl iv rv iv2 rv2 ∧ WT (g0 G) sk L2 cl2 ln2 iv2 rv2 ∧ (∃ b, (∀ k, ([1] : List Nat).contains k = false → rv2 a0 k = rv a0 k) ∧ rv2 a0 1 = some b ∧ ty L2 cl2 b 41 ∧ ln2 b = 16 ∧ iv2 a0 0 = i ∧ iv2 a0 2 = 0) ∧ NW [41] L L2 cl2) := by
  refine Mc.mk (by decide) (Nat.le_of_ble_eq_true rfl) ?_
  intro p e s m args below meth c A C hM
  refine hv4 ((show zPf ln rv ≤ 0 from Nat.le_refl 0)) (show NW [] L L cl from NW.refl) (show XT L cl ln L cl ln from XT.refl) (show fT [202] L cl iv rv iv rv from fT.refl) (fun hph nw0 hX0 hF0 => ?_)
  refine c_aload_n (j := 0) (x := a0) C dX1_init_0 rfl ?_
  refine c_objInit C dX1_init_1 w1_37 w1_30 w1_31 (by decide) (Nat.le_of_ble_eq_true rfl) ?_
  refine c_aload_n (j := 0) (x := a0) C dX1_init_4 rfl ?_
  refine c_iconst C dX1_init_5 ?_
  refine c_put (z := 0) (k := 2) C ck_2 dX1_init_6 w1_43 (by decide) rfl t_a0 rfl rfl (by decide) rfl (by rfl) (by rfl) (fun iv1 pq1 => ?_)
  refine hv2 (hW.puti pq1 t_a0 ⟨by decide, by decide⟩ rfl) (hF0.puti hX0 pq1 t_a0 rfl) (fun W1 F1 => ?_)
  refine c_aload_n (j := 0) (x := a0) C dX1_init_9 rfl ?_
  refine c_iload_n (j := 1) C dX1_init_10 rfl ?_
  refine c_putF (z := i) (k := 0) C ck_2 dX1_init_11 w1_38 (by decide) rfl rfl rfl t_a0 rfl rfl (by decide) rfl (by rfl) (by rfl) (fun iv2 pq2 => ?_)
  refine hv2 (W1.puti pq2 t_a0 (show (-2147483648) ≤ i ∧ i ≤ 2147483647 by omega) rfl) (F1.puti hX0 pq2 t_a0 rfl) (fun W2 F2 => ?_)
  refine c_aload_n (j := 0) (x := a0) C dX1_init_14 rfl ?_
  refine c_bipush (z := 16) C dX1_init_15 (by decide) ?_
  refine c_newaI (z := 16) (N := 16) C 41 dX1_init_17 w1_57 rfl (by omega) (by omega) (rom2 hph hph (by decide)) (fun qn1 cln1 lnn1 ivn1 rvn1 hqn1 hcn1 hln1 hin1 hrn1 => ⟨32, (z_in (by omega)), ?_⟩)
  refine c_g0 C (fun hg1 => ?_)
  refine hv5 (show ∀ b, b ≠ qn1 → lnn1 b = ln b from (fun b hb => by rw [hln1]; exact va_up_ne _ _ hb)) (show lnn1 qn1 = 16 from by rw [hln1]; exact va_up_self _ _ _) (F2.new hX0 hqn1 hin1 hrn1) (show ty (L ++ [qn1]) cln1 qn1 41 from ty_new hcn1) (show qn1 ∉ L from fun h => hqn1 ((hX0 qn1 h).1)) (fun hxn1 lqn1 F3 tqn1 h0qn1 => ?_)
  refine hv2 (W2.new (ln2 := lnn1) hqn1 (hg1 qn1 (List.mem_append_right _ List.mem_cons_self)) hcn1 hxn1 hin1 hrn1 (fun _ => ⟨(show (-2147483648 : Int) ≤ 0 by decide), (show (0 : Int) ≤ 2147483647 by decide)⟩) (Or.inr (fun _ => rfl)) (fun _ => by show 16 ≤ lnn1 qn1 ∧ lnn1 qn1 ≤ 80000; omega) rfl rfl) (XT.new hqn1 hcn1 hxn1) (fun W3 xl1 => ?_)
  refine hv3 (hX0.trans xl1) (nw0.new xl1 hcn1) (xl1.ty t_a0) (fun X1 nw1 ty1 => ?_)
  refine c_putr (x := (some qn1)) (k := 1) C ck_2 dX1_init_19 w1_39 (by decide) rfl ty1 rfl rfl (by decide) rfl (by rfl) (by rfl) (fun rv1 pq3 => ⟨32, (zp2 (Nat.le_refl _)), ?_⟩)
  refine hv9 (W3.putr pq3 ty1 (fun qr => by rw [ty1.2] at qr; cases qr) rfl (by decide)) (F3.putr X1 pq3 ty1 rfl) (show rv1 a0 1 = (some qn1) from by rw [pq3]; exact upr_s) (show ∀ k, ([1] : List Nat).contains k = false → rv1 a0 k = rv a0 k from fun k hk => (Eq.trans (show rv1 a0 k = rvn1 a0 k from (by rw [pq3]; exact upr_j (fun e => by subst e; exact absurd hk (by decide)))) (show rvn1 a0 k = rv a0 k from (by rw [hrn1]; exact congrFun (up0_a (ne_in t_a0.1 hqn1)) _)))) (show ivn1 a0 0 = iv2 a0 0 from by rw [hin1]; exact congrFun (up0_a (ne_in t_a0.1 hqn1)) _) (show iv2 a0 0 = i from by rw [pq2]; exact up2_s) (show ivn1 a0 2 = iv2 a0 2 from by rw [hin1]; exact congrFun (up0_a (ne_in t_a0.1 hqn1)) _) (show iv2 a0 2 = iv1 a0 2 from by rw [pq2]; exact up2_j (by decide)) (show iv1 a0 2 = 0 from by rw [pq1]; exact up2_s) (fun W4 F4 rp1 rn1 ie1 ie2 ie3 ie4 ie5 => ?_)
  refine hv2 (show (-2147483648) ≤ ivn1 a0 0 ∧ ivn1 a0 0 ≤ 2147483647 from W4.int ty1 0) (show (-2147483648) ≤ ivn1 a0 2 ∧ ivn1 a0 2 ≤ 2147483647 from W4.int ty1 2) (fun ri1 ri2 => ?_)
  exact c_vret C dX1_init_22 rfl (by decide) (rom0 hph (Nat.le_refl 0) (by decide)) ⟨rfl, X1, F4, W4, ⟨qn1, rn1, rp1, tqn1, (by omega), (by omega), (by omega)⟩, nw1.sub (by decide)⟩
set_option maxHeartbeats 4000000 in
set_option maxRecDepth 100000 in
theorem Y_source {l : Launch} {G : GT} {mi : Nat} {sk : Nat → Nat} {L : List Nat} {cl ln : Nat → Nat} {iv : Nat → Nat → Int} {rv : Nat → Nat → Option Nat}  {a0 : Nat} (hW : WT (g0 G) sk L cl ln iv rv) (t_a0 : ty L cl a0 209)  : Mc l G mi zPf 0 yX8_init cX8_init 1 none 1 [.ref a0] L cl ln iv rv 306 (fun v L2 cl2 ln2 iv2 rv2 => v = none ∧ XT L cl ln L2 cl2 ln2 ∧ fT [209] L cl iv rv iv2 rv2 ∧ WT (g0 G) sk L2 cl2 ln2 iv2 rv2 ∧ (∃ b3 b4 b6, (∀ k, ([3, 4, 6] : List Nat).contains k = false → rv2 a0 k = rv a0 k) ∧ rv2 a0 3 = some b3 ∧ ty L2 cl2 b3 56 ∧ rv2 a0 4 = some b4 ∧ ty L2 cl2 b4 57 ∧ rv2 a0 6 = some b6 ∧ ty L2 cl2 b6 58 ∧ iv2 a0 0 = 0 ∧ iv2 a0 1 = 0 ∧ iv2 a0 2 = 0 ∧ iv2 a0 5 = 0 ∧ iv2 a0 7 = 0) ∧ NW [56, 57, 58] L L2 cl2) := by
  refine Mc.mk (by decide) (Nat.le_of_ble_eq_true rfl) ?_
  intro p e s m args below meth c A C hM
  refine hv4 ((show zPf ln rv ≤ 0 from Nat.le_refl 0)) (show NW [] L L cl from NW.refl) (show XT L cl ln L cl ln from XT.refl) (show fT [209] L cl iv rv iv rv from fT.refl) (fun hph nw0 hX0 hF0 => ?_)
  refine c_aload_n (j := 0) (x := a0) C dX8_init_0 rfl ?_
  refine c_objInit C dX8_init_1 w1_102 w1_30 w1_31 (by decide) (Nat.le_of_ble_eq_true rfl) ?_
  refine c_aload_n (j := 0) (x := a0) C dX8_init_4 rfl ?_
  refine c_iconst C dX8_init_5 ?_
  refine c_put (z := 0) (k := 0) C ck_9 dX8_init_6 w1_103 (by decide) rfl t_a0 rfl rfl (by decide) rfl (by rfl) (by rfl) (fun iv1 pq1 => ?_)
  refine hv2 (hW.puti pq1 t_a0 ⟨by decide, by decide⟩ rfl) (hF0.puti hX0 pq1 t_a0 rfl) (fun W1 F1 => ?_)
  refine c_aload_n (j := 0) (x := a0) C dX8_init_9 rfl ?_
  refine c_iconst C dX8_init_10 ?_
  refine c_put (z := 0) (k := 1) C ck_9 dX8_init_11 w1_104 (by decide) rfl t_a0 rfl rfl (by decide) rfl (by decide) (by decide) (fun iv2 pq2 => ?_)
  refine hv2 (W1.puti pq2 t_a0 ⟨by decide, by decide⟩ rfl) (F1.puti hX0 pq2 t_a0 rfl) (fun W2 F2 => ?_)
  refine c_aload_n (j := 0) (x := a0) C dX8_init_14 rfl ?_
  refine c_iconst C dX8_init_15 ?_
  refine c_put (z := 0) (k := 2) C ck_9 dX8_init_16 w1_105 (by decide) rfl t_a0 rfl rfl (by decide) rfl (by decide) (by decide) (fun iv3 pq3 => ?_)
  refine hv2 (W2.puti pq3 t_a0 ⟨by decide, by decide⟩ rfl) (F2.puti hX0 pq3 t_a0 rfl) (fun W3 F3 => ?_)
  refine c_aload_n (j := 0) (x := a0) C dX8_init_19 rfl ?_
  refine c_bipush (z := 126) C dX8_init_20 (by decide) ?_
  refine c_newaZ (z := 126) (N := 126) C 56 dX8_init_22 w1_129 rfl (by omega) (by omega) (rom2 hph hph (by decide)) (fun qn1 cln1 lnn1 ivn1 rvn1 hqn1 hcn1 hln1 hin1 hrn1 => ⟨142, (z_in (by omega)), ?_⟩)
  refine c_g0 C (fun hg1 => ?_)
  refine hv5 (show ∀ b, b ≠ qn1 → lnn1 b = ln b from (fun b hb => by rw [hln1]; exact va_up_ne _ _ hb)) (show lnn1 qn1 = 126 from by rw [hln1]; exact va_up_self _ _ _) (F3.new hX0 hqn1 hin1 hrn1) (show ty (L ++ [qn1]) cln1 qn1 56 from ty_new hcn1) (show qn1 ∉ L from fun h => hqn1 ((hX0 qn1 h).1)) (fun hxn1 lqn1 F4 tqn1 h0qn1 => ?_)
  refine hv2 (W3.new (ln2 := lnn1) hqn1 (hg1 qn1 (List.mem_append_right _ List.mem_cons_self)) hcn1 hxn1 hin1 hrn1 (fun _ => ⟨(show (0 : Int) ≤ 0 by decide), (show (0 : Int) ≤ 1 by decide)⟩) (Or.inr (fun _ => rfl)) (fun _ => by show 126 ≤ lnn1 qn1 ∧ lnn1 qn1 ≤ 126; omega) rfl rfl) (XT.new hqn1 hcn1 hxn1) (fun W4 xl1 => ?_)
  refine hv3 (hX0.trans xl1) (nw0.new xl1 hcn1) (xl1.ty t_a0) (fun X1 nw1 ty1 => ?_)
  refine c_putrF (x := (some qn1)) (k := 3) C ck_9 dX8_init_24 w1_107 (by decide) rfl rfl rfl ty1 rfl rfl (by decide) rfl (by rfl) (by rfl) (fun rv1 pq4 => ⟨142, (zp2 (Nat.le_refl _)), ?_⟩)
  refine hv2 (W4.putr pq4 ty1 (fun qr => by rw [ty1.2] at qr; cases qr) rfl (by decide)) (F4.putr X1 pq4 ty1 rfl) (fun W5 F5 => ?_)
  refine c_aload_n (j := 0) (x := a0) C dX8_init_27 rfl ?_
  refine c_bipush (z := 126) C dX8_init_28 (by decide) ?_
  refine c_newaI (z := 126) (N := 126) C 57 dX8_init_30 w1_57 rfl (by omega) (by omega) (rom2 hph (Nat.le_refl 0) (by decide)) (fun qn2 cln2 lnn2 ivn2 rvn2 hqn2 hcn2 hln2 hin2 hrn2 => ⟨284, (z_in (by omega)), ?_⟩)
  refine c_g0 C (fun hg2 => ?_)
  refine hv5 (show ∀ b, b ≠ qn2 → lnn2 b = lnn1 b from (fun b hb => by rw [hln2]; exact va_up_ne _ _ hb)) (show lnn2 qn2 = 126 from by rw [hln2]; exact va_up_self _ _ _) (F5.new X1 hqn2 hin2 hrn2) (show ty ((L ++ [qn1]) ++ [qn2]) cln2 qn2 57 from ty_new hcn2) (show qn2 ∉ L from fun h => hqn2 ((X1 qn2 h).1)) (fun hxn2 lqn2 F6 tqn2 h0qn2 => ?_)
  refine hv2 (W5.new (ln2 := lnn2) hqn2 (hg2 qn2 (List.mem_append_right _ List.mem_cons_self)) hcn2 hxn2 hin2 hrn2 (fun _ => ⟨(show (-2147483648 : Int) ≤ 0 by decide), (show (0 : Int) ≤ 2147483647 by decide)⟩) (Or.inr (fun _ => rfl)) (fun _ => by show 126 ≤ lnn2 qn2 ∧ lnn2 qn2 ≤ 126; omega) rfl rfl) (XT.new hqn2 hcn2 hxn2) (fun W6 xl2 => ?_)
  refine hv3 (X1.trans xl2) (nw1.new xl2 hcn2) (xl2.ty ty1) (fun X2 nw2 ty2 => ?_)
  refine c_putrF (x := (some qn2)) (k := 4) C ck_9 dX8_init_32 w1_108 (by decide) rfl rfl rfl ty2 rfl rfl (by decide) rfl (by rfl) (by rfl) (fun rv2 pq5 => ⟨284, (zp2 (Nat.le_refl _)), ?_⟩)
  refine hv2 (W6.putr pq5 ty2 (fun qr => by rw [ty2.2] at qr; cases qr) rfl (by decide)) (F6.putr X2 pq5 ty2 rfl) (fun W7 F7 => ?_)
  refine c_aload_n (j := 0) (x := a0) C dX8_init_35 rfl ?_
  refine c_iconst C dX8_init_36 ?_
  refine c_put (z := 0) (k := 5) C ck_9 dX8_init_37 w1_109 (by decide) rfl ty2 rfl rfl (by decide) rfl (by rfl) (by rfl) (fun iv4 pq6 => ?_)
  refine hv2 (W7.puti pq6 ty2 ⟨by decide, by decide⟩ rfl) (F7.puti X2 pq6 ty2 rfl) (fun W8 F8 => ?_)
  refine c_aload_n (j := 0) (x := a0) C dX8_init_40 rfl ?_
  refine c_bipush (z := 6) C dX8_init_41 (by decide) ?_
  have ty3 := xl2.ty tqn1
  refine c_newaI (z := 6) (N := 6) C 58 dX8_init_43 w1_57 rfl (by omega) (by omega) (rom2 hph (Nat.le_refl 0) (by decide)) (fun qn3 cln3 lnn3 ivn3 rvn3 hqn3 hcn3 hln3 hin3 hrn3 => ⟨306, (z_in (by omega)), ?_⟩)
  refine c_g0 C (fun hg3 => ?_)
  refine hv5 (show ∀ b, b ≠ qn3 → lnn3 b = lnn2 b from (fun b hb => by rw [hln3]; exact va_up_ne _ _ hb)) (show lnn3 qn3 = 6 from by rw [hln3]; exact va_up_self _ _ _) (F8.new X2 hqn3 hin3 hrn3) (show ty (((L ++ [qn1]) ++ [qn2]) ++ [qn3]) cln3 qn3 58 from ty_new hcn3) (show qn3 ∉ L from fun h => hqn3 ((X2 qn3 h).1)) (fun hxn3 lqn3 F9 tqn3 h0qn3 => ?_)
  refine hv2 (W8.new (ln2 := lnn3) hqn3 (hg3 qn3 (List.mem_append_right _ List.mem_cons_self)) hcn3 hxn3 hin3 hrn3 (fun _ => ⟨(show (0 : Int) ≤ 0 by decide), (show (0 : Int) ≤ 125 by decide)⟩) (Or.inr (fun _ => rfl)) (fun _ => by show 6 ≤ lnn3 qn3 ∧ lnn3 qn3 ≤ 6; omega) rfl rfl) (XT.new hqn3 hcn3 hxn3) (fun W9 xl3 => ?_)
  refine hv3 (X2.trans xl3) (nw2.new xl3 hcn3) (xl3.ty ty2) (fun X3 nw3 ty4 => ?_)
  refine c_putrF (x := (some qn3)) (k := 6) C ck_9 dX8_init_45 w1_110 (by decide) rfl rfl rfl ty4 rfl rfl (by decide) rfl (by rfl) (by rfl) (fun rv3 pq7 => ⟨306, (zp2 (Nat.le_refl _)), ?_⟩)
  refine hv2 (W9.putr pq7 ty4 (fun qr => by rw [ty4.2] at qr; cases qr) rfl (by decide)) (F9.putr X3 pq7 ty4 rfl) (fun W10 F10 => ?_)
  refine c_aload_n (j := 0) (x := a0) C dX8_init_48 rfl ?_
  refine c_iconst C dX8_init_49 ?_
  refine c_put (z := 0) (k := 7) C ck_9 dX8_init_50 w1_111 (by decide) rfl ty4 rfl rfl (by decide) rfl (by rfl) (by rfl) (fun iv5 pq8 => ?_)
  refine hv4 (W10.puti pq8 ty4 ⟨by decide, by decide⟩ rfl) (F10.puti X3 pq8 ty4 rfl) (show rv1 a0 3 = (some qn1) from by rw [pq4]; exact upr_s) (show rvn2 a0 3 = rv1 a0 3 from (by rw [hrn2]; exact congrFun (up0_a (ne_in ty1.1 hqn2)) _)) (fun W11 F11 rp1 re1 => ?_)
  rw [rp1] at re1
  have re2 : rv2 a0 3 = rvn2 a0 3 := (by rw [pq5]; exact upr_j (by decide))
  rw [re1] at re2
  have re3 : rvn3 a0 3 = rv2 a0 3 := (by rw [hrn3]; exact congrFun (up0_a (ne_in ty2.1 hqn3)) _)
  rw [re2] at re3
  have re4 : rv3 a0 3 = rvn3 a0 3 := (by rw [pq7]; exact upr_j (by decide))
  rw [re3] at re4
  refine hv2 (show rv2 a0 4 = (some qn2) from by rw [pq5]; exact upr_s) (show rvn3 a0 4 = rv2 a0 4 from (by rw [hrn3]; exact congrFun (up0_a (ne_in ty2.1 hqn3)) _)) (fun rp2 re5 => ?_)
  rw [rp2] at re5
  have re6 : rv3 a0 4 = rvn3 a0 4 := (by rw [pq7]; exact upr_j (by decide))
  rw [re5] at re6
  refine hv34 (show rv3 a0 6 = (some qn3) from by rw [pq7]; exact upr_s) (show ∀ k, ([3, 4, 6] : List Nat).contains k = false → rv3 a0 k = rv a0 k from fun k hk => (Eq.trans (show rv3 a0 k = rvn3 a0 k from (by rw [pq7]; exact upr_j (fun e => by subst e; exact absurd hk (by decide)))) (Eq.trans (show rvn3 a0 k = rv2 a0 k from (by rw [hrn3]; exact congrFun (up0_a (ne_in ty2.1 hqn3)) _)) (Eq.trans (show rv2 a0 k = rvn2 a0 k from (by rw [pq5]; exact upr_j (fun e => by subst e; exact absurd hk (by decide)))) (Eq.trans (show rvn2 a0 k = rv1 a0 k from (by rw [hrn2]; exact congrFun (up0_a (ne_in ty1.1 hqn2)) _)) (Eq.trans (show rv1 a0 k = rvn1 a0 k from (by rw [pq4]; exact upr_j (fun e => by subst e; exact absurd hk (by decide)))) (show rvn1 a0 k = rv a0 k from (by rw [hrn1]; exact congrFun (up0_a (ne_in t_a0.1 hqn1)) _)))))))) (xl3.ty ty3) (xl3.ty tqn2) (show (-2147483648) ≤ iv5 a0 0 ∧ iv5 a0 0 ≤ 2147483647 from W11.int ty4 0) (show iv5 a0 0 = ivn3 a0 0 from by rw [pq8]; exact up2_j (by decide)) (show ivn3 a0 0 = iv4 a0 0 from by rw [hin3]; exact congrFun (up0_a (ne_in ty2.1 hqn3)) _) (show iv4 a0 0 = ivn2 a0 0 from by rw [pq6]; exact up2_j (by decide)) (show ivn2 a0 0 = ivn1 a0 0 from by rw [hin2]; exact congrFun (up0_a (ne_in ty1.1 hqn2)) _) (show ivn1 a0 0 = iv3 a0 0 from by rw [hin1]; exact congrFun (up0_a (ne_in t_a0.1 hqn1)) _) (show iv3 a0 0 = iv2 a0 0 from by rw [pq3]; exact up2_j (by decide)) (show iv2 a0 0 = iv1 a0 0 from by rw [pq2]; exact up2_j (by decide)) (show iv1 a0 0 = 0 from by rw [pq1]; exact up2_s) (show (-2147483648) ≤ iv5 a0 1 ∧ iv5 a0 1 ≤ 2147483647 from W11.int ty4 1) (show iv5 a0 1 = ivn3 a0 1 from by rw [pq8]; exact up2_j (by decide)) (show ivn3 a0 1 = iv4 a0 1 from by rw [hin3]; exact congrFun (up0_a (ne_in ty2.1 hqn3)) _) (show iv4 a0 1 = ivn2 a0 1 from by rw [pq6]; exact up2_j (by decide)) (show ivn2 a0 1 = ivn1 a0 1 from by rw [hin2]; exact congrFun (up0_a (ne_in ty1.1 hqn2)) _) (show ivn1 a0 1 = iv3 a0 1 from by rw [hin1]; exact congrFun (up0_a (ne_in t_a0.1 hqn1)) _) (show iv3 a0 1 = iv2 a0 1 from by rw [pq3]; exact up2_j (by decide)) (show iv2 a0 1 = 0 from by rw [pq2]; exact up2_s) (show (-2147483648) ≤ iv5 a0 2 ∧ iv5 a0 2 ≤ 2147483647 from W11.int ty4 2) (show iv5 a0 2 = ivn3 a0 2 from by rw [pq8]; exact up2_j (by decide)) (show ivn3 a0 2 = iv4 a0 2 from by rw [hin3]; exact congrFun (up0_a (ne_in ty2.1 hqn3)) _) (show iv4 a0 2 = ivn2 a0 2 from by rw [pq6]; exact up2_j (by decide)) (show ivn2 a0 2 = ivn1 a0 2 from by rw [hin2]; exact congrFun (up0_a (ne_in ty1.1 hqn2)) _) (show ivn1 a0 2 = iv3 a0 2 from by rw [hin1]; exact congrFun (up0_a (ne_in t_a0.1 hqn1)) _) (show iv3 a0 2 = 0 from by rw [pq3]; exact up2_s) (show (-2147483648) ≤ iv5 a0 5 ∧ iv5 a0 5 ≤ 2147483647 from W11.int ty4 5) (show iv5 a0 5 = ivn3 a0 5 from by rw [pq8]; exact up2_j (by decide)) (show ivn3 a0 5 = iv4 a0 5 from by rw [hin3]; exact congrFun (up0_a (ne_in ty2.1 hqn3)) _) (show iv4 a0 5 = 0 from by rw [pq6]; exact up2_s) (show (-2147483648) ≤ iv5 a0 7 ∧ iv5 a0 7 ≤ 2147483647 from W11.int ty4 7) (show iv5 a0 7 = 0 from by rw [pq8]; exact up2_s) (fun rp3 rn1 ty5 ty6 ri1 ie1 ie2 ie3 ie4 ie5 ie6 ie7 ie8 ri2 ie9 ie10 ie11 ie12 ie13 ie14 ie15 ri3 ie16 ie17 ie18 ie19 ie20 ie21 ri4 ie22 ie23 ie24 ri5 ie25 => ?_)
  exact c_vret C dX8_init_53 rfl (by decide) (rom0 hph (Nat.le_refl 0) (by decide)) ⟨rfl, X3, F11, W11, ⟨qn1, qn2, qn3, rn1, re4, ty5, re6, ty6, rp3, tqn3, (by omega), (by omega), (by omega), (by omega), (by omega)⟩, nw3.sub (by decide)⟩
set_option maxHeartbeats 4000000 in
set_option maxRecDepth 100000 in
theorem Y_setting {l : Launch} {G : GT} {mi : Nat} {sk : Nat → Nat} {L : List Nat} {cl ln : Nat → Nat} {iv : Nat → Nat → Int} {rv : Nat → Nat → Option Nat}  {a0 : Nat} (hW : WT (g0 G) sk L cl ln iv rv) (t_a0 : ty L cl a0 207)  : Mc l G mi zPf 0 yX6_init cX6_init 1 none 1 [.ref a0] L cl ln iv rv 2301 (fun v L2 cl2 ln2 iv2 rv2 => v = none ∧ XT L cl ln L2 cl2 ln2 ∧ fT [207] L cl iv rv iv2 rv2 ∧ WT (g0 G) sk L2 cl2 ln2 iv2 rv2 ∧ (∃ b0 b1 b2 b3 b6 b8, (∀ k, ([0, 1, 2, 3, 6, 8] : List Nat).contains k = false → rv2 a0 k = rv a0 k) ∧ rv2 a0 0 = some b0 ∧ ty L2 cl2 b0 50 ∧ rv2 a0 1 = some b1 ∧ ty L2 cl2 b1 51 ∧ rv2 a0 2 = some b2 ∧ ty L2 cl2 b2 52 ∧ rv2 a0 3 = some b3 ∧ ty L2 cl2 b3 53 ∧ rv2 a0 6 = some b6 ∧ ty L2 cl2 b6 54 ∧ rv2 a0 8 = some b8 ∧ ty L2 cl2 b8 55 ∧ iv2 a0 4 = 0 ∧ iv2 a0 5 = 0 ∧ iv2 a0 7 = 0 ∧ iv2 a0 9 = 0 ∧ iv2 a0 10 = 0 ∧ iv2 a0 11 = 0) ∧ NW [50, 51, 52, 53, 54, 55] L L2 cl2) := by
  refine Mc.mk (by decide) (Nat.le_of_ble_eq_true rfl) ?_
  intro p e s m args below meth c A C hM
  refine hv4 ((show zPf ln rv ≤ 0 from Nat.le_refl 0)) (show NW [] L L cl from NW.refl) (show XT L cl ln L cl ln from XT.refl) (show fT [207] L cl iv rv iv rv from fT.refl) (fun hph nw0 hX0 hF0 => ?_)
  refine c_aload_n (j := 0) (x := a0) C dX6_init_0 rfl ?_
  refine c_objInit C dX6_init_1 w1_135 w1_30 w1_31 (by decide) (Nat.le_of_ble_eq_true rfl) ?_
  refine c_aload_n (j := 0) (x := a0) C dX6_init_4 rfl ?_
  refine c_sipush (z := 500) C dX6_init_5 (by decide) ?_
  refine c_newaI (z := 500) (N := 500) C 50 dX6_init_8 w1_57 rfl (by omega) (by omega) (rom2 hph hph (by decide)) (fun qn1 cln1 lnn1 ivn1 rvn1 hqn1 hcn1 hln1 hin1 hrn1 => ⟨516, (z_in (by omega)), ?_⟩)
  refine c_g0 C (fun hg1 => ?_)
  refine hv5 (show ∀ b, b ≠ qn1 → lnn1 b = ln b from (fun b hb => by rw [hln1]; exact va_up_ne _ _ hb)) (show lnn1 qn1 = 500 from by rw [hln1]; exact va_up_self _ _ _) (hF0.new hX0 hqn1 hin1 hrn1) (show ty (L ++ [qn1]) cln1 qn1 50 from ty_new hcn1) (show qn1 ∉ L from fun h => hqn1 ((hX0 qn1 h).1)) (fun hxn1 lqn1 F1 tqn1 h0qn1 => ?_)
  refine hv2 (hW.new (ln2 := lnn1) hqn1 (hg1 qn1 (List.mem_append_right _ List.mem_cons_self)) hcn1 hxn1 hin1 hrn1 (fun _ => ⟨(show (-2147483648 : Int) ≤ 0 by decide), (show (0 : Int) ≤ 2147483647 by decide)⟩) (Or.inr (fun _ => rfl)) (fun _ => by show 500 ≤ lnn1 qn1 ∧ lnn1 qn1 ≤ 500; omega) rfl rfl) (XT.new hqn1 hcn1 hxn1) (fun W1 xl1 => ?_)
  refine hv3 (hX0.trans xl1) (nw0.new xl1 hcn1) (xl1.ty t_a0) (fun X1 nw1 ty1 => ?_)
  refine c_putrF (x := (some qn1)) (k := 0) C ck_7 dX6_init_10 w1_136 (by decide) rfl rfl rfl ty1 rfl rfl (by decide) rfl (by rfl) (by rfl) (fun rv1 pq1 => ⟨516, (zp2 (Nat.le_refl _)), ?_⟩)
  refine hv2 (W1.putr pq1 ty1 (fun qr => by rw [ty1.2] at qr; cases qr) rfl (by decide)) (F1.putr X1 pq1 ty1 rfl) (fun W2 F2 => ?_)
  refine c_aload_n (j := 0) (x := a0) C dX6_init_13 rfl ?_
  refine c_sipush (z := 500) C dX6_init_14 (by decide) ?_
  refine c_newaI (z := 500) (N := 500) C 51 dX6_init_17 w1_57 rfl (by omega) (by omega) (rom2 hph (Nat.le_refl 0) (by decide)) (fun qn2 cln2 lnn2 ivn2 rvn2 hqn2 hcn2 hln2 hin2 hrn2 => ⟨1032, (z_in (by omega)), ?_⟩)
  refine c_g0 C (fun hg2 => ?_)
  refine hv5 (show ∀ b, b ≠ qn2 → lnn2 b = lnn1 b from (fun b hb => by rw [hln2]; exact va_up_ne _ _ hb)) (show lnn2 qn2 = 500 from by rw [hln2]; exact va_up_self _ _ _) (F2.new X1 hqn2 hin2 hrn2) (show ty ((L ++ [qn1]) ++ [qn2]) cln2 qn2 51 from ty_new hcn2) (show qn2 ∉ L from fun h => hqn2 ((X1 qn2 h).1)) (fun hxn2 lqn2 F3 tqn2 h0qn2 => ?_)
  refine hv2 (W2.new (ln2 := lnn2) hqn2 (hg2 qn2 (List.mem_append_right _ List.mem_cons_self)) hcn2 hxn2 hin2 hrn2 (fun _ => ⟨(show (-2147483648 : Int) ≤ 0 by decide), (show (0 : Int) ≤ 2147483647 by decide)⟩) (Or.inr (fun _ => rfl)) (fun _ => by show 500 ≤ lnn2 qn2 ∧ lnn2 qn2 ≤ 500; omega) rfl rfl) (XT.new hqn2 hcn2 hxn2) (fun W3 xl2 => ?_)
  refine hv3 (X1.trans xl2) (nw1.new xl2 hcn2) (xl2.ty ty1) (fun X2 nw2 ty2 => ?_)
  refine c_putrF (x := (some qn2)) (k := 1) C ck_7 dX6_init_19 w1_137 (by decide) rfl rfl rfl ty2 rfl rfl (by decide) rfl (by rfl) (by rfl) (fun rv2 pq2 => ⟨1032, (zp2 (Nat.le_refl _)), ?_⟩)
  refine hv2 (W3.putr pq2 ty2 (fun qr => by rw [ty2.2] at qr; cases qr) rfl (by decide)) (F3.putr X2 pq2 ty2 rfl) (fun W4 F4 => ?_)
  refine c_aload_n (j := 0) (x := a0) C dX6_init_22 rfl ?_
  refine c_sipush (z := 500) C dX6_init_23 (by decide) ?_
  have ty3 := xl2.ty tqn1
  refine c_newaZ (z := 500) (N := 500) C 52 dX6_init_26 w1_129 rfl (by omega) (by omega) (rom2 hph (Nat.le_refl 0) (by decide)) (fun qn3 cln3 lnn3 ivn3 rvn3 hqn3 hcn3 hln3 hin3 hrn3 => ⟨1548, (z_in (by omega)), ?_⟩)
  refine c_g0 C (fun hg3 => ?_)
  refine hv5 (show ∀ b, b ≠ qn3 → lnn3 b = lnn2 b from (fun b hb => by rw [hln3]; exact va_up_ne _ _ hb)) (show lnn3 qn3 = 500 from by rw [hln3]; exact va_up_self _ _ _) (F4.new X2 hqn3 hin3 hrn3) (show ty (((L ++ [qn1]) ++ [qn2]) ++ [qn3]) cln3 qn3 52 from ty_new hcn3) (show qn3 ∉ L from fun h => hqn3 ((X2 qn3 h).1)) (fun hxn3 lqn3 F5 tqn3 h0qn3 => ?_)
  refine hv2 (W4.new (ln2 := lnn3) hqn3 (hg3 qn3 (List.mem_append_right _ List.mem_cons_self)) hcn3 hxn3 hin3 hrn3 (fun _ => ⟨(show (0 : Int) ≤ 0 by decide), (show (0 : Int) ≤ 1 by decide)⟩) (Or.inr (fun _ => rfl)) (fun _ => by show 500 ≤ lnn3 qn3 ∧ lnn3 qn3 ≤ 500; omega) rfl rfl) (XT.new hqn3 hcn3 hxn3) (fun W5 xl3 => ?_)
  refine hv3 (X2.trans xl3) (nw2.new xl3 hcn3) (xl3.ty ty2) (fun X3 nw3 ty4 => ?_)
  refine c_putrF (x := (some qn3)) (k := 2) C ck_7 dX6_init_28 w1_138 (by decide) rfl rfl rfl ty4 rfl rfl (by decide) rfl (by rfl) (by rfl) (fun rv3 pq3 => ⟨1548, (zp2 (Nat.le_refl _)), ?_⟩)
  refine hv2 (W5.putr pq3 ty4 (fun qr => by rw [ty4.2] at qr; cases qr) rfl (by decide)) (F5.putr X3 pq3 ty4 rfl) (fun W6 F6 => ?_)
  refine c_aload_n (j := 0) (x := a0) C dX6_init_31 rfl ?_
  refine c_sipush (z := 500) C dX6_init_32 (by decide) ?_
  refine hv2 (xl3.ty ty3) (xl3.ty tqn2) (fun ty5 ty6 => ?_)
  refine c_newaI (z := 500) (N := 500) C 53 dX6_init_35 w1_57 rfl (by omega) (by omega) (rom2 hph (Nat.le_refl 0) (by decide)) (fun qn4 cln4 lnn4 ivn4 rvn4 hqn4 hcn4 hln4 hin4 hrn4 => ⟨2064, (z_in (by omega)), ?_⟩)
  refine c_g0 C (fun hg4 => ?_)
  refine hv5 (show ∀ b, b ≠ qn4 → lnn4 b = lnn3 b from (fun b hb => by rw [hln4]; exact va_up_ne _ _ hb)) (show lnn4 qn4 = 500 from by rw [hln4]; exact va_up_self _ _ _) (F6.new X3 hqn4 hin4 hrn4) (show ty ((((L ++ [qn1]) ++ [qn2]) ++ [qn3]) ++ [qn4]) cln4 qn4 53 from ty_new hcn4) (show qn4 ∉ L from fun h => hqn4 ((X3 qn4 h).1)) (fun hxn4 lqn4 F7 tqn4 h0qn4 => ?_)
  refine hv2 (W6.new (ln2 := lnn4) hqn4 (hg4 qn4 (List.mem_append_right _ List.mem_cons_self)) hcn4 hxn4 hin4 hrn4 (fun _ => ⟨(show (-2147483648 : Int) ≤ 0 by decide), (show (0 : Int) ≤ 2147483647 by decide)⟩) (Or.inr (fun _ => rfl)) (fun _ => by show 500 ≤ lnn4 qn4 ∧ lnn4 qn4 ≤ 500; omega) rfl rfl) (XT.new hqn4 hcn4 hxn4) (fun W7 xl4 => ?_)
  refine hv3 (X3.trans xl4) (nw3.new xl4 hcn4) (xl4.ty ty4) (fun X4 nw4 ty7 => ?_)
  refine c_putrF (x := (some qn4)) (k := 3) C ck_7 dX6_init_37 w1_139 (by decide) rfl rfl rfl ty7 rfl rfl (by decide) rfl (by rfl) (by rfl) (fun rv4 pq4 => ⟨2064, (zp2 (Nat.le_refl _)), ?_⟩)
  refine hv2 (W7.putr pq4 ty7 (fun qr => by rw [ty7.2] at qr; cases qr) rfl (by decide)) (F7.putr X4 pq4 ty7 rfl) (fun W8 F8 => ?_)
  refine c_aload_n (j := 0) (x := a0) C dX6_init_40 rfl ?_
  refine c_iconst C dX6_init_41 ?_
  refine c_put (z := 0) (k := 4) C ck_7 dX6_init_42 w1_140 (by decide) rfl ty7 rfl rfl (by decide) rfl (by rfl) (by rfl) (fun iv1 pq5 => ?_)
  refine hv2 (W8.puti pq5 ty7 ⟨by decide, by decide⟩ rfl) (F8.puti X4 pq5 ty7 rfl) (fun W9 F9 => ?_)
  refine c_aload_n (j := 0) (x := a0) C dX6_init_45 rfl ?_
  refine c_iconst C dX6_init_46 ?_
  refine c_put (z := 0) (k := 5) C ck_7 dX6_init_47 w1_143 (by decide) rfl ty7 rfl rfl (by decide) rfl (by decide) (by decide) (fun iv2 pq6 => ?_)
  refine hv2 (W9.puti pq6 ty7 ⟨by decide, by decide⟩ rfl) (F9.puti X4 pq6 ty7 rfl) (fun W10 F10 => ?_)
  refine c_aload_n (j := 0) (x := a0) C dX6_init_50 rfl ?_
  refine c_sipush (z := 200) C dX6_init_51 (by decide) ?_
  refine hv3 (xl4.ty ty5) (xl4.ty ty6) (xl4.ty tqn3) (fun ty8 ty9 ty10 => ?_)
  refine c_newaI (z := 200) (N := 200) C 54 dX6_init_54 w1_57 rfl (by omega) (by omega) (rom2 hph (Nat.le_refl 0) (by decide)) (fun qn5 cln5 lnn5 ivn5 rvn5 hqn5 hcn5 hln5 hin5 hrn5 => ⟨2280, (z_in (by omega)), ?_⟩)
  refine c_g0 C (fun hg5 => ?_)
  refine hv5 (show ∀ b, b ≠ qn5 → lnn5 b = lnn4 b from (fun b hb => by rw [hln5]; exact va_up_ne _ _ hb)) (show lnn5 qn5 = 200 from by rw [hln5]; exact va_up_self _ _ _) (F10.new X4 hqn5 hin5 hrn5) (show ty (((((L ++ [qn1]) ++ [qn2]) ++ [qn3]) ++ [qn4]) ++ [qn5]) cln5 qn5 54 from ty_new hcn5) (show qn5 ∉ L from fun h => hqn5 ((X4 qn5 h).1)) (fun hxn5 lqn5 F11 tqn5 h0qn5 => ?_)
  refine hv2 (W10.new (ln2 := lnn5) hqn5 (hg5 qn5 (List.mem_append_right _ List.mem_cons_self)) hcn5 hxn5 hin5 hrn5 (fun _ => ⟨(show (-2147483648 : Int) ≤ 0 by decide), (show (0 : Int) ≤ 2147483647 by decide)⟩) (Or.inr (fun _ => rfl)) (fun _ => by show 200 ≤ lnn5 qn5 ∧ lnn5 qn5 ≤ 200; omega) rfl rfl) (XT.new hqn5 hcn5 hxn5) (fun W11 xl5 => ?_)
  refine hv3 (X4.trans xl5) (nw4.new xl5 hcn5) (xl5.ty ty7) (fun X5 nw5 ty11 => ?_)
  refine c_putrF (x := (some qn5)) (k := 6) C ck_7 dX6_init_56 w1_144 (by decide) rfl rfl rfl ty11 rfl rfl (by decide) rfl (by rfl) (by rfl) (fun rv5 pq7 => ⟨2280, (zp2 (Nat.le_refl _)), ?_⟩)
  refine hv2 (W11.putr pq7 ty11 (fun qr => by rw [ty11.2] at qr; cases qr) rfl (by decide)) (F11.putr X5 pq7 ty11 rfl) (fun W12 F12 => ?_)
  refine c_aload_n (j := 0) (x := a0) C dX6_init_59 rfl ?_
  refine c_iconst C dX6_init_60 ?_
  refine c_put (z := 0) (k := 7) C ck_7 dX6_init_61 w1_147 (by decide) rfl ty11 rfl rfl (by decide) rfl (by rfl) (by rfl) (fun iv3 pq8 => ?_)
  refine hv2 (W12.puti pq8 ty11 ⟨by decide, by decide⟩ rfl) (F12.puti X5 pq8 ty11 rfl) (fun W13 F13 => ?_)
  refine c_aload_n (j := 0) (x := a0) C dX6_init_64 rfl ?_
  refine c_iconst C dX6_init_65 ?_
  refine hv4 (xl5.ty ty8) (xl5.ty ty9) (xl5.ty ty10) (xl5.ty tqn4) (fun ty12 ty13 ty14 ty15 => ?_)
  refine c_newaI (z := 5) (N := 5) C 55 dX6_init_66 w1_57 rfl (by omega) (by omega) (rom2 hph (Nat.le_refl 0) (by decide)) (fun qn6 cln6 lnn6 ivn6 rvn6 hqn6 hcn6 hln6 hin6 hrn6 => ⟨2301, (z_in (by omega)), ?_⟩)
  refine c_g0 C (fun hg6 => ?_)
  refine hv5 (show ∀ b, b ≠ qn6 → lnn6 b = lnn5 b from (fun b hb => by rw [hln6]; exact va_up_ne _ _ hb)) (show lnn6 qn6 = 5 from by rw [hln6]; exact va_up_self _ _ _) (F13.new X5 hqn6 hin6 hrn6) (show ty ((((((L ++ [qn1]) ++ [qn2]) ++ [qn3]) ++ [qn4]) ++ [qn5]) ++ [qn6]) cln6 qn6 55 from ty_new hcn6) (show qn6 ∉ L from fun h => hqn6 ((X5 qn6 h).1)) (fun hxn6 lqn6 F14 tqn6 h0qn6 => ?_)
  refine hv2 (W13.new (ln2 := lnn6) hqn6 (hg6 qn6 (List.mem_append_right _ List.mem_cons_self)) hcn6 hxn6 hin6 hrn6 (fun _ => ⟨(show (-2147483648 : Int) ≤ 0 by decide), (show (0 : Int) ≤ 2147483647 by decide)⟩) (Or.inr (fun _ => rfl)) (fun _ => by show 5 ≤ lnn6 qn6 ∧ lnn6 qn6 ≤ 5; omega) rfl rfl) (XT.new hqn6 hcn6 hxn6) (fun W14 xl6 => ?_)
  refine hv3 (X5.trans xl6) (nw5.new xl6 hcn6) (xl6.ty ty11) (fun X6 nw6 ty16 => ?_)
  refine c_putrF (x := (some qn6)) (k := 8) C ck_7 dX6_init_68 w1_150 (by decide) rfl rfl rfl ty16 rfl rfl (by decide) rfl (by rfl) (by rfl) (fun rv6 pq9 => ⟨2301, (zp2 (Nat.le_refl _)), ?_⟩)
  refine hv2 (W14.putr pq9 ty16 (fun qr => by rw [ty16.2] at qr; cases qr) rfl (by decide)) (F14.putr X6 pq9 ty16 rfl) (fun W15 F15 => ?_)
  refine c_aload_n (j := 0) (x := a0) C dX6_init_71 rfl ?_
  refine c_iconst C dX6_init_72 ?_
  refine c_put (z := 0) (k := 9) C ck_7 dX6_init_73 w1_151 (by decide) rfl ty16 rfl rfl (by decide) rfl (by rfl) (by rfl) (fun iv4 pq10 => ?_)
  refine hv2 (W15.puti pq10 ty16 ⟨by decide, by decide⟩ rfl) (F15.puti X6 pq10 ty16 rfl) (fun W16 F16 => ?_)
  refine c_aload_n (j := 0) (x := a0) C dX6_init_76 rfl ?_
  refine c_iconst C dX6_init_77 ?_
  refine c_put (z := 0) (k := 10) C ck_7 dX6_init_78 w1_152 (by decide) rfl ty16 rfl rfl (by decide) rfl (by rfl) (by rfl) (fun iv5 pq11 => ?_)
  refine hv2 (W16.puti pq11 ty16 ⟨by decide, by decide⟩ rfl) (F16.puti X6 pq11 ty16 rfl) (fun W17 F17 => ?_)
  refine c_aload_n (j := 0) (x := a0) C dX6_init_81 rfl ?_
  refine c_iconst C dX6_init_82 ?_
  refine c_put (z := 0) (k := 11) C ck_7 dX6_init_83 w1_153 (by decide) rfl ty16 rfl rfl (by decide) rfl (by rfl) (by rfl) (fun iv6 pq12 => ?_)
  refine hv4 (W17.puti pq12 ty16 ⟨by decide, by decide⟩ rfl) (F17.puti X6 pq12 ty16 rfl) (show rv1 a0 0 = (some qn1) from by rw [pq1]; exact upr_s) (show rvn2 a0 0 = rv1 a0 0 from (by rw [hrn2]; exact congrFun (up0_a (ne_in ty1.1 hqn2)) _)) (fun W18 F18 rp1 re1 => ?_)
  rw [rp1] at re1
  have re2 : rv2 a0 0 = rvn2 a0 0 := (by rw [pq2]; exact upr_j (by decide))
  rw [re1] at re2
  have re3 : rvn3 a0 0 = rv2 a0 0 := (by rw [hrn3]; exact congrFun (up0_a (ne_in ty2.1 hqn3)) _)
  rw [re2] at re3
  have re4 : rv3 a0 0 = rvn3 a0 0 := (by rw [pq3]; exact upr_j (by decide))
  rw [re3] at re4
  have re5 : rvn4 a0 0 = rv3 a0 0 := (by rw [hrn4]; exact congrFun (up0_a (ne_in ty4.1 hqn4)) _)
  rw [re4] at re5
  have re6 : rv4 a0 0 = rvn4 a0 0 := (by rw [pq4]; exact upr_j (by decide))
  rw [re5] at re6
  have re7 : rvn5 a0 0 = rv4 a0 0 := (by rw [hrn5]; exact congrFun (up0_a (ne_in ty7.1 hqn5)) _)
  rw [re6] at re7
  have re8 : rv5 a0 0 = rvn5 a0 0 := (by rw [pq7]; exact upr_j (by decide))
  rw [re7] at re8
  have re9 : rvn6 a0 0 = rv5 a0 0 := (by rw [hrn6]; exact congrFun (up0_a (ne_in ty11.1 hqn6)) _)
  rw [re8] at re9
  have re10 : rv6 a0 0 = rvn6 a0 0 := (by rw [pq9]; exact upr_j (by decide))
  rw [re9] at re10
  refine hv2 (show rv2 a0 1 = (some qn2) from by rw [pq2]; exact upr_s) (show rvn3 a0 1 = rv2 a0 1 from (by rw [hrn3]; exact congrFun (up0_a (ne_in ty2.1 hqn3)) _)) (fun rp2 re11 => ?_)
  rw [rp2] at re11
  have re12 : rv3 a0 1 = rvn3 a0 1 := (by rw [pq3]; exact upr_j (by decide))
  rw [re11] at re12
  have re13 : rvn4 a0 1 = rv3 a0 1 := (by rw [hrn4]; exact congrFun (up0_a (ne_in ty4.1 hqn4)) _)
  rw [re12] at re13
  have re14 : rv4 a0 1 = rvn4 a0 1 := (by rw [pq4]; exact upr_j (by decide))
  rw [re13] at re14
  have re15 : rvn5 a0 1 = rv4 a0 1 := (by rw [hrn5]; exact congrFun (up0_a (ne_in ty7.1 hqn5)) _)
  rw [re14] at re15
  have re16 : rv5 a0 1 = rvn5 a0 1 := (by rw [pq7]; exact upr_j (by decide))
  rw [re15] at re16
  have re17 : rvn6 a0 1 = rv5 a0 1 := (by rw [hrn6]; exact congrFun (up0_a (ne_in ty11.1 hqn6)) _)
  rw [re16] at re17
  have re18 : rv6 a0 1 = rvn6 a0 1 := (by rw [pq9]; exact upr_j (by decide))
  rw [re17] at re18
  refine hv2 (show rv3 a0 2 = (some qn3) from by rw [pq3]; exact upr_s) (show rvn4 a0 2 = rv3 a0 2 from (by rw [hrn4]; exact congrFun (up0_a (ne_in ty4.1 hqn4)) _)) (fun rp3 re19 => ?_)
  rw [rp3] at re19
  have re20 : rv4 a0 2 = rvn4 a0 2 := (by rw [pq4]; exact upr_j (by decide))
  rw [re19] at re20
  have re21 : rvn5 a0 2 = rv4 a0 2 := (by rw [hrn5]; exact congrFun (up0_a (ne_in ty7.1 hqn5)) _)
  rw [re20] at re21
  have re22 : rv5 a0 2 = rvn5 a0 2 := (by rw [pq7]; exact upr_j (by decide))
  rw [re21] at re22
  have re23 : rvn6 a0 2 = rv5 a0 2 := (by rw [hrn6]; exact congrFun (up0_a (ne_in ty11.1 hqn6)) _)
  rw [re22] at re23
  have re24 : rv6 a0 2 = rvn6 a0 2 := (by rw [pq9]; exact upr_j (by decide))
  rw [re23] at re24
  refine hv2 (show rv4 a0 3 = (some qn4) from by rw [pq4]; exact upr_s) (show rvn5 a0 3 = rv4 a0 3 from (by rw [hrn5]; exact congrFun (up0_a (ne_in ty7.1 hqn5)) _)) (fun rp4 re25 => ?_)
  rw [rp4] at re25
  have re26 : rv5 a0 3 = rvn5 a0 3 := (by rw [pq7]; exact upr_j (by decide))
  rw [re25] at re26
  have re27 : rvn6 a0 3 = rv5 a0 3 := (by rw [hrn6]; exact congrFun (up0_a (ne_in ty11.1 hqn6)) _)
  rw [re26] at re27
  have re28 : rv6 a0 3 = rvn6 a0 3 := (by rw [pq9]; exact upr_j (by decide))
  rw [re27] at re28
  refine hv2 (show rv5 a0 6 = (some qn5) from by rw [pq7]; exact upr_s) (show rvn6 a0 6 = rv5 a0 6 from (by rw [hrn6]; exact congrFun (up0_a (ne_in ty11.1 hqn6)) _)) (fun rp5 re29 => ?_)
  rw [rp5] at re29
  have re30 : rv6 a0 6 = rvn6 a0 6 := (by rw [pq9]; exact upr_j (by decide))
  rw [re29] at re30
  refine hv39 (show rv6 a0 8 = (some qn6) from by rw [pq9]; exact upr_s) (show ∀ k, ([0, 1, 2, 3, 6, 8] : List Nat).contains k = false → rv6 a0 k = rv a0 k from fun k hk => (Eq.trans (show rv6 a0 k = rvn6 a0 k from (by rw [pq9]; exact upr_j (fun e => by subst e; exact absurd hk (by decide)))) (Eq.trans (show rvn6 a0 k = rv5 a0 k from (by rw [hrn6]; exact congrFun (up0_a (ne_in ty11.1 hqn6)) _)) (Eq.trans (show rv5 a0 k = rvn5 a0 k from (by rw [pq7]; exact upr_j (fun e => by subst e; exact absurd hk (by decide)))) (Eq.trans (show rvn5 a0 k = rv4 a0 k from (by rw [hrn5]; exact congrFun (up0_a (ne_in ty7.1 hqn5)) _)) (Eq.trans (show rv4 a0 k = rvn4 a0 k from (by rw [pq4]; exact upr_j (fun e => by subst e; exact absurd hk (by decide)))) (Eq.trans (show rvn4 a0 k = rv3 a0 k from (by rw [hrn4]; exact congrFun (up0_a (ne_in ty4.1 hqn4)) _)) (Eq.trans (show rv3 a0 k = rvn3 a0 k from (by rw [pq3]; exact upr_j (fun e => by subst e; exact absurd hk (by decide)))) (Eq.trans (show rvn3 a0 k = rv2 a0 k from (by rw [hrn3]; exact congrFun (up0_a (ne_in ty2.1 hqn3)) _)) (Eq.trans (show rv2 a0 k = rvn2 a0 k from (by rw [pq2]; exact upr_j (fun e => by subst e; exact absurd hk (by decide)))) (Eq.trans (show rvn2 a0 k = rv1 a0 k from (by rw [hrn2]; exact congrFun (up0_a (ne_in ty1.1 hqn2)) _)) (Eq.trans (show rv1 a0 k = rvn1 a0 k from (by rw [pq1]; exact upr_j (fun e => by subst e; exact absurd hk (by decide)))) (show rvn1 a0 k = rv a0 k from (by rw [hrn1]; exact congrFun (up0_a (ne_in t_a0.1 hqn1)) _)))))))))))))) (xl6.ty ty12) (xl6.ty ty13) (xl6.ty ty14) (xl6.ty ty15) (xl6.ty tqn5) (show (-2147483648) ≤ iv6 a0 4 ∧ iv6 a0 4 ≤ 2147483647 from W18.int ty16 4) (show iv6 a0 4 = iv5 a0 4 from by rw [pq12]; exact up2_j (by decide)) (show iv5 a0 4 = iv4 a0 4 from by rw [pq11]; exact up2_j (by decide)) (show iv4 a0 4 = ivn6 a0 4 from by rw [pq10]; exact up2_j (by decide)) (show ivn6 a0 4 = iv3 a0 4 from by rw [hin6]; exact congrFun (up0_a (ne_in ty11.1 hqn6)) _) (show iv3 a0 4 = ivn5 a0 4 from by rw [pq8]; exact up2_j (by decide)) (show ivn5 a0 4 = iv2 a0 4 from by rw [hin5]; exact congrFun (up0_a (ne_in ty7.1 hqn5)) _) (show iv2 a0 4 = iv1 a0 4 from by rw [pq6]; exact up2_j (by decide)) (show iv1 a0 4 = 0 from by rw [pq5]; exact up2_s) (show (-2147483648) ≤ iv6 a0 5 ∧ iv6 a0 5 ≤ 2147483647 from W18.int ty16 5) (show iv6 a0 5 = iv5 a0 5 from by rw [pq12]; exact up2_j (by decide)) (show iv5 a0 5 = iv4 a0 5 from by rw [pq11]; exact up2_j (by decide)) (show iv4 a0 5 = ivn6 a0 5 from by rw [pq10]; exact up2_j (by decide)) (show ivn6 a0 5 = iv3 a0 5 from by rw [hin6]; exact congrFun (up0_a (ne_in ty11.1 hqn6)) _) (show iv3 a0 5 = ivn5 a0 5 from by rw [pq8]; exact up2_j (by decide)) (show ivn5 a0 5 = iv2 a0 5 from by rw [hin5]; exact congrFun (up0_a (ne_in ty7.1 hqn5)) _) (show iv2 a0 5 = 0 from by rw [pq6]; exact up2_s) (show (-2147483648) ≤ iv6 a0 7 ∧ iv6 a0 7 ≤ 2147483647 from W18.int ty16 7) (show iv6 a0 7 = iv5 a0 7 from by rw [pq12]; exact up2_j (by decide)) (show iv5 a0 7 = iv4 a0 7 from by rw [pq11]; exact up2_j (by decide)) (show iv4 a0 7 = ivn6 a0 7 from by rw [pq10]; exact up2_j (by decide)) (show ivn6 a0 7 = iv3 a0 7 from by rw [hin6]; exact congrFun (up0_a (ne_in ty11.1 hqn6)) _) (show iv3 a0 7 = 0 from by rw [pq8]; exact up2_s) (show (-2147483648) ≤ iv6 a0 9 ∧ iv6 a0 9 ≤ 2147483647 from W18.int ty16 9) (show iv6 a0 9 = iv5 a0 9 from by rw [pq12]; exact up2_j (by decide)) (show iv5 a0 9 = iv4 a0 9 from by rw [pq11]; exact up2_j (by decide)) (show iv4 a0 9 = 0 from by rw [pq10]; exact up2_s) (show (-2147483648) ≤ iv6 a0 10 ∧ iv6 a0 10 ≤ 2147483647 from W18.int ty16 10) (show iv6 a0 10 = iv5 a0 10 from by rw [pq12]; exact up2_j (by decide)) (show iv5 a0 10 = 0 from by rw [pq11]; exact up2_s) (show (-2147483648) ≤ iv6 a0 11 ∧ iv6 a0 11 ≤ 2147483647 from W18.int ty16 11) (show iv6 a0 11 = 0 from by rw [pq12]; exact up2_s) (fun rp6 rn1 ty17 ty18 ty19 ty20 ty21 ri1 ie1 ie2 ie3 ie4 ie5 ie6 ie7 ie8 ri2 ie9 ie10 ie11 ie12 ie13 ie14 ie15 ri3 ie16 ie17 ie18 ie19 ie20 ri4 ie21 ie22 ie23 ri5 ie24 ie25 ri6 ie26 => ?_)
  exact c_vret C dX6_init_86 rfl (by decide) (rom0 hph (Nat.le_refl 0) (by decide)) ⟨rfl, X6, F18, W18, ⟨qn1, qn2, qn3, qn4, qn5, qn6, rn1, re10, ty17, re18, ty18, re24, ty19, re28, ty20, re30, ty21, rp6, tqn6, (by omega), (by omega), (by omega), (by omega), (by omega), (by omega)⟩, nw6.sub (by decide)⟩
set_option maxHeartbeats 4000000 in
set_option maxRecDepth 100000 in
theorem Y_sheet {l : Launch} {G : GT} {mi : Nat} {sk : Nat → Nat} {L : List Nat} {cl ln : Nat → Nat} {iv : Nat → Nat → Int} {rv : Nat → Nat → Option Nat}  {a0 : Nat} (hW : WT (g0 G) sk L cl ln iv rv) (t_a0 : ty L cl a0 208)  : Mc l G mi zPf 0 yX7_init cX7_init 1 none 1 [.ref a0] L cl ln iv rv 216 (fun v L2 cl2 ln2 iv2 rv2 => v = none ∧ XT L cl ln L2 cl2 ln2 ∧ fT [208] L cl iv rv iv2 rv2 ∧ WT (g0 G) sk L2 cl2 ln2 iv2 rv2 ∧ (∃ b, (∀ k, ([0] : List Nat).contains k = false → rv2 a0 k = rv a0 k) ∧ rv2 a0 0 = some b ∧ ty L2 cl2 b 213 ∧ ln2 b = 200 ∧ (∀ k, rv2 b k = none) ∧ b ∉ L ∧ iv2 a0 1 = 0) ∧ NW [213] L L2 cl2) := by
  refine Mc.mk (by decide) (Nat.le_of_ble_eq_true rfl) ?_
  intro p e s m args below meth c A C hM
  refine hv4 ((show zPf ln rv ≤ 0 from Nat.le_refl 0)) (show NW [] L L cl from NW.refl) (show XT L cl ln L cl ln from XT.refl) (show fT [208] L cl iv rv iv rv from fT.refl) (fun hph nw0 hX0 hF0 => ?_)
  refine c_aload_n (j := 0) (x := a0) C dX7_init_0 rfl ?_
  refine c_objInit C dX7_init_1 w2_30 w1_30 w1_31 (by decide) (Nat.le_of_ble_eq_true rfl) ?_
  refine c_aload_n (j := 0) (x := a0) C dX7_init_4 rfl ?_
  refine c_sipush (z := 200) C dX7_init_5 (by decide) ?_
  refine c_newaL (z := 200) (N := 200) C 213 dX7_init_8 w2_31 w2_32t rfl (by omega) (by omega) (rom2 hph hph (by decide)) (fun qn1 cln1 lnn1 ivn1 rvn1 hqn1 hcn1 hln1 hin1 hrn1 => ⟨216, (z_in (by omega)), ?_⟩)
  refine c_g0 C (fun hg1 => ?_)
  refine hv5 (show ∀ b, b ≠ qn1 → lnn1 b = ln b from (fun b hb => by rw [hln1]; exact va_up_ne _ _ hb)) (show lnn1 qn1 = 200 from by rw [hln1]; exact va_up_self _ _ _) (hF0.new hX0 hqn1 hin1 hrn1) (show ty (L ++ [qn1]) cln1 qn1 213 from ty_new hcn1) (show qn1 ∉ L from fun h => hqn1 ((hX0 qn1 h).1)) (fun hxn1 lqn1 F1 tqn1 h0qn1 => ?_)
  refine hv2 (hW.new (ln2 := lnn1) hqn1 (hg1 qn1 (List.mem_append_right _ List.mem_cons_self)) hcn1 hxn1 hin1 hrn1 (fun _ => ⟨(show (-2147483648 : Int) ≤ 0 by decide), (show (0 : Int) ≤ 2147483647 by decide)⟩) (Or.inl rfl) (fun q => by cases q) rfl rfl) (XT.new hqn1 hcn1 hxn1) (fun W1 xl1 => ?_)
  refine hv3 (hX0.trans xl1) (nw0.new xl1 hcn1) (xl1.ty t_a0) (fun X1 nw1 ty1 => ?_)
  refine c_putrF (x := (some qn1)) (k := 0) C ck_8 dX7_init_11 w2_33 (by decide) rfl rfl rfl ty1 rfl rfl (by decide) rfl (by rfl) (by rfl) (fun rv1 pq1 => ⟨216, (zp2 (Nat.le_refl _)), ?_⟩)
  refine hv2 (W1.putr pq1 ty1 (fun qr => by rw [ty1.2] at qr; cases qr) rfl (by decide)) (F1.putr X1 pq1 ty1 rfl) (fun W2 F2 => ?_)
  refine c_aload_n (j := 0) (x := a0) C dX7_init_14 rfl ?_
  refine c_iconst C dX7_init_15 ?_
  refine c_put (z := 0) (k := 1) C ck_8 dX7_init_16 w2_34 (by decide) rfl ty1 rfl rfl (by decide) rfl (by rfl) (by rfl) (fun iv1 pq2 => ?_)
  refine hv2 (W2.puti pq2 ty1 ⟨by decide, by decide⟩ rfl) (F2.puti X1 pq2 ty1 rfl) (fun W3 F3 => ?_)
  refine c_aload_n (j := 0) (x := a0) C dX7_init_19 rfl ?_
  refine c_iconst C dX7_init_20 ?_
  refine c_put (z := 0) (k := 2) C ck_8 dX7_init_21 w2_36 (by decide) rfl ty1 rfl rfl (by decide) rfl (by rfl) (by rfl) (fun iv2 pq3 => ?_)
  refine hv7 (W3.puti pq3 ty1 ⟨by decide, by decide⟩ rfl) (F3.puti X1 pq3 ty1 rfl) (show rv1 a0 0 = (some qn1) from by rw [pq1]; exact upr_s) (show ∀ k, ([] : List Nat).contains k = false → rv1 qn1 k = none from fun k hk => (Eq.trans (show rv1 qn1 k = rvn1 qn1 k from (by rw [pq1]; exact congrFun (upr_a (ne_ty tqn1 ty1 (by decide))) _)) (show rvn1 qn1 k = none from (by rw [hrn1]; exact up0_s)))) (show iv2 a0 1 = iv1 a0 1 from by rw [pq3]; exact up2_j (by decide)) (show iv1 a0 1 = 0 from by rw [pq2]; exact up2_s) (show ∀ k, ([0] : List Nat).contains k = false → rv1 a0 k = rv a0 k from fun k hk => (Eq.trans (show rv1 a0 k = rvn1 a0 k from (by rw [pq1]; exact upr_j (fun e => by subst e; exact absurd hk (by decide)))) (show rvn1 a0 k = rv a0 k from (by rw [hrn1]; exact congrFun (up0_a (ne_in t_a0.1 hqn1)) _)))) (fun W4 F4 rp1 rn1 ie1 ie2 rn2 => ?_)
  have ri1 : (-2147483648) ≤ iv2 a0 1 ∧ iv2 a0 1 ≤ 2147483647 := W4.int ty1 1
  exact c_vret C dX7_init_24 rfl (by decide) (rom0 hph (Nat.le_refl 0) (by decide)) ⟨rfl, X1, F4, W4, ⟨qn1, rn2, rp1, tqn1, (by omega), (fun k => rn1 k rfl), h0qn1, (by omega)⟩, nw1.sub (by decide)⟩
end
section
set_option maxHeartbeats 4000000 in
set_option maxRecDepth 100000 in
theorem Y_tables {l : Launch} {G : GT} {mi : Nat} {sk : Nat → Nat} {L : List Nat} {cl ln : Nat → Nat} {iv : Nat → Nat → Int} {rv : Nat → Nat → Option Nat}  {a0 : Nat} (hW : WT (g0 G) sk L cl ln iv rv) (hnt : ∀ t, ([22, 23] : List Nat).contains t = true → ∀ a ∈ L, cl a ≠ t) (t_a0 : ty L cl a0 211)  : Mc l G mi zPf 0 yX10_init cX10_init 1 none 4 [.ref a0] L cl ln iv rv 38 (fun v L2 cl2 ln2 iv2 rv2 => ∃ sk2, v = none ∧ XT L cl ln L2 cl2 ln2 ∧ fT [211, 200] L cl iv rv iv2 rv2 ∧ WT (g0 G) sk2 L2 cl2 ln2 iv2 rv2 ∧ (∃ b0 b1, (∀ k, ([0, 1] : List Nat).contains k = false → rv2 a0 k = rv a0 k) ∧ rv2 a0 0 = some b0 ∧ ty L2 cl2 b0 22 ∧ rv2 a0 1 = some b1 ∧ ty L2 cl2 b1 23 ∧ iv2 b0 2 = 0 ∧ iv2 b1 2 = 0) ∧ NW [200, 22, 23] L L2 cl2) := by
  refine Mc.mk (by decide) (Nat.le_of_ble_eq_true rfl) ?_
  intro p e s m args below meth c A C hM
  refine hv4 ((show zPf ln rv ≤ 0 from Nat.le_refl 0)) (show NW [] L L cl from NW.refl) (show XT L cl ln L cl ln from XT.refl) (show fT [211, 200] L cl iv rv iv rv from fT.refl) (fun hph nw0 hX0 hF0 => ?_)
  refine c_aload_n (j := 0) (x := a0) C dX10_init_0 rfl ?_
  refine c_objInit C dX10_init_1 w1_63 w1_30 w1_31 (by decide) (Nat.le_of_ble_eq_true rfl) ?_
  refine c_aload_n (j := 0) (x := a0) C dX10_init_4 rfl ?_
  refine c_new C ck_0 dv_0 ⟨rfl, rfl⟩ rfl (by decide) dX10_init_5 w1_64 w1_65 w1_6 (rom2 hph hph (by decide)) (fun qn1 cln1 lnn1 ivn1 rvn1 hqn1 hcn1 hln1 hin1 hrn1 => ⟨19, (z_in (by omega)), ?_⟩)
  refine c_g0 C (fun hg1 => ?_)
  refine hv4 (show ∀ b, b ≠ qn1 → lnn1 b = ln b from (fun b _ => by rw [hln1])) (hF0.new hX0 hqn1 hin1 hrn1) (show ty (L ++ [qn1]) cln1 qn1 200 from ty_new hcn1) (show qn1 ∉ L from fun h => hqn1 ((hX0 qn1 h).1)) (fun hxn1 F1 tqn1 h0qn1 => ?_)
  refine hv2 (hW.new (ln2 := lnn1) hqn1 (hg1 qn1 (List.mem_append_right _ List.mem_cons_self)) hcn1 hxn1 hin1 hrn1 (fun _ => ⟨(show (-2147483648 : Int) ≤ 0 by decide), (show (0 : Int) ≤ 2147483647 by decide)⟩) (Or.inl rfl) (fun q => by cases q) rfl rfl) (XT.new hqn1 hcn1 hxn1) (fun W1 xl1 => ?_)
  refine hv2 (hX0.trans xl1) (nw0.new xl1 hcn1) (fun X1 nw1 => ?_)
  refine c_dup C dX10_init_8 rfl ?_
  refine hv2 (show (-2147483648) ≤ ivn1 qn1 2 ∧ ivn1 qn1 2 ≤ 2147483647 from W1.int tqn1 2) (show ivn1 qn1 2 = 0 from by rw [hin1]; exact up0_s) (fun ri1 ie1 => ?_)
  refine c_callI (As := []) (rest := [.ref qn1, .ref a0]) C hM (Y_list (a0 := qn1) W1  tqn1  ) dX10_init_9 kI_X10_11 rfl rfl (Nat.le_of_ble_eq_true rfl) ⟨(Nat.le_of_ble_eq_true rfl), (Nat.le_of_ble_eq_true rfl)⟩ (rz0 hph (by decide)) (fun rh1 Lh1 clh1 lnh1 ivh1 rvh1 h1 => ⟨19, zk0, ?_⟩)
  obtain ⟨rfl, rfl, rfl, rfl, fl1, W2, exf1⟩ := h1
  have F2 := F1.call X1 fl1 rfl
  refine c_st (st2 := [.ref qn1, .ref a0]) rfl ?_
  refine hv4 (exf1.1) (exf1.2.1) (show (-2147483648) ≤ ivh1 qn1 2 ∧ ivh1 qn1 2 ≤ 2147483647 from W2.int tqn1 2) (show ∀ k, ([1] : List Nat).contains k = false → rvh1 qn1 k = none from fun k hk => (Eq.trans (show rvh1 qn1 k = rvn1 qn1 k from (exf1.2.2 k hk)) (show rvn1 qn1 k = none from (by rw [hrn1]; exact up0_s)))) (fun exf1r exf1s ri2 rn1 => ?_)
  refine c_retag (q := qn1) (t := 22) (by rw [tqn1.2]; rfl) (fun clr1 hcr1 => ?_)
  refine hv3 (xl1.ty t_a0) (show ty (L ++ [qn1]) clr1 qn1 22 from ⟨tqn1.1, by rw [hcr1, va_up_self]; rfl⟩) (NW.no nw1 X1 (hnt 22 (by decide)) (by decide)) (fun ty1 tqr1 hno1 => ?_)
  have ty2 := ty_rt ty1 hcr1 (ne_ty ty1 tqn1 (by decide))
  have W3 := W2.retagU tqn1.1 (by rw [tqn1.2]; rfl) hcr1 (fun k => by
        rcases k with _ | _ | _ | k
        · exact W2.int tqn1 0
        · exact W2.int tqn1 1
        · exact ⟨(by show 0 ≤ ivh1 qn1 2; first | exact bx_lo ‹ivh1 qn1 2 = _› (by decide) | omega), (by show ivh1 qn1 2 ≤ 30; first | exact bx_hi ‹ivh1 qn1 2 = _› (by decide) | omega)⟩
        · exact W2.int tqn1 (k + 3)) (fun k => by
        rcases k with _ | _ | _ | k
        · rw [rn1 0 (by decide)]; exact rok_none tqr1 rfl
        · rw [exf1r]; exact rok_lst tqr1 rfl
        · rw [rn1 2 (by decide)]; exact rok_none tqr1 rfl
        · rw [rn1 (k + 3) (by simp)]; exact rok_none tqr1 rfl) (fun z => by cases z) (fun _ b hb => by rw [exf1r] at hb; cases hb; exact Or.inl ⟨rfl, by omega⟩) (fun _ b hb i hi => absurd hi (by omega)) hno1
  refine hv3 (nw1.rt hcr1) (X1.rt hcr1 h0qn1) (show clr1 qn1 = 22 from by rw [hcr1]; exact va_up_self _ _ _) (fun nw2 X2 ctr1 => ?_)
  refine c_putrF (x := (some qn1)) (k := 0) C ck_11 dX10_init_12 w1_90 (by decide) rfl rfl rfl ty2 rfl rfl (by decide) rfl (by rfl) (by rfl) (fun rv1 pq1 => ⟨19, (zp2 (Nat.le_refl _)), ?_⟩)
  refine hv2 (W3.putr pq1 ty2 (fun qr => by rw [ty2.2] at qr; cases qr) rfl (by decide)) (F2.putr X2 pq1 ty2 rfl) (fun W4 F3 => ?_)
  refine c_aload_n (j := 0) (x := a0) C dX10_init_15 rfl ?_
  refine c_new C ck_0 dv_0 ⟨rfl, rfl⟩ rfl (by decide) dX10_init_16 w1_64 w1_65 w1_6 (rom2 hph (Nat.le_refl 0) (by decide)) (fun qn2 cln2 lnn2 ivn2 rvn2 hqn2 hcn2 hln2 hin2 hrn2 => ⟨38, (z_in (by omega)), ?_⟩)
  refine c_g0 C (fun hg2 => ?_)
  refine hv4 (show ∀ b, b ≠ qn2 → lnn2 b = lnn1 b from (fun b _ => by rw [hln2])) (F3.new X2 hqn2 hin2 hrn2) (show ty ((L ++ [qn1]) ++ [qn2]) cln2 qn2 200 from ty_new hcn2) (show qn2 ∉ L from fun h => hqn2 ((X2 qn2 h).1)) (fun hxn2 F4 tqn2 h0qn2 => ?_)
  refine hv2 (W4.new (ln2 := lnn2) hqn2 (hg2 qn2 (List.mem_append_right _ List.mem_cons_self)) hcn2 hxn2 hin2 hrn2 (fun _ => ⟨(show (-2147483648 : Int) ≤ 0 by decide), (show (0 : Int) ≤ 2147483647 by decide)⟩) (Or.inl rfl) (fun q => by cases q) rfl rfl) (XT.new hqn2 hcn2 hxn2) (fun W5 xl3 => ?_)
  refine hv2 (X2.trans xl3) (nw2.new xl3 hcn2) (fun X3 nw3 => ?_)
  refine c_dup C dX10_init_19 rfl ?_
  refine hv2 (show (-2147483648) ≤ ivn2 qn2 2 ∧ ivn2 qn2 2 ≤ 2147483647 from W5.int tqn2 2) (show ivn2 qn2 2 = 0 from by rw [hin2]; exact up0_s) (fun ri3 ie2 => ?_)
  refine c_callI (As := []) (rest := [.ref qn2, .ref a0]) C hM (Y_list (a0 := qn2) W5  tqn2  ) dX10_init_20 kI_X10_11 rfl rfl (Nat.le_of_ble_eq_true rfl) ⟨(Nat.le_of_ble_eq_true rfl), (Nat.le_of_ble_eq_true rfl)⟩ (rz0 hph (by decide)) (fun rh2 Lh2 clh2 lnh2 ivh2 rvh2 h2 => ⟨38, zk0, ?_⟩)
  obtain ⟨rfl, rfl, rfl, rfl, fl2, W6, exf2⟩ := h2
  have F5 := F4.call X3 fl2 rfl
  refine c_st (st2 := [.ref qn2, .ref a0]) rfl ?_
  refine hv4 (exf2.1) (exf2.2.1) (show (-2147483648) ≤ ivh2 qn2 2 ∧ ivh2 qn2 2 ≤ 2147483647 from W6.int tqn2 2) (show ∀ k, ([1] : List Nat).contains k = false → rvh2 qn2 k = none from fun k hk => (Eq.trans (show rvh2 qn2 k = rvn2 qn2 k from (exf2.2.2 k hk)) (show rvn2 qn2 k = none from (by rw [hrn2]; exact up0_s)))) (fun exf2r exf2s ri4 rn2 => ?_)
  refine c_retag (q := qn2) (t := 23) (by rw [tqn2.2]; rfl) (fun clr2 hcr2 => ?_)
  refine hv4 (xl3.ty ty2) (xl3.ty tqr1) (show ty ((L ++ [qn1]) ++ [qn2]) clr2 qn2 23 from ⟨tqn2.1, by rw [hcr2, va_up_self]; rfl⟩) (NW.no nw3 X3 (hnt 23 (by decide)) (by decide)) (fun ty3 ty5 tqr2 hno2 => ?_)
  refine hv2 (ty_rt ty3 hcr2 (ne_ty ty3 tqn2 (by decide))) (ty_rt ty5 hcr2 (ne_ty ty5 tqn2 (by decide))) (fun ty4 ty6 => ?_)
  have W7 := W6.retagU tqn2.1 (by rw [tqn2.2]; rfl) hcr2 (fun k => by
        rcases k with _ | _ | _ | k
        · exact W6.int tqn2 0
        · exact W6.int tqn2 1
        · exact ⟨(by show 0 ≤ ivh2 qn2 2; first | exact bx_lo ‹ivh2 qn2 2 = _› (by decide) | omega), (by show ivh2 qn2 2 ≤ 512; first | exact bx_hi ‹ivh2 qn2 2 = _› (by decide) | omega)⟩
        · exact W6.int tqn2 (k + 3)) (fun k => by
        rcases k with _ | _ | _ | k
        · rw [rn2 0 (by decide)]; exact rok_none tqr2 rfl
        · rw [exf2r]; exact rok_lst tqr2 rfl
        · rw [rn2 2 (by decide)]; exact rok_none tqr2 rfl
        · rw [rn2 (k + 3) (by simp)]; exact rok_none tqr2 rfl) (fun z => by cases z) (fun _ b hb => by rw [exf2r] at hb; cases hb; exact Or.inl ⟨rfl, by omega⟩) (fun _ b hb i hi => absurd hi (by omega)) hno2
  refine hv3 (nw3.rt hcr2) (X3.rt hcr2 h0qn2) (show clr2 qn2 = 23 from by rw [hcr2]; exact va_up_self _ _ _) (fun nw4 X4 ctr2 => ?_)
  refine c_putrF (x := (some qn2)) (k := 1) C ck_11 dX10_init_23 w1_91 (by decide) rfl rfl rfl ty4 rfl rfl (by decide) rfl (by rfl) (by rfl) (fun rv2 pq2 => ⟨38, (zp2 (Nat.le_refl _)), ?_⟩)
  refine hv4 (W7.putr pq2 ty4 (fun qr => by rw [ty4.2] at qr; cases qr) rfl (by decide)) (F5.putr X4 pq2 ty4 rfl) (show rv1 a0 0 = (some qn1) from by rw [pq1]; exact upr_s) (show rvn2 a0 0 = rv1 a0 0 from (by rw [hrn2]; exact congrFun (up0_a (ne_in ty2.1 hqn2)) _)) (fun W8 F6 rp1 re1 => ?_)
  rw [rp1] at re1
  have re2 : rvh2 a0 0 = rvn2 a0 0 := (fl2.r ty3 rfl 0)
  rw [re1] at re2
  have re3 : rv2 a0 0 = rvh2 a0 0 := (by rw [pq2]; exact upr_j (by decide))
  rw [re2] at re3
  refine hv5 (show rv2 a0 1 = (some qn2) from by rw [pq2]; exact upr_s) (show ∀ k, ([0, 1] : List Nat).contains k = false → rv2 a0 k = rv a0 k from fun k hk => (Eq.trans (show rv2 a0 k = rvh2 a0 k from (by rw [pq2]; exact upr_j (fun e => by subst e; exact absurd hk (by decide)))) (Eq.trans (show rvh2 a0 k = rvn2 a0 k from (fl2.r ty3 rfl k)) (Eq.trans (show rvn2 a0 k = rv1 a0 k from (by rw [hrn2]; exact congrFun (up0_a (ne_in ty2.1 hqn2)) _)) (Eq.trans (show rv1 a0 k = rvh1 a0 k from (by rw [pq1]; exact upr_j (fun e => by subst e; exact absurd hk (by decide)))) (Eq.trans (show rvh1 a0 k = rvn1 a0 k from (fl1.r ty1 rfl k)) (show rvn1 a0 k = rv a0 k from (by rw [hrn1]; exact congrFun (up0_a (ne_in t_a0.1 hqn1)) _)))))))) (show 0 ≤ ivh2 qn1 2 ∧ ivh2 qn1 2 ≤ 30 from W8.int ty6 2) (show ivh2 qn1 2 = ivn2 qn1 2 from fl2.i ty5 rfl 2) (show ivn2 qn1 2 = ivh1 qn1 2 from by rw [hin2]; exact congrFun (up0_a (ne_in tqr1.1 hqn2)) _) (fun rp2 rn3 ri5 ie3 ie4 => ?_)
  exact c_vret C dX10_init_26 rfl (by decide) (rom0 hph (Nat.le_refl 0) (by decide)) ⟨_, rfl, X4, F6, W8, ⟨qn1, qn2, rn3, re3, ty6, rp2, tqr2, (by omega), (by omega)⟩, nw4.sub (by decide)⟩
set_option maxHeartbeats 4000000 in
set_option maxRecDepth 100000 in
theorem Y_reader {l : Launch} {G : GT} {mi : Nat} {sk : Nat → Nat} {L : List Nat} {cl ln : Nat → Nat} {iv : Nat → Nat → Int} {rv : Nat → Nat → Option Nat}  {a0 : Nat} (hW : WT (g0 G) sk L cl ln iv rv) (hnt : ∀ t, ([24, 25, 6, 7, 8, 9, 10] : List Nat).contains t = true → ∀ a ∈ L, cl a ≠ t) (t_a0 : ty L cl a0 204)  : Mc l G mi zPf 0 yX3_init cX3_init 1 none 4 [.ref a0] L cl ln iv rv 293 (fun v L2 cl2 ln2 iv2 rv2 => ∃ sk2, v = none ∧ XT L cl ln L2 cl2 ln2 ∧ fT [204, 200, 202] L cl iv rv iv2 rv2 ∧ WT (g0 G) sk2 L2 cl2 ln2 iv2 rv2 ∧ (∃ b0 b1 b2 b3 b4 b5 b6, (∀ k, ([0, 1, 2, 3, 4, 5, 6] : List Nat).contains k = false → rv2 a0 k = rv a0 k) ∧ rv2 a0 0 = some b0 ∧ ty L2 cl2 b0 24 ∧ rv2 a0 1 = some b1 ∧ ty L2 cl2 b1 25 ∧ rv2 a0 2 = some b2 ∧ ty L2 cl2 b2 6 ∧ rv2 a0 3 = some b3 ∧ ty L2 cl2 b3 7 ∧ rv2 a0 4 = some b4 ∧ ty L2 cl2 b4 8 ∧ rv2 a0 5 = some b5 ∧ ty L2 cl2 b5 9 ∧ rv2 a0 6 = some b6 ∧ ty L2 cl2 b6 10 ∧ iv2 a0 7 = 0) ∧ NW [200, 202, 24, 25, 6, 7, 8, 9, 10, 36, 37, 38, 39, 40] L L2 cl2) := by
  refine Mc.mk (by decide) (Nat.le_of_ble_eq_true rfl) ?_
  intro p e s m args below meth c A C hM
  refine hv4 ((show zPf ln rv ≤ 0 from Nat.le_refl 0)) (show NW [] L L cl from NW.refl) (show XT L cl ln L cl ln from XT.refl) (show fT [204, 200, 202] L cl iv rv iv rv from fT.refl) (fun hph nw0 hX0 hF0 => ?_)
  refine c_aload_n (j := 0) (x := a0) C dX3_init_0 rfl ?_
  refine c_objInit C dX3_init_1 w1_184 w1_30 w1_31 (by decide) (Nat.le_of_ble_eq_true rfl) ?_
  refine c_aload_n (j := 0) (x := a0) C dX3_init_4 rfl ?_
  refine c_new C ck_0 dv_0 ⟨rfl, rfl⟩ rfl (by decide) dX3_init_5 w1_185 w1_65 w1_6 (rom2 hph hph (by decide)) (fun qn1 cln1 lnn1 ivn1 rvn1 hqn1 hcn1 hln1 hin1 hrn1 => ⟨19, (z_in (by omega)), ?_⟩)
  refine c_g0 C (fun hg1 => ?_)
  refine hv4 (show ∀ b, b ≠ qn1 → lnn1 b = ln b from (fun b _ => by rw [hln1])) (hF0.new hX0 hqn1 hin1 hrn1) (show ty (L ++ [qn1]) cln1 qn1 200 from ty_new hcn1) (show qn1 ∉ L from fun h => hqn1 ((hX0 qn1 h).1)) (fun hxn1 F1 tqn1 h0qn1 => ?_)
  refine hv2 (hW.new (ln2 := lnn1) hqn1 (hg1 qn1 (List.mem_append_right _ List.mem_cons_self)) hcn1 hxn1 hin1 hrn1 (fun _ => ⟨(show (-2147483648 : Int) ≤ 0 by decide), (show (0 : Int) ≤ 2147483647 by decide)⟩) (Or.inl rfl) (fun q => by cases q) rfl rfl) (XT.new hqn1 hcn1 hxn1) (fun W1 xl1 => ?_)
  refine hv2 (hX0.trans xl1) (nw0.new xl1 hcn1) (fun X1 nw1 => ?_)
  refine c_dup C dX3_init_8 rfl ?_
  refine hv2 (show (-2147483648) ≤ ivn1 qn1 2 ∧ ivn1 qn1 2 ≤ 2147483647 from W1.int tqn1 2) (show ivn1 qn1 2 = 0 from by rw [hin1]; exact up0_s) (fun ri1 ie1 => ?_)
  refine c_callI (As := []) (rest := [.ref qn1, .ref a0]) C hM (Y_list (a0 := qn1) W1  tqn1  ) dX3_init_9 kI_X3_11 rfl rfl (Nat.le_of_ble_eq_true rfl) ⟨(Nat.le_of_ble_eq_true rfl), (Nat.le_of_ble_eq_true rfl)⟩ (rz0 hph (by decide)) (fun rh1 Lh1 clh1 lnh1 ivh1 rvh1 h1 => ⟨19, zk0, ?_⟩)
  obtain ⟨rfl, rfl, rfl, rfl, fl1, W2, exf1⟩ := h1
  have F2 := F1.call X1 fl1 rfl
  refine c_st (st2 := [.ref qn1, .ref a0]) rfl ?_
  refine hv4 (exf1.1) (exf1.2.1) (show (-2147483648) ≤ ivh1 qn1 2 ∧ ivh1 qn1 2 ≤ 2147483647 from W2.int tqn1 2) (show ∀ k, ([1] : List Nat).contains k = false → rvh1 qn1 k = none from fun k hk => (Eq.trans (show rvh1 qn1 k = rvn1 qn1 k from (exf1.2.2 k hk)) (show rvn1 qn1 k = none from (by rw [hrn1]; exact up0_s)))) (fun exf1r exf1s ri2 rn1 => ?_)
  refine c_retag (q := qn1) (t := 24) (by rw [tqn1.2]; rfl) (fun clr1 hcr1 => ?_)
  refine hv3 (xl1.ty t_a0) (show ty (L ++ [qn1]) clr1 qn1 24 from ⟨tqn1.1, by rw [hcr1, va_up_self]; rfl⟩) (NW.no nw1 X1 (hnt 24 (by decide)) (by decide)) (fun ty1 tqr1 hno1 => ?_)
  have ty2 := ty_rt ty1 hcr1 (ne_ty ty1 tqn1 (by decide))
  have W3 := W2.retagU tqn1.1 (by rw [tqn1.2]; rfl) hcr1 (fun k => by
        rcases k with _ | _ | _ | k
        · exact W2.int tqn1 0
        · exact W2.int tqn1 1
        · exact ⟨(by show 0 ≤ ivh1 qn1 2; first | exact bx_lo ‹ivh1 qn1 2 = _› (by decide) | omega), (by show ivh1 qn1 2 ≤ 6003; first | exact bx_hi ‹ivh1 qn1 2 = _› (by decide) | omega)⟩
        · exact W2.int tqn1 (k + 3)) (fun k => by
        rcases k with _ | _ | _ | k
        · rw [rn1 0 (by decide)]; exact rok_none tqr1 rfl
        · rw [exf1r]; exact rok_lst tqr1 rfl
        · rw [rn1 2 (by decide)]; exact rok_none tqr1 rfl
        · rw [rn1 (k + 3) (by simp)]; exact rok_none tqr1 rfl) (fun z => by cases z) (fun _ b hb => by rw [exf1r] at hb; cases hb; exact Or.inl ⟨rfl, by omega⟩) (fun _ b hb i hi => absurd hi (by omega)) hno1
  refine hv3 (nw1.rt hcr1) (X1.rt hcr1 h0qn1) (show clr1 qn1 = 24 from by rw [hcr1]; exact va_up_self _ _ _) (fun nw2 X2 ctr1 => ?_)
  refine c_putrF (x := (some qn1)) (k := 0) C ck_4 dX3_init_12 w1_190 (by decide) rfl rfl rfl ty2 rfl rfl (by decide) rfl (by rfl) (by rfl) (fun rv1 pq1 => ⟨19, (zp2 (Nat.le_refl _)), ?_⟩)
  refine hv2 (W3.putr pq1 ty2 (fun qr => by rw [ty2.2] at qr; cases qr) rfl (by decide)) (F2.putr X2 pq1 ty2 rfl) (fun W4 F3 => ?_)
  refine c_aload_n (j := 0) (x := a0) C dX3_init_15 rfl ?_
  refine c_new C ck_0 dv_0 ⟨rfl, rfl⟩ rfl (by decide) dX3_init_16 w1_185 w1_65 w1_6 (rom2 hph (Nat.le_refl 0) (by decide)) (fun qn2 cln2 lnn2 ivn2 rvn2 hqn2 hcn2 hln2 hin2 hrn2 => ⟨38, (z_in (by omega)), ?_⟩)
  refine c_g0 C (fun hg2 => ?_)
  refine hv4 (show ∀ b, b ≠ qn2 → lnn2 b = lnn1 b from (fun b _ => by rw [hln2])) (F3.new X2 hqn2 hin2 hrn2) (show ty ((L ++ [qn1]) ++ [qn2]) cln2 qn2 200 from ty_new hcn2) (show qn2 ∉ L from fun h => hqn2 ((X2 qn2 h).1)) (fun hxn2 F4 tqn2 h0qn2 => ?_)
  refine hv2 (W4.new (ln2 := lnn2) hqn2 (hg2 qn2 (List.mem_append_right _ List.mem_cons_self)) hcn2 hxn2 hin2 hrn2 (fun _ => ⟨(show (-2147483648 : Int) ≤ 0 by decide), (show (0 : Int) ≤ 2147483647 by decide)⟩) (Or.inl rfl) (fun q => by cases q) rfl rfl) (XT.new hqn2 hcn2 hxn2) (fun W5 xl3 => ?_)
  refine hv2 (X2.trans xl3) (nw2.new xl3 hcn2) (fun X3 nw3 => ?_)
  refine c_dup C dX3_init_19 rfl ?_
  refine hv2 (show (-2147483648) ≤ ivn2 qn2 2 ∧ ivn2 qn2 2 ≤ 2147483647 from W5.int tqn2 2) (show ivn2 qn2 2 = 0 from by rw [hin2]; exact up0_s) (fun ri3 ie2 => ?_)
  refine c_callI (As := []) (rest := [.ref qn2, .ref a0]) C hM (Y_list (a0 := qn2) W5  tqn2  ) dX3_init_20 kI_X3_11 rfl rfl (Nat.le_of_ble_eq_true rfl) ⟨(Nat.le_of_ble_eq_true rfl), (Nat.le_of_ble_eq_true rfl)⟩ (rz0 hph (by decide)) (fun rh2 Lh2 clh2 lnh2 ivh2 rvh2 h2 => ⟨38, zk0, ?_⟩)
  obtain ⟨rfl, rfl, rfl, rfl, fl2, W6, exf2⟩ := h2
  have F5 := F4.call X3 fl2 rfl
  refine c_st (st2 := [.ref qn2, .ref a0]) rfl ?_
  refine hv4 (exf2.1) (exf2.2.1) (show (-2147483648) ≤ ivh2 qn2 2 ∧ ivh2 qn2 2 ≤ 2147483647 from W6.int tqn2 2) (show ∀ k, ([1] : List Nat).contains k = false → rvh2 qn2 k = none from fun k hk => (Eq.trans (show rvh2 qn2 k = rvn2 qn2 k from (exf2.2.2 k hk)) (show rvn2 qn2 k = none from (by rw [hrn2]; exact up0_s)))) (fun exf2r exf2s ri4 rn2 => ?_)
  refine c_retag (q := qn2) (t := 25) (by rw [tqn2.2]; rfl) (fun clr2 hcr2 => ?_)
  refine hv4 (xl3.ty ty2) (xl3.ty tqr1) (show ty ((L ++ [qn1]) ++ [qn2]) clr2 qn2 25 from ⟨tqn2.1, by rw [hcr2, va_up_self]; rfl⟩) (NW.no nw3 X3 (hnt 25 (by decide)) (by decide)) (fun ty3 ty5 tqr2 hno2 => ?_)
  refine hv2 (ty_rt ty3 hcr2 (ne_ty ty3 tqn2 (by decide))) (ty_rt ty5 hcr2 (ne_ty ty5 tqn2 (by decide))) (fun ty4 ty6 => ?_)
  have W7 := W6.retagU tqn2.1 (by rw [tqn2.2]; rfl) hcr2 (fun k => by
        rcases k with _ | _ | _ | k
        · exact W6.int tqn2 0
        · exact W6.int tqn2 1
        · exact ⟨(by show 0 ≤ ivh2 qn2 2; first | exact bx_lo ‹ivh2 qn2 2 = _› (by decide) | omega), (by show ivh2 qn2 2 ≤ 6003; first | exact bx_hi ‹ivh2 qn2 2 = _› (by decide) | omega)⟩
        · exact W6.int tqn2 (k + 3)) (fun k => by
        rcases k with _ | _ | _ | k
        · rw [rn2 0 (by decide)]; exact rok_none tqr2 rfl
        · rw [exf2r]; exact rok_lst tqr2 rfl
        · rw [rn2 2 (by decide)]; exact rok_none tqr2 rfl
        · rw [rn2 (k + 3) (by simp)]; exact rok_none tqr2 rfl) (fun z => by cases z) (fun _ b hb => by rw [exf2r] at hb; cases hb; exact Or.inl ⟨rfl, by omega⟩) (fun _ b hb i hi => absurd hi (by omega)) hno2
  refine hv3 (nw3.rt hcr2) (X3.rt hcr2 h0qn2) (show clr2 qn2 = 25 from by rw [hcr2]; exact va_up_self _ _ _) (fun nw4 X4 ctr2 => ?_)
  refine c_putrF (x := (some qn2)) (k := 1) C ck_4 dX3_init_23 w1_193 (by decide) rfl rfl rfl ty4 rfl rfl (by decide) rfl (by rfl) (by rfl) (fun rv2 pq2 => ⟨38, (zp2 (Nat.le_refl _)), ?_⟩)
  refine hv2 (W7.putr pq2 ty4 (fun qr => by rw [ty4.2] at qr; cases qr) rfl (by decide)) (F5.putr X4 pq2 ty4 rfl) (fun W8 F6 => ?_)
  refine c_aload_n (j := 0) (x := a0) C dX3_init_26 rfl ?_
  refine c_new C ck_2 dv_2 ⟨rfl, rfl⟩ rfl (by decide) dX3_init_27 w1_187 w1_33 w1_2 (rom2 hph (Nat.le_refl 0) (by decide)) (fun qn3 cln3 lnn3 ivn3 rvn3 hqn3 hcn3 hln3 hin3 hrn3 => ⟨57, (z_in (by omega)), ?_⟩)
  refine c_g0 C (fun hg3 => ?_)
  refine hv4 (show ∀ b, b ≠ qn3 → lnn3 b = lnn2 b from (fun b _ => by rw [hln3])) (F6.new X4 hqn3 hin3 hrn3) (show ty (((L ++ [qn1]) ++ [qn2]) ++ [qn3]) cln3 qn3 202 from ty_new hcn3) (show qn3 ∉ L from fun h => hqn3 ((X4 qn3 h).1)) (fun hxn3 F7 tqn3 h0qn3 => ?_)
  refine hv2 (W8.new (ln2 := lnn3) hqn3 (hg3 qn3 (List.mem_append_right _ List.mem_cons_self)) hcn3 hxn3 hin3 hrn3 (fun _ => ⟨(show (-2147483648 : Int) ≤ 0 by decide), (show (0 : Int) ≤ 2147483647 by decide)⟩) (Or.inl rfl) (fun q => by cases q) rfl rfl) (XT.new hqn3 hcn3 hxn3) (fun W9 xl5 => ?_)
  refine hv2 (X4.trans xl5) (nw4.new xl5 hcn3) (fun X5 nw5 => ?_)
  refine c_dup C dX3_init_30 rfl ?_
  refine c_sipush (z := 6003) C dX3_init_31 (by decide) ?_
  refine c_callI (As := [.int (iI 6003)]) (rest := [.ref qn3, .ref a0]) C hM (Y_ints_6 (a0 := qn3) (i := 6003) W9  tqn3 ⟨by decide, by decide⟩ ) dX3_init_34 kI_X3_23 rfl rfl (Nat.le_of_ble_eq_true rfl) ⟨(Nat.le_of_ble_eq_true rfl), (Nat.le_of_ble_eq_true rfl)⟩ (rz0 hph (by decide)) (fun rh3 Lh3 clh3 lnh3 ivh3 rvh3 h3 => ⟨89, zk0, ?_⟩)
  obtain ⟨rfl, xl6, fl3, W10, exf3, nxh3⟩ := h3
  refine hv6 (F7.call X5 fl3 rfl) (xl5.ty ty4) (xl5.ty ty6) (xl5.ty tqr2) (X5.trans xl6) (nw5.call xl6 nxh3) (fun F8 ty7 ty8 ty9 X6 nw6 => ?_)
  refine c_st (st2 := [.ref qn3, .ref a0]) rfl ?_
  obtain ⟨bexf3, exf3x, exf3r, exf3t, exf3l, exf3i, exf3j⟩ := exf3
  refine hv2 (show ∀ k, ([1] : List Nat).contains k = false → rvh3 qn3 k = none from fun k hk => (Eq.trans (show rvh3 qn3 k = rvn3 qn3 k from (exf3x k hk)) (show rvn3 qn3 k = none from (by rw [hrn3]; exact up0_s)))) (xl6.ty tqn3) (fun rn3 ty10 => ?_)
  refine c_retag (q := qn3) (t := 6) (by rw [ty10.2]; rfl) (fun clr3 hcr3 => ?_)
  refine hv6 (xl6.ty ty7) (xl6.ty ty8) (xl6.ty ty9) (ty_rt exf3t hcr3 (ne_ty exf3t ty10 (by decide))) (show ty Lh3 clr3 qn3 6 from ⟨ty10.1, by rw [hcr3, va_up_self]; rfl⟩) (NW.no nw6 X6 (hnt 6 (by decide)) (by decide)) (fun ty11 ty13 ty15 ty17 tqr3 hno3 => ?_)
  refine hv3 (ty_rt ty11 hcr3 (ne_ty ty11 ty10 (by decide))) (ty_rt ty13 hcr3 (ne_ty ty13 ty10 (by decide))) (ty_rt ty15 hcr3 (ne_ty ty15 ty10 (by decide))) (fun ty12 ty14 ty16 => ?_)
  have W11 := W10.retagU ty10.1 (by rw [ty10.2]; rfl) hcr3 (fun k => by
        rcases k with _ | _ | _ | k
        · exact ⟨(by show 6003 ≤ ivh3 qn3 0; first | exact bx_lo ‹ivh3 qn3 0 = _› (by decide) | omega), (by show ivh3 qn3 0 ≤ 6003; first | exact bx_hi ‹ivh3 qn3 0 = _› (by decide) | omega)⟩
        · exact W10.int ty10 1
        · exact ⟨(by show 0 ≤ ivh3 qn3 2; first | exact bx_lo ‹ivh3 qn3 2 = _› (by decide) | omega), (by show ivh3 qn3 2 ≤ 6003; first | exact bx_hi ‹ivh3 qn3 2 = _› (by decide) | omega)⟩
        · exact W10.int ty10 (k + 3)) (fun k => by
        rcases k with _ | _ | _ | k
        · rw [rn3 0 (by decide)]; exact rok_none tqr3 rfl
        · rw [exf3r]; exact rok_some tqr3 ty17 rfl (by decide) rfl
        · rw [rn3 2 (by decide)]; exact rok_none tqr3 rfl
        · rw [rn3 (k + 3) (by simp)]; exact rok_none tqr3 rfl) (fun z => by cases z) (fun _ b hb => by rw [exf3r] at hb; cases hb; exact Or.inr ⟨exf3t.1, by omega⟩) (fun z => by cases z) hno3
  refine hv3 (nw6.rt hcr3) (X6.rt hcr3 h0qn3) (show clr3 qn3 = 6 from by rw [hcr3]; exact va_up_self _ _ _) (fun nw7 X7 ctr3 => ?_)
  refine c_putrF (x := (some qn3)) (k := 2) C ck_4 dX3_init_37 w1_196 (by decide) rfl rfl rfl ty12 rfl rfl (by decide) rfl (by rfl) (by rfl) (fun rv3 pq3 => ⟨89, (zp2 (Nat.le_refl _)), ?_⟩)
  refine hv2 (W11.putr pq3 ty12 (fun qr => by rw [ty12.2] at qr; cases qr) rfl (by decide)) (F8.putr X7 pq3 ty12 rfl) (fun W12 F9 => ?_)
  refine c_aload_n (j := 0) (x := a0) C dX3_init_40 rfl ?_
  refine c_new C ck_2 dv_2 ⟨rfl, rfl⟩ rfl (by decide) dX3_init_41 w1_187 w1_33 w1_2 (rom2 hph (Nat.le_refl 0) (by decide)) (fun qn4 cln4 lnn4 ivn4 rvn4 hqn4 hcn4 hln4 hin4 hrn4 => ⟨108, (z_in (by omega)), ?_⟩)
  refine c_g0 C (fun hg4 => ?_)
  refine hv4 (show ∀ b, b ≠ qn4 → lnn4 b = lnh3 b from (fun b _ => by rw [hln4])) (F9.new X7 hqn4 hin4 hrn4) (show ty (Lh3 ++ [qn4]) cln4 qn4 202 from ty_new hcn4) (show qn4 ∉ L from fun h => hqn4 ((X7 qn4 h).1)) (fun hxn4 F10 tqn4 h0qn4 => ?_)
  refine hv2 (W12.new (ln2 := lnn4) hqn4 (hg4 qn4 (List.mem_append_right _ List.mem_cons_self)) hcn4 hxn4 hin4 hrn4 (fun _ => ⟨(show (-2147483648 : Int) ≤ 0 by decide), (show (0 : Int) ≤ 2147483647 by decide)⟩) (Or.inl rfl) (fun q => by cases q) rfl rfl) (XT.new hqn4 hcn4 hxn4) (fun W13 xl7 => ?_)
  refine hv2 (X7.trans xl7) (nw7.new xl7 hcn4) (fun X8 nw8 => ?_)
  refine c_dup C dX3_init_44 rfl ?_
  refine c_sipush (z := 6003) C dX3_init_45 (by decide) ?_
  refine c_callI (As := [.int (iI 6003)]) (rest := [.ref qn4, .ref a0]) C hM (Y_ints_7 (a0 := qn4) (i := 6003) W13  tqn4 ⟨by decide, by decide⟩ ) dX3_init_48 kI_X3_23 rfl rfl (Nat.le_of_ble_eq_true rfl) ⟨(Nat.le_of_ble_eq_true rfl), (Nat.le_of_ble_eq_true rfl)⟩ (rz0 hph (by decide)) (fun rh4 Lh4 clh4 lnh4 ivh4 rvh4 h4 => ⟨140, zk0, ?_⟩)
  obtain ⟨rfl, xl8, fl4, W14, exf4, nxh4⟩ := h4
  refine hv8 (F10.call X8 fl4 rfl) (xl7.ty ty12) (xl7.ty ty14) (xl7.ty ty16) (xl7.ty tqr3) (xl7.ty ty17) (X8.trans xl8) (nw8.call xl8 nxh4) (fun F11 ty18 ty19 ty20 ty21 ty22 X9 nw9 => ?_)
  refine c_st (st2 := [.ref qn4, .ref a0]) rfl ?_
  obtain ⟨bexf4, exf4x, exf4r, exf4t, exf4l, exf4i, exf4j⟩ := exf4
  refine hv2 (show ∀ k, ([1] : List Nat).contains k = false → rvh4 qn4 k = none from fun k hk => (Eq.trans (show rvh4 qn4 k = rvn4 qn4 k from (exf4x k hk)) (show rvn4 qn4 k = none from (by rw [hrn4]; exact up0_s)))) (xl8.ty tqn4) (fun rn4 ty23 => ?_)
  refine c_retag (q := qn4) (t := 7) (by rw [ty23.2]; rfl) (fun clr4 hcr4 => ?_)
  refine hv8 (xl8.ty ty18) (xl8.ty ty19) (xl8.ty ty20) (xl8.ty ty21) (xl8.ty ty22) (ty_rt exf4t hcr4 (ne_ty exf4t ty23 (by decide))) (show ty Lh4 clr4 qn4 7 from ⟨ty23.1, by rw [hcr4, va_up_self]; rfl⟩) (NW.no nw9 X9 (hnt 7 (by decide)) (by decide)) (fun ty24 ty26 ty28 ty30 ty32 ty34 tqr4 hno4 => ?_)
  refine hv5 (ty_rt ty24 hcr4 (ne_ty ty24 ty23 (by decide))) (ty_rt ty26 hcr4 (ne_ty ty26 ty23 (by decide))) (ty_rt ty28 hcr4 (ne_ty ty28 ty23 (by decide))) (ty_rt ty30 hcr4 (ne_ty ty30 ty23 (by decide))) (ty_rt ty32 hcr4 (ne_ty ty32 ty23 (by decide))) (fun ty25 ty27 ty29 ty31 ty33 => ?_)
  have W15 := W14.retagU ty23.1 (by rw [ty23.2]; rfl) hcr4 (fun k => by
        rcases k with _ | _ | _ | k
        · exact ⟨(by show 6003 ≤ ivh4 qn4 0; first | exact bx_lo ‹ivh4 qn4 0 = _› (by decide) | omega), (by show ivh4 qn4 0 ≤ 6003; first | exact bx_hi ‹ivh4 qn4 0 = _› (by decide) | omega)⟩
        · exact W14.int ty23 1
        · exact ⟨(by show 0 ≤ ivh4 qn4 2; first | exact bx_lo ‹ivh4 qn4 2 = _› (by decide) | omega), (by show ivh4 qn4 2 ≤ 6003; first | exact bx_hi ‹ivh4 qn4 2 = _› (by decide) | omega)⟩
        · exact W14.int ty23 (k + 3)) (fun k => by
        rcases k with _ | _ | _ | k
        · rw [rn4 0 (by decide)]; exact rok_none tqr4 rfl
        · rw [exf4r]; exact rok_some tqr4 ty34 rfl (by decide) rfl
        · rw [rn4 2 (by decide)]; exact rok_none tqr4 rfl
        · rw [rn4 (k + 3) (by simp)]; exact rok_none tqr4 rfl) (fun z => by cases z) (fun _ b hb => by rw [exf4r] at hb; cases hb; exact Or.inr ⟨exf4t.1, by omega⟩) (fun z => by cases z) hno4
  refine hv3 (nw9.rt hcr4) (X9.rt hcr4 h0qn4) (show clr4 qn4 = 7 from by rw [hcr4]; exact va_up_self _ _ _) (fun nw10 X10 ctr4 => ?_)
  refine c_putrF (x := (some qn4)) (k := 3) C ck_4 dX3_init_51 w1_197 (by decide) rfl rfl rfl ty25 rfl rfl (by decide) rfl (by rfl) (by rfl) (fun rv4 pq4 => ⟨140, (zp2 (Nat.le_refl _)), ?_⟩)
  refine hv2 (W15.putr pq4 ty25 (fun qr => by rw [ty25.2] at qr; cases qr) rfl (by decide)) (F11.putr X10 pq4 ty25 rfl) (fun W16 F12 => ?_)
  refine c_aload_n (j := 0) (x := a0) C dX3_init_54 rfl ?_
  refine c_new C ck_2 dv_2 ⟨rfl, rfl⟩ rfl (by decide) dX3_init_55 w1_187 w1_33 w1_2 (rom2 hph (Nat.le_refl 0) (by decide)) (fun qn5 cln5 lnn5 ivn5 rvn5 hqn5 hcn5 hln5 hin5 hrn5 => ⟨159, (z_in (by omega)), ?_⟩)
  refine c_g0 C (fun hg5 => ?_)
  refine hv4 (show ∀ b, b ≠ qn5 → lnn5 b = lnh4 b from (fun b _ => by rw [hln5])) (F12.new X10 hqn5 hin5 hrn5) (show ty (Lh4 ++ [qn5]) cln5 qn5 202 from ty_new hcn5) (show qn5 ∉ L from fun h => hqn5 ((X10 qn5 h).1)) (fun hxn5 F13 tqn5 h0qn5 => ?_)
  refine hv2 (W16.new (ln2 := lnn5) hqn5 (hg5 qn5 (List.mem_append_right _ List.mem_cons_self)) hcn5 hxn5 hin5 hrn5 (fun _ => ⟨(show (-2147483648 : Int) ≤ 0 by decide), (show (0 : Int) ≤ 2147483647 by decide)⟩) (Or.inl rfl) (fun q => by cases q) rfl rfl) (XT.new hqn5 hcn5 hxn5) (fun W17 xl9 => ?_)
  refine hv2 (X10.trans xl9) (nw10.new xl9 hcn5) (fun X11 nw11 => ?_)
  refine c_dup C dX3_init_58 rfl ?_
  refine c_ldc (z := 40200) C dX3_init_59 w1_189 rfl ?_
  refine c_callI (As := [.int (iI 40200)]) (rest := [.ref qn5, .ref a0]) C hM (Y_ints_8 (a0 := qn5) (i := 40200) W17  tqn5 ⟨by decide, by decide⟩ ) dX3_init_61 kI_X3_23 rfl rfl (Nat.le_of_ble_eq_true rfl) ⟨(Nat.le_of_ble_eq_true rfl), (Nat.le_of_ble_eq_true rfl)⟩ (rz0 hph (by decide)) (fun rh5 Lh5 clh5 lnh5 ivh5 rvh5 h5 => ⟨191, zk0, ?_⟩)
  obtain ⟨rfl, xl10, fl5, W18, exf5, nxh5⟩ := h5
  refine hv10 (F13.call X11 fl5 rfl) (xl9.ty ty25) (xl9.ty ty27) (xl9.ty ty29) (xl9.ty ty31) (xl9.ty ty33) (xl9.ty tqr4) (xl9.ty ty34) (X11.trans xl10) (nw11.call xl10 nxh5) (fun F14 ty35 ty36 ty37 ty38 ty39 ty40 ty41 X12 nw12 => ?_)
  refine c_st (st2 := [.ref qn5, .ref a0]) rfl ?_
  obtain ⟨bexf5, exf5x, exf5r, exf5t, exf5l, exf5i, exf5j⟩ := exf5
  refine hv2 (show ∀ k, ([1] : List Nat).contains k = false → rvh5 qn5 k = none from fun k hk => (Eq.trans (show rvh5 qn5 k = rvn5 qn5 k from (exf5x k hk)) (show rvn5 qn5 k = none from (by rw [hrn5]; exact up0_s)))) (xl10.ty tqn5) (fun rn5 ty42 => ?_)
  refine c_retag (q := qn5) (t := 8) (by rw [ty42.2]; rfl) (fun clr5 hcr5 => ?_)
  refine hv10 (xl10.ty ty35) (xl10.ty ty36) (xl10.ty ty37) (xl10.ty ty38) (xl10.ty ty39) (xl10.ty ty40) (xl10.ty ty41) (ty_rt exf5t hcr5 (ne_ty exf5t ty42 (by decide))) (show ty Lh5 clr5 qn5 8 from ⟨ty42.1, by rw [hcr5, va_up_self]; rfl⟩) (NW.no nw12 X12 (hnt 8 (by decide)) (by decide)) (fun ty43 ty45 ty47 ty49 ty51 ty53 ty55 ty57 tqr5 hno5 => ?_)
  refine hv7 (ty_rt ty43 hcr5 (ne_ty ty43 ty42 (by decide))) (ty_rt ty45 hcr5 (ne_ty ty45 ty42 (by decide))) (ty_rt ty47 hcr5 (ne_ty ty47 ty42 (by decide))) (ty_rt ty49 hcr5 (ne_ty ty49 ty42 (by decide))) (ty_rt ty51 hcr5 (ne_ty ty51 ty42 (by decide))) (ty_rt ty53 hcr5 (ne_ty ty53 ty42 (by decide))) (ty_rt ty55 hcr5 (ne_ty ty55 ty42 (by decide))) (fun ty44 ty46 ty48 ty50 ty52 ty54 ty56 => ?_)
  have W19 := W18.retagU ty42.1 (by rw [ty42.2]; rfl) hcr5 (fun k => by
        rcases k with _ | _ | _ | k
        · exact ⟨(by show 40200 ≤ ivh5 qn5 0; first | exact bx_lo ‹ivh5 qn5 0 = _› (by decide) | omega), (by show ivh5 qn5 0 ≤ 40200; first | exact bx_hi ‹ivh5 qn5 0 = _› (by decide) | omega)⟩
        · exact W18.int ty42 1
        · exact ⟨(by show 0 ≤ ivh5 qn5 2; first | exact bx_lo ‹ivh5 qn5 2 = _› (by decide) | omega), (by show ivh5 qn5 2 ≤ 40200; first | exact bx_hi ‹ivh5 qn5 2 = _› (by decide) | omega)⟩
        · exact W18.int ty42 (k + 3)) (fun k => by
        rcases k with _ | _ | _ | k
        · rw [rn5 0 (by decide)]; exact rok_none tqr5 rfl
        · rw [exf5r]; exact rok_some tqr5 ty57 rfl (by decide) rfl
        · rw [rn5 2 (by decide)]; exact rok_none tqr5 rfl
        · rw [rn5 (k + 3) (by simp)]; exact rok_none tqr5 rfl) (fun z => by cases z) (fun _ b hb => by rw [exf5r] at hb; cases hb; exact Or.inr ⟨exf5t.1, by omega⟩) (fun z => by cases z) hno5
  refine hv3 (nw12.rt hcr5) (X12.rt hcr5 h0qn5) (show clr5 qn5 = 8 from by rw [hcr5]; exact va_up_self _ _ _) (fun nw13 X13 ctr5 => ?_)
  refine c_putrF (x := (some qn5)) (k := 4) C ck_4 dX3_init_64 w1_198 (by decide) rfl rfl rfl ty44 rfl rfl (by decide) rfl (by rfl) (by rfl) (fun rv5 pq5 => ⟨191, (zp2 (Nat.le_refl _)), ?_⟩)
  refine hv2 (W19.putr pq5 ty44 (fun qr => by rw [ty44.2] at qr; cases qr) rfl (by decide)) (F14.putr X13 pq5 ty44 rfl) (fun W20 F15 => ?_)
  refine c_aload_n (j := 0) (x := a0) C dX3_init_67 rfl ?_
  refine c_new C ck_2 dv_2 ⟨rfl, rfl⟩ rfl (by decide) dX3_init_68 w1_187 w1_33 w1_2 (rom2 hph (Nat.le_refl 0) (by decide)) (fun qn6 cln6 lnn6 ivn6 rvn6 hqn6 hcn6 hln6 hin6 hrn6 => ⟨210, (z_in (by omega)), ?_⟩)
  refine c_g0 C (fun hg6 => ?_)
  refine hv4 (show ∀ b, b ≠ qn6 → lnn6 b = lnh5 b from (fun b _ => by rw [hln6])) (F15.new X13 hqn6 hin6 hrn6) (show ty (Lh5 ++ [qn6]) cln6 qn6 202 from ty_new hcn6) (show qn6 ∉ L from fun h => hqn6 ((X13 qn6 h).1)) (fun hxn6 F16 tqn6 h0qn6 => ?_)
  refine hv2 (W20.new (ln2 := lnn6) hqn6 (hg6 qn6 (List.mem_append_right _ List.mem_cons_self)) hcn6 hxn6 hin6 hrn6 (fun _ => ⟨(show (-2147483648 : Int) ≤ 0 by decide), (show (0 : Int) ≤ 2147483647 by decide)⟩) (Or.inl rfl) (fun q => by cases q) rfl rfl) (XT.new hqn6 hcn6 hxn6) (fun W21 xl11 => ?_)
  refine hv2 (X13.trans xl11) (nw13.new xl11 hcn6) (fun X14 nw14 => ?_)
  refine c_dup C dX3_init_71 rfl ?_
  refine c_ldc (z := 40200) C dX3_init_72 w1_189 rfl ?_
  refine c_callI (As := [.int (iI 40200)]) (rest := [.ref qn6, .ref a0]) C hM (Y_ints_9 (a0 := qn6) (i := 40200) W21  tqn6 ⟨by decide, by decide⟩ ) dX3_init_74 kI_X3_23 rfl rfl (Nat.le_of_ble_eq_true rfl) ⟨(Nat.le_of_ble_eq_true rfl), (Nat.le_of_ble_eq_true rfl)⟩ (rz0 hph (by decide)) (fun rh6 Lh6 clh6 lnh6 ivh6 rvh6 h6 => ⟨242, zk0, ?_⟩)
  obtain ⟨rfl, xl12, fl6, W22, exf6, nxh6⟩ := h6
  refine hv12 (F16.call X14 fl6 rfl) (xl11.ty ty44) (xl11.ty ty46) (xl11.ty ty48) (xl11.ty ty50) (xl11.ty ty52) (xl11.ty ty54) (xl11.ty ty56) (xl11.ty tqr5) (xl11.ty ty57) (X14.trans xl12) (nw14.call xl12 nxh6) (fun F17 ty58 ty59 ty60 ty61 ty62 ty63 ty64 ty65 ty66 X15 nw15 => ?_)
  refine c_st (st2 := [.ref qn6, .ref a0]) rfl ?_
  obtain ⟨bexf6, exf6x, exf6r, exf6t, exf6l, exf6i, exf6j⟩ := exf6
  refine hv2 (show ∀ k, ([1] : List Nat).contains k = false → rvh6 qn6 k = none from fun k hk => (Eq.trans (show rvh6 qn6 k = rvn6 qn6 k from (exf6x k hk)) (show rvn6 qn6 k = none from (by rw [hrn6]; exact up0_s)))) (xl12.ty tqn6) (fun rn6 ty67 => ?_)
  refine c_retag (q := qn6) (t := 9) (by rw [ty67.2]; rfl) (fun clr6 hcr6 => ?_)
  refine hv12 (xl12.ty ty58) (xl12.ty ty59) (xl12.ty ty60) (xl12.ty ty61) (xl12.ty ty62) (xl12.ty ty63) (xl12.ty ty64) (xl12.ty ty65) (xl12.ty ty66) (ty_rt exf6t hcr6 (ne_ty exf6t ty67 (by decide))) (show ty Lh6 clr6 qn6 9 from ⟨ty67.1, by rw [hcr6, va_up_self]; rfl⟩) (NW.no nw15 X15 (hnt 9 (by decide)) (by decide)) (fun ty68 ty70 ty72 ty74 ty76 ty78 ty80 ty82 ty84 ty86 tqr6 hno6 => ?_)
  refine hv9 (ty_rt ty68 hcr6 (ne_ty ty68 ty67 (by decide))) (ty_rt ty70 hcr6 (ne_ty ty70 ty67 (by decide))) (ty_rt ty72 hcr6 (ne_ty ty72 ty67 (by decide))) (ty_rt ty74 hcr6 (ne_ty ty74 ty67 (by decide))) (ty_rt ty76 hcr6 (ne_ty ty76 ty67 (by decide))) (ty_rt ty78 hcr6 (ne_ty ty78 ty67 (by decide))) (ty_rt ty80 hcr6 (ne_ty ty80 ty67 (by decide))) (ty_rt ty82 hcr6 (ne_ty ty82 ty67 (by decide))) (ty_rt ty84 hcr6 (ne_ty ty84 ty67 (by decide))) (fun ty69 ty71 ty73 ty75 ty77 ty79 ty81 ty83 ty85 => ?_)
  have W23 := W22.retagU ty67.1 (by rw [ty67.2]; rfl) hcr6 (fun k => by
        rcases k with _ | _ | _ | k
        · exact ⟨(by show 40200 ≤ ivh6 qn6 0; first | exact bx_lo ‹ivh6 qn6 0 = _› (by decide) | omega), (by show ivh6 qn6 0 ≤ 40200; first | exact bx_hi ‹ivh6 qn6 0 = _› (by decide) | omega)⟩
        · exact W22.int ty67 1
        · exact ⟨(by show 0 ≤ ivh6 qn6 2; first | exact bx_lo ‹ivh6 qn6 2 = _› (by decide) | omega), (by show ivh6 qn6 2 ≤ 40200; first | exact bx_hi ‹ivh6 qn6 2 = _› (by decide) | omega)⟩
        · exact W22.int ty67 (k + 3)) (fun k => by
        rcases k with _ | _ | _ | k
        · rw [rn6 0 (by decide)]; exact rok_none tqr6 rfl
        · rw [exf6r]; exact rok_some tqr6 ty86 rfl (by decide) rfl
        · rw [rn6 2 (by decide)]; exact rok_none tqr6 rfl
        · rw [rn6 (k + 3) (by simp)]; exact rok_none tqr6 rfl) (fun z => by cases z) (fun _ b hb => by rw [exf6r] at hb; cases hb; exact Or.inr ⟨exf6t.1, by omega⟩) (fun z => by cases z) hno6
  refine hv3 (nw15.rt hcr6) (X15.rt hcr6 h0qn6) (show clr6 qn6 = 9 from by rw [hcr6]; exact va_up_self _ _ _) (fun nw16 X16 ctr6 => ?_)
  refine c_putrF (x := (some qn6)) (k := 5) C ck_4 dX3_init_77 w1_199 (by decide) rfl rfl rfl ty69 rfl rfl (by decide) rfl (by rfl) (by rfl) (fun rv6 pq6 => ⟨242, (zp2 (Nat.le_refl _)), ?_⟩)
  refine hv2 (W23.putr pq6 ty69 (fun qr => by rw [ty69.2] at qr; cases qr) rfl (by decide)) (F17.putr X16 pq6 ty69 rfl) (fun W24 F18 => ?_)
  refine c_aload_n (j := 0) (x := a0) C dX3_init_80 rfl ?_
  refine c_new C ck_2 dv_2 ⟨rfl, rfl⟩ rfl (by decide) dX3_init_81 w1_187 w1_33 w1_2 (rom2 hph (Nat.le_refl 0) (by decide)) (fun qn7 cln7 lnn7 ivn7 rvn7 hqn7 hcn7 hln7 hin7 hrn7 => ⟨261, (z_in (by omega)), ?_⟩)
  refine c_g0 C (fun hg7 => ?_)
  refine hv4 (show ∀ b, b ≠ qn7 → lnn7 b = lnh6 b from (fun b _ => by rw [hln7])) (F18.new X16 hqn7 hin7 hrn7) (show ty (Lh6 ++ [qn7]) cln7 qn7 202 from ty_new hcn7) (show qn7 ∉ L from fun h => hqn7 ((X16 qn7 h).1)) (fun hxn7 F19 tqn7 h0qn7 => ?_)
  refine hv2 (W24.new (ln2 := lnn7) hqn7 (hg7 qn7 (List.mem_append_right _ List.mem_cons_self)) hcn7 hxn7 hin7 hrn7 (fun _ => ⟨(show (-2147483648 : Int) ≤ 0 by decide), (show (0 : Int) ≤ 2147483647 by decide)⟩) (Or.inl rfl) (fun q => by cases q) rfl rfl) (XT.new hqn7 hcn7 hxn7) (fun W25 xl13 => ?_)
  refine hv2 (X16.trans xl13) (nw16.new xl13 hcn7) (fun X17 nw17 => ?_)
  refine c_dup C dX3_init_84 rfl ?_
  refine c_sipush (z := 4001) C dX3_init_85 (by decide) ?_
  refine c_callI (As := [.int (iI 4001)]) (rest := [.ref qn7, .ref a0]) C hM (Y_ints_10 (a0 := qn7) (i := 4001) W25  tqn7 ⟨by decide, by decide⟩ ) dX3_init_88 kI_X3_23 rfl rfl (Nat.le_of_ble_eq_true rfl) ⟨(Nat.le_of_ble_eq_true rfl), (Nat.le_of_ble_eq_true rfl)⟩ (rz0 hph (by decide)) (fun rh7 Lh7 clh7 lnh7 ivh7 rvh7 h7 => ⟨293, zk0, ?_⟩)
  obtain ⟨rfl, xl14, fl7, W26, exf7, nxh7⟩ := h7
  refine hv14 (F19.call X17 fl7 rfl) (xl13.ty ty69) (xl13.ty ty71) (xl13.ty ty73) (xl13.ty ty75) (xl13.ty ty77) (xl13.ty ty79) (xl13.ty ty81) (xl13.ty ty83) (xl13.ty ty85) (xl13.ty tqr6) (xl13.ty ty86) (X17.trans xl14) (nw17.call xl14 nxh7) (fun F20 ty87 ty88 ty89 ty90 ty91 ty92 ty93 ty94 ty95 ty96 ty97 X18 nw18 => ?_)
  refine c_st (st2 := [.ref qn7, .ref a0]) rfl ?_
  obtain ⟨bexf7, exf7x, exf7r, exf7t, exf7l, exf7i, exf7j⟩ := exf7
  refine hv2 (show ∀ k, ([1] : List Nat).contains k = false → rvh7 qn7 k = none from fun k hk => (Eq.trans (show rvh7 qn7 k = rvn7 qn7 k from (exf7x k hk)) (show rvn7 qn7 k = none from (by rw [hrn7]; exact up0_s)))) (xl14.ty tqn7) (fun rn7 ty98 => ?_)
  refine c_retag (q := qn7) (t := 10) (by rw [ty98.2]; rfl) (fun clr7 hcr7 => ?_)
  refine hv14 (xl14.ty ty87) (xl14.ty ty88) (xl14.ty ty89) (xl14.ty ty90) (xl14.ty ty91) (xl14.ty ty92) (xl14.ty ty93) (xl14.ty ty94) (xl14.ty ty95) (xl14.ty ty96) (xl14.ty ty97) (ty_rt exf7t hcr7 (ne_ty exf7t ty98 (by decide))) (show ty Lh7 clr7 qn7 10 from ⟨ty98.1, by rw [hcr7, va_up_self]; rfl⟩) (NW.no nw18 X18 (hnt 10 (by decide)) (by decide)) (fun ty99 ty101 ty103 ty105 ty107 ty109 ty111 ty113 ty115 ty117 ty119 ty121 tqr7 hno7 => ?_)
  refine hv11 (ty_rt ty99 hcr7 (ne_ty ty99 ty98 (by decide))) (ty_rt ty101 hcr7 (ne_ty ty101 ty98 (by decide))) (ty_rt ty103 hcr7 (ne_ty ty103 ty98 (by decide))) (ty_rt ty105 hcr7 (ne_ty ty105 ty98 (by decide))) (ty_rt ty107 hcr7 (ne_ty ty107 ty98 (by decide))) (ty_rt ty109 hcr7 (ne_ty ty109 ty98 (by decide))) (ty_rt ty111 hcr7 (ne_ty ty111 ty98 (by decide))) (ty_rt ty113 hcr7 (ne_ty ty113 ty98 (by decide))) (ty_rt ty115 hcr7 (ne_ty ty115 ty98 (by decide))) (ty_rt ty117 hcr7 (ne_ty ty117 ty98 (by decide))) (ty_rt ty119 hcr7 (ne_ty ty119 ty98 (by decide))) (fun ty100 ty102 ty104 ty106 ty108 ty110 ty112 ty114 ty116 ty118 ty120 => ?_)
  have W27 := W26.retagU ty98.1 (by rw [ty98.2]; rfl) hcr7 (fun k => by
        rcases k with _ | _ | _ | k
        · exact ⟨(by show 4001 ≤ ivh7 qn7 0; first | exact bx_lo ‹ivh7 qn7 0 = _› (by decide) | omega), (by show ivh7 qn7 0 ≤ 4001; first | exact bx_hi ‹ivh7 qn7 0 = _› (by decide) | omega)⟩
        · exact W26.int ty98 1
        · exact ⟨(by show 0 ≤ ivh7 qn7 2; first | exact bx_lo ‹ivh7 qn7 2 = _› (by decide) | omega), (by show ivh7 qn7 2 ≤ 4001; first | exact bx_hi ‹ivh7 qn7 2 = _› (by decide) | omega)⟩
        · exact W26.int ty98 (k + 3)) (fun k => by
        rcases k with _ | _ | _ | k
        · rw [rn7 0 (by decide)]; exact rok_none tqr7 rfl
        · rw [exf7r]; exact rok_some tqr7 ty121 rfl (by decide) rfl
        · rw [rn7 2 (by decide)]; exact rok_none tqr7 rfl
        · rw [rn7 (k + 3) (by simp)]; exact rok_none tqr7 rfl) (fun z => by cases z) (fun _ b hb => by rw [exf7r] at hb; cases hb; exact Or.inr ⟨exf7t.1, by omega⟩) (fun z => by cases z) hno7
  refine hv3 (nw18.rt hcr7) (X18.rt hcr7 h0qn7) (show clr7 qn7 = 10 from by rw [hcr7]; exact va_up_self _ _ _) (fun nw19 X19 ctr7 => ?_)
  refine c_putrF (x := (some qn7)) (k := 6) C ck_4 dX3_init_91 w1_200 (by decide) rfl rfl rfl ty100 rfl rfl (by decide) rfl (by rfl) (by rfl) (fun rv7 pq7 => ⟨293, (zp2 (Nat.le_refl _)), ?_⟩)
  refine hv2 (W27.putr pq7 ty100 (fun qr => by rw [ty100.2] at qr; cases qr) rfl (by decide)) (F20.putr X19 pq7 ty100 rfl) (fun W28 F21 => ?_)
  refine c_aload_n (j := 0) (x := a0) C dX3_init_94 rfl ?_
  refine c_iconst C dX3_init_95 ?_
  refine c_put (z := 0) (k := 7) C ck_4 dX3_init_96 w1_202 (by decide) rfl ty100 rfl rfl (by decide) rfl (by rfl) (by rfl) (fun iv1 pq8 => ?_)
  refine hv4 (W28.puti pq8 ty100 ⟨by decide, by decide⟩ rfl) (F21.puti X19 pq8 ty100 rfl) (show rv1 a0 0 = (some qn1) from by rw [pq1]; exact upr_s) (show rvn2 a0 0 = rv1 a0 0 from (by rw [hrn2]; exact congrFun (up0_a (ne_in ty2.1 hqn2)) _)) (fun W29 F22 rp1 re1 => ?_)
  rw [rp1] at re1
  have re2 : rvh2 a0 0 = rvn2 a0 0 := (fl2.r ty3 rfl 0)
  rw [re1] at re2
  have re3 : rv2 a0 0 = rvh2 a0 0 := (by rw [pq2]; exact upr_j (by decide))
  rw [re2] at re3
  have re4 : rvn3 a0 0 = rv2 a0 0 := (by rw [hrn3]; exact congrFun (up0_a (ne_in ty4.1 hqn3)) _)
  rw [re3] at re4
  have re5 : rvh3 a0 0 = rvn3 a0 0 := (fl3.r ty7 rfl 0)
  rw [re4] at re5
  have re6 : rv3 a0 0 = rvh3 a0 0 := (by rw [pq3]; exact upr_j (by decide))
  rw [re5] at re6
  have re7 : rvn4 a0 0 = rv3 a0 0 := (by rw [hrn4]; exact congrFun (up0_a (ne_in ty12.1 hqn4)) _)
  rw [re6] at re7
  have re8 : rvh4 a0 0 = rvn4 a0 0 := (fl4.r ty18 rfl 0)
  rw [re7] at re8
  have re9 : rv4 a0 0 = rvh4 a0 0 := (by rw [pq4]; exact upr_j (by decide))
  rw [re8] at re9
  have re10 : rvn5 a0 0 = rv4 a0 0 := (by rw [hrn5]; exact congrFun (up0_a (ne_in ty25.1 hqn5)) _)
  rw [re9] at re10
  have re11 : rvh5 a0 0 = rvn5 a0 0 := (fl5.r ty35 rfl 0)
  rw [re10] at re11
  have re12 : rv5 a0 0 = rvh5 a0 0 := (by rw [pq5]; exact upr_j (by decide))
  rw [re11] at re12
  have re13 : rvn6 a0 0 = rv5 a0 0 := (by rw [hrn6]; exact congrFun (up0_a (ne_in ty44.1 hqn6)) _)
  rw [re12] at re13
  have re14 : rvh6 a0 0 = rvn6 a0 0 := (fl6.r ty58 rfl 0)
  rw [re13] at re14
  have re15 : rv6 a0 0 = rvh6 a0 0 := (by rw [pq6]; exact upr_j (by decide))
  rw [re14] at re15
  have re16 : rvn7 a0 0 = rv6 a0 0 := (by rw [hrn7]; exact congrFun (up0_a (ne_in ty69.1 hqn7)) _)
  rw [re15] at re16
  have re17 : rvh7 a0 0 = rvn7 a0 0 := (fl7.r ty87 rfl 0)
  rw [re16] at re17
  have re18 : rv7 a0 0 = rvh7 a0 0 := (by rw [pq7]; exact upr_j (by decide))
  rw [re17] at re18
  refine hv2 (show rv2 a0 1 = (some qn2) from by rw [pq2]; exact upr_s) (show rvn3 a0 1 = rv2 a0 1 from (by rw [hrn3]; exact congrFun (up0_a (ne_in ty4.1 hqn3)) _)) (fun rp2 re19 => ?_)
  rw [rp2] at re19
  have re20 : rvh3 a0 1 = rvn3 a0 1 := (fl3.r ty7 rfl 1)
  rw [re19] at re20
  have re21 : rv3 a0 1 = rvh3 a0 1 := (by rw [pq3]; exact upr_j (by decide))
  rw [re20] at re21
  have re22 : rvn4 a0 1 = rv3 a0 1 := (by rw [hrn4]; exact congrFun (up0_a (ne_in ty12.1 hqn4)) _)
  rw [re21] at re22
  have re23 : rvh4 a0 1 = rvn4 a0 1 := (fl4.r ty18 rfl 1)
  rw [re22] at re23
  have re24 : rv4 a0 1 = rvh4 a0 1 := (by rw [pq4]; exact upr_j (by decide))
  rw [re23] at re24
  have re25 : rvn5 a0 1 = rv4 a0 1 := (by rw [hrn5]; exact congrFun (up0_a (ne_in ty25.1 hqn5)) _)
  rw [re24] at re25
  have re26 : rvh5 a0 1 = rvn5 a0 1 := (fl5.r ty35 rfl 1)
  rw [re25] at re26
  have re27 : rv5 a0 1 = rvh5 a0 1 := (by rw [pq5]; exact upr_j (by decide))
  rw [re26] at re27
  have re28 : rvn6 a0 1 = rv5 a0 1 := (by rw [hrn6]; exact congrFun (up0_a (ne_in ty44.1 hqn6)) _)
  rw [re27] at re28
  have re29 : rvh6 a0 1 = rvn6 a0 1 := (fl6.r ty58 rfl 1)
  rw [re28] at re29
  have re30 : rv6 a0 1 = rvh6 a0 1 := (by rw [pq6]; exact upr_j (by decide))
  rw [re29] at re30
  have re31 : rvn7 a0 1 = rv6 a0 1 := (by rw [hrn7]; exact congrFun (up0_a (ne_in ty69.1 hqn7)) _)
  rw [re30] at re31
  have re32 : rvh7 a0 1 = rvn7 a0 1 := (fl7.r ty87 rfl 1)
  rw [re31] at re32
  have re33 : rv7 a0 1 = rvh7 a0 1 := (by rw [pq7]; exact upr_j (by decide))
  rw [re32] at re33
  refine hv2 (show rv3 a0 2 = (some qn3) from by rw [pq3]; exact upr_s) (show rvn4 a0 2 = rv3 a0 2 from (by rw [hrn4]; exact congrFun (up0_a (ne_in ty12.1 hqn4)) _)) (fun rp3 re34 => ?_)
  rw [rp3] at re34
  have re35 : rvh4 a0 2 = rvn4 a0 2 := (fl4.r ty18 rfl 2)
  rw [re34] at re35
  have re36 : rv4 a0 2 = rvh4 a0 2 := (by rw [pq4]; exact upr_j (by decide))
  rw [re35] at re36
  have re37 : rvn5 a0 2 = rv4 a0 2 := (by rw [hrn5]; exact congrFun (up0_a (ne_in ty25.1 hqn5)) _)
  rw [re36] at re37
  have re38 : rvh5 a0 2 = rvn5 a0 2 := (fl5.r ty35 rfl 2)
  rw [re37] at re38
  have re39 : rv5 a0 2 = rvh5 a0 2 := (by rw [pq5]; exact upr_j (by decide))
  rw [re38] at re39
  have re40 : rvn6 a0 2 = rv5 a0 2 := (by rw [hrn6]; exact congrFun (up0_a (ne_in ty44.1 hqn6)) _)
  rw [re39] at re40
  have re41 : rvh6 a0 2 = rvn6 a0 2 := (fl6.r ty58 rfl 2)
  rw [re40] at re41
  have re42 : rv6 a0 2 = rvh6 a0 2 := (by rw [pq6]; exact upr_j (by decide))
  rw [re41] at re42
  have re43 : rvn7 a0 2 = rv6 a0 2 := (by rw [hrn7]; exact congrFun (up0_a (ne_in ty69.1 hqn7)) _)
  rw [re42] at re43
  have re44 : rvh7 a0 2 = rvn7 a0 2 := (fl7.r ty87 rfl 2)
  rw [re43] at re44
  have re45 : rv7 a0 2 = rvh7 a0 2 := (by rw [pq7]; exact upr_j (by decide))
  rw [re44] at re45
  refine hv2 (show rv4 a0 3 = (some qn4) from by rw [pq4]; exact upr_s) (show rvn5 a0 3 = rv4 a0 3 from (by rw [hrn5]; exact congrFun (up0_a (ne_in ty25.1 hqn5)) _)) (fun rp4 re46 => ?_)
  rw [rp4] at re46
  have re47 : rvh5 a0 3 = rvn5 a0 3 := (fl5.r ty35 rfl 3)
  rw [re46] at re47
  have re48 : rv5 a0 3 = rvh5 a0 3 := (by rw [pq5]; exact upr_j (by decide))
  rw [re47] at re48
  have re49 : rvn6 a0 3 = rv5 a0 3 := (by rw [hrn6]; exact congrFun (up0_a (ne_in ty44.1 hqn6)) _)
  rw [re48] at re49
  have re50 : rvh6 a0 3 = rvn6 a0 3 := (fl6.r ty58 rfl 3)
  rw [re49] at re50
  have re51 : rv6 a0 3 = rvh6 a0 3 := (by rw [pq6]; exact upr_j (by decide))
  rw [re50] at re51
  have re52 : rvn7 a0 3 = rv6 a0 3 := (by rw [hrn7]; exact congrFun (up0_a (ne_in ty69.1 hqn7)) _)
  rw [re51] at re52
  have re53 : rvh7 a0 3 = rvn7 a0 3 := (fl7.r ty87 rfl 3)
  rw [re52] at re53
  have re54 : rv7 a0 3 = rvh7 a0 3 := (by rw [pq7]; exact upr_j (by decide))
  rw [re53] at re54
  refine hv2 (show rv5 a0 4 = (some qn5) from by rw [pq5]; exact upr_s) (show rvn6 a0 4 = rv5 a0 4 from (by rw [hrn6]; exact congrFun (up0_a (ne_in ty44.1 hqn6)) _)) (fun rp5 re55 => ?_)
  rw [rp5] at re55
  have re56 : rvh6 a0 4 = rvn6 a0 4 := (fl6.r ty58 rfl 4)
  rw [re55] at re56
  have re57 : rv6 a0 4 = rvh6 a0 4 := (by rw [pq6]; exact upr_j (by decide))
  rw [re56] at re57
  have re58 : rvn7 a0 4 = rv6 a0 4 := (by rw [hrn7]; exact congrFun (up0_a (ne_in ty69.1 hqn7)) _)
  rw [re57] at re58
  have re59 : rvh7 a0 4 = rvn7 a0 4 := (fl7.r ty87 rfl 4)
  rw [re58] at re59
  have re60 : rv7 a0 4 = rvh7 a0 4 := (by rw [pq7]; exact upr_j (by decide))
  rw [re59] at re60
  refine hv2 (show rv6 a0 5 = (some qn6) from by rw [pq6]; exact upr_s) (show rvn7 a0 5 = rv6 a0 5 from (by rw [hrn7]; exact congrFun (up0_a (ne_in ty69.1 hqn7)) _)) (fun rp6 re61 => ?_)
  rw [rp6] at re61
  have re62 : rvh7 a0 5 = rvn7 a0 5 := (fl7.r ty87 rfl 5)
  rw [re61] at re62
  have re63 : rv7 a0 5 = rvh7 a0 5 := (by rw [pq7]; exact upr_j (by decide))
  rw [re62] at re63
  refine hv4 (show rv7 a0 6 = (some qn7) from by rw [pq7]; exact upr_s) (show ∀ k, ([0, 1, 2, 3, 4, 5, 6] : List Nat).contains k = false → rv7 a0 k = rv a0 k from fun k hk => (Eq.trans (show rv7 a0 k = rvh7 a0 k from (by rw [pq7]; exact upr_j (fun e => by subst e; exact absurd hk (by decide)))) (Eq.trans (show rvh7 a0 k = rvn7 a0 k from (fl7.r ty87 rfl k)) (Eq.trans (show rvn7 a0 k = rv6 a0 k from (by rw [hrn7]; exact congrFun (up0_a (ne_in ty69.1 hqn7)) _)) (Eq.trans (show rv6 a0 k = rvh6 a0 k from (by rw [pq6]; exact upr_j (fun e => by subst e; exact absurd hk (by decide)))) (Eq.trans (show rvh6 a0 k = rvn6 a0 k from (fl6.r ty58 rfl k)) (Eq.trans (show rvn6 a0 k = rv5 a0 k from (by rw [hrn6]; exact congrFun (up0_a (ne_in ty44.1 hqn6)) _)) (Eq.trans (show rv5 a0 k = rvh5 a0 k from (by rw [pq5]; exact upr_j (fun e => by subst e; exact absurd hk (by decide)))) (Eq.trans (show rvh5 a0 k = rvn5 a0 k from (fl5.r ty35 rfl k)) (Eq.trans (show rvn5 a0 k = rv4 a0 k from (by rw [hrn5]; exact congrFun (up0_a (ne_in ty25.1 hqn5)) _)) (Eq.trans (show rv4 a0 k = rvh4 a0 k from (by rw [pq4]; exact upr_j (fun e => by subst e; exact absurd hk (by decide)))) (Eq.trans (show rvh4 a0 k = rvn4 a0 k from (fl4.r ty18 rfl k)) (Eq.trans (show rvn4 a0 k = rv3 a0 k from (by rw [hrn4]; exact congrFun (up0_a (ne_in ty12.1 hqn4)) _)) (Eq.trans (show rv3 a0 k = rvh3 a0 k from (by rw [pq3]; exact upr_j (fun e => by subst e; exact absurd hk (by decide)))) (Eq.trans (show rvh3 a0 k = rvn3 a0 k from (fl3.r ty7 rfl k)) (Eq.trans (show rvn3 a0 k = rv2 a0 k from (by rw [hrn3]; exact congrFun (up0_a (ne_in ty4.1 hqn3)) _)) (Eq.trans (show rv2 a0 k = rvh2 a0 k from (by rw [pq2]; exact upr_j (fun e => by subst e; exact absurd hk (by decide)))) (Eq.trans (show rvh2 a0 k = rvn2 a0 k from (fl2.r ty3 rfl k)) (Eq.trans (show rvn2 a0 k = rv1 a0 k from (by rw [hrn2]; exact congrFun (up0_a (ne_in ty2.1 hqn2)) _)) (Eq.trans (show rv1 a0 k = rvh1 a0 k from (by rw [pq1]; exact upr_j (fun e => by subst e; exact absurd hk (by decide)))) (Eq.trans (show rvh1 a0 k = rvn1 a0 k from (fl1.r ty1 rfl k)) (show rvn1 a0 k = rv a0 k from (by rw [hrn1]; exact congrFun (up0_a (ne_in t_a0.1 hqn1)) _))))))))))))))))))))))) (show (-2147483648) ≤ iv1 a0 7 ∧ iv1 a0 7 ≤ 2147483647 from W29.int ty100 7) (show iv1 a0 7 = 0 from by rw [pq8]; exact up2_s) (fun rp7 rn8 ri5 ie3 => ?_)
  exact c_vret C dX3_init_99 rfl (by decide) (rom0 hph (Nat.le_refl 0) (by decide)) ⟨_, rfl, X19, F22, W29, ⟨qn1, qn2, qn3, qn4, qn5, qn6, qn7, rn8, re18, ty102, re33, ty104, re45, ty106, re54, ty110, re60, ty114, re63, ty118, rp7, tqr7, (by omega)⟩, nw19.sub (by decide)⟩
set_option maxHeartbeats 4000000 in
set_option maxRecDepth 100000 in
theorem Y_found {l : Launch} {G : GT} {mi : Nat} {sk : Nat → Nat} {L : List Nat} {cl ln : Nat → Nat} {iv : Nat → Nat → Int} {rv : Nat → Nat → Option Nat}  {a0 : Nat} {a1 : Nat} (hW : WT (g0 G) sk L cl ln iv rv) (hnt : ∀ t, ([11] : List Nat).contains t = true → ∀ a ∈ L, cl a ≠ t) (t_a0 : ty L cl a0 205) (t_a1 : ty L cl a1 16)  : Mc l G mi zPf 0 yX4_init cX4_init 2 none 4 [.ref a0, .ref a1] L cl ln iv rv 887 (fun v L2 cl2 ln2 iv2 rv2 => ∃ sk2, v = none ∧ XT L cl ln L2 cl2 ln2 ∧ fT [205, 202] L cl iv rv iv2 rv2 ∧ WT (g0 G) sk2 L2 cl2 ln2 iv2 rv2 ∧ (∃ b0 b1 b2 b3 b4 b8, (∀ k, ([0, 1, 2, 3, 4, 7, 8] : List Nat).contains k = false → rv2 a0 k = rv a0 k) ∧ rv2 a0 0 = some b0 ∧ ty L2 cl2 b0 59 ∧ rv2 a0 1 = some b1 ∧ ty L2 cl2 b1 60 ∧ rv2 a0 2 = some b2 ∧ ty L2 cl2 b2 61 ∧ rv2 a0 3 = some b3 ∧ ty L2 cl2 b3 62 ∧ rv2 a0 4 = some b4 ∧ ty L2 cl2 b4 11 ∧ rv2 a0 8 = some b8 ∧ ty L2 cl2 b8 63 ∧ iv2 a0 5 = 0 ∧ iv2 a0 6 = 0 ∧ iv2 a0 9 = 0 ∧ iv2 a0 10 = 0 ∧ rv2 a0 7 = some a1 ∧ iv2 b4 2 = 0) ∧ NW [59, 60, 61, 62, 63, 202, 11, 41] L L2 cl2) := by
  refine Mc.mk (by decide) (Nat.le_of_ble_eq_true rfl) ?_
  intro p e s m args below meth c A C hM
  refine hv4 ((show zPf ln rv ≤ 0 from Nat.le_refl 0)) (show NW [] L L cl from NW.refl) (show XT L cl ln L cl ln from XT.refl) (show fT [205, 202] L cl iv rv iv rv from fT.refl) (fun hph nw0 hX0 hF0 => ?_)
  refine c_aload_n (j := 0) (x := a0) C dX4_init_0 rfl ?_
  refine c_objInit C dX4_init_1 w1_225 w1_30 w1_31 (by decide) (Nat.le_of_ble_eq_true rfl) ?_
  refine c_aload_n (j := 0) (x := a0) C dX4_init_4 rfl ?_
  refine c_sipush (z := 404) C dX4_init_5 (by decide) ?_
  refine c_newaZ (z := 404) (N := 404) C 59 dX4_init_8 w1_129 rfl (by omega) (by omega) (rom2 hph hph (by decide)) (fun qn1 cln1 lnn1 ivn1 rvn1 hqn1 hcn1 hln1 hin1 hrn1 => ⟨420, (z_in (by omega)), ?_⟩)
  refine c_g0 C (fun hg1 => ?_)
  refine hv5 (show ∀ b, b ≠ qn1 → lnn1 b = ln b from (fun b hb => by rw [hln1]; exact va_up_ne _ _ hb)) (show lnn1 qn1 = 404 from by rw [hln1]; exact va_up_self _ _ _) (hF0.new hX0 hqn1 hin1 hrn1) (show ty (L ++ [qn1]) cln1 qn1 59 from ty_new hcn1) (show qn1 ∉ L from fun h => hqn1 ((hX0 qn1 h).1)) (fun hxn1 lqn1 F1 tqn1 h0qn1 => ?_)
  refine hv2 (hW.new (ln2 := lnn1) hqn1 (hg1 qn1 (List.mem_append_right _ List.mem_cons_self)) hcn1 hxn1 hin1 hrn1 (fun _ => ⟨(show (0 : Int) ≤ 0 by decide), (show (0 : Int) ≤ 1 by decide)⟩) (Or.inr (fun _ => rfl)) (fun _ => by show 404 ≤ lnn1 qn1 ∧ lnn1 qn1 ≤ 404; omega) rfl rfl) (XT.new hqn1 hcn1 hxn1) (fun W1 xl1 => ?_)
  refine hv3 (hX0.trans xl1) (nw0.new xl1 hcn1) (xl1.ty t_a0) (fun X1 nw1 ty1 => ?_)
  refine c_putrF (x := (some qn1)) (k := 0) C ck_5 dX4_init_10 w1_229 (by decide) rfl rfl rfl ty1 rfl rfl (by decide) rfl (by rfl) (by rfl) (fun rv1 pq1 => ⟨420, (zp2 (Nat.le_refl _)), ?_⟩)
  refine hv2 (W1.putr pq1 ty1 (fun qr => by rw [ty1.2] at qr; cases qr) rfl (by decide)) (F1.putr X1 pq1 ty1 rfl) (fun W2 F2 => ?_)
  refine c_aload_n (j := 0) (x := a0) C dX4_init_13 rfl ?_
  refine c_bipush (z := 101) C dX4_init_14 (by decide) ?_
  have ty2 := xl1.ty t_a1
  refine c_newaI (z := 101) (N := 101) C 60 dX4_init_16 w1_57 rfl (by omega) (by omega) (rom2 hph (Nat.le_refl 0) (by decide)) (fun qn2 cln2 lnn2 ivn2 rvn2 hqn2 hcn2 hln2 hin2 hrn2 => ⟨537, (z_in (by omega)), ?_⟩)
  refine c_g0 C (fun hg2 => ?_)
  refine hv5 (show ∀ b, b ≠ qn2 → lnn2 b = lnn1 b from (fun b hb => by rw [hln2]; exact va_up_ne _ _ hb)) (show lnn2 qn2 = 101 from by rw [hln2]; exact va_up_self _ _ _) (F2.new X1 hqn2 hin2 hrn2) (show ty ((L ++ [qn1]) ++ [qn2]) cln2 qn2 60 from ty_new hcn2) (show qn2 ∉ L from fun h => hqn2 ((X1 qn2 h).1)) (fun hxn2 lqn2 F3 tqn2 h0qn2 => ?_)
  refine hv2 (W2.new (ln2 := lnn2) hqn2 (hg2 qn2 (List.mem_append_right _ List.mem_cons_self)) hcn2 hxn2 hin2 hrn2 (fun _ => ⟨(show (-2147483648 : Int) ≤ 0 by decide), (show (0 : Int) ≤ 2147483647 by decide)⟩) (Or.inr (fun _ => rfl)) (fun _ => by show 101 ≤ lnn2 qn2 ∧ lnn2 qn2 ≤ 101; omega) rfl rfl) (XT.new hqn2 hcn2 hxn2) (fun W3 xl2 => ?_)
  refine hv3 (X1.trans xl2) (nw1.new xl2 hcn2) (xl2.ty ty1) (fun X2 nw2 ty3 => ?_)
  refine c_putrF (x := (some qn2)) (k := 1) C ck_5 dX4_init_18 w1_230 (by decide) rfl rfl rfl ty3 rfl rfl (by decide) rfl (by rfl) (by rfl) (fun rv2 pq2 => ⟨537, (zp2 (Nat.le_refl _)), ?_⟩)
  refine hv2 (W3.putr pq2 ty3 (fun qr => by rw [ty3.2] at qr; cases qr) rfl (by decide)) (F3.putr X2 pq2 ty3 rfl) (fun W4 F4 => ?_)
  refine c_aload_n (j := 0) (x := a0) C dX4_init_21 rfl ?_
  refine c_bipush (z := 101) C dX4_init_22 (by decide) ?_
  refine hv2 (xl2.ty ty2) (xl2.ty tqn1) (fun ty4 ty5 => ?_)
  refine c_newaI (z := 101) (N := 101) C 61 dX4_init_24 w1_57 rfl (by omega) (by omega) (rom2 hph (Nat.le_refl 0) (by decide)) (fun qn3 cln3 lnn3 ivn3 rvn3 hqn3 hcn3 hln3 hin3 hrn3 => ⟨654, (z_in (by omega)), ?_⟩)
  refine c_g0 C (fun hg3 => ?_)
  refine hv5 (show ∀ b, b ≠ qn3 → lnn3 b = lnn2 b from (fun b hb => by rw [hln3]; exact va_up_ne _ _ hb)) (show lnn3 qn3 = 101 from by rw [hln3]; exact va_up_self _ _ _) (F4.new X2 hqn3 hin3 hrn3) (show ty (((L ++ [qn1]) ++ [qn2]) ++ [qn3]) cln3 qn3 61 from ty_new hcn3) (show qn3 ∉ L from fun h => hqn3 ((X2 qn3 h).1)) (fun hxn3 lqn3 F5 tqn3 h0qn3 => ?_)
  refine hv2 (W4.new (ln2 := lnn3) hqn3 (hg3 qn3 (List.mem_append_right _ List.mem_cons_self)) hcn3 hxn3 hin3 hrn3 (fun _ => ⟨(show (-2147483648 : Int) ≤ 0 by decide), (show (0 : Int) ≤ 2147483647 by decide)⟩) (Or.inr (fun _ => rfl)) (fun _ => by show 101 ≤ lnn3 qn3 ∧ lnn3 qn3 ≤ 101; omega) rfl rfl) (XT.new hqn3 hcn3 hxn3) (fun W5 xl3 => ?_)
  refine hv3 (X2.trans xl3) (nw2.new xl3 hcn3) (xl3.ty ty3) (fun X3 nw3 ty6 => ?_)
  refine c_putrF (x := (some qn3)) (k := 2) C ck_5 dX4_init_26 w1_231 (by decide) rfl rfl rfl ty6 rfl rfl (by decide) rfl (by rfl) (by rfl) (fun rv3 pq3 => ⟨654, (zp2 (Nat.le_refl _)), ?_⟩)
  refine hv2 (W5.putr pq3 ty6 (fun qr => by rw [ty6.2] at qr; cases qr) rfl (by decide)) (F5.putr X3 pq3 ty6 rfl) (fun W6 F6 => ?_)
  refine c_aload_n (j := 0) (x := a0) C dX4_init_29 rfl ?_
  refine c_bipush (z := 50) C dX4_init_30 (by decide) ?_
  refine hv3 (xl3.ty ty4) (xl3.ty ty5) (xl3.ty tqn2) (fun ty7 ty8 ty9 => ?_)
  refine c_newaI (z := 50) (N := 50) C 62 dX4_init_32 w1_57 rfl (by omega) (by omega) (rom2 hph (Nat.le_refl 0) (by decide)) (fun qn4 cln4 lnn4 ivn4 rvn4 hqn4 hcn4 hln4 hin4 hrn4 => ⟨720, (z_in (by omega)), ?_⟩)
  refine c_g0 C (fun hg4 => ?_)
  refine hv5 (show ∀ b, b ≠ qn4 → lnn4 b = lnn3 b from (fun b hb => by rw [hln4]; exact va_up_ne _ _ hb)) (show lnn4 qn4 = 50 from by rw [hln4]; exact va_up_self _ _ _) (F6.new X3 hqn4 hin4 hrn4) (show ty ((((L ++ [qn1]) ++ [qn2]) ++ [qn3]) ++ [qn4]) cln4 qn4 62 from ty_new hcn4) (show qn4 ∉ L from fun h => hqn4 ((X3 qn4 h).1)) (fun hxn4 lqn4 F7 tqn4 h0qn4 => ?_)
  refine hv2 (W6.new (ln2 := lnn4) hqn4 (hg4 qn4 (List.mem_append_right _ List.mem_cons_self)) hcn4 hxn4 hin4 hrn4 (fun _ => ⟨(show (-2147483648 : Int) ≤ 0 by decide), (show (0 : Int) ≤ 2147483647 by decide)⟩) (Or.inr (fun _ => rfl)) (fun _ => by show 50 ≤ lnn4 qn4 ∧ lnn4 qn4 ≤ 50; omega) rfl rfl) (XT.new hqn4 hcn4 hxn4) (fun W7 xl4 => ?_)
  refine hv3 (X3.trans xl4) (nw3.new xl4 hcn4) (xl4.ty ty6) (fun X4 nw4 ty10 => ?_)
  refine c_putrF (x := (some qn4)) (k := 3) C ck_5 dX4_init_34 w1_232 (by decide) rfl rfl rfl ty10 rfl rfl (by decide) rfl (by rfl) (by rfl) (fun rv4 pq4 => ⟨720, (zp2 (Nat.le_refl _)), ?_⟩)
  refine hv2 (W7.putr pq4 ty10 (fun qr => by rw [ty10.2] at qr; cases qr) rfl (by decide)) (F7.putr X4 pq4 ty10 rfl) (fun W8 F8 => ?_)
  refine c_aload_n (j := 0) (x := a0) C dX4_init_37 rfl ?_
  refine hv4 (xl4.ty ty7) (xl4.ty ty8) (xl4.ty ty9) (xl4.ty tqn3) (fun ty11 ty12 ty13 ty14 => ?_)
  refine c_new C ck_2 dv_2 ⟨rfl, rfl⟩ rfl (by decide) dX4_init_38 w1_226 w1_33 w1_2 (rom2 hph (Nat.le_refl 0) (by decide)) (fun qn5 cln5 lnn5 ivn5 rvn5 hqn5 hcn5 hln5 hin5 hrn5 => ⟨739, (z_in (by omega)), ?_⟩)
  refine c_g0 C (fun hg5 => ?_)
  refine hv4 (show ∀ b, b ≠ qn5 → lnn5 b = lnn4 b from (fun b _ => by rw [hln5])) (F8.new X4 hqn5 hin5 hrn5) (show ty (((((L ++ [qn1]) ++ [qn2]) ++ [qn3]) ++ [qn4]) ++ [qn5]) cln5 qn5 202 from ty_new hcn5) (show qn5 ∉ L from fun h => hqn5 ((X4 qn5 h).1)) (fun hxn5 F9 tqn5 h0qn5 => ?_)
  refine hv2 (W8.new (ln2 := lnn5) hqn5 (hg5 qn5 (List.mem_append_right _ List.mem_cons_self)) hcn5 hxn5 hin5 hrn5 (fun _ => ⟨(show (-2147483648 : Int) ≤ 0 by decide), (show (0 : Int) ≤ 2147483647 by decide)⟩) (Or.inl rfl) (fun q => by cases q) rfl rfl) (XT.new hqn5 hcn5 hxn5) (fun W9 xl5 => ?_)
  refine hv2 (X4.trans xl5) (nw4.new xl5 hcn5) (fun X5 nw5 => ?_)
  refine c_dup C dX4_init_41 rfl ?_
  refine c_ldc (z := 40000) C dX4_init_42 w1_227 rfl ?_
  refine c_callI (As := [.int (iI 40000)]) (rest := [.ref qn5, .ref a0]) C hM (Y_ints_11 (a0 := qn5) (i := 40000) W9  tqn5 ⟨by decide, by decide⟩ ) dX4_init_44 kI_X4_28 rfl rfl (Nat.le_of_ble_eq_true rfl) ⟨(Nat.le_of_ble_eq_true rfl), (Nat.le_of_ble_eq_true rfl)⟩ (rz0 hph (by decide)) (fun rh1 Lh1 clh1 lnh1 ivh1 rvh1 h1 => ⟨771, zk0, ?_⟩)
  obtain ⟨rfl, xl6, fl1, W10, exf1, nxh1⟩ := h1
  refine hv9 (F9.call X5 fl1 rfl) (xl5.ty ty10) (xl5.ty ty11) (xl5.ty ty12) (xl5.ty ty13) (xl5.ty ty14) (xl5.ty tqn4) (X5.trans xl6) (nw5.call xl6 nxh1) (fun F10 ty15 ty16 ty17 ty18 ty19 ty20 X6 nw6 => ?_)
  refine c_st (st2 := [.ref qn5, .ref a0]) rfl ?_
  obtain ⟨bexf1, exf1x, exf1r, exf1t, exf1l, exf1i, exf1j⟩ := exf1
  refine hv2 (show ∀ k, ([1] : List Nat).contains k = false → rvh1 qn5 k = none from fun k hk => (Eq.trans (show rvh1 qn5 k = rvn5 qn5 k from (exf1x k hk)) (show rvn5 qn5 k = none from (by rw [hrn5]; exact up0_s)))) (xl6.ty tqn5) (fun rn1 ty21 => ?_)
  refine c_retag (q := qn5) (t := 11) (by rw [ty21.2]; rfl) (fun clr1 hcr1 => ?_)
  refine hv9 (xl6.ty ty15) (xl6.ty ty16) (xl6.ty ty17) (xl6.ty ty18) (xl6.ty ty19) (xl6.ty ty20) (ty_rt exf1t hcr1 (ne_ty exf1t ty21 (by decide))) (show ty Lh1 clr1 qn5 11 from ⟨ty21.1, by rw [hcr1, va_up_self]; rfl⟩) (NW.no nw6 X6 (hnt 11 (by decide)) (by decide)) (fun ty22 ty24 ty26 ty28 ty30 ty32 ty34 tqr1 hno1 => ?_)
  refine hv6 (ty_rt ty22 hcr1 (ne_ty ty22 ty21 (by decide))) (ty_rt ty24 hcr1 (ne_ty ty24 ty21 (by decide))) (ty_rt ty26 hcr1 (ne_ty ty26 ty21 (by decide))) (ty_rt ty28 hcr1 (ne_ty ty28 ty21 (by decide))) (ty_rt ty30 hcr1 (ne_ty ty30 ty21 (by decide))) (ty_rt ty32 hcr1 (ne_ty ty32 ty21 (by decide))) (fun ty23 ty25 ty27 ty29 ty31 ty33 => ?_)
  have W11 := W10.retagU ty21.1 (by rw [ty21.2]; rfl) hcr1 (fun k => by
        rcases k with _ | _ | _ | k
        · exact ⟨(by show 40000 ≤ ivh1 qn5 0; first | exact bx_lo ‹ivh1 qn5 0 = _› (by decide) | omega), (by show ivh1 qn5 0 ≤ 40000; first | exact bx_hi ‹ivh1 qn5 0 = _› (by decide) | omega)⟩
        · exact W10.int ty21 1
        · exact ⟨(by show 0 ≤ ivh1 qn5 2; first | exact bx_lo ‹ivh1 qn5 2 = _› (by decide) | omega), (by show ivh1 qn5 2 ≤ 40000; first | exact bx_hi ‹ivh1 qn5 2 = _› (by decide) | omega)⟩
        · exact W10.int ty21 (k + 3)) (fun k => by
        rcases k with _ | _ | _ | k
        · rw [rn1 0 (by decide)]; exact rok_none tqr1 rfl
        · rw [exf1r]; exact rok_some tqr1 ty34 rfl (by decide) rfl
        · rw [rn1 2 (by decide)]; exact rok_none tqr1 rfl
        · rw [rn1 (k + 3) (by simp)]; exact rok_none tqr1 rfl) (fun z => by cases z) (fun _ b hb => by rw [exf1r] at hb; cases hb; exact Or.inr ⟨exf1t.1, by omega⟩) (fun z => by cases z) hno1
  refine hv3 (nw6.rt hcr1) (X6.rt hcr1 h0qn5) (show clr1 qn5 = 11 from by rw [hcr1]; exact va_up_self _ _ _) (fun nw7 X7 ctr1 => ?_)
  refine c_putrF (x := (some qn5)) (k := 4) C ck_5 dX4_init_47 w1_233 (by decide) rfl rfl rfl ty23 rfl rfl (by decide) rfl (by rfl) (by rfl) (fun rv5 pq5 => ⟨771, (zp2 (Nat.le_refl _)), ?_⟩)
  refine hv2 (W11.putr pq5 ty23 (fun qr => by rw [ty23.2] at qr; cases qr) rfl (by decide)) (F10.putr X7 pq5 ty23 rfl) (fun W12 F11 => ?_)
  refine c_aload_n (j := 0) (x := a0) C dX4_init_50 rfl ?_
  refine c_iconst C dX4_init_51 ?_
  refine c_put (z := 0) (k := 5) C ck_5 dX4_init_52 w1_234 (by decide) rfl ty23 rfl rfl (by decide) rfl (by rfl) (by rfl) (fun iv1 pq6 => ?_)
  refine hv2 (W12.puti pq6 ty23 ⟨by decide, by decide⟩ rfl) (F11.puti X7 pq6 ty23 rfl) (fun W13 F12 => ?_)
  refine c_aload_n (j := 0) (x := a0) C dX4_init_55 rfl ?_
  refine c_iconst C dX4_init_56 ?_
  refine c_put (z := 0) (k := 6) C ck_5 dX4_init_57 w1_236 (by decide) rfl ty23 rfl rfl (by decide) rfl (by decide) (by decide) (fun iv2 pq7 => ?_)
  refine hv2 (W13.puti pq7 ty23 ⟨by decide, by decide⟩ rfl) (F12.puti X7 pq7 ty23 rfl) (fun W14 F13 => ?_)
  refine c_aload_n (j := 0) (x := a0) C dX4_init_60 rfl ?_
  refine c_bipush (z := 100) C dX4_init_61 (by decide) ?_
  refine c_newaI (z := 100) (N := 100) C 63 dX4_init_63 w1_57 rfl (by omega) (by omega) (rom2 hph (Nat.le_refl 0) (by decide)) (fun qn6 cln6 lnn6 ivn6 rvn6 hqn6 hcn6 hln6 hin6 hrn6 => ⟨887, (z_in (by omega)), ?_⟩)
  refine c_g0 C (fun hg6 => ?_)
  refine hv5 (show ∀ b, b ≠ qn6 → lnn6 b = lnh1 b from (fun b hb => by rw [hln6]; exact va_up_ne _ _ hb)) (show lnn6 qn6 = 100 from by rw [hln6]; exact va_up_self _ _ _) (F13.new X7 hqn6 hin6 hrn6) (show ty (Lh1 ++ [qn6]) cln6 qn6 63 from ty_new hcn6) (show qn6 ∉ L from fun h => hqn6 ((X7 qn6 h).1)) (fun hxn6 lqn6 F14 tqn6 h0qn6 => ?_)
  refine hv2 (W14.new (ln2 := lnn6) hqn6 (hg6 qn6 (List.mem_append_right _ List.mem_cons_self)) hcn6 hxn6 hin6 hrn6 (fun _ => ⟨(show (-2147483648 : Int) ≤ 0 by decide), (show (0 : Int) ≤ 2147483647 by decide)⟩) (Or.inr (fun _ => rfl)) (fun _ => by show 100 ≤ lnn6 qn6 ∧ lnn6 qn6 ≤ 100; omega) rfl rfl) (XT.new hqn6 hcn6 hxn6) (fun W15 xl7 => ?_)
  refine hv3 (X7.trans xl7) (nw7.new xl7 hcn6) (xl7.ty ty23) (fun X8 nw8 ty35 => ?_)
  refine c_putrF (x := (some qn6)) (k := 8) C ck_5 dX4_init_65 w1_239 (by decide) rfl rfl rfl ty35 rfl rfl (by decide) rfl (by rfl) (by rfl) (fun rv6 pq8 => ⟨887, (zp2 (Nat.le_refl _)), ?_⟩)
  refine hv2 (W15.putr pq8 ty35 (fun qr => by rw [ty35.2] at qr; cases qr) rfl (by decide)) (F14.putr X8 pq8 ty35 rfl) (fun W16 F15 => ?_)
  refine c_aload_n (j := 0) (x := a0) C dX4_init_68 rfl ?_
  refine c_iconst C dX4_init_69 ?_
  refine c_put (z := 0) (k := 9) C ck_5 dX4_init_70 w2_0 (by decide) rfl ty35 rfl rfl (by decide) rfl (by rfl) (by rfl) (fun iv3 pq9 => ?_)
  refine hv2 (W16.puti pq9 ty35 ⟨by decide, by decide⟩ rfl) (F15.puti X8 pq9 ty35 rfl) (fun W17 F16 => ?_)
  refine c_aload_n (j := 0) (x := a0) C dX4_init_73 rfl ?_
  refine c_iconst C dX4_init_74 ?_
  refine c_put (z := 0) (k := 10) C ck_5 dX4_init_75 w2_1 (by decide) rfl ty35 rfl rfl (by decide) rfl (by rfl) (by rfl) (fun iv4 pq10 => ?_)
  refine hv2 (W17.puti pq10 ty35 ⟨by decide, by decide⟩ rfl) (F16.puti X8 pq10 ty35 rfl) (fun W18 F17 => ?_)
  refine c_aload_n (j := 0) (x := a0) C dX4_init_78 rfl ?_
  refine c_aload_n (j := 1) (x := a1) C dX4_init_79 rfl ?_
  refine c_putrF (x := (some a1)) (k := 7) C ck_5 dX4_init_80 w1_238 (by decide) rfl rfl rfl ty35 rfl rfl (by decide) rfl (by rfl) (by rfl) (fun rv7 pq11 => ⟨887, (zp2 (Nat.le_refl _)), ?_⟩)
  refine hv4 (W18.putr pq11 ty35 (fun qr => by rw [ty35.2] at qr; cases qr) rfl (by decide)) (F17.putr X8 pq11 ty35 rfl) (show rv1 a0 0 = (some qn1) from by rw [pq1]; exact upr_s) (show rvn2 a0 0 = rv1 a0 0 from (by rw [hrn2]; exact congrFun (up0_a (ne_in ty1.1 hqn2)) _)) (fun W19 F18 rp1 re1 => ?_)
  rw [rp1] at re1
  have re2 : rv2 a0 0 = rvn2 a0 0 := (by rw [pq2]; exact upr_j (by decide))
  rw [re1] at re2
  have re3 : rvn3 a0 0 = rv2 a0 0 := (by rw [hrn3]; exact congrFun (up0_a (ne_in ty3.1 hqn3)) _)
  rw [re2] at re3
  have re4 : rv3 a0 0 = rvn3 a0 0 := (by rw [pq3]; exact upr_j (by decide))
  rw [re3] at re4
  have re5 : rvn4 a0 0 = rv3 a0 0 := (by rw [hrn4]; exact congrFun (up0_a (ne_in ty6.1 hqn4)) _)
  rw [re4] at re5
  have re6 : rv4 a0 0 = rvn4 a0 0 := (by rw [pq4]; exact upr_j (by decide))
  rw [re5] at re6
  have re7 : rvn5 a0 0 = rv4 a0 0 := (by rw [hrn5]; exact congrFun (up0_a (ne_in ty10.1 hqn5)) _)
  rw [re6] at re7
  have re8 : rvh1 a0 0 = rvn5 a0 0 := (fl1.r ty15 rfl 0)
  rw [re7] at re8
  have re9 : rv5 a0 0 = rvh1 a0 0 := (by rw [pq5]; exact upr_j (by decide))
  rw [re8] at re9
  have re10 : rvn6 a0 0 = rv5 a0 0 := (by rw [hrn6]; exact congrFun (up0_a (ne_in ty23.1 hqn6)) _)
  rw [re9] at re10
  have re11 : rv6 a0 0 = rvn6 a0 0 := (by rw [pq8]; exact upr_j (by decide))
  rw [re10] at re11
  have re12 : rv7 a0 0 = rv6 a0 0 := (by rw [pq11]; exact upr_j (by decide))
  rw [re11] at re12
  refine hv2 (show rv2 a0 1 = (some qn2) from by rw [pq2]; exact upr_s) (show rvn3 a0 1 = rv2 a0 1 from (by rw [hrn3]; exact congrFun (up0_a (ne_in ty3.1 hqn3)) _)) (fun rp2 re13 => ?_)
  rw [rp2] at re13
  have re14 : rv3 a0 1 = rvn3 a0 1 := (by rw [pq3]; exact upr_j (by decide))
  rw [re13] at re14
  have re15 : rvn4 a0 1 = rv3 a0 1 := (by rw [hrn4]; exact congrFun (up0_a (ne_in ty6.1 hqn4)) _)
  rw [re14] at re15
  have re16 : rv4 a0 1 = rvn4 a0 1 := (by rw [pq4]; exact upr_j (by decide))
  rw [re15] at re16
  have re17 : rvn5 a0 1 = rv4 a0 1 := (by rw [hrn5]; exact congrFun (up0_a (ne_in ty10.1 hqn5)) _)
  rw [re16] at re17
  have re18 : rvh1 a0 1 = rvn5 a0 1 := (fl1.r ty15 rfl 1)
  rw [re17] at re18
  have re19 : rv5 a0 1 = rvh1 a0 1 := (by rw [pq5]; exact upr_j (by decide))
  rw [re18] at re19
  have re20 : rvn6 a0 1 = rv5 a0 1 := (by rw [hrn6]; exact congrFun (up0_a (ne_in ty23.1 hqn6)) _)
  rw [re19] at re20
  have re21 : rv6 a0 1 = rvn6 a0 1 := (by rw [pq8]; exact upr_j (by decide))
  rw [re20] at re21
  have re22 : rv7 a0 1 = rv6 a0 1 := (by rw [pq11]; exact upr_j (by decide))
  rw [re21] at re22
  refine hv2 (show rv3 a0 2 = (some qn3) from by rw [pq3]; exact upr_s) (show rvn4 a0 2 = rv3 a0 2 from (by rw [hrn4]; exact congrFun (up0_a (ne_in ty6.1 hqn4)) _)) (fun rp3 re23 => ?_)
  rw [rp3] at re23
  have re24 : rv4 a0 2 = rvn4 a0 2 := (by rw [pq4]; exact upr_j (by decide))
  rw [re23] at re24
  have re25 : rvn5 a0 2 = rv4 a0 2 := (by rw [hrn5]; exact congrFun (up0_a (ne_in ty10.1 hqn5)) _)
  rw [re24] at re25
  have re26 : rvh1 a0 2 = rvn5 a0 2 := (fl1.r ty15 rfl 2)
  rw [re25] at re26
  have re27 : rv5 a0 2 = rvh1 a0 2 := (by rw [pq5]; exact upr_j (by decide))
  rw [re26] at re27
  have re28 : rvn6 a0 2 = rv5 a0 2 := (by rw [hrn6]; exact congrFun (up0_a (ne_in ty23.1 hqn6)) _)
  rw [re27] at re28
  have re29 : rv6 a0 2 = rvn6 a0 2 := (by rw [pq8]; exact upr_j (by decide))
  rw [re28] at re29
  have re30 : rv7 a0 2 = rv6 a0 2 := (by rw [pq11]; exact upr_j (by decide))
  rw [re29] at re30
  refine hv2 (show rv4 a0 3 = (some qn4) from by rw [pq4]; exact upr_s) (show rvn5 a0 3 = rv4 a0 3 from (by rw [hrn5]; exact congrFun (up0_a (ne_in ty10.1 hqn5)) _)) (fun rp4 re31 => ?_)
  rw [rp4] at re31
  have re32 : rvh1 a0 3 = rvn5 a0 3 := (fl1.r ty15 rfl 3)
  rw [re31] at re32
  have re33 : rv5 a0 3 = rvh1 a0 3 := (by rw [pq5]; exact upr_j (by decide))
  rw [re32] at re33
  have re34 : rvn6 a0 3 = rv5 a0 3 := (by rw [hrn6]; exact congrFun (up0_a (ne_in ty23.1 hqn6)) _)
  rw [re33] at re34
  have re35 : rv6 a0 3 = rvn6 a0 3 := (by rw [pq8]; exact upr_j (by decide))
  rw [re34] at re35
  have re36 : rv7 a0 3 = rv6 a0 3 := (by rw [pq11]; exact upr_j (by decide))
  rw [re35] at re36
  refine hv2 (show rv5 a0 4 = (some qn5) from by rw [pq5]; exact upr_s) (show rvn6 a0 4 = rv5 a0 4 from (by rw [hrn6]; exact congrFun (up0_a (ne_in ty23.1 hqn6)) _)) (fun rp5 re37 => ?_)
  rw [rp5] at re37
  have re38 : rv6 a0 4 = rvn6 a0 4 := (by rw [pq8]; exact upr_j (by decide))
  rw [re37] at re38
  have re39 : rv7 a0 4 = rv6 a0 4 := (by rw [pq11]; exact upr_j (by decide))
  rw [re38] at re39
  refine hv2 (show rv6 a0 8 = (some qn6) from by rw [pq8]; exact upr_s) (show rv7 a0 8 = rv6 a0 8 from (by rw [pq11]; exact upr_j (by decide))) (fun rp6 re40 => ?_)
  rw [rp6] at re40
  refine hv26 (show ∀ k, ([0, 1, 2, 3, 4, 7, 8] : List Nat).contains k = false → rv7 a0 k = rv a0 k from fun k hk => (Eq.trans (show rv7 a0 k = rv6 a0 k from (by rw [pq11]; exact upr_j (fun e => by subst e; exact absurd hk (by decide)))) (Eq.trans (show rv6 a0 k = rvn6 a0 k from (by rw [pq8]; exact upr_j (fun e => by subst e; exact absurd hk (by decide)))) (Eq.trans (show rvn6 a0 k = rv5 a0 k from (by rw [hrn6]; exact congrFun (up0_a (ne_in ty23.1 hqn6)) _)) (Eq.trans (show rv5 a0 k = rvh1 a0 k from (by rw [pq5]; exact upr_j (fun e => by subst e; exact absurd hk (by decide)))) (Eq.trans (show rvh1 a0 k = rvn5 a0 k from (fl1.r ty15 rfl k)) (Eq.trans (show rvn5 a0 k = rv4 a0 k from (by rw [hrn5]; exact congrFun (up0_a (ne_in ty10.1 hqn5)) _)) (Eq.trans (show rv4 a0 k = rvn4 a0 k from (by rw [pq4]; exact upr_j (fun e => by subst e; exact absurd hk (by decide)))) (Eq.trans (show rvn4 a0 k = rv3 a0 k from (by rw [hrn4]; exact congrFun (up0_a (ne_in ty6.1 hqn4)) _)) (Eq.trans (show rv3 a0 k = rvn3 a0 k from (by rw [pq3]; exact upr_j (fun e => by subst e; exact absurd hk (by decide)))) (Eq.trans (show rvn3 a0 k = rv2 a0 k from (by rw [hrn3]; exact congrFun (up0_a (ne_in ty3.1 hqn3)) _)) (Eq.trans (show rv2 a0 k = rvn2 a0 k from (by rw [pq2]; exact upr_j (fun e => by subst e; exact absurd hk (by decide)))) (Eq.trans (show rvn2 a0 k = rv1 a0 k from (by rw [hrn2]; exact congrFun (up0_a (ne_in ty1.1 hqn2)) _)) (Eq.trans (show rv1 a0 k = rvn1 a0 k from (by rw [pq1]; exact upr_j (fun e => by subst e; exact absurd hk (by decide)))) (show rvn1 a0 k = rv a0 k from (by rw [hrn1]; exact congrFun (up0_a (ne_in t_a0.1 hqn1)) _)))))))))))))))) (xl7.ty ty27) (xl7.ty ty29) (xl7.ty ty31) (xl7.ty ty33) (xl7.ty tqr1) (show (-2147483648) ≤ iv4 a0 5 ∧ iv4 a0 5 ≤ 2147483647 from W19.int ty35 5) (show iv4 a0 5 = iv3 a0 5 from by rw [pq10]; exact up2_j (by decide)) (show iv3 a0 5 = ivn6 a0 5 from by rw [pq9]; exact up2_j (by decide)) (show ivn6 a0 5 = iv2 a0 5 from by rw [hin6]; exact congrFun (up0_a (ne_in ty23.1 hqn6)) _) (show iv2 a0 5 = iv1 a0 5 from by rw [pq7]; exact up2_j (by decide)) (show iv1 a0 5 = 0 from by rw [pq6]; exact up2_s) (show (-2147483648) ≤ iv4 a0 6 ∧ iv4 a0 6 ≤ 2147483647 from W19.int ty35 6) (show iv4 a0 6 = iv3 a0 6 from by rw [pq10]; exact up2_j (by decide)) (show iv3 a0 6 = ivn6 a0 6 from by rw [pq9]; exact up2_j (by decide)) (show ivn6 a0 6 = iv2 a0 6 from by rw [hin6]; exact congrFun (up0_a (ne_in ty23.1 hqn6)) _) (show iv2 a0 6 = 0 from by rw [pq7]; exact up2_s) (show (-2147483648) ≤ iv4 a0 9 ∧ iv4 a0 9 ≤ 2147483647 from W19.int ty35 9) (show iv4 a0 9 = iv3 a0 9 from by rw [pq10]; exact up2_j (by decide)) (show iv3 a0 9 = 0 from by rw [pq9]; exact up2_s) (show (-2147483648) ≤ iv4 a0 10 ∧ iv4 a0 10 ≤ 2147483647 from W19.int ty35 10) (show iv4 a0 10 = 0 from by rw [pq10]; exact up2_s) (show rv7 a0 7 = (some a1) from by rw [pq11]; exact upr_s) (show ivn6 qn5 2 = iv2 qn5 2 from by rw [hin6]; exact congrFun (up0_a (ne_in tqr1.1 hqn6)) _) (show iv2 qn5 2 = iv1 qn5 2 from by rw [pq7]; exact up2_k (ne_ty tqr1 ty23 (by decide))) (show iv1 qn5 2 = ivh1 qn5 2 from by rw [pq6]; exact up2_k (ne_ty tqr1 ty23 (by decide))) (fun rn2 ty36 ty37 ty38 ty39 ty40 ri1 ie1 ie2 ie3 ie4 ie5 ri2 ie6 ie7 ie8 ie9 ri3 ie10 ie11 ri4 ie12 rp7 ie15 ie16 ie17 => ?_)
  refine hv3 (show 0 ≤ iv4 qn5 2 ∧ iv4 qn5 2 ≤ 40000 from W19.int ty40 2) (show iv4 qn5 2 = iv3 qn5 2 from by rw [pq10]; exact up2_k (ne_ty ty40 ty35 (by decide))) (show iv3 qn5 2 = ivn6 qn5 2 from by rw [pq9]; exact up2_k (ne_ty ty40 ty35 (by decide))) (fun ri5 ie13 ie14 => ?_)
  exact c_vret C dX4_init_83 rfl (by decide) (rom0 hph (Nat.le_refl 0) (by decide)) ⟨_, rfl, X8, F18, W19, ⟨qn1, qn2, qn3, qn4, qn5, qn6, rn2, re12, ty36, re22, ty37, re30, ty38, re36, ty39, re39, ty40, re40, tqn6, (by omega), (by omega), (by omega), (by omega), rp7, (by omega)⟩, nw8.sub (by decide)⟩
end
