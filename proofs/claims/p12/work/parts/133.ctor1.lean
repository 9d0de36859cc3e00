set_option maxHeartbeats 4000000 in
set_option maxRecDepth 100000 in
theorem Y_acoll {l : Launch} {G : GT} {mi : Nat} {sk : Nat → Nat} {L : List Nat} {cl ln : Nat → Nat} {iv : Nat → Nat → Int} {rv : Nat → Nat → Option Nat}  {a0 : Nat} (hW : WT (g0 G) sk L cl ln iv rv) (t_a0 : ty L cl a0 200)  : Mc l G mi zPf 0 yJxa1e45_init_da8c8 cJxa1e45_init_da8c8 1 none 1 [.ref a0] L cl ln iv rv 0 (fun v L2 cl2 ln2 iv2 rv2 => v = none ∧ L = L2 ∧ cl = cl2 ∧ ln = ln2 ∧ iv = iv2 ∧ rv = rv2 ∧ (True)) := by
  refine Mc.mk (by decide) (Nat.le_of_ble_eq_true rfl) ?_
  intro p e s m args below meth c A C hM
  have hph := (show zPf ln rv ≤ 0 from Nat.le_refl 0)
  have nw0 : NW [] L L cl := NW.refl
  have hX0 : XT L cl ln L cl ln := XT.refl
  have hF0 : fT [] L cl iv rv iv rv := fT.refl
  refine c_aload_n (j := 0) (x := a0) C dJxa1e45_init_da8c8_0 rfl ?_
  refine c_objInit C dJxa1e45_init_da8c8_1 w1_75 w1_30 w1_31 (by decide) (Nat.le_of_ble_eq_true rfl) ?_
  exact c_vret C dJxa1e45_init_da8c8_4 rfl (by decide) (rom0 hph hph (by decide)) ⟨rfl, rfl, rfl, rfl, rfl, rfl, trivial⟩
set_option maxHeartbeats 4000000 in
set_option maxRecDepth 100000 in
theorem Y_alist {l : Launch} {G : GT} {mi : Nat} {sk : Nat → Nat} {L : List Nat} {cl ln : Nat → Nat} {iv : Nat → Nat → Int} {rv : Nat → Nat → Option Nat}  {a0 : Nat} (hW : WT (g0 G) sk L cl ln iv rv) (t_a0 : ty L cl a0 200)  : Mc l G mi zPf 0 yJxc12de_init_da8c8 cJxc12de_init_da8c8 1 none 2 [.ref a0] L cl ln iv rv 0 (fun v L2 cl2 ln2 iv2 rv2 => v = none ∧ L = L2 ∧ cl = cl2 ∧ ln = ln2 ∧ rv = rv2 ∧ fT [200] L cl iv rv iv2 rv2 ∧ WT (g0 G) sk L2 cl2 ln2 iv2 rv2 ∧ (iv2 a0 2 = iv a0 2)) := by
  refine Mc.mk (by decide) (Nat.le_of_ble_eq_true rfl) ?_
  intro p e s m args below meth c A C hM
  have hph := (show zPf ln rv ≤ 0 from Nat.le_refl 0)
  have nw0 : NW [] L L cl := NW.refl
  have hX0 : XT L cl ln L cl ln := XT.refl
  have hF0 : fT [200] L cl iv rv iv rv := fT.refl
  refine c_aload_n (j := 0) (x := a0) C dJxc12de_init_da8c8_0 rfl ?_
  refine c_callI (As := []) (rest := []) C hM (Y_acoll (a0 := a0) hW  t_a0  ) dJxc12de_init_da8c8_1 kI_Jxc12de_1 rfl rfl (Nat.le_of_ble_eq_true rfl) ⟨(Nat.le_of_ble_eq_true rfl), (Nat.le_of_ble_eq_true rfl)⟩ (rz0 hph (by decide)) (fun rh1 Lh1 clh1 lnh1 ivh1 rvh1 h1 => ⟨0, zk0, ?_⟩)
  obtain ⟨rfl, rfl, rfl, rfl, rfl, rfl, exf1⟩ := h1
  refine c_st (st2 := []) rfl ?_
  refine c_aload_n (j := 0) (x := a0) C dJxc12de_init_da8c8_4 rfl ?_
  refine c_iconst C dJxc12de_init_da8c8_5 ?_
  refine c_put (z := 0) (k := 0) C ck_0 dJxc12de_init_da8c8_6 w1_80 (by decide) rfl t_a0 rfl rfl (by decide) rfl (by rfl) (by rfl) (fun iv1 pq1 => ?_)
  have W2 := hW.puti pq1 t_a0 ⟨by decide, by decide⟩ rfl
  have F1 := hF0.puti hX0 pq1 t_a0 rfl
  have ri1 : (-2147483648) ≤ iv1 a0 2 ∧ iv1 a0 2 ≤ 2147483647 := W2.int t_a0 2
  have ie1 : iv1 a0 2 = iv a0 2 := by rw [pq1]; exact up2_j (by decide)
  exact c_vret C dJxc12de_init_da8c8_9 rfl (by decide) (rom0 hph hph (by decide)) ⟨rfl, rfl, rfl, rfl, rfl, F1, W2, (by omega)⟩
set_option maxHeartbeats 4000000 in
set_option maxRecDepth 100000 in
theorem Y_list {l : Launch} {G : GT} {mi : Nat} {sk : Nat → Nat} {L : List Nat} {cl ln : Nat → Nat} {iv : Nat → Nat → Int} {rv : Nat → Nat → Option Nat}  {a0 : Nat} (hW : WT (g0 G) sk L cl ln iv rv) (t_a0 : ty L cl a0 200)  : Mc l G mi zPf 0 yJx4a65c_init_da8c8 cJx4a65c_init_da8c8 1 none 3 [.ref a0] L cl ln iv rv 0 (fun v L2 cl2 ln2 iv2 rv2 => v = none ∧ L = L2 ∧ cl = cl2 ∧ ln = ln2 ∧ fT [200] L cl iv rv iv2 rv2 ∧ WT (g0 G) sk L2 cl2 ln2 iv2 rv2 ∧ (rv2 a0 1 = some (g0 G) ∧ iv2 a0 2 = iv a0 2 ∧ (∀ k, ([1] : List Nat).contains k = false → rv2 a0 k = rv a0 k))) := by
  refine Mc.mk (by decide) (Nat.le_of_ble_eq_true rfl) ?_
  intro p e s m args below meth c A C hM
  have hph := (show zPf ln rv ≤ 0 from Nat.le_refl 0)
  have nw0 : NW [] L L cl := NW.refl
  have hX0 : XT L cl ln L cl ln := XT.refl
  have hF0 : fT [200] L cl iv rv iv rv := fT.refl
  refine c_aload_n (j := 0) (x := a0) C dJx4a65c_init_da8c8_0 rfl ?_
  have ri1 : (-2147483648) ≤ iv a0 2 ∧ iv a0 2 ≤ 2147483647 := hW.int t_a0 2
  refine c_callI (As := []) (rest := []) C hM (Y_alist (a0 := a0) hW  t_a0  ) dJx4a65c_init_da8c8_1 kI_Jx4a65c_1 rfl rfl (Nat.le_of_ble_eq_true rfl) ⟨(Nat.le_of_ble_eq_true rfl), (Nat.le_of_ble_eq_true rfl)⟩ (rz0 hph (by decide)) (fun rh1 Lh1 clh1 lnh1 ivh1 rvh1 h1 => ⟨0, zk0, ?_⟩)
  obtain ⟨rfl, rfl, rfl, rfl, rfl, fl1, W1, exf1⟩ := h1
  have F1 := hF0.call hX0 fl1 rfl
  refine c_st (st2 := []) rfl ?_
  have ri2 : (-2147483648) ≤ ivh1 a0 2 ∧ ivh1 a0 2 ≤ 2147483647 := W1.int t_a0 2
  have gf1 : ivh1 a0 2 = iv a0 2 := exf1
  refine c_aload_n (j := 0) (x := a0) C dJx4a65c_init_da8c8_4 rfl ?_
  refine c_gets C dJx4a65c_init_da8c8_5 w1_76 ?_
  refine c_putr (x := (some (g0 G))) (k := 1) C ck_0 dJx4a65c_init_da8c8_8 w1_78 (by decide) rfl t_a0 rfl rfl (by decide) rfl (by rfl) (by rfl) (fun rv1 pq1 => ⟨0, (zp2 (Nat.le_refl _)), ?_⟩)
  have W2 := W1.putr pq1 t_a0 (fun qr => by rw [t_a0.2] at qr; cases qr) rfl (by decide)
  have F2 := F1.putr hX0 pq1 t_a0 rfl
  have rp1 : rv1 a0 1 = (some (g0 G)) := by rw [pq1]; exact upr_s
  have rn1 : ∀ k, ([1] : List Nat).contains k = false → rv1 a0 k = rv a0 k := fun k hk => (show rv1 a0 k = rv a0 k from (by rw [pq1]; exact upr_j (fun e => by subst e; exact absurd hk (by decide))))
  exact c_vret C dJx4a65c_init_da8c8_11 rfl (by decide) (rom0 hph (Nat.le_refl 0) (by decide)) ⟨rfl, rfl, rfl, rfl, F2, W2, ⟨rp1, (by omega), rn1⟩⟩
set_option maxHeartbeats 4000000 in
set_option maxRecDepth 100000 in
theorem Y_ints_2 {l : Launch} {G : GT} {mi : Nat} {sk : Nat → Nat} {L : List Nat} {cl ln : Nat → Nat} {iv : Nat → Nat → Int} {rv : Nat → Nat → Option Nat}  {a0 : Nat} {i : Int} (hW : WT (g0 G) sk L cl ln iv rv) (t_a0 : ty L cl a0 202) (h_i : -2147483648 ≤ i ∧ i ≤ 2147483647)  : Mc l G mi zPf 0 yX1_init cX1_init 2 none 1 [.ref a0, .int (iI i)] L cl ln iv rv 32 (fun v L2 cl2 ln2 iv2 rv2 => v = none ∧ XT L cl ln L2 cl2 ln2 ∧ fT [202] L cl iv rv iv2 rv2 ∧ WT (g0 G) sk L2 cl2 ln2 iv2 rv2 ∧ (∃ b, (∀ k, ([1] : List Nat).contains k = false → rv2 a0 k = rv a0 k) ∧ rv2 a0 1 = some b ∧ ty L2 cl2 b 32 ∧ ln2 b = 16 ∧ iv2 a0 0 = i ∧ iv2 a0 2 = 0) ∧ NW [32] L L2 cl2) := by
  refine Mc.mk (by decide) (Nat.le_of_ble_eq_true rfl) ?_
  intro p e s m args below meth c A C hM
  have hph := (show zPf ln rv ≤ 0 from Nat.le_refl 0)
  have nw0 : NW [] L L cl := NW.refl
  have hX0 : XT L cl ln L cl ln := XT.refl
  have hF0 : fT [202] L cl iv rv iv rv := fT.refl
  refine c_aload_n (j := 0) (x := a0) C dX1_init_0 rfl ?_
  refine c_objInit C dX1_init_1 w1_37 w1_30 w1_31 (by decide) (Nat.le_of_ble_eq_true rfl) ?_
  refine c_aload_n (j := 0) (x := a0) C dX1_init_4 rfl ?_
  refine c_iconst C dX1_init_5 ?_
  refine c_put (z := 0) (k := 2) C ck_2 dX1_init_6 w1_43 (by decide) rfl t_a0 rfl rfl (by decide) rfl (by rfl) (by rfl) (fun iv1 pq1 => ?_)
  have W1 := hW.puti pq1 t_a0 ⟨by decide, by decide⟩ rfl
  have F1 := hF0.puti hX0 pq1 t_a0 rfl
  refine c_aload_n (j := 0) (x := a0) C dX1_init_9 rfl ?_
  refine c_iload_n (j := 1) C dX1_init_10 rfl ?_
  refine c_putF (z := i) (k := 0) C ck_2 dX1_init_11 w1_38 (by decide) rfl rfl rfl t_a0 rfl rfl (by decide) rfl (by rfl) (by rfl) (fun iv2 pq2 => ?_)
  have W2 := W1.puti pq2 t_a0 (show (-2147483648) ≤ i ∧ i ≤ 2147483647 by omega) rfl
  have F2 := F1.puti hX0 pq2 t_a0 rfl
  refine c_aload_n (j := 0) (x := a0) C dX1_init_14 rfl ?_
  refine c_bipush (z := 16) C dX1_init_15 (by decide) ?_
  refine c_newaI (z := 16) (N := 16) C 32 dX1_init_17 w1_57 rfl (by omega) (by omega) (rom2 hph hph (by decide)) (fun qn1 cln1 lnn1 ivn1 rvn1 hqn1 hcn1 hln1 hin1 hrn1 => ⟨32, (z_in (by omega)), ?_⟩)
  refine c_g0 C (fun hg1 => ?_)
  have hxn1 : ∀ b, b ≠ qn1 → lnn1 b = ln b := (fun b hb => by rw [hln1]; exact va_up_ne _ _ hb)
  have lqn1 : lnn1 qn1 = 16 := by rw [hln1]; exact va_up_self _ _ _
  have W3 := W2.new (ln2 := lnn1) hqn1 (hg1 qn1 (List.mem_append_right _ List.mem_cons_self)) hcn1 hxn1 hin1 hrn1 (fun _ => ⟨(show (-2147483648 : Int) ≤ 0 by decide), (show (0 : Int) ≤ 2147483647 by decide)⟩) (Or.inr (fun _ => rfl)) (fun _ => by show 16 ≤ lnn1 qn1 ∧ lnn1 qn1 ≤ 6000; omega) rfl rfl
  have xl1 := XT.new hqn1 hcn1 hxn1
  have X1 := hX0.trans xl1
  have F3 := F2.new hX0 hqn1 hin1 hrn1
  have nw1 := nw0.new xl1 hcn1
  have tqn1 : ty (L ++ [qn1]) cln1 qn1 32 := ty_new hcn1
  have h0qn1 : qn1 ∉ L := fun h => hqn1 ((hX0 qn1 h).1)
  have ty1 := xl1.ty t_a0
  refine c_putr (x := (some qn1)) (k := 1) C ck_2 dX1_init_19 w1_39 (by decide) rfl ty1 rfl rfl (by decide) rfl (by rfl) (by rfl) (fun rv1 pq3 => ⟨32, (zp2 (Nat.le_refl _)), ?_⟩)
  have W4 := W3.putr pq3 ty1 (fun qr => by rw [ty1.2] at qr; cases qr) rfl (by decide)
  have F4 := F3.putr X1 pq3 ty1 rfl
  have rp1 : rv1 a0 1 = (some qn1) := by rw [pq3]; exact upr_s
  have rn1 : ∀ k, ([1] : List Nat).contains k = false → rv1 a0 k = rv a0 k := fun k hk => (Eq.trans (show rv1 a0 k = rvn1 a0 k from (by rw [pq3]; exact upr_j (fun e => by subst e; exact absurd hk (by decide)))) (show rvn1 a0 k = rv a0 k from (by rw [hrn1]; exact congrFun (up0_a (ne_in t_a0.1 hqn1)) _)))
  have ri1 : (-2147483648) ≤ ivn1 a0 0 ∧ ivn1 a0 0 ≤ 2147483647 := W4.int ty1 0
  have ie1 : ivn1 a0 0 = iv2 a0 0 := by rw [hin1]; exact congrFun (up0_a (ne_in t_a0.1 hqn1)) _
  have ie2 : iv2 a0 0 = i := by rw [pq2]; exact up2_s
  have ri2 : (-2147483648) ≤ ivn1 a0 2 ∧ ivn1 a0 2 ≤ 2147483647 := W4.int ty1 2
  have ie3 : ivn1 a0 2 = iv2 a0 2 := by rw [hin1]; exact congrFun (up0_a (ne_in t_a0.1 hqn1)) _
  have ie4 : iv2 a0 2 = iv1 a0 2 := by rw [pq2]; exact up2_j (by decide)
  have ie5 : iv1 a0 2 = 0 := by rw [pq1]; exact up2_s
  exact c_vret C dX1_init_22 rfl (by decide) (rom0 hph (Nat.le_refl 0) (by decide)) ⟨rfl, X1, F4, W4, ⟨qn1, rn1, rp1, tqn1, (by omega), (by omega), (by omega)⟩, nw1.sub (by decide)⟩
set_option maxHeartbeats 4000000 in
set_option maxRecDepth 100000 in
theorem Y_ints_3 {l : Launch} {G : GT} {mi : Nat} {sk : Nat → Nat} {L : List Nat} {cl ln : Nat → Nat} {iv : Nat → Nat → Int} {rv : Nat → Nat → Option Nat}  {a0 : Nat} {i : Int} (hW : WT (g0 G) sk L cl ln iv rv) (t_a0 : ty L cl a0 202) (h_i : -2147483648 ≤ i ∧ i ≤ 2147483647)  : Mc l G mi zPf 0 yX1_init cX1_init 2 none 1 [.ref a0, .int (iI i)] L cl ln iv rv 32 (fun v L2 cl2 ln2 iv2 rv2 => v = none ∧ XT L cl ln L2 cl2 ln2 ∧ fT [202] L cl iv rv iv2 rv2 ∧ WT (g0 G) sk L2 cl2 ln2 iv2 rv2 ∧ (∃ b, (∀ k, ([1] : List Nat).contains k = false → rv2 a0 k = rv a0 k) ∧ rv2 a0 1 = some b ∧ ty L2 cl2 b 33 ∧ ln2 b = 16 ∧ iv2 a0 0 = i ∧ iv2 a0 2 = 0) ∧ NW [33] L L2 cl2) := by
  refine Mc.mk (by decide) (Nat.le_of_ble_eq_true rfl) ?_
  intro p e s m args below meth c A C hM
  have hph := (show zPf ln rv ≤ 0 from Nat.le_refl 0)
  have nw0 : NW [] L L cl := NW.refl
  have hX0 : XT L cl ln L cl ln := XT.refl
  have hF0 : fT [202] L cl iv rv iv rv := fT.refl
  refine c_aload_n (j := 0) (x := a0) C dX1_init_0 rfl ?_
  refine c_objInit C dX1_init_1 w1_37 w1_30 w1_31 (by decide) (Nat.le_of_ble_eq_true rfl) ?_
  refine c_aload_n (j := 0) (x := a0) C dX1_init_4 rfl ?_
  refine c_iconst C dX1_init_5 ?_
  refine c_put (z := 0) (k := 2) C ck_2 dX1_init_6 w1_43 (by decide) rfl t_a0 rfl rfl (by decide) rfl (by rfl) (by rfl) (fun iv1 pq1 => ?_)
  have W1 := hW.puti pq1 t_a0 ⟨by decide, by decide⟩ rfl
  have F1 := hF0.puti hX0 pq1 t_a0 rfl
  refine c_aload_n (j := 0) (x := a0) C dX1_init_9 rfl ?_
  refine c_iload_n (j := 1) C dX1_init_10 rfl ?_
  refine c_putF (z := i) (k := 0) C ck_2 dX1_init_11 w1_38 (by decide) rfl rfl rfl t_a0 rfl rfl (by decide) rfl (by rfl) (by rfl) (fun iv2 pq2 => ?_)
  have W2 := W1.puti pq2 t_a0 (show (-2147483648) ≤ i ∧ i ≤ 2147483647 by omega) rfl
  have F2 := F1.puti hX0 pq2 t_a0 rfl
  refine c_aload_n (j := 0) (x := a0) C dX1_init_14 rfl ?_
  refine c_bipush (z := 16) C dX1_init_15 (by decide) ?_
  refine c_newaI (z := 16) (N := 16) C 33 dX1_init_17 w1_57 rfl (by omega) (by omega) (rom2 hph hph (by decide)) (fun qn1 cln1 lnn1 ivn1 rvn1 hqn1 hcn1 hln1 hin1 hrn1 => ⟨32, (z_in (by omega)), ?_⟩)
  refine c_g0 C (fun hg1 => ?_)
  have hxn1 : ∀ b, b ≠ qn1 → lnn1 b = ln b := (fun b hb => by rw [hln1]; exact va_up_ne _ _ hb)
  have lqn1 : lnn1 qn1 = 16 := by rw [hln1]; exact va_up_self _ _ _
  have W3 := W2.new (ln2 := lnn1) hqn1 (hg1 qn1 (List.mem_append_right _ List.mem_cons_self)) hcn1 hxn1 hin1 hrn1 (fun _ => ⟨(show (-2147483648 : Int) ≤ 0 by decide), (show (0 : Int) ≤ 2147483647 by decide)⟩) (Or.inr (fun _ => rfl)) (fun _ => by show 16 ≤ lnn1 qn1 ∧ lnn1 qn1 ≤ 1000; omega) rfl rfl
  have xl1 := XT.new hqn1 hcn1 hxn1
  have X1 := hX0.trans xl1
  have F3 := F2.new hX0 hqn1 hin1 hrn1
  have nw1 := nw0.new xl1 hcn1
  have tqn1 : ty (L ++ [qn1]) cln1 qn1 33 := ty_new hcn1
  have h0qn1 : qn1 ∉ L := fun h => hqn1 ((hX0 qn1 h).1)
  have ty1 := xl1.ty t_a0
  refine c_putr (x := (some qn1)) (k := 1) C ck_2 dX1_init_19 w1_39 (by decide) rfl ty1 rfl rfl (by decide) rfl (by rfl) (by rfl) (fun rv1 pq3 => ⟨32, (zp2 (Nat.le_refl _)), ?_⟩)
  have W4 := W3.putr pq3 ty1 (fun qr => by rw [ty1.2] at qr; cases qr) rfl (by decide)
  have F4 := F3.putr X1 pq3 ty1 rfl
  have rp1 : rv1 a0 1 = (some qn1) := by rw [pq3]; exact upr_s
  have rn1 : ∀ k, ([1] : List Nat).contains k = false → rv1 a0 k = rv a0 k := fun k hk => (Eq.trans (show rv1 a0 k = rvn1 a0 k from (by rw [pq3]; exact upr_j (fun e => by subst e; exact absurd hk (by decide)))) (show rvn1 a0 k = rv a0 k from (by rw [hrn1]; exact congrFun (up0_a (ne_in t_a0.1 hqn1)) _)))
  have ri1 : (-2147483648) ≤ ivn1 a0 0 ∧ ivn1 a0 0 ≤ 2147483647 := W4.int ty1 0
  have ie1 : ivn1 a0 0 = iv2 a0 0 := by rw [hin1]; exact congrFun (up0_a (ne_in t_a0.1 hqn1)) _
  have ie2 : iv2 a0 0 = i := by rw [pq2]; exact up2_s
  have ri2 : (-2147483648) ≤ ivn1 a0 2 ∧ ivn1 a0 2 ≤ 2147483647 := W4.int ty1 2
  have ie3 : ivn1 a0 2 = iv2 a0 2 := by rw [hin1]; exact congrFun (up0_a (ne_in t_a0.1 hqn1)) _
  have ie4 : iv2 a0 2 = iv1 a0 2 := by rw [pq2]; exact up2_j (by decide)
  have ie5 : iv1 a0 2 = 0 := by rw [pq1]; exact up2_s
  exact c_vret C dX1_init_22 rfl (by decide) (rom0 hph (Nat.le_refl 0) (by decide)) ⟨rfl, X1, F4, W4, ⟨qn1, rn1, rp1, tqn1, (by omega), (by omega), (by omega)⟩, nw1.sub (by decide)⟩
set_option maxHeartbeats 4000000 in
set_option maxRecDepth 100000 in
theorem Y_ints_4 {l : Launch} {G : GT} {mi : Nat} {sk : Nat → Nat} {L : List Nat} {cl ln : Nat → Nat} {iv : Nat → Nat → Int} {rv : Nat → Nat → Option Nat}  {a0 : Nat} {i : Int} (hW : WT (g0 G) sk L cl ln iv rv) (t_a0 : ty L cl a0 202) (h_i : -2147483648 ≤ i ∧ i ≤ 2147483647)  : Mc l G mi zPf 0 yX1_init cX1_init 2 none 1 [.ref a0, .int (iI i)] L cl ln iv rv 32 (fun v L2 cl2 ln2 iv2 rv2 => v = none ∧ XT L cl ln L2 cl2 ln2 ∧ fT [202] L cl iv rv iv2 rv2 ∧ WT (g0 G) sk L2 cl2 ln2 iv2 rv2 ∧ (∃ b, (∀ k, ([1] : List Nat).contains k = false → rv2 a0 k = rv a0 k) ∧ rv2 a0 1 = some b ∧ ty L2 cl2 b 34 ∧ ln2 b = 16 ∧ iv2 a0 0 = i ∧ iv2 a0 2 = 0) ∧ NW [34] L L2 cl2) := by
  refine Mc.mk (by decide) (Nat.le_of_ble_eq_true rfl) ?_
  intro p e s m args below meth c A C hM
  have hph := (show zPf ln rv ≤ 0 from Nat.le_refl 0)
  have nw0 : NW [] L L cl := NW.refl
  have hX0 : XT L cl ln L cl ln := XT.refl
  have hF0 : fT [202] L cl iv rv iv rv := fT.refl
  refine c_aload_n (j := 0) (x := a0) C dX1_init_0 rfl ?_
  refine c_objInit C dX1_init_1 w1_37 w1_30 w1_31 (by decide) (Nat.le_of_ble_eq_true rfl) ?_
  refine c_aload_n (j := 0) (x := a0) C dX1_init_4 rfl ?_
  refine c_iconst C dX1_init_5 ?_
  refine c_put (z := 0) (k := 2) C ck_2 dX1_init_6 w1_43 (by decide) rfl t_a0 rfl rfl (by decide) rfl (by rfl) (by rfl) (fun iv1 pq1 => ?_)
  have W1 := hW.puti pq1 t_a0 ⟨by decide, by decide⟩ rfl
  have F1 := hF0.puti hX0 pq1 t_a0 rfl
  refine c_aload_n (j := 0) (x := a0) C dX1_init_9 rfl ?_
  refine c_iload_n (j := 1) C dX1_init_10 rfl ?_
  refine c_putF (z := i) (k := 0) C ck_2 dX1_init_11 w1_38 (by decide) rfl rfl rfl t_a0 rfl rfl (by decide) rfl (by rfl) (by rfl) (fun iv2 pq2 => ?_)
  have W2 := W1.puti pq2 t_a0 (show (-2147483648) ≤ i ∧ i ≤ 2147483647 by omega) rfl
  have F2 := F1.puti hX0 pq2 t_a0 rfl
  refine c_aload_n (j := 0) (x := a0) C dX1_init_14 rfl ?_
  refine c_bipush (z := 16) C dX1_init_15 (by decide) ?_
  refine c_newaI (z := 16) (N := 16) C 34 dX1_init_17 w1_57 rfl (by omega) (by omega) (rom2 hph hph (by decide)) (fun qn1 cln1 lnn1 ivn1 rvn1 hqn1 hcn1 hln1 hin1 hrn1 => ⟨32, (z_in (by omega)), ?_⟩)
  refine c_g0 C (fun hg1 => ?_)
  have hxn1 : ∀ b, b ≠ qn1 → lnn1 b = ln b := (fun b hb => by rw [hln1]; exact va_up_ne _ _ hb)
  have lqn1 : lnn1 qn1 = 16 := by rw [hln1]; exact va_up_self _ _ _
  have W3 := W2.new (ln2 := lnn1) hqn1 (hg1 qn1 (List.mem_append_right _ List.mem_cons_self)) hcn1 hxn1 hin1 hrn1 (fun _ => ⟨(show (-2147483648 : Int) ≤ 0 by decide), (show (0 : Int) ≤ 2147483647 by decide)⟩) (Or.inr (fun _ => rfl)) (fun _ => by show 16 ≤ lnn1 qn1 ∧ lnn1 qn1 ≤ 8000; omega) rfl rfl
  have xl1 := XT.new hqn1 hcn1 hxn1
  have X1 := hX0.trans xl1
  have F3 := F2.new hX0 hqn1 hin1 hrn1
  have nw1 := nw0.new xl1 hcn1
  have tqn1 : ty (L ++ [qn1]) cln1 qn1 34 := ty_new hcn1
  have h0qn1 : qn1 ∉ L := fun h => hqn1 ((hX0 qn1 h).1)
  have ty1 := xl1.ty t_a0
  refine c_putr (x := (some qn1)) (k := 1) C ck_2 dX1_init_19 w1_39 (by decide) rfl ty1 rfl rfl (by decide) rfl (by rfl) (by rfl) (fun rv1 pq3 => ⟨32, (zp2 (Nat.le_refl _)), ?_⟩)
  have W4 := W3.putr pq3 ty1 (fun qr => by rw [ty1.2] at qr; cases qr) rfl (by decide)
  have F4 := F3.putr X1 pq3 ty1 rfl
  have rp1 : rv1 a0 1 = (some qn1) := by rw [pq3]; exact upr_s
  have rn1 : ∀ k, ([1] : List Nat).contains k = false → rv1 a0 k = rv a0 k := fun k hk => (Eq.trans (show rv1 a0 k = rvn1 a0 k from (by rw [pq3]; exact upr_j (fun e => by subst e; exact absurd hk (by decide)))) (show rvn1 a0 k = rv a0 k from (by rw [hrn1]; exact congrFun (up0_a (ne_in t_a0.1 hqn1)) _)))
  have ri1 : (-2147483648) ≤ ivn1 a0 0 ∧ ivn1 a0 0 ≤ 2147483647 := W4.int ty1 0
  have ie1 : ivn1 a0 0 = iv2 a0 0 := by rw [hin1]; exact congrFun (up0_a (ne_in t_a0.1 hqn1)) _
  have ie2 : iv2 a0 0 = i := by rw [pq2]; exact up2_s
  have ri2 : (-2147483648) ≤ ivn1 a0 2 ∧ ivn1 a0 2 ≤ 2147483647 := W4.int ty1 2
  have ie3 : ivn1 a0 2 = iv2 a0 2 := by rw [hin1]; exact congrFun (up0_a (ne_in t_a0.1 hqn1)) _
  have ie4 : iv2 a0 2 = iv1 a0 2 := by rw [pq2]; exact up2_j (by decide)
  have ie5 : iv1 a0 2 = 0 := by rw [pq1]; exact up2_s
  exact c_vret C dX1_init_22 rfl (by decide) (rom0 hph (Nat.le_refl 0) (by decide)) ⟨rfl, X1, F4, W4, ⟨qn1, rn1, rp1, tqn1, (by omega), (by omega), (by omega)⟩, nw1.sub (by decide)⟩
set_option maxHeartbeats 4000000 in
set_option maxRecDepth 100000 in
theorem Y_ints_5 {l : Launch} {G : GT} {mi : Nat} {sk : Nat → Nat} {L : List Nat} {cl ln : Nat → Nat} {iv : Nat → Nat → Int} {rv : Nat → Nat → Option Nat}  {a0 : Nat} {i : Int} (hW : WT (g0 G) sk L cl ln iv rv) (t_a0 : ty L cl a0 202) (h_i : -2147483648 ≤ i ∧ i ≤ 2147483647)  : Mc l G mi zPf 0 yX1_init cX1_init 2 none 1 [.ref a0, .int (iI i)] L cl ln iv rv 32 (fun v L2 cl2 ln2 iv2 rv2 => v = none ∧ XT L cl ln L2 cl2 ln2 ∧ fT [202] L cl iv rv iv2 rv2 ∧ WT (g0 G) sk L2 cl2 ln2 iv2 rv2 ∧ (∃ b, (∀ k, ([1] : List Nat).contains k = false → rv2 a0 k = rv a0 k) ∧ rv2 a0 1 = some b ∧ ty L2 cl2 b 35 ∧ ln2 b = 16 ∧ iv2 a0 0 = i ∧ iv2 a0 2 = 0) ∧ NW [35] L L2 cl2) := by
  refine Mc.mk (by decide) (Nat.le_of_ble_eq_true rfl) ?_
  intro p e s m args below meth c A C hM
  have hph := (show zPf ln rv ≤ 0 from Nat.le_refl 0)
  have nw0 : NW [] L L cl := NW.refl
  have hX0 : XT L cl ln L cl ln := XT.refl
  have hF0 : fT [202] L cl iv rv iv rv := fT.refl
  refine c_aload_n (j := 0) (x := a0) C dX1_init_0 rfl ?_
  refine c_objInit C dX1_init_1 w1_37 w1_30 w1_31 (by decide) (Nat.le_of_ble_eq_true rfl) ?_
  refine c_aload_n (j := 0) (x := a0) C dX1_init_4 rfl ?_
  refine c_iconst C dX1_init_5 ?_
  refine c_put (z := 0) (k := 2) C ck_2 dX1_init_6 w1_43 (by decide) rfl t_a0 rfl rfl (by decide) rfl (by rfl) (by rfl) (fun iv1 pq1 => ?_)
  have W1 := hW.puti pq1 t_a0 ⟨by decide, by decide⟩ rfl
  have F1 := hF0.puti hX0 pq1 t_a0 rfl
  refine c_aload_n (j := 0) (x := a0) C dX1_init_9 rfl ?_
  refine c_iload_n (j := 1) C dX1_init_10 rfl ?_
  refine c_putF (z := i) (k := 0) C ck_2 dX1_init_11 w1_38 (by decide) rfl rfl rfl t_a0 rfl rfl (by decide) rfl (by rfl) (by rfl) (fun iv2 pq2 => ?_)
  have W2 := W1.puti pq2 t_a0 (show (-2147483648) ≤ i ∧ i ≤ 2147483647 by omega) rfl
  have F2 := F1.puti hX0 pq2 t_a0 rfl
  refine c_aload_n (j := 0) (x := a0) C dX1_init_14 rfl ?_
  refine c_bipush (z := 16) C dX1_init_15 (by decide) ?_
  refine c_newaI (z := 16) (N := 16) C 35 dX1_init_17 w1_57 rfl (by omega) (by omega) (rom2 hph hph (by decide)) (fun qn1 cln1 lnn1 ivn1 rvn1 hqn1 hcn1 hln1 hin1 hrn1 => ⟨32, (z_in (by omega)), ?_⟩)
  refine c_g0 C (fun hg1 => ?_)
  have hxn1 : ∀ b, b ≠ qn1 → lnn1 b = ln b := (fun b hb => by rw [hln1]; exact va_up_ne _ _ hb)
  have lqn1 : lnn1 qn1 = 16 := by rw [hln1]; exact va_up_self _ _ _
  have W3 := W2.new (ln2 := lnn1) hqn1 (hg1 qn1 (List.mem_append_right _ List.mem_cons_self)) hcn1 hxn1 hin1 hrn1 (fun _ => ⟨(show (-2147483648 : Int) ≤ 0 by decide), (show (0 : Int) ≤ 2147483647 by decide)⟩) (Or.inr (fun _ => rfl)) (fun _ => by show 16 ≤ lnn1 qn1 ∧ lnn1 qn1 ≤ 400; omega) rfl rfl
  have xl1 := XT.new hqn1 hcn1 hxn1
  have X1 := hX0.trans xl1
  have F3 := F2.new hX0 hqn1 hin1 hrn1
  have nw1 := nw0.new xl1 hcn1
  have tqn1 : ty (L ++ [qn1]) cln1 qn1 35 := ty_new hcn1
  have h0qn1 : qn1 ∉ L := fun h => hqn1 ((hX0 qn1 h).1)
  have ty1 := xl1.ty t_a0
  refine c_putr (x := (some qn1)) (k := 1) C ck_2 dX1_init_19 w1_39 (by decide) rfl ty1 rfl rfl (by decide) rfl (by rfl) (by rfl) (fun rv1 pq3 => ⟨32, (zp2 (Nat.le_refl _)), ?_⟩)
  have W4 := W3.putr pq3 ty1 (fun qr => by rw [ty1.2] at qr; cases qr) rfl (by decide)
  have F4 := F3.putr X1 pq3 ty1 rfl
  have rp1 : rv1 a0 1 = (some qn1) := by rw [pq3]; exact upr_s
  have rn1 : ∀ k, ([1] : List Nat).contains k = false → rv1 a0 k = rv a0 k := fun k hk => (Eq.trans (show rv1 a0 k = rvn1 a0 k from (by rw [pq3]; exact upr_j (fun e => by subst e; exact absurd hk (by decide)))) (show rvn1 a0 k = rv a0 k from (by rw [hrn1]; exact congrFun (up0_a (ne_in t_a0.1 hqn1)) _)))
  have ri1 : (-2147483648) ≤ ivn1 a0 0 ∧ ivn1 a0 0 ≤ 2147483647 := W4.int ty1 0
  have ie1 : ivn1 a0 0 = iv2 a0 0 := by rw [hin1]; exact congrFun (up0_a (ne_in t_a0.1 hqn1)) _
  have ie2 : iv2 a0 0 = i := by rw [pq2]; exact up2_s
  have ri2 : (-2147483648) ≤ ivn1 a0 2 ∧ ivn1 a0 2 ≤ 2147483647 := W4.int ty1 2
  have ie3 : ivn1 a0 2 = iv2 a0 2 := by rw [hin1]; exact congrFun (up0_a (ne_in t_a0.1 hqn1)) _
  have ie4 : iv2 a0 2 = iv1 a0 2 := by rw [pq2]; exact up2_j (by decide)
  have ie5 : iv1 a0 2 = 0 := by rw [pq1]; exact up2_s
  exact c_vret C dX1_init_22 rfl (by decide) (rom0 hph (Nat.le_refl 0) (by decide)) ⟨rfl, X1, F4, W4, ⟨qn1, rn1, rp1, tqn1, (by omega), (by omega), (by omega)⟩, nw1.sub (by decide)⟩
set_option maxHeartbeats 4000000 in
set_option maxRecDepth 100000 in
theorem Y_ints_6 {l : Launch} {G : GT} {mi : Nat} {sk : Nat → Nat} {L : List Nat} {cl ln : Nat → Nat} {iv : Nat → Nat → Int} {rv : Nat → Nat → Option Nat}  {a0 : Nat} {i : Int} (hW : WT (g0 G) sk L cl ln iv rv) (t_a0 : ty L cl a0 202) (h_i : -2147483648 ≤ i ∧ i ≤ 2147483647)  : Mc l G mi zPf 0 yX1_init cX1_init 2 none 1 [.ref a0, .int (iI i)] L cl ln iv rv 32 (fun v L2 cl2 ln2 iv2 rv2 => v = none ∧ XT L cl ln L2 cl2 ln2 ∧ fT [202] L cl iv rv iv2 rv2 ∧ WT (g0 G) sk L2 cl2 ln2 iv2 rv2 ∧ (∃ b, (∀ k, ([1] : List Nat).contains k = false → rv2 a0 k = rv a0 k) ∧ rv2 a0 1 = some b ∧ ty L2 cl2 b 36 ∧ ln2 b = 16 ∧ iv2 a0 0 = i ∧ iv2 a0 2 = 0) ∧ NW [36] L L2 cl2) := by
  refine Mc.mk (by decide) (Nat.le_of_ble_eq_true rfl) ?_
  intro p e s m args below meth c A C hM
  have hph := (show zPf ln rv ≤ 0 from Nat.le_refl 0)
  have nw0 : NW [] L L cl := NW.refl
  have hX0 : XT L cl ln L cl ln := XT.refl
  have hF0 : fT [202] L cl iv rv iv rv := fT.refl
  refine c_aload_n (j := 0) (x := a0) C dX1_init_0 rfl ?_
  refine c_objInit C dX1_init_1 w1_37 w1_30 w1_31 (by decide) (Nat.le_of_ble_eq_true rfl) ?_
  refine c_aload_n (j := 0) (x := a0) C dX1_init_4 rfl ?_
  refine c_iconst C dX1_init_5 ?_
  refine c_put (z := 0) (k := 2) C ck_2 dX1_init_6 w1_43 (by decide) rfl t_a0 rfl rfl (by decide) rfl (by rfl) (by rfl) (fun iv1 pq1 => ?_)
  have W1 := hW.puti pq1 t_a0 ⟨by decide, by decide⟩ rfl
  have F1 := hF0.puti hX0 pq1 t_a0 rfl
  refine c_aload_n (j := 0) (x := a0) C dX1_init_9 rfl ?_
  refine c_iload_n (j := 1) C dX1_init_10 rfl ?_
  refine c_putF (z := i) (k := 0) C ck_2 dX1_init_11 w1_38 (by decide) rfl rfl rfl t_a0 rfl rfl (by decide) rfl (by rfl) (by rfl) (fun iv2 pq2 => ?_)
  have W2 := W1.puti pq2 t_a0 (show (-2147483648) ≤ i ∧ i ≤ 2147483647 by omega) rfl
  have F2 := F1.puti hX0 pq2 t_a0 rfl
  refine c_aload_n (j := 0) (x := a0) C dX1_init_14 rfl ?_
  refine c_bipush (z := 16) C dX1_init_15 (by decide) ?_
  refine c_newaI (z := 16) (N := 16) C 36 dX1_init_17 w1_57 rfl (by omega) (by omega) (rom2 hph hph (by decide)) (fun qn1 cln1 lnn1 ivn1 rvn1 hqn1 hcn1 hln1 hin1 hrn1 => ⟨32, (z_in (by omega)), ?_⟩)
  refine c_g0 C (fun hg1 => ?_)
  have hxn1 : ∀ b, b ≠ qn1 → lnn1 b = ln b := (fun b hb => by rw [hln1]; exact va_up_ne _ _ hb)
  have lqn1 : lnn1 qn1 = 16 := by rw [hln1]; exact va_up_self _ _ _
  have W3 := W2.new (ln2 := lnn1) hqn1 (hg1 qn1 (List.mem_append_right _ List.mem_cons_self)) hcn1 hxn1 hin1 hrn1 (fun _ => ⟨(show (-2147483648 : Int) ≤ 0 by decide), (show (0 : Int) ≤ 2147483647 by decide)⟩) (Or.inr (fun _ => rfl)) (fun _ => by show 16 ≤ lnn1 qn1 ∧ lnn1 qn1 ≤ 12006; omega) rfl rfl
  have xl1 := XT.new hqn1 hcn1 hxn1
  have X1 := hX0.trans xl1
  have F3 := F2.new hX0 hqn1 hin1 hrn1
  have nw1 := nw0.new xl1 hcn1
  have tqn1 : ty (L ++ [qn1]) cln1 qn1 36 := ty_new hcn1
  have h0qn1 : qn1 ∉ L := fun h => hqn1 ((hX0 qn1 h).1)
  have ty1 := xl1.ty t_a0
  refine c_putr (x := (some qn1)) (k := 1) C ck_2 dX1_init_19 w1_39 (by decide) rfl ty1 rfl rfl (by decide) rfl (by rfl) (by rfl) (fun rv1 pq3 => ⟨32, (zp2 (Nat.le_refl _)), ?_⟩)
  have W4 := W3.putr pq3 ty1 (fun qr => by rw [ty1.2] at qr; cases qr) rfl (by decide)
  have F4 := F3.putr X1 pq3 ty1 rfl
  have rp1 : rv1 a0 1 = (some qn1) := by rw [pq3]; exact upr_s
  have rn1 : ∀ k, ([1] : List Nat).contains k = false → rv1 a0 k = rv a0 k := fun k hk => (Eq.trans (show rv1 a0 k = rvn1 a0 k from (by rw [pq3]; exact upr_j (fun e => by subst e; exact absurd hk (by decide)))) (show rvn1 a0 k = rv a0 k from (by rw [hrn1]; exact congrFun (up0_a (ne_in t_a0.1 hqn1)) _)))
  have ri1 : (-2147483648) ≤ ivn1 a0 0 ∧ ivn1 a0 0 ≤ 2147483647 := W4.int ty1 0
  have ie1 : ivn1 a0 0 = iv2 a0 0 := by rw [hin1]; exact congrFun (up0_a (ne_in t_a0.1 hqn1)) _
  have ie2 : iv2 a0 0 = i := by rw [pq2]; exact up2_s
  have ri2 : (-2147483648) ≤ ivn1 a0 2 ∧ ivn1 a0 2 ≤ 2147483647 := W4.int ty1 2
  have ie3 : ivn1 a0 2 = iv2 a0 2 := by rw [hin1]; exact congrFun (up0_a (ne_in t_a0.1 hqn1)) _
  have ie4 : iv2 a0 2 = iv1 a0 2 := by rw [pq2]; exact up2_j (by decide)
  have ie5 : iv1 a0 2 = 0 := by rw [pq1]; exact up2_s
  exact c_vret C dX1_init_22 rfl (by decide) (rom0 hph (Nat.le_refl 0) (by decide)) ⟨rfl, X1, F4, W4, ⟨qn1, rn1, rp1, tqn1, (by omega), (by omega), (by omega)⟩, nw1.sub (by decide)⟩
set_option maxHeartbeats 4000000 in
set_option maxRecDepth 100000 in
theorem Y_ints_7 {l : Launch} {G : GT} {mi : Nat} {sk : Nat → Nat} {L : List Nat} {cl ln : Nat → Nat} {iv : Nat → Nat → Int} {rv : Nat → Nat → Option Nat}  {a0 : Nat} {i : Int} (hW : WT (g0 G) sk L cl ln iv rv) (t_a0 : ty L cl a0 202) (h_i : -2147483648 ≤ i ∧ i ≤ 2147483647)  : Mc l G mi zPf 0 yX1_init cX1_init 2 none 1 [.ref a0, .int (iI i)] L cl ln iv rv 32 (fun v L2 cl2 ln2 iv2 rv2 => v = none ∧ XT L cl ln L2 cl2 ln2 ∧ fT [202] L cl iv rv iv2 rv2 ∧ WT (g0 G) sk L2 cl2 ln2 iv2 rv2 ∧ (∃ b, (∀ k, ([1] : List Nat).contains k = false → rv2 a0 k = rv a0 k) ∧ rv2 a0 1 = some b ∧ ty L2 cl2 b 37 ∧ ln2 b = 16 ∧ iv2 a0 0 = i ∧ iv2 a0 2 = 0) ∧ NW [37] L L2 cl2) := by
  refine Mc.mk (by decide) (Nat.le_of_ble_eq_true rfl) ?_
  intro p e s m args below meth c A C hM
  have hph := (show zPf ln rv ≤ 0 from Nat.le_refl 0)
  have nw0 : NW [] L L cl := NW.refl
  have hX0 : XT L cl ln L cl ln := XT.refl
  have hF0 : fT [202] L cl iv rv iv rv := fT.refl
  refine c_aload_n (j := 0) (x := a0) C dX1_init_0 rfl ?_
  refine c_objInit C dX1_init_1 w1_37 w1_30 w1_31 (by decide) (Nat.le_of_ble_eq_true rfl) ?_
  refine c_aload_n (j := 0) (x := a0) C dX1_init_4 rfl ?_
  refine c_iconst C dX1_init_5 ?_
  refine c_put (z := 0) (k := 2) C ck_2 dX1_init_6 w1_43 (by decide) rfl t_a0 rfl rfl (by decide) rfl (by rfl) (by rfl) (fun iv1 pq1 => ?_)
  have W1 := hW.puti pq1 t_a0 ⟨by decide, by decide⟩ rfl
  have F1 := hF0.puti hX0 pq1 t_a0 rfl
  refine c_aload_n (j := 0) (x := a0) C dX1_init_9 rfl ?_
  refine c_iload_n (j := 1) C dX1_init_10 rfl ?_
  refine c_putF (z := i) (k := 0) C ck_2 dX1_init_11 w1_38 (by decide) rfl rfl rfl t_a0 rfl rfl (by decide) rfl (by rfl) (by rfl) (fun iv2 pq2 => ?_)
  have W2 := W1.puti pq2 t_a0 (show (-2147483648) ≤ i ∧ i ≤ 2147483647 by omega) rfl
  have F2 := F1.puti hX0 pq2 t_a0 rfl
  refine c_aload_n (j := 0) (x := a0) C dX1_init_14 rfl ?_
  refine c_bipush (z := 16) C dX1_init_15 (by decide) ?_
  refine c_newaI (z := 16) (N := 16) C 37 dX1_init_17 w1_57 rfl (by omega) (by omega) (rom2 hph hph (by decide)) (fun qn1 cln1 lnn1 ivn1 rvn1 hqn1 hcn1 hln1 hin1 hrn1 => ⟨32, (z_in (by omega)), ?_⟩)
  refine c_g0 C (fun hg1 => ?_)
  have hxn1 : ∀ b, b ≠ qn1 → lnn1 b = ln b := (fun b hb => by rw [hln1]; exact va_up_ne _ _ hb)
  have lqn1 : lnn1 qn1 = 16 := by rw [hln1]; exact va_up_self _ _ _
  have W3 := W2.new (ln2 := lnn1) hqn1 (hg1 qn1 (List.mem_append_right _ List.mem_cons_self)) hcn1 hxn1 hin1 hrn1 (fun _ => ⟨(show (-2147483648 : Int) ≤ 0 by decide), (show (0 : Int) ≤ 2147483647 by decide)⟩) (Or.inr (fun _ => rfl)) (fun _ => by show 16 ≤ lnn1 qn1 ∧ lnn1 qn1 ≤ 12006; omega) rfl rfl
  have xl1 := XT.new hqn1 hcn1 hxn1
  have X1 := hX0.trans xl1
  have F3 := F2.new hX0 hqn1 hin1 hrn1
  have nw1 := nw0.new xl1 hcn1
  have tqn1 : ty (L ++ [qn1]) cln1 qn1 37 := ty_new hcn1
  have h0qn1 : qn1 ∉ L := fun h => hqn1 ((hX0 qn1 h).1)
  have ty1 := xl1.ty t_a0
  refine c_putr (x := (some qn1)) (k := 1) C ck_2 dX1_init_19 w1_39 (by decide) rfl ty1 rfl rfl (by decide) rfl (by rfl) (by rfl) (fun rv1 pq3 => ⟨32, (zp2 (Nat.le_refl _)), ?_⟩)
  have W4 := W3.putr pq3 ty1 (fun qr => by rw [ty1.2] at qr; cases qr) rfl (by decide)
  have F4 := F3.putr X1 pq3 ty1 rfl
  have rp1 : rv1 a0 1 = (some qn1) := by rw [pq3]; exact upr_s
  have rn1 : ∀ k, ([1] : List Nat).contains k = false → rv1 a0 k = rv a0 k := fun k hk => (Eq.trans (show rv1 a0 k = rvn1 a0 k from (by rw [pq3]; exact upr_j (fun e => by subst e; exact absurd hk (by decide)))) (show rvn1 a0 k = rv a0 k from (by rw [hrn1]; exact congrFun (up0_a (ne_in t_a0.1 hqn1)) _)))
  have ri1 : (-2147483648) ≤ ivn1 a0 0 ∧ ivn1 a0 0 ≤ 2147483647 := W4.int ty1 0
  have ie1 : ivn1 a0 0 = iv2 a0 0 := by rw [hin1]; exact congrFun (up0_a (ne_in t_a0.1 hqn1)) _
  have ie2 : iv2 a0 0 = i := by rw [pq2]; exact up2_s
  have ri2 : (-2147483648) ≤ ivn1 a0 2 ∧ ivn1 a0 2 ≤ 2147483647 := W4.int ty1 2
  have ie3 : ivn1 a0 2 = iv2 a0 2 := by rw [hin1]; exact congrFun (up0_a (ne_in t_a0.1 hqn1)) _
  have ie4 : iv2 a0 2 = iv1 a0 2 := by rw [pq2]; exact up2_j (by decide)
  have ie5 : iv1 a0 2 = 0 := by rw [pq1]; exact up2_s
  exact c_vret C dX1_init_22 rfl (by decide) (rom0 hph (Nat.le_refl 0) (by decide)) ⟨rfl, X1, F4, W4, ⟨qn1, rn1, rp1, tqn1, (by omega), (by omega), (by omega)⟩, nw1.sub (by decide)⟩
set_option maxHeartbeats 4000000 in
set_option maxRecDepth 100000 in
theorem Y_ints_8 {l : Launch} {G : GT} {mi : Nat} {sk : Nat → Nat} {L : List Nat} {cl ln : Nat → Nat} {iv : Nat → Nat → Int} {rv : Nat → Nat → Option Nat}  {a0 : Nat} {i : Int} (hW : WT (g0 G) sk L cl ln iv rv) (t_a0 : ty L cl a0 202) (h_i : -2147483648 ≤ i ∧ i ≤ 2147483647)  : Mc l G mi zPf 0 yX1_init cX1_init 2 none 1 [.ref a0, .int (iI i)] L cl ln iv rv 32 (fun v L2 cl2 ln2 iv2 rv2 => v = none ∧ XT L cl ln L2 cl2 ln2 ∧ fT [202] L cl iv rv iv2 rv2 ∧ WT (g0 G) sk L2 cl2 ln2 iv2 rv2 ∧ (∃ b, (∀ k, ([1] : List Nat).contains k = false → rv2 a0 k = rv a0 k) ∧ rv2 a0 1 = some b ∧ ty L2 cl2 b 38 ∧ ln2 b = 16 ∧ iv2 a0 0 = i ∧ iv2 a0 2 = 0) ∧ NW [38] L L2 cl2) := by
  refine Mc.mk (by decide) (Nat.le_of_ble_eq_true rfl) ?_
  intro p e s m args below meth c A C hM
  have hph := (show zPf ln rv ≤ 0 from Nat.le_refl 0)
  have nw0 : NW [] L L cl := NW.refl
  have hX0 : XT L cl ln L cl ln := XT.refl
  have hF0 : fT [202] L cl iv rv iv rv := fT.refl
  refine c_aload_n (j := 0) (x := a0) C dX1_init_0 rfl ?_
  refine c_objInit C dX1_init_1 w1_37 w1_30 w1_31 (by decide) (Nat.le_of_ble_eq_true rfl) ?_
  refine c_aload_n (j := 0) (x := a0) C dX1_init_4 rfl ?_
  refine c_iconst C dX1_init_5 ?_
  refine c_put (z := 0) (k := 2) C ck_2 dX1_init_6 w1_43 (by decide) rfl t_a0 rfl rfl (by decide) rfl (by rfl) (by rfl) (fun iv1 pq1 => ?_)
  have W1 := hW.puti pq1 t_a0 ⟨by decide, by decide⟩ rfl
  have F1 := hF0.puti hX0 pq1 t_a0 rfl
  refine c_aload_n (j := 0) (x := a0) C dX1_init_9 rfl ?_
  refine c_iload_n (j := 1) C dX1_init_10 rfl ?_
  refine c_putF (z := i) (k := 0) C ck_2 dX1_init_11 w1_38 (by decide) rfl rfl rfl t_a0 rfl rfl (by decide) rfl (by rfl) (by rfl) (fun iv2 pq2 => ?_)
  have W2 := W1.puti pq2 t_a0 (show (-2147483648) ≤ i ∧ i ≤ 2147483647 by omega) rfl
  have F2 := F1.puti hX0 pq2 t_a0 rfl
  refine c_aload_n (j := 0) (x := a0) C dX1_init_14 rfl ?_
  refine c_bipush (z := 16) C dX1_init_15 (by decide) ?_
  refine c_newaI (z := 16) (N := 16) C 38 dX1_init_17 w1_57 rfl (by omega) (by omega) (rom2 hph hph (by decide)) (fun qn1 cln1 lnn1 ivn1 rvn1 hqn1 hcn1 hln1 hin1 hrn1 => ⟨32, (z_in (by omega)), ?_⟩)
  refine c_g0 C (fun hg1 => ?_)
  have hxn1 : ∀ b, b ≠ qn1 → lnn1 b = ln b := (fun b hb => by rw [hln1]; exact va_up_ne _ _ hb)
  have lqn1 : lnn1 qn1 = 16 := by rw [hln1]; exact va_up_self _ _ _
  have W3 := W2.new (ln2 := lnn1) hqn1 (hg1 qn1 (List.mem_append_right _ List.mem_cons_self)) hcn1 hxn1 hin1 hrn1 (fun _ => ⟨(show (-2147483648 : Int) ≤ 0 by decide), (show (0 : Int) ≤ 2147483647 by decide)⟩) (Or.inr (fun _ => rfl)) (fun _ => by show 16 ≤ lnn1 qn1 ∧ lnn1 qn1 ≤ 80400; omega) rfl rfl
  have xl1 := XT.new hqn1 hcn1 hxn1
  have X1 := hX0.trans xl1
  have F3 := F2.new hX0 hqn1 hin1 hrn1
  have nw1 := nw0.new xl1 hcn1
  have tqn1 : ty (L ++ [qn1]) cln1 qn1 38 := ty_new hcn1
  have h0qn1 : qn1 ∉ L := fun h => hqn1 ((hX0 qn1 h).1)
  have ty1 := xl1.ty t_a0
  refine c_putr (x := (some qn1)) (k := 1) C ck_2 dX1_init_19 w1_39 (by decide) rfl ty1 rfl rfl (by decide) rfl (by rfl) (by rfl) (fun rv1 pq3 => ⟨32, (zp2 (Nat.le_refl _)), ?_⟩)
  have W4 := W3.putr pq3 ty1 (fun qr => by rw [ty1.2] at qr; cases qr) rfl (by decide)
  have F4 := F3.putr X1 pq3 ty1 rfl
  have rp1 : rv1 a0 1 = (some qn1) := by rw [pq3]; exact upr_s
  have rn1 : ∀ k, ([1] : List Nat).contains k = false → rv1 a0 k = rv a0 k := fun k hk => (Eq.trans (show rv1 a0 k = rvn1 a0 k from (by rw [pq3]; exact upr_j (fun e => by subst e; exact absurd hk (by decide)))) (show rvn1 a0 k = rv a0 k from (by rw [hrn1]; exact congrFun (up0_a (ne_in t_a0.1 hqn1)) _)))
  have ri1 : (-2147483648) ≤ ivn1 a0 0 ∧ ivn1 a0 0 ≤ 2147483647 := W4.int ty1 0
  have ie1 : ivn1 a0 0 = iv2 a0 0 := by rw [hin1]; exact congrFun (up0_a (ne_in t_a0.1 hqn1)) _
  have ie2 : iv2 a0 0 = i := by rw [pq2]; exact up2_s
  have ri2 : (-2147483648) ≤ ivn1 a0 2 ∧ ivn1 a0 2 ≤ 2147483647 := W4.int ty1 2
  have ie3 : ivn1 a0 2 = iv2 a0 2 := by rw [hin1]; exact congrFun (up0_a (ne_in t_a0.1 hqn1)) _
  have ie4 : iv2 a0 2 = iv1 a0 2 := by rw [pq2]; exact up2_j (by decide)
  have ie5 : iv1 a0 2 = 0 := by rw [pq1]; exact up2_s
  exact c_vret C dX1_init_22 rfl (by decide) (rom0 hph (Nat.le_refl 0) (by decide)) ⟨rfl, X1, F4, W4, ⟨qn1, rn1, rp1, tqn1, (by omega), (by omega), (by omega)⟩, nw1.sub (by decide)⟩
set_option maxHeartbeats 4000000 in
set_option maxRecDepth 100000 in
theorem Y_ints_9 {l : Launch} {G : GT} {mi : Nat} {sk : Nat → Nat} {L : List Nat} {cl ln : Nat → Nat} {iv : Nat → Nat → Int} {rv : Nat → Nat → Option Nat}  {a0 : Nat} {i : Int} (hW : WT (g0 G) sk L cl ln iv rv) (t_a0 : ty L cl a0 202) (h_i : -2147483648 ≤ i ∧ i ≤ 2147483647)  : Mc l G mi zPf 0 yX1_init cX1_init 2 none 1 [.ref a0, .int (iI i)] L cl ln iv rv 32 (fun v L2 cl2 ln2 iv2 rv2 => v = none ∧ XT L cl ln L2 cl2 ln2 ∧ fT [202] L cl iv rv iv2 rv2 ∧ WT (g0 G) sk L2 cl2 ln2 iv2 rv2 ∧ (∃ b, (∀ k, ([1] : List Nat).contains k = false → rv2 a0 k = rv a0 k) ∧ rv2 a0 1 = some b ∧ ty L2 cl2 b 39 ∧ ln2 b = 16 ∧ iv2 a0 0 = i ∧ iv2 a0 2 = 0) ∧ NW [39] L L2 cl2) := by
  refine Mc.mk (by decide) (Nat.le_of_ble_eq_true rfl) ?_
  intro p e s m args below meth c A C hM
  have hph := (show zPf ln rv ≤ 0 from Nat.le_refl 0)
  have nw0 : NW [] L L cl := NW.refl
  have hX0 : XT L cl ln L cl ln := XT.refl
  have hF0 : fT [202] L cl iv rv iv rv := fT.refl
  refine c_aload_n (j := 0) (x := a0) C dX1_init_0 rfl ?_
  refine c_objInit C dX1_init_1 w1_37 w1_30 w1_31 (by decide) (Nat.le_of_ble_eq_true rfl) ?_
  refine c_aload_n (j := 0) (x := a0) C dX1_init_4 rfl ?_
  refine c_iconst C dX1_init_5 ?_
  refine c_put (z := 0) (k := 2) C ck_2 dX1_init_6 w1_43 (by decide) rfl t_a0 rfl rfl (by decide) rfl (by rfl) (by rfl) (fun iv1 pq1 => ?_)
  have W1 := hW.puti pq1 t_a0 ⟨by decide, by decide⟩ rfl
  have F1 := hF0.puti hX0 pq1 t_a0 rfl
  refine c_aload_n (j := 0) (x := a0) C dX1_init_9 rfl ?_
  refine c_iload_n (j := 1) C dX1_init_10 rfl ?_
  refine c_putF (z := i) (k := 0) C ck_2 dX1_init_11 w1_38 (by decide) rfl rfl rfl t_a0 rfl rfl (by decide) rfl (by rfl) (by rfl) (fun iv2 pq2 => ?_)
  have W2 := W1.puti pq2 t_a0 (show (-2147483648) ≤ i ∧ i ≤ 2147483647 by omega) rfl
  have F2 := F1.puti hX0 pq2 t_a0 rfl
  refine c_aload_n (j := 0) (x := a0) C dX1_init_14 rfl ?_
  refine c_bipush (z := 16) C dX1_init_15 (by decide) ?_
  refine c_newaI (z := 16) (N := 16) C 39 dX1_init_17 w1_57 rfl (by omega) (by omega) (rom2 hph hph (by decide)) (fun qn1 cln1 lnn1 ivn1 rvn1 hqn1 hcn1 hln1 hin1 hrn1 => ⟨32, (z_in (by omega)), ?_⟩)
  refine c_g0 C (fun hg1 => ?_)
  have hxn1 : ∀ b, b ≠ qn1 → lnn1 b = ln b := (fun b hb => by rw [hln1]; exact va_up_ne _ _ hb)
  have lqn1 : lnn1 qn1 = 16 := by rw [hln1]; exact va_up_self _ _ _
  have W3 := W2.new (ln2 := lnn1) hqn1 (hg1 qn1 (List.mem_append_right _ List.mem_cons_self)) hcn1 hxn1 hin1 hrn1 (fun _ => ⟨(show (-2147483648 : Int) ≤ 0 by decide), (show (0 : Int) ≤ 2147483647 by decide)⟩) (Or.inr (fun _ => rfl)) (fun _ => by show 16 ≤ lnn1 qn1 ∧ lnn1 qn1 ≤ 80400; omega) rfl rfl
  have xl1 := XT.new hqn1 hcn1 hxn1
  have X1 := hX0.trans xl1
  have F3 := F2.new hX0 hqn1 hin1 hrn1
  have nw1 := nw0.new xl1 hcn1
  have tqn1 : ty (L ++ [qn1]) cln1 qn1 39 := ty_new hcn1
  have h0qn1 : qn1 ∉ L := fun h => hqn1 ((hX0 qn1 h).1)
  have ty1 := xl1.ty t_a0
  refine c_putr (x := (some qn1)) (k := 1) C ck_2 dX1_init_19 w1_39 (by decide) rfl ty1 rfl rfl (by decide) rfl (by rfl) (by rfl) (fun rv1 pq3 => ⟨32, (zp2 (Nat.le_refl _)), ?_⟩)
  have W4 := W3.putr pq3 ty1 (fun qr => by rw [ty1.2] at qr; cases qr) rfl (by decide)
  have F4 := F3.putr X1 pq3 ty1 rfl
  have rp1 : rv1 a0 1 = (some qn1) := by rw [pq3]; exact upr_s
  have rn1 : ∀ k, ([1] : List Nat).contains k = false → rv1 a0 k = rv a0 k := fun k hk => (Eq.trans (show rv1 a0 k = rvn1 a0 k from (by rw [pq3]; exact upr_j (fun e => by subst e; exact absurd hk (by decide)))) (show rvn1 a0 k = rv a0 k from (by rw [hrn1]; exact congrFun (up0_a (ne_in t_a0.1 hqn1)) _)))
  have ri1 : (-2147483648) ≤ ivn1 a0 0 ∧ ivn1 a0 0 ≤ 2147483647 := W4.int ty1 0
  have ie1 : ivn1 a0 0 = iv2 a0 0 := by rw [hin1]; exact congrFun (up0_a (ne_in t_a0.1 hqn1)) _
  have ie2 : iv2 a0 0 = i := by rw [pq2]; exact up2_s
  have ri2 : (-2147483648) ≤ ivn1 a0 2 ∧ ivn1 a0 2 ≤ 2147483647 := W4.int ty1 2
  have ie3 : ivn1 a0 2 = iv2 a0 2 := by rw [hin1]; exact congrFun (up0_a (ne_in t_a0.1 hqn1)) _
  have ie4 : iv2 a0 2 = iv1 a0 2 := by rw [pq2]; exact up2_j (by decide)
  have ie5 : iv1 a0 2 = 0 := by rw [pq1]; exact up2_s
  exact c_vret C dX1_init_22 rfl (by decide) (rom0 hph (Nat.le_refl 0) (by decide)) ⟨rfl, X1, F4, W4, ⟨qn1, rn1, rp1, tqn1, (by omega), (by omega), (by omega)⟩, nw1.sub (by decide)⟩
set_option maxHeartbeats 4000000 in
set_option maxRecDepth 100000 in
theorem Y_ints_10 {l : Launch} {G : GT} {mi : Nat} {sk : Nat → Nat} {L : List Nat} {cl ln : Nat → Nat} {iv : Nat → Nat → Int} {rv : Nat → Nat → Option Nat}  {a0 : Nat} {i : Int} (hW : WT (g0 G) sk L cl ln iv rv) (t_a0 : ty L cl a0 202) (h_i : -2147483648 ≤ i ∧ i ≤ 2147483647)  : Mc l G mi zPf 0 yX1_init cX1_init 2 none 1 [.ref a0, .int (iI i)] L cl ln iv rv 32 (fun v L2 cl2 ln2 iv2 rv2 => v = none ∧ XT L cl ln L2 cl2 ln2 ∧ fT [202] L cl iv rv iv2 rv2 ∧ WT (g0 G) sk L2 cl2 ln2 iv2 rv2 ∧ (∃ b, (∀ k, ([1] : List Nat).contains k = false → rv2 a0 k = rv a0 k) ∧ rv2 a0 1 = some b ∧ ty L2 cl2 b 40 ∧ ln2 b = 16 ∧ iv2 a0 0 = i ∧ iv2 a0 2 = 0) ∧ NW [40] L L2 cl2) := by
  refine Mc.mk (by decide) (Nat.le_of_ble_eq_true rfl) ?_
  intro p e s m args below meth c A C hM
  have hph := (show zPf ln rv ≤ 0 from Nat.le_refl 0)
  have nw0 : NW [] L L cl := NW.refl
  have hX0 : XT L cl ln L cl ln := XT.refl
  have hF0 : fT [202] L cl iv rv iv rv := fT.refl
  refine c_aload_n (j := 0) (x := a0) C dX1_init_0 rfl ?_
  refine c_objInit C dX1_init_1 w1_37 w1_30 w1_31 (by decide) (Nat.le_of_ble_eq_true rfl) ?_
  refine c_aload_n (j := 0) (x := a0) C dX1_init_4 rfl ?_
  refine c_iconst C dX1_init_5 ?_
  refine c_put (z := 0) (k := 2) C ck_2 dX1_init_6 w1_43 (by decide) rfl t_a0 rfl rfl (by decide) rfl (by rfl) (by rfl) (fun iv1 pq1 => ?_)
  have W1 := hW.puti pq1 t_a0 ⟨by decide, by decide⟩ rfl
  have F1 := hF0.puti hX0 pq1 t_a0 rfl
  refine c_aload_n (j := 0) (x := a0) C dX1_init_9 rfl ?_
  refine c_iload_n (j := 1) C dX1_init_10 rfl ?_
  refine c_putF (z := i) (k := 0) C ck_2 dX1_init_11 w1_38 (by decide) rfl rfl rfl t_a0 rfl rfl (by decide) rfl (by rfl) (by rfl) (fun iv2 pq2 => ?_)
  have W2 := W1.puti pq2 t_a0 (show (-2147483648) ≤ i ∧ i ≤ 2147483647 by omega) rfl
  have F2 := F1.puti hX0 pq2 t_a0 rfl
  refine c_aload_n (j := 0) (x := a0) C dX1_init_14 rfl ?_
  refine c_bipush (z := 16) C dX1_init_15 (by decide) ?_
  refine c_newaI (z := 16) (N := 16) C 40 dX1_init_17 w1_57 rfl (by omega) (by omega) (rom2 hph hph (by decide)) (fun qn1 cln1 lnn1 ivn1 rvn1 hqn1 hcn1 hln1 hin1 hrn1 => ⟨32, (z_in (by omega)), ?_⟩)
  refine c_g0 C (fun hg1 => ?_)
  have hxn1 : ∀ b, b ≠ qn1 → lnn1 b = ln b := (fun b hb => by rw [hln1]; exact va_up_ne _ _ hb)
  have lqn1 : lnn1 qn1 = 16 := by rw [hln1]; exact va_up_self _ _ _
  have W3 := W2.new (ln2 := lnn1) hqn1 (hg1 qn1 (List.mem_append_right _ List.mem_cons_self)) hcn1 hxn1 hin1 hrn1 (fun _ => ⟨(show (-2147483648 : Int) ≤ 0 by decide), (show (0 : Int) ≤ 2147483647 by decide)⟩) (Or.inr (fun _ => rfl)) (fun _ => by show 16 ≤ lnn1 qn1 ∧ lnn1 qn1 ≤ 8002; omega) rfl rfl
  have xl1 := XT.new hqn1 hcn1 hxn1
  have X1 := hX0.trans xl1
  have F3 := F2.new hX0 hqn1 hin1 hrn1
  have nw1 := nw0.new xl1 hcn1
  have tqn1 : ty (L ++ [qn1]) cln1 qn1 40 := ty_new hcn1
  have h0qn1 : qn1 ∉ L := fun h => hqn1 ((hX0 qn1 h).1)
  have ty1 := xl1.ty t_a0
  refine c_putr (x := (some qn1)) (k := 1) C ck_2 dX1_init_19 w1_39 (by decide) rfl ty1 rfl rfl (by decide) rfl (by rfl) (by rfl) (fun rv1 pq3 => ⟨32, (zp2 (Nat.le_refl _)), ?_⟩)
  have W4 := W3.putr pq3 ty1 (fun qr => by rw [ty1.2] at qr; cases qr) rfl (by decide)
  have F4 := F3.putr X1 pq3 ty1 rfl
  have rp1 : rv1 a0 1 = (some qn1) := by rw [pq3]; exact upr_s
  have rn1 : ∀ k, ([1] : List Nat).contains k = false → rv1 a0 k = rv a0 k := fun k hk => (Eq.trans (show rv1 a0 k = rvn1 a0 k from (by rw [pq3]; exact upr_j (fun e => by subst e; exact absurd hk (by decide)))) (show rvn1 a0 k = rv a0 k from (by rw [hrn1]; exact congrFun (up0_a (ne_in t_a0.1 hqn1)) _)))
  have ri1 : (-2147483648) ≤ ivn1 a0 0 ∧ ivn1 a0 0 ≤ 2147483647 := W4.int ty1 0
  have ie1 : ivn1 a0 0 = iv2 a0 0 := by rw [hin1]; exact congrFun (up0_a (ne_in t_a0.1 hqn1)) _
  have ie2 : iv2 a0 0 = i := by rw [pq2]; exact up2_s
  have ri2 : (-2147483648) ≤ ivn1 a0 2 ∧ ivn1 a0 2 ≤ 2147483647 := W4.int ty1 2
  have ie3 : ivn1 a0 2 = iv2 a0 2 := by rw [hin1]; exact congrFun (up0_a (ne_in t_a0.1 hqn1)) _
  have ie4 : iv2 a0 2 = iv1 a0 2 := by rw [pq2]; exact up2_j (by decide)
  have ie5 : iv1 a0 2 = 0 := by rw [pq1]; exact up2_s
  exact c_vret C dX1_init_22 rfl (by decide) (rom0 hph (Nat.le_refl 0) (by decide)) ⟨rfl, X1, F4, W4, ⟨qn1, rn1, rp1, tqn1, (by omega), (by omega), (by omega)⟩, nw1.sub (by decide)⟩
set_option maxHeartbeats 4000000 in
set_option maxRecDepth 100000 in
theorem Y_ints_11 {l : Launch} {G : GT} {mi : Nat} {sk : Nat → Nat} {L : List Nat} {cl ln : Nat → Nat} {iv : Nat → Nat → Int} {rv : Nat → Nat → Option Nat}  {a0 : Nat} {i : Int} (hW : WT (g0 G) sk L cl ln iv rv) (t_a0 : ty L cl a0 202) (h_i : -2147483648 ≤ i ∧ i ≤ 2147483647)  : Mc l G mi zPf 0 yX1_init cX1_init 2 none 1 [.ref a0, .int (iI i)] L cl ln iv rv 32 (fun v L2 cl2 ln2 iv2 rv2 => v = none ∧ XT L cl ln L2 cl2 ln2 ∧ fT [202] L cl iv rv iv2 rv2 ∧ WT (g0 G) sk L2 cl2 ln2 iv2 rv2 ∧ (∃ b, (∀ k, ([1] : List Nat).contains k = false → rv2 a0 k = rv a0 k) ∧ rv2 a0 1 = some b ∧ ty L2 cl2 b 41 ∧ ln2 b = 16 ∧ iv2 a0 0 = i ∧ iv2 a0 2 = 0) ∧ NW [41] L L2 cl2) := by
  refine Mc.mk (by decide) (Nat.le_of_ble_eq_true rfl) ?_
  intro p e s m args below meth c A C hM
  have hph := (show zPf ln rv ≤ 0 from Nat.le_refl 0)
  have nw0 : NW [] L L cl := NW.refl
  have hX0 : XT L cl ln L cl ln := XT.refl
  have hF0 : fT [202] L cl iv rv iv rv := fT.refl
  refine c_aload_n (j := 0) (x := a0) C dX1_init_0 rfl ?_
  refine c_objInit C dX1_init_1 w1_37 w1_30 w1_31 (by decide) (Nat.le_of_ble_eq_true rfl) ?_
  refine c_aload_n (j := 0) (x := a0) C dX1_init_4 rfl ?_
  refine c_iconst C dX1_init_5 ?_
  refine c_put (z := 0) (k := 2) C ck_2 dX1_init_6 w1_43 (by decide) rfl t_a0 rfl rfl (by decide) rfl (by rfl) (by rfl) (fun iv1 pq1 => ?_)
  have W1 := hW.puti pq1 t_a0 ⟨by decide, by decide⟩ rfl
  have F1 := hF0.puti hX0 pq1 t_a0 rfl
  refine c_aload_n (j := 0) (x := a0) C dX1_init_9 rfl ?_
  refine c_iload_n (j := 1) C dX1_init_10 rfl ?_
  refine c_putF (z := i) (k := 0) C ck_2 dX1_init_11 w1_38 (by decide) rfl rfl rfl t_a0 rfl rfl (by decide) rfl (by rfl) (by rfl) (fun iv2 pq2 => ?_)
  have W2 := W1.puti pq2 t_a0 (show (-2147483648) ≤ i ∧ i ≤ 2147483647 by omega) rfl
  have F2 := F1.puti hX0 pq2 t_a0 rfl
  refine c_aload_n (j := 0) (x := a0) C dX1_init_14 rfl ?_
  refine c_bipush (z := 16) C dX1_init_15 (by decide) ?_
  refine c_newaI (z := 16) (N := 16) C 41 dX1_init_17 w1_57 rfl (by omega) (by omega) (rom2 hph hph (by decide)) (fun qn1 cln1 lnn1 ivn1 rvn1 hqn1 hcn1 hln1 hin1 hrn1 => ⟨32, (z_in (by omega)), ?_⟩)
  refine c_g0 C (fun hg1 => ?_)
  have hxn1 : ∀ b, b ≠ qn1 → lnn1 b = ln b := (fun b hb => by rw [hln1]; exact va_up_ne _ _ hb)
  have lqn1 : lnn1 qn1 = 16 := by rw [hln1]; exact va_up_self _ _ _
  have W3 := W2.new (ln2 := lnn1) hqn1 (hg1 qn1 (List.mem_append_right _ List.mem_cons_self)) hcn1 hxn1 hin1 hrn1 (fun _ => ⟨(show (-2147483648 : Int) ≤ 0 by decide), (show (0 : Int) ≤ 2147483647 by decide)⟩) (Or.inr (fun _ => rfl)) (fun _ => by show 16 ≤ lnn1 qn1 ∧ lnn1 qn1 ≤ 80000; omega) rfl rfl
  have xl1 := XT.new hqn1 hcn1 hxn1
  have X1 := hX0.trans xl1
  have F3 := F2.new hX0 hqn1 hin1 hrn1
  have nw1 := nw0.new xl1 hcn1
  have tqn1 : ty (L ++ [qn1]) cln1 qn1 41 := ty_new hcn1
  have h0qn1 : qn1 ∉ L := fun h => hqn1 ((hX0 qn1 h).1)
  have ty1 := xl1.ty t_a0
  refine c_putr (x := (some qn1)) (k := 1) C ck_2 dX1_init_19 w1_39 (by decide) rfl ty1 rfl rfl (by decide) rfl (by rfl) (by rfl) (fun rv1 pq3 => ⟨32, (zp2 (Nat.le_refl _)), ?_⟩)
  have W4 := W3.putr pq3 ty1 (fun qr => by rw [ty1.2] at qr; cases qr) rfl (by decide)
  have F4 := F3.putr X1 pq3 ty1 rfl
  have rp1 : rv1 a0 1 = (some qn1) := by rw [pq3]; exact upr_s
  have rn1 : ∀ k, ([1] : List Nat).contains k = false → rv1 a0 k = rv a0 k := fun k hk => (Eq.trans (show rv1 a0 k = rvn1 a0 k from (by rw [pq3]; exact upr_j (fun e => by subst e; exact absurd hk (by decide)))) (show rvn1 a0 k = rv a0 k from (by rw [hrn1]; exact congrFun (up0_a (ne_in t_a0.1 hqn1)) _)))
  have ri1 : (-2147483648) ≤ ivn1 a0 0 ∧ ivn1 a0 0 ≤ 2147483647 := W4.int ty1 0
  have ie1 : ivn1 a0 0 = iv2 a0 0 := by rw [hin1]; exact congrFun (up0_a (ne_in t_a0.1 hqn1)) _
  have ie2 : iv2 a0 0 = i := by rw [pq2]; exact up2_s
  have ri2 : (-2147483648) ≤ ivn1 a0 2 ∧ ivn1 a0 2 ≤ 2147483647 := W4.int ty1 2
  have ie3 : ivn1 a0 2 = iv2 a0 2 := by rw [hin1]; exact congrFun (up0_a (ne_in t_a0.1 hqn1)) _
  have ie4 : iv2 a0 2 = iv1 a0 2 := by rw [pq2]; exact up2_j (by decide)
  have ie5 : iv1 a0 2 = 0 := by rw [pq1]; exact up2_s
  exact c_vret C dX1_init_22 rfl (by decide) (rom0 hph (Nat.le_refl 0) (by decide)) ⟨rfl, X1, F4, W4, ⟨qn1, rn1, rp1, tqn1, (by omega), (by omega), (by omega)⟩, nw1.sub (by decide)⟩
set_option maxHeartbeats 4000000 in
set_option maxRecDepth 100000 in
theorem Y_source {l : Launch} {G : GT} {mi : Nat} {sk : Nat → Nat} {L : List Nat} {cl ln : Nat → Nat} {iv : Nat → Nat → Int} {rv : Nat → Nat → Option Nat}  {a0 : Nat} (hW : WT (g0 G) sk L cl ln iv rv) (t_a0 : ty L cl a0 209)  : Mc l G mi zPf 0 yX8_init cX8_init 1 none 1 [.ref a0] L cl ln iv rv 306 (fun v L2 cl2 ln2 iv2 rv2 => v = none ∧ XT L cl ln L2 cl2 ln2 ∧ fT [209] L cl iv rv iv2 rv2 ∧ WT (g0 G) sk L2 cl2 ln2 iv2 rv2 ∧ (∃ b3 b4 b6, (∀ k, ([3, 4, 6] : List Nat).contains k = false → rv2 a0 k = rv a0 k) ∧ rv2 a0 3 = some b3 ∧ ty L2 cl2 b3 56 ∧ rv2 a0 4 = some b4 ∧ ty L2 cl2 b4 57 ∧ rv2 a0 6 = some b6 ∧ ty L2 cl2 b6 58 ∧ iv2 a0 0 = 0 ∧ iv2 a0 1 = 0 ∧ iv2 a0 2 = 0 ∧ iv2 a0 5 = 0 ∧ iv2 a0 7 = 0) ∧ NW [56, 57, 58] L L2 cl2) := by
  refine Mc.mk (by decide) (Nat.le_of_ble_eq_true rfl) ?_
  intro p e s m args below meth c A C hM
  have hph := (show zPf ln rv ≤ 0 from Nat.le_refl 0)
  have nw0 : NW [] L L cl := NW.refl
  have hX0 : XT L cl ln L cl ln := XT.refl
  have hF0 : fT [209] L cl iv rv iv rv := fT.refl
  refine c_aload_n (j := 0) (x := a0) C dX8_init_0 rfl ?_
  refine c_objInit C dX8_init_1 w1_102 w1_30 w1_31 (by decide) (Nat.le_of_ble_eq_true rfl) ?_
  refine c_aload_n (j := 0) (x := a0) C dX8_init_4 rfl ?_
  refine c_iconst C dX8_init_5 ?_
  refine c_put (z := 0) (k := 0) C ck_9 dX8_init_6 w1_103 (by decide) rfl t_a0 rfl rfl (by decide) rfl (by rfl) (by rfl) (fun iv1 pq1 => ?_)
  have W1 := hW.puti pq1 t_a0 ⟨by decide, by decide⟩ rfl
  have F1 := hF0.puti hX0 pq1 t_a0 rfl
  refine c_aload_n (j := 0) (x := a0) C dX8_init_9 rfl ?_
  refine c_iconst C dX8_init_10 ?_
  refine c_put (z := 0) (k := 1) C ck_9 dX8_init_11 w1_104 (by decide) rfl t_a0 rfl rfl (by decide) rfl (by decide) (by decide) (fun iv2 pq2 => ?_)
  have W2 := W1.puti pq2 t_a0 ⟨by decide, by decide⟩ rfl
  have F2 := F1.puti hX0 pq2 t_a0 rfl
  refine c_aload_n (j := 0) (x := a0) C dX8_init_14 rfl ?_
  refine c_iconst C dX8_init_15 ?_
  refine c_put (z := 0) (k := 2) C ck_9 dX8_init_16 w1_105 (by decide) rfl t_a0 rfl rfl (by decide) rfl (by decide) (by decide) (fun iv3 pq3 => ?_)
  have W3 := W2.puti pq3 t_a0 ⟨by decide, by decide⟩ rfl
  have F3 := F2.puti hX0 pq3 t_a0 rfl
  refine c_aload_n (j := 0) (x := a0) C dX8_init_19 rfl ?_
  refine c_bipush (z := 126) C dX8_init_20 (by decide) ?_
  refine c_newaZ (z := 126) (N := 126) C 56 dX8_init_22 w1_129 rfl (by omega) (by omega) (rom2 hph hph (by decide)) (fun qn1 cln1 lnn1 ivn1 rvn1 hqn1 hcn1 hln1 hin1 hrn1 => ⟨142, (z_in (by omega)), ?_⟩)
  refine c_g0 C (fun hg1 => ?_)
  have hxn1 : ∀ b, b ≠ qn1 → lnn1 b = ln b := (fun b hb => by rw [hln1]; exact va_up_ne _ _ hb)
  have lqn1 : lnn1 qn1 = 126 := by rw [hln1]; exact va_up_self _ _ _
  have W4 := W3.new (ln2 := lnn1) hqn1 (hg1 qn1 (List.mem_append_right _ List.mem_cons_self)) hcn1 hxn1 hin1 hrn1 (fun _ => ⟨(show (0 : Int) ≤ 0 by decide), (show (0 : Int) ≤ 1 by decide)⟩) (Or.inr (fun _ => rfl)) (fun _ => by show 126 ≤ lnn1 qn1 ∧ lnn1 qn1 ≤ 126; omega) rfl rfl
  have xl1 := XT.new hqn1 hcn1 hxn1
  have X1 := hX0.trans xl1
  have F4 := F3.new hX0 hqn1 hin1 hrn1
  have nw1 := nw0.new xl1 hcn1
  have tqn1 : ty (L ++ [qn1]) cln1 qn1 56 := ty_new hcn1
  have h0qn1 : qn1 ∉ L := fun h => hqn1 ((hX0 qn1 h).1)
  have ty1 := xl1.ty t_a0
  refine c_putrF (x := (some qn1)) (k := 3) C ck_9 dX8_init_24 w1_107 (by decide) rfl rfl rfl ty1 rfl rfl (by decide) rfl (by rfl) (by rfl) (fun rv1 pq4 => ⟨142, (zp2 (Nat.le_refl _)), ?_⟩)
  have W5 := W4.putr pq4 ty1 (fun qr => by rw [ty1.2] at qr; cases qr) rfl (by decide)
  have F5 := F4.putr X1 pq4 ty1 rfl
  refine c_aload_n (j := 0) (x := a0) C dX8_init_27 rfl ?_
  refine c_bipush (z := 126) C dX8_init_28 (by decide) ?_
  refine c_newaI (z := 126) (N := 126) C 57 dX8_init_30 w1_57 rfl (by omega) (by omega) (rom2 hph (Nat.le_refl 0) (by decide)) (fun qn2 cln2 lnn2 ivn2 rvn2 hqn2 hcn2 hln2 hin2 hrn2 => ⟨284, (z_in (by omega)), ?_⟩)
  refine c_g0 C (fun hg2 => ?_)
  have hxn2 : ∀ b, b ≠ qn2 → lnn2 b = lnn1 b := (fun b hb => by rw [hln2]; exact va_up_ne _ _ hb)
  have lqn2 : lnn2 qn2 = 126 := by rw [hln2]; exact va_up_self _ _ _
  have W6 := W5.new (ln2 := lnn2) hqn2 (hg2 qn2 (List.mem_append_right _ List.mem_cons_self)) hcn2 hxn2 hin2 hrn2 (fun _ => ⟨(show (-2147483648 : Int) ≤ 0 by decide), (show (0 : Int) ≤ 2147483647 by decide)⟩) (Or.inr (fun _ => rfl)) (fun _ => by show 126 ≤ lnn2 qn2 ∧ lnn2 qn2 ≤ 126; omega) rfl rfl
  have xl2 := XT.new hqn2 hcn2 hxn2
  have X2 := X1.trans xl2
  have F6 := F5.new X1 hqn2 hin2 hrn2
  have nw2 := nw1.new xl2 hcn2
  have tqn2 : ty ((L ++ [qn1]) ++ [qn2]) cln2 qn2 57 := ty_new hcn2
  have h0qn2 : qn2 ∉ L := fun h => hqn2 ((X1 qn2 h).1)
  have ty2 := xl2.ty ty1
  refine c_putrF (x := (some qn2)) (k := 4) C ck_9 dX8_init_32 w1_108 (by decide) rfl rfl rfl ty2 rfl rfl (by decide) rfl (by rfl) (by rfl) (fun rv2 pq5 => ⟨284, (zp2 (Nat.le_refl _)), ?_⟩)
  have W7 := W6.putr pq5 ty2 (fun qr => by rw [ty2.2] at qr; cases qr) rfl (by decide)
  have F7 := F6.putr X2 pq5 ty2 rfl
  refine c_aload_n (j := 0) (x := a0) C dX8_init_35 rfl ?_
  refine c_iconst C dX8_init_36 ?_
  refine c_put (z := 0) (k := 5) C ck_9 dX8_init_37 w1_109 (by decide) rfl ty2 rfl rfl (by decide) rfl (by rfl) (by rfl) (fun iv4 pq6 => ?_)
  have W8 := W7.puti pq6 ty2 ⟨by decide, by decide⟩ rfl
  have F8 := F7.puti X2 pq6 ty2 rfl
  refine c_aload_n (j := 0) (x := a0) C dX8_init_40 rfl ?_
  refine c_bipush (z := 6) C dX8_init_41 (by decide) ?_
  have ty3 := xl2.ty tqn1
  refine c_newaI (z := 6) (N := 6) C 58 dX8_init_43 w1_57 rfl (by omega) (by omega) (rom2 hph (Nat.le_refl 0) (by decide)) (fun qn3 cln3 lnn3 ivn3 rvn3 hqn3 hcn3 hln3 hin3 hrn3 => ⟨306, (z_in (by omega)), ?_⟩)
  refine c_g0 C (fun hg3 => ?_)
  have hxn3 : ∀ b, b ≠ qn3 → lnn3 b = lnn2 b := (fun b hb => by rw [hln3]; exact va_up_ne _ _ hb)
  have lqn3 : lnn3 qn3 = 6 := by rw [hln3]; exact va_up_self _ _ _
  have W9 := W8.new (ln2 := lnn3) hqn3 (hg3 qn3 (List.mem_append_right _ List.mem_cons_self)) hcn3 hxn3 hin3 hrn3 (fun _ => ⟨(show (0 : Int) ≤ 0 by decide), (show (0 : Int) ≤ 125 by decide)⟩) (Or.inr (fun _ => rfl)) (fun _ => by show 6 ≤ lnn3 qn3 ∧ lnn3 qn3 ≤ 6; omega) rfl rfl
  have xl3 := XT.new hqn3 hcn3 hxn3
  have X3 := X2.trans xl3
  have F9 := F8.new X2 hqn3 hin3 hrn3
  have nw3 := nw2.new xl3 hcn3
  have tqn3 : ty (((L ++ [qn1]) ++ [qn2]) ++ [qn3]) cln3 qn3 58 := ty_new hcn3
  have h0qn3 : qn3 ∉ L := fun h => hqn3 ((X2 qn3 h).1)
  have ty4 := xl3.ty ty2
  refine c_putrF (x := (some qn3)) (k := 6) C ck_9 dX8_init_45 w1_110 (by decide) rfl rfl rfl ty4 rfl rfl (by decide) rfl (by rfl) (by rfl) (fun rv3 pq7 => ⟨306, (zp2 (Nat.le_refl _)), ?_⟩)
  have W10 := W9.putr pq7 ty4 (fun qr => by rw [ty4.2] at qr; cases qr) rfl (by decide)
  have F10 := F9.putr X3 pq7 ty4 rfl
  refine c_aload_n (j := 0) (x := a0) C dX8_init_48 rfl ?_
  refine c_iconst C dX8_init_49 ?_
  refine c_put (z := 0) (k := 7) C ck_9 dX8_init_50 w1_111 (by decide) rfl ty4 rfl rfl (by decide) rfl (by rfl) (by rfl) (fun iv5 pq8 => ?_)
  have W11 := W10.puti pq8 ty4 ⟨by decide, by decide⟩ rfl
  have F11 := F10.puti X3 pq8 ty4 rfl
  have rp1 : rv1 a0 3 = (some qn1) := by rw [pq4]; exact upr_s
  have re1 : rvn2 a0 3 = rv1 a0 3 := (by rw [hrn2]; exact congrFun (up0_a (ne_in ty1.1 hqn2)) _)
  rw [rp1] at re1
  have re2 : rv2 a0 3 = rvn2 a0 3 := (by rw [pq5]; exact upr_j (by decide))
  rw [re1] at re2
  have re3 : rvn3 a0 3 = rv2 a0 3 := (by rw [hrn3]; exact congrFun (up0_a (ne_in ty2.1 hqn3)) _)
  rw [re2] at re3
  have re4 : rv3 a0 3 = rvn3 a0 3 := (by rw [pq7]; exact upr_j (by decide))
  rw [re3] at re4
  have rp2 : rv2 a0 4 = (some qn2) := by rw [pq5]; exact upr_s
  have re5 : rvn3 a0 4 = rv2 a0 4 := (by rw [hrn3]; exact congrFun (up0_a (ne_in ty2.1 hqn3)) _)
  rw [rp2] at re5
  have re6 : rv3 a0 4 = rvn3 a0 4 := (by rw [pq7]; exact upr_j (by decide))
  rw [re5] at re6
  have rp3 : rv3 a0 6 = (some qn3) := by rw [pq7]; exact upr_s
  have rn1 : ∀ k, ([3, 4, 6] : List Nat).contains k = false → rv3 a0 k = rv a0 k := fun k hk => (Eq.trans (show rv3 a0 k = rvn3 a0 k from (by rw [pq7]; exact upr_j (fun e => by subst e; exact absurd hk (by decide)))) (Eq.trans (show rvn3 a0 k = rv2 a0 k from (by rw [hrn3]; exact congrFun (up0_a (ne_in ty2.1 hqn3)) _)) (Eq.trans (show rv2 a0 k = rvn2 a0 k from (by rw [pq5]; exact upr_j (fun e => by subst e; exact absurd hk (by decide)))) (Eq.trans (show rvn2 a0 k = rv1 a0 k from (by rw [hrn2]; exact congrFun (up0_a (ne_in ty1.1 hqn2)) _)) (Eq.trans (show rv1 a0 k = rvn1 a0 k from (by rw [pq4]; exact upr_j (fun e => by subst e; exact absurd hk (by decide)))) (show rvn1 a0 k = rv a0 k from (by rw [hrn1]; exact congrFun (up0_a (ne_in t_a0.1 hqn1)) _)))))))
  have ty5 := xl3.ty ty3
  have ty6 := xl3.ty tqn2
  have ri1 : (-2147483648) ≤ iv5 a0 0 ∧ iv5 a0 0 ≤ 2147483647 := W11.int ty4 0
  have ie1 : iv5 a0 0 = ivn3 a0 0 := by rw [pq8]; exact up2_j (by decide)
  have ie2 : ivn3 a0 0 = iv4 a0 0 := by rw [hin3]; exact congrFun (up0_a (ne_in ty2.1 hqn3)) _
  have ie3 : iv4 a0 0 = ivn2 a0 0 := by rw [pq6]; exact up2_j (by decide)
  have ie4 : ivn2 a0 0 = ivn1 a0 0 := by rw [hin2]; exact congrFun (up0_a (ne_in ty1.1 hqn2)) _
  have ie5 : ivn1 a0 0 = iv3 a0 0 := by rw [hin1]; exact congrFun (up0_a (ne_in t_a0.1 hqn1)) _
  have ie6 : iv3 a0 0 = iv2 a0 0 := by rw [pq3]; exact up2_j (by decide)
  have ie7 : iv2 a0 0 = iv1 a0 0 := by rw [pq2]; exact up2_j (by decide)
  have ie8 : iv1 a0 0 = 0 := by rw [pq1]; exact up2_s
  have ri2 : (-2147483648) ≤ iv5 a0 1 ∧ iv5 a0 1 ≤ 2147483647 := W11.int ty4 1
  have ie9 : iv5 a0 1 = ivn3 a0 1 := by rw [pq8]; exact up2_j (by decide)
  have ie10 : ivn3 a0 1 = iv4 a0 1 := by rw [hin3]; exact congrFun (up0_a (ne_in ty2.1 hqn3)) _
  have ie11 : iv4 a0 1 = ivn2 a0 1 := by rw [pq6]; exact up2_j (by decide)
  have ie12 : ivn2 a0 1 = ivn1 a0 1 := by rw [hin2]; exact congrFun (up0_a (ne_in ty1.1 hqn2)) _
  have ie13 : ivn1 a0 1 = iv3 a0 1 := by rw [hin1]; exact congrFun (up0_a (ne_in t_a0.1 hqn1)) _
  have ie14 : iv3 a0 1 = iv2 a0 1 := by rw [pq3]; exact up2_j (by decide)
  have ie15 : iv2 a0 1 = 0 := by rw [pq2]; exact up2_s
  have ri3 : (-2147483648) ≤ iv5 a0 2 ∧ iv5 a0 2 ≤ 2147483647 := W11.int ty4 2
  have ie16 : iv5 a0 2 = ivn3 a0 2 := by rw [pq8]; exact up2_j (by decide)
  have ie17 : ivn3 a0 2 = iv4 a0 2 := by rw [hin3]; exact congrFun (up0_a (ne_in ty2.1 hqn3)) _
  have ie18 : iv4 a0 2 = ivn2 a0 2 := by rw [pq6]; exact up2_j (by decide)
  have ie19 : ivn2 a0 2 = ivn1 a0 2 := by rw [hin2]; exact congrFun (up0_a (ne_in ty1.1 hqn2)) _
  have ie20 : ivn1 a0 2 = iv3 a0 2 := by rw [hin1]; exact congrFun (up0_a (ne_in t_a0.1 hqn1)) _
  have ie21 : iv3 a0 2 = 0 := by rw [pq3]; exact up2_s
  have ri4 : (-2147483648) ≤ iv5 a0 5 ∧ iv5 a0 5 ≤ 2147483647 := W11.int ty4 5
  have ie22 : iv5 a0 5 = ivn3 a0 5 := by rw [pq8]; exact up2_j (by decide)
  have ie23 : ivn3 a0 5 = iv4 a0 5 := by rw [hin3]; exact congrFun (up0_a (ne_in ty2.1 hqn3)) _
  have ie24 : iv4 a0 5 = 0 := by rw [pq6]; exact up2_s
  have ri5 : (-2147483648) ≤ iv5 a0 7 ∧ iv5 a0 7 ≤ 2147483647 := W11.int ty4 7
  have ie25 : iv5 a0 7 = 0 := by rw [pq8]; exact up2_s
  exact c_vret C dX8_init_53 rfl (by decide) (rom0 hph (Nat.le_refl 0) (by decide)) ⟨rfl, X3, F11, W11, ⟨qn1, qn2, qn3, rn1, re4, ty5, re6, ty6, rp3, tqn3, (by omega), (by omega), (by omega), (by omega), (by omega)⟩, nw3.sub (by decide)⟩
