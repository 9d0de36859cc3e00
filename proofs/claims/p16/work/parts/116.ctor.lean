theorem rok_lst {L : List Nat} {cl : Nat → Nat} {g a T : Nat} (ha : ty L cl a T) (hl : lst T = true) : rok L cl g a 1 (some g) := fun _ => ⟨(fun q => by cases q), fun b q => by cases q; exact Or.inr ⟨rfl, by rw [ha.2]; exact hl, rfl⟩⟩
theorem bt_tab {m : Nat} (h : m < 30) : bt (100 + m) = 100 := by unfold bt; rw [if_neg (by omega), if_pos (by omega)]
theorem uq_tab {m : Nat} : uq (100 + m) = false := by unfold uq; simp; omega
theorem rok_tab {L : List Nat} {cl : Nat → Nat} {g a k : Nat} {x : Option Nat} (ha : ty L cl a 100) (hk : k = 2 ∨ k = 3) (hx : ∀ b, x = some b → ty L cl b 100 ∧ cl b < cl a) : rok L cl g a k x := by
  intro _
  refine ⟨fun _ => by rw [ha.2]; rcases hk with rfl | rfl <;> rfl, fun b hb => Or.inl ⟨(hx b hb).1.1, ?_, fun _ _ => (hx b hb).2, fun q => ?_⟩⟩
  · rw [(hx b hb).1.2, ha.2]; rcases hk with rfl | rfl <;> rfl
  · rw [ha.2] at q; cases q
theorem rok_ch {L : List Nat} {cl : Nat → Nat} {g a : Nat} {x : Option Nat} (ha : ty L cl a 21) (hx : ∀ b, x = some b → ty L cl b 20) : rok L cl g a 2 x := by
  intro _
  refine ⟨fun _ => by rw [ha.2]; rfl, fun b hb => Or.inl ⟨(hx b hb).1, ?_, ?_, ?_⟩⟩
  · rw [(hx b hb).2, ha.2]; rfl
  · intro q; rw [ha.2] at q; cases q
  · intro q; rw [ha.2] at q; cases q
theorem rok_tb {L : List Nat} {cl : Nat → Nat} {g a k b T2 : Nat} (ha : ty L cl a 100) (hb : ty L cl b T2) (hk : 4 ≤ k) (ht : tgt 100 k = T2) : rok L cl g a k (some b) := by
  intro _
  refine ⟨(fun q => by cases q), fun c hc => ?_⟩
  cases hc
  refine Or.inl ⟨hb.1, by rw [hb.2, ha.2, ht], fun _ q => absurd q (by omega), fun q => ?_⟩
  rw [ha.2] at q; cases q
set_option maxHeartbeats 4000000 in
set_option maxRecDepth 100000 in
theorem Z_acoll {l : Launch} {G : GT} {mi : Nat} {sk : Nat → Nat} {L : List Nat} {cl ln : Nat → Nat} {iv : Nat → Nat → Int} {rv : Nat → Nat → Option Nat}  {a0 : Nat} (hW : WT (g0 G) sk L cl ln iv rv) (hS : SKL sk L cl) (t_a0 : ty L cl a0 200)  : Mc l G mi zPf 0 yJxa1e45_init_da8c8 cJxa1e45_init_da8c8 1 none 1 [.ref a0] L cl ln iv rv 0 (fun v L2 cl2 ln2 iv2 rv2 => v = none ∧ L = L2 ∧ cl = cl2 ∧ ln = ln2 ∧ iv = iv2 ∧ rv = rv2 ∧ (True)) := by
  refine Mc.mk (by decide) (Nat.le_of_ble_eq_true rfl) ?_
  intro p e s m args below meth c A C hM
  refine hv3 ((show zPf ln rv ≤ 0 from Nat.le_refl 0)) (show XT L cl ln L cl ln from XT.refl) (show fT [] L cl iv rv iv rv from fT.refl) (fun hph hX0 hF0 => ?_)
  refine c_aload_n (j := 0) (x := a0) C dJxa1e45_init_da8c8_0 rfl ?_
  refine c_objInit C dJxa1e45_init_da8c8_1 w1_75 w1_30 w1_31 (by decide) (Nat.le_of_ble_eq_true rfl) ?_
  exact c_vret C dJxa1e45_init_da8c8_4 rfl (by decide) (rom0 hph hph (by decide)) ⟨rfl, rfl, rfl, rfl, rfl, rfl, trivial⟩
set_option maxHeartbeats 4000000 in
set_option maxRecDepth 100000 in
theorem Z_alist {l : Launch} {G : GT} {mi : Nat} {sk : Nat → Nat} {L : List Nat} {cl ln : Nat → Nat} {iv : Nat → Nat → Int} {rv : Nat → Nat → Option Nat}  {a0 : Nat} (hW : WT (g0 G) sk L cl ln iv rv) (hS : SKL sk L cl) (t_a0 : ty L cl a0 200)  : Mc l G mi zPf 0 yJxc12de_init_da8c8 cJxc12de_init_da8c8 1 none 2 [.ref a0] L cl ln iv rv 0 (fun v L2 cl2 ln2 iv2 rv2 => v = none ∧ L = L2 ∧ cl = cl2 ∧ ln = ln2 ∧ rv = rv2 ∧ fT [200] L cl iv rv iv2 rv2 ∧ WT (g0 G) sk L2 cl2 ln2 iv2 rv2 ∧ (iv2 a0 2 = iv a0 2)) := by
  refine Mc.mk (by decide) (Nat.le_of_ble_eq_true rfl) ?_
  intro p e s m args below meth c A C hM
  refine hv3 ((show zPf ln rv ≤ 0 from Nat.le_refl 0)) (show XT L cl ln L cl ln from XT.refl) (show fT [200] L cl iv rv iv rv from fT.refl) (fun hph hX0 hF0 => ?_)
  refine c_aload_n (j := 0) (x := a0) C dJxc12de_init_da8c8_0 rfl ?_
  refine c_callI (As := []) (rest := []) C hM (Z_acoll (a0 := a0) hW hS t_a0  ) dJxc12de_init_da8c8_1 kI_Jxc12de_1 rfl rfl (Nat.le_of_ble_eq_true rfl) ⟨(Nat.le_of_ble_eq_true rfl), (Nat.le_of_ble_eq_true rfl)⟩ (rz0 hph (by decide)) (fun rh1 Lh1 clh1 lnh1 ivh1 rvh1 h1 => ⟨0, zk0, ?_⟩)
  obtain ⟨rfl, rfl, rfl, rfl, rfl, rfl, exf1⟩ := h1
  refine c_st (st2 := []) rfl ?_
  refine c_aload_n (j := 0) (x := a0) C dJxc12de_init_da8c8_4 rfl ?_
  refine c_iconst C dJxc12de_init_da8c8_5 ?_
  refine c_put (z := 0) (k := 0) C ck_0 dJxc12de_init_da8c8_6 w1_80 (by decide) rfl t_a0 rfl rfl (by decide) rfl (by rfl) (by rfl) (fun iv1 pq1 => ?_)
  refine hv3 (hW.puti pq1 t_a0 ⟨by decide, by decide⟩ rfl) (hF0.puti hX0 pq1 t_a0 rfl) (show iv1 a0 2 = iv a0 2 from by rw [pq1]; exact up2_j (by decide)) (fun W2 F1 ie1 => ?_)
  have ri1 : (-2147483648) ≤ iv1 a0 2 ∧ iv1 a0 2 ≤ 2147483647 := W2.int t_a0 2
  exact c_vret C dJxc12de_init_da8c8_9 rfl (by decide) (rom0 hph hph (by decide)) ⟨rfl, rfl, rfl, rfl, rfl, F1, W2, (by omega)⟩
set_option maxHeartbeats 4000000 in
set_option maxRecDepth 100000 in
theorem Z_list {l : Launch} {G : GT} {mi : Nat} {sk : Nat → Nat} {L : List Nat} {cl ln : Nat → Nat} {iv : Nat → Nat → Int} {rv : Nat → Nat → Option Nat}  {a0 : Nat} (hW : WT (g0 G) sk L cl ln iv rv) (hS : SKL sk L cl) (t_a0 : ty L cl a0 200)  : Mc l G mi zPf 0 yJx4a65c_init_da8c8 cJx4a65c_init_da8c8 1 none 3 [.ref a0] L cl ln iv rv 0 (fun v L2 cl2 ln2 iv2 rv2 => v = none ∧ L = L2 ∧ cl = cl2 ∧ ln = ln2 ∧ fT [200] L cl iv rv iv2 rv2 ∧ WT (g0 G) sk L2 cl2 ln2 iv2 rv2 ∧ (rv2 a0 1 = some (g0 G) ∧ iv2 a0 2 = iv a0 2 ∧ (∀ k, ([1] : List Nat).contains k = false → rv2 a0 k = rv a0 k))) := by
  refine Mc.mk (by decide) (Nat.le_of_ble_eq_true rfl) ?_
  intro p e s m args below meth c A C hM
  refine hv3 ((show zPf ln rv ≤ 0 from Nat.le_refl 0)) (show XT L cl ln L cl ln from XT.refl) (show fT [200] L cl iv rv iv rv from fT.refl) (fun hph hX0 hF0 => ?_)
  refine c_aload_n (j := 0) (x := a0) C dJx4a65c_init_da8c8_0 rfl ?_
  have ri1 : (-2147483648) ≤ iv a0 2 ∧ iv a0 2 ≤ 2147483647 := hW.int t_a0 2
  refine c_callI (As := []) (rest := []) C hM (Z_alist (a0 := a0) hW hS t_a0  ) dJx4a65c_init_da8c8_1 kI_Jx4a65c_1 rfl rfl (Nat.le_of_ble_eq_true rfl) ⟨(Nat.le_of_ble_eq_true rfl), (Nat.le_of_ble_eq_true rfl)⟩ (rz0 hph (by decide)) (fun rh1 Lh1 clh1 lnh1 ivh1 rvh1 h1 => ⟨0, zk0, ?_⟩)
  obtain ⟨rfl, rfl, rfl, rfl, rfl, fl1, W1, exf1⟩ := h1
  have F1 := hF0.call hX0 fl1 rfl
  refine c_st (st2 := []) rfl ?_
  refine hv2 (show (-2147483648) ≤ ivh1 a0 2 ∧ ivh1 a0 2 ≤ 2147483647 from W1.int t_a0 2) (show ivh1 a0 2 = iv a0 2 from exf1) (fun ri2 gf1 => ?_)
  refine c_aload_n (j := 0) (x := a0) C dJx4a65c_init_da8c8_4 rfl ?_
  refine c_gets C dJx4a65c_init_da8c8_5 w1_76 ?_
  refine c_putr (x := (some (g0 G))) (k := 1) C ck_0 dJx4a65c_init_da8c8_8 w1_78 (by decide) rfl t_a0 rfl rfl (by decide) rfl (by rfl) (by rfl) (fun rv1 pq1 => ⟨0, (zp2 (Nat.le_refl _)), ?_⟩)
  refine hv4 (W1.putr pq1 t_a0 (fun qr => by rw [t_a0.2] at qr; cases qr) rfl (by decide)) (F1.putr hX0 pq1 t_a0 rfl) (show rv1 a0 1 = (some (g0 G)) from by rw [pq1]; exact upr_s) (show ∀ k, ([1] : List Nat).contains k = false → rv1 a0 k = rv a0 k from fun k hk => (show rv1 a0 k = rv a0 k from (by rw [pq1]; exact upr_j (fun e => by subst e; exact absurd hk (by decide))))) (fun W2 F2 rp1 rn1 => ?_)
  exact c_vret C dJx4a65c_init_da8c8_11 rfl (by decide) (rom0 hph (Nat.le_refl 0) (by decide)) ⟨rfl, rfl, rfl, rfl, F2, W2, ⟨rp1, (by omega), rn1⟩⟩
set_option maxHeartbeats 4000000 in
set_option maxRecDepth 100000 in
theorem Z_ints_12 {l : Launch} {G : GT} {mi : Nat} {sk : Nat → Nat} {L : List Nat} {cl ln : Nat → Nat} {iv : Nat → Nat → Int} {rv : Nat → Nat → Option Nat}  {a0 : Nat} {i : Int} (hW : WT (g0 G) sk L cl ln iv rv) (hS : SKL sk L cl) (t_a0 : ty L cl a0 202) (h_i : -2147483648 ≤ i ∧ i ≤ 2147483647)  : Mc l G mi zPf 0 yX1_init cX1_init 2 none 1 [.ref a0, .int (iI i)] L cl ln iv rv 32 (fun v L2 cl2 ln2 iv2 rv2 => v = none ∧ XT L cl ln L2 cl2 ln2 ∧ fT [202] L cl iv rv iv2 rv2 ∧ WT (g0 G) sk L2 cl2 ln2 iv2 rv2 ∧ (∃ b, (∀ k, ([1] : List Nat).contains k = false → rv2 a0 k = rv a0 k) ∧ rv2 a0 1 = some b ∧ ty L2 cl2 b 42 ∧ ln2 b = 16 ∧ iv2 a0 0 = i ∧ iv2 a0 2 = 0 ∧ b ∉ L)) := by
  refine Mc.mk (by decide) (Nat.le_of_ble_eq_true rfl) ?_
  intro p e s m args below meth c A C hM
  refine hv3 ((show zPf ln rv ≤ 0 from Nat.le_refl 0)) (show XT L cl ln L cl ln from XT.refl) (show fT [202] L cl iv rv iv rv from fT.refl) (fun hph hX0 hF0 => ?_)
  refine c_aload_n (j := 0) (x := a0) C dX1_init_0 rfl ?_
  refine c_objInit C dX1_init_1 w1_37 w1_30 w1_31 (by decide) (Nat.le_of_ble_eq_true rfl) ?_
  refine c_aload_n (j := 0) (x := a0) C dX1_init_4 rfl ?_
  refine c_iconst C dX1_init_5 ?_
  refine c_put (z := 0) (k := 2) C ck_2 dX1_init_6 w1_43 (by decide) rfl t_a0 rfl rfl (by decide) rfl (by rfl) (by rfl) (fun iv1 pq1 => ?_)
  refine hv2 (hW.puti pq1 t_a0 ⟨by decide, by decide⟩ rfl) (hF0.puti hX0 pq1 t_a0 rfl) (fun W1 F1 => ?_)
  refine c_aload_n (j := 0) (x := a0) C dX1_init_9 rfl ?_
  refine c_iload_n (j := 1) C dX1_init_10 rfl ?_
  refine c_putF (z := i) (k := 0) C ck_2 dX1_init_11 w1_38 (by decide) rfl rfl rfl t_a0 rfl rfl (by decide) rfl (by rfl) (by rfl) (fun iv2 pq2 => ?_)
  refine hv2 (W1.puti pq2 t_a0 (show (-2147483648) ≤ i ∧ i ≤ 2147483647 by omega) rfl) (F1.puti hX0 pq2 t_a0 rfl) (fun W2 F2 => ?_)
  refine c_aload_n (j := 0) (x := a0) C dX1_init_14 rfl ?_
  refine c_bipush (z := 16) C dX1_init_15 (by decide) ?_
  refine c_newaI (z := 16) (N := 16) C 42 dX1_init_17 w1_57 rfl (by omega) (by omega) (rom2 hph hph (by decide)) (fun qn1 cln1 lnn1 ivn1 rvn1 hqn1 hcn1 hln1 hin1 hrn1 => ⟨32, (z_in (by omega)), ?_⟩)
  refine c_g0 C (fun hg1 => ?_)
  refine hv5 (show ∀ b, b ≠ qn1 → lnn1 b = ln b from (fun b hb => by rw [hln1]; exact va_up_ne _ _ hb)) (show lnn1 qn1 = 16 from by rw [hln1]; exact va_up_self _ _ _) (F2.new hX0 hqn1 hin1 hrn1) (show ty (L ++ [qn1]) cln1 qn1 42 from ty_new hcn1) (show qn1 ∉ L from fun h => hqn1 ((hX0 qn1 h).1)) (fun hxn1 lqn1 F3 tqn1 h0qn1 => ?_)
  refine hv2 (W2.new (ln2 := lnn1) hqn1 (hg1 qn1 (List.mem_append_right _ List.mem_cons_self)) hcn1 hxn1 hin1 hrn1 (fun _ => ⟨(show (-2147483648 : Int) ≤ 0 by decide), (show (0 : Int) ≤ 2147483647 by decide)⟩) (Or.inr (fun _ => rfl)) (fun _ => by show 16 ≤ lnn1 qn1 ∧ lnn1 qn1 ≤ 400; omega) rfl rfl) (XT.new hqn1 hcn1 hxn1) (fun W3 xl1 => ?_)
  refine hv3 (hX0.trans xl1) (xl1.skl hS) (xl1.ty t_a0) (fun X1 sk1 ty1 => ?_)
  refine c_putr (x := (some qn1)) (k := 1) C ck_2 dX1_init_19 w1_39 (by decide) rfl ty1 rfl rfl (by decide) rfl (by rfl) (by rfl) (fun rv1 pq3 => ⟨32, (zp2 (Nat.le_refl _)), ?_⟩)
  refine hv9 (W3.putr pq3 ty1 (fun qr => by rw [ty1.2] at qr; cases qr) rfl (by decide)) (F3.putr X1 pq3 ty1 rfl) (show rv1 a0 1 = (some qn1) from by rw [pq3]; exact upr_s) (show ∀ k, ([1] : List Nat).contains k = false → rv1 a0 k = rv a0 k from fun k hk => (Eq.trans (show rv1 a0 k = rvn1 a0 k from (by rw [pq3]; exact upr_j (fun e => by subst e; exact absurd hk (by decide)))) (show rvn1 a0 k = rv a0 k from (by rw [hrn1]; exact congrFun (up0_a (ne_in t_a0.1 hqn1)) _)))) (show ivn1 a0 0 = iv2 a0 0 from by rw [hin1]; exact congrFun (up0_a (ne_in t_a0.1 hqn1)) _) (show iv2 a0 0 = i from by rw [pq2]; exact up2_s) (show ivn1 a0 2 = iv2 a0 2 from by rw [hin1]; exact congrFun (up0_a (ne_in t_a0.1 hqn1)) _) (show iv2 a0 2 = iv1 a0 2 from by rw [pq2]; exact up2_j (by decide)) (show iv1 a0 2 = 0 from by rw [pq1]; exact up2_s) (fun W4 F4 rp1 rn1 ie1 ie2 ie3 ie4 ie5 => ?_)
  refine hv2 (show (-2147483648) ≤ ivn1 a0 0 ∧ ivn1 a0 0 ≤ 2147483647 from W4.int ty1 0) (show (-2147483648) ≤ ivn1 a0 2 ∧ ivn1 a0 2 ≤ 2147483647 from W4.int ty1 2) (fun ri1 ri2 => ?_)
  exact c_vret C dX1_init_22 rfl (by decide) (rom0 hph (Nat.le_refl 0) (by decide)) ⟨rfl, X1, F4, W4, ⟨qn1, rn1, rp1, tqn1, (by omega), (by omega), (by omega), h0qn1⟩⟩
set_option maxHeartbeats 4000000 in
set_option maxRecDepth 100000 in
theorem Z_row {l : Launch} {G : GT} {mi : Nat} {sk : Nat → Nat} {L : List Nat} {cl ln : Nat → Nat} {iv : Nat → Nat → Int} {rv : Nat → Nat → Option Nat}  {a0 : Nat} {i : Int} {a2 : Nat} {a3 : Nat} (hW : WT (g0 G) sk L cl ln iv rv) (hS : SKL sk L cl) (t_a0 : ty L cl a0 206) (t_a2 : ty L cl a2 65) (t_a3 : ty L cl a3 66) (h_i : -2147483648 ≤ i ∧ i ≤ 2147483647)  : Mc l G mi zPf 0 yX5_init cX5_init 4 none 1 [.ref a0, .int (iI i), .ref a2, .ref a3] L cl ln iv rv 0 (fun v L2 cl2 ln2 iv2 rv2 => v = none ∧ L = L2 ∧ cl = cl2 ∧ ln = ln2 ∧ fT [206] L cl iv rv iv2 rv2 ∧ WT (g0 G) sk L2 cl2 ln2 iv2 rv2 ∧ ((∀ k, ([1, 2] : List Nat).contains k = false → rv2 a0 k = rv a0 k) ∧ rv2 a0 1 = some a2 ∧ rv2 a0 2 = some a3 ∧ iv2 a0 0 = i ∧ iv2 a0 3 = 0)) := by
  refine Mc.mk (by decide) (Nat.le_of_ble_eq_true rfl) ?_
  intro p e s m args below meth c A C hM
  refine hv3 ((show zPf ln rv ≤ 0 from Nat.le_refl 0)) (show XT L cl ln L cl ln from XT.refl) (show fT [206] L cl iv rv iv rv from fT.refl) (fun hph hX0 hF0 => ?_)
  refine c_aload_n (j := 0) (x := a0) C dX5_init_0 rfl ?_
  refine c_objInit C dX5_init_1 w3_134 w1_30 w1_31 (by decide) (Nat.le_of_ble_eq_true rfl) ?_
  refine c_aload_n (j := 0) (x := a0) C dX5_init_4 rfl ?_
  refine c_iconst C dX5_init_5 ?_
  refine c_put (z := 0) (k := 3) C ck_6 dX5_init_6 w3_147 (by decide) rfl t_a0 rfl rfl (by decide) rfl (by rfl) (by rfl) (fun iv1 pq1 => ?_)
  refine hv2 (hW.puti pq1 t_a0 ⟨by decide, by decide⟩ rfl) (hF0.puti hX0 pq1 t_a0 rfl) (fun W1 F1 => ?_)
  refine c_aload_n (j := 0) (x := a0) C dX5_init_9 rfl ?_
  refine c_iload_n (j := 1) C dX5_init_10 rfl ?_
  refine c_putF (z := i) (k := 0) C ck_6 dX5_init_11 w3_135 (by decide) rfl rfl rfl t_a0 rfl rfl (by decide) rfl (by rfl) (by rfl) (fun iv2 pq2 => ?_)
  refine hv2 (W1.puti pq2 t_a0 (show (-2147483648) ≤ i ∧ i ≤ 2147483647 by omega) rfl) (F1.puti hX0 pq2 t_a0 rfl) (fun W2 F2 => ?_)
  refine c_aload_n (j := 0) (x := a0) C dX5_init_14 rfl ?_
  refine c_aload_n (j := 2) (x := a2) C dX5_init_15 rfl ?_
  refine c_putrF (x := (some a2)) (k := 1) C ck_6 dX5_init_16 w3_138 (by decide) rfl rfl rfl t_a0 rfl rfl (by decide) rfl (by rfl) (by rfl) (fun rv1 pq3 => ⟨0, (zp2 (Nat.le_refl _)), ?_⟩)
  refine hv2 (W2.putr pq3 t_a0 (fun qr => by rw [t_a0.2] at qr; cases qr) rfl (by decide)) (F2.putr hX0 pq3 t_a0 rfl) (fun W3 F3 => ?_)
  refine c_aload_n (j := 0) (x := a0) C dX5_init_19 rfl ?_
  refine c_aload_n (j := 3) (x := a3) C dX5_init_20 rfl ?_
  refine c_putrF (x := (some a3)) (k := 2) C ck_6 dX5_init_21 w3_142 (by decide) rfl rfl rfl t_a0 rfl rfl (by decide) rfl (by rfl) (by rfl) (fun rv2 pq4 => ⟨0, (zp2 (Nat.le_refl _)), ?_⟩)
  refine hv5 (W3.putr pq4 t_a0 (fun qr => by rw [t_a0.2] at qr; cases qr) rfl (by decide)) (F3.putr hX0 pq4 t_a0 rfl) (show ∀ k, ([1, 2] : List Nat).contains k = false → rv2 a0 k = rv a0 k from fun k hk => (Eq.trans (show rv2 a0 k = rv1 a0 k from (by rw [pq4]; exact upr_j (fun e => by subst e; exact absurd hk (by decide)))) (show rv1 a0 k = rv a0 k from (by rw [pq3]; exact upr_j (fun e => by subst e; exact absurd hk (by decide)))))) (show rv1 a0 1 = (some a2) from by rw [pq3]; exact upr_s) (show rv2 a0 1 = rv1 a0 1 from (by rw [pq4]; exact upr_j (by decide))) (fun W4 F4 rn1 rp1 re1 => ?_)
  rw [rp1] at re1
  refine hv6 (show rv2 a0 2 = (some a3) from by rw [pq4]; exact upr_s) (show (-2147483648) ≤ iv2 a0 0 ∧ iv2 a0 0 ≤ 2147483647 from W4.int t_a0 0) (show iv2 a0 0 = i from by rw [pq2]; exact up2_s) (show (-2147483648) ≤ iv2 a0 3 ∧ iv2 a0 3 ≤ 2147483647 from W4.int t_a0 3) (show iv2 a0 3 = iv1 a0 3 from by rw [pq2]; exact up2_j (by decide)) (show iv1 a0 3 = 0 from by rw [pq1]; exact up2_s) (fun rp2 ri1 ie1 ri2 ie2 ie3 => ?_)
  exact c_vret C dX5_init_24 rfl (by decide) (rom0 hph (Nat.le_refl 0) (by decide)) ⟨rfl, rfl, rfl, rfl, F4, W4, ⟨rn1, re1, rp2, (by omega), (by omega)⟩⟩
set_option maxHeartbeats 4000000 in
set_option maxRecDepth 100000 in
theorem Z_change {l : Launch} {G : GT} {mi : Nat} {sk : Nat → Nat} {L : List Nat} {cl ln : Nat → Nat} {iv : Nat → Nat → Int} {rv : Nat → Nat → Option Nat}  {a0 : Nat} {i : Int} {a2 : Nat} {r : Option Nat} {n : Int} (hW : WT (g0 G) sk L cl ln iv rv) (hS : SKL sk L cl) (t_a0 : ty L cl a0 201) (t_a2 : ty L cl a2 100) (t_r : ∀ b, r = some b → ty L cl b 20) (h_i : -2147483648 ≤ i ∧ i ≤ 2147483647) (h_n : -2147483648 ≤ n ∧ n ≤ 2147483647)  : Mc l G mi zPf 0 yX0_init cX0_init 5 none 1 [.ref a0, .int (iI i), .ref a2, va_rf r, .int (iI n)] L cl ln iv rv 0 (fun v L2 cl2 ln2 iv2 rv2 => v = none ∧ L = L2 ∧ cl = cl2 ∧ ln = ln2 ∧ fT [201] L cl iv rv iv2 rv2 ∧ WT (g0 G) sk L2 cl2 ln2 iv2 rv2 ∧ ((∀ k, ([1, 2] : List Nat).contains k = false → rv2 a0 k = rv a0 k) ∧ rv2 a0 1 = some a2 ∧ rv2 a0 2 = r ∧ iv2 a0 0 = i ∧ iv2 a0 3 = n)) := by
  refine Mc.mk (by decide) (by cases r <;> exact Nat.le_of_ble_eq_true rfl) ?_
  intro p e s m args below meth c A C hM
  have hph := (show zPf ln rv ≤ 0 from Nat.le_refl 0)
  refine c_lveq (show lv_args 0 [.ref a0, .int (iI i), .ref a2, va_rf r, .int (iI n)] = [(0, .ref a0), (1, .int (iI i)), (2, .ref a2), (3, (va_rf r)), (4, .int (iI n))] from by cases r <;> rfl) ?_
  refine hv2 (show XT L cl ln L cl ln from XT.refl) (show fT [201] L cl iv rv iv rv from fT.refl) (fun hX0 hF0 => ?_)
  refine c_aload_n (j := 0) (x := a0) C dX0_init_0 rfl ?_
  refine c_objInit C dX0_init_1 w3_39 w1_30 w1_31 (by decide) (Nat.le_of_ble_eq_true rfl) ?_
  refine c_aload_n (j := 0) (x := a0) C dX0_init_4 rfl ?_
  refine c_iload_n (j := 1) C dX0_init_5 rfl ?_
  refine c_putF (z := i) (k := 0) C ck_1 dX0_init_6 w3_40 (by decide) rfl rfl rfl t_a0 rfl rfl (by decide) rfl (by rfl) (by rfl) (fun iv1 pq1 => ?_)
  refine hv2 (hW.puti pq1 t_a0 (show (-2147483648) ≤ i ∧ i ≤ 2147483647 by omega) rfl) (hF0.puti hX0 pq1 t_a0 rfl) (fun W1 F1 => ?_)
  refine c_aload_n (j := 0) (x := a0) C dX0_init_9 rfl ?_
  refine c_aload_n (j := 2) (x := a2) C dX0_init_10 rfl ?_
  refine c_putrF (x := (some a2)) (k := 1) C ck_1 dX0_init_11 w3_42 (by decide) rfl rfl rfl t_a0 rfl rfl (by decide) rfl (by rfl) (by rfl) (fun rv1 pq2 => ⟨0, (zp2 (Nat.le_refl _)), ?_⟩)
  refine hv2 (W1.putr pq2 t_a0 (fun qr => by rw [t_a0.2] at qr; cases qr) rfl (by decide)) (F1.putr hX0 pq2 t_a0 rfl) (fun W2 F2 => ?_)
  refine c_aload_n (j := 0) (x := a0) C dX0_init_14 rfl ?_
  refine c_aloadr_n (j := 3) (r := r) C dX0_init_15 rfl ?_
  refine c_putrF (x := r) (k := 2) C ck_1 dX0_init_16 w3_44 (by decide) rfl rfl rfl t_a0 rfl rfl (by decide) rfl (narr r (Or.inl ⟨_, rfl⟩)).1 (narr r (Or.inl ⟨_, rfl⟩)).2 (fun rv2 pq3 => ⟨0, (zp2 (Nat.le_refl _)), ?_⟩)
  refine hv2 (W2.putr pq3 t_a0 (fun qr => by rw [t_a0.2] at qr; cases qr) rfl (by decide)) (F2.putr hX0 pq3 t_a0 rfl) (fun W3 F3 => ?_)
  refine c_aload_n (j := 0) (x := a0) C dX0_init_19 rfl ?_
  refine c_iload (j := 4) C dX0_init_20 rfl ?_
  refine c_putF (z := n) (k := 3) C ck_1 dX0_init_22 w3_46 (by decide) rfl rfl rfl t_a0 rfl rfl (by decide) rfl (by rfl) (by rfl) (fun iv2 pq4 => ?_)
  refine hv5 (W3.puti pq4 t_a0 (show (-2147483648) ≤ n ∧ n ≤ 2147483647 by omega) rfl) (F3.puti hX0 pq4 t_a0 rfl) (show ∀ k, ([1, 2] : List Nat).contains k = false → rv2 a0 k = rv a0 k from fun k hk => (Eq.trans (show rv2 a0 k = rv1 a0 k from (by rw [pq3]; exact upr_j (fun e => by subst e; exact absurd hk (by decide)))) (show rv1 a0 k = rv a0 k from (by rw [pq2]; exact upr_j (fun e => by subst e; exact absurd hk (by decide)))))) (show rv1 a0 1 = (some a2) from by rw [pq2]; exact upr_s) (show rv2 a0 1 = rv1 a0 1 from (by rw [pq3]; exact upr_j (by decide))) (fun W4 F4 rn1 rp1 re1 => ?_)
  rw [rp1] at re1
  refine hv6 (show rv2 a0 2 = r from by rw [pq3]; exact upr_s) (show (-2147483648) ≤ iv2 a0 0 ∧ iv2 a0 0 ≤ 2147483647 from W4.int t_a0 0) (show iv2 a0 0 = iv1 a0 0 from by rw [pq4]; exact up2_j (by decide)) (show iv1 a0 0 = i from by rw [pq1]; exact up2_s) (show (-2147483648) ≤ iv2 a0 3 ∧ iv2 a0 3 ≤ 2147483647 from W4.int t_a0 3) (show iv2 a0 3 = n from by rw [pq4]; exact up2_s) (fun rp2 ri1 ie1 ie2 ri2 ie3 => ?_)
  exact c_vret C dX0_init_25 rfl (by decide) (rom0 hph (Nat.le_refl 0) (by decide)) ⟨rfl, rfl, rfl, rfl, F4, W4, ⟨rn1, re1, rp2, (by omega), (by omega)⟩⟩
