theorem el_kp {g : Nat} {sk : Nat → Nat} {L : List Nat} {cl ln : Nat → Nat} {iv : Nat → Nat → Int} {rv rv2 : Nat → Nat → Option Nat} {a : Nat} (h : WT g sk L cl ln iv rv) (ha : ty L cl a 26) (h1 : rv2 a 1 = rv a 1) (h2 : ∀ b, ty L cl b 1004 → cl b = 1000 + 5 * a + 4 → ∀ k, rv2 b k = rv b k) {i : Nat} (hi : (i : Int) < iv a 2) : el rv2 a i = el rv a i := by
  obtain ⟨b, q1, q2, q3, q4⟩ := h.ed2 ha rfl rfl (by omega)
  rw [el_of (h1.trans q1), el_of q1, h2 b q2 q3 i]
theorem Phi.le3 {g : Nat} {sk : Nat → Nat} {L : List Nat} {cl ln : Nat → Nat} {iv : Nat → Nat → Int} {rv : Nat → Nat → Option Nat} (h : WT g sk L cl ln iv rv) (hS : SKL sk L cl) : Phi g sk ln rv + 3000 ≤ PHM ∧ ∀ t n, (t = 24 ∨ t = 25) → cap g ln rv (sk t) = n → n ≤ 6003 → Phi g sk ln rv + 20000 ≤ PHM := by
  refine hv14 (cap_le (t := 2) (m := 6000) h hS rfl rfl rfl rfl rfl) (cap_le (t := 3) (m := 1000) h hS rfl rfl rfl rfl rfl) (cap_le (t := 4) (m := 8000) h hS rfl rfl rfl rfl rfl) (cap_le (t := 5) (m := 400) h hS rfl rfl rfl rfl rfl) (cap_le (t := 6) (m := 12006) h hS rfl rfl rfl rfl rfl) (cap_le (t := 7) (m := 12006) h hS rfl rfl rfl rfl rfl) (cap_le (t := 8) (m := 80400) h hS rfl rfl rfl rfl rfl) (cap_le (t := 9) (m := 80400) h hS rfl rfl rfl rfl rfl) (cap_le (t := 10) (m := 8002) h hS rfl rfl rfl rfl rfl) (cap_le (t := 11) (m := 80000) h hS rfl rfl rfl rfl rfl) (cap_le (t := 24) (m := 9100) h hS rfl rfl rfl rfl rfl) (cap_le (t := 25) (m := 9100) h hS rfl rfl rfl rfl rfl) (nn_le (rv (sk 67)) 200) (nn_le (rv (sk 69)) 200) (fun c2 c3 c4 c5 c6 c7 c8 c9 c10 c11 c24 c25 n1 n2 => ?_)
  refine ⟨?_, fun t n ht hn h6 => ?_⟩
  · unfold Phi; show _ ≤ 1110000; omega
  · rcases ht with rfl | rfl
    · unfold Phi; show _ ≤ 1110000; omega
    · unfold Phi; show _ ≤ 1110000; omega
theorem fT.copyr {ls : List Nat} {L L2 : List Nat} {cl ln cl2 ln2 : Nat → Nat} {iv iv2 : Nat → Nat → Int} {rv rv2 rv3 : Nat → Nat → Option Nat} {b T : Nat} {X : Nat → Option Nat} (h : fT ls L cl iv rv iv2 rv2) (hX : XT L cl ln L2 cl2 ln2) (he : rv3 = fun w j => if w = b then X j else rv2 w j) (hb : ty L2 cl2 b T) (hc : ls.contains T = true) : fT ls L cl iv rv iv2 rv3 := by
  intro w hw hq
  refine ⟨(h w hw hq).1, ?_⟩
  rw [he]
  funext j
  dsimp only
  rw [if_neg (fun e => ?_)]
  · rw [(h w hw hq).2]
  · subst e; rw [← (hX w hw).2.1, hb.2, hc] at hq; cases hq
set_option maxHeartbeats 4000000 in
set_option maxRecDepth 100000 in
theorem Z_copyO3_22 {l : Launch} {G : GT} {mi : Nat} {sk : Nat → Nat} {L : List Nat} {cl ln : Nat → Nat} {iv : Nat → Nat → Int} {rv : Nat → Nat → Option Nat}  {a0 : Nat} {n : Int} (hW : WT (g0 G) sk L cl ln iv rv) (hS : SKL sk L cl) (t_a0 : ty L cl a0 1000) (h_n : -2147483648 ≤ n ∧ n ≤ 2147483647) (hn : ((ln a0 : Nat) : Int) < n ∧ 10 ≤ n ∧ n ≤ 60) : Mc l G mi zPf 0 yJ7_copyOf_6403c cJ7_copyOf_6403c 4 (some (.array (.object "java/lang/Object"))) 1 [.ref a0, .int (iI n), .ref mi] L cl ln iv rv (16 + n.toNat) (fun v L2 cl2 ln2 iv2 rv2 => ∃ f : Nat, v = some (.ref f) ∧ XT L cl ln L2 cl2 ln2 ∧ fT [1000] L cl iv rv iv2 rv2 ∧ WT (g0 G) sk L2 cl2 ln2 iv2 rv2 ∧ ty L2 cl2 f 1000 ∧ (ln2 f = n.toNat ∧ cl2 f = cl a0 ∧ ∀ i : Nat, i < ln a0 → rv2 f i = rv a0 i)) := by
  refine Mc.mk (by decide) (Nat.le_of_ble_eq_true rfl) ?_
  intro p e s m args below meth c A C hM
  refine hv3 ((show zPf ln rv ≤ 0 from Nat.le_refl 0)) (show XT L cl ln L cl ln from XT.refl) (show fT [1000] L cl iv rv iv rv from fT.refl) (fun hph hX0 hF0 => ?_)
  refine c_aload_n (j := 2) (x := mi) C dJ7_copyOf_6403c_0 rfl ?_
  refine c_ldcM C hM dJ7_copyOf_6403c_1 w3_29 ?_
  refine c_acmp_ne (rx := some mi) (ry := some mi) (tgt := 13) C dJ7_copyOf_6403c_3 (by decide) (fun q => absurd rfl q) (fun _ => ?_)
  refine c_iload_n (j := 1) C dJ7_copyOf_6403c_6 rfl ?_
  refine c_newaO (z := n) (N := n.toNat) C (cl a0) dJ7_copyOf_6403c_7 w3_31 w3_30t (by rw [t_a0.2]; rfl) (by omega) (by omega) (rom2 hph hph (by omega)) (fun qn1 cln1 lnn1 ivn1 rvn1 hqn1 hcn1 hln1 hin1 hrn1 => ⟨(0 + (16 + n.toNat)), (z_in (by omega)), ?_⟩)
  refine c_g0 C (fun hg1 => ?_)
  refine hv5 (show ∀ b, b ≠ qn1 → lnn1 b = ln b from (fun b hb => by rw [hln1]; exact va_up_ne _ _ hb)) (show lnn1 qn1 = n.toNat from by rw [hln1]; exact va_up_self _ _ _) (hF0.new hX0 hqn1 hin1 hrn1) (show ty (L ++ [qn1]) cln1 qn1 1000 from ⟨List.mem_append_right _ List.mem_cons_self, by rw [hcn1, va_up_self]; exact t_a0.2⟩) (show cln1 qn1 = (cl a0) from by rw [hcn1]; exact va_up_self _ _ _) (fun hxn1 lqn1 F1 tqn1 clqn1 => ?_)
  refine hv2 (hW.new (ln2 := lnn1) hqn1 (hg1 qn1 (List.mem_append_right _ List.mem_cons_self)) hcn1 hxn1 hin1 hrn1 (fun _ => by rw [t_a0.2]; exact ⟨(show (-2147483648 : Int) ≤ 0 by decide), (show (0 : Int) ≤ 2147483647 by decide)⟩) (Or.inr (fun _ => by rw [t_a0.2]; rfl)) (fun _ => by rw [t_a0.2]; show 10 ≤ lnn1 qn1 ∧ lnn1 qn1 ≤ 60; omega) (by rw [t_a0.2]; rfl) (uq_big (by rw [t_a0.2]; decide))) (XT.new hqn1 hcn1 hxn1) (fun W1 xl1 => ?_)
  refine hv2 (hX0.trans xl1) (xl1.skl hS) (fun X1 sk1 => ?_)
  refine c_goto (tgt := 24) C dJ7_copyOf_6403c_10 (by decide) ?_
  refine c_astore_n (lv2 := [(3, .ref qn1), (0, .ref a0), (1, .int (iI n)), (2, .ref mi)]) C dJ7_copyOf_6403c_24 (by decide) rfl ?_
  refine c_aload_n (j := 1) (x := a0) C dJ7_copyOf_6403c_25 rfl ?_
  refine c_iconst C dJ7_copyOf_6403c_26 ?_
  refine c_aload_n (j := 0) (x := qn1) C dJ7_copyOf_6403c_27 rfl ?_
  refine c_iconst C dJ7_copyOf_6403c_28 ?_
  refine c_aload_n (j := 1) (x := a0) C dJ7_copyOf_6403c_29 rfl ?_
  have ty1 := xl1.ty t_a0
  have ll1 : 10 ≤ lnn1 a0 ∧ lnn1 a0 ≤ 60 := W1.len ty1 rfl
  refine c_alenO C dJ7_copyOf_6403c_30 ty1 rfl ?_
  refine c_iload_n (j := 2) C dJ7_copyOf_6403c_31 rfl ?_
  obtain ⟨mn1, hmn1, emn1⟩ := mmin_c (x := ((lnn1 a0 : Nat) : Int)) (y := n) ⟨by omega, by omega⟩ ⟨by omega, by omega⟩
  refine c_mmin (w := iI mn1) C dJ7_copyOf_6403c_32 w2_128 w2_129 w1_14 w2_130 (by decide) (rom0 hph (Nat.le_refl 0) (by omega)) (Nat.le_of_ble_eq_true rfl) emn1 ?_
  have le1 : lnn1 a0 = ln a0 := (xl1 a0 t_a0.1).2.2
  refine c_copyq (n := mn1) C ck_10 w8_183t dJ7_copyOf_6403c_35 w2_131 w2_133 w2_132 w1_15 ty1 rfl tqn1 rfl (fun i y hy => by
      rcases W1.opt ty1 i rfl rfl with qq | ⟨bb, q1, q2⟩
      · rw [qq.1] at hy; cases hy
      · rw [q1] at hy; cases hy; exact q2) rfl rfl (by decide) (by omega) (by omega) (by omega) (by omega) (by decide) (Nat.le_of_ble_eq_true rfl) (fun rv1 cq1 => ⟨(0 + (16 + n.toNat)), (zp2 (Nat.le_refl _)), ?_⟩)
  have hno : ∀ w ∈ (L ++ [qn1]), lst (bt (cln1 w)) = true → rvn1 w 1 ≠ some qn1 := by
    intro w hw hl3 e3
    rcases List.mem_append.mp hw with e4 | e4
    · have hwq : w ≠ qn1 := fun e => hqn1 (e ▸ e4)
      rw [hcn1, va_up_ne _ _ hwq] at hl3
      rw [hrn1, up0_a hwq] at e3
      rcases WT.ed hW e4 (lst_szd hl3) e3 with e5 | e5
      · exact hqn1 e5
      · exact hg1 qn1 tqn1.1 e5
    · have e5 := List.mem_singleton.mp e4
      rw [e5, tqn1.2] at hl3; cases hl3
  refine hv2 (W1.copyr (TB2 := 0) cq1 tqn1 ty1 (by decide) (fun _ _ => rfl) (fun _ => rfl) hno) (F1.copyr X1 cq1 tqn1 rfl) (fun W2 F2 => ?_)
  refine c_aload_n (j := 0) (x := qn1) C dJ7_copyOf_6403c_38 rfl ?_
  exact c_aret (x := some qn1) C dJ7_copyOf_6403c_39 rfl (Or.inr ⟨_, rfl⟩) (by omega) (rom0 hph (Nat.le_refl 0) (by omega)) ⟨qn1, rfl, X1, F2, W2, tqn1, ⟨by omega, clqn1, fun i hi => by
      rw [cq1]
      show (if qn1 = qn1 then _ else _) = rv a0 i
      rw [if_pos rfl, if_pos (by omega), hrn1]
      exact congrFun (up0_a (ne_in t_a0.1 hqn1)) i⟩⟩
set_option maxHeartbeats 4000000 in
set_option maxRecDepth 100000 in
theorem Z_copyO2_22 {l : Launch} {G : GT} {mi : Nat} {sk : Nat → Nat} {L : List Nat} {cl ln : Nat → Nat} {iv : Nat → Nat → Int} {rv : Nat → Nat → Option Nat}  {a0 : Nat} {n : Int} (hW : WT (g0 G) sk L cl ln iv rv) (hS : SKL sk L cl) (t_a0 : ty L cl a0 1000) (h_n : -2147483648 ≤ n ∧ n ≤ 2147483647) (hn : ((ln a0 : Nat) : Int) < n ∧ 10 ≤ n ∧ n ≤ 60) : Mc l G mi zPf 0 yJ7_copyOf_1904c cJ7_copyOf_1904c 2 (some (.array (.object "java/lang/Object"))) 2 [.ref a0, .int (iI n)] L cl ln iv rv (16 + n.toNat) (fun v L2 cl2 ln2 iv2 rv2 => ∃ f : Nat, v = some (.ref f) ∧ XT L cl ln L2 cl2 ln2 ∧ fT [1000] L cl iv rv iv2 rv2 ∧ WT (g0 G) sk L2 cl2 ln2 iv2 rv2 ∧ ty L2 cl2 f 1000 ∧ (ln2 f = n.toNat ∧ cl2 f = cl a0 ∧ ∀ i : Nat, i < ln a0 → rv2 f i = rv a0 i)) := by
  refine Mc.mk (by decide) (Nat.le_of_ble_eq_true rfl) ?_
  intro p e s m args below meth c A C hM
  refine hv3 ((show zPf ln rv ≤ 0 from Nat.le_refl 0)) (show XT L cl ln L cl ln from XT.refl) (show fT [1000] L cl iv rv iv rv from fT.refl) (fun hph hX0 hF0 => ?_)
  refine c_aload_n (j := 0) (x := a0) C dJ7_copyOf_1904c_0 rfl ?_
  refine c_iload_n (j := 1) C dJ7_copyOf_1904c_1 rfl ?_
  refine c_aload_n (j := 0) (x := a0) C dJ7_copyOf_1904c_2 rfl ?_
  refine c_getC C hM dJ7_copyOf_1904c_3 w3_8 w8_172 w3_9 w3_25 t_a0 rfl (by decide) (Nat.le_of_ble_eq_true rfl) ?_
  refine c_callS (As := [.ref a0, .int (iI n), .ref mi]) (rest := []) C hM (Z_copyO3_22 (a0 := a0) (n := n) hW hS t_a0 (by omega) (by show ((ln a0 : Nat) : Int) < n ∧ 10 ≤ n ∧ n ≤ 60; omega)) dJ7_copyOf_1904c_6 kS_J7_300 rfl rfl (Nat.le_of_ble_eq_true rfl) ⟨(Nat.le_of_ble_eq_true rfl), (Nat.le_of_ble_eq_true rfl)⟩ (rz0 hph (by omega)) (fun rh1 Lh1 clh1 lnh1 ivh1 rvh1 h1 => ⟨(0 + (16 + n.toNat)), zk0, ?_⟩)
  obtain ⟨f1, rfl, xl1, fl1, W1, rgf1, exf1⟩ := h1
  refine hv3 (hF0.call hX0 fl1 rfl) (hX0.trans xl1) (xl1.skl hS) (fun F1 X1 sk1 => ?_)
  refine c_st (st2 := [.ref f1]) rfl ?_
  have gf1 : lnh1 f1 = n.toNat ∧ clh1 f1 = cl a0 ∧ ∀ i : Nat, i < ln a0 → rvh1 f1 i = rv a0 i := exf1
  exact c_aret (x := some f1) C dJ7_copyOf_1904c_9 rfl (Or.inr ⟨_, rfl⟩) (by omega) (rom0 hph (Nat.le_refl 0) (by omega)) ⟨f1, rfl, X1, F1, W1, rgf1, exf1⟩
set_option maxHeartbeats 4000000 in
set_option maxRecDepth 100000 in
theorem C_growA_22 {l : Launch} {G : GT} {mi : Nat} {sk : Nat → Nat} {L : List Nat} {cl ln : Nat → Nat} {iv : Nat → Nat → Int} {rv : Nat → Nat → Option Nat}  {a0 : Nat} {n : Int} (hW : WT (g0 G) sk L cl ln iv rv) (hS : SKL sk L cl) (t_a0 : ty L cl a0 22) (h_n : -2147483648 ≤ n ∧ n ≤ 2147483647) (hed : rv a0 1 = some (g0 G)) (hn : n = 1 ∧ iv a0 2 = 0) : Mc l G mi (Phi (g0 G) sk) PHM yJx4a65c_grow_92f84 cJx4a65c_grow_92f84 4 (some (.array (.object "java/lang/Object"))) 3 [.ref a0, .int (iI n)] L cl ln iv rv 80 (fun v L2 cl2 ln2 iv2 rv2 => ∃ f : Nat, v = some (.ref f) ∧ XT L cl ln L2 cl2 ln2 ∧ fT [22, 1000] L cl iv rv iv2 rv2 ∧ WT (g0 G) sk L2 cl2 ln2 iv2 rv2 ∧ ty L2 cl2 f 1000 ∧ (rv2 a0 1 = some f ∧ iv2 a0 2 = iv a0 2 ∧ iv a0 2 + 1 ≤ ((ln2 f : Nat) : Int) ∧ cl2 f = 1000 + 5 * a0 + 0 ∧ ∀ i : Nat, (i : Int) < iv a0 2 → rv2 f i = el rv a0 i)) := by
  refine Mc.mk (by decide) (Nat.le_of_ble_eq_true rfl) ?_
  intro p e s m args below meth c A C hM
  refine hv3 (Phi.le hW hS) (show XT L cl ln L cl ln from XT.refl) (show fT [22, 1000] L cl iv rv iv rv from fT.refl) (fun hph hX0 hF0 => ?_)
  refine c_aload_n (j := 0) (x := a0) C dJx4a65c_grow_92f84_0 rfl ?_
  refine c_getr (k := 1) C ck_0 dJx4a65c_grow_92f84_1 w1_78 (by decide) t_a0 rfl rfl (by decide) rfl hed ?_
  refine c_st (st2 := [.ref (g0 G)]) rfl ?_
  refine c_tlen C dJx4a65c_grow_92f84_4 ?_
  refine c_istore_n (lv2 := [(2, .int (iI 0)), (0, .ref a0), (1, .int (iI n))]) C dJx4a65c_grow_92f84_5 (by decide) rfl ?_
  refine c_iload_n (j := 0) C dJx4a65c_grow_92f84_6 rfl ?_
  refine c_if_gt (tgt := 20) C ⟨by decide, by decide⟩ dJx4a65c_grow_92f84_7 (by decide) (fun z => absurd z (by omega)) (fun _ => ?_)
  refine c_aload_n (j := 1) (x := a0) C dJx4a65c_grow_92f84_10 rfl ?_
  refine c_getr (k := 1) C ck_0 dJx4a65c_grow_92f84_11 w1_78 (by decide) t_a0 rfl rfl (by decide) rfl hed ?_
  refine c_st (st2 := [.ref (g0 G)]) rfl ?_
  refine c_gets C dJx4a65c_grow_92f84_14 w1_76 ?_
  refine c_acmp_eq (rx := some (g0 G)) (ry := some (g0 G)) (tgt := 45) C dJx4a65c_grow_92f84_17 (by decide) (fun _ => ?_) (fun q => absurd rfl q)
  refine c_aload_n (j := 1) (x := a0) C dJx4a65c_grow_92f84_45 rfl ?_
  refine c_bipush (z := 10) C dJx4a65c_grow_92f84_46 (by decide) ?_
  refine c_iload_n (j := 2) C dJx4a65c_grow_92f84_48 rfl ?_
  obtain ⟨mn1, hmn1, emn1⟩ := mmax_c (x := 10) (y := n) ⟨by decide, by decide⟩ ⟨by omega, by omega⟩
  refine c_mmax (w := iI mn1) C dJx4a65c_grow_92f84_49 w3_32 w2_148 w1_14 w2_149 (by decide) (rom0 hph hph (by decide)) (Nat.le_of_ble_eq_true rfl) emn1 ?_
  refine c_newaO (z := mn1) (N := 10) C (1000 + 5 * a0 + 0) dJx4a65c_grow_92f84_52 w3_33 w3_30t (by rw [(bt_list (by decide))]; rfl) (by omega) (by omega) (rom2 hph hph (by omega)) (fun qn1 cln1 lnn1 ivn1 rvn1 hqn1 hcn1 hln1 hin1 hrn1 => ⟨(0 + (16 + 10)), (p_in (Phi.new hW hS hqn1 (fun b hb => by rw [hln1]; exact va_up_ne _ _ hb) hrn1) (by omega)), ?_⟩)
  refine c_g0 C (fun hg1 => ?_)
  refine hv5 (show ∀ b, b ≠ qn1 → lnn1 b = ln b from (fun b hb => by rw [hln1]; exact va_up_ne _ _ hb)) (show lnn1 qn1 = 10 from by rw [hln1]; exact va_up_self _ _ _) (hF0.new hX0 hqn1 hin1 hrn1) (show ty (L ++ [qn1]) cln1 qn1 1000 from ⟨List.mem_append_right _ List.mem_cons_self, by rw [hcn1, va_up_self]; exact (bt_list (by decide))⟩) (show cln1 qn1 = (1000 + 5 * a0 + 0) from by rw [hcn1]; exact va_up_self _ _ _) (fun hxn1 lqn1 F1 tqn1 clqn1 => ?_)
  refine hv2 (hW.new (ln2 := lnn1) hqn1 (hg1 qn1 (List.mem_append_right _ List.mem_cons_self)) hcn1 hxn1 hin1 hrn1 (fun _ => by rw [(bt_list (by decide))]; exact ⟨(show (-2147483648 : Int) ≤ 0 by decide), (show (0 : Int) ≤ 2147483647 by decide)⟩) (Or.inr (fun _ => by rw [(bt_list (by decide))]; rfl)) (fun _ => by rw [(bt_list (by decide))]; show 10 ≤ lnn1 qn1 ∧ lnn1 qn1 ≤ 60; omega) (by rw [(bt_list (by decide))]; rfl) (uq_big (by rw [(bt_list (by decide))]; decide))) (XT.new hqn1 hcn1 hxn1) (fun W1 xl1 => ?_)
  refine hv2 (hX0.trans xl1) (xl1.skl hS) (fun X1 sk1 => ?_)
  refine c_dup_x1 C dJx4a65c_grow_92f84_55 rfl rfl ?_
  refine hv2 (xl1.ty t_a0) (show rvn1 a0 1 = rv a0 1 from (by rw [hrn1]; exact congrFun (up0_a (ne_in t_a0.1 hqn1)) _)) (fun ty1 re1 => ?_)
  rw [hed] at re1
  refine hv2 (show 0 ≤ ivn1 a0 2 ∧ ivn1 a0 2 ≤ 30 from W1.int ty1 2) (show ivn1 a0 2 = iv a0 2 from by rw [hin1]; exact congrFun (up0_a (ne_in t_a0.1 hqn1)) _) (fun ri1 ie1 => ?_)
  refine c_putr (x := (some qn1)) (k := 1) C ck_0 dJx4a65c_grow_92f84_56 w1_78 (by decide) rfl ty1 rfl rfl (by decide) rfl (by rfl) (by rfl) (fun rv1 pq1 => ⟨80, (by rw [Phi.putr sk1 pq1 ty1 rfl]; omega), ?_⟩)
  refine hv3 (W1.led pq1 ty1 rfl tqn1.1 clqn1 (by omega) (fun i hi => absurd hi (by omega))) (F1.putr X1 pq1 ty1 rfl) (show rv1 a0 1 = (some qn1) from by rw [pq1]; exact upr_s) (fun W2 F2 rp1 => ?_)
  have pl1 := Phi.le W2 sk1
  exact c_aret (x := some qn1) C dJx4a65c_grow_92f84_59 rfl (Or.inr ⟨_, rfl⟩) (by decide) (rom0 hph pl1 (by decide)) ⟨qn1, rfl, X1, F2, W2, tqn1, ⟨rp1, (by omega), (by omega), clqn1, (fun i hi => absurd hi (by omega))⟩⟩
set_option maxHeartbeats 4000000 in
set_option maxRecDepth 100000 in
theorem C_growB_22 {l : Launch} {G : GT} {mi : Nat} {sk : Nat → Nat} {L : List Nat} {cl ln : Nat → Nat} {iv : Nat → Nat → Int} {rv : Nat → Nat → Option Nat}  {a0 : Nat} {n : Int} {b0 : Nat} (hW : WT (g0 G) sk L cl ln iv rv) (hS : SKL sk L cl) (t_a0 : ty L cl a0 22) (t_b0 : ty L cl b0 1000) (h_n : -2147483648 ≤ n ∧ n ≤ 2147483647) (hed : rv a0 1 = some b0) (hcb : cl b0 = 1000 + 5 * a0 + 0) (hn : n = iv a0 2 + 1 ∧ iv a0 2 = ((ln b0 : Nat) : Int) ∧ iv a0 2 < 30) : Mc l G mi (Phi (g0 G) sk) PHM yJx4a65c_grow_92f84 cJx4a65c_grow_92f84 4 (some (.array (.object "java/lang/Object"))) 3 [.ref a0, .int (iI n)] L cl ln iv rv 80 (fun v L2 cl2 ln2 iv2 rv2 => ∃ f : Nat, v = some (.ref f) ∧ XT L cl ln L2 cl2 ln2 ∧ fT [22, 1000] L cl iv rv iv2 rv2 ∧ WT (g0 G) sk L2 cl2 ln2 iv2 rv2 ∧ ty L2 cl2 f 1000 ∧ (rv2 a0 1 = some f ∧ iv2 a0 2 = iv a0 2 ∧ iv a0 2 + 1 ≤ ((ln2 f : Nat) : Int) ∧ cl2 f = 1000 + 5 * a0 + 0 ∧ ∀ i : Nat, (i : Int) < iv a0 2 → rv2 f i = el rv a0 i)) := by
  refine Mc.mk (by decide) (Nat.le_of_ble_eq_true rfl) ?_
  intro p e s m args below meth c A C hM
  refine hv3 (Phi.le hW hS) (show XT L cl ln L cl ln from XT.refl) (show fT [22, 1000] L cl iv rv iv rv from fT.refl) (fun hph hX0 hF0 => ?_)
  refine c_aload_n (j := 0) (x := a0) C dJx4a65c_grow_92f84_0 rfl ?_
  refine c_getr (k := 1) C ck_0 dJx4a65c_grow_92f84_1 w1_78 (by decide) t_a0 rfl rfl (by decide) rfl hed ?_
  refine c_st (st2 := [.ref b0]) rfl ?_
  have ll1 : 10 ≤ ln b0 ∧ ln b0 ≤ 60 := hW.len t_b0 rfl
  refine c_alenO C dJx4a65c_grow_92f84_4 t_b0 rfl ?_
  refine c_istore_n (lv2 := [(2, .int (iI ((ln b0 : Nat) : Int))), (0, .ref a0), (1, .int (iI n))]) C dJx4a65c_grow_92f84_5 (by decide) rfl ?_
  refine c_iload_n (j := 0) C dJx4a65c_grow_92f84_6 rfl ?_
  refine c_if_gt (tgt := 20) C ⟨by omega, by omega⟩ dJx4a65c_grow_92f84_7 (by decide) (fun _ => ?_) (fun z => absurd z (by omega))
  refine c_iload_n (j := 0) C dJx4a65c_grow_92f84_20 rfl ?_
  refine c_iload_n (j := 2) C dJx4a65c_grow_92f84_21 rfl ?_
  refine c_iload_n (j := 0) C dJx4a65c_grow_92f84_22 rfl ?_
  refine c_isub C dJx4a65c_grow_92f84_23 ?_
  refine c_iload_n (j := 0) C dJx4a65c_grow_92f84_24 rfl ?_
  refine c_iconst C dJx4a65c_grow_92f84_25 ?_
  obtain ⟨zz1, hzz1, ezz1⟩ := iI_of (iI ((ln b0 : Nat) : Int) >>> (iI 1 &&& 31))
  refine c_ishr (w := iI zz1) C dJx4a65c_grow_92f84_26 ezz1 ?_
  have shzz1 : zz1 = ((ln b0 : Nat) : Int) / 2 := (iI_eq hzz1 ⟨by omega, by omega⟩).mp (ezz1.symm.trans (shr1 ⟨by omega, by omega⟩))
  refine d_callS (As := [.int (iI ((ln b0 : Nat) : Int)), .int (iI (n - ((ln b0 : Nat) : Int))), .int (iI zz1)]) (rest := []) C hM (C_newLength (i := ((ln b0 : Nat) : Int)) (n := n - ((ln b0 : Nat) : Int)) (x := zz1) hW hS  (by omega) (by omega) (by omega) (by show 0 ≤ ((ln b0 : Nat) : Int) ∧ ((ln b0 : Nat) : Int) ≤ 100000 ∧ 1 ≤ (n - ((ln b0 : Nat) : Int)) ∧ (n - ((ln b0 : Nat) : Int)) ≤ 100000 ∧ 0 ≤ zz1 ∧ zz1 ≤ 100000; omega)) dJx4a65c_grow_92f84_27 kS_Jx4a65c_73 rfl rfl (Nat.le_of_ble_eq_true rfl) ⟨(Nat.le_of_ble_eq_true rfl), (Nat.le_of_ble_eq_true rfl)⟩ hph hph (show 0 + 0 = 0 from rfl) (by decide) (fun rh1 Lh1 clh1 lnh1 ivh1 rvh1 h1 => ?_)
  obtain ⟨f1, rfl, rfl, rfl, rfl, rfl, rfl, rgf1, exf1⟩ := h1
  refine c_st (st2 := [.int (iI f1)]) rfl ?_
  have gf1 : ((n - ((ln b0 : Nat) : Int)) ≤ zz1 ∧ f1 = ((ln b0 : Nat) : Int) + zz1) ∨ (zz1 < (n - ((ln b0 : Nat) : Int)) ∧ f1 = ((ln b0 : Nat) : Int) + (n - ((ln b0 : Nat) : Int))) := exf1
  refine c_istore_n (lv2 := [(3, .int (iI f1)), (2, .int (iI ((ln b0 : Nat) : Int))), (0, .ref a0), (1, .int (iI n))]) C dJx4a65c_grow_92f84_30 (by decide) rfl ?_
  refine c_aload_n (j := 2) (x := a0) C dJx4a65c_grow_92f84_31 rfl ?_
  refine c_aload_n (j := 2) (x := a0) C dJx4a65c_grow_92f84_32 rfl ?_
  refine c_getr (k := 1) C ck_0 dJx4a65c_grow_92f84_33 w1_78 (by decide) t_a0 rfl rfl (by decide) rfl hed ?_
  refine c_st (st2 := [.ref b0, .ref a0]) rfl ?_
  refine c_iload_n (j := 0) C dJx4a65c_grow_92f84_36 rfl ?_
  refine c_callS (As := [.ref b0, .int (iI f1)]) (rest := [.ref a0]) C hM (Z_copyO2_22 (a0 := b0) (n := f1) hW hS t_b0 (by omega) (by show ((ln b0 : Nat) : Int) < f1 ∧ 10 ≤ f1 ∧ f1 ≤ 60; omega)) dJx4a65c_grow_92f84_37 kS_Jx4a65c_66 rfl rfl (Nat.le_of_ble_eq_true rfl) ⟨(Nat.le_of_ble_eq_true rfl), (Nat.le_of_ble_eq_true rfl)⟩ (rz1 hph hph (by omega)) (fun rh2 Lh2 clh2 lnh2 ivh2 rvh2 h2 => ⟨(0 + (16 + f1.toNat)), (zk1 (by obtain ⟨_, _, xlh2x, flh2x, Wh2x, _⟩ := h2; exact Phi.fr hW hS xlh2x flh2x rfl)), ?_⟩)
  obtain ⟨f2, rfl, xl2, fl2, W2, rgf2, exf2⟩ := h2
  refine hv3 (hF0.call hX0 fl2 rfl) (hX0.trans xl2) (xl2.skl hS) (fun F1 X1 sk1 => ?_)
  refine c_st (st2 := [.ref f2, .ref a0]) rfl ?_
  have gf2 : lnh2 f2 = f1.toNat ∧ clh2 f2 = cl b0 ∧ ∀ i : Nat, i < ln b0 → rvh2 f2 i = rv b0 i := exf2
  refine c_dup_x1 C dJx4a65c_grow_92f84_40 rfl rfl ?_
  refine hv2 (xl2.ty t_a0) (show rvh2 a0 1 = rv a0 1 from (fl2.r t_a0 rfl 1)) (fun ty1 re1 => ?_)
  rw [hed] at re1
  refine hv2 (show 0 ≤ ivh2 a0 2 ∧ ivh2 a0 2 ≤ 30 from W2.int ty1 2) (show ivh2 a0 2 = iv a0 2 from fl2.i t_a0 rfl 2) (fun ri1 ie1 => ?_)
  refine c_putr (x := (some f2)) (k := 1) C ck_0 dJx4a65c_grow_92f84_41 w1_78 (by decide) rfl ty1 rfl rfl (by decide) rfl (by rfl) (by rfl) (fun rv1 pq1 => ⟨80, (by rw [Phi.putr sk1 pq1 ty1 rfl]; omega), ?_⟩)
  have W3 := W2.led pq1 ty1 rfl rgf2.1 (exf2.2.1.trans hcb) (by omega) (fun i hi => by
      rw [exf2.2.2 i (by omega)]
      exact hW.2.2.2.2.1 a0 t_a0.1 (by rw [t_a0.2]; rfl) b0 hed i (by omega))
  refine hv3 (F1.putr X1 pq1 ty1 rfl) (show rv1 a0 1 = (some f2) from by rw [pq1]; exact upr_s) (Phi.le W3 sk1) (fun F2 rp1 pl1 => ?_)
  exact c_aret (x := some f2) C dJx4a65c_grow_92f84_44 rfl (Or.inr ⟨_, rfl⟩) (by decide) (rom0 hph pl1 (by decide)) ⟨f2, rfl, X1, F2, W3, rgf2, ⟨rp1, (by omega), (by omega), (exf2.2.1.trans hcb), (fun i hi => by rw [el_of hed, pq1, upr_a (ne_ty rgf2 ty1 (by decide))]; exact exf2.2.2 i (by omega))⟩⟩
set_option maxHeartbeats 4000000 in
set_option maxRecDepth 100000 in
theorem C_grow0A_22 {l : Launch} {G : GT} {mi : Nat} {sk : Nat → Nat} {L : List Nat} {cl ln : Nat → Nat} {iv : Nat → Nat → Int} {rv : Nat → Nat → Option Nat}  {a0 : Nat} (hW : WT (g0 G) sk L cl ln iv rv) (hS : SKL sk L cl) (t_a0 : ty L cl a0 22) (hed : rv a0 1 = some (g0 G)) (hn : iv a0 2 = 0) : Mc l G mi (Phi (g0 G) sk) PHM yJx4a65c_grow_d5877 cJx4a65c_grow_d5877 1 (some (.array (.object "java/lang/Object"))) 4 [.ref a0] L cl ln iv rv 80 (fun v L2 cl2 ln2 iv2 rv2 => ∃ f : Nat, v = some (.ref f) ∧ XT L cl ln L2 cl2 ln2 ∧ fT [22, 1000] L cl iv rv iv2 rv2 ∧ WT (g0 G) sk L2 cl2 ln2 iv2 rv2 ∧ ty L2 cl2 f 1000 ∧ (rv2 a0 1 = some f ∧ iv2 a0 2 = iv a0 2 ∧ iv a0 2 + 1 ≤ ((ln2 f : Nat) : Int) ∧ cl2 f = 1000 + 5 * a0 + 0 ∧ ∀ i : Nat, (i : Int) < iv a0 2 → rv2 f i = el rv a0 i)) := by
  refine Mc.mk (by decide) (Nat.le_of_ble_eq_true rfl) ?_
  intro p e s m args below meth c A C hM
  refine hv3 (Phi.le hW hS) (show XT L cl ln L cl ln from XT.refl) (show fT [22, 1000] L cl iv rv iv rv from fT.refl) (fun hph hX0 hF0 => ?_)
  refine c_aload_n (j := 0) (x := a0) C dJx4a65c_grow_d5877_0 rfl ?_
  refine c_aload_n (j := 0) (x := a0) C dJx4a65c_grow_d5877_1 rfl ?_
  have ri1 : 0 ≤ iv a0 2 ∧ iv a0 2 ≤ 30 := hW.int t_a0 2
  refine c_get (k := 2) C ck_0 dJx4a65c_grow_d5877_2 w1_79 (by decide) t_a0 rfl rfl (by decide) rfl ?_
  refine c_iconst C dJx4a65c_grow_d5877_5 ?_
  refine c_iadd C dJx4a65c_grow_d5877_6 ?_
  refine d_callV (As := [.int (iI ((iv a0 2) + 1))]) (rest := []) C hM (C_growA_22 (a0 := a0) (n := (iv a0 2) + 1) hW hS t_a0 (by omega) hed (by show ((iv a0 2) + 1) = 1 ∧ iv a0 2 = 0; omega)) dJx4a65c_grow_d5877_7 kV_Jx4a65c_69 rfl t_a0 rfl rfl (by decide) ck_0 rfl (Nat.le_of_ble_eq_true rfl) ⟨(Nat.le_of_ble_eq_true rfl), (Nat.le_of_ble_eq_true rfl)⟩ hph hph (show 0 + 80 = 80 from rfl) (by decide) (fun rh1 Lh1 clh1 lnh1 ivh1 rvh1 h1 => ?_)
  obtain ⟨f1, rfl, xl1, fl1, W1, rgf1, exf1⟩ := h1
  refine hv3 (hF0.call hX0 fl1 rfl) (hX0.trans xl1) (xl1.skl hS) (fun F1 X1 sk1 => ?_)
  refine c_st (st2 := [.ref f1]) rfl ?_
  refine hv5 (xl1.ty t_a0) (show rvh1 a0 1 = some f1 ∧ ivh1 a0 2 = iv a0 2 ∧ iv a0 2 + 1 ≤ ((lnh1 f1 : Nat) : Int) ∧ clh1 f1 = 1000 + 5 * a0 + 0 ∧ ∀ i : Nat, (i : Int) < iv a0 2 → rvh1 f1 i = el rv a0 i from exf1) (exf1.2.2.1) (exf1.2.1) (Phi.le W1 sk1) (fun ty1 gf1 gzf1 gyf1 pl1 => ?_)
  have ri2 : 0 ≤ ivh1 a0 2 ∧ ivh1 a0 2 ≤ 30 := W1.int ty1 2
  exact c_aret (x := some f1) C dJx4a65c_grow_d5877_10 rfl (Or.inr ⟨_, rfl⟩) (by decide) (rom0 hph pl1 (by decide)) ⟨f1, rfl, X1, F1, W1, rgf1, exf1⟩
set_option maxHeartbeats 4000000 in
set_option maxRecDepth 100000 in
theorem C_grow0B_22 {l : Launch} {G : GT} {mi : Nat} {sk : Nat → Nat} {L : List Nat} {cl ln : Nat → Nat} {iv : Nat → Nat → Int} {rv : Nat → Nat → Option Nat}  {a0 : Nat} {b0 : Nat} (hW : WT (g0 G) sk L cl ln iv rv) (hS : SKL sk L cl) (t_a0 : ty L cl a0 22) (t_b0 : ty L cl b0 1000) (hed : rv a0 1 = some b0) (hcb : cl b0 = 1000 + 5 * a0 + 0) (hn : iv a0 2 = ((ln b0 : Nat) : Int) ∧ iv a0 2 < 30) : Mc l G mi (Phi (g0 G) sk) PHM yJx4a65c_grow_d5877 cJx4a65c_grow_d5877 1 (some (.array (.object "java/lang/Object"))) 4 [.ref a0] L cl ln iv rv 80 (fun v L2 cl2 ln2 iv2 rv2 => ∃ f : Nat, v = some (.ref f) ∧ XT L cl ln L2 cl2 ln2 ∧ fT [22, 1000] L cl iv rv iv2 rv2 ∧ WT (g0 G) sk L2 cl2 ln2 iv2 rv2 ∧ ty L2 cl2 f 1000 ∧ (rv2 a0 1 = some f ∧ iv2 a0 2 = iv a0 2 ∧ iv a0 2 + 1 ≤ ((ln2 f : Nat) : Int) ∧ cl2 f = 1000 + 5 * a0 + 0 ∧ ∀ i : Nat, (i : Int) < iv a0 2 → rv2 f i = el rv a0 i)) := by
  refine Mc.mk (by decide) (Nat.le_of_ble_eq_true rfl) ?_
  intro p e s m args below meth c A C hM
  refine hv3 (Phi.le hW hS) (show XT L cl ln L cl ln from XT.refl) (show fT [22, 1000] L cl iv rv iv rv from fT.refl) (fun hph hX0 hF0 => ?_)
  refine c_aload_n (j := 0) (x := a0) C dJx4a65c_grow_d5877_0 rfl ?_
  refine c_aload_n (j := 0) (x := a0) C dJx4a65c_grow_d5877_1 rfl ?_
  have ri1 : 0 ≤ iv a0 2 ∧ iv a0 2 ≤ 30 := hW.int t_a0 2
  refine c_get (k := 2) C ck_0 dJx4a65c_grow_d5877_2 w1_79 (by decide) t_a0 rfl rfl (by decide) rfl ?_
  refine c_iconst C dJx4a65c_grow_d5877_5 ?_
  refine c_iadd C dJx4a65c_grow_d5877_6 ?_
  refine d_callV (As := [.int (iI ((iv a0 2) + 1))]) (rest := []) C hM (C_growB_22 (a0 := a0) (n := (iv a0 2) + 1) (b0 := b0) hW hS t_a0 t_b0 (by omega) hed hcb (by show ((iv a0 2) + 1) = iv a0 2 + 1 ∧ iv a0 2 = ((ln b0 : Nat) : Int) ∧ iv a0 2 < 30; omega)) dJx4a65c_grow_d5877_7 kV_Jx4a65c_69 rfl t_a0 rfl rfl (by decide) ck_0 rfl (Nat.le_of_ble_eq_true rfl) ⟨(Nat.le_of_ble_eq_true rfl), (Nat.le_of_ble_eq_true rfl)⟩ hph hph (show 0 + 80 = 80 from rfl) (by decide) (fun rh1 Lh1 clh1 lnh1 ivh1 rvh1 h1 => ?_)
  obtain ⟨f1, rfl, xl1, fl1, W1, rgf1, exf1⟩ := h1
  refine hv3 (hF0.call hX0 fl1 rfl) (hX0.trans xl1) (xl1.skl hS) (fun F1 X1 sk1 => ?_)
  refine c_st (st2 := [.ref f1]) rfl ?_
  refine hv5 (xl1.ty t_a0) (show rvh1 a0 1 = some f1 ∧ ivh1 a0 2 = iv a0 2 ∧ iv a0 2 + 1 ≤ ((lnh1 f1 : Nat) : Int) ∧ clh1 f1 = 1000 + 5 * a0 + 0 ∧ ∀ i : Nat, (i : Int) < iv a0 2 → rvh1 f1 i = el rv a0 i from exf1) (exf1.2.2.1) (exf1.2.1) (Phi.le W1 sk1) (fun ty1 gf1 gzf1 gyf1 pl1 => ?_)
  have ri2 : 0 ≤ ivh1 a0 2 ∧ ivh1 a0 2 ≤ 30 := W1.int ty1 2
  exact c_aret (x := some f1) C dJx4a65c_grow_d5877_10 rfl (Or.inr ⟨_, rfl⟩) (by decide) (rom0 hph pl1 (by decide)) ⟨f1, rfl, X1, F1, W1, rgf1, exf1⟩
set_option maxHeartbeats 4000000 in
set_option maxRecDepth 100000 in
theorem C_add3A_22 {l : Launch} {G : GT} {mi : Nat} {sk : Nat → Nat} {L : List Nat} {cl ln : Nat → Nat} {iv : Nat → Nat → Int} {rv : Nat → Nat → Option Nat}  {a0 : Nat} {x : Nat} {n : Int} (hW : WT (g0 G) sk L cl ln iv rv) (hS : SKL sk L cl) (t_a0 : ty L cl a0 22) (t_x : ty L cl x 100) (h_n : -2147483648 ≤ n ∧ n ≤ 2147483647) (hed : rv a0 1 = some (g0 G)) (hn : n = iv a0 2 ∧ n = 0) : Mc l G mi (Phi (g0 G) sk) PHM yJx4a65c_add_72be8 cJx4a65c_add_72be8 4 none 5 [.ref a0, .ref x, .ref (g0 G), .int (iI n)] L cl ln iv rv 80 (fun v L2 cl2 ln2 iv2 rv2 => v = none ∧ XT L cl ln L2 cl2 ln2 ∧ fT [22, 1000] L cl iv rv iv2 rv2 ∧ WT (g0 G) sk L2 cl2 ln2 iv2 rv2 ∧ (iv2 a0 2 = iv a0 2 + 1 ∧ el rv2 a0 (iv a0 2).toNat = some x ∧ ∀ i : Nat, (i : Int) < iv a0 2 → el rv2 a0 i = el rv a0 i)) := by
  refine Mc.mk (by decide) (Nat.le_of_ble_eq_true rfl) ?_
  intro p e s m args below meth c A C hM
  refine hv3 (Phi.le hW hS) (show XT L cl ln L cl ln from XT.refl) (show fT [22, 1000] L cl iv rv iv rv from fT.refl) (fun hph hX0 hF0 => ?_)
  refine c_iload_n (j := 3) C dJx4a65c_add_72be8_0 rfl ?_
  refine c_aload_n (j := 2) (x := g0 G) C dJx4a65c_add_72be8_1 rfl ?_
  refine c_tlen C dJx4a65c_add_72be8_2 ?_
  refine c_icmp_ne (tgt := 11) C ⟨by omega, by omega⟩ ⟨by decide, by decide⟩ dJx4a65c_add_72be8_3 (by decide) (fun z => absurd z (by omega)) (fun _ => ?_)
  refine c_aload_n (j := 0) (x := a0) C dJx4a65c_add_72be8_6 rfl ?_
  have ri1 : 0 ≤ iv a0 2 ∧ iv a0 2 ≤ 30 := hW.int t_a0 2
  refine d_callV (As := []) (rest := []) C hM (C_grow0A_22 (a0 := a0) hW hS t_a0  hed (by show iv a0 2 = 0; omega)) dJx4a65c_add_72be8_7 kV_Jx4a65c_129 rfl t_a0 rfl rfl (by decide) ck_0 rfl (Nat.le_of_ble_eq_true rfl) ⟨(Nat.le_of_ble_eq_true rfl), (Nat.le_of_ble_eq_true rfl)⟩ hph hph (show 0 + 80 = 80 from rfl) (by decide) (fun rh1 Lh1 clh1 lnh1 ivh1 rvh1 h1 => ?_)
  obtain ⟨f1, rfl, xl1, fl1, W1, rgf1, exf1⟩ := h1
  refine hv3 (hF0.call hX0 fl1 rfl) (hX0.trans xl1) (xl1.skl hS) (fun F1 X1 sk1 => ?_)
  refine c_st (st2 := [.ref f1]) rfl ?_
  refine hv4 (xl1.ty t_a0) (show rvh1 a0 1 = some f1 ∧ ivh1 a0 2 = iv a0 2 ∧ iv a0 2 + 1 ≤ ((lnh1 f1 : Nat) : Int) ∧ clh1 f1 = 1000 + 5 * a0 + 0 ∧ ∀ i : Nat, (i : Int) < iv a0 2 → rvh1 f1 i = el rv a0 i from exf1) (exf1.2.2.1) (exf1.2.1) (fun ty1 gf1 gzf1 gyf1 => ?_)
  have ri2 : 0 ≤ ivh1 a0 2 ∧ ivh1 a0 2 ≤ 30 := W1.int ty1 2
  refine c_astore_n (lv2 := [(2, .ref f1), (0, .ref a0), (1, .ref x), (3, .int (iI n))]) C dJx4a65c_add_72be8_10 (by decide) rfl ?_
  refine c_aload_n (j := 0) (x := f1) C dJx4a65c_add_72be8_11 rfl ?_
  refine c_iload_n (j := 3) C dJx4a65c_add_72be8_12 rfl ?_
  refine c_aload_n (j := 2) (x := x) C dJx4a65c_add_72be8_13 rfl ?_
  refine hv2 (show 10 ≤ lnh1 f1 ∧ lnh1 f1 ≤ 60 from W1.len rgf1 rfl) (xl1.ty t_x) (fun ll1 ty2 => ?_)
  refine c_aastO (z := n) C ck_10 w8_183t dJx4a65c_add_72be8_14 rgf1 rfl ty2 rfl rfl (by decide) (by omega) (by omega) (by omega) (fun rv1 pq1 => ⟨80, (by rw [Phi.putr sk1 pq1 rgf1 rfl]; exact Nat.le_refl _), ?_⟩)
  refine hv2 (W1.lset pq1 rgf1 (by decide) ty2) (F1.putr X1 pq1 rgf1 rfl) (fun W2 F2 => ?_)
  refine c_aload_n (j := 1) (x := a0) C dJx4a65c_add_72be8_15 rfl ?_
  refine c_iload_n (j := 3) C dJx4a65c_add_72be8_16 rfl ?_
  refine c_iconst C dJx4a65c_add_72be8_17 ?_
  refine c_iadd C dJx4a65c_add_72be8_18 ?_
  refine c_put (z := n + 1) (k := 2) C ck_0 dJx4a65c_add_72be8_19 w1_79 (by decide) rfl ty1 rfl rfl (by decide) rfl (by rfl) (by rfl) (fun iv1 pq2 => ?_)
  have re1 : rv1 a0 1 = rvh1 a0 1 := (by rw [pq1]; exact congrFun (upr_a (ne_ty ty1 rgf1 (by decide))) _)
  rw [exf1.1] at re1
  refine hv3 (show rv1 f1 (ivh1 a0 2).toNat = some x from by rw [show (ivh1 a0 2).toNat = n.toNat by omega, pq1]; exact upr_s) (F2.puti X1 pq2 ty1 rfl) (show iv1 a0 2 = n + 1 from by rw [pq2]; exact up2_s) (fun px1 F3 ie2 => ?_)
  have W3 := W2.lapp pq2 ty1 rfl re1 rgf1.1 px1 (show (n + 1) = ivh1 a0 2 + 1 by omega) (show ivh1 a0 2 + 1 ≤ 30 by omega) (by omega) rfl
  refine hv2 (show 0 ≤ iv1 a0 2 ∧ iv1 a0 2 ≤ 30 from W3.int ty1 2) (Phi.le W3 sk1) (fun ri3 pl1 => ?_)
  exact c_vret C dJx4a65c_add_72be8_22 rfl (by decide) (rom0 hph pl1 (by decide)) ⟨rfl, X1, F3, W3, ⟨by omega, (by rw [el_of re1, show (iv a0 2).toNat = n.toNat by omega, pq1]; exact upr_s), fun i hi => (by rw [el_of re1, pq1, upr_j (by omega)]; exact exf1.2.2.2.2 i hi)⟩⟩
set_option maxHeartbeats 4000000 in
set_option maxRecDepth 100000 in
theorem C_add3B_22 {l : Launch} {G : GT} {mi : Nat} {sk : Nat → Nat} {L : List Nat} {cl ln : Nat → Nat} {iv : Nat → Nat → Int} {rv : Nat → Nat → Option Nat}  {a0 : Nat} {x : Nat} {b0 : Nat} {n : Int} (hW : WT (g0 G) sk L cl ln iv rv) (hS : SKL sk L cl) (t_a0 : ty L cl a0 22) (t_x : ty L cl x 100) (t_b0 : ty L cl b0 1000) (h_n : -2147483648 ≤ n ∧ n ≤ 2147483647) (hed : rv a0 1 = some b0) (hcb : cl b0 = 1000 + 5 * a0 + 0) (hn : n = iv a0 2 ∧ 0 ≤ n ∧ n ≤ ((ln b0 : Nat) : Int) ∧ n < 30) : Mc l G mi (Phi (g0 G) sk) PHM yJx4a65c_add_72be8 cJx4a65c_add_72be8 4 none 5 [.ref a0, .ref x, .ref b0, .int (iI n)] L cl ln iv rv 80 (fun v L2 cl2 ln2 iv2 rv2 => v = none ∧ XT L cl ln L2 cl2 ln2 ∧ fT [22, 1000] L cl iv rv iv2 rv2 ∧ WT (g0 G) sk L2 cl2 ln2 iv2 rv2 ∧ (iv2 a0 2 = iv a0 2 + 1 ∧ el rv2 a0 (iv a0 2).toNat = some x ∧ ∀ i : Nat, (i : Int) < iv a0 2 → el rv2 a0 i = el rv a0 i)) := by
  refine Mc.mk (by decide) (Nat.le_of_ble_eq_true rfl) ?_
  intro p e s m args below meth c A C hM
  refine hv3 (Phi.le hW hS) (show XT L cl ln L cl ln from XT.refl) (show fT [22, 1000] L cl iv rv iv rv from fT.refl) (fun hph hX0 hF0 => ?_)
  refine c_iload_n (j := 3) C dJx4a65c_add_72be8_0 rfl ?_
  refine c_aload_n (j := 2) (x := b0) C dJx4a65c_add_72be8_1 rfl ?_
  have ll1 : 10 ≤ ln b0 ∧ ln b0 ≤ 60 := hW.len t_b0 rfl
  refine c_alenO C dJx4a65c_add_72be8_2 t_b0 rfl ?_
  refine c_icmp_ne (tgt := 11) C ⟨by omega, by omega⟩ ⟨by omega, by omega⟩ dJx4a65c_add_72be8_3 (by decide) (fun c1 => ?_) (fun c1 => ?_)
  · refine c_aload_n (j := 2) (x := b0) C dJx4a65c_add_72be8_11 rfl ?_
    refine c_iload_n (j := 3) C dJx4a65c_add_72be8_12 rfl ?_
    refine c_aload_n (j := 1) (x := x) C dJx4a65c_add_72be8_13 rfl ?_
    refine c_aastO (z := n) C ck_10 w8_183t dJx4a65c_add_72be8_14 t_b0 rfl t_x rfl rfl (by decide) (by omega) (by omega) (by omega) (fun rv1 pq1 => ⟨0, (by rw [Phi.putr hS pq1 t_b0 rfl]; exact Nat.le_refl _), ?_⟩)
    refine hv2 (hW.lset pq1 t_b0 (by decide) t_x) (hF0.putr hX0 pq1 t_b0 rfl) (fun W1 F1 => ?_)
    refine c_aload_n (j := 0) (x := a0) C dJx4a65c_add_72be8_15 rfl ?_
    refine c_iload_n (j := 3) C dJx4a65c_add_72be8_16 rfl ?_
    refine c_iconst C dJx4a65c_add_72be8_17 ?_
    refine c_iadd C dJx4a65c_add_72be8_18 ?_
    refine c_put (z := n + 1) (k := 2) C ck_0 dJx4a65c_add_72be8_19 w1_79 (by decide) rfl t_a0 rfl rfl (by decide) rfl (by rfl) (by rfl) (fun iv1 pq2 => ?_)
    have re1 : rv1 a0 1 = rv a0 1 := (by rw [pq1]; exact congrFun (upr_a (ne_ty t_a0 t_b0 (by decide))) _)
    rw [hed] at re1
    refine hv3 (show rv1 b0 (iv a0 2).toNat = some x from by rw [show (iv a0 2).toNat = n.toNat by omega, pq1]; exact upr_s) (F1.puti hX0 pq2 t_a0 rfl) (show iv1 a0 2 = n + 1 from by rw [pq2]; exact up2_s) (fun px1 F2 ie1 => ?_)
    have W2 := W1.lapp pq2 t_a0 rfl re1 t_b0.1 px1 (show (n + 1) = iv a0 2 + 1 by omega) (show iv a0 2 + 1 ≤ 30 by omega) (by omega) rfl
    refine hv2 (show 0 ≤ iv1 a0 2 ∧ iv1 a0 2 ≤ 30 from W2.int t_a0 2) (Phi.le W2 hS) (fun ri1 pl1 => ?_)
    exact c_vret C dJx4a65c_add_72be8_22 rfl (by decide) (rom0 hph pl1 (by decide)) ⟨rfl, hX0, F2, W2, ⟨by omega, (by rw [el_of re1, show (iv a0 2).toNat = n.toNat by omega, pq1]; exact upr_s), fun i hi => (by rw [el_of re1, pq1, upr_j (by omega)]; exact (el_of hed).symm)⟩⟩
  · refine c_aload_n (j := 0) (x := a0) C dJx4a65c_add_72be8_6 rfl ?_
    have ri2 : 0 ≤ iv a0 2 ∧ iv a0 2 ≤ 30 := hW.int t_a0 2
    refine d_callV (As := []) (rest := []) C hM (C_grow0B_22 (a0 := a0) (b0 := b0) hW hS t_a0 t_b0  hed hcb (by show iv a0 2 = ((ln b0 : Nat) : Int) ∧ iv a0 2 < 30; omega)) dJx4a65c_add_72be8_7 kV_Jx4a65c_129 rfl t_a0 rfl rfl (by decide) ck_0 rfl (Nat.le_of_ble_eq_true rfl) ⟨(Nat.le_of_ble_eq_true rfl), (Nat.le_of_ble_eq_true rfl)⟩ hph hph (show 0 + 80 = 80 from rfl) (by decide) (fun rh1 Lh1 clh1 lnh1 ivh1 rvh1 h1 => ?_)
    obtain ⟨f1, rfl, xl1, fl1, W3, rgf1, exf1⟩ := h1
    refine hv3 (hF0.call hX0 fl1 rfl) (hX0.trans xl1) (xl1.skl hS) (fun F3 X1 sk1 => ?_)
    refine c_st (st2 := [.ref f1]) rfl ?_
    refine hv4 (xl1.ty t_a0) (show rvh1 a0 1 = some f1 ∧ ivh1 a0 2 = iv a0 2 ∧ iv a0 2 + 1 ≤ ((lnh1 f1 : Nat) : Int) ∧ clh1 f1 = 1000 + 5 * a0 + 0 ∧ ∀ i : Nat, (i : Int) < iv a0 2 → rvh1 f1 i = el rv a0 i from exf1) (exf1.2.2.1) (exf1.2.1) (fun ty1 gf1 gzf1 gyf1 => ?_)
    have ri3 : 0 ≤ ivh1 a0 2 ∧ ivh1 a0 2 ≤ 30 := W3.int ty1 2
    refine c_astore_n (lv2 := [(2, .ref f1), (0, .ref a0), (1, .ref x), (3, .int (iI n))]) C dJx4a65c_add_72be8_10 (by decide) rfl ?_
    refine c_aload_n (j := 0) (x := f1) C dJx4a65c_add_72be8_11 rfl ?_
    refine c_iload_n (j := 3) C dJx4a65c_add_72be8_12 rfl ?_
    refine c_aload_n (j := 2) (x := x) C dJx4a65c_add_72be8_13 rfl ?_
    refine hv2 (show 10 ≤ lnh1 f1 ∧ lnh1 f1 ≤ 60 from W3.len rgf1 rfl) (xl1.ty t_x) (fun ll2 ty2 => ?_)
    refine c_aastO (z := n) C ck_10 w8_183t dJx4a65c_add_72be8_14 rgf1 rfl ty2 rfl rfl (by decide) (by omega) (by omega) (by omega) (fun rv2 pq3 => ⟨80, (by rw [Phi.putr sk1 pq3 rgf1 rfl]; exact Nat.le_refl _), ?_⟩)
    refine hv2 (W3.lset pq3 rgf1 (by decide) ty2) (F3.putr X1 pq3 rgf1 rfl) (fun W4 F4 => ?_)
    refine c_aload_n (j := 1) (x := a0) C dJx4a65c_add_72be8_15 rfl ?_
    refine c_iload_n (j := 3) C dJx4a65c_add_72be8_16 rfl ?_
    refine c_iconst C dJx4a65c_add_72be8_17 ?_
    refine c_iadd C dJx4a65c_add_72be8_18 ?_
    refine c_put (z := n + 1) (k := 2) C ck_0 dJx4a65c_add_72be8_19 w1_79 (by decide) rfl ty1 rfl rfl (by decide) rfl (by rfl) (by rfl) (fun iv2 pq4 => ?_)
    have re2 : rv2 a0 1 = rvh1 a0 1 := (by rw [pq3]; exact congrFun (upr_a (ne_ty ty1 rgf1 (by decide))) _)
    rw [exf1.1] at re2
    refine hv3 (show rv2 f1 (ivh1 a0 2).toNat = some x from by rw [show (ivh1 a0 2).toNat = n.toNat by omega, pq3]; exact upr_s) (F4.puti X1 pq4 ty1 rfl) (show iv2 a0 2 = n + 1 from by rw [pq4]; exact up2_s) (fun px2 F5 ie3 => ?_)
    have W5 := W4.lapp pq4 ty1 rfl re2 rgf1.1 px2 (show (n + 1) = ivh1 a0 2 + 1 by omega) (show ivh1 a0 2 + 1 ≤ 30 by omega) (by omega) rfl
    refine hv2 (show 0 ≤ iv2 a0 2 ∧ iv2 a0 2 ≤ 30 from W5.int ty1 2) (Phi.le W5 sk1) (fun ri4 pl2 => ?_)
    exact c_vret C dJx4a65c_add_72be8_22 rfl (by decide) (rom0 hph pl2 (by decide)) ⟨rfl, X1, F5, W5, ⟨by omega, (by rw [el_of re2, show (iv a0 2).toNat = n.toNat by omega, pq3]; exact upr_s), fun i hi => (by rw [el_of re2, pq3, upr_j (by omega)]; exact exf1.2.2.2.2 i hi)⟩⟩
set_option maxHeartbeats 4000000 in
set_option maxRecDepth 100000 in
theorem C_add_22 {l : Launch} {G : GT} {mi : Nat} {sk : Nat → Nat} {L : List Nat} {cl ln : Nat → Nat} {iv : Nat → Nat → Int} {rv : Nat → Nat → Option Nat}  {a0 : Nat} {x : Nat} (hW : WT (g0 G) sk L cl ln iv rv) (hS : SKL sk L cl) (t_a0 : ty L cl a0 22) (t_x : ty L cl x 100) (hn : iv a0 2 < 30) : Mc l G mi (Phi (g0 G) sk) PHM yJx4a65c_add_9ea2d cJx4a65c_add_9ea2d 2 (some .boolean) 6 [.ref a0, .ref x] L cl ln iv rv 80 (fun v L2 cl2 ln2 iv2 rv2 => ∃ f : Int, v = some (.int (iI f)) ∧ XT L cl ln L2 cl2 ln2 ∧ fT [22, 1000] L cl iv rv iv2 rv2 ∧ WT (g0 G) sk L2 cl2 ln2 iv2 rv2 ∧ (f = 0 ∨ f = 1) ∧ (iv2 a0 2 = iv a0 2 + 1 ∧ el rv2 a0 (iv a0 2).toNat = some x ∧ ∀ i : Nat, (i : Int) < iv a0 2 → el rv2 a0 i = el rv a0 i)) := by
  refine Mc.mk (by decide) (Nat.le_of_ble_eq_true rfl) ?_
  intro p e s m args below meth c A C hM
  refine hv3 (Phi.le hW hS) (show XT L cl ln L cl ln from XT.refl) (show fT [22, 1000] L cl iv rv iv rv from fT.refl) (fun hph hX0 hF0 => ?_)
  refine c_aload_n (j := 0) (x := a0) C dJx4a65c_add_9ea2d_0 rfl ?_
  refine c_dup C dJx4a65c_add_9ea2d_1 rfl ?_
  have ri1 : (-2147483648) ≤ iv a0 0 ∧ iv a0 0 ≤ 2147483647 := hW.int t_a0 0
  refine c_getU (k := 0) C ck_0 dJx4a65c_add_9ea2d_2 w1_81 w1_82 (by decide) t_a0 rfl rfl (by decide) rfl ?_
  refine c_iconst C dJx4a65c_add_9ea2d_5 ?_
  refine c_iadd C dJx4a65c_add_9ea2d_6 ?_
  obtain ⟨zz1, hzz1, ezz1⟩ := iI_of (iI ((iv a0 0) + 1))
  refine c_st (st2 := [.int (iI zz1), .ref a0]) (by rw [ezz1]) ?_
  refine c_putU (z := zz1) (k := 0) C ck_0 dJx4a65c_add_9ea2d_7 w1_81 w1_82 (by decide) rfl t_a0 rfl rfl (by decide) rfl (by rfl) (by rfl) (fun iv1 pq1 => ?_)
  refine hv2 (hW.puti pq1 t_a0 (show (-2147483648) ≤ zz1 ∧ zz1 ≤ 2147483647 by omega) rfl) (hF0.puti hX0 pq1 t_a0 rfl) (fun W1 F1 => ?_)
  refine c_aload_n (j := 0) (x := a0) C dJx4a65c_add_9ea2d_10 rfl ?_
  refine c_aload_n (j := 1) (x := x) C dJx4a65c_add_9ea2d_11 rfl ?_
  refine c_aload_n (j := 0) (x := a0) C dJx4a65c_add_9ea2d_12 rfl ?_
  refine hv2 (show 0 ≤ iv1 a0 2 ∧ iv1 a0 2 ≤ 30 from W1.int t_a0 2) (show iv1 a0 2 = iv a0 2 from by rw [pq1]; exact up2_j (by decide)) (fun ri2 ie1 => ?_)
  rcases W1.edc t_a0 rfl rfl with ⟨eq1, zeb1⟩ | ⟨eb1, eq1, teb1, ceb1, zeb1⟩
  · refine c_getr (k := 1) C ck_0 dJx4a65c_add_9ea2d_13 w1_78 (by decide) t_a0 rfl rfl (by decide) rfl eq1 ?_
    refine c_st (st2 := [.ref (g0 G), .ref x, .ref a0]) rfl ?_
    refine c_aload_n (j := 0) (x := a0) C dJx4a65c_add_9ea2d_16 rfl ?_
    refine c_get (k := 2) C ck_0 dJx4a65c_add_9ea2d_17 w1_79 (by decide) t_a0 rfl rfl (by decide) rfl ?_
    refine d_callV (As := [.ref x, .ref (g0 G), .int (iI (iv1 a0 2))]) (rest := []) C hM (C_add3A_22 (a0 := a0) (x := x) (n := iv1 a0 2) W1 hS t_a0 t_x (by omega) eq1 (by show (iv1 a0 2) = iv1 a0 2 ∧ (iv1 a0 2) = 0; omega)) dJx4a65c_add_9ea2d_20 kV_Jx4a65c_131 rfl t_a0 rfl rfl (by decide) ck_0 rfl (Nat.le_of_ble_eq_true rfl) ⟨(Nat.le_of_ble_eq_true rfl), (Nat.le_of_ble_eq_true rfl)⟩ hph hph (show 0 + 80 = 80 from rfl) (by decide) (fun rh1 Lh1 clh1 lnh1 ivh1 rvh1 h1 => ?_)
    obtain ⟨rfl, xl1, fl1, W2, exf1⟩ := h1
    refine hv3 (F1.call hX0 fl1 rfl) (hX0.trans xl1) (xl1.skl hS) (fun F2 X1 sk1 => ?_)
    refine c_st (st2 := []) rfl ?_
    refine hv2 (xl1.ty t_a0) (show ivh1 a0 2 = iv1 a0 2 + 1 ∧ el rvh1 a0 (iv1 a0 2).toNat = some x ∧ ∀ i : Nat, (i : Int) < iv1 a0 2 → el rvh1 a0 i = el rv a0 i from exf1) (fun ty1 gf1 => ?_)
    have ri3 : 0 ≤ ivh1 a0 2 ∧ ivh1 a0 2 ≤ 30 := W2.int ty1 2
    refine c_iconst C dJx4a65c_add_9ea2d_23 ?_
    have pl1 := Phi.le W2 sk1
    exact c_zret C dJx4a65c_add_9ea2d_24 rfl (Or.inr rfl) (by decide) (rom0 hph pl1 (by decide)) ⟨1, rfl, X1, F2, W2, (Or.inr rfl), ⟨by omega, (by rw [show (iv a0 2).toNat = (iv1 a0 2).toNat by omega]; exact exf1.2.1), fun i hi => exf1.2.2 i (by omega)⟩⟩
  · have lneb1 : 10 ≤ ln eb1 ∧ ln eb1 ≤ 60 := W1.len teb1 rfl
    refine c_getr (k := 1) C ck_0 dJx4a65c_add_9ea2d_13 w1_78 (by decide) t_a0 rfl rfl (by decide) rfl eq1 ?_
    refine c_st (st2 := [.ref eb1, .ref x, .ref a0]) rfl ?_
    refine c_aload_n (j := 0) (x := a0) C dJx4a65c_add_9ea2d_16 rfl ?_
    refine c_get (k := 2) C ck_0 dJx4a65c_add_9ea2d_17 w1_79 (by decide) t_a0 rfl rfl (by decide) rfl ?_
    refine d_callV (As := [.ref x, .ref eb1, .int (iI (iv1 a0 2))]) (rest := []) C hM (C_add3B_22 (a0 := a0) (x := x) (b0 := eb1) (n := iv1 a0 2) W1 hS t_a0 t_x teb1 (by omega) eq1 ceb1 (by show (iv1 a0 2) = iv1 a0 2 ∧ 0 ≤ (iv1 a0 2) ∧ (iv1 a0 2) ≤ ((ln eb1 : Nat) : Int) ∧ (iv1 a0 2) < 30; omega)) dJx4a65c_add_9ea2d_20 kV_Jx4a65c_131 rfl t_a0 rfl rfl (by decide) ck_0 rfl (Nat.le_of_ble_eq_true rfl) ⟨(Nat.le_of_ble_eq_true rfl), (Nat.le_of_ble_eq_true rfl)⟩ hph hph (show 0 + 80 = 80 from rfl) (by decide) (fun rh2 Lh2 clh2 lnh2 ivh2 rvh2 h2 => ?_)
    obtain ⟨rfl, xl2, fl2, W3, exf2⟩ := h2
    refine hv3 (F1.call hX0 fl2 rfl) (hX0.trans xl2) (xl2.skl hS) (fun F3 X2 sk2 => ?_)
    refine c_st (st2 := []) rfl ?_
    refine hv2 (xl2.ty t_a0) (show ivh2 a0 2 = iv1 a0 2 + 1 ∧ el rvh2 a0 (iv1 a0 2).toNat = some x ∧ ∀ i : Nat, (i : Int) < iv1 a0 2 → el rvh2 a0 i = el rv a0 i from exf2) (fun ty2 gf2 => ?_)
    have ri4 : 0 ≤ ivh2 a0 2 ∧ ivh2 a0 2 ≤ 30 := W3.int ty2 2
    refine c_iconst C dJx4a65c_add_9ea2d_23 ?_
    have pl2 := Phi.le W3 sk2
    exact c_zret C dJx4a65c_add_9ea2d_24 rfl (Or.inr rfl) (by decide) (rom0 hph pl2 (by decide)) ⟨1, rfl, X2, F3, W3, (Or.inr rfl), ⟨by omega, (by rw [show (iv a0 2).toNat = (iv1 a0 2).toNat by omega]; exact exf2.2.1), fun i hi => exf2.2.2 i (by omega)⟩⟩
set_option maxHeartbeats 4000000 in
set_option maxRecDepth 100000 in
theorem C_fastRemove_22 {l : Launch} {G : GT} {mi : Nat} {sk : Nat → Nat} {L : List Nat} {cl ln : Nat → Nat} {iv : Nat → Nat → Int} {rv : Nat → Nat → Option Nat}  {a0 : Nat} {b0 : Nat} {i : Int} (hW : WT (g0 G) sk L cl ln iv rv) (hS : SKL sk L cl) (t_a0 : ty L cl a0 22) (t_b0 : ty L cl b0 1000) (h_i : -2147483648 ≤ i ∧ i ≤ 2147483647) (hed : rv a0 1 = some b0) (hcb : cl b0 = 1000 + 5 * a0 + 0) (hi : i = iv a0 2 - 1 ∧ 0 ≤ i ∧ iv a0 2 ≤ ((ln b0 : Nat) : Int)) : Mc l G mi (Phi (g0 G) sk) PHM yJx4a65c_fastRemove_b59b0 cJx4a65c_fastRemove_b59b0 4 none 0 [.ref a0, .ref b0, .int (iI i)] L cl ln iv rv 0 (fun v L2 cl2 ln2 iv2 rv2 => v = none ∧ L = L2 ∧ cl = cl2 ∧ ln = ln2 ∧ fT [22, 1000] L cl iv rv iv2 rv2 ∧ WT (g0 G) sk L2 cl2 ln2 iv2 rv2 ∧ (iv2 a0 2 = iv a0 2 - 1 ∧ ∀ j : Nat, (j : Int) < iv a0 2 - 1 → el rv2 a0 j = el rv a0 j)) := by
  refine Mc.mk (by decide) (Nat.le_of_ble_eq_true rfl) ?_
  intro p e s m args below meth c A C hM
  refine hv3 (Phi.le hW hS) (show XT L cl ln L cl ln from XT.refl) (show fT [22, 1000] L cl iv rv iv rv from fT.refl) (fun hph hX0 hF0 => ?_)
  refine c_aload_n (j := 0) (x := a0) C dJx4a65c_fastRemove_b59b0_0 rfl ?_
  refine c_dup C dJx4a65c_fastRemove_b59b0_1 rfl ?_
  have ri1 : (-2147483648) ≤ iv a0 0 ∧ iv a0 0 ≤ 2147483647 := hW.int t_a0 0
  refine c_getU (k := 0) C ck_0 dJx4a65c_fastRemove_b59b0_2 w1_81 w1_82 (by decide) t_a0 rfl rfl (by decide) rfl ?_
  refine c_iconst C dJx4a65c_fastRemove_b59b0_5 ?_
  refine c_iadd C dJx4a65c_fastRemove_b59b0_6 ?_
  obtain ⟨zz1, hzz1, ezz1⟩ := iI_of (iI ((iv a0 0) + 1))
  refine c_st (st2 := [.int (iI zz1), .ref a0]) (by rw [ezz1]) ?_
  refine c_putU (z := zz1) (k := 0) C ck_0 dJx4a65c_fastRemove_b59b0_7 w1_81 w1_82 (by decide) rfl t_a0 rfl rfl (by decide) rfl (by rfl) (by rfl) (fun iv1 pq1 => ?_)
  refine hv2 (hW.puti pq1 t_a0 (show (-2147483648) ≤ zz1 ∧ zz1 ≤ 2147483647 by omega) rfl) (hF0.puti hX0 pq1 t_a0 rfl) (fun W1 F1 => ?_)
  refine c_aload_n (j := 0) (x := a0) C dJx4a65c_fastRemove_b59b0_10 rfl ?_
  refine hv2 (show 0 ≤ iv1 a0 2 ∧ iv1 a0 2 ≤ 30 from W1.int t_a0 2) (show iv1 a0 2 = iv a0 2 from by rw [pq1]; exact up2_j (by decide)) (fun ri2 ie1 => ?_)
  refine c_get (k := 2) C ck_0 dJx4a65c_fastRemove_b59b0_11 w1_79 (by decide) t_a0 rfl rfl (by decide) rfl ?_
  refine c_iconst C dJx4a65c_fastRemove_b59b0_14 ?_
  refine c_isub C dJx4a65c_fastRemove_b59b0_15 ?_
  refine c_dup C dJx4a65c_fastRemove_b59b0_16 rfl ?_
  refine c_istore_n (lv2 := [(3, .int (iI ((iv1 a0 2) - 1))), (0, .ref a0), (1, .ref b0), (2, .int (iI i))]) C dJx4a65c_fastRemove_b59b0_17 (by decide) rfl ?_
  refine c_iload_n (j := 3) C dJx4a65c_fastRemove_b59b0_18 rfl ?_
  refine c_icmp_le (tgt := 34) C ⟨by omega, by omega⟩ ⟨by omega, by omega⟩ dJx4a65c_fastRemove_b59b0_19 (by decide) (fun _ => ?_) (fun z => absurd z (by omega))
  refine c_aload_n (j := 2) (x := b0) C dJx4a65c_fastRemove_b59b0_34 rfl ?_
  refine c_aload_n (j := 1) (x := a0) C dJx4a65c_fastRemove_b59b0_35 rfl ?_
  refine c_iload_n (j := 0) C dJx4a65c_fastRemove_b59b0_36 rfl ?_
  refine c_dup_x1 C dJx4a65c_fastRemove_b59b0_37 rfl rfl ?_
  refine c_put (z := (iv1 a0 2) - 1) (k := 2) C ck_0 dJx4a65c_fastRemove_b59b0_38 w1_79 (by decide) rfl t_a0 rfl rfl (by decide) rfl (by rfl) (by rfl) (fun iv2 pq2 => ?_)
  refine hv2 (W1.lsz pq2 t_a0 rfl (show 0 ≤ ((iv1 a0 2) - 1) ∧ ((iv1 a0 2) - 1) ≤ iv1 a0 2 by omega)) (F1.puti hX0 pq2 t_a0 rfl) (fun W2 F2 => ?_)
  refine c_null C dJx4a65c_fastRemove_b59b0_41 ?_
  have ll1 : 10 ≤ ln b0 ∧ ln b0 ≤ 60 := W2.len t_b0 rfl
  refine c_aastNO (z := (iv1 a0 2) - 1) C dJx4a65c_fastRemove_b59b0_42 t_b0 rfl (by omega) (by omega) (by omega) (fun rv1 pq3 => ⟨0, (by rw [Phi.putr hS pq3 t_b0 rfl]; exact Nat.le_refl _), ?_⟩)
  refine hv4 (show 0 ≤ iv2 a0 2 ∧ iv2 a0 2 ≤ 30 from W2.int t_a0 2) (show iv2 a0 2 = (iv1 a0 2) - 1 from by rw [pq2]; exact up2_s) (F2.putr hX0 pq3 t_b0 rfl) (show rv1 a0 1 = rv a0 1 from (by rw [pq3]; exact congrFun (upr_a (ne_ty t_a0 t_b0 (by decide))) _)) (fun ri3 ie2 F3 re1 => ?_)
  have W3 := W2.lnull (a := a0) (k := 0) pq3 t_b0 (by decide) rfl hcb (by decide) (show iv2 a0 2 ≤ ((((iv1 a0 2) - 1).toNat : Nat) : Int) by omega)
  rw [hed] at re1
  have pl1 := Phi.le W3 hS
  exact c_vret C dJx4a65c_fastRemove_b59b0_43 rfl (by decide) (rom0 hph pl1 (by decide)) ⟨rfl, rfl, rfl, rfl, F3, W3, ⟨by omega, fun j hj => (by rw [el_of re1, el_of hed, pq3, upr_j (by omega)])⟩⟩
set_option maxHeartbeats 4000000 in
set_option maxRecDepth 100000 in
theorem C_remove_22 {l : Launch} {G : GT} {mi : Nat} {sk : Nat → Nat} {L : List Nat} {cl ln : Nat → Nat} {iv : Nat → Nat → Int} {rv : Nat → Nat → Option Nat}  {a0 : Nat} {i : Int} (hW : WT (g0 G) sk L cl ln iv rv) (hS : SKL sk L cl) (t_a0 : ty L cl a0 22) (h_i : -2147483648 ≤ i ∧ i ≤ 2147483647) (hi : i = iv a0 2 - 1 ∧ 0 ≤ i) : Mc l G mi (Phi (g0 G) sk) PHM yJx4a65c_remove_915e3 cJx4a65c_remove_915e3 4 (some (.object "java/lang/Object")) 2 [.ref a0, .int (iI i)] L cl ln iv rv 0 (fun v L2 cl2 ln2 iv2 rv2 => ∃ f : Nat, v = some (.ref f) ∧ L = L2 ∧ cl = cl2 ∧ ln = ln2 ∧ fT [22, 1000] L cl iv rv iv2 rv2 ∧ WT (g0 G) sk L2 cl2 ln2 iv2 rv2 ∧ ty L2 cl2 f 100 ∧ (iv2 a0 2 = iv a0 2 - 1 ∧ ∀ j : Nat, (j : Int) < iv a0 2 - 1 → el rv2 a0 j = el rv a0 j) ∧ (el rv a0 (iv a0 2 - 1).toNat = some f)) := by
  refine Mc.mk (by decide) (Nat.le_of_ble_eq_true rfl) ?_
  intro p e s m args below meth c A C hM
  refine hv3 (Phi.le hW hS) (show XT L cl ln L cl ln from XT.refl) (show fT [22, 1000] L cl iv rv iv rv from fT.refl) (fun hph hX0 hF0 => ?_)
  refine c_iload_n (j := 1) C dJx4a65c_remove_915e3_0 rfl ?_
  refine c_aload_n (j := 0) (x := a0) C dJx4a65c_remove_915e3_1 rfl ?_
  have ri1 : 0 ≤ iv a0 2 ∧ iv a0 2 ≤ 30 := hW.int t_a0 2
  refine c_get (k := 2) C ck_0 dJx4a65c_remove_915e3_2 w1_79 (by decide) t_a0 rfl rfl (by decide) rfl ?_
  refine d_callS (As := [.int (iI i), .int (iI (iv a0 2))]) (rest := []) C hM (C_checkIndex2 (i := i) (n := iv a0 2) hW hS  (by omega) (by omega) (by show 0 ≤ i ∧ i < (iv a0 2); omega)) dJx4a65c_remove_915e3_5 kS_Jx4a65c_118 rfl rfl (Nat.le_of_ble_eq_true rfl) ⟨(Nat.le_of_ble_eq_true rfl), (Nat.le_of_ble_eq_true rfl)⟩ hph hph (show 0 + 0 = 0 from rfl) (by decide) (fun rh1 Lh1 clh1 lnh1 ivh1 rvh1 h1 => ?_)
  obtain ⟨f1, rfl, rfl, rfl, rfl, rfl, rfl, rgf1, exf1⟩ := h1
  refine c_st (st2 := [.int (iI f1)]) rfl ?_
  have gf1 : f1 = i := exf1
  refine c_pop C dJx4a65c_remove_915e3_8 rfl ?_
  refine c_aload_n (j := 0) (x := a0) C dJx4a65c_remove_915e3_9 rfl ?_
  obtain ⟨eb1, eq1, teb1, ceb1, zeb1⟩ := hW.ed2 t_a0 rfl rfl (by omega)
  have lneb1 : 10 ≤ ln eb1 ∧ ln eb1 ≤ 60 := hW.len teb1 rfl
  refine c_getr (k := 1) C ck_0 dJx4a65c_remove_915e3_10 w1_78 (by decide) t_a0 rfl rfl (by decide) rfl eq1 ?_
  refine c_st (st2 := [.ref eb1]) rfl ?_
  refine c_astore_n (lv2 := [(2, .ref eb1), (0, .ref a0), (1, .int (iI i))]) C dJx4a65c_remove_915e3_13 (by decide) rfl ?_
  refine c_aload_n (j := 0) (x := eb1) C dJx4a65c_remove_915e3_14 rfl ?_
  refine c_iload_n (j := 2) C dJx4a65c_remove_915e3_15 rfl ?_
  have ll1 : 10 ≤ ln eb1 ∧ ln eb1 ≤ 60 := hW.len teb1 rfl
  obtain ⟨nb1, nq1, tnb1⟩ := hW.elem t_a0 rfl eq1 teb1 rfl rfl (i := i.toNat) (by omega)
  have tnb1 : ty L cl nb1 100 := tnb1
  refine c_aaldO C dJx4a65c_remove_915e3_16 teb1 rfl (by omega) (by omega) (by omega) nq1 ?_
  refine c_st (st2 := [.ref nb1]) rfl ?_
  refine c_astore_n (lv2 := [(3, .ref nb1), (2, .ref eb1), (0, .ref a0), (1, .int (iI i))]) C dJx4a65c_remove_915e3_17 (by decide) rfl ?_
  refine c_aload_n (j := 2) (x := a0) C dJx4a65c_remove_915e3_18 rfl ?_
  refine c_aload_n (j := 1) (x := eb1) C dJx4a65c_remove_915e3_19 rfl ?_
  refine c_iload_n (j := 3) C dJx4a65c_remove_915e3_20 rfl ?_
  refine d_callV (As := [.ref eb1, .int (iI i)]) (rest := []) C hM (C_fastRemove_22 (a0 := a0) (b0 := eb1) (i := i) hW hS t_a0 teb1 (by omega) eq1 ceb1 (by show i = iv a0 2 - 1 ∧ 0 ≤ i ∧ iv a0 2 ≤ ((ln eb1 : Nat) : Int); omega)) dJx4a65c_remove_915e3_21 kV_Jx4a65c_144 rfl t_a0 rfl rfl (by decide) ck_0 rfl (Nat.le_of_ble_eq_true rfl) ⟨(Nat.le_of_ble_eq_true rfl), (Nat.le_of_ble_eq_true rfl)⟩ hph hph (show 0 + 0 = 0 from rfl) (by decide) (fun rh2 Lh2 clh2 lnh2 ivh2 rvh2 h2 => ?_)
  obtain ⟨rfl, rfl, rfl, rfl, fl2, W2, exf2⟩ := h2
  have F1 := hF0.call hX0 fl2 rfl
  refine c_st (st2 := []) rfl ?_
  refine hv2 (show 0 ≤ ivh2 a0 2 ∧ ivh2 a0 2 ≤ 30 from W2.int t_a0 2) (show ivh2 a0 2 = iv a0 2 - 1 ∧ ∀ j : Nat, (j : Int) < iv a0 2 - 1 → el rvh2 a0 j = el rv a0 j from exf2) (fun ri2 gf2 => ?_)
  refine c_aload_n (j := 0) (x := nb1) C dJx4a65c_remove_915e3_24 rfl ?_
  have pl1 := Phi.le W2 hS
  exact c_aret (x := some nb1) C dJx4a65c_remove_915e3_25 rfl (Or.inl ⟨_, rfl⟩) (by decide) (rom0 hph pl1 (by decide)) ⟨nb1, rfl, rfl, rfl, rfl, F1, W2, tnb1, ⟨by omega, fun j hj => exf2.2 j (by omega)⟩, (by rw [show (iv a0 2 - 1).toNat = i.toNat by omega]; exact ((el_of eq1).trans nq1))⟩
set_option maxHeartbeats 4000000 in
set_option maxRecDepth 100000 in
theorem Z_copyO3_23 {l : Launch} {G : GT} {mi : Nat} {sk : Nat → Nat} {L : List Nat} {cl ln : Nat → Nat} {iv : Nat → Nat → Int} {rv : Nat → Nat → Option Nat}  {a0 : Nat} {n : Int} (hW : WT (g0 G) sk L cl ln iv rv) (hS : SKL sk L cl) (t_a0 : ty L cl a0 1001) (h_n : -2147483648 ≤ n ∧ n ≤ 2147483647) (hn : ((ln a0 : Nat) : Int) < n ∧ 10 ≤ n ∧ n ≤ 1200) : Mc l G mi zPf 0 yJ7_copyOf_6403c cJ7_copyOf_6403c 4 (some (.array (.object "java/lang/Object"))) 1 [.ref a0, .int (iI n), .ref mi] L cl ln iv rv (16 + n.toNat) (fun v L2 cl2 ln2 iv2 rv2 => ∃ f : Nat, v = some (.ref f) ∧ XT L cl ln L2 cl2 ln2 ∧ fT [1001] L cl iv rv iv2 rv2 ∧ WT (g0 G) sk L2 cl2 ln2 iv2 rv2 ∧ ty L2 cl2 f 1001 ∧ (ln2 f = n.toNat ∧ cl2 f = cl a0 ∧ ∀ i : Nat, i < ln a0 → rv2 f i = rv a0 i)) := by
  refine Mc.mk (by decide) (Nat.le_of_ble_eq_true rfl) ?_
  intro p e s m args below meth c A C hM
  refine hv3 ((show zPf ln rv ≤ 0 from Nat.le_refl 0)) (show XT L cl ln L cl ln from XT.refl) (show fT [1001] L cl iv rv iv rv from fT.refl) (fun hph hX0 hF0 => ?_)
  refine c_aload_n (j := 2) (x := mi) C dJ7_copyOf_6403c_0 rfl ?_
  refine c_ldcM C hM dJ7_copyOf_6403c_1 w3_29 ?_
  refine c_acmp_ne (rx := some mi) (ry := some mi) (tgt := 13) C dJ7_copyOf_6403c_3 (by decide) (fun q => absurd rfl q) (fun _ => ?_)
  refine c_iload_n (j := 1) C dJ7_copyOf_6403c_6 rfl ?_
  refine c_newaO (z := n) (N := n.toNat) C (cl a0) dJ7_copyOf_6403c_7 w3_31 w3_30t (by rw [t_a0.2]; rfl) (by omega) (by omega) (rom2 hph hph (by omega)) (fun qn1 cln1 lnn1 ivn1 rvn1 hqn1 hcn1 hln1 hin1 hrn1 => ⟨(0 + (16 + n.toNat)), (z_in (by omega)), ?_⟩)
  refine c_g0 C (fun hg1 => ?_)
  refine hv5 (show ∀ b, b ≠ qn1 → lnn1 b = ln b from (fun b hb => by rw [hln1]; exact va_up_ne _ _ hb)) (show lnn1 qn1 = n.toNat from by rw [hln1]; exact va_up_self _ _ _) (hF0.new hX0 hqn1 hin1 hrn1) (show ty (L ++ [qn1]) cln1 qn1 1001 from ⟨List.mem_append_right _ List.mem_cons_self, by rw [hcn1, va_up_self]; exact t_a0.2⟩) (show cln1 qn1 = (cl a0) from by rw [hcn1]; exact va_up_self _ _ _) (fun hxn1 lqn1 F1 tqn1 clqn1 => ?_)
  refine hv2 (hW.new (ln2 := lnn1) hqn1 (hg1 qn1 (List.mem_append_right _ List.mem_cons_self)) hcn1 hxn1 hin1 hrn1 (fun _ => by rw [t_a0.2]; exact ⟨(show (-2147483648 : Int) ≤ 0 by decide), (show (0 : Int) ≤ 2147483647 by decide)⟩) (Or.inr (fun _ => by rw [t_a0.2]; rfl)) (fun _ => by rw [t_a0.2]; show 10 ≤ lnn1 qn1 ∧ lnn1 qn1 ≤ 1200; omega) (by rw [t_a0.2]; rfl) (uq_big (by rw [t_a0.2]; decide))) (XT.new hqn1 hcn1 hxn1) (fun W1 xl1 => ?_)
  refine hv2 (hX0.trans xl1) (xl1.skl hS) (fun X1 sk1 => ?_)
  refine c_goto (tgt := 24) C dJ7_copyOf_6403c_10 (by decide) ?_
  refine c_astore_n (lv2 := [(3, .ref qn1), (0, .ref a0), (1, .int (iI n)), (2, .ref mi)]) C dJ7_copyOf_6403c_24 (by decide) rfl ?_
  refine c_aload_n (j := 1) (x := a0) C dJ7_copyOf_6403c_25 rfl ?_
  refine c_iconst C dJ7_copyOf_6403c_26 ?_
  refine c_aload_n (j := 0) (x := qn1) C dJ7_copyOf_6403c_27 rfl ?_
  refine c_iconst C dJ7_copyOf_6403c_28 ?_
  refine c_aload_n (j := 1) (x := a0) C dJ7_copyOf_6403c_29 rfl ?_
  have ty1 := xl1.ty t_a0
  have ll1 : 10 ≤ lnn1 a0 ∧ lnn1 a0 ≤ 1200 := W1.len ty1 rfl
  refine c_alenO C dJ7_copyOf_6403c_30 ty1 rfl ?_
  refine c_iload_n (j := 2) C dJ7_copyOf_6403c_31 rfl ?_
  obtain ⟨mn1, hmn1, emn1⟩ := mmin_c (x := ((lnn1 a0 : Nat) : Int)) (y := n) ⟨by omega, by omega⟩ ⟨by omega, by omega⟩
  refine c_mmin (w := iI mn1) C dJ7_copyOf_6403c_32 w2_128 w2_129 w1_14 w2_130 (by decide) (rom0 hph (Nat.le_refl 0) (by omega)) (Nat.le_of_ble_eq_true rfl) emn1 ?_
  have le1 : lnn1 a0 = ln a0 := (xl1 a0 t_a0.1).2.2
  refine c_copyq (n := mn1) C ck_1 w8_184t dJ7_copyOf_6403c_35 w2_131 w2_133 w2_132 w1_15 ty1 rfl tqn1 rfl (fun i y hy => by
      rcases W1.opt ty1 i rfl rfl with qq | ⟨bb, q1, q2⟩
      · rw [qq.1] at hy; cases hy
      · rw [q1] at hy; cases hy; exact q2) rfl rfl (by decide) (by omega) (by omega) (by omega) (by omega) (by decide) (Nat.le_of_ble_eq_true rfl) (fun rv1 cq1 => ⟨(0 + (16 + n.toNat)), (zp2 (Nat.le_refl _)), ?_⟩)
  have hno : ∀ w ∈ (L ++ [qn1]), lst (bt (cln1 w)) = true → rvn1 w 1 ≠ some qn1 := by
    intro w hw hl3 e3
    rcases List.mem_append.mp hw with e4 | e4
    · have hwq : w ≠ qn1 := fun e => hqn1 (e ▸ e4)
      rw [hcn1, va_up_ne _ _ hwq] at hl3
      rw [hrn1, up0_a hwq] at e3
      rcases WT.ed hW e4 (lst_szd hl3) e3 with e5 | e5
      · exact hqn1 e5
      · exact hg1 qn1 tqn1.1 e5
    · have e5 := List.mem_singleton.mp e4
      rw [e5, tqn1.2] at hl3; cases hl3
  refine hv2 (W1.copyr (TB2 := 0) cq1 tqn1 ty1 (by decide) (fun _ _ => rfl) (fun _ => rfl) hno) (F1.copyr X1 cq1 tqn1 rfl) (fun W2 F2 => ?_)
  refine c_aload_n (j := 0) (x := qn1) C dJ7_copyOf_6403c_38 rfl ?_
  exact c_aret (x := some qn1) C dJ7_copyOf_6403c_39 rfl (Or.inr ⟨_, rfl⟩) (by omega) (rom0 hph (Nat.le_refl 0) (by omega)) ⟨qn1, rfl, X1, F2, W2, tqn1, ⟨by omega, clqn1, fun i hi => by
      rw [cq1]
      show (if qn1 = qn1 then _ else _) = rv a0 i
      rw [if_pos rfl, if_pos (by omega), hrn1]
      exact congrFun (up0_a (ne_in t_a0.1 hqn1)) i⟩⟩
set_option maxHeartbeats 4000000 in
set_option maxRecDepth 100000 in
theorem Z_copyO2_23 {l : Launch} {G : GT} {mi : Nat} {sk : Nat → Nat} {L : List Nat} {cl ln : Nat → Nat} {iv : Nat → Nat → Int} {rv : Nat → Nat → Option Nat}  {a0 : Nat} {n : Int} (hW : WT (g0 G) sk L cl ln iv rv) (hS : SKL sk L cl) (t_a0 : ty L cl a0 1001) (h_n : -2147483648 ≤ n ∧ n ≤ 2147483647) (hn : ((ln a0 : Nat) : Int) < n ∧ 10 ≤ n ∧ n ≤ 1200) : Mc l G mi zPf 0 yJ7_copyOf_1904c cJ7_copyOf_1904c 2 (some (.array (.object "java/lang/Object"))) 2 [.ref a0, .int (iI n)] L cl ln iv rv (16 + n.toNat) (fun v L2 cl2 ln2 iv2 rv2 => ∃ f : Nat, v = some (.ref f) ∧ XT L cl ln L2 cl2 ln2 ∧ fT [1001] L cl iv rv iv2 rv2 ∧ WT (g0 G) sk L2 cl2 ln2 iv2 rv2 ∧ ty L2 cl2 f 1001 ∧ (ln2 f = n.toNat ∧ cl2 f = cl a0 ∧ ∀ i : Nat, i < ln a0 → rv2 f i = rv a0 i)) := by
  refine Mc.mk (by decide) (Nat.le_of_ble_eq_true rfl) ?_
  intro p e s m args below meth c A C hM
  refine hv3 ((show zPf ln rv ≤ 0 from Nat.le_refl 0)) (show XT L cl ln L cl ln from XT.refl) (show fT [1001] L cl iv rv iv rv from fT.refl) (fun hph hX0 hF0 => ?_)
  refine c_aload_n (j := 0) (x := a0) C dJ7_copyOf_1904c_0 rfl ?_
  refine c_iload_n (j := 1) C dJ7_copyOf_1904c_1 rfl ?_
  refine c_aload_n (j := 0) (x := a0) C dJ7_copyOf_1904c_2 rfl ?_
  refine c_getC C hM dJ7_copyOf_1904c_3 w3_8 w8_172 w3_9 w3_25 t_a0 rfl (by decide) (Nat.le_of_ble_eq_true rfl) ?_
  refine c_callS (As := [.ref a0, .int (iI n), .ref mi]) (rest := []) C hM (Z_copyO3_23 (a0 := a0) (n := n) hW hS t_a0 (by omega) (by show ((ln a0 : Nat) : Int) < n ∧ 10 ≤ n ∧ n ≤ 1200; omega)) dJ7_copyOf_1904c_6 kS_J7_300 rfl rfl (Nat.le_of_ble_eq_true rfl) ⟨(Nat.le_of_ble_eq_true rfl), (Nat.le_of_ble_eq_true rfl)⟩ (rz0 hph (by omega)) (fun rh1 Lh1 clh1 lnh1 ivh1 rvh1 h1 => ⟨(0 + (16 + n.toNat)), zk0, ?_⟩)
  obtain ⟨f1, rfl, xl1, fl1, W1, rgf1, exf1⟩ := h1
  refine hv3 (hF0.call hX0 fl1 rfl) (hX0.trans xl1) (xl1.skl hS) (fun F1 X1 sk1 => ?_)
  refine c_st (st2 := [.ref f1]) rfl ?_
  have gf1 : lnh1 f1 = n.toNat ∧ clh1 f1 = cl a0 ∧ ∀ i : Nat, i < ln a0 → rvh1 f1 i = rv a0 i := exf1
  exact c_aret (x := some f1) C dJ7_copyOf_1904c_9 rfl (Or.inr ⟨_, rfl⟩) (by omega) (rom0 hph (Nat.le_refl 0) (by omega)) ⟨f1, rfl, X1, F1, W1, rgf1, exf1⟩
set_option maxHeartbeats 4000000 in
set_option maxRecDepth 100000 in
theorem C_growA_23 {l : Launch} {G : GT} {mi : Nat} {sk : Nat → Nat} {L : List Nat} {cl ln : Nat → Nat} {iv : Nat → Nat → Int} {rv : Nat → Nat → Option Nat}  {a0 : Nat} {n : Int} (hW : WT (g0 G) sk L cl ln iv rv) (hS : SKL sk L cl) (t_a0 : ty L cl a0 23) (h_n : -2147483648 ≤ n ∧ n ≤ 2147483647) (hed : rv a0 1 = some (g0 G)) (hn : n = 1 ∧ iv a0 2 = 0) : Mc l G mi (Phi (g0 G) sk) PHM yJx4a65c_grow_92f84 cJx4a65c_grow_92f84 4 (some (.array (.object "java/lang/Object"))) 3 [.ref a0, .int (iI n)] L cl ln iv rv 1216 (fun v L2 cl2 ln2 iv2 rv2 => ∃ f : Nat, v = some (.ref f) ∧ XT L cl ln L2 cl2 ln2 ∧ fT [23, 1001] L cl iv rv iv2 rv2 ∧ WT (g0 G) sk L2 cl2 ln2 iv2 rv2 ∧ ty L2 cl2 f 1001 ∧ (rv2 a0 1 = some f ∧ iv2 a0 2 = iv a0 2 ∧ iv a0 2 + 1 ≤ ((ln2 f : Nat) : Int) ∧ cl2 f = 1000 + 5 * a0 + 1 ∧ ∀ i : Nat, (i : Int) < iv a0 2 → rv2 f i = el rv a0 i)) := by
  refine Mc.mk (by decide) (Nat.le_of_ble_eq_true rfl) ?_
  intro p e s m args below meth c A C hM
  refine hv3 (Phi.le hW hS) (show XT L cl ln L cl ln from XT.refl) (show fT [23, 1001] L cl iv rv iv rv from fT.refl) (fun hph hX0 hF0 => ?_)
  refine c_aload_n (j := 0) (x := a0) C dJx4a65c_grow_92f84_0 rfl ?_
  refine c_getr (k := 1) C ck_0 dJx4a65c_grow_92f84_1 w1_78 (by decide) t_a0 rfl rfl (by decide) rfl hed ?_
  refine c_st (st2 := [.ref (g0 G)]) rfl ?_
  refine c_tlen C dJx4a65c_grow_92f84_4 ?_
  refine c_istore_n (lv2 := [(2, .int (iI 0)), (0, .ref a0), (1, .int (iI n))]) C dJx4a65c_grow_92f84_5 (by decide) rfl ?_
  refine c_iload_n (j := 0) C dJx4a65c_grow_92f84_6 rfl ?_
  refine c_if_gt (tgt := 20) C ⟨by decide, by decide⟩ dJx4a65c_grow_92f84_7 (by decide) (fun z => absurd z (by omega)) (fun _ => ?_)
  refine c_aload_n (j := 1) (x := a0) C dJx4a65c_grow_92f84_10 rfl ?_
  refine c_getr (k := 1) C ck_0 dJx4a65c_grow_92f84_11 w1_78 (by decide) t_a0 rfl rfl (by decide) rfl hed ?_
  refine c_st (st2 := [.ref (g0 G)]) rfl ?_
  refine c_gets C dJx4a65c_grow_92f84_14 w1_76 ?_
  refine c_acmp_eq (rx := some (g0 G)) (ry := some (g0 G)) (tgt := 45) C dJx4a65c_grow_92f84_17 (by decide) (fun _ => ?_) (fun q => absurd rfl q)
  refine c_aload_n (j := 1) (x := a0) C dJx4a65c_grow_92f84_45 rfl ?_
  refine c_bipush (z := 10) C dJx4a65c_grow_92f84_46 (by decide) ?_
  refine c_iload_n (j := 2) C dJx4a65c_grow_92f84_48 rfl ?_
  obtain ⟨mn1, hmn1, emn1⟩ := mmax_c (x := 10) (y := n) ⟨by decide, by decide⟩ ⟨by omega, by omega⟩
  refine c_mmax (w := iI mn1) C dJx4a65c_grow_92f84_49 w3_32 w2_148 w1_14 w2_149 (by decide) (rom0 hph hph (by decide)) (Nat.le_of_ble_eq_true rfl) emn1 ?_
  refine c_newaO (z := mn1) (N := 10) C (1000 + 5 * a0 + 1) dJx4a65c_grow_92f84_52 w3_33 w3_30t (by rw [(bt_list (by decide))]; rfl) (by omega) (by omega) (rom2 hph hph (by omega)) (fun qn1 cln1 lnn1 ivn1 rvn1 hqn1 hcn1 hln1 hin1 hrn1 => ⟨(0 + (16 + 10)), (p_in (Phi.new hW hS hqn1 (fun b hb => by rw [hln1]; exact va_up_ne _ _ hb) hrn1) (by omega)), ?_⟩)
  refine c_g0 C (fun hg1 => ?_)
  refine hv5 (show ∀ b, b ≠ qn1 → lnn1 b = ln b from (fun b hb => by rw [hln1]; exact va_up_ne _ _ hb)) (show lnn1 qn1 = 10 from by rw [hln1]; exact va_up_self _ _ _) (hF0.new hX0 hqn1 hin1 hrn1) (show ty (L ++ [qn1]) cln1 qn1 1001 from ⟨List.mem_append_right _ List.mem_cons_self, by rw [hcn1, va_up_self]; exact (bt_list (by decide))⟩) (show cln1 qn1 = (1000 + 5 * a0 + 1) from by rw [hcn1]; exact va_up_self _ _ _) (fun hxn1 lqn1 F1 tqn1 clqn1 => ?_)
  refine hv2 (hW.new (ln2 := lnn1) hqn1 (hg1 qn1 (List.mem_append_right _ List.mem_cons_self)) hcn1 hxn1 hin1 hrn1 (fun _ => by rw [(bt_list (by decide))]; exact ⟨(show (-2147483648 : Int) ≤ 0 by decide), (show (0 : Int) ≤ 2147483647 by decide)⟩) (Or.inr (fun _ => by rw [(bt_list (by decide))]; rfl)) (fun _ => by rw [(bt_list (by decide))]; show 10 ≤ lnn1 qn1 ∧ lnn1 qn1 ≤ 1200; omega) (by rw [(bt_list (by decide))]; rfl) (uq_big (by rw [(bt_list (by decide))]; decide))) (XT.new hqn1 hcn1 hxn1) (fun W1 xl1 => ?_)
  refine hv2 (hX0.trans xl1) (xl1.skl hS) (fun X1 sk1 => ?_)
  refine c_dup_x1 C dJx4a65c_grow_92f84_55 rfl rfl ?_
  refine hv2 (xl1.ty t_a0) (show rvn1 a0 1 = rv a0 1 from (by rw [hrn1]; exact congrFun (up0_a (ne_in t_a0.1 hqn1)) _)) (fun ty1 re1 => ?_)
  rw [hed] at re1
  refine hv2 (show 0 ≤ ivn1 a0 2 ∧ ivn1 a0 2 ≤ 512 from W1.int ty1 2) (show ivn1 a0 2 = iv a0 2 from by rw [hin1]; exact congrFun (up0_a (ne_in t_a0.1 hqn1)) _) (fun ri1 ie1 => ?_)
  refine c_putr (x := (some qn1)) (k := 1) C ck_0 dJx4a65c_grow_92f84_56 w1_78 (by decide) rfl ty1 rfl rfl (by decide) rfl (by rfl) (by rfl) (fun rv1 pq1 => ⟨1216, (by rw [Phi.putr sk1 pq1 ty1 rfl]; omega), ?_⟩)
  refine hv3 (W1.led pq1 ty1 rfl tqn1.1 clqn1 (by omega) (fun i hi => absurd hi (by omega))) (F1.putr X1 pq1 ty1 rfl) (show rv1 a0 1 = (some qn1) from by rw [pq1]; exact upr_s) (fun W2 F2 rp1 => ?_)
  have pl1 := Phi.le W2 sk1
  exact c_aret (x := some qn1) C dJx4a65c_grow_92f84_59 rfl (Or.inr ⟨_, rfl⟩) (by decide) (rom0 hph pl1 (by decide)) ⟨qn1, rfl, X1, F2, W2, tqn1, ⟨rp1, (by omega), (by omega), clqn1, (fun i hi => absurd hi (by omega))⟩⟩
set_option maxHeartbeats 4000000 in
set_option maxRecDepth 100000 in
theorem C_growB_23 {l : Launch} {G : GT} {mi : Nat} {sk : Nat → Nat} {L : List Nat} {cl ln : Nat → Nat} {iv : Nat → Nat → Int} {rv : Nat → Nat → Option Nat}  {a0 : Nat} {n : Int} {b0 : Nat} (hW : WT (g0 G) sk L cl ln iv rv) (hS : SKL sk L cl) (t_a0 : ty L cl a0 23) (t_b0 : ty L cl b0 1001) (h_n : -2147483648 ≤ n ∧ n ≤ 2147483647) (hed : rv a0 1 = some b0) (hcb : cl b0 = 1000 + 5 * a0 + 1) (hn : n = iv a0 2 + 1 ∧ iv a0 2 = ((ln b0 : Nat) : Int) ∧ iv a0 2 < 512) : Mc l G mi (Phi (g0 G) sk) PHM yJx4a65c_grow_92f84 cJx4a65c_grow_92f84 4 (some (.array (.object "java/lang/Object"))) 3 [.ref a0, .int (iI n)] L cl ln iv rv 1216 (fun v L2 cl2 ln2 iv2 rv2 => ∃ f : Nat, v = some (.ref f) ∧ XT L cl ln L2 cl2 ln2 ∧ fT [23, 1001] L cl iv rv iv2 rv2 ∧ WT (g0 G) sk L2 cl2 ln2 iv2 rv2 ∧ ty L2 cl2 f 1001 ∧ (rv2 a0 1 = some f ∧ iv2 a0 2 = iv a0 2 ∧ iv a0 2 + 1 ≤ ((ln2 f : Nat) : Int) ∧ cl2 f = 1000 + 5 * a0 + 1 ∧ ∀ i : Nat, (i : Int) < iv a0 2 → rv2 f i = el rv a0 i)) := by
  refine Mc.mk (by decide) (Nat.le_of_ble_eq_true rfl) ?_
  intro p e s m args below meth c A C hM
  refine hv3 (Phi.le hW hS) (show XT L cl ln L cl ln from XT.refl) (show fT [23, 1001] L cl iv rv iv rv from fT.refl) (fun hph hX0 hF0 => ?_)
  refine c_aload_n (j := 0) (x := a0) C dJx4a65c_grow_92f84_0 rfl ?_
  refine c_getr (k := 1) C ck_0 dJx4a65c_grow_92f84_1 w1_78 (by decide) t_a0 rfl rfl (by decide) rfl hed ?_
  refine c_st (st2 := [.ref b0]) rfl ?_
  have ll1 : 10 ≤ ln b0 ∧ ln b0 ≤ 1200 := hW.len t_b0 rfl
  refine c_alenO C dJx4a65c_grow_92f84_4 t_b0 rfl ?_
  refine c_istore_n (lv2 := [(2, .int (iI ((ln b0 : Nat) : Int))), (0, .ref a0), (1, .int (iI n))]) C dJx4a65c_grow_92f84_5 (by decide) rfl ?_
  refine c_iload_n (j := 0) C dJx4a65c_grow_92f84_6 rfl ?_
  refine c_if_gt (tgt := 20) C ⟨by omega, by omega⟩ dJx4a65c_grow_92f84_7 (by decide) (fun _ => ?_) (fun z => absurd z (by omega))
  refine c_iload_n (j := 0) C dJx4a65c_grow_92f84_20 rfl ?_
  refine c_iload_n (j := 2) C dJx4a65c_grow_92f84_21 rfl ?_
  refine c_iload_n (j := 0) C dJx4a65c_grow_92f84_22 rfl ?_
  refine c_isub C dJx4a65c_grow_92f84_23 ?_
  refine c_iload_n (j := 0) C dJx4a65c_grow_92f84_24 rfl ?_
  refine c_iconst C dJx4a65c_grow_92f84_25 ?_
  obtain ⟨zz1, hzz1, ezz1⟩ := iI_of (iI ((ln b0 : Nat) : Int) >>> (iI 1 &&& 31))
  refine c_ishr (w := iI zz1) C dJx4a65c_grow_92f84_26 ezz1 ?_
  have shzz1 : zz1 = ((ln b0 : Nat) : Int) / 2 := (iI_eq hzz1 ⟨by omega, by omega⟩).mp (ezz1.symm.trans (shr1 ⟨by omega, by omega⟩))
  refine d_callS (As := [.int (iI ((ln b0 : Nat) : Int)), .int (iI (n - ((ln b0 : Nat) : Int))), .int (iI zz1)]) (rest := []) C hM (C_newLength (i := ((ln b0 : Nat) : Int)) (n := n - ((ln b0 : Nat) : Int)) (x := zz1) hW hS  (by omega) (by omega) (by omega) (by show 0 ≤ ((ln b0 : Nat) : Int) ∧ ((ln b0 : Nat) : Int) ≤ 100000 ∧ 1 ≤ (n - ((ln b0 : Nat) : Int)) ∧ (n - ((ln b0 : Nat) : Int)) ≤ 100000 ∧ 0 ≤ zz1 ∧ zz1 ≤ 100000; omega)) dJx4a65c_grow_92f84_27 kS_Jx4a65c_73 rfl rfl (Nat.le_of_ble_eq_true rfl) ⟨(Nat.le_of_ble_eq_true rfl), (Nat.le_of_ble_eq_true rfl)⟩ hph hph (show 0 + 0 = 0 from rfl) (by decide) (fun rh1 Lh1 clh1 lnh1 ivh1 rvh1 h1 => ?_)
  obtain ⟨f1, rfl, rfl, rfl, rfl, rfl, rfl, rgf1, exf1⟩ := h1
  refine c_st (st2 := [.int (iI f1)]) rfl ?_
  have gf1 : ((n - ((ln b0 : Nat) : Int)) ≤ zz1 ∧ f1 = ((ln b0 : Nat) : Int) + zz1) ∨ (zz1 < (n - ((ln b0 : Nat) : Int)) ∧ f1 = ((ln b0 : Nat) : Int) + (n - ((ln b0 : Nat) : Int))) := exf1
  refine c_istore_n (lv2 := [(3, .int (iI f1)), (2, .int (iI ((ln b0 : Nat) : Int))), (0, .ref a0), (1, .int (iI n))]) C dJx4a65c_grow_92f84_30 (by decide) rfl ?_
  refine c_aload_n (j := 2) (x := a0) C dJx4a65c_grow_92f84_31 rfl ?_
  refine c_aload_n (j := 2) (x := a0) C dJx4a65c_grow_92f84_32 rfl ?_
  refine c_getr (k := 1) C ck_0 dJx4a65c_grow_92f84_33 w1_78 (by decide) t_a0 rfl rfl (by decide) rfl hed ?_
  refine c_st (st2 := [.ref b0, .ref a0]) rfl ?_
  refine c_iload_n (j := 0) C dJx4a65c_grow_92f84_36 rfl ?_
  refine c_callS (As := [.ref b0, .int (iI f1)]) (rest := [.ref a0]) C hM (Z_copyO2_23 (a0 := b0) (n := f1) hW hS t_b0 (by omega) (by show ((ln b0 : Nat) : Int) < f1 ∧ 10 ≤ f1 ∧ f1 ≤ 1200; omega)) dJx4a65c_grow_92f84_37 kS_Jx4a65c_66 rfl rfl (Nat.le_of_ble_eq_true rfl) ⟨(Nat.le_of_ble_eq_true rfl), (Nat.le_of_ble_eq_true rfl)⟩ (rz1 hph hph (by omega)) (fun rh2 Lh2 clh2 lnh2 ivh2 rvh2 h2 => ⟨(0 + (16 + f1.toNat)), (zk1 (by obtain ⟨_, _, xlh2x, flh2x, Wh2x, _⟩ := h2; exact Phi.fr hW hS xlh2x flh2x rfl)), ?_⟩)
  obtain ⟨f2, rfl, xl2, fl2, W2, rgf2, exf2⟩ := h2
  refine hv3 (hF0.call hX0 fl2 rfl) (hX0.trans xl2) (xl2.skl hS) (fun F1 X1 sk1 => ?_)
  refine c_st (st2 := [.ref f2, .ref a0]) rfl ?_
  have gf2 : lnh2 f2 = f1.toNat ∧ clh2 f2 = cl b0 ∧ ∀ i : Nat, i < ln b0 → rvh2 f2 i = rv b0 i := exf2
  refine c_dup_x1 C dJx4a65c_grow_92f84_40 rfl rfl ?_
  refine hv2 (xl2.ty t_a0) (show rvh2 a0 1 = rv a0 1 from (fl2.r t_a0 rfl 1)) (fun ty1 re1 => ?_)
  rw [hed] at re1
  refine hv2 (show 0 ≤ ivh2 a0 2 ∧ ivh2 a0 2 ≤ 512 from W2.int ty1 2) (show ivh2 a0 2 = iv a0 2 from fl2.i t_a0 rfl 2) (fun ri1 ie1 => ?_)
  refine c_putr (x := (some f2)) (k := 1) C ck_0 dJx4a65c_grow_92f84_41 w1_78 (by decide) rfl ty1 rfl rfl (by decide) rfl (by rfl) (by rfl) (fun rv1 pq1 => ⟨1216, (by rw [Phi.putr sk1 pq1 ty1 rfl]; omega), ?_⟩)
  have W3 := W2.led pq1 ty1 rfl rgf2.1 (exf2.2.1.trans hcb) (by omega) (fun i hi => by
      rw [exf2.2.2 i (by omega)]
      exact hW.2.2.2.2.1 a0 t_a0.1 (by rw [t_a0.2]; rfl) b0 hed i (by omega))
  refine hv3 (F1.putr X1 pq1 ty1 rfl) (show rv1 a0 1 = (some f2) from by rw [pq1]; exact upr_s) (Phi.le W3 sk1) (fun F2 rp1 pl1 => ?_)
  exact c_aret (x := some f2) C dJx4a65c_grow_92f84_44 rfl (Or.inr ⟨_, rfl⟩) (by decide) (rom0 hph pl1 (by decide)) ⟨f2, rfl, X1, F2, W3, rgf2, ⟨rp1, (by omega), (by omega), (exf2.2.1.trans hcb), (fun i hi => by rw [el_of hed, pq1, upr_a (ne_ty rgf2 ty1 (by decide))]; exact exf2.2.2 i (by omega))⟩⟩
set_option maxHeartbeats 4000000 in
set_option maxRecDepth 100000 in
theorem C_grow0A_23 {l : Launch} {G : GT} {mi : Nat} {sk : Nat → Nat} {L : List Nat} {cl ln : Nat → Nat} {iv : Nat → Nat → Int} {rv : Nat → Nat → Option Nat}  {a0 : Nat} (hW : WT (g0 G) sk L cl ln iv rv) (hS : SKL sk L cl) (t_a0 : ty L cl a0 23) (hed : rv a0 1 = some (g0 G)) (hn : iv a0 2 = 0) : Mc l G mi (Phi (g0 G) sk) PHM yJx4a65c_grow_d5877 cJx4a65c_grow_d5877 1 (some (.array (.object "java/lang/Object"))) 4 [.ref a0] L cl ln iv rv 1216 (fun v L2 cl2 ln2 iv2 rv2 => ∃ f : Nat, v = some (.ref f) ∧ XT L cl ln L2 cl2 ln2 ∧ fT [23, 1001] L cl iv rv iv2 rv2 ∧ WT (g0 G) sk L2 cl2 ln2 iv2 rv2 ∧ ty L2 cl2 f 1001 ∧ (rv2 a0 1 = some f ∧ iv2 a0 2 = iv a0 2 ∧ iv a0 2 + 1 ≤ ((ln2 f : Nat) : Int) ∧ cl2 f = 1000 + 5 * a0 + 1 ∧ ∀ i : Nat, (i : Int) < iv a0 2 → rv2 f i = el rv a0 i)) := by
  refine Mc.mk (by decide) (Nat.le_of_ble_eq_true rfl) ?_
  intro p e s m args below meth c A C hM
  refine hv3 (Phi.le hW hS) (show XT L cl ln L cl ln from XT.refl) (show fT [23, 1001] L cl iv rv iv rv from fT.refl) (fun hph hX0 hF0 => ?_)
  refine c_aload_n (j := 0) (x := a0) C dJx4a65c_grow_d5877_0 rfl ?_
  refine c_aload_n (j := 0) (x := a0) C dJx4a65c_grow_d5877_1 rfl ?_
  have ri1 : 0 ≤ iv a0 2 ∧ iv a0 2 ≤ 512 := hW.int t_a0 2
  refine c_get (k := 2) C ck_0 dJx4a65c_grow_d5877_2 w1_79 (by decide) t_a0 rfl rfl (by decide) rfl ?_
  refine c_iconst C dJx4a65c_grow_d5877_5 ?_
  refine c_iadd C dJx4a65c_grow_d5877_6 ?_
  refine d_callV (As := [.int (iI ((iv a0 2) + 1))]) (rest := []) C hM (C_growA_23 (a0 := a0) (n := (iv a0 2) + 1) hW hS t_a0 (by omega) hed (by show ((iv a0 2) + 1) = 1 ∧ iv a0 2 = 0; omega)) dJx4a65c_grow_d5877_7 kV_Jx4a65c_69 rfl t_a0 rfl rfl (by decide) ck_0 rfl (Nat.le_of_ble_eq_true rfl) ⟨(Nat.le_of_ble_eq_true rfl), (Nat.le_of_ble_eq_true rfl)⟩ hph hph (show 0 + 1216 = 1216 from rfl) (by decide) (fun rh1 Lh1 clh1 lnh1 ivh1 rvh1 h1 => ?_)
  obtain ⟨f1, rfl, xl1, fl1, W1, rgf1, exf1⟩ := h1
  refine hv3 (hF0.call hX0 fl1 rfl) (hX0.trans xl1) (xl1.skl hS) (fun F1 X1 sk1 => ?_)
  refine c_st (st2 := [.ref f1]) rfl ?_
  refine hv5 (xl1.ty t_a0) (show rvh1 a0 1 = some f1 ∧ ivh1 a0 2 = iv a0 2 ∧ iv a0 2 + 1 ≤ ((lnh1 f1 : Nat) : Int) ∧ clh1 f1 = 1000 + 5 * a0 + 1 ∧ ∀ i : Nat, (i : Int) < iv a0 2 → rvh1 f1 i = el rv a0 i from exf1) (exf1.2.2.1) (exf1.2.1) (Phi.le W1 sk1) (fun ty1 gf1 gzf1 gyf1 pl1 => ?_)
  have ri2 : 0 ≤ ivh1 a0 2 ∧ ivh1 a0 2 ≤ 512 := W1.int ty1 2
  exact c_aret (x := some f1) C dJx4a65c_grow_d5877_10 rfl (Or.inr ⟨_, rfl⟩) (by decide) (rom0 hph pl1 (by decide)) ⟨f1, rfl, X1, F1, W1, rgf1, exf1⟩
set_option maxHeartbeats 4000000 in
set_option maxRecDepth 100000 in
theorem C_grow0B_23 {l : Launch} {G : GT} {mi : Nat} {sk : Nat → Nat} {L : List Nat} {cl ln : Nat → Nat} {iv : Nat → Nat → Int} {rv : Nat → Nat → Option Nat}  {a0 : Nat} {b0 : Nat} (hW : WT (g0 G) sk L cl ln iv rv) (hS : SKL sk L cl) (t_a0 : ty L cl a0 23) (t_b0 : ty L cl b0 1001) (hed : rv a0 1 = some b0) (hcb : cl b0 = 1000 + 5 * a0 + 1) (hn : iv a0 2 = ((ln b0 : Nat) : Int) ∧ iv a0 2 < 512) : Mc l G mi (Phi (g0 G) sk) PHM yJx4a65c_grow_d5877 cJx4a65c_grow_d5877 1 (some (.array (.object "java/lang/Object"))) 4 [.ref a0] L cl ln iv rv 1216 (fun v L2 cl2 ln2 iv2 rv2 => ∃ f : Nat, v = some (.ref f) ∧ XT L cl ln L2 cl2 ln2 ∧ fT [23, 1001] L cl iv rv iv2 rv2 ∧ WT (g0 G) sk L2 cl2 ln2 iv2 rv2 ∧ ty L2 cl2 f 1001 ∧ (rv2 a0 1 = some f ∧ iv2 a0 2 = iv a0 2 ∧ iv a0 2 + 1 ≤ ((ln2 f : Nat) : Int) ∧ cl2 f = 1000 + 5 * a0 + 1 ∧ ∀ i : Nat, (i : Int) < iv a0 2 → rv2 f i = el rv a0 i)) := by
  refine Mc.mk (by decide) (Nat.le_of_ble_eq_true rfl) ?_
  intro p e s m args below meth c A C hM
  refine hv3 (Phi.le hW hS) (show XT L cl ln L cl ln from XT.refl) (show fT [23, 1001] L cl iv rv iv rv from fT.refl) (fun hph hX0 hF0 => ?_)
  refine c_aload_n (j := 0) (x := a0) C dJx4a65c_grow_d5877_0 rfl ?_
  refine c_aload_n (j := 0) (x := a0) C dJx4a65c_grow_d5877_1 rfl ?_
  have ri1 : 0 ≤ iv a0 2 ∧ iv a0 2 ≤ 512 := hW.int t_a0 2
  refine c_get (k := 2) C ck_0 dJx4a65c_grow_d5877_2 w1_79 (by decide) t_a0 rfl rfl (by decide) rfl ?_
  refine c_iconst C dJx4a65c_grow_d5877_5 ?_
  refine c_iadd C dJx4a65c_grow_d5877_6 ?_
  refine d_callV (As := [.int (iI ((iv a0 2) + 1))]) (rest := []) C hM (C_growB_23 (a0 := a0) (n := (iv a0 2) + 1) (b0 := b0) hW hS t_a0 t_b0 (by omega) hed hcb (by show ((iv a0 2) + 1) = iv a0 2 + 1 ∧ iv a0 2 = ((ln b0 : Nat) : Int) ∧ iv a0 2 < 512; omega)) dJx4a65c_grow_d5877_7 kV_Jx4a65c_69 rfl t_a0 rfl rfl (by decide) ck_0 rfl (Nat.le_of_ble_eq_true rfl) ⟨(Nat.le_of_ble_eq_true rfl), (Nat.le_of_ble_eq_true rfl)⟩ hph hph (show 0 + 1216 = 1216 from rfl) (by decide) (fun rh1 Lh1 clh1 lnh1 ivh1 rvh1 h1 => ?_)
  obtain ⟨f1, rfl, xl1, fl1, W1, rgf1, exf1⟩ := h1
  refine hv3 (hF0.call hX0 fl1 rfl) (hX0.trans xl1) (xl1.skl hS) (fun F1 X1 sk1 => ?_)
  refine c_st (st2 := [.ref f1]) rfl ?_
  refine hv5 (xl1.ty t_a0) (show rvh1 a0 1 = some f1 ∧ ivh1 a0 2 = iv a0 2 ∧ iv a0 2 + 1 ≤ ((lnh1 f1 : Nat) : Int) ∧ clh1 f1 = 1000 + 5 * a0 + 1 ∧ ∀ i : Nat, (i : Int) < iv a0 2 → rvh1 f1 i = el rv a0 i from exf1) (exf1.2.2.1) (exf1.2.1) (Phi.le W1 sk1) (fun ty1 gf1 gzf1 gyf1 pl1 => ?_)
  have ri2 : 0 ≤ ivh1 a0 2 ∧ ivh1 a0 2 ≤ 512 := W1.int ty1 2
  exact c_aret (x := some f1) C dJx4a65c_grow_d5877_10 rfl (Or.inr ⟨_, rfl⟩) (by decide) (rom0 hph pl1 (by decide)) ⟨f1, rfl, X1, F1, W1, rgf1, exf1⟩
set_option maxHeartbeats 4000000 in
set_option maxRecDepth 100000 in
theorem C_add3A_23 {l : Launch} {G : GT} {mi : Nat} {sk : Nat → Nat} {L : List Nat} {cl ln : Nat → Nat} {iv : Nat → Nat → Int} {rv : Nat → Nat → Option Nat}  {a0 : Nat} {x : Nat} {n : Int} (hW : WT (g0 G) sk L cl ln iv rv) (hS : SKL sk L cl) (t_a0 : ty L cl a0 23) (t_x : ty L cl x 21) (h_n : -2147483648 ≤ n ∧ n ≤ 2147483647) (hed : rv a0 1 = some (g0 G)) (hn : n = iv a0 2 ∧ n = 0) : Mc l G mi (Phi (g0 G) sk) PHM yJx4a65c_add_72be8 cJx4a65c_add_72be8 4 none 5 [.ref a0, .ref x, .ref (g0 G), .int (iI n)] L cl ln iv rv 1216 (fun v L2 cl2 ln2 iv2 rv2 => v = none ∧ XT L cl ln L2 cl2 ln2 ∧ fT [23, 1001] L cl iv rv iv2 rv2 ∧ WT (g0 G) sk L2 cl2 ln2 iv2 rv2 ∧ (iv2 a0 2 = iv a0 2 + 1 ∧ el rv2 a0 (iv a0 2).toNat = some x ∧ ∀ i : Nat, (i : Int) < iv a0 2 → el rv2 a0 i = el rv a0 i)) := by
  refine Mc.mk (by decide) (Nat.le_of_ble_eq_true rfl) ?_
  intro p e s m args below meth c A C hM
  refine hv3 (Phi.le hW hS) (show XT L cl ln L cl ln from XT.refl) (show fT [23, 1001] L cl iv rv iv rv from fT.refl) (fun hph hX0 hF0 => ?_)
  refine c_iload_n (j := 3) C dJx4a65c_add_72be8_0 rfl ?_
  refine c_aload_n (j := 2) (x := g0 G) C dJx4a65c_add_72be8_1 rfl ?_
  refine c_tlen C dJx4a65c_add_72be8_2 ?_
  refine c_icmp_ne (tgt := 11) C ⟨by omega, by omega⟩ ⟨by decide, by decide⟩ dJx4a65c_add_72be8_3 (by decide) (fun z => absurd z (by omega)) (fun _ => ?_)
  refine c_aload_n (j := 0) (x := a0) C dJx4a65c_add_72be8_6 rfl ?_
  have ri1 : 0 ≤ iv a0 2 ∧ iv a0 2 ≤ 512 := hW.int t_a0 2
  refine d_callV (As := []) (rest := []) C hM (C_grow0A_23 (a0 := a0) hW hS t_a0  hed (by show iv a0 2 = 0; omega)) dJx4a65c_add_72be8_7 kV_Jx4a65c_129 rfl t_a0 rfl rfl (by decide) ck_0 rfl (Nat.le_of_ble_eq_true rfl) ⟨(Nat.le_of_ble_eq_true rfl), (Nat.le_of_ble_eq_true rfl)⟩ hph hph (show 0 + 1216 = 1216 from rfl) (by decide) (fun rh1 Lh1 clh1 lnh1 ivh1 rvh1 h1 => ?_)
  obtain ⟨f1, rfl, xl1, fl1, W1, rgf1, exf1⟩ := h1
  refine hv3 (hF0.call hX0 fl1 rfl) (hX0.trans xl1) (xl1.skl hS) (fun F1 X1 sk1 => ?_)
  refine c_st (st2 := [.ref f1]) rfl ?_
  refine hv4 (xl1.ty t_a0) (show rvh1 a0 1 = some f1 ∧ ivh1 a0 2 = iv a0 2 ∧ iv a0 2 + 1 ≤ ((lnh1 f1 : Nat) : Int) ∧ clh1 f1 = 1000 + 5 * a0 + 1 ∧ ∀ i : Nat, (i : Int) < iv a0 2 → rvh1 f1 i = el rv a0 i from exf1) (exf1.2.2.1) (exf1.2.1) (fun ty1 gf1 gzf1 gyf1 => ?_)
  have ri2 : 0 ≤ ivh1 a0 2 ∧ ivh1 a0 2 ≤ 512 := W1.int ty1 2
  refine c_astore_n (lv2 := [(2, .ref f1), (0, .ref a0), (1, .ref x), (3, .int (iI n))]) C dJx4a65c_add_72be8_10 (by decide) rfl ?_
  refine c_aload_n (j := 0) (x := f1) C dJx4a65c_add_72be8_11 rfl ?_
  refine c_iload_n (j := 3) C dJx4a65c_add_72be8_12 rfl ?_
  refine c_aload_n (j := 2) (x := x) C dJx4a65c_add_72be8_13 rfl ?_
  refine hv2 (show 10 ≤ lnh1 f1 ∧ lnh1 f1 ≤ 1200 from W1.len rgf1 rfl) (xl1.ty t_x) (fun ll1 ty2 => ?_)
  refine c_aastO (z := n) C ck_1 w8_184t dJx4a65c_add_72be8_14 rgf1 rfl ty2 rfl rfl (by decide) (by omega) (by omega) (by omega) (fun rv1 pq1 => ⟨1216, (by rw [Phi.putr sk1 pq1 rgf1 rfl]; exact Nat.le_refl _), ?_⟩)
  refine hv2 (W1.lset pq1 rgf1 (by decide) ty2) (F1.putr X1 pq1 rgf1 rfl) (fun W2 F2 => ?_)
  refine c_aload_n (j := 1) (x := a0) C dJx4a65c_add_72be8_15 rfl ?_
  refine c_iload_n (j := 3) C dJx4a65c_add_72be8_16 rfl ?_
  refine c_iconst C dJx4a65c_add_72be8_17 ?_
  refine c_iadd C dJx4a65c_add_72be8_18 ?_
  refine c_put (z := n + 1) (k := 2) C ck_0 dJx4a65c_add_72be8_19 w1_79 (by decide) rfl ty1 rfl rfl (by decide) rfl (by rfl) (by rfl) (fun iv1 pq2 => ?_)
  have re1 : rv1 a0 1 = rvh1 a0 1 := (by rw [pq1]; exact congrFun (upr_a (ne_ty ty1 rgf1 (by decide))) _)
  rw [exf1.1] at re1
  refine hv3 (show rv1 f1 (ivh1 a0 2).toNat = some x from by rw [show (ivh1 a0 2).toNat = n.toNat by omega, pq1]; exact upr_s) (F2.puti X1 pq2 ty1 rfl) (show iv1 a0 2 = n + 1 from by rw [pq2]; exact up2_s) (fun px1 F3 ie2 => ?_)
  have W3 := W2.lapp pq2 ty1 rfl re1 rgf1.1 px1 (show (n + 1) = ivh1 a0 2 + 1 by omega) (show ivh1 a0 2 + 1 ≤ 512 by omega) (by omega) rfl
  refine hv2 (show 0 ≤ iv1 a0 2 ∧ iv1 a0 2 ≤ 512 from W3.int ty1 2) (Phi.le W3 sk1) (fun ri3 pl1 => ?_)
  exact c_vret C dJx4a65c_add_72be8_22 rfl (by decide) (rom0 hph pl1 (by decide)) ⟨rfl, X1, F3, W3, ⟨by omega, (by rw [el_of re1, show (iv a0 2).toNat = n.toNat by omega, pq1]; exact upr_s), fun i hi => (by rw [el_of re1, pq1, upr_j (by omega)]; exact exf1.2.2.2.2 i hi)⟩⟩
set_option maxHeartbeats 4000000 in
set_option maxRecDepth 100000 in
theorem C_add3B_23 {l : Launch} {G : GT} {mi : Nat} {sk : Nat → Nat} {L : List Nat} {cl ln : Nat → Nat} {iv : Nat → Nat → Int} {rv : Nat → Nat → Option Nat}  {a0 : Nat} {x : Nat} {b0 : Nat} {n : Int} (hW : WT (g0 G) sk L cl ln iv rv) (hS : SKL sk L cl) (t_a0 : ty L cl a0 23) (t_x : ty L cl x 21) (t_b0 : ty L cl b0 1001) (h_n : -2147483648 ≤ n ∧ n ≤ 2147483647) (hed : rv a0 1 = some b0) (hcb : cl b0 = 1000 + 5 * a0 + 1) (hn : n = iv a0 2 ∧ 0 ≤ n ∧ n ≤ ((ln b0 : Nat) : Int) ∧ n < 512) : Mc l G mi (Phi (g0 G) sk) PHM yJx4a65c_add_72be8 cJx4a65c_add_72be8 4 none 5 [.ref a0, .ref x, .ref b0, .int (iI n)] L cl ln iv rv 1216 (fun v L2 cl2 ln2 iv2 rv2 => v = none ∧ XT L cl ln L2 cl2 ln2 ∧ fT [23, 1001] L cl iv rv iv2 rv2 ∧ WT (g0 G) sk L2 cl2 ln2 iv2 rv2 ∧ (iv2 a0 2 = iv a0 2 + 1 ∧ el rv2 a0 (iv a0 2).toNat = some x ∧ ∀ i : Nat, (i : Int) < iv a0 2 → el rv2 a0 i = el rv a0 i)) := by
  refine Mc.mk (by decide) (Nat.le_of_ble_eq_true rfl) ?_
  intro p e s m args below meth c A C hM
  refine hv3 (Phi.le hW hS) (show XT L cl ln L cl ln from XT.refl) (show fT [23, 1001] L cl iv rv iv rv from fT.refl) (fun hph hX0 hF0 => ?_)
  refine c_iload_n (j := 3) C dJx4a65c_add_72be8_0 rfl ?_
  refine c_aload_n (j := 2) (x := b0) C dJx4a65c_add_72be8_1 rfl ?_
  have ll1 : 10 ≤ ln b0 ∧ ln b0 ≤ 1200 := hW.len t_b0 rfl
  refine c_alenO C dJx4a65c_add_72be8_2 t_b0 rfl ?_
  refine c_icmp_ne (tgt := 11) C ⟨by omega, by omega⟩ ⟨by omega, by omega⟩ dJx4a65c_add_72be8_3 (by decide) (fun c1 => ?_) (fun c1 => ?_)
  · refine c_aload_n (j := 2) (x := b0) C dJx4a65c_add_72be8_11 rfl ?_
    refine c_iload_n (j := 3) C dJx4a65c_add_72be8_12 rfl ?_
    refine c_aload_n (j := 1) (x := x) C dJx4a65c_add_72be8_13 rfl ?_
    refine c_aastO (z := n) C ck_1 w8_184t dJx4a65c_add_72be8_14 t_b0 rfl t_x rfl rfl (by decide) (by omega) (by omega) (by omega) (fun rv1 pq1 => ⟨0, (by rw [Phi.putr hS pq1 t_b0 rfl]; exact Nat.le_refl _), ?_⟩)
    refine hv2 (hW.lset pq1 t_b0 (by decide) t_x) (hF0.putr hX0 pq1 t_b0 rfl) (fun W1 F1 => ?_)
    refine c_aload_n (j := 0) (x := a0) C dJx4a65c_add_72be8_15 rfl ?_
    refine c_iload_n (j := 3) C dJx4a65c_add_72be8_16 rfl ?_
    refine c_iconst C dJx4a65c_add_72be8_17 ?_
    refine c_iadd C dJx4a65c_add_72be8_18 ?_
    refine c_put (z := n + 1) (k := 2) C ck_0 dJx4a65c_add_72be8_19 w1_79 (by decide) rfl t_a0 rfl rfl (by decide) rfl (by rfl) (by rfl) (fun iv1 pq2 => ?_)
    have re1 : rv1 a0 1 = rv a0 1 := (by rw [pq1]; exact congrFun (upr_a (ne_ty t_a0 t_b0 (by decide))) _)
    rw [hed] at re1
    refine hv3 (show rv1 b0 (iv a0 2).toNat = some x from by rw [show (iv a0 2).toNat = n.toNat by omega, pq1]; exact upr_s) (F1.puti hX0 pq2 t_a0 rfl) (show iv1 a0 2 = n + 1 from by rw [pq2]; exact up2_s) (fun px1 F2 ie1 => ?_)
    have W2 := W1.lapp pq2 t_a0 rfl re1 t_b0.1 px1 (show (n + 1) = iv a0 2 + 1 by omega) (show iv a0 2 + 1 ≤ 512 by omega) (by omega) rfl
    refine hv2 (show 0 ≤ iv1 a0 2 ∧ iv1 a0 2 ≤ 512 from W2.int t_a0 2) (Phi.le W2 hS) (fun ri1 pl1 => ?_)
    exact c_vret C dJx4a65c_add_72be8_22 rfl (by decide) (rom0 hph pl1 (by decide)) ⟨rfl, hX0, F2, W2, ⟨by omega, (by rw [el_of re1, show (iv a0 2).toNat = n.toNat by omega, pq1]; exact upr_s), fun i hi => (by rw [el_of re1, pq1, upr_j (by omega)]; exact (el_of hed).symm)⟩⟩
  · refine c_aload_n (j := 0) (x := a0) C dJx4a65c_add_72be8_6 rfl ?_
    have ri2 : 0 ≤ iv a0 2 ∧ iv a0 2 ≤ 512 := hW.int t_a0 2
    refine d_callV (As := []) (rest := []) C hM (C_grow0B_23 (a0 := a0) (b0 := b0) hW hS t_a0 t_b0  hed hcb (by show iv a0 2 = ((ln b0 : Nat) : Int) ∧ iv a0 2 < 512; omega)) dJx4a65c_add_72be8_7 kV_Jx4a65c_129 rfl t_a0 rfl rfl (by decide) ck_0 rfl (Nat.le_of_ble_eq_true rfl) ⟨(Nat.le_of_ble_eq_true rfl), (Nat.le_of_ble_eq_true rfl)⟩ hph hph (show 0 + 1216 = 1216 from rfl) (by decide) (fun rh1 Lh1 clh1 lnh1 ivh1 rvh1 h1 => ?_)
    obtain ⟨f1, rfl, xl1, fl1, W3, rgf1, exf1⟩ := h1
    refine hv3 (hF0.call hX0 fl1 rfl) (hX0.trans xl1) (xl1.skl hS) (fun F3 X1 sk1 => ?_)
    refine c_st (st2 := [.ref f1]) rfl ?_
    refine hv4 (xl1.ty t_a0) (show rvh1 a0 1 = some f1 ∧ ivh1 a0 2 = iv a0 2 ∧ iv a0 2 + 1 ≤ ((lnh1 f1 : Nat) : Int) ∧ clh1 f1 = 1000 + 5 * a0 + 1 ∧ ∀ i : Nat, (i : Int) < iv a0 2 → rvh1 f1 i = el rv a0 i from exf1) (exf1.2.2.1) (exf1.2.1) (fun ty1 gf1 gzf1 gyf1 => ?_)
    have ri3 : 0 ≤ ivh1 a0 2 ∧ ivh1 a0 2 ≤ 512 := W3.int ty1 2
    refine c_astore_n (lv2 := [(2, .ref f1), (0, .ref a0), (1, .ref x), (3, .int (iI n))]) C dJx4a65c_add_72be8_10 (by decide) rfl ?_
    refine c_aload_n (j := 0) (x := f1) C dJx4a65c_add_72be8_11 rfl ?_
    refine c_iload_n (j := 3) C dJx4a65c_add_72be8_12 rfl ?_
    refine c_aload_n (j := 2) (x := x) C dJx4a65c_add_72be8_13 rfl ?_
    refine hv2 (show 10 ≤ lnh1 f1 ∧ lnh1 f1 ≤ 1200 from W3.len rgf1 rfl) (xl1.ty t_x) (fun ll2 ty2 => ?_)
    refine c_aastO (z := n) C ck_1 w8_184t dJx4a65c_add_72be8_14 rgf1 rfl ty2 rfl rfl (by decide) (by omega) (by omega) (by omega) (fun rv2 pq3 => ⟨1216, (by rw [Phi.putr sk1 pq3 rgf1 rfl]; exact Nat.le_refl _), ?_⟩)
    refine hv2 (W3.lset pq3 rgf1 (by decide) ty2) (F3.putr X1 pq3 rgf1 rfl) (fun W4 F4 => ?_)
    refine c_aload_n (j := 1) (x := a0) C dJx4a65c_add_72be8_15 rfl ?_
    refine c_iload_n (j := 3) C dJx4a65c_add_72be8_16 rfl ?_
    refine c_iconst C dJx4a65c_add_72be8_17 ?_
    refine c_iadd C dJx4a65c_add_72be8_18 ?_
    refine c_put (z := n + 1) (k := 2) C ck_0 dJx4a65c_add_72be8_19 w1_79 (by decide) rfl ty1 rfl rfl (by decide) rfl (by rfl) (by rfl) (fun iv2 pq4 => ?_)
    have re2 : rv2 a0 1 = rvh1 a0 1 := (by rw [pq3]; exact congrFun (upr_a (ne_ty ty1 rgf1 (by decide))) _)
    rw [exf1.1] at re2
    refine hv3 (show rv2 f1 (ivh1 a0 2).toNat = some x from by rw [show (ivh1 a0 2).toNat = n.toNat by omega, pq3]; exact upr_s) (F4.puti X1 pq4 ty1 rfl) (show iv2 a0 2 = n + 1 from by rw [pq4]; exact up2_s) (fun px2 F5 ie3 => ?_)
    have W5 := W4.lapp pq4 ty1 rfl re2 rgf1.1 px2 (show (n + 1) = ivh1 a0 2 + 1 by omega) (show ivh1 a0 2 + 1 ≤ 512 by omega) (by omega) rfl
    refine hv2 (show 0 ≤ iv2 a0 2 ∧ iv2 a0 2 ≤ 512 from W5.int ty1 2) (Phi.le W5 sk1) (fun ri4 pl2 => ?_)
    exact c_vret C dJx4a65c_add_72be8_22 rfl (by decide) (rom0 hph pl2 (by decide)) ⟨rfl, X1, F5, W5, ⟨by omega, (by rw [el_of re2, show (iv a0 2).toNat = n.toNat by omega, pq3]; exact upr_s), fun i hi => (by rw [el_of re2, pq3, upr_j (by omega)]; exact exf1.2.2.2.2 i hi)⟩⟩
set_option maxHeartbeats 4000000 in
set_option maxRecDepth 100000 in
theorem C_add_23 {l : Launch} {G : GT} {mi : Nat} {sk : Nat → Nat} {L : List Nat} {cl ln : Nat → Nat} {iv : Nat → Nat → Int} {rv : Nat → Nat → Option Nat}  {a0 : Nat} {x : Nat} (hW : WT (g0 G) sk L cl ln iv rv) (hS : SKL sk L cl) (t_a0 : ty L cl a0 23) (t_x : ty L cl x 21) (hn : iv a0 2 < 512) : Mc l G mi (Phi (g0 G) sk) PHM yJx4a65c_add_9ea2d cJx4a65c_add_9ea2d 2 (some .boolean) 6 [.ref a0, .ref x] L cl ln iv rv 1216 (fun v L2 cl2 ln2 iv2 rv2 => ∃ f : Int, v = some (.int (iI f)) ∧ XT L cl ln L2 cl2 ln2 ∧ fT [23, 1001] L cl iv rv iv2 rv2 ∧ WT (g0 G) sk L2 cl2 ln2 iv2 rv2 ∧ (f = 0 ∨ f = 1) ∧ (iv2 a0 2 = iv a0 2 + 1 ∧ el rv2 a0 (iv a0 2).toNat = some x ∧ ∀ i : Nat, (i : Int) < iv a0 2 → el rv2 a0 i = el rv a0 i)) := by
  refine Mc.mk (by decide) (Nat.le_of_ble_eq_true rfl) ?_
  intro p e s m args below meth c A C hM
  refine hv3 (Phi.le hW hS) (show XT L cl ln L cl ln from XT.refl) (show fT [23, 1001] L cl iv rv iv rv from fT.refl) (fun hph hX0 hF0 => ?_)
  refine c_aload_n (j := 0) (x := a0) C dJx4a65c_add_9ea2d_0 rfl ?_
  refine c_dup C dJx4a65c_add_9ea2d_1 rfl ?_
  have ri1 : (-2147483648) ≤ iv a0 0 ∧ iv a0 0 ≤ 2147483647 := hW.int t_a0 0
  refine c_getU (k := 0) C ck_0 dJx4a65c_add_9ea2d_2 w1_81 w1_82 (by decide) t_a0 rfl rfl (by decide) rfl ?_
  refine c_iconst C dJx4a65c_add_9ea2d_5 ?_
  refine c_iadd C dJx4a65c_add_9ea2d_6 ?_
  obtain ⟨zz1, hzz1, ezz1⟩ := iI_of (iI ((iv a0 0) + 1))
  refine c_st (st2 := [.int (iI zz1), .ref a0]) (by rw [ezz1]) ?_
  refine c_putU (z := zz1) (k := 0) C ck_0 dJx4a65c_add_9ea2d_7 w1_81 w1_82 (by decide) rfl t_a0 rfl rfl (by decide) rfl (by rfl) (by rfl) (fun iv1 pq1 => ?_)
  refine hv2 (hW.puti pq1 t_a0 (show (-2147483648) ≤ zz1 ∧ zz1 ≤ 2147483647 by omega) rfl) (hF0.puti hX0 pq1 t_a0 rfl) (fun W1 F1 => ?_)
  refine c_aload_n (j := 0) (x := a0) C dJx4a65c_add_9ea2d_10 rfl ?_
  refine c_aload_n (j := 1) (x := x) C dJx4a65c_add_9ea2d_11 rfl ?_
  refine c_aload_n (j := 0) (x := a0) C dJx4a65c_add_9ea2d_12 rfl ?_
  refine hv2 (show 0 ≤ iv1 a0 2 ∧ iv1 a0 2 ≤ 512 from W1.int t_a0 2) (show iv1 a0 2 = iv a0 2 from by rw [pq1]; exact up2_j (by decide)) (fun ri2 ie1 => ?_)
  rcases W1.edc t_a0 rfl rfl with ⟨eq1, zeb1⟩ | ⟨eb1, eq1, teb1, ceb1, zeb1⟩
  · refine c_getr (k := 1) C ck_0 dJx4a65c_add_9ea2d_13 w1_78 (by decide) t_a0 rfl rfl (by decide) rfl eq1 ?_
    refine c_st (st2 := [.ref (g0 G), .ref x, .ref a0]) rfl ?_
    refine c_aload_n (j := 0) (x := a0) C dJx4a65c_add_9ea2d_16 rfl ?_
    refine c_get (k := 2) C ck_0 dJx4a65c_add_9ea2d_17 w1_79 (by decide) t_a0 rfl rfl (by decide) rfl ?_
    refine d_callV (As := [.ref x, .ref (g0 G), .int (iI (iv1 a0 2))]) (rest := []) C hM (C_add3A_23 (a0 := a0) (x := x) (n := iv1 a0 2) W1 hS t_a0 t_x (by omega) eq1 (by show (iv1 a0 2) = iv1 a0 2 ∧ (iv1 a0 2) = 0; omega)) dJx4a65c_add_9ea2d_20 kV_Jx4a65c_131 rfl t_a0 rfl rfl (by decide) ck_0 rfl (Nat.le_of_ble_eq_true rfl) ⟨(Nat.le_of_ble_eq_true rfl), (Nat.le_of_ble_eq_true rfl)⟩ hph hph (show 0 + 1216 = 1216 from rfl) (by decide) (fun rh1 Lh1 clh1 lnh1 ivh1 rvh1 h1 => ?_)
    obtain ⟨rfl, xl1, fl1, W2, exf1⟩ := h1
    refine hv3 (F1.call hX0 fl1 rfl) (hX0.trans xl1) (xl1.skl hS) (fun F2 X1 sk1 => ?_)
    refine c_st (st2 := []) rfl ?_
    refine hv2 (xl1.ty t_a0) (show ivh1 a0 2 = iv1 a0 2 + 1 ∧ el rvh1 a0 (iv1 a0 2).toNat = some x ∧ ∀ i : Nat, (i : Int) < iv1 a0 2 → el rvh1 a0 i = el rv a0 i from exf1) (fun ty1 gf1 => ?_)
    have ri3 : 0 ≤ ivh1 a0 2 ∧ ivh1 a0 2 ≤ 512 := W2.int ty1 2
    refine c_iconst C dJx4a65c_add_9ea2d_23 ?_
    have pl1 := Phi.le W2 sk1
    exact c_zret C dJx4a65c_add_9ea2d_24 rfl (Or.inr rfl) (by decide) (rom0 hph pl1 (by decide)) ⟨1, rfl, X1, F2, W2, (Or.inr rfl), ⟨by omega, (by rw [show (iv a0 2).toNat = (iv1 a0 2).toNat by omega]; exact exf1.2.1), fun i hi => exf1.2.2 i (by omega)⟩⟩
  · have lneb1 : 10 ≤ ln eb1 ∧ ln eb1 ≤ 1200 := W1.len teb1 rfl
    refine c_getr (k := 1) C ck_0 dJx4a65c_add_9ea2d_13 w1_78 (by decide) t_a0 rfl rfl (by decide) rfl eq1 ?_
    refine c_st (st2 := [.ref eb1, .ref x, .ref a0]) rfl ?_
    refine c_aload_n (j := 0) (x := a0) C dJx4a65c_add_9ea2d_16 rfl ?_
    refine c_get (k := 2) C ck_0 dJx4a65c_add_9ea2d_17 w1_79 (by decide) t_a0 rfl rfl (by decide) rfl ?_
    refine d_callV (As := [.ref x, .ref eb1, .int (iI (iv1 a0 2))]) (rest := []) C hM (C_add3B_23 (a0 := a0) (x := x) (b0 := eb1) (n := iv1 a0 2) W1 hS t_a0 t_x teb1 (by omega) eq1 ceb1 (by show (iv1 a0 2) = iv1 a0 2 ∧ 0 ≤ (iv1 a0 2) ∧ (iv1 a0 2) ≤ ((ln eb1 : Nat) : Int) ∧ (iv1 a0 2) < 512; omega)) dJx4a65c_add_9ea2d_20 kV_Jx4a65c_131 rfl t_a0 rfl rfl (by decide) ck_0 rfl (Nat.le_of_ble_eq_true rfl) ⟨(Nat.le_of_ble_eq_true rfl), (Nat.le_of_ble_eq_true rfl)⟩ hph hph (show 0 + 1216 = 1216 from rfl) (by decide) (fun rh2 Lh2 clh2 lnh2 ivh2 rvh2 h2 => ?_)
    obtain ⟨rfl, xl2, fl2, W3, exf2⟩ := h2
    refine hv3 (F1.call hX0 fl2 rfl) (hX0.trans xl2) (xl2.skl hS) (fun F3 X2 sk2 => ?_)
    refine c_st (st2 := []) rfl ?_
    refine hv2 (xl2.ty t_a0) (show ivh2 a0 2 = iv1 a0 2 + 1 ∧ el rvh2 a0 (iv1 a0 2).toNat = some x ∧ ∀ i : Nat, (i : Int) < iv1 a0 2 → el rvh2 a0 i = el rv a0 i from exf2) (fun ty2 gf2 => ?_)
    have ri4 : 0 ≤ ivh2 a0 2 ∧ ivh2 a0 2 ≤ 512 := W3.int ty2 2
    refine c_iconst C dJx4a65c_add_9ea2d_23 ?_
    have pl2 := Phi.le W3 sk2
    exact c_zret C dJx4a65c_add_9ea2d_24 rfl (Or.inr rfl) (by decide) (rom0 hph pl2 (by decide)) ⟨1, rfl, X2, F3, W3, (Or.inr rfl), ⟨by omega, (by rw [show (iv a0 2).toNat = (iv1 a0 2).toNat by omega]; exact exf2.2.1), fun i hi => exf2.2.2 i (by omega)⟩⟩
set_option maxHeartbeats 4000000 in
set_option maxRecDepth 100000 in
theorem C_fastRemove_23 {l : Launch} {G : GT} {mi : Nat} {sk : Nat → Nat} {L : List Nat} {cl ln : Nat → Nat} {iv : Nat → Nat → Int} {rv : Nat → Nat → Option Nat}  {a0 : Nat} {b0 : Nat} {i : Int} (hW : WT (g0 G) sk L cl ln iv rv) (hS : SKL sk L cl) (t_a0 : ty L cl a0 23) (t_b0 : ty L cl b0 1001) (h_i : -2147483648 ≤ i ∧ i ≤ 2147483647) (hed : rv a0 1 = some b0) (hcb : cl b0 = 1000 + 5 * a0 + 1) (hi : i = iv a0 2 - 1 ∧ 0 ≤ i ∧ iv a0 2 ≤ ((ln b0 : Nat) : Int)) : Mc l G mi (Phi (g0 G) sk) PHM yJx4a65c_fastRemove_b59b0 cJx4a65c_fastRemove_b59b0 4 none 0 [.ref a0, .ref b0, .int (iI i)] L cl ln iv rv 0 (fun v L2 cl2 ln2 iv2 rv2 => v = none ∧ L = L2 ∧ cl = cl2 ∧ ln = ln2 ∧ fT [23, 1001] L cl iv rv iv2 rv2 ∧ WT (g0 G) sk L2 cl2 ln2 iv2 rv2 ∧ (iv2 a0 2 = iv a0 2 - 1 ∧ ∀ j : Nat, (j : Int) < iv a0 2 - 1 → el rv2 a0 j = el rv a0 j)) := by
  refine Mc.mk (by decide) (Nat.le_of_ble_eq_true rfl) ?_
  intro p e s m args below meth c A C hM
  refine hv3 (Phi.le hW hS) (show XT L cl ln L cl ln from XT.refl) (show fT [23, 1001] L cl iv rv iv rv from fT.refl) (fun hph hX0 hF0 => ?_)
  refine c_aload_n (j := 0) (x := a0) C dJx4a65c_fastRemove_b59b0_0 rfl ?_
  refine c_dup C dJx4a65c_fastRemove_b59b0_1 rfl ?_
  have ri1 : (-2147483648) ≤ iv a0 0 ∧ iv a0 0 ≤ 2147483647 := hW.int t_a0 0
  refine c_getU (k := 0) C ck_0 dJx4a65c_fastRemove_b59b0_2 w1_81 w1_82 (by decide) t_a0 rfl rfl (by decide) rfl ?_
  refine c_iconst C dJx4a65c_fastRemove_b59b0_5 ?_
  refine c_iadd C dJx4a65c_fastRemove_b59b0_6 ?_
  obtain ⟨zz1, hzz1, ezz1⟩ := iI_of (iI ((iv a0 0) + 1))
  refine c_st (st2 := [.int (iI zz1), .ref a0]) (by rw [ezz1]) ?_
  refine c_putU (z := zz1) (k := 0) C ck_0 dJx4a65c_fastRemove_b59b0_7 w1_81 w1_82 (by decide) rfl t_a0 rfl rfl (by decide) rfl (by rfl) (by rfl) (fun iv1 pq1 => ?_)
  refine hv2 (hW.puti pq1 t_a0 (show (-2147483648) ≤ zz1 ∧ zz1 ≤ 2147483647 by omega) rfl) (hF0.puti hX0 pq1 t_a0 rfl) (fun W1 F1 => ?_)
  refine c_aload_n (j := 0) (x := a0) C dJx4a65c_fastRemove_b59b0_10 rfl ?_
  refine hv2 (show 0 ≤ iv1 a0 2 ∧ iv1 a0 2 ≤ 512 from W1.int t_a0 2) (show iv1 a0 2 = iv a0 2 from by rw [pq1]; exact up2_j (by decide)) (fun ri2 ie1 => ?_)
  refine c_get (k := 2) C ck_0 dJx4a65c_fastRemove_b59b0_11 w1_79 (by decide) t_a0 rfl rfl (by decide) rfl ?_
  refine c_iconst C dJx4a65c_fastRemove_b59b0_14 ?_
  refine c_isub C dJx4a65c_fastRemove_b59b0_15 ?_
  refine c_dup C dJx4a65c_fastRemove_b59b0_16 rfl ?_
  refine c_istore_n (lv2 := [(3, .int (iI ((iv1 a0 2) - 1))), (0, .ref a0), (1, .ref b0), (2, .int (iI i))]) C dJx4a65c_fastRemove_b59b0_17 (by decide) rfl ?_
  refine c_iload_n (j := 3) C dJx4a65c_fastRemove_b59b0_18 rfl ?_
  refine c_icmp_le (tgt := 34) C ⟨by omega, by omega⟩ ⟨by omega, by omega⟩ dJx4a65c_fastRemove_b59b0_19 (by decide) (fun _ => ?_) (fun z => absurd z (by omega))
  refine c_aload_n (j := 2) (x := b0) C dJx4a65c_fastRemove_b59b0_34 rfl ?_
  refine c_aload_n (j := 1) (x := a0) C dJx4a65c_fastRemove_b59b0_35 rfl ?_
  refine c_iload_n (j := 0) C dJx4a65c_fastRemove_b59b0_36 rfl ?_
  refine c_dup_x1 C dJx4a65c_fastRemove_b59b0_37 rfl rfl ?_
  refine c_put (z := (iv1 a0 2) - 1) (k := 2) C ck_0 dJx4a65c_fastRemove_b59b0_38 w1_79 (by decide) rfl t_a0 rfl rfl (by decide) rfl (by rfl) (by rfl) (fun iv2 pq2 => ?_)
  refine hv2 (W1.lsz pq2 t_a0 rfl (show 0 ≤ ((iv1 a0 2) - 1) ∧ ((iv1 a0 2) - 1) ≤ iv1 a0 2 by omega)) (F1.puti hX0 pq2 t_a0 rfl) (fun W2 F2 => ?_)
  refine c_null C dJx4a65c_fastRemove_b59b0_41 ?_
  have ll1 : 10 ≤ ln b0 ∧ ln b0 ≤ 1200 := W2.len t_b0 rfl
  refine c_aastNO (z := (iv1 a0 2) - 1) C dJx4a65c_fastRemove_b59b0_42 t_b0 rfl (by omega) (by omega) (by omega) (fun rv1 pq3 => ⟨0, (by rw [Phi.putr hS pq3 t_b0 rfl]; exact Nat.le_refl _), ?_⟩)
  refine hv4 (show 0 ≤ iv2 a0 2 ∧ iv2 a0 2 ≤ 512 from W2.int t_a0 2) (show iv2 a0 2 = (iv1 a0 2) - 1 from by rw [pq2]; exact up2_s) (F2.putr hX0 pq3 t_b0 rfl) (show rv1 a0 1 = rv a0 1 from (by rw [pq3]; exact congrFun (upr_a (ne_ty t_a0 t_b0 (by decide))) _)) (fun ri3 ie2 F3 re1 => ?_)
  have W3 := W2.lnull (a := a0) (k := 1) pq3 t_b0 (by decide) rfl hcb (by decide) (show iv2 a0 2 ≤ ((((iv1 a0 2) - 1).toNat : Nat) : Int) by omega)
  rw [hed] at re1
  have pl1 := Phi.le W3 hS
  exact c_vret C dJx4a65c_fastRemove_b59b0_43 rfl (by decide) (rom0 hph pl1 (by decide)) ⟨rfl, rfl, rfl, rfl, F3, W3, ⟨by omega, fun j hj => (by rw [el_of re1, el_of hed, pq3, upr_j (by omega)])⟩⟩
set_option maxHeartbeats 4000000 in
set_option maxRecDepth 100000 in
theorem C_remove_23 {l : Launch} {G : GT} {mi : Nat} {sk : Nat → Nat} {L : List Nat} {cl ln : Nat → Nat} {iv : Nat → Nat → Int} {rv : Nat → Nat → Option Nat}  {a0 : Nat} {i : Int} (hW : WT (g0 G) sk L cl ln iv rv) (hS : SKL sk L cl) (t_a0 : ty L cl a0 23) (h_i : -2147483648 ≤ i ∧ i ≤ 2147483647) (hi : i = iv a0 2 - 1 ∧ 0 ≤ i) : Mc l G mi (Phi (g0 G) sk) PHM yJx4a65c_remove_915e3 cJx4a65c_remove_915e3 4 (some (.object "java/lang/Object")) 2 [.ref a0, .int (iI i)] L cl ln iv rv 0 (fun v L2 cl2 ln2 iv2 rv2 => ∃ f : Nat, v = some (.ref f) ∧ L = L2 ∧ cl = cl2 ∧ ln = ln2 ∧ fT [23, 1001] L cl iv rv iv2 rv2 ∧ WT (g0 G) sk L2 cl2 ln2 iv2 rv2 ∧ ty L2 cl2 f 21 ∧ (iv2 a0 2 = iv a0 2 - 1 ∧ ∀ j : Nat, (j : Int) < iv a0 2 - 1 → el rv2 a0 j = el rv a0 j) ∧ (el rv a0 (iv a0 2 - 1).toNat = some f)) := by
  refine Mc.mk (by decide) (Nat.le_of_ble_eq_true rfl) ?_
  intro p e s m args below meth c A C hM
  refine hv3 (Phi.le hW hS) (show XT L cl ln L cl ln from XT.refl) (show fT [23, 1001] L cl iv rv iv rv from fT.refl) (fun hph hX0 hF0 => ?_)
  refine c_iload_n (j := 1) C dJx4a65c_remove_915e3_0 rfl ?_
  refine c_aload_n (j := 0) (x := a0) C dJx4a65c_remove_915e3_1 rfl ?_
  have ri1 : 0 ≤ iv a0 2 ∧ iv a0 2 ≤ 512 := hW.int t_a0 2
  refine c_get (k := 2) C ck_0 dJx4a65c_remove_915e3_2 w1_79 (by decide) t_a0 rfl rfl (by decide) rfl ?_
  refine d_callS (As := [.int (iI i), .int (iI (iv a0 2))]) (rest := []) C hM (C_checkIndex2 (i := i) (n := iv a0 2) hW hS  (by omega) (by omega) (by show 0 ≤ i ∧ i < (iv a0 2); omega)) dJx4a65c_remove_915e3_5 kS_Jx4a65c_118 rfl rfl (Nat.le_of_ble_eq_true rfl) ⟨(Nat.le_of_ble_eq_true rfl), (Nat.le_of_ble_eq_true rfl)⟩ hph hph (show 0 + 0 = 0 from rfl) (by decide) (fun rh1 Lh1 clh1 lnh1 ivh1 rvh1 h1 => ?_)
  obtain ⟨f1, rfl, rfl, rfl, rfl, rfl, rfl, rgf1, exf1⟩ := h1
  refine c_st (st2 := [.int (iI f1)]) rfl ?_
  have gf1 : f1 = i := exf1
  refine c_pop C dJx4a65c_remove_915e3_8 rfl ?_
  refine c_aload_n (j := 0) (x := a0) C dJx4a65c_remove_915e3_9 rfl ?_
  obtain ⟨eb1, eq1, teb1, ceb1, zeb1⟩ := hW.ed2 t_a0 rfl rfl (by omega)
  have lneb1 : 10 ≤ ln eb1 ∧ ln eb1 ≤ 1200 := hW.len teb1 rfl
  refine c_getr (k := 1) C ck_0 dJx4a65c_remove_915e3_10 w1_78 (by decide) t_a0 rfl rfl (by decide) rfl eq1 ?_
  refine c_st (st2 := [.ref eb1]) rfl ?_
  refine c_astore_n (lv2 := [(2, .ref eb1), (0, .ref a0), (1, .int (iI i))]) C dJx4a65c_remove_915e3_13 (by decide) rfl ?_
  refine c_aload_n (j := 0) (x := eb1) C dJx4a65c_remove_915e3_14 rfl ?_
  refine c_iload_n (j := 2) C dJx4a65c_remove_915e3_15 rfl ?_
  have ll1 : 10 ≤ ln eb1 ∧ ln eb1 ≤ 1200 := hW.len teb1 rfl
  obtain ⟨nb1, nq1, tnb1⟩ := hW.elem t_a0 rfl eq1 teb1 rfl rfl (i := i.toNat) (by omega)
  have tnb1 : ty L cl nb1 21 := tnb1
  refine c_aaldO C dJx4a65c_remove_915e3_16 teb1 rfl (by omega) (by omega) (by omega) nq1 ?_
  refine c_st (st2 := [.ref nb1]) rfl ?_
  refine c_astore_n (lv2 := [(3, .ref nb1), (2, .ref eb1), (0, .ref a0), (1, .int (iI i))]) C dJx4a65c_remove_915e3_17 (by decide) rfl ?_
  refine c_aload_n (j := 2) (x := a0) C dJx4a65c_remove_915e3_18 rfl ?_
  refine c_aload_n (j := 1) (x := eb1) C dJx4a65c_remove_915e3_19 rfl ?_
  refine c_iload_n (j := 3) C dJx4a65c_remove_915e3_20 rfl ?_
  refine d_callV (As := [.ref eb1, .int (iI i)]) (rest := []) C hM (C_fastRemove_23 (a0 := a0) (b0 := eb1) (i := i) hW hS t_a0 teb1 (by omega) eq1 ceb1 (by show i = iv a0 2 - 1 ∧ 0 ≤ i ∧ iv a0 2 ≤ ((ln eb1 : Nat) : Int); omega)) dJx4a65c_remove_915e3_21 kV_Jx4a65c_144 rfl t_a0 rfl rfl (by decide) ck_0 rfl (Nat.le_of_ble_eq_true rfl) ⟨(Nat.le_of_ble_eq_true rfl), (Nat.le_of_ble_eq_true rfl)⟩ hph hph (show 0 + 0 = 0 from rfl) (by decide) (fun rh2 Lh2 clh2 lnh2 ivh2 rvh2 h2 => ?_)
  obtain ⟨rfl, rfl, rfl, rfl, fl2, W2, exf2⟩ := h2
  have F1 := hF0.call hX0 fl2 rfl
  refine c_st (st2 := []) rfl ?_
  refine hv2 (show 0 ≤ ivh2 a0 2 ∧ ivh2 a0 2 ≤ 512 from W2.int t_a0 2) (show ivh2 a0 2 = iv a0 2 - 1 ∧ ∀ j : Nat, (j : Int) < iv a0 2 - 1 → el rvh2 a0 j = el rv a0 j from exf2) (fun ri2 gf2 => ?_)
  refine c_aload_n (j := 0) (x := nb1) C dJx4a65c_remove_915e3_24 rfl ?_
  have pl1 := Phi.le W2 hS
  exact c_aret (x := some nb1) C dJx4a65c_remove_915e3_25 rfl (Or.inl ⟨_, rfl⟩) (by decide) (rom0 hph pl1 (by decide)) ⟨nb1, rfl, rfl, rfl, rfl, F1, W2, tnb1, ⟨by omega, fun j hj => exf2.2 j (by omega)⟩, (by rw [show (iv a0 2 - 1).toNat = i.toNat by omega]; exact ((el_of eq1).trans nq1))⟩
set_option maxHeartbeats 4000000 in
set_option maxRecDepth 100000 in
theorem Z_copyO3_24 {l : Launch} {G : GT} {mi : Nat} {sk : Nat → Nat} {L : List Nat} {cl ln : Nat → Nat} {iv : Nat → Nat → Int} {rv : Nat → Nat → Option Nat}  {a0 : Nat} {n : Int} (hW : WT (g0 G) sk L cl ln iv rv) (hS : SKL sk L cl) (t_a0 : ty L cl a0 1002) (h_n : -2147483648 ≤ n ∧ n ≤ 2147483647) (hn : ((ln a0 : Nat) : Int) < n ∧ 10 ≤ n ∧ n ≤ 9100) : Mc l G mi zPf 0 yJ7_copyOf_6403c cJ7_copyOf_6403c 4 (some (.array (.object "java/lang/Object"))) 1 [.ref a0, .int (iI n), .ref mi] L cl ln iv rv (16 + n.toNat) (fun v L2 cl2 ln2 iv2 rv2 => ∃ f : Nat, v = some (.ref f) ∧ XT L cl ln L2 cl2 ln2 ∧ fT [1002] L cl iv rv iv2 rv2 ∧ WT (g0 G) sk L2 cl2 ln2 iv2 rv2 ∧ ty L2 cl2 f 1002 ∧ (ln2 f = n.toNat ∧ cl2 f = cl a0 ∧ ∀ i : Nat, i < ln a0 → rv2 f i = rv a0 i)) := by
  refine Mc.mk (by decide) (Nat.le_of_ble_eq_true rfl) ?_
  intro p e s m args below meth c A C hM
  refine hv3 ((show zPf ln rv ≤ 0 from Nat.le_refl 0)) (show XT L cl ln L cl ln from XT.refl) (show fT [1002] L cl iv rv iv rv from fT.refl) (fun hph hX0 hF0 => ?_)
  refine c_aload_n (j := 2) (x := mi) C dJ7_copyOf_6403c_0 rfl ?_
  refine c_ldcM C hM dJ7_copyOf_6403c_1 w3_29 ?_
  refine c_acmp_ne (rx := some mi) (ry := some mi) (tgt := 13) C dJ7_copyOf_6403c_3 (by decide) (fun q => absurd rfl q) (fun _ => ?_)
  refine c_iload_n (j := 1) C dJ7_copyOf_6403c_6 rfl ?_
  refine c_newaO (z := n) (N := n.toNat) C (cl a0) dJ7_copyOf_6403c_7 w3_31 w3_30t (by rw [t_a0.2]; rfl) (by omega) (by omega) (rom2 hph hph (by omega)) (fun qn1 cln1 lnn1 ivn1 rvn1 hqn1 hcn1 hln1 hin1 hrn1 => ⟨(0 + (16 + n.toNat)), (z_in (by omega)), ?_⟩)
  refine c_g0 C (fun hg1 => ?_)
  refine hv5 (show ∀ b, b ≠ qn1 → lnn1 b = ln b from (fun b hb => by rw [hln1]; exact va_up_ne _ _ hb)) (show lnn1 qn1 = n.toNat from by rw [hln1]; exact va_up_self _ _ _) (hF0.new hX0 hqn1 hin1 hrn1) (show ty (L ++ [qn1]) cln1 qn1 1002 from ⟨List.mem_append_right _ List.mem_cons_self, by rw [hcn1, va_up_self]; exact t_a0.2⟩) (show cln1 qn1 = (cl a0) from by rw [hcn1]; exact va_up_self _ _ _) (fun hxn1 lqn1 F1 tqn1 clqn1 => ?_)
  refine hv2 (hW.new (ln2 := lnn1) hqn1 (hg1 qn1 (List.mem_append_right _ List.mem_cons_self)) hcn1 hxn1 hin1 hrn1 (fun _ => by rw [t_a0.2]; exact ⟨(show (-2147483648 : Int) ≤ 0 by decide), (show (0 : Int) ≤ 2147483647 by decide)⟩) (Or.inr (fun _ => by rw [t_a0.2]; rfl)) (fun _ => by rw [t_a0.2]; show 10 ≤ lnn1 qn1 ∧ lnn1 qn1 ≤ 9100; omega) (by rw [t_a0.2]; rfl) (uq_big (by rw [t_a0.2]; decide))) (XT.new hqn1 hcn1 hxn1) (fun W1 xl1 => ?_)
  refine hv2 (hX0.trans xl1) (xl1.skl hS) (fun X1 sk1 => ?_)
  refine c_goto (tgt := 24) C dJ7_copyOf_6403c_10 (by decide) ?_
  refine c_astore_n (lv2 := [(3, .ref qn1), (0, .ref a0), (1, .int (iI n)), (2, .ref mi)]) C dJ7_copyOf_6403c_24 (by decide) rfl ?_
  refine c_aload_n (j := 1) (x := a0) C dJ7_copyOf_6403c_25 rfl ?_
  refine c_iconst C dJ7_copyOf_6403c_26 ?_
  refine c_aload_n (j := 0) (x := qn1) C dJ7_copyOf_6403c_27 rfl ?_
  refine c_iconst C dJ7_copyOf_6403c_28 ?_
  refine c_aload_n (j := 1) (x := a0) C dJ7_copyOf_6403c_29 rfl ?_
  have ty1 := xl1.ty t_a0
  have ll1 : 10 ≤ lnn1 a0 ∧ lnn1 a0 ≤ 9100 := W1.len ty1 rfl
  refine c_alenO C dJ7_copyOf_6403c_30 ty1 rfl ?_
  refine c_iload_n (j := 2) C dJ7_copyOf_6403c_31 rfl ?_
  obtain ⟨mn1, hmn1, emn1⟩ := mmin_c (x := ((lnn1 a0 : Nat) : Int)) (y := n) ⟨by omega, by omega⟩ ⟨by omega, by omega⟩
  refine c_mmin (w := iI mn1) C dJ7_copyOf_6403c_32 w2_128 w2_129 w1_14 w2_130 (by decide) (rom0 hph (Nat.le_refl 0) (by omega)) (Nat.le_of_ble_eq_true rfl) emn1 ?_
  have le1 : lnn1 a0 = ln a0 := (xl1 a0 t_a0.1).2.2
  refine c_copyq (n := mn1) C ck_6 w8_185t dJ7_copyOf_6403c_35 w2_131 w2_133 w2_132 w1_15 ty1 rfl tqn1 rfl (fun i y hy => by
      rcases W1.opt ty1 i rfl rfl with qq | ⟨bb, q1, q2⟩
      · rw [qq.1] at hy; cases hy
      · rw [q1] at hy; cases hy; exact q2) rfl rfl (by decide) (by omega) (by omega) (by omega) (by omega) (by decide) (Nat.le_of_ble_eq_true rfl) (fun rv1 cq1 => ⟨(0 + (16 + n.toNat)), (zp2 (Nat.le_refl _)), ?_⟩)
  have hno : ∀ w ∈ (L ++ [qn1]), lst (bt (cln1 w)) = true → rvn1 w 1 ≠ some qn1 := by
    intro w hw hl3 e3
    rcases List.mem_append.mp hw with e4 | e4
    · have hwq : w ≠ qn1 := fun e => hqn1 (e ▸ e4)
      rw [hcn1, va_up_ne _ _ hwq] at hl3
      rw [hrn1, up0_a hwq] at e3
      rcases WT.ed hW e4 (lst_szd hl3) e3 with e5 | e5
      · exact hqn1 e5
      · exact hg1 qn1 tqn1.1 e5
    · have e5 := List.mem_singleton.mp e4
      rw [e5, tqn1.2] at hl3; cases hl3
  refine hv2 (W1.copyr (TB2 := 0) cq1 tqn1 ty1 (by decide) (fun _ _ => rfl) (fun _ => rfl) hno) (F1.copyr X1 cq1 tqn1 rfl) (fun W2 F2 => ?_)
  refine c_aload_n (j := 0) (x := qn1) C dJ7_copyOf_6403c_38 rfl ?_
  exact c_aret (x := some qn1) C dJ7_copyOf_6403c_39 rfl (Or.inr ⟨_, rfl⟩) (by omega) (rom0 hph (Nat.le_refl 0) (by omega)) ⟨qn1, rfl, X1, F2, W2, tqn1, ⟨by omega, clqn1, fun i hi => by
      rw [cq1]
      show (if qn1 = qn1 then _ else _) = rv a0 i
      rw [if_pos rfl, if_pos (by omega), hrn1]
      exact congrFun (up0_a (ne_in t_a0.1 hqn1)) i⟩⟩
set_option maxHeartbeats 4000000 in
set_option maxRecDepth 100000 in
theorem Z_copyO2_24 {l : Launch} {G : GT} {mi : Nat} {sk : Nat → Nat} {L : List Nat} {cl ln : Nat → Nat} {iv : Nat → Nat → Int} {rv : Nat → Nat → Option Nat}  {a0 : Nat} {n : Int} (hW : WT (g0 G) sk L cl ln iv rv) (hS : SKL sk L cl) (t_a0 : ty L cl a0 1002) (h_n : -2147483648 ≤ n ∧ n ≤ 2147483647) (hn : ((ln a0 : Nat) : Int) < n ∧ 10 ≤ n ∧ n ≤ 9100) : Mc l G mi zPf 0 yJ7_copyOf_1904c cJ7_copyOf_1904c 2 (some (.array (.object "java/lang/Object"))) 2 [.ref a0, .int (iI n)] L cl ln iv rv (16 + n.toNat) (fun v L2 cl2 ln2 iv2 rv2 => ∃ f : Nat, v = some (.ref f) ∧ XT L cl ln L2 cl2 ln2 ∧ fT [1002] L cl iv rv iv2 rv2 ∧ WT (g0 G) sk L2 cl2 ln2 iv2 rv2 ∧ ty L2 cl2 f 1002 ∧ (ln2 f = n.toNat ∧ cl2 f = cl a0 ∧ ∀ i : Nat, i < ln a0 → rv2 f i = rv a0 i)) := by
  refine Mc.mk (by decide) (Nat.le_of_ble_eq_true rfl) ?_
  intro p e s m args below meth c A C hM
  refine hv3 ((show zPf ln rv ≤ 0 from Nat.le_refl 0)) (show XT L cl ln L cl ln from XT.refl) (show fT [1002] L cl iv rv iv rv from fT.refl) (fun hph hX0 hF0 => ?_)
  refine c_aload_n (j := 0) (x := a0) C dJ7_copyOf_1904c_0 rfl ?_
  refine c_iload_n (j := 1) C dJ7_copyOf_1904c_1 rfl ?_
  refine c_aload_n (j := 0) (x := a0) C dJ7_copyOf_1904c_2 rfl ?_
  refine c_getC C hM dJ7_copyOf_1904c_3 w3_8 w8_172 w3_9 w3_25 t_a0 rfl (by decide) (Nat.le_of_ble_eq_true rfl) ?_
  refine c_callS (As := [.ref a0, .int (iI n), .ref mi]) (rest := []) C hM (Z_copyO3_24 (a0 := a0) (n := n) hW hS t_a0 (by omega) (by show ((ln a0 : Nat) : Int) < n ∧ 10 ≤ n ∧ n ≤ 9100; omega)) dJ7_copyOf_1904c_6 kS_J7_300 rfl rfl (Nat.le_of_ble_eq_true rfl) ⟨(Nat.le_of_ble_eq_true rfl), (Nat.le_of_ble_eq_true rfl)⟩ (rz0 hph (by omega)) (fun rh1 Lh1 clh1 lnh1 ivh1 rvh1 h1 => ⟨(0 + (16 + n.toNat)), zk0, ?_⟩)
  obtain ⟨f1, rfl, xl1, fl1, W1, rgf1, exf1⟩ := h1
  refine hv3 (hF0.call hX0 fl1 rfl) (hX0.trans xl1) (xl1.skl hS) (fun F1 X1 sk1 => ?_)
  refine c_st (st2 := [.ref f1]) rfl ?_
  have gf1 : lnh1 f1 = n.toNat ∧ clh1 f1 = cl a0 ∧ ∀ i : Nat, i < ln a0 → rvh1 f1 i = rv a0 i := exf1
  exact c_aret (x := some f1) C dJ7_copyOf_1904c_9 rfl (Or.inr ⟨_, rfl⟩) (by omega) (rom0 hph (Nat.le_refl 0) (by omega)) ⟨f1, rfl, X1, F1, W1, rgf1, exf1⟩
set_option maxHeartbeats 4000000 in
set_option maxRecDepth 100000 in
theorem C_growA_24 {l : Launch} {G : GT} {mi : Nat} {sk : Nat → Nat} {L : List Nat} {cl ln : Nat → Nat} {iv : Nat → Nat → Int} {rv : Nat → Nat → Option Nat}  {a0 : Nat} {n : Int} (hW : WT (g0 G) sk L cl ln iv rv) (hS : SKL sk L cl) (t_a0 : ty L cl a0 24) (h_n : -2147483648 ≤ n ∧ n ≤ 2147483647) (hed : rv a0 1 = some (g0 G)) (hn : n = 1 ∧ iv a0 2 = 0) : Mc l G mi (Phi (g0 G) sk) PHM yJx4a65c_grow_92f84 cJx4a65c_grow_92f84 4 (some (.array (.object "java/lang/Object"))) 3 [.ref a0, .int (iI n)] L cl ln iv rv 0 (fun v L2 cl2 ln2 iv2 rv2 => ∃ f : Nat, v = some (.ref f) ∧ XT L cl ln L2 cl2 ln2 ∧ fT [24, 1002] L cl iv rv iv2 rv2 ∧ WT (g0 G) sk L2 cl2 ln2 iv2 rv2 ∧ ty L2 cl2 f 1002 ∧ (rv2 a0 1 = some f ∧ iv2 a0 2 = iv a0 2 ∧ iv a0 2 + 1 ≤ ((ln2 f : Nat) : Int) ∧ cl2 f = 1000 + 5 * a0 + 2 ∧ ∀ i : Nat, (i : Int) < iv a0 2 → rv2 f i = el rv a0 i)) := by
  refine Mc.mk (by decide) (Nat.le_of_ble_eq_true rfl) ?_
  intro p e s m args below meth c A C hM
  refine hv3 (Phi.le hW hS) (show XT L cl ln L cl ln from XT.refl) (show fT [24, 1002] L cl iv rv iv rv from fT.refl) (fun hph hX0 hF0 => ?_)
  refine c_aload_n (j := 0) (x := a0) C dJx4a65c_grow_92f84_0 rfl ?_
  refine c_getr (k := 1) C ck_0 dJx4a65c_grow_92f84_1 w1_78 (by decide) t_a0 rfl rfl (by decide) rfl hed ?_
  refine c_st (st2 := [.ref (g0 G)]) rfl ?_
  refine c_tlen C dJx4a65c_grow_92f84_4 ?_
  refine c_istore_n (lv2 := [(2, .int (iI 0)), (0, .ref a0), (1, .int (iI n))]) C dJx4a65c_grow_92f84_5 (by decide) rfl ?_
  refine c_iload_n (j := 0) C dJx4a65c_grow_92f84_6 rfl ?_
  refine c_if_gt (tgt := 20) C ⟨by decide, by decide⟩ dJx4a65c_grow_92f84_7 (by decide) (fun z => absurd z (by omega)) (fun _ => ?_)
  refine c_aload_n (j := 1) (x := a0) C dJx4a65c_grow_92f84_10 rfl ?_
  refine c_getr (k := 1) C ck_0 dJx4a65c_grow_92f84_11 w1_78 (by decide) t_a0 rfl rfl (by decide) rfl hed ?_
  refine c_st (st2 := [.ref (g0 G)]) rfl ?_
  refine c_gets C dJx4a65c_grow_92f84_14 w1_76 ?_
  refine c_acmp_eq (rx := some (g0 G)) (ry := some (g0 G)) (tgt := 45) C dJx4a65c_grow_92f84_17 (by decide) (fun _ => ?_) (fun q => absurd rfl q)
  refine c_aload_n (j := 1) (x := a0) C dJx4a65c_grow_92f84_45 rfl ?_
  refine c_bipush (z := 10) C dJx4a65c_grow_92f84_46 (by decide) ?_
  refine c_iload_n (j := 2) C dJx4a65c_grow_92f84_48 rfl ?_
  obtain ⟨mn1, hmn1, emn1⟩ := mmax_c (x := 10) (y := n) ⟨by decide, by decide⟩ ⟨by omega, by omega⟩
  refine c_mmax (w := iI mn1) C dJx4a65c_grow_92f84_49 w3_32 w2_148 w1_14 w2_149 (by decide) (rom0 hph hph (by decide)) (Nat.le_of_ble_eq_true rfl) emn1 ?_
  have l3 := (Phi.le3 hW hS).1
  refine c_newaO (z := mn1) (N := 10) C (1000 + 5 * a0 + 2) dJx4a65c_grow_92f84_52 w3_33 w3_30t (by rw [(bt_list (by decide))]; rfl) (by omega) (by omega) (by omega) (fun qn1 cln1 lnn1 ivn1 rvn1 hqn1 hcn1 hln1 hin1 hrn1 => ⟨(0 + (16 + 10)), (p_in (Phi.new hW hS hqn1 (fun b hb => by rw [hln1]; exact va_up_ne _ _ hb) hrn1) (by omega)), ?_⟩)
  refine c_g0 C (fun hg1 => ?_)
  refine hv5 (show ∀ b, b ≠ qn1 → lnn1 b = ln b from (fun b hb => by rw [hln1]; exact va_up_ne _ _ hb)) (show lnn1 qn1 = 10 from by rw [hln1]; exact va_up_self _ _ _) (hF0.new hX0 hqn1 hin1 hrn1) (show ty (L ++ [qn1]) cln1 qn1 1002 from ⟨List.mem_append_right _ List.mem_cons_self, by rw [hcn1, va_up_self]; exact (bt_list (by decide))⟩) (show cln1 qn1 = (1000 + 5 * a0 + 2) from by rw [hcn1]; exact va_up_self _ _ _) (fun hxn1 lqn1 F1 tqn1 clqn1 => ?_)
  refine hv2 (hW.new (ln2 := lnn1) hqn1 (hg1 qn1 (List.mem_append_right _ List.mem_cons_self)) hcn1 hxn1 hin1 hrn1 (fun _ => by rw [(bt_list (by decide))]; exact ⟨(show (-2147483648 : Int) ≤ 0 by decide), (show (0 : Int) ≤ 2147483647 by decide)⟩) (Or.inr (fun _ => by rw [(bt_list (by decide))]; rfl)) (fun _ => by rw [(bt_list (by decide))]; show 10 ≤ lnn1 qn1 ∧ lnn1 qn1 ≤ 9100; omega) (by rw [(bt_list (by decide))]; rfl) (uq_big (by rw [(bt_list (by decide))]; decide))) (XT.new hqn1 hcn1 hxn1) (fun W1 xl1 => ?_)
  refine hv2 (hX0.trans xl1) (xl1.skl hS) (fun X1 sk1 => ?_)
  refine c_dup_x1 C dJx4a65c_grow_92f84_55 rfl rfl ?_
  refine hv2 (xl1.ty t_a0) (show rvn1 a0 1 = rv a0 1 from (by rw [hrn1]; exact congrFun (up0_a (ne_in t_a0.1 hqn1)) _)) (fun ty1 re1 => ?_)
  rw [hed] at re1
  refine hv2 (show 0 ≤ ivn1 a0 2 ∧ ivn1 a0 2 ≤ 6003 from W1.int ty1 2) (show ivn1 a0 2 = iv a0 2 from by rw [hin1]; exact congrFun (up0_a (ne_in t_a0.1 hqn1)) _) (fun ri1 ie1 => ?_)
  refine c_g0 C (fun hg2 => ?_)
  refine hv2 (W1.sk ty1 (by decide) rfl) (cap_g (ln := lnn1) re1) (fun ask cpo => ?_)
  refine c_putr (x := (some qn1)) (k := 1) C ck_0 dJx4a65c_grow_92f84_56 w1_78 (by decide) rfl ty1 rfl rfl (by decide) rfl (by rfl) (by rfl) (fun rv1 pq1 => ⟨0, (by have gr := Phi.grow (g := g0 G) (rv2 := rv1) (rv := rvn1) (b := qn1) (ln := lnn1) (t := 24) sk1 (by rw [← ask]; exact pq1) (hg2 qn1 tqn1.1) (Or.inr (by decide)); rw [← ask] at gr; have gr2 : Phi (g0 G) sk lnn1 rv1 + 8 * cap (g0 G) lnn1 rvn1 a0 = Phi (g0 G) sk lnn1 rvn1 + 8 * lnn1 qn1 := gr; omega), ?_⟩)
  refine hv3 (W1.led pq1 ty1 rfl tqn1.1 clqn1 (by omega) (fun i hi => absurd hi (by omega))) (F1.putr X1 pq1 ty1 rfl) (show rv1 a0 1 = (some qn1) from by rw [pq1]; exact upr_s) (fun W2 F2 rp1 => ?_)
  have pl1 := Phi.le W2 sk1
  exact c_aret (x := some qn1) C dJx4a65c_grow_92f84_59 rfl (Or.inr ⟨_, rfl⟩) (by decide) (rom0 hph pl1 (by decide)) ⟨qn1, rfl, X1, F2, W2, tqn1, ⟨rp1, (by omega), (by omega), clqn1, (fun i hi => absurd hi (by omega))⟩⟩
set_option maxHeartbeats 4000000 in
set_option maxRecDepth 100000 in
theorem C_growB_24 {l : Launch} {G : GT} {mi : Nat} {sk : Nat → Nat} {L : List Nat} {cl ln : Nat → Nat} {iv : Nat → Nat → Int} {rv : Nat → Nat → Option Nat}  {a0 : Nat} {n : Int} {b0 : Nat} (hW : WT (g0 G) sk L cl ln iv rv) (hS : SKL sk L cl) (t_a0 : ty L cl a0 24) (t_b0 : ty L cl b0 1002) (h_n : -2147483648 ≤ n ∧ n ≤ 2147483647) (hed : rv a0 1 = some b0) (hcb : cl b0 = 1000 + 5 * a0 + 2) (hn : n = iv a0 2 + 1 ∧ iv a0 2 = ((ln b0 : Nat) : Int) ∧ iv a0 2 < 6003) : Mc l G mi (Phi (g0 G) sk) PHM yJx4a65c_grow_92f84 cJx4a65c_grow_92f84 4 (some (.array (.object "java/lang/Object"))) 3 [.ref a0, .int (iI n)] L cl ln iv rv 0 (fun v L2 cl2 ln2 iv2 rv2 => ∃ f : Nat, v = some (.ref f) ∧ XT L cl ln L2 cl2 ln2 ∧ fT [24, 1002] L cl iv rv iv2 rv2 ∧ WT (g0 G) sk L2 cl2 ln2 iv2 rv2 ∧ ty L2 cl2 f 1002 ∧ (rv2 a0 1 = some f ∧ iv2 a0 2 = iv a0 2 ∧ iv a0 2 + 1 ≤ ((ln2 f : Nat) : Int) ∧ cl2 f = 1000 + 5 * a0 + 2 ∧ ∀ i : Nat, (i : Int) < iv a0 2 → rv2 f i = el rv a0 i)) := by
  refine Mc.mk (by decide) (Nat.le_of_ble_eq_true rfl) ?_
  intro p e s m args below meth c A C hM
  refine hv3 (Phi.le hW hS) (show XT L cl ln L cl ln from XT.refl) (show fT [24, 1002] L cl iv rv iv rv from fT.refl) (fun hph hX0 hF0 => ?_)
  refine c_aload_n (j := 0) (x := a0) C dJx4a65c_grow_92f84_0 rfl ?_
  refine c_getr (k := 1) C ck_0 dJx4a65c_grow_92f84_1 w1_78 (by decide) t_a0 rfl rfl (by decide) rfl hed ?_
  refine c_st (st2 := [.ref b0]) rfl ?_
  have ll1 : 10 ≤ ln b0 ∧ ln b0 ≤ 9100 := hW.len t_b0 rfl
  refine c_alenO C dJx4a65c_grow_92f84_4 t_b0 rfl ?_
  refine c_istore_n (lv2 := [(2, .int (iI ((ln b0 : Nat) : Int))), (0, .ref a0), (1, .int (iI n))]) C dJx4a65c_grow_92f84_5 (by decide) rfl ?_
  refine c_iload_n (j := 0) C dJx4a65c_grow_92f84_6 rfl ?_
  refine c_if_gt (tgt := 20) C ⟨by omega, by omega⟩ dJx4a65c_grow_92f84_7 (by decide) (fun _ => ?_) (fun z => absurd z (by omega))
  refine c_iload_n (j := 0) C dJx4a65c_grow_92f84_20 rfl ?_
  refine c_iload_n (j := 2) C dJx4a65c_grow_92f84_21 rfl ?_
  refine c_iload_n (j := 0) C dJx4a65c_grow_92f84_22 rfl ?_
  refine c_isub C dJx4a65c_grow_92f84_23 ?_
  refine c_iload_n (j := 0) C dJx4a65c_grow_92f84_24 rfl ?_
  refine c_iconst C dJx4a65c_grow_92f84_25 ?_
  obtain ⟨zz1, hzz1, ezz1⟩ := iI_of (iI ((ln b0 : Nat) : Int) >>> (iI 1 &&& 31))
  refine c_ishr (w := iI zz1) C dJx4a65c_grow_92f84_26 ezz1 ?_
  have shzz1 : zz1 = ((ln b0 : Nat) : Int) / 2 := (iI_eq hzz1 ⟨by omega, by omega⟩).mp (ezz1.symm.trans (shr1 ⟨by omega, by omega⟩))
  refine d_callS (As := [.int (iI ((ln b0 : Nat) : Int)), .int (iI (n - ((ln b0 : Nat) : Int))), .int (iI zz1)]) (rest := []) C hM (C_newLength (i := ((ln b0 : Nat) : Int)) (n := n - ((ln b0 : Nat) : Int)) (x := zz1) hW hS  (by omega) (by omega) (by omega) (by show 0 ≤ ((ln b0 : Nat) : Int) ∧ ((ln b0 : Nat) : Int) ≤ 100000 ∧ 1 ≤ (n - ((ln b0 : Nat) : Int)) ∧ (n - ((ln b0 : Nat) : Int)) ≤ 100000 ∧ 0 ≤ zz1 ∧ zz1 ≤ 100000; omega)) dJx4a65c_grow_92f84_27 kS_Jx4a65c_73 rfl rfl (Nat.le_of_ble_eq_true rfl) ⟨(Nat.le_of_ble_eq_true rfl), (Nat.le_of_ble_eq_true rfl)⟩ hph hph (show 0 + 0 = 0 from rfl) (by decide) (fun rh1 Lh1 clh1 lnh1 ivh1 rvh1 h1 => ?_)
  obtain ⟨f1, rfl, rfl, rfl, rfl, rfl, rfl, rgf1, exf1⟩ := h1
  refine c_st (st2 := [.int (iI f1)]) rfl ?_
  have gf1 : ((n - ((ln b0 : Nat) : Int)) ≤ zz1 ∧ f1 = ((ln b0 : Nat) : Int) + zz1) ∨ (zz1 < (n - ((ln b0 : Nat) : Int)) ∧ f1 = ((ln b0 : Nat) : Int) + (n - ((ln b0 : Nat) : Int))) := exf1
  refine c_istore_n (lv2 := [(3, .int (iI f1)), (2, .int (iI ((ln b0 : Nat) : Int))), (0, .ref a0), (1, .int (iI n))]) C dJx4a65c_grow_92f84_30 (by decide) rfl ?_
  refine c_aload_n (j := 2) (x := a0) C dJx4a65c_grow_92f84_31 rfl ?_
  refine c_aload_n (j := 2) (x := a0) C dJx4a65c_grow_92f84_32 rfl ?_
  refine c_getr (k := 1) C ck_0 dJx4a65c_grow_92f84_33 w1_78 (by decide) t_a0 rfl rfl (by decide) rfl hed ?_
  refine c_st (st2 := [.ref b0, .ref a0]) rfl ?_
  refine c_iload_n (j := 0) C dJx4a65c_grow_92f84_36 rfl ?_
  refine c_g0 C (fun hg0 => ?_)
  refine hv2 (hW.sk t_a0 (by decide) rfl) (cap_of (ln := ln) hed (hg0 b0 t_b0.1)) (fun ask0 cp0 => ?_)
  have l3 := (Phi.le3 hW hS).2 24 (ln b0) (by decide) (by rw [← ask0]; exact cp0) (by omega)
  refine c_callS (As := [.ref b0, .int (iI f1)]) (rest := [.ref a0]) C hM (Z_copyO2_24 (a0 := b0) (n := f1) hW hS t_b0 (by omega) (by show ((ln b0 : Nat) : Int) < f1 ∧ 10 ≤ f1 ∧ f1 ≤ 9100; omega)) dJx4a65c_grow_92f84_37 kS_Jx4a65c_66 rfl rfl (Nat.le_of_ble_eq_true rfl) ⟨(Nat.le_of_ble_eq_true rfl), (Nat.le_of_ble_eq_true rfl)⟩ (by unfold zPf; omega) (fun rh2 Lh2 clh2 lnh2 ivh2 rvh2 h2 => ⟨(0 + (16 + f1.toNat)), (zk1 (by obtain ⟨_, _, xlh2x, flh2x, Wh2x, _⟩ := h2; exact Phi.fr hW hS xlh2x flh2x rfl)), ?_⟩)
  obtain ⟨f2, rfl, xl2, fl2, W2, rgf2, exf2⟩ := h2
  refine hv3 (hF0.call hX0 fl2 rfl) (hX0.trans xl2) (xl2.skl hS) (fun F1 X1 sk1 => ?_)
  refine c_st (st2 := [.ref f2, .ref a0]) rfl ?_
  have gf2 : lnh2 f2 = f1.toNat ∧ clh2 f2 = cl b0 ∧ ∀ i : Nat, i < ln b0 → rvh2 f2 i = rv b0 i := exf2
  refine c_dup_x1 C dJx4a65c_grow_92f84_40 rfl rfl ?_
  refine hv2 (xl2.ty t_a0) (show rvh2 a0 1 = rv a0 1 from (fl2.r t_a0 rfl 1)) (fun ty1 re1 => ?_)
  rw [hed] at re1
  refine hv2 (show 0 ≤ ivh2 a0 2 ∧ ivh2 a0 2 ≤ 6003 from W2.int ty1 2) (show ivh2 a0 2 = iv a0 2 from fl2.i t_a0 rfl 2) (fun ri1 ie1 => ?_)
  refine c_g0 C (fun hg1 => ?_)
  refine hv3 (W2.sk ty1 (by decide) rfl) (xl2.ty t_b0) (show lnh2 b0 = ln b0 from (xl2 b0 t_b0.1).2.2) (fun ask ty2 le1 => ?_)
  have cpo := cap_of (ln := lnh2) re1 (hg1 b0 ty2.1)
  refine c_putr (x := (some f2)) (k := 1) C ck_0 dJx4a65c_grow_92f84_41 w1_78 (by decide) rfl ty1 rfl rfl (by decide) rfl (by rfl) (by rfl) (fun rv1 pq1 => ⟨0, (by have gr := Phi.grow (g := g0 G) (rv2 := rv1) (rv := rvh2) (b := f2) (ln := lnh2) (t := 24) sk1 (by rw [← ask]; exact pq1) (hg1 f2 rgf2.1) (Or.inr (by decide)); rw [← ask] at gr; have gr2 : Phi (g0 G) sk lnh2 rv1 + 8 * cap (g0 G) lnh2 rvh2 a0 = Phi (g0 G) sk lnh2 rvh2 + 8 * lnh2 f2 := gr; omega), ?_⟩)
  have W3 := W2.led pq1 ty1 rfl rgf2.1 (exf2.2.1.trans hcb) (by omega) (fun i hi => by
      rw [exf2.2.2 i (by omega)]
      exact hW.2.2.2.2.1 a0 t_a0.1 (by rw [t_a0.2]; rfl) b0 hed i (by omega))
  refine hv3 (F1.putr X1 pq1 ty1 rfl) (show rv1 a0 1 = (some f2) from by rw [pq1]; exact upr_s) (Phi.le W3 sk1) (fun F2 rp1 pl1 => ?_)
  exact c_aret (x := some f2) C dJx4a65c_grow_92f84_44 rfl (Or.inr ⟨_, rfl⟩) (by decide) (rom0 hph pl1 (by decide)) ⟨f2, rfl, X1, F2, W3, rgf2, ⟨rp1, (by omega), (by omega), (exf2.2.1.trans hcb), (fun i hi => by rw [el_of hed, pq1, upr_a (ne_ty rgf2 ty1 (by decide))]; exact exf2.2.2 i (by omega))⟩⟩
set_option maxHeartbeats 4000000 in
set_option maxRecDepth 100000 in
theorem C_grow0A_24 {l : Launch} {G : GT} {mi : Nat} {sk : Nat → Nat} {L : List Nat} {cl ln : Nat → Nat} {iv : Nat → Nat → Int} {rv : Nat → Nat → Option Nat}  {a0 : Nat} (hW : WT (g0 G) sk L cl ln iv rv) (hS : SKL sk L cl) (t_a0 : ty L cl a0 24) (hed : rv a0 1 = some (g0 G)) (hn : iv a0 2 = 0) : Mc l G mi (Phi (g0 G) sk) PHM yJx4a65c_grow_d5877 cJx4a65c_grow_d5877 1 (some (.array (.object "java/lang/Object"))) 4 [.ref a0] L cl ln iv rv 0 (fun v L2 cl2 ln2 iv2 rv2 => ∃ f : Nat, v = some (.ref f) ∧ XT L cl ln L2 cl2 ln2 ∧ fT [24, 1002] L cl iv rv iv2 rv2 ∧ WT (g0 G) sk L2 cl2 ln2 iv2 rv2 ∧ ty L2 cl2 f 1002 ∧ (rv2 a0 1 = some f ∧ iv2 a0 2 = iv a0 2 ∧ iv a0 2 + 1 ≤ ((ln2 f : Nat) : Int) ∧ cl2 f = 1000 + 5 * a0 + 2 ∧ ∀ i : Nat, (i : Int) < iv a0 2 → rv2 f i = el rv a0 i)) := by
  refine Mc.mk (by decide) (Nat.le_of_ble_eq_true rfl) ?_
  intro p e s m args below meth c A C hM
  refine hv3 (Phi.le hW hS) (show XT L cl ln L cl ln from XT.refl) (show fT [24, 1002] L cl iv rv iv rv from fT.refl) (fun hph hX0 hF0 => ?_)
  refine c_aload_n (j := 0) (x := a0) C dJx4a65c_grow_d5877_0 rfl ?_
  refine c_aload_n (j := 0) (x := a0) C dJx4a65c_grow_d5877_1 rfl ?_
  have ri1 : 0 ≤ iv a0 2 ∧ iv a0 2 ≤ 6003 := hW.int t_a0 2
  refine c_get (k := 2) C ck_0 dJx4a65c_grow_d5877_2 w1_79 (by decide) t_a0 rfl rfl (by decide) rfl ?_
  refine c_iconst C dJx4a65c_grow_d5877_5 ?_
  refine c_iadd C dJx4a65c_grow_d5877_6 ?_
  refine d_callV (As := [.int (iI ((iv a0 2) + 1))]) (rest := []) C hM (C_growA_24 (a0 := a0) (n := (iv a0 2) + 1) hW hS t_a0 (by omega) hed (by show ((iv a0 2) + 1) = 1 ∧ iv a0 2 = 0; omega)) dJx4a65c_grow_d5877_7 kV_Jx4a65c_69 rfl t_a0 rfl rfl (by decide) ck_0 rfl (Nat.le_of_ble_eq_true rfl) ⟨(Nat.le_of_ble_eq_true rfl), (Nat.le_of_ble_eq_true rfl)⟩ hph hph (show 0 + 0 = 0 from rfl) (by decide) (fun rh1 Lh1 clh1 lnh1 ivh1 rvh1 h1 => ?_)
  obtain ⟨f1, rfl, xl1, fl1, W1, rgf1, exf1⟩ := h1
  refine hv3 (hF0.call hX0 fl1 rfl) (hX0.trans xl1) (xl1.skl hS) (fun F1 X1 sk1 => ?_)
  refine c_st (st2 := [.ref f1]) rfl ?_
  refine hv5 (xl1.ty t_a0) (show rvh1 a0 1 = some f1 ∧ ivh1 a0 2 = iv a0 2 ∧ iv a0 2 + 1 ≤ ((lnh1 f1 : Nat) : Int) ∧ clh1 f1 = 1000 + 5 * a0 + 2 ∧ ∀ i : Nat, (i : Int) < iv a0 2 → rvh1 f1 i = el rv a0 i from exf1) (exf1.2.2.1) (exf1.2.1) (Phi.le W1 sk1) (fun ty1 gf1 gzf1 gyf1 pl1 => ?_)
  have ri2 : 0 ≤ ivh1 a0 2 ∧ ivh1 a0 2 ≤ 6003 := W1.int ty1 2
  exact c_aret (x := some f1) C dJx4a65c_grow_d5877_10 rfl (Or.inr ⟨_, rfl⟩) (by decide) (rom0 hph pl1 (by decide)) ⟨f1, rfl, X1, F1, W1, rgf1, exf1⟩
set_option maxHeartbeats 4000000 in
set_option maxRecDepth 100000 in
theorem C_grow0B_24 {l : Launch} {G : GT} {mi : Nat} {sk : Nat → Nat} {L : List Nat} {cl ln : Nat → Nat} {iv : Nat → Nat → Int} {rv : Nat → Nat → Option Nat}  {a0 : Nat} {b0 : Nat} (hW : WT (g0 G) sk L cl ln iv rv) (hS : SKL sk L cl) (t_a0 : ty L cl a0 24) (t_b0 : ty L cl b0 1002) (hed : rv a0 1 = some b0) (hcb : cl b0 = 1000 + 5 * a0 + 2) (hn : iv a0 2 = ((ln b0 : Nat) : Int) ∧ iv a0 2 < 6003) : Mc l G mi (Phi (g0 G) sk) PHM yJx4a65c_grow_d5877 cJx4a65c_grow_d5877 1 (some (.array (.object "java/lang/Object"))) 4 [.ref a0] L cl ln iv rv 0 (fun v L2 cl2 ln2 iv2 rv2 => ∃ f : Nat, v = some (.ref f) ∧ XT L cl ln L2 cl2 ln2 ∧ fT [24, 1002] L cl iv rv iv2 rv2 ∧ WT (g0 G) sk L2 cl2 ln2 iv2 rv2 ∧ ty L2 cl2 f 1002 ∧ (rv2 a0 1 = some f ∧ iv2 a0 2 = iv a0 2 ∧ iv a0 2 + 1 ≤ ((ln2 f : Nat) : Int) ∧ cl2 f = 1000 + 5 * a0 + 2 ∧ ∀ i : Nat, (i : Int) < iv a0 2 → rv2 f i = el rv a0 i)) := by
  refine Mc.mk (by decide) (Nat.le_of_ble_eq_true rfl) ?_
  intro p e s m args below meth c A C hM
  refine hv3 (Phi.le hW hS) (show XT L cl ln L cl ln from XT.refl) (show fT [24, 1002] L cl iv rv iv rv from fT.refl) (fun hph hX0 hF0 => ?_)
  refine c_aload_n (j := 0) (x := a0) C dJx4a65c_grow_d5877_0 rfl ?_
  refine c_aload_n (j := 0) (x := a0) C dJx4a65c_grow_d5877_1 rfl ?_
  have ri1 : 0 ≤ iv a0 2 ∧ iv a0 2 ≤ 6003 := hW.int t_a0 2
  refine c_get (k := 2) C ck_0 dJx4a65c_grow_d5877_2 w1_79 (by decide) t_a0 rfl rfl (by decide) rfl ?_
  refine c_iconst C dJx4a65c_grow_d5877_5 ?_
  refine c_iadd C dJx4a65c_grow_d5877_6 ?_
  refine d_callV (As := [.int (iI ((iv a0 2) + 1))]) (rest := []) C hM (C_growB_24 (a0 := a0) (n := (iv a0 2) + 1) (b0 := b0) hW hS t_a0 t_b0 (by omega) hed hcb (by show ((iv a0 2) + 1) = iv a0 2 + 1 ∧ iv a0 2 = ((ln b0 : Nat) : Int) ∧ iv a0 2 < 6003; omega)) dJx4a65c_grow_d5877_7 kV_Jx4a65c_69 rfl t_a0 rfl rfl (by decide) ck_0 rfl (Nat.le_of_ble_eq_true rfl) ⟨(Nat.le_of_ble_eq_true rfl), (Nat.le_of_ble_eq_true rfl)⟩ hph hph (show 0 + 0 = 0 from rfl) (by decide) (fun rh1 Lh1 clh1 lnh1 ivh1 rvh1 h1 => ?_)
  obtain ⟨f1, rfl, xl1, fl1, W1, rgf1, exf1⟩ := h1
  refine hv3 (hF0.call hX0 fl1 rfl) (hX0.trans xl1) (xl1.skl hS) (fun F1 X1 sk1 => ?_)
  refine c_st (st2 := [.ref f1]) rfl ?_
  refine hv5 (xl1.ty t_a0) (show rvh1 a0 1 = some f1 ∧ ivh1 a0 2 = iv a0 2 ∧ iv a0 2 + 1 ≤ ((lnh1 f1 : Nat) : Int) ∧ clh1 f1 = 1000 + 5 * a0 + 2 ∧ ∀ i : Nat, (i : Int) < iv a0 2 → rvh1 f1 i = el rv a0 i from exf1) (exf1.2.2.1) (exf1.2.1) (Phi.le W1 sk1) (fun ty1 gf1 gzf1 gyf1 pl1 => ?_)
  have ri2 : 0 ≤ ivh1 a0 2 ∧ ivh1 a0 2 ≤ 6003 := W1.int ty1 2
  exact c_aret (x := some f1) C dJx4a65c_grow_d5877_10 rfl (Or.inr ⟨_, rfl⟩) (by decide) (rom0 hph pl1 (by decide)) ⟨f1, rfl, X1, F1, W1, rgf1, exf1⟩
set_option maxHeartbeats 4000000 in
set_option maxRecDepth 100000 in
theorem C_add3A_24 {l : Launch} {G : GT} {mi : Nat} {sk : Nat → Nat} {L : List Nat} {cl ln : Nat → Nat} {iv : Nat → Nat → Int} {rv : Nat → Nat → Option Nat}  {a0 : Nat} {x : Nat} {n : Int} (hW : WT (g0 G) sk L cl ln iv rv) (hS : SKL sk L cl) (t_a0 : ty L cl a0 24) (t_x : ty L cl x 20) (h_n : -2147483648 ≤ n ∧ n ≤ 2147483647) (hed : rv a0 1 = some (g0 G)) (hn : n = iv a0 2 ∧ n = 0) : Mc l G mi (Phi (g0 G) sk) PHM yJx4a65c_add_72be8 cJx4a65c_add_72be8 4 none 5 [.ref a0, .ref x, .ref (g0 G), .int (iI n)] L cl ln iv rv 0 (fun v L2 cl2 ln2 iv2 rv2 => v = none ∧ XT L cl ln L2 cl2 ln2 ∧ fT [24, 1002] L cl iv rv iv2 rv2 ∧ WT (g0 G) sk L2 cl2 ln2 iv2 rv2 ∧ (iv2 a0 2 = iv a0 2 + 1 ∧ el rv2 a0 (iv a0 2).toNat = some x ∧ ∀ i : Nat, (i : Int) < iv a0 2 → el rv2 a0 i = el rv a0 i)) := by
  refine Mc.mk (by decide) (Nat.le_of_ble_eq_true rfl) ?_
  intro p e s m args below meth c A C hM
  refine hv3 (Phi.le hW hS) (show XT L cl ln L cl ln from XT.refl) (show fT [24, 1002] L cl iv rv iv rv from fT.refl) (fun hph hX0 hF0 => ?_)
  refine c_iload_n (j := 3) C dJx4a65c_add_72be8_0 rfl ?_
  refine c_aload_n (j := 2) (x := g0 G) C dJx4a65c_add_72be8_1 rfl ?_
  refine c_tlen C dJx4a65c_add_72be8_2 ?_
  refine c_icmp_ne (tgt := 11) C ⟨by omega, by omega⟩ ⟨by decide, by decide⟩ dJx4a65c_add_72be8_3 (by decide) (fun z => absurd z (by omega)) (fun _ => ?_)
  refine c_aload_n (j := 0) (x := a0) C dJx4a65c_add_72be8_6 rfl ?_
  have ri1 : 0 ≤ iv a0 2 ∧ iv a0 2 ≤ 6003 := hW.int t_a0 2
  refine d_callV (As := []) (rest := []) C hM (C_grow0A_24 (a0 := a0) hW hS t_a0  hed (by show iv a0 2 = 0; omega)) dJx4a65c_add_72be8_7 kV_Jx4a65c_129 rfl t_a0 rfl rfl (by decide) ck_0 rfl (Nat.le_of_ble_eq_true rfl) ⟨(Nat.le_of_ble_eq_true rfl), (Nat.le_of_ble_eq_true rfl)⟩ hph hph (show 0 + 0 = 0 from rfl) (by decide) (fun rh1 Lh1 clh1 lnh1 ivh1 rvh1 h1 => ?_)
  obtain ⟨f1, rfl, xl1, fl1, W1, rgf1, exf1⟩ := h1
  refine hv3 (hF0.call hX0 fl1 rfl) (hX0.trans xl1) (xl1.skl hS) (fun F1 X1 sk1 => ?_)
  refine c_st (st2 := [.ref f1]) rfl ?_
  refine hv4 (xl1.ty t_a0) (show rvh1 a0 1 = some f1 ∧ ivh1 a0 2 = iv a0 2 ∧ iv a0 2 + 1 ≤ ((lnh1 f1 : Nat) : Int) ∧ clh1 f1 = 1000 + 5 * a0 + 2 ∧ ∀ i : Nat, (i : Int) < iv a0 2 → rvh1 f1 i = el rv a0 i from exf1) (exf1.2.2.1) (exf1.2.1) (fun ty1 gf1 gzf1 gyf1 => ?_)
  have ri2 : 0 ≤ ivh1 a0 2 ∧ ivh1 a0 2 ≤ 6003 := W1.int ty1 2
  refine c_astore_n (lv2 := [(2, .ref f1), (0, .ref a0), (1, .ref x), (3, .int (iI n))]) C dJx4a65c_add_72be8_10 (by decide) rfl ?_
  refine c_aload_n (j := 0) (x := f1) C dJx4a65c_add_72be8_11 rfl ?_
  refine c_iload_n (j := 3) C dJx4a65c_add_72be8_12 rfl ?_
  refine c_aload_n (j := 2) (x := x) C dJx4a65c_add_72be8_13 rfl ?_
  refine hv2 (show 10 ≤ lnh1 f1 ∧ lnh1 f1 ≤ 9100 from W1.len rgf1 rfl) (xl1.ty t_x) (fun ll1 ty2 => ?_)
  refine c_aastO (z := n) C ck_6 w8_185t dJx4a65c_add_72be8_14 rgf1 rfl ty2 rfl rfl (by decide) (by omega) (by omega) (by omega) (fun rv1 pq1 => ⟨0, (by rw [Phi.putr sk1 pq1 rgf1 rfl]; exact Nat.le_refl _), ?_⟩)
  refine hv2 (W1.lset pq1 rgf1 (by decide) ty2) (F1.putr X1 pq1 rgf1 rfl) (fun W2 F2 => ?_)
  refine c_aload_n (j := 1) (x := a0) C dJx4a65c_add_72be8_15 rfl ?_
  refine c_iload_n (j := 3) C dJx4a65c_add_72be8_16 rfl ?_
  refine c_iconst C dJx4a65c_add_72be8_17 ?_
  refine c_iadd C dJx4a65c_add_72be8_18 ?_
  refine c_put (z := n + 1) (k := 2) C ck_0 dJx4a65c_add_72be8_19 w1_79 (by decide) rfl ty1 rfl rfl (by decide) rfl (by rfl) (by rfl) (fun iv1 pq2 => ?_)
  have re1 : rv1 a0 1 = rvh1 a0 1 := (by rw [pq1]; exact congrFun (upr_a (ne_ty ty1 rgf1 (by decide))) _)
  rw [exf1.1] at re1
  refine hv3 (show rv1 f1 (ivh1 a0 2).toNat = some x from by rw [show (ivh1 a0 2).toNat = n.toNat by omega, pq1]; exact upr_s) (F2.puti X1 pq2 ty1 rfl) (show iv1 a0 2 = n + 1 from by rw [pq2]; exact up2_s) (fun px1 F3 ie2 => ?_)
  have W3 := W2.lapp pq2 ty1 rfl re1 rgf1.1 px1 (show (n + 1) = ivh1 a0 2 + 1 by omega) (show ivh1 a0 2 + 1 ≤ 6003 by omega) (by omega) rfl
  refine hv2 (show 0 ≤ iv1 a0 2 ∧ iv1 a0 2 ≤ 6003 from W3.int ty1 2) (Phi.le W3 sk1) (fun ri3 pl1 => ?_)
  exact c_vret C dJx4a65c_add_72be8_22 rfl (by decide) (rom0 hph pl1 (by decide)) ⟨rfl, X1, F3, W3, ⟨by omega, (by rw [el_of re1, show (iv a0 2).toNat = n.toNat by omega, pq1]; exact upr_s), fun i hi => (by rw [el_of re1, pq1, upr_j (by omega)]; exact exf1.2.2.2.2 i hi)⟩⟩
set_option maxHeartbeats 4000000 in
set_option maxRecDepth 100000 in
theorem C_add3B_24 {l : Launch} {G : GT} {mi : Nat} {sk : Nat → Nat} {L : List Nat} {cl ln : Nat → Nat} {iv : Nat → Nat → Int} {rv : Nat → Nat → Option Nat}  {a0 : Nat} {x : Nat} {b0 : Nat} {n : Int} (hW : WT (g0 G) sk L cl ln iv rv) (hS : SKL sk L cl) (t_a0 : ty L cl a0 24) (t_x : ty L cl x 20) (t_b0 : ty L cl b0 1002) (h_n : -2147483648 ≤ n ∧ n ≤ 2147483647) (hed : rv a0 1 = some b0) (hcb : cl b0 = 1000 + 5 * a0 + 2) (hn : n = iv a0 2 ∧ 0 ≤ n ∧ n ≤ ((ln b0 : Nat) : Int) ∧ n < 6003) : Mc l G mi (Phi (g0 G) sk) PHM yJx4a65c_add_72be8 cJx4a65c_add_72be8 4 none 5 [.ref a0, .ref x, .ref b0, .int (iI n)] L cl ln iv rv 0 (fun v L2 cl2 ln2 iv2 rv2 => v = none ∧ XT L cl ln L2 cl2 ln2 ∧ fT [24, 1002] L cl iv rv iv2 rv2 ∧ WT (g0 G) sk L2 cl2 ln2 iv2 rv2 ∧ (iv2 a0 2 = iv a0 2 + 1 ∧ el rv2 a0 (iv a0 2).toNat = some x ∧ ∀ i : Nat, (i : Int) < iv a0 2 → el rv2 a0 i = el rv a0 i)) := by
  refine Mc.mk (by decide) (Nat.le_of_ble_eq_true rfl) ?_
  intro p e s m args below meth c A C hM
  refine hv3 (Phi.le hW hS) (show XT L cl ln L cl ln from XT.refl) (show fT [24, 1002] L cl iv rv iv rv from fT.refl) (fun hph hX0 hF0 => ?_)
  refine c_iload_n (j := 3) C dJx4a65c_add_72be8_0 rfl ?_
  refine c_aload_n (j := 2) (x := b0) C dJx4a65c_add_72be8_1 rfl ?_
  have ll1 : 10 ≤ ln b0 ∧ ln b0 ≤ 9100 := hW.len t_b0 rfl
  refine c_alenO C dJx4a65c_add_72be8_2 t_b0 rfl ?_
  refine c_icmp_ne (tgt := 11) C ⟨by omega, by omega⟩ ⟨by omega, by omega⟩ dJx4a65c_add_72be8_3 (by decide) (fun c1 => ?_) (fun c1 => ?_)
  · refine c_aload_n (j := 2) (x := b0) C dJx4a65c_add_72be8_11 rfl ?_
    refine c_iload_n (j := 3) C dJx4a65c_add_72be8_12 rfl ?_
    refine c_aload_n (j := 1) (x := x) C dJx4a65c_add_72be8_13 rfl ?_
    refine c_aastO (z := n) C ck_6 w8_185t dJx4a65c_add_72be8_14 t_b0 rfl t_x rfl rfl (by decide) (by omega) (by omega) (by omega) (fun rv1 pq1 => ⟨0, (by rw [Phi.putr hS pq1 t_b0 rfl]; exact Nat.le_refl _), ?_⟩)
    refine hv2 (hW.lset pq1 t_b0 (by decide) t_x) (hF0.putr hX0 pq1 t_b0 rfl) (fun W1 F1 => ?_)
    refine c_aload_n (j := 0) (x := a0) C dJx4a65c_add_72be8_15 rfl ?_
    refine c_iload_n (j := 3) C dJx4a65c_add_72be8_16 rfl ?_
    refine c_iconst C dJx4a65c_add_72be8_17 ?_
    refine c_iadd C dJx4a65c_add_72be8_18 ?_
    refine c_put (z := n + 1) (k := 2) C ck_0 dJx4a65c_add_72be8_19 w1_79 (by decide) rfl t_a0 rfl rfl (by decide) rfl (by rfl) (by rfl) (fun iv1 pq2 => ?_)
    have re1 : rv1 a0 1 = rv a0 1 := (by rw [pq1]; exact congrFun (upr_a (ne_ty t_a0 t_b0 (by decide))) _)
    rw [hed] at re1
    refine hv3 (show rv1 b0 (iv a0 2).toNat = some x from by rw [show (iv a0 2).toNat = n.toNat by omega, pq1]; exact upr_s) (F1.puti hX0 pq2 t_a0 rfl) (show iv1 a0 2 = n + 1 from by rw [pq2]; exact up2_s) (fun px1 F2 ie1 => ?_)
    have W2 := W1.lapp pq2 t_a0 rfl re1 t_b0.1 px1 (show (n + 1) = iv a0 2 + 1 by omega) (show iv a0 2 + 1 ≤ 6003 by omega) (by omega) rfl
    refine hv2 (show 0 ≤ iv1 a0 2 ∧ iv1 a0 2 ≤ 6003 from W2.int t_a0 2) (Phi.le W2 hS) (fun ri1 pl1 => ?_)
    exact c_vret C dJx4a65c_add_72be8_22 rfl (by decide) (rom0 hph pl1 (by decide)) ⟨rfl, hX0, F2, W2, ⟨by omega, (by rw [el_of re1, show (iv a0 2).toNat = n.toNat by omega, pq1]; exact upr_s), fun i hi => (by rw [el_of re1, pq1, upr_j (by omega)]; exact (el_of hed).symm)⟩⟩
  · refine c_aload_n (j := 0) (x := a0) C dJx4a65c_add_72be8_6 rfl ?_
    have ri2 : 0 ≤ iv a0 2 ∧ iv a0 2 ≤ 6003 := hW.int t_a0 2
    refine d_callV (As := []) (rest := []) C hM (C_grow0B_24 (a0 := a0) (b0 := b0) hW hS t_a0 t_b0  hed hcb (by show iv a0 2 = ((ln b0 : Nat) : Int) ∧ iv a0 2 < 6003; omega)) dJx4a65c_add_72be8_7 kV_Jx4a65c_129 rfl t_a0 rfl rfl (by decide) ck_0 rfl (Nat.le_of_ble_eq_true rfl) ⟨(Nat.le_of_ble_eq_true rfl), (Nat.le_of_ble_eq_true rfl)⟩ hph hph (show 0 + 0 = 0 from rfl) (by decide) (fun rh1 Lh1 clh1 lnh1 ivh1 rvh1 h1 => ?_)
    obtain ⟨f1, rfl, xl1, fl1, W3, rgf1, exf1⟩ := h1
    refine hv3 (hF0.call hX0 fl1 rfl) (hX0.trans xl1) (xl1.skl hS) (fun F3 X1 sk1 => ?_)
    refine c_st (st2 := [.ref f1]) rfl ?_
    refine hv4 (xl1.ty t_a0) (show rvh1 a0 1 = some f1 ∧ ivh1 a0 2 = iv a0 2 ∧ iv a0 2 + 1 ≤ ((lnh1 f1 : Nat) : Int) ∧ clh1 f1 = 1000 + 5 * a0 + 2 ∧ ∀ i : Nat, (i : Int) < iv a0 2 → rvh1 f1 i = el rv a0 i from exf1) (exf1.2.2.1) (exf1.2.1) (fun ty1 gf1 gzf1 gyf1 => ?_)
    have ri3 : 0 ≤ ivh1 a0 2 ∧ ivh1 a0 2 ≤ 6003 := W3.int ty1 2
    refine c_astore_n (lv2 := [(2, .ref f1), (0, .ref a0), (1, .ref x), (3, .int (iI n))]) C dJx4a65c_add_72be8_10 (by decide) rfl ?_
    refine c_aload_n (j := 0) (x := f1) C dJx4a65c_add_72be8_11 rfl ?_
    refine c_iload_n (j := 3) C dJx4a65c_add_72be8_12 rfl ?_
    refine c_aload_n (j := 2) (x := x) C dJx4a65c_add_72be8_13 rfl ?_
    refine hv2 (show 10 ≤ lnh1 f1 ∧ lnh1 f1 ≤ 9100 from W3.len rgf1 rfl) (xl1.ty t_x) (fun ll2 ty2 => ?_)
    refine c_aastO (z := n) C ck_6 w8_185t dJx4a65c_add_72be8_14 rgf1 rfl ty2 rfl rfl (by decide) (by omega) (by omega) (by omega) (fun rv2 pq3 => ⟨0, (by rw [Phi.putr sk1 pq3 rgf1 rfl]; exact Nat.le_refl _), ?_⟩)
    refine hv2 (W3.lset pq3 rgf1 (by decide) ty2) (F3.putr X1 pq3 rgf1 rfl) (fun W4 F4 => ?_)
    refine c_aload_n (j := 1) (x := a0) C dJx4a65c_add_72be8_15 rfl ?_
    refine c_iload_n (j := 3) C dJx4a65c_add_72be8_16 rfl ?_
    refine c_iconst C dJx4a65c_add_72be8_17 ?_
    refine c_iadd C dJx4a65c_add_72be8_18 ?_
    refine c_put (z := n + 1) (k := 2) C ck_0 dJx4a65c_add_72be8_19 w1_79 (by decide) rfl ty1 rfl rfl (by decide) rfl (by rfl) (by rfl) (fun iv2 pq4 => ?_)
    have re2 : rv2 a0 1 = rvh1 a0 1 := (by rw [pq3]; exact congrFun (upr_a (ne_ty ty1 rgf1 (by decide))) _)
    rw [exf1.1] at re2
    refine hv3 (show rv2 f1 (ivh1 a0 2).toNat = some x from by rw [show (ivh1 a0 2).toNat = n.toNat by omega, pq3]; exact upr_s) (F4.puti X1 pq4 ty1 rfl) (show iv2 a0 2 = n + 1 from by rw [pq4]; exact up2_s) (fun px2 F5 ie3 => ?_)
    have W5 := W4.lapp pq4 ty1 rfl re2 rgf1.1 px2 (show (n + 1) = ivh1 a0 2 + 1 by omega) (show ivh1 a0 2 + 1 ≤ 6003 by omega) (by omega) rfl
    refine hv2 (show 0 ≤ iv2 a0 2 ∧ iv2 a0 2 ≤ 6003 from W5.int ty1 2) (Phi.le W5 sk1) (fun ri4 pl2 => ?_)
    exact c_vret C dJx4a65c_add_72be8_22 rfl (by decide) (rom0 hph pl2 (by decide)) ⟨rfl, X1, F5, W5, ⟨by omega, (by rw [el_of re2, show (iv a0 2).toNat = n.toNat by omega, pq3]; exact upr_s), fun i hi => (by rw [el_of re2, pq3, upr_j (by omega)]; exact exf1.2.2.2.2 i hi)⟩⟩
set_option maxHeartbeats 4000000 in
set_option maxRecDepth 100000 in
theorem C_add_24 {l : Launch} {G : GT} {mi : Nat} {sk : Nat → Nat} {L : List Nat} {cl ln : Nat → Nat} {iv : Nat → Nat → Int} {rv : Nat → Nat → Option Nat}  {a0 : Nat} {x : Nat} (hW : WT (g0 G) sk L cl ln iv rv) (hS : SKL sk L cl) (t_a0 : ty L cl a0 24) (t_x : ty L cl x 20) (hn : iv a0 2 < 6003) : Mc l G mi (Phi (g0 G) sk) PHM yJx4a65c_add_9ea2d cJx4a65c_add_9ea2d 2 (some .boolean) 6 [.ref a0, .ref x] L cl ln iv rv 0 (fun v L2 cl2 ln2 iv2 rv2 => ∃ f : Int, v = some (.int (iI f)) ∧ XT L cl ln L2 cl2 ln2 ∧ fT [24, 1002] L cl iv rv iv2 rv2 ∧ WT (g0 G) sk L2 cl2 ln2 iv2 rv2 ∧ (f = 0 ∨ f = 1) ∧ (iv2 a0 2 = iv a0 2 + 1 ∧ el rv2 a0 (iv a0 2).toNat = some x ∧ ∀ i : Nat, (i : Int) < iv a0 2 → el rv2 a0 i = el rv a0 i)) := by
  refine Mc.mk (by decide) (Nat.le_of_ble_eq_true rfl) ?_
  intro p e s m args below meth c A C hM
  refine hv3 (Phi.le hW hS) (show XT L cl ln L cl ln from XT.refl) (show fT [24, 1002] L cl iv rv iv rv from fT.refl) (fun hph hX0 hF0 => ?_)
  refine c_aload_n (j := 0) (x := a0) C dJx4a65c_add_9ea2d_0 rfl ?_
  refine c_dup C dJx4a65c_add_9ea2d_1 rfl ?_
  have ri1 : (-2147483648) ≤ iv a0 0 ∧ iv a0 0 ≤ 2147483647 := hW.int t_a0 0
  refine c_getU (k := 0) C ck_0 dJx4a65c_add_9ea2d_2 w1_81 w1_82 (by decide) t_a0 rfl rfl (by decide) rfl ?_
  refine c_iconst C dJx4a65c_add_9ea2d_5 ?_
  refine c_iadd C dJx4a65c_add_9ea2d_6 ?_
  obtain ⟨zz1, hzz1, ezz1⟩ := iI_of (iI ((iv a0 0) + 1))
  refine c_st (st2 := [.int (iI zz1), .ref a0]) (by rw [ezz1]) ?_
  refine c_putU (z := zz1) (k := 0) C ck_0 dJx4a65c_add_9ea2d_7 w1_81 w1_82 (by decide) rfl t_a0 rfl rfl (by decide) rfl (by rfl) (by rfl) (fun iv1 pq1 => ?_)
  refine hv2 (hW.puti pq1 t_a0 (show (-2147483648) ≤ zz1 ∧ zz1 ≤ 2147483647 by omega) rfl) (hF0.puti hX0 pq1 t_a0 rfl) (fun W1 F1 => ?_)
  refine c_aload_n (j := 0) (x := a0) C dJx4a65c_add_9ea2d_10 rfl ?_
  refine c_aload_n (j := 1) (x := x) C dJx4a65c_add_9ea2d_11 rfl ?_
  refine c_aload_n (j := 0) (x := a0) C dJx4a65c_add_9ea2d_12 rfl ?_
  refine hv2 (show 0 ≤ iv1 a0 2 ∧ iv1 a0 2 ≤ 6003 from W1.int t_a0 2) (show iv1 a0 2 = iv a0 2 from by rw [pq1]; exact up2_j (by decide)) (fun ri2 ie1 => ?_)
  rcases W1.edc t_a0 rfl rfl with ⟨eq1, zeb1⟩ | ⟨eb1, eq1, teb1, ceb1, zeb1⟩
  · refine c_getr (k := 1) C ck_0 dJx4a65c_add_9ea2d_13 w1_78 (by decide) t_a0 rfl rfl (by decide) rfl eq1 ?_
    refine c_st (st2 := [.ref (g0 G), .ref x, .ref a0]) rfl ?_
    refine c_aload_n (j := 0) (x := a0) C dJx4a65c_add_9ea2d_16 rfl ?_
    refine c_get (k := 2) C ck_0 dJx4a65c_add_9ea2d_17 w1_79 (by decide) t_a0 rfl rfl (by decide) rfl ?_
    refine d_callV (As := [.ref x, .ref (g0 G), .int (iI (iv1 a0 2))]) (rest := []) C hM (C_add3A_24 (a0 := a0) (x := x) (n := iv1 a0 2) W1 hS t_a0 t_x (by omega) eq1 (by show (iv1 a0 2) = iv1 a0 2 ∧ (iv1 a0 2) = 0; omega)) dJx4a65c_add_9ea2d_20 kV_Jx4a65c_131 rfl t_a0 rfl rfl (by decide) ck_0 rfl (Nat.le_of_ble_eq_true rfl) ⟨(Nat.le_of_ble_eq_true rfl), (Nat.le_of_ble_eq_true rfl)⟩ hph hph (show 0 + 0 = 0 from rfl) (by decide) (fun rh1 Lh1 clh1 lnh1 ivh1 rvh1 h1 => ?_)
    obtain ⟨rfl, xl1, fl1, W2, exf1⟩ := h1
    refine hv3 (F1.call hX0 fl1 rfl) (hX0.trans xl1) (xl1.skl hS) (fun F2 X1 sk1 => ?_)
    refine c_st (st2 := []) rfl ?_
    refine hv2 (xl1.ty t_a0) (show ivh1 a0 2 = iv1 a0 2 + 1 ∧ el rvh1 a0 (iv1 a0 2).toNat = some x ∧ ∀ i : Nat, (i : Int) < iv1 a0 2 → el rvh1 a0 i = el rv a0 i from exf1) (fun ty1 gf1 => ?_)
    have ri3 : 0 ≤ ivh1 a0 2 ∧ ivh1 a0 2 ≤ 6003 := W2.int ty1 2
    refine c_iconst C dJx4a65c_add_9ea2d_23 ?_
    have pl1 := Phi.le W2 sk1
    exact c_zret C dJx4a65c_add_9ea2d_24 rfl (Or.inr rfl) (by decide) (rom0 hph pl1 (by decide)) ⟨1, rfl, X1, F2, W2, (Or.inr rfl), ⟨by omega, (by rw [show (iv a0 2).toNat = (iv1 a0 2).toNat by omega]; exact exf1.2.1), fun i hi => exf1.2.2 i (by omega)⟩⟩
  · have lneb1 : 10 ≤ ln eb1 ∧ ln eb1 ≤ 9100 := W1.len teb1 rfl
    refine c_getr (k := 1) C ck_0 dJx4a65c_add_9ea2d_13 w1_78 (by decide) t_a0 rfl rfl (by decide) rfl eq1 ?_
    refine c_st (st2 := [.ref eb1, .ref x, .ref a0]) rfl ?_
    refine c_aload_n (j := 0) (x := a0) C dJx4a65c_add_9ea2d_16 rfl ?_
    refine c_get (k := 2) C ck_0 dJx4a65c_add_9ea2d_17 w1_79 (by decide) t_a0 rfl rfl (by decide) rfl ?_
    refine d_callV (As := [.ref x, .ref eb1, .int (iI (iv1 a0 2))]) (rest := []) C hM (C_add3B_24 (a0 := a0) (x := x) (b0 := eb1) (n := iv1 a0 2) W1 hS t_a0 t_x teb1 (by omega) eq1 ceb1 (by show (iv1 a0 2) = iv1 a0 2 ∧ 0 ≤ (iv1 a0 2) ∧ (iv1 a0 2) ≤ ((ln eb1 : Nat) : Int) ∧ (iv1 a0 2) < 6003; omega)) dJx4a65c_add_9ea2d_20 kV_Jx4a65c_131 rfl t_a0 rfl rfl (by decide) ck_0 rfl (Nat.le_of_ble_eq_true rfl) ⟨(Nat.le_of_ble_eq_true rfl), (Nat.le_of_ble_eq_true rfl)⟩ hph hph (show 0 + 0 = 0 from rfl) (by decide) (fun rh2 Lh2 clh2 lnh2 ivh2 rvh2 h2 => ?_)
    obtain ⟨rfl, xl2, fl2, W3, exf2⟩ := h2
    refine hv3 (F1.call hX0 fl2 rfl) (hX0.trans xl2) (xl2.skl hS) (fun F3 X2 sk2 => ?_)
    refine c_st (st2 := []) rfl ?_
    refine hv2 (xl2.ty t_a0) (show ivh2 a0 2 = iv1 a0 2 + 1 ∧ el rvh2 a0 (iv1 a0 2).toNat = some x ∧ ∀ i : Nat, (i : Int) < iv1 a0 2 → el rvh2 a0 i = el rv a0 i from exf2) (fun ty2 gf2 => ?_)
    have ri4 : 0 ≤ ivh2 a0 2 ∧ ivh2 a0 2 ≤ 6003 := W3.int ty2 2
    refine c_iconst C dJx4a65c_add_9ea2d_23 ?_
    have pl2 := Phi.le W3 sk2
    exact c_zret C dJx4a65c_add_9ea2d_24 rfl (Or.inr rfl) (by decide) (rom0 hph pl2 (by decide)) ⟨1, rfl, X2, F3, W3, (Or.inr rfl), ⟨by omega, (by rw [show (iv a0 2).toNat = (iv1 a0 2).toNat by omega]; exact exf2.2.1), fun i hi => exf2.2.2 i (by omega)⟩⟩
set_option maxHeartbeats 4000000 in
set_option maxRecDepth 100000 in
theorem C_lclear_24 {l : Launch} {G : GT} {mi : Nat} {sk : Nat → Nat} {L : List Nat} {cl ln : Nat → Nat} {iv : Nat → Nat → Int} {rv : Nat → Nat → Option Nat}  {a0 : Nat} (hW : WT (g0 G) sk L cl ln iv rv) (hS : SKL sk L cl) (t_a0 : ty L cl a0 24)  : Mc l G mi (Phi (g0 G) sk) PHM yJx4a65c_clear_da8c8 cJx4a65c_clear_da8c8 4 none 0 [.ref a0] L cl ln iv rv 0 (fun v L2 cl2 ln2 iv2 rv2 => v = none ∧ L = L2 ∧ cl = cl2 ∧ ln = ln2 ∧ fT [24, 1002] L cl iv rv iv2 rv2 ∧ WT (g0 G) sk L2 cl2 ln2 iv2 rv2 ∧ (iv2 a0 2 = 0)) := by
  refine Mc.mk (by decide) (Nat.le_of_ble_eq_true rfl) ?_
  intro p e s m args below meth c A C hM
  refine hv3 (Phi.le hW hS) (show XT L cl ln L cl ln from XT.refl) (show fT [24, 1002] L cl iv rv iv rv from fT.refl) (fun hph hX0 hF0 => ?_)
  refine c_aload_n (j := 0) (x := a0) C dJx4a65c_clear_da8c8_0 rfl ?_
  refine c_dup C dJx4a65c_clear_da8c8_1 rfl ?_
  have ri1 : (-2147483648) ≤ iv a0 0 ∧ iv a0 0 ≤ 2147483647 := hW.int t_a0 0
  refine c_getU (k := 0) C ck_0 dJx4a65c_clear_da8c8_2 w1_81 w1_82 (by decide) t_a0 rfl rfl (by decide) rfl ?_
  refine c_iconst C dJx4a65c_clear_da8c8_5 ?_
  refine c_iadd C dJx4a65c_clear_da8c8_6 ?_
  obtain ⟨zz1, hzz1, ezz1⟩ := iI_of (iI ((iv a0 0) + 1))
  refine c_st (st2 := [.int (iI zz1), .ref a0]) (by rw [ezz1]) ?_
  refine c_putU (z := zz1) (k := 0) C ck_0 dJx4a65c_clear_da8c8_7 w1_81 w1_82 (by decide) rfl t_a0 rfl rfl (by decide) rfl (by rfl) (by rfl) (fun iv1 pq1 => ?_)
  refine hv2 (hW.puti pq1 t_a0 (show (-2147483648) ≤ zz1 ∧ zz1 ≤ 2147483647 by omega) rfl) (hF0.puti hX0 pq1 t_a0 rfl) (fun W1 F1 => ?_)
  refine c_aload_n (j := 0) (x := a0) C dJx4a65c_clear_da8c8_10 rfl ?_
  refine hv2 (show 0 ≤ iv1 a0 2 ∧ iv1 a0 2 ≤ 6003 from W1.int t_a0 2) (show iv1 a0 2 = iv a0 2 from by rw [pq1]; exact up2_j (by decide)) (fun ri2 ie1 => ?_)
  rcases W1.edc t_a0 rfl rfl with ⟨eq1, zeb1⟩ | ⟨eb1, eq1, teb1, ceb1, zeb1⟩
  · refine c_getr (k := 1) C ck_0 dJx4a65c_clear_da8c8_11 w1_78 (by decide) t_a0 rfl rfl (by decide) rfl eq1 ?_
    refine c_st (st2 := [.ref (g0 G)]) rfl ?_
    refine c_astore_n (lv2 := [(1, .ref (g0 G)), (0, .ref a0)]) C dJx4a65c_clear_da8c8_14 (by decide) rfl ?_
    refine c_aload_n (j := 1) (x := a0) C dJx4a65c_clear_da8c8_15 rfl ?_
    refine c_get (k := 2) C ck_0 dJx4a65c_clear_da8c8_16 w1_79 (by decide) t_a0 rfl rfl (by decide) rfl ?_
    refine c_istore_n (lv2 := [(2, .int (iI (iv1 a0 2))), (1, .ref (g0 G)), (0, .ref a0)]) C dJx4a65c_clear_da8c8_19 (by decide) rfl ?_
    refine c_aload_n (j := 2) (x := a0) C dJx4a65c_clear_da8c8_20 rfl ?_
    refine c_iconst C dJx4a65c_clear_da8c8_21 ?_
    refine c_dup_x1 C dJx4a65c_clear_da8c8_22 rfl rfl ?_
    refine c_put (z := 0) (k := 2) C ck_0 dJx4a65c_clear_da8c8_23 w1_79 (by decide) rfl t_a0 rfl rfl (by decide) rfl (by rfl) (by rfl) (fun iv2 pq2 => ?_)
    refine hv2 (W1.lsz pq2 t_a0 rfl (show 0 ≤ 0 ∧ 0 ≤ iv1 a0 2 by omega)) (F1.puti hX0 pq2 t_a0 rfl) (fun W2 F2 => ?_)
    refine c_istore_n (lv2 := [(3, .int (iI 0)), (2, .int (iI (iv1 a0 2))), (1, .ref (g0 G)), (0, .ref a0)]) C dJx4a65c_clear_da8c8_26 (by decide) rfl ?_
    refine c_iload_n (j := 0) C dJx4a65c_clear_da8c8_27 rfl ?_
    refine c_iload_n (j := 1) C dJx4a65c_clear_da8c8_28 rfl ?_
    refine c_icmp_ge (tgt := 42) C ⟨by decide, by decide⟩ (r32_c (lo := 0) (hi := 6003) ri2.1 ri2.2 (by decide) (by decide)) dJx4a65c_clear_da8c8_29 (by decide) (fun _ => ?_) (fun z => absurd z (by omega))
    refine hv2 (show 0 ≤ iv2 a0 2 ∧ iv2 a0 2 ≤ 6003 from W2.int t_a0 2) (show iv2 a0 2 = 0 from by rw [pq2]; exact up2_s) (fun ri3 ie2 => ?_)
    exact c_vret C dJx4a65c_clear_da8c8_42 rfl (by decide) (rom0 hph hph (by decide)) ⟨rfl, rfl, rfl, rfl, F2, W2, (by omega)⟩
  · have lneb1 : 10 ≤ ln eb1 ∧ ln eb1 ≤ 9100 := W1.len teb1 rfl
    refine c_getr (k := 1) C ck_0 dJx4a65c_clear_da8c8_11 w1_78 (by decide) t_a0 rfl rfl (by decide) rfl eq1 ?_
    refine c_st (st2 := [.ref eb1]) rfl ?_
    refine c_astore_n (lv2 := [(1, .ref eb1), (0, .ref a0)]) C dJx4a65c_clear_da8c8_14 (by decide) rfl ?_
    refine c_aload_n (j := 1) (x := a0) C dJx4a65c_clear_da8c8_15 rfl ?_
    refine c_get (k := 2) C ck_0 dJx4a65c_clear_da8c8_16 w1_79 (by decide) t_a0 rfl rfl (by decide) rfl ?_
    refine c_istore_n (lv2 := [(2, .int (iI (iv1 a0 2))), (1, .ref eb1), (0, .ref a0)]) C dJx4a65c_clear_da8c8_19 (by decide) rfl ?_
    refine c_aload_n (j := 2) (x := a0) C dJx4a65c_clear_da8c8_20 rfl ?_
    refine c_iconst C dJx4a65c_clear_da8c8_21 ?_
    refine c_dup_x1 C dJx4a65c_clear_da8c8_22 rfl rfl ?_
    refine c_put (z := 0) (k := 2) C ck_0 dJx4a65c_clear_da8c8_23 w1_79 (by decide) rfl t_a0 rfl rfl (by decide) rfl (by rfl) (by rfl) (fun iv3 pq3 => ?_)
    refine hv2 (W1.lsz pq3 t_a0 rfl (show 0 ≤ 0 ∧ 0 ≤ iv1 a0 2 by omega)) (F1.puti hX0 pq3 t_a0 rfl) (fun W3 F3 => ?_)
    refine c_istore_n (lv2 := [(3, .int (iI 0)), (2, .int (iI (iv1 a0 2))), (1, .ref eb1), (0, .ref a0)]) C dJx4a65c_clear_da8c8_26 (by decide) rfl ?_
    have Lp1 : ∀ (nn : Nat) (k : Int) (ivb1 : Nat → Nat → Int) (rvb1 : Nat → Nat → Option Nat) , 6004 - k < (nn : Int) → WT (g0 G) sk L cl ln ivb1 rvb1 → fT [24, 1002] L cl iv rv ivb1 rvb1 → (0 ≤ k ∧ k ≤ 6003) → (ivb1 a0 2 = 0) → cw p l e 0 ((PHM) + 0 - ((Phi (g0 G) sk) ln rv)) s m args below meth c G A 4 (MQ below (Qu G A (Qp G (Phi (g0 G) sk) ((Phi (g0 G) sk) ln rv) 0 (fun v L2 cl2 ln2 iv2 rv2 => v = none ∧ L = L2 ∧ cl = cl2 ∧ ln = ln2 ∧ fT [24, 1002] L cl iv rv iv2 rv2 ∧ WT (g0 G) sk L2 cl2 ln2 iv2 rv2 ∧ (iv2 a0 2 = 0)))) args s (((PHM) + 0 - ((Phi (g0 G) sk) ln rv)) / 16) ((PHM) + 0 - ((Phi (g0 G) sk) ln rv)) A) (Phi (g0 G) sk) ((Phi (g0 G) sk) ln rv) L cl ln ivb1 rvb1 0 27 [(3, .int (iI k)), (2, .int (iI (iv1 a0 2))), (1, .ref eb1), (0, .ref a0)] [] := by
      intro nn
      induction nn with
      | zero =>
        intro  k ivb1 rvb1 hm Wb1 Fb1  hk hz
        exact absurd hm (by omega)
      | succ nn ih1 =>
        intro  k ivb1 rvb1 hm Wb1 Fb1  hk hz
        refine c_iload_n (j := 0) C dJx4a65c_clear_da8c8_27 rfl ?_
        refine c_iload_n (j := 1) C dJx4a65c_clear_da8c8_28 rfl ?_
        refine c_icmp_ge (tgt := 42) C (r32_c (lo := 0) (hi := 6003) hk.1 hk.2 (by decide) (by decide)) ⟨by omega, by omega⟩ dJx4a65c_clear_da8c8_29 (by decide) (fun c1 => ?_) (fun c1 => ?_)
        · have ri4 : 0 ≤ ivb1 a0 2 ∧ ivb1 a0 2 ≤ 6003 := Wb1.int t_a0 2
          have pl1 := Phi.le Wb1 hS
          exact c_vret C dJx4a65c_clear_da8c8_42 rfl (by decide) (rom0 hph pl1 (by decide)) ⟨rfl, rfl, rfl, rfl, Fb1, Wb1, (by omega)⟩
        · refine c_aload_n (j := 2) (x := eb1) C dJx4a65c_clear_da8c8_32 rfl ?_
          refine c_iload_n (j := 0) C dJx4a65c_clear_da8c8_33 rfl ?_
          refine c_null C dJx4a65c_clear_da8c8_34 ?_
          have ll1 : 10 ≤ ln eb1 ∧ ln eb1 ≤ 9100 := Wb1.len teb1 rfl
          refine c_aastNO (z := k) C dJx4a65c_clear_da8c8_35 teb1 rfl (by omega) (by omega) (by omega) (fun rv1 pq4 => ⟨0, (by rw [Phi.putr hS pq4 teb1 rfl]; exact Nat.le_refl _), ?_⟩)
          refine hv2 (show 0 ≤ ivb1 a0 2 ∧ ivb1 a0 2 ≤ 6003 from Wb1.int t_a0 2) (Fb1.putr hX0 pq4 teb1 rfl) (fun ri5 F4 => ?_)
          have W4 := Wb1.lnull (a := a0) (k := 2) pq4 teb1 (by decide) rfl ceb1 (by decide) (show ivb1 a0 2 ≤ ((k.toNat : Nat) : Int) by omega)
          refine c_iinc (z := k) (j := 0) (lv2 := [(3, .int (iI (k + 1))), (2, .int (iI (iv1 a0 2))), (1, .ref eb1), (0, .ref a0)]) C dJx4a65c_clear_da8c8_36 rfl (by decide) rfl ?_
          refine c_goto (tgt := 27) C dJx4a65c_clear_da8c8_39 (by decide) ?_
          refine c_lv (lv2 := [(3, .int (iI (k + 1))), (2, .int (iI (iv1 a0 2))), (1, .ref eb1), (0, .ref a0)]) [0, 1, 2, 3] rfl ?_
          exact ih1  (k + 1) _ _ (by omega) W4 F4  (by omega) hz
    refine hv2 (show 0 ≤ iv3 a0 2 ∧ iv3 a0 2 ≤ 6003 from W3.int t_a0 2) (show iv3 a0 2 = 0 from by rw [pq3]; exact up2_s) (fun ri6 ie5 => ?_)
    refine c_lv (lv2 := [(3, .int (iI 0)), (2, .int (iI (iv1 a0 2))), (1, .ref eb1), (0, .ref a0)]) [0, 1, 2, 3] rfl ?_
    exact Lp1 6006 0 _ _ (by omega) W3 F3  (by omega) ie5
set_option maxHeartbeats 4000000 in
set_option maxRecDepth 100000 in
theorem Z_copyO3_25 {l : Launch} {G : GT} {mi : Nat} {sk : Nat → Nat} {L : List Nat} {cl ln : Nat → Nat} {iv : Nat → Nat → Int} {rv : Nat → Nat → Option Nat}  {a0 : Nat} {n : Int} (hW : WT (g0 G) sk L cl ln iv rv) (hS : SKL sk L cl) (t_a0 : ty L cl a0 1003) (h_n : -2147483648 ≤ n ∧ n ≤ 2147483647) (hn : ((ln a0 : Nat) : Int) < n ∧ 10 ≤ n ∧ n ≤ 9100) : Mc l G mi zPf 0 yJ7_copyOf_6403c cJ7_copyOf_6403c 4 (some (.array (.object "java/lang/Object"))) 1 [.ref a0, .int (iI n), .ref mi] L cl ln iv rv (16 + n.toNat) (fun v L2 cl2 ln2 iv2 rv2 => ∃ f : Nat, v = some (.ref f) ∧ XT L cl ln L2 cl2 ln2 ∧ fT [1003] L cl iv rv iv2 rv2 ∧ WT (g0 G) sk L2 cl2 ln2 iv2 rv2 ∧ ty L2 cl2 f 1003 ∧ (ln2 f = n.toNat ∧ cl2 f = cl a0 ∧ ∀ i : Nat, i < ln a0 → rv2 f i = rv a0 i)) := by
  refine Mc.mk (by decide) (Nat.le_of_ble_eq_true rfl) ?_
  intro p e s m args below meth c A C hM
  refine hv3 ((show zPf ln rv ≤ 0 from Nat.le_refl 0)) (show XT L cl ln L cl ln from XT.refl) (show fT [1003] L cl iv rv iv rv from fT.refl) (fun hph hX0 hF0 => ?_)
  refine c_aload_n (j := 2) (x := mi) C dJ7_copyOf_6403c_0 rfl ?_
  refine c_ldcM C hM dJ7_copyOf_6403c_1 w3_29 ?_
  refine c_acmp_ne (rx := some mi) (ry := some mi) (tgt := 13) C dJ7_copyOf_6403c_3 (by decide) (fun q => absurd rfl q) (fun _ => ?_)
  refine c_iload_n (j := 1) C dJ7_copyOf_6403c_6 rfl ?_
  refine c_newaO (z := n) (N := n.toNat) C (cl a0) dJ7_copyOf_6403c_7 w3_31 w3_30t (by rw [t_a0.2]; rfl) (by omega) (by omega) (rom2 hph hph (by omega)) (fun qn1 cln1 lnn1 ivn1 rvn1 hqn1 hcn1 hln1 hin1 hrn1 => ⟨(0 + (16 + n.toNat)), (z_in (by omega)), ?_⟩)
  refine c_g0 C (fun hg1 => ?_)
  refine hv5 (show ∀ b, b ≠ qn1 → lnn1 b = ln b from (fun b hb => by rw [hln1]; exact va_up_ne _ _ hb)) (show lnn1 qn1 = n.toNat from by rw [hln1]; exact va_up_self _ _ _) (hF0.new hX0 hqn1 hin1 hrn1) (show ty (L ++ [qn1]) cln1 qn1 1003 from ⟨List.mem_append_right _ List.mem_cons_self, by rw [hcn1, va_up_self]; exact t_a0.2⟩) (show cln1 qn1 = (cl a0) from by rw [hcn1]; exact va_up_self _ _ _) (fun hxn1 lqn1 F1 tqn1 clqn1 => ?_)
  refine hv2 (hW.new (ln2 := lnn1) hqn1 (hg1 qn1 (List.mem_append_right _ List.mem_cons_self)) hcn1 hxn1 hin1 hrn1 (fun _ => by rw [t_a0.2]; exact ⟨(show (-2147483648 : Int) ≤ 0 by decide), (show (0 : Int) ≤ 2147483647 by decide)⟩) (Or.inr (fun _ => by rw [t_a0.2]; rfl)) (fun _ => by rw [t_a0.2]; show 10 ≤ lnn1 qn1 ∧ lnn1 qn1 ≤ 9100; omega) (by rw [t_a0.2]; rfl) (uq_big (by rw [t_a0.2]; decide))) (XT.new hqn1 hcn1 hxn1) (fun W1 xl1 => ?_)
  refine hv2 (hX0.trans xl1) (xl1.skl hS) (fun X1 sk1 => ?_)
  refine c_goto (tgt := 24) C dJ7_copyOf_6403c_10 (by decide) ?_
  refine c_astore_n (lv2 := [(3, .ref qn1), (0, .ref a0), (1, .int (iI n)), (2, .ref mi)]) C dJ7_copyOf_6403c_24 (by decide) rfl ?_
  refine c_aload_n (j := 1) (x := a0) C dJ7_copyOf_6403c_25 rfl ?_
  refine c_iconst C dJ7_copyOf_6403c_26 ?_
  refine c_aload_n (j := 0) (x := qn1) C dJ7_copyOf_6403c_27 rfl ?_
  refine c_iconst C dJ7_copyOf_6403c_28 ?_
  refine c_aload_n (j := 1) (x := a0) C dJ7_copyOf_6403c_29 rfl ?_
  have ty1 := xl1.ty t_a0
  have ll1 : 10 ≤ lnn1 a0 ∧ lnn1 a0 ≤ 9100 := W1.len ty1 rfl
  refine c_alenO C dJ7_copyOf_6403c_30 ty1 rfl ?_
  refine c_iload_n (j := 2) C dJ7_copyOf_6403c_31 rfl ?_
  obtain ⟨mn1, hmn1, emn1⟩ := mmin_c (x := ((lnn1 a0 : Nat) : Int)) (y := n) ⟨by omega, by omega⟩ ⟨by omega, by omega⟩
  refine c_mmin (w := iI mn1) C dJ7_copyOf_6403c_32 w2_128 w2_129 w1_14 w2_130 (by decide) (rom0 hph (Nat.le_refl 0) (by omega)) (Nat.le_of_ble_eq_true rfl) emn1 ?_
  have le1 : lnn1 a0 = ln a0 := (xl1 a0 t_a0.1).2.2
  refine c_copyq (n := mn1) C ck_6 w8_185t dJ7_copyOf_6403c_35 w2_131 w2_133 w2_132 w1_15 ty1 rfl tqn1 rfl (fun i y hy => by
      rcases W1.opt ty1 i rfl rfl with qq | ⟨bb, q1, q2⟩
      · rw [qq.1] at hy; cases hy
      · rw [q1] at hy; cases hy; exact q2) rfl rfl (by decide) (by omega) (by omega) (by omega) (by omega) (by decide) (Nat.le_of_ble_eq_true rfl) (fun rv1 cq1 => ⟨(0 + (16 + n.toNat)), (zp2 (Nat.le_refl _)), ?_⟩)
  have hno : ∀ w ∈ (L ++ [qn1]), lst (bt (cln1 w)) = true → rvn1 w 1 ≠ some qn1 := by
    intro w hw hl3 e3
    rcases List.mem_append.mp hw with e4 | e4
    · have hwq : w ≠ qn1 := fun e => hqn1 (e ▸ e4)
      rw [hcn1, va_up_ne _ _ hwq] at hl3
      rw [hrn1, up0_a hwq] at e3
      rcases WT.ed hW e4 (lst_szd hl3) e3 with e5 | e5
      · exact hqn1 e5
      · exact hg1 qn1 tqn1.1 e5
    · have e5 := List.mem_singleton.mp e4
      rw [e5, tqn1.2] at hl3; cases hl3
  refine hv2 (W1.copyr (TB2 := 0) cq1 tqn1 ty1 (by decide) (fun _ _ => rfl) (fun _ => rfl) hno) (F1.copyr X1 cq1 tqn1 rfl) (fun W2 F2 => ?_)
  refine c_aload_n (j := 0) (x := qn1) C dJ7_copyOf_6403c_38 rfl ?_
  exact c_aret (x := some qn1) C dJ7_copyOf_6403c_39 rfl (Or.inr ⟨_, rfl⟩) (by omega) (rom0 hph (Nat.le_refl 0) (by omega)) ⟨qn1, rfl, X1, F2, W2, tqn1, ⟨by omega, clqn1, fun i hi => by
      rw [cq1]
      show (if qn1 = qn1 then _ else _) = rv a0 i
      rw [if_pos rfl, if_pos (by omega), hrn1]
      exact congrFun (up0_a (ne_in t_a0.1 hqn1)) i⟩⟩
set_option maxHeartbeats 4000000 in
set_option maxRecDepth 100000 in
theorem Z_copyO2_25 {l : Launch} {G : GT} {mi : Nat} {sk : Nat → Nat} {L : List Nat} {cl ln : Nat → Nat} {iv : Nat → Nat → Int} {rv : Nat → Nat → Option Nat}  {a0 : Nat} {n : Int} (hW : WT (g0 G) sk L cl ln iv rv) (hS : SKL sk L cl) (t_a0 : ty L cl a0 1003) (h_n : -2147483648 ≤ n ∧ n ≤ 2147483647) (hn : ((ln a0 : Nat) : Int) < n ∧ 10 ≤ n ∧ n ≤ 9100) : Mc l G mi zPf 0 yJ7_copyOf_1904c cJ7_copyOf_1904c 2 (some (.array (.object "java/lang/Object"))) 2 [.ref a0, .int (iI n)] L cl ln iv rv (16 + n.toNat) (fun v L2 cl2 ln2 iv2 rv2 => ∃ f : Nat, v = some (.ref f) ∧ XT L cl ln L2 cl2 ln2 ∧ fT [1003] L cl iv rv iv2 rv2 ∧ WT (g0 G) sk L2 cl2 ln2 iv2 rv2 ∧ ty L2 cl2 f 1003 ∧ (ln2 f = n.toNat ∧ cl2 f = cl a0 ∧ ∀ i : Nat, i < ln a0 → rv2 f i = rv a0 i)) := by
  refine Mc.mk (by decide) (Nat.le_of_ble_eq_true rfl) ?_
  intro p e s m args below meth c A C hM
  refine hv3 ((show zPf ln rv ≤ 0 from Nat.le_refl 0)) (show XT L cl ln L cl ln from XT.refl) (show fT [1003] L cl iv rv iv rv from fT.refl) (fun hph hX0 hF0 => ?_)
  refine c_aload_n (j := 0) (x := a0) C dJ7_copyOf_1904c_0 rfl ?_
  refine c_iload_n (j := 1) C dJ7_copyOf_1904c_1 rfl ?_
  refine c_aload_n (j := 0) (x := a0) C dJ7_copyOf_1904c_2 rfl ?_
  refine c_getC C hM dJ7_copyOf_1904c_3 w3_8 w8_172 w3_9 w3_25 t_a0 rfl (by decide) (Nat.le_of_ble_eq_true rfl) ?_
  refine c_callS (As := [.ref a0, .int (iI n), .ref mi]) (rest := []) C hM (Z_copyO3_25 (a0 := a0) (n := n) hW hS t_a0 (by omega) (by show ((ln a0 : Nat) : Int) < n ∧ 10 ≤ n ∧ n ≤ 9100; omega)) dJ7_copyOf_1904c_6 kS_J7_300 rfl rfl (Nat.le_of_ble_eq_true rfl) ⟨(Nat.le_of_ble_eq_true rfl), (Nat.le_of_ble_eq_true rfl)⟩ (rz0 hph (by omega)) (fun rh1 Lh1 clh1 lnh1 ivh1 rvh1 h1 => ⟨(0 + (16 + n.toNat)), zk0, ?_⟩)
  obtain ⟨f1, rfl, xl1, fl1, W1, rgf1, exf1⟩ := h1
  refine hv3 (hF0.call hX0 fl1 rfl) (hX0.trans xl1) (xl1.skl hS) (fun F1 X1 sk1 => ?_)
  refine c_st (st2 := [.ref f1]) rfl ?_
  have gf1 : lnh1 f1 = n.toNat ∧ clh1 f1 = cl a0 ∧ ∀ i : Nat, i < ln a0 → rvh1 f1 i = rv a0 i := exf1
  exact c_aret (x := some f1) C dJ7_copyOf_1904c_9 rfl (Or.inr ⟨_, rfl⟩) (by omega) (rom0 hph (Nat.le_refl 0) (by omega)) ⟨f1, rfl, X1, F1, W1, rgf1, exf1⟩
set_option maxHeartbeats 4000000 in
set_option maxRecDepth 100000 in
theorem C_growA_25 {l : Launch} {G : GT} {mi : Nat} {sk : Nat → Nat} {L : List Nat} {cl ln : Nat → Nat} {iv : Nat → Nat → Int} {rv : Nat → Nat → Option Nat}  {a0 : Nat} {n : Int} (hW : WT (g0 G) sk L cl ln iv rv) (hS : SKL sk L cl) (t_a0 : ty L cl a0 25) (h_n : -2147483648 ≤ n ∧ n ≤ 2147483647) (hed : rv a0 1 = some (g0 G)) (hn : n = 1 ∧ iv a0 2 = 0) : Mc l G mi (Phi (g0 G) sk) PHM yJx4a65c_grow_92f84 cJx4a65c_grow_92f84 4 (some (.array (.object "java/lang/Object"))) 3 [.ref a0, .int (iI n)] L cl ln iv rv 0 (fun v L2 cl2 ln2 iv2 rv2 => ∃ f : Nat, v = some (.ref f) ∧ XT L cl ln L2 cl2 ln2 ∧ fT [25, 1003] L cl iv rv iv2 rv2 ∧ WT (g0 G) sk L2 cl2 ln2 iv2 rv2 ∧ ty L2 cl2 f 1003 ∧ (rv2 a0 1 = some f ∧ iv2 a0 2 = iv a0 2 ∧ iv a0 2 + 1 ≤ ((ln2 f : Nat) : Int) ∧ cl2 f = 1000 + 5 * a0 + 3 ∧ ∀ i : Nat, (i : Int) < iv a0 2 → rv2 f i = el rv a0 i)) := by
  refine Mc.mk (by decide) (Nat.le_of_ble_eq_true rfl) ?_
  intro p e s m args below meth c A C hM
  refine hv3 (Phi.le hW hS) (show XT L cl ln L cl ln from XT.refl) (show fT [25, 1003] L cl iv rv iv rv from fT.refl) (fun hph hX0 hF0 => ?_)
  refine c_aload_n (j := 0) (x := a0) C dJx4a65c_grow_92f84_0 rfl ?_
  refine c_getr (k := 1) C ck_0 dJx4a65c_grow_92f84_1 w1_78 (by decide) t_a0 rfl rfl (by decide) rfl hed ?_
  refine c_st (st2 := [.ref (g0 G)]) rfl ?_
  refine c_tlen C dJx4a65c_grow_92f84_4 ?_
  refine c_istore_n (lv2 := [(2, .int (iI 0)), (0, .ref a0), (1, .int (iI n))]) C dJx4a65c_grow_92f84_5 (by decide) rfl ?_
  refine c_iload_n (j := 0) C dJx4a65c_grow_92f84_6 rfl ?_
  refine c_if_gt (tgt := 20) C ⟨by decide, by decide⟩ dJx4a65c_grow_92f84_7 (by decide) (fun z => absurd z (by omega)) (fun _ => ?_)
  refine c_aload_n (j := 1) (x := a0) C dJx4a65c_grow_92f84_10 rfl ?_
  refine c_getr (k := 1) C ck_0 dJx4a65c_grow_92f84_11 w1_78 (by decide) t_a0 rfl rfl (by decide) rfl hed ?_
  refine c_st (st2 := [.ref (g0 G)]) rfl ?_
  refine c_gets C dJx4a65c_grow_92f84_14 w1_76 ?_
  refine c_acmp_eq (rx := some (g0 G)) (ry := some (g0 G)) (tgt := 45) C dJx4a65c_grow_92f84_17 (by decide) (fun _ => ?_) (fun q => absurd rfl q)
  refine c_aload_n (j := 1) (x := a0) C dJx4a65c_grow_92f84_45 rfl ?_
  refine c_bipush (z := 10) C dJx4a65c_grow_92f84_46 (by decide) ?_
  refine c_iload_n (j := 2) C dJx4a65c_grow_92f84_48 rfl ?_
  obtain ⟨mn1, hmn1, emn1⟩ := mmax_c (x := 10) (y := n) ⟨by decide, by decide⟩ ⟨by omega, by omega⟩
  refine c_mmax (w := iI mn1) C dJx4a65c_grow_92f84_49 w3_32 w2_148 w1_14 w2_149 (by decide) (rom0 hph hph (by decide)) (Nat.le_of_ble_eq_true rfl) emn1 ?_
  have l3 := (Phi.le3 hW hS).1
  refine c_newaO (z := mn1) (N := 10) C (1000 + 5 * a0 + 3) dJx4a65c_grow_92f84_52 w3_33 w3_30t (by rw [(bt_list (by decide))]; rfl) (by omega) (by omega) (by omega) (fun qn1 cln1 lnn1 ivn1 rvn1 hqn1 hcn1 hln1 hin1 hrn1 => ⟨(0 + (16 + 10)), (p_in (Phi.new hW hS hqn1 (fun b hb => by rw [hln1]; exact va_up_ne _ _ hb) hrn1) (by omega)), ?_⟩)
  refine c_g0 C (fun hg1 => ?_)
  refine hv5 (show ∀ b, b ≠ qn1 → lnn1 b = ln b from (fun b hb => by rw [hln1]; exact va_up_ne _ _ hb)) (show lnn1 qn1 = 10 from by rw [hln1]; exact va_up_self _ _ _) (hF0.new hX0 hqn1 hin1 hrn1) (show ty (L ++ [qn1]) cln1 qn1 1003 from ⟨List.mem_append_right _ List.mem_cons_self, by rw [hcn1, va_up_self]; exact (bt_list (by decide))⟩) (show cln1 qn1 = (1000 + 5 * a0 + 3) from by rw [hcn1]; exact va_up_self _ _ _) (fun hxn1 lqn1 F1 tqn1 clqn1 => ?_)
  refine hv2 (hW.new (ln2 := lnn1) hqn1 (hg1 qn1 (List.mem_append_right _ List.mem_cons_self)) hcn1 hxn1 hin1 hrn1 (fun _ => by rw [(bt_list (by decide))]; exact ⟨(show (-2147483648 : Int) ≤ 0 by decide), (show (0 : Int) ≤ 2147483647 by decide)⟩) (Or.inr (fun _ => by rw [(bt_list (by decide))]; rfl)) (fun _ => by rw [(bt_list (by decide))]; show 10 ≤ lnn1 qn1 ∧ lnn1 qn1 ≤ 9100; omega) (by rw [(bt_list (by decide))]; rfl) (uq_big (by rw [(bt_list (by decide))]; decide))) (XT.new hqn1 hcn1 hxn1) (fun W1 xl1 => ?_)
  refine hv2 (hX0.trans xl1) (xl1.skl hS) (fun X1 sk1 => ?_)
  refine c_dup_x1 C dJx4a65c_grow_92f84_55 rfl rfl ?_
  refine hv2 (xl1.ty t_a0) (show rvn1 a0 1 = rv a0 1 from (by rw [hrn1]; exact congrFun (up0_a (ne_in t_a0.1 hqn1)) _)) (fun ty1 re1 => ?_)
  rw [hed] at re1
  refine hv2 (show 0 ≤ ivn1 a0 2 ∧ ivn1 a0 2 ≤ 6003 from W1.int ty1 2) (show ivn1 a0 2 = iv a0 2 from by rw [hin1]; exact congrFun (up0_a (ne_in t_a0.1 hqn1)) _) (fun ri1 ie1 => ?_)
  refine c_g0 C (fun hg2 => ?_)
  refine hv2 (W1.sk ty1 (by decide) rfl) (cap_g (ln := lnn1) re1) (fun ask cpo => ?_)
  refine c_putr (x := (some qn1)) (k := 1) C ck_0 dJx4a65c_grow_92f84_56 w1_78 (by decide) rfl ty1 rfl rfl (by decide) rfl (by rfl) (by rfl) (fun rv1 pq1 => ⟨0, (by have gr := Phi.grow (g := g0 G) (rv2 := rv1) (rv := rvn1) (b := qn1) (ln := lnn1) (t := 25) sk1 (by rw [← ask]; exact pq1) (hg2 qn1 tqn1.1) (Or.inr (by decide)); rw [← ask] at gr; have gr2 : Phi (g0 G) sk lnn1 rv1 + 8 * cap (g0 G) lnn1 rvn1 a0 = Phi (g0 G) sk lnn1 rvn1 + 8 * lnn1 qn1 := gr; omega), ?_⟩)
  refine hv3 (W1.led pq1 ty1 rfl tqn1.1 clqn1 (by omega) (fun i hi => absurd hi (by omega))) (F1.putr X1 pq1 ty1 rfl) (show rv1 a0 1 = (some qn1) from by rw [pq1]; exact upr_s) (fun W2 F2 rp1 => ?_)
  have pl1 := Phi.le W2 sk1
  exact c_aret (x := some qn1) C dJx4a65c_grow_92f84_59 rfl (Or.inr ⟨_, rfl⟩) (by decide) (rom0 hph pl1 (by decide)) ⟨qn1, rfl, X1, F2, W2, tqn1, ⟨rp1, (by omega), (by omega), clqn1, (fun i hi => absurd hi (by omega))⟩⟩
set_option maxHeartbeats 4000000 in
set_option maxRecDepth 100000 in
theorem C_growB_25 {l : Launch} {G : GT} {mi : Nat} {sk : Nat → Nat} {L : List Nat} {cl ln : Nat → Nat} {iv : Nat → Nat → Int} {rv : Nat → Nat → Option Nat}  {a0 : Nat} {n : Int} {b0 : Nat} (hW : WT (g0 G) sk L cl ln iv rv) (hS : SKL sk L cl) (t_a0 : ty L cl a0 25) (t_b0 : ty L cl b0 1003) (h_n : -2147483648 ≤ n ∧ n ≤ 2147483647) (hed : rv a0 1 = some b0) (hcb : cl b0 = 1000 + 5 * a0 + 3) (hn : n = iv a0 2 + 1 ∧ iv a0 2 = ((ln b0 : Nat) : Int) ∧ iv a0 2 < 6003) : Mc l G mi (Phi (g0 G) sk) PHM yJx4a65c_grow_92f84 cJx4a65c_grow_92f84 4 (some (.array (.object "java/lang/Object"))) 3 [.ref a0, .int (iI n)] L cl ln iv rv 0 (fun v L2 cl2 ln2 iv2 rv2 => ∃ f : Nat, v = some (.ref f) ∧ XT L cl ln L2 cl2 ln2 ∧ fT [25, 1003] L cl iv rv iv2 rv2 ∧ WT (g0 G) sk L2 cl2 ln2 iv2 rv2 ∧ ty L2 cl2 f 1003 ∧ (rv2 a0 1 = some f ∧ iv2 a0 2 = iv a0 2 ∧ iv a0 2 + 1 ≤ ((ln2 f : Nat) : Int) ∧ cl2 f = 1000 + 5 * a0 + 3 ∧ ∀ i : Nat, (i : Int) < iv a0 2 → rv2 f i = el rv a0 i)) := by
  refine Mc.mk (by decide) (Nat.le_of_ble_eq_true rfl) ?_
  intro p e s m args below meth c A C hM
  refine hv3 (Phi.le hW hS) (show XT L cl ln L cl ln from XT.refl) (show fT [25, 1003] L cl iv rv iv rv from fT.refl) (fun hph hX0 hF0 => ?_)
  refine c_aload_n (j := 0) (x := a0) C dJx4a65c_grow_92f84_0 rfl ?_
  refine c_getr (k := 1) C ck_0 dJx4a65c_grow_92f84_1 w1_78 (by decide) t_a0 rfl rfl (by decide) rfl hed ?_
  refine c_st (st2 := [.ref b0]) rfl ?_
  have ll1 : 10 ≤ ln b0 ∧ ln b0 ≤ 9100 := hW.len t_b0 rfl
  refine c_alenO C dJx4a65c_grow_92f84_4 t_b0 rfl ?_
  refine c_istore_n (lv2 := [(2, .int (iI ((ln b0 : Nat) : Int))), (0, .ref a0), (1, .int (iI n))]) C dJx4a65c_grow_92f84_5 (by decide) rfl ?_
  refine c_iload_n (j := 0) C dJx4a65c_grow_92f84_6 rfl ?_
  refine c_if_gt (tgt := 20) C ⟨by omega, by omega⟩ dJx4a65c_grow_92f84_7 (by decide) (fun _ => ?_) (fun z => absurd z (by omega))
  refine c_iload_n (j := 0) C dJx4a65c_grow_92f84_20 rfl ?_
  refine c_iload_n (j := 2) C dJx4a65c_grow_92f84_21 rfl ?_
  refine c_iload_n (j := 0) C dJx4a65c_grow_92f84_22 rfl ?_
  refine c_isub C dJx4a65c_grow_92f84_23 ?_
  refine c_iload_n (j := 0) C dJx4a65c_grow_92f84_24 rfl ?_
  refine c_iconst C dJx4a65c_grow_92f84_25 ?_
  obtain ⟨zz1, hzz1, ezz1⟩ := iI_of (iI ((ln b0 : Nat) : Int) >>> (iI 1 &&& 31))
  refine c_ishr (w := iI zz1) C dJx4a65c_grow_92f84_26 ezz1 ?_
  have shzz1 : zz1 = ((ln b0 : Nat) : Int) / 2 := (iI_eq hzz1 ⟨by omega, by omega⟩).mp (ezz1.symm.trans (shr1 ⟨by omega, by omega⟩))
  refine d_callS (As := [.int (iI ((ln b0 : Nat) : Int)), .int (iI (n - ((ln b0 : Nat) : Int))), .int (iI zz1)]) (rest := []) C hM (C_newLength (i := ((ln b0 : Nat) : Int)) (n := n - ((ln b0 : Nat) : Int)) (x := zz1) hW hS  (by omega) (by omega) (by omega) (by show 0 ≤ ((ln b0 : Nat) : Int) ∧ ((ln b0 : Nat) : Int) ≤ 100000 ∧ 1 ≤ (n - ((ln b0 : Nat) : Int)) ∧ (n - ((ln b0 : Nat) : Int)) ≤ 100000 ∧ 0 ≤ zz1 ∧ zz1 ≤ 100000; omega)) dJx4a65c_grow_92f84_27 kS_Jx4a65c_73 rfl rfl (Nat.le_of_ble_eq_true rfl) ⟨(Nat.le_of_ble_eq_true rfl), (Nat.le_of_ble_eq_true rfl)⟩ hph hph (show 0 + 0 = 0 from rfl) (by decide) (fun rh1 Lh1 clh1 lnh1 ivh1 rvh1 h1 => ?_)
  obtain ⟨f1, rfl, rfl, rfl, rfl, rfl, rfl, rgf1, exf1⟩ := h1
  refine c_st (st2 := [.int (iI f1)]) rfl ?_
  have gf1 : ((n - ((ln b0 : Nat) : Int)) ≤ zz1 ∧ f1 = ((ln b0 : Nat) : Int) + zz1) ∨ (zz1 < (n - ((ln b0 : Nat) : Int)) ∧ f1 = ((ln b0 : Nat) : Int) + (n - ((ln b0 : Nat) : Int))) := exf1
  refine c_istore_n (lv2 := [(3, .int (iI f1)), (2, .int (iI ((ln b0 : Nat) : Int))), (0, .ref a0), (1, .int (iI n))]) C dJx4a65c_grow_92f84_30 (by decide) rfl ?_
  refine c_aload_n (j := 2) (x := a0) C dJx4a65c_grow_92f84_31 rfl ?_
  refine c_aload_n (j := 2) (x := a0) C dJx4a65c_grow_92f84_32 rfl ?_
  refine c_getr (k := 1) C ck_0 dJx4a65c_grow_92f84_33 w1_78 (by decide) t_a0 rfl rfl (by decide) rfl hed ?_
  refine c_st (st2 := [.ref b0, .ref a0]) rfl ?_
  refine c_iload_n (j := 0) C dJx4a65c_grow_92f84_36 rfl ?_
  refine c_g0 C (fun hg0 => ?_)
  refine hv2 (hW.sk t_a0 (by decide) rfl) (cap_of (ln := ln) hed (hg0 b0 t_b0.1)) (fun ask0 cp0 => ?_)
  have l3 := (Phi.le3 hW hS).2 25 (ln b0) (by decide) (by rw [← ask0]; exact cp0) (by omega)
  refine c_callS (As := [.ref b0, .int (iI f1)]) (rest := [.ref a0]) C hM (Z_copyO2_25 (a0 := b0) (n := f1) hW hS t_b0 (by omega) (by show ((ln b0 : Nat) : Int) < f1 ∧ 10 ≤ f1 ∧ f1 ≤ 9100; omega)) dJx4a65c_grow_92f84_37 kS_Jx4a65c_66 rfl rfl (Nat.le_of_ble_eq_true rfl) ⟨(Nat.le_of_ble_eq_true rfl), (Nat.le_of_ble_eq_true rfl)⟩ (by unfold zPf; omega) (fun rh2 Lh2 clh2 lnh2 ivh2 rvh2 h2 => ⟨(0 + (16 + f1.toNat)), (zk1 (by obtain ⟨_, _, xlh2x, flh2x, Wh2x, _⟩ := h2; exact Phi.fr hW hS xlh2x flh2x rfl)), ?_⟩)
  obtain ⟨f2, rfl, xl2, fl2, W2, rgf2, exf2⟩ := h2
  refine hv3 (hF0.call hX0 fl2 rfl) (hX0.trans xl2) (xl2.skl hS) (fun F1 X1 sk1 => ?_)
  refine c_st (st2 := [.ref f2, .ref a0]) rfl ?_
  have gf2 : lnh2 f2 = f1.toNat ∧ clh2 f2 = cl b0 ∧ ∀ i : Nat, i < ln b0 → rvh2 f2 i = rv b0 i := exf2
  refine c_dup_x1 C dJx4a65c_grow_92f84_40 rfl rfl ?_
  refine hv2 (xl2.ty t_a0) (show rvh2 a0 1 = rv a0 1 from (fl2.r t_a0 rfl 1)) (fun ty1 re1 => ?_)
  rw [hed] at re1
  refine hv2 (show 0 ≤ ivh2 a0 2 ∧ ivh2 a0 2 ≤ 6003 from W2.int ty1 2) (show ivh2 a0 2 = iv a0 2 from fl2.i t_a0 rfl 2) (fun ri1 ie1 => ?_)
  refine c_g0 C (fun hg1 => ?_)
  refine hv3 (W2.sk ty1 (by decide) rfl) (xl2.ty t_b0) (show lnh2 b0 = ln b0 from (xl2 b0 t_b0.1).2.2) (fun ask ty2 le1 => ?_)
  have cpo := cap_of (ln := lnh2) re1 (hg1 b0 ty2.1)
  refine c_putr (x := (some f2)) (k := 1) C ck_0 dJx4a65c_grow_92f84_41 w1_78 (by decide) rfl ty1 rfl rfl (by decide) rfl (by rfl) (by rfl) (fun rv1 pq1 => ⟨0, (by have gr := Phi.grow (g := g0 G) (rv2 := rv1) (rv := rvh2) (b := f2) (ln := lnh2) (t := 25) sk1 (by rw [← ask]; exact pq1) (hg1 f2 rgf2.1) (Or.inr (by decide)); rw [← ask] at gr; have gr2 : Phi (g0 G) sk lnh2 rv1 + 8 * cap (g0 G) lnh2 rvh2 a0 = Phi (g0 G) sk lnh2 rvh2 + 8 * lnh2 f2 := gr; omega), ?_⟩)
  have W3 := W2.led pq1 ty1 rfl rgf2.1 (exf2.2.1.trans hcb) (by omega) (fun i hi => by
      rw [exf2.2.2 i (by omega)]
      exact hW.2.2.2.2.1 a0 t_a0.1 (by rw [t_a0.2]; rfl) b0 hed i (by omega))
  refine hv3 (F1.putr X1 pq1 ty1 rfl) (show rv1 a0 1 = (some f2) from by rw [pq1]; exact upr_s) (Phi.le W3 sk1) (fun F2 rp1 pl1 => ?_)
  exact c_aret (x := some f2) C dJx4a65c_grow_92f84_44 rfl (Or.inr ⟨_, rfl⟩) (by decide) (rom0 hph pl1 (by decide)) ⟨f2, rfl, X1, F2, W3, rgf2, ⟨rp1, (by omega), (by omega), (exf2.2.1.trans hcb), (fun i hi => by rw [el_of hed, pq1, upr_a (ne_ty rgf2 ty1 (by decide))]; exact exf2.2.2 i (by omega))⟩⟩
set_option maxHeartbeats 4000000 in
set_option maxRecDepth 100000 in
theorem C_grow0A_25 {l : Launch} {G : GT} {mi : Nat} {sk : Nat → Nat} {L : List Nat} {cl ln : Nat → Nat} {iv : Nat → Nat → Int} {rv : Nat → Nat → Option Nat}  {a0 : Nat} (hW : WT (g0 G) sk L cl ln iv rv) (hS : SKL sk L cl) (t_a0 : ty L cl a0 25) (hed : rv a0 1 = some (g0 G)) (hn : iv a0 2 = 0) : Mc l G mi (Phi (g0 G) sk) PHM yJx4a65c_grow_d5877 cJx4a65c_grow_d5877 1 (some (.array (.object "java/lang/Object"))) 4 [.ref a0] L cl ln iv rv 0 (fun v L2 cl2 ln2 iv2 rv2 => ∃ f : Nat, v = some (.ref f) ∧ XT L cl ln L2 cl2 ln2 ∧ fT [25, 1003] L cl iv rv iv2 rv2 ∧ WT (g0 G) sk L2 cl2 ln2 iv2 rv2 ∧ ty L2 cl2 f 1003 ∧ (rv2 a0 1 = some f ∧ iv2 a0 2 = iv a0 2 ∧ iv a0 2 + 1 ≤ ((ln2 f : Nat) : Int) ∧ cl2 f = 1000 + 5 * a0 + 3 ∧ ∀ i : Nat, (i : Int) < iv a0 2 → rv2 f i = el rv a0 i)) := by
  refine Mc.mk (by decide) (Nat.le_of_ble_eq_true rfl) ?_
  intro p e s m args below meth c A C hM
  refine hv3 (Phi.le hW hS) (show XT L cl ln L cl ln from XT.refl) (show fT [25, 1003] L cl iv rv iv rv from fT.refl) (fun hph hX0 hF0 => ?_)
  refine c_aload_n (j := 0) (x := a0) C dJx4a65c_grow_d5877_0 rfl ?_
  refine c_aload_n (j := 0) (x := a0) C dJx4a65c_grow_d5877_1 rfl ?_
  have ri1 : 0 ≤ iv a0 2 ∧ iv a0 2 ≤ 6003 := hW.int t_a0 2
  refine c_get (k := 2) C ck_0 dJx4a65c_grow_d5877_2 w1_79 (by decide) t_a0 rfl rfl (by decide) rfl ?_
  refine c_iconst C dJx4a65c_grow_d5877_5 ?_
  refine c_iadd C dJx4a65c_grow_d5877_6 ?_
  refine d_callV (As := [.int (iI ((iv a0 2) + 1))]) (rest := []) C hM (C_growA_25 (a0 := a0) (n := (iv a0 2) + 1) hW hS t_a0 (by omega) hed (by show ((iv a0 2) + 1) = 1 ∧ iv a0 2 = 0; omega)) dJx4a65c_grow_d5877_7 kV_Jx4a65c_69 rfl t_a0 rfl rfl (by decide) ck_0 rfl (Nat.le_of_ble_eq_true rfl) ⟨(Nat.le_of_ble_eq_true rfl), (Nat.le_of_ble_eq_true rfl)⟩ hph hph (show 0 + 0 = 0 from rfl) (by decide) (fun rh1 Lh1 clh1 lnh1 ivh1 rvh1 h1 => ?_)
  obtain ⟨f1, rfl, xl1, fl1, W1, rgf1, exf1⟩ := h1
  refine hv3 (hF0.call hX0 fl1 rfl) (hX0.trans xl1) (xl1.skl hS) (fun F1 X1 sk1 => ?_)
  refine c_st (st2 := [.ref f1]) rfl ?_
  refine hv5 (xl1.ty t_a0) (show rvh1 a0 1 = some f1 ∧ ivh1 a0 2 = iv a0 2 ∧ iv a0 2 + 1 ≤ ((lnh1 f1 : Nat) : Int) ∧ clh1 f1 = 1000 + 5 * a0 + 3 ∧ ∀ i : Nat, (i : Int) < iv a0 2 → rvh1 f1 i = el rv a0 i from exf1) (exf1.2.2.1) (exf1.2.1) (Phi.le W1 sk1) (fun ty1 gf1 gzf1 gyf1 pl1 => ?_)
  have ri2 : 0 ≤ ivh1 a0 2 ∧ ivh1 a0 2 ≤ 6003 := W1.int ty1 2
  exact c_aret (x := some f1) C dJx4a65c_grow_d5877_10 rfl (Or.inr ⟨_, rfl⟩) (by decide) (rom0 hph pl1 (by decide)) ⟨f1, rfl, X1, F1, W1, rgf1, exf1⟩
set_option maxHeartbeats 4000000 in
set_option maxRecDepth 100000 in
theorem C_grow0B_25 {l : Launch} {G : GT} {mi : Nat} {sk : Nat → Nat} {L : List Nat} {cl ln : Nat → Nat} {iv : Nat → Nat → Int} {rv : Nat → Nat → Option Nat}  {a0 : Nat} {b0 : Nat} (hW : WT (g0 G) sk L cl ln iv rv) (hS : SKL sk L cl) (t_a0 : ty L cl a0 25) (t_b0 : ty L cl b0 1003) (hed : rv a0 1 = some b0) (hcb : cl b0 = 1000 + 5 * a0 + 3) (hn : iv a0 2 = ((ln b0 : Nat) : Int) ∧ iv a0 2 < 6003) : Mc l G mi (Phi (g0 G) sk) PHM yJx4a65c_grow_d5877 cJx4a65c_grow_d5877 1 (some (.array (.object "java/lang/Object"))) 4 [.ref a0] L cl ln iv rv 0 (fun v L2 cl2 ln2 iv2 rv2 => ∃ f : Nat, v = some (.ref f) ∧ XT L cl ln L2 cl2 ln2 ∧ fT [25, 1003] L cl iv rv iv2 rv2 ∧ WT (g0 G) sk L2 cl2 ln2 iv2 rv2 ∧ ty L2 cl2 f 1003 ∧ (rv2 a0 1 = some f ∧ iv2 a0 2 = iv a0 2 ∧ iv a0 2 + 1 ≤ ((ln2 f : Nat) : Int) ∧ cl2 f = 1000 + 5 * a0 + 3 ∧ ∀ i : Nat, (i : Int) < iv a0 2 → rv2 f i = el rv a0 i)) := by
  refine Mc.mk (by decide) (Nat.le_of_ble_eq_true rfl) ?_
  intro p e s m args below meth c A C hM
  refine hv3 (Phi.le hW hS) (show XT L cl ln L cl ln from XT.refl) (show fT [25, 1003] L cl iv rv iv rv from fT.refl) (fun hph hX0 hF0 => ?_)
  refine c_aload_n (j := 0) (x := a0) C dJx4a65c_grow_d5877_0 rfl ?_
  refine c_aload_n (j := 0) (x := a0) C dJx4a65c_grow_d5877_1 rfl ?_
  have ri1 : 0 ≤ iv a0 2 ∧ iv a0 2 ≤ 6003 := hW.int t_a0 2
  refine c_get (k := 2) C ck_0 dJx4a65c_grow_d5877_2 w1_79 (by decide) t_a0 rfl rfl (by decide) rfl ?_
  refine c_iconst C dJx4a65c_grow_d5877_5 ?_
  refine c_iadd C dJx4a65c_grow_d5877_6 ?_
  refine d_callV (As := [.int (iI ((iv a0 2) + 1))]) (rest := []) C hM (C_growB_25 (a0 := a0) (n := (iv a0 2) + 1) (b0 := b0) hW hS t_a0 t_b0 (by omega) hed hcb (by show ((iv a0 2) + 1) = iv a0 2 + 1 ∧ iv a0 2 = ((ln b0 : Nat) : Int) ∧ iv a0 2 < 6003; omega)) dJx4a65c_grow_d5877_7 kV_Jx4a65c_69 rfl t_a0 rfl rfl (by decide) ck_0 rfl (Nat.le_of_ble_eq_true rfl) ⟨(Nat.le_of_ble_eq_true rfl), (Nat.le_of_ble_eq_true rfl)⟩ hph hph (show 0 + 0 = 0 from rfl) (by decide) (fun rh1 Lh1 clh1 lnh1 ivh1 rvh1 h1 => ?_)
  obtain ⟨f1, rfl, xl1, fl1, W1, rgf1, exf1⟩ := h1
  refine hv3 (hF0.call hX0 fl1 rfl) (hX0.trans xl1) (xl1.skl hS) (fun F1 X1 sk1 => ?_)
  refine c_st (st2 := [.ref f1]) rfl ?_
  refine hv5 (xl1.ty t_a0) (show rvh1 a0 1 = some f1 ∧ ivh1 a0 2 = iv a0 2 ∧ iv a0 2 + 1 ≤ ((lnh1 f1 : Nat) : Int) ∧ clh1 f1 = 1000 + 5 * a0 + 3 ∧ ∀ i : Nat, (i : Int) < iv a0 2 → rvh1 f1 i = el rv a0 i from exf1) (exf1.2.2.1) (exf1.2.1) (Phi.le W1 sk1) (fun ty1 gf1 gzf1 gyf1 pl1 => ?_)
  have ri2 : 0 ≤ ivh1 a0 2 ∧ ivh1 a0 2 ≤ 6003 := W1.int ty1 2
  exact c_aret (x := some f1) C dJx4a65c_grow_d5877_10 rfl (Or.inr ⟨_, rfl⟩) (by decide) (rom0 hph pl1 (by decide)) ⟨f1, rfl, X1, F1, W1, rgf1, exf1⟩
set_option maxHeartbeats 4000000 in
set_option maxRecDepth 100000 in
theorem C_add3A_25 {l : Launch} {G : GT} {mi : Nat} {sk : Nat → Nat} {L : List Nat} {cl ln : Nat → Nat} {iv : Nat → Nat → Int} {rv : Nat → Nat → Option Nat}  {a0 : Nat} {x : Nat} {n : Int} (hW : WT (g0 G) sk L cl ln iv rv) (hS : SKL sk L cl) (t_a0 : ty L cl a0 25) (t_x : ty L cl x 20) (h_n : -2147483648 ≤ n ∧ n ≤ 2147483647) (hed : rv a0 1 = some (g0 G)) (hn : n = iv a0 2 ∧ n = 0) : Mc l G mi (Phi (g0 G) sk) PHM yJx4a65c_add_72be8 cJx4a65c_add_72be8 4 none 5 [.ref a0, .ref x, .ref (g0 G), .int (iI n)] L cl ln iv rv 0 (fun v L2 cl2 ln2 iv2 rv2 => v = none ∧ XT L cl ln L2 cl2 ln2 ∧ fT [25, 1003] L cl iv rv iv2 rv2 ∧ WT (g0 G) sk L2 cl2 ln2 iv2 rv2 ∧ (iv2 a0 2 = iv a0 2 + 1 ∧ el rv2 a0 (iv a0 2).toNat = some x ∧ ∀ i : Nat, (i : Int) < iv a0 2 → el rv2 a0 i = el rv a0 i)) := by
  refine Mc.mk (by decide) (Nat.le_of_ble_eq_true rfl) ?_
  intro p e s m args below meth c A C hM
  refine hv3 (Phi.le hW hS) (show XT L cl ln L cl ln from XT.refl) (show fT [25, 1003] L cl iv rv iv rv from fT.refl) (fun hph hX0 hF0 => ?_)
  refine c_iload_n (j := 3) C dJx4a65c_add_72be8_0 rfl ?_
  refine c_aload_n (j := 2) (x := g0 G) C dJx4a65c_add_72be8_1 rfl ?_
  refine c_tlen C dJx4a65c_add_72be8_2 ?_
  refine c_icmp_ne (tgt := 11) C ⟨by omega, by omega⟩ ⟨by decide, by decide⟩ dJx4a65c_add_72be8_3 (by decide) (fun z => absurd z (by omega)) (fun _ => ?_)
  refine c_aload_n (j := 0) (x := a0) C dJx4a65c_add_72be8_6 rfl ?_
  have ri1 : 0 ≤ iv a0 2 ∧ iv a0 2 ≤ 6003 := hW.int t_a0 2
  refine d_callV (As := []) (rest := []) C hM (C_grow0A_25 (a0 := a0) hW hS t_a0  hed (by show iv a0 2 = 0; omega)) dJx4a65c_add_72be8_7 kV_Jx4a65c_129 rfl t_a0 rfl rfl (by decide) ck_0 rfl (Nat.le_of_ble_eq_true rfl) ⟨(Nat.le_of_ble_eq_true rfl), (Nat.le_of_ble_eq_true rfl)⟩ hph hph (show 0 + 0 = 0 from rfl) (by decide) (fun rh1 Lh1 clh1 lnh1 ivh1 rvh1 h1 => ?_)
  obtain ⟨f1, rfl, xl1, fl1, W1, rgf1, exf1⟩ := h1
  refine hv3 (hF0.call hX0 fl1 rfl) (hX0.trans xl1) (xl1.skl hS) (fun F1 X1 sk1 => ?_)
  refine c_st (st2 := [.ref f1]) rfl ?_
  refine hv4 (xl1.ty t_a0) (show rvh1 a0 1 = some f1 ∧ ivh1 a0 2 = iv a0 2 ∧ iv a0 2 + 1 ≤ ((lnh1 f1 : Nat) : Int) ∧ clh1 f1 = 1000 + 5 * a0 + 3 ∧ ∀ i : Nat, (i : Int) < iv a0 2 → rvh1 f1 i = el rv a0 i from exf1) (exf1.2.2.1) (exf1.2.1) (fun ty1 gf1 gzf1 gyf1 => ?_)
  have ri2 : 0 ≤ ivh1 a0 2 ∧ ivh1 a0 2 ≤ 6003 := W1.int ty1 2
  refine c_astore_n (lv2 := [(2, .ref f1), (0, .ref a0), (1, .ref x), (3, .int (iI n))]) C dJx4a65c_add_72be8_10 (by decide) rfl ?_
  refine c_aload_n (j := 0) (x := f1) C dJx4a65c_add_72be8_11 rfl ?_
  refine c_iload_n (j := 3) C dJx4a65c_add_72be8_12 rfl ?_
  refine c_aload_n (j := 2) (x := x) C dJx4a65c_add_72be8_13 rfl ?_
  refine hv2 (show 10 ≤ lnh1 f1 ∧ lnh1 f1 ≤ 9100 from W1.len rgf1 rfl) (xl1.ty t_x) (fun ll1 ty2 => ?_)
  refine c_aastO (z := n) C ck_6 w8_185t dJx4a65c_add_72be8_14 rgf1 rfl ty2 rfl rfl (by decide) (by omega) (by omega) (by omega) (fun rv1 pq1 => ⟨0, (by rw [Phi.putr sk1 pq1 rgf1 rfl]; exact Nat.le_refl _), ?_⟩)
  refine hv2 (W1.lset pq1 rgf1 (by decide) ty2) (F1.putr X1 pq1 rgf1 rfl) (fun W2 F2 => ?_)
  refine c_aload_n (j := 1) (x := a0) C dJx4a65c_add_72be8_15 rfl ?_
  refine c_iload_n (j := 3) C dJx4a65c_add_72be8_16 rfl ?_
  refine c_iconst C dJx4a65c_add_72be8_17 ?_
  refine c_iadd C dJx4a65c_add_72be8_18 ?_
  refine c_put (z := n + 1) (k := 2) C ck_0 dJx4a65c_add_72be8_19 w1_79 (by decide) rfl ty1 rfl rfl (by decide) rfl (by rfl) (by rfl) (fun iv1 pq2 => ?_)
  have re1 : rv1 a0 1 = rvh1 a0 1 := (by rw [pq1]; exact congrFun (upr_a (ne_ty ty1 rgf1 (by decide))) _)
  rw [exf1.1] at re1
  refine hv3 (show rv1 f1 (ivh1 a0 2).toNat = some x from by rw [show (ivh1 a0 2).toNat = n.toNat by omega, pq1]; exact upr_s) (F2.puti X1 pq2 ty1 rfl) (show iv1 a0 2 = n + 1 from by rw [pq2]; exact up2_s) (fun px1 F3 ie2 => ?_)
  have W3 := W2.lapp pq2 ty1 rfl re1 rgf1.1 px1 (show (n + 1) = ivh1 a0 2 + 1 by omega) (show ivh1 a0 2 + 1 ≤ 6003 by omega) (by omega) rfl
  refine hv2 (show 0 ≤ iv1 a0 2 ∧ iv1 a0 2 ≤ 6003 from W3.int ty1 2) (Phi.le W3 sk1) (fun ri3 pl1 => ?_)
  exact c_vret C dJx4a65c_add_72be8_22 rfl (by decide) (rom0 hph pl1 (by decide)) ⟨rfl, X1, F3, W3, ⟨by omega, (by rw [el_of re1, show (iv a0 2).toNat = n.toNat by omega, pq1]; exact upr_s), fun i hi => (by rw [el_of re1, pq1, upr_j (by omega)]; exact exf1.2.2.2.2 i hi)⟩⟩
set_option maxHeartbeats 4000000 in
set_option maxRecDepth 100000 in
theorem C_add3B_25 {l : Launch} {G : GT} {mi : Nat} {sk : Nat → Nat} {L : List Nat} {cl ln : Nat → Nat} {iv : Nat → Nat → Int} {rv : Nat → Nat → Option Nat}  {a0 : Nat} {x : Nat} {b0 : Nat} {n : Int} (hW : WT (g0 G) sk L cl ln iv rv) (hS : SKL sk L cl) (t_a0 : ty L cl a0 25) (t_x : ty L cl x 20) (t_b0 : ty L cl b0 1003) (h_n : -2147483648 ≤ n ∧ n ≤ 2147483647) (hed : rv a0 1 = some b0) (hcb : cl b0 = 1000 + 5 * a0 + 3) (hn : n = iv a0 2 ∧ 0 ≤ n ∧ n ≤ ((ln b0 : Nat) : Int) ∧ n < 6003) : Mc l G mi (Phi (g0 G) sk) PHM yJx4a65c_add_72be8 cJx4a65c_add_72be8 4 none 5 [.ref a0, .ref x, .ref b0, .int (iI n)] L cl ln iv rv 0 (fun v L2 cl2 ln2 iv2 rv2 => v = none ∧ XT L cl ln L2 cl2 ln2 ∧ fT [25, 1003] L cl iv rv iv2 rv2 ∧ WT (g0 G) sk L2 cl2 ln2 iv2 rv2 ∧ (iv2 a0 2 = iv a0 2 + 1 ∧ el rv2 a0 (iv a0 2).toNat = some x ∧ ∀ i : Nat, (i : Int) < iv a0 2 → el rv2 a0 i = el rv a0 i)) := by
  refine Mc.mk (by decide) (Nat.le_of_ble_eq_true rfl) ?_
  intro p e s m args below meth c A C hM
  refine hv3 (Phi.le hW hS) (show XT L cl ln L cl ln from XT.refl) (show fT [25, 1003] L cl iv rv iv rv from fT.refl) (fun hph hX0 hF0 => ?_)
  refine c_iload_n (j := 3) C dJx4a65c_add_72be8_0 rfl ?_
  refine c_aload_n (j := 2) (x := b0) C dJx4a65c_add_72be8_1 rfl ?_
  have ll1 : 10 ≤ ln b0 ∧ ln b0 ≤ 9100 := hW.len t_b0 rfl
  refine c_alenO C dJx4a65c_add_72be8_2 t_b0 rfl ?_
  refine c_icmp_ne (tgt := 11) C ⟨by omega, by omega⟩ ⟨by omega, by omega⟩ dJx4a65c_add_72be8_3 (by decide) (fun c1 => ?_) (fun c1 => ?_)
  · refine c_aload_n (j := 2) (x := b0) C dJx4a65c_add_72be8_11 rfl ?_
    refine c_iload_n (j := 3) C dJx4a65c_add_72be8_12 rfl ?_
    refine c_aload_n (j := 1) (x := x) C dJx4a65c_add_72be8_13 rfl ?_
    refine c_aastO (z := n) C ck_6 w8_185t dJx4a65c_add_72be8_14 t_b0 rfl t_x rfl rfl (by decide) (by omega) (by omega) (by omega) (fun rv1 pq1 => ⟨0, (by rw [Phi.putr hS pq1 t_b0 rfl]; exact Nat.le_refl _), ?_⟩)
    refine hv2 (hW.lset pq1 t_b0 (by decide) t_x) (hF0.putr hX0 pq1 t_b0 rfl) (fun W1 F1 => ?_)
    refine c_aload_n (j := 0) (x := a0) C dJx4a65c_add_72be8_15 rfl ?_
    refine c_iload_n (j := 3) C dJx4a65c_add_72be8_16 rfl ?_
    refine c_iconst C dJx4a65c_add_72be8_17 ?_
    refine c_iadd C dJx4a65c_add_72be8_18 ?_
    refine c_put (z := n + 1) (k := 2) C ck_0 dJx4a65c_add_72be8_19 w1_79 (by decide) rfl t_a0 rfl rfl (by decide) rfl (by rfl) (by rfl) (fun iv1 pq2 => ?_)
    have re1 : rv1 a0 1 = rv a0 1 := (by rw [pq1]; exact congrFun (upr_a (ne_ty t_a0 t_b0 (by decide))) _)
    rw [hed] at re1
    refine hv3 (show rv1 b0 (iv a0 2).toNat = some x from by rw [show (iv a0 2).toNat = n.toNat by omega, pq1]; exact upr_s) (F1.puti hX0 pq2 t_a0 rfl) (show iv1 a0 2 = n + 1 from by rw [pq2]; exact up2_s) (fun px1 F2 ie1 => ?_)
    have W2 := W1.lapp pq2 t_a0 rfl re1 t_b0.1 px1 (show (n + 1) = iv a0 2 + 1 by omega) (show iv a0 2 + 1 ≤ 6003 by omega) (by omega) rfl
    refine hv2 (show 0 ≤ iv1 a0 2 ∧ iv1 a0 2 ≤ 6003 from W2.int t_a0 2) (Phi.le W2 hS) (fun ri1 pl1 => ?_)
    exact c_vret C dJx4a65c_add_72be8_22 rfl (by decide) (rom0 hph pl1 (by decide)) ⟨rfl, hX0, F2, W2, ⟨by omega, (by rw [el_of re1, show (iv a0 2).toNat = n.toNat by omega, pq1]; exact upr_s), fun i hi => (by rw [el_of re1, pq1, upr_j (by omega)]; exact (el_of hed).symm)⟩⟩
  · refine c_aload_n (j := 0) (x := a0) C dJx4a65c_add_72be8_6 rfl ?_
    have ri2 : 0 ≤ iv a0 2 ∧ iv a0 2 ≤ 6003 := hW.int t_a0 2
    refine d_callV (As := []) (rest := []) C hM (C_grow0B_25 (a0 := a0) (b0 := b0) hW hS t_a0 t_b0  hed hcb (by show iv a0 2 = ((ln b0 : Nat) : Int) ∧ iv a0 2 < 6003; omega)) dJx4a65c_add_72be8_7 kV_Jx4a65c_129 rfl t_a0 rfl rfl (by decide) ck_0 rfl (Nat.le_of_ble_eq_true rfl) ⟨(Nat.le_of_ble_eq_true rfl), (Nat.le_of_ble_eq_true rfl)⟩ hph hph (show 0 + 0 = 0 from rfl) (by decide) (fun rh1 Lh1 clh1 lnh1 ivh1 rvh1 h1 => ?_)
    obtain ⟨f1, rfl, xl1, fl1, W3, rgf1, exf1⟩ := h1
    refine hv3 (hF0.call hX0 fl1 rfl) (hX0.trans xl1) (xl1.skl hS) (fun F3 X1 sk1 => ?_)
    refine c_st (st2 := [.ref f1]) rfl ?_
    refine hv4 (xl1.ty t_a0) (show rvh1 a0 1 = some f1 ∧ ivh1 a0 2 = iv a0 2 ∧ iv a0 2 + 1 ≤ ((lnh1 f1 : Nat) : Int) ∧ clh1 f1 = 1000 + 5 * a0 + 3 ∧ ∀ i : Nat, (i : Int) < iv a0 2 → rvh1 f1 i = el rv a0 i from exf1) (exf1.2.2.1) (exf1.2.1) (fun ty1 gf1 gzf1 gyf1 => ?_)
    have ri3 : 0 ≤ ivh1 a0 2 ∧ ivh1 a0 2 ≤ 6003 := W3.int ty1 2
    refine c_astore_n (lv2 := [(2, .ref f1), (0, .ref a0), (1, .ref x), (3, .int (iI n))]) C dJx4a65c_add_72be8_10 (by decide) rfl ?_
    refine c_aload_n (j := 0) (x := f1) C dJx4a65c_add_72be8_11 rfl ?_
    refine c_iload_n (j := 3) C dJx4a65c_add_72be8_12 rfl ?_
    refine c_aload_n (j := 2) (x := x) C dJx4a65c_add_72be8_13 rfl ?_
    refine hv2 (show 10 ≤ lnh1 f1 ∧ lnh1 f1 ≤ 9100 from W3.len rgf1 rfl) (xl1.ty t_x) (fun ll2 ty2 => ?_)
    refine c_aastO (z := n) C ck_6 w8_185t dJx4a65c_add_72be8_14 rgf1 rfl ty2 rfl rfl (by decide) (by omega) (by omega) (by omega) (fun rv2 pq3 => ⟨0, (by rw [Phi.putr sk1 pq3 rgf1 rfl]; exact Nat.le_refl _), ?_⟩)
    refine hv2 (W3.lset pq3 rgf1 (by decide) ty2) (F3.putr X1 pq3 rgf1 rfl) (fun W4 F4 => ?_)
    refine c_aload_n (j := 1) (x := a0) C dJx4a65c_add_72be8_15 rfl ?_
    refine c_iload_n (j := 3) C dJx4a65c_add_72be8_16 rfl ?_
    refine c_iconst C dJx4a65c_add_72be8_17 ?_
    refine c_iadd C dJx4a65c_add_72be8_18 ?_
    refine c_put (z := n + 1) (k := 2) C ck_0 dJx4a65c_add_72be8_19 w1_79 (by decide) rfl ty1 rfl rfl (by decide) rfl (by rfl) (by rfl) (fun iv2 pq4 => ?_)
    have re2 : rv2 a0 1 = rvh1 a0 1 := (by rw [pq3]; exact congrFun (upr_a (ne_ty ty1 rgf1 (by decide))) _)
    rw [exf1.1] at re2
    refine hv3 (show rv2 f1 (ivh1 a0 2).toNat = some x from by rw [show (ivh1 a0 2).toNat = n.toNat by omega, pq3]; exact upr_s) (F4.puti X1 pq4 ty1 rfl) (show iv2 a0 2 = n + 1 from by rw [pq4]; exact up2_s) (fun px2 F5 ie3 => ?_)
    have W5 := W4.lapp pq4 ty1 rfl re2 rgf1.1 px2 (show (n + 1) = ivh1 a0 2 + 1 by omega) (show ivh1 a0 2 + 1 ≤ 6003 by omega) (by omega) rfl
    refine hv2 (show 0 ≤ iv2 a0 2 ∧ iv2 a0 2 ≤ 6003 from W5.int ty1 2) (Phi.le W5 sk1) (fun ri4 pl2 => ?_)
    exact c_vret C dJx4a65c_add_72be8_22 rfl (by decide) (rom0 hph pl2 (by decide)) ⟨rfl, X1, F5, W5, ⟨by omega, (by rw [el_of re2, show (iv a0 2).toNat = n.toNat by omega, pq3]; exact upr_s), fun i hi => (by rw [el_of re2, pq3, upr_j (by omega)]; exact exf1.2.2.2.2 i hi)⟩⟩
set_option maxHeartbeats 4000000 in
set_option maxRecDepth 100000 in
theorem C_add_25 {l : Launch} {G : GT} {mi : Nat} {sk : Nat → Nat} {L : List Nat} {cl ln : Nat → Nat} {iv : Nat → Nat → Int} {rv : Nat → Nat → Option Nat}  {a0 : Nat} {x : Nat} (hW : WT (g0 G) sk L cl ln iv rv) (hS : SKL sk L cl) (t_a0 : ty L cl a0 25) (t_x : ty L cl x 20) (hn : iv a0 2 < 6003) : Mc l G mi (Phi (g0 G) sk) PHM yJx4a65c_add_9ea2d cJx4a65c_add_9ea2d 2 (some .boolean) 6 [.ref a0, .ref x] L cl ln iv rv 0 (fun v L2 cl2 ln2 iv2 rv2 => ∃ f : Int, v = some (.int (iI f)) ∧ XT L cl ln L2 cl2 ln2 ∧ fT [25, 1003] L cl iv rv iv2 rv2 ∧ WT (g0 G) sk L2 cl2 ln2 iv2 rv2 ∧ (f = 0 ∨ f = 1) ∧ (iv2 a0 2 = iv a0 2 + 1 ∧ el rv2 a0 (iv a0 2).toNat = some x ∧ ∀ i : Nat, (i : Int) < iv a0 2 → el rv2 a0 i = el rv a0 i)) := by
  refine Mc.mk (by decide) (Nat.le_of_ble_eq_true rfl) ?_
  intro p e s m args below meth c A C hM
  refine hv3 (Phi.le hW hS) (show XT L cl ln L cl ln from XT.refl) (show fT [25, 1003] L cl iv rv iv rv from fT.refl) (fun hph hX0 hF0 => ?_)
  refine c_aload_n (j := 0) (x := a0) C dJx4a65c_add_9ea2d_0 rfl ?_
  refine c_dup C dJx4a65c_add_9ea2d_1 rfl ?_
  have ri1 : (-2147483648) ≤ iv a0 0 ∧ iv a0 0 ≤ 2147483647 := hW.int t_a0 0
  refine c_getU (k := 0) C ck_0 dJx4a65c_add_9ea2d_2 w1_81 w1_82 (by decide) t_a0 rfl rfl (by decide) rfl ?_
  refine c_iconst C dJx4a65c_add_9ea2d_5 ?_
  refine c_iadd C dJx4a65c_add_9ea2d_6 ?_
  obtain ⟨zz1, hzz1, ezz1⟩ := iI_of (iI ((iv a0 0) + 1))
  refine c_st (st2 := [.int (iI zz1), .ref a0]) (by rw [ezz1]) ?_
  refine c_putU (z := zz1) (k := 0) C ck_0 dJx4a65c_add_9ea2d_7 w1_81 w1_82 (by decide) rfl t_a0 rfl rfl (by decide) rfl (by rfl) (by rfl) (fun iv1 pq1 => ?_)
  refine hv2 (hW.puti pq1 t_a0 (show (-2147483648) ≤ zz1 ∧ zz1 ≤ 2147483647 by omega) rfl) (hF0.puti hX0 pq1 t_a0 rfl) (fun W1 F1 => ?_)
  refine c_aload_n (j := 0) (x := a0) C dJx4a65c_add_9ea2d_10 rfl ?_
  refine c_aload_n (j := 1) (x := x) C dJx4a65c_add_9ea2d_11 rfl ?_
  refine c_aload_n (j := 0) (x := a0) C dJx4a65c_add_9ea2d_12 rfl ?_
  refine hv2 (show 0 ≤ iv1 a0 2 ∧ iv1 a0 2 ≤ 6003 from W1.int t_a0 2) (show iv1 a0 2 = iv a0 2 from by rw [pq1]; exact up2_j (by decide)) (fun ri2 ie1 => ?_)
  rcases W1.edc t_a0 rfl rfl with ⟨eq1, zeb1⟩ | ⟨eb1, eq1, teb1, ceb1, zeb1⟩
  · refine c_getr (k := 1) C ck_0 dJx4a65c_add_9ea2d_13 w1_78 (by decide) t_a0 rfl rfl (by decide) rfl eq1 ?_
    refine c_st (st2 := [.ref (g0 G), .ref x, .ref a0]) rfl ?_
    refine c_aload_n (j := 0) (x := a0) C dJx4a65c_add_9ea2d_16 rfl ?_
    refine c_get (k := 2) C ck_0 dJx4a65c_add_9ea2d_17 w1_79 (by decide) t_a0 rfl rfl (by decide) rfl ?_
    refine d_callV (As := [.ref x, .ref (g0 G), .int (iI (iv1 a0 2))]) (rest := []) C hM (C_add3A_25 (a0 := a0) (x := x) (n := iv1 a0 2) W1 hS t_a0 t_x (by omega) eq1 (by show (iv1 a0 2) = iv1 a0 2 ∧ (iv1 a0 2) = 0; omega)) dJx4a65c_add_9ea2d_20 kV_Jx4a65c_131 rfl t_a0 rfl rfl (by decide) ck_0 rfl (Nat.le_of_ble_eq_true rfl) ⟨(Nat.le_of_ble_eq_true rfl), (Nat.le_of_ble_eq_true rfl)⟩ hph hph (show 0 + 0 = 0 from rfl) (by decide) (fun rh1 Lh1 clh1 lnh1 ivh1 rvh1 h1 => ?_)
    obtain ⟨rfl, xl1, fl1, W2, exf1⟩ := h1
    refine hv3 (F1.call hX0 fl1 rfl) (hX0.trans xl1) (xl1.skl hS) (fun F2 X1 sk1 => ?_)
    refine c_st (st2 := []) rfl ?_
    refine hv2 (xl1.ty t_a0) (show ivh1 a0 2 = iv1 a0 2 + 1 ∧ el rvh1 a0 (iv1 a0 2).toNat = some x ∧ ∀ i : Nat, (i : Int) < iv1 a0 2 → el rvh1 a0 i = el rv a0 i from exf1) (fun ty1 gf1 => ?_)
    have ri3 : 0 ≤ ivh1 a0 2 ∧ ivh1 a0 2 ≤ 6003 := W2.int ty1 2
    refine c_iconst C dJx4a65c_add_9ea2d_23 ?_
    have pl1 := Phi.le W2 sk1
    exact c_zret C dJx4a65c_add_9ea2d_24 rfl (Or.inr rfl) (by decide) (rom0 hph pl1 (by decide)) ⟨1, rfl, X1, F2, W2, (Or.inr rfl), ⟨by omega, (by rw [show (iv a0 2).toNat = (iv1 a0 2).toNat by omega]; exact exf1.2.1), fun i hi => exf1.2.2 i (by omega)⟩⟩
  · have lneb1 : 10 ≤ ln eb1 ∧ ln eb1 ≤ 9100 := W1.len teb1 rfl
    refine c_getr (k := 1) C ck_0 dJx4a65c_add_9ea2d_13 w1_78 (by decide) t_a0 rfl rfl (by decide) rfl eq1 ?_
    refine c_st (st2 := [.ref eb1, .ref x, .ref a0]) rfl ?_
    refine c_aload_n (j := 0) (x := a0) C dJx4a65c_add_9ea2d_16 rfl ?_
    refine c_get (k := 2) C ck_0 dJx4a65c_add_9ea2d_17 w1_79 (by decide) t_a0 rfl rfl (by decide) rfl ?_
    refine d_callV (As := [.ref x, .ref eb1, .int (iI (iv1 a0 2))]) (rest := []) C hM (C_add3B_25 (a0 := a0) (x := x) (b0 := eb1) (n := iv1 a0 2) W1 hS t_a0 t_x teb1 (by omega) eq1 ceb1 (by show (iv1 a0 2) = iv1 a0 2 ∧ 0 ≤ (iv1 a0 2) ∧ (iv1 a0 2) ≤ ((ln eb1 : Nat) : Int) ∧ (iv1 a0 2) < 6003; omega)) dJx4a65c_add_9ea2d_20 kV_Jx4a65c_131 rfl t_a0 rfl rfl (by decide) ck_0 rfl (Nat.le_of_ble_eq_true rfl) ⟨(Nat.le_of_ble_eq_true rfl), (Nat.le_of_ble_eq_true rfl)⟩ hph hph (show 0 + 0 = 0 from rfl) (by decide) (fun rh2 Lh2 clh2 lnh2 ivh2 rvh2 h2 => ?_)
    obtain ⟨rfl, xl2, fl2, W3, exf2⟩ := h2
    refine hv3 (F1.call hX0 fl2 rfl) (hX0.trans xl2) (xl2.skl hS) (fun F3 X2 sk2 => ?_)
    refine c_st (st2 := []) rfl ?_
    refine hv2 (xl2.ty t_a0) (show ivh2 a0 2 = iv1 a0 2 + 1 ∧ el rvh2 a0 (iv1 a0 2).toNat = some x ∧ ∀ i : Nat, (i : Int) < iv1 a0 2 → el rvh2 a0 i = el rv a0 i from exf2) (fun ty2 gf2 => ?_)
    have ri4 : 0 ≤ ivh2 a0 2 ∧ ivh2 a0 2 ≤ 6003 := W3.int ty2 2
    refine c_iconst C dJx4a65c_add_9ea2d_23 ?_
    have pl2 := Phi.le W3 sk2
    exact c_zret C dJx4a65c_add_9ea2d_24 rfl (Or.inr rfl) (by decide) (rom0 hph pl2 (by decide)) ⟨1, rfl, X2, F3, W3, (Or.inr rfl), ⟨by omega, (by rw [show (iv a0 2).toNat = (iv1 a0 2).toNat by omega]; exact exf2.2.1), fun i hi => exf2.2.2 i (by omega)⟩⟩
set_option maxHeartbeats 4000000 in
set_option maxRecDepth 100000 in
theorem C_lclear_25 {l : Launch} {G : GT} {mi : Nat} {sk : Nat → Nat} {L : List Nat} {cl ln : Nat → Nat} {iv : Nat → Nat → Int} {rv : Nat → Nat → Option Nat}  {a0 : Nat} (hW : WT (g0 G) sk L cl ln iv rv) (hS : SKL sk L cl) (t_a0 : ty L cl a0 25)  : Mc l G mi (Phi (g0 G) sk) PHM yJx4a65c_clear_da8c8 cJx4a65c_clear_da8c8 4 none 0 [.ref a0] L cl ln iv rv 0 (fun v L2 cl2 ln2 iv2 rv2 => v = none ∧ L = L2 ∧ cl = cl2 ∧ ln = ln2 ∧ fT [25, 1003] L cl iv rv iv2 rv2 ∧ WT (g0 G) sk L2 cl2 ln2 iv2 rv2 ∧ (iv2 a0 2 = 0)) := by
  refine Mc.mk (by decide) (Nat.le_of_ble_eq_true rfl) ?_
  intro p e s m args below meth c A C hM
  refine hv3 (Phi.le hW hS) (show XT L cl ln L cl ln from XT.refl) (show fT [25, 1003] L cl iv rv iv rv from fT.refl) (fun hph hX0 hF0 => ?_)
  refine c_aload_n (j := 0) (x := a0) C dJx4a65c_clear_da8c8_0 rfl ?_
  refine c_dup C dJx4a65c_clear_da8c8_1 rfl ?_
  have ri1 : (-2147483648) ≤ iv a0 0 ∧ iv a0 0 ≤ 2147483647 := hW.int t_a0 0
  refine c_getU (k := 0) C ck_0 dJx4a65c_clear_da8c8_2 w1_81 w1_82 (by decide) t_a0 rfl rfl (by decide) rfl ?_
  refine c_iconst C dJx4a65c_clear_da8c8_5 ?_
  refine c_iadd C dJx4a65c_clear_da8c8_6 ?_
  obtain ⟨zz1, hzz1, ezz1⟩ := iI_of (iI ((iv a0 0) + 1))
  refine c_st (st2 := [.int (iI zz1), .ref a0]) (by rw [ezz1]) ?_
  refine c_putU (z := zz1) (k := 0) C ck_0 dJx4a65c_clear_da8c8_7 w1_81 w1_82 (by decide) rfl t_a0 rfl rfl (by decide) rfl (by rfl) (by rfl) (fun iv1 pq1 => ?_)
  refine hv2 (hW.puti pq1 t_a0 (show (-2147483648) ≤ zz1 ∧ zz1 ≤ 2147483647 by omega) rfl) (hF0.puti hX0 pq1 t_a0 rfl) (fun W1 F1 => ?_)
  refine c_aload_n (j := 0) (x := a0) C dJx4a65c_clear_da8c8_10 rfl ?_
  refine hv2 (show 0 ≤ iv1 a0 2 ∧ iv1 a0 2 ≤ 6003 from W1.int t_a0 2) (show iv1 a0 2 = iv a0 2 from by rw [pq1]; exact up2_j (by decide)) (fun ri2 ie1 => ?_)
  rcases W1.edc t_a0 rfl rfl with ⟨eq1, zeb1⟩ | ⟨eb1, eq1, teb1, ceb1, zeb1⟩
  · refine c_getr (k := 1) C ck_0 dJx4a65c_clear_da8c8_11 w1_78 (by decide) t_a0 rfl rfl (by decide) rfl eq1 ?_
    refine c_st (st2 := [.ref (g0 G)]) rfl ?_
    refine c_astore_n (lv2 := [(1, .ref (g0 G)), (0, .ref a0)]) C dJx4a65c_clear_da8c8_14 (by decide) rfl ?_
    refine c_aload_n (j := 1) (x := a0) C dJx4a65c_clear_da8c8_15 rfl ?_
    refine c_get (k := 2) C ck_0 dJx4a65c_clear_da8c8_16 w1_79 (by decide) t_a0 rfl rfl (by decide) rfl ?_
    refine c_istore_n (lv2 := [(2, .int (iI (iv1 a0 2))), (1, .ref (g0 G)), (0, .ref a0)]) C dJx4a65c_clear_da8c8_19 (by decide) rfl ?_
    refine c_aload_n (j := 2) (x := a0) C dJx4a65c_clear_da8c8_20 rfl ?_
    refine c_iconst C dJx4a65c_clear_da8c8_21 ?_
    refine c_dup_x1 C dJx4a65c_clear_da8c8_22 rfl rfl ?_
    refine c_put (z := 0) (k := 2) C ck_0 dJx4a65c_clear_da8c8_23 w1_79 (by decide) rfl t_a0 rfl rfl (by decide) rfl (by rfl) (by rfl) (fun iv2 pq2 => ?_)
    refine hv2 (W1.lsz pq2 t_a0 rfl (show 0 ≤ 0 ∧ 0 ≤ iv1 a0 2 by omega)) (F1.puti hX0 pq2 t_a0 rfl) (fun W2 F2 => ?_)
    refine c_istore_n (lv2 := [(3, .int (iI 0)), (2, .int (iI (iv1 a0 2))), (1, .ref (g0 G)), (0, .ref a0)]) C dJx4a65c_clear_da8c8_26 (by decide) rfl ?_
    refine c_iload_n (j := 0) C dJx4a65c_clear_da8c8_27 rfl ?_
    refine c_iload_n (j := 1) C dJx4a65c_clear_da8c8_28 rfl ?_
    refine c_icmp_ge (tgt := 42) C ⟨by decide, by decide⟩ (r32_c (lo := 0) (hi := 6003) ri2.1 ri2.2 (by decide) (by decide)) dJx4a65c_clear_da8c8_29 (by decide) (fun _ => ?_) (fun z => absurd z (by omega))
    refine hv2 (show 0 ≤ iv2 a0 2 ∧ iv2 a0 2 ≤ 6003 from W2.int t_a0 2) (show iv2 a0 2 = 0 from by rw [pq2]; exact up2_s) (fun ri3 ie2 => ?_)
    exact c_vret C dJx4a65c_clear_da8c8_42 rfl (by decide) (rom0 hph hph (by decide)) ⟨rfl, rfl, rfl, rfl, F2, W2, (by omega)⟩
  · have lneb1 : 10 ≤ ln eb1 ∧ ln eb1 ≤ 9100 := W1.len teb1 rfl
    refine c_getr (k := 1) C ck_0 dJx4a65c_clear_da8c8_11 w1_78 (by decide) t_a0 rfl rfl (by decide) rfl eq1 ?_
    refine c_st (st2 := [.ref eb1]) rfl ?_
    refine c_astore_n (lv2 := [(1, .ref eb1), (0, .ref a0)]) C dJx4a65c_clear_da8c8_14 (by decide) rfl ?_
    refine c_aload_n (j := 1) (x := a0) C dJx4a65c_clear_da8c8_15 rfl ?_
    refine c_get (k := 2) C ck_0 dJx4a65c_clear_da8c8_16 w1_79 (by decide) t_a0 rfl rfl (by decide) rfl ?_
    refine c_istore_n (lv2 := [(2, .int (iI (iv1 a0 2))), (1, .ref eb1), (0, .ref a0)]) C dJx4a65c_clear_da8c8_19 (by decide) rfl ?_
    refine c_aload_n (j := 2) (x := a0) C dJx4a65c_clear_da8c8_20 rfl ?_
    refine c_iconst C dJx4a65c_clear_da8c8_21 ?_
    refine c_dup_x1 C dJx4a65c_clear_da8c8_22 rfl rfl ?_
    refine c_put (z := 0) (k := 2) C ck_0 dJx4a65c_clear_da8c8_23 w1_79 (by decide) rfl t_a0 rfl rfl (by decide) rfl (by rfl) (by rfl) (fun iv3 pq3 => ?_)
    refine hv2 (W1.lsz pq3 t_a0 rfl (show 0 ≤ 0 ∧ 0 ≤ iv1 a0 2 by omega)) (F1.puti hX0 pq3 t_a0 rfl) (fun W3 F3 => ?_)
    refine c_istore_n (lv2 := [(3, .int (iI 0)), (2, .int (iI (iv1 a0 2))), (1, .ref eb1), (0, .ref a0)]) C dJx4a65c_clear_da8c8_26 (by decide) rfl ?_
    have Lp1 : ∀ (nn : Nat) (k : Int) (ivb1 : Nat → Nat → Int) (rvb1 : Nat → Nat → Option Nat) , 6004 - k < (nn : Int) → WT (g0 G) sk L cl ln ivb1 rvb1 → fT [25, 1003] L cl iv rv ivb1 rvb1 → (0 ≤ k ∧ k ≤ 6003) → (ivb1 a0 2 = 0) → cw p l e 0 ((PHM) + 0 - ((Phi (g0 G) sk) ln rv)) s m args below meth c G A 4 (MQ below (Qu G A (Qp G (Phi (g0 G) sk) ((Phi (g0 G) sk) ln rv) 0 (fun v L2 cl2 ln2 iv2 rv2 => v = none ∧ L = L2 ∧ cl = cl2 ∧ ln = ln2 ∧ fT [25, 1003] L cl iv rv iv2 rv2 ∧ WT (g0 G) sk L2 cl2 ln2 iv2 rv2 ∧ (iv2 a0 2 = 0)))) args s (((PHM) + 0 - ((Phi (g0 G) sk) ln rv)) / 16) ((PHM) + 0 - ((Phi (g0 G) sk) ln rv)) A) (Phi (g0 G) sk) ((Phi (g0 G) sk) ln rv) L cl ln ivb1 rvb1 0 27 [(3, .int (iI k)), (2, .int (iI (iv1 a0 2))), (1, .ref eb1), (0, .ref a0)] [] := by
      intro nn
      induction nn with
      | zero =>
        intro  k ivb1 rvb1 hm Wb1 Fb1  hk hz
        exact absurd hm (by omega)
      | succ nn ih1 =>
        intro  k ivb1 rvb1 hm Wb1 Fb1  hk hz
        refine c_iload_n (j := 0) C dJx4a65c_clear_da8c8_27 rfl ?_
        refine c_iload_n (j := 1) C dJx4a65c_clear_da8c8_28 rfl ?_
        refine c_icmp_ge (tgt := 42) C (r32_c (lo := 0) (hi := 6003) hk.1 hk.2 (by decide) (by decide)) ⟨by omega, by omega⟩ dJx4a65c_clear_da8c8_29 (by decide) (fun c1 => ?_) (fun c1 => ?_)
        · have ri4 : 0 ≤ ivb1 a0 2 ∧ ivb1 a0 2 ≤ 6003 := Wb1.int t_a0 2
          have pl1 := Phi.le Wb1 hS
          exact c_vret C dJx4a65c_clear_da8c8_42 rfl (by decide) (rom0 hph pl1 (by decide)) ⟨rfl, rfl, rfl, rfl, Fb1, Wb1, (by omega)⟩
        · refine c_aload_n (j := 2) (x := eb1) C dJx4a65c_clear_da8c8_32 rfl ?_
          refine c_iload_n (j := 0) C dJx4a65c_clear_da8c8_33 rfl ?_
          refine c_null C dJx4a65c_clear_da8c8_34 ?_
          have ll1 : 10 ≤ ln eb1 ∧ ln eb1 ≤ 9100 := Wb1.len teb1 rfl
          refine c_aastNO (z := k) C dJx4a65c_clear_da8c8_35 teb1 rfl (by omega) (by omega) (by omega) (fun rv1 pq4 => ⟨0, (by rw [Phi.putr hS pq4 teb1 rfl]; exact Nat.le_refl _), ?_⟩)
          refine hv2 (show 0 ≤ ivb1 a0 2 ∧ ivb1 a0 2 ≤ 6003 from Wb1.int t_a0 2) (Fb1.putr hX0 pq4 teb1 rfl) (fun ri5 F4 => ?_)
          have W4 := Wb1.lnull (a := a0) (k := 3) pq4 teb1 (by decide) rfl ceb1 (by decide) (show ivb1 a0 2 ≤ ((k.toNat : Nat) : Int) by omega)
          refine c_iinc (z := k) (j := 0) (lv2 := [(3, .int (iI (k + 1))), (2, .int (iI (iv1 a0 2))), (1, .ref eb1), (0, .ref a0)]) C dJx4a65c_clear_da8c8_36 rfl (by decide) rfl ?_
          refine c_goto (tgt := 27) C dJx4a65c_clear_da8c8_39 (by decide) ?_
          refine c_lv (lv2 := [(3, .int (iI (k + 1))), (2, .int (iI (iv1 a0 2))), (1, .ref eb1), (0, .ref a0)]) [0, 1, 2, 3] rfl ?_
          exact ih1  (k + 1) _ _ (by omega) W4 F4  (by omega) hz
    refine hv2 (show 0 ≤ iv3 a0 2 ∧ iv3 a0 2 ≤ 6003 from W3.int t_a0 2) (show iv3 a0 2 = 0 from by rw [pq3]; exact up2_s) (fun ri6 ie5 => ?_)
    refine c_lv (lv2 := [(3, .int (iI 0)), (2, .int (iI (iv1 a0 2))), (1, .ref eb1), (0, .ref a0)]) [0, 1, 2, 3] rfl ?_
    exact Lp1 6006 0 _ _ (by omega) W3 F3  (by omega) ie5
set_option maxHeartbeats 4000000 in
set_option maxRecDepth 100000 in
theorem Z_copyO3_26 {l : Launch} {G : GT} {mi : Nat} {sk : Nat → Nat} {L : List Nat} {cl ln : Nat → Nat} {iv : Nat → Nat → Int} {rv : Nat → Nat → Option Nat}  {a0 : Nat} {n : Int} (hW : WT (g0 G) sk L cl ln iv rv) (hS : SKL sk L cl) (t_a0 : ty L cl a0 1004) (h_n : -2147483648 ≤ n ∧ n ≤ 2147483647) (hn : ((ln a0 : Nat) : Int) < n ∧ 10 ≤ n ∧ n ≤ 400) : Mc l G mi zPf 0 yJ7_copyOf_6403c cJ7_copyOf_6403c 4 (some (.array (.object "java/lang/Object"))) 1 [.ref a0, .int (iI n), .ref mi] L cl ln iv rv (16 + n.toNat) (fun v L2 cl2 ln2 iv2 rv2 => ∃ f : Nat, v = some (.ref f) ∧ XT L cl ln L2 cl2 ln2 ∧ fT [1004] L cl iv rv iv2 rv2 ∧ WT (g0 G) sk L2 cl2 ln2 iv2 rv2 ∧ ty L2 cl2 f 1004 ∧ (ln2 f = n.toNat ∧ cl2 f = cl a0 ∧ ∀ i : Nat, i < ln a0 → rv2 f i = rv a0 i) ∧ (∀ bb, ty L cl bb 1004 → ∀ k, rv2 bb k = rv bb k)) := by
  refine Mc.mk (by decide) (Nat.le_of_ble_eq_true rfl) ?_
  intro p e s m args below meth c A C hM
  refine hv3 ((show zPf ln rv ≤ 0 from Nat.le_refl 0)) (show XT L cl ln L cl ln from XT.refl) (show fT [1004] L cl iv rv iv rv from fT.refl) (fun hph hX0 hF0 => ?_)
  refine c_aload_n (j := 2) (x := mi) C dJ7_copyOf_6403c_0 rfl ?_
  refine c_ldcM C hM dJ7_copyOf_6403c_1 w3_29 ?_
  refine c_acmp_ne (rx := some mi) (ry := some mi) (tgt := 13) C dJ7_copyOf_6403c_3 (by decide) (fun q => absurd rfl q) (fun _ => ?_)
  refine c_iload_n (j := 1) C dJ7_copyOf_6403c_6 rfl ?_
  refine c_newaO (z := n) (N := n.toNat) C (cl a0) dJ7_copyOf_6403c_7 w3_31 w3_30t (by rw [t_a0.2]; rfl) (by omega) (by omega) (rom2 hph hph (by omega)) (fun qn1 cln1 lnn1 ivn1 rvn1 hqn1 hcn1 hln1 hin1 hrn1 => ⟨(0 + (16 + n.toNat)), (z_in (by omega)), ?_⟩)
  refine c_g0 C (fun hg1 => ?_)
  refine hv5 (show ∀ b, b ≠ qn1 → lnn1 b = ln b from (fun b hb => by rw [hln1]; exact va_up_ne _ _ hb)) (show lnn1 qn1 = n.toNat from by rw [hln1]; exact va_up_self _ _ _) (hF0.new hX0 hqn1 hin1 hrn1) (show ty (L ++ [qn1]) cln1 qn1 1004 from ⟨List.mem_append_right _ List.mem_cons_self, by rw [hcn1, va_up_self]; exact t_a0.2⟩) (show cln1 qn1 = (cl a0) from by rw [hcn1]; exact va_up_self _ _ _) (fun hxn1 lqn1 F1 tqn1 clqn1 => ?_)
  refine hv2 (hW.new (ln2 := lnn1) hqn1 (hg1 qn1 (List.mem_append_right _ List.mem_cons_self)) hcn1 hxn1 hin1 hrn1 (fun _ => by rw [t_a0.2]; exact ⟨(show (-2147483648 : Int) ≤ 0 by decide), (show (0 : Int) ≤ 2147483647 by decide)⟩) (Or.inr (fun _ => by rw [t_a0.2]; rfl)) (fun _ => by rw [t_a0.2]; show 10 ≤ lnn1 qn1 ∧ lnn1 qn1 ≤ 400; omega) (by rw [t_a0.2]; rfl) (uq_big (by rw [t_a0.2]; decide))) (XT.new hqn1 hcn1 hxn1) (fun W1 xl1 => ?_)
  refine hv2 (hX0.trans xl1) (xl1.skl hS) (fun X1 sk1 => ?_)
  refine c_goto (tgt := 24) C dJ7_copyOf_6403c_10 (by decide) ?_
  refine c_astore_n (lv2 := [(3, .ref qn1), (0, .ref a0), (1, .int (iI n)), (2, .ref mi)]) C dJ7_copyOf_6403c_24 (by decide) rfl ?_
  refine c_aload_n (j := 1) (x := a0) C dJ7_copyOf_6403c_25 rfl ?_
  refine c_iconst C dJ7_copyOf_6403c_26 ?_
  refine c_aload_n (j := 0) (x := qn1) C dJ7_copyOf_6403c_27 rfl ?_
  refine c_iconst C dJ7_copyOf_6403c_28 ?_
  refine c_aload_n (j := 1) (x := a0) C dJ7_copyOf_6403c_29 rfl ?_
  have ty1 := xl1.ty t_a0
  have ll1 : 10 ≤ lnn1 a0 ∧ lnn1 a0 ≤ 400 := W1.len ty1 rfl
  refine c_alenO C dJ7_copyOf_6403c_30 ty1 rfl ?_
  refine c_iload_n (j := 2) C dJ7_copyOf_6403c_31 rfl ?_
  obtain ⟨mn1, hmn1, emn1⟩ := mmin_c (x := ((lnn1 a0 : Nat) : Int)) (y := n) ⟨by omega, by omega⟩ ⟨by omega, by omega⟩
  refine c_mmin (w := iI mn1) C dJ7_copyOf_6403c_32 w2_128 w2_129 w1_14 w2_130 (by decide) (rom0 hph (Nat.le_refl 0) (by omega)) (Nat.le_of_ble_eq_true rfl) emn1 ?_
  have le1 : lnn1 a0 = ln a0 := (xl1 a0 t_a0.1).2.2
  refine c_copyq (n := mn1) C ck_6 w8_185t dJ7_copyOf_6403c_35 w2_131 w2_133 w2_132 w1_15 ty1 rfl tqn1 rfl (fun i y hy => by
      rcases W1.opt ty1 i rfl rfl with qq | ⟨bb, q1, q2⟩
      · rw [qq.1] at hy; cases hy
      · rw [q1] at hy; cases hy; exact q2) rfl rfl (by decide) (by omega) (by omega) (by omega) (by omega) (by decide) (Nat.le_of_ble_eq_true rfl) (fun rv1 cq1 => ⟨(0 + (16 + n.toNat)), (zp2 (Nat.le_refl _)), ?_⟩)
  have hno : ∀ w ∈ (L ++ [qn1]), lst (bt (cln1 w)) = true → rvn1 w 1 ≠ some qn1 := by
    intro w hw hl3 e3
    rcases List.mem_append.mp hw with e4 | e4
    · have hwq : w ≠ qn1 := fun e => hqn1 (e ▸ e4)
      rw [hcn1, va_up_ne _ _ hwq] at hl3
      rw [hrn1, up0_a hwq] at e3
      rcases WT.ed hW e4 (lst_szd hl3) e3 with e5 | e5
      · exact hqn1 e5
      · exact hg1 qn1 tqn1.1 e5
    · have e5 := List.mem_singleton.mp e4
      rw [e5, tqn1.2] at hl3; cases hl3
  refine hv2 (W1.copyr (TB2 := 0) cq1 tqn1 ty1 (by decide) (fun _ _ => rfl) (fun _ => rfl) hno) (F1.copyr X1 cq1 tqn1 rfl) (fun W2 F2 => ?_)
  refine c_aload_n (j := 0) (x := qn1) C dJ7_copyOf_6403c_38 rfl ?_
  exact c_aret (x := some qn1) C dJ7_copyOf_6403c_39 rfl (Or.inr ⟨_, rfl⟩) (by omega) (rom0 hph (Nat.le_refl 0) (by omega)) ⟨qn1, rfl, X1, F2, W2, tqn1, ⟨by omega, clqn1, fun i hi => by
      rw [cq1]
      show (if qn1 = qn1 then _ else _) = rv a0 i
      rw [if_pos rfl, if_pos (by omega), hrn1]
      exact congrFun (up0_a (ne_in t_a0.1 hqn1)) i⟩, (fun bb tbb kk => by have tb1 := xl1.ty tbb; exact (Eq.trans (show rv1 bb kk = rvn1 bb kk from (by rw [cq1]; exact if_neg (ne_in tbb.1 hqn1))) (show rvn1 bb kk = rv bb kk from (by rw [hrn1]; exact congrFun (up0_a (ne_in tbb.1 hqn1)) _))))⟩
set_option maxHeartbeats 4000000 in
set_option maxRecDepth 100000 in
theorem Z_copyO2_26 {l : Launch} {G : GT} {mi : Nat} {sk : Nat → Nat} {L : List Nat} {cl ln : Nat → Nat} {iv : Nat → Nat → Int} {rv : Nat → Nat → Option Nat}  {a0 : Nat} {n : Int} (hW : WT (g0 G) sk L cl ln iv rv) (hS : SKL sk L cl) (t_a0 : ty L cl a0 1004) (h_n : -2147483648 ≤ n ∧ n ≤ 2147483647) (hn : ((ln a0 : Nat) : Int) < n ∧ 10 ≤ n ∧ n ≤ 400) : Mc l G mi zPf 0 yJ7_copyOf_1904c cJ7_copyOf_1904c 2 (some (.array (.object "java/lang/Object"))) 2 [.ref a0, .int (iI n)] L cl ln iv rv (16 + n.toNat) (fun v L2 cl2 ln2 iv2 rv2 => ∃ f : Nat, v = some (.ref f) ∧ XT L cl ln L2 cl2 ln2 ∧ fT [1004] L cl iv rv iv2 rv2 ∧ WT (g0 G) sk L2 cl2 ln2 iv2 rv2 ∧ ty L2 cl2 f 1004 ∧ (ln2 f = n.toNat ∧ cl2 f = cl a0 ∧ ∀ i : Nat, i < ln a0 → rv2 f i = rv a0 i) ∧ (∀ bb, ty L cl bb 1004 → ∀ k, rv2 bb k = rv bb k)) := by
  refine Mc.mk (by decide) (Nat.le_of_ble_eq_true rfl) ?_
  intro p e s m args below meth c A C hM
  refine hv3 ((show zPf ln rv ≤ 0 from Nat.le_refl 0)) (show XT L cl ln L cl ln from XT.refl) (show fT [1004] L cl iv rv iv rv from fT.refl) (fun hph hX0 hF0 => ?_)
  refine c_aload_n (j := 0) (x := a0) C dJ7_copyOf_1904c_0 rfl ?_
  refine c_iload_n (j := 1) C dJ7_copyOf_1904c_1 rfl ?_
  refine c_aload_n (j := 0) (x := a0) C dJ7_copyOf_1904c_2 rfl ?_
  refine c_getC C hM dJ7_copyOf_1904c_3 w3_8 w8_172 w3_9 w3_25 t_a0 rfl (by decide) (Nat.le_of_ble_eq_true rfl) ?_
  refine c_callS (As := [.ref a0, .int (iI n), .ref mi]) (rest := []) C hM (Z_copyO3_26 (a0 := a0) (n := n) hW hS t_a0 (by omega) (by show ((ln a0 : Nat) : Int) < n ∧ 10 ≤ n ∧ n ≤ 400; omega)) dJ7_copyOf_1904c_6 kS_J7_300 rfl rfl (Nat.le_of_ble_eq_true rfl) ⟨(Nat.le_of_ble_eq_true rfl), (Nat.le_of_ble_eq_true rfl)⟩ (rz0 hph (by omega)) (fun rh1 Lh1 clh1 lnh1 ivh1 rvh1 h1 => ⟨(0 + (16 + n.toNat)), zk0, ?_⟩)
  obtain ⟨f1, rfl, xl1, fl1, W1, rgf1, exf1, ocpf1⟩ := h1
  refine hv3 (hF0.call hX0 fl1 rfl) (hX0.trans xl1) (xl1.skl hS) (fun F1 X1 sk1 => ?_)
  refine c_st (st2 := [.ref f1]) rfl ?_
  have gf1 : lnh1 f1 = n.toNat ∧ clh1 f1 = cl a0 ∧ ∀ i : Nat, i < ln a0 → rvh1 f1 i = rv a0 i := exf1
  exact c_aret (x := some f1) C dJ7_copyOf_1904c_9 rfl (Or.inr ⟨_, rfl⟩) (by omega) (rom0 hph (Nat.le_refl 0) (by omega)) ⟨f1, rfl, X1, F1, W1, rgf1, exf1, (fun bb tbb kk => by exact (show rvh1 bb kk = rv bb kk from (ocpf1 bb tbb kk)))⟩
set_option maxHeartbeats 4000000 in
set_option maxRecDepth 100000 in
theorem C_growA_26 {l : Launch} {G : GT} {mi : Nat} {sk : Nat → Nat} {L : List Nat} {cl ln : Nat → Nat} {iv : Nat → Nat → Int} {rv : Nat → Nat → Option Nat}  {a0 : Nat} {n : Int} (hW : WT (g0 G) sk L cl ln iv rv) (hS : SKL sk L cl) (t_a0 : ty L cl a0 26) (h_n : -2147483648 ≤ n ∧ n ≤ 2147483647) (hed : rv a0 1 = some (g0 G)) (hn : n = 1 ∧ iv a0 2 = 0) : Mc l G mi (Phi (g0 G) sk) PHM yJx4a65c_grow_92f84 cJx4a65c_grow_92f84 4 (some (.array (.object "java/lang/Object"))) 3 [.ref a0, .int (iI n)] L cl ln iv rv 420 (fun v L2 cl2 ln2 iv2 rv2 => ∃ f : Nat, v = some (.ref f) ∧ XT L cl ln L2 cl2 ln2 ∧ fT [26, 1004] L cl iv rv iv2 rv2 ∧ WT (g0 G) sk L2 cl2 ln2 iv2 rv2 ∧ ty L2 cl2 f 1004 ∧ (rv2 a0 1 = some f ∧ iv2 a0 2 = iv a0 2 ∧ iv a0 2 + 1 ≤ ((ln2 f : Nat) : Int) ∧ cl2 f = 1000 + 5 * a0 + 4 ∧ ∀ i : Nat, (i : Int) < iv a0 2 → rv2 f i = el rv a0 i) ∧ (∀ bb, ty L cl bb 26 → bb ≠ a0 → iv2 bb 2 = iv bb 2 ∧ ∀ r : Nat, (r : Int) < iv bb 2 → el rv2 bb r = el rv bb r)) := by
  refine Mc.mk (by decide) (Nat.le_of_ble_eq_true rfl) ?_
  intro p e s m args below meth c A C hM
  refine hv3 (Phi.le hW hS) (show XT L cl ln L cl ln from XT.refl) (show fT [26, 1004] L cl iv rv iv rv from fT.refl) (fun hph hX0 hF0 => ?_)
  refine c_aload_n (j := 0) (x := a0) C dJx4a65c_grow_92f84_0 rfl ?_
  refine c_getr (k := 1) C ck_0 dJx4a65c_grow_92f84_1 w1_78 (by decide) t_a0 rfl rfl (by decide) rfl hed ?_
  refine c_st (st2 := [.ref (g0 G)]) rfl ?_
  refine c_tlen C dJx4a65c_grow_92f84_4 ?_
  refine c_istore_n (lv2 := [(2, .int (iI 0)), (0, .ref a0), (1, .int (iI n))]) C dJx4a65c_grow_92f84_5 (by decide) rfl ?_
  refine c_iload_n (j := 0) C dJx4a65c_grow_92f84_6 rfl ?_
  refine c_if_gt (tgt := 20) C ⟨by decide, by decide⟩ dJx4a65c_grow_92f84_7 (by decide) (fun z => absurd z (by omega)) (fun _ => ?_)
  refine c_aload_n (j := 1) (x := a0) C dJx4a65c_grow_92f84_10 rfl ?_
  refine c_getr (k := 1) C ck_0 dJx4a65c_grow_92f84_11 w1_78 (by decide) t_a0 rfl rfl (by decide) rfl hed ?_
  refine c_st (st2 := [.ref (g0 G)]) rfl ?_
  refine c_gets C dJx4a65c_grow_92f84_14 w1_76 ?_
  refine c_acmp_eq (rx := some (g0 G)) (ry := some (g0 G)) (tgt := 45) C dJx4a65c_grow_92f84_17 (by decide) (fun _ => ?_) (fun q => absurd rfl q)
  refine c_aload_n (j := 1) (x := a0) C dJx4a65c_grow_92f84_45 rfl ?_
  refine c_bipush (z := 10) C dJx4a65c_grow_92f84_46 (by decide) ?_
  refine c_iload_n (j := 2) C dJx4a65c_grow_92f84_48 rfl ?_
  obtain ⟨mn1, hmn1, emn1⟩ := mmax_c (x := 10) (y := n) ⟨by decide, by decide⟩ ⟨by omega, by omega⟩
  refine c_mmax (w := iI mn1) C dJx4a65c_grow_92f84_49 w3_32 w2_148 w1_14 w2_149 (by decide) (rom0 hph hph (by decide)) (Nat.le_of_ble_eq_true rfl) emn1 ?_
  refine c_newaO (z := mn1) (N := 10) C (1000 + 5 * a0 + 4) dJx4a65c_grow_92f84_52 w3_33 w3_30t (by rw [(bt_list (by decide))]; rfl) (by omega) (by omega) (rom2 hph hph (by omega)) (fun qn1 cln1 lnn1 ivn1 rvn1 hqn1 hcn1 hln1 hin1 hrn1 => ⟨(0 + (16 + 10)), (p_in (Phi.new hW hS hqn1 (fun b hb => by rw [hln1]; exact va_up_ne _ _ hb) hrn1) (by omega)), ?_⟩)
  refine c_g0 C (fun hg1 => ?_)
  refine hv5 (show ∀ b, b ≠ qn1 → lnn1 b = ln b from (fun b hb => by rw [hln1]; exact va_up_ne _ _ hb)) (show lnn1 qn1 = 10 from by rw [hln1]; exact va_up_self _ _ _) (hF0.new hX0 hqn1 hin1 hrn1) (show ty (L ++ [qn1]) cln1 qn1 1004 from ⟨List.mem_append_right _ List.mem_cons_self, by rw [hcn1, va_up_self]; exact (bt_list (by decide))⟩) (show cln1 qn1 = (1000 + 5 * a0 + 4) from by rw [hcn1]; exact va_up_self _ _ _) (fun hxn1 lqn1 F1 tqn1 clqn1 => ?_)
  refine hv2 (hW.new (ln2 := lnn1) hqn1 (hg1 qn1 (List.mem_append_right _ List.mem_cons_self)) hcn1 hxn1 hin1 hrn1 (fun _ => by rw [(bt_list (by decide))]; exact ⟨(show (-2147483648 : Int) ≤ 0 by decide), (show (0 : Int) ≤ 2147483647 by decide)⟩) (Or.inr (fun _ => by rw [(bt_list (by decide))]; rfl)) (fun _ => by rw [(bt_list (by decide))]; show 10 ≤ lnn1 qn1 ∧ lnn1 qn1 ≤ 400; omega) (by rw [(bt_list (by decide))]; rfl) (uq_big (by rw [(bt_list (by decide))]; decide))) (XT.new hqn1 hcn1 hxn1) (fun W1 xl1 => ?_)
  refine hv2 (hX0.trans xl1) (xl1.skl hS) (fun X1 sk1 => ?_)
  refine c_dup_x1 C dJx4a65c_grow_92f84_55 rfl rfl ?_
  refine hv2 (xl1.ty t_a0) (show rvn1 a0 1 = rv a0 1 from (by rw [hrn1]; exact congrFun (up0_a (ne_in t_a0.1 hqn1)) _)) (fun ty1 re1 => ?_)
  rw [hed] at re1
  refine hv2 (show 0 ≤ ivn1 a0 2 ∧ ivn1 a0 2 ≤ 200 from W1.int ty1 2) (show ivn1 a0 2 = iv a0 2 from by rw [hin1]; exact congrFun (up0_a (ne_in t_a0.1 hqn1)) _) (fun ri1 ie1 => ?_)
  refine c_putr (x := (some qn1)) (k := 1) C ck_0 dJx4a65c_grow_92f84_56 w1_78 (by decide) rfl ty1 rfl rfl (by decide) rfl (by rfl) (by rfl) (fun rv1 pq1 => ⟨420, (by rw [Phi.putr sk1 pq1 ty1 rfl]; omega), ?_⟩)
  refine hv3 (W1.led pq1 ty1 rfl tqn1.1 clqn1 (by omega) (fun i hi => absurd hi (by omega))) (F1.putr X1 pq1 ty1 rfl) (show rv1 a0 1 = (some qn1) from by rw [pq1]; exact upr_s) (fun W2 F2 rp1 => ?_)
  have pl1 := Phi.le W2 sk1
  exact c_aret (x := some qn1) C dJx4a65c_grow_92f84_59 rfl (Or.inr ⟨_, rfl⟩) (by decide) (rom0 hph pl1 (by decide)) ⟨qn1, rfl, X1, F2, W2, tqn1, ⟨rp1, (by omega), (by omega), clqn1, (fun i hi => absurd hi (by omega))⟩, (fun bb tbb hbb => by
      refine hv3 (show ivn1 bb 2 = iv bb 2 from (by rw [hin1]; exact congrFun (up0_a (ne_in tbb.1 hqn1)) 2)) (show ∀ r : Nat, (r : Int) < iv bb 2 → el rvn1 bb r = el rv bb r from fun r hr => el_kp hW tbb (by rw [hrn1]; exact congrFun (up0_a (ne_in tbb.1 hqn1)) 1) (fun c tc _ j => by rw [hrn1]; exact congrFun (up0_a (ne_in tc.1 hqn1)) j) hr) (xl1.ty tbb) (fun z1_ e1_ tb1 => ?_)
      have e2_ : ∀ r : Nat, (r : Int) < iv bb 2 → el rv1 bb r = el rv bb r := fun r hr => Eq.trans (el_kp W1 tb1 (by rw [pq1]; exact congrFun (upr_a hbb) 1) (fun c tc _ j => by rw [pq1]; exact congrFun (upr_a (ne_ty tc ty1 (by decide))) j) (by rw [z1_]; exact hr)) (e1_ r hr)
      exact ⟨z1_, e2_⟩)⟩
set_option maxHeartbeats 4000000 in
set_option maxRecDepth 100000 in
theorem C_growB_26 {l : Launch} {G : GT} {mi : Nat} {sk : Nat → Nat} {L : List Nat} {cl ln : Nat → Nat} {iv : Nat → Nat → Int} {rv : Nat → Nat → Option Nat}  {a0 : Nat} {n : Int} {b0 : Nat} (hW : WT (g0 G) sk L cl ln iv rv) (hS : SKL sk L cl) (t_a0 : ty L cl a0 26) (t_b0 : ty L cl b0 1004) (h_n : -2147483648 ≤ n ∧ n ≤ 2147483647) (hed : rv a0 1 = some b0) (hcb : cl b0 = 1000 + 5 * a0 + 4) (hn : n = iv a0 2 + 1 ∧ iv a0 2 = ((ln b0 : Nat) : Int) ∧ iv a0 2 < 200) : Mc l G mi (Phi (g0 G) sk) PHM yJx4a65c_grow_92f84 cJx4a65c_grow_92f84 4 (some (.array (.object "java/lang/Object"))) 3 [.ref a0, .int (iI n)] L cl ln iv rv 420 (fun v L2 cl2 ln2 iv2 rv2 => ∃ f : Nat, v = some (.ref f) ∧ XT L cl ln L2 cl2 ln2 ∧ fT [26, 1004] L cl iv rv iv2 rv2 ∧ WT (g0 G) sk L2 cl2 ln2 iv2 rv2 ∧ ty L2 cl2 f 1004 ∧ (rv2 a0 1 = some f ∧ iv2 a0 2 = iv a0 2 ∧ iv a0 2 + 1 ≤ ((ln2 f : Nat) : Int) ∧ cl2 f = 1000 + 5 * a0 + 4 ∧ ∀ i : Nat, (i : Int) < iv a0 2 → rv2 f i = el rv a0 i) ∧ (∀ bb, ty L cl bb 26 → bb ≠ a0 → iv2 bb 2 = iv bb 2 ∧ ∀ r : Nat, (r : Int) < iv bb 2 → el rv2 bb r = el rv bb r)) := by
  refine Mc.mk (by decide) (Nat.le_of_ble_eq_true rfl) ?_
  intro p e s m args below meth c A C hM
  refine hv3 (Phi.le hW hS) (show XT L cl ln L cl ln from XT.refl) (show fT [26, 1004] L cl iv rv iv rv from fT.refl) (fun hph hX0 hF0 => ?_)
  refine c_aload_n (j := 0) (x := a0) C dJx4a65c_grow_92f84_0 rfl ?_
  refine c_getr (k := 1) C ck_0 dJx4a65c_grow_92f84_1 w1_78 (by decide) t_a0 rfl rfl (by decide) rfl hed ?_
  refine c_st (st2 := [.ref b0]) rfl ?_
  have ll1 : 10 ≤ ln b0 ∧ ln b0 ≤ 400 := hW.len t_b0 rfl
  refine c_alenO C dJx4a65c_grow_92f84_4 t_b0 rfl ?_
  refine c_istore_n (lv2 := [(2, .int (iI ((ln b0 : Nat) : Int))), (0, .ref a0), (1, .int (iI n))]) C dJx4a65c_grow_92f84_5 (by decide) rfl ?_
  refine c_iload_n (j := 0) C dJx4a65c_grow_92f84_6 rfl ?_
  refine c_if_gt (tgt := 20) C ⟨by omega, by omega⟩ dJx4a65c_grow_92f84_7 (by decide) (fun _ => ?_) (fun z => absurd z (by omega))
  refine c_iload_n (j := 0) C dJx4a65c_grow_92f84_20 rfl ?_
  refine c_iload_n (j := 2) C dJx4a65c_grow_92f84_21 rfl ?_
  refine c_iload_n (j := 0) C dJx4a65c_grow_92f84_22 rfl ?_
  refine c_isub C dJx4a65c_grow_92f84_23 ?_
  refine c_iload_n (j := 0) C dJx4a65c_grow_92f84_24 rfl ?_
  refine c_iconst C dJx4a65c_grow_92f84_25 ?_
  obtain ⟨zz1, hzz1, ezz1⟩ := iI_of (iI ((ln b0 : Nat) : Int) >>> (iI 1 &&& 31))
  refine c_ishr (w := iI zz1) C dJx4a65c_grow_92f84_26 ezz1 ?_
  have shzz1 : zz1 = ((ln b0 : Nat) : Int) / 2 := (iI_eq hzz1 ⟨by omega, by omega⟩).mp (ezz1.symm.trans (shr1 ⟨by omega, by omega⟩))
  refine d_callS (As := [.int (iI ((ln b0 : Nat) : Int)), .int (iI (n - ((ln b0 : Nat) : Int))), .int (iI zz1)]) (rest := []) C hM (C_newLength (i := ((ln b0 : Nat) : Int)) (n := n - ((ln b0 : Nat) : Int)) (x := zz1) hW hS  (by omega) (by omega) (by omega) (by show 0 ≤ ((ln b0 : Nat) : Int) ∧ ((ln b0 : Nat) : Int) ≤ 100000 ∧ 1 ≤ (n - ((ln b0 : Nat) : Int)) ∧ (n - ((ln b0 : Nat) : Int)) ≤ 100000 ∧ 0 ≤ zz1 ∧ zz1 ≤ 100000; omega)) dJx4a65c_grow_92f84_27 kS_Jx4a65c_73 rfl rfl (Nat.le_of_ble_eq_true rfl) ⟨(Nat.le_of_ble_eq_true rfl), (Nat.le_of_ble_eq_true rfl)⟩ hph hph (show 0 + 0 = 0 from rfl) (by decide) (fun rh1 Lh1 clh1 lnh1 ivh1 rvh1 h1 => ?_)
  obtain ⟨f1, rfl, rfl, rfl, rfl, rfl, rfl, rgf1, exf1⟩ := h1
  refine c_st (st2 := [.int (iI f1)]) rfl ?_
  have gf1 : ((n - ((ln b0 : Nat) : Int)) ≤ zz1 ∧ f1 = ((ln b0 : Nat) : Int) + zz1) ∨ (zz1 < (n - ((ln b0 : Nat) : Int)) ∧ f1 = ((ln b0 : Nat) : Int) + (n - ((ln b0 : Nat) : Int))) := exf1
  refine c_istore_n (lv2 := [(3, .int (iI f1)), (2, .int (iI ((ln b0 : Nat) : Int))), (0, .ref a0), (1, .int (iI n))]) C dJx4a65c_grow_92f84_30 (by decide) rfl ?_
  refine c_aload_n (j := 2) (x := a0) C dJx4a65c_grow_92f84_31 rfl ?_
  refine c_aload_n (j := 2) (x := a0) C dJx4a65c_grow_92f84_32 rfl ?_
  refine c_getr (k := 1) C ck_0 dJx4a65c_grow_92f84_33 w1_78 (by decide) t_a0 rfl rfl (by decide) rfl hed ?_
  refine c_st (st2 := [.ref b0, .ref a0]) rfl ?_
  refine c_iload_n (j := 0) C dJx4a65c_grow_92f84_36 rfl ?_
  refine c_callS (As := [.ref b0, .int (iI f1)]) (rest := [.ref a0]) C hM (Z_copyO2_26 (a0 := b0) (n := f1) hW hS t_b0 (by omega) (by show ((ln b0 : Nat) : Int) < f1 ∧ 10 ≤ f1 ∧ f1 ≤ 400; omega)) dJx4a65c_grow_92f84_37 kS_Jx4a65c_66 rfl rfl (Nat.le_of_ble_eq_true rfl) ⟨(Nat.le_of_ble_eq_true rfl), (Nat.le_of_ble_eq_true rfl)⟩ (rz1 hph hph (by omega)) (fun rh2 Lh2 clh2 lnh2 ivh2 rvh2 h2 => ⟨(0 + (16 + f1.toNat)), (zk1 (by obtain ⟨_, _, xlh2x, flh2x, Wh2x, _⟩ := h2; exact Phi.fr hW hS xlh2x flh2x rfl)), ?_⟩)
  obtain ⟨f2, rfl, xl2, fl2, W2, rgf2, exf2, ocpf2⟩ := h2
  refine hv3 (hF0.call hX0 fl2 rfl) (hX0.trans xl2) (xl2.skl hS) (fun F1 X1 sk1 => ?_)
  refine c_st (st2 := [.ref f2, .ref a0]) rfl ?_
  have gf2 : lnh2 f2 = f1.toNat ∧ clh2 f2 = cl b0 ∧ ∀ i : Nat, i < ln b0 → rvh2 f2 i = rv b0 i := exf2
  refine c_dup_x1 C dJx4a65c_grow_92f84_40 rfl rfl ?_
  refine hv2 (xl2.ty t_a0) (show rvh2 a0 1 = rv a0 1 from (fl2.r t_a0 rfl 1)) (fun ty1 re1 => ?_)
  rw [hed] at re1
  refine hv2 (show 0 ≤ ivh2 a0 2 ∧ ivh2 a0 2 ≤ 200 from W2.int ty1 2) (show ivh2 a0 2 = iv a0 2 from fl2.i t_a0 rfl 2) (fun ri1 ie1 => ?_)
  refine c_putr (x := (some f2)) (k := 1) C ck_0 dJx4a65c_grow_92f84_41 w1_78 (by decide) rfl ty1 rfl rfl (by decide) rfl (by rfl) (by rfl) (fun rv1 pq1 => ⟨420, (by rw [Phi.putr sk1 pq1 ty1 rfl]; omega), ?_⟩)
  have W3 := W2.led pq1 ty1 rfl rgf2.1 (exf2.2.1.trans hcb) (by omega) (fun i hi => by
      rw [exf2.2.2 i (by omega)]
      exact hW.2.2.2.2.1 a0 t_a0.1 (by rw [t_a0.2]; rfl) b0 hed i (by omega))
  refine hv3 (F1.putr X1 pq1 ty1 rfl) (show rv1 a0 1 = (some f2) from by rw [pq1]; exact upr_s) (Phi.le W3 sk1) (fun F2 rp1 pl1 => ?_)
  exact c_aret (x := some f2) C dJx4a65c_grow_92f84_44 rfl (Or.inr ⟨_, rfl⟩) (by decide) (rom0 hph pl1 (by decide)) ⟨f2, rfl, X1, F2, W3, rgf2, ⟨rp1, (by omega), (by omega), (exf2.2.1.trans hcb), (fun i hi => by rw [el_of hed, pq1, upr_a (ne_ty rgf2 ty1 (by decide))]; exact exf2.2.2 i (by omega))⟩, (fun bb tbb hbb => by
      refine hv3 (show ivh2 bb 2 = iv bb 2 from (fl2.i tbb rfl 2)) (show ∀ r : Nat, (r : Int) < iv bb 2 → el rvh2 bb r = el rv bb r from fun r hr => el_kp hW tbb (fl2.r tbb rfl 1) (fun bb tb9 _ j => (ocpf2 bb tb9 j)) hr) (xl2.ty tbb) (fun z1_ e1_ tb1 => ?_)
      have e2_ : ∀ r : Nat, (r : Int) < iv bb 2 → el rv1 bb r = el rv bb r := fun r hr => Eq.trans (el_kp W2 tb1 (by rw [pq1]; exact congrFun (upr_a hbb) 1) (fun c tc _ j => by rw [pq1]; exact congrFun (upr_a (ne_ty tc ty1 (by decide))) j) (by rw [z1_]; exact hr)) (e1_ r hr)
      exact ⟨z1_, e2_⟩)⟩
set_option maxHeartbeats 4000000 in
set_option maxRecDepth 100000 in
theorem C_grow0A_26 {l : Launch} {G : GT} {mi : Nat} {sk : Nat → Nat} {L : List Nat} {cl ln : Nat → Nat} {iv : Nat → Nat → Int} {rv : Nat → Nat → Option Nat}  {a0 : Nat} (hW : WT (g0 G) sk L cl ln iv rv) (hS : SKL sk L cl) (t_a0 : ty L cl a0 26) (hed : rv a0 1 = some (g0 G)) (hn : iv a0 2 = 0) : Mc l G mi (Phi (g0 G) sk) PHM yJx4a65c_grow_d5877 cJx4a65c_grow_d5877 1 (some (.array (.object "java/lang/Object"))) 4 [.ref a0] L cl ln iv rv 420 (fun v L2 cl2 ln2 iv2 rv2 => ∃ f : Nat, v = some (.ref f) ∧ XT L cl ln L2 cl2 ln2 ∧ fT [26, 1004] L cl iv rv iv2 rv2 ∧ WT (g0 G) sk L2 cl2 ln2 iv2 rv2 ∧ ty L2 cl2 f 1004 ∧ (rv2 a0 1 = some f ∧ iv2 a0 2 = iv a0 2 ∧ iv a0 2 + 1 ≤ ((ln2 f : Nat) : Int) ∧ cl2 f = 1000 + 5 * a0 + 4 ∧ ∀ i : Nat, (i : Int) < iv a0 2 → rv2 f i = el rv a0 i) ∧ (∀ bb, ty L cl bb 26 → bb ≠ a0 → iv2 bb 2 = iv bb 2 ∧ ∀ r : Nat, (r : Int) < iv bb 2 → el rv2 bb r = el rv bb r)) := by
  refine Mc.mk (by decide) (Nat.le_of_ble_eq_true rfl) ?_
  intro p e s m args below meth c A C hM
  refine hv3 (Phi.le hW hS) (show XT L cl ln L cl ln from XT.refl) (show fT [26, 1004] L cl iv rv iv rv from fT.refl) (fun hph hX0 hF0 => ?_)
  refine c_aload_n (j := 0) (x := a0) C dJx4a65c_grow_d5877_0 rfl ?_
  refine c_aload_n (j := 0) (x := a0) C dJx4a65c_grow_d5877_1 rfl ?_
  have ri1 : 0 ≤ iv a0 2 ∧ iv a0 2 ≤ 200 := hW.int t_a0 2
  refine c_get (k := 2) C ck_0 dJx4a65c_grow_d5877_2 w1_79 (by decide) t_a0 rfl rfl (by decide) rfl ?_
  refine c_iconst C dJx4a65c_grow_d5877_5 ?_
  refine c_iadd C dJx4a65c_grow_d5877_6 ?_
  refine d_callV (As := [.int (iI ((iv a0 2) + 1))]) (rest := []) C hM (C_growA_26 (a0 := a0) (n := (iv a0 2) + 1) hW hS t_a0 (by omega) hed (by show ((iv a0 2) + 1) = 1 ∧ iv a0 2 = 0; omega)) dJx4a65c_grow_d5877_7 kV_Jx4a65c_69 rfl t_a0 rfl rfl (by decide) ck_0 rfl (Nat.le_of_ble_eq_true rfl) ⟨(Nat.le_of_ble_eq_true rfl), (Nat.le_of_ble_eq_true rfl)⟩ hph hph (show 0 + 420 = 420 from rfl) (by decide) (fun rh1 Lh1 clh1 lnh1 ivh1 rvh1 h1 => ?_)
  obtain ⟨f1, rfl, xl1, fl1, W1, rgf1, exf1, o26f1⟩ := h1
  refine hv3 (hF0.call hX0 fl1 rfl) (hX0.trans xl1) (xl1.skl hS) (fun F1 X1 sk1 => ?_)
  refine c_st (st2 := [.ref f1]) rfl ?_
  refine hv5 (xl1.ty t_a0) (show rvh1 a0 1 = some f1 ∧ ivh1 a0 2 = iv a0 2 ∧ iv a0 2 + 1 ≤ ((lnh1 f1 : Nat) : Int) ∧ clh1 f1 = 1000 + 5 * a0 + 4 ∧ ∀ i : Nat, (i : Int) < iv a0 2 → rvh1 f1 i = el rv a0 i from exf1) (exf1.2.2.1) (exf1.2.1) (Phi.le W1 sk1) (fun ty1 gf1 gzf1 gyf1 pl1 => ?_)
  have ri2 : 0 ≤ ivh1 a0 2 ∧ ivh1 a0 2 ≤ 200 := W1.int ty1 2
  exact c_aret (x := some f1) C dJx4a65c_grow_d5877_10 rfl (Or.inr ⟨_, rfl⟩) (by decide) (rom0 hph pl1 (by decide)) ⟨f1, rfl, X1, F1, W1, rgf1, exf1, (fun bb tbb hbb => by
      refine hv2 (show ivh1 bb 2 = iv bb 2 from ((o26f1 bb tbb hbb)).1) (show ∀ r : Nat, (r : Int) < iv bb 2 → el rvh1 bb r = el rv bb r from fun r hr => ((o26f1 bb tbb hbb)).2 r hr) (fun z1_ e1_ => ?_)
      exact ⟨z1_, e1_⟩)⟩
set_option maxHeartbeats 4000000 in
set_option maxRecDepth 100000 in
theorem C_grow0B_26 {l : Launch} {G : GT} {mi : Nat} {sk : Nat → Nat} {L : List Nat} {cl ln : Nat → Nat} {iv : Nat → Nat → Int} {rv : Nat → Nat → Option Nat}  {a0 : Nat} {b0 : Nat} (hW : WT (g0 G) sk L cl ln iv rv) (hS : SKL sk L cl) (t_a0 : ty L cl a0 26) (t_b0 : ty L cl b0 1004) (hed : rv a0 1 = some b0) (hcb : cl b0 = 1000 + 5 * a0 + 4) (hn : iv a0 2 = ((ln b0 : Nat) : Int) ∧ iv a0 2 < 200) : Mc l G mi (Phi (g0 G) sk) PHM yJx4a65c_grow_d5877 cJx4a65c_grow_d5877 1 (some (.array (.object "java/lang/Object"))) 4 [.ref a0] L cl ln iv rv 420 (fun v L2 cl2 ln2 iv2 rv2 => ∃ f : Nat, v = some (.ref f) ∧ XT L cl ln L2 cl2 ln2 ∧ fT [26, 1004] L cl iv rv iv2 rv2 ∧ WT (g0 G) sk L2 cl2 ln2 iv2 rv2 ∧ ty L2 cl2 f 1004 ∧ (rv2 a0 1 = some f ∧ iv2 a0 2 = iv a0 2 ∧ iv a0 2 + 1 ≤ ((ln2 f : Nat) : Int) ∧ cl2 f = 1000 + 5 * a0 + 4 ∧ ∀ i : Nat, (i : Int) < iv a0 2 → rv2 f i = el rv a0 i) ∧ (∀ bb, ty L cl bb 26 → bb ≠ a0 → iv2 bb 2 = iv bb 2 ∧ ∀ r : Nat, (r : Int) < iv bb 2 → el rv2 bb r = el rv bb r)) := by
  refine Mc.mk (by decide) (Nat.le_of_ble_eq_true rfl) ?_
  intro p e s m args below meth c A C hM
  refine hv3 (Phi.le hW hS) (show XT L cl ln L cl ln from XT.refl) (show fT [26, 1004] L cl iv rv iv rv from fT.refl) (fun hph hX0 hF0 => ?_)
  refine c_aload_n (j := 0) (x := a0) C dJx4a65c_grow_d5877_0 rfl ?_
  refine c_aload_n (j := 0) (x := a0) C dJx4a65c_grow_d5877_1 rfl ?_
  have ri1 : 0 ≤ iv a0 2 ∧ iv a0 2 ≤ 200 := hW.int t_a0 2
  refine c_get (k := 2) C ck_0 dJx4a65c_grow_d5877_2 w1_79 (by decide) t_a0 rfl rfl (by decide) rfl ?_
  refine c_iconst C dJx4a65c_grow_d5877_5 ?_
  refine c_iadd C dJx4a65c_grow_d5877_6 ?_
  refine d_callV (As := [.int (iI ((iv a0 2) + 1))]) (rest := []) C hM (C_growB_26 (a0 := a0) (n := (iv a0 2) + 1) (b0 := b0) hW hS t_a0 t_b0 (by omega) hed hcb (by show ((iv a0 2) + 1) = iv a0 2 + 1 ∧ iv a0 2 = ((ln b0 : Nat) : Int) ∧ iv a0 2 < 200; omega)) dJx4a65c_grow_d5877_7 kV_Jx4a65c_69 rfl t_a0 rfl rfl (by decide) ck_0 rfl (Nat.le_of_ble_eq_true rfl) ⟨(Nat.le_of_ble_eq_true rfl), (Nat.le_of_ble_eq_true rfl)⟩ hph hph (show 0 + 420 = 420 from rfl) (by decide) (fun rh1 Lh1 clh1 lnh1 ivh1 rvh1 h1 => ?_)
  obtain ⟨f1, rfl, xl1, fl1, W1, rgf1, exf1, o26f1⟩ := h1
  refine hv3 (hF0.call hX0 fl1 rfl) (hX0.trans xl1) (xl1.skl hS) (fun F1 X1 sk1 => ?_)
  refine c_st (st2 := [.ref f1]) rfl ?_
  refine hv5 (xl1.ty t_a0) (show rvh1 a0 1 = some f1 ∧ ivh1 a0 2 = iv a0 2 ∧ iv a0 2 + 1 ≤ ((lnh1 f1 : Nat) : Int) ∧ clh1 f1 = 1000 + 5 * a0 + 4 ∧ ∀ i : Nat, (i : Int) < iv a0 2 → rvh1 f1 i = el rv a0 i from exf1) (exf1.2.2.1) (exf1.2.1) (Phi.le W1 sk1) (fun ty1 gf1 gzf1 gyf1 pl1 => ?_)
  have ri2 : 0 ≤ ivh1 a0 2 ∧ ivh1 a0 2 ≤ 200 := W1.int ty1 2
  exact c_aret (x := some f1) C dJx4a65c_grow_d5877_10 rfl (Or.inr ⟨_, rfl⟩) (by decide) (rom0 hph pl1 (by decide)) ⟨f1, rfl, X1, F1, W1, rgf1, exf1, (fun bb tbb hbb => by
      refine hv2 (show ivh1 bb 2 = iv bb 2 from ((o26f1 bb tbb hbb)).1) (show ∀ r : Nat, (r : Int) < iv bb 2 → el rvh1 bb r = el rv bb r from fun r hr => ((o26f1 bb tbb hbb)).2 r hr) (fun z1_ e1_ => ?_)
      exact ⟨z1_, e1_⟩)⟩
set_option maxHeartbeats 4000000 in
set_option maxRecDepth 100000 in
theorem C_add3A_26 {l : Launch} {G : GT} {mi : Nat} {sk : Nat → Nat} {L : List Nat} {cl ln : Nat → Nat} {iv : Nat → Nat → Int} {rv : Nat → Nat → Option Nat}  {a0 : Nat} {x : Nat} {n : Int} (hW : WT (g0 G) sk L cl ln iv rv) (hS : SKL sk L cl) (t_a0 : ty L cl a0 26) (t_x : ty L cl x 20) (h_n : -2147483648 ≤ n ∧ n ≤ 2147483647) (hed : rv a0 1 = some (g0 G)) (hn : n = iv a0 2 ∧ n = 0) : Mc l G mi (Phi (g0 G) sk) PHM yJx4a65c_add_72be8 cJx4a65c_add_72be8 4 none 5 [.ref a0, .ref x, .ref (g0 G), .int (iI n)] L cl ln iv rv 420 (fun v L2 cl2 ln2 iv2 rv2 => v = none ∧ XT L cl ln L2 cl2 ln2 ∧ fT [26, 1004] L cl iv rv iv2 rv2 ∧ WT (g0 G) sk L2 cl2 ln2 iv2 rv2 ∧ (iv2 a0 2 = iv a0 2 + 1 ∧ el rv2 a0 (iv a0 2).toNat = some x ∧ ∀ i : Nat, (i : Int) < iv a0 2 → el rv2 a0 i = el rv a0 i) ∧ (∀ bb, ty L cl bb 26 → bb ≠ a0 → iv2 bb 2 = iv bb 2 ∧ ∀ r : Nat, (r : Int) < iv bb 2 → el rv2 bb r = el rv bb r)) := by
  refine Mc.mk (by decide) (Nat.le_of_ble_eq_true rfl) ?_
  intro p e s m args below meth c A C hM
  refine hv3 (Phi.le hW hS) (show XT L cl ln L cl ln from XT.refl) (show fT [26, 1004] L cl iv rv iv rv from fT.refl) (fun hph hX0 hF0 => ?_)
  refine c_iload_n (j := 3) C dJx4a65c_add_72be8_0 rfl ?_
  refine c_aload_n (j := 2) (x := g0 G) C dJx4a65c_add_72be8_1 rfl ?_
  refine c_tlen C dJx4a65c_add_72be8_2 ?_
  refine c_icmp_ne (tgt := 11) C ⟨by omega, by omega⟩ ⟨by decide, by decide⟩ dJx4a65c_add_72be8_3 (by decide) (fun z => absurd z (by omega)) (fun _ => ?_)
  refine c_aload_n (j := 0) (x := a0) C dJx4a65c_add_72be8_6 rfl ?_
  have ri1 : 0 ≤ iv a0 2 ∧ iv a0 2 ≤ 200 := hW.int t_a0 2
  refine d_callV (As := []) (rest := []) C hM (C_grow0A_26 (a0 := a0) hW hS t_a0  hed (by show iv a0 2 = 0; omega)) dJx4a65c_add_72be8_7 kV_Jx4a65c_129 rfl t_a0 rfl rfl (by decide) ck_0 rfl (Nat.le_of_ble_eq_true rfl) ⟨(Nat.le_of_ble_eq_true rfl), (Nat.le_of_ble_eq_true rfl)⟩ hph hph (show 0 + 420 = 420 from rfl) (by decide) (fun rh1 Lh1 clh1 lnh1 ivh1 rvh1 h1 => ?_)
  obtain ⟨f1, rfl, xl1, fl1, W1, rgf1, exf1, o26f1⟩ := h1
  refine hv3 (hF0.call hX0 fl1 rfl) (hX0.trans xl1) (xl1.skl hS) (fun F1 X1 sk1 => ?_)
  refine c_st (st2 := [.ref f1]) rfl ?_
  refine hv4 (xl1.ty t_a0) (show rvh1 a0 1 = some f1 ∧ ivh1 a0 2 = iv a0 2 ∧ iv a0 2 + 1 ≤ ((lnh1 f1 : Nat) : Int) ∧ clh1 f1 = 1000 + 5 * a0 + 4 ∧ ∀ i : Nat, (i : Int) < iv a0 2 → rvh1 f1 i = el rv a0 i from exf1) (exf1.2.2.1) (exf1.2.1) (fun ty1 gf1 gzf1 gyf1 => ?_)
  have ri2 : 0 ≤ ivh1 a0 2 ∧ ivh1 a0 2 ≤ 200 := W1.int ty1 2
  refine c_astore_n (lv2 := [(2, .ref f1), (0, .ref a0), (1, .ref x), (3, .int (iI n))]) C dJx4a65c_add_72be8_10 (by decide) rfl ?_
  refine c_aload_n (j := 0) (x := f1) C dJx4a65c_add_72be8_11 rfl ?_
  refine c_iload_n (j := 3) C dJx4a65c_add_72be8_12 rfl ?_
  refine c_aload_n (j := 2) (x := x) C dJx4a65c_add_72be8_13 rfl ?_
  refine hv2 (show 10 ≤ lnh1 f1 ∧ lnh1 f1 ≤ 400 from W1.len rgf1 rfl) (xl1.ty t_x) (fun ll1 ty2 => ?_)
  refine c_aastO (z := n) C ck_6 w8_185t dJx4a65c_add_72be8_14 rgf1 rfl ty2 rfl rfl (by decide) (by omega) (by omega) (by omega) (fun rv1 pq1 => ⟨420, (by rw [Phi.putr sk1 pq1 rgf1 rfl]; exact Nat.le_refl _), ?_⟩)
  refine hv2 (W1.lset pq1 rgf1 (by decide) ty2) (F1.putr X1 pq1 rgf1 rfl) (fun W2 F2 => ?_)
  refine c_aload_n (j := 1) (x := a0) C dJx4a65c_add_72be8_15 rfl ?_
  refine c_iload_n (j := 3) C dJx4a65c_add_72be8_16 rfl ?_
  refine c_iconst C dJx4a65c_add_72be8_17 ?_
  refine c_iadd C dJx4a65c_add_72be8_18 ?_
  refine c_put (z := n + 1) (k := 2) C ck_0 dJx4a65c_add_72be8_19 w1_79 (by decide) rfl ty1 rfl rfl (by decide) rfl (by rfl) (by rfl) (fun iv1 pq2 => ?_)
  have re1 : rv1 a0 1 = rvh1 a0 1 := (by rw [pq1]; exact congrFun (upr_a (ne_ty ty1 rgf1 (by decide))) _)
  rw [exf1.1] at re1
  refine hv3 (show rv1 f1 (ivh1 a0 2).toNat = some x from by rw [show (ivh1 a0 2).toNat = n.toNat by omega, pq1]; exact upr_s) (F2.puti X1 pq2 ty1 rfl) (show iv1 a0 2 = n + 1 from by rw [pq2]; exact up2_s) (fun px1 F3 ie2 => ?_)
  have W3 := W2.lapp pq2 ty1 rfl re1 rgf1.1 px1 (show (n + 1) = ivh1 a0 2 + 1 by omega) (show ivh1 a0 2 + 1 ≤ 200 by omega) (by omega) rfl
  refine hv2 (show 0 ≤ iv1 a0 2 ∧ iv1 a0 2 ≤ 200 from W3.int ty1 2) (Phi.le W3 sk1) (fun ri3 pl1 => ?_)
  exact c_vret C dJx4a65c_add_72be8_22 rfl (by decide) (rom0 hph pl1 (by decide)) ⟨rfl, X1, F3, W3, ⟨by omega, (by rw [el_of re1, show (iv a0 2).toNat = n.toNat by omega, pq1]; exact upr_s), fun i hi => (by rw [el_of re1, pq1, upr_j (by omega)]; exact exf1.2.2.2.2 i hi)⟩, (fun bb tbb hbb => by
      refine hv3 (show ivh1 bb 2 = iv bb 2 from ((o26f1 bb tbb hbb)).1) (show ∀ r : Nat, (r : Int) < iv bb 2 → el rvh1 bb r = el rv bb r from fun r hr => ((o26f1 bb tbb hbb)).2 r hr) (xl1.ty tbb) (fun z1_ e1_ tb1 => ?_)
      refine hv2 (show ∀ r : Nat, (r : Int) < iv bb 2 → el rv1 bb r = el rv bb r from fun r hr => Eq.trans (el_kp W1 tb1 (by rw [pq1]; exact congrFun (upr_a (ne_ty tb1 rgf1 (by decide))) 1) (fun c tc hc j => by rw [pq1]; exact congrFun (upr_a (fun e => by rw [e, exf1.2.2.2.1] at hc; omega)) j) (by rw [z1_]; exact hr)) (e1_ r hr)) (show iv1 bb 2 = iv bb 2 from Eq.trans (by rw [pq2]; exact up2_k hbb) z1_) (fun e2_ z3_ => ?_)
      exact ⟨z3_, e2_⟩)⟩
set_option maxHeartbeats 4000000 in
set_option maxRecDepth 100000 in
theorem C_add3B_26 {l : Launch} {G : GT} {mi : Nat} {sk : Nat → Nat} {L : List Nat} {cl ln : Nat → Nat} {iv : Nat → Nat → Int} {rv : Nat → Nat → Option Nat}  {a0 : Nat} {x : Nat} {b0 : Nat} {n : Int} (hW : WT (g0 G) sk L cl ln iv rv) (hS : SKL sk L cl) (t_a0 : ty L cl a0 26) (t_x : ty L cl x 20) (t_b0 : ty L cl b0 1004) (h_n : -2147483648 ≤ n ∧ n ≤ 2147483647) (hed : rv a0 1 = some b0) (hcb : cl b0 = 1000 + 5 * a0 + 4) (hn : n = iv a0 2 ∧ 0 ≤ n ∧ n ≤ ((ln b0 : Nat) : Int) ∧ n < 200) : Mc l G mi (Phi (g0 G) sk) PHM yJx4a65c_add_72be8 cJx4a65c_add_72be8 4 none 5 [.ref a0, .ref x, .ref b0, .int (iI n)] L cl ln iv rv 420 (fun v L2 cl2 ln2 iv2 rv2 => v = none ∧ XT L cl ln L2 cl2 ln2 ∧ fT [26, 1004] L cl iv rv iv2 rv2 ∧ WT (g0 G) sk L2 cl2 ln2 iv2 rv2 ∧ (iv2 a0 2 = iv a0 2 + 1 ∧ el rv2 a0 (iv a0 2).toNat = some x ∧ ∀ i : Nat, (i : Int) < iv a0 2 → el rv2 a0 i = el rv a0 i) ∧ (∀ bb, ty L cl bb 26 → bb ≠ a0 → iv2 bb 2 = iv bb 2 ∧ ∀ r : Nat, (r : Int) < iv bb 2 → el rv2 bb r = el rv bb r)) := by
  refine Mc.mk (by decide) (Nat.le_of_ble_eq_true rfl) ?_
  intro p e s m args below meth c A C hM
  refine hv3 (Phi.le hW hS) (show XT L cl ln L cl ln from XT.refl) (show fT [26, 1004] L cl iv rv iv rv from fT.refl) (fun hph hX0 hF0 => ?_)
  refine c_iload_n (j := 3) C dJx4a65c_add_72be8_0 rfl ?_
  refine c_aload_n (j := 2) (x := b0) C dJx4a65c_add_72be8_1 rfl ?_
  have ll1 : 10 ≤ ln b0 ∧ ln b0 ≤ 400 := hW.len t_b0 rfl
  refine c_alenO C dJx4a65c_add_72be8_2 t_b0 rfl ?_
  refine c_icmp_ne (tgt := 11) C ⟨by omega, by omega⟩ ⟨by omega, by omega⟩ dJx4a65c_add_72be8_3 (by decide) (fun c1 => ?_) (fun c1 => ?_)
  · refine c_aload_n (j := 2) (x := b0) C dJx4a65c_add_72be8_11 rfl ?_
    refine c_iload_n (j := 3) C dJx4a65c_add_72be8_12 rfl ?_
    refine c_aload_n (j := 1) (x := x) C dJx4a65c_add_72be8_13 rfl ?_
    refine c_aastO (z := n) C ck_6 w8_185t dJx4a65c_add_72be8_14 t_b0 rfl t_x rfl rfl (by decide) (by omega) (by omega) (by omega) (fun rv1 pq1 => ⟨0, (by rw [Phi.putr hS pq1 t_b0 rfl]; exact Nat.le_refl _), ?_⟩)
    refine hv2 (hW.lset pq1 t_b0 (by decide) t_x) (hF0.putr hX0 pq1 t_b0 rfl) (fun W1 F1 => ?_)
    refine c_aload_n (j := 0) (x := a0) C dJx4a65c_add_72be8_15 rfl ?_
    refine c_iload_n (j := 3) C dJx4a65c_add_72be8_16 rfl ?_
    refine c_iconst C dJx4a65c_add_72be8_17 ?_
    refine c_iadd C dJx4a65c_add_72be8_18 ?_
    refine c_put (z := n + 1) (k := 2) C ck_0 dJx4a65c_add_72be8_19 w1_79 (by decide) rfl t_a0 rfl rfl (by decide) rfl (by rfl) (by rfl) (fun iv1 pq2 => ?_)
    have re1 : rv1 a0 1 = rv a0 1 := (by rw [pq1]; exact congrFun (upr_a (ne_ty t_a0 t_b0 (by decide))) _)
    rw [hed] at re1
    refine hv3 (show rv1 b0 (iv a0 2).toNat = some x from by rw [show (iv a0 2).toNat = n.toNat by omega, pq1]; exact upr_s) (F1.puti hX0 pq2 t_a0 rfl) (show iv1 a0 2 = n + 1 from by rw [pq2]; exact up2_s) (fun px1 F2 ie1 => ?_)
    have W2 := W1.lapp pq2 t_a0 rfl re1 t_b0.1 px1 (show (n + 1) = iv a0 2 + 1 by omega) (show iv a0 2 + 1 ≤ 200 by omega) (by omega) rfl
    refine hv2 (show 0 ≤ iv1 a0 2 ∧ iv1 a0 2 ≤ 200 from W2.int t_a0 2) (Phi.le W2 hS) (fun ri1 pl1 => ?_)
    exact c_vret C dJx4a65c_add_72be8_22 rfl (by decide) (rom0 hph pl1 (by decide)) ⟨rfl, hX0, F2, W2, ⟨by omega, (by rw [el_of re1, show (iv a0 2).toNat = n.toNat by omega, pq1]; exact upr_s), fun i hi => (by rw [el_of re1, pq1, upr_j (by omega)]; exact (el_of hed).symm)⟩, (fun bb tbb hbb => by
        refine hv2 (show ∀ r : Nat, (r : Int) < iv bb 2 → el rv1 bb r = el rv bb r from fun r hr => el_kp hW tbb (by rw [pq1]; exact congrFun (upr_a (ne_ty tbb t_b0 (by decide))) 1) (fun c tc hc j => by rw [pq1]; exact congrFun (upr_a (fun e => by rw [e, hcb] at hc; omega)) j) hr) (show iv1 bb 2 = iv bb 2 from (by rw [pq2]; exact up2_k hbb)) (fun e1_ z2_ => ?_)
        exact ⟨z2_, e1_⟩)⟩
  · refine c_aload_n (j := 0) (x := a0) C dJx4a65c_add_72be8_6 rfl ?_
    have ri2 : 0 ≤ iv a0 2 ∧ iv a0 2 ≤ 200 := hW.int t_a0 2
    refine d_callV (As := []) (rest := []) C hM (C_grow0B_26 (a0 := a0) (b0 := b0) hW hS t_a0 t_b0  hed hcb (by show iv a0 2 = ((ln b0 : Nat) : Int) ∧ iv a0 2 < 200; omega)) dJx4a65c_add_72be8_7 kV_Jx4a65c_129 rfl t_a0 rfl rfl (by decide) ck_0 rfl (Nat.le_of_ble_eq_true rfl) ⟨(Nat.le_of_ble_eq_true rfl), (Nat.le_of_ble_eq_true rfl)⟩ hph hph (show 0 + 420 = 420 from rfl) (by decide) (fun rh1 Lh1 clh1 lnh1 ivh1 rvh1 h1 => ?_)
    obtain ⟨f1, rfl, xl1, fl1, W3, rgf1, exf1, o26f1⟩ := h1
    refine hv3 (hF0.call hX0 fl1 rfl) (hX0.trans xl1) (xl1.skl hS) (fun F3 X1 sk1 => ?_)
    refine c_st (st2 := [.ref f1]) rfl ?_
    refine hv4 (xl1.ty t_a0) (show rvh1 a0 1 = some f1 ∧ ivh1 a0 2 = iv a0 2 ∧ iv a0 2 + 1 ≤ ((lnh1 f1 : Nat) : Int) ∧ clh1 f1 = 1000 + 5 * a0 + 4 ∧ ∀ i : Nat, (i : Int) < iv a0 2 → rvh1 f1 i = el rv a0 i from exf1) (exf1.2.2.1) (exf1.2.1) (fun ty1 gf1 gzf1 gyf1 => ?_)
    have ri3 : 0 ≤ ivh1 a0 2 ∧ ivh1 a0 2 ≤ 200 := W3.int ty1 2
    refine c_astore_n (lv2 := [(2, .ref f1), (0, .ref a0), (1, .ref x), (3, .int (iI n))]) C dJx4a65c_add_72be8_10 (by decide) rfl ?_
    refine c_aload_n (j := 0) (x := f1) C dJx4a65c_add_72be8_11 rfl ?_
    refine c_iload_n (j := 3) C dJx4a65c_add_72be8_12 rfl ?_
    refine c_aload_n (j := 2) (x := x) C dJx4a65c_add_72be8_13 rfl ?_
    refine hv2 (show 10 ≤ lnh1 f1 ∧ lnh1 f1 ≤ 400 from W3.len rgf1 rfl) (xl1.ty t_x) (fun ll2 ty2 => ?_)
    refine c_aastO (z := n) C ck_6 w8_185t dJx4a65c_add_72be8_14 rgf1 rfl ty2 rfl rfl (by decide) (by omega) (by omega) (by omega) (fun rv2 pq3 => ⟨420, (by rw [Phi.putr sk1 pq3 rgf1 rfl]; exact Nat.le_refl _), ?_⟩)
    refine hv2 (W3.lset pq3 rgf1 (by decide) ty2) (F3.putr X1 pq3 rgf1 rfl) (fun W4 F4 => ?_)
    refine c_aload_n (j := 1) (x := a0) C dJx4a65c_add_72be8_15 rfl ?_
    refine c_iload_n (j := 3) C dJx4a65c_add_72be8_16 rfl ?_
    refine c_iconst C dJx4a65c_add_72be8_17 ?_
    refine c_iadd C dJx4a65c_add_72be8_18 ?_
    refine c_put (z := n + 1) (k := 2) C ck_0 dJx4a65c_add_72be8_19 w1_79 (by decide) rfl ty1 rfl rfl (by decide) rfl (by rfl) (by rfl) (fun iv2 pq4 => ?_)
    have re2 : rv2 a0 1 = rvh1 a0 1 := (by rw [pq3]; exact congrFun (upr_a (ne_ty ty1 rgf1 (by decide))) _)
    rw [exf1.1] at re2
    refine hv3 (show rv2 f1 (ivh1 a0 2).toNat = some x from by rw [show (ivh1 a0 2).toNat = n.toNat by omega, pq3]; exact upr_s) (F4.puti X1 pq4 ty1 rfl) (show iv2 a0 2 = n + 1 from by rw [pq4]; exact up2_s) (fun px2 F5 ie3 => ?_)
    have W5 := W4.lapp pq4 ty1 rfl re2 rgf1.1 px2 (show (n + 1) = ivh1 a0 2 + 1 by omega) (show ivh1 a0 2 + 1 ≤ 200 by omega) (by omega) rfl
    refine hv2 (show 0 ≤ iv2 a0 2 ∧ iv2 a0 2 ≤ 200 from W5.int ty1 2) (Phi.le W5 sk1) (fun ri4 pl2 => ?_)
    exact c_vret C dJx4a65c_add_72be8_22 rfl (by decide) (rom0 hph pl2 (by decide)) ⟨rfl, X1, F5, W5, ⟨by omega, (by rw [el_of re2, show (iv a0 2).toNat = n.toNat by omega, pq3]; exact upr_s), fun i hi => (by rw [el_of re2, pq3, upr_j (by omega)]; exact exf1.2.2.2.2 i hi)⟩, (fun bb tbb hbb => by
        refine hv3 (show ivh1 bb 2 = iv bb 2 from ((o26f1 bb tbb hbb)).1) (show ∀ r : Nat, (r : Int) < iv bb 2 → el rvh1 bb r = el rv bb r from fun r hr => ((o26f1 bb tbb hbb)).2 r hr) (xl1.ty tbb) (fun z1_ e1_ tb1 => ?_)
        refine hv2 (show ∀ r : Nat, (r : Int) < iv bb 2 → el rv2 bb r = el rv bb r from fun r hr => Eq.trans (el_kp W3 tb1 (by rw [pq3]; exact congrFun (upr_a (ne_ty tb1 rgf1 (by decide))) 1) (fun c tc hc j => by rw [pq3]; exact congrFun (upr_a (fun e => by rw [e, exf1.2.2.2.1] at hc; omega)) j) (by rw [z1_]; exact hr)) (e1_ r hr)) (show iv2 bb 2 = iv bb 2 from Eq.trans (by rw [pq4]; exact up2_k hbb) z1_) (fun e2_ z3_ => ?_)
        exact ⟨z3_, e2_⟩)⟩
set_option maxHeartbeats 4000000 in
set_option maxRecDepth 100000 in
theorem C_add_26 {l : Launch} {G : GT} {mi : Nat} {sk : Nat → Nat} {L : List Nat} {cl ln : Nat → Nat} {iv : Nat → Nat → Int} {rv : Nat → Nat → Option Nat}  {a0 : Nat} {x : Nat} (hW : WT (g0 G) sk L cl ln iv rv) (hS : SKL sk L cl) (t_a0 : ty L cl a0 26) (t_x : ty L cl x 20) (hn : iv a0 2 < 200) : Mc l G mi (Phi (g0 G) sk) PHM yJx4a65c_add_9ea2d cJx4a65c_add_9ea2d 2 (some .boolean) 6 [.ref a0, .ref x] L cl ln iv rv 420 (fun v L2 cl2 ln2 iv2 rv2 => ∃ f : Int, v = some (.int (iI f)) ∧ XT L cl ln L2 cl2 ln2 ∧ fT [26, 1004] L cl iv rv iv2 rv2 ∧ WT (g0 G) sk L2 cl2 ln2 iv2 rv2 ∧ (f = 0 ∨ f = 1) ∧ (iv2 a0 2 = iv a0 2 + 1 ∧ el rv2 a0 (iv a0 2).toNat = some x ∧ ∀ i : Nat, (i : Int) < iv a0 2 → el rv2 a0 i = el rv a0 i) ∧ (∀ bb, ty L cl bb 26 → bb ≠ a0 → iv2 bb 2 = iv bb 2 ∧ ∀ r : Nat, (r : Int) < iv bb 2 → el rv2 bb r = el rv bb r)) := by
  refine Mc.mk (by decide) (Nat.le_of_ble_eq_true rfl) ?_
  intro p e s m args below meth c A C hM
  refine hv3 (Phi.le hW hS) (show XT L cl ln L cl ln from XT.refl) (show fT [26, 1004] L cl iv rv iv rv from fT.refl) (fun hph hX0 hF0 => ?_)
  refine c_aload_n (j := 0) (x := a0) C dJx4a65c_add_9ea2d_0 rfl ?_
  refine c_dup C dJx4a65c_add_9ea2d_1 rfl ?_
  have ri1 : (-2147483648) ≤ iv a0 0 ∧ iv a0 0 ≤ 2147483647 := hW.int t_a0 0
  refine c_getU (k := 0) C ck_0 dJx4a65c_add_9ea2d_2 w1_81 w1_82 (by decide) t_a0 rfl rfl (by decide) rfl ?_
  refine c_iconst C dJx4a65c_add_9ea2d_5 ?_
  refine c_iadd C dJx4a65c_add_9ea2d_6 ?_
  obtain ⟨zz1, hzz1, ezz1⟩ := iI_of (iI ((iv a0 0) + 1))
  refine c_st (st2 := [.int (iI zz1), .ref a0]) (by rw [ezz1]) ?_
  refine c_putU (z := zz1) (k := 0) C ck_0 dJx4a65c_add_9ea2d_7 w1_81 w1_82 (by decide) rfl t_a0 rfl rfl (by decide) rfl (by rfl) (by rfl) (fun iv1 pq1 => ?_)
  refine hv2 (hW.puti pq1 t_a0 (show (-2147483648) ≤ zz1 ∧ zz1 ≤ 2147483647 by omega) rfl) (hF0.puti hX0 pq1 t_a0 rfl) (fun W1 F1 => ?_)
  refine c_aload_n (j := 0) (x := a0) C dJx4a65c_add_9ea2d_10 rfl ?_
  refine c_aload_n (j := 1) (x := x) C dJx4a65c_add_9ea2d_11 rfl ?_
  refine c_aload_n (j := 0) (x := a0) C dJx4a65c_add_9ea2d_12 rfl ?_
  refine hv2 (show 0 ≤ iv1 a0 2 ∧ iv1 a0 2 ≤ 200 from W1.int t_a0 2) (show iv1 a0 2 = iv a0 2 from by rw [pq1]; exact up2_j (by decide)) (fun ri2 ie1 => ?_)
  rcases W1.edc t_a0 rfl rfl with ⟨eq1, zeb1⟩ | ⟨eb1, eq1, teb1, ceb1, zeb1⟩
  · refine c_getr (k := 1) C ck_0 dJx4a65c_add_9ea2d_13 w1_78 (by decide) t_a0 rfl rfl (by decide) rfl eq1 ?_
    refine c_st (st2 := [.ref (g0 G), .ref x, .ref a0]) rfl ?_
    refine c_aload_n (j := 0) (x := a0) C dJx4a65c_add_9ea2d_16 rfl ?_
    refine c_get (k := 2) C ck_0 dJx4a65c_add_9ea2d_17 w1_79 (by decide) t_a0 rfl rfl (by decide) rfl ?_
    refine d_callV (As := [.ref x, .ref (g0 G), .int (iI (iv1 a0 2))]) (rest := []) C hM (C_add3A_26 (a0 := a0) (x := x) (n := iv1 a0 2) W1 hS t_a0 t_x (by omega) eq1 (by show (iv1 a0 2) = iv1 a0 2 ∧ (iv1 a0 2) = 0; omega)) dJx4a65c_add_9ea2d_20 kV_Jx4a65c_131 rfl t_a0 rfl rfl (by decide) ck_0 rfl (Nat.le_of_ble_eq_true rfl) ⟨(Nat.le_of_ble_eq_true rfl), (Nat.le_of_ble_eq_true rfl)⟩ hph hph (show 0 + 420 = 420 from rfl) (by decide) (fun rh1 Lh1 clh1 lnh1 ivh1 rvh1 h1 => ?_)
    obtain ⟨rfl, xl1, fl1, W2, exf1, o26f1⟩ := h1
    refine hv3 (F1.call hX0 fl1 rfl) (hX0.trans xl1) (xl1.skl hS) (fun F2 X1 sk1 => ?_)
    refine c_st (st2 := []) rfl ?_
    refine hv2 (xl1.ty t_a0) (show ivh1 a0 2 = iv1 a0 2 + 1 ∧ el rvh1 a0 (iv1 a0 2).toNat = some x ∧ ∀ i : Nat, (i : Int) < iv1 a0 2 → el rvh1 a0 i = el rv a0 i from exf1) (fun ty1 gf1 => ?_)
    have ri3 : 0 ≤ ivh1 a0 2 ∧ ivh1 a0 2 ≤ 200 := W2.int ty1 2
    refine c_iconst C dJx4a65c_add_9ea2d_23 ?_
    have pl1 := Phi.le W2 sk1
    exact c_zret C dJx4a65c_add_9ea2d_24 rfl (Or.inr rfl) (by decide) (rom0 hph pl1 (by decide)) ⟨1, rfl, X1, F2, W2, (Or.inr rfl), ⟨by omega, (by rw [show (iv a0 2).toNat = (iv1 a0 2).toNat by omega]; exact exf1.2.1), fun i hi => exf1.2.2 i (by omega)⟩, (fun bb tbb hbb => by
        have z1_ : iv1 bb 2 = iv bb 2 := (by rw [pq1]; exact up2_k hbb)
        refine hv2 (show ivh1 bb 2 = iv bb 2 from Eq.trans ((o26f1 bb tbb hbb)).1 z1_) (show ∀ r : Nat, (r : Int) < iv bb 2 → el rvh1 bb r = el rv bb r from fun r hr => ((o26f1 bb tbb hbb)).2 r (by rw [z1_]; exact hr)) (fun z2_ e2_ => ?_)
        exact ⟨z2_, e2_⟩)⟩
  · have lneb1 : 10 ≤ ln eb1 ∧ ln eb1 ≤ 400 := W1.len teb1 rfl
    refine c_getr (k := 1) C ck_0 dJx4a65c_add_9ea2d_13 w1_78 (by decide) t_a0 rfl rfl (by decide) rfl eq1 ?_
    refine c_st (st2 := [.ref eb1, .ref x, .ref a0]) rfl ?_
    refine c_aload_n (j := 0) (x := a0) C dJx4a65c_add_9ea2d_16 rfl ?_
    refine c_get (k := 2) C ck_0 dJx4a65c_add_9ea2d_17 w1_79 (by decide) t_a0 rfl rfl (by decide) rfl ?_
    refine d_callV (As := [.ref x, .ref eb1, .int (iI (iv1 a0 2))]) (rest := []) C hM (C_add3B_26 (a0 := a0) (x := x) (b0 := eb1) (n := iv1 a0 2) W1 hS t_a0 t_x teb1 (by omega) eq1 ceb1 (by show (iv1 a0 2) = iv1 a0 2 ∧ 0 ≤ (iv1 a0 2) ∧ (iv1 a0 2) ≤ ((ln eb1 : Nat) : Int) ∧ (iv1 a0 2) < 200; omega)) dJx4a65c_add_9ea2d_20 kV_Jx4a65c_131 rfl t_a0 rfl rfl (by decide) ck_0 rfl (Nat.le_of_ble_eq_true rfl) ⟨(Nat.le_of_ble_eq_true rfl), (Nat.le_of_ble_eq_true rfl)⟩ hph hph (show 0 + 420 = 420 from rfl) (by decide) (fun rh2 Lh2 clh2 lnh2 ivh2 rvh2 h2 => ?_)
    obtain ⟨rfl, xl2, fl2, W3, exf2, o26f2⟩ := h2
    refine hv3 (F1.call hX0 fl2 rfl) (hX0.trans xl2) (xl2.skl hS) (fun F3 X2 sk2 => ?_)
    refine c_st (st2 := []) rfl ?_
    refine hv2 (xl2.ty t_a0) (show ivh2 a0 2 = iv1 a0 2 + 1 ∧ el rvh2 a0 (iv1 a0 2).toNat = some x ∧ ∀ i : Nat, (i : Int) < iv1 a0 2 → el rvh2 a0 i = el rv a0 i from exf2) (fun ty2 gf2 => ?_)
    have ri4 : 0 ≤ ivh2 a0 2 ∧ ivh2 a0 2 ≤ 200 := W3.int ty2 2
    refine c_iconst C dJx4a65c_add_9ea2d_23 ?_
    have pl2 := Phi.le W3 sk2
    exact c_zret C dJx4a65c_add_9ea2d_24 rfl (Or.inr rfl) (by decide) (rom0 hph pl2 (by decide)) ⟨1, rfl, X2, F3, W3, (Or.inr rfl), ⟨by omega, (by rw [show (iv a0 2).toNat = (iv1 a0 2).toNat by omega]; exact exf2.2.1), fun i hi => exf2.2.2 i (by omega)⟩, (fun bb tbb hbb => by
        have z1_ : iv1 bb 2 = iv bb 2 := (by rw [pq1]; exact up2_k hbb)
        refine hv2 (show ivh2 bb 2 = iv bb 2 from Eq.trans ((o26f2 bb tbb hbb)).1 z1_) (show ∀ r : Nat, (r : Int) < iv bb 2 → el rvh2 bb r = el rv bb r from fun r hr => ((o26f2 bb tbb hbb)).2 r (by rw [z1_]; exact hr)) (fun z2_ e2_ => ?_)
        exact ⟨z2_, e2_⟩)⟩
set_option maxHeartbeats 4000000 in
set_option maxRecDepth 100000 in
theorem C_fastRemove_26 {l : Launch} {G : GT} {mi : Nat} {sk : Nat → Nat} {L : List Nat} {cl ln : Nat → Nat} {iv : Nat → Nat → Int} {rv : Nat → Nat → Option Nat}  {a0 : Nat} {b0 : Nat} {i : Int} (hW : WT (g0 G) sk L cl ln iv rv) (hS : SKL sk L cl) (t_a0 : ty L cl a0 26) (t_b0 : ty L cl b0 1004) (h_i : -2147483648 ≤ i ∧ i ≤ 2147483647) (hed : rv a0 1 = some b0) (hcb : cl b0 = 1000 + 5 * a0 + 4) (hi : i = iv a0 2 - 1 ∧ 0 ≤ i ∧ iv a0 2 ≤ ((ln b0 : Nat) : Int)) : Mc l G mi (Phi (g0 G) sk) PHM yJx4a65c_fastRemove_b59b0 cJx4a65c_fastRemove_b59b0 4 none 0 [.ref a0, .ref b0, .int (iI i)] L cl ln iv rv 0 (fun v L2 cl2 ln2 iv2 rv2 => v = none ∧ L = L2 ∧ cl = cl2 ∧ ln = ln2 ∧ fT [26, 1004] L cl iv rv iv2 rv2 ∧ WT (g0 G) sk L2 cl2 ln2 iv2 rv2 ∧ (iv2 a0 2 = iv a0 2 - 1 ∧ ∀ j : Nat, (j : Int) < iv a0 2 - 1 → el rv2 a0 j = el rv a0 j) ∧ (∀ bb, ty L cl bb 26 → bb ≠ a0 → iv2 bb 2 = iv bb 2 ∧ ∀ r : Nat, (r : Int) < iv bb 2 → el rv2 bb r = el rv bb r)) := by
  refine Mc.mk (by decide) (Nat.le_of_ble_eq_true rfl) ?_
  intro p e s m args below meth c A C hM
  refine hv3 (Phi.le hW hS) (show XT L cl ln L cl ln from XT.refl) (show fT [26, 1004] L cl iv rv iv rv from fT.refl) (fun hph hX0 hF0 => ?_)
  refine c_aload_n (j := 0) (x := a0) C dJx4a65c_fastRemove_b59b0_0 rfl ?_
  refine c_dup C dJx4a65c_fastRemove_b59b0_1 rfl ?_
  have ri1 : (-2147483648) ≤ iv a0 0 ∧ iv a0 0 ≤ 2147483647 := hW.int t_a0 0
  refine c_getU (k := 0) C ck_0 dJx4a65c_fastRemove_b59b0_2 w1_81 w1_82 (by decide) t_a0 rfl rfl (by decide) rfl ?_
  refine c_iconst C dJx4a65c_fastRemove_b59b0_5 ?_
  refine c_iadd C dJx4a65c_fastRemove_b59b0_6 ?_
  obtain ⟨zz1, hzz1, ezz1⟩ := iI_of (iI ((iv a0 0) + 1))
  refine c_st (st2 := [.int (iI zz1), .ref a0]) (by rw [ezz1]) ?_
  refine c_putU (z := zz1) (k := 0) C ck_0 dJx4a65c_fastRemove_b59b0_7 w1_81 w1_82 (by decide) rfl t_a0 rfl rfl (by decide) rfl (by rfl) (by rfl) (fun iv1 pq1 => ?_)
  refine hv2 (hW.puti pq1 t_a0 (show (-2147483648) ≤ zz1 ∧ zz1 ≤ 2147483647 by omega) rfl) (hF0.puti hX0 pq1 t_a0 rfl) (fun W1 F1 => ?_)
  refine c_aload_n (j := 0) (x := a0) C dJx4a65c_fastRemove_b59b0_10 rfl ?_
  refine hv2 (show 0 ≤ iv1 a0 2 ∧ iv1 a0 2 ≤ 200 from W1.int t_a0 2) (show iv1 a0 2 = iv a0 2 from by rw [pq1]; exact up2_j (by decide)) (fun ri2 ie1 => ?_)
  refine c_get (k := 2) C ck_0 dJx4a65c_fastRemove_b59b0_11 w1_79 (by decide) t_a0 rfl rfl (by decide) rfl ?_
  refine c_iconst C dJx4a65c_fastRemove_b59b0_14 ?_
  refine c_isub C dJx4a65c_fastRemove_b59b0_15 ?_
  refine c_dup C dJx4a65c_fastRemove_b59b0_16 rfl ?_
  refine c_istore_n (lv2 := [(3, .int (iI ((iv1 a0 2) - 1))), (0, .ref a0), (1, .ref b0), (2, .int (iI i))]) C dJx4a65c_fastRemove_b59b0_17 (by decide) rfl ?_
  refine c_iload_n (j := 3) C dJx4a65c_fastRemove_b59b0_18 rfl ?_
  refine c_icmp_le (tgt := 34) C ⟨by omega, by omega⟩ ⟨by omega, by omega⟩ dJx4a65c_fastRemove_b59b0_19 (by decide) (fun _ => ?_) (fun z => absurd z (by omega))
  refine c_aload_n (j := 2) (x := b0) C dJx4a65c_fastRemove_b59b0_34 rfl ?_
  refine c_aload_n (j := 1) (x := a0) C dJx4a65c_fastRemove_b59b0_35 rfl ?_
  refine c_iload_n (j := 0) C dJx4a65c_fastRemove_b59b0_36 rfl ?_
  refine c_dup_x1 C dJx4a65c_fastRemove_b59b0_37 rfl rfl ?_
  refine c_put (z := (iv1 a0 2) - 1) (k := 2) C ck_0 dJx4a65c_fastRemove_b59b0_38 w1_79 (by decide) rfl t_a0 rfl rfl (by decide) rfl (by rfl) (by rfl) (fun iv2 pq2 => ?_)
  refine hv2 (W1.lsz pq2 t_a0 rfl (show 0 ≤ ((iv1 a0 2) - 1) ∧ ((iv1 a0 2) - 1) ≤ iv1 a0 2 by omega)) (F1.puti hX0 pq2 t_a0 rfl) (fun W2 F2 => ?_)
  refine c_null C dJx4a65c_fastRemove_b59b0_41 ?_
  have ll1 : 10 ≤ ln b0 ∧ ln b0 ≤ 400 := W2.len t_b0 rfl
  refine c_aastNO (z := (iv1 a0 2) - 1) C dJx4a65c_fastRemove_b59b0_42 t_b0 rfl (by omega) (by omega) (by omega) (fun rv1 pq3 => ⟨0, (by rw [Phi.putr hS pq3 t_b0 rfl]; exact Nat.le_refl _), ?_⟩)
  refine hv4 (show 0 ≤ iv2 a0 2 ∧ iv2 a0 2 ≤ 200 from W2.int t_a0 2) (show iv2 a0 2 = (iv1 a0 2) - 1 from by rw [pq2]; exact up2_s) (F2.putr hX0 pq3 t_b0 rfl) (show rv1 a0 1 = rv a0 1 from (by rw [pq3]; exact congrFun (upr_a (ne_ty t_a0 t_b0 (by decide))) _)) (fun ri3 ie2 F3 re1 => ?_)
  have W3 := W2.lnull (a := a0) (k := 4) pq3 t_b0 (by decide) rfl hcb (by decide) (show iv2 a0 2 ≤ ((((iv1 a0 2) - 1).toNat : Nat) : Int) by omega)
  rw [hed] at re1
  have pl1 := Phi.le W3 hS
  exact c_vret C dJx4a65c_fastRemove_b59b0_43 rfl (by decide) (rom0 hph pl1 (by decide)) ⟨rfl, rfl, rfl, rfl, F3, W3, ⟨by omega, fun j hj => (by rw [el_of re1, el_of hed, pq3, upr_j (by omega)])⟩, (fun bb tbb hbb => by
      have z1_ : iv1 bb 2 = iv bb 2 := (by rw [pq1]; exact up2_k hbb)
      have z2_ : iv2 bb 2 = iv bb 2 := Eq.trans (by rw [pq2]; exact up2_k hbb) z1_
      have e3_ : ∀ r : Nat, (r : Int) < iv bb 2 → el rv1 bb r = el rv bb r := fun r hr => el_kp W2 tbb (by rw [pq3]; exact congrFun (upr_a (ne_ty tbb t_b0 (by decide))) 1) (fun c tc hc j => by rw [pq3]; exact congrFun (upr_a (fun e => by rw [e, hcb] at hc; omega)) j) (by rw [z2_]; exact hr)
      exact ⟨z2_, e3_⟩)⟩
set_option maxHeartbeats 4000000 in
set_option maxRecDepth 100000 in
theorem C_remove_26 {l : Launch} {G : GT} {mi : Nat} {sk : Nat → Nat} {L : List Nat} {cl ln : Nat → Nat} {iv : Nat → Nat → Int} {rv : Nat → Nat → Option Nat}  {a0 : Nat} {i : Int} (hW : WT (g0 G) sk L cl ln iv rv) (hS : SKL sk L cl) (t_a0 : ty L cl a0 26) (h_i : -2147483648 ≤ i ∧ i ≤ 2147483647) (hi : i = iv a0 2 - 1 ∧ 0 ≤ i) : Mc l G mi (Phi (g0 G) sk) PHM yJx4a65c_remove_915e3 cJx4a65c_remove_915e3 4 (some (.object "java/lang/Object")) 2 [.ref a0, .int (iI i)] L cl ln iv rv 0 (fun v L2 cl2 ln2 iv2 rv2 => ∃ f : Nat, v = some (.ref f) ∧ L = L2 ∧ cl = cl2 ∧ ln = ln2 ∧ fT [26, 1004] L cl iv rv iv2 rv2 ∧ WT (g0 G) sk L2 cl2 ln2 iv2 rv2 ∧ ty L2 cl2 f 20 ∧ (iv2 a0 2 = iv a0 2 - 1 ∧ ∀ j : Nat, (j : Int) < iv a0 2 - 1 → el rv2 a0 j = el rv a0 j) ∧ (el rv a0 (iv a0 2 - 1).toNat = some f) ∧ (∀ bb, ty L cl bb 26 → bb ≠ a0 → iv2 bb 2 = iv bb 2 ∧ ∀ r : Nat, (r : Int) < iv bb 2 → el rv2 bb r = el rv bb r)) := by
  refine Mc.mk (by decide) (Nat.le_of_ble_eq_true rfl) ?_
  intro p e s m args below meth c A C hM
  refine hv3 (Phi.le hW hS) (show XT L cl ln L cl ln from XT.refl) (show fT [26, 1004] L cl iv rv iv rv from fT.refl) (fun hph hX0 hF0 => ?_)
  refine c_iload_n (j := 1) C dJx4a65c_remove_915e3_0 rfl ?_
  refine c_aload_n (j := 0) (x := a0) C dJx4a65c_remove_915e3_1 rfl ?_
  have ri1 : 0 ≤ iv a0 2 ∧ iv a0 2 ≤ 200 := hW.int t_a0 2
  refine c_get (k := 2) C ck_0 dJx4a65c_remove_915e3_2 w1_79 (by decide) t_a0 rfl rfl (by decide) rfl ?_
  refine d_callS (As := [.int (iI i), .int (iI (iv a0 2))]) (rest := []) C hM (C_checkIndex2 (i := i) (n := iv a0 2) hW hS  (by omega) (by omega) (by show 0 ≤ i ∧ i < (iv a0 2); omega)) dJx4a65c_remove_915e3_5 kS_Jx4a65c_118 rfl rfl (Nat.le_of_ble_eq_true rfl) ⟨(Nat.le_of_ble_eq_true rfl), (Nat.le_of_ble_eq_true rfl)⟩ hph hph (show 0 + 0 = 0 from rfl) (by decide) (fun rh1 Lh1 clh1 lnh1 ivh1 rvh1 h1 => ?_)
  obtain ⟨f1, rfl, rfl, rfl, rfl, rfl, rfl, rgf1, exf1⟩ := h1
  refine c_st (st2 := [.int (iI f1)]) rfl ?_
  have gf1 : f1 = i := exf1
  refine c_pop C dJx4a65c_remove_915e3_8 rfl ?_
  refine c_aload_n (j := 0) (x := a0) C dJx4a65c_remove_915e3_9 rfl ?_
  obtain ⟨eb1, eq1, teb1, ceb1, zeb1⟩ := hW.ed2 t_a0 rfl rfl (by omega)
  have lneb1 : 10 ≤ ln eb1 ∧ ln eb1 ≤ 400 := hW.len teb1 rfl
  refine c_getr (k := 1) C ck_0 dJx4a65c_remove_915e3_10 w1_78 (by decide) t_a0 rfl rfl (by decide) rfl eq1 ?_
  refine c_st (st2 := [.ref eb1]) rfl ?_
  refine c_astore_n (lv2 := [(2, .ref eb1), (0, .ref a0), (1, .int (iI i))]) C dJx4a65c_remove_915e3_13 (by decide) rfl ?_
  refine c_aload_n (j := 0) (x := eb1) C dJx4a65c_remove_915e3_14 rfl ?_
  refine c_iload_n (j := 2) C dJx4a65c_remove_915e3_15 rfl ?_
  have ll1 : 10 ≤ ln eb1 ∧ ln eb1 ≤ 400 := hW.len teb1 rfl
  obtain ⟨nb1, nq1, tnb1⟩ := hW.elem t_a0 rfl eq1 teb1 rfl rfl (i := i.toNat) (by omega)
  have tnb1 : ty L cl nb1 20 := tnb1
  refine c_aaldO C dJx4a65c_remove_915e3_16 teb1 rfl (by omega) (by omega) (by omega) nq1 ?_
  refine c_st (st2 := [.ref nb1]) rfl ?_
  refine c_astore_n (lv2 := [(3, .ref nb1), (2, .ref eb1), (0, .ref a0), (1, .int (iI i))]) C dJx4a65c_remove_915e3_17 (by decide) rfl ?_
  refine c_aload_n (j := 2) (x := a0) C dJx4a65c_remove_915e3_18 rfl ?_
  refine c_aload_n (j := 1) (x := eb1) C dJx4a65c_remove_915e3_19 rfl ?_
  refine c_iload_n (j := 3) C dJx4a65c_remove_915e3_20 rfl ?_
  refine d_callV (As := [.ref eb1, .int (iI i)]) (rest := []) C hM (C_fastRemove_26 (a0 := a0) (b0 := eb1) (i := i) hW hS t_a0 teb1 (by omega) eq1 ceb1 (by show i = iv a0 2 - 1 ∧ 0 ≤ i ∧ iv a0 2 ≤ ((ln eb1 : Nat) : Int); omega)) dJx4a65c_remove_915e3_21 kV_Jx4a65c_144 rfl t_a0 rfl rfl (by decide) ck_0 rfl (Nat.le_of_ble_eq_true rfl) ⟨(Nat.le_of_ble_eq_true rfl), (Nat.le_of_ble_eq_true rfl)⟩ hph hph (show 0 + 0 = 0 from rfl) (by decide) (fun rh2 Lh2 clh2 lnh2 ivh2 rvh2 h2 => ?_)
  obtain ⟨rfl, rfl, rfl, rfl, fl2, W2, exf2, o26f2⟩ := h2
  have F1 := hF0.call hX0 fl2 rfl
  refine c_st (st2 := []) rfl ?_
  refine hv2 (show 0 ≤ ivh2 a0 2 ∧ ivh2 a0 2 ≤ 200 from W2.int t_a0 2) (show ivh2 a0 2 = iv a0 2 - 1 ∧ ∀ j : Nat, (j : Int) < iv a0 2 - 1 → el rvh2 a0 j = el rv a0 j from exf2) (fun ri2 gf2 => ?_)
  refine c_aload_n (j := 0) (x := nb1) C dJx4a65c_remove_915e3_24 rfl ?_
  have pl1 := Phi.le W2 hS
  exact c_aret (x := some nb1) C dJx4a65c_remove_915e3_25 rfl (Or.inl ⟨_, rfl⟩) (by decide) (rom0 hph pl1 (by decide)) ⟨nb1, rfl, rfl, rfl, rfl, F1, W2, tnb1, ⟨by omega, fun j hj => exf2.2 j (by omega)⟩, (by rw [show (iv a0 2 - 1).toNat = i.toNat by omega]; exact ((el_of eq1).trans nq1)), (fun bb tbb hbb => by
      refine hv2 (show ivh2 bb 2 = iv bb 2 from ((o26f2 bb tbb hbb)).1) (show ∀ r : Nat, (r : Int) < iv bb 2 → el rvh2 bb r = el rv bb r from fun r hr => ((o26f2 bb tbb hbb)).2 r hr) (fun z1_ e1_ => ?_)
      exact ⟨z1_, e1_⟩)⟩
