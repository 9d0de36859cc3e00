section
theorem el_kp {g : Nat} {sk : Nat → Nat} {L : List Nat} {cl ln : Nat → Nat} {iv : Nat → Nat → Int} {rv rv2 : Nat → Nat → Option Nat} {a : Nat} (h : WT g sk L cl ln iv rv) (ha : ty L cl a 26) (h1 : rv2 a 1 = rv a 1) (h2 : ∀ b, ty L cl b 1004 → cl b = 1000 + 5 * a + 4 → ∀ k, rv2 b k = rv b k) {i : Nat} (hi : (i : Int) < iv a 2) : el rv2 a i = el rv a i := by
  obtain ⟨b, q1, q2, q3, q4⟩ := h.ed2 ha rfl rfl (by omega)
  rw [el_of (h1.trans q1), el_of q1, h2 b q2 q3 i]
theorem Phi.le3 {g : Nat} {sk : Nat → Nat} {L : List Nat} {cl ln : Nat → Nat} {iv : Nat → Nat → Int} {rv : Nat → Nat → Option Nat} (h : WT g sk L cl ln iv rv) (hS : SKL sk L cl) : Phi g sk ln rv + 3000 ≤ PHM ∧ ∀ t n, (t = 24 ∨ t = 25) → cap g ln rv (sk t) = n → n ≤ 6003 → Phi g sk ln rv + 20000 ≤ PHM := by
  refine hv14 (cap_le (t := 2) (m := 6000) h hS rfl rfl rfl rfl rfl) (cap_le (t := 3) (m := 1000) h hS rfl rfl rfl rfl rfl) (cap_le (t := 4) (m := 8000) h hS rfl rfl rfl rfl rfl) (cap_le (t := 5) (m := 400) h hS rfl rfl rfl rfl rfl) (cap_le (t := 6) (m := 12006) h hS rfl rfl rfl rfl rfl) (cap_le (t := 7) (m := 12006) h hS rfl rfl rfl rfl rfl) (cap_le (t := 8) (m := 80400) h hS rfl rfl rfl rfl rfl) (cap_le (t := 9) (m := 80400) h hS rfl rfl rfl rfl rfl) (cap_le (t := 10) (m := 8002) h hS rfl rfl rfl rfl rfl) (cap_le (t := 11) (m := 80000) h hS rfl rfl rfl rfl rfl) (cap_le (t := 24) (m := 9100) h hS rfl rfl rfl rfl rfl) (cap_le (t := 25) (m := 9100) h hS rfl rfl rfl rfl rfl) (nn_le (rv (sk 67)) 200) (nn_le (rv (sk 69)) 200) (fun c2 c3 c4 c5 c6 c7 c8 c9 c10 c11 c24 c25 n1 n2 => ?_)
  refine ⟨?_, fun t n ht hn h6 => ?_⟩
  · unfold Phi; show _ ≤ 1110000; omega
  · rcases ht with rfl | rfl
    · unfold Phi; show _ ≤ 1110000; omega
    · unfold Phi; show _ ≤ 1110000; omega
theorem fT.copyr {ls : List Nat} {L L2 : List Nat} {cl ln cl2 ln2 : Nat → Nat} {iv iv2 : Nat → Nat → Int} {rv rv2 rv3 : Nat → Nat → Option Nat} {b T : Nat} {X : Nat → Option Nat} (h : fT ls L cl iv rv iv2 rv2) (hX : XT L cl ln L2 cl2 ln2) (he : rv3 = fun w j => if w = b then X j else rv2 w j) (hb : ty L2 cl2 b T) (hc : ls.contains T = true) : fT ls L cl iv rv iv2 rv3 := by
  intro w hw hq
  refine ⟨(h w hw hq).1, ?_⟩
  rw [he]
  funext j
  dsimp only
  rw [if_neg (fun e => ?_)]
  · rw [(h w hw hq).2]
  · subst e; rw [← (hX w hw).2.1, hb.2, hc] at hq; cases hq
set_option maxHeartbeats 4000000 in
set_option maxRecDepth 100000 in
theorem Z_copyO3_22 {l : Launch} {G : GT} {mi : Nat} {sk : Nat → Nat} {L : List Nat} {cl ln : Nat → Nat} {iv : Nat → Nat → Int} {rv : Nat → Nat → Option Nat}  {a0 : Nat} {n : Int} (hW : WT (g0 G) sk L cl ln iv rv) (hS : SKL sk L cl) (t_a0 : ty L cl a0 1000) (h_n : -2147483648 ≤ n ∧ n ≤ 2147483647) (hn : ((ln a0 : Nat) : Int) < n ∧ 10 ≤ n ∧ n ≤ 60) : Mc l G mi zPf 0 yJ7_copyOf_6403c cJ7_copyOf_6403c 4 (some (.array (.object "java/lang/Object"))) 1 [.ref a0, .int (iI n), .ref mi] L cl ln iv rv (16 + n.toNat) (fun v L2 cl2 ln2 iv2 rv2 => ∃ f : Nat, v = some (.ref f) ∧ XT L cl ln L2 cl2 ln2 ∧ fT [1000] L cl iv rv iv2 rv2 ∧ WT (g0 G) sk L2 cl2 ln2 iv2 rv2 ∧ ty L2 cl2 f 1000 ∧ (ln2 f = n.toNat ∧ cl2 f = cl a0 ∧ ∀ i : Nat, i < ln a0 → rv2 f i = rv a0 i)) := by
  refine Mc.mk (by decide) (Nat.le_of_ble_eq_true rfl) ?_
  intro p e s m args below meth c A C hM
  refine hv3 ((show zPf ln rv ≤ 0 from Nat.le_refl 0)) (show XT L cl ln L cl ln from XT.refl) (show fT [1000] L cl iv rv iv rv from fT.refl) (fun hph hX0 hF0 => ?_)
  refine c_aload_n (j := 2) (x := mi) C dJ7_copyOf_6403c_0 rfl ?_
  refine c_ldcM C hM dJ7_copyOf_6403c_1 w3_29 ?_
  refine c_acmp_ne (rx := some mi) (ry := some mi) (tgt := 13) C dJ7_copyOf_6403c_3 (by decide) (fun q => absurd rfl q) (fun _ => ?_)
  refine c_iload_n (j := 1) C dJ7_copyOf_6403c_6 rfl ?_
  refine c_newaO (z := n) (N := n.toNat) C (cl a0) dJ7_copyOf_6403c_7 w3_31 w3_30t (by rw [t_a0.2]; rfl) (by omega) (by omega) (rom2 hph hph (by omega)) (fun qn1 cln1 lnn1 ivn1 rvn1 hqn1 hcn1 hln1 hin1 hrn1 => ⟨(0 + (16 + n.toNat)), (z_in (by omega)), ?_⟩)
  refine c_g0 C (fun hg1 => ?_)
  refine hv5 (show ∀ b, b ≠ qn1 → lnn1 b = ln b from (fun b hb => by rw [hln1]; exact va_up_ne _ _ hb)) (show lnn1 qn1 = n.toNat from by rw [hln1]; exact va_up_self _ _ _) (hF0.new hX0 hqn1 hin1 hrn1) (show ty (L ++ [qn1]) cln1 qn1 1000 from ⟨List.mem_append_right _ List.mem_cons_self, by rw [hcn1, va_up_self]; exact t_a0.2⟩) (show cln1 qn1 = (cl a0) from by rw [hcn1]; exact va_up_self _ _ _) (fun hxn1 lqn1 F1 tqn1 clqn1 => ?_)
  refine hv2 (hW.new (ln2 := lnn1) hqn1 (hg1 qn1 (List.mem_append_right _ List.mem_cons_self)) hcn1 hxn1 hin1 hrn1 (fun _ => by rw [t_a0.2]; exact ⟨(show (-2147483648 : Int) ≤ 0 by decide), (show (0 : Int) ≤ 2147483647 by decide)⟩) (Or.inr (fun _ => by rw [t_a0.2]; rfl)) (fun _ => by rw [t_a0.2]; show 10 ≤ lnn1 qn1 ∧ lnn1 qn1 ≤ 60; omega) (by rw [t_a0.2]; rfl) (uq_big (by rw [t_a0.2]; decide))) (XT.new hqn1 hcn1 hxn1) (fun W1 xl1 => ?_)
  refine hv2 (hX0.trans xl1) (xl1.skl hS) (fun X1 sk1 => ?_)
  refine c_goto (tgt := 24) C dJ7_copyOf_6403c_10 (by decide) ?_
  refine c_astore_n (lv2 := [(3, .ref qn1), (0, .ref a0), (1, .int (iI n)), (2, .ref mi)]) C dJ7_copyOf_6403c_24 (by decide) rfl ?_
  refine c_aload_n (j := 1) (x := a0) C dJ7_copyOf_6403c_25 rfl ?_
  refine c_iconst C dJ7_copyOf_6403c_26 ?_
  refine c_aload_n (j := 0) (x := qn1) C dJ7_copyOf_6403c_27 rfl ?_
  refine c_iconst C dJ7_copyOf_6403c_28 ?_
  refine c_aload_n (j := 1) (x := a0) C dJ7_copyOf_6403c_29 rfl ?_
  have ty1 := xl1.ty t_a0
  have ll1 : 10 ≤ lnn1 a0 ∧ lnn1 a0 ≤ 60 := W1.len ty1 rfl
  refine c_alenO C dJ7_copyOf_6403c_30 ty1 rfl ?_
  refine c_iload_n (j := 2) C dJ7_copyOf_6403c_31 rfl ?_
  obtain ⟨mn1, hmn1, emn1⟩ := mmin_c (x := ((lnn1 a0 : Nat) : Int)) (y := n) ⟨by omega, by omega⟩ ⟨by omega, by omega⟩
  refine c_mmin (w := iI mn1) C dJ7_copyOf_6403c_32 w2_128 w2_129 w1_14 w2_130 (by decide) (rom0 hph (Nat.le_refl 0) (by omega)) (Nat.le_of_ble_eq_true rfl) emn1 ?_
  have le1 : lnn1 a0 = ln a0 := (xl1 a0 t_a0.1).2.2
  refine c_copyq (n := mn1) C ck_10 w8_183t dJ7_copyOf_6403c_35 w2_131 w2_133 w2_132 w1_15 ty1 rfl tqn1 rfl (fun i y hy => by
      rcases W1.opt ty1 i rfl rfl with qq | ⟨bb, q1, q2⟩
      · rw [qq.1] at hy; cases hy
      · rw [q1] at hy; cases hy; exact q2) rfl rfl (by decide) (by omega) (by omega) (by omega) (by omega) (by decide) (Nat.le_of_ble_eq_true rfl) (fun rv1 cq1 => ⟨(0 + (16 + n.toNat)), (zp2 (Nat.le_refl _)), ?_⟩)
  have hno : ∀ w ∈ (L ++ [qn1]), lst (bt (cln1 w)) = true → rvn1 w 1 ≠ some qn1 := by
    intro w hw hl3 e3
    rcases List.mem_append.mp hw with e4 | e4
    · have hwq : w ≠ qn1 := fun e => hqn1 (e ▸ e4)
      rw [hcn1, va_up_ne _ _ hwq] at hl3
      rw [hrn1, up0_a hwq] at e3
      rcases WT.ed hW e4 (lst_szd hl3) e3 with e5 | e5
      · exact hqn1 e5
      · exact hg1 qn1 tqn1.1 e5
    · have e5 := List.mem_singleton.mp e4
      rw [e5, tqn1.2] at hl3; cases hl3
  refine hv2 (W1.copyr (TB2 := 0) cq1 tqn1 ty1 (by decide) (fun _ _ => rfl) (fun _ => rfl) hno) (F1.copyr X1 cq1 tqn1 rfl) (fun W2 F2 => ?_)
  refine c_aload_n (j := 0) (x := qn1) C dJ7_copyOf_6403c_38 rfl ?_
  exact c_aret (x := some qn1) C dJ7_copyOf_6403c_39 rfl (Or.inr ⟨_, rfl⟩) (by omega) (rom0 hph (Nat.le_refl 0) (by omega)) ⟨qn1, rfl, X1, F2, W2, tqn1, ⟨by omega, clqn1, fun i hi => by
      rw [cq1]
      show (if qn1 = qn1 then _ else _) = rv a0 i
      rw [if_pos rfl, if_pos (by omega), hrn1]
      exact congrFun (up0_a (ne_in t_a0.1 hqn1)) i⟩⟩
set_option maxHeartbeats 4000000 in
set_option maxRecDepth 100000 in
theorem Z_copyO2_22 {l : Launch} {G : GT} {mi : Nat} {sk : Nat → Nat} {L : List Nat} {cl ln : Nat → Nat} {iv : Nat → Nat → Int} {rv : Nat → Nat → Option Nat}  {a0 : Nat} {n : Int} (hW : WT (g0 G) sk L cl ln iv rv) (hS : SKL sk L cl) (t_a0 : ty L cl a0 1000) (h_n : -2147483648 ≤ n ∧ n ≤ 2147483647) (hn : ((ln a0 : Nat) : Int) < n ∧ 10 ≤ n ∧ n ≤ 60) : Mc l G mi zPf 0 yJ7_copyOf_1904c cJ7_copyOf_1904c 2 (some (.array (.object "java/lang/Object"))) 2 [.ref a0, .int (iI n)] L cl ln iv rv (16 + n.toNat) (fun v L2 cl2 ln2 iv2 rv2 => ∃ f : Nat, v = some (.ref f) ∧ XT L cl ln L2 cl2 ln2 ∧ fT [1000] L cl iv rv iv2 rv2 ∧ WT (g0 G) sk L2 cl2 ln2 iv2 rv2 ∧ ty L2 cl2 f 1000 ∧ (ln2 f = n.toNat ∧ cl2 f = cl a0 ∧ ∀ i : Nat, i < ln a0 → rv2 f i = rv a0 i)) := by
  refine Mc.mk (by decide) (Nat.le_of_ble_eq_true rfl) ?_
  intro p e s m args below meth c A C hM
  refine hv3 ((show zPf ln rv ≤ 0 from Nat.le_refl 0)) (show XT L cl ln L cl ln from XT.refl) (show fT [1000] L cl iv rv iv rv from fT.refl) (fun hph hX0 hF0 => ?_)
  refine c_aload_n (j := 0) (x := a0) C dJ7_copyOf_1904c_0 rfl ?_
  refine c_iload_n (j := 1) C dJ7_copyOf_1904c_1 rfl ?_
  refine c_aload_n (j := 0) (x := a0) C dJ7_copyOf_1904c_2 rfl ?_
  refine c_getC C hM dJ7_copyOf_1904c_3 w3_8 w8_172 w3_9 w3_25 t_a0 rfl (by decide) (Nat.le_of_ble_eq_true rfl) ?_
  refine c_callS (As := [.ref a0, .int (iI n), .ref mi]) (rest := []) C hM (Z_copyO3_22 (a0 := a0) (n := n) hW hS t_a0 (by omega) (by show ((ln a0 : Nat) : Int) < n ∧ 10 ≤ n ∧ n ≤ 60; omega)) dJ7_copyOf_1904c_6 kS_J7_300 rfl rfl (Nat.le_of_ble_eq_true rfl) ⟨(Nat.le_of_ble_eq_true rfl), (Nat.le_of_ble_eq_true rfl)⟩ (rz0 hph (by omega)) (fun rh1 Lh1 clh1 lnh1 ivh1 rvh1 h1 => ⟨(0 + (16 + n.toNat)), zk0, ?_⟩)
  obtain ⟨f1, rfl, xl1, fl1, W1, rgf1, exf1⟩ := h1
  refine hv3 (hF0.call hX0 fl1 rfl) (hX0.trans xl1) (xl1.skl hS) (fun F1 X1 sk1 => ?_)
  refine c_st (st2 := [.ref f1]) rfl ?_
  have gf1 : lnh1 f1 = n.toNat ∧ clh1 f1 = cl a0 ∧ ∀ i : Nat, i < ln a0 → rvh1 f1 i = rv a0 i := exf1
  exact c_aret (x := some f1) C dJ7_copyOf_1904c_9 rfl (Or.inr ⟨_, rfl⟩) (by omega) (rom0 hph (Nat.le_refl 0) (by omega)) ⟨f1, rfl, X1, F1, W1, rgf1, exf1⟩
set_option maxHeartbeats 4000000 in
set_option maxRecDepth 100000 in
theorem C_growA_22 {l : Launch} {G : GT} {mi : Nat} {sk : Nat → Nat} {L : List Nat} {cl ln : Nat → Nat} {iv : Nat → Nat → Int} {rv : Nat → Nat → Option Nat}  {a0 : Nat} {n : Int} (hW : WT (g0 G) sk L cl ln iv rv) (hS : SKL sk L cl) (t_a0 : ty L cl a0 22) (h_n : -2147483648 ≤ n ∧ n ≤ 2147483647) (hed : rv a0 1 = some (g0 G)) (hn : n = 1 ∧ iv a0 2 = 0) : Mc l G mi (Phi (g0 G) sk) PHM yJx4a65c_grow_92f84 cJx4a65c_grow_92f84 4 (some (.array (.object "java/lang/Object"))) 3 [.ref a0, .int (iI n)] L cl ln iv rv 80 (fun v L2 cl2 ln2 iv2 rv2 => ∃ f : Nat, v = some (.ref f) ∧ XT L cl ln L2 cl2 ln2 ∧ fT [22, 1000] L cl iv rv iv2 rv2 ∧ WT (g0 G) sk L2 cl2 ln2 iv2 rv2 ∧ ty L2 cl2 f 1000 ∧ (rv2 a0 1 = some f ∧ iv2 a0 2 = iv a0 2 ∧ iv a0 2 + 1 ≤ ((ln2 f : Nat) : Int) ∧ cl2 f = 1000 + 5 * a0 + 0 ∧ ∀ i : Nat, (i : Int) < iv a0 2 → rv2 f i = el rv a0 i)) := by
  refine Mc.mk (by decide) (Nat.le_of_ble_eq_true rfl) ?_
  intro p e s m args below meth c A C hM
  refine hv3 (Phi.le hW hS) (show XT L cl ln L cl ln from XT.refl) (show fT [22, 1000] L cl iv rv iv rv from fT.refl) (fun hph hX0 hF0 => ?_)
  refine c_aload_n (j := 0) (x := a0) C dJx4a65c_grow_92f84_0 rfl ?_
  refine c_getr (k := 1) C ck_0 dJx4a65c_grow_92f84_1 w1_78 (by decide) t_a0 rfl rfl (by decide) rfl hed ?_
  refine c_st (st2 := [.ref (g0 G)]) rfl ?_
  refine c_tlen C dJx4a65c_grow_92f84_4 ?_
  refine c_istore_n (lv2 := [(2, .int (iI 0)), (0, .ref a0), (1, .int (iI n))]) C dJx4a65c_grow_92f84_5 (by decide) rfl ?_
  refine c_iload_n (j := 0) C dJx4a65c_grow_92f84_6 rfl ?_
  refine c_if_gt (tgt := 20) C ⟨by decide, by decide⟩ dJx4a65c_grow_92f84_7 (by decide) (fun z => absurd z (by omega)) (fun _ => ?_)
  refine c_aload_n (j := 1) (x := a0) C dJx4a65c_grow_92f84_10 rfl ?_
  refine c_getr (k := 1) C ck_0 dJx4a65c_grow_92f84_11 w1_78 (by decide) t_a0 rfl rfl (by decide) rfl hed ?_
  refine c_st (st2 := [.ref (g0 G)]) rfl ?_
  refine c_gets C dJx4a65c_grow_92f84_14 w1_76 ?_
  refine c_acmp_eq (rx := some (g0 G)) (ry := some (g0 G)) (tgt := 45) C dJx4a65c_grow_92f84_17 (by decide) (fun _ => ?_) (fun q => absurd rfl q)
  refine c_aload_n (j := 1) (x := a0) C dJx4a65c_grow_92f84_45 rfl ?_
  refine c_bipush (z := 10) C dJx4a65c_grow_92f84_46 (by decide) ?_
  refine c_iload_n (j := 2) C dJx4a65c_grow_92f84_48 rfl ?_
  obtain ⟨mn1, hmn1, emn1⟩ := mmax_c (x := 10) (y := n) ⟨by decide, by decide⟩ ⟨by omega, by omega⟩
  refine c_mmax (w := iI mn1) C dJx4a65c_grow_92f84_49 w3_32 w2_148 w1_14 w2_149 (by decide) (rom0 hph hph (by decide)) (Nat.le_of_ble_eq_true rfl) emn1 ?_
  refine c_newaO (z := mn1) (N := 10) C (1000 + 5 * a0 + 0) dJx4a65c_grow_92f84_52 w3_33 w3_30t (by rw [(bt_list (by decide))]; rfl) (by omega) (by omega) (rom2 hph hph (by omega)) (fun qn1 cln1 lnn1 ivn1 rvn1 hqn1 hcn1 hln1 hin1 hrn1 => ⟨(0 + (16 + 10)), (p_in (Phi.new hW hS hqn1 (fun b hb => by rw [hln1]; exact va_up_ne _ _ hb) hrn1) (by omega)), ?_⟩)
  refine c_g0 C (fun hg1 => ?_)
  refine hv5 (show ∀ b, b ≠ qn1 → lnn1 b = ln b from (fun b hb => by rw [hln1]; exact va_up_ne _ _ hb)) (show lnn1 qn1 = 10 from by rw [hln1]; exact va_up_self _ _ _) (hF0.new hX0 hqn1 hin1 hrn1) (show ty (L ++ [qn1]) cln1 qn1 1000 from ⟨List.mem_append_right _ List.mem_cons_self, by rw [hcn1, va_up_self]; exact (bt_list (by decide))⟩) (show cln1 qn1 = (1000 + 5 * a0 + 0) from by rw [hcn1]; exact va_up_self _ _ _) (fun hxn1 lqn1 F1 tqn1 clqn1 => ?_)
  refine hv2 (hW.new (ln2 := lnn1) hqn1 (hg1 qn1 (List.mem_append_right _ List.mem_cons_self)) hcn1 hxn1 hin1 hrn1 (fun _ => by rw [(bt_list (by decide))]; exact ⟨(show (-2147483648 : Int) ≤ 0 by decide), (show (0 : Int) ≤ 2147483647 by decide)⟩) (Or.inr (fun _ => by rw [(bt_list (by decide))]; rfl)) (fun _ => by rw [(bt_list (by decide))]; show 10 ≤ lnn1 qn1 ∧ lnn1 qn1 ≤ 60; omega) (by rw [(bt_list (by decide))]; rfl) (uq_big (by rw [(bt_list (by decide))]; decide))) (XT.new hqn1 hcn1 hxn1) (fun W1 xl1 => ?_)
  refine hv2 (hX0.trans xl1) (xl1.skl hS) (fun X1 sk1 => ?_)
  refine c_dup_x1 C dJx4a65c_grow_92f84_55 rfl rfl ?_
  refine hv2 (xl1.ty t_a0) (show rvn1 a0 1 = rv a0 1 from (by rw [hrn1]; exact congrFun (up0_a (ne_in t_a0.1 hqn1)) _)) (fun ty1 re1 => ?_)
  rw [hed] at re1
  refine hv2 (show 0 ≤ ivn1 a0 2 ∧ ivn1 a0 2 ≤ 30 from W1.int ty1 2) (show ivn1 a0 2 = iv a0 2 from by rw [hin1]; exact congrFun (up0_a (ne_in t_a0.1 hqn1)) _) (fun ri1 ie1 => ?_)
  refine c_putr (x := (some qn1)) (k := 1) C ck_0 dJx4a65c_grow_92f84_56 w1_78 (by decide) rfl ty1 rfl rfl (by decide) rfl (by rfl) (by rfl) (fun rv1 pq1 => ⟨80, (by rw [Phi.putr sk1 pq1 ty1 rfl]; omega), ?_⟩)
  refine hv3 (W1.led pq1 ty1 rfl tqn1.1 clqn1 (by omega) (fun i hi => absurd hi (by omega))) (F1.putr X1 pq1 ty1 rfl) (show rv1 a0 1 = (some qn1) from by rw [pq1]; exact upr_s) (fun W2 F2 rp1 => ?_)
  have pl1 := Phi.le W2 sk1
  exact c_aret (x := some qn1) C dJx4a65c_grow_92f84_59 rfl (Or.inr ⟨_, rfl⟩) (by decide) (rom0 hph pl1 (by decide)) ⟨qn1, rfl, X1, F2, W2, tqn1, ⟨rp1, (by omega), (by omega), clqn1, (fun i hi => absurd hi (by omega))⟩⟩
set_option maxHeartbeats 4000000 in
set_option maxRecDepth 100000 in
theorem C_growB_22 {l : Launch} {G : GT} {mi : Nat} {sk : Nat → Nat} {L : List Nat} {cl ln : Nat → Nat} {iv : Nat → Nat → Int} {rv : Nat → Nat → Option Nat}  {a0 : Nat} {n : Int} {b0 : Nat} (hW : WT (g0 G) sk L cl ln iv rv) (hS : SKL sk L cl) (t_a0 : ty L cl a0 22) (t_b0 : ty L cl b0 1000) (h_n : -2147483648 ≤ n ∧ n ≤ 2147483647) (hed : rv a0 1 = some b0) (hcb : cl b0 = 1000 + 5 * a0 + 0) (hn : n = iv a0 2 + 1 ∧ iv a0 2 = ((ln b0 : Nat) : Int) ∧ iv a0 2 < 30) : Mc l G mi (Phi (g0 G) sk) PHM yJx4a65c_grow_92f84 cJx4a65c_grow_92f84 4 (some (.array (.object "java/lang/Object"))) 3 [.ref a0, .int (iI n)] L cl ln iv rv 80 (fun v L2 cl2 ln2 iv2 rv2 => ∃ f : Nat, v = some (.ref f) ∧ XT L cl ln L2 cl2 ln2 ∧ fT [22, 1000] L cl iv rv iv2 rv2 ∧ WT (g0 G) sk L2 cl2 ln2 iv2 rv2 ∧ ty L2 cl2 f 1000 ∧ (rv2 a0 1 = some f ∧ iv2 a0 2 = iv a0 2 ∧ iv a0 2 + 1 ≤ ((ln2 f : Nat) : Int) ∧ cl2 f = 1000 + 5 * a0 + 0 ∧ ∀ i : Nat, (i : Int) < iv a0 2 → rv2 f i = el rv a0 i)) := by
  refine Mc.mk (by decide) (Nat.le_of_ble_eq_true rfl) ?_
  intro p e s m args below meth c A C hM
  refine hv3 (Phi.le hW hS) (show XT L cl ln L cl ln from XT.refl) (show fT [22, 1000] L cl iv rv iv rv from fT.refl) (fun hph hX0 hF0 => ?_)
  refine c_aload_n (j := 0) (x := a0) C dJx4a65c_grow_92f84_0 rfl ?_
  refine c_getr (k := 1) C ck_0 dJx4a65c_grow_92f84_1 w1_78 (by decide) t_a0 rfl rfl (by decide) rfl hed ?_
  refine c_st (st2 := [.ref b0]) rfl ?_
  have ll1 : 10 ≤ ln b0 ∧ ln b0 ≤ 60 := hW.len t_b0 rfl
  refine c_alenO C dJx4a65c_grow_92f84_4 t_b0 rfl ?_
  refine c_istore_n (lv2 := [(2, .int (iI ((ln b0 : Nat) : Int))), (0, .ref a0), (1, .int (iI n))]) C dJx4a65c_grow_92f84_5 (by decide) rfl ?_
  refine c_iload_n (j := 0) C dJx4a65c_grow_92f84_6 rfl ?_
  refine c_if_gt (tgt := 20) C ⟨by omega, by omega⟩ dJx4a65c_grow_92f84_7 (by decide) (fun _ => ?_) (fun z => absurd z (by omega))
  refine c_iload_n (j := 0) C dJx4a65c_grow_92f84_20 rfl ?_
  refine c_iload_n (j := 2) C dJx4a65c_grow_92f84_21 rfl ?_
  refine c_iload_n (j := 0) C dJx4a65c_grow_92f84_22 rfl ?_
  refine c_isub C dJx4a65c_grow_92f84_23 ?_
  refine c_iload_n (j := 0) C dJx4a65c_grow_92f84_24 rfl ?_
  refine c_iconst C dJx4a65c_grow_92f84_25 ?_
  obtain ⟨zz1, hzz1, ezz1⟩ := iI_of (iI ((ln b0 : Nat) : Int) >>> (iI 1 &&& 31))
  refine c_ishr (w := iI zz1) C dJx4a65c_grow_92f84_26 ezz1 ?_
  have shzz1 : zz1 = ((ln b0 : Nat) : Int) / 2 := (iI_eq hzz1 ⟨by omega, by omega⟩).mp (ezz1.symm.trans (shr1 ⟨by omega, by omega⟩))
  refine d_callS (As := [.int (iI ((ln b0 : Nat) : Int)), .int (iI (n - ((ln b0 : Nat) : Int))), .int (iI zz1)]) (rest := []) C hM (C_newLength (i := ((ln b0 : Nat) : Int)) (n := n - ((ln b0 : Nat) : Int)) (x := zz1) hW hS  (by omega) (by omega) (by omega) (by show 0 ≤ ((ln b0 : Nat) : Int) ∧ ((ln b0 : Nat) : Int) ≤ 100000 ∧ 1 ≤ (n - ((ln b0 : Nat) : Int)) ∧ (n - ((ln b0 : Nat) : Int)) ≤ 100000 ∧ 0 ≤ zz1 ∧ zz1 ≤ 100000; omega)) dJx4a65c_grow_92f84_27 kS_Jx4a65c_73 rfl rfl (Nat.le_of_ble_eq_true rfl) ⟨(Nat.le_of_ble_eq_true rfl), (Nat.le_of_ble_eq_true rfl)⟩ hph hph (show 0 + 0 = 0 from rfl) (by decide) (fun rh1 Lh1 clh1 lnh1 ivh1 rvh1 h1 => ?_)
  obtain ⟨f1, rfl, rfl, rfl, rfl, rfl, rfl, rgf1, exf1⟩ := h1
  refine c_st (st2 := [.int (iI f1)]) rfl ?_
  have gf1 : ((n - ((ln b0 : Nat) : Int)) ≤ zz1 ∧ f1 = ((ln b0 : Nat) : Int) + zz1) ∨ (zz1 < (n - ((ln b0 : Nat) : Int)) ∧ f1 = ((ln b0 : Nat) : Int) + (n - ((ln b0 : Nat) : Int))) := exf1
  refine c_istore_n (lv2 := [(3, .int (iI f1)), (2, .int (iI ((ln b0 : Nat) : Int))), (0, .ref a0), (1, .int (iI n))]) C dJx4a65c_grow_92f84_30 (by decide) rfl ?_
  refine c_aload_n (j := 2) (x := a0) C dJx4a65c_grow_92f84_31 rfl ?_
  refine c_aload_n (j := 2) (x := a0) C dJx4a65c_grow_92f84_32 rfl ?_
  refine c_getr (k := 1) C ck_0 dJx4a65c_grow_92f84_33 w1_78 (by decide) t_a0 rfl rfl (by decide) rfl hed ?_
  refine c_st (st2 := [.ref b0, .ref a0]) rfl ?_
  refine c_iload_n (j := 0) C dJx4a65c_grow_92f84_36 rfl ?_
  refine c_callS (As := [.ref b0, .int (iI f1)]) (rest := [.ref a0]) C hM (Z_copyO2_22 (a0 := b0) (n := f1) hW hS t_b0 (by omega) (by show ((ln b0 : Nat) : Int) < f1 ∧ 10 ≤ f1 ∧ f1 ≤ 60; omega)) dJx4a65c_grow_92f84_37 kS_Jx4a65c_66 rfl rfl (Nat.le_of_ble_eq_true rfl) ⟨(Nat.le_of_ble_eq_true rfl), (Nat.le_of_ble_eq_true rfl)⟩ (rz1 hph hph (by omega)) (fun rh2 Lh2 clh2 lnh2 ivh2 rvh2 h2 => ⟨(0 + (16 + f1.toNat)), (zk1 (by obtain ⟨_, _, xlh2x, flh2x, Wh2x, _⟩ := h2; exact Phi.fr hW hS xlh2x flh2x rfl)), ?_⟩)
  obtain ⟨f2, rfl, xl2, fl2, W2, rgf2, exf2⟩ := h2
  refine hv3 (hF0.call hX0 fl2 rfl) (hX0.trans xl2) (xl2.skl hS) (fun F1 X1 sk1 => ?_)
  refine c_st (st2 := [.ref f2, .ref a0]) rfl ?_
  have gf2 : lnh2 f2 = f1.toNat ∧ clh2 f2 = cl b0 ∧ ∀ i : Nat, i < ln b0 → rvh2 f2 i = rv b0 i := exf2
  refine c_dup_x1 C dJx4a65c_grow_92f84_40 rfl rfl ?_
  refine hv2 (xl2.ty t_a0) (show rvh2 a0 1 = rv a0 1 from (fl2.r t_a0 rfl 1)) (fun ty1 re1 => ?_)
  rw [hed] at re1
  refine hv2 (show 0 ≤ ivh2 a0 2 ∧ ivh2 a0 2 ≤ 30 from W2.int ty1 2) (show ivh2 a0 2 = iv a0 2 from fl2.i t_a0 rfl 2) (fun ri1 ie1 => ?_)
  refine c_putr (x := (some f2)) (k := 1) C ck_0 dJx4a65c_grow_92f84_41 w1_78 (by decide) rfl ty1 rfl rfl (by decide) rfl (by rfl) (by rfl) (fun rv1 pq1 => ⟨80, (by rw [Phi.putr sk1 pq1 ty1 rfl]; omega), ?_⟩)
  have W3 := W2.led pq1 ty1 rfl rgf2.1 (exf2.2.1.trans hcb) (by omega) (fun i hi => by
      rw [exf2.2.2 i (by omega)]
      exact hW.2.2.2.2.1 a0 t_a0.1 (by rw [t_a0.2]; rfl) b0 hed i (by omega))
  refine hv3 (F1.putr X1 pq1 ty1 rfl) (show rv1 a0 1 = (some f2) from by rw [pq1]; exact upr_s) (Phi.le W3 sk1) (fun F2 rp1 pl1 => ?_)
  exact c_aret (x := some f2) C dJx4a65c_grow_92f84_44 rfl (Or.inr ⟨_, rfl⟩) (by decide) (rom0 hph pl1 (by decide)) ⟨f2, rfl, X1, F2, W3, rgf2, ⟨rp1, (by omega), (by omega), (exf2.2.1.trans hcb), (fun i hi => by rw [el_of hed, pq1, upr_a (ne_ty rgf2 ty1 (by decide))]; exact exf2.2.2 i (by omega))⟩⟩
set_option maxHeartbeats 4000000 in
set_option maxRecDepth 100000 in
theorem C_grow0A_22 {l : Launch} {G : GT} {mi : Nat} {sk : Nat → Nat} {L : List Nat} {cl ln : Nat → Nat} {iv : Nat → Nat → Int} {rv : Nat → Nat → Option Nat}  {a0 : Nat} (hW : WT (g0 G) sk L cl ln iv rv) (hS : SKL sk L cl) (t_a0 : ty L cl a0 22) (hed : rv a0 1 = some (g0 G)) (hn : iv a0 2 = 0) : Mc l G mi (Phi (g0 G) sk) PHM yJx4a65c_grow_d5877 cJx4a65c_grow_d5877 1 (some (.array (.object "java/lang/Object"))) 4 [.ref a0] L cl ln iv rv 80 (fun v L2 cl2 ln2 iv2 rv2 => ∃ f : Nat, v = some (.ref f) ∧ XT L cl ln L2 cl2 ln2 ∧ fT [22, 1000] L cl iv rv iv2 rv2 ∧ WT (g0 G) sk L2 cl2 ln2 iv2 rv2 ∧ ty L2 cl2 f 1000 ∧ (rv2 a0 1 = some f ∧ iv2 a0 2 = iv a0 2 ∧ iv a0 2 + 1 ≤ ((ln2 f : Nat) : Int) ∧ cl2 f = 1000 + 5 * a0 + 0 ∧ ∀ i : Nat, (i : Int) < iv a0 2 → rv2 f i = el rv a0 i)) := by
  refine Mc.mk (by decide) (Nat.le_of_ble_eq_true rfl) ?_
  intro p e s m args below meth c A C hM
  refine hv3 (Phi.le hW hS) (show XT L cl ln L cl ln from XT.refl) (show fT [22, 1000] L cl iv rv iv rv from fT.refl) (fun hph hX0 hF0 => ?_)
  refine c_aload_n (j := 0) (x := a0) C dJx4a65c_grow_d5877_0 rfl ?_
  refine c_aload_n (j := 0) (x := a0) C dJx4a65c_grow_d5877_1 rfl ?_
  have ri1 : 0 ≤ iv a0 2 ∧ iv a0 2 ≤ 30 := hW.int t_a0 2
  refine c_get (k := 2) C ck_0 dJx4a65c_grow_d5877_2 w1_79 (by decide) t_a0 rfl rfl (by decide) rfl ?_
  refine c_iconst C dJx4a65c_grow_d5877_5 ?_
  refine c_iadd C dJx4a65c_grow_d5877_6 ?_
  refine d_callV (As := [.int (iI ((iv a0 2) + 1))]) (rest := []) C hM (C_growA_22 (a0 := a0) (n := (iv a0 2) + 1) hW hS t_a0 (by omega) hed (by show ((iv a0 2) + 1) = 1 ∧ iv a0 2 = 0; omega)) dJx4a65c_grow_d5877_7 kV_Jx4a65c_69 rfl t_a0 rfl rfl (by decide) ck_0 rfl (Nat.le_of_ble_eq_true rfl) ⟨(Nat.le_of_ble_eq_true rfl), (Nat.le_of_ble_eq_true rfl)⟩ hph hph (show 0 + 80 = 80 from rfl) (by decide) (fun rh1 Lh1 clh1 lnh1 ivh1 rvh1 h1 => ?_)
  obtain ⟨f1, rfl, xl1, fl1, W1, rgf1, exf1⟩ := h1
  refine hv3 (hF0.call hX0 fl1 rfl) (hX0.trans xl1) (xl1.skl hS) (fun F1 X1 sk1 => ?_)
  refine c_st (st2 := [.ref f1]) rfl ?_
  refine hv5 (xl1.ty t_a0) (show rvh1 a0 1 = some f1 ∧ ivh1 a0 2 = iv a0 2 ∧ iv a0 2 + 1 ≤ ((lnh1 f1 : Nat) : Int) ∧ clh1 f1 = 1000 + 5 * a0 + 0 ∧ ∀ i : Nat, (i : Int) < iv a0 2 → rvh1 f1 i = el rv a0 i from exf1) (exf1.2.2.1) (exf1.2.1) (Phi.le W1 sk1) (fun ty1 gf1 gzf1 gyf1 pl1 => ?_)
  have ri2 : 0 ≤ ivh1 a0 2 ∧ ivh1 a0 2 ≤ 30 := W1.int ty1 2
  exact c_aret (x := some f1) C dJx4a65c_grow_d5877_10 rfl (Or.inr ⟨_, rfl⟩) (by decide) (rom0 hph pl1 (by decide)) ⟨f1, rfl, X1, F1, W1, rgf1, exf1⟩
set_option maxHeartbeats 4000000 in
set_option maxRecDepth 100000 in
theorem C_grow0B_22 {l : Launch} {G : GT} {mi : Nat} {sk : Nat → Nat} {L : List Nat} {cl ln : Nat → Nat} {iv : Nat → Nat → Int} {rv : Nat → Nat → Option Nat}  {a0 : Nat} {b0 : Nat} (hW : WT (g0 G) sk L cl ln iv rv) (hS : SKL sk L cl) (t_a0 : ty L cl a0 22) (t_b0 : ty L cl b0 1000) (hed : rv a0 1 = some b0) (hcb : cl b0 = 1000 + 5 * a0 + 0) (hn : iv a0 2 = ((ln b0 : Nat) : Int) ∧ iv a0 2 < 30) : Mc l G mi (Phi (g0 G) sk) PHM yJx4a65c_grow_d5877 cJx4a65c_grow_d5877 1 (some (.array (.object "java/lang/Object"))) 4 [.ref a0] L cl ln iv rv 80 (fun v L2 cl2 ln2 iv2 rv2 => ∃ f : Nat, v = some (.ref f) ∧ XT L cl ln L2 cl2 ln2 ∧ fT [22, 1000] L cl iv rv iv2 rv2 ∧ WT (g0 G) sk L2 cl2 ln2 iv2 rv2 ∧ ty L2 cl2 f 1000 ∧ (rv2 a0 1 = some f ∧ iv2 a0 2 = iv a0 2 ∧ iv a0 2 + 1 ≤ ((ln2 f : Nat) : Int) ∧ cl2 f = 1000 + 5 * a0 + 0 ∧ ∀ i : Nat, (i : Int) < iv a0 2 → rv2 f i = el rv a0 i)) := by
  refine Mc.mk (by decide) (Nat.le_of_ble_eq_true rfl) ?_
  intro p e s m args below meth c A C hM
  refine hv3 (Phi.le hW hS) (show XT L cl ln L cl ln from XT.refl) (show fT [22, 1000] L cl iv rv iv rv from fT.refl) (fun hph hX0 hF0 => ?_)
  refine c_aload_n (j := 0) (x := a0) C dJx4a65c_grow_d5877_0 rfl ?_
  refine c_aload_n (j := 0) (x := a0) C dJx4a65c_grow_d5877_1 rfl ?_
  have ri1 : 0 ≤ iv a0 2 ∧ iv a0 2 ≤ 30 := hW.int t_a0 2
  refine c_get (k := 2) C ck_0 dJx4a65c_grow_d5877_2 w1_79 (by decide) t_a0 rfl rfl (by decide) rfl ?_
  refine c_iconst C dJx4a65c_grow_d5877_5 ?_
  refine c_iadd C dJx4a65c_grow_d5877_6 ?_
  refine d_callV (As := [.int (iI ((iv a0 2) + 1))]) (rest := []) C hM (C_growB_22 (a0 := a0) (n := (iv a0 2) + 1) (b0 := b0) hW hS t_a0 t_b0 (by omega) hed hcb (by show ((iv a0 2) + 1) = iv a0 2 + 1 ∧ iv a0 2 = ((ln b0 : Nat) : Int) ∧ iv a0 2 < 30; omega)) dJx4a65c_grow_d5877_7 kV_Jx4a65c_69 rfl t_a0 rfl rfl (by decide) ck_0 rfl (Nat.le_of_ble_eq_true rfl) ⟨(Nat.le_of_ble_eq_true rfl), (Nat.le_of_ble_eq_true rfl)⟩ hph hph (show 0 + 80 = 80 from rfl) (by decide) (fun rh1 Lh1 clh1 lnh1 ivh1 rvh1 h1 => ?_)
  obtain ⟨f1, rfl, xl1, fl1, W1, rgf1, exf1⟩ := h1
  refine hv3 (hF0.call hX0 fl1 rfl) (hX0.trans xl1) (xl1.skl hS) (fun F1 X1 sk1 => ?_)
  refine c_st (st2 := [.ref f1]) rfl ?_
  refine hv5 (xl1.ty t_a0) (show rvh1 a0 1 = some f1 ∧ ivh1 a0 2 = iv a0 2 ∧ iv a0 2 + 1 ≤ ((lnh1 f1 : Nat) : Int) ∧ clh1 f1 = 1000 + 5 * a0 + 0 ∧ ∀ i : Nat, (i : Int) < iv a0 2 → rvh1 f1 i = el rv a0 i from exf1) (exf1.2.2.1) (exf1.2.1) (Phi.le W1 sk1) (fun ty1 gf1 gzf1 gyf1 pl1 => ?_)
  have ri2 : 0 ≤ ivh1 a0 2 ∧ ivh1 a0 2 ≤ 30 := W1.int ty1 2
  exact c_aret (x := some f1) C dJx4a65c_grow_d5877_10 rfl (Or.inr ⟨_, rfl⟩) (by decide) (rom0 hph pl1 (by decide)) ⟨f1, rfl, X1, F1, W1, rgf1, exf1⟩
set_option maxHeartbeats 4000000 in
set_option maxRecDepth 100000 in
theorem C_add3A_22 {l : Launch} {G : GT} {mi : Nat} {sk : Nat → Nat} {L : List Nat} {cl ln : Nat → Nat} {iv : Nat → Nat → Int} {rv : Nat → Nat → Option Nat}  {a0 : Nat} {x : Nat} {n : Int} (hW : WT (g0 G) sk L cl ln iv rv) (hS : SKL sk L cl) (t_a0 : ty L cl a0 22) (t_x : ty L cl x 100) (h_n : -2147483648 ≤ n ∧ n ≤ 2147483647) (hed : rv a0 1 = some (g0 G)) (hn : n = iv a0 2 ∧ n = 0) : Mc l G mi (Phi (g0 G) sk) PHM yJx4a65c_add_72be8 cJx4a65c_add_72be8 4 none 5 [.ref a0, .ref x, .ref (g0 G), .int (iI n)] L cl ln iv rv 80 (fun v L2 cl2 ln2 iv2 rv2 => v = none ∧ XT L cl ln L2 cl2 ln2 ∧ fT [22, 1000] L cl iv rv iv2 rv2 ∧ WT (g0 G) sk L2 cl2 ln2 iv2 rv2 ∧ (iv2 a0 2 = iv a0 2 + 1 ∧ el rv2 a0 (iv a0 2).toNat = some x ∧ ∀ i : Nat, (i : Int) < iv a0 2 → el rv2 a0 i = el rv a0 i)) := by
  refine Mc.mk (by decide) (Nat.le_of_ble_eq_true rfl) ?_
  intro p e s m args below meth c A C hM
  refine hv3 (Phi.le hW hS) (show XT L cl ln L cl ln from XT.refl) (show fT [22, 1000] L cl iv rv iv rv from fT.refl) (fun hph hX0 hF0 => ?_)
  refine c_iload_n (j := 3) C dJx4a65c_add_72be8_0 rfl ?_
  refine c_aload_n (j := 2) (x := g0 G) C dJx4a65c_add_72be8_1 rfl ?_
  refine c_tlen C dJx4a65c_add_72be8_2 ?_
  refine c_icmp_ne (tgt := 11) C ⟨by omega, by omega⟩ ⟨by decide, by decide⟩ dJx4a65c_add_72be8_3 (by decide) (fun z => absurd z (by omega)) (fun _ => ?_)
  refine c_aload_n (j := 0) (x := a0) C dJx4a65c_add_72be8_6 rfl ?_
  have ri1 : 0 ≤ iv a0 2 ∧ iv a0 2 ≤ 30 := hW.int t_a0 2
  refine d_callV (As := []) (rest := []) C hM (C_grow0A_22 (a0 := a0) hW hS t_a0  hed (by show iv a0 2 = 0; omega)) dJx4a65c_add_72be8_7 kV_Jx4a65c_129 rfl t_a0 rfl rfl (by decide) ck_0 rfl (Nat.le_of_ble_eq_true rfl) ⟨(Nat.le_of_ble_eq_true rfl), (Nat.le_of_ble_eq_true rfl)⟩ hph hph (show 0 + 80 = 80 from rfl) (by decide) (fun rh1 Lh1 clh1 lnh1 ivh1 rvh1 h1 => ?_)
  obtain ⟨f1, rfl, xl1, fl1, W1, rgf1, exf1⟩ := h1
  refine hv3 (hF0.call hX0 fl1 rfl) (hX0.trans xl1) (xl1.skl hS) (fun F1 X1 sk1 => ?_)
  refine c_st (st2 := [.ref f1]) rfl ?_
  refine hv4 (xl1.ty t_a0) (show rvh1 a0 1 = some f1 ∧ ivh1 a0 2 = iv a0 2 ∧ iv a0 2 + 1 ≤ ((lnh1 f1 : Nat) : Int) ∧ clh1 f1 = 1000 + 5 * a0 + 0 ∧ ∀ i : Nat, (i : Int) < iv a0 2 → rvh1 f1 i = el rv a0 i from exf1) (exf1.2.2.1) (exf1.2.1) (fun ty1 gf1 gzf1 gyf1 => ?_)
  have ri2 : 0 ≤ ivh1 a0 2 ∧ ivh1 a0 2 ≤ 30 := W1.int ty1 2
  refine c_astore_n (lv2 := [(2, .ref f1), (0, .ref a0), (1, .ref x), (3, .int (iI n))]) C dJx4a65c_add_72be8_10 (by decide) rfl ?_
  refine c_aload_n (j := 0) (x := f1) C dJx4a65c_add_72be8_11 rfl ?_
  refine c_iload_n (j := 3) C dJx4a65c_add_72be8_12 rfl ?_
  refine c_aload_n (j := 2) (x := x) C dJx4a65c_add_72be8_13 rfl ?_
  refine hv2 (show 10 ≤ lnh1 f1 ∧ lnh1 f1 ≤ 60 from W1.len rgf1 rfl) (xl1.ty t_x) (fun ll1 ty2 => ?_)
  refine c_aastO (z := n) C ck_10 w8_183t dJx4a65c_add_72be8_14 rgf1 rfl ty2 rfl rfl (by decide) (by omega) (by omega) (by omega) (fun rv1 pq1 => ⟨80, (by rw [Phi.putr sk1 pq1 rgf1 rfl]; exact Nat.le_refl _), ?_⟩)
  refine hv2 (W1.lset pq1 rgf1 (by decide) ty2) (F1.putr X1 pq1 rgf1 rfl) (fun W2 F2 => ?_)
  refine c_aload_n (j := 1) (x := a0) C dJx4a65c_add_72be8_15 rfl ?_
  refine c_iload_n (j := 3) C dJx4a65c_add_72be8_16 rfl ?_
  refine c_iconst C dJx4a65c_add_72be8_17 ?_
  refine c_iadd C dJx4a65c_add_72be8_18 ?_
  refine c_put (z := n + 1) (k := 2) C ck_0 dJx4a65c_add_72be8_19 w1_79 (by decide) rfl ty1 rfl rfl (by decide) rfl (by rfl) (by rfl) (fun iv1 pq2 => ?_)
  have re1 : rv1 a0 1 = rvh1 a0 1 := (by rw [pq1]; exact congrFun (upr_a (ne_ty ty1 rgf1 (by decide))) _)
  rw [exf1.1] at re1
  refine hv3 (show rv1 f1 (ivh1 a0 2).toNat = some x from by rw [show (ivh1 a0 2).toNat = n.toNat by omega, pq1]; exact upr_s) (F2.puti X1 pq2 ty1 rfl) (show iv1 a0 2 = n + 1 from by rw [pq2]; exact up2_s) (fun px1 F3 ie2 => ?_)
  have W3 := W2.lapp pq2 ty1 rfl re1 rgf1.1 px1 (show (n + 1) = ivh1 a0 2 + 1 by omega) (show ivh1 a0 2 + 1 ≤ 30 by omega) (by omega) rfl
  refine hv2 (show 0 ≤ iv1 a0 2 ∧ iv1 a0 2 ≤ 30 from W3.int ty1 2) (Phi.le W3 sk1) (fun ri3 pl1 => ?_)
  exact c_vret C dJx4a65c_add_72be8_22 rfl (by decide) (rom0 hph pl1 (by decide)) ⟨rfl, X1, F3, W3, ⟨by omega, (by rw [el_of re1, show (iv a0 2).toNat = n.toNat by omega, pq1]; exact upr_s), fun i hi => (by rw [el_of re1, pq1, upr_j (by omega)]; exact exf1.2.2.2.2 i hi)⟩⟩
set_option maxHeartbeats 4000000 in
set_option maxRecDepth 100000 in
theorem C_add3B_22 {l : Launch} {G : GT} {mi : Nat} {sk : Nat → Nat} {L : List Nat} {cl ln : Nat → Nat} {iv : Nat → Nat → Int} {rv : Nat → Nat → Option Nat}  {a0 : Nat} {x : Nat} {b0 : Nat} {n : Int} (hW : WT (g0 G) sk L cl ln iv rv) (hS : SKL sk L cl) (t_a0 : ty L cl a0 22) (t_x : ty L cl x 100) (t_b0 : ty L cl b0 1000) (h_n : -2147483648 ≤ n ∧ n ≤ 2147483647) (hed : rv a0 1 = some b0) (hcb : cl b0 = 1000 + 5 * a0 + 0) (hn : n = iv a0 2 ∧ 0 ≤ n ∧ n ≤ ((ln b0 : Nat) : Int) ∧ n < 30) : Mc l G mi (Phi (g0 G) sk) PHM yJx4a65c_add_72be8 cJx4a65c_add_72be8 4 none 5 [.ref a0, .ref x, .ref b0, .int (iI n)] L cl ln iv rv 80 (fun v L2 cl2 ln2 iv2 rv2 => v = none ∧ XT L cl ln L2 cl2 ln2 ∧ fT [22, 1000] L cl iv rv iv2 rv2 ∧ WT (g0 G) sk L2 cl2 ln2 iv2 rv2 ∧ (iv2 a0 2 = iv a0 2 + 1 ∧ el rv2 a0 (iv a0 2).toNat = some x ∧ ∀ i : Nat, (i : Int) < iv a0 2 → el rv2 a0 i = el rv a0 i)) := by
  refine Mc.mk (by decide) (Nat.le_of_ble_eq_true rfl) ?_
  intro p e s m args below meth c A C hM
  refine hv3 (Phi.le hW hS) (show XT L cl ln L cl ln from XT.refl) (show fT [22, 1000] L cl iv rv iv rv from fT.refl) (fun hph hX0 hF0 => ?_)
  refine c_iload_n (j := 3) C dJx4a65c_add_72be8_0 rfl ?_
  refine c_aload_n (j := 2) (x := b0) C dJx4a65c_add_72be8_1 rfl ?_
  have ll1 : 10 ≤ ln b0 ∧ ln b0 ≤ 60 := hW.len t_b0 rfl
  refine c_alenO C dJx4a65c_add_72be8_2 t_b0 rfl ?_
  refine c_icmp_ne (tgt := 11) C ⟨by omega, by omega⟩ ⟨by omega, by omega⟩ dJx4a65c_add_72be8_3 (by decide) (fun c1 => ?_) (fun c1 => ?_)
  · refine c_aload_n (j := 2) (x := b0) C dJx4a65c_add_72be8_11 rfl ?_
    refine c_iload_n (j := 3) C dJx4a65c_add_72be8_12 rfl ?_
    refine c_aload_n (j := 1) (x := x) C dJx4a65c_add_72be8_13 rfl ?_
    refine c_aastO (z := n) C ck_10 w8_183t dJx4a65c_add_72be8_14 t_b0 rfl t_x rfl rfl (by decide) (by omega) (by omega) (by omega) (fun rv1 pq1 => ⟨0, (by rw [Phi.putr hS pq1 t_b0 rfl]; exact Nat.le_refl _), ?_⟩)
    refine hv2 (hW.lset pq1 t_b0 (by decide) t_x) (hF0.putr hX0 pq1 t_b0 rfl) (fun W1 F1 => ?_)
    refine c_aload_n (j := 0) (x := a0) C dJx4a65c_add_72be8_15 rfl ?_
    refine c_iload_n (j := 3) C dJx4a65c_add_72be8_16 rfl ?_
    refine c_iconst C dJx4a65c_add_72be8_17 ?_
    refine c_iadd C dJx4a65c_add_72be8_18 ?_
    refine c_put (z := n + 1) (k := 2) C ck_0 dJx4a65c_add_72be8_19 w1_79 (by decide) rfl t_a0 rfl rfl (by decide) rfl (by rfl) (by rfl) (fun iv1 pq2 => ?_)
    have re1 : rv1 a0 1 = rv a0 1 := (by rw [pq1]; exact congrFun (upr_a (ne_ty t_a0 t_b0 (by decide))) _)
    rw [hed] at re1
    refine hv3 (show rv1 b0 (iv a0 2).toNat = some x from by rw [show (iv a0 2).toNat = n.toNat by omega, pq1]; exact upr_s) (F1.puti hX0 pq2 t_a0 rfl) (show iv1 a0 2 = n + 1 from by rw [pq2]; exact up2_s) (fun px1 F2 ie1 => ?_)
    have W2 := W1.lapp pq2 t_a0 rfl re1 t_b0.1 px1 (show (n + 1) = iv a0 2 + 1 by omega) (show iv a0 2 + 1 ≤ 30 by omega) (by omega) rfl
    refine hv2 (show 0 ≤ iv1 a0 2 ∧ iv1 a0 2 ≤ 30 from W2.int t_a0 2) (Phi.le W2 hS) (fun ri1 pl1 => ?_)
    exact c_vret C dJx4a65c_add_72be8_22 rfl (by decide) (rom0 hph pl1 (by decide)) ⟨rfl, hX0, F2, W2, ⟨by omega, (by rw [el_of re1, show (iv a0 2).toNat = n.toNat by omega, pq1]; exact upr_s), fun i hi => (by rw [el_of re1, pq1, upr_j (by omega)]; exact (el_of hed).symm)⟩⟩
  · refine c_aload_n (j := 0) (x := a0) C dJx4a65c_add_72be8_6 rfl ?_
    have ri2 : 0 ≤ iv a0 2 ∧ iv a0 2 ≤ 30 := hW.int t_a0 2
    refine d_callV (As := []) (rest := []) C hM (C_grow0B_22 (a0 := a0) (b0 := b0) hW hS t_a0 t_b0  hed hcb (by show iv a0 2 = ((ln b0 : Nat) : Int) ∧ iv a0 2 < 30; omega)) dJx4a65c_add_72be8_7 kV_Jx4a65c_129 rfl t_a0 rfl rfl (by decide) ck_0 rfl (Nat.le_of_ble_eq_true rfl) ⟨(Nat.le_of_ble_eq_true rfl), (Nat.le_of_ble_eq_true rfl)⟩ hph hph (show 0 + 80 = 80 from rfl) (by decide) (fun rh1 Lh1 clh1 lnh1 ivh1 rvh1 h1 => ?_)
    obtain ⟨f1, rfl, xl1, fl1, W3, rgf1, exf1⟩ := h1
    refine hv3 (hF0.call hX0 fl1 rfl) (hX0.trans xl1) (xl1.skl hS) (fun F3 X1 sk1 => ?_)
    refine c_st (st2 := [.ref f1]) rfl ?_
    refine hv4 (xl1.ty t_a0) (show rvh1 a0 1 = some f1 ∧ ivh1 a0 2 = iv a0 2 ∧ iv a0 2 + 1 ≤ ((lnh1 f1 : Nat) : Int) ∧ clh1 f1 = 1000 + 5 * a0 + 0 ∧ ∀ i : Nat, (i : Int) < iv a0 2 → rvh1 f1 i = el rv a0 i from exf1) (exf1.2.2.1) (exf1.2.1) (fun ty1 gf1 gzf1 gyf1 => ?_)
    have ri3 : 0 ≤ ivh1 a0 2 ∧ ivh1 a0 2 ≤ 30 := W3.int ty1 2
    refine c_astore_n (lv2 := [(2, .ref f1), (0, .ref a0), (1, .ref x), (3, .int (iI n))]) C dJx4a65c_add_72be8_10 (by decide) rfl ?_
    refine c_aload_n (j := 0) (x := f1) C dJx4a65c_add_72be8_11 rfl ?_
    refine c_iload_n (j := 3) C dJx4a65c_add_72be8_12 rfl ?_
    refine c_aload_n (j := 2) (x := x) C dJx4a65c_add_72be8_13 rfl ?_
    refine hv2 (show 10 ≤ lnh1 f1 ∧ lnh1 f1 ≤ 60 from W3.len rgf1 rfl) (xl1.ty t_x) (fun ll2 ty2 => ?_)
    refine c_aastO (z := n) C ck_10 w8_183t dJx4a65c_add_72be8_14 rgf1 rfl ty2 rfl rfl (by decide) (by omega) (by omega) (by omega) (fun rv2 pq3 => ⟨80, (by rw [Phi.putr sk1 pq3 rgf1 rfl]; exact Nat.le_refl _), ?_⟩)
    refine hv2 (W3.lset pq3 rgf1 (by decide) ty2) (F3.putr X1 pq3 rgf1 rfl) (fun W4 F4 => ?_)
    refine c_aload_n (j := 1) (x := a0) C dJx4a65c_add_72be8_15 rfl ?_
    refine c_iload_n (j := 3) C dJx4a65c_add_72be8_16 rfl ?_
    refine c_iconst C dJx4a65c_add_72be8_17 ?_
    refine c_iadd C dJx4a65c_add_72be8_18 ?_
    refine c_put (z := n + 1) (k := 2) C ck_0 dJx4a65c_add_72be8_19 w1_79 (by decide) rfl ty1 rfl rfl (by decide) rfl (by rfl) (by rfl) (fun iv2 pq4 => ?_)
    have re2 : rv2 a0 1 = rvh1 a0 1 := (by rw [pq3]; exact congrFun (upr_a (ne_ty ty1 rgf1 (by decide))) _)
    rw [exf1.1] at re2
    refine hv3 (show rv2 f1 (ivh1 a0 2).toNat = some x from by rw [show (ivh1 a0 2).toNat = n.toNat by omega, pq3]; exact upr_s) (F4.puti X1 pq4 ty1 rfl) (show iv2 a0 2 = n + 1 from by rw [pq4]; exact up2_s) (fun px2 F5 ie3 => ?_)
    have W5 := W4.lapp pq4 ty1 rfl re2 rgf1.1 px2 (show (n + 1) = ivh1 a0 2 + 1 by omega) (show ivh1 a0 2 + 1 ≤ 30 by omega) (by omega) rfl
    refine hv2 (show 0 ≤ iv2 a0 2 ∧ iv2 a0 2 ≤ 30 from W5.int ty1 2) (Phi.le W5 sk1) (fun ri4 pl2 => ?_)
    exact c_vret C dJx4a65c_add_72be8_22 rfl (by decide) (rom0 hph pl2 (by decide)) ⟨rfl, X1, F5, W5, ⟨by omega, (by rw [el_of re2, show (iv a0 2).toNat = n.toNat by omega, pq3]; exact upr_s), fun i hi => (by rw [el_of re2, pq3, upr_j (by omega)]; exact exf1.2.2.2.2 i hi)⟩⟩
set_option maxHeartbeats 4000000 in
set_option maxRecDepth 100000 in
theorem C_add_22 {l : Launch} {G : GT} {mi : Nat} {sk : Nat → Nat} {L : List Nat} {cl ln : Nat → Nat} {iv : Nat → Nat → Int} {rv : Nat → Nat → Option Nat}  {a0 : Nat} {x : Nat} (hW : WT (g0 G) sk L cl ln iv rv) (hS : SKL sk L cl) (t_a0 : ty L cl a0 22) (t_x : ty L cl x 100) (hn : iv a0 2 < 30) : Mc l G mi (Phi (g0 G) sk) PHM yJx4a65c_add_9ea2d cJx4a65c_add_9ea2d 2 (some .boolean) 6 [.ref a0, .ref x] L cl ln iv rv 80 (fun v L2 cl2 ln2 iv2 rv2 => ∃ f : Int, v = some (.int (iI f)) ∧ XT L cl ln L2 cl2 ln2 ∧ fT [22, 1000] L cl iv rv iv2 rv2 ∧ WT (g0 G) sk L2 cl2 ln2 iv2 rv2 ∧ (f = 0 ∨ f = 1) ∧ (iv2 a0 2 = iv a0 2 + 1 ∧ el rv2 a0 (iv a0 2).toNat = some x ∧ ∀ i : Nat, (i : Int) < iv a0 2 → el rv2 a0 i = el rv a0 i)) := by
  refine Mc.mk (by decide) (Nat.le_of_ble_eq_true rfl) ?_
  intro p e s m args below meth c A C hM
  refine hv3 (Phi.le hW hS) (show XT L cl ln L cl ln from XT.refl) (show fT [22, 1000] L cl iv rv iv rv from fT.refl) (fun hph hX0 hF0 => ?_)
  refine c_aload_n (j := 0) (x := a0) C dJx4a65c_add_9ea2d_0 rfl ?_
  refine c_dup C dJx4a65c_add_9ea2d_1 rfl ?_
  have ri1 : (-2147483648) ≤ iv a0 0 ∧ iv a0 0 ≤ 2147483647 := hW.int t_a0 0
  refine c_getU (k := 0) C ck_0 dJx4a65c_add_9ea2d_2 w1_81 w1_82 (by decide) t_a0 rfl rfl (by decide) rfl ?_
  refine c_iconst C dJx4a65c_add_9ea2d_5 ?_
  refine c_iadd C dJx4a65c_add_9ea2d_6 ?_
  obtain ⟨zz1, hzz1, ezz1⟩ := iI_of (iI ((iv a0 0) + 1))
  refine c_st (st2 := [.int (iI zz1), .ref a0]) (by rw [ezz1]) ?_
  refine c_putU (z := zz1) (k := 0) C ck_0 dJx4a65c_add_9ea2d_7 w1_81 w1_82 (by decide) rfl t_a0 rfl rfl (by decide) rfl (by rfl) (by rfl) (fun iv1 pq1 => ?_)
  refine hv2 (hW.puti pq1 t_a0 (show (-2147483648) ≤ zz1 ∧ zz1 ≤ 2147483647 by omega) rfl) (hF0.puti hX0 pq1 t_a0 rfl) (fun W1 F1 => ?_)
  refine c_aload_n (j := 0) (x := a0) C dJx4a65c_add_9ea2d_10 rfl ?_
  refine c_aload_n (j := 1) (x := x) C dJx4a65c_add_9ea2d_11 rfl ?_
  refine c_aload_n (j := 0) (x := a0) C dJx4a65c_add_9ea2d_12 rfl ?_
  refine hv2 (show 0 ≤ iv1 a0 2 ∧ iv1 a0 2 ≤ 30 from W1.int t_a0 2) (show iv1 a0 2 = iv a0 2 from by rw [pq1]; exact up2_j (by decide)) (fun ri2 ie1 => ?_)
  rcases W1.edc t_a0 rfl rfl with ⟨eq1, zeb1⟩ | ⟨eb1, eq1, teb1, ceb1, zeb1⟩
  · refine c_getr (k := 1) C ck_0 dJx4a65c_add_9ea2d_13 w1_78 (by decide) t_a0 rfl rfl (by decide) rfl eq1 ?_
    refine c_st (st2 := [.ref (g0 G), .ref x, .ref a0]) rfl ?_
    refine c_aload_n (j := 0) (x := a0) C dJx4a65c_add_9ea2d_16 rfl ?_
    refine c_get (k := 2) C ck_0 dJx4a65c_add_9ea2d_17 w1_79 (by decide) t_a0 rfl rfl (by decide) rfl ?_
    refine d_callV (As := [.ref x, .ref (g0 G), .int (iI (iv1 a0 2))]) (rest := []) C hM (C_add3A_22 (a0 := a0) (x := x) (n := iv1 a0 2) W1 hS t_a0 t_x (by omega) eq1 (by show (iv1 a0 2) = iv1 a0 2 ∧ (iv1 a0 2) = 0; omega)) dJx4a65c_add_9ea2d_20 kV_Jx4a65c_131 rfl t_a0 rfl rfl (by decide) ck_0 rfl (Nat.le_of_ble_eq_true rfl) ⟨(Nat.le_of_ble_eq_true rfl), (Nat.le_of_ble_eq_true rfl)⟩ hph hph (show 0 + 80 = 80 from rfl) (by decide) (fun rh1 Lh1 clh1 lnh1 ivh1 rvh1 h1 => ?_)
    obtain ⟨rfl, xl1, fl1, W2, exf1⟩ := h1
    refine hv3 (F1.call hX0 fl1 rfl) (hX0.trans xl1) (xl1.skl hS) (fun F2 X1 sk1 => ?_)
    refine c_st (st2 := []) rfl ?_
    refine hv2 (xl1.ty t_a0) (show ivh1 a0 2 = iv1 a0 2 + 1 ∧ el rvh1 a0 (iv1 a0 2).toNat = some x ∧ ∀ i : Nat, (i : Int) < iv1 a0 2 → el rvh1 a0 i = el rv a0 i from exf1) (fun ty1 gf1 => ?_)
    have ri3 : 0 ≤ ivh1 a0 2 ∧ ivh1 a0 2 ≤ 30 := W2.int ty1 2
    refine c_iconst C dJx4a65c_add_9ea2d_23 ?_
    have pl1 := Phi.le W2 sk1
    exact c_zret C dJx4a65c_add_9ea2d_24 rfl (Or.inr rfl) (by decide) (rom0 hph pl1 (by decide)) ⟨1, rfl, X1, F2, W2, (Or.inr rfl), ⟨by omega, (by rw [show (iv a0 2).toNat = (iv1 a0 2).toNat by omega]; exact exf1.2.1), fun i hi => exf1.2.2 i (by omega)⟩⟩
  · have lneb1 : 10 ≤ ln eb1 ∧ ln eb1 ≤ 60 := W1.len teb1 rfl
    refine c_getr (k := 1) C ck_0 dJx4a65c_add_9ea2d_13 w1_78 (by decide) t_a0 rfl rfl (by decide) rfl eq1 ?_
    refine c_st (st2 := [.ref eb1, .ref x, .ref a0]) rfl ?_
    refine c_aload_n (j := 0) (x := a0) C dJx4a65c_add_9ea2d_16 rfl ?_
    refine c_get (k := 2) C ck_0 dJx4a65c_add_9ea2d_17 w1_79 (by decide) t_a0 rfl rfl (by decide) rfl ?_
    refine d_callV (As := [.ref x, .ref eb1, .int (iI (iv1 a0 2))]) (rest := []) C hM (C_add3B_22 (a0 := a0) (x := x) (b0 := eb1) (n := iv1 a0 2) W1 hS t_a0 t_x teb1 (by omega) eq1 ceb1 (by show (iv1 a0 2) = iv1 a0 2 ∧ 0 ≤ (iv1 a0 2) ∧ (iv1 a0 2) ≤ ((ln eb1 : Nat) : Int) ∧ (iv1 a0 2) < 30; omega)) dJx4a65c_add_9ea2d_20 kV_Jx4a65c_131 rfl t_a0 rfl rfl (by decide) ck_0 rfl (Nat.le_of_ble_eq_true rfl) ⟨(Nat.le_of_ble_eq_true rfl), (Nat.le_of_ble_eq_true rfl)⟩ hph hph (show 0 + 80 = 80 from rfl) (by decide) (fun rh2 Lh2 clh2 lnh2 ivh2 rvh2 h2 => ?_)
    obtain ⟨rfl, xl2, fl2, W3, exf2⟩ := h2
    refine hv3 (F1.call hX0 fl2 rfl) (hX0.trans xl2) (xl2.skl hS) (fun F3 X2 sk2 => ?_)
    refine c_st (st2 := []) rfl ?_
    refine hv2 (xl2.ty t_a0) (show ivh2 a0 2 = iv1 a0 2 + 1 ∧ el rvh2 a0 (iv1 a0 2).toNat = some x ∧ ∀ i : Nat, (i : Int) < iv1 a0 2 → el rvh2 a0 i = el rv a0 i from exf2) (fun ty2 gf2 => ?_)
    have ri4 : 0 ≤ ivh2 a0 2 ∧ ivh2 a0 2 ≤ 30 := W3.int ty2 2
    refine c_iconst C dJx4a65c_add_9ea2d_23 ?_
    have pl2 := Phi.le W3 sk2
    exact c_zret C dJx4a65c_add_9ea2d_24 rfl (Or.inr rfl) (by decide) (rom0 hph pl2 (by decide)) ⟨1, rfl, X2, F3, W3, (Or.inr rfl), ⟨by omega, (by rw [show (iv a0 2).toNat = (iv1 a0 2).toNat by omega]; exact exf2.2.1), fun i hi => exf2.2.2 i (by omega)⟩⟩
set_option maxHeartbeats 4000000 in
set_option maxRecDepth 100000 in
theorem C_fastRemove_22 {l : Launch} {G : GT} {mi : Nat} {sk : Nat → Nat} {L : List Nat} {cl ln : Nat → Nat} {iv : Nat → Nat → Int} {rv : Nat → Nat → Option Nat}  {a0 : Nat} {b0 : Nat} {i : Int} (hW : WT (g0 G) sk L cl ln iv rv) (hS : SKL sk L cl) (t_a0 : ty L cl a0 22) (t_b0 : ty L cl b0 1000) (h_i : -2147483648 ≤ i ∧ i ≤ 2147483647) (hed : rv a0 1 = some b0) (hcb : cl b0 = 1000 + 5 * a0 + 0) (hi : i = iv a0 2 - 1 ∧ 0 ≤ i ∧ iv a0 2 ≤ ((ln b0 : Nat) : Int)) : Mc l G mi (Phi (g0 G) sk) PHM yJx4a65c_fastRemove_b59b0 cJx4a65c_fastRemove_b59b0 4 none 0 [.ref a0, .ref b0, .int (iI i)] L cl ln iv rv 0 (fun v L2 cl2 ln2 iv2 rv2 => v = none ∧ L = L2 ∧ cl = cl2 ∧ ln = ln2 ∧ fT [22, 1000] L cl iv rv iv2 rv2 ∧ WT (g0 G) sk L2 cl2 ln2 iv2 rv2 ∧ (iv2 a0 2 = iv a0 2 - 1 ∧ ∀ j : Nat, (j : Int) < iv a0 2 - 1 → el rv2 a0 j = el rv a0 j)) := by
  refine Mc.mk (by decide) (Nat.le_of_ble_eq_true rfl) ?_
  intro p e s m args below meth c A C hM
  refine hv3 (Phi.le hW hS) (show XT L cl ln L cl ln from XT.refl) (show fT [22, 1000] L cl iv rv iv rv from fT.refl) (fun hph hX0 hF0 => ?_)
  refine c_aload_n (j := 0) (x := a0) C dJx4a65c_fastRemove_b59b0_0 rfl ?_
  refine c_dup C dJx4a65c_fastRemove_b59b0_1 rfl ?_
  have ri1 : (-2147483648) ≤ iv a0 0 ∧ iv a0 0 ≤ 2147483647 := hW.int t_a0 0
  refine c_getU (k := 0) C ck_0 dJx4a65c_fastRemove_b59b0_2 w1_81 w1_82 (by decide) t_a0 rfl rfl (by decide) rfl ?_
  refine c_iconst C dJx4a65c_fastRemove_b59b0_5 ?_
  refine c_iadd C dJx4a65c_fastRemove_b59b0_6 ?_
  obtain ⟨zz1, hzz1, ezz1⟩ := iI_of (iI ((iv a0 0) + 1))
  refine c_st (st2 := [.int (iI zz1), .ref a0]) (by rw [ezz1]) ?_
  refine c_putU (z := zz1) (k := 0) C ck_0 dJx4a65c_fastRemove_b59b0_7 w1_81 w1_82 (by decide) rfl t_a0 rfl rfl (by decide) rfl (by rfl) (by rfl) (fun iv1 pq1 => ?_)
  refine hv2 (hW.puti pq1 t_a0 (show (-2147483648) ≤ zz1 ∧ zz1 ≤ 2147483647 by omega) rfl) (hF0.puti hX0 pq1 t_a0 rfl) (fun W1 F1 => ?_)
  refine c_aload_n (j := 0) (x := a0) C dJx4a65c_fastRemove_b59b0_10 rfl ?_
  refine hv2 (show 0 ≤ iv1 a0 2 ∧ iv1 a0 2 ≤ 30 from W1.int t_a0 2) (show iv1 a0 2 = iv a0 2 from by rw [pq1]; exact up2_j (by decide)) (fun ri2 ie1 => ?_)
  refine c_get (k := 2) C ck_0 dJx4a65c_fastRemove_b59b0_11 w1_79 (by decide) t_a0 rfl rfl (by decide) rfl ?_
  refine c_iconst C dJx4a65c_fastRemove_b59b0_14 ?_
  refine c_isub C dJx4a65c_fastRemove_b59b0_15 ?_
  refine c_dup C dJx4a65c_fastRemove_b59b0_16 rfl ?_
  refine c_istore_n (lv2 := [(3, .int (iI ((iv1 a0 2) - 1))), (0, .ref a0), (1, .ref b0), (2, .int (iI i))]) C dJx4a65c_fastRemove_b59b0_17 (by decide) rfl ?_
  refine c_iload_n (j := 3) C dJx4a65c_fastRemove_b59b0_18 rfl ?_
  refine c_icmp_le (tgt := 34) C ⟨by omega, by omega⟩ ⟨by omega, by omega⟩ dJx4a65c_fastRemove_b59b0_19 (by decide) (fun _ => ?_) (fun z => absurd z (by omega))
  refine c_aload_n (j := 2) (x := b0) C dJx4a65c_fastRemove_b59b0_34 rfl ?_
  refine c_aload_n (j := 1) (x := a0) C dJx4a65c_fastRemove_b59b0_35 rfl ?_
  refine c_iload_n (j := 0) C dJx4a65c_fastRemove_b59b0_36 rfl ?_
  refine c_dup_x1 C dJx4a65c_fastRemove_b59b0_37 rfl rfl ?_
  refine c_put (z := (iv1 a0 2) - 1) (k := 2) C ck_0 dJx4a65c_fastRemove_b59b0_38 w1_79 (by decide) rfl t_a0 rfl rfl (by decide) rfl (by rfl) (by rfl) (fun iv2 pq2 => ?_)
  refine hv2 (W1.lsz pq2 t_a0 rfl (show 0 ≤ ((iv1 a0 2) - 1) ∧ ((iv1 a0 2) - 1) ≤ iv1 a0 2 by omega)) (F1.puti hX0 pq2 t_a0 rfl) (fun W2 F2 => ?_)
  refine c_null C dJx4a65c_fastRemove_b59b0_41 ?_
  have ll1 : 10 ≤ ln b0 ∧ ln b0 ≤ 60 := W2.len t_b0 rfl
  refine c_aastNO (z := (iv1 a0 2) - 1) C dJx4a65c_fastRemove_b59b0_42 t_b0 rfl (by omega) (by omega) (by omega) (fun rv1 pq3 => ⟨0, (by rw [Phi.putr hS pq3 t_b0 rfl]; exact Nat.le_refl _), ?_⟩)
  refine hv4 (show 0 ≤ iv2 a0 2 ∧ iv2 a0 2 ≤ 30 from W2.int t_a0 2) (show iv2 a0 2 = (iv1 a0 2) - 1 from by rw [pq2]; exact up2_s) (F2.putr hX0 pq3 t_b0 rfl) (show rv1 a0 1 = rv a0 1 from (by rw [pq3]; exact congrFun (upr_a (ne_ty t_a0 t_b0 (by decide))) _)) (fun ri3 ie2 F3 re1 => ?_)
  have W3 := W2.lnull (a := a0) (k := 0) pq3 t_b0 (by decide) rfl hcb (by decide) (show iv2 a0 2 ≤ ((((iv1 a0 2) - 1).toNat : Nat) : Int) by omega)
  rw [hed] at re1
  have pl1 := Phi.le W3 hS
  exact c_vret C dJx4a65c_fastRemove_b59b0_43 rfl (by decide) (rom0 hph pl1 (by decide)) ⟨rfl, rfl, rfl, rfl, F3, W3, ⟨by omega, fun j hj => (by rw [el_of re1, el_of hed, pq3, upr_j (by omega)])⟩⟩
set_option maxHeartbeats 4000000 in
set_option maxRecDepth 100000 in
theorem C_remove_22 {l : Launch} {G : GT} {mi : Nat} {sk : Nat → Nat} {L : List Nat} {cl ln : Nat → Nat} {iv : Nat → Nat → Int} {rv : Nat → Nat → Option Nat}  {a0 : Nat} {i : Int} (hW : WT (g0 G) sk L cl ln iv rv) (hS : SKL sk L cl) (t_a0 : ty L cl a0 22) (h_i : -2147483648 ≤ i ∧ i ≤ 2147483647) (hi : i = iv a0 2 - 1 ∧ 0 ≤ i) : Mc l G mi (Phi (g0 G) sk) PHM yJx4a65c_remove_915e3 cJx4a65c_remove_915e3 4 (some (.object "java/lang/Object")) 2 [.ref a0, .int (iI i)] L cl ln iv rv 0 (fun v L2 cl2 ln2 iv2 rv2 => ∃ f : Nat, v = some (.ref f) ∧ L = L2 ∧ cl = cl2 ∧ ln = ln2 ∧ fT [22, 1000] L cl iv rv iv2 rv2 ∧ WT (g0 G) sk L2 cl2 ln2 iv2 rv2 ∧ ty L2 cl2 f 100 ∧ (iv2 a0 2 = iv a0 2 - 1 ∧ ∀ j : Nat, (j : Int) < iv a0 2 - 1 → el rv2 a0 j = el rv a0 j) ∧ (el rv a0 (iv a0 2 - 1).toNat = some f)) := by
  refine Mc.mk (by decide) (Nat.le_of_ble_eq_true rfl) ?_
  intro p e s m args below meth c A C hM
  refine hv3 (Phi.le hW hS) (show XT L cl ln L cl ln from XT.refl) (show fT [22, 1000] L cl iv rv iv rv from fT.refl) (fun hph hX0 hF0 => ?_)
  refine c_iload_n (j := 1) C dJx4a65c_remove_915e3_0 rfl ?_
  refine c_aload_n (j := 0) (x := a0) C dJx4a65c_remove_915e3_1 rfl ?_
  have ri1 : 0 ≤ iv a0 2 ∧ iv a0 2 ≤ 30 := hW.int t_a0 2
  refine c_get (k := 2) C ck_0 dJx4a65c_remove_915e3_2 w1_79 (by decide) t_a0 rfl rfl (by decide) rfl ?_
  refine d_callS (As := [.int (iI i), .int (iI (iv a0 2))]) (rest := []) C hM (C_checkIndex2 (i := i) (n := iv a0 2) hW hS  (by omega) (by omega) (by show 0 ≤ i ∧ i < (iv a0 2); omega)) dJx4a65c_remove_915e3_5 kS_Jx4a65c_118 rfl rfl (Nat.le_of_ble_eq_true rfl) ⟨(Nat.le_of_ble_eq_true rfl), (Nat.le_of_ble_eq_true rfl)⟩ hph hph (show 0 + 0 = 0 from rfl) (by decide) (fun rh1 Lh1 clh1 lnh1 ivh1 rvh1 h1 => ?_)
  obtain ⟨f1, rfl, rfl, rfl, rfl, rfl, rfl, rgf1, exf1⟩ := h1
  refine c_st (st2 := [.int (iI f1)]) rfl ?_
  have gf1 : f1 = i := exf1
  refine c_pop C dJx4a65c_remove_915e3_8 rfl ?_
  refine c_aload_n (j := 0) (x := a0) C dJx4a65c_remove_915e3_9 rfl ?_
  obtain ⟨eb1, eq1, teb1, ceb1, zeb1⟩ := hW.ed2 t_a0 rfl rfl (by omega)
  have lneb1 : 10 ≤ ln eb1 ∧ ln eb1 ≤ 60 := hW.len teb1 rfl
  refine c_getr (k := 1) C ck_0 dJx4a65c_remove_915e3_10 w1_78 (by decide) t_a0 rfl rfl (by decide) rfl eq1 ?_
  refine c_st (st2 := [.ref eb1]) rfl ?_
  refine c_astore_n (lv2 := [(2, .ref eb1), (0, .ref a0), (1, .int (iI i))]) C dJx4a65c_remove_915e3_13 (by decide) rfl ?_
  refine c_aload_n (j := 0) (x := eb1) C dJx4a65c_remove_915e3_14 rfl ?_
  refine c_iload_n (j := 2) C dJx4a65c_remove_915e3_15 rfl ?_
  have ll1 : 10 ≤ ln eb1 ∧ ln eb1 ≤ 60 := hW.len teb1 rfl
  obtain ⟨nb1, nq1, tnb1⟩ := hW.elem t_a0 rfl eq1 teb1 rfl rfl (i := i.toNat) (by omega)
  have tnb1 : ty L cl nb1 100 := tnb1
  refine c_aaldO C dJx4a65c_remove_915e3_16 teb1 rfl (by omega) (by omega) (by omega) nq1 ?_
  refine c_st (st2 := [.ref nb1]) rfl ?_
  refine c_astore_n (lv2 := [(3, .ref nb1), (2, .ref eb1), (0, .ref a0), (1, .int (iI i))]) C dJx4a65c_remove_915e3_17 (by decide) rfl ?_
  refine c_aload_n (j := 2) (x := a0) C dJx4a65c_remove_915e3_18 rfl ?_
  refine c_aload_n (j := 1) (x := eb1) C dJx4a65c_remove_915e3_19 rfl ?_
  refine c_iload_n (j := 3) C dJx4a65c_remove_915e3_20 rfl ?_
  refine d_callV (As := [.ref eb1, .int (iI i)]) (rest := []) C hM (C_fastRemove_22 (a0 := a0) (b0 := eb1) (i := i) hW hS t_a0 teb1 (by omega) eq1 ceb1 (by show i = iv a0 2 - 1 ∧ 0 ≤ i ∧ iv a0 2 ≤ ((ln eb1 : Nat) : Int); omega)) dJx4a65c_remove_915e3_21 kV_Jx4a65c_144 rfl t_a0 rfl rfl (by decide) ck_0 rfl (Nat.le_of_ble_eq_true rfl) ⟨(Nat.le_of_ble_eq_true rfl), (Nat.le_of_ble_eq_true rfl)⟩ hph hph (show 0 + 0 = 0 from rfl) (by decide) (fun rh2 Lh2 clh2 lnh2 ivh2 rvh2 h2 => ?_)
  obtain ⟨rfl, rfl, rfl, rfl, fl2, W2, exf2⟩ := h2
  have F1 := hF0.call hX0 fl2 rfl
  refine c_st (st2 := []) rfl ?_
  refine hv2 (show 0 ≤ ivh2 a0 2 ∧ ivh2 a0 2 ≤ 30 from W2.int t_a0 2) (show ivh2 a0 2 = iv a0 2 - 1 ∧ ∀ j : Nat, (j : Int) < iv a0 2 - 1 → el rvh2 a0 j = el rv a0 j from exf2) (fun ri2 gf2 => ?_)
  refine c_aload_n (j := 0) (x := nb1) C dJx4a65c_remove_915e3_24 rfl ?_
  have pl1 := Phi.le W2 hS
  exact c_aret (x := some nb1) C dJx4a65c_remove_915e3_25 rfl (Or.inl ⟨_, rfl⟩) (by decide) (rom0 hph pl1 (by decide)) ⟨nb1, rfl, rfl, rfl, rfl, F1, W2, tnb1, ⟨by omega, fun j hj => exf2.2 j (by omega)⟩, (by rw [show (iv a0 2 - 1).toNat = i.toNat by omega]; exact ((el_of eq1).trans nq1))⟩
set_option maxHeartbeats 4000000 in
set_option maxRecDepth 100000 in
theorem Z_copyO3_23 {l : Launch} {G : GT} {mi : Nat} {sk : Nat → Nat} {L : List Nat} {cl ln : Nat → Nat} {iv : Nat → Nat → Int} {rv : Nat → Nat → Option Nat}  {a0 : Nat} {n : Int} (hW : WT (g0 G) sk L cl ln iv rv) (hS : SKL sk L cl) (t_a0 : ty L cl a0 1001) (h_n : -2147483648 ≤ n ∧ n ≤ 2147483647) (hn : ((ln a0 : Nat) : Int) < n ∧ 10 ≤ n ∧ n ≤ 1200) : Mc l G mi zPf 0 yJ7_copyOf_6403c cJ7_copyOf_6403c 4 (some (.array (.object "java/lang/Object"))) 1 [.ref a0, .int (iI n), .ref mi] L cl ln iv rv (16 + n.toNat) (fun v L2 cl2 ln2 iv2 rv2 => ∃ f : Nat, v = some (.ref f) ∧ XT L cl ln L2 cl2 ln2 ∧ fT [1001] L cl iv rv iv2 rv2 ∧ WT (g0 G) sk L2 cl2 ln2 iv2 rv2 ∧ ty L2 cl2 f 1001 ∧ (ln2 f = n.toNat ∧ cl2 f = cl a0 ∧ ∀ i : Nat, i < ln a0 → rv2 f i = rv a0 i)) := by
  refine Mc.mk (by decide) (Nat.le_of_ble_eq_true rfl) ?_
  intro p e s m args below meth c A C hM
  refine hv3 ((show zPf ln rv ≤ 0 from Nat.le_refl 0)) (show XT L cl ln L cl ln from XT.refl) (show fT [1001] L cl iv rv iv rv from fT.refl) (fun hph hX0 hF0 => ?_)
  refine c_aload_n (j := 2) (x := mi) C dJ7_copyOf_6403c_0 rfl ?_
  refine c_ldcM C hM dJ7_copyOf_6403c_1 w3_29 ?_
  refine c_acmp_ne (rx := some mi) (ry := some mi) (tgt := 13) C dJ7_copyOf_6403c_3 (by decide) (fun q => absurd rfl q) (fun _ => ?_)
  refine c_iload_n (j := 1) C dJ7_copyOf_6403c_6 rfl ?_
  refine c_newaO (z := n) (N := n.toNat) C (cl a0) dJ7_copyOf_6403c_7 w3_31 w3_30t (by rw [t_a0.2]; rfl) (by omega) (by omega) (rom2 hph hph (by omega)) (fun qn1 cln1 lnn1 ivn1 rvn1 hqn1 hcn1 hln1 hin1 hrn1 => ⟨(0 + (16 + n.toNat)), (z_in (by omega)), ?_⟩)
  refine c_g0 C (fun hg1 => ?_)
  refine hv5 (show ∀ b, b ≠ qn1 → lnn1 b = ln b from (fun b hb => by rw [hln1]; exact va_up_ne _ _ hb)) (show lnn1 qn1 = n.toNat from by rw [hln1]; exact va_up_self _ _ _) (hF0.new hX0 hqn1 hin1 hrn1) (show ty (L ++ [qn1]) cln1 qn1 1001 from ⟨List.mem_append_right _ List.mem_cons_self, by rw [hcn1, va_up_self]; exact t_a0.2⟩) (show cln1 qn1 = (cl a0) from by rw [hcn1]; exact va_up_self _ _ _) (fun hxn1 lqn1 F1 tqn1 clqn1 => ?_)
  refine hv2 (hW.new (ln2 := lnn1) hqn1 (hg1 qn1 (List.mem_append_right _ List.mem_cons_self)) hcn1 hxn1 hin1 hrn1 (fun _ => by rw [t_a0.2]; exact ⟨(show (-2147483648 : Int) ≤ 0 by decide), (show (0 : Int) ≤ 2147483647 by decide)⟩) (Or.inr (fun _ => by rw [t_a0.2]; rfl)) (fun _ => by rw [t_a0.2]; show 10 ≤ lnn1 qn1 ∧ lnn1 qn1 ≤ 1200; omega) (by rw [t_a0.2]; rfl) (uq_big (by rw [t_a0.2]; decide))) (XT.new hqn1 hcn1 hxn1) (fun W1 xl1 => ?_)
  refine hv2 (hX0.trans xl1) (xl1.skl hS) (fun X1 sk1 => ?_)
  refine c_goto (tgt := 24) C dJ7_copyOf_6403c_10 (by decide) ?_
  refine c_astore_n (lv2 := [(3, .ref qn1), (0, .ref a0), (1, .int (iI n)), (2, .ref mi)]) C dJ7_copyOf_6403c_24 (by decide) rfl ?_
  refine c_aload_n (j := 1) (x := a0) C dJ7_copyOf_6403c_25 rfl ?_
  refine c_iconst C dJ7_copyOf_6403c_26 ?_
  refine c_aload_n (j := 0) (x := qn1) C dJ7_copyOf_6403c_27 rfl ?_
  refine c_iconst C dJ7_copyOf_6403c_28 ?_
  refine c_aload_n (j := 1) (x := a0) C dJ7_copyOf_6403c_29 rfl ?_
  have ty1 := xl1.ty t_a0
  have ll1 : 10 ≤ lnn1 a0 ∧ lnn1 a0 ≤ 1200 := W1.len ty1 rfl
  refine c_alenO C dJ7_copyOf_6403c_30 ty1 rfl ?_
  refine c_iload_n (j := 2) C dJ7_copyOf_6403c_31 rfl ?_
  obtain ⟨mn1, hmn1, emn1⟩ := mmin_c (x := ((lnn1 a0 : Nat) : Int)) (y := n) ⟨by omega, by omega⟩ ⟨by omega, by omega⟩
  refine c_mmin (w := iI mn1) C dJ7_copyOf_6403c_32 w2_128 w2_129 w1_14 w2_130 (by decide) (rom0 hph (Nat.le_refl 0) (by omega)) (Nat.le_of_ble_eq_true rfl) emn1 ?_
  have le1 : lnn1 a0 = ln a0 := (xl1 a0 t_a0.1).2.2
  refine c_copyq (n := mn1) C ck_1 w8_184t dJ7_copyOf_6403c_35 w2_131 w2_133 w2_132 w1_15 ty1 rfl tqn1 rfl (fun i y hy => by
      rcases W1.opt ty1 i rfl rfl with qq | ⟨bb, q1, q2⟩
      · rw [qq.1] at hy; cases hy
      · rw [q1] at hy; cases hy; exact q2) rfl rfl (by decide) (by omega) (by omega) (by omega) (by omega) (by decide) (Nat.le_of_ble_eq_true rfl) (fun rv1 cq1 => ⟨(0 + (16 + n.toNat)), (zp2 (Nat.le_refl _)), ?_⟩)
  have hno : ∀ w ∈ (L ++ [qn1]), lst (bt (cln1 w)) = true → rvn1 w 1 ≠ some qn1 := by
    intro w hw hl3 e3
    rcases List.mem_append.mp hw with e4 | e4
    · have hwq : w ≠ qn1 := fun e => hqn1 (e ▸ e4)
      rw [hcn1, va_up_ne _ _ hwq] at hl3
      rw [hrn1, up0_a hwq] at e3
      rcases WT.ed hW e4 (lst_szd hl3) e3 with e5 | e5
      · exact hqn1 e5
      · exact hg1 qn1 tqn1.1 e5
    · have e5 := List.mem_singleton.mp e4
      rw [e5, tqn1.2] at hl3; cases hl3
  refine hv2 (W1.copyr (TB2 := 0) cq1 tqn1 ty1 (by decide) (fun _ _ => rfl) (fun _ => rfl) hno) (F1.copyr X1 cq1 tqn1 rfl) (fun W2 F2 => ?_)
  refine c_aload_n (j := 0) (x := qn1) C dJ7_copyOf_6403c_38 rfl ?_
  exact c_aret (x := some qn1) C dJ7_copyOf_6403c_39 rfl (Or.inr ⟨_, rfl⟩) (by omega) (rom0 hph (Nat.le_refl 0) (by omega)) ⟨qn1, rfl, X1, F2, W2, tqn1, ⟨by omega, clqn1, fun i hi => by
      rw [cq1]
      show (if qn1 = qn1 then _ else _) = rv a0 i
      rw [if_pos rfl, if_pos (by omega), hrn1]
      exact congrFun (up0_a (ne_in t_a0.1 hqn1)) i⟩⟩
set_option maxHeartbeats 4000000 in
set_option maxRecDepth 100000 in
theorem Z_copyO2_23 {l : Launch} {G : GT} {mi : Nat} {sk : Nat → Nat} {L : List Nat} {cl ln : Nat → Nat} {iv : Nat → Nat → Int} {rv : Nat → Nat → Option Nat}  {a0 : Nat} {n : Int} (hW : WT (g0 G) sk L cl ln iv rv) (hS : SKL sk L cl) (t_a0 : ty L cl a0 1001) (h_n : -2147483648 ≤ n ∧ n ≤ 2147483647) (hn : ((ln a0 : Nat) : Int) < n ∧ 10 ≤ n ∧ n ≤ 1200) : Mc l G mi zPf 0 yJ7_copyOf_1904c cJ7_copyOf_1904c 2 (some (.array (.object "java/lang/Object"))) 2 [.ref a0, .int (iI n)] L cl ln iv rv (16 + n.toNat) (fun v L2 cl2 ln2 iv2 rv2 => ∃ f : Nat, v = some (.ref f) ∧ XT L cl ln L2 cl2 ln2 ∧ fT [1001] L cl iv rv iv2 rv2 ∧ WT (g0 G) sk L2 cl2 ln2 iv2 rv2 ∧ ty L2 cl2 f 1001 ∧ (ln2 f = n.toNat ∧ cl2 f = cl a0 ∧ ∀ i : Nat, i < ln a0 → rv2 f i = rv a0 i)) := by
  refine Mc.mk (by decide) (Nat.le_of_ble_eq_true rfl) ?_
  intro p e s m args below meth c A C hM
  refine hv3 ((show zPf ln rv ≤ 0 from Nat.le_refl 0)) (show XT L cl ln L cl ln from XT.refl) (show fT [1001] L cl iv rv iv rv from fT.refl) (fun hph hX0 hF0 => ?_)
  refine c_aload_n (j := 0) (x := a0) C dJ7_copyOf_1904c_0 rfl ?_
  refine c_iload_n (j := 1) C dJ7_copyOf_1904c_1 rfl ?_
  refine c_aload_n (j := 0) (x := a0) C dJ7_copyOf_1904c_2 rfl ?_
  refine c_getC C hM dJ7_copyOf_1904c_3 w3_8 w8_172 w3_9 w3_25 t_a0 rfl (by decide) (Nat.le_of_ble_eq_true rfl) ?_
  refine c_callS (As := [.ref a0, .int (iI n), .ref mi]) (rest := []) C hM (Z_copyO3_23 (a0 := a0) (n := n) hW hS t_a0 (by omega) (by show ((ln a0 : Nat) : Int) < n ∧ 10 ≤ n ∧ n ≤ 1200; omega)) dJ7_copyOf_1904c_6 kS_J7_300 rfl rfl (Nat.le_of_ble_eq_true rfl) ⟨(Nat.le_of_ble_eq_true rfl), (Nat.le_of_ble_eq_true rfl)⟩ (rz0 hph (by omega)) (fun rh1 Lh1 clh1 lnh1 ivh1 rvh1 h1 => ⟨(0 + (16 + n.toNat)), zk0, ?_⟩)
  obtain ⟨f1, rfl, xl1, fl1, W1, rgf1, exf1⟩ := h1
  refine hv3 (hF0.call hX0 fl1 rfl) (hX0.trans xl1) (xl1.skl hS) (fun F1 X1 sk1 => ?_)
  refine c_st (st2 := [.ref f1]) rfl ?_
  have gf1 : lnh1 f1 = n.toNat ∧ clh1 f1 = cl a0 ∧ ∀ i : Nat, i < ln a0 → rvh1 f1 i = rv a0 i := exf1
  exact c_aret (x := some f1) C dJ7_copyOf_1904c_9 rfl (Or.inr ⟨_, rfl⟩) (by omega) (rom0 hph (Nat.le_refl 0) (by omega)) ⟨f1, rfl, X1, F1, W1, rgf1, exf1⟩
set_option maxHeartbeats 4000000 in
set_option maxRecDepth 100000 in
theorem C_growA_23 {l : Launch} {G : GT} {mi : Nat} {sk : Nat → Nat} {L : List Nat} {cl ln : Nat → Nat} {iv : Nat → Nat → Int} {rv : Nat → Nat → Option Nat}  {a0 : Nat} {n : Int} (hW : WT (g0 G) sk L cl ln iv rv) (hS : SKL sk L cl) (t_a0 : ty L cl a0 23) (h_n : -2147483648 ≤ n ∧ n ≤ 2147483647) (hed : rv a0 1 = some (g0 G)) (hn : n = 1 ∧ iv a0 2 = 0) : Mc l G mi (Phi (g0 G) sk) PHM yJx4a65c_grow_92f84 cJx4a65c_grow_92f84 4 (some (.array (.object "java/lang/Object"))) 3 [.ref a0, .int (iI n)] L cl ln iv rv 1216 (fun v L2 cl2 ln2 iv2 rv2 => ∃ f : Nat, v = some (.ref f) ∧ XT L cl ln L2 cl2 ln2 ∧ fT [23, 1001] L cl iv rv iv2 rv2 ∧ WT (g0 G) sk L2 cl2 ln2 iv2 rv2 ∧ ty L2 cl2 f 1001 ∧ (rv2 a0 1 = some f ∧ iv2 a0 2 = iv a0 2 ∧ iv a0 2 + 1 ≤ ((ln2 f : Nat) : Int) ∧ cl2 f = 1000 + 5 * a0 + 1 ∧ ∀ i : Nat, (i : Int) < iv a0 2 → rv2 f i = el rv a0 i)) := by
  refine Mc.mk (by decide) (Nat.le_of_ble_eq_true rfl) ?_
  intro p e s m args below meth c A C hM
  refine hv3 (Phi.le hW hS) (show XT L cl ln L cl ln from XT.refl) (show fT [23, 1001] L cl iv rv iv rv from fT.refl) (fun hph hX0 hF0 => ?_)
  refine c_aload_n (j := 0) (x := a0) C dJx4a65c_grow_92f84_0 rfl ?_
  refine c_getr (k := 1) C ck_0 dJx4a65c_grow_92f84_1 w1_78 (by decide) t_a0 rfl rfl (by decide) rfl hed ?_
  refine c_st (st2 := [.ref (g0 G)]) rfl ?_
  refine c_tlen C dJx4a65c_grow_92f84_4 ?_
  refine c_istore_n (lv2 := [(2, .int (iI 0)), (0, .ref a0), (1, .int (iI n))]) C dJx4a65c_grow_92f84_5 (by decide) rfl ?_
  refine c_iload_n (j := 0) C dJx4a65c_grow_92f84_6 rfl ?_
  refine c_if_gt (tgt := 20) C ⟨by decide, by decide⟩ dJx4a65c_grow_92f84_7 (by decide) (fun z => absurd z (by omega)) (fun _ => ?_)
  refine c_aload_n (j := 1) (x := a0) C dJx4a65c_grow_92f84_10 rfl ?_
  refine c_getr (k := 1) C ck_0 dJx4a65c_grow_92f84_11 w1_78 (by decide) t_a0 rfl rfl (by decide) rfl hed ?_
  refine c_st (st2 := [.ref (g0 G)]) rfl ?_
  refine c_gets C dJx4a65c_grow_92f84_14 w1_76 ?_
  refine c_acmp_eq (rx := some (g0 G)) (ry := some (g0 G)) (tgt := 45) C dJx4a65c_grow_92f84_17 (by decide) (fun _ => ?_) (fun q => absurd rfl q)
  refine c_aload_n (j := 1) (x := a0) C dJx4a65c_grow_92f84_45 rfl ?_
  refine c_bipush (z := 10) C dJx4a65c_grow_92f84_46 (by decide) ?_
  refine c_iload_n (j := 2) C dJx4a65c_grow_92f84_48 rfl ?_
  obtain ⟨mn1, hmn1, emn1⟩ := mmax_c (x := 10) (y := n) ⟨by decide, by decide⟩ ⟨by omega, by omega⟩
  refine c_mmax (w := iI mn1) C dJx4a65c_grow_92f84_49 w3_32 w2_148 w1_14 w2_149 (by decide) (rom0 hph hph (by decide)) (Nat.le_of_ble_eq_true rfl) emn1 ?_
  refine c_newaO (z := mn1) (N := 10) C (1000 + 5 * a0 + 1) dJx4a65c_grow_92f84_52 w3_33 w3_30t (by rw [(bt_list (by decide))]; rfl) (by omega) (by omega) (rom2 hph hph (by omega)) (fun qn1 cln1 lnn1 ivn1 rvn1 hqn1 hcn1 hln1 hin1 hrn1 => ⟨(0 + (16 + 10)), (p_in (Phi.new hW hS hqn1 (fun b hb => by rw [hln1]; exact va_up_ne _ _ hb) hrn1) (by omega)), ?_⟩)
  refine c_g0 C (fun hg1 => ?_)
  refine hv5 (show ∀ b, b ≠ qn1 → lnn1 b = ln b from (fun b hb => by rw [hln1]; exact va_up_ne _ _ hb)) (show lnn1 qn1 = 10 from by rw [hln1]; exact va_up_self _ _ _) (hF0.new hX0 hqn1 hin1 hrn1) (show ty (L ++ [qn1]) cln1 qn1 1001 from ⟨List.mem_append_right _ List.mem_cons_self, by rw [hcn1, va_up_self]; exact (bt_list (by decide))⟩) (show cln1 qn1 = (1000 + 5 * a0 + 1) from by rw [hcn1]; exact va_up_self _ _ _) (fun hxn1 lqn1 F1 tqn1 clqn1 => ?_)
  refine hv2 (hW.new (ln2 := lnn1) hqn1 (hg1 qn1 (List.mem_append_right _ List.mem_cons_self)) hcn1 hxn1 hin1 hrn1 (fun _ => by rw [(bt_list (by decide))]; exact ⟨(show (-2147483648 : Int) ≤ 0 by decide), (show (0 : Int) ≤ 2147483647 by decide)⟩) (Or.inr (fun _ => by rw [(bt_list (by decide))]; rfl)) (fun _ => by rw [(bt_list (by decide))]; show 10 ≤ lnn1 qn1 ∧ lnn1 qn1 ≤ 1200; omega) (by rw [(bt_list (by decide))]; rfl) (uq_big (by rw [(bt_list (by decide))]; decide))) (XT.new hqn1 hcn1 hxn1) (fun W1 xl1 => ?_)
  refine hv2 (hX0.trans xl1) (xl1.skl hS) (fun X1 sk1 => ?_)
  refine c_dup_x1 C dJx4a65c_grow_92f84_55 rfl rfl ?_
  refine hv2 (xl1.ty t_a0) (show rvn1 a0 1 = rv a0 1 from (by rw [hrn1]; exact congrFun (up0_a (ne_in t_a0.1 hqn1)) _)) (fun ty1 re1 => ?_)
  rw [hed] at re1
  refine hv2 (show 0 ≤ ivn1 a0 2 ∧ ivn1 a0 2 ≤ 512 from W1.int ty1 2) (show ivn1 a0 2 = iv a0 2 from by rw [hin1]; exact congrFun (up0_a (ne_in t_a0.1 hqn1)) _) (fun ri1 ie1 => ?_)
  refine c_putr (x := (some qn1)) (k := 1) C ck_0 dJx4a65c_grow_92f84_56 w1_78 (by decide) rfl ty1 rfl rfl (by decide) rfl (by rfl) (by rfl) (fun rv1 pq1 => ⟨1216, (by rw [Phi.putr sk1 pq1 ty1 rfl]; omega), ?_⟩)
  refine hv3 (W1.led pq1 ty1 rfl tqn1.1 clqn1 (by omega) (fun i hi => absurd hi (by omega))) (F1.putr X1 pq1 ty1 rfl) (show rv1 a0 1 = (some qn1) from by rw [pq1]; exact upr_s) (fun W2 F2 rp1 => ?_)
  have pl1 := Phi.le W2 sk1
  exact c_aret (x := some qn1) C dJx4a65c_grow_92f84_59 rfl (Or.inr ⟨_, rfl⟩) (by decide) (rom0 hph pl1 (by decide)) ⟨qn1, rfl, X1, F2, W2, tqn1, ⟨rp1, (by omega), (by omega), clqn1, (fun i hi => absurd hi (by omega))⟩⟩
set_option maxHeartbeats 4000000 in
set_option maxRecDepth 100000 in
theorem C_growB_23 {l : Launch} {G : GT} {mi : Nat} {sk : Nat → Nat} {L : List Nat} {cl ln : Nat → Nat} {iv : Nat → Nat → Int} {rv : Nat → Nat → Option Nat}  {a0 : Nat} {n : Int} {b0 : Nat} (hW : WT (g0 G) sk L cl ln iv rv) (hS : SKL sk L cl) (t_a0 : ty L cl a0 23) (t_b0 : ty L cl b0 1001) (h_n : -2147483648 ≤ n ∧ n ≤ 2147483647) (hed : rv a0 1 = some b0) (hcb : cl b0 = 1000 + 5 * a0 + 1) (hn : n = iv a0 2 + 1 ∧ iv a0 2 = ((ln b0 : Nat) : Int) ∧ iv a0 2 < 512) : Mc l G mi (Phi (g0 G) sk) PHM yJx4a65c_grow_92f84 cJx4a65c_grow_92f84 4 (some (.array (.object "java/lang/Object"))) 3 [.ref a0, .int (iI n)] L cl ln iv rv 1216 (fun v L2 cl2 ln2 iv2 rv2 => ∃ f : Nat, v = some (.ref f) ∧ XT L cl ln L2 cl2 ln2 ∧ fT [23, 1001] L cl iv rv iv2 rv2 ∧ WT (g0 G) sk L2 cl2 ln2 iv2 rv2 ∧ ty L2 cl2 f 1001 ∧ (rv2 a0 1 = some f ∧ iv2 a0 2 = iv a0 2 ∧ iv a0 2 + 1 ≤ ((ln2 f : Nat) : Int) ∧ cl2 f = 1000 + 5 * a0 + 1 ∧ ∀ i : Nat, (i : Int) < iv a0 2 → rv2 f i = el rv a0 i)) := by
  refine Mc.mk (by decide) (Nat.le_of_ble_eq_true rfl) ?_
  intro p e s m args below meth c A C hM
  refine hv3 (Phi.le hW hS) (show XT L cl ln L cl ln from XT.refl) (show fT [23, 1001] L cl iv rv iv rv from fT.refl) (fun hph hX0 hF0 => ?_)
  refine c_aload_n (j := 0) (x := a0) C dJx4a65c_grow_92f84_0 rfl ?_
  refine c_getr (k := 1) C ck_0 dJx4a65c_grow_92f84_1 w1_78 (by decide) t_a0 rfl rfl (by decide) rfl hed ?_
  refine c_st (st2 := [.ref b0]) rfl ?_
  have ll1 : 10 ≤ ln b0 ∧ ln b0 ≤ 1200 := hW.len t_b0 rfl
  refine c_alenO C dJx4a65c_grow_92f84_4 t_b0 rfl ?_
  refine c_istore_n (lv2 := [(2, .int (iI ((ln b0 : Nat) : Int))), (0, .ref a0), (1, .int (iI n))]) C dJx4a65c_grow_92f84_5 (by decide) rfl ?_
  refine c_iload_n (j := 0) C dJx4a65c_grow_92f84_6 rfl ?_
  refine c_if_gt (tgt := 20) C ⟨by omega, by omega⟩ dJx4a65c_grow_92f84_7 (by decide) (fun _ => ?_) (fun z => absurd z (by omega))
  refine c_iload_n (j := 0) C dJx4a65c_grow_92f84_20 rfl ?_
  refine c_iload_n (j := 2) C dJx4a65c_grow_92f84_21 rfl ?_
  refine c_iload_n (j := 0) C dJx4a65c_grow_92f84_22 rfl ?_
  refine c_isub C dJx4a65c_grow_92f84_23 ?_
  refine c_iload_n (j := 0) C dJx4a65c_grow_92f84_24 rfl ?_
  refine c_iconst C dJx4a65c_grow_92f84_25 ?_
  obtain ⟨zz1, hzz1, ezz1⟩ := iI_of (iI ((ln b0 : Nat) : Int) >>> (iI 1 &&& 31))
  refine c_ishr (w := iI zz1) C dJx4a65c_grow_92f84_26 ezz1 ?_
  have shzz1 : zz1 = ((ln b0 : Nat) : Int) / 2 := (iI_eq hzz1 ⟨by omega, by omega⟩).mp (ezz1.symm.trans (shr1 ⟨by omega, by omega⟩))
  refine d_callS (As := [.int (iI ((ln b0 : Nat) : Int)), .int (iI (n - ((ln b0 : Nat) : Int))), .int (iI zz1)]) (rest := []) C hM (C_newLength (i := ((ln b0 : Nat) : Int)) (n := n - ((ln b0 : Nat) : Int)) (x := zz1) hW hS  (by omega) (by omega) (by omega) (by show 0 ≤ ((ln b0 : Nat) : Int) ∧ ((ln b0 : Nat) : Int) ≤ 100000 ∧ 1 ≤ (n - ((ln b0 : Nat) : Int)) ∧ (n - ((ln b0 : Nat) : Int)) ≤ 100000 ∧ 0 ≤ zz1 ∧ zz1 ≤ 100000; omega)) dJx4a65c_grow_92f84_27 kS_Jx4a65c_73 rfl rfl (Nat.le_of_ble_eq_true rfl) ⟨(Nat.le_of_ble_eq_true rfl), (Nat.le_of_ble_eq_true rfl)⟩ hph hph (show 0 + 0 = 0 from rfl) (by decide) (fun rh1 Lh1 clh1 lnh1 ivh1 rvh1 h1 => ?_)
  obtain ⟨f1, rfl, rfl, rfl, rfl, rfl, rfl, rgf1, exf1⟩ := h1
  refine c_st (st2 := [.int (iI f1)]) rfl ?_
  have gf1 : ((n - ((ln b0 : Nat) : Int)) ≤ zz1 ∧ f1 = ((ln b0 : Nat) : Int) + zz1) ∨ (zz1 < (n - ((ln b0 : Nat) : Int)) ∧ f1 = ((ln b0 : Nat) : Int) + (n - ((ln b0 : Nat) : Int))) := exf1
  refine c_istore_n (lv2 := [(3, .int (iI f1)), (2, .int (iI ((ln b0 : Nat) : Int))), (0, .ref a0), (1, .int (iI n))]) C dJx4a65c_grow_92f84_30 (by decide) rfl ?_
  refine c_aload_n (j := 2) (x := a0) C dJx4a65c_grow_92f84_31 rfl ?_
  refine c_aload_n (j := 2) (x := a0) C dJx4a65c_grow_92f84_32 rfl ?_
  refine c_getr (k := 1) C ck_0 dJx4a65c_grow_92f84_33 w1_78 (by decide) t_a0 rfl rfl (by decide) rfl hed ?_
  refine c_st (st2 := [.ref b0, .ref a0]) rfl ?_
  refine c_iload_n (j := 0) C dJx4a65c_grow_92f84_36 rfl ?_
  refine c_callS (As := [.ref b0, .int (iI f1)]) (rest := [.ref a0]) C hM (Z_copyO2_23 (a0 := b0) (n := f1) hW hS t_b0 (by omega) (by show ((ln b0 : Nat) : Int) < f1 ∧ 10 ≤ f1 ∧ f1 ≤ 1200; omega)) dJx4a65c_grow_92f84_37 kS_Jx4a65c_66 rfl rfl (Nat.le_of_ble_eq_true rfl) ⟨(Nat.le_of_ble_eq_true rfl), (Nat.le_of_ble_eq_true rfl)⟩ (rz1 hph hph (by omega)) (fun rh2 Lh2 clh2 lnh2 ivh2 rvh2 h2 => ⟨(0 + (16 + f1.toNat)), (zk1 (by obtain ⟨_, _, xlh2x, flh2x, Wh2x, _⟩ := h2; exact Phi.fr hW hS xlh2x flh2x rfl)), ?_⟩)
  obtain ⟨f2, rfl, xl2, fl2, W2, rgf2, exf2⟩ := h2
  refine hv3 (hF0.call hX0 fl2 rfl) (hX0.trans xl2) (xl2.skl hS) (fun F1 X1 sk1 => ?_)
  refine c_st (st2 := [.ref f2, .ref a0]) rfl ?_
  have gf2 : lnh2 f2 = f1.toNat ∧ clh2 f2 = cl b0 ∧ ∀ i : Nat, i < ln b0 → rvh2 f2 i = rv b0 i := exf2
  refine c_dup_x1 C dJx4a65c_grow_92f84_40 rfl rfl ?_
  refine hv2 (xl2.ty t_a0) (show rvh2 a0 1 = rv a0 1 from (fl2.r t_a0 rfl 1)) (fun ty1 re1 => ?_)
  rw [hed] at re1
  refine hv2 (show 0 ≤ ivh2 a0 2 ∧ ivh2 a0 2 ≤ 512 from W2.int ty1 2) (show ivh2 a0 2 = iv a0 2 from fl2.i t_a0 rfl 2) (fun ri1 ie1 => ?_)
  refine c_putr (x := (some f2)) (k := 1) C ck_0 dJx4a65c_grow_92f84_41 w1_78 (by decide) rfl ty1 rfl rfl (by decide) rfl (by rfl) (by rfl) (fun rv1 pq1 => ⟨1216, (by rw [Phi.putr sk1 pq1 ty1 rfl]; omega), ?_⟩)
  have W3 := W2.led pq1 ty1 rfl rgf2.1 (exf2.2.1.trans hcb) (by omega) (fun i hi => by
      rw [exf2.2.2 i (by omega)]
      exact hW.2.2.2.2.1 a0 t_a0.1 (by rw [t_a0.2]; rfl) b0 hed i (by omega))
  refine hv3 (F1.putr X1 pq1 ty1 rfl) (show rv1 a0 1 = (some f2) from by rw [pq1]; exact upr_s) (Phi.le W3 sk1) (fun F2 rp1 pl1 => ?_)
  exact c_aret (x := some f2) C dJx4a65c_grow_92f84_44 rfl (Or.inr ⟨_, rfl⟩) (by decide) (rom0 hph pl1 (by decide)) ⟨f2, rfl, X1, F2, W3, rgf2, ⟨rp1, (by omega), (by omega), (exf2.2.1.trans hcb), (fun i hi => by rw [el_of hed, pq1, upr_a (ne_ty rgf2 ty1 (by decide))]; exact exf2.2.2 i (by omega))⟩⟩
set_option maxHeartbeats 4000000 in
set_option maxRecDepth 100000 in
theorem C_grow0A_23 {l : Launch} {G : GT} {mi : Nat} {sk : Nat → Nat} {L : List Nat} {cl ln : Nat → Nat} {iv : Nat → Nat → Int} {rv : Nat → Nat → Option Nat}  {a0 : Nat} (hW : WT (g0 G) sk L cl ln iv rv) (hS : SKL sk L cl) (t_a0 : ty L cl a0 23) (hed : rv a0 1 = some (g0 G)) (hn : iv a0 2 = 0) : Mc l G mi (Phi (g0 G) sk) PHM yJx4a65c_grow_d5877 cJx4a65c_grow_d5877 1 (some (.array (.object "java/lang/Object"))) 4 [.ref a0] L cl ln iv rv 1216 (fun v L2 cl2 ln2 iv2 rv2 => ∃ f : Nat, v = some (.ref f) ∧ XT L cl ln L2 cl2 ln2 ∧ fT [23, 1001] L cl iv rv iv2 rv2 ∧ WT (g0 G) sk L2 cl2 ln2 iv2 rv2 ∧ ty L2 cl2 f 1001 ∧ (rv2 a0 1 = some f ∧ iv2 a0 2 = iv a0 2 ∧ iv a0 2 + 1 ≤ ((ln2 f : Nat) : Int) ∧ cl2 f = 1000 + 5 * a0 + 1 ∧ ∀ i : Nat, (i : Int) < iv a0 2 → rv2 f i = el rv a0 i)) := by
  refine Mc.mk (by decide) (Nat.le_of_ble_eq_true rfl) ?_
  intro p e s m args below meth c A C hM
  refine hv3 (Phi.le hW hS) (show XT L cl ln L cl ln from XT.refl) (show fT [23, 1001] L cl iv rv iv rv from fT.refl) (fun hph hX0 hF0 => ?_)
  refine c_aload_n (j := 0) (x := a0) C dJx4a65c_grow_d5877_0 rfl ?_
  refine c_aload_n (j := 0) (x := a0) C dJx4a65c_grow_d5877_1 rfl ?_
  have ri1 : 0 ≤ iv a0 2 ∧ iv a0 2 ≤ 512 := hW.int t_a0 2
  refine c_get (k := 2) C ck_0 dJx4a65c_grow_d5877_2 w1_79 (by decide) t_a0 rfl rfl (by decide) rfl ?_
  refine c_iconst C dJx4a65c_grow_d5877_5 ?_
  refine c_iadd C dJx4a65c_grow_d5877_6 ?_
  refine d_callV (As := [.int (iI ((iv a0 2) + 1))]) (rest := []) C hM (C_growA_23 (a0 := a0) (n := (iv a0 2) + 1) hW hS t_a0 (by omega) hed (by show ((iv a0 2) + 1) = 1 ∧ iv a0 2 = 0; omega)) dJx4a65c_grow_d5877_7 kV_Jx4a65c_69 rfl t_a0 rfl rfl (by decide) ck_0 rfl (Nat.le_of_ble_eq_true rfl) ⟨(Nat.le_of_ble_eq_true rfl), (Nat.le_of_ble_eq_true rfl)⟩ hph hph (show 0 + 1216 = 1216 from rfl) (by decide) (fun rh1 Lh1 clh1 lnh1 ivh1 rvh1 h1 => ?_)
  obtain ⟨f1, rfl, xl1, fl1, W1, rgf1, exf1⟩ := h1
  refine hv3 (hF0.call hX0 fl1 rfl) (hX0.trans xl1) (xl1.skl hS) (fun F1 X1 sk1 => ?_)
  refine c_st (st2 := [.ref f1]) rfl ?_
  refine hv5 (xl1.ty t_a0) (show rvh1 a0 1 = some f1 ∧ ivh1 a0 2 = iv a0 2 ∧ iv a0 2 + 1 ≤ ((lnh1 f1 : Nat) : Int) ∧ clh1 f1 = 1000 + 5 * a0 + 1 ∧ ∀ i : Nat, (i : Int) < iv a0 2 → rvh1 f1 i = el rv a0 i from exf1) (exf1.2.2.1) (exf1.2.1) (Phi.le W1 sk1) (fun ty1 gf1 gzf1 gyf1 pl1 => ?_)
  have ri2 : 0 ≤ ivh1 a0 2 ∧ ivh1 a0 2 ≤ 512 := W1.int ty1 2
  exact c_aret (x := some f1) C dJx4a65c_grow_d5877_10 rfl (Or.inr ⟨_, rfl⟩) (by decide) (rom0 hph pl1 (by decide)) ⟨f1, rfl, X1, F1, W1, rgf1, exf1⟩
set_option maxHeartbeats 4000000 in
set_option maxRecDepth 100000 in
theorem C_grow0B_23 {l : Launch} {G : GT} {mi : Nat} {sk : Nat → Nat} {L : List Nat} {cl ln : Nat → Nat} {iv : Nat → Nat → Int} {rv : Nat → Nat → Option Nat}  {a0 : Nat} {b0 : Nat} (hW : WT (g0 G) sk L cl ln iv rv) (hS : SKL sk L cl) (t_a0 : ty L cl a0 23) (t_b0 : ty L cl b0 1001) (hed : rv a0 1 = some b0) (hcb : cl b0 = 1000 + 5 * a0 + 1) (hn : iv a0 2 = ((ln b0 : Nat) : Int) ∧ iv a0 2 < 512) : Mc l G mi (Phi (g0 G) sk) PHM yJx4a65c_grow_d5877 cJx4a65c_grow_d5877 1 (some (.array (.object "java/lang/Object"))) 4 [.ref a0] L cl ln iv rv 1216 (fun v L2 cl2 ln2 iv2 rv2 => ∃ f : Nat, v = some (.ref f) ∧ XT L cl ln L2 cl2 ln2 ∧ fT [23, 1001] L cl iv rv iv2 rv2 ∧ WT (g0 G) sk L2 cl2 ln2 iv2 rv2 ∧ ty L2 cl2 f 1001 ∧ (rv2 a0 1 = some f ∧ iv2 a0 2 = iv a0 2 ∧ iv a0 2 + 1 ≤ ((ln2 f : Nat) : Int) ∧ cl2 f = 1000 + 5 * a0 + 1 ∧ ∀ i : Nat, (i : Int) < iv a0 2 → rv2 f i = el rv a0 i)) := by
  refine Mc.mk (by decide) (Nat.le_of_ble_eq_true rfl) ?_
  intro p e s m args below meth c A C hM
  refine hv3 (Phi.le hW hS) (show XT L cl ln L cl ln from XT.refl) (show fT [23, 1001] L cl iv rv iv rv from fT.refl) (fun hph hX0 hF0 => ?_)
  refine c_aload_n (j := 0) (x := a0) C dJx4a65c_grow_d5877_0 rfl ?_
  refine c_aload_n (j := 0) (x := a0) C dJx4a65c_grow_d5877_1 rfl ?_
  have ri1 : 0 ≤ iv a0 2 ∧ iv a0 2 ≤ 512 := hW.int t_a0 2
  refine c_get (k := 2) C ck_0 dJx4a65c_grow_d5877_2 w1_79 (by decide) t_a0 rfl rfl (by decide) rfl ?_
  refine c_iconst C dJx4a65c_grow_d5877_5 ?_
  refine c_iadd C dJx4a65c_grow_d5877_6 ?_
  refine d_callV (As := [.int (iI ((iv a0 2) + 1))]) (rest := []) C hM (C_growB_23 (a0 := a0) (n := (iv a0 2) + 1) (b0 := b0) hW hS t_a0 t_b0 (by omega) hed hcb (by show ((iv a0 2) + 1) = iv a0 2 + 1 ∧ iv a0 2 = ((ln b0 : Nat) : Int) ∧ iv a0 2 < 512; omega)) dJx4a65c_grow_d5877_7 kV_Jx4a65c_69 rfl t_a0 rfl rfl (by decide) ck_0 rfl (Nat.le_of_ble_eq_true rfl) ⟨(Nat.le_of_ble_eq_true rfl), (Nat.le_of_ble_eq_true rfl)⟩ hph hph (show 0 + 1216 = 1216 from rfl) (by decide) (fun rh1 Lh1 clh1 lnh1 ivh1 rvh1 h1 => ?_)
  obtain ⟨f1, rfl, xl1, fl1, W1, rgf1, exf1⟩ := h1
  refine hv3 (hF0.call hX0 fl1 rfl) (hX0.trans xl1) (xl1.skl hS) (fun F1 X1 sk1 => ?_)
  refine c_st (st2 := [.ref f1]) rfl ?_
  refine hv5 (xl1.ty t_a0) (show rvh1 a0 1 = some f1 ∧ ivh1 a0 2 = iv a0 2 ∧ iv a0 2 + 1 ≤ ((lnh1 f1 : Nat) : Int) ∧ clh1 f1 = 1000 + 5 * a0 + 1 ∧ ∀ i : Nat, (i : Int) < iv a0 2 → rvh1 f1 i = el rv a0 i from exf1) (exf1.2.2.1) (exf1.2.1) (Phi.le W1 sk1) (fun ty1 gf1 gzf1 gyf1 pl1 => ?_)
  have ri2 : 0 ≤ ivh1 a0 2 ∧ ivh1 a0 2 ≤ 512 := W1.int ty1 2
  exact c_aret (x := some f1) C dJx4a65c_grow_d5877_10 rfl (Or.inr ⟨_, rfl⟩) (by decide) (rom0 hph pl1 (by decide)) ⟨f1, rfl, X1, F1, W1, rgf1, exf1⟩
set_option maxHeartbeats 4000000 in
set_option maxRecDepth 100000 in
theorem C_add3A_23 {l : Launch} {G : GT} {mi : Nat} {sk : Nat → Nat} {L : List Nat} {cl ln : Nat → Nat} {iv : Nat → Nat → Int} {rv : Nat → Nat → Option Nat}  {a0 : Nat} {x : Nat} {n : Int} (hW : WT (g0 G) sk L cl ln iv rv) (hS : SKL sk L cl) (t_a0 : ty L cl a0 23) (t_x : ty L cl x 21) (h_n : -2147483648 ≤ n ∧ n ≤ 2147483647) (hed : rv a0 1 = some (g0 G)) (hn : n = iv a0 2 ∧ n = 0) : Mc l G mi (Phi (g0 G) sk) PHM yJx4a65c_add_72be8 cJx4a65c_add_72be8 4 none 5 [.ref a0, .ref x, .ref (g0 G), .int (iI n)] L cl ln iv rv 1216 (fun v L2 cl2 ln2 iv2 rv2 => v = none ∧ XT L cl ln L2 cl2 ln2 ∧ fT [23, 1001] L cl iv rv iv2 rv2 ∧ WT (g0 G) sk L2 cl2 ln2 iv2 rv2 ∧ (iv2 a0 2 = iv a0 2 + 1 ∧ el rv2 a0 (iv a0 2).toNat = some x ∧ ∀ i : Nat, (i : Int) < iv a0 2 → el rv2 a0 i = el rv a0 i)) := by
  refine Mc.mk (by decide) (Nat.le_of_ble_eq_true rfl) ?_
  intro p e s m args below meth c A C hM
  refine hv3 (Phi.le hW hS) (show XT L cl ln L cl ln from XT.refl) (show fT [23, 1001] L cl iv rv iv rv from fT.refl) (fun hph hX0 hF0 => ?_)
  refine c_iload_n (j := 3) C dJx4a65c_add_72be8_0 rfl ?_
  refine c_aload_n (j := 2) (x := g0 G) C dJx4a65c_add_72be8_1 rfl ?_
  refine c_tlen C dJx4a65c_add_72be8_2 ?_
  refine c_icmp_ne (tgt := 11) C ⟨by omega, by omega⟩ ⟨by decide, by decide⟩ dJx4a65c_add_72be8_3 (by decide) (fun z => absurd z (by omega)) (fun _ => ?_)
  refine c_aload_n (j := 0) (x := a0) C dJx4a65c_add_72be8_6 rfl ?_
  have ri1 : 0 ≤ iv a0 2 ∧ iv a0 2 ≤ 512 := hW.int t_a0 2
  refine d_callV (As := []) (rest := []) C hM (C_grow0A_23 (a0 := a0) hW hS t_a0  hed (by show iv a0 2 = 0; omega)) dJx4a65c_add_72be8_7 kV_Jx4a65c_129 rfl t_a0 rfl rfl (by decide) ck_0 rfl (Nat.le_of_ble_eq_true rfl) ⟨(Nat.le_of_ble_eq_true rfl), (Nat.le_of_ble_eq_true rfl)⟩ hph hph (show 0 + 1216 = 1216 from rfl) (by decide) (fun rh1 Lh1 clh1 lnh1 ivh1 rvh1 h1 => ?_)
  obtain ⟨f1, rfl, xl1, fl1, W1, rgf1, exf1⟩ := h1
  refine hv3 (hF0.call hX0 fl1 rfl) (hX0.trans xl1) (xl1.skl hS) (fun F1 X1 sk1 => ?_)
  refine c_st (st2 := [.ref f1]) rfl ?_
  refine hv4 (xl1.ty t_a0) (show rvh1 a0 1 = some f1 ∧ ivh1 a0 2 = iv a0 2 ∧ iv a0 2 + 1 ≤ ((lnh1 f1 : Nat) : Int) ∧ clh1 f1 = 1000 + 5 * a0 + 1 ∧ ∀ i : Nat, (i : Int) < iv a0 2 → rvh1 f1 i = el rv a0 i from exf1) (exf1.2.2.1) (exf1.2.1) (fun ty1 gf1 gzf1 gyf1 => ?_)
  have ri2 : 0 ≤ ivh1 a0 2 ∧ ivh1 a0 2 ≤ 512 := W1.int ty1 2
  refine c_astore_n (lv2 := [(2, .ref f1), (0, .ref a0), (1, .ref x), (3, .int (iI n))]) C dJx4a65c_add_72be8_10 (by decide) rfl ?_
  refine c_aload_n (j := 0) (x := f1) C dJx4a65c_add_72be8_11 rfl ?_
  refine c_iload_n (j := 3) C dJx4a65c_add_72be8_12 rfl ?_
  refine c_aload_n (j := 2) (x := x) C dJx4a65c_add_72be8_13 rfl ?_
  refine hv2 (show 10 ≤ lnh1 f1 ∧ lnh1 f1 ≤ 1200 from W1.len rgf1 rfl) (xl1.ty t_x) (fun ll1 ty2 => ?_)
  refine c_aastO (z := n) C ck_1 w8_184t dJx4a65c_add_72be8_14 rgf1 rfl ty2 rfl rfl (by decide) (by omega) (by omega) (by omega) (fun rv1 pq1 => ⟨1216, (by rw [Phi.putr sk1 pq1 rgf1 rfl]; exact Nat.le_refl _), ?_⟩)
  refine hv2 (W1.lset pq1 rgf1 (by decide) ty2) (F1.putr X1 pq1 rgf1 rfl) (fun W2 F2 => ?_)
  refine c_aload_n (j := 1) (x := a0) C dJx4a65c_add_72be8_15 rfl ?_
  refine c_iload_n (j := 3) C dJx4a65c_add_72be8_16 rfl ?_
  refine c_iconst C dJx4a65c_add_72be8_17 ?_
  refine c_iadd C dJx4a65c_add_72be8_18 ?_
  refine c_put (z := n + 1) (k := 2) C ck_0 dJx4a65c_add_72be8_19 w1_79 (by decide) rfl ty1 rfl rfl (by decide) rfl (by rfl) (by rfl) (fun iv1 pq2 => ?_)
  have re1 : rv1 a0 1 = rvh1 a0 1 := (by rw [pq1]; exact congrFun (upr_a (ne_ty ty1 rgf1 (by decide))) _)
  rw [exf1.1] at re1
  refine hv3 (show rv1 f1 (ivh1 a0 2).toNat = some x from by rw [show (ivh1 a0 2).toNat = n.toNat by omega, pq1]; exact upr_s) (F2.puti X1 pq2 ty1 rfl) (show iv1 a0 2 = n + 1 from by rw [pq2]; exact up2_s) (fun px1 F3 ie2 => ?_)
  have W3 := W2.lapp pq2 ty1 rfl re1 rgf1.1 px1 (show (n + 1) = ivh1 a0 2 + 1 by omega) (show ivh1 a0 2 + 1 ≤ 512 by omega) (by omega) rfl
  refine hv2 (show 0 ≤ iv1 a0 2 ∧ iv1 a0 2 ≤ 512 from W3.int ty1 2) (Phi.le W3 sk1) (fun ri3 pl1 => ?_)
  exact c_vret C dJx4a65c_add_72be8_22 rfl (by decide) (rom0 hph pl1 (by decide)) ⟨rfl, X1, F3, W3, ⟨by omega, (by rw [el_of re1, show (iv a0 2).toNat = n.toNat by omega, pq1]; exact upr_s), fun i hi => (by rw [el_of re1, pq1, upr_j (by omega)]; exact exf1.2.2.2.2 i hi)⟩⟩
set_option maxHeartbeats 4000000 in
set_option maxRecDepth 100000 in
theorem C_add3B_23 {l : Launch} {G : GT} {mi : Nat} {sk : Nat → Nat} {L : List Nat} {cl ln : Nat → Nat} {iv : Nat → Nat → Int} {rv : Nat → Nat → Option Nat}  {a0 : Nat} {x : Nat} {b0 : Nat} {n : Int} (hW : WT (g0 G) sk L cl ln iv rv) (hS : SKL sk L cl) (t_a0 : ty L cl a0 23) (t_x : ty L cl x 21) (t_b0 : ty L cl b0 1001) (h_n : -2147483648 ≤ n ∧ n ≤ 2147483647) (hed : rv a0 1 = some b0) (hcb : cl b0 = 1000 + 5 * a0 + 1) (hn : n = iv a0 2 ∧ 0 ≤ n ∧ n ≤ ((ln b0 : Nat) : Int) ∧ n < 512) : Mc l G mi (Phi (g0 G) sk) PHM yJx4a65c_add_72be8 cJx4a65c_add_72be8 4 none 5 [.ref a0, .ref x, .ref b0, .int (iI n)] L cl ln iv rv 1216 (fun v L2 cl2 ln2 iv2 rv2 => v = none ∧ XT L cl ln L2 cl2 ln2 ∧ fT [23, 1001] L cl iv rv iv2 rv2 ∧ WT (g0 G) sk L2 cl2 ln2 iv2 rv2 ∧ (iv2 a0 2 = iv a0 2 + 1 ∧ el rv2 a0 (iv a0 2).toNat = some x ∧ ∀ i : Nat, (i : Int) < iv a0 2 → el rv2 a0 i = el rv a0 i)) := by
  refine Mc.mk (by decide) (Nat.le_of_ble_eq_true rfl) ?_
  intro p e s m args below meth c A C hM
  refine hv3 (Phi.le hW hS) (show XT L cl ln L cl ln from XT.refl) (show fT [23, 1001] L cl iv rv iv rv from fT.refl) (fun hph hX0 hF0 => ?_)
  refine c_iload_n (j := 3) C dJx4a65c_add_72be8_0 rfl ?_
  refine c_aload_n (j := 2) (x := b0) C dJx4a65c_add_72be8_1 rfl ?_
  have ll1 : 10 ≤ ln b0 ∧ ln b0 ≤ 1200 := hW.len t_b0 rfl
  refine c_alenO C dJx4a65c_add_72be8_2 t_b0 rfl ?_
  refine c_icmp_ne (tgt := 11) C ⟨by omega, by omega⟩ ⟨by omega, by omega⟩ dJx4a65c_add_72be8_3 (by decide) (fun c1 => ?_) (fun c1 => ?_)
  · refine c_aload_n (j := 2) (x := b0) C dJx4a65c_add_72be8_11 rfl ?_
    refine c_iload_n (j := 3) C dJx4a65c_add_72be8_12 rfl ?_
    refine c_aload_n (j := 1) (x := x) C dJx4a65c_add_72be8_13 rfl ?_
    refine c_aastO (z := n) C ck_1 w8_184t dJx4a65c_add_72be8_14 t_b0 rfl t_x rfl rfl (by decide) (by omega) (by omega) (by omega) (fun rv1 pq1 => ⟨0, (by rw [Phi.putr hS pq1 t_b0 rfl]; exact Nat.le_refl _), ?_⟩)
    refine hv2 (hW.lset pq1 t_b0 (by decide) t_x) (hF0.putr hX0 pq1 t_b0 rfl) (fun W1 F1 => ?_)
    refine c_aload_n (j := 0) (x := a0) C dJx4a65c_add_72be8_15 rfl ?_
    refine c_iload_n (j := 3) C dJx4a65c_add_72be8_16 rfl ?_
    refine c_iconst C dJx4a65c_add_72be8_17 ?_
    refine c_iadd C dJx4a65c_add_72be8_18 ?_
    refine c_put (z := n + 1) (k := 2) C ck_0 dJx4a65c_add_72be8_19 w1_79 (by decide) rfl t_a0 rfl rfl (by decide) rfl (by rfl) (by rfl) (fun iv1 pq2 => ?_)
    have re1 : rv1 a0 1 = rv a0 1 := (by rw [pq1]; exact congrFun (upr_a (ne_ty t_a0 t_b0 (by decide))) _)
    rw [hed] at re1
    refine hv3 (show rv1 b0 (iv a0 2).toNat = some x from by rw [show (iv a0 2).toNat = n.toNat by omega, pq1]; exact upr_s) (F1.puti hX0 pq2 t_a0 rfl) (show iv1 a0 2 = n + 1 from by rw [pq2]; exact up2_s) (fun px1 F2 ie1 => ?_)
    have W2 := W1.lapp pq2 t_a0 rfl re1 t_b0.1 px1 (show (n + 1) = iv a0 2 + 1 by omega) (show iv a0 2 + 1 ≤ 512 by omega) (by omega) rfl
    refine hv2 (show 0 ≤ iv1 a0 2 ∧ iv1 a0 2 ≤ 512 from W2.int t_a0 2) (Phi.le W2 hS) (fun ri1 pl1 => ?_)
    exact c_vret C dJx4a65c_add_72be8_22 rfl (by decide) (rom0 hph pl1 (by decide)) ⟨rfl, hX0, F2, W2, ⟨by omega, (by rw [el_of re1, show (iv a0 2).toNat = n.toNat by omega, pq1]; exact upr_s), fun i hi => (by rw [el_of re1, pq1, upr_j (by omega)]; exact (el_of hed).symm)⟩⟩
  · refine c_aload_n (j := 0) (x := a0) C dJx4a65c_add_72be8_6 rfl ?_
    have ri2 : 0 ≤ iv a0 2 ∧ iv a0 2 ≤ 512 := hW.int t_a0 2
    refine d_callV (As := []) (rest := []) C hM (C_grow0B_23 (a0 := a0) (b0 := b0) hW hS t_a0 t_b0  hed hcb (by show iv a0 2 = ((ln b0 : Nat) : Int) ∧ iv a0 2 < 512; omega)) dJx4a65c_add_72be8_7 kV_Jx4a65c_129 rfl t_a0 rfl rfl (by decide) ck_0 rfl (Nat.le_of_ble_eq_true rfl) ⟨(Nat.le_of_ble_eq_true rfl), (Nat.le_of_ble_eq_true rfl)⟩ hph hph (show 0 + 1216 = 1216 from rfl) (by decide) (fun rh1 Lh1 clh1 lnh1 ivh1 rvh1 h1 => ?_)
    obtain ⟨f1, rfl, xl1, fl1, W3, rgf1, exf1⟩ := h1
    refine hv3 (hF0.call hX0 fl1 rfl) (hX0.trans xl1) (xl1.skl hS) (fun F3 X1 sk1 => ?_)
    refine c_st (st2 := [.ref f1]) rfl ?_
    refine hv4 (xl1.ty t_a0) (show rvh1 a0 1 = some f1 ∧ ivh1 a0 2 = iv a0 2 ∧ iv a0 2 + 1 ≤ ((lnh1 f1 : Nat) : Int) ∧ clh1 f1 = 1000 + 5 * a0 + 1 ∧ ∀ i : Nat, (i : Int) < iv a0 2 → rvh1 f1 i = el rv a0 i from exf1) (exf1.2.2.1) (exf1.2.1) (fun ty1 gf1 gzf1 gyf1 => ?_)
    have ri3 : 0 ≤ ivh1 a0 2 ∧ ivh1 a0 2 ≤ 512 := W3.int ty1 2
    refine c_astore_n (lv2 := [(2, .ref f1), (0, .ref a0), (1, .ref x), (3, .int (iI n))]) C dJx4a65c_add_72be8_10 (by decide) rfl ?_
    refine c_aload_n (j := 0) (x := f1) C dJx4a65c_add_72be8_11 rfl ?_
    refine c_iload_n (j := 3) C dJx4a65c_add_72be8_12 rfl ?_
    refine c_aload_n (j := 2) (x := x) C dJx4a65c_add_72be8_13 rfl ?_
    refine hv2 (show 10 ≤ lnh1 f1 ∧ lnh1 f1 ≤ 1200 from W3.len rgf1 rfl) (xl1.ty t_x) (fun ll2 ty2 => ?_)
    refine c_aastO (z := n) C ck_1 w8_184t dJx4a65c_add_72be8_14 rgf1 rfl ty2 rfl rfl (by decide) (by omega) (by omega) (by omega) (fun rv2 pq3 => ⟨1216, (by rw [Phi.putr sk1 pq3 rgf1 rfl]; exact Nat.le_refl _), ?_⟩)
    refine hv2 (W3.lset pq3 rgf1 (by decide) ty2) (F3.putr X1 pq3 rgf1 rfl) (fun W4 F4 => ?_)
    refine c_aload_n (j := 1) (x := a0) C dJx4a65c_add_72be8_15 rfl ?_
    refine c_iload_n (j := 3) C dJx4a65c_add_72be8_16 rfl ?_
    refine c_iconst C dJx4a65c_add_72be8_17 ?_
    refine c_iadd C dJx4a65c_add_72be8_18 ?_
    refine c_put (z := n + 1) (k := 2) C ck_0 dJx4a65c_add_72be8_19 w1_79 (by decide) rfl ty1 rfl rfl (by decide) rfl (by rfl) (by rfl) (fun iv2 pq4 => ?_)
    have re2 : rv2 a0 1 = rvh1 a0 1 := (by rw [pq3]; exact congrFun (upr_a (ne_ty ty1 rgf1 (by decide))) _)
    rw [exf1.1] at re2
    refine hv3 (show rv2 f1 (ivh1 a0 2).toNat = some x from by rw [show (ivh1 a0 2).toNat = n.toNat by omega, pq3]; exact upr_s) (F4.puti X1 pq4 ty1 rfl) (show iv2 a0 2 = n + 1 from by rw [pq4]; exact up2_s) (fun px2 F5 ie3 => ?_)
    have W5 := W4.lapp pq4 ty1 rfl re2 rgf1.1 px2 (show (n + 1) = ivh1 a0 2 + 1 by omega) (show ivh1 a0 2 + 1 ≤ 512 by omega) (by omega) rfl
    refine hv2 (show 0 ≤ iv2 a0 2 ∧ iv2 a0 2 ≤ 512 from W5.int ty1 2) (Phi.le W5 sk1) (fun ri4 pl2 => ?_)
    exact c_vret C dJx4a65c_add_72be8_22 rfl (by decide) (rom0 hph pl2 (by decide)) ⟨rfl, X1, F5, W5, ⟨by omega, (by rw [el_of re2, show (iv a0 2).toNat = n.toNat by omega, pq3]; exact upr_s), fun i hi => (by rw [el_of re2, pq3, upr_j (by omega)]; exact exf1.2.2.2.2 i hi)⟩⟩
set_option maxHeartbeats 4000000 in
set_option maxRecDepth 100000 in
theorem C_add_23 {l : Launch} {G : GT} {mi : Nat} {sk : Nat → Nat} {L : List Nat} {cl ln : Nat → Nat} {iv : Nat → Nat → Int} {rv : Nat → Nat → Option Nat}  {a0 : Nat} {x : Nat} (hW : WT (g0 G) sk L cl ln iv rv) (hS : SKL sk L cl) (t_a0 : ty L cl a0 23) (t_x : ty L cl x 21) (hn : iv a0 2 < 512) : Mc l G mi (Phi (g0 G) sk) PHM yJx4a65c_add_9ea2d cJx4a65c_add_9ea2d 2 (some .boolean) 6 [.ref a0, .ref x] L cl ln iv rv 1216 (fun v L2 cl2 ln2 iv2 rv2 => ∃ f : Int, v = some (.int (iI f)) ∧ XT L cl ln L2 cl2 ln2 ∧ fT [23, 1001] L cl iv rv iv2 rv2 ∧ WT (g0 G) sk L2 cl2 ln2 iv2 rv2 ∧ (f = 0 ∨ f = 1) ∧ (iv2 a0 2 = iv a0 2 + 1 ∧ el rv2 a0 (iv a0 2).toNat = some x ∧ ∀ i : Nat, (i : Int) < iv a0 2 → el rv2 a0 i = el rv a0 i)) := by
  refine Mc.mk (by decide) (Nat.le_of_ble_eq_true rfl) ?_
  intro p e s m args below meth c A C hM
  refine hv3 (Phi.le hW hS) (show XT L cl ln L cl ln from XT.refl) (show fT [23, 1001] L cl iv rv iv rv from fT.refl) (fun hph hX0 hF0 => ?_)
  refine c_aload_n (j := 0) (x := a0) C dJx4a65c_add_9ea2d_0 rfl ?_
  refine c_dup C dJx4a65c_add_9ea2d_1 rfl ?_
  have ri1 : (-2147483648) ≤ iv a0 0 ∧ iv a0 0 ≤ 2147483647 := hW.int t_a0 0
  refine c_getU (k := 0) C ck_0 dJx4a65c_add_9ea2d_2 w1_81 w1_82 (by decide) t_a0 rfl rfl (by decide) rfl ?_
  refine c_iconst C dJx4a65c_add_9ea2d_5 ?_
  refine c_iadd C dJx4a65c_add_9ea2d_6 ?_
  obtain ⟨zz1, hzz1, ezz1⟩ := iI_of (iI ((iv a0 0) + 1))
  refine c_st (st2 := [.int (iI zz1), .ref a0]) (by rw [ezz1]) ?_
  refine c_putU (z := zz1) (k := 0) C ck_0 dJx4a65c_add_9ea2d_7 w1_81 w1_82 (by decide) rfl t_a0 rfl rfl (by decide) rfl (by rfl) (by rfl) (fun iv1 pq1 => ?_)
  refine hv2 (hW.puti pq1 t_a0 (show (-2147483648) ≤ zz1 ∧ zz1 ≤ 2147483647 by omega) rfl) (hF0.puti hX0 pq1 t_a0 rfl) (fun W1 F1 => ?_)
  refine c_aload_n (j := 0) (x := a0) C dJx4a65c_add_9ea2d_10 rfl ?_
  refine c_aload_n (j := 1) (x := x) C dJx4a65c_add_9ea2d_11 rfl ?_
  refine c_aload_n (j := 0) (x := a0) C dJx4a65c_add_9ea2d_12 rfl ?_
  refine hv2 (show 0 ≤ iv1 a0 2 ∧ iv1 a0 2 ≤ 512 from W1.int t_a0 2) (show iv1 a0 2 = iv a0 2 from by rw [pq1]; exact up2_j (by decide)) (fun ri2 ie1 => ?_)
  rcases W1.edc t_a0 rfl rfl with ⟨eq1, zeb1⟩ | ⟨eb1, eq1, teb1, ceb1, zeb1⟩
  · refine c_getr (k := 1) C ck_0 dJx4a65c_add_9ea2d_13 w1_78 (by decide) t_a0 rfl rfl (by decide) rfl eq1 ?_
    refine c_st (st2 := [.ref (g0 G), .ref x, .ref a0]) rfl ?_
    refine c_aload_n (j := 0) (x := a0) C dJx4a65c_add_9ea2d_16 rfl ?_
    refine c_get (k := 2) C ck_0 dJx4a65c_add_9ea2d_17 w1_79 (by decide) t_a0 rfl rfl (by decide) rfl ?_
    refine d_callV (As := [.ref x, .ref (g0 G), .int (iI (iv1 a0 2))]) (rest := []) C hM (C_add3A_23 (a0 := a0) (x := x) (n := iv1 a0 2) W1 hS t_a0 t_x (by omega) eq1 (by show (iv1 a0 2) = iv1 a0 2 ∧ (iv1 a0 2) = 0; omega)) dJx4a65c_add_9ea2d_20 kV_Jx4a65c_131 rfl t_a0 rfl rfl (by decide) ck_0 rfl (Nat.le_of_ble_eq_true rfl) ⟨(Nat.le_of_ble_eq_true rfl), (Nat.le_of_ble_eq_true rfl)⟩ hph hph (show 0 + 1216 = 1216 from rfl) (by decide) (fun rh1 Lh1 clh1 lnh1 ivh1 rvh1 h1 => ?_)
    obtain ⟨rfl, xl1, fl1, W2, exf1⟩ := h1
    refine hv3 (F1.call hX0 fl1 rfl) (hX0.trans xl1) (xl1.skl hS) (fun F2 X1 sk1 => ?_)
    refine c_st (st2 := []) rfl ?_
    refine hv2 (xl1.ty t_a0) (show ivh1 a0 2 = iv1 a0 2 + 1 ∧ el rvh1 a0 (iv1 a0 2).toNat = some x ∧ ∀ i : Nat, (i : Int) < iv1 a0 2 → el rvh1 a0 i = el rv a0 i from exf1) (fun ty1 gf1 => ?_)
    have ri3 : 0 ≤ ivh1 a0 2 ∧ ivh1 a0 2 ≤ 512 := W2.int ty1 2
    refine c_iconst C dJx4a65c_add_9ea2d_23 ?_
    have pl1 := Phi.le W2 sk1
    exact c_zret C dJx4a65c_add_9ea2d_24 rfl (Or.inr rfl) (by decide) (rom0 hph pl1 (by decide)) ⟨1, rfl, X1, F2, W2, (Or.inr rfl), ⟨by omega, (by rw [show (iv a0 2).toNat = (iv1 a0 2).toNat by omega]; exact exf1.2.1), fun i hi => exf1.2.2 i (by omega)⟩⟩
  · have lneb1 : 10 ≤ ln eb1 ∧ ln eb1 ≤ 1200 := W1.len teb1 rfl
    refine c_getr (k := 1) C ck_0 dJx4a65c_add_9ea2d_13 w1_78 (by decide) t_a0 rfl rfl (by decide) rfl eq1 ?_
    refine c_st (st2 := [.ref eb1, .ref x, .ref a0]) rfl ?_
    refine c_aload_n (j := 0) (x := a0) C dJx4a65c_add_9ea2d_16 rfl ?_
    refine c_get (k := 2) C ck_0 dJx4a65c_add_9ea2d_17 w1_79 (by decide) t_a0 rfl rfl (by decide) rfl ?_
    refine d_callV (As := [.ref x, .ref eb1, .int (iI (iv1 a0 2))]) (rest := []) C hM (C_add3B_23 (a0 := a0) (x := x) (b0 := eb1) (n := iv1 a0 2) W1 hS t_a0 t_x teb1 (by omega) eq1 ceb1 (by show (iv1 a0 2) = iv1 a0 2 ∧ 0 ≤ (iv1 a0 2) ∧ (iv1 a0 2) ≤ ((ln eb1 : Nat) : Int) ∧ (iv1 a0 2) < 512; omega)) dJx4a65c_add_9ea2d_20 kV_Jx4a65c_131 rfl t_a0 rfl rfl (by decide) ck_0 rfl (Nat.le_of_ble_eq_true rfl) ⟨(Nat.le_of_ble_eq_true rfl), (Nat.le_of_ble_eq_true rfl)⟩ hph hph (show 0 + 1216 = 1216 from rfl) (by decide) (fun rh2 Lh2 clh2 lnh2 ivh2 rvh2 h2 => ?_)
    obtain ⟨rfl, xl2, fl2, W3, exf2⟩ := h2
    refine hv3 (F1.call hX0 fl2 rfl) (hX0.trans xl2) (xl2.skl hS) (fun F3 X2 sk2 => ?_)
    refine c_st (st2 := []) rfl ?_
    refine hv2 (xl2.ty t_a0) (show ivh2 a0 2 = iv1 a0 2 + 1 ∧ el rvh2 a0 (iv1 a0 2).toNat = some x ∧ ∀ i : Nat, (i : Int) < iv1 a0 2 → el rvh2 a0 i = el rv a0 i from exf2) (fun ty2 gf2 => ?_)
    have ri4 : 0 ≤ ivh2 a0 2 ∧ ivh2 a0 2 ≤ 512 := W3.int ty2 2
    refine c_iconst C dJx4a65c_add_9ea2d_23 ?_
    have pl2 := Phi.le W3 sk2
    exact c_zret C dJx4a65c_add_9ea2d_24 rfl (Or.inr rfl) (by decide) (rom0 hph pl2 (by decide)) ⟨1, rfl, X2, F3, W3, (Or.inr rfl), ⟨by omega, (by rw [show (iv a0 2).toNat = (iv1 a0 2).toNat by omega]; exact exf2.2.1), fun i hi => exf2.2.2 i (by omega)⟩⟩
set_option maxHeartbeats 4000000 in
set_option maxRecDepth 100000 in
theorem C_fastRemove_23 {l : Launch} {G : GT} {mi : Nat} {sk : Nat → Nat} {L : List Nat} {cl ln : Nat → Nat} {iv : Nat → Nat → Int} {rv : Nat → Nat → Option Nat}  {a0 : Nat} {b0 : Nat} {i : Int} (hW : WT (g0 G) sk L cl ln iv rv) (hS : SKL sk L cl) (t_a0 : ty L cl a0 23) (t_b0 : ty L cl b0 1001) (h_i : -2147483648 ≤ i ∧ i ≤ 2147483647) (hed : rv a0 1 = some b0) (hcb : cl b0 = 1000 + 5 * a0 + 1) (hi : i = iv a0 2 - 1 ∧ 0 ≤ i ∧ iv a0 2 ≤ ((ln b0 : Nat) : Int)) : Mc l G mi (Phi (g0 G) sk) PHM yJx4a65c_fastRemove_b59b0 cJx4a65c_fastRemove_b59b0 4 none 0 [.ref a0, .ref b0, .int (iI i)] L cl ln iv rv 0 (fun v L2 cl2 ln2 iv2 rv2 => v = none ∧ L = L2 ∧ cl = cl2 ∧ ln = ln2 ∧ fT [23, 1001] L cl iv rv iv2 rv2 ∧ WT (g0 G) sk L2 cl2 ln2 iv2 rv2 ∧ (iv2 a0 2 = iv a0 2 - 1 ∧ ∀ j : Nat, (j : Int) < iv a0 2 - 1 → el rv2 a0 j = el rv a0 j)) := by
  refine Mc.mk (by decide) (Nat.le_of_ble_eq_true rfl) ?_
  intro p e s m args below meth c A C hM
  refine hv3 (Phi.le hW hS) (show XT L cl ln L cl ln from XT.refl) (show fT [23, 1001] L cl iv rv iv rv from fT.refl) (fun hph hX0 hF0 => ?_)
  refine c_aload_n (j := 0) (x := a0) C dJx4a65c_fastRemove_b59b0_0 rfl ?_
  refine c_dup C dJx4a65c_fastRemove_b59b0_1 rfl ?_
  have ri1 : (-2147483648) ≤ iv a0 0 ∧ iv a0 0 ≤ 2147483647 := hW.int t_a0 0
  refine c_getU (k := 0) C ck_0 dJx4a65c_fastRemove_b59b0_2 w1_81 w1_82 (by decide) t_a0 rfl rfl (by decide) rfl ?_
  refine c_iconst C dJx4a65c_fastRemove_b59b0_5 ?_
  refine c_iadd C dJx4a65c_fastRemove_b59b0_6 ?_
  obtain ⟨zz1, hzz1, ezz1⟩ := iI_of (iI ((iv a0 0) + 1))
  refine c_st (st2 := [.int (iI zz1), .ref a0]) (by rw [ezz1]) ?_
  refine c_putU (z := zz1) (k := 0) C ck_0 dJx4a65c_fastRemove_b59b0_7 w1_81 w1_82 (by decide) rfl t_a0 rfl rfl (by decide) rfl (by rfl) (by rfl) (fun iv1 pq1 => ?_)
  refine hv2 (hW.puti pq1 t_a0 (show (-2147483648) ≤ zz1 ∧ zz1 ≤ 2147483647 by omega) rfl) (hF0.puti hX0 pq1 t_a0 rfl) (fun W1 F1 => ?_)
  refine c_aload_n (j := 0) (x := a0) C dJx4a65c_fastRemove_b59b0_10 rfl ?_
  refine hv2 (show 0 ≤ iv1 a0 2 ∧ iv1 a0 2 ≤ 512 from W1.int t_a0 2) (show iv1 a0 2 = iv a0 2 from by rw [pq1]; exact up2_j (by decide)) (fun ri2 ie1 => ?_)
  refine c_get (k := 2) C ck_0 dJx4a65c_fastRemove_b59b0_11 w1_79 (by decide) t_a0 rfl rfl (by decide) rfl ?_
  refine c_iconst C dJx4a65c_fastRemove_b59b0_14 ?_
  refine c_isub C dJx4a65c_fastRemove_b59b0_15 ?_
  refine c_dup C dJx4a65c_fastRemove_b59b0_16 rfl ?_
  refine c_istore_n (lv2 := [(3, .int (iI ((iv1 a0 2) - 1))), (0, .ref a0), (1, .ref b0), (2, .int (iI i))]) C dJx4a65c_fastRemove_b59b0_17 (by decide) rfl ?_
  refine c_iload_n (j := 3) C dJx4a65c_fastRemove_b59b0_18 rfl ?_
  refine c_icmp_le (tgt := 34) C ⟨by omega, by omega⟩ ⟨by omega, by omega⟩ dJx4a65c_fastRemove_b59b0_19 (by decide) (fun _ => ?_) (fun z => absurd z (by omega))
  refine c_aload_n (j := 2) (x := b0) C dJx4a65c_fastRemove_b59b0_34 rfl ?_
  refine c_aload_n (j := 1) (x := a0) C dJx4a65c_fastRemove_b59b0_35 rfl ?_
  refine c_iload_n (j := 0) C dJx4a65c_fastRemove_b59b0_36 rfl ?_
  refine c_dup_x1 C dJx4a65c_fastRemove_b59b0_37 rfl rfl ?_
  refine c_put (z := (iv1 a0 2) - 1) (k := 2) C ck_0 dJx4a65c_fastRemove_b59b0_38 w1_79 (by decide) rfl t_a0 rfl rfl (by decide) rfl (by rfl) (by rfl) (fun iv2 pq2 => ?_)
  refine hv2 (W1.lsz pq2 t_a0 rfl (show 0 ≤ ((iv1 a0 2) - 1) ∧ ((iv1 a0 2) - 1) ≤ iv1 a0 2 by omega)) (F1.puti hX0 pq2 t_a0 rfl) (fun W2 F2 => ?_)
  refine c_null C dJx4a65c_fastRemove_b59b0_41 ?_
  have ll1 : 10 ≤ ln b0 ∧ ln b0 ≤ 1200 := W2.len t_b0 rfl
  refine c_aastNO (z := (iv1 a0 2) - 1) C dJx4a65c_fastRemove_b59b0_42 t_b0 rfl (by omega) (by omega) (by omega) (fun rv1 pq3 => ⟨0, (by rw [Phi.putr hS pq3 t_b0 rfl]; exact Nat.le_refl _), ?_⟩)
  refine hv4 (show 0 ≤ iv2 a0 2 ∧ iv2 a0 2 ≤ 512 from W2.int t_a0 2) (show iv2 a0 2 = (iv1 a0 2) - 1 from by rw [pq2]; exact up2_s) (F2.putr hX0 pq3 t_b0 rfl) (show rv1 a0 1 = rv a0 1 from (by rw [pq3]; exact congrFun (upr_a (ne_ty t_a0 t_b0 (by decide))) _)) (fun ri3 ie2 F3 re1 => ?_)
  have W3 := W2.lnull (a := a0) (k := 1) pq3 t_b0 (by decide) rfl hcb (by decide) (show iv2 a0 2 ≤ ((((iv1 a0 2) - 1).toNat : Nat) : Int) by omega)
  rw [hed] at re1
  have pl1 := Phi.le W3 hS
  exact c_vret C dJx4a65c_fastRemove_b59b0_43 rfl (by decide) (rom0 hph pl1 (by decide)) ⟨rfl, rfl, rfl, rfl, F3, W3, ⟨by omega, fun j hj => (by rw [el_of re1, el_of hed, pq3, upr_j (by omega)])⟩⟩
set_option maxHeartbeats 4000000 in
set_option maxRecDepth 100000 in
theorem C_remove_23 {l : Launch} {G : GT} {mi : Nat} {sk : Nat → Nat} {L : List Nat} {cl ln : Nat → Nat} {iv : Nat → Nat → Int} {rv : Nat → Nat → Option Nat}  {a0 : Nat} {i : Int} (hW : WT (g0 G) sk L cl ln iv rv) (hS : SKL sk L cl) (t_a0 : ty L cl a0 23) (h_i : -2147483648 ≤ i ∧ i ≤ 2147483647) (hi : i = iv a0 2 - 1 ∧ 0 ≤ i) : Mc l G mi (Phi (g0 G) sk) PHM yJx4a65c_remove_915e3 cJx4a65c_remove_915e3 4 (some (.object "java/lang/Object")) 2 [.ref a0, .int (iI i)] L cl ln iv rv 0 (fun v L2 cl2 ln2 iv2 rv2 => ∃ f : Nat, v = some (.ref f) ∧ L = L2 ∧ cl = cl2 ∧ ln = ln2 ∧ fT [23, 1001] L cl iv rv iv2 rv2 ∧ WT (g0 G) sk L2 cl2 ln2 iv2 rv2 ∧ ty L2 cl2 f 21 ∧ (iv2 a0 2 = iv a0 2 - 1 ∧ ∀ j : Nat, (j : Int) < iv a0 2 - 1 → el rv2 a0 j = el rv a0 j) ∧ (el rv a0 (iv a0 2 - 1).toNat = some f)) := by
  refine Mc.mk (by decide) (Nat.le_of_ble_eq_true rfl) ?_
  intro p e s m args below meth c A C hM
  refine hv3 (Phi.le hW hS) (show XT L cl ln L cl ln from XT.refl) (show fT [23, 1001] L cl iv rv iv rv from fT.refl) (fun hph hX0 hF0 => ?_)
  refine c_iload_n (j := 1) C dJx4a65c_remove_915e3_0 rfl ?_
  refine c_aload_n (j := 0) (x := a0) C dJx4a65c_remove_915e3_1 rfl ?_
  have ri1 : 0 ≤ iv a0 2 ∧ iv a0 2 ≤ 512 := hW.int t_a0 2
  refine c_get (k := 2) C ck_0 dJx4a65c_remove_915e3_2 w1_79 (by decide) t_a0 rfl rfl (by decide) rfl ?_
  refine d_callS (As := [.int (iI i), .int (iI (iv a0 2))]) (rest := []) C hM (C_checkIndex2 (i := i) (n := iv a0 2) hW hS  (by omega) (by omega) (by show 0 ≤ i ∧ i < (iv a0 2); omega)) dJx4a65c_remove_915e3_5 kS_Jx4a65c_118 rfl rfl (Nat.le_of_ble_eq_true rfl) ⟨(Nat.le_of_ble_eq_true rfl), (Nat.le_of_ble_eq_true rfl)⟩ hph hph (show 0 + 0 = 0 from rfl) (by decide) (fun rh1 Lh1 clh1 lnh1 ivh1 rvh1 h1 => ?_)
  obtain ⟨f1, rfl, rfl, rfl, rfl, rfl, rfl, rgf1, exf1⟩ := h1
  refine c_st (st2 := [.int (iI f1)]) rfl ?_
  have gf1 : f1 = i := exf1
  refine c_pop C dJx4a65c_remove_915e3_8 rfl ?_
  refine c_aload_n (j := 0) (x := a0) C dJx4a65c_remove_915e3_9 rfl ?_
  obtain ⟨eb1, eq1, teb1, ceb1, zeb1⟩ := hW.ed2 t_a0 rfl rfl (by omega)
  have lneb1 : 10 ≤ ln eb1 ∧ ln eb1 ≤ 1200 := hW.len teb1 rfl
  refine c_getr (k := 1) C ck_0 dJx4a65c_remove_915e3_10 w1_78 (by decide) t_a0 rfl rfl (by decide) rfl eq1 ?_
  refine c_st (st2 := [.ref eb1]) rfl ?_
  refine c_astore_n (lv2 := [(2, .ref eb1), (0, .ref a0), (1, .int (iI i))]) C dJx4a65c_remove_915e3_13 (by decide) rfl ?_
  refine c_aload_n (j := 0) (x := eb1) C dJx4a65c_remove_915e3_14 rfl ?_
  refine c_iload_n (j := 2) C dJx4a65c_remove_915e3_15 rfl ?_
  have ll1 : 10 ≤ ln eb1 ∧ ln eb1 ≤ 1200 := hW.len teb1 rfl
  obtain ⟨nb1, nq1, tnb1⟩ := hW.elem t_a0 rfl eq1 teb1 rfl rfl (i := i.toNat) (by omega)
  have tnb1 : ty L cl nb1 21 := tnb1
  refine c_aaldO C dJx4a65c_remove_915e3_16 teb1 rfl (by omega) (by omega) (by omega) nq1 ?_
  refine c_st (st2 := [.ref nb1]) rfl ?_
  refine c_astore_n (lv2 := [(3, .ref nb1), (2, .ref eb1), (0, .ref a0), (1, .int (iI i))]) C dJx4a65c_remove_915e3_17 (by decide) rfl ?_
  refine c_aload_n (j := 2) (x := a0) C dJx4a65c_remove_915e3_18 rfl ?_
  refine c_aload_n (j := 1) (x := eb1) C dJx4a65c_remove_915e3_19 rfl ?_
  refine c_iload_n (j := 3) C dJx4a65c_remove_915e3_20 rfl ?_
  refine d_callV (As := [.ref eb1, .int (iI i)]) (rest := []) C hM (C_fastRemove_23 (a0 := a0) (b0 := eb1) (i := i) hW hS t_a0 teb1 (by omega) eq1 ceb1 (by show i = iv a0 2 - 1 ∧ 0 ≤ i ∧ iv a0 2 ≤ ((ln eb1 : Nat) : Int); omega)) dJx4a65c_remove_915e3_21 kV_Jx4a65c_144 rfl t_a0 rfl rfl (by decide) ck_0 rfl (Nat.le_of_ble_eq_true rfl) ⟨(Nat.le_of_ble_eq_true rfl), (Nat.le_of_ble_eq_true rfl)⟩ hph hph (show 0 + 0 = 0 from rfl) (by decide) (fun rh2 Lh2 clh2 lnh2 ivh2 rvh2 h2 => ?_)
  obtain ⟨rfl, rfl, rfl, rfl, fl2, W2, exf2⟩ := h2
  have F1 := hF0.call hX0 fl2 rfl
  refine c_st (st2 := []) rfl ?_
  refine hv2 (show 0 ≤ ivh2 a0 2 ∧ ivh2 a0 2 ≤ 512 from W2.int t_a0 2) (show ivh2 a0 2 = iv a0 2 - 1 ∧ ∀ j : Nat, (j : Int) < iv a0 2 - 1 → el rvh2 a0 j = el rv a0 j from exf2) (fun ri2 gf2 => ?_)
  refine c_aload_n (j := 0) (x := nb1) C dJx4a65c_remove_915e3_24 rfl ?_
  have pl1 := Phi.le W2 hS
  exact c_aret (x := some nb1) C dJx4a65c_remove_915e3_25 rfl (Or.inl ⟨_, rfl⟩) (by decide) (rom0 hph pl1 (by decide)) ⟨nb1, rfl, rfl, rfl, rfl, F1, W2, tnb1, ⟨by omega, fun j hj => exf2.2 j (by omega)⟩, (by rw [show (iv a0 2 - 1).toNat = i.toNat by omega]; exact ((el_of eq1).trans nq1))⟩
set_option maxHeartbeats 4000000 in
set_option maxRecDepth 100000 in
theorem Z_copyO3_24 {l : Launch} {G : GT} {mi : Nat} {sk : Nat → Nat} {L : List Nat} {cl ln : Nat → Nat} {iv : Nat → Nat → Int} {rv : Nat → Nat → Option Nat}  {a0 : Nat} {n : Int} (hW : WT (g0 G) sk L cl ln iv rv) (hS : SKL sk L cl) (t_a0 : ty L cl a0 1002) (h_n : -2147483648 ≤ n ∧ n ≤ 2147483647) (hn : ((ln a0 : Nat) : Int) < n ∧ 10 ≤ n ∧ n ≤ 9100) : Mc l G mi zPf 0 yJ7_copyOf_6403c cJ7_copyOf_6403c 4 (some (.array (.object "java/lang/Object"))) 1 [.ref a0, .int (iI n), .ref mi] L cl ln iv rv (16 + n.toNat) (fun v L2 cl2 ln2 iv2 rv2 => ∃ f : Nat, v = some (.ref f) ∧ XT L cl ln L2 cl2 ln2 ∧ fT [1002] L cl iv rv iv2 rv2 ∧ WT (g0 G) sk L2 cl2 ln2 iv2 rv2 ∧ ty L2 cl2 f 1002 ∧ (ln2 f = n.toNat ∧ cl2 f = cl a0 ∧ ∀ i : Nat, i < ln a0 → rv2 f i = rv a0 i)) := by
  refine Mc.mk (by decide) (Nat.le_of_ble_eq_true rfl) ?_
  intro p e s m args below meth c A C hM
  refine hv3 ((show zPf ln rv ≤ 0 from Nat.le_refl 0)) (show XT L cl ln L cl ln from XT.refl) (show fT [1002] L cl iv rv iv rv from fT.refl) (fun hph hX0 hF0 => ?_)
  refine c_aload_n (j := 2) (x := mi) C dJ7_copyOf_6403c_0 rfl ?_
  refine c_ldcM C hM dJ7_copyOf_6403c_1 w3_29 ?_
  refine c_acmp_ne (rx := some mi) (ry := some mi) (tgt := 13) C dJ7_copyOf_6403c_3 (by decide) (fun q => absurd rfl q) (fun _ => ?_)
  refine c_iload_n (j := 1) C dJ7_copyOf_6403c_6 rfl ?_
  refine c_newaO (z := n) (N := n.toNat) C (cl a0) dJ7_copyOf_6403c_7 w3_31 w3_30t (by rw [t_a0.2]; rfl) (by omega) (by omega) (rom2 hph hph (by omega)) (fun qn1 cln1 lnn1 ivn1 rvn1 hqn1 hcn1 hln1 hin1 hrn1 => ⟨(0 + (16 + n.toNat)), (z_in (by omega)), ?_⟩)
  refine c_g0 C (fun hg1 => ?_)
  refine hv5 (show ∀ b, b ≠ qn1 → lnn1 b = ln b from (fun b hb => by rw [hln1]; exact va_up_ne _ _ hb)) (show lnn1 qn1 = n.toNat from by rw [hln1]; exact va_up_self _ _ _) (hF0.new hX0 hqn1 hin1 hrn1) (show ty (L ++ [qn1]) cln1 qn1 1002 from ⟨List.mem_append_right _ List.mem_cons_self, by rw [hcn1, va_up_self]; exact t_a0.2⟩) (show cln1 qn1 = (cl a0) from by rw [hcn1]; exact va_up_self _ _ _) (fun hxn1 lqn1 F1 tqn1 clqn1 => ?_)
  refine hv2 (hW.new (ln2 := lnn1) hqn1 (hg1 qn1 (List.mem_append_right _ List.mem_cons_self)) hcn1 hxn1 hin1 hrn1 (fun _ => by rw [t_a0.2]; exact ⟨(show (-2147483648 : Int) ≤ 0 by decide), (show (0 : Int) ≤ 2147483647 by decide)⟩) (Or.inr (fun _ => by rw [t_a0.2]; rfl)) (fun _ => by rw [t_a0.2]; show 10 ≤ lnn1 qn1 ∧ lnn1 qn1 ≤ 9100; omega) (by rw [t_a0.2]; rfl) (uq_big (by rw [t_a0.2]; decide))) (XT.new hqn1 hcn1 hxn1) (fun W1 xl1 => ?_)
  refine hv2 (hX0.trans xl1) (xl1.skl hS) (fun X1 sk1 => ?_)
  refine c_goto (tgt := 24) C dJ7_copyOf_6403c_10 (by decide) ?_
  refine c_astore_n (lv2 := [(3, .ref qn1), (0, .ref a0), (1, .int (iI n)), (2, .ref mi)]) C dJ7_copyOf_6403c_24 (by decide) rfl ?_
  refine c_aload_n (j := 1) (x := a0) C dJ7_copyOf_6403c_25 rfl ?_
  refine c_iconst C dJ7_copyOf_6403c_26 ?_
  refine c_aload_n (j := 0) (x := qn1) C dJ7_copyOf_6403c_27 rfl ?_
  refine c_iconst C dJ7_copyOf_6403c_28 ?_
  refine c_aload_n (j := 1) (x := a0) C dJ7_copyOf_6403c_29 rfl ?_
  have ty1 := xl1.ty t_a0
  have ll1 : 10 ≤ lnn1 a0 ∧ lnn1 a0 ≤ 9100 := W1.len ty1 rfl
  refine c_alenO C dJ7_copyOf_6403c_30 ty1 rfl ?_
  refine c_iload_n (j := 2) C dJ7_copyOf_6403c_31 rfl ?_
  obtain ⟨mn1, hmn1, emn1⟩ := mmin_c (x := ((lnn1 a0 : Nat) : Int)) (y := n) ⟨by omega, by omega⟩ ⟨by omega, by omega⟩
  refine c_mmin (w := iI mn1) C dJ7_copyOf_6403c_32 w2_128 w2_129 w1_14 w2_130 (by decide) (rom0 hph (Nat.le_refl 0) (by omega)) (Nat.le_of_ble_eq_true rfl) emn1 ?_
  have le1 : lnn1 a0 = ln a0 := (xl1 a0 t_a0.1).2.2
  refine c_copyq (n := mn1) C ck_6 w8_185t dJ7_copyOf_6403c_35 w2_131 w2_133 w2_132 w1_15 ty1 rfl tqn1 rfl (fun i y hy => by
      rcases W1.opt ty1 i rfl rfl with qq | ⟨bb, q1, q2⟩
      · rw [qq.1] at hy; cases hy
      · rw [q1] at hy; cases hy; exact q2) rfl rfl (by decide) (by omega) (by omega) (by omega) (by omega) (by decide) (Nat.le_of_ble_eq_true rfl) (fun rv1 cq1 => ⟨(0 + (16 + n.toNat)), (zp2 (Nat.le_refl _)), ?_⟩)
  have hno : ∀ w ∈ (L ++ [qn1]), lst (bt (cln1 w)) = true → rvn1 w 1 ≠ some qn1 := by
    intro w hw hl3 e3
    rcases List.mem_append.mp hw with e4 | e4
    · have hwq : w ≠ qn1 := fun e => hqn1 (e ▸ e4)
      rw [hcn1, va_up_ne _ _ hwq] at hl3
      rw [hrn1, up0_a hwq] at e3
      rcases WT.ed hW e4 (lst_szd hl3) e3 with e5 | e5
      · exact hqn1 e5
      · exact hg1 qn1 tqn1.1 e5
    · have e5 := List.mem_singleton.mp e4
      rw [e5, tqn1.2] at hl3; cases hl3
  refine hv2 (W1.copyr (TB2 := 0) cq1 tqn1 ty1 (by decide) (fun _ _ => rfl) (fun _ => rfl) hno) (F1.copyr X1 cq1 tqn1 rfl) (fun W2 F2 => ?_)
  refine c_aload_n (j := 0) (x := qn1) C dJ7_copyOf_6403c_38 rfl ?_
  exact c_aret (x := some qn1) C dJ7_copyOf_6403c_39 rfl (Or.inr ⟨_, rfl⟩) (by omega) (rom0 hph (Nat.le_refl 0) (by omega)) ⟨qn1, rfl, X1, F2, W2, tqn1, ⟨by omega, clqn1, fun i hi => by
      rw [cq1]
      show (if qn1 = qn1 then _ else _) = rv a0 i
      rw [if_pos rfl, if_pos (by omega), hrn1]
      exact congrFun (up0_a (ne_in t_a0.1 hqn1)) i⟩⟩
set_option maxHeartbeats 4000000 in
set_option maxRecDepth 100000 in
theorem Z_copyO2_24 {l : Launch} {G : GT} {mi : Nat} {sk : Nat → Nat} {L : List Nat} {cl ln : Nat → Nat} {iv : Nat → Nat → Int} {rv : Nat → Nat → Option Nat}  {a0 : Nat} {n : Int} (hW : WT (g0 G) sk L cl ln iv rv) (hS : SKL sk L cl) (t_a0 : ty L cl a0 1002) (h_n : -2147483648 ≤ n ∧ n ≤ 2147483647) (hn : ((ln a0 : Nat) : Int) < n ∧ 10 ≤ n ∧ n ≤ 9100) : Mc l G mi zPf 0 yJ7_copyOf_1904c cJ7_copyOf_1904c 2 (some (.array (.object "java/lang/Object"))) 2 [.ref a0, .int (iI n)] L cl ln iv rv (16 + n.toNat) (fun v L2 cl2 ln2 iv2 rv2 => ∃ f : Nat, v = some (.ref f) ∧ XT L cl ln L2 cl2 ln2 ∧ fT [1002] L cl iv rv iv2 rv2 ∧ WT (g0 G) sk L2 cl2 ln2 iv2 rv2 ∧ ty L2 cl2 f 1002 ∧ (ln2 f = n.toNat ∧ cl2 f = cl a0 ∧ ∀ i : Nat, i < ln a0 → rv2 f i = rv a0 i)) := by
  refine Mc.mk (by decide) (Nat.le_of_ble_eq_true rfl) ?_
  intro p e s m args below meth c A C hM
  refine hv3 ((show zPf ln rv ≤ 0 from Nat.le_refl 0)) (show XT L cl ln L cl ln from XT.refl) (show fT [1002] L cl iv rv iv rv from fT.refl) (fun hph hX0 hF0 => ?_)
  refine c_aload_n (j := 0) (x := a0) C dJ7_copyOf_1904c_0 rfl ?_
  refine c_iload_n (j := 1) C dJ7_copyOf_1904c_1 rfl ?_
  refine c_aload_n (j := 0) (x := a0) C dJ7_copyOf_1904c_2 rfl ?_
  refine c_getC C hM dJ7_copyOf_1904c_3 w3_8 w8_172 w3_9 w3_25 t_a0 rfl (by decide) (Nat.le_of_ble_eq_true rfl) ?_
  refine c_callS (As := [.ref a0, .int (iI n), .ref mi]) (rest := []) C hM (Z_copyO3_24 (a0 := a0) (n := n) hW hS t_a0 (by omega) (by show ((ln a0 : Nat) : Int) < n ∧ 10 ≤ n ∧ n ≤ 9100; omega)) dJ7_copyOf_1904c_6 kS_J7_300 rfl rfl (Nat.le_of_ble_eq_true rfl) ⟨(Nat.le_of_ble_eq_true rfl), (Nat.le_of_ble_eq_true rfl)⟩ (rz0 hph (by omega)) (fun rh1 Lh1 clh1 lnh1 ivh1 rvh1 h1 => ⟨(0 + (16 + n.toNat)), zk0, ?_⟩)
  obtain ⟨f1, rfl, xl1, fl1, W1, rgf1, exf1⟩ := h1
  refine hv3 (hF0.call hX0 fl1 rfl) (hX0.trans xl1) (xl1.skl hS) (fun F1 X1 sk1 => ?_)
  refine c_st (st2 := [.ref f1]) rfl ?_
  have gf1 : lnh1 f1 = n.toNat ∧ clh1 f1 = cl a0 ∧ ∀ i : Nat, i < ln a0 → rvh1 f1 i = rv a0 i := exf1
  exact c_aret (x := some f1) C dJ7_copyOf_1904c_9 rfl (Or.inr ⟨_, rfl⟩) (by omega) (rom0 hph (Nat.le_refl 0) (by omega)) ⟨f1, rfl, X1, F1, W1, rgf1, exf1⟩
set_option maxHeartbeats 4000000 in
set_option maxRecDepth 100000 in
theorem C_growA_24 {l : Launch} {G : GT} {mi : Nat} {sk : Nat → Nat} {L : List Nat} {cl ln : Nat → Nat} {iv : Nat → Nat → Int} {rv : Nat → Nat → Option Nat}  {a0 : Nat} {n : Int} (hW : WT (g0 G) sk L cl ln iv rv) (hS : SKL sk L cl) (t_a0 : ty L cl a0 24) (h_n : -2147483648 ≤ n ∧ n ≤ 2147483647) (hed : rv a0 1 = some (g0 G)) (hn : n = 1 ∧ iv a0 2 = 0) : Mc l G mi (Phi (g0 G) sk) PHM yJx4a65c_grow_92f84 cJx4a65c_grow_92f84 4 (some (.array (.object "java/lang/Object"))) 3 [.ref a0, .int (iI n)] L cl ln iv rv 0 (fun v L2 cl2 ln2 iv2 rv2 => ∃ f : Nat, v = some (.ref f) ∧ XT L cl ln L2 cl2 ln2 ∧ fT [24, 1002] L cl iv rv iv2 rv2 ∧ WT (g0 G) sk L2 cl2 ln2 iv2 rv2 ∧ ty L2 cl2 f 1002 ∧ (rv2 a0 1 = some f ∧ iv2 a0 2 = iv a0 2 ∧ iv a0 2 + 1 ≤ ((ln2 f : Nat) : Int) ∧ cl2 f = 1000 + 5 * a0 + 2 ∧ ∀ i : Nat, (i : Int) < iv a0 2 → rv2 f i = el rv a0 i)) := by
  refine Mc.mk (by decide) (Nat.le_of_ble_eq_true rfl) ?_
  intro p e s m args below meth c A C hM
  refine hv3 (Phi.le hW hS) (show XT L cl ln L cl ln from XT.refl) (show fT [24, 1002] L cl iv rv iv rv from fT.refl) (fun hph hX0 hF0 => ?_)
  refine c_aload_n (j := 0) (x := a0) C dJx4a65c_grow_92f84_0 rfl ?_
  refine c_getr (k := 1) C ck_0 dJx4a65c_grow_92f84_1 w1_78 (by decide) t_a0 rfl rfl (by decide) rfl hed ?_
  refine c_st (st2 := [.ref (g0 G)]) rfl ?_
  refine c_tlen C dJx4a65c_grow_92f84_4 ?_
  refine c_istore_n (lv2 := [(2, .int (iI 0)), (0, .ref a0), (1, .int (iI n))]) C dJx4a65c_grow_92f84_5 (by decide) rfl ?_
  refine c_iload_n (j := 0) C dJx4a65c_grow_92f84_6 rfl ?_
  refine c_if_gt (tgt := 20) C ⟨by decide, by decide⟩ dJx4a65c_grow_92f84_7 (by decide) (fun z => absurd z (by omega)) (fun _ => ?_)
  refine c_aload_n (j := 1) (x := a0) C dJx4a65c_grow_92f84_10 rfl ?_
  refine c_getr (k := 1) C ck_0 dJx4a65c_grow_92f84_11 w1_78 (by decide) t_a0 rfl rfl (by decide) rfl hed ?_
  refine c_st (st2 := [.ref (g0 G)]) rfl ?_
  refine c_gets C dJx4a65c_grow_92f84_14 w1_76 ?_
  refine c_acmp_eq (rx := some (g0 G)) (ry := some (g0 G)) (tgt := 45) C dJx4a65c_grow_92f84_17 (by decide) (fun _ => ?_) (fun q => absurd rfl q)
  refine c_aload_n (j := 1) (x := a0) C dJx4a65c_grow_92f84_45 rfl ?_
  refine c_bipush (z := 10) C dJx4a65c_grow_92f84_46 (by decide) ?_
  refine c_iload_n (j := 2) C dJx4a65c_grow_92f84_48 rfl ?_
  obtain ⟨mn1, hmn1, emn1⟩ := mmax_c (x := 10) (y := n) ⟨by decide, by decide⟩ ⟨by omega, by omega⟩
  refine c_mmax (w := iI mn1) C dJx4a65c_grow_92f84_49 w3_32 w2_148 w1_14 w2_149 (by decide) (rom0 hph hph (by decide)) (Nat.le_of_ble_eq_true rfl) emn1 ?_
  have l3 := (Phi.le3 hW hS).1
  refine c_newaO (z := mn1) (N := 10) C (1000 + 5 * a0 + 2) dJx4a65c_grow_92f84_52 w3_33 w3_30t (by rw [(bt_list (by decide))]; rfl) (by omega) (by omega) (by omega) (fun qn1 cln1 lnn1 ivn1 rvn1 hqn1 hcn1 hln1 hin1 hrn1 => ⟨(0 + (16 + 10)), (p_in (Phi.new hW hS hqn1 (fun b hb => by rw [hln1]; exact va_up_ne _ _ hb) hrn1) (by omega)), ?_⟩)
  refine c_g0 C (fun hg1 => ?_)
  refine hv5 (show ∀ b, b ≠ qn1 → lnn1 b = ln b from (fun b hb => by rw [hln1]; exact va_up_ne _ _ hb)) (show lnn1 qn1 = 10 from by rw [hln1]; exact va_up_self _ _ _) (hF0.new hX0 hqn1 hin1 hrn1) (show ty (L ++ [qn1]) cln1 qn1 1002 from ⟨List.mem_append_right _ List.mem_cons_self, by rw [hcn1, va_up_self]; exact (bt_list (by decide))⟩) (show cln1 qn1 = (1000 + 5 * a0 + 2) from by rw [hcn1]; exact va_up_self _ _ _) (fun hxn1 lqn1 F1 tqn1 clqn1 => ?_)
  refine hv2 (hW.new (ln2 := lnn1) hqn1 (hg1 qn1 (List.mem_append_right _ List.mem_cons_self)) hcn1 hxn1 hin1 hrn1 (fun _ => by rw [(bt_list (by decide))]; exact ⟨(show (-2147483648 : Int) ≤ 0 by decide), (show (0 : Int) ≤ 2147483647 by decide)⟩) (Or.inr (fun _ => by rw [(bt_list (by decide))]; rfl)) (fun _ => by rw [(bt_list (by decide))]; show 10 ≤ lnn1 qn1 ∧ lnn1 qn1 ≤ 9100; omega) (by rw [(bt_list (by decide))]; rfl) (uq_big (by rw [(bt_list (by decide))]; decide))) (XT.new hqn1 hcn1 hxn1) (fun W1 xl1 => ?_)
  refine hv2 (hX0.trans xl1) (xl1.skl hS) (fun X1 sk1 => ?_)
  refine c_dup_x1 C dJx4a65c_grow_92f84_55 rfl rfl ?_
  refine hv2 (xl1.ty t_a0) (show rvn1 a0 1 = rv a0 1 from (by rw [hrn1]; exact congrFun (up0_a (ne_in t_a0.1 hqn1)) _)) (fun ty1 re1 => ?_)
  rw [hed] at re1
  refine hv2 (show 0 ≤ ivn1 a0 2 ∧ ivn1 a0 2 ≤ 6003 from W1.int ty1 2) (show ivn1 a0 2 = iv a0 2 from by rw [hin1]; exact congrFun (up0_a (ne_in t_a0.1 hqn1)) _) (fun ri1 ie1 => ?_)
  refine c_g0 C (fun hg2 => ?_)
  refine hv2 (W1.sk ty1 (by decide) rfl) (cap_g (ln := lnn1) re1) (fun ask cpo => ?_)
  refine c_putr (x := (some qn1)) (k := 1) C ck_0 dJx4a65c_grow_92f84_56 w1_78 (by decide) rfl ty1 rfl rfl (by decide) rfl (by rfl) (by rfl) (fun rv1 pq1 => ⟨0, (by have gr := Phi.grow (g := g0 G) (rv2 := rv1) (rv := rvn1) (b := qn1) (ln := lnn1) (t := 24) sk1 (by rw [← ask]; exact pq1) (hg2 qn1 tqn1.1) (Or.inr (by decide)); rw [← ask] at gr; have gr2 : Phi (g0 G) sk lnn1 rv1 + 8 * cap (g0 G) lnn1 rvn1 a0 = Phi (g0 G) sk lnn1 rvn1 + 8 * lnn1 qn1 := gr; omega), ?_⟩)
  refine hv3 (W1.led pq1 ty1 rfl tqn1.1 clqn1 (by omega) (fun i hi => absurd hi (by omega))) (F1.putr X1 pq1 ty1 rfl) (show rv1 a0 1 = (some qn1) from by rw [pq1]; exact upr_s) (fun W2 F2 rp1 => ?_)
  have pl1 := Phi.le W2 sk1
  exact c_aret (x := some qn1) C dJx4a65c_grow_92f84_59 rfl (Or.inr ⟨_, rfl⟩) (by decide) (rom0 hph pl1 (by decide)) ⟨qn1, rfl, X1, F2, W2, tqn1, ⟨rp1, (by omega), (by omega), clqn1, (fun i hi => absurd hi (by omega))⟩⟩
set_option maxHeartbeats 4000000 in
set_option maxRecDepth 100000 in
theorem C_growB_24 {l : Launch} {G : GT} {mi : Nat} {sk : Nat → Nat} {L : List Nat} {cl ln : Nat → Nat} {iv : Nat → Nat → Int} {rv : Nat → Nat → Option Nat}  {a0 : Nat} {n : Int} {b0 : Nat} (hW : WT (g0 G) sk L cl ln iv rv) (hS : SKL sk L cl) (t_a0 : ty L cl a0 24) (t_b0 : ty L cl b0 1002) (h_n : -2147483648 ≤ n ∧ n ≤ 2147483647) (hed : rv a0 1 = some b0) (hcb : cl b0 = 1000 + 5 * a0 + 2) (hn : n = iv a0 2 + 1 ∧ iv a0 2 = ((ln b0 : Nat) : Int) ∧ iv a0 2 < 6003) : Mc l G mi (Phi (g0 G) sk) PHM yJx4a65c_grow_92f84 cJx4a65c_grow_92f84 4 (some (.array (.object "java/lang/Object"))) 3 [.ref a0, .int (iI n)] L cl ln iv rv 0 (fun v L2 cl2 ln2 iv2 rv2 => ∃ f : Nat, v = some (.ref f) ∧ XT L cl ln L2 cl2 ln2 ∧ fT [24, 1002] L cl iv rv iv2 rv2 ∧ WT (g0 G) sk L2 cl2 ln2 iv2 rv2 ∧ ty L2 cl2 f 1002 ∧ (rv2 a0 1 = some f ∧ iv2 a0 2 = iv a0 2 ∧ iv a0 2 + 1 ≤ ((ln2 f : Nat) : Int) ∧ cl2 f = 1000 + 5 * a0 + 2 ∧ ∀ i : Nat, (i : Int) < iv a0 2 → rv2 f i = el rv a0 i)) := by
  refine Mc.mk (by decide) (Nat.le_of_ble_eq_true rfl) ?_
  intro p e s m args below meth c A C hM
  refine hv3 (Phi.le hW hS) (show XT L cl ln L cl ln from XT.refl) (show fT [24, 1002] L cl iv rv iv rv from fT.refl) (fun hph hX0 hF0 => ?_)
  refine c_aload_n (j := 0) (x := a0) C dJx4a65c_grow_92f84_0 rfl ?_
  refine c_getr (k := 1) C ck_0 dJx4a65c_grow_92f84_1 w1_78 (by decide) t_a0 rfl rfl (by decide) rfl hed ?_
  refine c_st (st2 := [.ref b0]) rfl ?_
  have ll1 : 10 ≤ ln b0 ∧ ln b0 ≤ 9100 := hW.len t_b0 rfl
  refine c_alenO C dJx4a65c_grow_92f84_4 t_b0 rfl ?_
  refine c_istore_n (lv2 := [(2, .int (iI ((ln b0 : Nat) : Int))), (0, .ref a0), (1, .int (iI n))]) C dJx4a65c_grow_92f84_5 (by decide) rfl ?_
  refine c_iload_n (j := 0) C dJx4a65c_grow_92f84_6 rfl ?_
  refine c_if_gt (tgt := 20) C ⟨by omega, by omega⟩ dJx4a65c_grow_92f84_7 (by decide) (fun _ => ?_) (fun z => absurd z (by omega))
  refine c_iload_n (j := 0) C dJx4a65c_grow_92f84_20 rfl ?_
  refine c_iload_n (j := 2) C dJx4a65c_grow_92f84_21 rfl ?_
  refine c_iload_n (j := 0) C dJx4a65c_grow_92f84_22 rfl ?_
  refine c_isub C dJx4a65c_grow_92f84_23 ?_
  refine c_iload_n (j := 0) C dJx4a65c_grow_92f84_24 rfl ?_
  refine c_iconst C dJx4a65c_grow_92f84_25 ?_
  obtain ⟨zz1, hzz1, ezz1⟩ := iI_of (iI ((ln b0 : Nat) : Int) >>> (iI 1 &&& 31))
  refine c_ishr (w := iI zz1) C dJx4a65c_grow_92f84_26 ezz1 ?_
  have shzz1 : zz1 = ((ln b0 : Nat) : Int) / 2 := (iI_eq hzz1 ⟨by omega, by omega⟩).mp (ezz1.symm.trans (shr1 ⟨by omega, by omega⟩))
  refine d_callS (As := [.int (iI ((ln b0 : Nat) : Int)), .int (iI (n - ((ln b0 : Nat) : Int))), .int (iI zz1)]) (rest := []) C hM (C_newLength (i := ((ln b0 : Nat) : Int)) (n := n - ((ln b0 : Nat) : Int)) (x := zz1) hW hS  (by omega) (by omega) (by omega) (by show 0 ≤ ((ln b0 : Nat) : Int) ∧ ((ln b0 : Nat) : Int) ≤ 100000 ∧ 1 ≤ (n - ((ln b0 : Nat) : Int)) ∧ (n - ((ln b0 : Nat) : Int)) ≤ 100000 ∧ 0 ≤ zz1 ∧ zz1 ≤ 100000; omega)) dJx4a65c_grow_92f84_27 kS_Jx4a65c_73 rfl rfl (Nat.le_of_ble_eq_true rfl) ⟨(Nat.le_of_ble_eq_true rfl), (Nat.le_of_ble_eq_true rfl)⟩ hph hph (show 0 + 0 = 0 from rfl) (by decide) (fun rh1 Lh1 clh1 lnh1 ivh1 rvh1 h1 => ?_)
  obtain ⟨f1, rfl, rfl, rfl, rfl, rfl, rfl, rgf1, exf1⟩ := h1
  refine c_st (st2 := [.int (iI f1)]) rfl ?_
  have gf1 : ((n - ((ln b0 : Nat) : Int)) ≤ zz1 ∧ f1 = ((ln b0 : Nat) : Int) + zz1) ∨ (zz1 < (n - ((ln b0 : Nat) : Int)) ∧ f1 = ((ln b0 : Nat) : Int) + (n - ((ln b0 : Nat) : Int))) := exf1
  refine c_istore_n (lv2 := [(3, .int (iI f1)), (2, .int (iI ((ln b0 : Nat) : Int))), (0, .ref a0), (1, .int (iI n))]) C dJx4a65c_grow_92f84_30 (by decide) rfl ?_
  refine c_aload_n (j := 2) (x := a0) C dJx4a65c_grow_92f84_31 rfl ?_
  refine c_aload_n (j := 2) (x := a0) C dJx4a65c_grow_92f84_32 rfl ?_
  refine c_getr (k := 1) C ck_0 dJx4a65c_grow_92f84_33 w1_78 (by decide) t_a0 rfl rfl (by decide) rfl hed ?_
  refine c_st (st2 := [.ref b0, .ref a0]) rfl ?_
  refine c_iload_n (j := 0) C dJx4a65c_grow_92f84_36 rfl ?_
  refine c_g0 C (fun hg0 => ?_)
  refine hv2 (hW.sk t_a0 (by decide) rfl) (cap_of (ln := ln) hed (hg0 b0 t_b0.1)) (fun ask0 cp0 => ?_)
  have l3 := (Phi.le3 hW hS).2 24 (ln b0) (by decide) (by rw [← ask0]; exact cp0) (by omega)
  refine c_callS (As := [.ref b0, .int (iI f1)]) (rest := [.ref a0]) C hM (Z_copyO2_24 (a0 := b0) (n := f1) hW hS t_b0 (by omega) (by show ((ln b0 : Nat) : Int) < f1 ∧ 10 ≤ f1 ∧ f1 ≤ 9100; omega)) dJx4a65c_grow_92f84_37 kS_Jx4a65c_66 rfl rfl (Nat.le_of_ble_eq_true rfl) ⟨(Nat.le_of_ble_eq_true rfl), (Nat.le_of_ble_eq_true rfl)⟩ (by unfold zPf; omega) (fun rh2 Lh2 clh2 lnh2 ivh2 rvh2 h2 => ⟨(0 + (16 + f1.toNat)), (zk1 (by obtain ⟨_, _, xlh2x, flh2x, Wh2x, _⟩ := h2; exact Phi.fr hW hS xlh2x flh2x rfl)), ?_⟩)
  obtain ⟨f2, rfl, xl2, fl2, W2, rgf2, exf2⟩ := h2
  refine hv3 (hF0.call hX0 fl2 rfl) (hX0.trans xl2) (xl2.skl hS) (fun F1 X1 sk1 => ?_)
  refine c_st (st2 := [.ref f2, .ref a0]) rfl ?_
  have gf2 : lnh2 f2 = f1.toNat ∧ clh2 f2 = cl b0 ∧ ∀ i : Nat, i < ln b0 → rvh2 f2 i = rv b0 i := exf2
  refine c_dup_x1 C dJx4a65c_grow_92f84_40 rfl rfl ?_
  refine hv2 (xl2.ty t_a0) (show rvh2 a0 1 = rv a0 1 from (fl2.r t_a0 rfl 1)) (fun ty1 re1 => ?_)
  rw [hed] at re1
  refine hv2 (show 0 ≤ ivh2 a0 2 ∧ ivh2 a0 2 ≤ 6003 from W2.int ty1 2) (show ivh2 a0 2 = iv a0 2 from fl2.i t_a0 rfl 2) (fun ri1 ie1 => ?_)
  refine c_g0 C (fun hg1 => ?_)
  refine hv3 (W2.sk ty1 (by decide) rfl) (xl2.ty t_b0) (show lnh2 b0 = ln b0 from (xl2 b0 t_b0.1).2.2) (fun ask ty2 le1 => ?_)
  have cpo := cap_of (ln := lnh2) re1 (hg1 b0 ty2.1)
  refine c_putr (x := (some f2)) (k := 1) C ck_0 dJx4a65c_grow_92f84_41 w1_78 (by decide) rfl ty1 rfl rfl (by decide) rfl (by rfl) (by rfl) (fun rv1 pq1 => ⟨0, (by have gr := Phi.grow (g := g0 G) (rv2 := rv1) (rv := rvh2) (b := f2) (ln := lnh2) (t := 24) sk1 (by rw [← ask]; exact pq1) (hg1 f2 rgf2.1) (Or.inr (by decide)); rw [← ask] at gr; have gr2 : Phi (g0 G) sk lnh2 rv1 + 8 * cap (g0 G) lnh2 rvh2 a0 = Phi (g0 G) sk lnh2 rvh2 + 8 * lnh2 f2 := gr; omega), ?_⟩)
  have W3 := W2.led pq1 ty1 rfl rgf2.1 (exf2.2.1.trans hcb) (by omega) (fun i hi => by
      rw [exf2.2.2 i (by omega)]
      exact hW.2.2.2.2.1 a0 t_a0.1 (by rw [t_a0.2]; rfl) b0 hed i (by omega))
  refine hv3 (F1.putr X1 pq1 ty1 rfl) (show rv1 a0 1 = (some f2) from by rw [pq1]; exact upr_s) (Phi.le W3 sk1) (fun F2 rp1 pl1 => ?_)
  exact c_aret (x := some f2) C dJx4a65c_grow_92f84_44 rfl (Or.inr ⟨_, rfl⟩) (by decide) (rom0 hph pl1 (by decide)) ⟨f2, rfl, X1, F2, W3, rgf2, ⟨rp1, (by omega), (by omega), (exf2.2.1.trans hcb), (fun i hi => by rw [el_of hed, pq1, upr_a (ne_ty rgf2 ty1 (by decide))]; exact exf2.2.2 i (by omega))⟩⟩
set_option maxHeartbeats 4000000 in
set_option maxRecDepth 100000 in
theorem C_grow0A_24 {l : Launch} {G : GT} {mi : Nat} {sk : Nat → Nat} {L : List Nat} {cl ln : Nat → Nat} {iv : Nat → Nat → Int} {rv : Nat → Nat → Option Nat}  {a0 : Nat} (hW : WT (g0 G) sk L cl ln iv rv) (hS : SKL sk L cl) (t_a0 : ty L cl a0 24) (hed : rv a0 1 = some (g0 G)) (hn : iv a0 2 = 0) : Mc l G mi (Phi (g0 G) sk) PHM yJx4a65c_grow_d5877 cJx4a65c_grow_d5877 1 (some (.array (.object "java/lang/Object"))) 4 [.ref a0] L cl ln iv rv 0 (fun v L2 cl2 ln2 iv2 rv2 => ∃ f : Nat, v = some (.ref f) ∧ XT L cl ln L2 cl2 ln2 ∧ fT [24, 1002] L cl iv rv iv2 rv2 ∧ WT (g0 G) sk L2 cl2 ln2 iv2 rv2 ∧ ty L2 cl2 f 1002 ∧ (rv2 a0 1 = some f ∧ iv2 a0 2 = iv a0 2 ∧ iv a0 2 + 1 ≤ ((ln2 f : Nat) : Int) ∧ cl2 f = 1000 + 5 * a0 + 2 ∧ ∀ i : Nat, (i : Int) < iv a0 2 → rv2 f i = el rv a0 i)) := by
  refine Mc.mk (by decide) (Nat.le_of_ble_eq_true rfl) ?_
  intro p e s m args below meth c A C hM
  refine hv3 (Phi.le hW hS) (show XT L cl ln L cl ln from XT.refl) (show fT [24, 1002] L cl iv rv iv rv from fT.refl) (fun hph hX0 hF0 => ?_)
  refine c_aload_n (j := 0) (x := a0) C dJx4a65c_grow_d5877_0 rfl ?_
  refine c_aload_n (j := 0) (x := a0) C dJx4a65c_grow_d5877_1 rfl ?_
  have ri1 : 0 ≤ iv a0 2 ∧ iv a0 2 ≤ 6003 := hW.int t_a0 2
  refine c_get (k := 2) C ck_0 dJx4a65c_grow_d5877_2 w1_79 (by decide) t_a0 rfl rfl (by decide) rfl ?_
  refine c_iconst C dJx4a65c_grow_d5877_5 ?_
  refine c_iadd C dJx4a65c_grow_d5877_6 ?_
  refine d_callV (As := [.int (iI ((iv a0 2) + 1))]) (rest := []) C hM (C_growA_24 (a0 := a0) (n := (iv a0 2) + 1) hW hS t_a0 (by omega) hed (by show ((iv a0 2) + 1) = 1 ∧ iv a0 2 = 0; omega)) dJx4a65c_grow_d5877_7 kV_Jx4a65c_69 rfl t_a0 rfl rfl (by decide) ck_0 rfl (Nat.le_of_ble_eq_true rfl) ⟨(Nat.le_of_ble_eq_true rfl), (Nat.le_of_ble_eq_true rfl)⟩ hph hph (show 0 + 0 = 0 from rfl) (by decide) (fun rh1 Lh1 clh1 lnh1 ivh1 rvh1 h1 => ?_)
  obtain ⟨f1, rfl, xl1, fl1, W1, rgf1, exf1⟩ := h1
  refine hv3 (hF0.call hX0 fl1 rfl) (hX0.trans xl1) (xl1.skl hS) (fun F1 X1 sk1 => ?_)
  refine c_st (st2 := [.ref f1]) rfl ?_
  refine hv5 (xl1.ty t_a0) (show rvh1 a0 1 = some f1 ∧ ivh1 a0 2 = iv a0 2 ∧ iv a0 2 + 1 ≤ ((lnh1 f1 : Nat) : Int) ∧ clh1 f1 = 1000 + 5 * a0 + 2 ∧ ∀ i : Nat, (i : Int) < iv a0 2 → rvh1 f1 i = el rv a0 i from exf1) (exf1.2.2.1) (exf1.2.1) (Phi.le W1 sk1) (fun ty1 gf1 gzf1 gyf1 pl1 => ?_)
  have ri2 : 0 ≤ ivh1 a0 2 ∧ ivh1 a0 2 ≤ 6003 := W1.int ty1 2
  exact c_aret (x := some f1) C dJx4a65c_grow_d5877_10 rfl (Or.inr ⟨_, rfl⟩) (by decide) (rom0 hph pl1 (by decide)) ⟨f1, rfl, X1, F1, W1, rgf1, exf1⟩
set_option maxHeartbeats 4000000 in
set_option maxRecDepth 100000 in
theorem C_grow0B_24 {l : Launch} {G : GT} {mi : Nat} {sk : Nat → Nat} {L : List Nat} {cl ln : Nat → Nat} {iv : Nat → Nat → Int} {rv : Nat → Nat → Option Nat}  {a0 : Nat} {b0 : Nat} (hW : WT (g0 G) sk L cl ln iv rv) (hS : SKL sk L cl) (t_a0 : ty L cl a0 24) (t_b0 : ty L cl b0 1002) (hed : rv a0 1 = some b0) (hcb : cl b0 = 1000 + 5 * a0 + 2) (hn : iv a0 2 = ((ln b0 : Nat) : Int) ∧ iv a0 2 < 6003) : Mc l G mi (Phi (g0 G) sk) PHM yJx4a65c_grow_d5877 cJx4a65c_grow_d5877 1 (some (.array (.object "java/lang/Object"))) 4 [.ref a0] L cl ln iv rv 0 (fun v L2 cl2 ln2 iv2 rv2 => ∃ f : Nat, v = some (.ref f) ∧ XT L cl ln L2 cl2 ln2 ∧ fT [24, 1002] L cl iv rv iv2 rv2 ∧ WT (g0 G) sk L2 cl2 ln2 iv2 rv2 ∧ ty L2 cl2 f 1002 ∧ (rv2 a0 1 = some f ∧ iv2 a0 2 = iv a0 2 ∧ iv a0 2 + 1 ≤ ((ln2 f : Nat) : Int) ∧ cl2 f = 1000 + 5 * a0 + 2 ∧ ∀ i : Nat, (i : Int) < iv a0 2 → rv2 f i = el rv a0 i)) := by
  refine Mc.mk (by decide) (Nat.le_of_ble_eq_true rfl) ?_
  intro p e s m args below meth c A C hM
  refine hv3 (Phi.le hW hS) (show XT L cl ln L cl ln from XT.refl) (show fT [24, 1002] L cl iv rv iv rv from fT.refl) (fun hph hX0 hF0 => ?_)
  refine c_aload_n (j := 0) (x := a0) C dJx4a65c_grow_d5877_0 rfl ?_
  refine c_aload_n (j := 0) (x := a0) C dJx4a65c_grow_d5877_1 rfl ?_
  have ri1 : 0 ≤ iv a0 2 ∧ iv a0 2 ≤ 6003 := hW.int t_a0 2
  refine c_get (k := 2) C ck_0 dJx4a65c_grow_d5877_2 w1_79 (by decide) t_a0 rfl rfl (by decide) rfl ?_
  refine c_iconst C dJx4a65c_grow_d5877_5 ?_
  refine c_iadd C dJx4a65c_grow_d5877_6 ?_
  refine d_callV (As := [.int (iI ((iv a0 2) + 1))]) (rest := []) C hM (C_growB_24 (a0 := a0) (n := (iv a0 2) + 1) (b0 := b0) hW hS t_a0 t_b0 (by omega) hed hcb (by show ((iv a0 2) + 1) = iv a0 2 + 1 ∧ iv a0 2 = ((ln b0 : Nat) : Int) ∧ iv a0 2 < 6003; omega)) dJx4a65c_grow_d5877_7 kV_Jx4a65c_69 rfl t_a0 rfl rfl (by decide) ck_0 rfl (Nat.le_of_ble_eq_true rfl) ⟨(Nat.le_of_ble_eq_true rfl), (Nat.le_of_ble_eq_true rfl)⟩ hph hph (show 0 + 0 = 0 from rfl) (by decide) (fun rh1 Lh1 clh1 lnh1 ivh1 rvh1 h1 => ?_)
  obtain ⟨f1, rfl, xl1, fl1, W1, rgf1, exf1⟩ := h1
  refine hv3 (hF0.call hX0 fl1 rfl) (hX0.trans xl1) (xl1.skl hS) (fun F1 X1 sk1 => ?_)
  refine c_st (st2 := [.ref f1]) rfl ?_
  refine hv5 (xl1.ty t_a0) (show rvh1 a0 1 = some f1 ∧ ivh1 a0 2 = iv a0 2 ∧ iv a0 2 + 1 ≤ ((lnh1 f1 : Nat) : Int) ∧ clh1 f1 = 1000 + 5 * a0 + 2 ∧ ∀ i : Nat, (i : Int) < iv a0 2 → rvh1 f1 i = el rv a0 i from exf1) (exf1.2.2.1) (exf1.2.1) (Phi.le W1 sk1) (fun ty1 gf1 gzf1 gyf1 pl1 => ?_)
  have ri2 : 0 ≤ ivh1 a0 2 ∧ ivh1 a0 2 ≤ 6003 := W1.int ty1 2
  exact c_aret (x := some f1) C dJx4a65c_grow_d5877_10 rfl (Or.inr ⟨_, rfl⟩) (by decide) (rom0 hph pl1 (by decide)) ⟨f1, rfl, X1, F1, W1, rgf1, exf1⟩
set_option maxHeartbeats 4000000 in
set_option maxRecDepth 100000 in
theorem C_add3A_24 {l : Launch} {G : GT} {mi : Nat} {sk : Nat → Nat} {L : List Nat} {cl ln : Nat → Nat} {iv : Nat → Nat → Int} {rv : Nat → Nat → Option Nat}  {a0 : Nat} {x : Nat} {n : Int} (hW : WT (g0 G) sk L cl ln iv rv) (hS : SKL sk L cl) (t_a0 : ty L cl a0 24) (t_x : ty L cl x 20) (h_n : -2147483648 ≤ n ∧ n ≤ 2147483647) (hed : rv a0 1 = some (g0 G)) (hn : n = iv a0 2 ∧ n = 0) : Mc l G mi (Phi (g0 G) sk) PHM yJx4a65c_add_72be8 cJx4a65c_add_72be8 4 none 5 [.ref a0, .ref x, .ref (g0 G), .int (iI n)] L cl ln iv rv 0 (fun v L2 cl2 ln2 iv2 rv2 => v = none ∧ XT L cl ln L2 cl2 ln2 ∧ fT [24, 1002] L cl iv rv iv2 rv2 ∧ WT (g0 G) sk L2 cl2 ln2 iv2 rv2 ∧ (iv2 a0 2 = iv a0 2 + 1 ∧ el rv2 a0 (iv a0 2).toNat = some x ∧ ∀ i : Nat, (i : Int) < iv a0 2 → el rv2 a0 i = el rv a0 i)) := by
  refine Mc.mk (by decide) (Nat.le_of_ble_eq_true rfl) ?_
  intro p e s m args below meth c A C hM
  refine hv3 (Phi.le hW hS) (show XT L cl ln L cl ln from XT.refl) (show fT [24, 1002] L cl iv rv iv rv from fT.refl) (fun hph hX0 hF0 => ?_)
  refine c_iload_n (j := 3) C dJx4a65c_add_72be8_0 rfl ?_
  refine c_aload_n (j := 2) (x := g0 G) C dJx4a65c_add_72be8_1 rfl ?_
  refine c_tlen C dJx4a65c_add_72be8_2 ?_
  refine c_icmp_ne (tgt := 11) C ⟨by omega, by omega⟩ ⟨by decide, by decide⟩ dJx4a65c_add_72be8_3 (by decide) (fun z => absurd z (by omega)) (fun _ => ?_)
  refine c_aload_n (j := 0) (x := a0) C dJx4a65c_add_72be8_6 rfl ?_
  have ri1 : 0 ≤ iv a0 2 ∧ iv a0 2 ≤ 6003 := hW.int t_a0 2
  refine d_callV (As := []) (rest := []) C hM (C_grow0A_24 (a0 := a0) hW hS t_a0  hed (by show iv a0 2 = 0; omega)) dJx4a65c_add_72be8_7 kV_Jx4a65c_129 rfl t_a0 rfl rfl (by decide) ck_0 rfl (Nat.le_of_ble_eq_true rfl) ⟨(Nat.le_of_ble_eq_true rfl), (Nat.le_of_ble_eq_true rfl)⟩ hph hph (show 0 + 0 = 0 from rfl) (by decide) (fun rh1 Lh1 clh1 lnh1 ivh1 rvh1 h1 => ?_)
  obtain ⟨f1, rfl, xl1, fl1, W1, rgf1, exf1⟩ := h1
  refine hv3 (hF0.call hX0 fl1 rfl) (hX0.trans xl1) (xl1.skl hS) (fun F1 X1 sk1 => ?_)
  refine c_st (st2 := [.ref f1]) rfl ?_
  refine hv4 (xl1.ty t_a0) (show rvh1 a0 1 = some f1 ∧ ivh1 a0 2 = iv a0 2 ∧ iv a0 2 + 1 ≤ ((lnh1 f1 : Nat) : Int) ∧ clh1 f1 = 1000 + 5 * a0 + 2 ∧ ∀ i : Nat, (i : Int) < iv a0 2 → rvh1 f1 i = el rv a0 i from exf1) (exf1.2.2.1) (exf1.2.1) (fun ty1 gf1 gzf1 gyf1 => ?_)
  have ri2 : 0 ≤ ivh1 a0 2 ∧ ivh1 a0 2 ≤ 6003 := W1.int ty1 2
  refine c_astore_n (lv2 := [(2, .ref f1), (0, .ref a0), (1, .ref x), (3, .int (iI n))]) C dJx4a65c_add_72be8_10 (by decide) rfl ?_
  refine c_aload_n (j := 0) (x := f1) C dJx4a65c_add_72be8_11 rfl ?_
  refine c_iload_n (j := 3) C dJx4a65c_add_72be8_12 rfl ?_
  refine c_aload_n (j := 2) (x := x) C dJx4a65c_add_72be8_13 rfl ?_
  refine hv2 (show 10 ≤ lnh1 f1 ∧ lnh1 f1 ≤ 9100 from W1.len rgf1 rfl) (xl1.ty t_x) (fun ll1 ty2 => ?_)
  refine c_aastO (z := n) C ck_6 w8_185t dJx4a65c_add_72be8_14 rgf1 rfl ty2 rfl rfl (by decide) (by omega) (by omega) (by omega) (fun rv1 pq1 => ⟨0, (by rw [Phi.putr sk1 pq1 rgf1 rfl]; exact Nat.le_refl _), ?_⟩)
  refine hv2 (W1.lset pq1 rgf1 (by decide) ty2) (F1.putr X1 pq1 rgf1 rfl) (fun W2 F2 => ?_)
  refine c_aload_n (j := 1) (x := a0) C dJx4a65c_add_72be8_15 rfl ?_
  refine c_iload_n (j := 3) C dJx4a65c_add_72be8_16 rfl ?_
  refine c_iconst C dJx4a65c_add_72be8_17 ?_
  refine c_iadd C dJx4a65c_add_72be8_18 ?_
  refine c_put (z := n + 1) (k := 2) C ck_0 dJx4a65c_add_72be8_19 w1_79 (by decide) rfl ty1 rfl rfl (by decide) rfl (by rfl) (by rfl) (fun iv1 pq2 => ?_)
  have re1 : rv1 a0 1 = rvh1 a0 1 := (by rw [pq1]; exact congrFun (upr_a (ne_ty ty1 rgf1 (by decide))) _)
  rw [exf1.1] at re1
  refine hv3 (show rv1 f1 (ivh1 a0 2).toNat = some x from by rw [show (ivh1 a0 2).toNat = n.toNat by omega, pq1]; exact upr_s) (F2.puti X1 pq2 ty1 rfl) (show iv1 a0 2 = n + 1 from by rw [pq2]; exact up2_s) (fun px1 F3 ie2 => ?_)
  have W3 := W2.lapp pq2 ty1 rfl re1 rgf1.1 px1 (show (n + 1) = ivh1 a0 2 + 1 by omega) (show ivh1 a0 2 + 1 ≤ 6003 by omega) (by omega) rfl
  refine hv2 (show 0 ≤ iv1 a0 2 ∧ iv1 a0 2 ≤ 6003 from W3.int ty1 2) (Phi.le W3 sk1) (fun ri3 pl1 => ?_)
  exact c_vret C dJx4a65c_add_72be8_22 rfl (by decide) (rom0 hph pl1 (by decide)) ⟨rfl, X1, F3, W3, ⟨by omega, (by rw [el_of re1, show (iv a0 2).toNat = n.toNat by omega, pq1]; exact upr_s), fun i hi => (by rw [el_of re1, pq1, upr_j (by omega)]; exact exf1.2.2.2.2 i hi)⟩⟩
set_option maxHeartbeats 4000000 in
set_option maxRecDepth 100000 in
theorem C_add3B_24 {l : Launch} {G : GT} {mi : Nat} {sk : Nat → Nat} {L : List Nat} {cl ln : Nat → Nat} {iv : Nat → Nat → Int} {rv : Nat → Nat → Option Nat}  {a0 : Nat} {x : Nat} {b0 : Nat} {n : Int} (hW : WT (g0 G) sk L cl ln iv rv) (hS : SKL sk L cl) (t_a0 : ty L cl a0 24) (t_x : ty L cl x 20) (t_b0 : ty L cl b0 1002) (h_n : -2147483648 ≤ n ∧ n ≤ 2147483647) (hed : rv a0 1 = some b0) (hcb : cl b0 = 1000 + 5 * a0 + 2) (hn : n = iv a0 2 ∧ 0 ≤ n ∧ n ≤ ((ln b0 : Nat) : Int) ∧ n < 6003) : Mc l G mi (Phi (g0 G) sk) PHM yJx4a65c_add_72be8 cJx4a65c_add_72be8 4 none 5 [.ref a0, .ref x, .ref b0, .int (iI n)] L cl ln iv rv 0 (fun v L2 cl2 ln2 iv2 rv2 => v = none ∧ XT L cl ln L2 cl2 ln2 ∧ fT [24, 1002] L cl iv rv iv2 rv2 ∧ WT (g0 G) sk L2 cl2 ln2 iv2 rv2 ∧ (iv2 a0 2 = iv a0 2 + 1 ∧ el rv2 a0 (iv a0 2).toNat = some x ∧ ∀ i : Nat, (i : Int) < iv a0 2 → el rv2 a0 i = el rv a0 i)) := by
  refine Mc.mk (by decide) (Nat.le_of_ble_eq_true rfl) ?_
  intro p e s m args below meth c A C hM
  refine hv3 (Phi.le hW hS) (show XT L cl ln L cl ln from XT.refl) (show fT [24, 1002] L cl iv rv iv rv from fT.refl) (fun hph hX0 hF0 => ?_)
  refine c_iload_n (j := 3) C dJx4a65c_add_72be8_0 rfl ?_
  refine c_aload_n (j := 2) (x := b0) C dJx4a65c_add_72be8_1 rfl ?_
  have ll1 : 10 ≤ ln b0 ∧ ln b0 ≤ 9100 := hW.len t_b0 rfl
  refine c_alenO C dJx4a65c_add_72be8_2 t_b0 rfl ?_
  refine c_icmp_ne (tgt := 11) C ⟨by omega, by omega⟩ ⟨by omega, by omega⟩ dJx4a65c_add_72be8_3 (by decide) (fun c1 => ?_) (fun c1 => ?_)
  · refine c_aload_n (j := 2) (x := b0) C dJx4a65c_add_72be8_11 rfl ?_
    refine c_iload_n (j := 3) C dJx4a65c_add_72be8_12 rfl ?_
    refine c_aload_n (j := 1) (x := x) C dJx4a65c_add_72be8_13 rfl ?_
    refine c_aastO (z := n) C ck_6 w8_185t dJx4a65c_add_72be8_14 t_b0 rfl t_x rfl rfl (by decide) (by omega) (by omega) (by omega) (fun rv1 pq1 => ⟨0, (by rw [Phi.putr hS pq1 t_b0 rfl]; exact Nat.le_refl _), ?_⟩)
    refine hv2 (hW.lset pq1 t_b0 (by decide) t_x) (hF0.putr hX0 pq1 t_b0 rfl) (fun W1 F1 => ?_)
    refine c_aload_n (j := 0) (x := a0) C dJx4a65c_add_72be8_15 rfl ?_
    refine c_iload_n (j := 3) C dJx4a65c_add_72be8_16 rfl ?_
    refine c_iconst C dJx4a65c_add_72be8_17 ?_
    refine c_iadd C dJx4a65c_add_72be8_18 ?_
    refine c_put (z := n + 1) (k := 2) C ck_0 dJx4a65c_add_72be8_19 w1_79 (by decide) rfl t_a0 rfl rfl (by decide) rfl (by rfl) (by rfl) (fun iv1 pq2 => ?_)
    have re1 : rv1 a0 1 = rv a0 1 := (by rw [pq1]; exact congrFun (upr_a (ne_ty t_a0 t_b0 (by decide))) _)
    rw [hed] at re1
    refine hv3 (show rv1 b0 (iv a0 2).toNat = some x from by rw [show (iv a0 2).toNat = n.toNat by omega, pq1]; exact upr_s) (F1.puti hX0 pq2 t_a0 rfl) (show iv1 a0 2 = n + 1 from by rw [pq2]; exact up2_s) (fun px1 F2 ie1 => ?_)
    have W2 := W1.lapp pq2 t_a0 rfl re1 t_b0.1 px1 (show (n + 1) = iv a0 2 + 1 by omega) (show iv a0 2 + 1 ≤ 6003 by omega) (by omega) rfl
    refine hv2 (show 0 ≤ iv1 a0 2 ∧ iv1 a0 2 ≤ 6003 from W2.int t_a0 2) (Phi.le W2 hS) (fun ri1 pl1 => ?_)
    exact c_vret C dJx4a65c_add_72be8_22 rfl (by decide) (rom0 hph pl1 (by decide)) ⟨rfl, hX0, F2, W2, ⟨by omega, (by rw [el_of re1, show (iv a0 2).toNat = n.toNat by omega, pq1]; exact upr_s), fun i hi => (by rw [el_of re1, pq1, upr_j (by omega)]; exact (el_of hed).symm)⟩⟩
  · refine c_aload_n (j := 0) (x := a0) C dJx4a65c_add_72be8_6 rfl ?_
    have ri2 : 0 ≤ iv a0 2 ∧ iv a0 2 ≤ 6003 := hW.int t_a0 2
    refine d_callV (As := []) (rest := []) C hM (C_grow0B_24 (a0 := a0) (b0 := b0) hW hS t_a0 t_b0  hed hcb (by show iv a0 2 = ((ln b0 : Nat) : Int) ∧ iv a0 2 < 6003; omega)) dJx4a65c_add_72be8_7 kV_Jx4a65c_129 rfl t_a0 rfl rfl (by decide) ck_0 rfl (Nat.le_of_ble_eq_true rfl) ⟨(Nat.le_of_ble_eq_true rfl), (Nat.le_of_ble_eq_true rfl)⟩ hph hph (show 0 + 0 = 0 from rfl) (by decide) (fun rh1 Lh1 clh1 lnh1 ivh1 rvh1 h1 => ?_)
    obtain ⟨f1, rfl, xl1, fl1, W3, rgf1, exf1⟩ := h1
    refine hv3 (hF0.call hX0 fl1 rfl) (hX0.trans xl1) (xl1.skl hS) (fun F3 X1 sk1 => ?_)
    refine c_st (st2 := [.ref f1]) rfl ?_
    refine hv4 (xl1.ty t_a0) (show rvh1 a0 1 = some f1 ∧ ivh1 a0 2 = iv a0 2 ∧ iv a0 2 + 1 ≤ ((lnh1 f1 : Nat) : Int) ∧ clh1 f1 = 1000 + 5 * a0 + 2 ∧ ∀ i : Nat, (i : Int) < iv a0 2 → rvh1 f1 i = el rv a0 i from exf1) (exf1.2.2.1) (exf1.2.1) (fun ty1 gf1 gzf1 gyf1 => ?_)
    have ri3 : 0 ≤ ivh1 a0 2 ∧ ivh1 a0 2 ≤ 6003 := W3.int ty1 2
    refine c_astore_n (lv2 := [(2, .ref f1), (0, .ref a0), (1, .ref x), (3, .int (iI n))]) C dJx4a65c_add_72be8_10 (by decide) rfl ?_
    refine c_aload_n (j := 0) (x := f1) C dJx4a65c_add_72be8_11 rfl ?_
    refine c_iload_n (j := 3) C dJx4a65c_add_72be8_12 rfl ?_
    refine c_aload_n (j := 2) (x := x) C dJx4a65c_add_72be8_13 rfl ?_
    refine hv2 (show 10 ≤ lnh1 f1 ∧ lnh1 f1 ≤ 9100 from W3.len rgf1 rfl) (xl1.ty t_x) (fun ll2 ty2 => ?_)
    refine c_aastO (z := n) C ck_6 w8_185t dJx4a65c_add_72be8_14 rgf1 rfl ty2 rfl rfl (by decide) (by omega) (by omega) (by omega) (fun rv2 pq3 => ⟨0, (by rw [Phi.putr sk1 pq3 rgf1 rfl]; exact Nat.le_refl _), ?_⟩)
    refine hv2 (W3.lset pq3 rgf1 (by decide) ty2) (F3.putr X1 pq3 rgf1 rfl) (fun W4 F4 => ?_)
    refine c_aload_n (j := 1) (x := a0) C dJx4a65c_add_72be8_15 rfl ?_
    refine c_iload_n (j := 3) C dJx4a65c_add_72be8_16 rfl ?_
    refine c_iconst C dJx4a65c_add_72be8_17 ?_
    refine c_iadd C dJx4a65c_add_72be8_18 ?_
    refine c_put (z := n + 1) (k := 2) C ck_0 dJx4a65c_add_72be8_19 w1_79 (by decide) rfl ty1 rfl rfl (by decide) rfl (by rfl) (by rfl) (fun iv2 pq4 => ?_)
    have re2 : rv2 a0 1 = rvh1 a0 1 := (by rw [pq3]; exact congrFun (upr_a (ne_ty ty1 rgf1 (by decide))) _)
    rw [exf1.1] at re2
    refine hv3 (show rv2 f1 (ivh1 a0 2).toNat = some x from by rw [show (ivh1 a0 2).toNat = n.toNat by omega, pq3]; exact upr_s) (F4.puti X1 pq4 ty1 rfl) (show iv2 a0 2 = n + 1 from by rw [pq4]; exact up2_s) (fun px2 F5 ie3 => ?_)
    have W5 := W4.lapp pq4 ty1 rfl re2 rgf1.1 px2 (show (n + 1) = ivh1 a0 2 + 1 by omega) (show ivh1 a0 2 + 1 ≤ 6003 by omega) (by omega) rfl
    refine hv2 (show 0 ≤ iv2 a0 2 ∧ iv2 a0 2 ≤ 6003 from W5.int ty1 2) (Phi.le W5 sk1) (fun ri4 pl2 => ?_)
    exact c_vret C dJx4a65c_add_72be8_22 rfl (by decide) (rom0 hph pl2 (by decide)) ⟨rfl, X1, F5, W5, ⟨by omega, (by rw [el_of re2, show (iv a0 2).toNat = n.toNat by omega, pq3]; exact upr_s), fun i hi => (by rw [el_of re2, pq3, upr_j (by omega)]; exact exf1.2.2.2.2 i hi)⟩⟩
set_option maxHeartbeats 4000000 in
set_option maxRecDepth 100000 in
theorem C_add_24 {l : Launch} {G : GT} {mi : Nat} {sk : Nat → Nat} {L : List Nat} {cl ln : Nat → Nat} {iv : Nat → Nat → Int} {rv : Nat → Nat → Option Nat}  {a0 : Nat} {x : Nat} (hW : WT (g0 G) sk L cl ln iv rv) (hS : SKL sk L cl) (t_a0 : ty L cl a0 24) (t_x : ty L cl x 20) (hn : iv a0 2 < 6003) : Mc l G mi (Phi (g0 G) sk) PHM yJx4a65c_add_9ea2d cJx4a65c_add_9ea2d 2 (some .boolean) 6 [.ref a0, .ref x] L cl ln iv rv 0 (fun v L2 cl2 ln2 iv2 rv2 => ∃ f : Int, v = some (.int (iI f)) ∧ XT L cl ln L2 cl2 ln2 ∧ fT [24, 1002] L cl iv rv iv2 rv2 ∧ WT (g0 G) sk L2 cl2 ln2 iv2 rv2 ∧ (f = 0 ∨ f = 1) ∧ (iv2 a0 2 = iv a0 2 + 1 ∧ el rv2 a0 (iv a0 2).toNat = some x ∧ ∀ i : Nat, (i : Int) < iv a0 2 → el rv2 a0 i = el rv a0 i)) := by
  refine Mc.mk (by decide) (Nat.le_of_ble_eq_true rfl) ?_
  intro p e s m args below meth c A C hM
  refine hv3 (Phi.le hW hS) (show XT L cl ln L cl ln from XT.refl) (show fT [24, 1002] L cl iv rv iv rv from fT.refl) (fun hph hX0 hF0 => ?_)
  refine c_aload_n (j := 0) (x := a0) C dJx4a65c_add_9ea2d_0 rfl ?_
  refine c_dup C dJx4a65c_add_9ea2d_1 rfl ?_
  have ri1 : (-2147483648) ≤ iv a0 0 ∧ iv a0 0 ≤ 2147483647 := hW.int t_a0 0
  refine c_getU (k := 0) C ck_0 dJx4a65c_add_9ea2d_2 w1_81 w1_82 (by decide) t_a0 rfl rfl (by decide) rfl ?_
  refine c_iconst C dJx4a65c_add_9ea2d_5 ?_
  refine c_iadd C dJx4a65c_add_9ea2d_6 ?_
  obtain ⟨zz1, hzz1, ezz1⟩ := iI_of (iI ((iv a0 0) + 1))
  refine c_st (st2 := [.int (iI zz1), .ref a0]) (by rw [ezz1]) ?_
  refine c_putU (z := zz1) (k := 0) C ck_0 dJx4a65c_add_9ea2d_7 w1_81 w1_82 (by decide) rfl t_a0 rfl rfl (by decide) rfl (by rfl) (by rfl) (fun iv1 pq1 => ?_)
  refine hv2 (hW.puti pq1 t_a0 (show (-2147483648) ≤ zz1 ∧ zz1 ≤ 2147483647 by omega) rfl) (hF0.puti hX0 pq1 t_a0 rfl) (fun W1 F1 => ?_)
  refine c_aload_n (j := 0) (x := a0) C dJx4a65c_add_9ea2d_10 rfl ?_
  refine c_aload_n (j := 1) (x := x) C dJx4a65c_add_9ea2d_11 rfl ?_
  refine c_aload_n (j := 0) (x := a0) C dJx4a65c_add_9ea2d_12 rfl ?_
  refine hv2 (show 0 ≤ iv1 a0 2 ∧ iv1 a0 2 ≤ 6003 from W1.int t_a0 2) (show iv1 a0 2 = iv a0 2 from by rw [pq1]; exact up2_j (by decide)) (fun ri2 ie1 => ?_)
  rcases W1.edc t_a0 rfl rfl with ⟨eq1, zeb1⟩ | ⟨eb1, eq1, teb1, ceb1, zeb1⟩
  · refine c_getr (k := 1) C ck_0 dJx4a65c_add_9ea2d_13 w1_78 (by decide) t_a0 rfl rfl (by decide) rfl eq1 ?_
    refine c_st (st2 := [.ref (g0 G), .ref x, .ref a0]) rfl ?_
    refine c_aload_n (j := 0) (x := a0) C dJx4a65c_add_9ea2d_16 rfl ?_
    refine c_get (k := 2) C ck_0 dJx4a65c_add_9ea2d_17 w1_79 (by decide) t_a0 rfl rfl (by decide) rfl ?_
    refine d_callV (As := [.ref x, .ref (g0 G), .int (iI (iv1 a0 2))]) (rest := []) C hM (C_add3A_24 (a0 := a0) (x := x) (n := iv1 a0 2) W1 hS t_a0 t_x (by omega) eq1 (by show (iv1 a0 2) = iv1 a0 2 ∧ (iv1 a0 2) = 0; omega)) dJx4a65c_add_9ea2d_20 kV_Jx4a65c_131 rfl t_a0 rfl rfl (by decide) ck_0 rfl (Nat.le_of_ble_eq_true rfl) ⟨(Nat.le_of_ble_eq_true rfl), (Nat.le_of_ble_eq_true rfl)⟩ hph hph (show 0 + 0 = 0 from rfl) (by decide) (fun rh1 Lh1 clh1 lnh1 ivh1 rvh1 h1 => ?_)
    obtain ⟨rfl, xl1, fl1, W2, exf1⟩ := h1
    refine hv3 (F1.call hX0 fl1 rfl) (hX0.trans xl1) (xl1.skl hS) (fun F2 X1 sk1 => ?_)
    refine c_st (st2 := []) rfl ?_
    refine hv2 (xl1.ty t_a0) (show ivh1 a0 2 = iv1 a0 2 + 1 ∧ el rvh1 a0 (iv1 a0 2).toNat = some x ∧ ∀ i : Nat, (i : Int) < iv1 a0 2 → el rvh1 a0 i = el rv a0 i from exf1) (fun ty1 gf1 => ?_)
    have ri3 : 0 ≤ ivh1 a0 2 ∧ ivh1 a0 2 ≤ 6003 := W2.int ty1 2
    refine c_iconst C dJx4a65c_add_9ea2d_23 ?_
    have pl1 := Phi.le W2 sk1
    exact c_zret C dJx4a65c_add_9ea2d_24 rfl (Or.inr rfl) (by decide) (rom0 hph pl1 (by decide)) ⟨1, rfl, X1, F2, W2, (Or.inr rfl), ⟨by omega, (by rw [show (iv a0 2).toNat = (iv1 a0 2).toNat by omega]; exact exf1.2.1), fun i hi => exf1.2.2 i (by omega)⟩⟩
  · have lneb1 : 10 ≤ ln eb1 ∧ ln eb1 ≤ 9100 := W1.len teb1 rfl
    refine c_getr (k := 1) C ck_0 dJx4a65c_add_9ea2d_13 w1_78 (by decide) t_a0 rfl rfl (by decide) rfl eq1 ?_
    refine c_st (st2 := [.ref eb1, .ref x, .ref a0]) rfl ?_
    refine c_aload_n (j := 0) (x := a0) C dJx4a65c_add_9ea2d_16 rfl ?_
    refine c_get (k := 2) C ck_0 dJx4a65c_add_9ea2d_17 w1_79 (by decide) t_a0 rfl rfl (by decide) rfl ?_
    refine d_callV (As := [.ref x, .ref eb1, .int (iI (iv1 a0 2))]) (rest := []) C hM (C_add3B_24 (a0 := a0) (x := x) (b0 := eb1) (n := iv1 a0 2) W1 hS t_a0 t_x teb1 (by omega) eq1 ceb1 (by show (iv1 a0 2) = iv1 a0 2 ∧ 0 ≤ (iv1 a0 2) ∧ (iv1 a0 2) ≤ ((ln eb1 : Nat) : Int) ∧ (iv1 a0 2) < 6003; omega)) dJx4a65c_add_9ea2d_20 kV_Jx4a65c_131 rfl t_a0 rfl rfl (by decide) ck_0 rfl (Nat.le_of_ble_eq_true rfl) ⟨(Nat.le_of_ble_eq_true rfl), (Nat.le_of_ble_eq_true rfl)⟩ hph hph (show 0 + 0 = 0 from rfl) (by decide) (fun rh2 Lh2 clh2 lnh2 ivh2 rvh2 h2 => ?_)
    obtain ⟨rfl, xl2, fl2, W3, exf2⟩ := h2
    refine hv3 (F1.call hX0 fl2 rfl) (hX0.trans xl2) (xl2.skl hS) (fun F3 X2 sk2 => ?_)
    refine c_st (st2 := []) rfl ?_
    refine hv2 (xl2.ty t_a0) (show ivh2 a0 2 = iv1 a0 2 + 1 ∧ el rvh2 a0 (iv1 a0 2).toNat = some x ∧ ∀ i : Nat, (i : Int) < iv1 a0 2 → el rvh2 a0 i = el rv a0 i from exf2) (fun ty2 gf2 => ?_)
    have ri4 : 0 ≤ ivh2 a0 2 ∧ ivh2 a0 2 ≤ 6003 := W3.int ty2 2
    refine c_iconst C dJx4a65c_add_9ea2d_23 ?_
    have pl2 := Phi.le W3 sk2
    exact c_zret C dJx4a65c_add_9ea2d_24 rfl (Or.inr rfl) (by decide) (rom0 hph pl2 (by decide)) ⟨1, rfl, X2, F3, W3, (Or.inr rfl), ⟨by omega, (by rw [show (iv a0 2).toNat = (iv1 a0 2).toNat by omega]; exact exf2.2.1), fun i hi => exf2.2.2 i (by omega)⟩⟩
set_option maxHeartbeats 4000000 in
set_option maxRecDepth 100000 in
theorem C_lclear_24 {l : Launch} {G : GT} {mi : Nat} {sk : Nat → Nat} {L : List Nat} {cl ln : Nat → Nat} {iv : Nat → Nat → Int} {rv : Nat → Nat → Option Nat}  {a0 : Nat} (hW : WT (g0 G) sk L cl ln iv rv) (hS : SKL sk L cl) (t_a0 : ty L cl a0 24)  : Mc l G mi (Phi (g0 G) sk) PHM yJx4a65c_clear_da8c8 cJx4a65c_clear_da8c8 4 none 0 [.ref a0] L cl ln iv rv 0 (fun v L2 cl2 ln2 iv2 rv2 => v = none ∧ L = L2 ∧ cl = cl2 ∧ ln = ln2 ∧ fT [24, 1002] L cl iv rv iv2 rv2 ∧ WT (g0 G) sk L2 cl2 ln2 iv2 rv2 ∧ (iv2 a0 2 = 0)) := by
  refine Mc.mk (by decide) (Nat.le_of_ble_eq_true rfl) ?_
  intro p e s m args below meth c A C hM
  refine hv3 (Phi.le hW hS) (show XT L cl ln L cl ln from XT.refl) (show fT [24, 1002] L cl iv rv iv rv from fT.refl) (fun hph hX0 hF0 => ?_)
  refine c_aload_n (j := 0) (x := a0) C dJx4a65c_clear_da8c8_0 rfl ?_
  refine c_dup C dJx4a65c_clear_da8c8_1 rfl ?_
  have ri1 : (-2147483648) ≤ iv a0 0 ∧ iv a0 0 ≤ 2147483647 := hW.int t_a0 0
  refine c_getU (k := 0) C ck_0 dJx4a65c_clear_da8c8_2 w1_81 w1_82 (by decide) t_a0 rfl rfl (by decide) rfl ?_
  refine c_iconst C dJx4a65c_clear_da8c8_5 ?_
  refine c_iadd C dJx4a65c_clear_da8c8_6 ?_
  obtain ⟨zz1, hzz1, ezz1⟩ := iI_of (iI ((iv a0 0) + 1))
  refine c_st (st2 := [.int (iI zz1), .ref a0]) (by rw [ezz1]) ?_
  refine c_putU (z := zz1) (k := 0) C ck_0 dJx4a65c_clear_da8c8_7 w1_81 w1_82 (by decide) rfl t_a0 rfl rfl (by decide) rfl (by rfl) (by rfl) (fun iv1 pq1 => ?_)
  refine hv2 (hW.puti pq1 t_a0 (show (-2147483648) ≤ zz1 ∧ zz1 ≤ 2147483647 by omega) rfl) (hF0.puti hX0 pq1 t_a0 rfl) (fun W1 F1 => ?_)
  refine c_aload_n (j := 0) (x := a0) C dJx4a65c_clear_da8c8_10 rfl ?_
  refine hv2 (show 0 ≤ iv1 a0 2 ∧ iv1 a0 2 ≤ 6003 from W1.int t_a0 2) (show iv1 a0 2 = iv a0 2 from by rw [pq1]; exact up2_j (by decide)) (fun ri2 ie1 => ?_)
  rcases W1.edc t_a0 rfl rfl with ⟨eq1, zeb1⟩ | ⟨eb1, eq1, teb1, ceb1, zeb1⟩
  · refine c_getr (k := 1) C ck_0 dJx4a65c_clear_da8c8_11 w1_78 (by decide) t_a0 rfl rfl (by decide) rfl eq1 ?_
    refine c_st (st2 := [.ref (g0 G)]) rfl ?_
    refine c_astore_n (lv2 := [(1, .ref (g0 G)), (0, .ref a0)]) C dJx4a65c_clear_da8c8_14 (by decide) rfl ?_
    refine c_aload_n (j := 1) (x := a0) C dJx4a65c_clear_da8c8_15 rfl ?_
    refine c_get (k := 2) C ck_0 dJx4a65c_clear_da8c8_16 w1_79 (by decide) t_a0 rfl rfl (by decide) rfl ?_
    refine c_istore_n (lv2 := [(2, .int (iI (iv1 a0 2))), (1, .ref (g0 G)), (0, .ref a0)]) C dJx4a65c_clear_da8c8_19 (by decide) rfl ?_
    refine c_aload_n (j := 2) (x := a0) C dJx4a65c_clear_da8c8_20 rfl ?_
    refine c_iconst C dJx4a65c_clear_da8c8_21 ?_
    refine c_dup_x1 C dJx4a65c_clear_da8c8_22 rfl rfl ?_
    refine c_put (z := 0) (k := 2) C ck_0 dJx4a65c_clear_da8c8_23 w1_79 (by decide) rfl t_a0 rfl rfl (by decide) rfl (by rfl) (by rfl) (fun iv2 pq2 => ?_)
    refine hv2 (W1.lsz pq2 t_a0 rfl (show 0 ≤ 0 ∧ 0 ≤ iv1 a0 2 by omega)) (F1.puti hX0 pq2 t_a0 rfl) (fun W2 F2 => ?_)
    refine c_istore_n (lv2 := [(3, .int (iI 0)), (2, .int (iI (iv1 a0 2))), (1, .ref (g0 G)), (0, .ref a0)]) C dJx4a65c_clear_da8c8_26 (by decide) rfl ?_
    refine c_iload_n (j := 0) C dJx4a65c_clear_da8c8_27 rfl ?_
    refine c_iload_n (j := 1) C dJx4a65c_clear_da8c8_28 rfl ?_
    refine c_icmp_ge (tgt := 42) C ⟨by decide, by decide⟩ (r32_c (lo := 0) (hi := 6003) ri2.1 ri2.2 (by decide) (by decide)) dJx4a65c_clear_da8c8_29 (by decide) (fun _ => ?_) (fun z => absurd z (by omega))
    refine hv2 (show 0 ≤ iv2 a0 2 ∧ iv2 a0 2 ≤ 6003 from W2.int t_a0 2) (show iv2 a0 2 = 0 from by rw [pq2]; exact up2_s) (fun ri3 ie2 => ?_)
    exact c_vret C dJx4a65c_clear_da8c8_42 rfl (by decide) (rom0 hph hph (by decide)) ⟨rfl, rfl, rfl, rfl, F2, W2, (by omega)⟩
  · have lneb1 : 10 ≤ ln eb1 ∧ ln eb1 ≤ 9100 := W1.len teb1 rfl
    refine c_getr (k := 1) C ck_0 dJx4a65c_clear_da8c8_11 w1_78 (by decide) t_a0 rfl rfl (by decide) rfl eq1 ?_
    refine c_st (st2 := [.ref eb1]) rfl ?_
    refine c_astore_n (lv2 := [(1, .ref eb1), (0, .ref a0)]) C dJx4a65c_clear_da8c8_14 (by decide) rfl ?_
    refine c_aload_n (j := 1) (x := a0) C dJx4a65c_clear_da8c8_15 rfl ?_
    refine c_get (k := 2) C ck_0 dJx4a65c_clear_da8c8_16 w1_79 (by decide) t_a0 rfl rfl (by decide) rfl ?_
    refine c_istore_n (lv2 := [(2, .int (iI (iv1 a0 2))), (1, .ref eb1), (0, .ref a0)]) C dJx4a65c_clear_da8c8_19 (by decide) rfl ?_
    refine c_aload_n (j := 2) (x := a0) C dJx4a65c_clear_da8c8_20 rfl ?_
    refine c_iconst C dJx4a65c_clear_da8c8_21 ?_
    refine c_dup_x1 C dJx4a65c_clear_da8c8_22 rfl rfl ?_
    refine c_put (z := 0) (k := 2) C ck_0 dJx4a65c_clear_da8c8_23 w1_79 (by decide) rfl t_a0 rfl rfl (by decide) rfl (by rfl) (by rfl) (fun iv3 pq3 => ?_)
    refine hv2 (W1.lsz pq3 t_a0 rfl (show 0 ≤ 0 ∧ 0 ≤ iv1 a0 2 by omega)) (F1.puti hX0 pq3 t_a0 rfl) (fun W3 F3 => ?_)
    refine c_istore_n (lv2 := [(3, .int (iI 0)), (2, .int (iI (iv1 a0 2))), (1, .ref eb1), (0, .ref a0)]) C dJx4a65c_clear_da8c8_26 (by decide) rfl ?_
    have Lp1 : ∀ (nn : Nat) (k : Int) (ivb1 : Nat → Nat → Int) (rvb1 : Nat → Nat → Option Nat) , 6004 - k < (nn : Int) → WT (g0 G) sk L cl ln ivb1 rvb1 → fT [24, 1002] L cl iv rv ivb1 rvb1 → (0 ≤ k ∧ k ≤ 6003) → (ivb1 a0 2 = 0) → cw p l e 0 ((PHM) + 0 - ((Phi (g0 G) sk) ln rv)) s m args below meth c G A 4 (MQ below (Qu G A (Qp G (Phi (g0 G) sk) ((Phi (g0 G) sk) ln rv) 0 (fun v L2 cl2 ln2 iv2 rv2 => v = none ∧ L = L2 ∧ cl = cl2 ∧ ln = ln2 ∧ fT [24, 1002] L cl iv rv iv2 rv2 ∧ WT (g0 G) sk L2 cl2 ln2 iv2 rv2 ∧ (iv2 a0 2 = 0)))) args s (((PHM) + 0 - ((Phi (g0 G) sk) ln rv)) / 16) ((PHM) + 0 - ((Phi (g0 G) sk) ln rv)) A) (Phi (g0 G) sk) ((Phi (g0 G) sk) ln rv) L cl ln ivb1 rvb1 0 27 [(3, .int (iI k)), (2, .int (iI (iv1 a0 2))), (1, .ref eb1), (0, .ref a0)] [] := by
      intro nn
      induction nn with
      | zero =>
        intro  k ivb1 rvb1 hm Wb1 Fb1  hk hz
        exact absurd hm (by omega)
      | succ nn ih1 =>
        intro  k ivb1 rvb1 hm Wb1 Fb1  hk hz
        refine c_iload_n (j := 0) C dJx4a65c_clear_da8c8_27 rfl ?_
        refine c_iload_n (j := 1) C dJx4a65c_clear_da8c8_28 rfl ?_
        refine c_icmp_ge (tgt := 42) C (r32_c (lo := 0) (hi := 6003) hk.1 hk.2 (by decide) (by decide)) ⟨by omega, by omega⟩ dJx4a65c_clear_da8c8_29 (by decide) (fun c1 => ?_) (fun c1 => ?_)
        · have ri4 : 0 ≤ ivb1 a0 2 ∧ ivb1 a0 2 ≤ 6003 := Wb1.int t_a0 2
          have pl1 := Phi.le Wb1 hS
          exact c_vret C dJx4a65c_clear_da8c8_42 rfl (by decide) (rom0 hph pl1 (by decide)) ⟨rfl, rfl, rfl, rfl, Fb1, Wb1, (by omega)⟩
        · refine c_aload_n (j := 2) (x := eb1) C dJx4a65c_clear_da8c8_32 rfl ?_
          refine c_iload_n (j := 0) C dJx4a65c_clear_da8c8_33 rfl ?_
          refine c_null C dJx4a65c_clear_da8c8_34 ?_
          have ll1 : 10 ≤ ln eb1 ∧ ln eb1 ≤ 9100 := Wb1.len teb1 rfl
          refine c_aastNO (z := k) C dJx4a65c_clear_da8c8_35 teb1 rfl (by omega) (by omega) (by omega) (fun rv1 pq4 => ⟨0, (by rw [Phi.putr hS pq4 teb1 rfl]; exact Nat.le_refl _), ?_⟩)
          refine hv2 (show 0 ≤ ivb1 a0 2 ∧ ivb1 a0 2 ≤ 6003 from Wb1.int t_a0 2) (Fb1.putr hX0 pq4 teb1 rfl) (fun ri5 F4 => ?_)
          have W4 := Wb1.lnull (a := a0) (k := 2) pq4 teb1 (by decide) rfl ceb1 (by decide) (show ivb1 a0 2 ≤ ((k.toNat : Nat) : Int) by omega)
          refine c_iinc (z := k) (j := 0) (lv2 := [(3, .int (iI (k + 1))), (2, .int (iI (iv1 a0 2))), (1, .ref eb1), (0, .ref a0)]) C dJx4a65c_clear_da8c8_36 rfl (by decide) rfl ?_
          refine c_goto (tgt := 27) C dJx4a65c_clear_da8c8_39 (by decide) ?_
          refine c_lv (lv2 := [(3, .int (iI (k + 1))), (2, .int (iI (iv1 a0 2))), (1, .ref eb1), (0, .ref a0)]) [0, 1, 2, 3] rfl ?_
          exact ih1  (k + 1) _ _ (by omega) W4 F4  (by omega) hz
    refine hv2 (show 0 ≤ iv3 a0 2 ∧ iv3 a0 2 ≤ 6003 from W3.int t_a0 2) (show iv3 a0 2 = 0 from by rw [pq3]; exact up2_s) (fun ri6 ie5 => ?_)
    refine c_lv (lv2 := [(3, .int (iI 0)), (2, .int (iI (iv1 a0 2))), (1, .ref eb1), (0, .ref a0)]) [0, 1, 2, 3] rfl ?_
    exact Lp1 6006 0 _ _ (by omega) W3 F3  (by omega) ie5
set_option maxHeartbeats 4000000 in
set_option maxRecDepth 100000 in
theorem Z_copyO3_25 {l : Launch} {G : GT} {mi : Nat} {sk : Nat → Nat} {L : List Nat} {cl ln : Nat → Nat} {iv : Nat → Nat → Int} {rv : Nat → Nat → Option Nat}  {a0 : Nat} {n : Int} (hW : WT (g0 G) sk L cl ln iv rv) (hS : SKL sk L cl) (t_a0 : ty L cl a0 1003) (h_n : -2147483648 ≤ n ∧ n ≤ 2147483647) (hn : ((ln a0 : Nat) : Int) < n ∧ 10 ≤ n ∧ n ≤ 9100) : Mc l G mi zPf 0 yJ7_copyOf_6403c cJ7_copyOf_6403c 4 (some (.array (.object "java/lang/Object"))) 1 [.ref a0, .int (iI n), .ref mi] L cl ln iv rv (16 + n.toNat) (fun v L2 cl2 ln2 iv2 rv2 => ∃ f : Nat, v = some (.ref f) ∧ XT L cl ln L2 cl2 ln2 ∧ fT [1003] L cl iv rv iv2 rv2 ∧ WT (g0 G) sk L2 cl2 ln2 iv2 rv2 ∧ ty L2 cl2 f 1003 ∧ (ln2 f = n.toNat ∧ cl2 f = cl a0 ∧ ∀ i : Nat, i < ln a0 → rv2 f i = rv a0 i)) := by
  refine Mc.mk (by decide) (Nat.le_of_ble_eq_true rfl) ?_
  intro p e s m args below meth c A C hM
  refine hv3 ((show zPf ln rv ≤ 0 from Nat.le_refl 0)) (show XT L cl ln L cl ln from XT.refl) (show fT [1003] L cl iv rv iv rv from fT.refl) (fun hph hX0 hF0 => ?_)
  refine c_aload_n (j := 2) (x := mi) C dJ7_copyOf_6403c_0 rfl ?_
  refine c_ldcM C hM dJ7_copyOf_6403c_1 w3_29 ?_
  refine c_acmp_ne (rx := some mi) (ry := some mi) (tgt := 13) C dJ7_copyOf_6403c_3 (by decide) (fun q => absurd rfl q) (fun _ => ?_)
  refine c_iload_n (j := 1) C dJ7_copyOf_6403c_6 rfl ?_
  refine c_newaO (z := n) (N := n.toNat) C (cl a0) dJ7_copyOf_6403c_7 w3_31 w3_30t (by rw [t_a0.2]; rfl) (by omega) (by omega) (rom2 hph hph (by omega)) (fun qn1 cln1 lnn1 ivn1 rvn1 hqn1 hcn1 hln1 hin1 hrn1 => ⟨(0 + (16 + n.toNat)), (z_in (by omega)), ?_⟩)
  refine c_g0 C (fun hg1 => ?_)
  refine hv5 (show ∀ b, b ≠ qn1 → lnn1 b = ln b from (fun b hb => by rw [hln1]; exact va_up_ne _ _ hb)) (show lnn1 qn1 = n.toNat from by rw [hln1]; exact va_up_self _ _ _) (hF0.new hX0 hqn1 hin1 hrn1) (show ty (L ++ [qn1]) cln1 qn1 1003 from ⟨List.mem_append_right _ List.mem_cons_self, by rw [hcn1, va_up_self]; exact t_a0.2⟩) (show cln1 qn1 = (cl a0) from by rw [hcn1]; exact va_up_self _ _ _) (fun hxn1 lqn1 F1 tqn1 clqn1 => ?_)
  refine hv2 (hW.new (ln2 := lnn1) hqn1 (hg1 qn1 (List.mem_append_right _ List.mem_cons_self)) hcn1 hxn1 hin1 hrn1 (fun _ => by rw [t_a0.2]; exact ⟨(show (-2147483648 : Int) ≤ 0 by decide), (show (0 : Int) ≤ 2147483647 by decide)⟩) (Or.inr (fun _ => by rw [t_a0.2]; rfl)) (fun _ => by rw [t_a0.2]; show 10 ≤ lnn1 qn1 ∧ lnn1 qn1 ≤ 9100; omega) (by rw [t_a0.2]; rfl) (uq_big (by rw [t_a0.2]; decide))) (XT.new hqn1 hcn1 hxn1) (fun W1 xl1 => ?_)
  refine hv2 (hX0.trans xl1) (xl1.skl hS) (fun X1 sk1 => ?_)
  refine c_goto (tgt := 24) C dJ7_copyOf_6403c_10 (by decide) ?_
  refine c_astore_n (lv2 := [(3, .ref qn1), (0, .ref a0), (1, .int (iI n)), (2, .ref mi)]) C dJ7_copyOf_6403c_24 (by decide) rfl ?_
  refine c_aload_n (j := 1) (x := a0) C dJ7_copyOf_6403c_25 rfl ?_
  refine c_iconst C dJ7_copyOf_6403c_26 ?_
  refine c_aload_n (j := 0) (x := qn1) C dJ7_copyOf_6403c_27 rfl ?_
  refine c_iconst C dJ7_copyOf_6403c_28 ?_
  refine c_aload_n (j := 1) (x := a0) C dJ7_copyOf_6403c_29 rfl ?_
  have ty1 := xl1.ty t_a0
  have ll1 : 10 ≤ lnn1 a0 ∧ lnn1 a0 ≤ 9100 := W1.len ty1 rfl
  refine c_alenO C dJ7_copyOf_6403c_30 ty1 rfl ?_
  refine c_iload_n (j := 2) C dJ7_copyOf_6403c_31 rfl ?_
  obtain ⟨mn1, hmn1, emn1⟩ := mmin_c (x := ((lnn1 a0 : Nat) : Int)) (y := n) ⟨by omega, by omega⟩ ⟨by omega, by omega⟩
  refine c_mmin (w := iI mn1) C dJ7_copyOf_6403c_32 w2_128 w2_129 w1_14 w2_130 (by decide) (rom0 hph (Nat.le_refl 0) (by omega)) (Nat.le_of_ble_eq_true rfl) emn1 ?_
  have le1 : lnn1 a0 = ln a0 := (xl1 a0 t_a0.1).2.2
  refine c_copyq (n := mn1) C ck_6 w8_185t dJ7_copyOf_6403c_35 w2_131 w2_133 w2_132 w1_15 ty1 rfl tqn1 rfl (fun i y hy => by
      rcases W1.opt ty1 i rfl rfl with qq | ⟨bb, q1, q2⟩
      · rw [qq.1] at hy; cases hy
      · rw [q1] at hy; cases hy; exact q2) rfl rfl (by decide) (by omega) (by omega) (by omega) (by omega) (by decide) (Nat.le_of_ble_eq_true rfl) (fun rv1 cq1 => ⟨(0 + (16 + n.toNat)), (zp2 (Nat.le_refl _)), ?_⟩)
  have hno : ∀ w ∈ (L ++ [qn1]), lst (bt (cln1 w)) = true → rvn1 w 1 ≠ some qn1 := by
    intro w hw hl3 e3
    rcases List.mem_append.mp hw with e4 | e4
    · have hwq : w ≠ qn1 := fun e => hqn1 (e ▸ e4)
      rw [hcn1, va_up_ne _ _ hwq] at hl3
      rw [hrn1, up0_a hwq] at e3
      rcases WT.ed hW e4 (lst_szd hl3) e3 with e5 | e5
      · exact hqn1 e5
      · exact hg1 qn1 tqn1.1 e5
    · have e5 := List.mem_singleton.mp e4
      rw [e5, tqn1.2] at hl3; cases hl3
  refine hv2 (W1.copyr (TB2 := 0) cq1 tqn1 ty1 (by decide) (fun _ _ => rfl) (fun _ => rfl) hno) (F1.copyr X1 cq1 tqn1 rfl) (fun W2 F2 => ?_)
  refine c_aload_n (j := 0) (x := qn1) C dJ7_copyOf_6403c_38 rfl ?_
  exact c_aret (x := some qn1) C dJ7_copyOf_6403c_39 rfl (Or.inr ⟨_, rfl⟩) (by omega) (rom0 hph (Nat.le_refl 0) (by omega)) ⟨qn1, rfl, X1, F2, W2, tqn1, ⟨by omega, clqn1, fun i hi => by
      rw [cq1]
      show (if qn1 = qn1 then _ else _) = rv a0 i
      rw [if_pos rfl, if_pos (by omega), hrn1]
      exact congrFun (up0_a (ne_in t_a0.1 hqn1)) i⟩⟩
set_option maxHeartbeats 4000000 in
set_option maxRecDepth 100000 in
theorem Z_copyO2_25 {l : Launch} {G : GT} {mi : Nat} {sk : Nat → Nat} {L : List Nat} {cl ln : Nat → Nat} {iv : Nat → Nat → Int} {rv : Nat → Nat → Option Nat}  {a0 : Nat} {n : Int} (hW : WT (g0 G) sk L cl ln iv rv) (hS : SKL sk L cl) (t_a0 : ty L cl a0 1003) (h_n : -2147483648 ≤ n ∧ n ≤ 2147483647) (hn : ((ln a0 : Nat) : Int) < n ∧ 10 ≤ n ∧ n ≤ 9100) : Mc l G mi zPf 0 yJ7_copyOf_1904c cJ7_copyOf_1904c 2 (some (.array (.object "java/lang/Object"))) 2 [.ref a0, .int (iI n)] L cl ln iv rv (16 + n.toNat) (fun v L2 cl2 ln2 iv2 rv2 => ∃ f : Nat, v = some (.ref f) ∧ XT L cl ln L2 cl2 ln2 ∧ fT [1003] L cl iv rv iv2 rv2 ∧ WT (g0 G) sk L2 cl2 ln2 iv2 rv2 ∧ ty L2 cl2 f 1003 ∧ (ln2 f = n.toNat ∧ cl2 f = cl a0 ∧ ∀ i : Nat, i < ln a0 → rv2 f i = rv a0 i)) := by
  refine Mc.mk (by decide) (Nat.le_of_ble_eq_true rfl) ?_
  intro p e s m args below meth c A C hM
  refine hv3 ((show zPf ln rv ≤ 0 from Nat.le_refl 0)) (show XT L cl ln L cl ln from XT.refl) (show fT [1003] L cl iv rv iv rv from fT.refl) (fun hph hX0 hF0 => ?_)
  refine c_aload_n (j := 0) (x := a0) C dJ7_copyOf_1904c_0 rfl ?_
  refine c_iload_n (j := 1) C dJ7_copyOf_1904c_1 rfl ?_
  refine c_aload_n (j := 0) (x := a0) C dJ7_copyOf_1904c_2 rfl ?_
  refine c_getC C hM dJ7_copyOf_1904c_3 w3_8 w8_172 w3_9 w3_25 t_a0 rfl (by decide) (Nat.le_of_ble_eq_true rfl) ?_
  refine c_callS (As := [.ref a0, .int (iI n), .ref mi]) (rest := []) C hM (Z_copyO3_25 (a0 := a0) (n := n) hW hS t_a0 (by omega) (by show ((ln a0 : Nat) : Int) < n ∧ 10 ≤ n ∧ n ≤ 9100; omega)) dJ7_copyOf_1904c_6 kS_J7_300 rfl rfl (Nat.le_of_ble_eq_true rfl) ⟨(Nat.le_of_ble_eq_true rfl), (Nat.le_of_ble_eq_true rfl)⟩ (rz0 hph (by omega)) (fun rh1 Lh1 clh1 lnh1 ivh1 rvh1 h1 => ⟨(0 + (16 + n.toNat)), zk0, ?_⟩)
  obtain ⟨f1, rfl, xl1, fl1, W1, rgf1, exf1⟩ := h1
  refine hv3 (hF0.call hX0 fl1 rfl) (hX0.trans xl1) (xl1.skl hS) (fun F1 X1 sk1 => ?_)
  refine c_st (st2 := [.ref f1]) rfl ?_
  have gf1 : lnh1 f1 = n.toNat ∧ clh1 f1 = cl a0 ∧ ∀ i : Nat, i < ln a0 → rvh1 f1 i = rv a0 i := exf1
  exact c_aret (x := some f1) C dJ7_copyOf_1904c_9 rfl (Or.inr ⟨_, rfl⟩) (by omega) (rom0 hph (Nat.le_refl 0) (by omega)) ⟨f1, rfl, X1, F1, W1, rgf1, exf1⟩
set_option maxHeartbeats 4000000 in
set_option maxRecDepth 100000 in
theorem C_growA_25 {l : Launch} {G : GT} {mi : Nat} {sk : Nat → Nat} {L : List Nat} {cl ln : Nat → Nat} {iv : Nat → Nat → Int} {rv : Nat → Nat → Option Nat}  {a0 : Nat} {n : Int} (hW : WT (g0 G) sk L cl ln iv rv) (hS : SKL sk L cl) (t_a0 : ty L cl a0 25) (h_n : -2147483648 ≤ n ∧ n ≤ 2147483647) (hed : rv a0 1 = some (g0 G)) (hn : n = 1 ∧ iv a0 2 = 0) : Mc l G mi (Phi (g0 G) sk) PHM yJx4a65c_grow_92f84 cJx4a65c_grow_92f84 4 (some (.array (.object "java/lang/Object"))) 3 [.ref a0, .int (iI n)] L cl ln iv rv 0 (fun v L2 cl2 ln2 iv2 rv2 => ∃ f : Nat, v = some (.ref f) ∧ XT L cl ln L2 cl2 ln2 ∧ fT [25, 1003] L cl iv rv iv2 rv2 ∧ WT (g0 G) sk L2 cl2 ln2 iv2 rv2 ∧ ty L2 cl2 f 1003 ∧ (rv2 a0 1 = some f ∧ iv2 a0 2 = iv a0 2 ∧ iv a0 2 + 1 ≤ ((ln2 f : Nat) : Int) ∧ cl2 f = 1000 + 5 * a0 + 3 ∧ ∀ i : Nat, (i : Int) < iv a0 2 → rv2 f i = el rv a0 i)) := by
  refine Mc.mk (by decide) (Nat.le_of_ble_eq_true rfl) ?_
  intro p e s m args below meth c A C hM
  refine hv3 (Phi.le hW hS) (show XT L cl ln L cl ln from XT.refl) (show fT [25, 1003] L cl iv rv iv rv from fT.refl) (fun hph hX0 hF0 => ?_)
  refine c_aload_n (j := 0) (x := a0) C dJx4a65c_grow_92f84_0 rfl ?_
  refine c_getr (k := 1) C ck_0 dJx4a65c_grow_92f84_1 w1_78 (by decide) t_a0 rfl rfl (by decide) rfl hed ?_
  refine c_st (st2 := [.ref (g0 G)]) rfl ?_
  refine c_tlen C dJx4a65c_grow_92f84_4 ?_
  refine c_istore_n (lv2 := [(2, .int (iI 0)), (0, .ref a0), (1, .int (iI n))]) C dJx4a65c_grow_92f84_5 (by decide) rfl ?_
  refine c_iload_n (j := 0) C dJx4a65c_grow_92f84_6 rfl ?_
  refine c_if_gt (tgt := 20) C ⟨by decide, by decide⟩ dJx4a65c_grow_92f84_7 (by decide) (fun z => absurd z (by omega)) (fun _ => ?_)
  refine c_aload_n (j := 1) (x := a0) C dJx4a65c_grow_92f84_10 rfl ?_
  refine c_getr (k := 1) C ck_0 dJx4a65c_grow_92f84_11 w1_78 (by decide) t_a0 rfl rfl (by decide) rfl hed ?_
  refine c_st (st2 := [.ref (g0 G)]) rfl ?_
  refine c_gets C dJx4a65c_grow_92f84_14 w1_76 ?_
  refine c_acmp_eq (rx := some (g0 G)) (ry := some (g0 G)) (tgt := 45) C dJx4a65c_grow_92f84_17 (by decide) (fun _ => ?_) (fun q => absurd rfl q)
  refine c_aload_n (j := 1) (x := a0) C dJx4a65c_grow_92f84_45 rfl ?_
  refine c_bipush (z := 10) C dJx4a65c_grow_92f84_46 (by decide) ?_
  refine c_iload_n (j := 2) C dJx4a65c_grow_92f84_48 rfl ?_
  obtain ⟨mn1, hmn1, emn1⟩ := mmax_c (x := 10) (y := n) ⟨by decide, by decide⟩ ⟨by omega, by omega⟩
  refine c_mmax (w := iI mn1) C dJx4a65c_grow_92f84_49 w3_32 w2_148 w1_14 w2_149 (by decide) (rom0 hph hph (by decide)) (Nat.le_of_ble_eq_true rfl) emn1 ?_
  have l3 := (Phi.le3 hW hS).1
  refine c_newaO (z := mn1) (N := 10) C (1000 + 5 * a0 + 3) dJx4a65c_grow_92f84_52 w3_33 w3_30t (by rw [(bt_list (by decide))]; rfl) (by omega) (by omega) (by omega) (fun qn1 cln1 lnn1 ivn1 rvn1 hqn1 hcn1 hln1 hin1 hrn1 => ⟨(0 + (16 + 10)), (p_in (Phi.new hW hS hqn1 (fun b hb => by rw [hln1]; exact va_up_ne _ _ hb) hrn1) (by omega)), ?_⟩)
  refine c_g0 C (fun hg1 => ?_)
  refine hv5 (show ∀ b, b ≠ qn1 → lnn1 b = ln b from (fun b hb => by rw [hln1]; exact va_up_ne _ _ hb)) (show lnn1 qn1 = 10 from by rw [hln1]; exact va_up_self _ _ _) (hF0.new hX0 hqn1 hin1 hrn1) (show ty (L ++ [qn1]) cln1 qn1 1003 from ⟨List.mem_append_right _ List.mem_cons_self, by rw [hcn1, va_up_self]; exact (bt_list (by decide))⟩) (show cln1 qn1 = (1000 + 5 * a0 + 3) from by rw [hcn1]; exact va_up_self _ _ _) (fun hxn1 lqn1 F1 tqn1 clqn1 => ?_)
  refine hv2 (hW.new (ln2 := lnn1) hqn1 (hg1 qn1 (List.mem_append_right _ List.mem_cons_self)) hcn1 hxn1 hin1 hrn1 (fun _ => by rw [(bt_list (by decide))]; exact ⟨(show (-2147483648 : Int) ≤ 0 by decide), (show (0 : Int) ≤ 2147483647 by decide)⟩) (Or.inr (fun _ => by rw [(bt_list (by decide))]; rfl)) (fun _ => by rw [(bt_list (by decide))]; show 10 ≤ lnn1 qn1 ∧ lnn1 qn1 ≤ 9100; omega) (by rw [(bt_list (by decide))]; rfl) (uq_big (by rw [(bt_list (by decide))]; decide))) (XT.new hqn1 hcn1 hxn1) (fun W1 xl1 => ?_)
  refine hv2 (hX0.trans xl1) (xl1.skl hS) (fun X1 sk1 => ?_)
  refine c_dup_x1 C dJx4a65c_grow_92f84_55 rfl rfl ?_
  refine hv2 (xl1.ty t_a0) (show rvn1 a0 1 = rv a0 1 from (by rw [hrn1]; exact congrFun (up0_a (ne_in t_a0.1 hqn1)) _)) (fun ty1 re1 => ?_)
  rw [hed] at re1
  refine hv2 (show 0 ≤ ivn1 a0 2 ∧ ivn1 a0 2 ≤ 6003 from W1.int ty1 2) (show ivn1 a0 2 = iv a0 2 from by rw [hin1]; exact congrFun (up0_a (ne_in t_a0.1 hqn1)) _) (fun ri1 ie1 => ?_)
  refine c_g0 C (fun hg2 => ?_)
  refine hv2 (W1.sk ty1 (by decide) rfl) (cap_g (ln := lnn1) re1) (fun ask cpo => ?_)
  refine c_putr (x := (some qn1)) (k := 1) C ck_0 dJx4a65c_grow_92f84_56 w1_78 (by decide) rfl ty1 rfl rfl (by decide) rfl (by rfl) (by rfl) (fun rv1 pq1 => ⟨0, (by have gr := Phi.grow (g := g0 G) (rv2 := rv1) (rv := rvn1) (b := qn1) (ln := lnn1) (t := 25) sk1 (by rw [← ask]; exact pq1) (hg2 qn1 tqn1.1) (Or.inr (by decide)); rw [← ask] at gr; have gr2 : Phi (g0 G) sk lnn1 rv1 + 8 * cap (g0 G) lnn1 rvn1 a0 = Phi (g0 G) sk lnn1 rvn1 + 8 * lnn1 qn1 := gr; omega), ?_⟩)
  refine hv3 (W1.led pq1 ty1 rfl tqn1.1 clqn1 (by omega) (fun i hi => absurd hi (by omega))) (F1.putr X1 pq1 ty1 rfl) (show rv1 a0 1 = (some qn1) from by rw [pq1]; exact upr_s) (fun W2 F2 rp1 => ?_)
  have pl1 := Phi.le W2 sk1
  exact c_aret (x := some qn1) C dJx4a65c_grow_92f84_59 rfl (Or.inr ⟨_, rfl⟩) (by decide) (rom0 hph pl1 (by decide)) ⟨qn1, rfl, X1, F2, W2, tqn1, ⟨rp1, (by omega), (by omega), clqn1, (fun i hi => absurd hi (by omega))⟩⟩
set_option maxHeartbeats 4000000 in
set_option maxRecDepth 100000 in
theorem C_growB_25 {l : Launch} {G : GT} {mi : Nat} {sk : Nat → Nat} {L : List Nat} {cl ln : Nat → Nat} {iv : Nat → Nat → Int} {rv : Nat → Nat → Option Nat}  {a0 : Nat} {n : Int} {b0 : Nat} (hW : WT (g0 G) sk L cl ln iv rv) (hS : SKL sk L cl) (t_a0 : ty L cl a0 25) (t_b0 : ty L cl b0 1003) (h_n : -2147483648 ≤ n ∧ n ≤ 2147483647) (hed : rv a0 1 = some b0) (hcb : cl b0 = 1000 + 5 * a0 + 3) (hn : n = iv a0 2 + 1 ∧ iv a0 2 = ((ln b0 : Nat) : Int) ∧ iv a0 2 < 6003) : Mc l G mi (Phi (g0 G) sk) PHM yJx4a65c_grow_92f84 cJx4a65c_grow_92f84 4 (some (.array (.object "java/lang/Object"))) 3 [.ref a0, .int (iI n)] L cl ln iv rv 0 (fun v L2 cl2 ln2 iv2 rv2 => ∃ f : Nat, v = some (.ref f) ∧ XT L cl ln L2 cl2 ln2 ∧ fT [25, 1003] L cl iv rv iv2 rv2 ∧ WT (g0 G) sk L2 cl2 ln2 iv2 rv2 ∧ ty L2 cl2 f 1003 ∧ (rv2 a0 1 = some f ∧ iv2 a0 2 = iv a0 2 ∧ iv a0 2 + 1 ≤ ((ln2 f : Nat) : Int) ∧ cl2 f = 1000 + 5 * a0 + 3 ∧ ∀ i : Nat, (i : Int) < iv a0 2 → rv2 f i = el rv a0 i)) := by
  refine Mc.mk (by decide) (Nat.le_of_ble_eq_true rfl) ?_
  intro p e s m args below meth c A C hM
  refine hv3 (Phi.le hW hS) (show XT L cl ln L cl ln from XT.refl) (show fT [25, 1003] L cl iv rv iv rv from fT.refl) (fun hph hX0 hF0 => ?_)
  refine c_aload_n (j := 0) (x := a0) C dJx4a65c_grow_92f84_0 rfl ?_
  refine c_getr (k := 1) C ck_0 dJx4a65c_grow_92f84_1 w1_78 (by decide) t_a0 rfl rfl (by decide) rfl hed ?_
  refine c_st (st2 := [.ref b0]) rfl ?_
  have ll1 : 10 ≤ ln b0 ∧ ln b0 ≤ 9100 := hW.len t_b0 rfl
  refine c_alenO C dJx4a65c_grow_92f84_4 t_b0 rfl ?_
  refine c_istore_n (lv2 := [(2, .int (iI ((ln b0 : Nat) : Int))), (0, .ref a0), (1, .int (iI n))]) C dJx4a65c_grow_92f84_5 (by decide) rfl ?_
  refine c_iload_n (j := 0) C dJx4a65c_grow_92f84_6 rfl ?_
  refine c_if_gt (tgt := 20) C ⟨by omega, by omega⟩ dJx4a65c_grow_92f84_7 (by decide) (fun _ => ?_) (fun z => absurd z (by omega))
  refine c_iload_n (j := 0) C dJx4a65c_grow_92f84_20 rfl ?_
  refine c_iload_n (j := 2) C dJx4a65c_grow_92f84_21 rfl ?_
  refine c_iload_n (j := 0) C dJx4a65c_grow_92f84_22 rfl ?_
  refine c_isub C dJx4a65c_grow_92f84_23 ?_
  refine c_iload_n (j := 0) C dJx4a65c_grow_92f84_24 rfl ?_
  refine c_iconst C dJx4a65c_grow_92f84_25 ?_
  obtain ⟨zz1, hzz1, ezz1⟩ := iI_of (iI ((ln b0 : Nat) : Int) >>> (iI 1 &&& 31))
  refine c_ishr (w := iI zz1) C dJx4a65c_grow_92f84_26 ezz1 ?_
  have shzz1 : zz1 = ((ln b0 : Nat) : Int) / 2 := (iI_eq hzz1 ⟨by omega, by omega⟩).mp (ezz1.symm.trans (shr1 ⟨by omega, by omega⟩))
  refine d_callS (As := [.int (iI ((ln b0 : Nat) : Int)), .int (iI (n - ((ln b0 : Nat) : Int))), .int (iI zz1)]) (rest := []) C hM (C_newLength (i := ((ln b0 : Nat) : Int)) (n := n - ((ln b0 : Nat) : Int)) (x := zz1) hW hS  (by omega) (by omega) (by omega) (by show 0 ≤ ((ln b0 : Nat) : Int) ∧ ((ln b0 : Nat) : Int) ≤ 100000 ∧ 1 ≤ (n - ((ln b0 : Nat) : Int)) ∧ (n - ((ln b0 : Nat) : Int)) ≤ 100000 ∧ 0 ≤ zz1 ∧ zz1 ≤ 100000; omega)) dJx4a65c_grow_92f84_27 kS_Jx4a65c_73 rfl rfl (Nat.le_of_ble_eq_true rfl) ⟨(Nat.le_of_ble_eq_true rfl), (Nat.le_of_ble_eq_true rfl)⟩ hph hph (show 0 + 0 = 0 from rfl) (by decide) (fun rh1 Lh1 clh1 lnh1 ivh1 rvh1 h1 => ?_)
  obtain ⟨f1, rfl, rfl, rfl, rfl, rfl, rfl, rgf1, exf1⟩ := h1
  refine c_st (st2 := [.int (iI f1)]) rfl ?_
  have gf1 : ((n - ((ln b0 : Nat) : Int)) ≤ zz1 ∧ f1 = ((ln b0 : Nat) : Int) + zz1) ∨ (zz1 < (n - ((ln b0 : Nat) : Int)) ∧ f1 = ((ln b0 : Nat) : Int) + (n - ((ln b0 : Nat) : Int))) := exf1
  refine c_istore_n (lv2 := [(3, .int (iI f1)), (2, .int (iI ((ln b0 : Nat) : Int))), (0, .ref a0), (1, .int (iI n))]) C dJx4a65c_grow_92f84_30 (by decide) rfl ?_
  refine c_aload_n (j := 2) (x := a0) C dJx4a65c_grow_92f84_31 rfl ?_
  refine c_aload_n (j := 2) (x := a0) C dJx4a65c_grow_92f84_32 rfl ?_
  refine c_getr (k := 1) C ck_0 dJx4a65c_grow_92f84_33 w1_78 (by decide) t_a0 rfl rfl (by decide) rfl hed ?_
  refine c_st (st2 := [.ref b0, .ref a0]) rfl ?_
  refine c_iload_n (j := 0) C dJx4a65c_grow_92f84_36 rfl ?_
  refine c_g0 C (fun hg0 => ?_)
  refine hv2 (hW.sk t_a0 (by decide) rfl) (cap_of (ln := ln) hed (hg0 b0 t_b0.1)) (fun ask0 cp0 => ?_)
  have l3 := (Phi.le3 hW hS).2 25 (ln b0) (by decide) (by rw [← ask0]; exact cp0) (by omega)
  refine c_callS (As := [.ref b0, .int (iI f1)]) (rest := [.ref a0]) C hM (Z_copyO2_25 (a0 := b0) (n := f1) hW hS t_b0 (by omega) (by show ((ln b0 : Nat) : Int) < f1 ∧ 10 ≤ f1 ∧ f1 ≤ 9100; omega)) dJx4a65c_grow_92f84_37 kS_Jx4a65c_66 rfl rfl (Nat.le_of_ble_eq_true rfl) ⟨(Nat.le_of_ble_eq_true rfl), (Nat.le_of_ble_eq_true rfl)⟩ (by unfold zPf; omega) (fun rh2 Lh2 clh2 lnh2 ivh2 rvh2 h2 => ⟨(0 + (16 + f1.toNat)), (zk1 (by obtain ⟨_, _, xlh2x, flh2x, Wh2x, _⟩ := h2; exact Phi.fr hW hS xlh2x flh2x rfl)), ?_⟩)
  obtain ⟨f2, rfl, xl2, fl2, W2, rgf2, exf2⟩ := h2
  refine hv3 (hF0.call hX0 fl2 rfl) (hX0.trans xl2) (xl2.skl hS) (fun F1 X1 sk1 => ?_)
  refine c_st (st2 := [.ref f2, .ref a0]) rfl ?_
  have gf2 : lnh2 f2 = f1.toNat ∧ clh2 f2 = cl b0 ∧ ∀ i : Nat, i < ln b0 → rvh2 f2 i = rv b0 i := exf2
  refine c_dup_x1 C dJx4a65c_grow_92f84_40 rfl rfl ?_
  refine hv2 (xl2.ty t_a0) (show rvh2 a0 1 = rv a0 1 from (fl2.r t_a0 rfl 1)) (fun ty1 re1 => ?_)
  rw [hed] at re1
  refine hv2 (show 0 ≤ ivh2 a0 2 ∧ ivh2 a0 2 ≤ 6003 from W2.int ty1 2) (show ivh2 a0 2 = iv a0 2 from fl2.i t_a0 rfl 2) (fun ri1 ie1 => ?_)
  refine c_g0 C (fun hg1 => ?_)
  refine hv3 (W2.sk ty1 (by decide) rfl) (xl2.ty t_b0) (show lnh2 b0 = ln b0 from (xl2 b0 t_b0.1).2.2) (fun ask ty2 le1 => ?_)
  have cpo := cap_of (ln := lnh2) re1 (hg1 b0 ty2.1)
  refine c_putr (x := (some f2)) (k := 1) C ck_0 dJx4a65c_grow_92f84_41 w1_78 (by decide) rfl ty1 rfl rfl (by decide) rfl (by rfl) (by rfl) (fun rv1 pq1 => ⟨0, (by have gr := Phi.grow (g := g0 G) (rv2 := rv1) (rv := rvh2) (b := f2) (ln := lnh2) (t := 25) sk1 (by rw [← ask]; exact pq1) (hg1 f2 rgf2.1) (Or.inr (by decide)); rw [← ask] at gr; have gr2 : Phi (g0 G) sk lnh2 rv1 + 8 * cap (g0 G) lnh2 rvh2 a0 = Phi (g0 G) sk lnh2 rvh2 + 8 * lnh2 f2 := gr; omega), ?_⟩)
  have W3 := W2.led pq1 ty1 rfl rgf2.1 (exf2.2.1.trans hcb) (by omega) (fun i hi => by
      rw [exf2.2.2 i (by omega)]
      exact hW.2.2.2.2.1 a0 t_a0.1 (by rw [t_a0.2]; rfl) b0 hed i (by omega))
  refine hv3 (F1.putr X1 pq1 ty1 rfl) (show rv1 a0 1 = (some f2) from by rw [pq1]; exact upr_s) (Phi.le W3 sk1) (fun F2 rp1 pl1 => ?_)
  exact c_aret (x := some f2) C dJx4a65c_grow_92f84_44 rfl (Or.inr ⟨_, rfl⟩) (by decide) (rom0 hph pl1 (by decide)) ⟨f2, rfl, X1, F2, W3, rgf2, ⟨rp1, (by omega), (by omega), (exf2.2.1.trans hcb), (fun i hi => by rw [el_of hed, pq1, upr_a (ne_ty rgf2 ty1 (by decide))]; exact exf2.2.2 i (by omega))⟩⟩
set_option maxHeartbeats 4000000 in
set_option maxRecDepth 100000 in
theorem C_grow0A_25 {l : Launch} {G : GT} {mi : Nat} {sk : Nat → Nat} {L : List Nat} {cl ln : Nat → Nat} {iv : Nat → Nat → Int} {rv : Nat → Nat → Option Nat}  {a0 : Nat} (hW : WT (g0 G) sk L cl ln iv rv) (hS : SKL sk L cl) (t_a0 : ty L cl a0 25) (hed : rv a0 1 = some (g0 G)) (hn : iv a0 2 = 0) : Mc l G mi (Phi (g0 G) sk) PHM yJx4a65c_grow_d5877 cJx4a65c_grow_d5877 1 (some (.array (.object "java/lang/Object"))) 4 [.ref a0] L cl ln iv rv 0 (fun v L2 cl2 ln2 iv2 rv2 => ∃ f : Nat, v = some (.ref f) ∧ XT L cl ln L2 cl2 ln2 ∧ fT [25, 1003] L cl iv rv iv2 rv2 ∧ WT (g0 G) sk L2 cl2 ln2 iv2 rv2 ∧ ty L2 cl2 f 1003 ∧ (rv2 a0 1 = some f ∧ iv2 a0 2 = iv a0 2 ∧ iv a0 2 + 1 ≤ ((ln2 f : Nat) : Int) ∧ cl2 f = 1000 + 5 * a0 + 3 ∧ ∀ i : Nat, (i : Int) < iv a0 2 → rv2 f i = el rv a0 i)) := by
  refine Mc.mk (by decide) (Nat.le_of_ble_eq_true rfl) ?_
  intro p e s m args below meth c A C hM
  refine hv3 (Phi.le hW hS) (show XT L cl ln L cl ln from XT.refl) (show fT [25, 1003] L cl iv rv iv rv from fT.refl) (fun hph hX0 hF0 => ?_)
  refine c_aload_n (j := 0) (x := a0) C dJx4a65c_grow_d5877_0 rfl ?_
  refine c_aload_n (j := 0) (x := a0) C dJx4a65c_grow_d5877_1 rfl ?_
  have ri1 : 0 ≤ iv a0 2 ∧ iv a0 2 ≤ 6003 := hW.int t_a0 2
  refine c_get (k := 2) C ck_0 dJx4a65c_grow_d5877_2 w1_79 (by decide) t_a0 rfl rfl (by decide) rfl ?_
  refine c_iconst C dJx4a65c_grow_d5877_5 ?_
  refine c_iadd C dJx4a65c_grow_d5877_6 ?_
  refine d_callV (As := [.int (iI ((iv a0 2) + 1))]) (rest := []) C hM (C_growA_25 (a0 := a0) (n := (iv a0 2) + 1) hW hS t_a0 (by omega) hed (by show ((iv a0 2) + 1) = 1 ∧ iv a0 2 = 0; omega)) dJx4a65c_grow_d5877_7 kV_Jx4a65c_69 rfl t_a0 rfl rfl (by decide) ck_0 rfl (Nat.le_of_ble_eq_true rfl) ⟨(Nat.le_of_ble_eq_true rfl), (Nat.le_of_ble_eq_true rfl)⟩ hph hph (show 0 + 0 = 0 from rfl) (by decide) (fun rh1 Lh1 clh1 lnh1 ivh1 rvh1 h1 => ?_)
  obtain ⟨f1, rfl, xl1, fl1, W1, rgf1, exf1⟩ := h1
  refine hv3 (hF0.call hX0 fl1 rfl) (hX0.trans xl1) (xl1.skl hS) (fun F1 X1 sk1 => ?_)
  refine c_st (st2 := [.ref f1]) rfl ?_
  refine hv5 (xl1.ty t_a0) (show rvh1 a0 1 = some f1 ∧ ivh1 a0 2 = iv a0 2 ∧ iv a0 2 + 1 ≤ ((lnh1 f1 : Nat) : Int) ∧ clh1 f1 = 1000 + 5 * a0 + 3 ∧ ∀ i : Nat, (i : Int) < iv a0 2 → rvh1 f1 i = el rv a0 i from exf1) (exf1.2.2.1) (exf1.2.1) (Phi.le W1 sk1) (fun ty1 gf1 gzf1 gyf1 pl1 => ?_)
  have ri2 : 0 ≤ ivh1 a0 2 ∧ ivh1 a0 2 ≤ 6003 := W1.int ty1 2
  exact c_aret (x := some f1) C dJx4a65c_grow_d5877_10 rfl (Or.inr ⟨_, rfl⟩) (by decide) (rom0 hph pl1 (by decide)) ⟨f1, rfl, X1, F1, W1, rgf1, exf1⟩
set_option maxHeartbeats 4000000 in
set_option maxRecDepth 100000 in
theorem C_grow0B_25 {l : Launch} {G : GT} {mi : Nat} {sk : Nat → Nat} {L : List Nat} {cl ln : Nat → Nat} {iv : Nat → Nat → Int} {rv : Nat → Nat → Option Nat}  {a0 : Nat} {b0 : Nat} (hW : WT (g0 G) sk L cl ln iv rv) (hS : SKL sk L cl) (t_a0 : ty L cl a0 25) (t_b0 : ty L cl b0 1003) (hed : rv a0 1 = some b0) (hcb : cl b0 = 1000 + 5 * a0 + 3) (hn : iv a0 2 = ((ln b0 : Nat) : Int) ∧ iv a0 2 < 6003) : Mc l G mi (Phi (g0 G) sk) PHM yJx4a65c_grow_d5877 cJx4a65c_grow_d5877 1 (some (.array (.object "java/lang/Object"))) 4 [.ref a0] L cl ln iv rv 0 (fun v L2 cl2 ln2 iv2 rv2 => ∃ f : Nat, v = some (.ref f) ∧ XT L cl ln L2 cl2 ln2 ∧ fT [25, 1003] L cl iv rv iv2 rv2 ∧ WT (g0 G) sk L2 cl2 ln2 iv2 rv2 ∧ ty L2 cl2 f 1003 ∧ (rv2 a0 1 = some f ∧ iv2 a0 2 = iv a0 2 ∧ iv a0 2 + 1 ≤ ((ln2 f : Nat) : Int) ∧ cl2 f = 1000 + 5 * a0 + 3 ∧ ∀ i : Nat, (i : Int) < iv a0 2 → rv2 f i = el rv a0 i)) := by
  refine Mc.mk (by decide) (Nat.le_of_ble_eq_true rfl) ?_
  intro p e s m args below meth c A C hM
  refine hv3 (Phi.le hW hS) (show XT L cl ln L cl ln from XT.refl) (show fT [25, 1003] L cl iv rv iv rv from fT.refl) (fun hph hX0 hF0 => ?_)
  refine c_aload_n (j := 0) (x := a0) C dJx4a65c_grow_d5877_0 rfl ?_
  refine c_aload_n (j := 0) (x := a0) C dJx4a65c_grow_d5877_1 rfl ?_
  have ri1 : 0 ≤ iv a0 2 ∧ iv a0 2 ≤ 6003 := hW.int t_a0 2
  refine c_get (k := 2) C ck_0 dJx4a65c_grow_d5877_2 w1_79 (by decide) t_a0 rfl rfl (by decide) rfl ?_
  refine c_iconst C dJx4a65c_grow_d5877_5 ?_
  refine c_iadd C dJx4a65c_grow_d5877_6 ?_
  refine d_callV (As := [.int (iI ((iv a0 2) + 1))]) (rest := []) C hM (C_growB_25 (a0 := a0) (n := (iv a0 2) + 1) (b0 := b0) hW hS t_a0 t_b0 (by omega) hed hcb (by show ((iv a0 2) + 1) = iv a0 2 + 1 ∧ iv a0 2 = ((ln b0 : Nat) : Int) ∧ iv a0 2 < 6003; omega)) dJx4a65c_grow_d5877_7 kV_Jx4a65c_69 rfl t_a0 rfl rfl (by decide) ck_0 rfl (Nat.le_of_ble_eq_true rfl) ⟨(Nat.le_of_ble_eq_true rfl), (Nat.le_of_ble_eq_true rfl)⟩ hph hph (show 0 + 0 = 0 from rfl) (by decide) (fun rh1 Lh1 clh1 lnh1 ivh1 rvh1 h1 => ?_)
  obtain ⟨f1, rfl, xl1, fl1, W1, rgf1, exf1⟩ := h1
  refine hv3 (hF0.call hX0 fl1 rfl) (hX0.trans xl1) (xl1.skl hS) (fun F1 X1 sk1 => ?_)
  refine c_st (st2 := [.ref f1]) rfl ?_
  refine hv5 (xl1.ty t_a0) (show rvh1 a0 1 = some f1 ∧ ivh1 a0 2 = iv a0 2 ∧ iv a0 2 + 1 ≤ ((lnh1 f1 : Nat) : Int) ∧ clh1 f1 = 1000 + 5 * a0 + 3 ∧ ∀ i : Nat, (i : Int) < iv a0 2 → rvh1 f1 i = el rv a0 i from exf1) (exf1.2.2.1) (exf1.2.1) (Phi.le W1 sk1) (fun ty1 gf1 gzf1 gyf1 pl1 => ?_)
  have ri2 : 0 ≤ ivh1 a0 2 ∧ ivh1 a0 2 ≤ 6003 := W1.int ty1 2
  exact c_aret (x := some f1) C dJx4a65c_grow_d5877_10 rfl (Or.inr ⟨_, rfl⟩) (by decide) (rom0 hph pl1 (by decide)) ⟨f1, rfl, X1, F1, W1, rgf1, exf1⟩
set_option maxHeartbeats 4000000 in
set_option maxRecDepth 100000 in
theorem C_add3A_25 {l : Launch} {G : GT} {mi : Nat} {sk : Nat → Nat} {L : List Nat} {cl ln : Nat → Nat} {iv : Nat → Nat → Int} {rv : Nat → Nat → Option Nat}  {a0 : Nat} {x : Nat} {n : Int} (hW : WT (g0 G) sk L cl ln iv rv) (hS : SKL sk L cl) (t_a0 : ty L cl a0 25) (t_x : ty L cl x 20) (h_n : -2147483648 ≤ n ∧ n ≤ 2147483647) (hed : rv a0 1 = some (g0 G)) (hn : n = iv a0 2 ∧ n = 0) : Mc l G mi (Phi (g0 G) sk) PHM yJx4a65c_add_72be8 cJx4a65c_add_72be8 4 none 5 [.ref a0, .ref x, .ref (g0 G), .int (iI n)] L cl ln iv rv 0 (fun v L2 cl2 ln2 iv2 rv2 => v = none ∧ XT L cl ln L2 cl2 ln2 ∧ fT [25, 1003] L cl iv rv iv2 rv2 ∧ WT (g0 G) sk L2 cl2 ln2 iv2 rv2 ∧ (iv2 a0 2 = iv a0 2 + 1 ∧ el rv2 a0 (iv a0 2).toNat = some x ∧ ∀ i : Nat, (i : Int) < iv a0 2 → el rv2 a0 i = el rv a0 i)) := by
  refine Mc.mk (by decide) (Nat.le_of_ble_eq_true rfl) ?_
  intro p e s m args below meth c A C hM
  refine hv3 (Phi.le hW hS) (show XT L cl ln L cl ln from XT.refl) (show fT [25, 1003] L cl iv rv iv rv from fT.refl) (fun hph hX0 hF0 => ?_)
  refine c_iload_n (j := 3) C dJx4a65c_add_72be8_0 rfl ?_
  refine c_aload_n (j := 2) (x := g0 G) C dJx4a65c_add_72be8_1 rfl ?_
  refine c_tlen C dJx4a65c_add_72be8_2 ?_
  refine c_icmp_ne (tgt := 11) C ⟨by omega, by omega⟩ ⟨by decide, by decide⟩ dJx4a65c_add_72be8_3 (by decide) (fun z => absurd z (by omega)) (fun _ => ?_)
  refine c_aload_n (j := 0) (x := a0) C dJx4a65c_add_72be8_6 rfl ?_
  have ri1 : 0 ≤ iv a0 2 ∧ iv a0 2 ≤ 6003 := hW.int t_a0 2
  refine d_callV (As := []) (rest := []) C hM (C_grow0A_25 (a0 := a0) hW hS t_a0  hed (by show iv a0 2 = 0; omega)) dJx4a65c_add_72be8_7 kV_Jx4a65c_129 rfl t_a0 rfl rfl (by decide) ck_0 rfl (Nat.le_of_ble_eq_true rfl) ⟨(Nat.le_of_ble_eq_true rfl), (Nat.le_of_ble_eq_true rfl)⟩ hph hph (show 0 + 0 = 0 from rfl) (by decide) (fun rh1 Lh1 clh1 lnh1 ivh1 rvh1 h1 => ?_)
  obtain ⟨f1, rfl, xl1, fl1, W1, rgf1, exf1⟩ := h1
  refine hv3 (hF0.call hX0 fl1 rfl) (hX0.trans xl1) (xl1.skl hS) (fun F1 X1 sk1 => ?_)
  refine c_st (st2 := [.ref f1]) rfl ?_
  refine hv4 (xl1.ty t_a0) (show rvh1 a0 1 = some f1 ∧ ivh1 a0 2 = iv a0 2 ∧ iv a0 2 + 1 ≤ ((lnh1 f1 : Nat) : Int) ∧ clh1 f1 = 1000 + 5 * a0 + 3 ∧ ∀ i : Nat, (i : Int) < iv a0 2 → rvh1 f1 i = el rv a0 i from exf1) (exf1.2.2.1) (exf1.2.1) (fun ty1 gf1 gzf1 gyf1 => ?_)
  have ri2 : 0 ≤ ivh1 a0 2 ∧ ivh1 a0 2 ≤ 6003 := W1.int ty1 2
  refine c_astore_n (lv2 := [(2, .ref f1), (0, .ref a0), (1, .ref x), (3, .int (iI n))]) C dJx4a65c_add_72be8_10 (by decide) rfl ?_
  refine c_aload_n (j := 0) (x := f1) C dJx4a65c_add_72be8_11 rfl ?_
  refine c_iload_n (j := 3) C dJx4a65c_add_72be8_12 rfl ?_
  refine c_aload_n (j := 2) (x := x) C dJx4a65c_add_72be8_13 rfl ?_
  refine hv2 (show 10 ≤ lnh1 f1 ∧ lnh1 f1 ≤ 9100 from W1.len rgf1 rfl) (xl1.ty t_x) (fun ll1 ty2 => ?_)
  refine c_aastO (z := n) C ck_6 w8_185t dJx4a65c_add_72be8_14 rgf1 rfl ty2 rfl rfl (by decide) (by omega) (by omega) (by omega) (fun rv1 pq1 => ⟨0, (by rw [Phi.putr sk1 pq1 rgf1 rfl]; exact Nat.le_refl _), ?_⟩)
  refine hv2 (W1.lset pq1 rgf1 (by decide) ty2) (F1.putr X1 pq1 rgf1 rfl) (fun W2 F2 => ?_)
  refine c_aload_n (j := 1) (x := a0) C dJx4a65c_add_72be8_15 rfl ?_
  refine c_iload_n (j := 3) C dJx4a65c_add_72be8_16 rfl ?_
  refine c_iconst C dJx4a65c_add_72be8_17 ?_
  refine c_iadd C dJx4a65c_add_72be8_18 ?_
  refine c_put (z := n + 1) (k := 2) C ck_0 dJx4a65c_add_72be8_19 w1_79 (by decide) rfl ty1 rfl rfl (by decide) rfl (by rfl) (by rfl) (fun iv1 pq2 => ?_)
  have re1 : rv1 a0 1 = rvh1 a0 1 := (by rw [pq1]; exact congrFun (upr_a (ne_ty ty1 rgf1 (by decide))) _)
  rw [exf1.1] at re1
  refine hv3 (show rv1 f1 (ivh1 a0 2).toNat = some x from by rw [show (ivh1 a0 2).toNat = n.toNat by omega, pq1]; exact upr_s) (F2.puti X1 pq2 ty1 rfl) (show iv1 a0 2 = n + 1 from by rw [pq2]; exact up2_s) (fun px1 F3 ie2 => ?_)
  have W3 := W2.lapp pq2 ty1 rfl re1 rgf1.1 px1 (show (n + 1) = ivh1 a0 2 + 1 by omega) (show ivh1 a0 2 + 1 ≤ 6003 by omega) (by omega) rfl
  refine hv2 (show 0 ≤ iv1 a0 2 ∧ iv1 a0 2 ≤ 6003 from W3.int ty1 2) (Phi.le W3 sk1) (fun ri3 pl1 => ?_)
  exact c_vret C dJx4a65c_add_72be8_22 rfl (by decide) (rom0 hph pl1 (by decide)) ⟨rfl, X1, F3, W3, ⟨by omega, (by rw [el_of re1, show (iv a0 2).toNat = n.toNat by omega, pq1]; exact upr_s), fun i hi => (by rw [el_of re1, pq1, upr_j (by omega)]; exact exf1.2.2.2.2 i hi)⟩⟩
set_option maxHeartbeats 4000000 in
set_option maxRecDepth 100000 in
theorem C_add3B_25 {l : Launch} {G : GT} {mi : Nat} {sk : Nat → Nat} {L : List Nat} {cl ln : Nat → Nat} {iv : Nat → Nat → Int} {rv : Nat → Nat → Option Nat}  {a0 : Nat} {x : Nat} {b0 : Nat} {n : Int} (hW : WT (g0 G) sk L cl ln iv rv) (hS : SKL sk L cl) (t_a0 : ty L cl a0 25) (t_x : ty L cl x 20) (t_b0 : ty L cl b0 1003) (h_n : -2147483648 ≤ n ∧ n ≤ 2147483647) (hed : rv a0 1 = some b0) (hcb : cl b0 = 1000 + 5 * a0 + 3) (hn : n = iv a0 2 ∧ 0 ≤ n ∧ n ≤ ((ln b0 : Nat) : Int) ∧ n < 6003) : Mc l G mi (Phi (g0 G) sk) PHM yJx4a65c_add_72be8 cJx4a65c_add_72be8 4 none 5 [.ref a0, .ref x, .ref b0, .int (iI n)] L cl ln iv rv 0 (fun v L2 cl2 ln2 iv2 rv2 => v = none ∧ XT L cl ln L2 cl2 ln2 ∧ fT [25, 1003] L cl iv rv iv2 rv2 ∧ WT (g0 G) sk L2 cl2 ln2 iv2 rv2 ∧ (iv2 a0 2 = iv a0 2 + 1 ∧ el rv2 a0 (iv a0 2).toNat = some x ∧ ∀ i : Nat, (i : Int) < iv a0 2 → el rv2 a0 i = el rv a0 i)) := by
  refine Mc.mk (by decide) (Nat.le_of_ble_eq_true rfl) ?_
  intro p e s m args below meth c A C hM
  refine hv3 (Phi.le hW hS) (show XT L cl ln L cl ln from XT.refl) (show fT [25, 1003] L cl iv rv iv rv from fT.refl) (fun hph hX0 hF0 => ?_)
  refine c_iload_n (j := 3) C dJx4a65c_add_72be8_0 rfl ?_
  refine c_aload_n (j := 2) (x := b0) C dJx4a65c_add_72be8_1 rfl ?_
  have ll1 : 10 ≤ ln b0 ∧ ln b0 ≤ 9100 := hW.len t_b0 rfl
  refine c_alenO C dJx4a65c_add_72be8_2 t_b0 rfl ?_
  refine c_icmp_ne (tgt := 11) C ⟨by omega, by omega⟩ ⟨by omega, by omega⟩ dJx4a65c_add_72be8_3 (by decide) (fun c1 => ?_) (fun c1 => ?_)
  · refine c_aload_n (j := 2) (x := b0) C dJx4a65c_add_72be8_11 rfl ?_
    refine c_iload_n (j := 3) C dJx4a65c_add_72be8_12 rfl ?_
    refine c_aload_n (j := 1) (x := x) C dJx4a65c_add_72be8_13 rfl ?_
    refine c_aastO (z := n) C ck_6 w8_185t dJx4a65c_add_72be8_14 t_b0 rfl t_x rfl rfl (by decide) (by omega) (by omega) (by omega) (fun rv1 pq1 => ⟨0, (by rw [Phi.putr hS pq1 t_b0 rfl]; exact Nat.le_refl _), ?_⟩)
    refine hv2 (hW.lset pq1 t_b0 (by decide) t_x) (hF0.putr hX0 pq1 t_b0 rfl) (fun W1 F1 => ?_)
    refine c_aload_n (j := 0) (x := a0) C dJx4a65c_add_72be8_15 rfl ?_
    refine c_iload_n (j := 3) C dJx4a65c_add_72be8_16 rfl ?_
    refine c_iconst C dJx4a65c_add_72be8_17 ?_
    refine c_iadd C dJx4a65c_add_72be8_18 ?_
    refine c_put (z := n + 1) (k := 2) C ck_0 dJx4a65c_add_72be8_19 w1_79 (by decide) rfl t_a0 rfl rfl (by decide) rfl (by rfl) (by rfl) (fun iv1 pq2 => ?_)
    have re1 : rv1 a0 1 = rv a0 1 := (by rw [pq1]; exact congrFun (upr_a (ne_ty t_a0 t_b0 (by decide))) _)
    rw [hed] at re1
    refine hv3 (show rv1 b0 (iv a0 2).toNat = some x from by rw [show (iv a0 2).toNat = n.toNat by omega, pq1]; exact upr_s) (F1.puti hX0 pq2 t_a0 rfl) (show iv1 a0 2 = n + 1 from by rw [pq2]; exact up2_s) (fun px1 F2 ie1 => ?_)
    have W2 := W1.lapp pq2 t_a0 rfl re1 t_b0.1 px1 (show (n + 1) = iv a0 2 + 1 by omega) (show iv a0 2 + 1 ≤ 6003 by omega) (by omega) rfl
    refine hv2 (show 0 ≤ iv1 a0 2 ∧ iv1 a0 2 ≤ 6003 from W2.int t_a0 2) (Phi.le W2 hS) (fun ri1 pl1 => ?_)
    exact c_vret C dJx4a65c_add_72be8_22 rfl (by decide) (rom0 hph pl1 (by decide)) ⟨rfl, hX0, F2, W2, ⟨by omega, (by rw [el_of re1, show (iv a0 2).toNat = n.toNat by omega, pq1]; exact upr_s), fun i hi => (by rw [el_of re1, pq1, upr_j (by omega)]; exact (el_of hed).symm)⟩⟩
  · refine c_aload_n (j := 0) (x := a0) C dJx4a65c_add_72be8_6 rfl ?_
    have ri2 : 0 ≤ iv a0 2 ∧ iv a0 2 ≤ 6003 := hW.int t_a0 2
    refine d_callV (As := []) (rest := []) C hM (C_grow0B_25 (a0 := a0) (b0 := b0) hW hS t_a0 t_b0  hed hcb (by show iv a0 2 = ((ln b0 : Nat) : Int) ∧ iv a0 2 < 6003; omega)) dJx4a65c_add_72be8_7 kV_Jx4a65c_129 rfl t_a0 rfl rfl (by decide) ck_0 rfl (Nat.le_of_ble_eq_true rfl) ⟨(Nat.le_of_ble_eq_true rfl), (Nat.le_of_ble_eq_true rfl)⟩ hph hph (show 0 + 0 = 0 from rfl) (by decide) (fun rh1 Lh1 clh1 lnh1 ivh1 rvh1 h1 => ?_)
    obtain ⟨f1, rfl, xl1, fl1, W3, rgf1, exf1⟩ := h1
    refine hv3 (hF0.call hX0 fl1 rfl) (hX0.trans xl1) (xl1.skl hS) (fun F3 X1 sk1 => ?_)
    refine c_st (st2 := [.ref f1]) rfl ?_
    refine hv4 (xl1.ty t_a0) (show rvh1 a0 1 = some f1 ∧ ivh1 a0 2 = iv a0 2 ∧ iv a0 2 + 1 ≤ ((lnh1 f1 : Nat) : Int) ∧ clh1 f1 = 1000 + 5 * a0 + 3 ∧ ∀ i : Nat, (i : Int) < iv a0 2 → rvh1 f1 i = el rv a0 i from exf1) (exf1.2.2.1) (exf1.2.1) (fun ty1 gf1 gzf1 gyf1 => ?_)
    have ri3 : 0 ≤ ivh1 a0 2 ∧ ivh1 a0 2 ≤ 6003 := W3.int ty1 2
    refine c_astore_n (lv2 := [(2, .ref f1), (0, .ref a0), (1, .ref x), (3, .int (iI n))]) C dJx4a65c_add_72be8_10 (by decide) rfl ?_
    refine c_aload_n (j := 0) (x := f1) C dJx4a65c_add_72be8_11 rfl ?_
    refine c_iload_n (j := 3) C dJx4a65c_add_72be8_12 rfl ?_
    refine c_aload_n (j := 2) (x := x) C dJx4a65c_add_72be8_13 rfl ?_
    refine hv2 (show 10 ≤ lnh1 f1 ∧ lnh1 f1 ≤ 9100 from W3.len rgf1 rfl) (xl1.ty t_x) (fun ll2 ty2 => ?_)
    refine c_aastO (z := n) C ck_6 w8_185t dJx4a65c_add_72be8_14 rgf1 rfl ty2 rfl rfl (by decide) (by omega) (by omega) (by omega) (fun rv2 pq3 => ⟨0, (by rw [Phi.putr sk1 pq3 rgf1 rfl]; exact Nat.le_refl _), ?_⟩)
    refine hv2 (W3.lset pq3 rgf1 (by decide) ty2) (F3.putr X1 pq3 rgf1 rfl) (fun W4 F4 => ?_)
    refine c_aload_n (j := 1) (x := a0) C dJx4a65c_add_72be8_15 rfl ?_
    refine c_iload_n (j := 3) C dJx4a65c_add_72be8_16 rfl ?_
    refine c_iconst C dJx4a65c_add_72be8_17 ?_
    refine c_iadd C dJx4a65c_add_72be8_18 ?_
    refine c_put (z := n + 1) (k := 2) C ck_0 dJx4a65c_add_72be8_19 w1_79 (by decide) rfl ty1 rfl rfl (by decide) rfl (by rfl) (by rfl) (fun iv2 pq4 => ?_)
    have re2 : rv2 a0 1 = rvh1 a0 1 := (by rw [pq3]; exact congrFun (upr_a (ne_ty ty1 rgf1 (by decide))) _)
    rw [exf1.1] at re2
    refine hv3 (show rv2 f1 (ivh1 a0 2).toNat = some x from by rw [show (ivh1 a0 2).toNat = n.toNat by omega, pq3]; exact upr_s) (F4.puti X1 pq4 ty1 rfl) (show iv2 a0 2 = n + 1 from by rw [pq4]; exact up2_s) (fun px2 F5 ie3 => ?_)
    have W5 := W4.lapp pq4 ty1 rfl re2 rgf1.1 px2 (show (n + 1) = ivh1 a0 2 + 1 by omega) (show ivh1 a0 2 + 1 ≤ 6003 by omega) (by omega) rfl
    refine hv2 (show 0 ≤ iv2 a0 2 ∧ iv2 a0 2 ≤ 6003 from W5.int ty1 2) (Phi.le W5 sk1) (fun ri4 pl2 => ?_)
    exact c_vret C dJx4a65c_add_72be8_22 rfl (by decide) (rom0 hph pl2 (by decide)) ⟨rfl, X1, F5, W5, ⟨by omega, (by rw [el_of re2, show (iv a0 2).toNat = n.toNat by omega, pq3]; exact upr_s), fun i hi => (by rw [el_of re2, pq3, upr_j (by omega)]; exact exf1.2.2.2.2 i hi)⟩⟩
set_option maxHeartbeats 4000000 in
set_option maxRecDepth 100000 in
theorem C_add_25 {l : Launch} {G : GT} {mi : Nat} {sk : Nat → Nat} {L : List Nat} {cl ln : Nat → Nat} {iv : Nat → Nat → Int} {rv : Nat → Nat → Option Nat}  {a0 : Nat} {x : Nat} (hW : WT (g0 G) sk L cl ln iv rv) (hS : SKL sk L cl) (t_a0 : ty L cl a0 25) (t_x : ty L cl x 20) (hn : iv a0 2 < 6003) : Mc l G mi (Phi (g0 G) sk) PHM yJx4a65c_add_9ea2d cJx4a65c_add_9ea2d 2 (some .boolean) 6 [.ref a0, .ref x] L cl ln iv rv 0 (fun v L2 cl2 ln2 iv2 rv2 => ∃ f : Int, v = some (.int (iI f)) ∧ XT L cl ln L2 cl2 ln2 ∧ fT [25, 1003] L cl iv rv iv2 rv2 ∧ WT (g0 G) sk L2 cl2 ln2 iv2 rv2 ∧ (f = 0 ∨ f = 1) ∧ (iv2 a0 2 = iv a0 2 + 1 ∧ el rv2 a0 (iv a0 2).toNat = some x ∧ ∀ i : Nat, (i : Int) < iv a0 2 → el rv2 a0 i = el rv a0 i)) := by
  refine Mc.mk (by decide) (Nat.le_of_ble_eq_true rfl) ?_
  intro p e s m args below meth c A C hM
  refine hv3 (Phi.le hW hS) (show XT L cl ln L cl ln from XT.refl) (show fT [25, 1003] L cl iv rv iv rv from fT.refl) (fun hph hX0 hF0 => ?_)
  refine c_aload_n (j := 0) (x := a0) C dJx4a65c_add_9ea2d_0 rfl ?_
  refine c_dup C dJx4a65c_add_9ea2d_1 rfl ?_
  have ri1 : (-2147483648) ≤ iv a0 0 ∧ iv a0 0 ≤ 2147483647 := hW.int t_a0 0
  refine c_getU (k := 0) C ck_0 dJx4a65c_add_9ea2d_2 w1_81 w1_82 (by decide) t_a0 rfl rfl (by decide) rfl ?_
  refine c_iconst C dJx4a65c_add_9ea2d_5 ?_
  refine c_iadd C dJx4a65c_add_9ea2d_6 ?_
  obtain ⟨zz1, hzz1, ezz1⟩ := iI_of (iI ((iv a0 0) + 1))
  refine c_st (st2 := [.int (iI zz1), .ref a0]) (by rw [ezz1]) ?_
  refine c_putU (z := zz1) (k := 0) C ck_0 dJx4a65c_add_9ea2d_7 w1_81 w1_82 (by decide) rfl t_a0 rfl rfl (by decide) rfl (by rfl) (by rfl) (fun iv1 pq1 => ?_)
  refine hv2 (hW.puti pq1 t_a0 (show (-2147483648) ≤ zz1 ∧ zz1 ≤ 2147483647 by omega) rfl) (hF0.puti hX0 pq1 t_a0 rfl) (fun W1 F1 => ?_)
  refine c_aload_n (j := 0) (x := a0) C dJx4a65c_add_9ea2d_10 rfl ?_
  refine c_aload_n (j := 1) (x := x) C dJx4a65c_add_9ea2d_11 rfl ?_
  refine c_aload_n (j := 0) (x := a0) C dJx4a65c_add_9ea2d_12 rfl ?_
  refine hv2 (show 0 ≤ iv1 a0 2 ∧ iv1 a0 2 ≤ 6003 from W1.int t_a0 2) (show iv1 a0 2 = iv a0 2 from by rw [pq1]; exact up2_j (by decide)) (fun ri2 ie1 => ?_)
  rcases W1.edc t_a0 rfl rfl with ⟨eq1, zeb1⟩ | ⟨eb1, eq1, teb1, ceb1, zeb1⟩
  · refine c_getr (k := 1) C ck_0 dJx4a65c_add_9ea2d_13 w1_78 (by decide) t_a0 rfl rfl (by decide) rfl eq1 ?_
    refine c_st (st2 := [.ref (g0 G), .ref x, .ref a0]) rfl ?_
    refine c_aload_n (j := 0) (x := a0) C dJx4a65c_add_9ea2d_16 rfl ?_
    refine c_get (k := 2) C ck_0 dJx4a65c_add_9ea2d_17 w1_79 (by decide) t_a0 rfl rfl (by decide) rfl ?_
    refine d_callV (As := [.ref x, .ref (g0 G), .int (iI (iv1 a0 2))]) (rest := []) C hM (C_add3A_25 (a0 := a0) (x := x) (n := iv1 a0 2) W1 hS t_a0 t_x (by omega) eq1 (by show (iv1 a0 2) = iv1 a0 2 ∧ (iv1 a0 2) = 0; omega)) dJx4a65c_add_9ea2d_20 kV_Jx4a65c_131 rfl t_a0 rfl rfl (by decide) ck_0 rfl (Nat.le_of_ble_eq_true rfl) ⟨(Nat.le_of_ble_eq_true rfl), (Nat.le_of_ble_eq_true rfl)⟩ hph hph (show 0 + 0 = 0 from rfl) (by decide) (fun rh1 Lh1 clh1 lnh1 ivh1 rvh1 h1 => ?_)
    obtain ⟨rfl, xl1, fl1, W2, exf1⟩ := h1
    refine hv3 (F1.call hX0 fl1 rfl) (hX0.trans xl1) (xl1.skl hS) (fun F2 X1 sk1 => ?_)
    refine c_st (st2 := []) rfl ?_
    refine hv2 (xl1.ty t_a0) (show ivh1 a0 2 = iv1 a0 2 + 1 ∧ el rvh1 a0 (iv1 a0 2).toNat = some x ∧ ∀ i : Nat, (i : Int) < iv1 a0 2 → el rvh1 a0 i = el rv a0 i from exf1) (fun ty1 gf1 => ?_)
    have ri3 : 0 ≤ ivh1 a0 2 ∧ ivh1 a0 2 ≤ 6003 := W2.int ty1 2
    refine c_iconst C dJx4a65c_add_9ea2d_23 ?_
    have pl1 := Phi.le W2 sk1
    exact c_zret C dJx4a65c_add_9ea2d_24 rfl (Or.inr rfl) (by decide) (rom0 hph pl1 (by decide)) ⟨1, rfl, X1, F2, W2, (Or.inr rfl), ⟨by omega, (by rw [show (iv a0 2).toNat = (iv1 a0 2).toNat by omega]; exact exf1.2.1), fun i hi => exf1.2.2 i (by omega)⟩⟩
  · have lneb1 : 10 ≤ ln eb1 ∧ ln eb1 ≤ 9100 := W1.len teb1 rfl
    refine c_getr (k := 1) C ck_0 dJx4a65c_add_9ea2d_13 w1_78 (by decide) t_a0 rfl rfl (by decide) rfl eq1 ?_
    refine c_st (st2 := [.ref eb1, .ref x, .ref a0]) rfl ?_
    refine c_aload_n (j := 0) (x := a0) C dJx4a65c_add_9ea2d_16 rfl ?_
    refine c_get (k := 2) C ck_0 dJx4a65c_add_9ea2d_17 w1_79 (by decide) t_a0 rfl rfl (by decide) rfl ?_
    refine d_callV (As := [.ref x, .ref eb1, .int (iI (iv1 a0 2))]) (rest := []) C hM (C_add3B_25 (a0 := a0) (x := x) (b0 := eb1) (n := iv1 a0 2) W1 hS t_a0 t_x teb1 (by omega) eq1 ceb1 (by show (iv1 a0 2) = iv1 a0 2 ∧ 0 ≤ (iv1 a0 2) ∧ (iv1 a0 2) ≤ ((ln eb1 : Nat) : Int) ∧ (iv1 a0 2) < 6003; omega)) dJx4a65c_add_9ea2d_20 kV_Jx4a65c_131 rfl t_a0 rfl rfl (by decide) ck_0 rfl (Nat.le_of_ble_eq_true rfl) ⟨(Nat.le_of_ble_eq_true rfl), (Nat.le_of_ble_eq_true rfl)⟩ hph hph (show 0 + 0 = 0 from rfl) (by decide) (fun rh2 Lh2 clh2 lnh2 ivh2 rvh2 h2 => ?_)
    obtain ⟨rfl, xl2, fl2, W3, exf2⟩ := h2
    refine hv3 (F1.call hX0 fl2 rfl) (hX0.trans xl2) (xl2.skl hS) (fun F3 X2 sk2 => ?_)
    refine c_st (st2 := []) rfl ?_
    refine hv2 (xl2.ty t_a0) (show ivh2 a0 2 = iv1 a0 2 + 1 ∧ el rvh2 a0 (iv1 a0 2).toNat = some x ∧ ∀ i : Nat, (i : Int) < iv1 a0 2 → el rvh2 a0 i = el rv a0 i from exf2) (fun ty2 gf2 => ?_)
    have ri4 : 0 ≤ ivh2 a0 2 ∧ ivh2 a0 2 ≤ 6003 := W3.int ty2 2
    refine c_iconst C dJx4a65c_add_9ea2d_23 ?_
    have pl2 := Phi.le W3 sk2
    exact c_zret C dJx4a65c_add_9ea2d_24 rfl (Or.inr rfl) (by decide) (rom0 hph pl2 (by decide)) ⟨1, rfl, X2, F3, W3, (Or.inr rfl), ⟨by omega, (by rw [show (iv a0 2).toNat = (iv1 a0 2).toNat by omega]; exact exf2.2.1), fun i hi => exf2.2.2 i (by omega)⟩⟩
set_option maxHeartbeats 4000000 in
set_option maxRecDepth 100000 in
theorem C_lclear_25 {l : Launch} {G : GT} {mi : Nat} {sk : Nat → Nat} {L : List Nat} {cl ln : Nat → Nat} {iv : Nat → Nat → Int} {rv : Nat → Nat → Option Nat}  {a0 : Nat} (hW : WT (g0 G) sk L cl ln iv rv) (hS : SKL sk L cl) (t_a0 : ty L cl a0 25)  : Mc l G mi (Phi (g0 G) sk) PHM yJx4a65c_clear_da8c8 cJx4a65c_clear_da8c8 4 none 0 [.ref a0] L cl ln iv rv 0 (fun v L2 cl2 ln2 iv2 rv2 => v = none ∧ L = L2 ∧ cl = cl2 ∧ ln = ln2 ∧ fT [25, 1003] L cl iv rv iv2 rv2 ∧ WT (g0 G) sk L2 cl2 ln2 iv2 rv2 ∧ (iv2 a0 2 = 0)) := by
  refine Mc.mk (by decide) (Nat.le_of_ble_eq_true rfl) ?_
  intro p e s m args below meth c A C hM
  refine hv3 (Phi.le hW hS) (show XT L cl ln L cl ln from XT.refl) (show fT [25, 1003] L cl iv rv iv rv from fT.refl) (fun hph hX0 hF0 => ?_)
  refine c_aload_n (j := 0) (x := a0) C dJx4a65c_clear_da8c8_0 rfl ?_
  refine c_dup C dJx4a65c_clear_da8c8_1 rfl ?_
  have ri1 : (-2147483648) ≤ iv a0 0 ∧ iv a0 0 ≤ 2147483647 := hW.int t_a0 0
  refine c_getU (k := 0) C ck_0 dJx4a65c_clear_da8c8_2 w1_81 w1_82 (by decide) t_a0 rfl rfl (by decide) rfl ?_
  refine c_iconst C dJx4a65c_clear_da8c8_5 ?_
  refine c_iadd C dJx4a65c_clear_da8c8_6 ?_
  obtain ⟨zz1, hzz1, ezz1⟩ := iI_of (iI ((iv a0 0) + 1))
  refine c_st (st2 := [.int (iI zz1), .ref a0]) (by rw [ezz1]) ?_
  refine c_putU (z := zz1) (k := 0) C ck_0 dJx4a65c_clear_da8c8_7 w1_81 w1_82 (by decide) rfl t_a0 rfl rfl (by decide) rfl (by rfl) (by rfl) (fun iv1 pq1 => ?_)
  refine hv2 (hW.puti pq1 t_a0 (show (-2147483648) ≤ zz1 ∧ zz1 ≤ 2147483647 by omega) rfl) (hF0.puti hX0 pq1 t_a0 rfl) (fun W1 F1 => ?_)
  refine c_aload_n (j := 0) (x := a0) C dJx4a65c_clear_da8c8_10 rfl ?_
  refine hv2 (show 0 ≤ iv1 a0 2 ∧ iv1 a0 2 ≤ 6003 from W1.int t_a0 2) (show iv1 a0 2 = iv a0 2 from by rw [pq1]; exact up2_j (by decide)) (fun ri2 ie1 => ?_)
  rcases W1.edc t_a0 rfl rfl with ⟨eq1, zeb1⟩ | ⟨eb1, eq1, teb1, ceb1, zeb1⟩
  · refine c_getr (k := 1) C ck_0 dJx4a65c_clear_da8c8_11 w1_78 (by decide) t_a0 rfl rfl (by decide) rfl eq1 ?_
    refine c_st (st2 := [.ref (g0 G)]) rfl ?_
    refine c_astore_n (lv2 := [(1, .ref (g0 G)), (0, .ref a0)]) C dJx4a65c_clear_da8c8_14 (by decide) rfl ?_
    refine c_aload_n (j := 1) (x := a0) C dJx4a65c_clear_da8c8_15 rfl ?_
    refine c_get (k := 2) C ck_0 dJx4a65c_clear_da8c8_16 w1_79 (by decide) t_a0 rfl rfl (by decide) rfl ?_
    refine c_istore_n (lv2 := [(2, .int (iI (iv1 a0 2))), (1, .ref (g0 G)), (0, .ref a0)]) C dJx4a65c_clear_da8c8_19 (by decide) rfl ?_
    refine c_aload_n (j := 2) (x := a0) C dJx4a65c_clear_da8c8_20 rfl ?_
    refine c_iconst C dJx4a65c_clear_da8c8_21 ?_
    refine c_dup_x1 C dJx4a65c_clear_da8c8_22 rfl rfl ?_
    refine c_put (z := 0) (k := 2) C ck_0 dJx4a65c_clear_da8c8_23 w1_79 (by decide) rfl t_a0 rfl rfl (by decide) rfl (by rfl) (by rfl) (fun iv2 pq2 => ?_)
    refine hv2 (W1.lsz pq2 t_a0 rfl (show 0 ≤ 0 ∧ 0 ≤ iv1 a0 2 by omega)) (F1.puti hX0 pq2 t_a0 rfl) (fun W2 F2 => ?_)
    refine c_istore_n (lv2 := [(3, .int (iI 0)), (2, .int (iI (iv1 a0 2))), (1, .ref (g0 G)), (0, .ref a0)]) C dJx4a65c_clear_da8c8_26 (by decide) rfl ?_
    refine c_iload_n (j := 0) C dJx4a65c_clear_da8c8_27 rfl ?_
    refine c_iload_n (j := 1) C dJx4a65c_clear_da8c8_28 rfl ?_
    refine c_icmp_ge (tgt := 42) C ⟨by decide, by decide⟩ (r32_c (lo := 0) (hi := 6003) ri2.1 ri2.2 (by decide) (by decide)) dJx4a65c_clear_da8c8_29 (by decide) (fun _ => ?_) (fun z => absurd z (by omega))
    refine hv2 (show 0 ≤ iv2 a0 2 ∧ iv2 a0 2 ≤ 6003 from W2.int t_a0 2) (show iv2 a0 2 = 0 from by rw [pq2]; exact up2_s) (fun ri3 ie2 => ?_)
    exact c_vret C dJx4a65c_clear_da8c8_42 rfl (by decide) (rom0 hph hph (by decide)) ⟨rfl, rfl, rfl, rfl, F2, W2, (by omega)⟩
  · have lneb1 : 10 ≤ ln eb1 ∧ ln eb1 ≤ 9100 := W1.len teb1 rfl
    refine c_getr (k := 1) C ck_0 dJx4a65c_clear_da8c8_11 w1_78 (by decide) t_a0 rfl rfl (by decide) rfl eq1 ?_
    refine c_st (st2 := [.ref eb1]) rfl ?_
    refine c_astore_n (lv2 := [(1, .ref eb1), (0, .ref a0)]) C dJx4a65c_clear_da8c8_14 (by decide) rfl ?_
    refine c_aload_n (j := 1) (x := a0) C dJx4a65c_clear_da8c8_15 rfl ?_
    refine c_get (k := 2) C ck_0 dJx4a65c_clear_da8c8_16 w1_79 (by decide) t_a0 rfl rfl (by decide) rfl ?_
    refine c_istore_n (lv2 := [(2, .int (iI (iv1 a0 2))), (1, .ref eb1), (0, .ref a0)]) C dJx4a65c_clear_da8c8_19 (by decide) rfl ?_
    refine c_aload_n (j := 2) (x := a0) C dJx4a65c_clear_da8c8_20 rfl ?_
    refine c_iconst C dJx4a65c_clear_da8c8_21 ?_
    refine c_dup_x1 C dJx4a65c_clear_da8c8_22 rfl rfl ?_
    refine c_put (z := 0) (k := 2) C ck_0 dJx4a65c_clear_da8c8_23 w1_79 (by decide) rfl t_a0 rfl rfl (by decide) rfl (by rfl) (by rfl) (fun iv3 pq3 => ?_)
    refine hv2 (W1.lsz pq3 t_a0 rfl (show 0 ≤ 0 ∧ 0 ≤ iv1 a0 2 by omega)) (F1.puti hX0 pq3 t_a0 rfl) (fun W3 F3 => ?_)
    refine c_istore_n (lv2 := [(3, .int (iI 0)), (2, .int (iI (iv1 a0 2))), (1, .ref eb1), (0, .ref a0)]) C dJx4a65c_clear_da8c8_26 (by decide) rfl ?_
    have Lp1 : ∀ (nn : Nat) (k : Int) (ivb1 : Nat → Nat → Int) (rvb1 : Nat → Nat → Option Nat) , 6004 - k < (nn : Int) → WT (g0 G) sk L cl ln ivb1 rvb1 → fT [25, 1003] L cl iv rv ivb1 rvb1 → (0 ≤ k ∧ k ≤ 6003) → (ivb1 a0 2 = 0) → cw p l e 0 ((PHM) + 0 - ((Phi (g0 G) sk) ln rv)) s m args below meth c G A 4 (MQ below (Qu G A (Qp G (Phi (g0 G) sk) ((Phi (g0 G) sk) ln rv) 0 (fun v L2 cl2 ln2 iv2 rv2 => v = none ∧ L = L2 ∧ cl = cl2 ∧ ln = ln2 ∧ fT [25, 1003] L cl iv rv iv2 rv2 ∧ WT (g0 G) sk L2 cl2 ln2 iv2 rv2 ∧ (iv2 a0 2 = 0)))) args s (((PHM) + 0 - ((Phi (g0 G) sk) ln rv)) / 16) ((PHM) + 0 - ((Phi (g0 G) sk) ln rv)) A) (Phi (g0 G) sk) ((Phi (g0 G) sk) ln rv) L cl ln ivb1 rvb1 0 27 [(3, .int (iI k)), (2, .int (iI (iv1 a0 2))), (1, .ref eb1), (0, .ref a0)] [] := by
      intro nn
      induction nn with
      | zero =>
        intro  k ivb1 rvb1 hm Wb1 Fb1  hk hz
        exact absurd hm (by omega)
      | succ nn ih1 =>
        intro  k ivb1 rvb1 hm Wb1 Fb1  hk hz
        refine c_iload_n (j := 0) C dJx4a65c_clear_da8c8_27 rfl ?_
        refine c_iload_n (j := 1) C dJx4a65c_clear_da8c8_28 rfl ?_
        refine c_icmp_ge (tgt := 42) C (r32_c (lo := 0) (hi := 6003) hk.1 hk.2 (by decide) (by decide)) ⟨by omega, by omega⟩ dJx4a65c_clear_da8c8_29 (by decide) (fun c1 => ?_) (fun c1 => ?_)
        · have ri4 : 0 ≤ ivb1 a0 2 ∧ ivb1 a0 2 ≤ 6003 := Wb1.int t_a0 2
          have pl1 := Phi.le Wb1 hS
          exact c_vret C dJx4a65c_clear_da8c8_42 rfl (by decide) (rom0 hph pl1 (by decide)) ⟨rfl, rfl, rfl, rfl, Fb1, Wb1, (by omega)⟩
        · refine c_aload_n (j := 2) (x := eb1) C dJx4a65c_clear_da8c8_32 rfl ?_
          refine c_iload_n (j := 0) C dJx4a65c_clear_da8c8_33 rfl ?_
          refine c_null C dJx4a65c_clear_da8c8_34 ?_
          have ll1 : 10 ≤ ln eb1 ∧ ln eb1 ≤ 9100 := Wb1.len teb1 rfl
          refine c_aastNO (z := k) C dJx4a65c_clear_da8c8_35 teb1 rfl (by omega) (by omega) (by omega) (fun rv1 pq4 => ⟨0, (by rw [Phi.putr hS pq4 teb1 rfl]; exact Nat.le_refl _), ?_⟩)
          refine hv2 (show 0 ≤ ivb1 a0 2 ∧ ivb1 a0 2 ≤ 6003 from Wb1.int t_a0 2) (Fb1.putr hX0 pq4 teb1 rfl) (fun ri5 F4 => ?_)
          have W4 := Wb1.lnull (a := a0) (k := 3) pq4 teb1 (by decide) rfl ceb1 (by decide) (show ivb1 a0 2 ≤ ((k.toNat : Nat) : Int) by omega)
          refine c_iinc (z := k) (j := 0) (lv2 := [(3, .int (iI (k + 1))), (2, .int (iI (iv1 a0 2))), (1, .ref eb1), (0, .ref a0)]) C dJx4a65c_clear_da8c8_36 rfl (by decide) rfl ?_
          refine c_goto (tgt := 27) C dJx4a65c_clear_da8c8_39 (by decide) ?_
          refine c_lv (lv2 := [(3, .int (iI (k + 1))), (2, .int (iI (iv1 a0 2))), (1, .ref eb1), (0, .ref a0)]) [0, 1, 2, 3] rfl ?_
          exact ih1  (k + 1) _ _ (by omega) W4 F4  (by omega) hz
    refine hv2 (show 0 ≤ iv3 a0 2 ∧ iv3 a0 2 ≤ 6003 from W3.int t_a0 2) (show iv3 a0 2 = 0 from by rw [pq3]; exact up2_s) (fun ri6 ie5 => ?_)
    refine c_lv (lv2 := [(3, .int (iI 0)), (2, .int (iI (iv1 a0 2))), (1, .ref eb1), (0, .ref a0)]) [0, 1, 2, 3] rfl ?_
    exact Lp1 6006 0 _ _ (by omega) W3 F3  (by omega) ie5
set_option maxHeartbeats 4000000 in
set_option maxRecDepth 100000 in
theorem Z_copyO3_26 {l : Launch} {G : GT} {mi : Nat} {sk : Nat → Nat} {L : List Nat} {cl ln : Nat → Nat} {iv : Nat → Nat → Int} {rv : Nat → Nat → Option Nat}  {a0 : Nat} {n : Int} (hW : WT (g0 G) sk L cl ln iv rv) (hS : SKL sk L cl) (t_a0 : ty L cl a0 1004) (h_n : -2147483648 ≤ n ∧ n ≤ 2147483647) (hn : ((ln a0 : Nat) : Int) < n ∧ 10 ≤ n ∧ n ≤ 400) : Mc l G mi zPf 0 yJ7_copyOf_6403c cJ7_copyOf_6403c 4 (some (.array (.object "java/lang/Object"))) 1 [.ref a0, .int (iI n), .ref mi] L cl ln iv rv (16 + n.toNat) (fun v L2 cl2 ln2 iv2 rv2 => ∃ f : Nat, v = some (.ref f) ∧ XT L cl ln L2 cl2 ln2 ∧ fT [1004] L cl iv rv iv2 rv2 ∧ WT (g0 G) sk L2 cl2 ln2 iv2 rv2 ∧ ty L2 cl2 f 1004 ∧ (ln2 f = n.toNat ∧ cl2 f = cl a0 ∧ ∀ i : Nat, i < ln a0 → rv2 f i = rv a0 i) ∧ (∀ bb, ty L cl bb 1004 → ∀ k, rv2 bb k = rv bb k)) := by
  refine Mc.mk (by decide) (Nat.le_of_ble_eq_true rfl) ?_
  intro p e s m args below meth c A C hM
  refine hv3 ((show zPf ln rv ≤ 0 from Nat.le_refl 0)) (show XT L cl ln L cl ln from XT.refl) (show fT [1004] L cl iv rv iv rv from fT.refl) (fun hph hX0 hF0 => ?_)
  refine c_aload_n (j := 2) (x := mi) C dJ7_copyOf_6403c_0 rfl ?_
  refine c_ldcM C hM dJ7_copyOf_6403c_1 w3_29 ?_
  refine c_acmp_ne (rx := some mi) (ry := some mi) (tgt := 13) C dJ7_copyOf_6403c_3 (by decide) (fun q => absurd rfl q) (fun _ => ?_)
  refine c_iload_n (j := 1) C dJ7_copyOf_6403c_6 rfl ?_
  refine c_newaO (z := n) (N := n.toNat) C (cl a0) dJ7_copyOf_6403c_7 w3_31 w3_30t (by rw [t_a0.2]; rfl) (by omega) (by omega) (rom2 hph hph (by omega)) (fun qn1 cln1 lnn1 ivn1 rvn1 hqn1 hcn1 hln1 hin1 hrn1 => ⟨(0 + (16 + n.toNat)), (z_in (by omega)), ?_⟩)
  refine c_g0 C (fun hg1 => ?_)
  refine hv5 (show ∀ b, b ≠ qn1 → lnn1 b = ln b from (fun b hb => by rw [hln1]; exact va_up_ne _ _ hb)) (show lnn1 qn1 = n.toNat from by rw [hln1]; exact va_up_self _ _ _) (hF0.new hX0 hqn1 hin1 hrn1) (show ty (L ++ [qn1]) cln1 qn1 1004 from ⟨List.mem_append_right _ List.mem_cons_self, by rw [hcn1, va_up_self]; exact t_a0.2⟩) (show cln1 qn1 = (cl a0) from by rw [hcn1]; exact va_up_self _ _ _) (fun hxn1 lqn1 F1 tqn1 clqn1 => ?_)
  refine hv2 (hW.new (ln2 := lnn1) hqn1 (hg1 qn1 (List.mem_append_right _ List.mem_cons_self)) hcn1 hxn1 hin1 hrn1 (fun _ => by rw [t_a0.2]; exact ⟨(show (-2147483648 : Int) ≤ 0 by decide), (show (0 : Int) ≤ 2147483647 by decide)⟩) (Or.inr (fun _ => by rw [t_a0.2]; rfl)) (fun _ => by rw [t_a0.2]; show 10 ≤ lnn1 qn1 ∧ lnn1 qn1 ≤ 400; omega) (by rw [t_a0.2]; rfl) (uq_big (by rw [t_a0.2]; decide))) (XT.new hqn1 hcn1 hxn1) (fun W1 xl1 => ?_)
  refine hv2 (hX0.trans xl1) (xl1.skl hS) (fun X1 sk1 => ?_)
  refine c_goto (tgt := 24) C dJ7_copyOf_6403c_10 (by decide) ?_
  refine c_astore_n (lv2 := [(3, .ref qn1), (0, .ref a0), (1, .int (iI n)), (2, .ref mi)]) C dJ7_copyOf_6403c_24 (by decide) rfl ?_
  refine c_aload_n (j := 1) (x := a0) C dJ7_copyOf_6403c_25 rfl ?_
  refine c_iconst C dJ7_copyOf_6403c_26 ?_
  refine c_aload_n (j := 0) (x := qn1) C dJ7_copyOf_6403c_27 rfl ?_
  refine c_iconst C dJ7_copyOf_6403c_28 ?_
  refine c_aload_n (j := 1) (x := a0) C dJ7_copyOf_6403c_29 rfl ?_
  have ty1 := xl1.ty t_a0
  have ll1 : 10 ≤ lnn1 a0 ∧ lnn1 a0 ≤ 400 := W1.len ty1 rfl
  refine c_alenO C dJ7_copyOf_6403c_30 ty1 rfl ?_
  refine c_iload_n (j := 2) C dJ7_copyOf_6403c_31 rfl ?_
  obtain ⟨mn1, hmn1, emn1⟩ := mmin_c (x := ((lnn1 a0 : Nat) : Int)) (y := n) ⟨by omega, by omega⟩ ⟨by omega, by omega⟩
  refine c_mmin (w := iI mn1) C dJ7_copyOf_6403c_32 w2_128 w2_129 w1_14 w2_130 (by decide) (rom0 hph (Nat.le_refl 0) (by omega)) (Nat.le_of_ble_eq_true rfl) emn1 ?_
  have le1 : lnn1 a0 = ln a0 := (xl1 a0 t_a0.1).2.2
  refine c_copyq (n := mn1) C ck_6 w8_185t dJ7_copyOf_6403c_35 w2_131 w2_133 w2_132 w1_15 ty1 rfl tqn1 rfl (fun i y hy => by
      rcases W1.opt ty1 i rfl rfl with qq | ⟨bb, q1, q2⟩
      · rw [qq.1] at hy; cases hy
      · rw [q1] at hy; cases hy; exact q2) rfl rfl (by decide) (by omega) (by omega) (by omega) (by omega) (by decide) (Nat.le_of_ble_eq_true rfl) (fun rv1 cq1 => ⟨(0 + (16 + n.toNat)), (zp2 (Nat.le_refl _)), ?_⟩)
  have hno : ∀ w ∈ (L ++ [qn1]), lst (bt (cln1 w)) = true → rvn1 w 1 ≠ some qn1 := by
    intro w hw hl3 e3
    rcases List.mem_append.mp hw with e4 | e4
    · have hwq : w ≠ qn1 := fun e => hqn1 (e ▸ e4)
      rw [hcn1, va_up_ne _ _ hwq] at hl3
      rw [hrn1, up0_a hwq] at e3
      rcases WT.ed hW e4 (lst_szd hl3) e3 with e5 | e5
      · exact hqn1 e5
      · exact hg1 qn1 tqn1.1 e5
    · have e5 := List.mem_singleton.mp e4
      rw [e5, tqn1.2] at hl3; cases hl3
  refine hv2 (W1.copyr (TB2 := 0) cq1 tqn1 ty1 (by decide) (fun _ _ => rfl) (fun _ => rfl) hno) (F1.copyr X1 cq1 tqn1 rfl) (fun W2 F2 => ?_)
  refine c_aload_n (j := 0) (x := qn1) C dJ7_copyOf_6403c_38 rfl ?_
  exact c_aret (x := some qn1) C dJ7_copyOf_6403c_39 rfl (Or.inr ⟨_, rfl⟩) (by omega) (rom0 hph (Nat.le_refl 0) (by omega)) ⟨qn1, rfl, X1, F2, W2, tqn1, ⟨by omega, clqn1, fun i hi => by
      rw [cq1]
      show (if qn1 = qn1 then _ else _) = rv a0 i
      rw [if_pos rfl, if_pos (by omega), hrn1]
      exact congrFun (up0_a (ne_in t_a0.1 hqn1)) i⟩, (fun bb tbb kk => by have tb1 := xl1.ty tbb; exact (Eq.trans (show rv1 bb kk = rvn1 bb kk from (by rw [cq1]; exact if_neg (ne_in tbb.1 hqn1))) (show rvn1 bb kk = rv bb kk from (by rw [hrn1]; exact congrFun (up0_a (ne_in tbb.1 hqn1)) _))))⟩
set_option maxHeartbeats 4000000 in
set_option maxRecDepth 100000 in
theorem Z_copyO2_26 {l : Launch} {G : GT} {mi : Nat} {sk : Nat → Nat} {L : List Nat} {cl ln : Nat → Nat} {iv : Nat → Nat → Int} {rv : Nat → Nat → Option Nat}  {a0 : Nat} {n : Int} (hW : WT (g0 G) sk L cl ln iv rv) (hS : SKL sk L cl) (t_a0 : ty L cl a0 1004) (h_n : -2147483648 ≤ n ∧ n ≤ 2147483647) (hn : ((ln a0 : Nat) : Int) < n ∧ 10 ≤ n ∧ n ≤ 400) : Mc l G mi zPf 0 yJ7_copyOf_1904c cJ7_copyOf_1904c 2 (some (.array (.object "java/lang/Object"))) 2 [.ref a0, .int (iI n)] L cl ln iv rv (16 + n.toNat) (fun v L2 cl2 ln2 iv2 rv2 => ∃ f : Nat, v = some (.ref f) ∧ XT L cl ln L2 cl2 ln2 ∧ fT [1004] L cl iv rv iv2 rv2 ∧ WT (g0 G) sk L2 cl2 ln2 iv2 rv2 ∧ ty L2 cl2 f 1004 ∧ (ln2 f = n.toNat ∧ cl2 f = cl a0 ∧ ∀ i : Nat, i < ln a0 → rv2 f i = rv a0 i) ∧ (∀ bb, ty L cl bb 1004 → ∀ k, rv2 bb k = rv bb k)) := by
  refine Mc.mk (by decide) (Nat.le_of_ble_eq_true rfl) ?_
  intro p e s m args below meth c A C hM
  refine hv3 ((show zPf ln rv ≤ 0 from Nat.le_refl 0)) (show XT L cl ln L cl ln from XT.refl) (show fT [1004] L cl iv rv iv rv from fT.refl) (fun hph hX0 hF0 => ?_)
  refine c_aload_n (j := 0) (x := a0) C dJ7_copyOf_1904c_0 rfl ?_
  refine c_iload_n (j := 1) C dJ7_copyOf_1904c_1 rfl ?_
  refine c_aload_n (j := 0) (x := a0) C dJ7_copyOf_1904c_2 rfl ?_
  refine c_getC C hM dJ7_copyOf_1904c_3 w3_8 w8_172 w3_9 w3_25 t_a0 rfl (by decide) (Nat.le_of_ble_eq_true rfl) ?_
  refine c_callS (As := [.ref a0, .int (iI n), .ref mi]) (rest := []) C hM (Z_copyO3_26 (a0 := a0) (n := n) hW hS t_a0 (by omega) (by show ((ln a0 : Nat) : Int) < n ∧ 10 ≤ n ∧ n ≤ 400; omega)) dJ7_copyOf_1904c_6 kS_J7_300 rfl rfl (Nat.le_of_ble_eq_true rfl) ⟨(Nat.le_of_ble_eq_true rfl), (Nat.le_of_ble_eq_true rfl)⟩ (rz0 hph (by omega)) (fun rh1 Lh1 clh1 lnh1 ivh1 rvh1 h1 => ⟨(0 + (16 + n.toNat)), zk0, ?_⟩)
  obtain ⟨f1, rfl, xl1, fl1, W1, rgf1, exf1, ocpf1⟩ := h1
  refine hv3 (hF0.call hX0 fl1 rfl) (hX0.trans xl1) (xl1.skl hS) (fun F1 X1 sk1 => ?_)
  refine c_st (st2 := [.ref f1]) rfl ?_
  have gf1 : lnh1 f1 = n.toNat ∧ clh1 f1 = cl a0 ∧ ∀ i : Nat, i < ln a0 → rvh1 f1 i = rv a0 i := exf1
  exact c_aret (x := some f1) C dJ7_copyOf_1904c_9 rfl (Or.inr ⟨_, rfl⟩) (by omega) (rom0 hph (Nat.le_refl 0) (by omega)) ⟨f1, rfl, X1, F1, W1, rgf1, exf1, (fun bb tbb kk => by exact (show rvh1 bb kk = rv bb kk from (ocpf1 bb tbb kk)))⟩
set_option maxHeartbeats 4000000 in
set_option maxRecDepth 100000 in
theorem C_growA_26 {l : Launch} {G : GT} {mi : Nat} {sk : Nat → Nat} {L : List Nat} {cl ln : Nat → Nat} {iv : Nat → Nat → Int} {rv : Nat → Nat → Option Nat}  {a0 : Nat} {n : Int} (hW : WT (g0 G) sk L cl ln iv rv) (hS : SKL sk L cl) (t_a0 : ty L cl a0 26) (h_n : -2147483648 ≤ n ∧ n ≤ 2147483647) (hed : rv a0 1 = some (g0 G)) (hn : n = 1 ∧ iv a0 2 = 0) : Mc l G mi (Phi (g0 G) sk) PHM yJx4a65c_grow_92f84 cJx4a65c_grow_92f84 4 (some (.array (.object "java/lang/Object"))) 3 [.ref a0, .int (iI n)] L cl ln iv rv 420 (fun v L2 cl2 ln2 iv2 rv2 => ∃ f : Nat, v = some (.ref f) ∧ XT L cl ln L2 cl2 ln2 ∧ fT [26, 1004] L cl iv rv iv2 rv2 ∧ WT (g0 G) sk L2 cl2 ln2 iv2 rv2 ∧ ty L2 cl2 f 1004 ∧ (rv2 a0 1 = some f ∧ iv2 a0 2 = iv a0 2 ∧ iv a0 2 + 1 ≤ ((ln2 f : Nat) : Int) ∧ cl2 f = 1000 + 5 * a0 + 4 ∧ ∀ i : Nat, (i : Int) < iv a0 2 → rv2 f i = el rv a0 i) ∧ (∀ bb, ty L cl bb 26 → bb ≠ a0 → iv2 bb 2 = iv bb 2 ∧ ∀ r : Nat, (r : Int) < iv bb 2 → el rv2 bb r = el rv bb r)) := by
  refine Mc.mk (by decide) (Nat.le_of_ble_eq_true rfl) ?_
  intro p e s m args below meth c A C hM
  refine hv3 (Phi.le hW hS) (show XT L cl ln L cl ln from XT.refl) (show fT [26, 1004] L cl iv rv iv rv from fT.refl) (fun hph hX0 hF0 => ?_)
  refine c_aload_n (j := 0) (x := a0) C dJx4a65c_grow_92f84_0 rfl ?_
  refine c_getr (k := 1) C ck_0 dJx4a65c_grow_92f84_1 w1_78 (by decide) t_a0 rfl rfl (by decide) rfl hed ?_
  refine c_st (st2 := [.ref (g0 G)]) rfl ?_
  refine c_tlen C dJx4a65c_grow_92f84_4 ?_
  refine c_istore_n (lv2 := [(2, .int (iI 0)), (0, .ref a0), (1, .int (iI n))]) C dJx4a65c_grow_92f84_5 (by decide) rfl ?_
  refine c_iload_n (j := 0) C dJx4a65c_grow_92f84_6 rfl ?_
  refine c_if_gt (tgt := 20) C ⟨by decide, by decide⟩ dJx4a65c_grow_92f84_7 (by decide) (fun z => absurd z (by omega)) (fun _ => ?_)
  refine c_aload_n (j := 1) (x := a0) C dJx4a65c_grow_92f84_10 rfl ?_
  refine c_getr (k := 1) C ck_0 dJx4a65c_grow_92f84_11 w1_78 (by decide) t_a0 rfl rfl (by decide) rfl hed ?_
  refine c_st (st2 := [.ref (g0 G)]) rfl ?_
  refine c_gets C dJx4a65c_grow_92f84_14 w1_76 ?_
  refine c_acmp_eq (rx := some (g0 G)) (ry := some (g0 G)) (tgt := 45) C dJx4a65c_grow_92f84_17 (by decide) (fun _ => ?_) (fun q => absurd rfl q)
  refine c_aload_n (j := 1) (x := a0) C dJx4a65c_grow_92f84_45 rfl ?_
  refine c_bipush (z := 10) C dJx4a65c_grow_92f84_46 (by decide) ?_
  refine c_iload_n (j := 2) C dJx4a65c_grow_92f84_48 rfl ?_
  obtain ⟨mn1, hmn1, emn1⟩ := mmax_c (x := 10) (y := n) ⟨by decide, by decide⟩ ⟨by omega, by omega⟩
  refine c_mmax (w := iI mn1) C dJx4a65c_grow_92f84_49 w3_32 w2_148 w1_14 w2_149 (by decide) (rom0 hph hph (by decide)) (Nat.le_of_ble_eq_true rfl) emn1 ?_
  refine c_newaO (z := mn1) (N := 10) C (1000 + 5 * a0 + 4) dJx4a65c_grow_92f84_52 w3_33 w3_30t (by rw [(bt_list (by decide))]; rfl) (by omega) (by omega) (rom2 hph hph (by omega)) (fun qn1 cln1 lnn1 ivn1 rvn1 hqn1 hcn1 hln1 hin1 hrn1 => ⟨(0 + (16 + 10)), (p_in (Phi.new hW hS hqn1 (fun b hb => by rw [hln1]; exact va_up_ne _ _ hb) hrn1) (by omega)), ?_⟩)
  refine c_g0 C (fun hg1 => ?_)
  refine hv5 (show ∀ b, b ≠ qn1 → lnn1 b = ln b from (fun b hb => by rw [hln1]; exact va_up_ne _ _ hb)) (show lnn1 qn1 = 10 from by rw [hln1]; exact va_up_self _ _ _) (hF0.new hX0 hqn1 hin1 hrn1) (show ty (L ++ [qn1]) cln1 qn1 1004 from ⟨List.mem_append_right _ List.mem_cons_self, by rw [hcn1, va_up_self]; exact (bt_list (by decide))⟩) (show cln1 qn1 = (1000 + 5 * a0 + 4) from by rw [hcn1]; exact va_up_self _ _ _) (fun hxn1 lqn1 F1 tqn1 clqn1 => ?_)
  refine hv2 (hW.new (ln2 := lnn1) hqn1 (hg1 qn1 (List.mem_append_right _ List.mem_cons_self)) hcn1 hxn1 hin1 hrn1 (fun _ => by rw [(bt_list (by decide))]; exact ⟨(show (-2147483648 : Int) ≤ 0 by decide), (show (0 : Int) ≤ 2147483647 by decide)⟩) (Or.inr (fun _ => by rw [(bt_list (by decide))]; rfl)) (fun _ => by rw [(bt_list (by decide))]; show 10 ≤ lnn1 qn1 ∧ lnn1 qn1 ≤ 400; omega) (by rw [(bt_list (by decide))]; rfl) (uq_big (by rw [(bt_list (by decide))]; decide))) (XT.new hqn1 hcn1 hxn1) (fun W1 xl1 => ?_)
  refine hv2 (hX0.trans xl1) (xl1.skl hS) (fun X1 sk1 => ?_)
  refine c_dup_x1 C dJx4a65c_grow_92f84_55 rfl rfl ?_
  refine hv2 (xl1.ty t_a0) (show rvn1 a0 1 = rv a0 1 from (by rw [hrn1]; exact congrFun (up0_a (ne_in t_a0.1 hqn1)) _)) (fun ty1 re1 => ?_)
  rw [hed] at re1
  refine hv2 (show 0 ≤ ivn1 a0 2 ∧ ivn1 a0 2 ≤ 200 from W1.int ty1 2) (show ivn1 a0 2 = iv a0 2 from by rw [hin1]; exact congrFun (up0_a (ne_in t_a0.1 hqn1)) _) (fun ri1 ie1 => ?_)
  refine c_putr (x := (some qn1)) (k := 1) C ck_0 dJx4a65c_grow_92f84_56 w1_78 (by decide) rfl ty1 rfl rfl (by decide) rfl (by rfl) (by rfl) (fun rv1 pq1 => ⟨420, (by rw [Phi.putr sk1 pq1 ty1 rfl]; omega), ?_⟩)
  refine hv3 (W1.led pq1 ty1 rfl tqn1.1 clqn1 (by omega) (fun i hi => absurd hi (by omega))) (F1.putr X1 pq1 ty1 rfl) (show rv1 a0 1 = (some qn1) from by rw [pq1]; exact upr_s) (fun W2 F2 rp1 => ?_)
  have pl1 := Phi.le W2 sk1
  exact c_aret (x := some qn1) C dJx4a65c_grow_92f84_59 rfl (Or.inr ⟨_, rfl⟩) (by decide) (rom0 hph pl1 (by decide)) ⟨qn1, rfl, X1, F2, W2, tqn1, ⟨rp1, (by omega), (by omega), clqn1, (fun i hi => absurd hi (by omega))⟩, (fun bb tbb hbb => by
      refine hv3 (show ivn1 bb 2 = iv bb 2 from (by rw [hin1]; exact congrFun (up0_a (ne_in tbb.1 hqn1)) 2)) (show ∀ r : Nat, (r : Int) < iv bb 2 → el rvn1 bb r = el rv bb r from fun r hr => el_kp hW tbb (by rw [hrn1]; exact congrFun (up0_a (ne_in tbb.1 hqn1)) 1) (fun c tc _ j => by rw [hrn1]; exact congrFun (up0_a (ne_in tc.1 hqn1)) j) hr) (xl1.ty tbb) (fun z1_ e1_ tb1 => ?_)
      have e2_ : ∀ r : Nat, (r : Int) < iv bb 2 → el rv1 bb r = el rv bb r := fun r hr => Eq.trans (el_kp W1 tb1 (by rw [pq1]; exact congrFun (upr_a hbb) 1) (fun c tc _ j => by rw [pq1]; exact congrFun (upr_a (ne_ty tc ty1 (by decide))) j) (by rw [z1_]; exact hr)) (e1_ r hr)
      exact ⟨z1_, e2_⟩)⟩
set_option maxHeartbeats 4000000 in
set_option maxRecDepth 100000 in
theorem C_growB_26 {l : Launch} {G : GT} {mi : Nat} {sk : Nat → Nat} {L : List Nat} {cl ln : Nat → Nat} {iv : Nat → Nat → Int} {rv : Nat → Nat → Option Nat}  {a0 : Nat} {n : Int} {b0 : Nat} (hW : WT (g0 G) sk L cl ln iv rv) (hS : SKL sk L cl) (t_a0 : ty L cl a0 26) (t_b0 : ty L cl b0 1004) (h_n : -2147483648 ≤ n ∧ n ≤ 2147483647) (hed : rv a0 1 = some b0) (hcb : cl b0 = 1000 + 5 * a0 + 4) (hn : n = iv a0 2 + 1 ∧ iv a0 2 = ((ln b0 : Nat) : Int) ∧ iv a0 2 < 200) : Mc l G mi (Phi (g0 G) sk) PHM yJx4a65c_grow_92f84 cJx4a65c_grow_92f84 4 (some (.array (.object "java/lang/Object"))) 3 [.ref a0, .int (iI n)] L cl ln iv rv 420 (fun v L2 cl2 ln2 iv2 rv2 => ∃ f : Nat, v = some (.ref f) ∧ XT L cl ln L2 cl2 ln2 ∧ fT [26, 1004] L cl iv rv iv2 rv2 ∧ WT (g0 G) sk L2 cl2 ln2 iv2 rv2 ∧ ty L2 cl2 f 1004 ∧ (rv2 a0 1 = some f ∧ iv2 a0 2 = iv a0 2 ∧ iv a0 2 + 1 ≤ ((ln2 f : Nat) : Int) ∧ cl2 f = 1000 + 5 * a0 + 4 ∧ ∀ i : Nat, (i : Int) < iv a0 2 → rv2 f i = el rv a0 i) ∧ (∀ bb, ty L cl bb 26 → bb ≠ a0 → iv2 bb 2 = iv bb 2 ∧ ∀ r : Nat, (r : Int) < iv bb 2 → el rv2 bb r = el rv bb r)) := by
  refine Mc.mk (by decide) (Nat.le_of_ble_eq_true rfl) ?_
  intro p e s m args below meth c A C hM
  refine hv3 (Phi.le hW hS) (show XT L cl ln L cl ln from XT.refl) (show fT [26, 1004] L cl iv rv iv rv from fT.refl) (fun hph hX0 hF0 => ?_)
  refine c_aload_n (j := 0) (x := a0) C dJx4a65c_grow_92f84_0 rfl ?_
  refine c_getr (k := 1) C ck_0 dJx4a65c_grow_92f84_1 w1_78 (by decide) t_a0 rfl rfl (by decide) rfl hed ?_
  refine c_st (st2 := [.ref b0]) rfl ?_
  have ll1 : 10 ≤ ln b0 ∧ ln b0 ≤ 400 := hW.len t_b0 rfl
  refine c_alenO C dJx4a65c_grow_92f84_4 t_b0 rfl ?_
  refine c_istore_n (lv2 := [(2, .int (iI ((ln b0 : Nat) : Int))), (0, .ref a0), (1, .int (iI n))]) C dJx4a65c_grow_92f84_5 (by decide) rfl ?_
  refine c_iload_n (j := 0) C dJx4a65c_grow_92f84_6 rfl ?_
  refine c_if_gt (tgt := 20) C ⟨by omega, by omega⟩ dJx4a65c_grow_92f84_7 (by decide) (fun _ => ?_) (fun z => absurd z (by omega))
  refine c_iload_n (j := 0) C dJx4a65c_grow_92f84_20 rfl ?_
  refine c_iload_n (j := 2) C dJx4a65c_grow_92f84_21 rfl ?_
  refine c_iload_n (j := 0) C dJx4a65c_grow_92f84_22 rfl ?_
  refine c_isub C dJx4a65c_grow_92f84_23 ?_
  refine c_iload_n (j := 0) C dJx4a65c_grow_92f84_24 rfl ?_
  refine c_iconst C dJx4a65c_grow_92f84_25 ?_
  obtain ⟨zz1, hzz1, ezz1⟩ := iI_of (iI ((ln b0 : Nat) : Int) >>> (iI 1 &&& 31))
  refine c_ishr (w := iI zz1) C dJx4a65c_grow_92f84_26 ezz1 ?_
  have shzz1 : zz1 = ((ln b0 : Nat) : Int) / 2 := (iI_eq hzz1 ⟨by omega, by omega⟩).mp (ezz1.symm.trans (shr1 ⟨by omega, by omega⟩))
  refine d_callS (As := [.int (iI ((ln b0 : Nat) : Int)), .int (iI (n - ((ln b0 : Nat) : Int))), .int (iI zz1)]) (rest := []) C hM (C_newLength (i := ((ln b0 : Nat) : Int)) (n := n - ((ln b0 : Nat) : Int)) (x := zz1) hW hS  (by omega) (by omega) (by omega) (by show 0 ≤ ((ln b0 : Nat) : Int) ∧ ((ln b0 : Nat) : Int) ≤ 100000 ∧ 1 ≤ (n - ((ln b0 : Nat) : Int)) ∧ (n - ((ln b0 : Nat) : Int)) ≤ 100000 ∧ 0 ≤ zz1 ∧ zz1 ≤ 100000; omega)) dJx4a65c_grow_92f84_27 kS_Jx4a65c_73 rfl rfl (Nat.le_of_ble_eq_true rfl) ⟨(Nat.le_of_ble_eq_true rfl), (Nat.le_of_ble_eq_true rfl)⟩ hph hph (show 0 + 0 = 0 from rfl) (by decide) (fun rh1 Lh1 clh1 lnh1 ivh1 rvh1 h1 => ?_)
  obtain ⟨f1, rfl, rfl, rfl, rfl, rfl, rfl, rgf1, exf1⟩ := h1
  refine c_st (st2 := [.int (iI f1)]) rfl ?_
  have gf1 : ((n - ((ln b0 : Nat) : Int)) ≤ zz1 ∧ f1 = ((ln b0 : Nat) : Int) + zz1) ∨ (zz1 < (n - ((ln b0 : Nat) : Int)) ∧ f1 = ((ln b0 : Nat) : Int) + (n - ((ln b0 : Nat) : Int))) := exf1
  refine c_istore_n (lv2 := [(3, .int (iI f1)), (2, .int (iI ((ln b0 : Nat) : Int))), (0, .ref a0), (1, .int (iI n))]) C dJx4a65c_grow_92f84_30 (by decide) rfl ?_
  refine c_aload_n (j := 2) (x := a0) C dJx4a65c_grow_92f84_31 rfl ?_
  refine c_aload_n (j := 2) (x := a0) C dJx4a65c_grow_92f84_32 rfl ?_
  refine c_getr (k := 1) C ck_0 dJx4a65c_grow_92f84_33 w1_78 (by decide) t_a0 rfl rfl (by decide) rfl hed ?_
  refine c_st (st2 := [.ref b0, .ref a0]) rfl ?_
  refine c_iload_n (j := 0) C dJx4a65c_grow_92f84_36 rfl ?_
  refine c_callS (As := [.ref b0, .int (iI f1)]) (rest := [.ref a0]) C hM (Z_copyO2_26 (a0 := b0) (n := f1) hW hS t_b0 (by omega) (by show ((ln b0 : Nat) : Int) < f1 ∧ 10 ≤ f1 ∧ f1 ≤ 400; omega)) dJx4a65c_grow_92f84_37 kS_Jx4a65c_66 rfl rfl (Nat.le_of_ble_eq_true rfl) ⟨(Nat.le_of_ble_eq_true rfl), (Nat.le_of_ble_eq_true rfl)⟩ (rz1 hph hph (by omega)) (fun rh2 Lh2 clh2 lnh2 ivh2 rvh2 h2 => ⟨(0 + (16 + f1.toNat)), (zk1 (by obtain ⟨_, _, xlh2x, flh2x, Wh2x, _⟩ := h2; exact Phi.fr hW hS xlh2x flh2x rfl)), ?_⟩)
  obtain ⟨f2, rfl, xl2, fl2, W2, rgf2, exf2, ocpf2⟩ := h2
  refine hv3 (hF0.call hX0 fl2 rfl) (hX0.trans xl2) (xl2.skl hS) (fun F1 X1 sk1 => ?_)
  refine c_st (st2 := [.ref f2, .ref a0]) rfl ?_
  have gf2 : lnh2 f2 = f1.toNat ∧ clh2 f2 = cl b0 ∧ ∀ i : Nat, i < ln b0 → rvh2 f2 i = rv b0 i := exf2
  refine c_dup_x1 C dJx4a65c_grow_92f84_40 rfl rfl ?_
  refine hv2 (xl2.ty t_a0) (show rvh2 a0 1 = rv a0 1 from (fl2.r t_a0 rfl 1)) (fun ty1 re1 => ?_)
  rw [hed] at re1
  refine hv2 (show 0 ≤ ivh2 a0 2 ∧ ivh2 a0 2 ≤ 200 from W2.int ty1 2) (show ivh2 a0 2 = iv a0 2 from fl2.i t_a0 rfl 2) (fun ri1 ie1 => ?_)
  refine c_putr (x := (some f2)) (k := 1) C ck_0 dJx4a65c_grow_92f84_41 w1_78 (by decide) rfl ty1 rfl rfl (by decide) rfl (by rfl) (by rfl) (fun rv1 pq1 => ⟨420, (by rw [Phi.putr sk1 pq1 ty1 rfl]; omega), ?_⟩)
  have W3 := W2.led pq1 ty1 rfl rgf2.1 (exf2.2.1.trans hcb) (by omega) (fun i hi => by
      rw [exf2.2.2 i (by omega)]
      exact hW.2.2.2.2.1 a0 t_a0.1 (by rw [t_a0.2]; rfl) b0 hed i (by omega))
  refine hv3 (F1.putr X1 pq1 ty1 rfl) (show rv1 a0 1 = (some f2) from by rw [pq1]; exact upr_s) (Phi.le W3 sk1) (fun F2 rp1 pl1 => ?_)
  exact c_aret (x := some f2) C dJx4a65c_grow_92f84_44 rfl (Or.inr ⟨_, rfl⟩) (by decide) (rom0 hph pl1 (by decide)) ⟨f2, rfl, X1, F2, W3, rgf2, ⟨rp1, (by omega), (by omega), (exf2.2.1.trans hcb), (fun i hi => by rw [el_of hed, pq1, upr_a (ne_ty rgf2 ty1 (by decide))]; exact exf2.2.2 i (by omega))⟩, (fun bb tbb hbb => by
      refine hv3 (show ivh2 bb 2 = iv bb 2 from (fl2.i tbb rfl 2)) (show ∀ r : Nat, (r : Int) < iv bb 2 → el rvh2 bb r = el rv bb r from fun r hr => el_kp hW tbb (fl2.r tbb rfl 1) (fun bb tb9 _ j => (ocpf2 bb tb9 j)) hr) (xl2.ty tbb) (fun z1_ e1_ tb1 => ?_)
      have e2_ : ∀ r : Nat, (r : Int) < iv bb 2 → el rv1 bb r = el rv bb r := fun r hr => Eq.trans (el_kp W2 tb1 (by rw [pq1]; exact congrFun (upr_a hbb) 1) (fun c tc _ j => by rw [pq1]; exact congrFun (upr_a (ne_ty tc ty1 (by decide))) j) (by rw [z1_]; exact hr)) (e1_ r hr)
      exact ⟨z1_, e2_⟩)⟩
set_option maxHeartbeats 4000000 in
set_option maxRecDepth 100000 in
theorem C_grow0A_26 {l : Launch} {G : GT} {mi : Nat} {sk : Nat → Nat} {L : List Nat} {cl ln : Nat → Nat} {iv : Nat → Nat → Int} {rv : Nat → Nat → Option Nat}  {a0 : Nat} (hW : WT (g0 G) sk L cl ln iv rv) (hS : SKL sk L cl) (t_a0 : ty L cl a0 26) (hed : rv a0 1 = some (g0 G)) (hn : iv a0 2 = 0) : Mc l G mi (Phi (g0 G) sk) PHM yJx4a65c_grow_d5877 cJx4a65c_grow_d5877 1 (some (.array (.object "java/lang/Object"))) 4 [.ref a0] L cl ln iv rv 420 (fun v L2 cl2 ln2 iv2 rv2 => ∃ f : Nat, v = some (.ref f) ∧ XT L cl ln L2 cl2 ln2 ∧ fT [26, 1004] L cl iv rv iv2 rv2 ∧ WT (g0 G) sk L2 cl2 ln2 iv2 rv2 ∧ ty L2 cl2 f 1004 ∧ (rv2 a0 1 = some f ∧ iv2 a0 2 = iv a0 2 ∧ iv a0 2 + 1 ≤ ((ln2 f : Nat) : Int) ∧ cl2 f = 1000 + 5 * a0 + 4 ∧ ∀ i : Nat, (i : Int) < iv a0 2 → rv2 f i = el rv a0 i) ∧ (∀ bb, ty L cl bb 26 → bb ≠ a0 → iv2 bb 2 = iv bb 2 ∧ ∀ r : Nat, (r : Int) < iv bb 2 → el rv2 bb r = el rv bb r)) := by
  refine Mc.mk (by decide) (Nat.le_of_ble_eq_true rfl) ?_
  intro p e s m args below meth c A C hM
  refine hv3 (Phi.le hW hS) (show XT L cl ln L cl ln from XT.refl) (show fT [26, 1004] L cl iv rv iv rv from fT.refl) (fun hph hX0 hF0 => ?_)
  refine c_aload_n (j := 0) (x := a0) C dJx4a65c_grow_d5877_0 rfl ?_
  refine c_aload_n (j := 0) (x := a0) C dJx4a65c_grow_d5877_1 rfl ?_
  have ri1 : 0 ≤ iv a0 2 ∧ iv a0 2 ≤ 200 := hW.int t_a0 2
  refine c_get (k := 2) C ck_0 dJx4a65c_grow_d5877_2 w1_79 (by decide) t_a0 rfl rfl (by decide) rfl ?_
  refine c_iconst C dJx4a65c_grow_d5877_5 ?_
  refine c_iadd C dJx4a65c_grow_d5877_6 ?_
  refine d_callV (As := [.int (iI ((iv a0 2) + 1))]) (rest := []) C hM (C_growA_26 (a0 := a0) (n := (iv a0 2) + 1) hW hS t_a0 (by omega) hed (by show ((iv a0 2) + 1) = 1 ∧ iv a0 2 = 0; omega)) dJx4a65c_grow_d5877_7 kV_Jx4a65c_69 rfl t_a0 rfl rfl (by decide) ck_0 rfl (Nat.le_of_ble_eq_true rfl) ⟨(Nat.le_of_ble_eq_true rfl), (Nat.le_of_ble_eq_true rfl)⟩ hph hph (show 0 + 420 = 420 from rfl) (by decide) (fun rh1 Lh1 clh1 lnh1 ivh1 rvh1 h1 => ?_)
  obtain ⟨f1, rfl, xl1, fl1, W1, rgf1, exf1, o26f1⟩ := h1
  refine hv3 (hF0.call hX0 fl1 rfl) (hX0.trans xl1) (xl1.skl hS) (fun F1 X1 sk1 => ?_)
  refine c_st (st2 := [.ref f1]) rfl ?_
  refine hv5 (xl1.ty t_a0) (show rvh1 a0 1 = some f1 ∧ ivh1 a0 2 = iv a0 2 ∧ iv a0 2 + 1 ≤ ((lnh1 f1 : Nat) : Int) ∧ clh1 f1 = 1000 + 5 * a0 + 4 ∧ ∀ i : Nat, (i : Int) < iv a0 2 → rvh1 f1 i = el rv a0 i from exf1) (exf1.2.2.1) (exf1.2.1) (Phi.le W1 sk1) (fun ty1 gf1 gzf1 gyf1 pl1 => ?_)
  have ri2 : 0 ≤ ivh1 a0 2 ∧ ivh1 a0 2 ≤ 200 := W1.int ty1 2
  exact c_aret (x := some f1) C dJx4a65c_grow_d5877_10 rfl (Or.inr ⟨_, rfl⟩) (by decide) (rom0 hph pl1 (by decide)) ⟨f1, rfl, X1, F1, W1, rgf1, exf1, (fun bb tbb hbb => by
      refine hv2 (show ivh1 bb 2 = iv bb 2 from ((o26f1 bb tbb hbb)).1) (show ∀ r : Nat, (r : Int) < iv bb 2 → el rvh1 bb r = el rv bb r from fun r hr => ((o26f1 bb tbb hbb)).2 r hr) (fun z1_ e1_ => ?_)
      exact ⟨z1_, e1_⟩)⟩
set_option maxHeartbeats 4000000 in
set_option maxRecDepth 100000 in
theorem C_grow0B_26 {l : Launch} {G : GT} {mi : Nat} {sk : Nat → Nat} {L : List Nat} {cl ln : Nat → Nat} {iv : Nat → Nat → Int} {rv : Nat → Nat → Option Nat}  {a0 : Nat} {b0 : Nat} (hW : WT (g0 G) sk L cl ln iv rv) (hS : SKL sk L cl) (t_a0 : ty L cl a0 26) (t_b0 : ty L cl b0 1004) (hed : rv a0 1 = some b0) (hcb : cl b0 = 1000 + 5 * a0 + 4) (hn : iv a0 2 = ((ln b0 : Nat) : Int) ∧ iv a0 2 < 200) : Mc l G mi (Phi (g0 G) sk) PHM yJx4a65c_grow_d5877 cJx4a65c_grow_d5877 1 (some (.array (.object "java/lang/Object"))) 4 [.ref a0] L cl ln iv rv 420 (fun v L2 cl2 ln2 iv2 rv2 => ∃ f : Nat, v = some (.ref f) ∧ XT L cl ln L2 cl2 ln2 ∧ fT [26, 1004] L cl iv rv iv2 rv2 ∧ WT (g0 G) sk L2 cl2 ln2 iv2 rv2 ∧ ty L2 cl2 f 1004 ∧ (rv2 a0 1 = some f ∧ iv2 a0 2 = iv a0 2 ∧ iv a0 2 + 1 ≤ ((ln2 f : Nat) : Int) ∧ cl2 f = 1000 + 5 * a0 + 4 ∧ ∀ i : Nat, (i : Int) < iv a0 2 → rv2 f i = el rv a0 i) ∧ (∀ bb, ty L cl bb 26 → bb ≠ a0 → iv2 bb 2 = iv bb 2 ∧ ∀ r : Nat, (r : Int) < iv bb 2 → el rv2 bb r = el rv bb r)) := by
  refine Mc.mk (by decide) (Nat.le_of_ble_eq_true rfl) ?_
  intro p e s m args below meth c A C hM
  refine hv3 (Phi.le hW hS) (show XT L cl ln L cl ln from XT.refl) (show fT [26, 1004] L cl iv rv iv rv from fT.refl) (fun hph hX0 hF0 => ?_)
  refine c_aload_n (j := 0) (x := a0) C dJx4a65c_grow_d5877_0 rfl ?_
  refine c_aload_n (j := 0) (x := a0) C dJx4a65c_grow_d5877_1 rfl ?_
  have ri1 : 0 ≤ iv a0 2 ∧ iv a0 2 ≤ 200 := hW.int t_a0 2
  refine c_get (k := 2) C ck_0 dJx4a65c_grow_d5877_2 w1_79 (by decide) t_a0 rfl rfl (by decide) rfl ?_
  refine c_iconst C dJx4a65c_grow_d5877_5 ?_
  refine c_iadd C dJx4a65c_grow_d5877_6 ?_
  refine d_callV (As := [.int (iI ((iv a0 2) + 1))]) (rest := []) C hM (C_growB_26 (a0 := a0) (n := (iv a0 2) + 1) (b0 := b0) hW hS t_a0 t_b0 (by omega) hed hcb (by show ((iv a0 2) + 1) = iv a0 2 + 1 ∧ iv a0 2 = ((ln b0 : Nat) : Int) ∧ iv a0 2 < 200; omega)) dJx4a65c_grow_d5877_7 kV_Jx4a65c_69 rfl t_a0 rfl rfl (by decide) ck_0 rfl (Nat.le_of_ble_eq_true rfl) ⟨(Nat.le_of_ble_eq_true rfl), (Nat.le_of_ble_eq_true rfl)⟩ hph hph (show 0 + 420 = 420 from rfl) (by decide) (fun rh1 Lh1 clh1 lnh1 ivh1 rvh1 h1 => ?_)
  obtain ⟨f1, rfl, xl1, fl1, W1, rgf1, exf1, o26f1⟩ := h1
  refine hv3 (hF0.call hX0 fl1 rfl) (hX0.trans xl1) (xl1.skl hS) (fun F1 X1 sk1 => ?_)
  refine c_st (st2 := [.ref f1]) rfl ?_
  refine hv5 (xl1.ty t_a0) (show rvh1 a0 1 = some f1 ∧ ivh1 a0 2 = iv a0 2 ∧ iv a0 2 + 1 ≤ ((lnh1 f1 : Nat) : Int) ∧ clh1 f1 = 1000 + 5 * a0 + 4 ∧ ∀ i : Nat, (i : Int) < iv a0 2 → rvh1 f1 i = el rv a0 i from exf1) (exf1.2.2.1) (exf1.2.1) (Phi.le W1 sk1) (fun ty1 gf1 gzf1 gyf1 pl1 => ?_)
  have ri2 : 0 ≤ ivh1 a0 2 ∧ ivh1 a0 2 ≤ 200 := W1.int ty1 2
  exact c_aret (x := some f1) C dJx4a65c_grow_d5877_10 rfl (Or.inr ⟨_, rfl⟩) (by decide) (rom0 hph pl1 (by decide)) ⟨f1, rfl, X1, F1, W1, rgf1, exf1, (fun bb tbb hbb => by
      refine hv2 (show ivh1 bb 2 = iv bb 2 from ((o26f1 bb tbb hbb)).1) (show ∀ r : Nat, (r : Int) < iv bb 2 → el rvh1 bb r = el rv bb r from fun r hr => ((o26f1 bb tbb hbb)).2 r hr) (fun z1_ e1_ => ?_)
      exact ⟨z1_, e1_⟩)⟩
set_option maxHeartbeats 4000000 in
set_option maxRecDepth 100000 in
theorem C_add3A_26 {l : Launch} {G : GT} {mi : Nat} {sk : Nat → Nat} {L : List Nat} {cl ln : Nat → Nat} {iv : Nat → Nat → Int} {rv : Nat → Nat → Option Nat}  {a0 : Nat} {x : Nat} {n : Int} (hW : WT (g0 G) sk L cl ln iv rv) (hS : SKL sk L cl) (t_a0 : ty L cl a0 26) (t_x : ty L cl x 20) (h_n : -2147483648 ≤ n ∧ n ≤ 2147483647) (hed : rv a0 1 = some (g0 G)) (hn : n = iv a0 2 ∧ n = 0) : Mc l G mi (Phi (g0 G) sk) PHM yJx4a65c_add_72be8 cJx4a65c_add_72be8 4 none 5 [.ref a0, .ref x, .ref (g0 G), .int (iI n)] L cl ln iv rv 420 (fun v L2 cl2 ln2 iv2 rv2 => v = none ∧ XT L cl ln L2 cl2 ln2 ∧ fT [26, 1004] L cl iv rv iv2 rv2 ∧ WT (g0 G) sk L2 cl2 ln2 iv2 rv2 ∧ (iv2 a0 2 = iv a0 2 + 1 ∧ el rv2 a0 (iv a0 2).toNat = some x ∧ ∀ i : Nat, (i : Int) < iv a0 2 → el rv2 a0 i = el rv a0 i) ∧ (∀ bb, ty L cl bb 26 → bb ≠ a0 → iv2 bb 2 = iv bb 2 ∧ ∀ r : Nat, (r : Int) < iv bb 2 → el rv2 bb r = el rv bb r)) := by
  refine Mc.mk (by decide) (Nat.le_of_ble_eq_true rfl) ?_
  intro p e s m args below meth c A C hM
  refine hv3 (Phi.le hW hS) (show XT L cl ln L cl ln from XT.refl) (show fT [26, 1004] L cl iv rv iv rv from fT.refl) (fun hph hX0 hF0 => ?_)
  refine c_iload_n (j := 3) C dJx4a65c_add_72be8_0 rfl ?_
  refine c_aload_n (j := 2) (x := g0 G) C dJx4a65c_add_72be8_1 rfl ?_
  refine c_tlen C dJx4a65c_add_72be8_2 ?_
  refine c_icmp_ne (tgt := 11) C ⟨by omega, by omega⟩ ⟨by decide, by decide⟩ dJx4a65c_add_72be8_3 (by decide) (fun z => absurd z (by omega)) (fun _ => ?_)
  refine c_aload_n (j := 0) (x := a0) C dJx4a65c_add_72be8_6 rfl ?_
  have ri1 : 0 ≤ iv a0 2 ∧ iv a0 2 ≤ 200 := hW.int t_a0 2
  refine d_callV (As := []) (rest := []) C hM (C_grow0A_26 (a0 := a0) hW hS t_a0  hed (by show iv a0 2 = 0; omega)) dJx4a65c_add_72be8_7 kV_Jx4a65c_129 rfl t_a0 rfl rfl (by decide) ck_0 rfl (Nat.le_of_ble_eq_true rfl) ⟨(Nat.le_of_ble_eq_true rfl), (Nat.le_of_ble_eq_true rfl)⟩ hph hph (show 0 + 420 = 420 from rfl) (by decide) (fun rh1 Lh1 clh1 lnh1 ivh1 rvh1 h1 => ?_)
  obtain ⟨f1, rfl, xl1, fl1, W1, rgf1, exf1, o26f1⟩ := h1
  refine hv3 (hF0.call hX0 fl1 rfl) (hX0.trans xl1) (xl1.skl hS) (fun F1 X1 sk1 => ?_)
  refine c_st (st2 := [.ref f1]) rfl ?_
  refine hv4 (xl1.ty t_a0) (show rvh1 a0 1 = some f1 ∧ ivh1 a0 2 = iv a0 2 ∧ iv a0 2 + 1 ≤ ((lnh1 f1 : Nat) : Int) ∧ clh1 f1 = 1000 + 5 * a0 + 4 ∧ ∀ i : Nat, (i : Int) < iv a0 2 → rvh1 f1 i = el rv a0 i from exf1) (exf1.2.2.1) (exf1.2.1) (fun ty1 gf1 gzf1 gyf1 => ?_)
  have ri2 : 0 ≤ ivh1 a0 2 ∧ ivh1 a0 2 ≤ 200 := W1.int ty1 2
  refine c_astore_n (lv2 := [(2, .ref f1), (0, .ref a0), (1, .ref x), (3, .int (iI n))]) C dJx4a65c_add_72be8_10 (by decide) rfl ?_
  refine c_aload_n (j := 0) (x := f1) C dJx4a65c_add_72be8_11 rfl ?_
  refine c_iload_n (j := 3) C dJx4a65c_add_72be8_12 rfl ?_
  refine c_aload_n (j := 2) (x := x) C dJx4a65c_add_72be8_13 rfl ?_
  refine hv2 (show 10 ≤ lnh1 f1 ∧ lnh1 f1 ≤ 400 from W1.len rgf1 rfl) (xl1.ty t_x) (fun ll1 ty2 => ?_)
  refine c_aastO (z := n) C ck_6 w8_185t dJx4a65c_add_72be8_14 rgf1 rfl ty2 rfl rfl (by decide) (by omega) (by omega) (by omega) (fun rv1 pq1 => ⟨420, (by rw [Phi.putr sk1 pq1 rgf1 rfl]; exact Nat.le_refl _), ?_⟩)
  refine hv2 (W1.lset pq1 rgf1 (by decide) ty2) (F1.putr X1 pq1 rgf1 rfl) (fun W2 F2 => ?_)
  refine c_aload_n (j := 1) (x := a0) C dJx4a65c_add_72be8_15 rfl ?_
  refine c_iload_n (j := 3) C dJx4a65c_add_72be8_16 rfl ?_
  refine c_iconst C dJx4a65c_add_72be8_17 ?_
  refine c_iadd C dJx4a65c_add_72be8_18 ?_
  refine c_put (z := n + 1) (k := 2) C ck_0 dJx4a65c_add_72be8_19 w1_79 (by decide) rfl ty1 rfl rfl (by decide) rfl (by rfl) (by rfl) (fun iv1 pq2 => ?_)
  have re1 : rv1 a0 1 = rvh1 a0 1 := (by rw [pq1]; exact congrFun (upr_a (ne_ty ty1 rgf1 (by decide))) _)
  rw [exf1.1] at re1
  refine hv3 (show rv1 f1 (ivh1 a0 2).toNat = some x from by rw [show (ivh1 a0 2).toNat = n.toNat by omega, pq1]; exact upr_s) (F2.puti X1 pq2 ty1 rfl) (show iv1 a0 2 = n + 1 from by rw [pq2]; exact up2_s) (fun px1 F3 ie2 => ?_)
  have W3 := W2.lapp pq2 ty1 rfl re1 rgf1.1 px1 (show (n + 1) = ivh1 a0 2 + 1 by omega) (show ivh1 a0 2 + 1 ≤ 200 by omega) (by omega) rfl
  refine hv2 (show 0 ≤ iv1 a0 2 ∧ iv1 a0 2 ≤ 200 from W3.int ty1 2) (Phi.le W3 sk1) (fun ri3 pl1 => ?_)
  exact c_vret C dJx4a65c_add_72be8_22 rfl (by decide) (rom0 hph pl1 (by decide)) ⟨rfl, X1, F3, W3, ⟨by omega, (by rw [el_of re1, show (iv a0 2).toNat = n.toNat by omega, pq1]; exact upr_s), fun i hi => (by rw [el_of re1, pq1, upr_j (by omega)]; exact exf1.2.2.2.2 i hi)⟩, (fun bb tbb hbb => by
      refine hv3 (show ivh1 bb 2 = iv bb 2 from ((o26f1 bb tbb hbb)).1) (show ∀ r : Nat, (r : Int) < iv bb 2 → el rvh1 bb r = el rv bb r from fun r hr => ((o26f1 bb tbb hbb)).2 r hr) (xl1.ty tbb) (fun z1_ e1_ tb1 => ?_)
      refine hv2 (show ∀ r : Nat, (r : Int) < iv bb 2 → el rv1 bb r = el rv bb r from fun r hr => Eq.trans (el_kp W1 tb1 (by rw [pq1]; exact congrFun (upr_a (ne_ty tb1 rgf1 (by decide))) 1) (fun c tc hc j => by rw [pq1]; exact congrFun (upr_a (fun e => by rw [e, exf1.2.2.2.1] at hc; omega)) j) (by rw [z1_]; exact hr)) (e1_ r hr)) (show iv1 bb 2 = iv bb 2 from Eq.trans (by rw [pq2]; exact up2_k hbb) z1_) (fun e2_ z3_ => ?_)
      exact ⟨z3_, e2_⟩)⟩
set_option maxHeartbeats 4000000 in
set_option maxRecDepth 100000 in
theorem C_add3B_26 {l : Launch} {G : GT} {mi : Nat} {sk : Nat → Nat} {L : List Nat} {cl ln : Nat → Nat} {iv : Nat → Nat → Int} {rv : Nat → Nat → Option Nat}  {a0 : Nat} {x : Nat} {b0 : Nat} {n : Int} (hW : WT (g0 G) sk L cl ln iv rv) (hS : SKL sk L cl) (t_a0 : ty L cl a0 26) (t_x : ty L cl x 20) (t_b0 : ty L cl b0 1004) (h_n : -2147483648 ≤ n ∧ n ≤ 2147483647) (hed : rv a0 1 = some b0) (hcb : cl b0 = 1000 + 5 * a0 + 4) (hn : n = iv a0 2 ∧ 0 ≤ n ∧ n ≤ ((ln b0 : Nat) : Int) ∧ n < 200) : Mc l G mi (Phi (g0 G) sk) PHM yJx4a65c_add_72be8 cJx4a65c_add_72be8 4 none 5 [.ref a0, .ref x, .ref b0, .int (iI n)] L cl ln iv rv 420 (fun v L2 cl2 ln2 iv2 rv2 => v = none ∧ XT L cl ln L2 cl2 ln2 ∧ fT [26, 1004] L cl iv rv iv2 rv2 ∧ WT (g0 G) sk L2 cl2 ln2 iv2 rv2 ∧ (iv2 a0 2 = iv a0 2 + 1 ∧ el rv2 a0 (iv a0 2).toNat = some x ∧ ∀ i : Nat, (i : Int) < iv a0 2 → el rv2 a0 i = el rv a0 i) ∧ (∀ bb, ty L cl bb 26 → bb ≠ a0 → iv2 bb 2 = iv bb 2 ∧ ∀ r : Nat, (r : Int) < iv bb 2 → el rv2 bb r = el rv bb r)) := by
  refine Mc.mk (by decide) (Nat.le_of_ble_eq_true rfl) ?_
  intro p e s m args below meth c A C hM
  refine hv3 (Phi.le hW hS) (show XT L cl ln L cl ln from XT.refl) (show fT [26, 1004] L cl iv rv iv rv from fT.refl) (fun hph hX0 hF0 => ?_)
  refine c_iload_n (j := 3) C dJx4a65c_add_72be8_0 rfl ?_
  refine c_aload_n (j := 2) (x := b0) C dJx4a65c_add_72be8_1 rfl ?_
  have ll1 : 10 ≤ ln b0 ∧ ln b0 ≤ 400 := hW.len t_b0 rfl
  refine c_alenO C dJx4a65c_add_72be8_2 t_b0 rfl ?_
  refine c_icmp_ne (tgt := 11) C ⟨by omega, by omega⟩ ⟨by omega, by omega⟩ dJx4a65c_add_72be8_3 (by decide) (fun c1 => ?_) (fun c1 => ?_)
  · refine c_aload_n (j := 2) (x := b0) C dJx4a65c_add_72be8_11 rfl ?_
    refine c_iload_n (j := 3) C dJx4a65c_add_72be8_12 rfl ?_
    refine c_aload_n (j := 1) (x := x) C dJx4a65c_add_72be8_13 rfl ?_
    refine c_aastO (z := n) C ck_6 w8_185t dJx4a65c_add_72be8_14 t_b0 rfl t_x rfl rfl (by decide) (by omega) (by omega) (by omega) (fun rv1 pq1 => ⟨0, (by rw [Phi.putr hS pq1 t_b0 rfl]; exact Nat.le_refl _), ?_⟩)
    refine hv2 (hW.lset pq1 t_b0 (by decide) t_x) (hF0.putr hX0 pq1 t_b0 rfl) (fun W1 F1 => ?_)
    refine c_aload_n (j := 0) (x := a0) C dJx4a65c_add_72be8_15 rfl ?_
    refine c_iload_n (j := 3) C dJx4a65c_add_72be8_16 rfl ?_
    refine c_iconst C dJx4a65c_add_72be8_17 ?_
    refine c_iadd C dJx4a65c_add_72be8_18 ?_
    refine c_put (z := n + 1) (k := 2) C ck_0 dJx4a65c_add_72be8_19 w1_79 (by decide) rfl t_a0 rfl rfl (by decide) rfl (by rfl) (by rfl) (fun iv1 pq2 => ?_)
    have re1 : rv1 a0 1 = rv a0 1 := (by rw [pq1]; exact congrFun (upr_a (ne_ty t_a0 t_b0 (by decide))) _)
    rw [hed] at re1
    refine hv3 (show rv1 b0 (iv a0 2).toNat = some x from by rw [show (iv a0 2).toNat = n.toNat by omega, pq1]; exact upr_s) (F1.puti hX0 pq2 t_a0 rfl) (show iv1 a0 2 = n + 1 from by rw [pq2]; exact up2_s) (fun px1 F2 ie1 => ?_)
    have W2 := W1.lapp pq2 t_a0 rfl re1 t_b0.1 px1 (show (n + 1) = iv a0 2 + 1 by omega) (show iv a0 2 + 1 ≤ 200 by omega) (by omega) rfl
    refine hv2 (show 0 ≤ iv1 a0 2 ∧ iv1 a0 2 ≤ 200 from W2.int t_a0 2) (Phi.le W2 hS) (fun ri1 pl1 => ?_)
    exact c_vret C dJx4a65c_add_72be8_22 rfl (by decide) (rom0 hph pl1 (by decide)) ⟨rfl, hX0, F2, W2, ⟨by omega, (by rw [el_of re1, show (iv a0 2).toNat = n.toNat by omega, pq1]; exact upr_s), fun i hi => (by rw [el_of re1, pq1, upr_j (by omega)]; exact (el_of hed).symm)⟩, (fun bb tbb hbb => by
        refine hv2 (show ∀ r : Nat, (r : Int) < iv bb 2 → el rv1 bb r = el rv bb r from fun r hr => el_kp hW tbb (by rw [pq1]; exact congrFun (upr_a (ne_ty tbb t_b0 (by decide))) 1) (fun c tc hc j => by rw [pq1]; exact congrFun (upr_a (fun e => by rw [e, hcb] at hc; omega)) j) hr) (show iv1 bb 2 = iv bb 2 from (by rw [pq2]; exact up2_k hbb)) (fun e1_ z2_ => ?_)
        exact ⟨z2_, e1_⟩)⟩
  · refine c_aload_n (j := 0) (x := a0) C dJx4a65c_add_72be8_6 rfl ?_
    have ri2 : 0 ≤ iv a0 2 ∧ iv a0 2 ≤ 200 := hW.int t_a0 2
    refine d_callV (As := []) (rest := []) C hM (C_grow0B_26 (a0 := a0) (b0 := b0) hW hS t_a0 t_b0  hed hcb (by show iv a0 2 = ((ln b0 : Nat) : Int) ∧ iv a0 2 < 200; omega)) dJx4a65c_add_72be8_7 kV_Jx4a65c_129 rfl t_a0 rfl rfl (by decide) ck_0 rfl (Nat.le_of_ble_eq_true rfl) ⟨(Nat.le_of_ble_eq_true rfl), (Nat.le_of_ble_eq_true rfl)⟩ hph hph (show 0 + 420 = 420 from rfl) (by decide) (fun rh1 Lh1 clh1 lnh1 ivh1 rvh1 h1 => ?_)
    obtain ⟨f1, rfl, xl1, fl1, W3, rgf1, exf1, o26f1⟩ := h1
    refine hv3 (hF0.call hX0 fl1 rfl) (hX0.trans xl1) (xl1.skl hS) (fun F3 X1 sk1 => ?_)
    refine c_st (st2 := [.ref f1]) rfl ?_
    refine hv4 (xl1.ty t_a0) (show rvh1 a0 1 = some f1 ∧ ivh1 a0 2 = iv a0 2 ∧ iv a0 2 + 1 ≤ ((lnh1 f1 : Nat) : Int) ∧ clh1 f1 = 1000 + 5 * a0 + 4 ∧ ∀ i : Nat, (i : Int) < iv a0 2 → rvh1 f1 i = el rv a0 i from exf1) (exf1.2.2.1) (exf1.2.1) (fun ty1 gf1 gzf1 gyf1 => ?_)
    have ri3 : 0 ≤ ivh1 a0 2 ∧ ivh1 a0 2 ≤ 200 := W3.int ty1 2
    refine c_astore_n (lv2 := [(2, .ref f1), (0, .ref a0), (1, .ref x), (3, .int (iI n))]) C dJx4a65c_add_72be8_10 (by decide) rfl ?_
    refine c_aload_n (j := 0) (x := f1) C dJx4a65c_add_72be8_11 rfl ?_
    refine c_iload_n (j := 3) C dJx4a65c_add_72be8_12 rfl ?_
    refine c_aload_n (j := 2) (x := x) C dJx4a65c_add_72be8_13 rfl ?_
    refine hv2 (show 10 ≤ lnh1 f1 ∧ lnh1 f1 ≤ 400 from W3.len rgf1 rfl) (xl1.ty t_x) (fun ll2 ty2 => ?_)
    refine c_aastO (z := n) C ck_6 w8_185t dJx4a65c_add_72be8_14 rgf1 rfl ty2 rfl rfl (by decide) (by omega) (by omega) (by omega) (fun rv2 pq3 => ⟨420, (by rw [Phi.putr sk1 pq3 rgf1 rfl]; exact Nat.le_refl _), ?_⟩)
    refine hv2 (W3.lset pq3 rgf1 (by decide) ty2) (F3.putr X1 pq3 rgf1 rfl) (fun W4 F4 => ?_)
    refine c_aload_n (j := 1) (x := a0) C dJx4a65c_add_72be8_15 rfl ?_
    refine c_iload_n (j := 3) C dJx4a65c_add_72be8_16 rfl ?_
    refine c_iconst C dJx4a65c_add_72be8_17 ?_
    refine c_iadd C dJx4a65c_add_72be8_18 ?_
    refine c_put (z := n + 1) (k := 2) C ck_0 dJx4a65c_add_72be8_19 w1_79 (by decide) rfl ty1 rfl rfl (by decide) rfl (by rfl) (by rfl) (fun iv2 pq4 => ?_)
    have re2 : rv2 a0 1 = rvh1 a0 1 := (by rw [pq3]; exact congrFun (upr_a (ne_ty ty1 rgf1 (by decide))) _)
    rw [exf1.1] at re2
    refine hv3 (show rv2 f1 (ivh1 a0 2).toNat = some x from by rw [show (ivh1 a0 2).toNat = n.toNat by omega, pq3]; exact upr_s) (F4.puti X1 pq4 ty1 rfl) (show iv2 a0 2 = n + 1 from by rw [pq4]; exact up2_s) (fun px2 F5 ie3 => ?_)
    have W5 := W4.lapp pq4 ty1 rfl re2 rgf1.1 px2 (show (n + 1) = ivh1 a0 2 + 1 by omega) (show ivh1 a0 2 + 1 ≤ 200 by omega) (by omega) rfl
    refine hv2 (show 0 ≤ iv2 a0 2 ∧ iv2 a0 2 ≤ 200 from W5.int ty1 2) (Phi.le W5 sk1) (fun ri4 pl2 => ?_)
    exact c_vret C dJx4a65c_add_72be8_22 rfl (by decide) (rom0 hph pl2 (by decide)) ⟨rfl, X1, F5, W5, ⟨by omega, (by rw [el_of re2, show (iv a0 2).toNat = n.toNat by omega, pq3]; exact upr_s), fun i hi => (by rw [el_of re2, pq3, upr_j (by omega)]; exact exf1.2.2.2.2 i hi)⟩, (fun bb tbb hbb => by
        refine hv3 (show ivh1 bb 2 = iv bb 2 from ((o26f1 bb tbb hbb)).1) (show ∀ r : Nat, (r : Int) < iv bb 2 → el rvh1 bb r = el rv bb r from fun r hr => ((o26f1 bb tbb hbb)).2 r hr) (xl1.ty tbb) (fun z1_ e1_ tb1 => ?_)
        refine hv2 (show ∀ r : Nat, (r : Int) < iv bb 2 → el rv2 bb r = el rv bb r from fun r hr => Eq.trans (el_kp W3 tb1 (by rw [pq3]; exact congrFun (upr_a (ne_ty tb1 rgf1 (by decide))) 1) (fun c tc hc j => by rw [pq3]; exact congrFun (upr_a (fun e => by rw [e, exf1.2.2.2.1] at hc; omega)) j) (by rw [z1_]; exact hr)) (e1_ r hr)) (show iv2 bb 2 = iv bb 2 from Eq.trans (by rw [pq4]; exact up2_k hbb) z1_) (fun e2_ z3_ => ?_)
        exact ⟨z3_, e2_⟩)⟩
set_option maxHeartbeats 4000000 in
set_option maxRecDepth 100000 in
theorem C_add_26 {l : Launch} {G : GT} {mi : Nat} {sk : Nat → Nat} {L : List Nat} {cl ln : Nat → Nat} {iv : Nat → Nat → Int} {rv : Nat → Nat → Option Nat}  {a0 : Nat} {x : Nat} (hW : WT (g0 G) sk L cl ln iv rv) (hS : SKL sk L cl) (t_a0 : ty L cl a0 26) (t_x : ty L cl x 20) (hn : iv a0 2 < 200) : Mc l G mi (Phi (g0 G) sk) PHM yJx4a65c_add_9ea2d cJx4a65c_add_9ea2d 2 (some .boolean) 6 [.ref a0, .ref x] L cl ln iv rv 420 (fun v L2 cl2 ln2 iv2 rv2 => ∃ f : Int, v = some (.int (iI f)) ∧ XT L cl ln L2 cl2 ln2 ∧ fT [26, 1004] L cl iv rv iv2 rv2 ∧ WT (g0 G) sk L2 cl2 ln2 iv2 rv2 ∧ (f = 0 ∨ f = 1) ∧ (iv2 a0 2 = iv a0 2 + 1 ∧ el rv2 a0 (iv a0 2).toNat = some x ∧ ∀ i : Nat, (i : Int) < iv a0 2 → el rv2 a0 i = el rv a0 i) ∧ (∀ bb, ty L cl bb 26 → bb ≠ a0 → iv2 bb 2 = iv bb 2 ∧ ∀ r : Nat, (r : Int) < iv bb 2 → el rv2 bb r = el rv bb r)) := by
  refine Mc.mk (by decide) (Nat.le_of_ble_eq_true rfl) ?_
  intro p e s m args below meth c A C hM
  refine hv3 (Phi.le hW hS) (show XT L cl ln L cl ln from XT.refl) (show fT [26, 1004] L cl iv rv iv rv from fT.refl) (fun hph hX0 hF0 => ?_)
  refine c_aload_n (j := 0) (x := a0) C dJx4a65c_add_9ea2d_0 rfl ?_
  refine c_dup C dJx4a65c_add_9ea2d_1 rfl ?_
  have ri1 : (-2147483648) ≤ iv a0 0 ∧ iv a0 0 ≤ 2147483647 := hW.int t_a0 0
  refine c_getU (k := 0) C ck_0 dJx4a65c_add_9ea2d_2 w1_81 w1_82 (by decide) t_a0 rfl rfl (by decide) rfl ?_
  refine c_iconst C dJx4a65c_add_9ea2d_5 ?_
  refine c_iadd C dJx4a65c_add_9ea2d_6 ?_
  obtain ⟨zz1, hzz1, ezz1⟩ := iI_of (iI ((iv a0 0) + 1))
  refine c_st (st2 := [.int (iI zz1), .ref a0]) (by rw [ezz1]) ?_
  refine c_putU (z := zz1) (k := 0) C ck_0 dJx4a65c_add_9ea2d_7 w1_81 w1_82 (by decide) rfl t_a0 rfl rfl (by decide) rfl (by rfl) (by rfl) (fun iv1 pq1 => ?_)
  refine hv2 (hW.puti pq1 t_a0 (show (-2147483648) ≤ zz1 ∧ zz1 ≤ 2147483647 by omega) rfl) (hF0.puti hX0 pq1 t_a0 rfl) (fun W1 F1 => ?_)
  refine c_aload_n (j := 0) (x := a0) C dJx4a65c_add_9ea2d_10 rfl ?_
  refine c_aload_n (j := 1) (x := x) C dJx4a65c_add_9ea2d_11 rfl ?_
  refine c_aload_n (j := 0) (x := a0) C dJx4a65c_add_9ea2d_12 rfl ?_
  refine hv2 (show 0 ≤ iv1 a0 2 ∧ iv1 a0 2 ≤ 200 from W1.int t_a0 2) (show iv1 a0 2 = iv a0 2 from by rw [pq1]; exact up2_j (by decide)) (fun ri2 ie1 => ?_)
  rcases W1.edc t_a0 rfl rfl with ⟨eq1, zeb1⟩ | ⟨eb1, eq1, teb1, ceb1, zeb1⟩
  · refine c_getr (k := 1) C ck_0 dJx4a65c_add_9ea2d_13 w1_78 (by decide) t_a0 rfl rfl (by decide) rfl eq1 ?_
    refine c_st (st2 := [.ref (g0 G), .ref x, .ref a0]) rfl ?_
    refine c_aload_n (j := 0) (x := a0) C dJx4a65c_add_9ea2d_16 rfl ?_
    refine c_get (k := 2) C ck_0 dJx4a65c_add_9ea2d_17 w1_79 (by decide) t_a0 rfl rfl (by decide) rfl ?_
    refine d_callV (As := [.ref x, .ref (g0 G), .int (iI (iv1 a0 2))]) (rest := []) C hM (C_add3A_26 (a0 := a0) (x := x) (n := iv1 a0 2) W1 hS t_a0 t_x (by omega) eq1 (by show (iv1 a0 2) = iv1 a0 2 ∧ (iv1 a0 2) = 0; omega)) dJx4a65c_add_9ea2d_20 kV_Jx4a65c_131 rfl t_a0 rfl rfl (by decide) ck_0 rfl (Nat.le_of_ble_eq_true rfl) ⟨(Nat.le_of_ble_eq_true rfl), (Nat.le_of_ble_eq_true rfl)⟩ hph hph (show 0 + 420 = 420 from rfl) (by decide) (fun rh1 Lh1 clh1 lnh1 ivh1 rvh1 h1 => ?_)
    obtain ⟨rfl, xl1, fl1, W2, exf1, o26f1⟩ := h1
    refine hv3 (F1.call hX0 fl1 rfl) (hX0.trans xl1) (xl1.skl hS) (fun F2 X1 sk1 => ?_)
    refine c_st (st2 := []) rfl ?_
    refine hv2 (xl1.ty t_a0) (show ivh1 a0 2 = iv1 a0 2 + 1 ∧ el rvh1 a0 (iv1 a0 2).toNat = some x ∧ ∀ i : Nat, (i : Int) < iv1 a0 2 → el rvh1 a0 i = el rv a0 i from exf1) (fun ty1 gf1 => ?_)
    have ri3 : 0 ≤ ivh1 a0 2 ∧ ivh1 a0 2 ≤ 200 := W2.int ty1 2
    refine c_iconst C dJx4a65c_add_9ea2d_23 ?_
    have pl1 := Phi.le W2 sk1
    exact c_zret C dJx4a65c_add_9ea2d_24 rfl (Or.inr rfl) (by decide) (rom0 hph pl1 (by decide)) ⟨1, rfl, X1, F2, W2, (Or.inr rfl), ⟨by omega, (by rw [show (iv a0 2).toNat = (iv1 a0 2).toNat by omega]; exact exf1.2.1), fun i hi => exf1.2.2 i (by omega)⟩, (fun bb tbb hbb => by
        have z1_ : iv1 bb 2 = iv bb 2 := (by rw [pq1]; exact up2_k hbb)
        refine hv2 (show ivh1 bb 2 = iv bb 2 from Eq.trans ((o26f1 bb tbb hbb)).1 z1_) (show ∀ r : Nat, (r : Int) < iv bb 2 → el rvh1 bb r = el rv bb r from fun r hr => ((o26f1 bb tbb hbb)).2 r (by rw [z1_]; exact hr)) (fun z2_ e2_ => ?_)
        exact ⟨z2_, e2_⟩)⟩
  · have lneb1 : 10 ≤ ln eb1 ∧ ln eb1 ≤ 400 := W1.len teb1 rfl
    refine c_getr (k := 1) C ck_0 dJx4a65c_add_9ea2d_13 w1_78 (by decide) t_a0 rfl rfl (by decide) rfl eq1 ?_
    refine c_st (st2 := [.ref eb1, .ref x, .ref a0]) rfl ?_
    refine c_aload_n (j := 0) (x := a0) C dJx4a65c_add_9ea2d_16 rfl ?_
    refine c_get (k := 2) C ck_0 dJx4a65c_add_9ea2d_17 w1_79 (by decide) t_a0 rfl rfl (by decide) rfl ?_
    refine d_callV (As := [.ref x, .ref eb1, .int (iI (iv1 a0 2))]) (rest := []) C hM (C_add3B_26 (a0 := a0) (x := x) (b0 := eb1) (n := iv1 a0 2) W1 hS t_a0 t_x teb1 (by omega) eq1 ceb1 (by show (iv1 a0 2) = iv1 a0 2 ∧ 0 ≤ (iv1 a0 2) ∧ (iv1 a0 2) ≤ ((ln eb1 : Nat) : Int) ∧ (iv1 a0 2) < 200; omega)) dJx4a65c_add_9ea2d_20 kV_Jx4a65c_131 rfl t_a0 rfl rfl (by decide) ck_0 rfl (Nat.le_of_ble_eq_true rfl) ⟨(Nat.le_of_ble_eq_true rfl), (Nat.le_of_ble_eq_true rfl)⟩ hph hph (show 0 + 420 = 420 from rfl) (by decide) (fun rh2 Lh2 clh2 lnh2 ivh2 rvh2 h2 => ?_)
    obtain ⟨rfl, xl2, fl2, W3, exf2, o26f2⟩ := h2
    refine hv3 (F1.call hX0 fl2 rfl) (hX0.trans xl2) (xl2.skl hS) (fun F3 X2 sk2 => ?_)
    refine c_st (st2 := []) rfl ?_
    refine hv2 (xl2.ty t_a0) (show ivh2 a0 2 = iv1 a0 2 + 1 ∧ el rvh2 a0 (iv1 a0 2).toNat = some x ∧ ∀ i : Nat, (i : Int) < iv1 a0 2 → el rvh2 a0 i = el rv a0 i from exf2) (fun ty2 gf2 => ?_)
    have ri4 : 0 ≤ ivh2 a0 2 ∧ ivh2 a0 2 ≤ 200 := W3.int ty2 2
    refine c_iconst C dJx4a65c_add_9ea2d_23 ?_
    have pl2 := Phi.le W3 sk2
    exact c_zret C dJx4a65c_add_9ea2d_24 rfl (Or.inr rfl) (by decide) (rom0 hph pl2 (by decide)) ⟨1, rfl, X2, F3, W3, (Or.inr rfl), ⟨by omega, (by rw [show (iv a0 2).toNat = (iv1 a0 2).toNat by omega]; exact exf2.2.1), fun i hi => exf2.2.2 i (by omega)⟩, (fun bb tbb hbb => by
        have z1_ : iv1 bb 2 = iv bb 2 := (by rw [pq1]; exact up2_k hbb)
        refine hv2 (show ivh2 bb 2 = iv bb 2 from Eq.trans ((o26f2 bb tbb hbb)).1 z1_) (show ∀ r : Nat, (r : Int) < iv bb 2 → el rvh2 bb r = el rv bb r from fun r hr => ((o26f2 bb tbb hbb)).2 r (by rw [z1_]; exact hr)) (fun z2_ e2_ => ?_)
        exact ⟨z2_, e2_⟩)⟩
set_option maxHeartbeats 4000000 in
set_option maxRecDepth 100000 in
theorem C_fastRemove_26 {l : Launch} {G : GT} {mi : Nat} {sk : Nat → Nat} {L : List Nat} {cl ln : Nat → Nat} {iv : Nat → Nat → Int} {rv : Nat → Nat → Option Nat}  {a0 : Nat} {b0 : Nat} {i : Int} (hW : WT (g0 G) sk L cl ln iv rv) (hS : SKL sk L cl) (t_a0 : ty L cl a0 26) (t_b0 : ty L cl b0 1004) (h_i : -2147483648 ≤ i ∧ i ≤ 2147483647) (hed : rv a0 1 = some b0) (hcb : cl b0 = 1000 + 5 * a0 + 4) (hi : i = iv a0 2 - 1 ∧ 0 ≤ i ∧ iv a0 2 ≤ ((ln b0 : Nat) : Int)) : Mc l G mi (Phi (g0 G) sk) PHM yJx4a65c_fastRemove_b59b0 cJx4a65c_fastRemove_b59b0 4 none 0 [.ref a0, .ref b0, .int (iI i)] L cl ln iv rv 0 (fun v L2 cl2 ln2 iv2 rv2 => v = none ∧ L = L2 ∧ cl = cl2 ∧ ln = ln2 ∧ fT [26, 1004] L cl iv rv iv2 rv2 ∧ WT (g0 G) sk L2 cl2 ln2 iv2 rv2 ∧ (iv2 a0 2 = iv a0 2 - 1 ∧ ∀ j : Nat, (j : Int) < iv a0 2 - 1 → el rv2 a0 j = el rv a0 j) ∧ (∀ bb, ty L cl bb 26 → bb ≠ a0 → iv2 bb 2 = iv bb 2 ∧ ∀ r : Nat, (r : Int) < iv bb 2 → el rv2 bb r = el rv bb r)) := by
  refine Mc.mk (by decide) (Nat.le_of_ble_eq_true rfl) ?_
  intro p e s m args below meth c A C hM
  refine hv3 (Phi.le hW hS) (show XT L cl ln L cl ln from XT.refl) (show fT [26, 1004] L cl iv rv iv rv from fT.refl) (fun hph hX0 hF0 => ?_)
  refine c_aload_n (j := 0) (x := a0) C dJx4a65c_fastRemove_b59b0_0 rfl ?_
  refine c_dup C dJx4a65c_fastRemove_b59b0_1 rfl ?_
  have ri1 : (-2147483648) ≤ iv a0 0 ∧ iv a0 0 ≤ 2147483647 := hW.int t_a0 0
  refine c_getU (k := 0) C ck_0 dJx4a65c_fastRemove_b59b0_2 w1_81 w1_82 (by decide) t_a0 rfl rfl (by decide) rfl ?_
  refine c_iconst C dJx4a65c_fastRemove_b59b0_5 ?_
  refine c_iadd C dJx4a65c_fastRemove_b59b0_6 ?_
  obtain ⟨zz1, hzz1, ezz1⟩ := iI_of (iI ((iv a0 0) + 1))
  refine c_st (st2 := [.int (iI zz1), .ref a0]) (by rw [ezz1]) ?_
  refine c_putU (z := zz1) (k := 0) C ck_0 dJx4a65c_fastRemove_b59b0_7 w1_81 w1_82 (by decide) rfl t_a0 rfl rfl (by decide) rfl (by rfl) (by rfl) (fun iv1 pq1 => ?_)
  refine hv2 (hW.puti pq1 t_a0 (show (-2147483648) ≤ zz1 ∧ zz1 ≤ 2147483647 by omega) rfl) (hF0.puti hX0 pq1 t_a0 rfl) (fun W1 F1 => ?_)
  refine c_aload_n (j := 0) (x := a0) C dJx4a65c_fastRemove_b59b0_10 rfl ?_
  refine hv2 (show 0 ≤ iv1 a0 2 ∧ iv1 a0 2 ≤ 200 from W1.int t_a0 2) (show iv1 a0 2 = iv a0 2 from by rw [pq1]; exact up2_j (by decide)) (fun ri2 ie1 => ?_)
  refine c_get (k := 2) C ck_0 dJx4a65c_fastRemove_b59b0_11 w1_79 (by decide) t_a0 rfl rfl (by decide) rfl ?_
  refine c_iconst C dJx4a65c_fastRemove_b59b0_14 ?_
  refine c_isub C dJx4a65c_fastRemove_b59b0_15 ?_
  refine c_dup C dJx4a65c_fastRemove_b59b0_16 rfl ?_
  refine c_istore_n (lv2 := [(3, .int (iI ((iv1 a0 2) - 1))), (0, .ref a0), (1, .ref b0), (2, .int (iI i))]) C dJx4a65c_fastRemove_b59b0_17 (by decide) rfl ?_
  refine c_iload_n (j := 3) C dJx4a65c_fastRemove_b59b0_18 rfl ?_
  refine c_icmp_le (tgt := 34) C ⟨by omega, by omega⟩ ⟨by omega, by omega⟩ dJx4a65c_fastRemove_b59b0_19 (by decide) (fun _ => ?_) (fun z => absurd z (by omega))
  refine c_aload_n (j := 2) (x := b0) C dJx4a65c_fastRemove_b59b0_34 rfl ?_
  refine c_aload_n (j := 1) (x := a0) C dJx4a65c_fastRemove_b59b0_35 rfl ?_
  refine c_iload_n (j := 0) C dJx4a65c_fastRemove_b59b0_36 rfl ?_
  refine c_dup_x1 C dJx4a65c_fastRemove_b59b0_37 rfl rfl ?_
  refine c_put (z := (iv1 a0 2) - 1) (k := 2) C ck_0 dJx4a65c_fastRemove_b59b0_38 w1_79 (by decide) rfl t_a0 rfl rfl (by decide) rfl (by rfl) (by rfl) (fun iv2 pq2 => ?_)
  refine hv2 (W1.lsz pq2 t_a0 rfl (show 0 ≤ ((iv1 a0 2) - 1) ∧ ((iv1 a0 2) - 1) ≤ iv1 a0 2 by omega)) (F1.puti hX0 pq2 t_a0 rfl) (fun W2 F2 => ?_)
  refine c_null C dJx4a65c_fastRemove_b59b0_41 ?_
  have ll1 : 10 ≤ ln b0 ∧ ln b0 ≤ 400 := W2.len t_b0 rfl
  refine c_aastNO (z := (iv1 a0 2) - 1) C dJx4a65c_fastRemove_b59b0_42 t_b0 rfl (by omega) (by omega) (by omega) (fun rv1 pq3 => ⟨0, (by rw [Phi.putr hS pq3 t_b0 rfl]; exact Nat.le_refl _), ?_⟩)
  refine hv4 (show 0 ≤ iv2 a0 2 ∧ iv2 a0 2 ≤ 200 from W2.int t_a0 2) (show iv2 a0 2 = (iv1 a0 2) - 1 from by rw [pq2]; exact up2_s) (F2.putr hX0 pq3 t_b0 rfl) (show rv1 a0 1 = rv a0 1 from (by rw [pq3]; exact congrFun (upr_a (ne_ty t_a0 t_b0 (by decide))) _)) (fun ri3 ie2 F3 re1 => ?_)
  have W3 := W2.lnull (a := a0) (k := 4) pq3 t_b0 (by decide) rfl hcb (by decide) (show iv2 a0 2 ≤ ((((iv1 a0 2) - 1).toNat : Nat) : Int) by omega)
  rw [hed] at re1
  have pl1 := Phi.le W3 hS
  exact c_vret C dJx4a65c_fastRemove_b59b0_43 rfl (by decide) (rom0 hph pl1 (by decide)) ⟨rfl, rfl, rfl, rfl, F3, W3, ⟨by omega, fun j hj => (by rw [el_of re1, el_of hed, pq3, upr_j (by omega)])⟩, (fun bb tbb hbb => by
      have z1_ : iv1 bb 2 = iv bb 2 := (by rw [pq1]; exact up2_k hbb)
      have z2_ : iv2 bb 2 = iv bb 2 := Eq.trans (by rw [pq2]; exact up2_k hbb) z1_
      have e3_ : ∀ r : Nat, (r : Int) < iv bb 2 → el rv1 bb r = el rv bb r := fun r hr => el_kp W2 tbb (by rw [pq3]; exact congrFun (upr_a (ne_ty tbb t_b0 (by decide))) 1) (fun c tc hc j => by rw [pq3]; exact congrFun (upr_a (fun e => by rw [e, hcb] at hc; omega)) j) (by rw [z2_]; exact hr)
      exact ⟨z2_, e3_⟩)⟩
set_option maxHeartbeats 4000000 in
set_option maxRecDepth 100000 in
theorem C_remove_26 {l : Launch} {G : GT} {mi : Nat} {sk : Nat → Nat} {L : List Nat} {cl ln : Nat → Nat} {iv : Nat → Nat → Int} {rv : Nat → Nat → Option Nat}  {a0 : Nat} {i : Int} (hW : WT (g0 G) sk L cl ln iv rv) (hS : SKL sk L cl) (t_a0 : ty L cl a0 26) (h_i : -2147483648 ≤ i ∧ i ≤ 2147483647) (hi : i = iv a0 2 - 1 ∧ 0 ≤ i) : Mc l G mi (Phi (g0 G) sk) PHM yJx4a65c_remove_915e3 cJx4a65c_remove_915e3 4 (some (.object "java/lang/Object")) 2 [.ref a0, .int (iI i)] L cl ln iv rv 0 (fun v L2 cl2 ln2 iv2 rv2 => ∃ f : Nat, v = some (.ref f) ∧ L = L2 ∧ cl = cl2 ∧ ln = ln2 ∧ fT [26, 1004] L cl iv rv iv2 rv2 ∧ WT (g0 G) sk L2 cl2 ln2 iv2 rv2 ∧ ty L2 cl2 f 20 ∧ (iv2 a0 2 = iv a0 2 - 1 ∧ ∀ j : Nat, (j : Int) < iv a0 2 - 1 → el rv2 a0 j = el rv a0 j) ∧ (el rv a0 (iv a0 2 - 1).toNat = some f) ∧ (∀ bb, ty L cl bb 26 → bb ≠ a0 → iv2 bb 2 = iv bb 2 ∧ ∀ r : Nat, (r : Int) < iv bb 2 → el rv2 bb r = el rv bb r)) := by
  refine Mc.mk (by decide) (Nat.le_of_ble_eq_true rfl) ?_
  intro p e s m args below meth c A C hM
  refine hv3 (Phi.le hW hS) (show XT L cl ln L cl ln from XT.refl) (show fT [26, 1004] L cl iv rv iv rv from fT.refl) (fun hph hX0 hF0 => ?_)
  refine c_iload_n (j := 1) C dJx4a65c_remove_915e3_0 rfl ?_
  refine c_aload_n (j := 0) (x := a0) C dJx4a65c_remove_915e3_1 rfl ?_
  have ri1 : 0 ≤ iv a0 2 ∧ iv a0 2 ≤ 200 := hW.int t_a0 2
  refine c_get (k := 2) C ck_0 dJx4a65c_remove_915e3_2 w1_79 (by decide) t_a0 rfl rfl (by decide) rfl ?_
  refine d_callS (As := [.int (iI i), .int (iI (iv a0 2))]) (rest := []) C hM (C_checkIndex2 (i := i) (n := iv a0 2) hW hS  (by omega) (by omega) (by show 0 ≤ i ∧ i < (iv a0 2); omega)) dJx4a65c_remove_915e3_5 kS_Jx4a65c_118 rfl rfl (Nat.le_of_ble_eq_true rfl) ⟨(Nat.le_of_ble_eq_true rfl), (Nat.le_of_ble_eq_true rfl)⟩ hph hph (show 0 + 0 = 0 from rfl) (by decide) (fun rh1 Lh1 clh1 lnh1 ivh1 rvh1 h1 => ?_)
  obtain ⟨f1, rfl, rfl, rfl, rfl, rfl, rfl, rgf1, exf1⟩ := h1
  refine c_st (st2 := [.int (iI f1)]) rfl ?_
  have gf1 : f1 = i := exf1
  refine c_pop C dJx4a65c_remove_915e3_8 rfl ?_
  refine c_aload_n (j := 0) (x := a0) C dJx4a65c_remove_915e3_9 rfl ?_
  obtain ⟨eb1, eq1, teb1, ceb1, zeb1⟩ := hW.ed2 t_a0 rfl rfl (by omega)
  have lneb1 : 10 ≤ ln eb1 ∧ ln eb1 ≤ 400 := hW.len teb1 rfl
  refine c_getr (k := 1) C ck_0 dJx4a65c_remove_915e3_10 w1_78 (by decide) t_a0 rfl rfl (by decide) rfl eq1 ?_
  refine c_st (st2 := [.ref eb1]) rfl ?_
  refine c_astore_n (lv2 := [(2, .ref eb1), (0, .ref a0), (1, .int (iI i))]) C dJx4a65c_remove_915e3_13 (by decide) rfl ?_
  refine c_aload_n (j := 0) (x := eb1) C dJx4a65c_remove_915e3_14 rfl ?_
  refine c_iload_n (j := 2) C dJx4a65c_remove_915e3_15 rfl ?_
  have ll1 : 10 ≤ ln eb1 ∧ ln eb1 ≤ 400 := hW.len teb1 rfl
  obtain ⟨nb1, nq1, tnb1⟩ := hW.elem t_a0 rfl eq1 teb1 rfl rfl (i := i.toNat) (by omega)
  have tnb1 : ty L cl nb1 20 := tnb1
  refine c_aaldO C dJx4a65c_remove_915e3_16 teb1 rfl (by omega) (by omega) (by omega) nq1 ?_
  refine c_st (st2 := [.ref nb1]) rfl ?_
  refine c_astore_n (lv2 := [(3, .ref nb1), (2, .ref eb1), (0, .ref a0), (1, .int (iI i))]) C dJx4a65c_remove_915e3_17 (by decide) rfl ?_
  refine c_aload_n (j := 2) (x := a0) C dJx4a65c_remove_915e3_18 rfl ?_
  refine c_aload_n (j := 1) (x := eb1) C dJx4a65c_remove_915e3_19 rfl ?_
  refine c_iload_n (j := 3) C dJx4a65c_remove_915e3_20 rfl ?_
  refine d_callV (As := [.ref eb1, .int (iI i)]) (rest := []) C hM (C_fastRemove_26 (a0 := a0) (b0 := eb1) (i := i) hW hS t_a0 teb1 (by omega) eq1 ceb1 (by show i = iv a0 2 - 1 ∧ 0 ≤ i ∧ iv a0 2 ≤ ((ln eb1 : Nat) : Int); omega)) dJx4a65c_remove_915e3_21 kV_Jx4a65c_144 rfl t_a0 rfl rfl (by decide) ck_0 rfl (Nat.le_of_ble_eq_true rfl) ⟨(Nat.le_of_ble_eq_true rfl), (Nat.le_of_ble_eq_true rfl)⟩ hph hph (show 0 + 0 = 0 from rfl) (by decide) (fun rh2 Lh2 clh2 lnh2 ivh2 rvh2 h2 => ?_)
  obtain ⟨rfl, rfl, rfl, rfl, fl2, W2, exf2, o26f2⟩ := h2
  have F1 := hF0.call hX0 fl2 rfl
  refine c_st (st2 := []) rfl ?_
  refine hv2 (show 0 ≤ ivh2 a0 2 ∧ ivh2 a0 2 ≤ 200 from W2.int t_a0 2) (show ivh2 a0 2 = iv a0 2 - 1 ∧ ∀ j : Nat, (j : Int) < iv a0 2 - 1 → el rvh2 a0 j = el rv a0 j from exf2) (fun ri2 gf2 => ?_)
  refine c_aload_n (j := 0) (x := nb1) C dJx4a65c_remove_915e3_24 rfl ?_
  have pl1 := Phi.le W2 hS
  exact c_aret (x := some nb1) C dJx4a65c_remove_915e3_25 rfl (Or.inl ⟨_, rfl⟩) (by decide) (rom0 hph pl1 (by decide)) ⟨nb1, rfl, rfl, rfl, rfl, F1, W2, tnb1, ⟨by omega, fun j hj => exf2.2 j (by omega)⟩, (by rw [show (iv a0 2 - 1).toNat = i.toNat by omega]; exact ((el_of eq1).trans nq1)), (fun bb tbb hbb => by
      refine hv2 (show ivh2 bb 2 = iv bb 2 from ((o26f2 bb tbb hbb)).1) (show ∀ r : Nat, (r : Int) < iv bb 2 → el rvh2 bb r = el rv bb r from fun r hr => ((o26f2 bb tbb hbb)).2 r hr) (fun z1_ e1_ => ?_)
      exact ⟨z1_, e1_⟩)⟩
end
section
def TX (L : List Nat) (cl : Nat → Nat) (L2 : List Nat) (cl2 : Nat → Nat) : Prop := ∀ b T, raw T = false → ty L cl b T → ty L2 cl2 b T
def KP (L : List Nat) (cl : Nat → Nat) (C Q S X : Nat → Prop) (N : Nat → Nat → Prop) (iv : Nat → Nat → Int) (rv : Nat → Nat → Option Nat) (iv2 : Nat → Nat → Int) (rv2 : Nat → Nat → Option Nat) : Prop := (∀ b, ty L cl b 100 → rv2 b 2 = rv b 2 ∧ rv2 b 3 = rv b 3 ∧ rv2 b 4 = rv b 4 ∧ rv2 b 5 = rv b 5 ∧ rv2 b 6 = rv b 6) ∧ (∀ b, ty L cl b 20 → iv2 b 0 = iv b 0 ∧ rv2 b 1 = rv b 1 ∧ rv2 b 2 = rv b 2) ∧ (∀ b, ty L cl b 20 → ¬ C b → iv2 b 3 = iv b 3) ∧ (∀ b, ty L cl b 21 → iv2 b 3 = iv b 3 ∧ rv2 b 2 = rv b 2) ∧ (∀ b, ty L cl b 65 → ∀ k, iv2 b k = iv b k) ∧ (∀ b, ty L cl b 66 → ∀ k, iv2 b k = iv b k) ∧ (∀ b, ty L cl b 68 → ∀ k, ¬ N b k → rv2 b k = rv b k) ∧ (∀ b, ty L cl b 26 → ¬ Q b → iv2 b 2 = iv b 2 ∧ ∀ r : Nat, (r : Int) < iv b 2 → el rv2 b r = el rv b r) ∧ (∀ b, ty L cl b 12 → (¬ S b → iv2 b 2 = iv b 2 ∧ rv2 b 1 = rv b 1)) ∧ (∀ b, ty L cl b 42 → ¬ X b → ∀ k, iv2 b k = iv b k)
theorem KP.tb {L : List Nat} {cl : Nat → Nat} {C Q S X : Nat → Prop} {N : Nat → Nat → Prop} {iv : Nat → Nat → Int} {rv : Nat → Nat → Option Nat} {iv2 : Nat → Nat → Int} {rv2 : Nat → Nat → Option Nat} (h : KP L cl C Q S X N iv rv iv2 rv2) : ∀ b, ty L cl b 100 → rv2 b 2 = rv b 2 ∧ rv2 b 3 = rv b 3 ∧ rv2 b 4 = rv b 4 ∧ rv2 b 5 = rv b 5 ∧ rv2 b 6 = rv b 6 := h.1
theorem KP.rw0 {L : List Nat} {cl : Nat → Nat} {C Q S X : Nat → Prop} {N : Nat → Nat → Prop} {iv : Nat → Nat → Int} {rv : Nat → Nat → Option Nat} {iv2 : Nat → Nat → Int} {rv2 : Nat → Nat → Option Nat} (h : KP L cl C Q S X N iv rv iv2 rv2) : ∀ b, ty L cl b 20 → iv2 b 0 = iv b 0 ∧ rv2 b 1 = rv b 1 ∧ rv2 b 2 = rv b 2 := h.2.1
theorem KP.rwc {L : List Nat} {cl : Nat → Nat} {C Q S X : Nat → Prop} {N : Nat → Nat → Prop} {iv : Nat → Nat → Int} {rv : Nat → Nat → Option Nat} {iv2 : Nat → Nat → Int} {rv2 : Nat → Nat → Option Nat} (h : KP L cl C Q S X N iv rv iv2 rv2) : ∀ b, ty L cl b 20 → ¬ C b → iv2 b 3 = iv b 3 := h.2.2.1
theorem KP.ch {L : List Nat} {cl : Nat → Nat} {C Q S X : Nat → Prop} {N : Nat → Nat → Prop} {iv : Nat → Nat → Int} {rv : Nat → Nat → Option Nat} {iv2 : Nat → Nat → Int} {rv2 : Nat → Nat → Option Nat} (h : KP L cl C Q S X N iv rv iv2 rv2) : ∀ b, ty L cl b 21 → iv2 b 3 = iv b 3 ∧ rv2 b 2 = rv b 2 := h.2.2.2.1
theorem KP.le {L : List Nat} {cl : Nat → Nat} {C Q S X : Nat → Prop} {N : Nat → Nat → Prop} {iv : Nat → Nat → Int} {rv : Nat → Nat → Option Nat} {iv2 : Nat → Nat → Int} {rv2 : Nat → Nat → Option Nat} (h : KP L cl C Q S X N iv rv iv2 rv2) : ∀ b, ty L cl b 65 → ∀ k, iv2 b k = iv b k := h.2.2.2.2.1
theorem KP.ce {L : List Nat} {cl : Nat → Nat} {C Q S X : Nat → Prop} {N : Nat → Nat → Prop} {iv : Nat → Nat → Int} {rv : Nat → Nat → Option Nat} {iv2 : Nat → Nat → Int} {rv2 : Nat → Nat → Option Nat} (h : KP L cl C Q S X N iv rv iv2 rv2) : ∀ b, ty L cl b 66 → ∀ k, iv2 b k = iv b k := h.2.2.2.2.2.1
theorem KP.nd {L : List Nat} {cl : Nat → Nat} {C Q S X : Nat → Prop} {N : Nat → Nat → Prop} {iv : Nat → Nat → Int} {rv : Nat → Nat → Option Nat} {iv2 : Nat → Nat → Int} {rv2 : Nat → Nat → Option Nat} (h : KP L cl C Q S X N iv rv iv2 rv2) : ∀ b, ty L cl b 68 → ∀ k, ¬ N b k → rv2 b k = rv b k := h.2.2.2.2.2.2.1
theorem KP.li {L : List Nat} {cl : Nat → Nat} {C Q S X : Nat → Prop} {N : Nat → Nat → Prop} {iv : Nat → Nat → Int} {rv : Nat → Nat → Option Nat} {iv2 : Nat → Nat → Int} {rv2 : Nat → Nat → Option Nat} (h : KP L cl C Q S X N iv rv iv2 rv2) : ∀ b, ty L cl b 26 → ¬ Q b → iv2 b 2 = iv b 2 ∧ ∀ r : Nat, (r : Int) < iv b 2 → el rv2 b r = el rv b r := h.2.2.2.2.2.2.2.1
theorem KP.it {L : List Nat} {cl : Nat → Nat} {C Q S X : Nat → Prop} {N : Nat → Nat → Prop} {iv : Nat → Nat → Int} {rv : Nat → Nat → Option Nat} {iv2 : Nat → Nat → Int} {rv2 : Nat → Nat → Option Nat} (h : KP L cl C Q S X N iv rv iv2 rv2) : ∀ b, ty L cl b 12 → (¬ S b → iv2 b 2 = iv b 2 ∧ rv2 b 1 = rv b 1) := h.2.2.2.2.2.2.2.2.1
theorem KP.ia {L : List Nat} {cl : Nat → Nat} {C Q S X : Nat → Prop} {N : Nat → Nat → Prop} {iv : Nat → Nat → Int} {rv : Nat → Nat → Option Nat} {iv2 : Nat → Nat → Int} {rv2 : Nat → Nat → Option Nat} (h : KP L cl C Q S X N iv rv iv2 rv2) : ∀ b, ty L cl b 42 → ¬ X b → ∀ k, iv2 b k = iv b k := h.2.2.2.2.2.2.2.2.2
def kpl (ls : List Nat) : Bool := ([100, 20, 21, 65, 66, 68, 26, 1004, 12, 42] : List Nat).all (fun t => !ls.contains t)
def okI (T k : Nat) : Bool := match T with
  | 20 => k != 0 && k != 3
  | 21 => k != 3
  | 65 => false
  | 66 => false
  | 42 => false
  | 26 => k != 2
  | 12 => k != 2
  | _ => true
def okR (T k : Nat) : Bool := match T with
  | 100 => !([2, 3, 4, 5, 6] : List Nat).contains k
  | 20 => k != 1 && k != 2
  | 21 => k != 2
  | 68 => false
  | 26 => k != 1
  | 1004 => false
  | 12 => k != 1
  | _ => true
section KPS
variable {g : Nat} {sk : Nat → Nat} {L L1 L2 : List Nat} {cl ln cl1 ln1 cl2 ln2 : Nat → Nat} {iv iv1 iv2 : Nat → Nat → Int} {rv rv1 rv2 : Nat → Nat → Option Nat} {C Q S X C2 Q2 S2 X2 : Nat → Prop} {N N2 : Nat → Nat → Prop} {ls : List Nat} {a k q t T : Nat} {z : Int} {y : Option Nat}
theorem TX.refl : TX L cl L cl := fun _ _ _ h => h
theorem TX.xt (h : TX L cl L1 cl1) (hX : XT L1 cl1 ln1 L2 cl2 ln2) : TX L cl L2 cl2 := fun b T hr hb => hX.ty (h b T hr hb)
theorem TX.rt (h : TX L cl L1 cl1) (hc : cl2 = va_up cl1 q t) (tq : ty L1 cl1 q T) (hr : raw T = true) : TX L cl L1 cl2 := fun b T2 hr2 hb => ⟨(h b T2 hr2 hb).1, by rw [hc, va_up_ne _ _ (ne_ty (h b T2 hr2 hb) tq (fun e => by rw [e, hr] at hr2; cases hr2))]; exact (h b T2 hr2 hb).2⟩
theorem KP.refl : KP L cl C Q S X N iv rv iv rv := ⟨fun _ _ => ⟨rfl, rfl, rfl, rfl, rfl⟩, fun _ _ => ⟨rfl, rfl, rfl⟩, fun _ _ _ => rfl, fun _ _ => ⟨rfl, rfl⟩, fun _ _ _ => rfl, fun _ _ _ => rfl, fun _ _ _ _ => rfl, fun _ _ _ => ⟨rfl, fun _ _ => rfl⟩, fun _ _ _ => ⟨rfl, rfl⟩, fun _ _ _ _ => rfl⟩
theorem KP.trans (h : KP L cl C Q S X N iv rv iv1 rv1) (hX : TX L cl L1 cl1) (h2 : KP L1 cl1 C Q S X N iv1 rv1 iv2 rv2) : KP L cl C Q S X N iv rv iv2 rv2 := by
  refine ⟨fun b tb => ?_, fun b tb => ?_, fun b tb hc => ?_, fun b tb => ?_, fun b tb k => ?_, fun b tb k => ?_, fun b tb k hn => ?_, fun b tb hq => ?_, fun b tb hs => ?_, fun b tb hx k => ?_⟩
  · have q1 := h.tb b tb
    have q2 := h2.tb b (hX b _ rfl tb)
    exact ⟨q2.1.trans q1.1, q2.2.1.trans q1.2.1, q2.2.2.1.trans q1.2.2.1, q2.2.2.2.1.trans q1.2.2.2.1, q2.2.2.2.2.trans q1.2.2.2.2⟩
  · have q1 := h.rw0 b tb
    have q2 := h2.rw0 b (hX b _ rfl tb)
    exact ⟨q2.1.trans q1.1, q2.2.1.trans q1.2.1, q2.2.2.trans q1.2.2⟩
  · exact (h2.rwc b (hX b _ rfl tb) hc).trans (h.rwc b tb hc)
  · have q1 := h.ch b tb
    have q2 := h2.ch b (hX b _ rfl tb)
    exact ⟨q2.1.trans q1.1, q2.2.trans q1.2⟩
  · exact (h2.le b (hX b _ rfl tb) k).trans (h.le b tb k)
  · exact (h2.ce b (hX b _ rfl tb) k).trans (h.ce b tb k)
  · exact (h2.nd b (hX b _ rfl tb) k hn).trans (h.nd b tb k hn)
  · have q1 := h.li b tb hq
    have q2 := h2.li b (hX b _ rfl tb) hq
    exact ⟨q2.1.trans q1.1, fun r hr => (q2.2 r (by rw [q1.1]; exact hr)).trans (q1.2 r hr)⟩
  · have q1 := h.it b tb hs
    have q2 := h2.it b (hX b _ rfl tb) hs
    exact ⟨q2.1.trans q1.1, q2.2.trans q1.2⟩
  · exact (h2.ia b (hX b _ rfl tb) hx k).trans (h.ia b tb hx k)
theorem KP.mono (h : KP L cl C Q S X N iv rv iv2 rv2) (hC : ∀ b ∈ L, C b → C2 b) (hQ : ∀ b ∈ L, Q b → Q2 b) (hS : ∀ b ∈ L, S b → S2 b) (hX : ∀ b ∈ L, X b → X2 b) (hN : ∀ b ∈ L, ∀ k, N b k → N2 b k) : KP L cl C2 Q2 S2 X2 N2 iv rv iv2 rv2 :=
  ⟨h.tb, h.rw0, fun b tb q => h.rwc b tb (fun e => q (hC b tb.1 e)), h.ch, h.le, h.ce, fun b tb k q => h.nd b tb k (fun e => q (hN b tb.1 k e)), fun b tb q => h.li b tb (fun e => q (hQ b tb.1 e)), fun b tb q => h.it b tb (fun e => q (hS b tb.1 e)), fun b tb q => h.ia b tb (fun e => q (hX b tb.1 e))⟩
theorem kpl_no (h : kpl ls = true) : ls.contains 100 = false ∧ ls.contains 20 = false ∧ ls.contains 21 = false ∧ ls.contains 65 = false ∧ ls.contains 66 = false ∧ ls.contains 68 = false ∧ ls.contains 26 = false ∧ ls.contains 1004 = false ∧ ls.contains 12 = false ∧ ls.contains 42 = false := by
  have g : ∀ t, t ∈ ([100, 20, 21, 65, 66, 68, 26, 1004, 12, 42] : List Nat) → ls.contains t = false := fun t ht => by have := List.all_eq_true.mp h t ht; simpa using this
  exact ⟨g _ (by decide), g _ (by decide), g _ (by decide), g _ (by decide), g _ (by decide), g _ (by decide), g _ (by decide), g _ (by decide), g _ (by decide), g _ (by decide)⟩
theorem KP.fr (h : WT g sk L cl ln iv rv) (hF : fT ls L cl iv rv iv2 rv2) (hl : kpl ls = true) : KP L cl C Q S X N iv rv iv2 rv2 := by
  obtain ⟨a1, a2, a3, a4, a5, a6, a7, a8, a9, a10⟩ := kpl_no hl
  exact ⟨fun b tb => ⟨hF.r tb a1 2, hF.r tb a1 3, hF.r tb a1 4, hF.r tb a1 5, hF.r tb a1 6⟩, fun b tb => ⟨hF.i tb a2 0, hF.r tb a2 1, hF.r tb a2 2⟩, fun b tb _ => hF.i tb a2 3, fun b tb => ⟨hF.i tb a3 3, hF.r tb a3 2⟩, fun b tb k => hF.i tb a4 k, fun b tb k => hF.i tb a5 k, fun b tb k _ => hF.r tb a6 k, fun b tb _ => ⟨hF.i tb a7 2, fun r hr => el_kp h tb (hF.r tb a7 1) (fun b2 tb2 _ k => hF.r tb2 a8 k) hr⟩, fun b tb _ => ⟨hF.i tb a9 2, hF.r tb a9 1⟩, fun b tb _ k => hF.i tb a10 k⟩
theorem KP.call (h : KP L cl C Q S X N iv rv iv1 rv1) (hX : TX L cl L1 cl1) (hW : WT g sk L1 cl1 ln1 iv1 rv1) (hF : fT ls L1 cl1 iv1 rv1 iv2 rv2) (hl : kpl ls = true) : KP L cl C Q S X N iv rv iv2 rv2 := h.trans hX (KP.fr hW hF hl)
theorem KP.l26 (h : WT g sk L cl ln iv rv) (hF : fT [26, 1004] L cl iv rv iv2 rv2) (ho : ∀ bb, ty L cl bb 26 → bb ≠ a → iv2 bb 2 = iv bb 2 ∧ ∀ r : Nat, (r : Int) < iv bb 2 → el rv2 bb r = el rv bb r) : KP L cl C (fun b => b = a) S X N iv rv iv2 rv2 :=
  ⟨fun b tb => ⟨hF.r tb rfl 2, hF.r tb rfl 3, hF.r tb rfl 4, hF.r tb rfl 5, hF.r tb rfl 6⟩, fun b tb => ⟨hF.i tb rfl 0, hF.r tb rfl 1, hF.r tb rfl 2⟩, fun b tb _ => hF.i tb rfl 3, fun b tb => ⟨hF.i tb rfl 3, hF.r tb rfl 2⟩, fun b tb k => hF.i tb rfl k, fun b tb k => hF.i tb rfl k, fun b tb k _ => hF.r tb rfl k, fun b tb hq => ho b tb hq, fun b tb _ => ⟨hF.i tb rfl 2, hF.r tb rfl 1⟩, fun b tb _ k => hF.i tb rfl k⟩
theorem KP.i12 (h : WT g sk L cl ln iv rv) (hF : fT ls L cl iv rv iv2 rv2) (hl : kpl (ls.filter (fun t => t != 12 && t != 42)) = true) (ho : ∀ bb, ty L cl bb 12 → bb ≠ a → iv2 bb 2 = iv bb 2 ∧ rv2 bb 1 = rv bb 1) (hx : ∀ bb, ty L cl bb 42 → ¬ X bb → ∀ k, iv2 bb k = iv bb k) : KP L cl C Q (fun b => b = a) X N iv rv iv2 rv2 := by
  obtain ⟨a1, a2, a3, a4, a5, a6, a7, a8, _, _⟩ := kpl_no hl
  have g : ∀ t, (t != 12 && t != 42) = true → (ls.filter (fun t => t != 12 && t != 42)).contains t = false → ls.contains t = false := by
    intro t ht hc
    cases e : ls.contains t with
    | false => rfl
    | true =>
      exfalso
      have m : t ∈ ls.filter (fun t => t != 12 && t != 42) := List.mem_filter.mpr ⟨by simpa using e, ht⟩
      have : (ls.filter (fun t => t != 12 && t != 42)).contains t = true := by simpa using m
      rw [this] at hc; cases hc
  have b1 := g _ rfl a1; have b2 := g _ rfl a2; have b3 := g _ rfl a3; have b4 := g _ rfl a4; have b5 := g _ rfl a5; have b6 := g _ rfl a6; have b7 := g _ rfl a7; have b8 := g _ rfl a8
  exact ⟨fun b tb => ⟨hF.r tb b1 2, hF.r tb b1 3, hF.r tb b1 4, hF.r tb b1 5, hF.r tb b1 6⟩, fun b tb => ⟨hF.i tb b2 0, hF.r tb b2 1, hF.r tb b2 2⟩, fun b tb _ => hF.i tb b2 3, fun b tb => ⟨hF.i tb b3 3, hF.r tb b3 2⟩, fun b tb k => hF.i tb b4 k, fun b tb k => hF.i tb b5 k, fun b tb k _ => hF.r tb b6 k, fun b tb _ => ⟨hF.i tb b7 2, fun r hr => el_kp h tb (hF.r tb b7 1) (fun c tc _ k => hF.r tc b8 k) hr⟩, fun b tb hq => ho b tb hq, fun b tb hq k => hx b tb hq k⟩
theorem KP.sl (h : WT g sk L cl ln iv rv) (hF : fT [T] L cl iv rv iv2 rv2) (hT : T = 65 ∨ T = 66) (ho : ∀ bb, ty L cl bb T → ∀ k, iv2 bb k = iv bb k) : KP L cl C Q S X N iv rv iv2 rv2 := by
  rcases hT with rfl | rfl
  · exact ⟨fun b tb => ⟨hF.r tb rfl 2, hF.r tb rfl 3, hF.r tb rfl 4, hF.r tb rfl 5, hF.r tb rfl 6⟩, fun b tb => ⟨hF.i tb rfl 0, hF.r tb rfl 1, hF.r tb rfl 2⟩, fun b tb _ => hF.i tb rfl 3, fun b tb => ⟨hF.i tb rfl 3, hF.r tb rfl 2⟩, fun b tb k => ho b tb k, fun b tb k => hF.i tb rfl k, fun b tb k _ => hF.r tb rfl k, fun b tb _ => ⟨hF.i tb rfl 2, fun r hr => el_kp h tb (hF.r tb rfl 1) (fun c tc _ k => hF.r tc rfl k) hr⟩, fun b tb _ => ⟨hF.i tb rfl 2, hF.r tb rfl 1⟩, fun b tb _ k => hF.i tb rfl k⟩
  · exact ⟨fun b tb => ⟨hF.r tb rfl 2, hF.r tb rfl 3, hF.r tb rfl 4, hF.r tb rfl 5, hF.r tb rfl 6⟩, fun b tb => ⟨hF.i tb rfl 0, hF.r tb rfl 1, hF.r tb rfl 2⟩, fun b tb _ => hF.i tb rfl 3, fun b tb => ⟨hF.i tb rfl 3, hF.r tb rfl 2⟩, fun b tb k => hF.i tb rfl k, fun b tb k => ho b tb k, fun b tb k _ => hF.r tb rfl k, fun b tb _ => ⟨hF.i tb rfl 2, fun r hr => el_kp h tb (hF.r tb rfl 1) (fun c tc _ k => hF.r tc rfl k) hr⟩, fun b tb _ => ⟨hF.i tb rfl 2, hF.r tb rfl 1⟩, fun b tb _ k => hF.i tb rfl k⟩
theorem KP.new (h : KP L cl C Q S X N iv rv iv1 rv1) (hX : TX L cl L1 cl1) (hW : WT g sk L1 cl1 ln1 iv1 rv1) (hq : q ∉ L1) (hi : iv2 = up0 iv1 q 0) (hr : rv2 = up0 rv1 q none) : KP L cl C Q S X N iv rv iv2 rv2 :=
  h.call (ls := []) hX hW (fun b hb _ => ⟨by rw [hi, up0_a (ne_in hb hq)], by rw [hr, up0_a (ne_in hb hq)]⟩) rfl
theorem okI_k (h : okI T k = true) : (T ≠ 20 ∨ (k ≠ 0 ∧ k ≠ 3)) ∧ (T ≠ 21 ∨ k ≠ 3) ∧ T ≠ 65 ∧ T ≠ 66 ∧ T ≠ 42 ∧ (T ≠ 26 ∨ k ≠ 2) ∧ (T ≠ 12 ∨ k ≠ 2) := by
  unfold okI at h
  split at h <;> simp_all
theorem okR_k (h : okR T k = true) : (T ≠ 100 ∨ (k ≠ 2 ∧ k ≠ 3 ∧ k ≠ 4 ∧ k ≠ 5 ∧ k ≠ 6)) ∧ (T ≠ 20 ∨ (k ≠ 1 ∧ k ≠ 2)) ∧ (T ≠ 21 ∨ k ≠ 2) ∧ T ≠ 68 ∧ (T ≠ 26 ∨ k ≠ 1) ∧ T ≠ 1004 ∧ (T ≠ 12 ∨ k ≠ 1) := by
  unfold okR at h
  split at h <;> simp_all
theorem up2_ty {b Tb j : Nat} (hb : ty L1 cl1 b Tb) (ha : ty L1 cl1 a T) (h : T ≠ Tb ∨ k ≠ j) : up2 iv1 a k z b j = iv1 b j := by
  rcases h with e | e
  · exact up2_k (ne_ty hb ha (Ne.symm e))
  · exact up2_j (Ne.symm e)
theorem upr_ty {b Tb j : Nat} (hb : ty L1 cl1 b Tb) (ha : ty L1 cl1 a T) (h : T ≠ Tb ∨ k ≠ j) : upr rv1 a k y b j = rv1 b j := by
  rcases h with e | e
  · exact congrFun (upr_a (ne_ty hb ha (Ne.symm e))) j
  · exact upr_j (Ne.symm e)
theorem KP.puti (h : KP L cl C Q S X N iv rv iv1 rv1) (hX : TX L cl L1 cl1) (he : iv2 = up2 iv1 a k z) (ha : ty L1 cl1 a T) (hk : okI T k = true) : KP L cl C Q S X N iv rv iv2 rv1 := by
  obtain ⟨a1, a2, a3, a4, a5, a6, a7⟩ := okI_k hk
  subst he
  refine h.trans hX ⟨fun _ _ => ⟨rfl, rfl, rfl, rfl, rfl⟩, fun b tb => ⟨up2_ty tb ha (by omega), rfl, rfl⟩, fun b tb _ => up2_ty tb ha (by omega), fun b tb => ⟨up2_ty tb ha (by omega), rfl⟩, fun b tb j => up2_ty tb ha (Or.inl a3), fun b tb j => up2_ty tb ha (Or.inl a4), fun _ _ _ _ => rfl, fun b tb _ => ⟨up2_ty tb ha (by omega), fun _ _ => rfl⟩, fun b tb _ => ⟨up2_ty tb ha (by omega), rfl⟩, fun b tb _ j => up2_ty tb ha (Or.inl a5)⟩
theorem KP.putiN (h : KP L cl C Q S X N iv rv iv1 rv1) (he : iv2 = up2 iv1 a k z) (hn : a ∉ L) : KP L cl C Q S X N iv rv iv2 rv1 := by
  subst he
  have g : ∀ b, b ∈ L → ∀ j, up2 iv1 a k z b j = iv1 b j := fun b hb j => up2_k (ne_in hb hn)
  exact ⟨h.tb, fun b tb => ⟨(g b tb.1 0).trans (h.rw0 b tb).1, (h.rw0 b tb).2⟩, fun b tb hc => (g b tb.1 3).trans (h.rwc b tb hc), fun b tb => ⟨(g b tb.1 3).trans (h.ch b tb).1, (h.ch b tb).2⟩, fun b tb j => (g b tb.1 j).trans (h.le b tb j), fun b tb j => (g b tb.1 j).trans (h.ce b tb j), h.nd, fun b tb hq => ⟨(g b tb.1 2).trans (h.li b tb hq).1, (h.li b tb hq).2⟩, fun b tb hs => ⟨(g b tb.1 2).trans (h.it b tb hs).1, (h.it b tb hs).2⟩, fun b tb hx j => (g b tb.1 j).trans (h.ia b tb hx j)⟩
theorem KP.putiC (h : KP L cl C Q S X N iv rv iv1 rv1) (hX : TX L cl L1 cl1) (he : iv2 = up2 iv1 a 3 z) (ha : ty L1 cl1 a 20) (hc : C a) : KP L cl C Q S X N iv rv iv2 rv1 := by
  subst he
  have g : ∀ b T, ty L cl b T → raw T = false → T ≠ 20 → ∀ j, up2 iv1 a 3 z b j = iv1 b j := fun b T tb hr ht j => up2_ty (hX b T hr tb) ha (Or.inl (Ne.symm ht))
  exact ⟨h.tb, fun b tb => ⟨(up2_ty (hX b _ rfl tb) ha (Or.inr (by decide))).trans (h.rw0 b tb).1, (h.rw0 b tb).2⟩, fun b tb hcb => (up2_k (fun e => hcb (by rw [e]; exact hc))).trans (h.rwc b tb hcb), fun b tb => ⟨(g b _ tb rfl (by decide) 3).trans (h.ch b tb).1, (h.ch b tb).2⟩, fun b tb j => (g b _ tb rfl (by decide) j).trans (h.le b tb j), fun b tb j => (g b _ tb rfl (by decide) j).trans (h.ce b tb j), h.nd, fun b tb hq => ⟨(g b _ tb rfl (by decide) 2).trans (h.li b tb hq).1, (h.li b tb hq).2⟩, fun b tb hs => ⟨(g b _ tb rfl (by decide) 2).trans (h.it b tb hs).1, (h.it b tb hs).2⟩, fun b tb hx j => (g b _ tb rfl (by decide) j).trans (h.ia b tb hx j)⟩
theorem KP.putr (h : KP L cl C Q S X N iv rv iv1 rv1) (hX : TX L cl L1 cl1) (hW : WT g sk L1 cl1 ln1 iv1 rv1) (he : rv2 = upr rv1 a k y) (ha : ty L1 cl1 a T) (hk : okR T k = true) : KP L cl C Q S X N iv rv iv1 rv2 := by
  obtain ⟨a1, a2, a3, a4, a5, a6, a7⟩ := okR_k hk
  subst he
  refine h.trans hX ⟨fun b tb => ⟨upr_ty tb ha (by omega), upr_ty tb ha (by omega), upr_ty tb ha (by omega), upr_ty tb ha (by omega), upr_ty tb ha (by omega)⟩, fun b tb => ⟨rfl, upr_ty tb ha (by omega), upr_ty tb ha (by omega)⟩, fun _ _ _ => rfl, fun b tb => ⟨rfl, upr_ty tb ha (by omega)⟩, fun _ _ _ => rfl, fun _ _ _ => rfl, fun b tb j _ => upr_ty tb ha (Or.inl a4), fun b tb _ => ⟨rfl, fun r hr => el_kp hW tb (upr_ty tb ha (by omega)) (fun c tc _ j => upr_ty tc ha (Or.inl a6)) hr⟩, fun b tb _ => ⟨rfl, upr_ty tb ha (by omega)⟩, fun _ _ _ _ => rfl⟩
theorem KP.putrI (h : KP L cl C Q S X N iv rv iv1 rv1) (hX : TX L cl L1 cl1) (hW : WT g sk L1 cl1 ln1 iv1 rv1) (he : rv2 = upr rv1 a k y) (ha : ty L1 cl1 a 68) (hn : N a k) : KP L cl C Q S X N iv rv iv1 rv2 := by
  subst he
  refine h.trans hX ⟨fun b tb => ⟨upr_ty tb ha (Or.inl (by decide)), upr_ty tb ha (Or.inl (by decide)), upr_ty tb ha (Or.inl (by decide)), upr_ty tb ha (Or.inl (by decide)), upr_ty tb ha (Or.inl (by decide))⟩, fun b tb => ⟨rfl, upr_ty tb ha (Or.inl (by decide)), upr_ty tb ha (Or.inl (by decide))⟩, fun _ _ _ => rfl, fun b tb => ⟨rfl, upr_ty tb ha (Or.inl (by decide))⟩, fun _ _ _ => rfl, fun _ _ _ => rfl, fun b tb j hj => ?_, fun b tb _ => ⟨rfl, fun r hr => el_kp hW tb (upr_ty tb ha (Or.inl (by decide))) (fun c tc _ j => upr_ty tc ha (Or.inl (by decide))) hr⟩, fun b tb _ => ⟨rfl, upr_ty tb ha (Or.inl (by decide))⟩, fun _ _ _ _ => rfl⟩
  by_cases e : b = a
  · subst e
    by_cases e2 : j = k
    · subst e2; exact absurd hn hj
    · exact upr_j e2
  · exact congrFun (upr_a e) j
end KPS
end
section
theorem bt_100 {x : Nat} (h : bt x = 100) : 100 ≤ x ∧ x < 130 := by
  unfold bt at h
  split at h
  · split at h
    · omega
    · split at h <;> omega
  · split at h
    · omega
    · split at h <;> omega
set_option maxHeartbeats 4000000 in
set_option maxRecDepth 100000 in
theorem C_countFind {l : Launch} {G : GT} {mi : Nat} {sk : Nat → Nat} {L : List Nat} {cl ln : Nat → Nat} {iv : Nat → Nat → Int} {rv : Nat → Nat → Option Nat}  {a0 : Nat} {i : Int} (hW : WT (g0 G) sk L cl ln iv rv) (hS : SKL sk L cl) (t_a0 : ty L cl a0 15) (h_i : -2147483648 ≤ i ∧ i ≤ 2147483647)  : Mc l G mi (Phi (g0 G) sk) PHM yX6_countFind cX6_countFind 2 none 0 [.ref a0, .int (iI i)] L cl ln iv rv 0 (fun v L2 cl2 ln2 iv2 rv2 => v = none ∧ L = L2 ∧ cl = cl2 ∧ ln = ln2 ∧ rv = rv2 ∧ fT [55] L cl iv rv iv2 rv2 ∧ WT (g0 G) sk L2 cl2 ln2 iv2 rv2 ∧ (True)) := by
  refine Mc.mk (by decide) (Nat.le_of_ble_eq_true rfl) ?_
  intro p e s m args below meth c A C hM
  refine hv3 (Phi.le hW hS) (show XT L cl ln L cl ln from XT.refl) (show fT [55] L cl iv rv iv rv from fT.refl) (fun hph hX0 hF0 => ?_)
  refine c_iload_n (j := 1) C dX6_countFind_0 rfl ?_
  refine c_if_lt (tgt := 23) C ⟨by omega, by omega⟩ dX6_countFind_1 (by decide) (fun c1 => ?_) (fun c1 => ?_)
  · exact c_vret C dX6_countFind_23 rfl (by decide) (rom0 hph hph (by decide)) ⟨rfl, rfl, rfl, rfl, rfl, hF0, hW, trivial⟩
  · refine c_iload_n (j := 1) C dX6_countFind_4 rfl ?_
    refine c_aload_n (j := 0) (x := a0) C dX6_countFind_5 rfl ?_
    obtain ⟨rb1, rq1, trb1⟩ := hW.ref t_a0 8 rfl rfl rfl
    have lnrb1 : 5 ≤ ln rb1 ∧ ln rb1 ≤ 5 := hW.len trb1 rfl
    refine c_getr (k := 8) C ck_7 dX6_countFind_6 w1_150 (by decide) t_a0 rfl rfl (by decide) rfl rq1 ?_
    refine c_st (st2 := [.ref rb1, .int (iI i)]) rfl ?_
    have ll1 : 5 ≤ ln rb1 ∧ ln rb1 ≤ 5 := hW.len trb1 rfl
    refine c_alenI C dX6_countFind_9 trb1 rfl ?_
    refine c_icmp_ge (tgt := 23) C ⟨by omega, by omega⟩ ⟨by omega, by omega⟩ dX6_countFind_10 (by decide) (fun c2 => ?_) (fun c2 => ?_)
    · exact c_vret C dX6_countFind_23 rfl (by decide) (rom0 hph hph (by decide)) ⟨rfl, rfl, rfl, rfl, rfl, hF0, hW, trivial⟩
    · refine c_aload_n (j := 0) (x := a0) C dX6_countFind_13 rfl ?_
      refine c_getr (k := 8) C ck_7 dX6_countFind_14 w1_150 (by decide) t_a0 rfl rfl (by decide) rfl rq1 ?_
      refine c_st (st2 := [.ref rb1]) rfl ?_
      refine c_iload_n (j := 1) C dX6_countFind_17 rfl ?_
      refine c_dup2 C dX6_countFind_18 rfl rfl ?_
      refine c_iald C dX6_countFind_19 trb1 rfl (by omega) (by omega) (by omega) ?_
      have ri1 : (-2147483648) ≤ iv rb1 i.toNat ∧ iv rb1 i.toNat ≤ 2147483647 := hW.int trb1 i.toNat
      refine c_iconst C dX6_countFind_20 ?_
      refine c_iadd C dX6_countFind_21 ?_
      obtain ⟨zz1, hzz1, ezz1⟩ := iI_of (iI ((iv rb1 i.toNat) + 1))
      refine c_st (st2 := [.int (iI zz1), .int (iI i), .ref rb1]) (by rw [ezz1]) ?_
      refine c_iast (x := zz1) C dX6_countFind_22 trb1 rfl (by omega) (by omega) (by omega) (fun iv1 pq1 => ?_)
      refine hv2 (hW.puti pq1 trb1 (show (-2147483648) ≤ zz1 ∧ zz1 ≤ 2147483647 by omega) rfl) (hF0.puti hX0 pq1 trb1 rfl) (fun W1 F1 => ?_)
      exact c_vret C dX6_countFind_23 rfl (by decide) (rom0 hph hph (by decide)) ⟨rfl, rfl, rfl, rfl, rfl, F1, W1, trivial⟩
set_option maxHeartbeats 4000000 in
set_option maxRecDepth 100000 in
theorem C_fits {l : Launch} {G : GT} {mi : Nat} {sk : Nat → Nat} {L : List Nat} {cl ln : Nat → Nat} {iv : Nat → Nat → Int} {rv : Nat → Nat → Option Nat}  {a0 : Nat} {a1 : Nat} {i : Int} (hW : WT (g0 G) sk L cl ln iv rv) (hS : SKL sk L cl) (t_a0 : ty L cl a0 15) (t_a1 : ty L cl a1 20) (h_i : -2147483648 ≤ i ∧ i ≤ 2147483647) (hi : 0 ≤ i ∧ i ≤ 500) : Mc l G mi (Phi (g0 G) sk) PHM yX6_fits cX6_fits 6 (some .boolean) 1 [.ref a0, .ref a1, .int (iI i)] L cl ln iv rv 0 (fun v L2 cl2 ln2 iv2 rv2 => ∃ f : Int, v = some (.int (iI f)) ∧ L = L2 ∧ cl = cl2 ∧ ln = ln2 ∧ iv = iv2 ∧ rv = rv2 ∧ (f = 0 ∨ f = 1) ∧ (True)) := by
  refine Mc.mk (by decide) (Nat.le_of_ble_eq_true rfl) ?_
  intro p e s m args below meth c A C hM
  refine hv3 (Phi.le hW hS) (show XT L cl ln L cl ln from XT.refl) (show fT [] L cl iv rv iv rv from fT.refl) (fun hph hX0 hF0 => ?_)
  refine c_iload_n (j := 2) C dX6_fits_0 rfl ?_
  refine c_aload_n (j := 1) (x := a1) C dX6_fits_1 rfl ?_
  obtain ⟨rb1, rq1, trb1⟩ := hW.ref t_a1 1 rfl rfl rfl
  have lnrb1 : 0 ≤ ln rb1 ∧ ln rb1 ≤ 8 := hW.len trb1 rfl
  refine c_getr (k := 1) C ck_6 dX6_fits_2 w3_141 (by decide) t_a1 rfl rfl (by decide) rfl rq1 ?_
  refine c_st (st2 := [.ref rb1, .int (iI i)]) rfl ?_
  have ll1 : 0 ≤ ln rb1 ∧ ln rb1 ≤ 8 := hW.len trb1 rfl
  refine c_alenI C dX6_fits_5 trb1 rfl ?_
  refine c_iadd C dX6_fits_6 ?_
  refine c_istore_n (lv2 := [(3, .int (iI (i + ((ln rb1 : Nat) : Int)))), (0, .ref a0), (1, .ref a1), (2, .int (iI i))]) C dX6_fits_7 (by decide) rfl ?_
  refine c_iload_n (j := 0) C dX6_fits_8 rfl ?_
  refine c_aload_n (j := 1) (x := a0) C dX6_fits_9 rfl ?_
  have ri1 : 0 ≤ iv a0 11 ∧ iv a0 11 ≤ 500 := hW.int t_a0 11
  refine c_get (k := 11) C ck_7 dX6_fits_10 w1_153 (by decide) t_a0 rfl rfl (by decide) rfl ?_
  refine c_icmp_le (tgt := 18) C ⟨by omega, by omega⟩ (r32_c (lo := 0) (hi := 500) ri1.1 ri1.2 (by decide) (by decide)) dX6_fits_13 (by decide) (fun c1 => ?_) (fun c1 => ?_)
  · refine c_iconst C dX6_fits_18 ?_
    refine c_istore (lv2 := [(4, .int (iI 1)), (3, .int (iI (i + ((ln rb1 : Nat) : Int)))), (0, .ref a0), (1, .ref a1), (2, .int (iI i))]) C dX6_fits_19 (by decide) rfl ?_
    have Lp1 : ∀ (nn : Nat) (k : Int) , 10 - k < (nn : Int) → (1 ≤ k ∧ k ≤ 9) → cw p l e 1 ((PHM) + 0 - ((Phi (g0 G) sk) ln rv)) s m args below meth c G A 6 (MQ below (Qu G A (Qp G (Phi (g0 G) sk) ((Phi (g0 G) sk) ln rv) 0 (fun v L2 cl2 ln2 iv2 rv2 => ∃ f : Int, v = some (.int (iI f)) ∧ L = L2 ∧ cl = cl2 ∧ ln = ln2 ∧ iv = iv2 ∧ rv = rv2 ∧ (f = 0 ∨ f = 1) ∧ (True)))) args s (((PHM) + 0 - ((Phi (g0 G) sk) ln rv)) / 16) ((PHM) + 0 - ((Phi (g0 G) sk) ln rv)) A) (Phi (g0 G) sk) ((Phi (g0 G) sk) ln rv) L cl ln iv rv 0 21 [(4, .int (iI k)), (3, .int (iI (i + ((ln rb1 : Nat) : Int)))), (0, .ref a0), (1, .ref a1), (2, .int (iI i))] [] := by
      intro nn
      induction nn with
      | zero =>
        intro  k  hm   hk
        exact absurd hm (by omega)
      | succ nn ih1 =>
        intro  k  hm   hk
        refine c_iload (j := 0) C dX6_fits_21 rfl ?_
        refine c_aload_n (j := 3) (x := a1) C dX6_fits_23 rfl ?_
        refine c_getr (k := 1) C ck_6 dX6_fits_24 w3_141 (by decide) t_a1 rfl rfl (by decide) rfl rq1 ?_
        refine c_st (st2 := [.ref rb1, .int (iI k)]) rfl ?_
        refine c_alenI C dX6_fits_27 trb1 rfl ?_
        refine c_icmp_ge (tgt := 58) C (r32_c (lo := 1) (hi := 9) hk.1 hk.2 (by decide) (by decide)) ⟨by omega, by omega⟩ dX6_fits_28 (by decide) (fun c2 => ?_) (fun c2 => ?_)
        · refine c_iload_n (j := 4) C dX6_fits_58 rfl ?_
          refine c_aload_n (j := 2) (x := a0) C dX6_fits_59 rfl ?_
          have ri2 : 0 ≤ iv a0 10 ∧ iv a0 10 ≤ 500 := hW.int t_a0 10
          refine c_get (k := 10) C ck_7 dX6_fits_60 w1_152 (by decide) t_a0 rfl rfl (by decide) rfl ?_
          refine c_icmp_ne (tgt := 70) C ⟨by omega, by omega⟩ (r32_c (lo := 0) (hi := 500) ri2.1 ri2.2 (by decide) (by decide)) dX6_fits_63 (by decide) (fun c3 => ?_) (fun c3 => ?_)
          · refine c_iconst C dX6_fits_70 ?_
            refine c_istore (lv2 := [(4, .int (iI 0)), (3, .int (iI (i + ((ln rb1 : Nat) : Int)))), (0, .ref a0), (1, .ref a1), (2, .int (iI i))]) C dX6_fits_71 (by decide) rfl ?_
            refine c_iload_n (j := 1) C dX6_fits_73 rfl ?_
            refine c_aload_n (j := 2) (x := a0) C dX6_fits_74 rfl ?_
            refine c_get (k := 11) C ck_7 dX6_fits_75 w1_153 (by decide) t_a0 rfl rfl (by decide) rfl ?_
            refine c_icmp_ne (tgt := 85) C ⟨by omega, by omega⟩ (r32_c (lo := 0) (hi := 500) ri1.1 ri1.2 (by decide) (by decide)) dX6_fits_78 (by decide) (fun c4 => ?_) (fun c4 => ?_)
            · refine c_iconst C dX6_fits_85 ?_
              refine c_istore (lv2 := [(5, .int (iI 0)), (4, .int (iI 0)), (3, .int (iI (i + ((ln rb1 : Nat) : Int)))), (0, .ref a0), (1, .ref a1), (2, .int (iI i))]) C dX6_fits_86 (by decide) rfl ?_
              refine c_aload_n (j := 4) (x := a1) C dX6_fits_88 rfl ?_
              have ri3 : 0 ≤ iv a1 3 ∧ iv a1 3 ≤ 5 := hW.int t_a1 3
              refine c_get (k := 3) C ck_6 dX6_fits_89 w3_150 (by decide) t_a1 rfl rfl (by decide) rfl ?_
              rcases (show (iv a1 3) = 1 ∨ (iv a1 3) = 2 ∨ (iv a1 3) = 3 ∨ (iv a1 3) = 4 ∨ (iv a1 3) = 5 ∨ ((iv a1 3) < 1 ∨ 5 < (iv a1 3)) by omega) with sw1 | sw1 | sw1 | sw1 | sw1 | sw1
              · refine c_tabIn (tgt := 128) (off := 36) C (r32_c (lo := 0) (hi := 5) ri3.1 ri3.2 (by decide) (by decide)) dX6_fits_92 (by omega) (by omega) (by rw [sw1]; rfl) (by decide) ?_
                refine c_iload (j := 1) C dX6_fits_128 rfl ?_
                exact c_zret C dX6_fits_130 rfl (Or.inl rfl) (by decide) (rom0 hph hph (by decide)) ⟨0, rfl, rfl, rfl, rfl, rfl, rfl, (Or.inl rfl), trivial⟩
              · refine c_tabIn (tgt := 131) (off := 39) C (r32_c (lo := 0) (hi := 5) ri3.1 ri3.2 (by decide) (by decide)) dX6_fits_92 (by omega) (by omega) (by rw [sw1]; rfl) (by decide) ?_
                refine c_iload (j := 1) C dX6_fits_131 rfl ?_
                refine c_if_ne (tgt := 145) C ⟨by decide, by decide⟩ dX6_fits_133 (by decide) (fun z => absurd z (by omega)) (fun _ => ?_)
                refine c_iload (j := 0) C dX6_fits_136 rfl ?_
                refine c_if_ne (tgt := 145) C ⟨by decide, by decide⟩ dX6_fits_138 (by decide) (fun z => absurd z (by omega)) (fun _ => ?_)
                refine c_iconst C dX6_fits_141 ?_
                refine c_goto (tgt := 146) C dX6_fits_142 (by decide) ?_
                exact c_zret C dX6_fits_146 rfl (Or.inr rfl) (by decide) (rom0 hph hph (by decide)) ⟨1, rfl, rfl, rfl, rfl, rfl, rfl, (Or.inr rfl), trivial⟩
              · refine c_tabIn (tgt := 147) (off := 55) C (r32_c (lo := 0) (hi := 5) ri3.1 ri3.2 (by decide) (by decide)) dX6_fits_92 (by omega) (by omega) (by rw [sw1]; rfl) (by decide) ?_
                refine c_iload (j := 0) C dX6_fits_147 rfl ?_
                exact c_zret C dX6_fits_149 rfl (Or.inl rfl) (by decide) (rom0 hph hph (by decide)) ⟨0, rfl, rfl, rfl, rfl, rfl, rfl, (Or.inl rfl), trivial⟩
              · refine c_tabIn (tgt := 150) (off := 58) C (r32_c (lo := 0) (hi := 5) ri3.1 ri3.2 (by decide) (by decide)) dX6_fits_92 (by omega) (by omega) (by rw [sw1]; rfl) (by decide) ?_
                refine c_iload (j := 1) C dX6_fits_150 rfl ?_
                refine c_if_eq (tgt := 164) C ⟨by decide, by decide⟩ dX6_fits_152 (by decide) (fun _ => ?_) (fun z => absurd z (by omega))
                refine c_iconst C dX6_fits_164 ?_
                exact c_zret C dX6_fits_165 rfl (Or.inl rfl) (by decide) (rom0 hph hph (by decide)) ⟨0, rfl, rfl, rfl, rfl, rfl, rfl, (Or.inl rfl), trivial⟩
              · refine c_tabIn (tgt := 166) (off := 74) C (r32_c (lo := 0) (hi := 5) ri3.1 ri3.2 (by decide) (by decide)) dX6_fits_92 (by omega) (by omega) (by rw [sw1]; rfl) (by decide) ?_
                refine c_iload (j := 0) C dX6_fits_166 rfl ?_
                refine c_if_ne (tgt := 187) C ⟨by decide, by decide⟩ dX6_fits_168 (by decide) (fun z => absurd z (by omega)) (fun _ => ?_)
                refine c_aload_n (j := 3) (x := a0) C dX6_fits_171 rfl ?_
                obtain ⟨rb2, rq2, trb2⟩ := hW.ref t_a0 0 rfl rfl rfl
                have lnrb2 : 500 ≤ ln rb2 ∧ ln rb2 ≤ 500 := hW.len trb2 rfl
                refine c_getr (k := 0) C ck_7 dX6_fits_172 w1_136 (by decide) t_a0 rfl rfl (by decide) rfl rq2 ?_
                refine c_st (st2 := [.ref rb2]) rfl ?_
                refine c_iload_n (j := 2) C dX6_fits_175 rfl ?_
                have ll2 : 500 ≤ ln rb2 ∧ ln rb2 ≤ 500 := hW.len trb2 rfl
                refine c_iald C dX6_fits_176 trb2 rfl (by omega) (by omega) (by omega) ?_
                have ri4 : (-2147483648) ≤ iv rb2 ((i + ((ln rb1 : Nat) : Int)).toNat) ∧ iv rb2 ((i + ((ln rb1 : Nat) : Int)).toNat) ≤ 2147483647 := hW.int trb2 ((i + ((ln rb1 : Nat) : Int)).toNat)
                refine c_callS0 (As := [.int (iI (iv rb2 (i + ((ln rb1 : Nat) : Int)).toNat))]) (rest := []) C (fun L E => s6_isSign (iI (iv rb2 (i + ((ln rb1 : Nat) : Int)).toNat))) dX6_fits_177 kS_X6_156 rfl rfl (Nat.le_of_ble_eq_true rfl) ⟨(Nat.le_of_ble_eq_true rfl), (Nat.le_of_ble_eq_true rfl)⟩ (rom0 hph hph (by decide)) ?_
                obtain ⟨sg1, hsg1, esg1⟩ := sgn_c (iI (iv rb2 (i + ((ln rb1 : Nat) : Int)).toNat))
                refine c_st (st2 := [.int (iI sg1)]) (by rw [esg1]) ?_
                refine c_if_eq (tgt := 187) C ⟨by omega, by omega⟩ dX6_fits_180 (by decide) (fun c5 => ?_) (fun c5 => ?_)
                · refine c_iconst C dX6_fits_187 ?_
                  exact c_zret C dX6_fits_188 rfl (Or.inl rfl) (by decide) (rom0 hph hph (by decide)) ⟨0, rfl, rfl, rfl, rfl, rfl, rfl, (Or.inl rfl), trivial⟩
                · refine c_iconst C dX6_fits_183 ?_
                  refine c_goto (tgt := 188) C dX6_fits_184 (by decide) ?_
                  exact c_zret C dX6_fits_188 rfl (Or.inr rfl) (by decide) (rom0 hph hph (by decide)) ⟨1, rfl, rfl, rfl, rfl, rfl, rfl, (Or.inr rfl), trivial⟩
              · refine c_tabOut (tgt := 189) C (r32_c (lo := 0) (hi := 5) ri3.1 ri3.2 (by decide) (by decide)) dX6_fits_92 sw1 (by decide) ?_
                refine c_iconst C dX6_fits_189 ?_
                exact c_zret C dX6_fits_190 rfl (Or.inr rfl) (by decide) (rom0 hph hph (by decide)) ⟨1, rfl, rfl, rfl, rfl, rfl, rfl, (Or.inr rfl), trivial⟩
            · refine c_iconst C dX6_fits_81 ?_
              refine c_goto (tgt := 86) C dX6_fits_82 (by decide) ?_
              refine c_istore (lv2 := [(5, .int (iI 1)), (4, .int (iI 0)), (3, .int (iI (i + ((ln rb1 : Nat) : Int)))), (0, .ref a0), (1, .ref a1), (2, .int (iI i))]) C dX6_fits_86 (by decide) rfl ?_
              refine c_aload_n (j := 4) (x := a1) C dX6_fits_88 rfl ?_
              have ri5 : 0 ≤ iv a1 3 ∧ iv a1 3 ≤ 5 := hW.int t_a1 3
              refine c_get (k := 3) C ck_6 dX6_fits_89 w3_150 (by decide) t_a1 rfl rfl (by decide) rfl ?_
              rcases (show (iv a1 3) = 1 ∨ (iv a1 3) = 2 ∨ (iv a1 3) = 3 ∨ (iv a1 3) = 4 ∨ (iv a1 3) = 5 ∨ ((iv a1 3) < 1 ∨ 5 < (iv a1 3)) by omega) with sw2 | sw2 | sw2 | sw2 | sw2 | sw2
              · refine c_tabIn (tgt := 128) (off := 36) C (r32_c (lo := 0) (hi := 5) ri5.1 ri5.2 (by decide) (by decide)) dX6_fits_92 (by omega) (by omega) (by rw [sw2]; rfl) (by decide) ?_
                refine c_iload (j := 1) C dX6_fits_128 rfl ?_
                exact c_zret C dX6_fits_130 rfl (Or.inl rfl) (by decide) (rom0 hph hph (by decide)) ⟨0, rfl, rfl, rfl, rfl, rfl, rfl, (Or.inl rfl), trivial⟩
              · refine c_tabIn (tgt := 131) (off := 39) C (r32_c (lo := 0) (hi := 5) ri5.1 ri5.2 (by decide) (by decide)) dX6_fits_92 (by omega) (by omega) (by rw [sw2]; rfl) (by decide) ?_
                refine c_iload (j := 1) C dX6_fits_131 rfl ?_
                refine c_if_ne (tgt := 145) C ⟨by decide, by decide⟩ dX6_fits_133 (by decide) (fun z => absurd z (by omega)) (fun _ => ?_)
                refine c_iload (j := 0) C dX6_fits_136 rfl ?_
                refine c_if_ne (tgt := 145) C ⟨by decide, by decide⟩ dX6_fits_138 (by decide) (fun _ => ?_) (fun z => absurd z (by omega))
                refine c_iconst C dX6_fits_145 ?_
                exact c_zret C dX6_fits_146 rfl (Or.inl rfl) (by decide) (rom0 hph hph (by decide)) ⟨0, rfl, rfl, rfl, rfl, rfl, rfl, (Or.inl rfl), trivial⟩
              · refine c_tabIn (tgt := 147) (off := 55) C (r32_c (lo := 0) (hi := 5) ri5.1 ri5.2 (by decide) (by decide)) dX6_fits_92 (by omega) (by omega) (by rw [sw2]; rfl) (by decide) ?_
                refine c_iload (j := 0) C dX6_fits_147 rfl ?_
                exact c_zret C dX6_fits_149 rfl (Or.inr rfl) (by decide) (rom0 hph hph (by decide)) ⟨1, rfl, rfl, rfl, rfl, rfl, rfl, (Or.inr rfl), trivial⟩
              · refine c_tabIn (tgt := 150) (off := 58) C (r32_c (lo := 0) (hi := 5) ri5.1 ri5.2 (by decide) (by decide)) dX6_fits_92 (by omega) (by omega) (by rw [sw2]; rfl) (by decide) ?_
                refine c_iload (j := 1) C dX6_fits_150 rfl ?_
                refine c_if_eq (tgt := 164) C ⟨by decide, by decide⟩ dX6_fits_152 (by decide) (fun _ => ?_) (fun z => absurd z (by omega))
                refine c_iconst C dX6_fits_164 ?_
                exact c_zret C dX6_fits_165 rfl (Or.inl rfl) (by decide) (rom0 hph hph (by decide)) ⟨0, rfl, rfl, rfl, rfl, rfl, rfl, (Or.inl rfl), trivial⟩
              · refine c_tabIn (tgt := 166) (off := 74) C (r32_c (lo := 0) (hi := 5) ri5.1 ri5.2 (by decide) (by decide)) dX6_fits_92 (by omega) (by omega) (by rw [sw2]; rfl) (by decide) ?_
                refine c_iload (j := 0) C dX6_fits_166 rfl ?_
                refine c_if_ne (tgt := 187) C ⟨by decide, by decide⟩ dX6_fits_168 (by decide) (fun _ => ?_) (fun z => absurd z (by omega))
                refine c_iconst C dX6_fits_187 ?_
                exact c_zret C dX6_fits_188 rfl (Or.inl rfl) (by decide) (rom0 hph hph (by decide)) ⟨0, rfl, rfl, rfl, rfl, rfl, rfl, (Or.inl rfl), trivial⟩
              · refine c_tabOut (tgt := 189) C (r32_c (lo := 0) (hi := 5) ri5.1 ri5.2 (by decide) (by decide)) dX6_fits_92 sw2 (by decide) ?_
                refine c_iconst C dX6_fits_189 ?_
                exact c_zret C dX6_fits_190 rfl (Or.inr rfl) (by decide) (rom0 hph hph (by decide)) ⟨1, rfl, rfl, rfl, rfl, rfl, rfl, (Or.inr rfl), trivial⟩
          · refine c_iconst C dX6_fits_66 ?_
            refine c_goto (tgt := 71) C dX6_fits_67 (by decide) ?_
            refine c_istore (lv2 := [(4, .int (iI 1)), (3, .int (iI (i + ((ln rb1 : Nat) : Int)))), (0, .ref a0), (1, .ref a1), (2, .int (iI i))]) C dX6_fits_71 (by decide) rfl ?_
            refine c_iload_n (j := 1) C dX6_fits_73 rfl ?_
            refine c_aload_n (j := 2) (x := a0) C dX6_fits_74 rfl ?_
            refine c_get (k := 11) C ck_7 dX6_fits_75 w1_153 (by decide) t_a0 rfl rfl (by decide) rfl ?_
            refine c_icmp_ne (tgt := 85) C ⟨by omega, by omega⟩ (r32_c (lo := 0) (hi := 500) ri1.1 ri1.2 (by decide) (by decide)) dX6_fits_78 (by decide) (fun c6 => ?_) (fun c6 => ?_)
            · refine c_iconst C dX6_fits_85 ?_
              refine c_istore (lv2 := [(5, .int (iI 0)), (4, .int (iI 1)), (3, .int (iI (i + ((ln rb1 : Nat) : Int)))), (0, .ref a0), (1, .ref a1), (2, .int (iI i))]) C dX6_fits_86 (by decide) rfl ?_
              refine c_aload_n (j := 4) (x := a1) C dX6_fits_88 rfl ?_
              have ri6 : 0 ≤ iv a1 3 ∧ iv a1 3 ≤ 5 := hW.int t_a1 3
              refine c_get (k := 3) C ck_6 dX6_fits_89 w3_150 (by decide) t_a1 rfl rfl (by decide) rfl ?_
              rcases (show (iv a1 3) = 1 ∨ (iv a1 3) = 2 ∨ (iv a1 3) = 3 ∨ (iv a1 3) = 4 ∨ (iv a1 3) = 5 ∨ ((iv a1 3) < 1 ∨ 5 < (iv a1 3)) by omega) with sw3 | sw3 | sw3 | sw3 | sw3 | sw3
              · refine c_tabIn (tgt := 128) (off := 36) C (r32_c (lo := 0) (hi := 5) ri6.1 ri6.2 (by decide) (by decide)) dX6_fits_92 (by omega) (by omega) (by rw [sw3]; rfl) (by decide) ?_
                refine c_iload (j := 1) C dX6_fits_128 rfl ?_
                exact c_zret C dX6_fits_130 rfl (Or.inr rfl) (by decide) (rom0 hph hph (by decide)) ⟨1, rfl, rfl, rfl, rfl, rfl, rfl, (Or.inr rfl), trivial⟩
              · refine c_tabIn (tgt := 131) (off := 39) C (r32_c (lo := 0) (hi := 5) ri6.1 ri6.2 (by decide) (by decide)) dX6_fits_92 (by omega) (by omega) (by rw [sw3]; rfl) (by decide) ?_
                refine c_iload (j := 1) C dX6_fits_131 rfl ?_
                refine c_if_ne (tgt := 145) C ⟨by decide, by decide⟩ dX6_fits_133 (by decide) (fun _ => ?_) (fun z => absurd z (by omega))
                refine c_iconst C dX6_fits_145 ?_
                exact c_zret C dX6_fits_146 rfl (Or.inl rfl) (by decide) (rom0 hph hph (by decide)) ⟨0, rfl, rfl, rfl, rfl, rfl, rfl, (Or.inl rfl), trivial⟩
              · refine c_tabIn (tgt := 147) (off := 55) C (r32_c (lo := 0) (hi := 5) ri6.1 ri6.2 (by decide) (by decide)) dX6_fits_92 (by omega) (by omega) (by rw [sw3]; rfl) (by decide) ?_
                refine c_iload (j := 0) C dX6_fits_147 rfl ?_
                exact c_zret C dX6_fits_149 rfl (Or.inl rfl) (by decide) (rom0 hph hph (by decide)) ⟨0, rfl, rfl, rfl, rfl, rfl, rfl, (Or.inl rfl), trivial⟩
              · refine c_tabIn (tgt := 150) (off := 58) C (r32_c (lo := 0) (hi := 5) ri6.1 ri6.2 (by decide) (by decide)) dX6_fits_92 (by omega) (by omega) (by rw [sw3]; rfl) (by decide) ?_
                refine c_iload (j := 1) C dX6_fits_150 rfl ?_
                refine c_if_eq (tgt := 164) C ⟨by decide, by decide⟩ dX6_fits_152 (by decide) (fun z => absurd z (by omega)) (fun _ => ?_)
                refine c_iload (j := 0) C dX6_fits_155 rfl ?_
                refine c_if_eq (tgt := 164) C ⟨by decide, by decide⟩ dX6_fits_157 (by decide) (fun _ => ?_) (fun z => absurd z (by omega))
                refine c_iconst C dX6_fits_164 ?_
                exact c_zret C dX6_fits_165 rfl (Or.inl rfl) (by decide) (rom0 hph hph (by decide)) ⟨0, rfl, rfl, rfl, rfl, rfl, rfl, (Or.inl rfl), trivial⟩
              · refine c_tabIn (tgt := 166) (off := 74) C (r32_c (lo := 0) (hi := 5) ri6.1 ri6.2 (by decide) (by decide)) dX6_fits_92 (by omega) (by omega) (by rw [sw3]; rfl) (by decide) ?_
                refine c_iload (j := 0) C dX6_fits_166 rfl ?_
                refine c_if_ne (tgt := 187) C ⟨by decide, by decide⟩ dX6_fits_168 (by decide) (fun z => absurd z (by omega)) (fun _ => ?_)
                refine c_aload_n (j := 3) (x := a0) C dX6_fits_171 rfl ?_
                obtain ⟨rb3, rq3, trb3⟩ := hW.ref t_a0 0 rfl rfl rfl
                have lnrb3 : 500 ≤ ln rb3 ∧ ln rb3 ≤ 500 := hW.len trb3 rfl
                refine c_getr (k := 0) C ck_7 dX6_fits_172 w1_136 (by decide) t_a0 rfl rfl (by decide) rfl rq3 ?_
                refine c_st (st2 := [.ref rb3]) rfl ?_
                refine c_iload_n (j := 2) C dX6_fits_175 rfl ?_
                have ll3 : 500 ≤ ln rb3 ∧ ln rb3 ≤ 500 := hW.len trb3 rfl
                refine c_iald C dX6_fits_176 trb3 rfl (by omega) (by omega) (by omega) ?_
                have ri7 : (-2147483648) ≤ iv rb3 ((i + ((ln rb1 : Nat) : Int)).toNat) ∧ iv rb3 ((i + ((ln rb1 : Nat) : Int)).toNat) ≤ 2147483647 := hW.int trb3 ((i + ((ln rb1 : Nat) : Int)).toNat)
                refine c_callS0 (As := [.int (iI (iv rb3 (i + ((ln rb1 : Nat) : Int)).toNat))]) (rest := []) C (fun L E => s6_isSign (iI (iv rb3 (i + ((ln rb1 : Nat) : Int)).toNat))) dX6_fits_177 kS_X6_156 rfl rfl (Nat.le_of_ble_eq_true rfl) ⟨(Nat.le_of_ble_eq_true rfl), (Nat.le_of_ble_eq_true rfl)⟩ (rom0 hph hph (by decide)) ?_
                obtain ⟨sg2, hsg2, esg2⟩ := sgn_c (iI (iv rb3 (i + ((ln rb1 : Nat) : Int)).toNat))
                refine c_st (st2 := [.int (iI sg2)]) (by rw [esg2]) ?_
                refine c_if_eq (tgt := 187) C ⟨by omega, by omega⟩ dX6_fits_180 (by decide) (fun c7 => ?_) (fun c7 => ?_)
                · refine c_iconst C dX6_fits_187 ?_
                  exact c_zret C dX6_fits_188 rfl (Or.inl rfl) (by decide) (rom0 hph hph (by decide)) ⟨0, rfl, rfl, rfl, rfl, rfl, rfl, (Or.inl rfl), trivial⟩
                · refine c_iconst C dX6_fits_183 ?_
                  refine c_goto (tgt := 188) C dX6_fits_184 (by decide) ?_
                  exact c_zret C dX6_fits_188 rfl (Or.inr rfl) (by decide) (rom0 hph hph (by decide)) ⟨1, rfl, rfl, rfl, rfl, rfl, rfl, (Or.inr rfl), trivial⟩
              · refine c_tabOut (tgt := 189) C (r32_c (lo := 0) (hi := 5) ri6.1 ri6.2 (by decide) (by decide)) dX6_fits_92 sw3 (by decide) ?_
                refine c_iconst C dX6_fits_189 ?_
                exact c_zret C dX6_fits_190 rfl (Or.inr rfl) (by decide) (rom0 hph hph (by decide)) ⟨1, rfl, rfl, rfl, rfl, rfl, rfl, (Or.inr rfl), trivial⟩
            · refine c_iconst C dX6_fits_81 ?_
              refine c_goto (tgt := 86) C dX6_fits_82 (by decide) ?_
              refine c_istore (lv2 := [(5, .int (iI 1)), (4, .int (iI 1)), (3, .int (iI (i + ((ln rb1 : Nat) : Int)))), (0, .ref a0), (1, .ref a1), (2, .int (iI i))]) C dX6_fits_86 (by decide) rfl ?_
              refine c_aload_n (j := 4) (x := a1) C dX6_fits_88 rfl ?_
              have ri8 : 0 ≤ iv a1 3 ∧ iv a1 3 ≤ 5 := hW.int t_a1 3
              refine c_get (k := 3) C ck_6 dX6_fits_89 w3_150 (by decide) t_a1 rfl rfl (by decide) rfl ?_
              rcases (show (iv a1 3) = 1 ∨ (iv a1 3) = 2 ∨ (iv a1 3) = 3 ∨ (iv a1 3) = 4 ∨ (iv a1 3) = 5 ∨ ((iv a1 3) < 1 ∨ 5 < (iv a1 3)) by omega) with sw4 | sw4 | sw4 | sw4 | sw4 | sw4
              · refine c_tabIn (tgt := 128) (off := 36) C (r32_c (lo := 0) (hi := 5) ri8.1 ri8.2 (by decide) (by decide)) dX6_fits_92 (by omega) (by omega) (by rw [sw4]; rfl) (by decide) ?_
                refine c_iload (j := 1) C dX6_fits_128 rfl ?_
                exact c_zret C dX6_fits_130 rfl (Or.inr rfl) (by decide) (rom0 hph hph (by decide)) ⟨1, rfl, rfl, rfl, rfl, rfl, rfl, (Or.inr rfl), trivial⟩
              · refine c_tabIn (tgt := 131) (off := 39) C (r32_c (lo := 0) (hi := 5) ri8.1 ri8.2 (by decide) (by decide)) dX6_fits_92 (by omega) (by omega) (by rw [sw4]; rfl) (by decide) ?_
                refine c_iload (j := 1) C dX6_fits_131 rfl ?_
                refine c_if_ne (tgt := 145) C ⟨by decide, by decide⟩ dX6_fits_133 (by decide) (fun _ => ?_) (fun z => absurd z (by omega))
                refine c_iconst C dX6_fits_145 ?_
                exact c_zret C dX6_fits_146 rfl (Or.inl rfl) (by decide) (rom0 hph hph (by decide)) ⟨0, rfl, rfl, rfl, rfl, rfl, rfl, (Or.inl rfl), trivial⟩
              · refine c_tabIn (tgt := 147) (off := 55) C (r32_c (lo := 0) (hi := 5) ri8.1 ri8.2 (by decide) (by decide)) dX6_fits_92 (by omega) (by omega) (by rw [sw4]; rfl) (by decide) ?_
                refine c_iload (j := 0) C dX6_fits_147 rfl ?_
                exact c_zret C dX6_fits_149 rfl (Or.inr rfl) (by decide) (rom0 hph hph (by decide)) ⟨1, rfl, rfl, rfl, rfl, rfl, rfl, (Or.inr rfl), trivial⟩
              · refine c_tabIn (tgt := 150) (off := 58) C (r32_c (lo := 0) (hi := 5) ri8.1 ri8.2 (by decide) (by decide)) dX6_fits_92 (by omega) (by omega) (by rw [sw4]; rfl) (by decide) ?_
                refine c_iload (j := 1) C dX6_fits_150 rfl ?_
                refine c_if_eq (tgt := 164) C ⟨by decide, by decide⟩ dX6_fits_152 (by decide) (fun z => absurd z (by omega)) (fun _ => ?_)
                refine c_iload (j := 0) C dX6_fits_155 rfl ?_
                refine c_if_eq (tgt := 164) C ⟨by decide, by decide⟩ dX6_fits_157 (by decide) (fun z => absurd z (by omega)) (fun _ => ?_)
                refine c_iconst C dX6_fits_160 ?_
                refine c_goto (tgt := 165) C dX6_fits_161 (by decide) ?_
                exact c_zret C dX6_fits_165 rfl (Or.inr rfl) (by decide) (rom0 hph hph (by decide)) ⟨1, rfl, rfl, rfl, rfl, rfl, rfl, (Or.inr rfl), trivial⟩
              · refine c_tabIn (tgt := 166) (off := 74) C (r32_c (lo := 0) (hi := 5) ri8.1 ri8.2 (by decide) (by decide)) dX6_fits_92 (by omega) (by omega) (by rw [sw4]; rfl) (by decide) ?_
                refine c_iload (j := 0) C dX6_fits_166 rfl ?_
                refine c_if_ne (tgt := 187) C ⟨by decide, by decide⟩ dX6_fits_168 (by decide) (fun _ => ?_) (fun z => absurd z (by omega))
                refine c_iconst C dX6_fits_187 ?_
                exact c_zret C dX6_fits_188 rfl (Or.inl rfl) (by decide) (rom0 hph hph (by decide)) ⟨0, rfl, rfl, rfl, rfl, rfl, rfl, (Or.inl rfl), trivial⟩
              · refine c_tabOut (tgt := 189) C (r32_c (lo := 0) (hi := 5) ri8.1 ri8.2 (by decide) (by decide)) dX6_fits_92 sw4 (by decide) ?_
                refine c_iconst C dX6_fits_189 ?_
                exact c_zret C dX6_fits_190 rfl (Or.inr rfl) (by decide) (rom0 hph hph (by decide)) ⟨1, rfl, rfl, rfl, rfl, rfl, rfl, (Or.inr rfl), trivial⟩
        · refine c_aload_n (j := 3) (x := a1) C dX6_fits_31 rfl ?_
          refine c_getr (k := 1) C ck_6 dX6_fits_32 w3_141 (by decide) t_a1 rfl rfl (by decide) rfl rq1 ?_
          refine c_st (st2 := [.ref rb1]) rfl ?_
          refine c_iload (j := 0) C dX6_fits_35 rfl ?_
          refine c_iald C dX6_fits_37 trb1 rfl (by omega) (by omega) (by omega) ?_
          have ri9 : (-2147483648) ≤ iv rb1 k.toNat ∧ iv rb1 k.toNat ≤ 2147483647 := hW.int trb1 k.toNat
          refine c_aload_n (j := 2) (x := a0) C dX6_fits_38 rfl ?_
          obtain ⟨rb4, rq4, trb4⟩ := hW.ref t_a0 0 rfl rfl rfl
          have lnrb4 : 500 ≤ ln rb4 ∧ ln rb4 ≤ 500 := hW.len trb4 rfl
          refine c_getr (k := 0) C ck_7 dX6_fits_39 w1_136 (by decide) t_a0 rfl rfl (by decide) rfl rq4 ?_
          refine c_st (st2 := [.ref rb4, .int (iI (iv rb1 k.toNat))]) rfl ?_
          refine c_iload_n (j := 4) C dX6_fits_42 rfl ?_
          refine c_iload (j := 0) C dX6_fits_43 rfl ?_
          refine c_iadd C dX6_fits_45 ?_
          have ll4 : 500 ≤ ln rb4 ∧ ln rb4 ≤ 500 := hW.len trb4 rfl
          refine c_iald C dX6_fits_46 trb4 rfl (by omega) (by omega) (by omega) ?_
          have ri10 : (-2147483648) ≤ iv rb4 ((i + k).toNat) ∧ iv rb4 ((i + k).toNat) ≤ 2147483647 := hW.int trb4 ((i + k).toNat)
          refine c_icmp_eq (tgt := 52) C (r32_c (lo := (-2147483648)) (hi := 2147483647) ri9.1 ri9.2 (by decide) (by decide)) ⟨by omega, by omega⟩ dX6_fits_47 (by decide) (fun c8 => ?_) (fun c8 => ?_)
          · refine c_iinc (z := k) (j := 0) (lv2 := [(4, .int (iI (k + 1))), (3, .int (iI (i + ((ln rb1 : Nat) : Int)))), (0, .ref a0), (1, .ref a1), (2, .int (iI i))]) C dX6_fits_52 rfl (by decide) rfl ?_
            refine c_goto (tgt := 21) C dX6_fits_55 (by decide) ?_
            refine c_lv (lv2 := [(4, .int (iI (k + 1))), (3, .int (iI (i + ((ln rb1 : Nat) : Int)))), (0, .ref a0), (1, .ref a1), (2, .int (iI i))]) [0, 1, 2, 3, 4] rfl ?_
            exact ih1  (k + 1)  (by omega)   (by omega)
          · refine c_iconst C dX6_fits_50 ?_
            exact c_zret C dX6_fits_51 rfl (Or.inl rfl) (by decide) (rom0 hph hph (by decide)) ⟨0, rfl, rfl, rfl, rfl, rfl, rfl, (Or.inl rfl), trivial⟩
    refine c_lv (lv2 := [(4, .int (iI 1)), (3, .int (iI (i + ((ln rb1 : Nat) : Int)))), (0, .ref a0), (1, .ref a1), (2, .int (iI i))]) [0, 1, 2, 3, 4] rfl ?_
    exact Lp1 10 1  (by omega)   (by omega)
  · refine c_iconst C dX6_fits_16 ?_
    exact c_zret C dX6_fits_17 rfl (Or.inl rfl) (by decide) (rom0 hph hph (by decide)) ⟨0, rfl, rfl, rfl, rfl, rfl, rfl, (Or.inl rfl), trivial⟩
set_option maxHeartbeats 4000000 in
set_option maxRecDepth 100000 in
theorem C_findOwn {l : Launch} {G : GT} {mi : Nat} {sk : Nat → Nat} {L : List Nat} {cl ln : Nat → Nat} {iv : Nat → Nat → Int} {rv : Nat → Nat → Option Nat}  {a0 : Nat} {a1 : Nat} {i : Int} {x : Int} {r : Option Nat} (hW : WT (g0 G) sk L cl ln iv rv) (hS : SKL sk L cl) (t_a0 : ty L cl a0 15) (t_a1 : ty L cl a1 100) (t_r : ∀ b, r = some b → ty L cl b 20) (h_i : -2147483648 ≤ i ∧ i ≤ 2147483647) (h_x : -2147483648 ≤ x ∧ x ≤ 2147483647) (hi : 0 ≤ i ∧ i ≤ 500) : Mc l G mi (Phi (g0 G) sk) PHM yX6_findOwn cX6_findOwn 11 (some (.object "DotPress$Row")) 3 [.ref a0, .ref a1, .int (iI i), .int (iI x), va_rf r] L cl ln iv rv 0 (fun v L2 cl2 ln2 iv2 rv2 => ∃ f : Option Nat, v = some ((va_rf f)) ∧ L = L2 ∧ cl = cl2 ∧ ln = ln2 ∧ iv = iv2 ∧ rv = rv2 ∧ (∀ b, f = some b → ty L2 cl2 b 20) ∧ (True)) := by
  refine Mc.mk (by decide) (by cases r <;> exact Nat.le_of_ble_eq_true rfl) ?_
  intro p e s m args below meth c A C hM
  have hph := Phi.le hW hS
  refine c_lveq (show lv_args 0 [.ref a0, .ref a1, .int (iI i), .int (iI x), va_rf r] = [(0, .ref a0), (1, .ref a1), (2, .int (iI i)), (3, .int (iI x)), (4, (va_rf r))] from by cases r <;> rfl) ?_
  refine hv2 (show XT L cl ln L cl ln from XT.refl) (show fT [] L cl iv rv iv rv from fT.refl) (fun hX0 hF0 => ?_)
  refine c_aloadr (j := 4) (r := r) C dX6_findOwn_0 rfl ?_
  refine c_astorer (r := r) (lv2 := [(5, (va_rf r)), (0, .ref a0), (1, .ref a1), (2, .int (iI i)), (3, .int (iI x)), (4, (va_rf r))]) C dX6_findOwn_2 (by decide) (by cases r <;> rfl) ?_
  refine c_aloadr (j := 0) (r := r) C dX6_findOwn_4 rfl ?_
  refine c_ifnonnull (r := r) (tgt := 13) C dX6_findOwn_6 (by decide) (fun ob1 oq1 => ?_) (fun oq1 => ?_)
  · subst oq1
    have tob1 := t_r ob1 rfl
    refine c_lv (lv2 := [(5, .ref ob1), (0, .ref a0), (1, .ref a1), (2, .int (iI i)), (3, .int (iI x)), (4, .ref ob1)]) [0, 1, 2, 3, 4, 5] rfl ?_
    refine c_st (st2 := []) rfl ?_
    refine c_aload (j := 0) (x := ob1) C dX6_findOwn_13 rfl ?_
    obtain ⟨rb1, rq1, trb1⟩ := hW.ref tob1 1 rfl rfl rfl
    have lnrb1 : 0 ≤ ln rb1 ∧ ln rb1 ≤ 8 := hW.len trb1 rfl
    refine c_getr (k := 1) C ck_6 dX6_findOwn_15 w3_141 (by decide) tob1 rfl rfl (by decide) rfl rq1 ?_
    refine c_st (st2 := [.ref rb1]) rfl ?_
    have ll1 : 0 ≤ ln rb1 ∧ ln rb1 ≤ 8 := hW.len trb1 rfl
    refine c_alenI C dX6_findOwn_18 trb1 rfl ?_
    refine c_istore (lv2 := [(6, .int (iI ((ln rb1 : Nat) : Int))), (5, .ref ob1), (0, .ref a0), (1, .ref a1), (2, .int (iI i)), (3, .int (iI x)), (4, .ref ob1)]) C dX6_findOwn_19 (by decide) rfl ?_
    refine c_aload_n (j := 3) (x := a1) C dX6_findOwn_21 rfl ?_
    obtain ⟨rb2, rq2, trb2⟩ := hW.ref t_a1 5 rfl rfl rfl
    refine c_getr (k := 5) C ck_10 dX6_findOwn_22 w2_191 (by decide) t_a1 rfl rfl (by decide) rfl rq2 ?_
    refine c_st (st2 := [.ref rb2]) rfl ?_
    have ri1 : 0 ≤ iv rb2 2 ∧ iv rb2 2 ≤ 200 := hW.int trb2 2
    refine c_get (k := 2) C ck_2 dX6_findOwn_25 w1_47 (by decide) trb2 rfl rfl (by decide) rfl ?_
    refine c_aload_n (j := 3) (x := a1) C dX6_findOwn_28 rfl ?_
    obtain ⟨rb3, rq3, trb3⟩ := hW.ref t_a1 4 rfl rfl rfl
    refine c_getr (k := 4) C ck_10 dX6_findOwn_29 w2_189 (by decide) t_a1 rfl rfl (by decide) rfl rq3 ?_
    refine c_st (st2 := [.ref rb3, .int (iI (iv rb2 2))]) rfl ?_
    have ri2 : 0 ≤ iv rb3 2 ∧ iv rb3 2 ≤ 200 := hW.int trb3 2
    refine d_callV (As := []) (rest := [.int (iI (iv rb2 2))]) C hM (C_size_26 (a0 := rb3) hW hS trb3  ) dX6_findOwn_32 kV_X6_134 rfl trb3 rfl rfl (by decide) ck_0 rfl (Nat.le_of_ble_eq_true rfl) ⟨(Nat.le_of_ble_eq_true rfl), (Nat.le_of_ble_eq_true rfl)⟩ hph hph (show 0 + 0 = 0 from rfl) (by decide) (fun rh1 Lh1 clh1 lnh1 ivh1 rvh1 h1 => ?_)
    obtain ⟨f1, rfl, rfl, rfl, rfl, rfl, rfl, rgf1, exf1⟩ := h1
    refine c_st (st2 := [.int (iI f1), .int (iI (iv rb2 2))]) rfl ?_
    have gf1 : f1 = iv rb3 2 := exf1
    obtain ⟨mn1, hmn1, emn1⟩ := mmin_c (x := iv rb2 2) (y := f1) (r32_c (lo := 0) (hi := 200) ri1.1 ri1.2 (by decide) (by decide)) ⟨by omega, by omega⟩
    refine c_mmin (w := iI mn1) C dX6_findOwn_35 w4_109 w2_129 w1_14 w2_130 (by decide) (rom0 hph hph (by decide)) (Nat.le_of_ble_eq_true rfl) emn1 ?_
    refine c_istore (lv2 := [(7, .int (iI mn1)), (6, .int (iI ((ln rb1 : Nat) : Int))), (5, .ref ob1), (0, .ref a0), (1, .ref a1), (2, .int (iI i)), (3, .int (iI x)), (4, .ref ob1)]) C dX6_findOwn_38 (by decide) rfl ?_
    refine c_aload_n (j := 4) (x := a1) C dX6_findOwn_40 rfl ?_
    refine c_getr (k := 5) C ck_10 dX6_findOwn_41 w2_191 (by decide) t_a1 rfl rfl (by decide) rfl rq2 ?_
    refine c_st (st2 := [.ref rb2]) rfl ?_
    obtain ⟨rb4, rq4, trb4⟩ := hW.ref trb2 1 rfl rfl rfl
    refine hv2 (show 16 ≤ ln rb4 ∧ ln rb4 ≤ 400 from hW.len trb4 rfl) (hW.isz trb2 rfl rfl rq4) (fun lnrb4 szrb4 => ?_)
    refine c_getr (k := 1) C ck_2 dX6_findOwn_44 w1_42 (by decide) trb2 rfl rfl (by decide) rfl rq4 ?_
    refine c_st (st2 := [.ref rb4]) rfl ?_
    refine c_astore (lv2 := [(8, .ref rb4), (7, .int (iI mn1)), (6, .int (iI ((ln rb1 : Nat) : Int))), (5, .ref ob1), (0, .ref a0), (1, .ref a1), (2, .int (iI i)), (3, .int (iI x)), (4, .ref ob1)]) C dX6_findOwn_47 (by decide) rfl ?_
    refine c_iconst C dX6_findOwn_49 ?_
    refine c_istore (lv2 := [(9, .int (iI 0)), (8, .ref rb4), (7, .int (iI mn1)), (6, .int (iI ((ln rb1 : Nat) : Int))), (5, .ref ob1), (0, .ref a0), (1, .ref a1), (2, .int (iI i)), (3, .int (iI x)), (4, .ref ob1)]) C dX6_findOwn_50 (by decide) rfl ?_
    have Lp1 : ∀ (nn : Nat) (bs : Option Nat) (lg k : Int) , 201 - k < (nn : Int) → (∀ b, bs = some b → ty L cl b 20) → (0 ≤ lg ∧ lg ≤ 8) → (0 ≤ k ∧ k ≤ 200) → cw p l e 3 ((PHM) + 0 - ((Phi (g0 G) sk) ln rv)) s m args below meth c G A 11 (MQ below (Qu G A (Qp G (Phi (g0 G) sk) ((Phi (g0 G) sk) ln rv) 0 (fun v L2 cl2 ln2 iv2 rv2 => ∃ f : Option Nat, v = some ((va_rf f)) ∧ L = L2 ∧ cl = cl2 ∧ ln = ln2 ∧ iv = iv2 ∧ rv = rv2 ∧ (∀ b, f = some b → ty L2 cl2 b 20) ∧ (True)))) args s (((PHM) + 0 - ((Phi (g0 G) sk) ln rv)) / 16) ((PHM) + 0 - ((Phi (g0 G) sk) ln rv)) A) (Phi (g0 G) sk) ((Phi (g0 G) sk) ln rv) L cl ln iv rv 0 52 [(5, (va_rf bs)), (6, .int (iI lg)), (9, .int (iI k)), (8, .ref rb4), (7, .int (iI mn1)), (0, .ref a0), (1, .ref a1), (2, .int (iI i)), (3, .int (iI x)), (4, .ref ob1)] [] := by
      intro nn
      induction nn with
      | zero =>
        intro bs lg k  hm  ty_bs hlg hk
        exact absurd hm (by omega)
      | succ nn ih1 =>
        intro bs lg k  hm  ty_bs hlg hk
        refine c_iload (j := 2) C dX6_findOwn_52 rfl ?_
        refine c_iload (j := 4) C dX6_findOwn_54 rfl ?_
        refine c_icmp_ge (tgt := 124) C (r32_c (lo := 0) (hi := 200) hk.1 hk.2 (by decide) (by decide)) ⟨by omega, by omega⟩ dX6_findOwn_56 (by decide) (fun c1 => ?_) (fun c1 => ?_)
        · refine c_aloadr (j := 0) (r := bs) C dX6_findOwn_124 rfl ?_
          exact c_aret (x := bs) C dX6_findOwn_126 rfl (Or.inl ⟨_, rfl⟩) (by decide) (rom0 hph hph (by decide)) ⟨bs, rfl, rfl, rfl, rfl, rfl, rfl, ty_bs, trivial⟩
        · refine c_aload (j := 3) (x := rb4) C dX6_findOwn_59 rfl ?_
          refine c_iload (j := 2) C dX6_findOwn_61 rfl ?_
          have ll2 : 16 ≤ ln rb4 ∧ ln rb4 ≤ 400 := hW.len trb4 rfl
          refine c_iald C dX6_findOwn_63 trb4 rfl (by omega) (by omega) (by omega) ?_
          have ri3 : (-2147483648) ≤ iv rb4 k.toNat ∧ iv rb4 k.toNat ≤ 2147483647 := hW.int trb4 k.toNat
          refine c_iload_n (j := 8) C dX6_findOwn_64 rfl ?_
          refine c_icmp_eq (tgt := 71) C (r32_c (lo := (-2147483648)) (hi := 2147483647) ri3.1 ri3.2 (by decide) (by decide)) ⟨by omega, by omega⟩ dX6_findOwn_65 (by decide) (fun c2 => ?_) (fun c2 => ?_)
          · refine c_aload_n (j := 6) (x := a1) C dX6_findOwn_71 rfl ?_
            refine c_getr (k := 4) C ck_10 dX6_findOwn_72 w2_189 (by decide) t_a1 rfl rfl (by decide) rfl rq3 ?_
            refine c_st (st2 := [.ref rb3]) rfl ?_
            refine c_iload (j := 2) C dX6_findOwn_75 rfl ?_
            refine d_callV (As := [.int (iI k)]) (rest := []) C hM (C_get_26 (a0 := rb3) (i := k) hW hS trb3 (by omega) (by show 0 ≤ k ∧ k < iv rb3 2; omega)) dX6_findOwn_77 kV_X6_145 rfl trb3 rfl rfl (by decide) ck_0 rfl (Nat.le_of_ble_eq_true rfl) ⟨(Nat.le_of_ble_eq_true rfl), (Nat.le_of_ble_eq_true rfl)⟩ hph hph (show 0 + 0 = 0 from rfl) (by decide) (fun rh2 Lh2 clh2 lnh2 ivh2 rvh2 h2 => ?_)
            obtain ⟨f2, rfl, rfl, rfl, rfl, rfl, rfl, rgf2, exf2⟩ := h2
            refine c_st (st2 := [.ref f2]) rfl ?_
            have gf2 : el rv rb3 k.toNat = some f2 := exf2
            refine c_cast C ck_6 dX6_findOwn_80 w4_111 w8_169t rgf2 rfl rfl (by decide) ?_
            refine c_astore (lv2 := [(10, .ref f2), (5, (va_rf bs)), (6, .int (iI lg)), (9, .int (iI k)), (8, .ref rb4), (7, .int (iI mn1)), (0, .ref a0), (1, .ref a1), (2, .int (iI i)), (3, .int (iI x)), (4, .ref ob1)]) C dX6_findOwn_83 (by decide) rfl ?_
            refine c_aload (j := 0) (x := f2) C dX6_findOwn_85 rfl ?_
            obtain ⟨rb5, rq5, trb5⟩ := hW.ref rgf2 1 rfl rfl rfl
            have lnrb5 : 0 ≤ ln rb5 ∧ ln rb5 ≤ 8 := hW.len trb5 rfl
            refine c_getr (k := 1) C ck_6 dX6_findOwn_87 w3_141 (by decide) rgf2 rfl rfl (by decide) rfl rq5 ?_
            refine c_st (st2 := [.ref rb5]) rfl ?_
            have ll3 : 0 ≤ ln rb5 ∧ ln rb5 ≤ 8 := hW.len trb5 rfl
            refine c_alenI C dX6_findOwn_90 trb5 rfl ?_
            refine c_iload (j := 2) C dX6_findOwn_91 rfl ?_
            refine c_icmp_le (tgt := 118) C ⟨by omega, by omega⟩ (r32_c (lo := 0) (hi := 8) hlg.1 hlg.2 (by decide) (by decide)) dX6_findOwn_93 (by decide) (fun c3 => ?_) (fun c3 => ?_)
            · refine c_iinc (z := k) (j := 3) (lv2 := [(9, .int (iI (k + 1))), (10, .ref f2), (5, (va_rf bs)), (6, .int (iI lg)), (8, .ref rb4), (7, .int (iI mn1)), (0, .ref a0), (1, .ref a1), (2, .int (iI i)), (3, .int (iI x)), (4, .ref ob1)]) C dX6_findOwn_118 rfl (by decide) rfl ?_
              refine c_goto (tgt := 52) C dX6_findOwn_121 (by decide) ?_
              refine c_lv (lv2 := [(5, (va_rf bs)), (6, .int (iI lg)), (9, .int (iI (k + 1))), (8, .ref rb4), (7, .int (iI mn1)), (0, .ref a0), (1, .ref a1), (2, .int (iI i)), (3, .int (iI x)), (4, .ref ob1)]) [2, 3, 0, 4, 5, 6, 7, 8, 9, 10] rfl ?_
              exact ih1  bs lg (k + 1)  (by omega)  ty_bs (by omega) (by omega)
            · refine c_aload_n (j := 6) (x := a0) C dX6_findOwn_96 rfl ?_
              refine c_aload (j := 0) (x := f2) C dX6_findOwn_97 rfl ?_
              refine c_iload_n (j := 8) C dX6_findOwn_99 rfl ?_
              refine d_callV (As := [.ref f2, .int (iI i)]) (rest := []) C hM (C_fits (a0 := a0) (a1 := f2) (i := i) hW hS t_a0 rgf2 (by omega) (by show 0 ≤ i ∧ i ≤ 500; omega)) dX6_findOwn_100 kV_X6_149 rfl t_a0 rfl rfl (by decide) ck_7 rfl (Nat.le_of_ble_eq_true rfl) ⟨(Nat.le_of_ble_eq_true rfl), (Nat.le_of_ble_eq_true rfl)⟩ hph hph (show 0 + 0 = 0 from rfl) (by decide) (fun rh3 Lh3 clh3 lnh3 ivh3 rvh3 h3 => ?_)
              obtain ⟨f3, rfl, rfl, rfl, rfl, rfl, rfl, rgf3, exf3⟩ := h3
              refine c_st (st2 := [.int (iI f3)]) rfl ?_
              refine c_if_eq (tgt := 118) C ⟨by omega, by omega⟩ dX6_findOwn_103 (by decide) (fun c4 => ?_) (fun c4 => ?_)
              · refine c_iinc (z := k) (j := 3) (lv2 := [(9, .int (iI (k + 1))), (10, .ref f2), (5, (va_rf bs)), (6, .int (iI lg)), (8, .ref rb4), (7, .int (iI mn1)), (0, .ref a0), (1, .ref a1), (2, .int (iI i)), (3, .int (iI x)), (4, .ref ob1)]) C dX6_findOwn_118 rfl (by decide) rfl ?_
                refine c_goto (tgt := 52) C dX6_findOwn_121 (by decide) ?_
                refine c_lv (lv2 := [(5, (va_rf bs)), (6, .int (iI lg)), (9, .int (iI (k + 1))), (8, .ref rb4), (7, .int (iI mn1)), (0, .ref a0), (1, .ref a1), (2, .int (iI i)), (3, .int (iI x)), (4, .ref ob1)]) [2, 3, 0, 4, 5, 6, 7, 8, 9, 10] rfl ?_
                exact ih1  bs lg (k + 1)  (by omega)  ty_bs (by omega) (by omega)
              · refine c_aload (j := 0) (x := f2) C dX6_findOwn_106 rfl ?_
                refine c_astore (lv2 := [(5, .ref f2), (10, .ref f2), (6, .int (iI lg)), (9, .int (iI k)), (8, .ref rb4), (7, .int (iI mn1)), (0, .ref a0), (1, .ref a1), (2, .int (iI i)), (3, .int (iI x)), (4, .ref ob1)]) C dX6_findOwn_108 (by decide) rfl ?_
                refine c_aload (j := 1) (x := f2) C dX6_findOwn_110 rfl ?_
                refine c_getr (k := 1) C ck_6 dX6_findOwn_112 w3_141 (by decide) rgf2 rfl rfl (by decide) rfl rq5 ?_
                refine c_st (st2 := [.ref rb5]) rfl ?_
                refine c_alenI C dX6_findOwn_115 trb5 rfl ?_
                refine c_istore (lv2 := [(6, .int (iI ((ln rb5 : Nat) : Int))), (5, .ref f2), (10, .ref f2), (9, .int (iI k)), (8, .ref rb4), (7, .int (iI mn1)), (0, .ref a0), (1, .ref a1), (2, .int (iI i)), (3, .int (iI x)), (4, .ref ob1)]) C dX6_findOwn_116 (by decide) rfl ?_
                refine c_iinc (z := k) (j := 3) (lv2 := [(9, .int (iI (k + 1))), (6, .int (iI ((ln rb5 : Nat) : Int))), (5, .ref f2), (10, .ref f2), (8, .ref rb4), (7, .int (iI mn1)), (0, .ref a0), (1, .ref a1), (2, .int (iI i)), (3, .int (iI x)), (4, .ref ob1)]) C dX6_findOwn_118 rfl (by decide) rfl ?_
                refine c_goto (tgt := 52) C dX6_findOwn_121 (by decide) ?_
                refine c_lv (lv2 := [(5, .ref f2), (6, .int (iI ((ln rb5 : Nat) : Int))), (9, .int (iI (k + 1))), (8, .ref rb4), (7, .int (iI mn1)), (0, .ref a0), (1, .ref a1), (2, .int (iI i)), (3, .int (iI x)), (4, .ref ob1)]) [2, 1, 0, 4, 5, 6, 7, 8, 9, 10] rfl ?_
                exact ih1  (some f2) ((ln rb5 : Nat) : Int) (k + 1)  (by omega)  (fun _ q => by cases q; exact rgf2) (by omega) (by omega)
          · refine c_goto (tgt := 118) C dX6_findOwn_68 (by decide) ?_
            refine c_iinc (z := k) (j := 2) (lv2 := [(9, .int (iI (k + 1))), (5, (va_rf bs)), (6, .int (iI lg)), (8, .ref rb4), (7, .int (iI mn1)), (0, .ref a0), (1, .ref a1), (2, .int (iI i)), (3, .int (iI x)), (4, .ref ob1)]) C dX6_findOwn_118 rfl (by decide) rfl ?_
            refine c_goto (tgt := 52) C dX6_findOwn_121 (by decide) ?_
            refine c_lv (lv2 := [(5, (va_rf bs)), (6, .int (iI lg)), (9, .int (iI (k + 1))), (8, .ref rb4), (7, .int (iI mn1)), (0, .ref a0), (1, .ref a1), (2, .int (iI i)), (3, .int (iI x)), (4, .ref ob1)]) [1, 2, 0, 3, 4, 5, 6, 7, 8, 9] rfl ?_
            exact ih1  bs lg (k + 1)  (by omega)  ty_bs (by omega) (by omega)
    refine c_lv (lv2 := [(5, .ref ob1), (6, .int (iI ((ln rb1 : Nat) : Int))), (9, .int (iI 0)), (8, .ref rb4), (7, .int (iI mn1)), (0, .ref a0), (1, .ref a1), (2, .int (iI i)), (3, .int (iI x)), (4, .ref ob1)]) [4, 3, 0, 1, 2, 5, 6, 7, 8, 9] rfl ?_
    exact Lp1 202 (some ob1) ((ln rb1 : Nat) : Int) 0  (by omega)  (fun _ q => by cases q; exact tob1) (by omega) (by omega)
  · subst oq1
    refine c_lv (lv2 := [(5, .null), (0, .ref a0), (1, .ref a1), (2, .int (iI i)), (3, .int (iI x)), (4, .null)]) [0, 1, 2, 3, 4, 5] rfl ?_
    refine c_st (st2 := []) rfl ?_
    refine c_iconst C dX6_findOwn_9 ?_
    refine c_goto (tgt := 19) C dX6_findOwn_10 (by decide) ?_
    refine c_istore (lv2 := [(6, .int (iI 0)), (5, .null), (0, .ref a0), (1, .ref a1), (2, .int (iI i)), (3, .int (iI x)), (4, .null)]) C dX6_findOwn_19 (by decide) rfl ?_
    refine c_aload_n (j := 3) (x := a1) C dX6_findOwn_21 rfl ?_
    obtain ⟨rb6, rq6, trb6⟩ := hW.ref t_a1 5 rfl rfl rfl
    refine c_getr (k := 5) C ck_10 dX6_findOwn_22 w2_191 (by decide) t_a1 rfl rfl (by decide) rfl rq6 ?_
    refine c_st (st2 := [.ref rb6]) rfl ?_
    have ri4 : 0 ≤ iv rb6 2 ∧ iv rb6 2 ≤ 200 := hW.int trb6 2
    refine c_get (k := 2) C ck_2 dX6_findOwn_25 w1_47 (by decide) trb6 rfl rfl (by decide) rfl ?_
    refine c_aload_n (j := 3) (x := a1) C dX6_findOwn_28 rfl ?_
    obtain ⟨rb7, rq7, trb7⟩ := hW.ref t_a1 4 rfl rfl rfl
    refine c_getr (k := 4) C ck_10 dX6_findOwn_29 w2_189 (by decide) t_a1 rfl rfl (by decide) rfl rq7 ?_
    refine c_st (st2 := [.ref rb7, .int (iI (iv rb6 2))]) rfl ?_
    have ri5 : 0 ≤ iv rb7 2 ∧ iv rb7 2 ≤ 200 := hW.int trb7 2
    refine d_callV (As := []) (rest := [.int (iI (iv rb6 2))]) C hM (C_size_26 (a0 := rb7) hW hS trb7  ) dX6_findOwn_32 kV_X6_134 rfl trb7 rfl rfl (by decide) ck_0 rfl (Nat.le_of_ble_eq_true rfl) ⟨(Nat.le_of_ble_eq_true rfl), (Nat.le_of_ble_eq_true rfl)⟩ hph hph (show 0 + 0 = 0 from rfl) (by decide) (fun rh4 Lh4 clh4 lnh4 ivh4 rvh4 h4 => ?_)
    obtain ⟨f4, rfl, rfl, rfl, rfl, rfl, rfl, rgf4, exf4⟩ := h4
    refine c_st (st2 := [.int (iI f4), .int (iI (iv rb6 2))]) rfl ?_
    have gf4 : f4 = iv rb7 2 := exf4
    obtain ⟨mn2, hmn2, emn2⟩ := mmin_c (x := iv rb6 2) (y := f4) (r32_c (lo := 0) (hi := 200) ri4.1 ri4.2 (by decide) (by decide)) ⟨by omega, by omega⟩
    refine c_mmin (w := iI mn2) C dX6_findOwn_35 w4_109 w2_129 w1_14 w2_130 (by decide) (rom0 hph hph (by decide)) (Nat.le_of_ble_eq_true rfl) emn2 ?_
    refine c_istore (lv2 := [(7, .int (iI mn2)), (6, .int (iI 0)), (5, .null), (0, .ref a0), (1, .ref a1), (2, .int (iI i)), (3, .int (iI x)), (4, .null)]) C dX6_findOwn_38 (by decide) rfl ?_
    refine c_aload_n (j := 4) (x := a1) C dX6_findOwn_40 rfl ?_
    refine c_getr (k := 5) C ck_10 dX6_findOwn_41 w2_191 (by decide) t_a1 rfl rfl (by decide) rfl rq6 ?_
    refine c_st (st2 := [.ref rb6]) rfl ?_
    obtain ⟨rb8, rq8, trb8⟩ := hW.ref trb6 1 rfl rfl rfl
    refine hv2 (show 16 ≤ ln rb8 ∧ ln rb8 ≤ 400 from hW.len trb8 rfl) (hW.isz trb6 rfl rfl rq8) (fun lnrb8 szrb8 => ?_)
    refine c_getr (k := 1) C ck_2 dX6_findOwn_44 w1_42 (by decide) trb6 rfl rfl (by decide) rfl rq8 ?_
    refine c_st (st2 := [.ref rb8]) rfl ?_
    refine c_astore (lv2 := [(8, .ref rb8), (7, .int (iI mn2)), (6, .int (iI 0)), (5, .null), (0, .ref a0), (1, .ref a1), (2, .int (iI i)), (3, .int (iI x)), (4, .null)]) C dX6_findOwn_47 (by decide) rfl ?_
    refine c_iconst C dX6_findOwn_49 ?_
    refine c_istore (lv2 := [(9, .int (iI 0)), (8, .ref rb8), (7, .int (iI mn2)), (6, .int (iI 0)), (5, .null), (0, .ref a0), (1, .ref a1), (2, .int (iI i)), (3, .int (iI x)), (4, .null)]) C dX6_findOwn_50 (by decide) rfl ?_
    have Lp2 : ∀ (nn : Nat) (bs : Option Nat) (lg k : Int) , 201 - k < (nn : Int) → (∀ b, bs = some b → ty L cl b 20) → (0 ≤ lg ∧ lg ≤ 8) → (0 ≤ k ∧ k ≤ 200) → cw p l e 3 ((PHM) + 0 - ((Phi (g0 G) sk) ln rv)) s m args below meth c G A 11 (MQ below (Qu G A (Qp G (Phi (g0 G) sk) ((Phi (g0 G) sk) ln rv) 0 (fun v L2 cl2 ln2 iv2 rv2 => ∃ f : Option Nat, v = some ((va_rf f)) ∧ L = L2 ∧ cl = cl2 ∧ ln = ln2 ∧ iv = iv2 ∧ rv = rv2 ∧ (∀ b, f = some b → ty L2 cl2 b 20) ∧ (True)))) args s (((PHM) + 0 - ((Phi (g0 G) sk) ln rv)) / 16) ((PHM) + 0 - ((Phi (g0 G) sk) ln rv)) A) (Phi (g0 G) sk) ((Phi (g0 G) sk) ln rv) L cl ln iv rv 0 52 [(5, (va_rf bs)), (6, .int (iI lg)), (9, .int (iI k)), (8, .ref rb8), (7, .int (iI mn2)), (0, .ref a0), (1, .ref a1), (2, .int (iI i)), (3, .int (iI x)), (4, .null)] [] := by
      intro nn
      induction nn with
      | zero =>
        intro bs lg k  hm  ty_bs hlg hk
        exact absurd hm (by omega)
      | succ nn ih2 =>
        intro bs lg k  hm  ty_bs hlg hk
        refine c_iload (j := 2) C dX6_findOwn_52 rfl ?_
        refine c_iload (j := 4) C dX6_findOwn_54 rfl ?_
        refine c_icmp_ge (tgt := 124) C (r32_c (lo := 0) (hi := 200) hk.1 hk.2 (by decide) (by decide)) ⟨by omega, by omega⟩ dX6_findOwn_56 (by decide) (fun c5 => ?_) (fun c5 => ?_)
        · refine c_aloadr (j := 0) (r := bs) C dX6_findOwn_124 rfl ?_
          exact c_aret (x := bs) C dX6_findOwn_126 rfl (Or.inl ⟨_, rfl⟩) (by decide) (rom0 hph hph (by decide)) ⟨bs, rfl, rfl, rfl, rfl, rfl, rfl, ty_bs, trivial⟩
        · refine c_aload (j := 3) (x := rb8) C dX6_findOwn_59 rfl ?_
          refine c_iload (j := 2) C dX6_findOwn_61 rfl ?_
          have ll4 : 16 ≤ ln rb8 ∧ ln rb8 ≤ 400 := hW.len trb8 rfl
          refine c_iald C dX6_findOwn_63 trb8 rfl (by omega) (by omega) (by omega) ?_
          have ri6 : (-2147483648) ≤ iv rb8 k.toNat ∧ iv rb8 k.toNat ≤ 2147483647 := hW.int trb8 k.toNat
          refine c_iload_n (j := 8) C dX6_findOwn_64 rfl ?_
          refine c_icmp_eq (tgt := 71) C (r32_c (lo := (-2147483648)) (hi := 2147483647) ri6.1 ri6.2 (by decide) (by decide)) ⟨by omega, by omega⟩ dX6_findOwn_65 (by decide) (fun c6 => ?_) (fun c6 => ?_)
          · refine c_aload_n (j := 6) (x := a1) C dX6_findOwn_71 rfl ?_
            refine c_getr (k := 4) C ck_10 dX6_findOwn_72 w2_189 (by decide) t_a1 rfl rfl (by decide) rfl rq7 ?_
            refine c_st (st2 := [.ref rb7]) rfl ?_
            refine c_iload (j := 2) C dX6_findOwn_75 rfl ?_
            refine d_callV (As := [.int (iI k)]) (rest := []) C hM (C_get_26 (a0 := rb7) (i := k) hW hS trb7 (by omega) (by show 0 ≤ k ∧ k < iv rb7 2; omega)) dX6_findOwn_77 kV_X6_145 rfl trb7 rfl rfl (by decide) ck_0 rfl (Nat.le_of_ble_eq_true rfl) ⟨(Nat.le_of_ble_eq_true rfl), (Nat.le_of_ble_eq_true rfl)⟩ hph hph (show 0 + 0 = 0 from rfl) (by decide) (fun rh5 Lh5 clh5 lnh5 ivh5 rvh5 h5 => ?_)
            obtain ⟨f5, rfl, rfl, rfl, rfl, rfl, rfl, rgf5, exf5⟩ := h5
            refine c_st (st2 := [.ref f5]) rfl ?_
            have gf5 : el rv rb7 k.toNat = some f5 := exf5
            refine c_cast C ck_6 dX6_findOwn_80 w4_111 w8_169t rgf5 rfl rfl (by decide) ?_
            refine c_astore (lv2 := [(10, .ref f5), (5, (va_rf bs)), (6, .int (iI lg)), (9, .int (iI k)), (8, .ref rb8), (7, .int (iI mn2)), (0, .ref a0), (1, .ref a1), (2, .int (iI i)), (3, .int (iI x)), (4, .null)]) C dX6_findOwn_83 (by decide) rfl ?_
            refine c_aload (j := 0) (x := f5) C dX6_findOwn_85 rfl ?_
            obtain ⟨rb9, rq9, trb9⟩ := hW.ref rgf5 1 rfl rfl rfl
            have lnrb9 : 0 ≤ ln rb9 ∧ ln rb9 ≤ 8 := hW.len trb9 rfl
            refine c_getr (k := 1) C ck_6 dX6_findOwn_87 w3_141 (by decide) rgf5 rfl rfl (by decide) rfl rq9 ?_
            refine c_st (st2 := [.ref rb9]) rfl ?_
            have ll5 : 0 ≤ ln rb9 ∧ ln rb9 ≤ 8 := hW.len trb9 rfl
            refine c_alenI C dX6_findOwn_90 trb9 rfl ?_
            refine c_iload (j := 2) C dX6_findOwn_91 rfl ?_
            refine c_icmp_le (tgt := 118) C ⟨by omega, by omega⟩ (r32_c (lo := 0) (hi := 8) hlg.1 hlg.2 (by decide) (by decide)) dX6_findOwn_93 (by decide) (fun c7 => ?_) (fun c7 => ?_)
            · refine c_iinc (z := k) (j := 3) (lv2 := [(9, .int (iI (k + 1))), (10, .ref f5), (5, (va_rf bs)), (6, .int (iI lg)), (8, .ref rb8), (7, .int (iI mn2)), (0, .ref a0), (1, .ref a1), (2, .int (iI i)), (3, .int (iI x)), (4, .null)]) C dX6_findOwn_118 rfl (by decide) rfl ?_
              refine c_goto (tgt := 52) C dX6_findOwn_121 (by decide) ?_
              refine c_lv (lv2 := [(5, (va_rf bs)), (6, .int (iI lg)), (9, .int (iI (k + 1))), (8, .ref rb8), (7, .int (iI mn2)), (0, .ref a0), (1, .ref a1), (2, .int (iI i)), (3, .int (iI x)), (4, .null)]) [2, 3, 0, 4, 5, 6, 7, 8, 9, 10] rfl ?_
              exact ih2  bs lg (k + 1)  (by omega)  ty_bs (by omega) (by omega)
            · refine c_aload_n (j := 6) (x := a0) C dX6_findOwn_96 rfl ?_
              refine c_aload (j := 0) (x := f5) C dX6_findOwn_97 rfl ?_
              refine c_iload_n (j := 8) C dX6_findOwn_99 rfl ?_
              refine d_callV (As := [.ref f5, .int (iI i)]) (rest := []) C hM (C_fits (a0 := a0) (a1 := f5) (i := i) hW hS t_a0 rgf5 (by omega) (by show 0 ≤ i ∧ i ≤ 500; omega)) dX6_findOwn_100 kV_X6_149 rfl t_a0 rfl rfl (by decide) ck_7 rfl (Nat.le_of_ble_eq_true rfl) ⟨(Nat.le_of_ble_eq_true rfl), (Nat.le_of_ble_eq_true rfl)⟩ hph hph (show 0 + 0 = 0 from rfl) (by decide) (fun rh6 Lh6 clh6 lnh6 ivh6 rvh6 h6 => ?_)
              obtain ⟨f6, rfl, rfl, rfl, rfl, rfl, rfl, rgf6, exf6⟩ := h6
              refine c_st (st2 := [.int (iI f6)]) rfl ?_
              refine c_if_eq (tgt := 118) C ⟨by omega, by omega⟩ dX6_findOwn_103 (by decide) (fun c8 => ?_) (fun c8 => ?_)
              · refine c_iinc (z := k) (j := 3) (lv2 := [(9, .int (iI (k + 1))), (10, .ref f5), (5, (va_rf bs)), (6, .int (iI lg)), (8, .ref rb8), (7, .int (iI mn2)), (0, .ref a0), (1, .ref a1), (2, .int (iI i)), (3, .int (iI x)), (4, .null)]) C dX6_findOwn_118 rfl (by decide) rfl ?_
                refine c_goto (tgt := 52) C dX6_findOwn_121 (by decide) ?_
                refine c_lv (lv2 := [(5, (va_rf bs)), (6, .int (iI lg)), (9, .int (iI (k + 1))), (8, .ref rb8), (7, .int (iI mn2)), (0, .ref a0), (1, .ref a1), (2, .int (iI i)), (3, .int (iI x)), (4, .null)]) [2, 3, 0, 4, 5, 6, 7, 8, 9, 10] rfl ?_
                exact ih2  bs lg (k + 1)  (by omega)  ty_bs (by omega) (by omega)
              · refine c_aload (j := 0) (x := f5) C dX6_findOwn_106 rfl ?_
                refine c_astore (lv2 := [(5, .ref f5), (10, .ref f5), (6, .int (iI lg)), (9, .int (iI k)), (8, .ref rb8), (7, .int (iI mn2)), (0, .ref a0), (1, .ref a1), (2, .int (iI i)), (3, .int (iI x)), (4, .null)]) C dX6_findOwn_108 (by decide) rfl ?_
                refine c_aload (j := 1) (x := f5) C dX6_findOwn_110 rfl ?_
                refine c_getr (k := 1) C ck_6 dX6_findOwn_112 w3_141 (by decide) rgf5 rfl rfl (by decide) rfl rq9 ?_
                refine c_st (st2 := [.ref rb9]) rfl ?_
                refine c_alenI C dX6_findOwn_115 trb9 rfl ?_
                refine c_istore (lv2 := [(6, .int (iI ((ln rb9 : Nat) : Int))), (5, .ref f5), (10, .ref f5), (9, .int (iI k)), (8, .ref rb8), (7, .int (iI mn2)), (0, .ref a0), (1, .ref a1), (2, .int (iI i)), (3, .int (iI x)), (4, .null)]) C dX6_findOwn_116 (by decide) rfl ?_
                refine c_iinc (z := k) (j := 3) (lv2 := [(9, .int (iI (k + 1))), (6, .int (iI ((ln rb9 : Nat) : Int))), (5, .ref f5), (10, .ref f5), (8, .ref rb8), (7, .int (iI mn2)), (0, .ref a0), (1, .ref a1), (2, .int (iI i)), (3, .int (iI x)), (4, .null)]) C dX6_findOwn_118 rfl (by decide) rfl ?_
                refine c_goto (tgt := 52) C dX6_findOwn_121 (by decide) ?_
                refine c_lv (lv2 := [(5, .ref f5), (6, .int (iI ((ln rb9 : Nat) : Int))), (9, .int (iI (k + 1))), (8, .ref rb8), (7, .int (iI mn2)), (0, .ref a0), (1, .ref a1), (2, .int (iI i)), (3, .int (iI x)), (4, .null)]) [2, 1, 0, 4, 5, 6, 7, 8, 9, 10] rfl ?_
                exact ih2  (some f5) ((ln rb9 : Nat) : Int) (k + 1)  (by omega)  (fun _ q => by cases q; exact rgf5) (by omega) (by omega)
          · refine c_goto (tgt := 118) C dX6_findOwn_68 (by decide) ?_
            refine c_iinc (z := k) (j := 2) (lv2 := [(9, .int (iI (k + 1))), (5, (va_rf bs)), (6, .int (iI lg)), (8, .ref rb8), (7, .int (iI mn2)), (0, .ref a0), (1, .ref a1), (2, .int (iI i)), (3, .int (iI x)), (4, .null)]) C dX6_findOwn_118 rfl (by decide) rfl ?_
            refine c_goto (tgt := 52) C dX6_findOwn_121 (by decide) ?_
            refine c_lv (lv2 := [(5, (va_rf bs)), (6, .int (iI lg)), (9, .int (iI (k + 1))), (8, .ref rb8), (7, .int (iI mn2)), (0, .ref a0), (1, .ref a1), (2, .int (iI i)), (3, .int (iI x)), (4, .null)]) [1, 2, 0, 3, 4, 5, 6, 7, 8, 9] rfl ?_
            exact ih2  bs lg (k + 1)  (by omega)  ty_bs (by omega) (by omega)
    refine c_lv (lv2 := [(5, .null), (6, .int (iI 0)), (9, .int (iI 0)), (8, .ref rb8), (7, .int (iI mn2)), (0, .ref a0), (1, .ref a1), (2, .int (iI i)), (3, .int (iI x)), (4, .null)]) [4, 3, 0, 1, 2, 5, 6, 7, 8, 9] rfl ?_
    exact Lp2 202 none 0 0  (by omega)  (fun _ q => by cases q) (by omega) (by omega)
set_option maxHeartbeats 4000000 in
set_option maxRecDepth 100000 in
theorem C_find {l : Launch} {G : GT} {mi : Nat} {sk : Nat → Nat} {L : List Nat} {cl ln : Nat → Nat} {iv : Nat → Nat → Int} {rv : Nat → Nat → Option Nat}  {a0 : Nat} {a1 : Nat} {i : Int} {x : Int} (hW : WT (g0 G) sk L cl ln iv rv) (hS : SKL sk L cl) (t_a0 : ty L cl a0 15) (t_a1 : ty L cl a1 100) (h_i : -2147483648 ≤ i ∧ i ≤ 2147483647) (h_x : -2147483648 ≤ x ∧ x ≤ 2147483647) (hi : 0 ≤ i ∧ i ≤ 500) : Mc l G mi (Phi (g0 G) sk) PHM yX6_find cX6_find 7 (some (.object "DotPress$Row")) 4 [.ref a0, .ref a1, .int (iI i), .int (iI x)] L cl ln iv rv 0 (fun v L2 cl2 ln2 iv2 rv2 => ∃ f : Option Nat, v = some ((va_rf f)) ∧ L = L2 ∧ cl = cl2 ∧ ln = ln2 ∧ rv = rv2 ∧ fT [55] L cl iv rv iv2 rv2 ∧ WT (g0 G) sk L2 cl2 ln2 iv2 rv2 ∧ (∀ b, f = some b → ty L2 cl2 b 20) ∧ (True)) := by
  refine Mc.mk (by decide) (Nat.le_of_ble_eq_true rfl) ?_
  intro p e s m args below meth c A C hM
  refine hv3 (Phi.le hW hS) (show XT L cl ln L cl ln from XT.refl) (show fT [55] L cl iv rv iv rv from fT.refl) (fun hph hX0 hF0 => ?_)
  refine c_null C dX6_find_0 ?_
  refine c_astorer (r := none) (lv2 := [(4, .null), (0, .ref a0), (1, .ref a1), (2, .int (iI i)), (3, .int (iI x))]) C dX6_find_1 (by decide) rfl ?_
  refine c_iload_n (j := 4) C dX6_find_3 rfl ?_
  refine c_istore (lv2 := [(5, .int (iI x)), (4, .null), (0, .ref a0), (1, .ref a1), (2, .int (iI i)), (3, .int (iI x))]) C dX6_find_4 (by decide) rfl ?_
  refine c_aload_n (j := 3) (x := a1) C dX6_find_6 rfl ?_
  refine c_astore (lv2 := [(6, .ref a1), (5, .int (iI x)), (4, .null), (0, .ref a0), (1, .ref a1), (2, .int (iI i)), (3, .int (iI x))]) C dX6_find_7 (by decide) rfl ?_
  have Lp1 : ∀ (nn : Nat) (bs : Option Nat) (tq : Option Nat) (he rk : Int) (ivb1 : Nat → Nat → Int) , rk - 99 < (nn : Int) → WT (g0 G) sk L cl ln ivb1 rv → fT [55] L cl iv rv ivb1 rv → (∀ b, bs = some b → ty L cl b 20) → (∀ b, tq = some b → ty L cl b 100) → (-2147483648 ≤ he ∧ he ≤ 2147483647) → (99 ≤ rk) → (∀ b, tq = some b → ((cl b : Nat) : Int) ≤ rk) → cw p l e 4 ((PHM) + 0 - ((Phi (g0 G) sk) ln rv)) s m args below meth c G A 7 (MQ below (Qu G A (Qp G (Phi (g0 G) sk) ((Phi (g0 G) sk) ln rv) 0 (fun v L2 cl2 ln2 iv2 rv2 => ∃ f : Option Nat, v = some ((va_rf f)) ∧ L = L2 ∧ cl = cl2 ∧ ln = ln2 ∧ rv = rv2 ∧ fT [55] L cl iv rv iv2 rv2 ∧ WT (g0 G) sk L2 cl2 ln2 iv2 rv2 ∧ (∀ b, f = some b → ty L2 cl2 b 20) ∧ (True)))) args s (((PHM) + 0 - ((Phi (g0 G) sk) ln rv)) / 16) ((PHM) + 0 - ((Phi (g0 G) sk) ln rv)) A) (Phi (g0 G) sk) ((Phi (g0 G) sk) ln rv) L cl ln ivb1 rv 0 9 [(4, (va_rf bs)), (5, .int (iI he)), (6, (va_rf tq)), (0, .ref a0), (1, .ref a1), (2, .int (iI i)), (3, .int (iI x))] [] := by
    intro nn
    induction nn with
    | zero =>
      intro bs tq he rk ivb1 hm Wb1 Fb1 ty_bs ty_tq hhe h99 hrk
      exact absurd hm (by omega)
    | succ nn ih1 =>
      intro bs tq he rk ivb1 hm Wb1 Fb1 ty_bs ty_tq hhe h99 hrk
      refine c_aloadr (j := 2) (r := tq) C dX6_find_9 rfl ?_
      refine c_ifnull (r := tq) (tgt := 146) C dX6_find_11 (by decide) (fun oq1 => ?_) (fun ob1 oq1 => ?_)
      · subst oq1
        refine c_lv (lv2 := [(4, (va_rf bs)), (5, .int (iI he)), (6, .null), (0, .ref a0), (1, .ref a1), (2, .int (iI i)), (3, .int (iI x))]) [0, 1, 2, 3, 4, 5, 6] rfl ?_
        refine c_st (st2 := []) rfl ?_
        refine c_aloadr (j := 0) (r := bs) C dX6_find_146 rfl ?_
        exact c_aret (x := bs) C dX6_find_148 rfl (Or.inl ⟨_, rfl⟩) (by decide) (rom0 hph hph (by decide)) ⟨bs, rfl, rfl, rfl, rfl, rfl, Fb1, Wb1, ty_bs, trivial⟩
      · subst oq1
        refine hv2 (ty_tq ob1 rfl) (hrk ob1 rfl) (fun tob1 hkob1 => ?_)
        have tgob1 := bt_100 tob1.2
        refine c_lv (lv2 := [(4, (va_rf bs)), (5, .int (iI he)), (6, .ref ob1), (0, .ref a0), (1, .ref a1), (2, .int (iI i)), (3, .int (iI x))]) [0, 1, 2, 3, 4, 5, 6] rfl ?_
        refine c_st (st2 := []) rfl ?_
        refine c_aload_n (j := 3) (x := a0) C dX6_find_14 rfl ?_
        refine c_aload (j := 2) (x := ob1) C dX6_find_15 rfl ?_
        refine hv2 (show (-2147483648) ≤ ivb1 ob1 0 ∧ ivb1 ob1 0 ≤ 2147483647 from Wb1.int tob1 0) (show ivb1 ob1 0 = iv ob1 0 from Fb1.i tob1 rfl 0) (fun ri1 ie1 => ?_)
        refine c_get (k := 0) C ck_10 dX6_find_17 w2_177 (by decide) tob1 rfl rfl (by decide) rfl ?_
        refine d_callV (As := [.int (iI (ivb1 ob1 0))]) (rest := []) C hM (C_countFind (a0 := a0) (i := ivb1 ob1 0) Wb1 hS t_a0 (by omega) ) dX6_find_20 kV_X6_119 rfl t_a0 rfl rfl (by decide) ck_7 rfl (Nat.le_of_ble_eq_true rfl) ⟨(Nat.le_of_ble_eq_true rfl), (Nat.le_of_ble_eq_true rfl)⟩ hph hph (show 0 + 0 = 0 from rfl) (by decide) (fun rh1 Lh1 clh1 lnh1 ivh1 rvh1 h1 => ?_)
        obtain ⟨rfl, rfl, rfl, rfl, rfl, fl1, W1, exf1⟩ := h1
        have F1 := Fb1.call hX0 fl1 rfl
        refine c_st (st2 := []) rfl ?_
        refine c_aload (j := 2) (x := ob1) C dX6_find_23 rfl ?_
        refine hv2 (show (-2147483648) ≤ ivh1 ob1 0 ∧ ivh1 ob1 0 ≤ 2147483647 from W1.int tob1 0) (show ivh1 ob1 0 = ivb1 ob1 0 from fl1.i tob1 rfl 0) (fun ri2 ie2 => ?_)
        refine c_get (k := 0) C ck_10 dX6_find_25 w2_177 (by decide) tob1 rfl rfl (by decide) rfl ?_
        refine c_if_eq (tgt := 40) C (r32_c (lo := (-2147483648)) (hi := 2147483647) ri2.1 ri2.2 (by decide) (by decide)) dX6_find_28 (by decide) (fun c1 => ?_) (fun c1 => ?_)
        · refine c_aload_n (j := 3) (x := a0) C dX6_find_40 rfl ?_
          refine c_aload (j := 2) (x := ob1) C dX6_find_41 rfl ?_
          refine c_iload_n (j := 5) C dX6_find_43 rfl ?_
          refine c_iload (j := 1) C dX6_find_44 rfl ?_
          refine c_aloadr (j := 0) (r := bs) C dX6_find_46 rfl ?_
          refine d_callV (As := [.ref ob1, .int (iI i), .int (iI he), (va_rf bs)]) (rest := []) C hM (C_findOwn (a0 := a0) (a1 := ob1) (i := i) (x := he) (r := bs) W1 hS t_a0 tob1 ty_bs (by omega) (by omega) (by show 0 ≤ i ∧ i ≤ 500; omega)) dX6_find_48 kV_X6_122 rfl t_a0 rfl rfl (by decide) ck_7 rfl (Nat.le_of_ble_eq_true rfl) ⟨(Nat.le_of_ble_eq_true rfl), (Nat.le_of_ble_eq_true rfl)⟩ hph hph (show 0 + 0 = 0 from rfl) (by decide) (fun rh2 Lh2 clh2 lnh2 ivh2 rvh2 h2 => ?_)
          obtain ⟨f2, rfl, rfl, rfl, rfl, rfl, rfl, rgf2, exf2⟩ := h2
          refine c_st (st2 := [(va_rf f2)]) rfl ?_
          exact c_aret (x := f2) C dX6_find_51 rfl (Or.inl ⟨_, rfl⟩) (by decide) (rom0 hph hph (by decide)) ⟨f2, rfl, rfl, rfl, rfl, rfl, F1, W1, rgf2, trivial⟩
        · refine c_aload (j := 2) (x := ob1) C dX6_find_31 rfl ?_
          refine c_get (k := 0) C ck_10 dX6_find_33 w2_177 (by decide) tob1 rfl rfl (by decide) rfl ?_
          refine c_iconst C dX6_find_36 ?_
          refine c_icmp_ne (tgt := 52) C (r32_c (lo := (-2147483648)) (hi := 2147483647) ri2.1 ri2.2 (by decide) (by decide)) ⟨by decide, by decide⟩ dX6_find_37 (by decide) (fun c2 => ?_) (fun c2 => ?_)
          · refine c_aload (j := 2) (x := ob1) C dX6_find_52 rfl ?_
            refine c_get (k := 0) C ck_10 dX6_find_54 w2_177 (by decide) tob1 rfl rfl (by decide) rfl ?_
            refine c_iconst C dX6_find_57 ?_
            refine c_icmp_ne (tgt := 72) C (r32_c (lo := (-2147483648)) (hi := 2147483647) ri2.1 ri2.2 (by decide) (by decide)) ⟨by decide, by decide⟩ dX6_find_58 (by decide) (fun c3 => ?_) (fun c3 => ?_)
            · refine c_aload (j := 2) (x := ob1) C dX6_find_72 rfl ?_
              refine c_get (k := 0) C ck_10 dX6_find_74 w2_177 (by decide) tob1 rfl rfl (by decide) rfl ?_
              refine c_iconst C dX6_find_77 ?_
              refine c_icmp_ne (tgt := 106) C (r32_c (lo := (-2147483648)) (hi := 2147483647) ri2.1 ri2.2 (by decide) (by decide)) ⟨by decide, by decide⟩ dX6_find_78 (by decide) (fun c4 => ?_) (fun c4 => ?_)
              · refine c_aload_n (j := 3) (x := a0) C dX6_find_106 rfl ?_
                refine c_iconst C dX6_find_107 ?_
                refine d_callV (As := [.int (iI 0)]) (rest := []) C hM (C_countFind (a0 := a0) (i := 0) W1 hS t_a0 ⟨by decide, by decide⟩ ) dX6_find_108 kV_X6_119 rfl t_a0 rfl rfl (by decide) ck_7 rfl (Nat.le_of_ble_eq_true rfl) ⟨(Nat.le_of_ble_eq_true rfl), (Nat.le_of_ble_eq_true rfl)⟩ hph hph (show 0 + 0 = 0 from rfl) (by decide) (fun rh3 Lh3 clh3 lnh3 ivh3 rvh3 h3 => ?_)
                obtain ⟨rfl, rfl, rfl, rfl, rfl, fl3, W3, exf3⟩ := h3
                have F2 := F1.call hX0 fl3 rfl
                refine c_st (st2 := []) rfl ?_
                refine c_aload_n (j := 3) (x := a0) C dX6_find_111 rfl ?_
                refine c_aload (j := 2) (x := ob1) C dX6_find_112 rfl ?_
                refine c_iload_n (j := 5) C dX6_find_114 rfl ?_
                refine c_iload (j := 1) C dX6_find_115 rfl ?_
                refine c_aloadr (j := 0) (r := bs) C dX6_find_117 rfl ?_
                refine d_callV (As := [.ref ob1, .int (iI i), .int (iI he), (va_rf bs)]) (rest := []) C hM (C_findOwn (a0 := a0) (a1 := ob1) (i := i) (x := he) (r := bs) W3 hS t_a0 tob1 ty_bs (by omega) (by omega) (by show 0 ≤ i ∧ i ≤ 500; omega)) dX6_find_119 kV_X6_122 rfl t_a0 rfl rfl (by decide) ck_7 rfl (Nat.le_of_ble_eq_true rfl) ⟨(Nat.le_of_ble_eq_true rfl), (Nat.le_of_ble_eq_true rfl)⟩ hph hph (show 0 + 0 = 0 from rfl) (by decide) (fun rh4 Lh4 clh4 lnh4 ivh4 rvh4 h4 => ?_)
                obtain ⟨f4, rfl, rfl, rfl, rfl, rfl, rfl, rgf4, exf4⟩ := h4
                refine c_st (st2 := [(va_rf f4)]) rfl ?_
                refine c_astorer (r := f4) (lv2 := [(4, (va_rf f4)), (5, .int (iI he)), (6, .ref ob1), (0, .ref a0), (1, .ref a1), (2, .int (iI i)), (3, .int (iI x))]) C dX6_find_122 (by decide) rfl ?_
                refine c_aload (j := 2) (x := ob1) C dX6_find_124 rfl ?_
                refine hv2 (show (-2147483648) ≤ ivh3 ob1 0 ∧ ivh3 ob1 0 ≤ 2147483647 from W3.int tob1 0) (show ivh3 ob1 0 = ivh1 ob1 0 from fl3.i tob1 rfl 0) (fun ri3 ie3 => ?_)
                refine c_get (k := 0) C ck_10 dX6_find_126 w2_177 (by decide) tob1 rfl rfl (by decide) rfl ?_
                refine c_iconst C dX6_find_129 ?_
                refine c_icmp_ne (tgt := 136) C (r32_c (lo := (-2147483648)) (hi := 2147483647) ri3.1 ri3.2 (by decide) (by decide)) ⟨by decide, by decide⟩ dX6_find_130 (by decide) (fun c5 => ?_) (fun c5 => ?_)
                · refine c_aload (j := 2) (x := ob1) C dX6_find_136 rfl ?_
                  rcases W3.opt tob1 2 rfl rfl with ⟨nq1, _⟩ | ⟨nb1, nq1, tnb1⟩
                  · refine c_getr (k := 2) C ck_10 dX6_find_138 w2_182 (by decide) tob1 rfl rfl (by decide) rfl nq1 ?_
                    refine c_st (st2 := [.null]) rfl ?_
                    refine c_astorer (r := none) (lv2 := [(6, .null), (4, (va_rf f4)), (5, .int (iI he)), (0, .ref a0), (1, .ref a1), (2, .int (iI i)), (3, .int (iI x))]) C dX6_find_141 (by decide) rfl ?_
                    refine c_goto (tgt := 9) C dX6_find_143 (by decide) ?_
                    refine c_lv (lv2 := [(4, (va_rf f4)), (5, .int (iI he)), (6, .null), (0, .ref a0), (1, .ref a1), (2, .int (iI i)), (3, .int (iI x))]) [1, 2, 0, 3, 4, 5, 6] rfl ?_
                    exact ih1  f4 none he (rk - 1) _ (by omega) W3 F2 rgf4 (fun _ q => by cases q) (by omega) (by omega) (fun _ q => by cases q)
                  · have rknb1 := W3.rank tob1 (k := 2) (by decide) nq1
                    refine c_getr (k := 2) C ck_10 dX6_find_138 w2_182 (by decide) tob1 rfl rfl (by decide) rfl nq1 ?_
                    refine c_st (st2 := [.ref nb1]) rfl ?_
                    refine c_astore (lv2 := [(6, .ref nb1), (4, (va_rf f4)), (5, .int (iI he)), (0, .ref a0), (1, .ref a1), (2, .int (iI i)), (3, .int (iI x))]) C dX6_find_141 (by decide) rfl ?_
                    refine c_goto (tgt := 9) C dX6_find_143 (by decide) ?_
                    have trnb1 := bt_100 tnb1.2
                    refine c_lv (lv2 := [(4, (va_rf f4)), (5, .int (iI he)), (6, .ref nb1), (0, .ref a0), (1, .ref a1), (2, .int (iI i)), (3, .int (iI x))]) [1, 2, 0, 3, 4, 5, 6] rfl ?_
                    exact ih1  f4 (some nb1) he (rk - 1) _ (by omega) W3 F2 rgf4 (fun _ q => by cases q; exact tnb1) (by omega) (by omega) (fun _ q => by cases q; omega)
                · refine c_aloadr (j := 0) (r := f4) C dX6_find_133 rfl ?_
                  exact c_aret (x := f4) C dX6_find_135 rfl (Or.inl ⟨_, rfl⟩) (by decide) (rom0 hph hph (by decide)) ⟨f4, rfl, rfl, rfl, rfl, rfl, F2, W3, rgf4, trivial⟩
              · refine c_aload_n (j := 3) (x := a0) C dX6_find_81 rfl ?_
                refine c_iconst C dX6_find_82 ?_
                refine d_callV (As := [.int (iI 1)]) (rest := []) C hM (C_countFind (a0 := a0) (i := 1) W1 hS t_a0 ⟨by decide, by decide⟩ ) dX6_find_83 kV_X6_119 rfl t_a0 rfl rfl (by decide) ck_7 rfl (Nat.le_of_ble_eq_true rfl) ⟨(Nat.le_of_ble_eq_true rfl), (Nat.le_of_ble_eq_true rfl)⟩ hph hph (show 0 + 0 = 0 from rfl) (by decide) (fun rh5 Lh5 clh5 lnh5 ivh5 rvh5 h5 => ?_)
                obtain ⟨rfl, rfl, rfl, rfl, rfl, fl5, W5, exf5⟩ := h5
                have F3 := F1.call hX0 fl5 rfl
                refine c_st (st2 := []) rfl ?_
                refine c_iload (j := 1) C dX6_find_86 rfl ?_
                refine c_callSN0 (As := [.int (iI he)]) (rest := []) C (fun L E => s11_isGreat (iI he)) dX6_find_88 kSN_X6_98 rfl rfl (Nat.le_of_ble_eq_true rfl) ⟨(Nat.le_of_ble_eq_true rfl), (Nat.le_of_ble_eq_true rfl)⟩ (rom0 hph hph (by decide)) ?_
                rcases inn_c (x := he) (lo := 65) (hi := 90) (r32_c (lo := (-2147483648)) (hi := 2147483647) hhe.1 hhe.2 (by decide) (by decide)) ⟨by decide, by decide⟩ ⟨by decide, by decide⟩ with ⟨hs1a, hs1b, hs1e⟩ | ⟨hs1a, hs1e⟩
                · refine c_st (st2 := [.int (iI 1)]) (by rw [show inn (iI he) 65 90 = iI 1 from hs1e]) ?_
                  refine c_if_eq (tgt := 102) C ⟨by decide, by decide⟩ dX6_find_91 (by decide) (fun z => absurd z (by omega)) (fun _ => ?_)
                  refine c_iload (j := 1) C dX6_find_94 rfl ?_
                  refine c_bipush (z := 32) C dX6_find_96 (by decide) ?_
                  refine c_iadd C dX6_find_98 ?_
                  refine c_goto (tgt := 104) C dX6_find_99 (by decide) ?_
                  refine c_istore (lv2 := [(5, .int (iI (he + 32))), (4, (va_rf bs)), (6, .ref ob1), (0, .ref a0), (1, .ref a1), (2, .int (iI i)), (3, .int (iI x))]) C dX6_find_104 (by decide) (by cases bs <;> rfl) ?_
                  refine c_aload_n (j := 3) (x := a0) C dX6_find_106 rfl ?_
                  refine c_iconst C dX6_find_107 ?_
                  refine d_callV (As := [.int (iI 0)]) (rest := []) C hM (C_countFind (a0 := a0) (i := 0) W5 hS t_a0 ⟨by decide, by decide⟩ ) dX6_find_108 kV_X6_119 rfl t_a0 rfl rfl (by decide) ck_7 rfl (Nat.le_of_ble_eq_true rfl) ⟨(Nat.le_of_ble_eq_true rfl), (Nat.le_of_ble_eq_true rfl)⟩ hph hph (show 0 + 0 = 0 from rfl) (by decide) (fun rh6 Lh6 clh6 lnh6 ivh6 rvh6 h6 => ?_)
                  obtain ⟨rfl, rfl, rfl, rfl, rfl, fl6, W6, exf6⟩ := h6
                  have F4 := F3.call hX0 fl6 rfl
                  refine c_st (st2 := []) rfl ?_
                  refine c_aload_n (j := 3) (x := a0) C dX6_find_111 rfl ?_
                  refine c_aload (j := 2) (x := ob1) C dX6_find_112 rfl ?_
                  refine c_iload_n (j := 5) C dX6_find_114 rfl ?_
                  refine c_iload (j := 0) C dX6_find_115 rfl ?_
                  refine c_aloadr (j := 1) (r := bs) C dX6_find_117 rfl ?_
                  refine d_callV (As := [.ref ob1, .int (iI i), .int (iI (he + 32)), (va_rf bs)]) (rest := []) C hM (C_findOwn (a0 := a0) (a1 := ob1) (i := i) (x := he + 32) (r := bs) W6 hS t_a0 tob1 ty_bs (by omega) (by omega) (by show 0 ≤ i ∧ i ≤ 500; omega)) dX6_find_119 kV_X6_122 rfl t_a0 rfl rfl (by decide) ck_7 rfl (Nat.le_of_ble_eq_true rfl) ⟨(Nat.le_of_ble_eq_true rfl), (Nat.le_of_ble_eq_true rfl)⟩ hph hph (show 0 + 0 = 0 from rfl) (by decide) (fun rh7 Lh7 clh7 lnh7 ivh7 rvh7 h7 => ?_)
                  obtain ⟨f7, rfl, rfl, rfl, rfl, rfl, rfl, rgf7, exf7⟩ := h7
                  refine c_st (st2 := [(va_rf f7)]) rfl ?_
                  refine c_astorer (r := f7) (lv2 := [(4, (va_rf f7)), (5, .int (iI (he + 32))), (6, .ref ob1), (0, .ref a0), (1, .ref a1), (2, .int (iI i)), (3, .int (iI x))]) C dX6_find_122 (by decide) rfl ?_
                  refine c_aload (j := 2) (x := ob1) C dX6_find_124 rfl ?_
                  refine hv3 (show (-2147483648) ≤ ivh6 ob1 0 ∧ ivh6 ob1 0 ≤ 2147483647 from W6.int tob1 0) (show ivh6 ob1 0 = ivh5 ob1 0 from fl6.i tob1 rfl 0) (show ivh5 ob1 0 = ivh1 ob1 0 from fl5.i tob1 rfl 0) (fun ri4 ie4 ie5 => ?_)
                  refine c_get (k := 0) C ck_10 dX6_find_126 w2_177 (by decide) tob1 rfl rfl (by decide) rfl ?_
                  refine c_iconst C dX6_find_129 ?_
                  refine c_icmp_ne (tgt := 136) C (r32_c (lo := (-2147483648)) (hi := 2147483647) ri4.1 ri4.2 (by decide) (by decide)) ⟨by decide, by decide⟩ dX6_find_130 (by decide) (fun c6 => ?_) (fun c6 => ?_)
                  · refine c_aload (j := 2) (x := ob1) C dX6_find_136 rfl ?_
                    rcases W6.opt tob1 2 rfl rfl with ⟨nq2, _⟩ | ⟨nb2, nq2, tnb2⟩
                    · refine c_getr (k := 2) C ck_10 dX6_find_138 w2_182 (by decide) tob1 rfl rfl (by decide) rfl nq2 ?_
                      refine c_st (st2 := [.null]) rfl ?_
                      refine c_astorer (r := none) (lv2 := [(6, .null), (4, (va_rf f7)), (5, .int (iI (he + 32))), (0, .ref a0), (1, .ref a1), (2, .int (iI i)), (3, .int (iI x))]) C dX6_find_141 (by decide) rfl ?_
                      refine c_goto (tgt := 9) C dX6_find_143 (by decide) ?_
                      refine c_lv (lv2 := [(4, (va_rf f7)), (5, .int (iI (he + 32))), (6, .null), (0, .ref a0), (1, .ref a1), (2, .int (iI i)), (3, .int (iI x))]) [1, 2, 0, 3, 4, 5, 6] rfl ?_
                      exact ih1  f7 none (he + 32) (rk - 1) _ (by omega) W6 F4 rgf7 (fun _ q => by cases q) (by omega) (by omega) (fun _ q => by cases q)
                    · have rknb2 := W6.rank tob1 (k := 2) (by decide) nq2
                      refine c_getr (k := 2) C ck_10 dX6_find_138 w2_182 (by decide) tob1 rfl rfl (by decide) rfl nq2 ?_
                      refine c_st (st2 := [.ref nb2]) rfl ?_
                      refine c_astore (lv2 := [(6, .ref nb2), (4, (va_rf f7)), (5, .int (iI (he + 32))), (0, .ref a0), (1, .ref a1), (2, .int (iI i)), (3, .int (iI x))]) C dX6_find_141 (by decide) rfl ?_
                      refine c_goto (tgt := 9) C dX6_find_143 (by decide) ?_
                      have trnb2 := bt_100 tnb2.2
                      refine c_lv (lv2 := [(4, (va_rf f7)), (5, .int (iI (he + 32))), (6, .ref nb2), (0, .ref a0), (1, .ref a1), (2, .int (iI i)), (3, .int (iI x))]) [1, 2, 0, 3, 4, 5, 6] rfl ?_
                      exact ih1  f7 (some nb2) (he + 32) (rk - 1) _ (by omega) W6 F4 rgf7 (fun _ q => by cases q; exact tnb2) (by omega) (by omega) (fun _ q => by cases q; omega)
                  · refine c_aloadr (j := 0) (r := f7) C dX6_find_133 rfl ?_
                    exact c_aret (x := f7) C dX6_find_135 rfl (Or.inl ⟨_, rfl⟩) (by decide) (rom0 hph hph (by decide)) ⟨f7, rfl, rfl, rfl, rfl, rfl, F4, W6, rgf7, trivial⟩
                · refine c_st (st2 := [.int (iI 0)]) (by rw [show inn (iI he) 65 90 = iI 0 from hs1e]) ?_
                  refine c_if_eq (tgt := 102) C ⟨by decide, by decide⟩ dX6_find_91 (by decide) (fun _ => ?_) (fun z => absurd z (by omega))
                  refine c_iload (j := 1) C dX6_find_102 rfl ?_
                  refine c_istore (lv2 := [(5, .int (iI he)), (4, (va_rf bs)), (6, .ref ob1), (0, .ref a0), (1, .ref a1), (2, .int (iI i)), (3, .int (iI x))]) C dX6_find_104 (by decide) (by cases bs <;> rfl) ?_
                  refine c_aload_n (j := 3) (x := a0) C dX6_find_106 rfl ?_
                  refine c_iconst C dX6_find_107 ?_
                  refine d_callV (As := [.int (iI 0)]) (rest := []) C hM (C_countFind (a0 := a0) (i := 0) W5 hS t_a0 ⟨by decide, by decide⟩ ) dX6_find_108 kV_X6_119 rfl t_a0 rfl rfl (by decide) ck_7 rfl (Nat.le_of_ble_eq_true rfl) ⟨(Nat.le_of_ble_eq_true rfl), (Nat.le_of_ble_eq_true rfl)⟩ hph hph (show 0 + 0 = 0 from rfl) (by decide) (fun rh8 Lh8 clh8 lnh8 ivh8 rvh8 h8 => ?_)
                  obtain ⟨rfl, rfl, rfl, rfl, rfl, fl8, W8, exf8⟩ := h8
                  have F5 := F3.call hX0 fl8 rfl
                  refine c_st (st2 := []) rfl ?_
                  refine c_aload_n (j := 3) (x := a0) C dX6_find_111 rfl ?_
                  refine c_aload (j := 2) (x := ob1) C dX6_find_112 rfl ?_
                  refine c_iload_n (j := 5) C dX6_find_114 rfl ?_
                  refine c_iload (j := 0) C dX6_find_115 rfl ?_
                  refine c_aloadr (j := 1) (r := bs) C dX6_find_117 rfl ?_
                  refine d_callV (As := [.ref ob1, .int (iI i), .int (iI he), (va_rf bs)]) (rest := []) C hM (C_findOwn (a0 := a0) (a1 := ob1) (i := i) (x := he) (r := bs) W8 hS t_a0 tob1 ty_bs (by omega) (by omega) (by show 0 ≤ i ∧ i ≤ 500; omega)) dX6_find_119 kV_X6_122 rfl t_a0 rfl rfl (by decide) ck_7 rfl (Nat.le_of_ble_eq_true rfl) ⟨(Nat.le_of_ble_eq_true rfl), (Nat.le_of_ble_eq_true rfl)⟩ hph hph (show 0 + 0 = 0 from rfl) (by decide) (fun rh9 Lh9 clh9 lnh9 ivh9 rvh9 h9 => ?_)
                  obtain ⟨f9, rfl, rfl, rfl, rfl, rfl, rfl, rgf9, exf9⟩ := h9
                  refine c_st (st2 := [(va_rf f9)]) rfl ?_
                  refine c_astorer (r := f9) (lv2 := [(4, (va_rf f9)), (5, .int (iI he)), (6, .ref ob1), (0, .ref a0), (1, .ref a1), (2, .int (iI i)), (3, .int (iI x))]) C dX6_find_122 (by decide) rfl ?_
                  refine c_aload (j := 2) (x := ob1) C dX6_find_124 rfl ?_
                  refine hv3 (show (-2147483648) ≤ ivh8 ob1 0 ∧ ivh8 ob1 0 ≤ 2147483647 from W8.int tob1 0) (show ivh8 ob1 0 = ivh5 ob1 0 from fl8.i tob1 rfl 0) (show ivh5 ob1 0 = ivh1 ob1 0 from fl5.i tob1 rfl 0) (fun ri5 ie6 ie7 => ?_)
                  refine c_get (k := 0) C ck_10 dX6_find_126 w2_177 (by decide) tob1 rfl rfl (by decide) rfl ?_
                  refine c_iconst C dX6_find_129 ?_
                  refine c_icmp_ne (tgt := 136) C (r32_c (lo := (-2147483648)) (hi := 2147483647) ri5.1 ri5.2 (by decide) (by decide)) ⟨by decide, by decide⟩ dX6_find_130 (by decide) (fun c7 => ?_) (fun c7 => ?_)
                  · refine c_aload (j := 2) (x := ob1) C dX6_find_136 rfl ?_
                    rcases W8.opt tob1 2 rfl rfl with ⟨nq3, _⟩ | ⟨nb3, nq3, tnb3⟩
                    · refine c_getr (k := 2) C ck_10 dX6_find_138 w2_182 (by decide) tob1 rfl rfl (by decide) rfl nq3 ?_
                      refine c_st (st2 := [.null]) rfl ?_
                      refine c_astorer (r := none) (lv2 := [(6, .null), (4, (va_rf f9)), (5, .int (iI he)), (0, .ref a0), (1, .ref a1), (2, .int (iI i)), (3, .int (iI x))]) C dX6_find_141 (by decide) rfl ?_
                      refine c_goto (tgt := 9) C dX6_find_143 (by decide) ?_
                      refine c_lv (lv2 := [(4, (va_rf f9)), (5, .int (iI he)), (6, .null), (0, .ref a0), (1, .ref a1), (2, .int (iI i)), (3, .int (iI x))]) [1, 2, 0, 3, 4, 5, 6] rfl ?_
                      exact ih1  f9 none he (rk - 1) _ (by omega) W8 F5 rgf9 (fun _ q => by cases q) (by omega) (by omega) (fun _ q => by cases q)
                    · have rknb3 := W8.rank tob1 (k := 2) (by decide) nq3
                      refine c_getr (k := 2) C ck_10 dX6_find_138 w2_182 (by decide) tob1 rfl rfl (by decide) rfl nq3 ?_
                      refine c_st (st2 := [.ref nb3]) rfl ?_
                      refine c_astore (lv2 := [(6, .ref nb3), (4, (va_rf f9)), (5, .int (iI he)), (0, .ref a0), (1, .ref a1), (2, .int (iI i)), (3, .int (iI x))]) C dX6_find_141 (by decide) rfl ?_
                      refine c_goto (tgt := 9) C dX6_find_143 (by decide) ?_
                      have trnb3 := bt_100 tnb3.2
                      refine c_lv (lv2 := [(4, (va_rf f9)), (5, .int (iI he)), (6, .ref nb3), (0, .ref a0), (1, .ref a1), (2, .int (iI i)), (3, .int (iI x))]) [1, 2, 0, 3, 4, 5, 6] rfl ?_
                      exact ih1  f9 (some nb3) he (rk - 1) _ (by omega) W8 F5 rgf9 (fun _ q => by cases q; exact tnb3) (by omega) (by omega) (fun _ q => by cases q; omega)
                  · refine c_aloadr (j := 0) (r := f9) C dX6_find_133 rfl ?_
                    exact c_aret (x := f9) C dX6_find_135 rfl (Or.inl ⟨_, rfl⟩) (by decide) (rom0 hph hph (by decide)) ⟨f9, rfl, rfl, rfl, rfl, rfl, F5, W8, rgf9, trivial⟩
            · refine c_iload (j := 1) C dX6_find_61 rfl ?_
              refine c_callSN0 (As := [.int (iI he)]) (rest := []) C (fun L E => s11_isDigit (iI he)) dX6_find_63 kSN_X6_115 rfl rfl (Nat.le_of_ble_eq_true rfl) ⟨(Nat.le_of_ble_eq_true rfl), (Nat.le_of_ble_eq_true rfl)⟩ (rom0 hph hph (by decide)) ?_
              rcases inn_c (x := he) (lo := 48) (hi := 57) (r32_c (lo := (-2147483648)) (hi := 2147483647) hhe.1 hhe.2 (by decide) (by decide)) ⟨by decide, by decide⟩ ⟨by decide, by decide⟩ with ⟨hs2a, hs2b, hs2e⟩ | ⟨hs2a, hs2e⟩
              · refine c_st (st2 := [.int (iI 1)]) (by rw [show inn (iI he) 48 57 = iI 1 from hs2e]) ?_
                refine c_if_ne (tgt := 72) C ⟨by decide, by decide⟩ dX6_find_66 (by decide) (fun _ => ?_) (fun z => absurd z (by omega))
                refine c_aload (j := 2) (x := ob1) C dX6_find_72 rfl ?_
                refine c_get (k := 0) C ck_10 dX6_find_74 w2_177 (by decide) tob1 rfl rfl (by decide) rfl ?_
                refine c_iconst C dX6_find_77 ?_
                refine c_icmp_ne (tgt := 106) C (r32_c (lo := (-2147483648)) (hi := 2147483647) ri2.1 ri2.2 (by decide) (by decide)) ⟨by decide, by decide⟩ dX6_find_78 (by decide) (fun c8 => ?_) (fun c8 => ?_)
                · refine c_aload_n (j := 3) (x := a0) C dX6_find_106 rfl ?_
                  refine c_iconst C dX6_find_107 ?_
                  refine d_callV (As := [.int (iI 0)]) (rest := []) C hM (C_countFind (a0 := a0) (i := 0) W1 hS t_a0 ⟨by decide, by decide⟩ ) dX6_find_108 kV_X6_119 rfl t_a0 rfl rfl (by decide) ck_7 rfl (Nat.le_of_ble_eq_true rfl) ⟨(Nat.le_of_ble_eq_true rfl), (Nat.le_of_ble_eq_true rfl)⟩ hph hph (show 0 + 0 = 0 from rfl) (by decide) (fun rh10 Lh10 clh10 lnh10 ivh10 rvh10 h10 => ?_)
                  obtain ⟨rfl, rfl, rfl, rfl, rfl, fl10, W10, exf10⟩ := h10
                  have F6 := F1.call hX0 fl10 rfl
                  refine c_st (st2 := []) rfl ?_
                  refine c_aload_n (j := 3) (x := a0) C dX6_find_111 rfl ?_
                  refine c_aload (j := 2) (x := ob1) C dX6_find_112 rfl ?_
                  refine c_iload_n (j := 5) C dX6_find_114 rfl ?_
                  refine c_iload (j := 1) C dX6_find_115 rfl ?_
                  refine c_aloadr (j := 0) (r := bs) C dX6_find_117 rfl ?_
                  refine d_callV (As := [.ref ob1, .int (iI i), .int (iI he), (va_rf bs)]) (rest := []) C hM (C_findOwn (a0 := a0) (a1 := ob1) (i := i) (x := he) (r := bs) W10 hS t_a0 tob1 ty_bs (by omega) (by omega) (by show 0 ≤ i ∧ i ≤ 500; omega)) dX6_find_119 kV_X6_122 rfl t_a0 rfl rfl (by decide) ck_7 rfl (Nat.le_of_ble_eq_true rfl) ⟨(Nat.le_of_ble_eq_true rfl), (Nat.le_of_ble_eq_true rfl)⟩ hph hph (show 0 + 0 = 0 from rfl) (by decide) (fun rh11 Lh11 clh11 lnh11 ivh11 rvh11 h11 => ?_)
                  obtain ⟨f11, rfl, rfl, rfl, rfl, rfl, rfl, rgf11, exf11⟩ := h11
                  refine c_st (st2 := [(va_rf f11)]) rfl ?_
                  refine c_astorer (r := f11) (lv2 := [(4, (va_rf f11)), (5, .int (iI he)), (6, .ref ob1), (0, .ref a0), (1, .ref a1), (2, .int (iI i)), (3, .int (iI x))]) C dX6_find_122 (by decide) rfl ?_
                  refine c_aload (j := 2) (x := ob1) C dX6_find_124 rfl ?_
                  refine hv2 (show (-2147483648) ≤ ivh10 ob1 0 ∧ ivh10 ob1 0 ≤ 2147483647 from W10.int tob1 0) (show ivh10 ob1 0 = ivh1 ob1 0 from fl10.i tob1 rfl 0) (fun ri6 ie8 => ?_)
                  refine c_get (k := 0) C ck_10 dX6_find_126 w2_177 (by decide) tob1 rfl rfl (by decide) rfl ?_
                  refine c_iconst C dX6_find_129 ?_
                  refine c_icmp_ne (tgt := 136) C (r32_c (lo := (-2147483648)) (hi := 2147483647) ri6.1 ri6.2 (by decide) (by decide)) ⟨by decide, by decide⟩ dX6_find_130 (by decide) (fun c9 => ?_) (fun c9 => ?_)
                  · refine c_aload (j := 2) (x := ob1) C dX6_find_136 rfl ?_
                    rcases W10.opt tob1 2 rfl rfl with ⟨nq4, _⟩ | ⟨nb4, nq4, tnb4⟩
                    · refine c_getr (k := 2) C ck_10 dX6_find_138 w2_182 (by decide) tob1 rfl rfl (by decide) rfl nq4 ?_
                      refine c_st (st2 := [.null]) rfl ?_
                      refine c_astorer (r := none) (lv2 := [(6, .null), (4, (va_rf f11)), (5, .int (iI he)), (0, .ref a0), (1, .ref a1), (2, .int (iI i)), (3, .int (iI x))]) C dX6_find_141 (by decide) rfl ?_
                      refine c_goto (tgt := 9) C dX6_find_143 (by decide) ?_
                      refine c_lv (lv2 := [(4, (va_rf f11)), (5, .int (iI he)), (6, .null), (0, .ref a0), (1, .ref a1), (2, .int (iI i)), (3, .int (iI x))]) [1, 2, 0, 3, 4, 5, 6] rfl ?_
                      exact ih1  f11 none he (rk - 1) _ (by omega) W10 F6 rgf11 (fun _ q => by cases q) (by omega) (by omega) (fun _ q => by cases q)
                    · have rknb4 := W10.rank tob1 (k := 2) (by decide) nq4
                      refine c_getr (k := 2) C ck_10 dX6_find_138 w2_182 (by decide) tob1 rfl rfl (by decide) rfl nq4 ?_
                      refine c_st (st2 := [.ref nb4]) rfl ?_
                      refine c_astore (lv2 := [(6, .ref nb4), (4, (va_rf f11)), (5, .int (iI he)), (0, .ref a0), (1, .ref a1), (2, .int (iI i)), (3, .int (iI x))]) C dX6_find_141 (by decide) rfl ?_
                      refine c_goto (tgt := 9) C dX6_find_143 (by decide) ?_
                      have trnb4 := bt_100 tnb4.2
                      refine c_lv (lv2 := [(4, (va_rf f11)), (5, .int (iI he)), (6, .ref nb4), (0, .ref a0), (1, .ref a1), (2, .int (iI i)), (3, .int (iI x))]) [1, 2, 0, 3, 4, 5, 6] rfl ?_
                      exact ih1  f11 (some nb4) he (rk - 1) _ (by omega) W10 F6 rgf11 (fun _ q => by cases q; exact tnb4) (by omega) (by omega) (fun _ q => by cases q; omega)
                  · refine c_aloadr (j := 0) (r := f11) C dX6_find_133 rfl ?_
                    exact c_aret (x := f11) C dX6_find_135 rfl (Or.inl ⟨_, rfl⟩) (by decide) (rom0 hph hph (by decide)) ⟨f11, rfl, rfl, rfl, rfl, rfl, F6, W10, rgf11, trivial⟩
                · refine c_aload_n (j := 3) (x := a0) C dX6_find_81 rfl ?_
                  refine c_iconst C dX6_find_82 ?_
                  refine d_callV (As := [.int (iI 1)]) (rest := []) C hM (C_countFind (a0 := a0) (i := 1) W1 hS t_a0 ⟨by decide, by decide⟩ ) dX6_find_83 kV_X6_119 rfl t_a0 rfl rfl (by decide) ck_7 rfl (Nat.le_of_ble_eq_true rfl) ⟨(Nat.le_of_ble_eq_true rfl), (Nat.le_of_ble_eq_true rfl)⟩ hph hph (show 0 + 0 = 0 from rfl) (by decide) (fun rh12 Lh12 clh12 lnh12 ivh12 rvh12 h12 => ?_)
                  obtain ⟨rfl, rfl, rfl, rfl, rfl, fl12, W12, exf12⟩ := h12
                  have F7 := F1.call hX0 fl12 rfl
                  refine c_st (st2 := []) rfl ?_
                  refine c_iload (j := 1) C dX6_find_86 rfl ?_
                  refine c_callSN0 (As := [.int (iI he)]) (rest := []) C (fun L E => s11_isGreat (iI he)) dX6_find_88 kSN_X6_98 rfl rfl (Nat.le_of_ble_eq_true rfl) ⟨(Nat.le_of_ble_eq_true rfl), (Nat.le_of_ble_eq_true rfl)⟩ (rom0 hph hph (by decide)) ?_
                  rcases inn_c (x := he) (lo := 65) (hi := 90) (r32_c (lo := (-2147483648)) (hi := 2147483647) hhe.1 hhe.2 (by decide) (by decide)) ⟨by decide, by decide⟩ ⟨by decide, by decide⟩ with ⟨hs3a, hs3b, hs3e⟩ | ⟨hs3a, hs3e⟩
                  · refine c_st (st2 := [.int (iI 1)]) (by rw [show inn (iI he) 65 90 = iI 1 from hs3e]) ?_
                    refine c_if_eq (tgt := 102) C ⟨by decide, by decide⟩ dX6_find_91 (by decide) (fun z => absurd z (by omega)) (fun _ => ?_)
                    refine c_iload (j := 1) C dX6_find_94 rfl ?_
                    refine c_bipush (z := 32) C dX6_find_96 (by decide) ?_
                    refine c_iadd C dX6_find_98 ?_
                    refine c_goto (tgt := 104) C dX6_find_99 (by decide) ?_
                    refine c_istore (lv2 := [(5, .int (iI (he + 32))), (4, (va_rf bs)), (6, .ref ob1), (0, .ref a0), (1, .ref a1), (2, .int (iI i)), (3, .int (iI x))]) C dX6_find_104 (by decide) (by cases bs <;> rfl) ?_
                    refine c_aload_n (j := 3) (x := a0) C dX6_find_106 rfl ?_
                    refine c_iconst C dX6_find_107 ?_
                    refine d_callV (As := [.int (iI 0)]) (rest := []) C hM (C_countFind (a0 := a0) (i := 0) W12 hS t_a0 ⟨by decide, by decide⟩ ) dX6_find_108 kV_X6_119 rfl t_a0 rfl rfl (by decide) ck_7 rfl (Nat.le_of_ble_eq_true rfl) ⟨(Nat.le_of_ble_eq_true rfl), (Nat.le_of_ble_eq_true rfl)⟩ hph hph (show 0 + 0 = 0 from rfl) (by decide) (fun rh13 Lh13 clh13 lnh13 ivh13 rvh13 h13 => ?_)
                    obtain ⟨rfl, rfl, rfl, rfl, rfl, fl13, W13, exf13⟩ := h13
                    have F8 := F7.call hX0 fl13 rfl
                    refine c_st (st2 := []) rfl ?_
                    refine c_aload_n (j := 3) (x := a0) C dX6_find_111 rfl ?_
                    refine c_aload (j := 2) (x := ob1) C dX6_find_112 rfl ?_
                    refine c_iload_n (j := 5) C dX6_find_114 rfl ?_
                    refine c_iload (j := 0) C dX6_find_115 rfl ?_
                    refine c_aloadr (j := 1) (r := bs) C dX6_find_117 rfl ?_
                    refine d_callV (As := [.ref ob1, .int (iI i), .int (iI (he + 32)), (va_rf bs)]) (rest := []) C hM (C_findOwn (a0 := a0) (a1 := ob1) (i := i) (x := he + 32) (r := bs) W13 hS t_a0 tob1 ty_bs (by omega) (by omega) (by show 0 ≤ i ∧ i ≤ 500; omega)) dX6_find_119 kV_X6_122 rfl t_a0 rfl rfl (by decide) ck_7 rfl (Nat.le_of_ble_eq_true rfl) ⟨(Nat.le_of_ble_eq_true rfl), (Nat.le_of_ble_eq_true rfl)⟩ hph hph (show 0 + 0 = 0 from rfl) (by decide) (fun rh14 Lh14 clh14 lnh14 ivh14 rvh14 h14 => ?_)
                    obtain ⟨f14, rfl, rfl, rfl, rfl, rfl, rfl, rgf14, exf14⟩ := h14
                    refine c_st (st2 := [(va_rf f14)]) rfl ?_
                    refine c_astorer (r := f14) (lv2 := [(4, (va_rf f14)), (5, .int (iI (he + 32))), (6, .ref ob1), (0, .ref a0), (1, .ref a1), (2, .int (iI i)), (3, .int (iI x))]) C dX6_find_122 (by decide) rfl ?_
                    refine c_aload (j := 2) (x := ob1) C dX6_find_124 rfl ?_
                    refine hv3 (show (-2147483648) ≤ ivh13 ob1 0 ∧ ivh13 ob1 0 ≤ 2147483647 from W13.int tob1 0) (show ivh13 ob1 0 = ivh12 ob1 0 from fl13.i tob1 rfl 0) (show ivh12 ob1 0 = ivh1 ob1 0 from fl12.i tob1 rfl 0) (fun ri7 ie9 ie10 => ?_)
                    refine c_get (k := 0) C ck_10 dX6_find_126 w2_177 (by decide) tob1 rfl rfl (by decide) rfl ?_
                    refine c_iconst C dX6_find_129 ?_
                    refine c_icmp_ne (tgt := 136) C (r32_c (lo := (-2147483648)) (hi := 2147483647) ri7.1 ri7.2 (by decide) (by decide)) ⟨by decide, by decide⟩ dX6_find_130 (by decide) (fun c10 => ?_) (fun c10 => ?_)
                    · refine c_aload (j := 2) (x := ob1) C dX6_find_136 rfl ?_
                      rcases W13.opt tob1 2 rfl rfl with ⟨nq5, _⟩ | ⟨nb5, nq5, tnb5⟩
                      · refine c_getr (k := 2) C ck_10 dX6_find_138 w2_182 (by decide) tob1 rfl rfl (by decide) rfl nq5 ?_
                        refine c_st (st2 := [.null]) rfl ?_
                        refine c_astorer (r := none) (lv2 := [(6, .null), (4, (va_rf f14)), (5, .int (iI (he + 32))), (0, .ref a0), (1, .ref a1), (2, .int (iI i)), (3, .int (iI x))]) C dX6_find_141 (by decide) rfl ?_
                        refine c_goto (tgt := 9) C dX6_find_143 (by decide) ?_
                        refine c_lv (lv2 := [(4, (va_rf f14)), (5, .int (iI (he + 32))), (6, .null), (0, .ref a0), (1, .ref a1), (2, .int (iI i)), (3, .int (iI x))]) [1, 2, 0, 3, 4, 5, 6] rfl ?_
                        exact ih1  f14 none (he + 32) (rk - 1) _ (by omega) W13 F8 rgf14 (fun _ q => by cases q) (by omega) (by omega) (fun _ q => by cases q)
                      · have rknb5 := W13.rank tob1 (k := 2) (by decide) nq5
                        refine c_getr (k := 2) C ck_10 dX6_find_138 w2_182 (by decide) tob1 rfl rfl (by decide) rfl nq5 ?_
                        refine c_st (st2 := [.ref nb5]) rfl ?_
                        refine c_astore (lv2 := [(6, .ref nb5), (4, (va_rf f14)), (5, .int (iI (he + 32))), (0, .ref a0), (1, .ref a1), (2, .int (iI i)), (3, .int (iI x))]) C dX6_find_141 (by decide) rfl ?_
                        refine c_goto (tgt := 9) C dX6_find_143 (by decide) ?_
                        have trnb5 := bt_100 tnb5.2
                        refine c_lv (lv2 := [(4, (va_rf f14)), (5, .int (iI (he + 32))), (6, .ref nb5), (0, .ref a0), (1, .ref a1), (2, .int (iI i)), (3, .int (iI x))]) [1, 2, 0, 3, 4, 5, 6] rfl ?_
                        exact ih1  f14 (some nb5) (he + 32) (rk - 1) _ (by omega) W13 F8 rgf14 (fun _ q => by cases q; exact tnb5) (by omega) (by omega) (fun _ q => by cases q; omega)
                    · refine c_aloadr (j := 0) (r := f14) C dX6_find_133 rfl ?_
                      exact c_aret (x := f14) C dX6_find_135 rfl (Or.inl ⟨_, rfl⟩) (by decide) (rom0 hph hph (by decide)) ⟨f14, rfl, rfl, rfl, rfl, rfl, F8, W13, rgf14, trivial⟩
                  · refine c_st (st2 := [.int (iI 0)]) (by rw [show inn (iI he) 65 90 = iI 0 from hs3e]) ?_
                    refine c_if_eq (tgt := 102) C ⟨by decide, by decide⟩ dX6_find_91 (by decide) (fun _ => ?_) (fun z => absurd z (by omega))
                    refine c_iload (j := 1) C dX6_find_102 rfl ?_
                    refine c_istore (lv2 := [(5, .int (iI he)), (4, (va_rf bs)), (6, .ref ob1), (0, .ref a0), (1, .ref a1), (2, .int (iI i)), (3, .int (iI x))]) C dX6_find_104 (by decide) (by cases bs <;> rfl) ?_
                    refine c_aload_n (j := 3) (x := a0) C dX6_find_106 rfl ?_
                    refine c_iconst C dX6_find_107 ?_
                    refine d_callV (As := [.int (iI 0)]) (rest := []) C hM (C_countFind (a0 := a0) (i := 0) W12 hS t_a0 ⟨by decide, by decide⟩ ) dX6_find_108 kV_X6_119 rfl t_a0 rfl rfl (by decide) ck_7 rfl (Nat.le_of_ble_eq_true rfl) ⟨(Nat.le_of_ble_eq_true rfl), (Nat.le_of_ble_eq_true rfl)⟩ hph hph (show 0 + 0 = 0 from rfl) (by decide) (fun rh15 Lh15 clh15 lnh15 ivh15 rvh15 h15 => ?_)
                    obtain ⟨rfl, rfl, rfl, rfl, rfl, fl15, W15, exf15⟩ := h15
                    have F9 := F7.call hX0 fl15 rfl
                    refine c_st (st2 := []) rfl ?_
                    refine c_aload_n (j := 3) (x := a0) C dX6_find_111 rfl ?_
                    refine c_aload (j := 2) (x := ob1) C dX6_find_112 rfl ?_
                    refine c_iload_n (j := 5) C dX6_find_114 rfl ?_
                    refine c_iload (j := 0) C dX6_find_115 rfl ?_
                    refine c_aloadr (j := 1) (r := bs) C dX6_find_117 rfl ?_
                    refine d_callV (As := [.ref ob1, .int (iI i), .int (iI he), (va_rf bs)]) (rest := []) C hM (C_findOwn (a0 := a0) (a1 := ob1) (i := i) (x := he) (r := bs) W15 hS t_a0 tob1 ty_bs (by omega) (by omega) (by show 0 ≤ i ∧ i ≤ 500; omega)) dX6_find_119 kV_X6_122 rfl t_a0 rfl rfl (by decide) ck_7 rfl (Nat.le_of_ble_eq_true rfl) ⟨(Nat.le_of_ble_eq_true rfl), (Nat.le_of_ble_eq_true rfl)⟩ hph hph (show 0 + 0 = 0 from rfl) (by decide) (fun rh16 Lh16 clh16 lnh16 ivh16 rvh16 h16 => ?_)
                    obtain ⟨f16, rfl, rfl, rfl, rfl, rfl, rfl, rgf16, exf16⟩ := h16
                    refine c_st (st2 := [(va_rf f16)]) rfl ?_
                    refine c_astorer (r := f16) (lv2 := [(4, (va_rf f16)), (5, .int (iI he)), (6, .ref ob1), (0, .ref a0), (1, .ref a1), (2, .int (iI i)), (3, .int (iI x))]) C dX6_find_122 (by decide) rfl ?_
                    refine c_aload (j := 2) (x := ob1) C dX6_find_124 rfl ?_
                    refine hv3 (show (-2147483648) ≤ ivh15 ob1 0 ∧ ivh15 ob1 0 ≤ 2147483647 from W15.int tob1 0) (show ivh15 ob1 0 = ivh12 ob1 0 from fl15.i tob1 rfl 0) (show ivh12 ob1 0 = ivh1 ob1 0 from fl12.i tob1 rfl 0) (fun ri8 ie11 ie12 => ?_)
                    refine c_get (k := 0) C ck_10 dX6_find_126 w2_177 (by decide) tob1 rfl rfl (by decide) rfl ?_
                    refine c_iconst C dX6_find_129 ?_
                    refine c_icmp_ne (tgt := 136) C (r32_c (lo := (-2147483648)) (hi := 2147483647) ri8.1 ri8.2 (by decide) (by decide)) ⟨by decide, by decide⟩ dX6_find_130 (by decide) (fun c11 => ?_) (fun c11 => ?_)
                    · refine c_aload (j := 2) (x := ob1) C dX6_find_136 rfl ?_
                      rcases W15.opt tob1 2 rfl rfl with ⟨nq6, _⟩ | ⟨nb6, nq6, tnb6⟩
                      · refine c_getr (k := 2) C ck_10 dX6_find_138 w2_182 (by decide) tob1 rfl rfl (by decide) rfl nq6 ?_
                        refine c_st (st2 := [.null]) rfl ?_
                        refine c_astorer (r := none) (lv2 := [(6, .null), (4, (va_rf f16)), (5, .int (iI he)), (0, .ref a0), (1, .ref a1), (2, .int (iI i)), (3, .int (iI x))]) C dX6_find_141 (by decide) rfl ?_
                        refine c_goto (tgt := 9) C dX6_find_143 (by decide) ?_
                        refine c_lv (lv2 := [(4, (va_rf f16)), (5, .int (iI he)), (6, .null), (0, .ref a0), (1, .ref a1), (2, .int (iI i)), (3, .int (iI x))]) [1, 2, 0, 3, 4, 5, 6] rfl ?_
                        exact ih1  f16 none he (rk - 1) _ (by omega) W15 F9 rgf16 (fun _ q => by cases q) (by omega) (by omega) (fun _ q => by cases q)
                      · have rknb6 := W15.rank tob1 (k := 2) (by decide) nq6
                        refine c_getr (k := 2) C ck_10 dX6_find_138 w2_182 (by decide) tob1 rfl rfl (by decide) rfl nq6 ?_
                        refine c_st (st2 := [.ref nb6]) rfl ?_
                        refine c_astore (lv2 := [(6, .ref nb6), (4, (va_rf f16)), (5, .int (iI he)), (0, .ref a0), (1, .ref a1), (2, .int (iI i)), (3, .int (iI x))]) C dX6_find_141 (by decide) rfl ?_
                        refine c_goto (tgt := 9) C dX6_find_143 (by decide) ?_
                        have trnb6 := bt_100 tnb6.2
                        refine c_lv (lv2 := [(4, (va_rf f16)), (5, .int (iI he)), (6, .ref nb6), (0, .ref a0), (1, .ref a1), (2, .int (iI i)), (3, .int (iI x))]) [1, 2, 0, 3, 4, 5, 6] rfl ?_
                        exact ih1  f16 (some nb6) he (rk - 1) _ (by omega) W15 F9 rgf16 (fun _ q => by cases q; exact tnb6) (by omega) (by omega) (fun _ q => by cases q; omega)
                    · refine c_aloadr (j := 0) (r := f16) C dX6_find_133 rfl ?_
                      exact c_aret (x := f16) C dX6_find_135 rfl (Or.inl ⟨_, rfl⟩) (by decide) (rom0 hph hph (by decide)) ⟨f16, rfl, rfl, rfl, rfl, rfl, F9, W15, rgf16, trivial⟩
              · refine c_st (st2 := [.int (iI 0)]) (by rw [show inn (iI he) 48 57 = iI 0 from hs2e]) ?_
                refine c_if_ne (tgt := 72) C ⟨by decide, by decide⟩ dX6_find_66 (by decide) (fun z => absurd z (by omega)) (fun _ => ?_)
                refine c_goto (tgt := 136) C dX6_find_69 (by decide) ?_
                refine c_aload (j := 2) (x := ob1) C dX6_find_136 rfl ?_
                rcases W1.opt tob1 2 rfl rfl with ⟨nq7, _⟩ | ⟨nb7, nq7, tnb7⟩
                · refine c_getr (k := 2) C ck_10 dX6_find_138 w2_182 (by decide) tob1 rfl rfl (by decide) rfl nq7 ?_
                  refine c_st (st2 := [.null]) rfl ?_
                  refine c_astorer (r := none) (lv2 := [(6, .null), (4, (va_rf bs)), (5, .int (iI he)), (0, .ref a0), (1, .ref a1), (2, .int (iI i)), (3, .int (iI x))]) C dX6_find_141 (by decide) rfl ?_
                  refine c_goto (tgt := 9) C dX6_find_143 (by decide) ?_
                  refine c_lv (lv2 := [(4, (va_rf bs)), (5, .int (iI he)), (6, .null), (0, .ref a0), (1, .ref a1), (2, .int (iI i)), (3, .int (iI x))]) [1, 2, 0, 3, 4, 5, 6] rfl ?_
                  exact ih1  bs none he (rk - 1) _ (by omega) W1 F1 ty_bs (fun _ q => by cases q) (by omega) (by omega) (fun _ q => by cases q)
                · have rknb7 := W1.rank tob1 (k := 2) (by decide) nq7
                  refine c_getr (k := 2) C ck_10 dX6_find_138 w2_182 (by decide) tob1 rfl rfl (by decide) rfl nq7 ?_
                  refine c_st (st2 := [.ref nb7]) rfl ?_
                  refine c_astore (lv2 := [(6, .ref nb7), (4, (va_rf bs)), (5, .int (iI he)), (0, .ref a0), (1, .ref a1), (2, .int (iI i)), (3, .int (iI x))]) C dX6_find_141 (by decide) rfl ?_
                  refine c_goto (tgt := 9) C dX6_find_143 (by decide) ?_
                  have trnb7 := bt_100 tnb7.2
                  refine c_lv (lv2 := [(4, (va_rf bs)), (5, .int (iI he)), (6, .ref nb7), (0, .ref a0), (1, .ref a1), (2, .int (iI i)), (3, .int (iI x))]) [1, 2, 0, 3, 4, 5, 6] rfl ?_
                  exact ih1  bs (some nb7) he (rk - 1) _ (by omega) W1 F1 ty_bs (fun _ q => by cases q; exact tnb7) (by omega) (by omega) (fun _ q => by cases q; omega)
          · refine c_aload_n (j := 3) (x := a0) C dX6_find_40 rfl ?_
            refine c_aload (j := 2) (x := ob1) C dX6_find_41 rfl ?_
            refine c_iload_n (j := 5) C dX6_find_43 rfl ?_
            refine c_iload (j := 1) C dX6_find_44 rfl ?_
            refine c_aloadr (j := 0) (r := bs) C dX6_find_46 rfl ?_
            refine d_callV (As := [.ref ob1, .int (iI i), .int (iI he), (va_rf bs)]) (rest := []) C hM (C_findOwn (a0 := a0) (a1 := ob1) (i := i) (x := he) (r := bs) W1 hS t_a0 tob1 ty_bs (by omega) (by omega) (by show 0 ≤ i ∧ i ≤ 500; omega)) dX6_find_48 kV_X6_122 rfl t_a0 rfl rfl (by decide) ck_7 rfl (Nat.le_of_ble_eq_true rfl) ⟨(Nat.le_of_ble_eq_true rfl), (Nat.le_of_ble_eq_true rfl)⟩ hph hph (show 0 + 0 = 0 from rfl) (by decide) (fun rh17 Lh17 clh17 lnh17 ivh17 rvh17 h17 => ?_)
            obtain ⟨f17, rfl, rfl, rfl, rfl, rfl, rfl, rgf17, exf17⟩ := h17
            refine c_st (st2 := [(va_rf f17)]) rfl ?_
            exact c_aret (x := f17) C dX6_find_51 rfl (Or.inl ⟨_, rfl⟩) (by decide) (rom0 hph hph (by decide)) ⟨f17, rfl, rfl, rfl, rfl, rfl, F1, W1, rgf17, trivial⟩
  have tra1 := bt_100 t_a1.2
  refine c_lv (lv2 := [(4, .null), (5, .int (iI x)), (6, .ref a1), (0, .ref a0), (1, .ref a1), (2, .int (iI i)), (3, .int (iI x))]) [2, 1, 0, 3, 4, 5, 6] rfl ?_
  exact Lp1 31 none (some a1) x 129 _ (by omega) hW hF0 (fun _ q => by cases q) (fun _ q => by cases q; exact t_a1) (by omega) (by omega) (fun _ q => by cases q; omega)
set_option maxHeartbeats 4000000 in
set_option maxRecDepth 100000 in
theorem C_push {l : Launch} {G : GT} {mi : Nat} {sk : Nat → Nat} {L : List Nat} {cl ln : Nat → Nat} {iv : Nat → Nat → Int} {rv : Nat → Nat → Option Nat}  {a0 : Nat} {r : Option Nat} (hW : WT (g0 G) sk L cl ln iv rv) (hS : SKL sk L cl) (t_a0 : ty L cl a0 15) (t_r : ∀ b, r = some b → ty L cl b 20) (hc : iv a0 7 ≤ 90000) : Mc l G mi (Phi (g0 G) sk) PHM yX6_push cX6_push 3 none 0 [.ref a0, va_rf r] L cl ln iv rv 0 (fun v L2 cl2 ln2 iv2 rv2 => v = none ∧ L = L2 ∧ cl = cl2 ∧ ln = ln2 ∧ rv = rv2 ∧ fT [15, 54] L cl iv rv iv2 rv2 ∧ WT (g0 G) sk L2 cl2 ln2 iv2 rv2 ∧ (iv2 a0 4 = iv a0 4 ∧ iv a0 7 ≤ iv2 a0 7 ∧ iv2 a0 7 ≤ iv a0 7 + 4)) := by
  refine Mc.mk (by decide) (by cases r <;> exact Nat.le_of_ble_eq_true rfl) ?_
  intro p e s m args below meth c A C hM
  have hph := Phi.le hW hS
  refine c_lveq (show lv_args 0 [.ref a0, va_rf r] = [(0, .ref a0), (1, (va_rf r))] from by cases r <;> rfl) ?_
  refine hv3 ((hW.int t_a0 7).1) (show XT L cl ln L cl ln from XT.refl) (show fT [15, 54] L cl iv rv iv rv from fT.refl) (fun hc0 hX0 hF0 => ?_)
  have hc00 : 0 ≤ iv a0 7 := hc0
  refine c_aloadr_n (j := 1) (r := r) C dX6_push_0 rfl ?_
  refine c_ifnonnull (r := r) (tgt := 5) C dX6_push_1 (by decide) (fun ob1 oq1 => ?_) (fun oq1 => ?_)
  · subst oq1
    have tob1 := t_r ob1 rfl
    refine c_lv (lv2 := [(0, .ref a0), (1, .ref ob1)]) [0, 1] rfl ?_
    refine c_st (st2 := []) rfl ?_
    refine c_iconst C dX6_push_5 ?_
    refine c_istore_n (lv2 := [(2, .int (iI 0)), (0, .ref a0), (1, .ref ob1)]) C dX6_push_6 (by decide) rfl ?_
    have Lp1 : ∀ (nn : Nat) (k : Int) (ivb1 : Nat → Nat → Int) , 5 - k < (nn : Int) → WT (g0 G) sk L cl ln ivb1 rv → fT [15, 54] L cl iv rv ivb1 rv → (0 ≤ k ∧ k ≤ 4) → (ivb1 a0 7 = iv a0 7 + k) → (ivb1 a0 4 = iv a0 4) → (0 ≤ iv a0 7) → cw p l e 0 ((PHM) + 0 - ((Phi (g0 G) sk) ln rv)) s m args below meth c G A 3 (MQ below (Qu G A (Qp G (Phi (g0 G) sk) ((Phi (g0 G) sk) ln rv) 0 (fun v L2 cl2 ln2 iv2 rv2 => v = none ∧ L = L2 ∧ cl = cl2 ∧ ln = ln2 ∧ rv = rv2 ∧ fT [15, 54] L cl iv rv iv2 rv2 ∧ WT (g0 G) sk L2 cl2 ln2 iv2 rv2 ∧ (iv2 a0 4 = iv a0 4 ∧ iv a0 7 ≤ iv2 a0 7 ∧ iv2 a0 7 ≤ iv a0 7 + 4)))) args s (((PHM) + 0 - ((Phi (g0 G) sk) ln rv)) / 16) ((PHM) + 0 - ((Phi (g0 G) sk) ln rv)) A) (Phi (g0 G) sk) ((Phi (g0 G) sk) ln rv) L cl ln ivb1 rv 0 7 [(2, .int (iI k)), (0, .ref a0), (1, .ref ob1)] [] := by
      intro nn
      induction nn with
      | zero =>
        intro  k ivb1 hm Wb1 Fb1  hk hc1 hc4 hc0
        exact absurd hm (by omega)
      | succ nn ih1 =>
        intro  k ivb1 hm Wb1 Fb1  hk hc1 hc4 hc0
        refine c_iload_n (j := 0) C dX6_push_7 rfl ?_
        refine c_aload_n (j := 2) (x := ob1) C dX6_push_8 rfl ?_
        obtain ⟨rb1, rq1, trb1⟩ := Wb1.ref tob1 2 rfl rfl rfl
        have lnrb1 : 1 ≤ ln rb1 ∧ ln rb1 ≤ 4 := Wb1.len trb1 rfl
        refine c_getr (k := 2) C ck_6 dX6_push_9 w3_145 (by decide) tob1 rfl rfl (by decide) rfl rq1 ?_
        refine c_st (st2 := [.ref rb1, .int (iI k)]) rfl ?_
        have ll1 : 1 ≤ ln rb1 ∧ ln rb1 ≤ 4 := Wb1.len trb1 rfl
        refine c_alenI C dX6_push_12 trb1 rfl ?_
        refine c_icmp_ge (tgt := 57) C (r32_c (lo := 0) (hi := 4) hk.1 hk.2 (by decide) (by decide)) ⟨by omega, by omega⟩ dX6_push_13 (by decide) (fun c1 => ?_) (fun c1 => ?_)
        · have ri1 : 0 ≤ ivb1 a0 4 ∧ ivb1 a0 4 ≤ 500 := Wb1.int t_a0 4
          have ri2 : 0 ≤ ivb1 a0 7 ∧ ivb1 a0 7 ≤ 100000 := Wb1.int t_a0 7
          exact c_vret C dX6_push_57 rfl (by decide) (rom0 hph hph (by decide)) ⟨rfl, rfl, rfl, rfl, rfl, Fb1, Wb1, (by omega)⟩
        · refine c_aload_n (j := 1) (x := a0) C dX6_push_16 rfl ?_
          have ri3 : 0 ≤ ivb1 a0 7 ∧ ivb1 a0 7 ≤ 100000 := Wb1.int t_a0 7
          refine c_get (k := 7) C ck_7 dX6_push_17 w1_147 (by decide) t_a0 rfl rfl (by decide) rfl ?_
          refine c_sipush (z := 200) C dX6_push_20 (by decide) ?_
          refine c_icmp_ge (tgt := 41) C (r32_c (lo := 0) (hi := 100000) ri3.1 ri3.2 (by decide) (by decide)) ⟨by decide, by decide⟩ dX6_push_23 (by decide) (fun c2 => ?_) (fun c2 => ?_)
          · refine c_aload_n (j := 1) (x := a0) C dX6_push_41 rfl ?_
            refine c_dup C dX6_push_42 rfl ?_
            refine c_get (k := 7) C ck_7 dX6_push_43 w1_147 (by decide) t_a0 rfl rfl (by decide) rfl ?_
            refine c_iconst C dX6_push_46 ?_
            refine c_iadd C dX6_push_47 ?_
            refine c_put (z := (ivb1 a0 7) + 1) (k := 7) C ck_7 dX6_push_48 w1_147 (by decide) rfl t_a0 rfl rfl (by decide) rfl (by rfl) (by rfl) (fun iv1 pq1 => ?_)
            refine hv2 (Wb1.puti pq1 t_a0 (show 0 ≤ ((ivb1 a0 7) + 1) ∧ ((ivb1 a0 7) + 1) ≤ 100000 by omega) rfl) (Fb1.puti hX0 pq1 t_a0 rfl) (fun W1 F1 => ?_)
            refine c_iinc (z := k) (j := 0) (lv2 := [(2, .int (iI (k + 1))), (0, .ref a0), (1, .ref ob1)]) C dX6_push_51 rfl (by decide) rfl ?_
            refine c_goto (tgt := 7) C dX6_push_54 (by decide) ?_
            refine hv4 (show 0 ≤ iv1 a0 7 ∧ iv1 a0 7 ≤ 100000 from W1.int t_a0 7) (show iv1 a0 7 = (ivb1 a0 7) + 1 from by rw [pq1]; exact up2_s) (show 0 ≤ iv1 a0 4 ∧ iv1 a0 4 ≤ 500 from W1.int t_a0 4) (show iv1 a0 4 = ivb1 a0 4 from by rw [pq1]; exact up2_j (by decide)) (fun ri4 ie4 ri5 ie5 => ?_)
            refine c_lv (lv2 := [(2, .int (iI (k + 1))), (0, .ref a0), (1, .ref ob1)]) [0, 1, 2] rfl ?_
            exact ih1  (k + 1) _ (by omega) W1 F1  (by omega) (by show iv1 a0 7 = iv a0 7 + (k + 1); omega) (ie5.trans hc4) (by omega)
          · refine c_aload_n (j := 1) (x := a0) C dX6_push_26 rfl ?_
            obtain ⟨rb2, rq2, trb2⟩ := Wb1.ref t_a0 6 rfl rfl rfl
            have lnrb2 : 200 ≤ ln rb2 ∧ ln rb2 ≤ 200 := Wb1.len trb2 rfl
            refine c_getr (k := 6) C ck_7 dX6_push_27 w1_144 (by decide) t_a0 rfl rfl (by decide) rfl rq2 ?_
            refine c_st (st2 := [.ref rb2]) rfl ?_
            refine c_aload_n (j := 1) (x := a0) C dX6_push_30 rfl ?_
            refine c_get (k := 7) C ck_7 dX6_push_31 w1_147 (by decide) t_a0 rfl rfl (by decide) rfl ?_
            refine c_aload_n (j := 2) (x := ob1) C dX6_push_34 rfl ?_
            refine c_getr (k := 2) C ck_6 dX6_push_35 w3_145 (by decide) tob1 rfl rfl (by decide) rfl rq1 ?_
            refine c_st (st2 := [.ref rb1, .int (iI (ivb1 a0 7)), .ref rb2]) rfl ?_
            refine c_iload_n (j := 0) C dX6_push_38 rfl ?_
            refine c_iald C dX6_push_39 trb1 rfl (by omega) (by omega) (by omega) ?_
            refine hv3 (show (-2147483648) ≤ ivb1 rb1 k.toNat ∧ ivb1 rb1 k.toNat ≤ 2147483647 from Wb1.int trb1 k.toNat) (show ivb1 rb1 k.toNat = iv rb1 k.toNat from Fb1.i trb1 rfl k.toNat) (show 200 ≤ ln rb2 ∧ ln rb2 ≤ 200 from Wb1.len trb2 rfl) (fun ri6 ie7 ll2 => ?_)
            refine c_iast (x := ivb1 rb1 k.toNat) C dX6_push_40 trb2 rfl (by omega) (by omega) (by omega) (fun iv2 pq2 => ?_)
            refine hv2 (Wb1.puti pq2 trb2 (show (-2147483648) ≤ (ivb1 rb1 k.toNat) ∧ (ivb1 rb1 k.toNat) ≤ 2147483647 by omega) rfl) (Fb1.puti hX0 pq2 trb2 rfl) (fun W2 F2 => ?_)
            refine c_aload_n (j := 1) (x := a0) C dX6_push_41 rfl ?_
            refine c_dup C dX6_push_42 rfl ?_
            refine hv2 (show 0 ≤ iv2 a0 7 ∧ iv2 a0 7 ≤ 100000 from W2.int t_a0 7) (show iv2 a0 7 = ivb1 a0 7 from by rw [pq2]; exact up2_k (ne_ty t_a0 trb2 (by decide))) (fun ri7 ie8 => ?_)
            refine c_get (k := 7) C ck_7 dX6_push_43 w1_147 (by decide) t_a0 rfl rfl (by decide) rfl ?_
            refine c_iconst C dX6_push_46 ?_
            refine c_iadd C dX6_push_47 ?_
            refine c_put (z := (iv2 a0 7) + 1) (k := 7) C ck_7 dX6_push_48 w1_147 (by decide) rfl t_a0 rfl rfl (by decide) rfl (by rfl) (by rfl) (fun iv3 pq3 => ?_)
            refine hv2 (W2.puti pq3 t_a0 (show 0 ≤ ((iv2 a0 7) + 1) ∧ ((iv2 a0 7) + 1) ≤ 100000 by omega) rfl) (F2.puti hX0 pq3 t_a0 rfl) (fun W3 F3 => ?_)
            refine c_iinc (z := k) (j := 0) (lv2 := [(2, .int (iI (k + 1))), (0, .ref a0), (1, .ref ob1)]) C dX6_push_51 rfl (by decide) rfl ?_
            refine c_goto (tgt := 7) C dX6_push_54 (by decide) ?_
            refine hv5 (show 0 ≤ iv3 a0 7 ∧ iv3 a0 7 ≤ 100000 from W3.int t_a0 7) (show iv3 a0 7 = (iv2 a0 7) + 1 from by rw [pq3]; exact up2_s) (show 0 ≤ iv3 a0 4 ∧ iv3 a0 4 ≤ 500 from W3.int t_a0 4) (show iv3 a0 4 = iv2 a0 4 from by rw [pq3]; exact up2_j (by decide)) (show iv2 a0 4 = ivb1 a0 4 from by rw [pq2]; exact up2_k (ne_ty t_a0 trb2 (by decide))) (fun ri8 ie9 ri9 ie10 ie11 => ?_)
            refine c_lv (lv2 := [(2, .int (iI (k + 1))), (0, .ref a0), (1, .ref ob1)]) [0, 1, 2] rfl ?_
            exact ih1  (k + 1) _ (by omega) W3 F3  (by omega) (by show iv3 a0 7 = iv a0 7 + (k + 1); omega) (ie10.trans (ie11.trans hc4)) (by omega)
    refine hv2 (show 0 ≤ iv a0 7 ∧ iv a0 7 ≤ 100000 from hW.int t_a0 7) (show 0 ≤ iv a0 4 ∧ iv a0 4 ≤ 500 from hW.int t_a0 4) (fun ri10 ri11 => ?_)
    refine c_lv (lv2 := [(2, .int (iI 0)), (0, .ref a0), (1, .ref ob1)]) [0, 1, 2] rfl ?_
    exact Lp1 6 0 _ (by omega) hW hF0  (by omega) (by show iv a0 7 = iv a0 7 + 0; omega) rfl (by omega)
  · subst oq1
    refine c_lv (lv2 := [(0, .ref a0), (1, .null)]) [0, 1] rfl ?_
    refine c_st (st2 := []) rfl ?_
    refine hv2 (show 0 ≤ iv a0 4 ∧ iv a0 4 ≤ 500 from hW.int t_a0 4) (show 0 ≤ iv a0 7 ∧ iv a0 7 ≤ 100000 from hW.int t_a0 7) (fun ri12 ri13 => ?_)
    exact c_vret C dX6_push_4 rfl (by decide) (rom0 hph hph (by decide)) ⟨rfl, rfl, rfl, rfl, rfl, hF0, hW, (by omega)⟩
set_option maxHeartbeats 4000000 in
set_option maxRecDepth 100000 in
theorem C_setTurn {l : Launch} {G : GT} {mi : Nat} {sk : Nat → Nat} {L : List Nat} {cl ln : Nat → Nat} {iv : Nat → Nat → Int} {rv : Nat → Nat → Option Nat}  {a0 : Nat} {r : Option Nat} {i : Int} (hW : WT (g0 G) sk L cl ln iv rv) (hS : SKL sk L cl) (t_a0 : ty L cl a0 15) (t_r : ∀ b, r = some b → ty L cl b 20) (h_i : -2147483648 ≤ i ∧ i ≤ 2147483647) (hc : iv a0 7 ≤ 90000) : Mc l G mi (Phi (g0 G) sk) PHM yX6_setTurn cX6_setTurn 3 (some .int) 1 [.ref a0, va_rf r, .int (iI i)] L cl ln iv rv 0 (fun v L2 cl2 ln2 iv2 rv2 => ∃ f : Int, v = some (.int (iI f)) ∧ L = L2 ∧ cl = cl2 ∧ ln = ln2 ∧ rv = rv2 ∧ fT [15, 54] L cl iv rv iv2 rv2 ∧ WT (g0 G) sk L2 cl2 ln2 iv2 rv2 ∧ (-2147483648 ≤ f ∧ f ≤ 2147483647) ∧ ((f = 0 ∨ f = 7) ∧ iv2 a0 4 = iv a0 4 ∧ iv a0 7 ≤ iv2 a0 7 ∧ iv2 a0 7 ≤ iv a0 7 + 4)) := by
  refine Mc.mk (by decide) (by cases r <;> exact Nat.le_of_ble_eq_true rfl) ?_
  intro p e s m args below meth c A C hM
  have hph := Phi.le hW hS
  refine c_lveq (show lv_args 0 [.ref a0, va_rf r, .int (iI i)] = [(0, .ref a0), (1, (va_rf r)), (2, .int (iI i))] from by cases r <;> rfl) ?_
  refine hv2 (show XT L cl ln L cl ln from XT.refl) (show fT [15, 54] L cl iv rv iv rv from fT.refl) (fun hX0 hF0 => ?_)
  refine c_aloadr_n (j := 1) (r := r) C dX6_setTurn_0 rfl ?_
  refine c_ifnonnull (r := r) (tgt := 12) C dX6_setTurn_1 (by decide) (fun ob1 oq1 => ?_) (fun oq1 => ?_)
  · subst oq1
    have tob1 := t_r ob1 rfl
    refine c_lv (lv2 := [(0, .ref a0), (1, .ref ob1), (2, .int (iI i))]) [0, 1, 2] rfl ?_
    refine c_st (st2 := []) rfl ?_
    refine c_aload_n (j := 0) (x := a0) C dX6_setTurn_12 rfl ?_
    refine c_aload_n (j := 1) (x := ob1) C dX6_setTurn_13 rfl ?_
    refine hv2 (show 0 ≤ iv a0 7 ∧ iv a0 7 ≤ 100000 from hW.int t_a0 7) (show 0 ≤ iv a0 4 ∧ iv a0 4 ≤ 500 from hW.int t_a0 4) (fun ri1 ri2 => ?_)
    refine d_callV (As := [.ref ob1]) (rest := []) C hM (C_push (a0 := a0) (r := (some ob1)) hW hS t_a0 (fun _ q => by cases q; exact tob1)  (by show iv a0 7 ≤ 90000; omega)) dX6_setTurn_14 kV_X6_86 rfl t_a0 rfl rfl (by decide) ck_7 rfl (Nat.le_of_ble_eq_true rfl) ⟨(Nat.le_of_ble_eq_true rfl), (Nat.le_of_ble_eq_true rfl)⟩ hph hph (show 0 + 0 = 0 from rfl) (by decide) (fun rh1 Lh1 clh1 lnh1 ivh1 rvh1 h1 => ?_)
    obtain ⟨rfl, rfl, rfl, rfl, rfl, fl1, W1, exf1⟩ := h1
    have F1 := hF0.call hX0 fl1 rfl
    refine c_st (st2 := []) rfl ?_
    refine hv3 (show 0 ≤ ivh1 a0 4 ∧ ivh1 a0 4 ≤ 500 from W1.int t_a0 4) (show 0 ≤ ivh1 a0 7 ∧ ivh1 a0 7 ≤ 100000 from W1.int t_a0 7) (show ivh1 a0 4 = iv a0 4 ∧ iv a0 7 ≤ ivh1 a0 7 ∧ ivh1 a0 7 ≤ iv a0 7 + 4 from exf1) (fun ri3 ri4 gf1 => ?_)
    refine c_iconst C dX6_setTurn_17 ?_
    exact c_iret C dX6_setTurn_18 rfl (by decide) (rom0 hph hph (by decide)) ⟨0, rfl, rfl, rfl, rfl, rfl, F1, W1, ⟨by decide, by decide⟩, (by omega)⟩
  · subst oq1
    refine c_lv (lv2 := [(0, .ref a0), (1, .null), (2, .int (iI i))]) [0, 1, 2] rfl ?_
    refine c_st (st2 := []) rfl ?_
    refine c_aload_n (j := 0) (x := a0) C dX6_setTurn_4 rfl ?_
    refine c_iload_n (j := 2) C dX6_setTurn_5 rfl ?_
    refine c_put (z := i) (k := 9) C ck_7 dX6_setTurn_6 w1_151 (by decide) rfl t_a0 rfl rfl (by decide) rfl (by rfl) (by rfl) (fun iv1 pq1 => ?_)
    refine hv2 (hW.puti pq1 t_a0 (show (-2147483648) ≤ i ∧ i ≤ 2147483647 by omega) rfl) (hF0.puti hX0 pq1 t_a0 rfl) (fun W2 F2 => ?_)
    refine c_bipush (z := 7) C dX6_setTurn_9 (by decide) ?_
    refine hv4 (show 0 ≤ iv1 a0 4 ∧ iv1 a0 4 ≤ 500 from W2.int t_a0 4) (show iv1 a0 4 = iv a0 4 from by rw [pq1]; exact up2_j (by decide)) (show 0 ≤ iv1 a0 7 ∧ iv1 a0 7 ≤ 100000 from W2.int t_a0 7) (show iv1 a0 7 = iv a0 7 from by rw [pq1]; exact up2_j (by decide)) (fun ri5 ie3 ri6 ie4 => ?_)
    exact c_iret C dX6_setTurn_11 rfl (by decide) (rom0 hph hph (by decide)) ⟨7, rfl, rfl, rfl, rfl, rfl, F2, W2, ⟨by decide, by decide⟩, (by omega)⟩
set_option maxHeartbeats 4000000 in
set_option maxRecDepth 100000 in
theorem C_markStart {l : Launch} {G : GT} {mi : Nat} {sk : Nat → Nat} {L : List Nat} {cl ln : Nat → Nat} {iv : Nat → Nat → Int} {rv : Nat → Nat → Option Nat}  {a0 : Nat} {i : Int} {n : Int} (hW : WT (g0 G) sk L cl ln iv rv) (hS : SKL sk L cl) (t_a0 : ty L cl a0 15) (h_i : -2147483648 ≤ i ∧ i ≤ 2147483647) (h_n : -2147483648 ≤ n ∧ n ≤ 2147483647) (hi : 0 ≤ i ∧ i ≤ 500 ∧ 0 ≤ n ∧ n ≤ 8) : Mc l G mi (Phi (g0 G) sk) PHM yX6_markStart cX6_markStart 4 none 0 [.ref a0, .int (iI i), .int (iI n)] L cl ln iv rv 0 (fun v L2 cl2 ln2 iv2 rv2 => v = none ∧ L = L2 ∧ cl = cl2 ∧ ln = ln2 ∧ rv = rv2 ∧ fT [53] L cl iv rv iv2 rv2 ∧ WT (g0 G) sk L2 cl2 ln2 iv2 rv2 ∧ (True)) := by
  refine Mc.mk (by decide) (Nat.le_of_ble_eq_true rfl) ?_
  intro p e s m args below meth c A C hM
  refine hv3 (Phi.le hW hS) (show XT L cl ln L cl ln from XT.refl) (show fT [53] L cl iv rv iv rv from fT.refl) (fun hph hX0 hF0 => ?_)
  refine c_iload_n (j := 1) C dX6_markStart_0 rfl ?_
  refine c_istore_n (lv2 := [(3, .int (iI i)), (0, .ref a0), (1, .int (iI i)), (2, .int (iI n))]) C dX6_markStart_1 (by decide) rfl ?_
  have Lp1 : ∀ (nn : Nat) (k : Int) (ivb1 : Nat → Nat → Int) , i + 9 - k < (nn : Int) → WT (g0 G) sk L cl ln ivb1 rv → fT [53] L cl iv rv ivb1 rv → (i ≤ k ∧ k ≤ i + 8) → cw p l e 0 ((PHM) + 0 - ((Phi (g0 G) sk) ln rv)) s m args below meth c G A 4 (MQ below (Qu G A (Qp G (Phi (g0 G) sk) ((Phi (g0 G) sk) ln rv) 0 (fun v L2 cl2 ln2 iv2 rv2 => v = none ∧ L = L2 ∧ cl = cl2 ∧ ln = ln2 ∧ rv = rv2 ∧ fT [53] L cl iv rv iv2 rv2 ∧ WT (g0 G) sk L2 cl2 ln2 iv2 rv2 ∧ (True)))) args s (((PHM) + 0 - ((Phi (g0 G) sk) ln rv)) / 16) ((PHM) + 0 - ((Phi (g0 G) sk) ln rv)) A) (Phi (g0 G) sk) ((Phi (g0 G) sk) ln rv) L cl ln ivb1 rv 0 2 [(3, .int (iI k)), (0, .ref a0), (1, .int (iI i)), (2, .int (iI n))] [] := by
    intro nn
    induction nn with
    | zero =>
      intro  k ivb1 hm Wb1 Fb1  hk
      exact absurd hm (by omega)
    | succ nn ih1 =>
      intro  k ivb1 hm Wb1 Fb1  hk
      refine c_iload_n (j := 0) C dX6_markStart_2 rfl ?_
      refine c_iload_n (j := 2) C dX6_markStart_3 rfl ?_
      refine c_iload_n (j := 3) C dX6_markStart_4 rfl ?_
      refine c_iadd C dX6_markStart_5 ?_
      refine c_icmp_ge (tgt := 41) C ⟨by omega, by omega⟩ ⟨by omega, by omega⟩ dX6_markStart_6 (by decide) (fun c1 => ?_) (fun c1 => ?_)
      · exact c_vret C dX6_markStart_41 rfl (by decide) (rom0 hph hph (by decide)) ⟨rfl, rfl, rfl, rfl, rfl, Fb1, Wb1, trivial⟩
      · refine c_iload_n (j := 0) C dX6_markStart_9 rfl ?_
        refine c_sipush (z := 500) C dX6_markStart_10 (by decide) ?_
        refine c_icmp_ge (tgt := 41) C ⟨by omega, by omega⟩ ⟨by decide, by decide⟩ dX6_markStart_13 (by decide) (fun c2 => ?_) (fun c2 => ?_)
        · exact c_vret C dX6_markStart_41 rfl (by decide) (rom0 hph hph (by decide)) ⟨rfl, rfl, rfl, rfl, rfl, Fb1, Wb1, trivial⟩
        · refine c_aload_n (j := 1) (x := a0) C dX6_markStart_16 rfl ?_
          obtain ⟨rb1, rq1, trb1⟩ := Wb1.ref t_a0 3 rfl rfl rfl
          have lnrb1 : 500 ≤ ln rb1 ∧ ln rb1 ≤ 500 := Wb1.len trb1 rfl
          refine c_getr (k := 3) C ck_7 dX6_markStart_17 w1_139 (by decide) t_a0 rfl rfl (by decide) rfl rq1 ?_
          refine c_st (st2 := [.ref rb1]) rfl ?_
          refine c_iload_n (j := 0) C dX6_markStart_20 rfl ?_
          refine c_iload_n (j := 0) C dX6_markStart_21 rfl ?_
          refine c_iload_n (j := 2) C dX6_markStart_22 rfl ?_
          refine c_icmp_ne (tgt := 33) C ⟨by omega, by omega⟩ ⟨by omega, by omega⟩ dX6_markStart_23 (by decide) (fun c3 => ?_) (fun c3 => ?_)
          · refine c_iconst C dX6_markStart_33 ?_
            have ll1 : 500 ≤ ln rb1 ∧ ln rb1 ≤ 500 := Wb1.len trb1 rfl
            refine c_iast (x := (-1)) C dX6_markStart_34 trb1 rfl (by omega) (by omega) (by omega) (fun iv1 pq1 => ?_)
            refine hv2 (Wb1.puti pq1 trb1 (show (-2147483648) ≤ (-1) ∧ (-1) ≤ 2147483647 by omega) rfl) (Fb1.puti hX0 pq1 trb1 rfl) (fun W1 F1 => ?_)
            refine c_iinc (z := k) (j := 0) (lv2 := [(3, .int (iI (k + 1))), (0, .ref a0), (1, .int (iI i)), (2, .int (iI n))]) C dX6_markStart_35 rfl (by decide) rfl ?_
            refine c_goto (tgt := 2) C dX6_markStart_38 (by decide) ?_
            refine c_lv (lv2 := [(3, .int (iI (k + 1))), (0, .ref a0), (1, .int (iI i)), (2, .int (iI n))]) [0, 1, 2, 3] rfl ?_
            exact ih1  (k + 1) _ (by omega) W1 F1  (by omega)
          · refine c_aload_n (j := 1) (x := a0) C dX6_markStart_26 rfl ?_
            refine hv2 (show 0 ≤ ivb1 a0 7 ∧ ivb1 a0 7 ≤ 100000 from Wb1.int t_a0 7) (show ivb1 a0 7 = iv a0 7 from Fb1.i t_a0 rfl 7) (fun ri1 ie1 => ?_)
            refine c_get (k := 7) C ck_7 dX6_markStart_27 w1_147 (by decide) t_a0 rfl rfl (by decide) rfl ?_
            refine c_goto (tgt := 34) C dX6_markStart_30 (by decide) ?_
            have ll2 : 500 ≤ ln rb1 ∧ ln rb1 ≤ 500 := Wb1.len trb1 rfl
            refine c_iast (x := ivb1 a0 7) C dX6_markStart_34 trb1 rfl (by omega) (by omega) (by omega) (fun iv2 pq2 => ?_)
            refine hv2 (Wb1.puti pq2 trb1 (show (-2147483648) ≤ (ivb1 a0 7) ∧ (ivb1 a0 7) ≤ 2147483647 by omega) rfl) (Fb1.puti hX0 pq2 trb1 rfl) (fun W2 F2 => ?_)
            refine c_iinc (z := k) (j := 0) (lv2 := [(3, .int (iI (k + 1))), (0, .ref a0), (1, .int (iI i)), (2, .int (iI n))]) C dX6_markStart_35 rfl (by decide) rfl ?_
            refine c_goto (tgt := 2) C dX6_markStart_38 (by decide) ?_
            refine c_lv (lv2 := [(3, .int (iI (k + 1))), (0, .ref a0), (1, .int (iI i)), (2, .int (iI n))]) [0, 1, 2, 3] rfl ?_
            exact ih1  (k + 1) _ (by omega) W2 F2  (by omega)
  refine c_lv (lv2 := [(3, .int (iI i)), (0, .ref a0), (1, .int (iI i)), (2, .int (iI n))]) [0, 1, 2, 3] rfl ?_
  exact Lp1 510 i _ (by omega) hW hF0  (by omega)
set_option maxHeartbeats 4000000 in
set_option maxRecDepth 100000 in
theorem C_numberAhead {l : Launch} {G : GT} {mi : Nat} {sk : Nat → Nat} {L : List Nat} {cl ln : Nat → Nat} {iv : Nat → Nat → Int} {rv : Nat → Nat → Option Nat}  {a0 : Nat} {a1 : Nat} {i : Int} (hW : WT (g0 G) sk L cl ln iv rv) (hS : SKL sk L cl) (t_a0 : ty L cl a0 15) (t_a1 : ty L cl a1 100) (h_i : -2147483648 ≤ i ∧ i ≤ 2147483647) (hi : 0 ≤ i ∧ i < 500) : Mc l G mi (Phi (g0 G) sk) PHM yX6_numberAhead cX6_numberAhead 4 (some (.object "DotPress$Row")) 1 [.ref a0, .ref a1, .int (iI i)] L cl ln iv rv 0 (fun v L2 cl2 ln2 iv2 rv2 => ∃ f : Option Nat, v = some ((va_rf f)) ∧ L = L2 ∧ cl = cl2 ∧ ln = ln2 ∧ iv = iv2 ∧ rv = rv2 ∧ (∀ b, f = some b → ty L2 cl2 b 20) ∧ (True)) := by
  refine Mc.mk (by decide) (Nat.le_of_ble_eq_true rfl) ?_
  intro p e s m args below meth c A C hM
  refine hv3 (Phi.le hW hS) (show XT L cl ln L cl ln from XT.refl) (show fT [] L cl iv rv iv rv from fT.refl) (fun hph hX0 hF0 => ?_)
  refine c_aload_n (j := 0) (x := a0) C dX6_numberAhead_0 rfl ?_
  obtain ⟨rb1, rq1, trb1⟩ := hW.ref t_a0 0 rfl rfl rfl
  have lnrb1 : 500 ≤ ln rb1 ∧ ln rb1 ≤ 500 := hW.len trb1 rfl
  refine c_getr (k := 0) C ck_7 dX6_numberAhead_1 w1_136 (by decide) t_a0 rfl rfl (by decide) rfl rq1 ?_
  refine c_st (st2 := [.ref rb1]) rfl ?_
  refine c_iload_n (j := 2) C dX6_numberAhead_4 rfl ?_
  have ll1 : 500 ≤ ln rb1 ∧ ln rb1 ≤ 500 := hW.len trb1 rfl
  refine c_iald C dX6_numberAhead_5 trb1 rfl (by omega) (by omega) (by omega) ?_
  have ri1 : (-2147483648) ≤ iv rb1 i.toNat ∧ iv rb1 i.toNat ≤ 2147483647 := hW.int trb1 i.toNat
  refine c_callSN0 (As := [.int (iI (iv rb1 i.toNat))]) (rest := []) C (fun L E => s11_isDigit (iI (iv rb1 i.toNat))) dX6_numberAhead_6 kSN_X6_115 rfl rfl (Nat.le_of_ble_eq_true rfl) ⟨(Nat.le_of_ble_eq_true rfl), (Nat.le_of_ble_eq_true rfl)⟩ (rom0 hph hph (by decide)) ?_
  rcases inn_c (x := iv rb1 i.toNat) (lo := 48) (hi := 57) (r32_c (lo := (-2147483648)) (hi := 2147483647) ri1.1 ri1.2 (by decide) (by decide)) ⟨by decide, by decide⟩ ⟨by decide, by decide⟩ with ⟨hs1a, hs1b, hs1e⟩ | ⟨hs1a, hs1e⟩
  · refine c_st (st2 := [.int (iI 1)]) (by rw [show inn (iI (iv rb1 i.toNat)) 48 57 = iI 1 from hs1e]) ?_
    refine c_if_eq (tgt := 38) C ⟨by decide, by decide⟩ dX6_numberAhead_9 (by decide) (fun z => absurd z (by omega)) (fun _ => ?_)
    refine c_iload_n (j := 2) C dX6_numberAhead_12 rfl ?_
    refine c_aload_n (j := 0) (x := a0) C dX6_numberAhead_13 rfl ?_
    have ri2 : 0 ≤ iv a0 10 ∧ iv a0 10 ≤ 500 := hW.int t_a0 10
    refine c_get (k := 10) C ck_7 dX6_numberAhead_14 w1_152 (by decide) t_a0 rfl rfl (by decide) rfl ?_
    refine c_icmp_le (tgt := 34) C ⟨by omega, by omega⟩ (r32_c (lo := 0) (hi := 500) ri2.1 ri2.2 (by decide) (by decide)) dX6_numberAhead_17 (by decide) (fun c1 => ?_) (fun c1 => ?_)
    · refine c_iconst C dX6_numberAhead_34 ?_
      refine c_goto (tgt := 39) C dX6_numberAhead_35 (by decide) ?_
      refine c_istore_n (lv2 := [(3, .int (iI 1)), (0, .ref a0), (1, .ref a1), (2, .int (iI i))]) C dX6_numberAhead_39 (by decide) rfl ?_
      refine c_aload_n (j := 2) (x := a1) C dX6_numberAhead_40 rfl ?_
      have ri3 : (-2147483648) ≤ iv a1 0 ∧ iv a1 0 ≤ 2147483647 := hW.int t_a1 0
      refine c_get (k := 0) C ck_10 dX6_numberAhead_41 w2_177 (by decide) t_a1 rfl rfl (by decide) rfl ?_
      refine c_iconst C dX6_numberAhead_44 ?_
      refine c_icmp_ne (tgt := 61) C (r32_c (lo := (-2147483648)) (hi := 2147483647) ri3.1 ri3.2 (by decide) (by decide)) ⟨by decide, by decide⟩ dX6_numberAhead_45 (by decide) (fun c2 => ?_) (fun c2 => ?_)
      · refine c_null C dX6_numberAhead_61 ?_
        exact c_aret (x := none) C dX6_numberAhead_62 rfl (Or.inl ⟨_, rfl⟩) (by decide) (rom0 hph hph (by decide)) ⟨none, rfl, rfl, rfl, rfl, rfl, rfl, (fun _ q => by cases q), trivial⟩
      · refine c_iload_n (j := 0) C dX6_numberAhead_48 rfl ?_
        refine c_if_eq (tgt := 61) C ⟨by decide, by decide⟩ dX6_numberAhead_49 (by decide) (fun z => absurd z (by omega)) (fun _ => ?_)
        refine c_aload_n (j := 2) (x := a1) C dX6_numberAhead_52 rfl ?_
        obtain ⟨rb2, rq2, trb2⟩ := hW.ref t_a1 6 rfl rfl rfl
        have lnrb2 : 4 ≤ ln rb2 ∧ ln rb2 ≤ 4 := hW.len trb2 rfl
        refine c_getr (k := 6) C ck_10 dX6_numberAhead_53 w2_195 (by decide) t_a1 rfl rfl (by decide) rfl rq2 ?_
        refine c_st (st2 := [.ref rb2]) rfl ?_
        refine c_iconst C dX6_numberAhead_56 ?_
        have ll2 : 4 ≤ ln rb2 ∧ ln rb2 ≤ 4 := hW.len trb2 rfl
        rcases hW.opt trb2 ((1 : Int).toNat) rfl rfl with ⟨nq1, _⟩ | ⟨nb1, nq1, tnb1⟩
        · refine c_aaldR C dX6_numberAhead_57 trb2 rfl (by omega) (by omega) (by omega) nq1 ?_
          refine c_st (st2 := [.null]) rfl ?_
          refine c_goto (tgt := 62) C dX6_numberAhead_58 (by decide) ?_
          exact c_aret (x := none) C dX6_numberAhead_62 rfl (Or.inl ⟨_, rfl⟩) (by decide) (rom0 hph hph (by decide)) ⟨none, rfl, rfl, rfl, rfl, rfl, rfl, (fun _ q => by cases q), trivial⟩
        · have tnb1 : ty L cl nb1 20 := tnb1
          refine c_aaldR C dX6_numberAhead_57 trb2 rfl (by omega) (by omega) (by omega) nq1 ?_
          refine c_st (st2 := [.ref nb1]) rfl ?_
          refine c_goto (tgt := 62) C dX6_numberAhead_58 (by decide) ?_
          exact c_aret (x := some nb1) C dX6_numberAhead_62 rfl (Or.inl ⟨_, rfl⟩) (by decide) (rom0 hph hph (by decide)) ⟨(some nb1), rfl, rfl, rfl, rfl, rfl, rfl, (fun _ q => by cases q; exact tnb1), trivial⟩
    · refine c_aload_n (j := 0) (x := a0) C dX6_numberAhead_20 rfl ?_
      refine c_getr (k := 0) C ck_7 dX6_numberAhead_21 w1_136 (by decide) t_a0 rfl rfl (by decide) rfl rq1 ?_
      refine c_st (st2 := [.ref rb1]) rfl ?_
      refine c_iload_n (j := 2) C dX6_numberAhead_24 rfl ?_
      refine c_iconst C dX6_numberAhead_25 ?_
      refine c_isub C dX6_numberAhead_26 ?_
      refine c_iald C dX6_numberAhead_27 trb1 rfl (by omega) (by omega) (by omega) ?_
      have ri4 : (-2147483648) ≤ iv rb1 ((i - 1).toNat) ∧ iv rb1 ((i - 1).toNat) ≤ 2147483647 := hW.int trb1 ((i - 1).toNat)
      refine c_callSN0 (As := [.int (iI (iv rb1 (i - 1).toNat))]) (rest := []) C (fun L E => s11_isDigit (iI (iv rb1 (i - 1).toNat))) dX6_numberAhead_28 kSN_X6_115 rfl rfl (Nat.le_of_ble_eq_true rfl) ⟨(Nat.le_of_ble_eq_true rfl), (Nat.le_of_ble_eq_true rfl)⟩ (rom0 hph hph (by decide)) ?_
      rcases inn_c (x := iv rb1 (i - 1).toNat) (lo := 48) (hi := 57) ⟨by omega, by omega⟩ ⟨by decide, by decide⟩ ⟨by decide, by decide⟩ with ⟨hs2a, hs2b, hs2e⟩ | ⟨hs2a, hs2e⟩
      · refine c_st (st2 := [.int (iI 1)]) (by rw [show inn (iI (iv rb1 (i - 1).toNat)) 48 57 = iI 1 from hs2e]) ?_
        refine c_if_ne (tgt := 38) C ⟨by decide, by decide⟩ dX6_numberAhead_31 (by decide) (fun _ => ?_) (fun z => absurd z (by omega))
        refine c_iconst C dX6_numberAhead_38 ?_
        refine c_istore_n (lv2 := [(3, .int (iI 0)), (0, .ref a0), (1, .ref a1), (2, .int (iI i))]) C dX6_numberAhead_39 (by decide) rfl ?_
        refine c_aload_n (j := 2) (x := a1) C dX6_numberAhead_40 rfl ?_
        have ri5 : (-2147483648) ≤ iv a1 0 ∧ iv a1 0 ≤ 2147483647 := hW.int t_a1 0
        refine c_get (k := 0) C ck_10 dX6_numberAhead_41 w2_177 (by decide) t_a1 rfl rfl (by decide) rfl ?_
        refine c_iconst C dX6_numberAhead_44 ?_
        refine c_icmp_ne (tgt := 61) C (r32_c (lo := (-2147483648)) (hi := 2147483647) ri5.1 ri5.2 (by decide) (by decide)) ⟨by decide, by decide⟩ dX6_numberAhead_45 (by decide) (fun c3 => ?_) (fun c3 => ?_)
        · refine c_null C dX6_numberAhead_61 ?_
          exact c_aret (x := none) C dX6_numberAhead_62 rfl (Or.inl ⟨_, rfl⟩) (by decide) (rom0 hph hph (by decide)) ⟨none, rfl, rfl, rfl, rfl, rfl, rfl, (fun _ q => by cases q), trivial⟩
        · refine c_iload_n (j := 0) C dX6_numberAhead_48 rfl ?_
          refine c_if_eq (tgt := 61) C ⟨by decide, by decide⟩ dX6_numberAhead_49 (by decide) (fun _ => ?_) (fun z => absurd z (by omega))
          refine c_null C dX6_numberAhead_61 ?_
          exact c_aret (x := none) C dX6_numberAhead_62 rfl (Or.inl ⟨_, rfl⟩) (by decide) (rom0 hph hph (by decide)) ⟨none, rfl, rfl, rfl, rfl, rfl, rfl, (fun _ q => by cases q), trivial⟩
      · refine c_st (st2 := [.int (iI 0)]) (by rw [show inn (iI (iv rb1 (i - 1).toNat)) 48 57 = iI 0 from hs2e]) ?_
        refine c_if_ne (tgt := 38) C ⟨by decide, by decide⟩ dX6_numberAhead_31 (by decide) (fun z => absurd z (by omega)) (fun _ => ?_)
        refine c_iconst C dX6_numberAhead_34 ?_
        refine c_goto (tgt := 39) C dX6_numberAhead_35 (by decide) ?_
        refine c_istore_n (lv2 := [(3, .int (iI 1)), (0, .ref a0), (1, .ref a1), (2, .int (iI i))]) C dX6_numberAhead_39 (by decide) rfl ?_
        refine c_aload_n (j := 2) (x := a1) C dX6_numberAhead_40 rfl ?_
        have ri6 : (-2147483648) ≤ iv a1 0 ∧ iv a1 0 ≤ 2147483647 := hW.int t_a1 0
        refine c_get (k := 0) C ck_10 dX6_numberAhead_41 w2_177 (by decide) t_a1 rfl rfl (by decide) rfl ?_
        refine c_iconst C dX6_numberAhead_44 ?_
        refine c_icmp_ne (tgt := 61) C (r32_c (lo := (-2147483648)) (hi := 2147483647) ri6.1 ri6.2 (by decide) (by decide)) ⟨by decide, by decide⟩ dX6_numberAhead_45 (by decide) (fun c4 => ?_) (fun c4 => ?_)
        · refine c_null C dX6_numberAhead_61 ?_
          exact c_aret (x := none) C dX6_numberAhead_62 rfl (Or.inl ⟨_, rfl⟩) (by decide) (rom0 hph hph (by decide)) ⟨none, rfl, rfl, rfl, rfl, rfl, rfl, (fun _ q => by cases q), trivial⟩
        · refine c_iload_n (j := 0) C dX6_numberAhead_48 rfl ?_
          refine c_if_eq (tgt := 61) C ⟨by decide, by decide⟩ dX6_numberAhead_49 (by decide) (fun z => absurd z (by omega)) (fun _ => ?_)
          refine c_aload_n (j := 2) (x := a1) C dX6_numberAhead_52 rfl ?_
          obtain ⟨rb3, rq3, trb3⟩ := hW.ref t_a1 6 rfl rfl rfl
          have lnrb3 : 4 ≤ ln rb3 ∧ ln rb3 ≤ 4 := hW.len trb3 rfl
          refine c_getr (k := 6) C ck_10 dX6_numberAhead_53 w2_195 (by decide) t_a1 rfl rfl (by decide) rfl rq3 ?_
          refine c_st (st2 := [.ref rb3]) rfl ?_
          refine c_iconst C dX6_numberAhead_56 ?_
          have ll3 : 4 ≤ ln rb3 ∧ ln rb3 ≤ 4 := hW.len trb3 rfl
          rcases hW.opt trb3 ((1 : Int).toNat) rfl rfl with ⟨nq2, _⟩ | ⟨nb2, nq2, tnb2⟩
          · refine c_aaldR C dX6_numberAhead_57 trb3 rfl (by omega) (by omega) (by omega) nq2 ?_
            refine c_st (st2 := [.null]) rfl ?_
            refine c_goto (tgt := 62) C dX6_numberAhead_58 (by decide) ?_
            exact c_aret (x := none) C dX6_numberAhead_62 rfl (Or.inl ⟨_, rfl⟩) (by decide) (rom0 hph hph (by decide)) ⟨none, rfl, rfl, rfl, rfl, rfl, rfl, (fun _ q => by cases q), trivial⟩
          · have tnb2 : ty L cl nb2 20 := tnb2
            refine c_aaldR C dX6_numberAhead_57 trb3 rfl (by omega) (by omega) (by omega) nq2 ?_
            refine c_st (st2 := [.ref nb2]) rfl ?_
            refine c_goto (tgt := 62) C dX6_numberAhead_58 (by decide) ?_
            exact c_aret (x := some nb2) C dX6_numberAhead_62 rfl (Or.inl ⟨_, rfl⟩) (by decide) (rom0 hph hph (by decide)) ⟨(some nb2), rfl, rfl, rfl, rfl, rfl, rfl, (fun _ q => by cases q; exact tnb2), trivial⟩
  · refine c_st (st2 := [.int (iI 0)]) (by rw [show inn (iI (iv rb1 i.toNat)) 48 57 = iI 0 from hs1e]) ?_
    refine c_if_eq (tgt := 38) C ⟨by decide, by decide⟩ dX6_numberAhead_9 (by decide) (fun _ => ?_) (fun z => absurd z (by omega))
    refine c_iconst C dX6_numberAhead_38 ?_
    refine c_istore_n (lv2 := [(3, .int (iI 0)), (0, .ref a0), (1, .ref a1), (2, .int (iI i))]) C dX6_numberAhead_39 (by decide) rfl ?_
    refine c_aload_n (j := 2) (x := a1) C dX6_numberAhead_40 rfl ?_
    have ri7 : (-2147483648) ≤ iv a1 0 ∧ iv a1 0 ≤ 2147483647 := hW.int t_a1 0
    refine c_get (k := 0) C ck_10 dX6_numberAhead_41 w2_177 (by decide) t_a1 rfl rfl (by decide) rfl ?_
    refine c_iconst C dX6_numberAhead_44 ?_
    refine c_icmp_ne (tgt := 61) C (r32_c (lo := (-2147483648)) (hi := 2147483647) ri7.1 ri7.2 (by decide) (by decide)) ⟨by decide, by decide⟩ dX6_numberAhead_45 (by decide) (fun c5 => ?_) (fun c5 => ?_)
    · refine c_null C dX6_numberAhead_61 ?_
      exact c_aret (x := none) C dX6_numberAhead_62 rfl (Or.inl ⟨_, rfl⟩) (by decide) (rom0 hph hph (by decide)) ⟨none, rfl, rfl, rfl, rfl, rfl, rfl, (fun _ q => by cases q), trivial⟩
    · refine c_iload_n (j := 0) C dX6_numberAhead_48 rfl ?_
      refine c_if_eq (tgt := 61) C ⟨by decide, by decide⟩ dX6_numberAhead_49 (by decide) (fun _ => ?_) (fun z => absurd z (by omega))
      refine c_null C dX6_numberAhead_61 ?_
      exact c_aret (x := none) C dX6_numberAhead_62 rfl (Or.inl ⟨_, rfl⟩) (by decide) (rom0 hph hph (by decide)) ⟨none, rfl, rfl, rfl, rfl, rfl, rfl, (fun _ q => by cases q), trivial⟩
end
