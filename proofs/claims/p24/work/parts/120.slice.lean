section
set_option maxHeartbeats 4000000 in
set_option maxRecDepth 100000 in
theorem C_slice_65 {l : Launch} {G : GT} {mi : Nat} {sk : Nat → Nat} {L : List Nat} {cl ln : Nat → Nat} {iv : Nat → Nat → Int} {rv : Nat → Nat → Option Nat}  {a0 : Nat} {i : Int} {j : Int} (hW : WT (g0 G) sk L cl ln iv rv) (hS : SKL sk L cl) (t_a0 : ty L cl a0 2) (h_i : -2147483648 ≤ i ∧ i ≤ 2147483647) (h_j : -2147483648 ≤ j ∧ j ≤ 2147483647) (hij : 0 ≤ i ∧ i ≤ 3000 ∧ 0 ≤ j - i ∧ j - i ≤ 8) : Mc l G mi (Phi (g0 G) sk) PHM yX1_slice cX1_slice 5 (some (.array .int)) 1 [.ref a0, .int (iI i), .int (iI j)] L cl ln iv rv 24 (fun v L2 cl2 ln2 iv2 rv2 => ∃ f : Nat, v = some (.ref f) ∧ XT L cl ln L2 cl2 ln2 ∧ fT [65] L cl iv rv iv2 rv2 ∧ WT (g0 G) sk L2 cl2 ln2 iv2 rv2 ∧ ty L2 cl2 f 65 ∧ (ln2 f = (j - i).toNat) ∧ (f ∉ L ∧ (∀ bb, ty L cl bb 65 → ∀ k, iv2 bb k = iv bb k) ∧ ∀ ss, CT iv rv a0 ss → j ≤ iv a0 2 → ∀ q : Nat, q < ln2 f → iv2 f q = ss (i.toNat + q))) := by
  refine Mc.mk (by decide) (Nat.le_of_ble_eq_true rfl) ?_
  intro p e s m args below meth c A C hM
  refine hv4 (Phi.le hW hS) (show XT L cl ln L cl ln from XT.refl) (show fT [65] L cl iv rv iv rv from fT.refl) (show 0 ≤ iv a0 2 ∧ iv a0 2 ≤ 3000 from hW.int t_a0 2) (fun hph hX0 hF0 ri1 => ?_)
  refine c_iconst C dX1_slice_0 ?_
  refine c_iload_n (j := 2) C dX1_slice_1 rfl ?_
  refine c_iload_n (j := 1) C dX1_slice_2 rfl ?_
  refine c_isub C dX1_slice_3 ?_
  obtain ⟨mn1, hmn1, emn1⟩ := mmax_c (x := 0) (y := j - i) ⟨by decide, by decide⟩ ⟨by omega, by omega⟩
  refine c_mmax (w := iI mn1) C dX1_slice_4 w2_147 w2_148 w1_14 w2_149 (by decide) (rom0 hph hph (by decide)) (Nat.le_of_ble_eq_true rfl) emn1 ?_
  refine c_newaI (z := mn1) (N := (j - i).toNat) C 65 dX1_slice_7 w1_57 rfl (by omega) (by omega) (rom2 hph hph (by omega)) (fun qn1 cln1 lnn1 ivn1 rvn1 hqn1 hcn1 hln1 hin1 hrn1 => ⟨(0 + (16 + (j - i).toNat)), (p_in (Phi.new hW hS hqn1 (fun b hb => by rw [hln1]; exact va_up_ne _ _ hb) hrn1) (by omega)), ?_⟩)
  refine c_g0 C (fun hg1 => ?_)
  refine hv5 (show ∀ b, b ≠ qn1 → lnn1 b = ln b from (fun b hb => by rw [hln1]; exact va_up_ne _ _ hb)) (show lnn1 qn1 = (j - i).toNat from by rw [hln1]; exact va_up_self _ _ _) (hF0.new hX0 hqn1 hin1 hrn1) (show ty (L ++ [qn1]) cln1 qn1 65 from ty_new hcn1) (show qn1 ∉ L from fun h => hqn1 ((hX0 qn1 h).1)) (fun hxn1 lqn1 F1 tqn1 h0qn1 => ?_)
  refine hv2 (hW.new (ln2 := lnn1) hqn1 (hg1 qn1 (List.mem_append_right _ List.mem_cons_self)) hcn1 hxn1 hin1 hrn1 (fun _ => ⟨(show (-2147483648 : Int) ≤ 0 by decide), (show (0 : Int) ≤ 2147483647 by decide)⟩) (Or.inr (fun _ => rfl)) (fun _ => by show 0 ≤ lnn1 qn1 ∧ lnn1 qn1 ≤ 8; omega) rfl rfl) (XT.new hqn1 hcn1 hxn1) (fun W1 xl1 => ?_)
  refine hv2 (hX0.trans xl1) (xl1.skl hS) (fun X1 sk1 => ?_)
  refine c_astore_n (lv2 := [(3, .ref qn1), (0, .ref a0), (1, .int (iI i)), (2, .int (iI j))]) C dX1_slice_9 (by decide) rfl ?_
  refine c_K (K2 := 24) (by omega) ?_
  refine c_iconst C dX1_slice_10 ?_
  refine c_istore (lv2 := [(4, .int (iI 0)), (3, .ref qn1), (0, .ref a0), (1, .int (iI i)), (2, .int (iI j))]) C dX1_slice_11 (by decide) rfl ?_
  have Lp1 : ∀ (nn : Nat) (qa : Nat) (k : Int) (Lb1 : List Nat) (clb1 lnb1 : Nat → Nat) (ivb1 : Nat → Nat → Int) (rvb1 : Nat → Nat → Option Nat) , 9 - k < (nn : Int) → XT L cl ln Lb1 clb1 lnb1 → WT (g0 G) sk Lb1 clb1 lnb1 ivb1 rvb1 → fT [65] L cl iv rv ivb1 rvb1 → (ty Lb1 clb1 qa 65) → (0 ≤ k ∧ k ≤ 8) → (lnb1 qa = (j - i).toNat) → (qa ∉ L) → (∀ bb, ty L cl bb 65 → ∀ kk, ivb1 bb kk = iv bb kk) → (∀ ss, CT iv rv a0 ss → j ≤ iv a0 2 → ∀ q : Nat, (q : Int) < k → ivb1 qa q = ss (i.toNat + q)) → cw p l e 1 ((PHM) + 24 - ((Phi (g0 G) sk) ln rv)) s m args below meth c G A 5 (MQ below (Qu G A (Qp G (Phi (g0 G) sk) ((Phi (g0 G) sk) ln rv) 24 (fun v L2 cl2 ln2 iv2 rv2 => ∃ f : Nat, v = some (.ref f) ∧ XT L cl ln L2 cl2 ln2 ∧ fT [65] L cl iv rv iv2 rv2 ∧ WT (g0 G) sk L2 cl2 ln2 iv2 rv2 ∧ ty L2 cl2 f 65 ∧ (ln2 f = (j - i).toNat) ∧ (f ∉ L ∧ (∀ bb, ty L cl bb 65 → ∀ k, iv2 bb k = iv bb k) ∧ ∀ ss, CT iv rv a0 ss → j ≤ iv a0 2 → ∀ q : Nat, q < ln2 f → iv2 f q = ss (i.toNat + q))))) args s (((PHM) + 24 - ((Phi (g0 G) sk) ln rv)) / 16) ((PHM) + 24 - ((Phi (g0 G) sk) ln rv)) A) (Phi (g0 G) sk) ((Phi (g0 G) sk) ln rv) Lb1 clb1 lnb1 ivb1 rvb1 24 13 [(4, .int (iI k)), (3, .ref qa), (0, .ref a0), (1, .int (iI i)), (2, .int (iI j))] [] := by
    intro nn
    induction nn with
    | zero =>
      intro qa k Lb1 clb1 lnb1 ivb1 rvb1 hm Xb1 Wb1 Fb1 ty_qa hk hqa hqn hold hcs
      have skb1 := Xb1.skl hS
      exact absurd hm (by omega)
    | succ nn ih1 =>
      intro qa k Lb1 clb1 lnb1 ivb1 rvb1 hm Xb1 Wb1 Fb1 ty_qa hk hqa hqn hold hcs
      have skb1 := Xb1.skl hS
      refine c_iload (j := 0) C dX1_slice_13 rfl ?_
      refine c_aload_n (j := 1) (x := qa) C dX1_slice_15 rfl ?_
      have ll1 : 0 ≤ lnb1 qa ∧ lnb1 qa ≤ 8 := Wb1.len ty_qa rfl
      refine c_alenI C dX1_slice_16 ty_qa rfl ?_
      refine c_icmp_ge (tgt := 38) C (r32_c (lo := 0) (hi := 8) hk.1 hk.2 (by decide) (by decide)) ⟨by omega, by omega⟩ dX1_slice_17 (by decide) (fun c1 => ?_) (fun c1 => ?_)
      · refine c_aload_n (j := 1) (x := qa) C dX1_slice_38 rfl ?_
        have pl1 := Phi.le Wb1 skb1
        exact c_aret (x := some qa) C dX1_slice_39 rfl (Or.inr ⟨_, rfl⟩) (by decide) (rom0 hph pl1 (by decide)) ⟨qa, rfl, Xb1, Fb1, Wb1, ty_qa, (by omega), ⟨hqn, hold, fun ss hs hj q hq => hcs ss hs hj q (by omega)⟩⟩
      · refine c_aload_n (j := 1) (x := qa) C dX1_slice_20 rfl ?_
        refine c_iload (j := 0) C dX1_slice_21 rfl ?_
        refine c_aload_n (j := 2) (x := a0) C dX1_slice_23 rfl ?_
        refine c_iload_n (j := 3) C dX1_slice_24 rfl ?_
        refine c_iload (j := 0) C dX1_slice_25 rfl ?_
        refine c_iadd C dX1_slice_27 ?_
        refine hv3 (Xb1.ty t_a0) (show ivb1 a0 2 = iv a0 2 from Fb1.i t_a0 rfl 2) (Phi.le Wb1 skb1) (fun ty1 ie1 pl2 => ?_)
        have ri2 : 0 ≤ ivb1 a0 2 ∧ ivb1 a0 2 ≤ 3000 := Wb1.int ty1 2
        refine d_callV (As := [.int (iI (i + k))]) (rest := [.int (iI k), .ref qa]) C hM (C_at_2 (a0 := a0) (i := i + k) Wb1 skb1 ty1 (by omega) ) dX1_slice_28 kV_X1_39 rfl ty1 rfl rfl (by decide) ck_2 rfl (Nat.le_of_ble_eq_true rfl) ⟨(Nat.le_of_ble_eq_true rfl), (Nat.le_of_ble_eq_true rfl)⟩ hph pl2 (show 24 + 0 = 24 from rfl) (by decide) (fun rh1 Lh1 clh1 lnh1 ivh1 rvh1 h1 => ?_)
        obtain ⟨f1, rfl, rfl, rfl, rfl, rfl, rfl, rgf1, exf1⟩ := h1
        refine c_st (st2 := [.int (iI f1), .int (iI k), .ref qa]) rfl ?_
        have gf1 : ((0 ≤ (i + k) ∧ (i + k) < ivb1 a0 2) ∨ f1 = 0) ∧ ∀ ss, CT ivb1 rvb1 a0 ss → 0 ≤ (i + k) → (i + k) < ivb1 a0 2 → f1 = ss (i + k).toNat := exf1
        refine c_iast (x := f1) C dX1_slice_31 ty_qa rfl (by omega) (by omega) (by omega) (fun iv1 pq1 => ?_)
        refine hv2 (Wb1.puti pq1 ty_qa (show (-2147483648) ≤ f1 ∧ f1 ≤ 2147483647 by omega) rfl) (Fb1.puti Xb1 pq1 ty_qa rfl) (fun W3 F2 => ?_)
        refine c_iinc (z := k) (j := 0) (lv2 := [(4, .int (iI (k + 1))), (3, .ref qa), (0, .ref a0), (1, .int (iI i)), (2, .int (iI j))]) C dX1_slice_32 rfl (by decide) rfl ?_
        refine c_goto (tgt := 13) C dX1_slice_35 (by decide) ?_
        refine hv2 (show 0 ≤ iv1 a0 2 ∧ iv1 a0 2 ≤ 3000 from W3.int ty1 2) (show iv1 a0 2 = ivb1 a0 2 from by rw [pq1]; exact up2_k (ne_ty ty1 ty_qa (by decide))) (fun ri3 ie2 => ?_)
        refine c_lv (lv2 := [(4, .int (iI (k + 1))), (3, .ref qa), (0, .ref a0), (1, .int (iI i)), (2, .int (iI j))]) [0, 1, 2, 3, 4] rfl ?_
        exact ih1  qa (k + 1) _ _ _ _ _ (by omega) Xb1 W3 F2 ty_qa (by omega) hqa hqn (fun bb tbb kk => Eq.trans (show iv1 bb kk = ivb1 bb kk from by rw [pq1]; exact up2_k (ne_in tbb.1 hqn)) (hold bb tbb kk)) (fun ss hs hj q hq => by
            rw [pq1]
            by_cases e : (q : Int) < k
            · rw [up2_j (by omega)]; exact hcs ss hs hj q e
            · rw [show q = k.toNat by omega, up2_s]
              have e1 := gf1.2 ss (CT.fr hs hW t_a0 Fb1 rfl rfl rfl rfl rfl) (by omega) (by omega)
              rw [e1]; exact congrArg ss (by omega))
  refine c_lv (lv2 := [(4, .int (iI 0)), (3, .ref qn1), (0, .ref a0), (1, .int (iI i)), (2, .int (iI j))]) [0, 1, 2, 3, 4] rfl ?_
  exact Lp1 11 qn1 0 _ _ _ _ _ (by omega) X1 W1 F1 tqn1 (by omega) lqn1 h0qn1 (fun bb tbb kk => by exact (show ivn1 bb kk = iv bb kk from (by rw [hin1]; exact congrFun (up0_a (ne_in tbb.1 hqn1)) _))) (fun ss hs hj q hq => absurd hq (by omega))
set_option maxHeartbeats 4000000 in
set_option maxRecDepth 100000 in
theorem C_slice_66 {l : Launch} {G : GT} {mi : Nat} {sk : Nat → Nat} {L : List Nat} {cl ln : Nat → Nat} {iv : Nat → Nat → Int} {rv : Nat → Nat → Option Nat}  {a0 : Nat} {i : Int} {j : Int} (hW : WT (g0 G) sk L cl ln iv rv) (hS : SKL sk L cl) (t_a0 : ty L cl a0 2) (h_i : -2147483648 ≤ i ∧ i ≤ 2147483647) (h_j : -2147483648 ≤ j ∧ j ≤ 2147483647) (hij : 0 ≤ i ∧ i ≤ 3000 ∧ 1 ≤ j - i ∧ j - i ≤ 4) : Mc l G mi (Phi (g0 G) sk) PHM yX1_slice cX1_slice 5 (some (.array .int)) 1 [.ref a0, .int (iI i), .int (iI j)] L cl ln iv rv 20 (fun v L2 cl2 ln2 iv2 rv2 => ∃ f : Nat, v = some (.ref f) ∧ XT L cl ln L2 cl2 ln2 ∧ fT [66] L cl iv rv iv2 rv2 ∧ WT (g0 G) sk L2 cl2 ln2 iv2 rv2 ∧ ty L2 cl2 f 66 ∧ (ln2 f = (j - i).toNat) ∧ (f ∉ L ∧ (∀ bb, ty L cl bb 66 → ∀ k, iv2 bb k = iv bb k) ∧ ∀ ss, CT iv rv a0 ss → j ≤ iv a0 2 → ∀ q : Nat, q < ln2 f → iv2 f q = ss (i.toNat + q))) := by
  refine Mc.mk (by decide) (Nat.le_of_ble_eq_true rfl) ?_
  intro p e s m args below meth c A C hM
  refine hv4 (Phi.le hW hS) (show XT L cl ln L cl ln from XT.refl) (show fT [66] L cl iv rv iv rv from fT.refl) (show 0 ≤ iv a0 2 ∧ iv a0 2 ≤ 3000 from hW.int t_a0 2) (fun hph hX0 hF0 ri1 => ?_)
  refine c_iconst C dX1_slice_0 ?_
  refine c_iload_n (j := 2) C dX1_slice_1 rfl ?_
  refine c_iload_n (j := 1) C dX1_slice_2 rfl ?_
  refine c_isub C dX1_slice_3 ?_
  obtain ⟨mn1, hmn1, emn1⟩ := mmax_c (x := 0) (y := j - i) ⟨by decide, by decide⟩ ⟨by omega, by omega⟩
  refine c_mmax (w := iI mn1) C dX1_slice_4 w2_147 w2_148 w1_14 w2_149 (by decide) (rom0 hph hph (by decide)) (Nat.le_of_ble_eq_true rfl) emn1 ?_
  refine c_newaI (z := mn1) (N := (j - i).toNat) C 66 dX1_slice_7 w1_57 rfl (by omega) (by omega) (rom2 hph hph (by omega)) (fun qn1 cln1 lnn1 ivn1 rvn1 hqn1 hcn1 hln1 hin1 hrn1 => ⟨(0 + (16 + (j - i).toNat)), (p_in (Phi.new hW hS hqn1 (fun b hb => by rw [hln1]; exact va_up_ne _ _ hb) hrn1) (by omega)), ?_⟩)
  refine c_g0 C (fun hg1 => ?_)
  refine hv5 (show ∀ b, b ≠ qn1 → lnn1 b = ln b from (fun b hb => by rw [hln1]; exact va_up_ne _ _ hb)) (show lnn1 qn1 = (j - i).toNat from by rw [hln1]; exact va_up_self _ _ _) (hF0.new hX0 hqn1 hin1 hrn1) (show ty (L ++ [qn1]) cln1 qn1 66 from ty_new hcn1) (show qn1 ∉ L from fun h => hqn1 ((hX0 qn1 h).1)) (fun hxn1 lqn1 F1 tqn1 h0qn1 => ?_)
  refine hv2 (hW.new (ln2 := lnn1) hqn1 (hg1 qn1 (List.mem_append_right _ List.mem_cons_self)) hcn1 hxn1 hin1 hrn1 (fun _ => ⟨(show (-2147483648 : Int) ≤ 0 by decide), (show (0 : Int) ≤ 2147483647 by decide)⟩) (Or.inr (fun _ => rfl)) (fun _ => by show 1 ≤ lnn1 qn1 ∧ lnn1 qn1 ≤ 4; omega) rfl rfl) (XT.new hqn1 hcn1 hxn1) (fun W1 xl1 => ?_)
  refine hv2 (hX0.trans xl1) (xl1.skl hS) (fun X1 sk1 => ?_)
  refine c_astore_n (lv2 := [(3, .ref qn1), (0, .ref a0), (1, .int (iI i)), (2, .int (iI j))]) C dX1_slice_9 (by decide) rfl ?_
  refine c_K (K2 := 20) (by omega) ?_
  refine c_iconst C dX1_slice_10 ?_
  refine c_istore (lv2 := [(4, .int (iI 0)), (3, .ref qn1), (0, .ref a0), (1, .int (iI i)), (2, .int (iI j))]) C dX1_slice_11 (by decide) rfl ?_
  have Lp1 : ∀ (nn : Nat) (qa : Nat) (k : Int) (Lb1 : List Nat) (clb1 lnb1 : Nat → Nat) (ivb1 : Nat → Nat → Int) (rvb1 : Nat → Nat → Option Nat) , 5 - k < (nn : Int) → XT L cl ln Lb1 clb1 lnb1 → WT (g0 G) sk Lb1 clb1 lnb1 ivb1 rvb1 → fT [66] L cl iv rv ivb1 rvb1 → (ty Lb1 clb1 qa 66) → (0 ≤ k ∧ k ≤ 4) → (lnb1 qa = (j - i).toNat) → (qa ∉ L) → (∀ bb, ty L cl bb 66 → ∀ kk, ivb1 bb kk = iv bb kk) → (∀ ss, CT iv rv a0 ss → j ≤ iv a0 2 → ∀ q : Nat, (q : Int) < k → ivb1 qa q = ss (i.toNat + q)) → cw p l e 1 ((PHM) + 20 - ((Phi (g0 G) sk) ln rv)) s m args below meth c G A 5 (MQ below (Qu G A (Qp G (Phi (g0 G) sk) ((Phi (g0 G) sk) ln rv) 20 (fun v L2 cl2 ln2 iv2 rv2 => ∃ f : Nat, v = some (.ref f) ∧ XT L cl ln L2 cl2 ln2 ∧ fT [66] L cl iv rv iv2 rv2 ∧ WT (g0 G) sk L2 cl2 ln2 iv2 rv2 ∧ ty L2 cl2 f 66 ∧ (ln2 f = (j - i).toNat) ∧ (f ∉ L ∧ (∀ bb, ty L cl bb 66 → ∀ k, iv2 bb k = iv bb k) ∧ ∀ ss, CT iv rv a0 ss → j ≤ iv a0 2 → ∀ q : Nat, q < ln2 f → iv2 f q = ss (i.toNat + q))))) args s (((PHM) + 20 - ((Phi (g0 G) sk) ln rv)) / 16) ((PHM) + 20 - ((Phi (g0 G) sk) ln rv)) A) (Phi (g0 G) sk) ((Phi (g0 G) sk) ln rv) Lb1 clb1 lnb1 ivb1 rvb1 20 13 [(4, .int (iI k)), (3, .ref qa), (0, .ref a0), (1, .int (iI i)), (2, .int (iI j))] [] := by
    intro nn
    induction nn with
    | zero =>
      intro qa k Lb1 clb1 lnb1 ivb1 rvb1 hm Xb1 Wb1 Fb1 ty_qa hk hqa hqn hold hcs
      have skb1 := Xb1.skl hS
      exact absurd hm (by omega)
    | succ nn ih1 =>
      intro qa k Lb1 clb1 lnb1 ivb1 rvb1 hm Xb1 Wb1 Fb1 ty_qa hk hqa hqn hold hcs
      have skb1 := Xb1.skl hS
      refine c_iload (j := 0) C dX1_slice_13 rfl ?_
      refine c_aload_n (j := 1) (x := qa) C dX1_slice_15 rfl ?_
      have ll1 : 1 ≤ lnb1 qa ∧ lnb1 qa ≤ 4 := Wb1.len ty_qa rfl
      refine c_alenI C dX1_slice_16 ty_qa rfl ?_
      refine c_icmp_ge (tgt := 38) C (r32_c (lo := 0) (hi := 4) hk.1 hk.2 (by decide) (by decide)) ⟨by omega, by omega⟩ dX1_slice_17 (by decide) (fun c1 => ?_) (fun c1 => ?_)
      · refine c_aload_n (j := 1) (x := qa) C dX1_slice_38 rfl ?_
        have pl1 := Phi.le Wb1 skb1
        exact c_aret (x := some qa) C dX1_slice_39 rfl (Or.inr ⟨_, rfl⟩) (by decide) (rom0 hph pl1 (by decide)) ⟨qa, rfl, Xb1, Fb1, Wb1, ty_qa, (by omega), ⟨hqn, hold, fun ss hs hj q hq => hcs ss hs hj q (by omega)⟩⟩
      · refine c_aload_n (j := 1) (x := qa) C dX1_slice_20 rfl ?_
        refine c_iload (j := 0) C dX1_slice_21 rfl ?_
        refine c_aload_n (j := 2) (x := a0) C dX1_slice_23 rfl ?_
        refine c_iload_n (j := 3) C dX1_slice_24 rfl ?_
        refine c_iload (j := 0) C dX1_slice_25 rfl ?_
        refine c_iadd C dX1_slice_27 ?_
        refine hv3 (Xb1.ty t_a0) (show ivb1 a0 2 = iv a0 2 from Fb1.i t_a0 rfl 2) (Phi.le Wb1 skb1) (fun ty1 ie1 pl2 => ?_)
        have ri2 : 0 ≤ ivb1 a0 2 ∧ ivb1 a0 2 ≤ 3000 := Wb1.int ty1 2
        refine d_callV (As := [.int (iI (i + k))]) (rest := [.int (iI k), .ref qa]) C hM (C_at_2 (a0 := a0) (i := i + k) Wb1 skb1 ty1 (by omega) ) dX1_slice_28 kV_X1_39 rfl ty1 rfl rfl (by decide) ck_2 rfl (Nat.le_of_ble_eq_true rfl) ⟨(Nat.le_of_ble_eq_true rfl), (Nat.le_of_ble_eq_true rfl)⟩ hph pl2 (show 20 + 0 = 20 from rfl) (by decide) (fun rh1 Lh1 clh1 lnh1 ivh1 rvh1 h1 => ?_)
        obtain ⟨f1, rfl, rfl, rfl, rfl, rfl, rfl, rgf1, exf1⟩ := h1
        refine c_st (st2 := [.int (iI f1), .int (iI k), .ref qa]) rfl ?_
        have gf1 : ((0 ≤ (i + k) ∧ (i + k) < ivb1 a0 2) ∨ f1 = 0) ∧ ∀ ss, CT ivb1 rvb1 a0 ss → 0 ≤ (i + k) → (i + k) < ivb1 a0 2 → f1 = ss (i + k).toNat := exf1
        refine c_iast (x := f1) C dX1_slice_31 ty_qa rfl (by omega) (by omega) (by omega) (fun iv1 pq1 => ?_)
        refine hv2 (Wb1.puti pq1 ty_qa (show (-2147483648) ≤ f1 ∧ f1 ≤ 2147483647 by omega) rfl) (Fb1.puti Xb1 pq1 ty_qa rfl) (fun W3 F2 => ?_)
        refine c_iinc (z := k) (j := 0) (lv2 := [(4, .int (iI (k + 1))), (3, .ref qa), (0, .ref a0), (1, .int (iI i)), (2, .int (iI j))]) C dX1_slice_32 rfl (by decide) rfl ?_
        refine c_goto (tgt := 13) C dX1_slice_35 (by decide) ?_
        refine hv2 (show 0 ≤ iv1 a0 2 ∧ iv1 a0 2 ≤ 3000 from W3.int ty1 2) (show iv1 a0 2 = ivb1 a0 2 from by rw [pq1]; exact up2_k (ne_ty ty1 ty_qa (by decide))) (fun ri3 ie2 => ?_)
        refine c_lv (lv2 := [(4, .int (iI (k + 1))), (3, .ref qa), (0, .ref a0), (1, .int (iI i)), (2, .int (iI j))]) [0, 1, 2, 3, 4] rfl ?_
        exact ih1  qa (k + 1) _ _ _ _ _ (by omega) Xb1 W3 F2 ty_qa (by omega) hqa hqn (fun bb tbb kk => Eq.trans (show iv1 bb kk = ivb1 bb kk from by rw [pq1]; exact up2_k (ne_in tbb.1 hqn)) (hold bb tbb kk)) (fun ss hs hj q hq => by
            rw [pq1]
            by_cases e : (q : Int) < k
            · rw [up2_j (by omega)]; exact hcs ss hs hj q e
            · rw [show q = k.toNat by omega, up2_s]
              have e1 := gf1.2 ss (CT.fr hs hW t_a0 Fb1 rfl rfl rfl rfl rfl) (by omega) (by omega)
              rw [e1]; exact congrArg ss (by omega))
  refine c_lv (lv2 := [(4, .int (iI 0)), (3, .ref qn1), (0, .ref a0), (1, .int (iI i)), (2, .int (iI j))]) [0, 1, 2, 3, 4] rfl ?_
  exact Lp1 7 qn1 0 _ _ _ _ _ (by omega) X1 W1 F1 tqn1 (by omega) lqn1 h0qn1 (fun bb tbb kk => by exact (show ivn1 bb kk = iv bb kk from (by rw [hin1]; exact congrFun (up0_a (ne_in tbb.1 hqn1)) _))) (fun ss hs hj q hq => absurd hq (by omega))
end
section
set_option maxHeartbeats 4000000 in
set_option maxRecDepth 100000 in
theorem C_done {l : Launch} {G : GT} {mi : Nat} {sk : Nat → Nat} {L : List Nat} {cl ln : Nat → Nat} {iv : Nat → Nat → Int} {rv : Nat → Nat → Option Nat}  {a0 : Nat} {x : Int} (hW : WT (g0 G) sk L cl ln iv rv) (hS : SKL sk L cl) (t_a0 : ty L cl a0 1) (h_x : -2147483648 ≤ x ∧ x ≤ 2147483647)  : Mc l G mi (Phi (g0 G) sk) PHM yX11_done cX11_done 2 (some .int) 0 [.ref a0, .int (iI x)] L cl ln iv rv 0 (fun v L2 cl2 ln2 iv2 rv2 => ∃ f : Int, v = some (.int (iI f)) ∧ L = L2 ∧ cl = cl2 ∧ ln = ln2 ∧ rv = rv2 ∧ fT [1] L cl iv rv iv2 rv2 ∧ WT (g0 G) sk L2 cl2 ln2 iv2 rv2 ∧ (-2147483648 ≤ f ∧ f ≤ 2147483647) ∧ (f = x) ∧ iv2 a0 11 = iv a0 11 ∧ iv2 a0 12 = iv a0 12 ∧ iv2 a0 13 = iv a0 13 ∧ iv2 a0 14 = iv a0 14 ∧ iv2 a0 15 = iv a0 15 ∧ iv2 a0 16 = iv a0 16) := by
  refine Mc.mk (by decide) (Nat.le_of_ble_eq_true rfl) ?_
  intro p e s m args below meth c A C hM
  refine hv3 (Phi.le hW hS) (show XT L cl ln L cl ln from XT.refl) (show fT [1] L cl iv rv iv rv from fT.refl) (fun hph hX0 hF0 => ?_)
  refine c_aload_n (j := 0) (x := a0) C dX11_done_0 rfl ?_
  refine c_iconst C dX11_done_1 ?_
  refine c_put (z := 0) (k := 17) C ck_12 dX11_done_2 w2_61 (by decide) rfl t_a0 rfl rfl (by decide) rfl (by rfl) (by rfl) (fun iv1 pq1 => ?_)
  refine hv2 (hW.puti pq1 t_a0 ⟨by decide, by decide⟩ rfl) (hF0.puti hX0 pq1 t_a0 rfl) (fun W1 F1 => ?_)
  refine c_aload_n (j := 0) (x := a0) C dX11_done_5 rfl ?_
  refine c_iconst C dX11_done_6 ?_
  refine c_put (z := (-1)) (k := 18) C ck_12 dX11_done_7 w2_62 (by decide) rfl t_a0 rfl rfl (by decide) rfl (by rfl) (by rfl) (fun iv2 pq2 => ?_)
  refine hv2 (W1.puti pq2 t_a0 ⟨by decide, by decide⟩ rfl) (F1.puti hX0 pq2 t_a0 rfl) (fun W2 F2 => ?_)
  refine c_iload_n (j := 1) C dX11_done_10 rfl ?_
  refine hv18 (show 1 ≤ iv2 a0 11 ∧ iv2 a0 11 ≤ 100 from W2.int t_a0 11) (show iv2 a0 11 = iv1 a0 11 from by rw [pq2]; exact up2_j (by decide)) (show iv1 a0 11 = iv a0 11 from by rw [pq1]; exact up2_j (by decide)) (show 1 ≤ iv2 a0 12 ∧ iv2 a0 12 ≤ 50 from W2.int t_a0 12) (show iv2 a0 12 = iv1 a0 12 from by rw [pq2]; exact up2_j (by decide)) (show iv1 a0 12 = iv a0 12 from by rw [pq1]; exact up2_j (by decide)) (show (-2147483648) ≤ iv2 a0 13 ∧ iv2 a0 13 ≤ 2147483647 from W2.int t_a0 13) (show iv2 a0 13 = iv1 a0 13 from by rw [pq2]; exact up2_j (by decide)) (show iv1 a0 13 = iv a0 13 from by rw [pq1]; exact up2_j (by decide)) (show (-2147483648) ≤ iv2 a0 14 ∧ iv2 a0 14 ≤ 2147483647 from W2.int t_a0 14) (show iv2 a0 14 = iv1 a0 14 from by rw [pq2]; exact up2_j (by decide)) (show iv1 a0 14 = iv a0 14 from by rw [pq1]; exact up2_j (by decide)) (show (-2147483648) ≤ iv2 a0 15 ∧ iv2 a0 15 ≤ 2147483647 from W2.int t_a0 15) (show iv2 a0 15 = iv1 a0 15 from by rw [pq2]; exact up2_j (by decide)) (show iv1 a0 15 = iv a0 15 from by rw [pq1]; exact up2_j (by decide)) (show (-2147483648) ≤ iv2 a0 16 ∧ iv2 a0 16 ≤ 2147483647 from W2.int t_a0 16) (show iv2 a0 16 = iv1 a0 16 from by rw [pq2]; exact up2_j (by decide)) (show iv1 a0 16 = iv a0 16 from by rw [pq1]; exact up2_j (by decide)) (fun ri1 ie1 ie2 ri2 ie3 ie4 ri3 ie5 ie6 ri4 ie7 ie8 ri5 ie9 ie10 ri6 ie11 ie12 => ?_)
  exact c_iret C dX11_done_11 rfl (by decide) (rom0 hph hph (by decide)) ⟨x, rfl, rfl, rfl, rfl, rfl, F2, W2, ⟨by omega, by omega⟩, (by omega), (ie1.trans ie2), (ie3.trans ie4), (ie5.trans ie6), (ie7.trans ie8), (ie9.trans ie10), (ie11.trans ie12)⟩
set_option maxHeartbeats 4000000 in
set_option maxRecDepth 100000 in
theorem C_refuse {l : Launch} {G : GT} {mi : Nat} {sk : Nat → Nat} {L : List Nat} {cl ln : Nat → Nat} {iv : Nat → Nat → Int} {rv : Nat → Nat → Option Nat}  {a0 : Nat} {x : Int} (hW : WT (g0 G) sk L cl ln iv rv) (hS : SKL sk L cl) (t_a0 : ty L cl a0 1) (h_x : -2147483648 ≤ x ∧ x ≤ 2147483647)  : Mc l G mi (Phi (g0 G) sk) PHM yX11_refuse cX11_refuse 2 (some .int) 0 [.ref a0, .int (iI x)] L cl ln iv rv 0 (fun v L2 cl2 ln2 iv2 rv2 => ∃ f : Int, v = some (.int (iI f)) ∧ L = L2 ∧ cl = cl2 ∧ ln = ln2 ∧ rv = rv2 ∧ fT [1] L cl iv rv iv2 rv2 ∧ WT (g0 G) sk L2 cl2 ln2 iv2 rv2 ∧ (-2147483648 ≤ f ∧ f ≤ 2147483647) ∧ (f = -1) ∧ iv2 a0 11 = iv a0 11 ∧ iv2 a0 12 = iv a0 12 ∧ iv2 a0 13 = iv a0 13 ∧ iv2 a0 14 = iv a0 14 ∧ iv2 a0 15 = iv a0 15 ∧ iv2 a0 16 = iv a0 16) := by
  refine Mc.mk (by decide) (Nat.le_of_ble_eq_true rfl) ?_
  intro p e s m args below meth c A C hM
  refine hv3 (Phi.le hW hS) (show XT L cl ln L cl ln from XT.refl) (show fT [1] L cl iv rv iv rv from fT.refl) (fun hph hX0 hF0 => ?_)
  refine c_aload_n (j := 0) (x := a0) C dX11_refuse_0 rfl ?_
  refine c_iload_n (j := 1) C dX11_refuse_1 rfl ?_
  refine c_put (z := x) (k := 17) C ck_12 dX11_refuse_2 w2_61 (by decide) rfl t_a0 rfl rfl (by decide) rfl (by rfl) (by rfl) (fun iv1 pq1 => ?_)
  refine hv2 (hW.puti pq1 t_a0 (show (-2147483648) ≤ x ∧ x ≤ 2147483647 by omega) rfl) (hF0.puti hX0 pq1 t_a0 rfl) (fun W1 F1 => ?_)
  refine c_aload_n (j := 0) (x := a0) C dX11_refuse_5 rfl ?_
  refine c_iconst C dX11_refuse_6 ?_
  refine c_put (z := (-1)) (k := 18) C ck_12 dX11_refuse_7 w2_62 (by decide) rfl t_a0 rfl rfl (by decide) rfl (by rfl) (by rfl) (fun iv2 pq2 => ?_)
  refine hv2 (W1.puti pq2 t_a0 ⟨by decide, by decide⟩ rfl) (F1.puti hX0 pq2 t_a0 rfl) (fun W2 F2 => ?_)
  refine c_iconst C dX11_refuse_10 ?_
  refine hv18 (show 1 ≤ iv2 a0 11 ∧ iv2 a0 11 ≤ 100 from W2.int t_a0 11) (show iv2 a0 11 = iv1 a0 11 from by rw [pq2]; exact up2_j (by decide)) (show iv1 a0 11 = iv a0 11 from by rw [pq1]; exact up2_j (by decide)) (show 1 ≤ iv2 a0 12 ∧ iv2 a0 12 ≤ 50 from W2.int t_a0 12) (show iv2 a0 12 = iv1 a0 12 from by rw [pq2]; exact up2_j (by decide)) (show iv1 a0 12 = iv a0 12 from by rw [pq1]; exact up2_j (by decide)) (show (-2147483648) ≤ iv2 a0 13 ∧ iv2 a0 13 ≤ 2147483647 from W2.int t_a0 13) (show iv2 a0 13 = iv1 a0 13 from by rw [pq2]; exact up2_j (by decide)) (show iv1 a0 13 = iv a0 13 from by rw [pq1]; exact up2_j (by decide)) (show (-2147483648) ≤ iv2 a0 14 ∧ iv2 a0 14 ≤ 2147483647 from W2.int t_a0 14) (show iv2 a0 14 = iv1 a0 14 from by rw [pq2]; exact up2_j (by decide)) (show iv1 a0 14 = iv a0 14 from by rw [pq1]; exact up2_j (by decide)) (show (-2147483648) ≤ iv2 a0 15 ∧ iv2 a0 15 ≤ 2147483647 from W2.int t_a0 15) (show iv2 a0 15 = iv1 a0 15 from by rw [pq2]; exact up2_j (by decide)) (show iv1 a0 15 = iv a0 15 from by rw [pq1]; exact up2_j (by decide)) (show (-2147483648) ≤ iv2 a0 16 ∧ iv2 a0 16 ≤ 2147483647 from W2.int t_a0 16) (show iv2 a0 16 = iv1 a0 16 from by rw [pq2]; exact up2_j (by decide)) (show iv1 a0 16 = iv a0 16 from by rw [pq1]; exact up2_j (by decide)) (fun ri1 ie1 ie2 ri2 ie3 ie4 ri3 ie5 ie6 ri4 ie7 ie8 ri5 ie9 ie10 ri6 ie11 ie12 => ?_)
  exact c_iret C dX11_refuse_11 rfl (by decide) (rom0 hph hph (by decide)) ⟨(-1), rfl, rfl, rfl, rfl, rfl, F2, W2, ⟨by decide, by decide⟩, (by omega), (ie1.trans ie2), (ie3.trans ie4), (ie5.trans ie6), (ie7.trans ie8), (ie9.trans ie10), (ie11.trans ie12)⟩
set_option maxHeartbeats 4000000 in
set_option maxRecDepth 100000 in
theorem C_refuseAt {l : Launch} {G : GT} {mi : Nat} {sk : Nat → Nat} {L : List Nat} {cl ln : Nat → Nat} {iv : Nat → Nat → Int} {rv : Nat → Nat → Option Nat}  {a0 : Nat} {x : Int} {y : Int} (hW : WT (g0 G) sk L cl ln iv rv) (hS : SKL sk L cl) (t_a0 : ty L cl a0 1) (h_x : -2147483648 ≤ x ∧ x ≤ 2147483647) (h_y : -2147483648 ≤ y ∧ y ≤ 2147483647)  : Mc l G mi (Phi (g0 G) sk) PHM yX11_refuseAt cX11_refuseAt 3 (some .int) 0 [.ref a0, .int (iI x), .int (iI y)] L cl ln iv rv 0 (fun v L2 cl2 ln2 iv2 rv2 => ∃ f : Int, v = some (.int (iI f)) ∧ L = L2 ∧ cl = cl2 ∧ ln = ln2 ∧ rv = rv2 ∧ fT [1] L cl iv rv iv2 rv2 ∧ WT (g0 G) sk L2 cl2 ln2 iv2 rv2 ∧ (-2147483648 ≤ f ∧ f ≤ 2147483647) ∧ (f = -1) ∧ iv2 a0 11 = iv a0 11 ∧ iv2 a0 12 = iv a0 12 ∧ iv2 a0 13 = iv a0 13 ∧ iv2 a0 14 = iv a0 14 ∧ iv2 a0 15 = iv a0 15 ∧ iv2 a0 16 = iv a0 16) := by
  refine Mc.mk (by decide) (Nat.le_of_ble_eq_true rfl) ?_
  intro p e s m args below meth c A C hM
  refine hv3 (Phi.le hW hS) (show XT L cl ln L cl ln from XT.refl) (show fT [1] L cl iv rv iv rv from fT.refl) (fun hph hX0 hF0 => ?_)
  refine c_aload_n (j := 0) (x := a0) C dX11_refuseAt_0 rfl ?_
  refine c_iload_n (j := 1) C dX11_refuseAt_1 rfl ?_
  refine c_put (z := x) (k := 17) C ck_12 dX11_refuseAt_2 w2_61 (by decide) rfl t_a0 rfl rfl (by decide) rfl (by rfl) (by rfl) (fun iv1 pq1 => ?_)
  refine hv2 (hW.puti pq1 t_a0 (show (-2147483648) ≤ x ∧ x ≤ 2147483647 by omega) rfl) (hF0.puti hX0 pq1 t_a0 rfl) (fun W1 F1 => ?_)
  refine c_aload_n (j := 0) (x := a0) C dX11_refuseAt_5 rfl ?_
  refine c_iload_n (j := 1) C dX11_refuseAt_6 rfl ?_
  refine c_bipush (z := 7) C dX11_refuseAt_7 (by decide) ?_
  refine c_icmp_eq (tgt := 18) C ⟨by omega, by omega⟩ ⟨by decide, by decide⟩ dX11_refuseAt_9 (by decide) (fun c1 => ?_) (fun c1 => ?_)
  · refine c_iload_n (j := 2) C dX11_refuseAt_18 rfl ?_
    refine c_goto (tgt := 23) C dX11_refuseAt_19 (by decide) ?_
    refine c_put (z := y) (k := 18) C ck_12 dX11_refuseAt_23 w2_62 (by decide) rfl t_a0 rfl rfl (by decide) rfl (by rfl) (by rfl) (fun iv2 pq2 => ?_)
    refine hv2 (W1.puti pq2 t_a0 (show (-2147483648) ≤ y ∧ y ≤ 2147483647 by omega) rfl) (F1.puti hX0 pq2 t_a0 rfl) (fun W2 F2 => ?_)
    refine c_iconst C dX11_refuseAt_26 ?_
    refine hv18 (show 1 ≤ iv2 a0 11 ∧ iv2 a0 11 ≤ 100 from W2.int t_a0 11) (show iv2 a0 11 = iv1 a0 11 from by rw [pq2]; exact up2_j (by decide)) (show iv1 a0 11 = iv a0 11 from by rw [pq1]; exact up2_j (by decide)) (show 1 ≤ iv2 a0 12 ∧ iv2 a0 12 ≤ 50 from W2.int t_a0 12) (show iv2 a0 12 = iv1 a0 12 from by rw [pq2]; exact up2_j (by decide)) (show iv1 a0 12 = iv a0 12 from by rw [pq1]; exact up2_j (by decide)) (show (-2147483648) ≤ iv2 a0 13 ∧ iv2 a0 13 ≤ 2147483647 from W2.int t_a0 13) (show iv2 a0 13 = iv1 a0 13 from by rw [pq2]; exact up2_j (by decide)) (show iv1 a0 13 = iv a0 13 from by rw [pq1]; exact up2_j (by decide)) (show (-2147483648) ≤ iv2 a0 14 ∧ iv2 a0 14 ≤ 2147483647 from W2.int t_a0 14) (show iv2 a0 14 = iv1 a0 14 from by rw [pq2]; exact up2_j (by decide)) (show iv1 a0 14 = iv a0 14 from by rw [pq1]; exact up2_j (by decide)) (show (-2147483648) ≤ iv2 a0 15 ∧ iv2 a0 15 ≤ 2147483647 from W2.int t_a0 15) (show iv2 a0 15 = iv1 a0 15 from by rw [pq2]; exact up2_j (by decide)) (show iv1 a0 15 = iv a0 15 from by rw [pq1]; exact up2_j (by decide)) (show (-2147483648) ≤ iv2 a0 16 ∧ iv2 a0 16 ≤ 2147483647 from W2.int t_a0 16) (show iv2 a0 16 = iv1 a0 16 from by rw [pq2]; exact up2_j (by decide)) (show iv1 a0 16 = iv a0 16 from by rw [pq1]; exact up2_j (by decide)) (fun ri1 ie1 ie2 ri2 ie3 ie4 ri3 ie5 ie6 ri4 ie7 ie8 ri5 ie9 ie10 ri6 ie11 ie12 => ?_)
    exact c_iret C dX11_refuseAt_27 rfl (by decide) (rom0 hph hph (by decide)) ⟨(-1), rfl, rfl, rfl, rfl, rfl, F2, W2, ⟨by decide, by decide⟩, (by omega), (ie1.trans ie2), (ie3.trans ie4), (ie5.trans ie6), (ie7.trans ie8), (ie9.trans ie10), (ie11.trans ie12)⟩
  · refine c_iload_n (j := 1) C dX11_refuseAt_12 rfl ?_
    refine c_bipush (z := 9) C dX11_refuseAt_13 (by decide) ?_
    refine c_icmp_ne (tgt := 22) C ⟨by omega, by omega⟩ ⟨by decide, by decide⟩ dX11_refuseAt_15 (by decide) (fun c2 => ?_) (fun c2 => ?_)
    · refine c_iconst C dX11_refuseAt_22 ?_
      refine c_put (z := (-1)) (k := 18) C ck_12 dX11_refuseAt_23 w2_62 (by decide) rfl t_a0 rfl rfl (by decide) rfl (by rfl) (by rfl) (fun iv3 pq3 => ?_)
      refine hv2 (W1.puti pq3 t_a0 ⟨by decide, by decide⟩ rfl) (F1.puti hX0 pq3 t_a0 rfl) (fun W3 F3 => ?_)
      refine c_iconst C dX11_refuseAt_26 ?_
      refine hv18 (show 1 ≤ iv3 a0 11 ∧ iv3 a0 11 ≤ 100 from W3.int t_a0 11) (show iv3 a0 11 = iv1 a0 11 from by rw [pq3]; exact up2_j (by decide)) (show iv1 a0 11 = iv a0 11 from by rw [pq1]; exact up2_j (by decide)) (show 1 ≤ iv3 a0 12 ∧ iv3 a0 12 ≤ 50 from W3.int t_a0 12) (show iv3 a0 12 = iv1 a0 12 from by rw [pq3]; exact up2_j (by decide)) (show iv1 a0 12 = iv a0 12 from by rw [pq1]; exact up2_j (by decide)) (show (-2147483648) ≤ iv3 a0 13 ∧ iv3 a0 13 ≤ 2147483647 from W3.int t_a0 13) (show iv3 a0 13 = iv1 a0 13 from by rw [pq3]; exact up2_j (by decide)) (show iv1 a0 13 = iv a0 13 from by rw [pq1]; exact up2_j (by decide)) (show (-2147483648) ≤ iv3 a0 14 ∧ iv3 a0 14 ≤ 2147483647 from W3.int t_a0 14) (show iv3 a0 14 = iv1 a0 14 from by rw [pq3]; exact up2_j (by decide)) (show iv1 a0 14 = iv a0 14 from by rw [pq1]; exact up2_j (by decide)) (show (-2147483648) ≤ iv3 a0 15 ∧ iv3 a0 15 ≤ 2147483647 from W3.int t_a0 15) (show iv3 a0 15 = iv1 a0 15 from by rw [pq3]; exact up2_j (by decide)) (show iv1 a0 15 = iv a0 15 from by rw [pq1]; exact up2_j (by decide)) (show (-2147483648) ≤ iv3 a0 16 ∧ iv3 a0 16 ≤ 2147483647 from W3.int t_a0 16) (show iv3 a0 16 = iv1 a0 16 from by rw [pq3]; exact up2_j (by decide)) (show iv1 a0 16 = iv a0 16 from by rw [pq1]; exact up2_j (by decide)) (fun ri7 ie13 ie14 ri8 ie15 ie16 ri9 ie17 ie18 ri10 ie19 ie20 ri11 ie21 ie22 ri12 ie23 ie24 => ?_)
      exact c_iret C dX11_refuseAt_27 rfl (by decide) (rom0 hph hph (by decide)) ⟨(-1), rfl, rfl, rfl, rfl, rfl, F3, W3, ⟨by decide, by decide⟩, (by omega), (ie13.trans ie14), (ie15.trans ie16), (ie17.trans ie18), (ie19.trans ie20), (ie21.trans ie22), (ie23.trans ie24)⟩
    · refine c_iload_n (j := 2) C dX11_refuseAt_18 rfl ?_
      refine c_goto (tgt := 23) C dX11_refuseAt_19 (by decide) ?_
      refine c_put (z := y) (k := 18) C ck_12 dX11_refuseAt_23 w2_62 (by decide) rfl t_a0 rfl rfl (by decide) rfl (by rfl) (by rfl) (fun iv4 pq4 => ?_)
      refine hv2 (W1.puti pq4 t_a0 (show (-2147483648) ≤ y ∧ y ≤ 2147483647 by omega) rfl) (F1.puti hX0 pq4 t_a0 rfl) (fun W4 F4 => ?_)
      refine c_iconst C dX11_refuseAt_26 ?_
      refine hv18 (show 1 ≤ iv4 a0 11 ∧ iv4 a0 11 ≤ 100 from W4.int t_a0 11) (show iv4 a0 11 = iv1 a0 11 from by rw [pq4]; exact up2_j (by decide)) (show iv1 a0 11 = iv a0 11 from by rw [pq1]; exact up2_j (by decide)) (show 1 ≤ iv4 a0 12 ∧ iv4 a0 12 ≤ 50 from W4.int t_a0 12) (show iv4 a0 12 = iv1 a0 12 from by rw [pq4]; exact up2_j (by decide)) (show iv1 a0 12 = iv a0 12 from by rw [pq1]; exact up2_j (by decide)) (show (-2147483648) ≤ iv4 a0 13 ∧ iv4 a0 13 ≤ 2147483647 from W4.int t_a0 13) (show iv4 a0 13 = iv1 a0 13 from by rw [pq4]; exact up2_j (by decide)) (show iv1 a0 13 = iv a0 13 from by rw [pq1]; exact up2_j (by decide)) (show (-2147483648) ≤ iv4 a0 14 ∧ iv4 a0 14 ≤ 2147483647 from W4.int t_a0 14) (show iv4 a0 14 = iv1 a0 14 from by rw [pq4]; exact up2_j (by decide)) (show iv1 a0 14 = iv a0 14 from by rw [pq1]; exact up2_j (by decide)) (show (-2147483648) ≤ iv4 a0 15 ∧ iv4 a0 15 ≤ 2147483647 from W4.int t_a0 15) (show iv4 a0 15 = iv1 a0 15 from by rw [pq4]; exact up2_j (by decide)) (show iv1 a0 15 = iv a0 15 from by rw [pq1]; exact up2_j (by decide)) (show (-2147483648) ≤ iv4 a0 16 ∧ iv4 a0 16 ≤ 2147483647 from W4.int t_a0 16) (show iv4 a0 16 = iv1 a0 16 from by rw [pq4]; exact up2_j (by decide)) (show iv1 a0 16 = iv a0 16 from by rw [pq1]; exact up2_j (by decide)) (fun ri13 ie25 ie26 ri14 ie27 ie28 ri15 ie29 ie30 ri16 ie31 ie32 ri17 ie33 ie34 ri18 ie35 ie36 => ?_)
      exact c_iret C dX11_refuseAt_27 rfl (by decide) (rom0 hph hph (by decide)) ⟨(-1), rfl, rfl, rfl, rfl, rfl, F4, W4, ⟨by decide, by decide⟩, (by omega), (ie25.trans ie26), (ie27.trans ie28), (ie29.trans ie30), (ie31.trans ie32), (ie33.trans ie34), (ie35.trans ie36)⟩
set_option maxHeartbeats 4000000 in
set_option maxRecDepth 100000 in
theorem C_feedFour {l : Launch} {G : GT} {mi : Nat} {sk : Nat → Nat} {L : List Nat} {cl ln : Nat → Nat} {iv : Nat → Nat → Int} {rv : Nat → Nat → Option Nat}  {a0 : Nat} {x : Int} (hW : WT (g0 G) sk L cl ln iv rv) (hS : SKL sk L cl) (t_a0 : ty L cl a0 1) (h_x : -2147483648 ≤ x ∧ x ≤ 2147483647) (hsz : iv (sk 2) 2 + 4 ≤ 3000) : Mc l G mi (Phi (g0 G) sk) PHM yX11_feedFour cX11_feedFour 3 none 3 [.ref a0, .int (iI x)] L cl ln iv rv 0 (fun v L2 cl2 ln2 iv2 rv2 => v = none ∧ XT L cl ln L2 cl2 ln2 ∧ fT [2, 32] L cl iv rv iv2 rv2 ∧ WT (g0 G) sk L2 cl2 ln2 iv2 rv2 ∧ (iv2 (sk 2) 2 = iv (sk 2) 2 + 4 ∧ ∀ ss, CT iv rv (sk 2) ss → CT iv2 rv2 (sk 2) (fdp ss (iv (sk 2) 2).toNat x 4))) := by
  refine Mc.mk (by decide) (Nat.le_of_ble_eq_true rfl) ?_
  intro p e s m args below meth c A C hM
  refine hv14 (Phi.le hW hS) (show ty L cl (sk 2) 2 from ⟨(hS 2 rfl).1, by rw [(hS 2 rfl).2]; rfl⟩) (show ty L cl (sk 3) 3 from ⟨(hS 3 rfl).1, by rw [(hS 3 rfl).2]; rfl⟩) (show ty L cl (sk 4) 4 from ⟨(hS 4 rfl).1, by rw [(hS 4 rfl).2]; rfl⟩) (show ty L cl (sk 5) 5 from ⟨(hS 5 rfl).1, by rw [(hS 5 rfl).2]; rfl⟩) (show ty L cl (sk 13) 13 from ⟨(hS 13 rfl).1, by rw [(hS 13 rfl).2]; rfl⟩) (show ty L cl (sk 14) 14 from ⟨(hS 14 rfl).1, by rw [(hS 14 rfl).2]; rfl⟩) (show ty L cl (sk 15) 15 from ⟨(hS 15 rfl).1, by rw [(hS 15 rfl).2]; rfl⟩) (show ty L cl (sk 16) 16 from ⟨(hS 16 rfl).1, by rw [(hS 16 rfl).2]; rfl⟩) (show ty L cl (sk 17) 17 from ⟨(hS 17 rfl).1, by rw [(hS 17 rfl).2]; rfl⟩) (show ty L cl (sk 22) 22 from ⟨(hS 22 rfl).1, by rw [(hS 22 rfl).2]; rfl⟩) (show ty L cl (sk 23) 23 from ⟨(hS 23 rfl).1, by rw [(hS 23 rfl).2]; rfl⟩) (show XT L cl ln L cl ln from XT.refl) (show fT [2, 32] L cl iv rv iv rv from fT.refl) (fun hph tsk2 tsk3 tsk4 tsk5 tsk13 tsk14 tsk15 tsk16 tsk17 tsk22 tsk23 hX0 hF0 => ?_)
  have ri1 : 0 ≤ iv (sk 2) 2 ∧ iv (sk 2) 2 ≤ 3000 := hW.int tsk2 2
  refine c_bipush (z := 24) C dX11_feedFour_0 (by decide) ?_
  refine c_istore_n (lv2 := [(2, .int (iI 24)), (0, .ref a0), (1, .int (iI x))]) C dX11_feedFour_2 (by decide) rfl ?_
  have Lp1 : ∀ (nn : Nat) (k : Int) (Lb1 : List Nat) (clb1 lnb1 : Nat → Nat) (ivb1 : Nat → Nat → Int) (rvb1 : Nat → Nat → Option Nat) , k + 9 < (nn : Int) → XT L cl ln Lb1 clb1 lnb1 → WT (g0 G) sk Lb1 clb1 lnb1 ivb1 rvb1 → fT [2, 32] L cl iv rv ivb1 rvb1 → (-8 ≤ k ∧ k ≤ 24) → (8 * ivb1 (sk 2) 2 = 8 * iv (sk 2) 2 + 24 - k) → (∀ ss, CT iv rv (sk 2) ss → CT ivb1 rvb1 (sk 2) (fdp ss (iv (sk 2) 2).toNat x (ivb1 (sk 2) 2 - iv (sk 2) 2).toNat)) → cw p l e 3 ((PHM) + 0 - ((Phi (g0 G) sk) ln rv)) s m args below meth c G A 3 (MQ below (Qu G A (Qp G (Phi (g0 G) sk) ((Phi (g0 G) sk) ln rv) 0 (fun v L2 cl2 ln2 iv2 rv2 => v = none ∧ XT L cl ln L2 cl2 ln2 ∧ fT [2, 32] L cl iv rv iv2 rv2 ∧ WT (g0 G) sk L2 cl2 ln2 iv2 rv2 ∧ (iv2 (sk 2) 2 = iv (sk 2) 2 + 4 ∧ ∀ ss, CT iv rv (sk 2) ss → CT iv2 rv2 (sk 2) (fdp ss (iv (sk 2) 2).toNat x 4))))) args s (((PHM) + 0 - ((Phi (g0 G) sk) ln rv)) / 16) ((PHM) + 0 - ((Phi (g0 G) sk) ln rv)) A) (Phi (g0 G) sk) ((Phi (g0 G) sk) ln rv) Lb1 clb1 lnb1 ivb1 rvb1 0 3 [(2, .int (iI k)), (0, .ref a0), (1, .int (iI x))] [] := by
    intro nn
    induction nn with
    | zero =>
      intro  k Lb1 clb1 lnb1 ivb1 rvb1 hm Xb1 Wb1 Fb1  hk hz hct
      have skb1 := Xb1.skl hS
      exact absurd hm (by omega)
    | succ nn ih1 =>
      intro  k Lb1 clb1 lnb1 ivb1 rvb1 hm Xb1 Wb1 Fb1  hk hz hct
      have skb1 := Xb1.skl hS
      refine c_iload_n (j := 0) C dX11_feedFour_3 rfl ?_
      refine c_if_lt (tgt := 27) C (r32_c (lo := (-8)) (hi := 24) hk.1 hk.2 (by decide) (by decide)) dX11_feedFour_4 (by decide) (fun c1 => ?_) (fun c1 => ?_)
      · have ty1 := Xb1.ty tsk2
        refine hv2 (show 0 ≤ ivb1 (sk 2) 2 ∧ ivb1 (sk 2) 2 ≤ 3000 from Wb1.int ty1 2) (Phi.le Wb1 skb1) (fun ri2 pl1 => ?_)
        exact c_vret C dX11_feedFour_27 rfl (by decide) (rom0 hph pl1 (by decide)) ⟨rfl, Xb1, Fb1, Wb1, ⟨by omega, fun ss hs => by have q := hct ss hs; rw [show (ivb1 (sk 2) 2 - iv (sk 2) 2).toNat = 4 by omega] at q; exact q⟩⟩
      · refine c_aload_n (j := 1) (x := a0) C dX11_feedFour_7 rfl ?_
        have ty2 := Xb1.ty t_a0
        obtain ⟨rb1, rq1, trb1⟩ := Wb1.ref ty2 0 rfl rfl rfl
        have erb1 := Wb1.sk trb1 (by decide) rfl
        subst erb1
        refine c_getr (k := 0) C ck_12 dX11_feedFour_8 w2_44 (by decide) ty2 rfl rfl (by decide) rfl rq1 ?_
        refine c_st (st2 := [.ref (sk 2)]) rfl ?_
        refine c_iload_n (j := 2) C dX11_feedFour_11 rfl ?_
        refine c_iload_n (j := 0) C dX11_feedFour_12 rfl ?_
        obtain ⟨zz1, hzz1, ezz1⟩ := iI_of (((iI x).toUInt32 >>> ((iI k).toUInt32 &&& Int32.toUInt32 31)).toInt32)
        refine c_iushr (w := iI zz1) C dX11_feedFour_13 ezz1 ?_
        refine c_sipush (z := 255) C dX11_feedFour_14 (by decide) ?_
        obtain ⟨zz2, hzz2, ezz2⟩ := iI_of (iI zz1 &&& iI 255)
        refine c_iand (w := iI zz2) C dX11_feedFour_17 ezz2 ?_
        refine hv2 (Xb1.ty tsk2) (Phi.le Wb1 skb1) (fun ty3 pl2 => ?_)
        have ri3 : 0 ≤ ivb1 (sk 2) 2 ∧ ivb1 (sk 2) 2 ≤ 3000 := Wb1.int ty3 2
        refine d_callV (As := [.int (iI zz2)]) (rest := []) C hM (C_add_2 (a0 := (sk 2)) (x := zz2) Wb1 skb1 ty3 (by omega) ) dX11_feedFour_18 kV_X11_112 rfl ty3 rfl rfl (by decide) ck_2 rfl (Nat.le_of_ble_eq_true rfl) ⟨(Nat.le_of_ble_eq_true rfl), (Nat.le_of_ble_eq_true rfl)⟩ hph pl2 (show 0 + 0 = 0 from rfl) (by decide) (fun rh1 Lh1 clh1 lnh1 ivh1 rvh1 h1 => ?_)
        obtain ⟨rfl, xl1, fl1, W1, exf1⟩ := h1
        refine hv13 (Fb1.call Xb1 fl1 rfl) (Xb1.ty tsk3) (Xb1.ty tsk4) (Xb1.ty tsk5) (Xb1.ty tsk13) (Xb1.ty tsk14) (Xb1.ty tsk15) (Xb1.ty tsk16) (Xb1.ty tsk17) (Xb1.ty tsk22) (Xb1.ty tsk23) (Xb1.trans xl1) (xl1.skl skb1) (fun F1 ty4 ty5 ty6 ty7 ty8 ty9 ty10 ty11 ty12 ty13 X1 sk1 => ?_)
        refine c_st (st2 := []) rfl ?_
        refine hv2 (xl1.ty ty3) (show ((ivh1 (sk 2) 2 = ivb1 (sk 2) 2 ∧ ivb1 (sk 2) 2 = 3000) ∨ (ivh1 (sk 2) 2 = ivb1 (sk 2) 2 + 1 ∧ ivb1 (sk 2) 2 < 3000)) ∧ ∀ ss, CT ivb1 rvb1 (sk 2) ss → ivb1 (sk 2) 2 < 3000 → CT ivh1 rvh1 (sk 2) (va_up ss (ivb1 (sk 2) 2).toNat zz2) from exf1) (fun ty14 gf1 => ?_)
        have ri4 : 0 ≤ ivh1 (sk 2) 2 ∧ ivh1 (sk 2) 2 ≤ 3000 := W1.int ty14 2
        refine c_iinc (z := k) (j := 0) (lv2 := [(2, .int (iI (k + (-8)))), (0, .ref a0), (1, .int (iI x))]) C dX11_feedFour_21 rfl (by decide) rfl ?_
        refine c_goto (tgt := 3) C dX11_feedFour_24 (by decide) ?_
        refine c_lv (lv2 := [(2, .int (iI (k + (-8)))), (0, .ref a0), (1, .int (iI x))]) [0, 1, 2] rfl ?_
        exact ih1  (k + (-8)) _ _ _ _ _ (by omega) X1 W1 F1  (by omega) (by show 8 * ivh1 (sk 2) 2 = 8 * iv (sk 2) 2 + 24 - (k + (-8)); omega) (fun ss hs => fdp_step (gf1.2 _ (hct ss hs) (by omega)) (by omega) (by omega) (byx_of (by omega) ezz1 ezz2 hzz2))
  refine c_lv (lv2 := [(2, .int (iI 24)), (0, .ref a0), (1, .int (iI x))]) [0, 1, 2] rfl ?_
  exact Lp1 35 24 _ _ _ _ _ (by omega) hX0 hW hF0  (by omega) (by show 8 * iv (sk 2) 2 = 8 * iv (sk 2) 2 + 24 - 24; omega) (fun ss hs => by rw [show (iv (sk 2) 2 - iv (sk 2) 2).toNat = 0 by omega]; exact hs)
set_option maxHeartbeats 4000000 in
set_option maxRecDepth 100000 in
theorem C_feed {l : Launch} {G : GT} {mi : Nat} {sk : Nat → Nat} {L : List Nat} {cl ln : Nat → Nat} {iv : Nat → Nat → Int} {rv : Nat → Nat → Option Nat}  {a0 : Nat} {x1 : Int} {x2 : Int} {x3 : Int} {x4 : Int} {x5 : Int} (hW : WT (g0 G) sk L cl ln iv rv) (hS : SKL sk L cl) (t_a0 : ty L cl a0 1) (h_x1 : -2147483648 ≤ x1 ∧ x1 ≤ 2147483647) (h_x2 : -2147483648 ≤ x2 ∧ x2 ≤ 2147483647) (h_x3 : -2147483648 ≤ x3 ∧ x3 ≤ 2147483647) (h_x4 : -2147483648 ≤ x4 ∧ x4 ≤ 2147483647) (h_x5 : -2147483648 ≤ x5 ∧ x5 ≤ 2147483647)  : Mc l G mi (Phi (g0 G) sk) PHM yX11_feed cX11_feed 6 (some .int) 4 [.ref a0, .int (iI x1), .int (iI x2), .int (iI x3), .int (iI x4), .int (iI x5)] L cl ln iv rv 0 (fun v L2 cl2 ln2 iv2 rv2 => ∃ f : Int, v = some (.int (iI f)) ∧ XT L cl ln L2 cl2 ln2 ∧ fT [1, 2, 32] L cl iv rv iv2 rv2 ∧ WT (g0 G) sk L2 cl2 ln2 iv2 rv2 ∧ (-2147483648 ≤ f ∧ f ≤ 2147483647) ∧ (((f = -1 ∧ 3000 < iv (sk 2) 2 + 20 ∧ iv2 (sk 2) 2 = iv (sk 2) 2) ∨ (f = iv2 (sk 2) 2 ∧ iv2 (sk 2) 2 = iv (sk 2) 2 + 20)) ∧ ∀ ss, CT iv rv (sk 2) ss → (iv (sk 2) 2 ≤ 2980 → CT iv2 rv2 (sk 2) (fd5 ss (iv (sk 2) 2).toNat x1 x2 x3 x4 x5)) ∧ (2980 < iv (sk 2) 2 → CT iv2 rv2 (sk 2) ss)) ∧ iv2 a0 11 = iv a0 11 ∧ iv2 a0 12 = iv a0 12 ∧ iv2 a0 13 = iv a0 13 ∧ iv2 a0 14 = iv a0 14 ∧ iv2 a0 15 = iv a0 15 ∧ iv2 a0 16 = iv a0 16 ∧ rv2 a0 9 = rv a0 9 ∧ rv2 a0 10 = rv a0 10) := by
  refine Mc.mk (by decide) (Nat.le_of_ble_eq_true rfl) ?_
  intro p e s m args below meth c A C hM
  refine hv14 (Phi.le hW hS) (show ty L cl (sk 2) 2 from ⟨(hS 2 rfl).1, by rw [(hS 2 rfl).2]; rfl⟩) (show ty L cl (sk 3) 3 from ⟨(hS 3 rfl).1, by rw [(hS 3 rfl).2]; rfl⟩) (show ty L cl (sk 4) 4 from ⟨(hS 4 rfl).1, by rw [(hS 4 rfl).2]; rfl⟩) (show ty L cl (sk 5) 5 from ⟨(hS 5 rfl).1, by rw [(hS 5 rfl).2]; rfl⟩) (show ty L cl (sk 13) 13 from ⟨(hS 13 rfl).1, by rw [(hS 13 rfl).2]; rfl⟩) (show ty L cl (sk 14) 14 from ⟨(hS 14 rfl).1, by rw [(hS 14 rfl).2]; rfl⟩) (show ty L cl (sk 15) 15 from ⟨(hS 15 rfl).1, by rw [(hS 15 rfl).2]; rfl⟩) (show ty L cl (sk 16) 16 from ⟨(hS 16 rfl).1, by rw [(hS 16 rfl).2]; rfl⟩) (show ty L cl (sk 17) 17 from ⟨(hS 17 rfl).1, by rw [(hS 17 rfl).2]; rfl⟩) (show ty L cl (sk 22) 22 from ⟨(hS 22 rfl).1, by rw [(hS 22 rfl).2]; rfl⟩) (show ty L cl (sk 23) 23 from ⟨(hS 23 rfl).1, by rw [(hS 23 rfl).2]; rfl⟩) (show XT L cl ln L cl ln from XT.refl) (show fT [1, 2, 32] L cl iv rv iv rv from fT.refl) (fun hph tsk2 tsk3 tsk4 tsk5 tsk13 tsk14 tsk15 tsk16 tsk17 tsk22 tsk23 hX0 hF0 => ?_)
  have ri1 : 0 ≤ iv (sk 2) 2 ∧ iv (sk 2) 2 ≤ 3000 := hW.int tsk2 2
  refine c_aload_n (j := 0) (x := a0) C dX11_feed_0 rfl ?_
  obtain ⟨rb1, rq1, trb1⟩ := hW.ref t_a0 0 rfl rfl rfl
  have erb1 := hW.sk trb1 (by decide) rfl
  subst erb1
  refine c_getr (k := 0) C ck_12 dX11_feed_1 w2_44 (by decide) t_a0 rfl rfl (by decide) rfl rq1 ?_
  refine c_st (st2 := [.ref (sk 2)]) rfl ?_
  refine c_get (k := 2) C ck_2 dX11_feed_4 w1_44 (by decide) tsk2 rfl rfl (by decide) rfl ?_
  refine c_bipush (z := 20) C dX11_feed_7 (by decide) ?_
  refine c_iadd C dX11_feed_9 ?_
  refine c_sipush (z := 3000) C dX11_feed_10 (by decide) ?_
  refine c_icmp_le (tgt := 23) C ⟨by omega, by omega⟩ ⟨by decide, by decide⟩ dX11_feed_13 (by decide) (fun c1 => ?_) (fun c1 => ?_)
  · refine c_aload_n (j := 0) (x := a0) C dX11_feed_23 rfl ?_
    refine c_iload_n (j := 1) C dX11_feed_24 rfl ?_
    refine d_callV (As := [.int (iI x1)]) (rest := []) C hM (C_feedFour (a0 := a0) (x := x1) hW hS t_a0 (by omega) (by show iv (sk 2) 2 + 4 ≤ 3000; omega)) dX11_feed_25 kV_X11_106 rfl t_a0 rfl rfl (by decide) ck_12 rfl (Nat.le_of_ble_eq_true rfl) ⟨(Nat.le_of_ble_eq_true rfl), (Nat.le_of_ble_eq_true rfl)⟩ hph hph (show 0 + 0 = 0 from rfl) (by decide) (fun rh1 Lh1 clh1 lnh1 ivh1 rvh1 h1 => ?_)
    obtain ⟨rfl, xl1, fl1, W1, exf1⟩ := h1
    refine hv3 (hF0.call hX0 fl1 rfl) (hX0.trans xl1) (xl1.skl hS) (fun F1 X1 sk1 => ?_)
    refine c_st (st2 := []) rfl ?_
    refine hv2 (xl1.ty tsk2) (show ivh1 (sk 2) 2 = iv (sk 2) 2 + 4 ∧ ∀ ss, CT iv rv (sk 2) ss → CT ivh1 rvh1 (sk 2) (fdp ss (iv (sk 2) 2).toNat x1 4) from exf1) (fun ty1 gf1 => ?_)
    have ri2 : 0 ≤ ivh1 (sk 2) 2 ∧ ivh1 (sk 2) 2 ≤ 3000 := W1.int ty1 2
    refine c_aload_n (j := 0) (x := a0) C dX11_feed_28 rfl ?_
    refine c_iload_n (j := 2) C dX11_feed_29 rfl ?_
    refine hv2 (xl1.ty t_a0) (Phi.le W1 sk1) (fun ty2 pl1 => ?_)
    refine d_callV (As := [.int (iI x2)]) (rest := []) C hM (C_feedFour (a0 := a0) (x := x2) W1 sk1 ty2 (by omega) (by show ivh1 (sk 2) 2 + 4 ≤ 3000; omega)) dX11_feed_30 kV_X11_106 rfl ty2 rfl rfl (by decide) ck_12 rfl (Nat.le_of_ble_eq_true rfl) ⟨(Nat.le_of_ble_eq_true rfl), (Nat.le_of_ble_eq_true rfl)⟩ hph pl1 (show 0 + 0 = 0 from rfl) (by decide) (fun rh2 Lh2 clh2 lnh2 ivh2 rvh2 h2 => ?_)
    obtain ⟨rfl, xl2, fl2, W2, exf2⟩ := h2
    refine hv13 (F1.call X1 fl2 rfl) (xl1.ty tsk3) (xl1.ty tsk4) (xl1.ty tsk5) (xl1.ty tsk13) (xl1.ty tsk14) (xl1.ty tsk15) (xl1.ty tsk16) (xl1.ty tsk17) (xl1.ty tsk22) (xl1.ty tsk23) (X1.trans xl2) (xl2.skl sk1) (fun F2 ty3 ty4 ty5 ty6 ty7 ty8 ty9 ty10 ty11 ty12 X2 sk2 => ?_)
    refine c_st (st2 := []) rfl ?_
    refine hv2 (xl2.ty ty1) (show ivh2 (sk 2) 2 = ivh1 (sk 2) 2 + 4 ∧ ∀ ss, CT ivh1 rvh1 (sk 2) ss → CT ivh2 rvh2 (sk 2) (fdp ss (ivh1 (sk 2) 2).toNat x2 4) from exf2) (fun ty13 gf2 => ?_)
    have ri3 : 0 ≤ ivh2 (sk 2) 2 ∧ ivh2 (sk 2) 2 ≤ 3000 := W2.int ty13 2
    refine c_aload_n (j := 0) (x := a0) C dX11_feed_33 rfl ?_
    refine c_iload_n (j := 3) C dX11_feed_34 rfl ?_
    refine hv2 (xl2.ty ty2) (Phi.le W2 sk2) (fun ty14 pl2 => ?_)
    refine d_callV (As := [.int (iI x3)]) (rest := []) C hM (C_feedFour (a0 := a0) (x := x3) W2 sk2 ty14 (by omega) (by show ivh2 (sk 2) 2 + 4 ≤ 3000; omega)) dX11_feed_35 kV_X11_106 rfl ty14 rfl rfl (by decide) ck_12 rfl (Nat.le_of_ble_eq_true rfl) ⟨(Nat.le_of_ble_eq_true rfl), (Nat.le_of_ble_eq_true rfl)⟩ hph pl2 (show 0 + 0 = 0 from rfl) (by decide) (fun rh3 Lh3 clh3 lnh3 ivh3 rvh3 h3 => ?_)
    obtain ⟨rfl, xl3, fl3, W3, exf3⟩ := h3
    refine hv13 (F2.call X2 fl3 rfl) (xl2.ty ty3) (xl2.ty ty4) (xl2.ty ty5) (xl2.ty ty6) (xl2.ty ty7) (xl2.ty ty8) (xl2.ty ty9) (xl2.ty ty10) (xl2.ty ty11) (xl2.ty ty12) (X2.trans xl3) (xl3.skl sk2) (fun F3 ty15 ty16 ty17 ty18 ty19 ty20 ty21 ty22 ty23 ty24 X3 sk3 => ?_)
    refine c_st (st2 := []) rfl ?_
    refine hv2 (xl3.ty ty13) (show ivh3 (sk 2) 2 = ivh2 (sk 2) 2 + 4 ∧ ∀ ss, CT ivh2 rvh2 (sk 2) ss → CT ivh3 rvh3 (sk 2) (fdp ss (ivh2 (sk 2) 2).toNat x3 4) from exf3) (fun ty25 gf3 => ?_)
    have ri4 : 0 ≤ ivh3 (sk 2) 2 ∧ ivh3 (sk 2) 2 ≤ 3000 := W3.int ty25 2
    refine c_aload_n (j := 0) (x := a0) C dX11_feed_38 rfl ?_
    refine c_iload (j := 4) C dX11_feed_39 rfl ?_
    refine hv2 (xl3.ty ty14) (Phi.le W3 sk3) (fun ty26 pl3 => ?_)
    refine d_callV (As := [.int (iI x4)]) (rest := []) C hM (C_feedFour (a0 := a0) (x := x4) W3 sk3 ty26 (by omega) (by show ivh3 (sk 2) 2 + 4 ≤ 3000; omega)) dX11_feed_41 kV_X11_106 rfl ty26 rfl rfl (by decide) ck_12 rfl (Nat.le_of_ble_eq_true rfl) ⟨(Nat.le_of_ble_eq_true rfl), (Nat.le_of_ble_eq_true rfl)⟩ hph pl3 (show 0 + 0 = 0 from rfl) (by decide) (fun rh4 Lh4 clh4 lnh4 ivh4 rvh4 h4 => ?_)
    obtain ⟨rfl, xl4, fl4, W4, exf4⟩ := h4
    refine hv13 (F3.call X3 fl4 rfl) (xl3.ty ty15) (xl3.ty ty16) (xl3.ty ty17) (xl3.ty ty18) (xl3.ty ty19) (xl3.ty ty20) (xl3.ty ty21) (xl3.ty ty22) (xl3.ty ty23) (xl3.ty ty24) (X3.trans xl4) (xl4.skl sk3) (fun F4 ty27 ty28 ty29 ty30 ty31 ty32 ty33 ty34 ty35 ty36 X4 sk4 => ?_)
    refine c_st (st2 := []) rfl ?_
    refine hv2 (xl4.ty ty25) (show ivh4 (sk 2) 2 = ivh3 (sk 2) 2 + 4 ∧ ∀ ss, CT ivh3 rvh3 (sk 2) ss → CT ivh4 rvh4 (sk 2) (fdp ss (ivh3 (sk 2) 2).toNat x4 4) from exf4) (fun ty37 gf4 => ?_)
    have ri5 : 0 ≤ ivh4 (sk 2) 2 ∧ ivh4 (sk 2) 2 ≤ 3000 := W4.int ty37 2
    refine c_aload_n (j := 0) (x := a0) C dX11_feed_44 rfl ?_
    refine c_iload (j := 5) C dX11_feed_45 rfl ?_
    refine hv2 (xl4.ty ty26) (Phi.le W4 sk4) (fun ty38 pl4 => ?_)
    refine d_callV (As := [.int (iI x5)]) (rest := []) C hM (C_feedFour (a0 := a0) (x := x5) W4 sk4 ty38 (by omega) (by show ivh4 (sk 2) 2 + 4 ≤ 3000; omega)) dX11_feed_47 kV_X11_106 rfl ty38 rfl rfl (by decide) ck_12 rfl (Nat.le_of_ble_eq_true rfl) ⟨(Nat.le_of_ble_eq_true rfl), (Nat.le_of_ble_eq_true rfl)⟩ hph pl4 (show 0 + 0 = 0 from rfl) (by decide) (fun rh5 Lh5 clh5 lnh5 ivh5 rvh5 h5 => ?_)
    obtain ⟨rfl, xl5, fl5, W5, exf5⟩ := h5
    refine hv13 (F4.call X4 fl5 rfl) (xl4.ty ty27) (xl4.ty ty28) (xl4.ty ty29) (xl4.ty ty30) (xl4.ty ty31) (xl4.ty ty32) (xl4.ty ty33) (xl4.ty ty34) (xl4.ty ty35) (xl4.ty ty36) (X4.trans xl5) (xl5.skl sk4) (fun F5 ty39 ty40 ty41 ty42 ty43 ty44 ty45 ty46 ty47 ty48 X5 sk5 => ?_)
    refine c_st (st2 := []) rfl ?_
    refine hv2 (xl5.ty ty37) (show ivh5 (sk 2) 2 = ivh4 (sk 2) 2 + 4 ∧ ∀ ss, CT ivh4 rvh4 (sk 2) ss → CT ivh5 rvh5 (sk 2) (fdp ss (ivh4 (sk 2) 2).toNat x5 4) from exf5) (fun ty49 gf5 => ?_)
    have ri6 : 0 ≤ ivh5 (sk 2) 2 ∧ ivh5 (sk 2) 2 ≤ 3000 := W5.int ty49 2
    refine c_aload_n (j := 0) (x := a0) C dX11_feed_50 rfl ?_
    refine c_aload_n (j := 0) (x := a0) C dX11_feed_51 rfl ?_
    refine hv2 (xl5.ty ty38) (show rvh1 a0 0 = rv a0 0 from (fl1.r t_a0 rfl 0)) (fun ty50 re1 => ?_)
    rw [rq1] at re1
    have re2 : rvh2 a0 0 = rvh1 a0 0 := (fl2.r ty2 rfl 0)
    rw [re1] at re2
    have re3 : rvh3 a0 0 = rvh2 a0 0 := (fl3.r ty14 rfl 0)
    rw [re2] at re3
    have re4 : rvh4 a0 0 = rvh3 a0 0 := (fl4.r ty26 rfl 0)
    rw [re3] at re4
    have re5 : rvh5 a0 0 = rvh4 a0 0 := (fl5.r ty38 rfl 0)
    rw [re4] at re5
    refine c_getr (k := 0) C ck_12 dX11_feed_52 w2_44 (by decide) ty50 rfl rfl (by decide) rfl re5 ?_
    refine c_st (st2 := [.ref (sk 2), .ref a0]) rfl ?_
    refine c_get (k := 2) C ck_2 dX11_feed_55 w1_44 (by decide) ty49 rfl rfl (by decide) rfl ?_
    have pl5 := Phi.le W5 sk5
    refine d_callV (As := [.int (iI (ivh5 (sk 2) 2))]) (rest := []) C hM (C_done (a0 := a0) (x := ivh5 (sk 2) 2) W5 sk5 ty50 (by omega) ) dX11_feed_58 kV_X11_109 rfl ty50 rfl rfl (by decide) ck_12 rfl (Nat.le_of_ble_eq_true rfl) ⟨(Nat.le_of_ble_eq_true rfl), (Nat.le_of_ble_eq_true rfl)⟩ hph pl5 (show 0 + 0 = 0 from rfl) (by decide) (fun rh6 Lh6 clh6 lnh6 ivh6 rvh6 h6 => ?_)
    obtain ⟨f6, rfl, rfl, rfl, rfl, rfl, fl6, W6, rgf6, exf6, kp11f6, kp12f6, kp13f6, kp14f6, kp15f6, kp16f6⟩ := h6
    refine hv37 (show 1 ≤ ivh5 a0 11 ∧ ivh5 a0 11 ≤ 100 from W5.int ty50 11) (show ivh5 a0 11 = ivh4 a0 11 from fl5.i ty38 rfl 11) (show ivh4 a0 11 = ivh3 a0 11 from fl4.i ty26 rfl 11) (show ivh3 a0 11 = ivh2 a0 11 from fl3.i ty14 rfl 11) (show ivh2 a0 11 = ivh1 a0 11 from fl2.i ty2 rfl 11) (show ivh1 a0 11 = iv a0 11 from fl1.i t_a0 rfl 11) (show 1 ≤ ivh5 a0 12 ∧ ivh5 a0 12 ≤ 50 from W5.int ty50 12) (show ivh5 a0 12 = ivh4 a0 12 from fl5.i ty38 rfl 12) (show ivh4 a0 12 = ivh3 a0 12 from fl4.i ty26 rfl 12) (show ivh3 a0 12 = ivh2 a0 12 from fl3.i ty14 rfl 12) (show ivh2 a0 12 = ivh1 a0 12 from fl2.i ty2 rfl 12) (show ivh1 a0 12 = iv a0 12 from fl1.i t_a0 rfl 12) (show (-2147483648) ≤ ivh5 a0 13 ∧ ivh5 a0 13 ≤ 2147483647 from W5.int ty50 13) (show ivh5 a0 13 = ivh4 a0 13 from fl5.i ty38 rfl 13) (show ivh4 a0 13 = ivh3 a0 13 from fl4.i ty26 rfl 13) (show ivh3 a0 13 = ivh2 a0 13 from fl3.i ty14 rfl 13) (show ivh2 a0 13 = ivh1 a0 13 from fl2.i ty2 rfl 13) (show ivh1 a0 13 = iv a0 13 from fl1.i t_a0 rfl 13) (show (-2147483648) ≤ ivh5 a0 14 ∧ ivh5 a0 14 ≤ 2147483647 from W5.int ty50 14) (show ivh5 a0 14 = ivh4 a0 14 from fl5.i ty38 rfl 14) (show ivh4 a0 14 = ivh3 a0 14 from fl4.i ty26 rfl 14) (show ivh3 a0 14 = ivh2 a0 14 from fl3.i ty14 rfl 14) (show ivh2 a0 14 = ivh1 a0 14 from fl2.i ty2 rfl 14) (show ivh1 a0 14 = iv a0 14 from fl1.i t_a0 rfl 14) (show (-2147483648) ≤ ivh5 a0 15 ∧ ivh5 a0 15 ≤ 2147483647 from W5.int ty50 15) (show ivh5 a0 15 = ivh4 a0 15 from fl5.i ty38 rfl 15) (show ivh4 a0 15 = ivh3 a0 15 from fl4.i ty26 rfl 15) (show ivh3 a0 15 = ivh2 a0 15 from fl3.i ty14 rfl 15) (show ivh2 a0 15 = ivh1 a0 15 from fl2.i ty2 rfl 15) (show ivh1 a0 15 = iv a0 15 from fl1.i t_a0 rfl 15) (show (-2147483648) ≤ ivh5 a0 16 ∧ ivh5 a0 16 ≤ 2147483647 from W5.int ty50 16) (show ivh5 a0 16 = ivh4 a0 16 from fl5.i ty38 rfl 16) (show ivh4 a0 16 = ivh3 a0 16 from fl4.i ty26 rfl 16) (show ivh3 a0 16 = ivh2 a0 16 from fl3.i ty14 rfl 16) (show ivh2 a0 16 = ivh1 a0 16 from fl2.i ty2 rfl 16) (show ivh1 a0 16 = iv a0 16 from fl1.i t_a0 rfl 16) (F5.call X5 fl6 rfl) (fun ri7 ie6 ie7 ie8 ie9 ie10 ri8 ie11 ie12 ie13 ie14 ie15 ri9 ie16 ie17 ie18 ie19 ie20 ri10 ie21 ie22 ie23 ie24 ie25 ri11 ie26 ie27 ie28 ie29 ie30 ri12 ie31 ie32 ie33 ie34 ie35 F6 => ?_)
    refine c_st (st2 := [.int (iI f6)]) rfl ?_
    refine hv15 (show ivh6 a0 11 = ivh5 a0 11 from kp11f6) (show ivh6 a0 12 = ivh5 a0 12 from kp12f6) (show ivh6 a0 13 = ivh5 a0 13 from kp13f6) (show ivh6 a0 14 = ivh5 a0 14 from kp14f6) (show ivh6 a0 15 = ivh5 a0 15 from kp15f6) (show ivh6 a0 16 = ivh5 a0 16 from kp16f6) (show f6 = (ivh5 (sk 2) 2) from exf6) (show 1 ≤ ivh6 a0 11 ∧ ivh6 a0 11 ≤ 100 from W6.int ty50 11) (show 1 ≤ ivh6 a0 12 ∧ ivh6 a0 12 ≤ 50 from W6.int ty50 12) (show (-2147483648) ≤ ivh6 a0 13 ∧ ivh6 a0 13 ≤ 2147483647 from W6.int ty50 13) (show (-2147483648) ≤ ivh6 a0 14 ∧ ivh6 a0 14 ≤ 2147483647 from W6.int ty50 14) (show (-2147483648) ≤ ivh6 a0 15 ∧ ivh6 a0 15 ≤ 2147483647 from W6.int ty50 15) (show (-2147483648) ≤ ivh6 a0 16 ∧ ivh6 a0 16 ≤ 2147483647 from W6.int ty50 16) (show 0 ≤ ivh6 (sk 2) 2 ∧ ivh6 (sk 2) 2 ≤ 3000 from W6.int ty49 2) (show ivh6 (sk 2) 2 = ivh5 (sk 2) 2 from fl6.i ty49 rfl 2) (fun gk11f6 gk12f6 gk13f6 gk14f6 gk15f6 gk16f6 gf6 ri13 ri14 ri15 ri16 ri17 ri18 ri19 ie42 => ?_)
    exact c_iret C dX11_feed_61 rfl (by decide) (rom0 hph pl5 (by decide)) ⟨f6, rfl, X5, F6, W6, ⟨by omega, by omega⟩, ⟨by omega, fun ss hs => ⟨fun _ => by
        have q1 := gf1.2 ss hs
        have q2 := gf2.2 _ q1
        rw [show (ivh1 (sk 2) 2).toNat = (iv (sk 2) 2).toNat + 4 by omega] at q2
        have q3 := gf3.2 _ q2
        rw [show (ivh2 (sk 2) 2).toNat = (iv (sk 2) 2).toNat + 8 by omega] at q3
        have q4 := gf4.2 _ q3
        rw [show (ivh3 (sk 2) 2).toNat = (iv (sk 2) 2).toNat + 12 by omega] at q4
        have q5 := gf5.2 _ q4
        rw [show (ivh4 (sk 2) 2).toNat = (iv (sk 2) 2).toNat + 16 by omega] at q5
        exact CT.frn q5 W6 ty49 fl6 rfl rfl rfl rfl rfl, fun q => absurd q (by omega)⟩⟩, (gk11f6.trans (ie6.trans (ie7.trans (ie8.trans (ie9.trans ie10))))), (gk12f6.trans (ie11.trans (ie12.trans (ie13.trans (ie14.trans ie15))))), (gk13f6.trans (ie16.trans (ie17.trans (ie18.trans (ie19.trans ie20))))), (gk14f6.trans (ie21.trans (ie22.trans (ie23.trans (ie24.trans ie25))))), (gk15f6.trans (ie26.trans (ie27.trans (ie28.trans (ie29.trans ie30))))), (gk16f6.trans (ie31.trans (ie32.trans (ie33.trans (ie34.trans ie35))))), (Eq.trans (show rvh5 a0 9 = rvh4 a0 9 from (fl5.r ty38 rfl 9)) (Eq.trans (show rvh4 a0 9 = rvh3 a0 9 from (fl4.r ty26 rfl 9)) (Eq.trans (show rvh3 a0 9 = rvh2 a0 9 from (fl3.r ty14 rfl 9)) (Eq.trans (show rvh2 a0 9 = rvh1 a0 9 from (fl2.r ty2 rfl 9)) (show rvh1 a0 9 = rv a0 9 from (fl1.r t_a0 rfl 9)))))), (Eq.trans (show rvh5 a0 10 = rvh4 a0 10 from (fl5.r ty38 rfl 10)) (Eq.trans (show rvh4 a0 10 = rvh3 a0 10 from (fl4.r ty26 rfl 10)) (Eq.trans (show rvh3 a0 10 = rvh2 a0 10 from (fl3.r ty14 rfl 10)) (Eq.trans (show rvh2 a0 10 = rvh1 a0 10 from (fl2.r ty2 rfl 10)) (show rvh1 a0 10 = rv a0 10 from (fl1.r t_a0 rfl 10))))))⟩
  · refine c_aload_n (j := 0) (x := a0) C dX11_feed_16 rfl ?_
    refine c_bipush (z := 6) C dX11_feed_17 (by decide) ?_
    refine d_callV (As := [.int (iI 6)]) (rest := []) C hM (C_refuse (a0 := a0) (x := 6) hW hS t_a0 ⟨by decide, by decide⟩ ) dX11_feed_19 kV_X11_102 rfl t_a0 rfl rfl (by decide) ck_12 rfl (Nat.le_of_ble_eq_true rfl) ⟨(Nat.le_of_ble_eq_true rfl), (Nat.le_of_ble_eq_true rfl)⟩ hph hph (show 0 + 0 = 0 from rfl) (by decide) (fun rh7 Lh7 clh7 lnh7 ivh7 rvh7 h7 => ?_)
    obtain ⟨f7, rfl, rfl, rfl, rfl, rfl, fl7, W7, rgf7, exf7, kp11f7, kp12f7, kp13f7, kp14f7, kp15f7, kp16f7⟩ := h7
    refine hv7 (show 1 ≤ iv a0 11 ∧ iv a0 11 ≤ 100 from hW.int t_a0 11) (show 1 ≤ iv a0 12 ∧ iv a0 12 ≤ 50 from hW.int t_a0 12) (show (-2147483648) ≤ iv a0 13 ∧ iv a0 13 ≤ 2147483647 from hW.int t_a0 13) (show (-2147483648) ≤ iv a0 14 ∧ iv a0 14 ≤ 2147483647 from hW.int t_a0 14) (show (-2147483648) ≤ iv a0 15 ∧ iv a0 15 ≤ 2147483647 from hW.int t_a0 15) (show (-2147483648) ≤ iv a0 16 ∧ iv a0 16 ≤ 2147483647 from hW.int t_a0 16) (hF0.call hX0 fl7 rfl) (fun ri20 ri21 ri22 ri23 ri24 ri25 F7 => ?_)
    refine c_st (st2 := [.int (iI f7)]) rfl ?_
    refine hv15 (show ivh7 a0 11 = iv a0 11 from kp11f7) (show ivh7 a0 12 = iv a0 12 from kp12f7) (show ivh7 a0 13 = iv a0 13 from kp13f7) (show ivh7 a0 14 = iv a0 14 from kp14f7) (show ivh7 a0 15 = iv a0 15 from kp15f7) (show ivh7 a0 16 = iv a0 16 from kp16f7) (show f7 = -1 from exf7) (show 1 ≤ ivh7 a0 11 ∧ ivh7 a0 11 ≤ 100 from W7.int t_a0 11) (show 1 ≤ ivh7 a0 12 ∧ ivh7 a0 12 ≤ 50 from W7.int t_a0 12) (show (-2147483648) ≤ ivh7 a0 13 ∧ ivh7 a0 13 ≤ 2147483647 from W7.int t_a0 13) (show (-2147483648) ≤ ivh7 a0 14 ∧ ivh7 a0 14 ≤ 2147483647 from W7.int t_a0 14) (show (-2147483648) ≤ ivh7 a0 15 ∧ ivh7 a0 15 ≤ 2147483647 from W7.int t_a0 15) (show (-2147483648) ≤ ivh7 a0 16 ∧ ivh7 a0 16 ≤ 2147483647 from W7.int t_a0 16) (show 0 ≤ ivh7 (sk 2) 2 ∧ ivh7 (sk 2) 2 ≤ 3000 from W7.int tsk2 2) (show ivh7 (sk 2) 2 = iv (sk 2) 2 from fl7.i tsk2 rfl 2) (fun gk11f7 gk12f7 gk13f7 gk14f7 gk15f7 gk16f7 gf7 ri26 ri27 ri28 ri29 ri30 ri31 ri32 ie49 => ?_)
    exact c_iret C dX11_feed_22 rfl (by decide) (rom0 hph hph (by decide)) ⟨f7, rfl, hX0, F7, W7, ⟨by omega, by omega⟩, ⟨by omega, fun ss hs => ⟨fun q => absurd q (by omega), fun _ => CT.frn hs W7 tsk2 fl7 rfl rfl rfl rfl rfl⟩⟩, gk11f7, gk12f7, gk13f7, gk14f7, gk15f7, gk16f7, rfl, rfl⟩
set_option maxHeartbeats 4000000 in
set_option maxRecDepth 100000 in
theorem C_end {l : Launch} {G : GT} {mi : Nat} {sk : Nat → Nat} {L : List Nat} {cl ln : Nat → Nat} {iv : Nat → Nat → Int} {rv : Nat → Nat → Option Nat}  {a0 : Nat} {n : Int} (hW : WT (g0 G) sk L cl ln iv rv) (hS : SKL sk L cl) (t_a0 : ty L cl a0 1) (h_n : -2147483648 ≤ n ∧ n ≤ 2147483647)  : Mc l G mi (Phi (g0 G) sk) PHM yX11_end cX11_end 2 (some .int) 2 [.ref a0, .int (iI n)] L cl ln iv rv 0 (fun v L2 cl2 ln2 iv2 rv2 => ∃ f : Int, v = some (.int (iI f)) ∧ L = L2 ∧ cl = cl2 ∧ ln = ln2 ∧ rv = rv2 ∧ fT [1, 2] L cl iv rv iv2 rv2 ∧ WT (g0 G) sk L2 cl2 ln2 iv2 rv2 ∧ (-2147483648 ≤ f ∧ f ≤ 2147483647) ∧ ((f = -1 ∧ iv2 (sk 2) 2 = iv (sk 2) 2 ∧ (n < 0 ∨ iv (sk 2) 2 < n)) ∨ (f = n ∧ iv2 (sk 2) 2 = n ∧ 0 ≤ n ∧ n ≤ iv (sk 2) 2)) ∧ iv2 a0 11 = iv a0 11 ∧ iv2 a0 12 = iv a0 12 ∧ iv2 a0 13 = iv a0 13 ∧ iv2 a0 14 = iv a0 14 ∧ iv2 a0 15 = iv a0 15 ∧ iv2 a0 16 = iv a0 16) := by
  refine Mc.mk (by decide) (Nat.le_of_ble_eq_true rfl) ?_
  intro p e s m args below meth c A C hM
  refine hv14 (Phi.le hW hS) (show ty L cl (sk 2) 2 from ⟨(hS 2 rfl).1, by rw [(hS 2 rfl).2]; rfl⟩) (show ty L cl (sk 3) 3 from ⟨(hS 3 rfl).1, by rw [(hS 3 rfl).2]; rfl⟩) (show ty L cl (sk 4) 4 from ⟨(hS 4 rfl).1, by rw [(hS 4 rfl).2]; rfl⟩) (show ty L cl (sk 5) 5 from ⟨(hS 5 rfl).1, by rw [(hS 5 rfl).2]; rfl⟩) (show ty L cl (sk 13) 13 from ⟨(hS 13 rfl).1, by rw [(hS 13 rfl).2]; rfl⟩) (show ty L cl (sk 14) 14 from ⟨(hS 14 rfl).1, by rw [(hS 14 rfl).2]; rfl⟩) (show ty L cl (sk 15) 15 from ⟨(hS 15 rfl).1, by rw [(hS 15 rfl).2]; rfl⟩) (show ty L cl (sk 16) 16 from ⟨(hS 16 rfl).1, by rw [(hS 16 rfl).2]; rfl⟩) (show ty L cl (sk 17) 17 from ⟨(hS 17 rfl).1, by rw [(hS 17 rfl).2]; rfl⟩) (show ty L cl (sk 22) 22 from ⟨(hS 22 rfl).1, by rw [(hS 22 rfl).2]; rfl⟩) (show ty L cl (sk 23) 23 from ⟨(hS 23 rfl).1, by rw [(hS 23 rfl).2]; rfl⟩) (show XT L cl ln L cl ln from XT.refl) (show fT [1, 2] L cl iv rv iv rv from fT.refl) (fun hph tsk2 tsk3 tsk4 tsk5 tsk13 tsk14 tsk15 tsk16 tsk17 tsk22 tsk23 hX0 hF0 => ?_)
  refine c_iload_n (j := 1) C dX11_end_0 rfl ?_
  refine c_if_ge (tgt := 10) C ⟨by omega, by omega⟩ dX11_end_1 (by decide) (fun c1 => ?_) (fun c1 => ?_)
  · refine c_iload_n (j := 1) C dX11_end_10 rfl ?_
    refine c_aload_n (j := 0) (x := a0) C dX11_end_11 rfl ?_
    obtain ⟨rb1, rq1, trb1⟩ := hW.ref t_a0 0 rfl rfl rfl
    have erb1 := hW.sk trb1 (by decide) rfl
    subst erb1
    refine c_getr (k := 0) C ck_12 dX11_end_12 w2_44 (by decide) t_a0 rfl rfl (by decide) rfl rq1 ?_
    refine c_st (st2 := [.ref (sk 2), .int (iI n)]) rfl ?_
    have ri1 : 0 ≤ iv (sk 2) 2 ∧ iv (sk 2) 2 ≤ 3000 := hW.int tsk2 2
    refine c_get (k := 2) C ck_2 dX11_end_15 w1_44 (by decide) tsk2 rfl rfl (by decide) rfl ?_
    refine c_icmp_le (tgt := 28) C ⟨by omega, by omega⟩ (r32_c (lo := 0) (hi := 3000) ri1.1 ri1.2 (by decide) (by decide)) dX11_end_18 (by decide) (fun c2 => ?_) (fun c2 => ?_)
    · refine c_aload_n (j := 0) (x := a0) C dX11_end_28 rfl ?_
      refine c_getr (k := 0) C ck_12 dX11_end_29 w2_44 (by decide) t_a0 rfl rfl (by decide) rfl rq1 ?_
      refine c_st (st2 := [.ref (sk 2)]) rfl ?_
      refine c_iload_n (j := 1) C dX11_end_32 rfl ?_
      refine d_callV (As := [.int (iI n)]) (rest := []) C hM (C_keep_2 (a0 := (sk 2)) (n := n) hW hS tsk2 (by omega) ) dX11_end_33 kV_X11_115 rfl tsk2 rfl rfl (by decide) ck_2 rfl (Nat.le_of_ble_eq_true rfl) ⟨(Nat.le_of_ble_eq_true rfl), (Nat.le_of_ble_eq_true rfl)⟩ hph hph (show 0 + 0 = 0 from rfl) (by decide) (fun rh1 Lh1 clh1 lnh1 ivh1 rvh1 h1 => ?_)
      obtain ⟨rfl, rfl, rfl, rfl, rfl, fl1, W1, exf1⟩ := h1
      have F1 := hF0.call hX0 fl1 rfl
      refine c_st (st2 := []) rfl ?_
      refine hv2 (show 0 ≤ ivh1 (sk 2) 2 ∧ ivh1 (sk 2) 2 ≤ 3000 from W1.int tsk2 2) (show ivh1 (sk 2) 2 ≤ iv (sk 2) 2 ∧ (n < 0 ∨ iv (sk 2) 2 < n ∨ ivh1 (sk 2) 2 = n) from exf1) (fun ri2 gf1 => ?_)
      refine c_aload_n (j := 0) (x := a0) C dX11_end_36 rfl ?_
      refine c_iload_n (j := 1) C dX11_end_37 rfl ?_
      refine d_callV (As := [.int (iI n)]) (rest := []) C hM (C_done (a0 := a0) (x := n) W1 hS t_a0 (by omega) ) dX11_end_38 kV_X11_109 rfl t_a0 rfl rfl (by decide) ck_12 rfl (Nat.le_of_ble_eq_true rfl) ⟨(Nat.le_of_ble_eq_true rfl), (Nat.le_of_ble_eq_true rfl)⟩ hph hph (show 0 + 0 = 0 from rfl) (by decide) (fun rh2 Lh2 clh2 lnh2 ivh2 rvh2 h2 => ?_)
      obtain ⟨f2, rfl, rfl, rfl, rfl, rfl, fl2, W2, rgf2, exf2, kp11f2, kp12f2, kp13f2, kp14f2, kp15f2, kp16f2⟩ := h2
      refine hv13 (show 1 ≤ ivh1 a0 11 ∧ ivh1 a0 11 ≤ 100 from W1.int t_a0 11) (show ivh1 a0 11 = iv a0 11 from fl1.i t_a0 rfl 11) (show 1 ≤ ivh1 a0 12 ∧ ivh1 a0 12 ≤ 50 from W1.int t_a0 12) (show ivh1 a0 12 = iv a0 12 from fl1.i t_a0 rfl 12) (show (-2147483648) ≤ ivh1 a0 13 ∧ ivh1 a0 13 ≤ 2147483647 from W1.int t_a0 13) (show ivh1 a0 13 = iv a0 13 from fl1.i t_a0 rfl 13) (show (-2147483648) ≤ ivh1 a0 14 ∧ ivh1 a0 14 ≤ 2147483647 from W1.int t_a0 14) (show ivh1 a0 14 = iv a0 14 from fl1.i t_a0 rfl 14) (show (-2147483648) ≤ ivh1 a0 15 ∧ ivh1 a0 15 ≤ 2147483647 from W1.int t_a0 15) (show ivh1 a0 15 = iv a0 15 from fl1.i t_a0 rfl 15) (show (-2147483648) ≤ ivh1 a0 16 ∧ ivh1 a0 16 ≤ 2147483647 from W1.int t_a0 16) (show ivh1 a0 16 = iv a0 16 from fl1.i t_a0 rfl 16) (F1.call hX0 fl2 rfl) (fun ri3 ie2 ri4 ie3 ri5 ie4 ri6 ie5 ri7 ie6 ri8 ie7 F2 => ?_)
      refine c_st (st2 := [.int (iI f2)]) rfl ?_
      refine hv15 (show ivh2 a0 11 = ivh1 a0 11 from kp11f2) (show ivh2 a0 12 = ivh1 a0 12 from kp12f2) (show ivh2 a0 13 = ivh1 a0 13 from kp13f2) (show ivh2 a0 14 = ivh1 a0 14 from kp14f2) (show ivh2 a0 15 = ivh1 a0 15 from kp15f2) (show ivh2 a0 16 = ivh1 a0 16 from kp16f2) (show f2 = n from exf2) (show 1 ≤ ivh2 a0 11 ∧ ivh2 a0 11 ≤ 100 from W2.int t_a0 11) (show 1 ≤ ivh2 a0 12 ∧ ivh2 a0 12 ≤ 50 from W2.int t_a0 12) (show (-2147483648) ≤ ivh2 a0 13 ∧ ivh2 a0 13 ≤ 2147483647 from W2.int t_a0 13) (show (-2147483648) ≤ ivh2 a0 14 ∧ ivh2 a0 14 ≤ 2147483647 from W2.int t_a0 14) (show (-2147483648) ≤ ivh2 a0 15 ∧ ivh2 a0 15 ≤ 2147483647 from W2.int t_a0 15) (show (-2147483648) ≤ ivh2 a0 16 ∧ ivh2 a0 16 ≤ 2147483647 from W2.int t_a0 16) (show 0 ≤ ivh2 (sk 2) 2 ∧ ivh2 (sk 2) 2 ≤ 3000 from W2.int tsk2 2) (show ivh2 (sk 2) 2 = ivh1 (sk 2) 2 from fl2.i tsk2 rfl 2) (fun gk11f2 gk12f2 gk13f2 gk14f2 gk15f2 gk16f2 gf2 ri9 ri10 ri11 ri12 ri13 ri14 ri15 ie14 => ?_)
      exact c_iret C dX11_end_41 rfl (by decide) (rom0 hph hph (by decide)) ⟨f2, rfl, rfl, rfl, rfl, rfl, F2, W2, ⟨by omega, by omega⟩, (by omega), (gk11f2.trans ie2), (gk12f2.trans ie3), (gk13f2.trans ie4), (gk14f2.trans ie5), (gk15f2.trans ie6), (gk16f2.trans ie7)⟩
    · refine c_aload_n (j := 0) (x := a0) C dX11_end_21 rfl ?_
      refine c_bipush (z := 6) C dX11_end_22 (by decide) ?_
      refine d_callV (As := [.int (iI 6)]) (rest := []) C hM (C_refuse (a0 := a0) (x := 6) hW hS t_a0 ⟨by decide, by decide⟩ ) dX11_end_24 kV_X11_102 rfl t_a0 rfl rfl (by decide) ck_12 rfl (Nat.le_of_ble_eq_true rfl) ⟨(Nat.le_of_ble_eq_true rfl), (Nat.le_of_ble_eq_true rfl)⟩ hph hph (show 0 + 0 = 0 from rfl) (by decide) (fun rh3 Lh3 clh3 lnh3 ivh3 rvh3 h3 => ?_)
      obtain ⟨f3, rfl, rfl, rfl, rfl, rfl, fl3, W3, rgf3, exf3, kp11f3, kp12f3, kp13f3, kp14f3, kp15f3, kp16f3⟩ := h3
      refine hv7 (show 1 ≤ iv a0 11 ∧ iv a0 11 ≤ 100 from hW.int t_a0 11) (show 1 ≤ iv a0 12 ∧ iv a0 12 ≤ 50 from hW.int t_a0 12) (show (-2147483648) ≤ iv a0 13 ∧ iv a0 13 ≤ 2147483647 from hW.int t_a0 13) (show (-2147483648) ≤ iv a0 14 ∧ iv a0 14 ≤ 2147483647 from hW.int t_a0 14) (show (-2147483648) ≤ iv a0 15 ∧ iv a0 15 ≤ 2147483647 from hW.int t_a0 15) (show (-2147483648) ≤ iv a0 16 ∧ iv a0 16 ≤ 2147483647 from hW.int t_a0 16) (hF0.call hX0 fl3 rfl) (fun ri16 ri17 ri18 ri19 ri20 ri21 F3 => ?_)
      refine c_st (st2 := [.int (iI f3)]) rfl ?_
      refine hv15 (show ivh3 a0 11 = iv a0 11 from kp11f3) (show ivh3 a0 12 = iv a0 12 from kp12f3) (show ivh3 a0 13 = iv a0 13 from kp13f3) (show ivh3 a0 14 = iv a0 14 from kp14f3) (show ivh3 a0 15 = iv a0 15 from kp15f3) (show ivh3 a0 16 = iv a0 16 from kp16f3) (show f3 = -1 from exf3) (show 1 ≤ ivh3 a0 11 ∧ ivh3 a0 11 ≤ 100 from W3.int t_a0 11) (show 1 ≤ ivh3 a0 12 ∧ ivh3 a0 12 ≤ 50 from W3.int t_a0 12) (show (-2147483648) ≤ ivh3 a0 13 ∧ ivh3 a0 13 ≤ 2147483647 from W3.int t_a0 13) (show (-2147483648) ≤ ivh3 a0 14 ∧ ivh3 a0 14 ≤ 2147483647 from W3.int t_a0 14) (show (-2147483648) ≤ ivh3 a0 15 ∧ ivh3 a0 15 ≤ 2147483647 from W3.int t_a0 15) (show (-2147483648) ≤ ivh3 a0 16 ∧ ivh3 a0 16 ≤ 2147483647 from W3.int t_a0 16) (show 0 ≤ ivh3 (sk 2) 2 ∧ ivh3 (sk 2) 2 ≤ 3000 from W3.int tsk2 2) (show ivh3 (sk 2) 2 = iv (sk 2) 2 from fl3.i tsk2 rfl 2) (fun gk11f3 gk12f3 gk13f3 gk14f3 gk15f3 gk16f3 gf3 ri22 ri23 ri24 ri25 ri26 ri27 ri28 ie21 => ?_)
      exact c_iret C dX11_end_27 rfl (by decide) (rom0 hph hph (by decide)) ⟨f3, rfl, rfl, rfl, rfl, rfl, F3, W3, ⟨by omega, by omega⟩, (by omega), gk11f3, gk12f3, gk13f3, gk14f3, gk15f3, gk16f3⟩
  · refine c_aload_n (j := 0) (x := a0) C dX11_end_4 rfl ?_
    refine c_iconst C dX11_end_5 ?_
    refine d_callV (As := [.int (iI 5)]) (rest := []) C hM (C_refuse (a0 := a0) (x := 5) hW hS t_a0 ⟨by decide, by decide⟩ ) dX11_end_6 kV_X11_102 rfl t_a0 rfl rfl (by decide) ck_12 rfl (Nat.le_of_ble_eq_true rfl) ⟨(Nat.le_of_ble_eq_true rfl), (Nat.le_of_ble_eq_true rfl)⟩ hph hph (show 0 + 0 = 0 from rfl) (by decide) (fun rh4 Lh4 clh4 lnh4 ivh4 rvh4 h4 => ?_)
    obtain ⟨f4, rfl, rfl, rfl, rfl, rfl, fl4, W4, rgf4, exf4, kp11f4, kp12f4, kp13f4, kp14f4, kp15f4, kp16f4⟩ := h4
    refine hv7 (show 1 ≤ iv a0 11 ∧ iv a0 11 ≤ 100 from hW.int t_a0 11) (show 1 ≤ iv a0 12 ∧ iv a0 12 ≤ 50 from hW.int t_a0 12) (show (-2147483648) ≤ iv a0 13 ∧ iv a0 13 ≤ 2147483647 from hW.int t_a0 13) (show (-2147483648) ≤ iv a0 14 ∧ iv a0 14 ≤ 2147483647 from hW.int t_a0 14) (show (-2147483648) ≤ iv a0 15 ∧ iv a0 15 ≤ 2147483647 from hW.int t_a0 15) (show (-2147483648) ≤ iv a0 16 ∧ iv a0 16 ≤ 2147483647 from hW.int t_a0 16) (hF0.call hX0 fl4 rfl) (fun ri29 ri30 ri31 ri32 ri33 ri34 F4 => ?_)
    refine c_st (st2 := [.int (iI f4)]) rfl ?_
    refine hv15 (show ivh4 a0 11 = iv a0 11 from kp11f4) (show ivh4 a0 12 = iv a0 12 from kp12f4) (show ivh4 a0 13 = iv a0 13 from kp13f4) (show ivh4 a0 14 = iv a0 14 from kp14f4) (show ivh4 a0 15 = iv a0 15 from kp15f4) (show ivh4 a0 16 = iv a0 16 from kp16f4) (show f4 = -1 from exf4) (show 1 ≤ ivh4 a0 11 ∧ ivh4 a0 11 ≤ 100 from W4.int t_a0 11) (show 1 ≤ ivh4 a0 12 ∧ ivh4 a0 12 ≤ 50 from W4.int t_a0 12) (show (-2147483648) ≤ ivh4 a0 13 ∧ ivh4 a0 13 ≤ 2147483647 from W4.int t_a0 13) (show (-2147483648) ≤ ivh4 a0 14 ∧ ivh4 a0 14 ≤ 2147483647 from W4.int t_a0 14) (show (-2147483648) ≤ ivh4 a0 15 ∧ ivh4 a0 15 ≤ 2147483647 from W4.int t_a0 15) (show (-2147483648) ≤ ivh4 a0 16 ∧ ivh4 a0 16 ≤ 2147483647 from W4.int t_a0 16) (show 0 ≤ ivh4 (sk 2) 2 ∧ ivh4 (sk 2) 2 ≤ 3000 from W4.int tsk2 2) (show ivh4 (sk 2) 2 = iv (sk 2) 2 from fl4.i tsk2 rfl 2) (fun gk11f4 gk12f4 gk13f4 gk14f4 gk15f4 gk16f4 gf4 ri35 ri36 ri37 ri38 ri39 ri40 ri41 ie28 => ?_)
    exact c_iret C dX11_end_9 rfl (by decide) (rom0 hph hph (by decide)) ⟨f4, rfl, rfl, rfl, rfl, rfl, F4, W4, ⟨by omega, by omega⟩, (by omega), gk11f4, gk12f4, gk13f4, gk14f4, gk15f4, gk16f4⟩
theorem dots_c {n z1 z2 : Int} (e1 : iI 1 <<< (iI n &&& 31) = iI z1) (h1 : R32 z1) (e2 : iI (z1 - 1) = iI z2) (h2 : R32 z2) (hn : n = 6 ∨ n = 8) : z2 = DC n := by
  rcases hn with rfl | rfl
  · have a1 : z1 = 64 := (iI_eq h1 ⟨by decide, by decide⟩).mp (e1.symm.trans (by decide))
    subst a1
    have a2 : z2 = 63 := (iI_eq h2 ⟨by decide, by decide⟩).mp (e2.symm.trans (by decide))
    rw [a2]; rfl
  · have a1 : z1 = 256 := (iI_eq h1 ⟨by decide, by decide⟩).mp (e1.symm.trans (by decide))
    subst a1
    have a2 : z2 = 255 := (iI_eq h2 ⟨by decide, by decide⟩).mp (e2.symm.trans (by decide))
    rw [a2]; rfl
set_option maxHeartbeats 4000000 in
set_option maxRecDepth 100000 in
theorem C_isRow {l : Launch} {G : GT} {mi : Nat} {sk : Nat → Nat} {L : List Nat} {cl ln : Nat → Nat} {iv : Nat → Nat → Int} {rv : Nat → Nat → Option Nat}  {a0 : Nat} {i : Int} {n : Int} (hW : WT (g0 G) sk L cl ln iv rv) (hS : SKL sk L cl) (t_a0 : ty L cl a0 1) (h_i : -2147483648 ≤ i ∧ i ≤ 2147483647) (h_n : -2147483648 ≤ n ∧ n ≤ 2147483647) (hi : 0 ≤ i) : Mc l G mi (Phi (g0 G) sk) PHM yX11_isRowOfCells cX11_isRowOfCells 3 (some .boolean) 2 [.ref a0, .int (iI i), .int (iI n)] L cl ln iv rv 0 (fun v L2 cl2 ln2 iv2 rv2 => ∃ f : Int, v = some (.int (iI f)) ∧ L = L2 ∧ cl = cl2 ∧ ln = ln2 ∧ iv = iv2 ∧ rv = rv2 ∧ (f = 0 ∨ f = 1) ∧ (f = 0 ∨ iv (sk 2) 2 - i ≤ 4) ∧ (∀ ss, CT iv rv (sk 2) ss → i ≤ iv (sk 2) 2 → (n = 6 ∨ n = 8) → (f = 1 ↔ (iv (sk 2) 2 - i ≤ 4 ∧ ACL ss i (iv (sk 2) 2 - i) (DC n))))) := by
  refine Mc.mk (by decide) (Nat.le_of_ble_eq_true rfl) ?_
  intro p e s m args below meth c A C hM
  refine hv14 (Phi.le hW hS) (show ty L cl (sk 2) 2 from ⟨(hS 2 rfl).1, by rw [(hS 2 rfl).2]; rfl⟩) (show ty L cl (sk 3) 3 from ⟨(hS 3 rfl).1, by rw [(hS 3 rfl).2]; rfl⟩) (show ty L cl (sk 4) 4 from ⟨(hS 4 rfl).1, by rw [(hS 4 rfl).2]; rfl⟩) (show ty L cl (sk 5) 5 from ⟨(hS 5 rfl).1, by rw [(hS 5 rfl).2]; rfl⟩) (show ty L cl (sk 13) 13 from ⟨(hS 13 rfl).1, by rw [(hS 13 rfl).2]; rfl⟩) (show ty L cl (sk 14) 14 from ⟨(hS 14 rfl).1, by rw [(hS 14 rfl).2]; rfl⟩) (show ty L cl (sk 15) 15 from ⟨(hS 15 rfl).1, by rw [(hS 15 rfl).2]; rfl⟩) (show ty L cl (sk 16) 16 from ⟨(hS 16 rfl).1, by rw [(hS 16 rfl).2]; rfl⟩) (show ty L cl (sk 17) 17 from ⟨(hS 17 rfl).1, by rw [(hS 17 rfl).2]; rfl⟩) (show ty L cl (sk 22) 22 from ⟨(hS 22 rfl).1, by rw [(hS 22 rfl).2]; rfl⟩) (show ty L cl (sk 23) 23 from ⟨(hS 23 rfl).1, by rw [(hS 23 rfl).2]; rfl⟩) (show XT L cl ln L cl ln from XT.refl) (show fT [] L cl iv rv iv rv from fT.refl) (fun hph tsk2 tsk3 tsk4 tsk5 tsk13 tsk14 tsk15 tsk16 tsk17 tsk22 tsk23 hX0 hF0 => ?_)
  refine c_aload_n (j := 0) (x := a0) C dX11_isRowOfCells_0 rfl ?_
  obtain ⟨rb1, rq1, trb1⟩ := hW.ref t_a0 0 rfl rfl rfl
  have erb1 := hW.sk trb1 (by decide) rfl
  subst erb1
  refine c_getr (k := 0) C ck_12 dX11_isRowOfCells_1 w2_44 (by decide) t_a0 rfl rfl (by decide) rfl rq1 ?_
  refine c_st (st2 := [.ref (sk 2)]) rfl ?_
  have ri1 : 0 ≤ iv (sk 2) 2 ∧ iv (sk 2) 2 ≤ 3000 := hW.int tsk2 2
  refine c_get (k := 2) C ck_2 dX11_isRowOfCells_4 w1_44 (by decide) tsk2 rfl rfl (by decide) rfl ?_
  refine c_iload_n (j := 1) C dX11_isRowOfCells_7 rfl ?_
  refine c_isub C dX11_isRowOfCells_8 ?_
  refine c_iconst C dX11_isRowOfCells_9 ?_
  refine c_icmp_gt (tgt := 41) C ⟨by omega, by omega⟩ ⟨by decide, by decide⟩ dX11_isRowOfCells_10 (by decide) (fun c1 => ?_) (fun c1 => ?_)
  · refine c_iconst C dX11_isRowOfCells_41 ?_
    exact c_zret C dX11_isRowOfCells_42 rfl (Or.inl rfl) (by decide) (rom0 hph hph (by decide)) ⟨0, rfl, rfl, rfl, rfl, rfl, rfl, (Or.inl rfl), (by omega), (fun ss hs h0 h1 => ⟨fun q => absurd q (by decide), fun q => absurd q.1 (by omega)⟩)⟩
  · refine c_aload_n (j := 0) (x := a0) C dX11_isRowOfCells_13 rfl ?_
    refine c_getr (k := 0) C ck_12 dX11_isRowOfCells_14 w2_44 (by decide) t_a0 rfl rfl (by decide) rfl rq1 ?_
    refine c_st (st2 := [.ref (sk 2)]) rfl ?_
    refine c_iload_n (j := 1) C dX11_isRowOfCells_17 rfl ?_
    refine c_aload_n (j := 0) (x := a0) C dX11_isRowOfCells_18 rfl ?_
    refine c_getr (k := 0) C ck_12 dX11_isRowOfCells_19 w2_44 (by decide) t_a0 rfl rfl (by decide) rfl rq1 ?_
    refine c_st (st2 := [.ref (sk 2), .int (iI i), .ref (sk 2)]) rfl ?_
    refine c_get (k := 2) C ck_2 dX11_isRowOfCells_22 w1_44 (by decide) tsk2 rfl rfl (by decide) rfl ?_
    refine c_iconst C dX11_isRowOfCells_25 ?_
    refine c_iconst C dX11_isRowOfCells_26 ?_
    refine c_iload_n (j := 2) C dX11_isRowOfCells_27 rfl ?_
    obtain ⟨zz1, hzz1, ezz1⟩ := iI_of (iI 1 <<< (iI n &&& 31))
    refine c_ishl (w := iI zz1) C dX11_isRowOfCells_28 ezz1 ?_
    refine c_iconst C dX11_isRowOfCells_29 ?_
    refine c_isub C dX11_isRowOfCells_30 ?_
    obtain ⟨zz2, hzz2, ezz2⟩ := iI_of (iI (zz1 - 1))
    refine c_st (st2 := [.int (iI zz2), .int (iI 1), .int (iI (iv (sk 2) 2)), .int (iI i), .ref (sk 2)]) (by rw [ezz2]) ?_
    refine d_callV (As := [.int (iI i), .int (iI (iv (sk 2) 2)), .int (iI 1), .int (iI zz2)]) (rest := []) C hM (C_isWithin_2 (a0 := (sk 2)) (i := i) (j := iv (sk 2) 2) (lo := 1) (hi := zz2) hW hS tsk2 (by omega) (by omega) ⟨by decide, by decide⟩ (by omega) ) dX11_isRowOfCells_31 kV_X11_171 rfl tsk2 rfl rfl (by decide) ck_2 rfl (Nat.le_of_ble_eq_true rfl) ⟨(Nat.le_of_ble_eq_true rfl), (Nat.le_of_ble_eq_true rfl)⟩ hph hph (show 0 + 0 = 0 from rfl) (by decide) (fun rh1 Lh1 clh1 lnh1 ivh1 rvh1 h1 => ?_)
    obtain ⟨f1, rfl, rfl, rfl, rfl, rfl, rfl, rgf1, exf1⟩ := h1
    refine c_st (st2 := [.int (iI f1)]) rfl ?_
    have gf1 : ∀ ss, CT iv rv (sk 2) ss → 0 ≤ i → (iv (sk 2) 2) ≤ iv (sk 2) 2 → (f1 = 1 ↔ ∀ x : Nat, i ≤ (x : Int) → (x : Int) < (iv (sk 2) 2) → (1 : Int) ≤ ss x ∧ ss x ≤ zz2) := exf1
    refine c_if_eq (tgt := 41) C ⟨by omega, by omega⟩ dX11_isRowOfCells_34 (by decide) (fun c2 => ?_) (fun c2 => ?_)
    · refine c_iconst C dX11_isRowOfCells_41 ?_
      exact c_zret C dX11_isRowOfCells_42 rfl (Or.inl rfl) (by decide) (rom0 hph hph (by decide)) ⟨0, rfl, rfl, rfl, rfl, rfl, rfl, (Or.inl rfl), (by omega), (fun ss hs h0 h1 => by have e := gf1 ss hs (by omega) (by omega); rw [dots_c ezz1 hzz1 ezz2 hzz2 h1] at e; exact ⟨fun q => absurd q (by decide), fun q => by have e2 := e.mpr (fun x q1 q2 => q.2 x q1 (by omega)); omega⟩)⟩
    · refine c_iconst C dX11_isRowOfCells_37 ?_
      refine c_goto (tgt := 42) C dX11_isRowOfCells_38 (by decide) ?_
      exact c_zret C dX11_isRowOfCells_42 rfl (Or.inr rfl) (by decide) (rom0 hph hph (by decide)) ⟨1, rfl, rfl, rfl, rfl, rfl, rfl, (Or.inr rfl), (by omega), (fun ss hs h0 h1 => by have e := gf1 ss hs (by omega) (by omega); rw [dots_c ezz1 hzz1 ezz2 hzz2 h1] at e; exact ⟨fun _ => ⟨by omega, fun j q1 q2 => e.mp (by omega) j q1 (by omega)⟩, fun _ => rfl⟩)⟩
end
