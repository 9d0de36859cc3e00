set_option maxHeartbeats 4000000 in
set_option maxRecDepth 100000 in
theorem C_slice_65 {l : Launch} {G : GT} {mi : Nat} {sk : Nat → Nat} {L : List Nat} {cl ln : Nat → Nat} {iv : Nat → Nat → Int} {rv : Nat → Nat → Option Nat}  {a0 : Nat} {i : Int} {j : Int} (hW : WT (g0 G) sk L cl ln iv rv) (hS : SKL sk L cl) (t_a0 : ty L cl a0 2) (h_i : -2147483648 ≤ i ∧ i ≤ 2147483647) (h_j : -2147483648 ≤ j ∧ j ≤ 2147483647) (hij : 0 ≤ i ∧ i ≤ 3000 ∧ 0 ≤ j - i ∧ j - i ≤ 8) : Mc l G mi (Phi (g0 G) sk) PHM yX1_slice cX1_slice 5 (some (.array .int)) 1 [.ref a0, .int (iI i), .int (iI j)] L cl ln iv rv 24 (fun v L2 cl2 ln2 iv2 rv2 => ∃ f : Nat, v = some (.ref f) ∧ XT L cl ln L2 cl2 ln2 ∧ fT [65] L cl iv rv iv2 rv2 ∧ WT (g0 G) sk L2 cl2 ln2 iv2 rv2 ∧ ty L2 cl2 f 65 ∧ (ln2 f = (j - i).toNat) ∧ (f ∉ L ∧ (∀ bb, ty L cl bb 65 → ∀ k, iv2 bb k = iv bb k) ∧ ∀ ss, CT iv rv a0 ss → j ≤ iv a0 2 → ∀ q : Nat, q < ln2 f → iv2 f q = ss (i.toNat + q))) := by
  refine Mc.mk (by decide) (Nat.le_of_ble_eq_true rfl) ?_
  intro p e s m args below meth c A C hM
  refine hv4 (Phi.le hW hS) (show XT L cl ln L cl ln from XT.refl) (show fT [65] L cl iv rv iv rv from fT.refl) (show 0 ≤ iv a0 2 ∧ iv a0 2 ≤ 3000 from hW.int t_a0 2) (fun hph hX0 hF0 ri1 => ?_)
  refine c_iconst C dX1_slice_0 ?_
  refine c_iload_n (j := 2) C dX1_slice_1 rfl ?_
  refine c_iload_n (j := 1) C dX1_slice_2 rfl ?_
  refine c_isub C dX1_slice_3 ?_
  obtain ⟨mn1, hmn1, emn1⟩ := mmax_c (x := 0) (y := j - i) ⟨by decide, by decide⟩ ⟨by omega, by omega⟩
  refine c_mmax (w := iI mn1) C dX1_slice_4 w2_147 w2_148 w1_14 w2_149 (by decide) (rom0 hph hph (by decide)) (Nat.le_of_ble_eq_true rfl) emn1 ?_
  refine c_newaI (z := mn1) (N := (j - i).toNat) C 65 dX1_slice_7 w1_57 rfl (by omega) (by omega) (rom2 hph hph (by omega)) (fun qn1 cln1 lnn1 ivn1 rvn1 hqn1 hcn1 hln1 hin1 hrn1 => ⟨(0 + (16 + (j - i).toNat)), (p_in (Phi.new hW hS hqn1 (fun b hb => by rw [hln1]; exact va_up_ne _ _ hb) hrn1) (by omega)), ?_⟩)
  refine c_g0 C (fun hg1 => ?_)
  refine hv5 (show ∀ b, b ≠ qn1 → lnn1 b = ln b from (fun b hb => by rw [hln1]; exact va_up_ne _ _ hb)) (show lnn1 qn1 = (j - i).toNat from by rw [hln1]; exact va_up_self _ _ _) (hF0.new hX0 hqn1 hin1 hrn1) (show ty (L ++ [qn1]) cln1 qn1 65 from ty_new hcn1) (show qn1 ∉ L from fun h => hqn1 ((hX0 qn1 h).1)) (fun hxn1 lqn1 F1 tqn1 h0qn1 => ?_)
  refine hv2 (hW.new (ln2 := lnn1) hqn1 (hg1 qn1 (List.mem_append_right _ List.mem_cons_self)) hcn1 hxn1 hin1 hrn1 (fun _ => ⟨(show (-2147483648 : Int) ≤ 0 by decide), (show (0 : Int) ≤ 2147483647 by decide)⟩) (Or.inr (fun _ => rfl)) (fun _ => by show 0 ≤ lnn1 qn1 ∧ lnn1 qn1 ≤ 8; omega) rfl rfl) (XT.new hqn1 hcn1 hxn1) (fun W1 xl1 => ?_)
  refine hv2 (hX0.trans xl1) (xl1.skl hS) (fun X1 sk1 => ?_)
  refine c_astore_n (lv2 := [(3, .ref qn1), (0, .ref a0), (1, .int (iI i)), (2, .int (iI j))]) C dX1_slice_9 (by decide) rfl ?_
  refine c_K (K2 := 24) (by omega) ?_
  refine c_iconst C dX1_slice_10 ?_
  refine c_istore (lv2 := [(4, .int (iI 0)), (3, .ref qn1), (0, .ref a0), (1, .int (iI i)), (2, .int (iI j))]) C dX1_slice_11 (by decide) rfl ?_
  have Lp1 : ∀ (nn : Nat) (qa : Nat) (k : Int) (Lb1 : List Nat) (clb1 lnb1 : Nat → Nat) (ivb1 : Nat → Nat → Int) (rvb1 : Nat → Nat → Option Nat) , 9 - k < (nn : Int) → XT L cl ln Lb1 clb1 lnb1 → WT (g0 G) sk Lb1 clb1 lnb1 ivb1 rvb1 → fT [65] L cl iv rv ivb1 rvb1 → (ty Lb1 clb1 qa 65) → (0 ≤ k ∧ k ≤ 8) → (lnb1 qa = (j - i).toNat) → (qa ∉ L) → (∀ bb, ty L cl bb 65 → ∀ kk, ivb1 bb kk = iv bb kk) → (∀ ss, CT iv rv a0 ss → j ≤ iv a0 2 → ∀ q : Nat, (q : Int) < k → ivb1 qa q = ss (i.toNat + q)) → cw p l e 1 ((PHM) + 24 - ((Phi (g0 G) sk) ln rv)) s m args below meth c G A 5 (MQ below (Qu G A (Qp G (Phi (g0 G) sk) ((Phi (g0 G) sk) ln rv) 24 (fun v L2 cl2 ln2 iv2 rv2 => ∃ f : Nat, v = some (.ref f) ∧ XT L cl ln L2 cl2 ln2 ∧ fT [65] L cl iv rv iv2 rv2 ∧ WT (g0 G) sk L2 cl2 ln2 iv2 rv2 ∧ ty L2 cl2 f 65 ∧ (ln2 f = (j - i).toNat) ∧ (f ∉ L ∧ (∀ bb, ty L cl bb 65 → ∀ k, iv2 bb k = iv bb k) ∧ ∀ ss, CT iv rv a0 ss → j ≤ iv a0 2 → ∀ q : Nat, q < ln2 f → iv2 f q = ss (i.toNat + q))))) args s (((PHM) + 24 - ((Phi (g0 G) sk) ln rv)) / 16) ((PHM) + 24 - ((Phi (g0 G) sk) ln rv)) A) (Phi (g0 G) sk) ((Phi (g0 G) sk) ln rv) Lb1 clb1 lnb1 ivb1 rvb1 24 13 [(4, .int (iI k)), (3, .ref qa), (0, .ref a0), (1, .int (iI i)), (2, .int (iI j))] [] := by
    intro nn
    induction nn with
    | zero =>
      intro qa k Lb1 clb1 lnb1 ivb1 rvb1 hm Xb1 Wb1 Fb1 ty_qa hk hqa hqn hold hcs
      have skb1 := Xb1.skl hS
      exact absurd hm (by omega)
    | succ nn ih1 =>
      intro qa k Lb1 clb1 lnb1 ivb1 rvb1 hm Xb1 Wb1 Fb1 ty_qa hk hqa hqn hold hcs
      have skb1 := Xb1.skl hS
      refine c_iload (j := 0) C dX1_slice_13 rfl ?_
      refine c_aload_n (j := 1) (x := qa) C dX1_slice_15 rfl ?_
      have ll1 : 0 ≤ lnb1 qa ∧ lnb1 qa ≤ 8 := Wb1.len ty_qa rfl
      refine c_alenI C dX1_slice_16 ty_qa rfl ?_
      refine c_icmp_ge (tgt := 38) C (r32_c (lo := 0) (hi := 8) hk.1 hk.2 (by decide) (by decide)) ⟨by omega, by omega⟩ dX1_slice_17 (by decide) (fun c1 => ?_) (fun c1 => ?_)
      · refine c_aload_n (j := 1) (x := qa) C dX1_slice_38 rfl ?_
        have pl1 := Phi.le Wb1 skb1
        exact c_aret (x := some qa) C dX1_slice_39 rfl (Or.inr ⟨_, rfl⟩) (by decide) (rom0 hph pl1 (by decide)) ⟨qa, rfl, Xb1, Fb1, Wb1, ty_qa, (by omega), ⟨hqn, hold, fun ss hs hj q hq => hcs ss hs hj q (by omega)⟩⟩
      · refine c_aload_n (j := 1) (x := qa) C dX1_slice_20 rfl ?_
        refine c_iload (j := 0) C dX1_slice_21 rfl ?_
        refine c_aload_n (j := 2) (x := a0) C dX1_slice_23 rfl ?_
        refine c_iload_n (j := 3) C dX1_slice_24 rfl ?_
        refine c_iload (j := 0) C dX1_slice_25 rfl ?_
        refine c_iadd C dX1_slice_27 ?_
        refine hv3 (Xb1.ty t_a0) (show ivb1 a0 2 = iv a0 2 from Fb1.i t_a0 rfl 2) (Phi.le Wb1 skb1) (fun ty1 ie1 pl2 => ?_)
        have ri2 : 0 ≤ ivb1 a0 2 ∧ ivb1 a0 2 ≤ 3000 := Wb1.int ty1 2
        refine d_callV (As := [.int (iI (i + k))]) (rest := [.int (iI k), .ref qa]) C hM (C_at_2 (a0 := a0) (i := i + k) Wb1 skb1 ty1 (by omega) ) dX1_slice_28 kV_X1_39 rfl ty1 rfl rfl (by decide) ck_2 rfl (Nat.le_of_ble_eq_true rfl) ⟨(Nat.le_of_ble_eq_true rfl), (Nat.le_of_ble_eq_true rfl)⟩ hph pl2 (show 24 + 0 = 24 from rfl) (by decide) (fun rh1 Lh1 clh1 lnh1 ivh1 rvh1 h1 => ?_)
        obtain ⟨f1, rfl, rfl, rfl, rfl, rfl, rfl, rgf1, exf1⟩ := h1
        refine c_st (st2 := [.int (iI f1), .int (iI k), .ref qa]) rfl ?_
        have gf1 : ((0 ≤ (i + k) ∧ (i + k) < ivb1 a0 2) ∨ f1 = 0) ∧ ∀ ss, CT ivb1 rvb1 a0 ss → 0 ≤ (i + k) → (i + k) < ivb1 a0 2 → f1 = ss (i + k).toNat := exf1
        refine c_iast (x := f1) C dX1_slice_31 ty_qa rfl (by omega) (by omega) (by omega) (fun iv1 pq1 => ?_)
        refine hv2 (Wb1.puti pq1 ty_qa (show (-2147483648) ≤ f1 ∧ f1 ≤ 2147483647 by omega) rfl) (Fb1.puti Xb1 pq1 ty_qa rfl) (fun W3 F2 => ?_)
        refine c_iinc (z := k) (j := 0) (lv2 := [(4, .int (iI (k + 1))), (3, .ref qa), (0, .ref a0), (1, .int (iI i)), (2, .int (iI j))]) C dX1_slice_32 rfl (by decide) rfl ?_
        refine c_goto (tgt := 13) C dX1_slice_35 (by decide) ?_
        refine hv2 (show 0 ≤ iv1 a0 2 ∧ iv1 a0 2 ≤ 3000 from W3.int ty1 2) (show iv1 a0 2 = ivb1 a0 2 from by rw [pq1]; exact up2_k (ne_ty ty1 ty_qa (by decide))) (fun ri3 ie2 => ?_)
        refine c_lv (lv2 := [(4, .int (iI (k + 1))), (3, .ref qa), (0, .ref a0), (1, .int (iI i)), (2, .int (iI j))]) [0, 1, 2, 3, 4] rfl ?_
        exact ih1  qa (k + 1) _ _ _ _ _ (by omega) Xb1 W3 F2 ty_qa (by omega) (by show lnb1 qa = (j - i).toNat; omega) hqn (fun bb tbb kk => Eq.trans (show iv1 bb kk = ivb1 bb kk from by rw [pq1]; exact up2_k (ne_in tbb.1 hqn)) (hold bb tbb kk)) (fun ss hs hj q hq => by
            rw [pq1]
            by_cases e : (q : Int) < k
            · rw [up2_j (by omega)]; exact hcs ss hs hj q e
            · rw [show q = k.toNat by omega, up2_s]
              have e1 := gf1.2 ss (CT.fr hs hW t_a0 Fb1 rfl rfl rfl rfl rfl) (by omega) (by omega)
              rw [e1]; exact congrArg ss (by omega))
  refine c_lv (lv2 := [(4, .int (iI 0)), (3, .ref qn1), (0, .ref a0), (1, .int (iI i)), (2, .int (iI j))]) [0, 1, 2, 3, 4] rfl ?_
  exact Lp1 11 qn1 0 _ _ _ _ _ (by omega) X1 W1 F1 tqn1 (by omega) (by show lnn1 qn1 = (j - i).toNat; omega) h0qn1 (fun bb tbb kk => by exact (show ivn1 bb kk = iv bb kk from (by rw [hin1]; exact congrFun (up0_a (ne_in tbb.1 hqn1)) _))) (fun ss hs hj q hq => absurd hq (by omega))
set_option maxHeartbeats 4000000 in
set_option maxRecDepth 100000 in
theorem C_slice_66 {l : Launch} {G : GT} {mi : Nat} {sk : Nat → Nat} {L : List Nat} {cl ln : Nat → Nat} {iv : Nat → Nat → Int} {rv : Nat → Nat → Option Nat}  {a0 : Nat} {i : Int} {j : Int} (hW : WT (g0 G) sk L cl ln iv rv) (hS : SKL sk L cl) (t_a0 : ty L cl a0 2) (h_i : -2147483648 ≤ i ∧ i ≤ 2147483647) (h_j : -2147483648 ≤ j ∧ j ≤ 2147483647) (hij : 0 ≤ i ∧ i ≤ 3000 ∧ 1 ≤ j - i ∧ j - i ≤ 4) : Mc l G mi (Phi (g0 G) sk) PHM yX1_slice cX1_slice 5 (some (.array .int)) 1 [.ref a0, .int (iI i), .int (iI j)] L cl ln iv rv 20 (fun v L2 cl2 ln2 iv2 rv2 => ∃ f : Nat, v = some (.ref f) ∧ XT L cl ln L2 cl2 ln2 ∧ fT [66] L cl iv rv iv2 rv2 ∧ WT (g0 G) sk L2 cl2 ln2 iv2 rv2 ∧ ty L2 cl2 f 66 ∧ (ln2 f = (j - i).toNat) ∧ (f ∉ L ∧ (∀ bb, ty L cl bb 66 → ∀ k, iv2 bb k = iv bb k) ∧ ∀ ss, CT iv rv a0 ss → j ≤ iv a0 2 → ∀ q : Nat, q < ln2 f → iv2 f q = ss (i.toNat + q))) := by
  refine Mc.mk (by decide) (Nat.le_of_ble_eq_true rfl) ?_
  intro p e s m args below meth c A C hM
  refine hv4 (Phi.le hW hS) (show XT L cl ln L cl ln from XT.refl) (show fT [66] L cl iv rv iv rv from fT.refl) (show 0 ≤ iv a0 2 ∧ iv a0 2 ≤ 3000 from hW.int t_a0 2) (fun hph hX0 hF0 ri1 => ?_)
  refine c_iconst C dX1_slice_0 ?_
  refine c_iload_n (j := 2) C dX1_slice_1 rfl ?_
  refine c_iload_n (j := 1) C dX1_slice_2 rfl ?_
  refine c_isub C dX1_slice_3 ?_
  obtain ⟨mn1, hmn1, emn1⟩ := mmax_c (x := 0) (y := j - i) ⟨by decide, by decide⟩ ⟨by omega, by omega⟩
  refine c_mmax (w := iI mn1) C dX1_slice_4 w2_147 w2_148 w1_14 w2_149 (by decide) (rom0 hph hph (by decide)) (Nat.le_of_ble_eq_true rfl) emn1 ?_
  refine c_newaI (z := mn1) (N := (j - i).toNat) C 66 dX1_slice_7 w1_57 rfl (by omega) (by omega) (rom2 hph hph (by omega)) (fun qn1 cln1 lnn1 ivn1 rvn1 hqn1 hcn1 hln1 hin1 hrn1 => ⟨(0 + (16 + (j - i).toNat)), (p_in (Phi.new hW hS hqn1 (fun b hb => by rw [hln1]; exact va_up_ne _ _ hb) hrn1) (by omega)), ?_⟩)
  refine c_g0 C (fun hg1 => ?_)
  refine hv5 (show ∀ b, b ≠ qn1 → lnn1 b = ln b from (fun b hb => by rw [hln1]; exact va_up_ne _ _ hb)) (show lnn1 qn1 = (j - i).toNat from by rw [hln1]; exact va_up_self _ _ _) (hF0.new hX0 hqn1 hin1 hrn1) (show ty (L ++ [qn1]) cln1 qn1 66 from ty_new hcn1) (show qn1 ∉ L from fun h => hqn1 ((hX0 qn1 h).1)) (fun hxn1 lqn1 F1 tqn1 h0qn1 => ?_)
  refine hv2 (hW.new (ln2 := lnn1) hqn1 (hg1 qn1 (List.mem_append_right _ List.mem_cons_self)) hcn1 hxn1 hin1 hrn1 (fun _ => ⟨(show (-2147483648 : Int) ≤ 0 by decide), (show (0 : Int) ≤ 2147483647 by decide)⟩) (Or.inr (fun _ => rfl)) (fun _ => by show 1 ≤ lnn1 qn1 ∧ lnn1 qn1 ≤ 4; omega) rfl rfl) (XT.new hqn1 hcn1 hxn1) (fun W1 xl1 => ?_)
  refine hv2 (hX0.trans xl1) (xl1.skl hS) (fun X1 sk1 => ?_)
  refine c_astore_n (lv2 := [(3, .ref qn1), (0, .ref a0), (1, .int (iI i)), (2, .int (iI j))]) C dX1_slice_9 (by decide) rfl ?_
  refine c_K (K2 := 20) (by omega) ?_
  refine c_iconst C dX1_slice_10 ?_
  refine c_istore (lv2 := [(4, .int (iI 0)), (3, .ref qn1), (0, .ref a0), (1, .int (iI i)), (2, .int (iI j))]) C dX1_slice_11 (by decide) rfl ?_
  have Lp1 : ∀ (nn : Nat) (qa : Nat) (k : Int) (Lb1 : List Nat) (clb1 lnb1 : Nat → Nat) (ivb1 : Nat → Nat → Int) (rvb1 : Nat → Nat → Option Nat) , 5 - k < (nn : Int) → XT L cl ln Lb1 clb1 lnb1 → WT (g0 G) sk Lb1 clb1 lnb1 ivb1 rvb1 → fT [66] L cl iv rv ivb1 rvb1 → (ty Lb1 clb1 qa 66) → (0 ≤ k ∧ k ≤ 4) → (lnb1 qa = (j - i).toNat) → (qa ∉ L) → (∀ bb, ty L cl bb 66 → ∀ kk, ivb1 bb kk = iv bb kk) → (∀ ss, CT iv rv a0 ss → j ≤ iv a0 2 → ∀ q : Nat, (q : Int) < k → ivb1 qa q = ss (i.toNat + q)) → cw p l e 1 ((PHM) + 20 - ((Phi (g0 G) sk) ln rv)) s m args below meth c G A 5 (MQ below (Qu G A (Qp G (Phi (g0 G) sk) ((Phi (g0 G) sk) ln rv) 20 (fun v L2 cl2 ln2 iv2 rv2 => ∃ f : Nat, v = some (.ref f) ∧ XT L cl ln L2 cl2 ln2 ∧ fT [66] L cl iv rv iv2 rv2 ∧ WT (g0 G) sk L2 cl2 ln2 iv2 rv2 ∧ ty L2 cl2 f 66 ∧ (ln2 f = (j - i).toNat) ∧ (f ∉ L ∧ (∀ bb, ty L cl bb 66 → ∀ k, iv2 bb k = iv bb k) ∧ ∀ ss, CT iv rv a0 ss → j ≤ iv a0 2 → ∀ q : Nat, q < ln2 f → iv2 f q = ss (i.toNat + q))))) args s (((PHM) + 20 - ((Phi (g0 G) sk) ln rv)) / 16) ((PHM) + 20 - ((Phi (g0 G) sk) ln rv)) A) (Phi (g0 G) sk) ((Phi (g0 G) sk) ln rv) Lb1 clb1 lnb1 ivb1 rvb1 20 13 [(4, .int (iI k)), (3, .ref qa), (0, .ref a0), (1, .int (iI i)), (2, .int (iI j))] [] := by
    intro nn
    induction nn with
    | zero =>
      intro qa k Lb1 clb1 lnb1 ivb1 rvb1 hm Xb1 Wb1 Fb1 ty_qa hk hqa hqn hold hcs
      have skb1 := Xb1.skl hS
      exact absurd hm (by omega)
    | succ nn ih1 =>
      intro qa k Lb1 clb1 lnb1 ivb1 rvb1 hm Xb1 Wb1 Fb1 ty_qa hk hqa hqn hold hcs
      have skb1 := Xb1.skl hS
      refine c_iload (j := 0) C dX1_slice_13 rfl ?_
      refine c_aload_n (j := 1) (x := qa) C dX1_slice_15 rfl ?_
      have ll1 : 1 ≤ lnb1 qa ∧ lnb1 qa ≤ 4 := Wb1.len ty_qa rfl
      refine c_alenI C dX1_slice_16 ty_qa rfl ?_
      refine c_icmp_ge (tgt := 38) C (r32_c (lo := 0) (hi := 4) hk.1 hk.2 (by decide) (by decide)) ⟨by omega, by omega⟩ dX1_slice_17 (by decide) (fun c1 => ?_) (fun c1 => ?_)
      · refine c_aload_n (j := 1) (x := qa) C dX1_slice_38 rfl ?_
        have pl1 := Phi.le Wb1 skb1
        exact c_aret (x := some qa) C dX1_slice_39 rfl (Or.inr ⟨_, rfl⟩) (by decide) (rom0 hph pl1 (by decide)) ⟨qa, rfl, Xb1, Fb1, Wb1, ty_qa, (by omega), ⟨hqn, hold, fun ss hs hj q hq => hcs ss hs hj q (by omega)⟩⟩
      · refine c_aload_n (j := 1) (x := qa) C dX1_slice_20 rfl ?_
        refine c_iload (j := 0) C dX1_slice_21 rfl ?_
        refine c_aload_n (j := 2) (x := a0) C dX1_slice_23 rfl ?_
        refine c_iload_n (j := 3) C dX1_slice_24 rfl ?_
        refine c_iload (j := 0) C dX1_slice_25 rfl ?_
        refine c_iadd C dX1_slice_27 ?_
        refine hv3 (Xb1.ty t_a0) (show ivb1 a0 2 = iv a0 2 from Fb1.i t_a0 rfl 2) (Phi.le Wb1 skb1) (fun ty1 ie1 pl2 => ?_)
        have ri2 : 0 ≤ ivb1 a0 2 ∧ ivb1 a0 2 ≤ 3000 := Wb1.int ty1 2
        refine d_callV (As := [.int (iI (i + k))]) (rest := [.int (iI k), .ref qa]) C hM (C_at_2 (a0 := a0) (i := i + k) Wb1 skb1 ty1 (by omega) ) dX1_slice_28 kV_X1_39 rfl ty1 rfl rfl (by decide) ck_2 rfl (Nat.le_of_ble_eq_true rfl) ⟨(Nat.le_of_ble_eq_true rfl), (Nat.le_of_ble_eq_true rfl)⟩ hph pl2 (show 20 + 0 = 20 from rfl) (by decide) (fun rh1 Lh1 clh1 lnh1 ivh1 rvh1 h1 => ?_)
        obtain ⟨f1, rfl, rfl, rfl, rfl, rfl, rfl, rgf1, exf1⟩ := h1
        refine c_st (st2 := [.int (iI f1), .int (iI k), .ref qa]) rfl ?_
        have gf1 : ((0 ≤ (i + k) ∧ (i + k) < ivb1 a0 2) ∨ f1 = 0) ∧ ∀ ss, CT ivb1 rvb1 a0 ss → 0 ≤ (i + k) → (i + k) < ivb1 a0 2 → f1 = ss (i + k).toNat := exf1
        refine c_iast (x := f1) C dX1_slice_31 ty_qa rfl (by omega) (by omega) (by omega) (fun iv1 pq1 => ?_)
        refine hv2 (Wb1.puti pq1 ty_qa (show (-2147483648) ≤ f1 ∧ f1 ≤ 2147483647 by omega) rfl) (Fb1.puti Xb1 pq1 ty_qa rfl) (fun W3 F2 => ?_)
        refine c_iinc (z := k) (j := 0) (lv2 := [(4, .int (iI (k + 1))), (3, .ref qa), (0, .ref a0), (1, .int (iI i)), (2, .int (iI j))]) C dX1_slice_32 rfl (by decide) rfl ?_
        refine c_goto (tgt := 13) C dX1_slice_35 (by decide) ?_
        refine hv2 (show 0 ≤ iv1 a0 2 ∧ iv1 a0 2 ≤ 3000 from W3.int ty1 2) (show iv1 a0 2 = ivb1 a0 2 from by rw [pq1]; exact up2_k (ne_ty ty1 ty_qa (by decide))) (fun ri3 ie2 => ?_)
        refine c_lv (lv2 := [(4, .int (iI (k + 1))), (3, .ref qa), (0, .ref a0), (1, .int (iI i)), (2, .int (iI j))]) [0, 1, 2, 3, 4] rfl ?_
        exact ih1  qa (k + 1) _ _ _ _ _ (by omega) Xb1 W3 F2 ty_qa (by omega) (by show lnb1 qa = (j - i).toNat; omega) hqn (fun bb tbb kk => Eq.trans (show iv1 bb kk = ivb1 bb kk from by rw [pq1]; exact up2_k (ne_in tbb.1 hqn)) (hold bb tbb kk)) (fun ss hs hj q hq => by
            rw [pq1]
            by_cases e : (q : Int) < k
            · rw [up2_j (by omega)]; exact hcs ss hs hj q e
            · rw [show q = k.toNat by omega, up2_s]
              have e1 := gf1.2 ss (CT.fr hs hW t_a0 Fb1 rfl rfl rfl rfl rfl) (by omega) (by omega)
              rw [e1]; exact congrArg ss (by omega))
  refine c_lv (lv2 := [(4, .int (iI 0)), (3, .ref qn1), (0, .ref a0), (1, .int (iI i)), (2, .int (iI j))]) [0, 1, 2, 3, 4] rfl ?_
  exact Lp1 7 qn1 0 _ _ _ _ _ (by omega) X1 W1 F1 tqn1 (by omega) (by show lnn1 qn1 = (j - i).toNat; omega) h0qn1 (fun bb tbb kk => by exact (show ivn1 bb kk = iv bb kk from (by rw [hin1]; exact congrFun (up0_a (ne_in tbb.1 hqn1)) _))) (fun ss hs hj q hq => absurd hq (by omega))
