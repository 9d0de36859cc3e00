set_option maxHeartbeats 4000000 in
set_option maxRecDepth 100000 in
theorem C_bsmall {l : Launch} {G : GT} {mi : Nat} {sk : Nat → Nat} {L : List Nat} {cl ln : Nat → Nat} {iv : Nat → Nat → Int} {rv : Nat → Nat → Option Nat}  {a0 : Nat} (hW : WT (g0 G) sk L cl ln iv rv) (hS : SKL sk L cl) (t_a0 : ty L cl a0 20)  : Mc l G mi (Phi (g0 G) sk) PHM yX5_beginsSmall cX5_beginsSmall 1 (some .boolean) 1 [.ref a0] L cl ln iv rv 0 (fun v L2 cl2 ln2 iv2 rv2 => ∃ f : Int, v = some (.int (iI f)) ∧ L = L2 ∧ cl = cl2 ∧ ln = ln2 ∧ iv = iv2 ∧ rv = rv2 ∧ (f = 0 ∨ f = 1) ∧ (f = 1 ↔ BSw ln iv rv a0)) := by
  refine Mc.mk (by decide) (Nat.le_of_ble_eq_true rfl) ?_
  intro p e s m args below meth c A C hM
  refine hv3 (Phi.le hW hS) (show XT L cl ln L cl ln from XT.refl) (show fT [] L cl iv rv iv rv from fT.refl) (fun hph hX0 hF0 => ?_)
  refine c_aload_n (j := 0) (x := a0) C dX5_beginsSmall_0 rfl ?_
  have ri1 : (-2147483648) ≤ iv a0 0 ∧ iv a0 0 ≤ 2147483647 := hW.int t_a0 0
  refine c_get (k := 0) C ck_6 dX5_beginsSmall_1 w3_135 (by decide) t_a0 rfl rfl (by decide) rfl ?_
  refine c_iconst C dX5_beginsSmall_4 ?_
  refine c_icmp_ne (tgt := 32) C (r32_c (lo := (-2147483648)) (hi := 2147483647) ri1.1 ri1.2 (by decide) (by decide)) ⟨by decide, by decide⟩ dX5_beginsSmall_5 (by decide) (fun c1 => ?_) (fun c1 => ?_)
  · refine c_iconst C dX5_beginsSmall_32 ?_
    obtain ⟨bl, hbl, tbl⟩ := hW.ref t_a0 1 rfl rfl rfl
    have e00 : (iv a0 0 : Int) = iv a0 0 := rfl
    exact c_zret C dX5_beginsSmall_33 rfl (Or.inl rfl) (by decide) (rom0 hph hph (by decide)) ⟨0, rfl, rfl, rfl, rfl, rfl, rfl, (Or.inl rfl), ⟨fun q => absurd q (by decide), fun q => by have q2 := q bl hbl; have q0 : iv bl 0 = iv bl (0 : Int).toNat := rfl; omega⟩⟩
  · refine c_aload_n (j := 0) (x := a0) C dX5_beginsSmall_8 rfl ?_
    obtain ⟨rb1, rq1, trb1⟩ := hW.ref t_a0 1 rfl rfl rfl
    have lnrb1 : 0 ≤ ln rb1 ∧ ln rb1 ≤ 8 := hW.len trb1 rfl
    refine c_getr (k := 1) C ck_6 dX5_beginsSmall_9 w3_138 (by decide) t_a0 rfl rfl (by decide) rfl rq1 ?_
    refine c_st (st2 := [.ref rb1]) rfl ?_
    have ll1 : 0 ≤ ln rb1 ∧ ln rb1 ≤ 8 := hW.len trb1 rfl
    refine c_alenI C dX5_beginsSmall_12 trb1 rfl ?_
    refine c_if_le (tgt := 32) C ⟨by omega, by omega⟩ dX5_beginsSmall_13 (by decide) (fun c2 => ?_) (fun c2 => ?_)
    · refine c_iconst C dX5_beginsSmall_32 ?_
      exact c_zret C dX5_beginsSmall_33 rfl (Or.inl rfl) (by decide) (rom0 hph hph (by decide)) ⟨0, rfl, rfl, rfl, rfl, rfl, rfl, (Or.inl rfl), ⟨fun q => absurd q (by decide), fun q => by have q2 := q rb1 rq1; have q0 : iv rb1 0 = iv rb1 (0 : Int).toNat := rfl; omega⟩⟩
    · refine c_aload_n (j := 0) (x := a0) C dX5_beginsSmall_16 rfl ?_
      refine c_getr (k := 1) C ck_6 dX5_beginsSmall_17 w3_138 (by decide) t_a0 rfl rfl (by decide) rfl rq1 ?_
      refine c_st (st2 := [.ref rb1]) rfl ?_
      refine c_iconst C dX5_beginsSmall_20 ?_
      refine c_iald C dX5_beginsSmall_21 trb1 rfl (by omega) (by omega) (by omega) ?_
      have ri2 : (-2147483648) ≤ iv rb1 ((0 : Int).toNat) ∧ iv rb1 ((0 : Int).toNat) ≤ 2147483647 := hW.int trb1 ((0 : Int).toNat)
      refine c_callSN0 (As := [.int (iI (iv rb1 (0 : Int).toNat))]) (rest := []) C (fun L E => s11_isSmall (iI (iv rb1 (0 : Int).toNat))) dX5_beginsSmall_22 kSN_X5_25 rfl rfl (Nat.le_of_ble_eq_true rfl) ⟨(Nat.le_of_ble_eq_true rfl), (Nat.le_of_ble_eq_true rfl)⟩ (rom0 hph hph (by decide)) ?_
      rcases inn_c (x := iv rb1 (0 : Int).toNat) (lo := 97) (hi := 122) ⟨by omega, by omega⟩ ⟨by decide, by decide⟩ ⟨by decide, by decide⟩ with ⟨hs1a, hs1b, hs1e⟩ | ⟨hs1a, hs1e⟩
      · refine c_st (st2 := [.int (iI 1)]) (by rw [show inn (iI (iv rb1 (0 : Int).toNat)) 97 122 = iI 1 from hs1e]) ?_
        refine c_if_eq (tgt := 32) C ⟨by decide, by decide⟩ dX5_beginsSmall_25 (by decide) (fun z => absurd z (by omega)) (fun _ => ?_)
        refine c_iconst C dX5_beginsSmall_28 ?_
        refine c_goto (tgt := 33) C dX5_beginsSmall_29 (by decide) ?_
        exact c_zret C dX5_beginsSmall_33 rfl (Or.inr rfl) (by decide) (rom0 hph hph (by decide)) ⟨1, rfl, rfl, rfl, rfl, rfl, rfl, (Or.inr rfl), ⟨fun _ b hb => by rw [rq1] at hb; cases hb; have q0 : iv rb1 0 = iv rb1 (0 : Int).toNat := rfl; exact ⟨by omega, by omega, by omega, by omega⟩, fun _ => rfl⟩⟩
      · refine c_st (st2 := [.int (iI 0)]) (by rw [show inn (iI (iv rb1 (0 : Int).toNat)) 97 122 = iI 0 from hs1e]) ?_
        refine c_if_eq (tgt := 32) C ⟨by decide, by decide⟩ dX5_beginsSmall_25 (by decide) (fun _ => ?_) (fun z => absurd z (by omega))
        refine c_iconst C dX5_beginsSmall_32 ?_
        exact c_zret C dX5_beginsSmall_33 rfl (Or.inl rfl) (by decide) (rom0 hph hph (by decide)) ⟨0, rfl, rfl, rfl, rfl, rfl, rfl, (Or.inl rfl), ⟨fun q => absurd q (by decide), fun q => by have q2 := q rb1 rq1; have q0 : iv rb1 0 = iv rb1 (0 : Int).toNat := rfl; omega⟩⟩
set_option maxHeartbeats 4000000 in
set_option maxRecDepth 100000 in
theorem C_looksLike {l : Launch} {G : GT} {mi : Nat} {sk : Nat → Nat} {L : List Nat} {cl ln : Nat → Nat} {iv : Nat → Nat → Int} {rv : Nat → Nat → Option Nat}  {a0 : Nat} {x : Int} {i : Int} (hW : WT (g0 G) sk L cl ln iv rv) (hS : SKL sk L cl) (t_a0 : ty L cl a0 17) (h_x : -2147483648 ≤ x ∧ x ≤ 2147483647) (h_i : -2147483648 ≤ i ∧ i ≤ 2147483647) (hi : 0 ≤ i) : Mc l G mi (Phi (g0 G) sk) PHM yX4_looksLike cX4_looksLike 3 (some .boolean) 0 [.ref a0, .int (iI x), .int (iI i)] L cl ln iv rv 0 (fun v L2 cl2 ln2 iv2 rv2 => ∃ f : Int, v = some (.int (iI f)) ∧ L = L2 ∧ cl = cl2 ∧ ln = ln2 ∧ iv = iv2 ∧ rv = rv2 ∧ (f = 0 ∨ f = 1) ∧ (f = 1 ↔ LLw iv rv a0 x i)) := by
  refine Mc.mk (by decide) (Nat.le_of_ble_eq_true rfl) ?_
  intro p e s m args below meth c A C hM
  refine hv3 (Phi.le hW hS) (show XT L cl ln L cl ln from XT.refl) (show fT [] L cl iv rv iv rv from fT.refl) (fun hph hX0 hF0 => ?_)
  refine c_iload_n (j := 2) C dX4_looksLike_0 rfl ?_
  refine c_aload_n (j := 0) (x := a0) C dX4_looksLike_1 rfl ?_
  have ri1 : 0 ≤ iv a0 9 ∧ iv a0 9 ≤ 100 := hW.int t_a0 9
  refine c_get (k := 9) C ck_5 dX4_looksLike_2 w2_0 (by decide) t_a0 rfl rfl (by decide) rfl ?_
  refine c_icmp_ge (tgt := 28) C ⟨by omega, by omega⟩ (r32_c (lo := 0) (hi := 100) ri1.1 ri1.2 (by decide) (by decide)) dX4_looksLike_5 (by decide) (fun c1 => ?_) (fun c1 => ?_)
  · refine c_iconst C dX4_looksLike_28 ?_
    exact c_zret C dX4_looksLike_29 rfl (Or.inl rfl) (by decide) (rom0 hph hph (by decide)) ⟨0, rfl, rfl, rfl, rfl, rfl, rfl, (Or.inl rfl), ⟨fun q => absurd q (by decide), fun q => absurd q.1 (by omega)⟩⟩
  · refine c_iload_n (j := 1) C dX4_looksLike_8 rfl ?_
    refine c_aload_n (j := 0) (x := a0) C dX4_looksLike_9 rfl ?_
    obtain ⟨rb1, rq1, trb1⟩ := hW.ref t_a0 8 rfl rfl rfl
    have lnrb1 : 100 ≤ ln rb1 ∧ ln rb1 ≤ 100 := hW.len trb1 rfl
    refine c_getr (k := 8) C ck_5 dX4_looksLike_10 w1_239 (by decide) t_a0 rfl rfl (by decide) rfl rq1 ?_
    refine c_st (st2 := [.ref rb1, .int (iI x)]) rfl ?_
    refine c_iload_n (j := 2) C dX4_looksLike_13 rfl ?_
    have ll1 : 100 ≤ ln rb1 ∧ ln rb1 ≤ 100 := hW.len trb1 rfl
    refine c_iald C dX4_looksLike_14 trb1 rfl (by omega) (by omega) (by omega) ?_
    have ri2 : (-2147483648) ≤ iv rb1 i.toNat ∧ iv rb1 i.toNat ≤ 2147483647 := hW.int trb1 i.toNat
    obtain ⟨zz1, hzz1, ezz1⟩ := iI_of (iI x ^^^ iI (iv rb1 i.toNat))
    refine c_ixor (w := iI zz1) C dX4_looksLike_15 ezz1 ?_
    refine c_aload_n (j := 0) (x := a0) C dX4_looksLike_16 rfl ?_
    have ri3 : (-2147483648) ≤ iv a0 10 ∧ iv a0 10 ≤ 2147483647 := hW.int t_a0 10
    refine c_get (k := 10) C ck_5 dX4_looksLike_17 w2_1 (by decide) t_a0 rfl rfl (by decide) rfl ?_
    obtain ⟨zz2, hzz2, ezz2⟩ := iI_of (iI zz1 &&& iI (iv a0 10))
    refine c_iand (w := iI zz2) C dX4_looksLike_20 ezz2 ?_
    refine c_if_ne (tgt := 28) C ⟨by omega, by omega⟩ dX4_looksLike_21 (by decide) (fun c2 => ?_) (fun c2 => ?_)
    · refine c_iconst C dX4_looksLike_28 ?_
      exact c_zret C dX4_looksLike_29 rfl (Or.inl rfl) (by decide) (rom0 hph hph (by decide)) ⟨0, rfl, rfl, rfl, rfl, rfl, rfl, (Or.inl rfl), ⟨fun q => absurd q (by decide), fun q => by have q2 := q.2 rb1 rq1; rw [ezz1] at q2; have q3 := (bz_iff ezz2 hzz2).mp q2; omega⟩⟩
    · refine c_iconst C dX4_looksLike_24 ?_
      refine c_goto (tgt := 29) C dX4_looksLike_25 (by decide) ?_
      exact c_zret C dX4_looksLike_29 rfl (Or.inr rfl) (by decide) (rom0 hph hph (by decide)) ⟨1, rfl, rfl, rfl, rfl, rfl, rfl, (Or.inr rfl), ⟨fun _ => ⟨by omega, fun b hb => by rw [rq1] at hb; cases hb; rw [ezz1, ezz2]; exact congrArg iI (show zz2 = 0 by omega)⟩, fun _ => rfl⟩⟩
set_option maxHeartbeats 4000000 in
set_option maxRecDepth 100000 in
theorem C_looksLikeRow {l : Launch} {G : GT} {mi : Nat} {sk : Nat → Nat} {L : List Nat} {cl ln : Nat → Nat} {iv : Nat → Nat → Int} {rv : Nat → Nat → Option Nat}  {a0 : Nat} {a1 : Nat} {i : Int} (hW : WT (g0 G) sk L cl ln iv rv) (hS : SKL sk L cl) (t_a0 : ty L cl a0 17) (t_a1 : ty L cl a1 20) (h_i : -2147483648 ≤ i ∧ i ≤ 2147483647) (hi : 0 ≤ i ∧ i ≤ 1000) : Mc l G mi (Phi (g0 G) sk) PHM yX4_looksLikeRow cX4_looksLikeRow 4 (some .boolean) 1 [.ref a0, .ref a1, .int (iI i)] L cl ln iv rv 0 (fun v L2 cl2 ln2 iv2 rv2 => ∃ f : Int, v = some (.int (iI f)) ∧ L = L2 ∧ cl = cl2 ∧ ln = ln2 ∧ iv = iv2 ∧ rv = rv2 ∧ (f = 0 ∨ f = 1) ∧ (f = 1 ↔ LRw ln iv rv a0 a1 i)) := by
  refine Mc.mk (by decide) (Nat.le_of_ble_eq_true rfl) ?_
  intro p e s m args below meth c A C hM
  refine hv3 (Phi.le hW hS) (show XT L cl ln L cl ln from XT.refl) (show fT [] L cl iv rv iv rv from fT.refl) (fun hph hX0 hF0 => ?_)
  refine c_iconst C dX4_looksLikeRow_0 ?_
  refine c_istore_n (lv2 := [(3, .int (iI 0)), (0, .ref a0), (1, .ref a1), (2, .int (iI i))]) C dX4_looksLikeRow_1 (by decide) rfl ?_
  have Lp1 : ∀ (nn : Nat) (k : Int) , 5 - k < (nn : Int) → (0 ≤ k ∧ k ≤ 4) → (∀ cb, rv a1 2 = some cb → ∀ j : Nat, (j : Int) < k → LLw iv rv a0 (iv cb j) (i + j)) → cw p l e 1 ((PHM) + 0 - ((Phi (g0 G) sk) ln rv)) s m args below meth c G A 4 (MQ below (Qu G A (Qp G (Phi (g0 G) sk) ((Phi (g0 G) sk) ln rv) 0 (fun v L2 cl2 ln2 iv2 rv2 => ∃ f : Int, v = some (.int (iI f)) ∧ L = L2 ∧ cl = cl2 ∧ ln = ln2 ∧ iv = iv2 ∧ rv = rv2 ∧ (f = 0 ∨ f = 1) ∧ (f = 1 ↔ LRw ln iv rv a0 a1 i)))) args s (((PHM) + 0 - ((Phi (g0 G) sk) ln rv)) / 16) ((PHM) + 0 - ((Phi (g0 G) sk) ln rv)) A) (Phi (g0 G) sk) ((Phi (g0 G) sk) ln rv) L cl ln iv rv 0 2 [(3, .int (iI k)), (0, .ref a0), (1, .ref a1), (2, .int (iI i))] [] := by
    intro nn
    induction nn with
    | zero =>
      intro  k  hm   hk hall
      exact absurd hm (by omega)
    | succ nn ih1 =>
      intro  k  hm   hk hall
      refine c_iload_n (j := 0) C dX4_looksLikeRow_2 rfl ?_
      refine c_aload_n (j := 2) (x := a1) C dX4_looksLikeRow_3 rfl ?_
      obtain ⟨rb1, rq1, trb1⟩ := hW.ref t_a1 2 rfl rfl rfl
      have lnrb1 : 1 ≤ ln rb1 ∧ ln rb1 ≤ 4 := hW.len trb1 rfl
      refine c_getr (k := 2) C ck_6 dX4_looksLikeRow_4 w3_144 (by decide) t_a1 rfl rfl (by decide) rfl rq1 ?_
      refine c_st (st2 := [.ref rb1, .int (iI k)]) rfl ?_
      have ll1 : 1 ≤ ln rb1 ∧ ln rb1 ≤ 4 := hW.len trb1 rfl
      refine c_alenI C dX4_looksLikeRow_7 trb1 rfl ?_
      refine c_icmp_ge (tgt := 35) C (r32_c (lo := 0) (hi := 4) hk.1 hk.2 (by decide) (by decide)) ⟨by omega, by omega⟩ dX4_looksLikeRow_8 (by decide) (fun c1 => ?_) (fun c1 => ?_)
      · refine c_iconst C dX4_looksLikeRow_35 ?_
        exact c_zret C dX4_looksLikeRow_36 rfl (Or.inr rfl) (by decide) (rom0 hph hph (by decide)) ⟨1, rfl, rfl, rfl, rfl, rfl, rfl, (Or.inr rfl), ⟨fun _ cb hb j hj => hall cb hb j (by rw [rq1] at hb; cases hb; omega), fun _ => rfl⟩⟩
      · refine c_aload_n (j := 1) (x := a0) C dX4_looksLikeRow_11 rfl ?_
        refine c_aload_n (j := 2) (x := a1) C dX4_looksLikeRow_12 rfl ?_
        refine c_getr (k := 2) C ck_6 dX4_looksLikeRow_13 w3_144 (by decide) t_a1 rfl rfl (by decide) rfl rq1 ?_
        refine c_st (st2 := [.ref rb1, .ref a0]) rfl ?_
        refine c_iload_n (j := 0) C dX4_looksLikeRow_16 rfl ?_
        refine c_iald C dX4_looksLikeRow_17 trb1 rfl (by omega) (by omega) (by omega) ?_
        have ri1 : (-2147483648) ≤ iv rb1 k.toNat ∧ iv rb1 k.toNat ≤ 2147483647 := hW.int trb1 k.toNat
        refine c_iload_n (j := 3) C dX4_looksLikeRow_18 rfl ?_
        refine c_iload_n (j := 0) C dX4_looksLikeRow_19 rfl ?_
        refine c_iadd C dX4_looksLikeRow_20 ?_
        refine d_callV (As := [.int (iI (iv rb1 k.toNat)), .int (iI (i + k))]) (rest := []) C hM (C_looksLike (a0 := a0) (x := iv rb1 k.toNat) (i := i + k) hW hS t_a0 (by omega) (by omega) (by show 0 ≤ (i + k); omega)) dX4_looksLikeRow_21 kV_X4_106 rfl t_a0 rfl rfl (by decide) ck_5 rfl (Nat.le_of_ble_eq_true rfl) ⟨(Nat.le_of_ble_eq_true rfl), (Nat.le_of_ble_eq_true rfl)⟩ hph hph (show 0 + 0 = 0 from rfl) (by decide) (fun rh1 Lh1 clh1 lnh1 ivh1 rvh1 h1 => ?_)
        obtain ⟨f1, rfl, rfl, rfl, rfl, rfl, rfl, rgf1, exf1⟩ := h1
        refine c_st (st2 := [.int (iI f1)]) rfl ?_
        have gf1 : f1 = 1 ↔ LLw iv rv a0 (iv rb1 k.toNat) (i + k) := exf1
        refine c_if_ne (tgt := 29) C ⟨by omega, by omega⟩ dX4_looksLikeRow_24 (by decide) (fun c2 => ?_) (fun c2 => ?_)
        · refine c_iinc (z := k) (j := 0) (lv2 := [(3, .int (iI (k + 1))), (0, .ref a0), (1, .ref a1), (2, .int (iI i))]) C dX4_looksLikeRow_29 rfl (by decide) rfl ?_
          refine c_goto (tgt := 2) C dX4_looksLikeRow_32 (by decide) ?_
          refine c_lv (lv2 := [(3, .int (iI (k + 1))), (0, .ref a0), (1, .ref a1), (2, .int (iI i))]) [0, 1, 2, 3] rfl ?_
          exact ih1  (k + 1)  (by omega)   (by omega) (fun cb hb j hj => by
              by_cases e : (j : Int) < k
              · exact hall cb hb j e
              · have e2 : j = k.toNat := by omega
                rw [rq1] at hb; cases hb; subst e2; rw [show i + ((k.toNat : Nat) : Int) = i + k by omega]; exact gf1.mp (by omega))
        · refine c_iconst C dX4_looksLikeRow_27 ?_
          exact c_zret C dX4_looksLikeRow_28 rfl (Or.inl rfl) (by decide) (rom0 hph hph (by decide)) ⟨0, rfl, rfl, rfl, rfl, rfl, rfl, (Or.inl rfl), ⟨fun q => absurd q (by decide), fun q => by have q2 := q rb1 rq1 k.toNat (by omega); rw [show i + ((k.toNat : Nat) : Int) = i + k by omega] at q2; have q3 := gf1.mpr q2; omega⟩⟩
  refine c_lv (lv2 := [(3, .int (iI 0)), (0, .ref a0), (1, .ref a1), (2, .int (iI i))]) [0, 1, 2, 3] rfl ?_
  exact Lp1 7 0  (by omega)   (by omega) (fun _ _ j hj => absurd hj (by omega))
