set_option maxHeartbeats 4000000 in
set_option maxRecDepth 100000 in
theorem C_beginsSmall {l : Launch} {G : GT} {mi : Nat} {sk : Nat → Nat} {L : List Nat} {cl ln : Nat → Nat} {iv : Nat → Nat → Int} {rv : Nat → Nat → Option Nat}  {a0 : Nat} (hW : WT (g0 G) sk L cl ln iv rv) (hS : SKL sk L cl) (t_a0 : ty L cl a0 20)  : Mc l G mi (Phi (g0 G) sk) PHM yX5_beginsSmall cX5_beginsSmall 1 (some .boolean) 1 [.ref a0] L cl ln iv rv 0 (fun v L2 cl2 ln2 iv2 rv2 => ∃ f : Int, v = some (.int (iI f)) ∧ L = L2 ∧ cl = cl2 ∧ ln = ln2 ∧ iv = iv2 ∧ rv = rv2 ∧ (f = 0 ∨ f = 1) ∧ (True)) := by
  refine Mc.mk (by decide) (Nat.le_of_ble_eq_true rfl) ?_
  intro p e s m args below meth c A C hM
  refine hv3 (Phi.le hW hS) (show XT L cl ln L cl ln from XT.refl) (show fT [] L cl iv rv iv rv from fT.refl) (fun hph hX0 hF0 => ?_)
  refine c_aload_n (j := 0) (x := a0) C dX5_beginsSmall_0 rfl ?_
  have ri1 : (-2147483648) ≤ iv a0 0 ∧ iv a0 0 ≤ 2147483647 := hW.int t_a0 0
  refine c_get (k := 0) C ck_6 dX5_beginsSmall_1 w3_135 (by decide) t_a0 rfl rfl (by decide) rfl ?_
  refine c_iconst C dX5_beginsSmall_4 ?_
  refine c_icmp_ne (tgt := 32) C (r32_c (lo := (-2147483648)) (hi := 2147483647) ri1.1 ri1.2 (by decide) (by decide)) ⟨by decide, by decide⟩ dX5_beginsSmall_5 (by decide) (fun c1 => ?_) (fun c1 => ?_)
  · refine c_iconst C dX5_beginsSmall_32 ?_
    exact c_zret C dX5_beginsSmall_33 rfl (Or.inl rfl) (by decide) (rom0 hph hph (by decide)) ⟨0, rfl, rfl, rfl, rfl, rfl, rfl, (Or.inl rfl), trivial⟩
  · refine c_aload_n (j := 0) (x := a0) C dX5_beginsSmall_8 rfl ?_
    obtain ⟨rb1, rq1, trb1⟩ := hW.ref t_a0 1 rfl rfl rfl
    have lnrb1 : 0 ≤ ln rb1 ∧ ln rb1 ≤ 8 := hW.len trb1 rfl
    refine c_getr (k := 1) C ck_6 dX5_beginsSmall_9 w3_138 (by decide) t_a0 rfl rfl (by decide) rfl rq1 ?_
    refine c_st (st2 := [.ref rb1]) rfl ?_
    have ll1 : 0 ≤ ln rb1 ∧ ln rb1 ≤ 8 := hW.len trb1 rfl
    refine c_alenI C dX5_beginsSmall_12 trb1 rfl ?_
    refine c_if_le (tgt := 32) C ⟨by omega, by omega⟩ dX5_beginsSmall_13 (by decide) (fun c2 => ?_) (fun c2 => ?_)
    · refine c_iconst C dX5_beginsSmall_32 ?_
      exact c_zret C dX5_beginsSmall_33 rfl (Or.inl rfl) (by decide) (rom0 hph hph (by decide)) ⟨0, rfl, rfl, rfl, rfl, rfl, rfl, (Or.inl rfl), trivial⟩
    · refine c_aload_n (j := 0) (x := a0) C dX5_beginsSmall_16 rfl ?_
      refine c_getr (k := 1) C ck_6 dX5_beginsSmall_17 w3_138 (by decide) t_a0 rfl rfl (by decide) rfl rq1 ?_
      refine c_st (st2 := [.ref rb1]) rfl ?_
      refine c_iconst C dX5_beginsSmall_20 ?_
      refine c_iald C dX5_beginsSmall_21 trb1 rfl (by omega) (by omega) (by omega) ?_
      have ri2 : (-2147483648) ≤ iv rb1 ((0 : Int).toNat) ∧ iv rb1 ((0 : Int).toNat) ≤ 2147483647 := hW.int trb1 ((0 : Int).toNat)
      refine c_callSN0 (As := [.int (iI (iv rb1 (0 : Int).toNat))]) (rest := []) C (fun L E => s11_isSmall (iI (iv rb1 (0 : Int).toNat))) dX5_beginsSmall_22 kSN_X5_25 rfl rfl (Nat.le_of_ble_eq_true rfl) ⟨(Nat.le_of_ble_eq_true rfl), (Nat.le_of_ble_eq_true rfl)⟩ (rom0 hph hph (by decide)) ?_
      rcases inn_c (x := iv rb1 (0 : Int).toNat) (lo := 97) (hi := 122) ⟨by omega, by omega⟩ ⟨by decide, by decide⟩ ⟨by decide, by decide⟩ with ⟨hs1a, hs1b, hs1e⟩ | ⟨hs1a, hs1e⟩
      · refine c_st (st2 := [.int (iI 1)]) (by rw [show inn (iI (iv rb1 (0 : Int).toNat)) 97 122 = iI 1 from hs1e]) ?_
        refine c_if_eq (tgt := 32) C ⟨by decide, by decide⟩ dX5_beginsSmall_25 (by decide) (fun z => absurd z (by omega)) (fun _ => ?_)
        refine c_iconst C dX5_beginsSmall_28 ?_
        refine c_goto (tgt := 33) C dX5_beginsSmall_29 (by decide) ?_
        exact c_zret C dX5_beginsSmall_33 rfl (Or.inr rfl) (by decide) (rom0 hph hph (by decide)) ⟨1, rfl, rfl, rfl, rfl, rfl, rfl, (Or.inr rfl), trivial⟩
      · refine c_st (st2 := [.int (iI 0)]) (by rw [show inn (iI (iv rb1 (0 : Int).toNat)) 97 122 = iI 0 from hs1e]) ?_
        refine c_if_eq (tgt := 32) C ⟨by decide, by decide⟩ dX5_beginsSmall_25 (by decide) (fun _ => ?_) (fun z => absurd z (by omega))
        refine c_iconst C dX5_beginsSmall_32 ?_
        exact c_zret C dX5_beginsSmall_33 rfl (Or.inl rfl) (by decide) (rom0 hph hph (by decide)) ⟨0, rfl, rfl, rfl, rfl, rfl, rfl, (Or.inl rfl), trivial⟩
set_option maxHeartbeats 4000000 in
set_option maxRecDepth 100000 in
theorem C_alike {l : Launch} {G : GT} {mi : Nat} {sk : Nat → Nat} {L : List Nat} {cl ln : Nat → Nat} {iv : Nat → Nat → Int} {rv : Nat → Nat → Option Nat}  {a0 : Nat} {a1 : Nat} (hW : WT (g0 G) sk L cl ln iv rv) (hS : SKL sk L cl) (t_a0 : ty L cl a0 20) (t_a1 : ty L cl a1 20)  : Mc l G mi (Phi (g0 G) sk) PHM yX5_alike cX5_alike 4 (some .int) 1 [.ref a0, .ref a1] L cl ln iv rv 0 (fun v L2 cl2 ln2 iv2 rv2 => ∃ f : Int, v = some (.int (iI f)) ∧ L = L2 ∧ cl = cl2 ∧ ln = ln2 ∧ iv = iv2 ∧ rv = rv2 ∧ (-2147483648 ≤ f ∧ f ≤ 2147483647) ∧ (0 ≤ f ∧ f ≤ 4)) := by
  refine Mc.mk (by decide) (Nat.le_of_ble_eq_true rfl) ?_
  intro p e s m args below meth c A C hM
  refine hv3 (Phi.le hW hS) (show XT L cl ln L cl ln from XT.refl) (show fT [] L cl iv rv iv rv from fT.refl) (fun hph hX0 hF0 => ?_)
  refine c_aload_n (j := 0) (x := a0) C dX5_alike_0 rfl ?_
  obtain ⟨rb1, rq1, trb1⟩ := hW.ref t_a0 2 rfl rfl rfl
  have lnrb1 : 1 ≤ ln rb1 ∧ ln rb1 ≤ 4 := hW.len trb1 rfl
  refine c_getr (k := 2) C ck_6 dX5_alike_1 w3_142 (by decide) t_a0 rfl rfl (by decide) rfl rq1 ?_
  refine c_st (st2 := [.ref rb1]) rfl ?_
  have ll1 : 1 ≤ ln rb1 ∧ ln rb1 ≤ 4 := hW.len trb1 rfl
  refine c_alenI C dX5_alike_4 trb1 rfl ?_
  refine c_aload_n (j := 1) (x := a1) C dX5_alike_5 rfl ?_
  obtain ⟨rb2, rq2, trb2⟩ := hW.ref t_a1 2 rfl rfl rfl
  have lnrb2 : 1 ≤ ln rb2 ∧ ln rb2 ≤ 4 := hW.len trb2 rfl
  refine c_getr (k := 2) C ck_6 dX5_alike_6 w3_142 (by decide) t_a1 rfl rfl (by decide) rfl rq2 ?_
  refine c_st (st2 := [.ref rb2, .int (iI ((ln rb1 : Nat) : Int))]) rfl ?_
  have ll2 : 1 ≤ ln rb2 ∧ ln rb2 ≤ 4 := hW.len trb2 rfl
  refine c_alenI C dX5_alike_9 trb2 rfl ?_
  obtain ⟨mn1, hmn1, emn1⟩ := mmin_c (x := ((ln rb1 : Nat) : Int)) (y := ((ln rb2 : Nat) : Int)) ⟨by omega, by omega⟩ ⟨by omega, by omega⟩
  refine c_mmin (w := iI mn1) C dX5_alike_10 w5_205 w2_129 w1_14 w2_130 (by decide) (rom0 hph hph (by decide)) (Nat.le_of_ble_eq_true rfl) emn1 ?_
  refine c_istore_n (lv2 := [(2, .int (iI mn1)), (0, .ref a0), (1, .ref a1)]) C dX5_alike_13 (by decide) rfl ?_
  refine c_iconst C dX5_alike_14 ?_
  refine c_istore_n (lv2 := [(3, .int (iI 0)), (2, .int (iI mn1)), (0, .ref a0), (1, .ref a1)]) C dX5_alike_15 (by decide) rfl ?_
  have Lp1 : ∀ (nn : Nat) (k : Int) , 5 - k < (nn : Int) → (0 ≤ k ∧ k ≤ 4) → cw p l e 1 ((PHM) + 0 - ((Phi (g0 G) sk) ln rv)) s m args below meth c G A 4 (MQ below (Qu G A (Qp G (Phi (g0 G) sk) ((Phi (g0 G) sk) ln rv) 0 (fun v L2 cl2 ln2 iv2 rv2 => ∃ f : Int, v = some (.int (iI f)) ∧ L = L2 ∧ cl = cl2 ∧ ln = ln2 ∧ iv = iv2 ∧ rv = rv2 ∧ (-2147483648 ≤ f ∧ f ≤ 2147483647) ∧ (0 ≤ f ∧ f ≤ 4)))) args s (((PHM) + 0 - ((Phi (g0 G) sk) ln rv)) / 16) ((PHM) + 0 - ((Phi (g0 G) sk) ln rv)) A) (Phi (g0 G) sk) ((Phi (g0 G) sk) ln rv) L cl ln iv rv 0 16 [(3, .int (iI k)), (2, .int (iI mn1)), (0, .ref a0), (1, .ref a1)] [] := by
    intro nn
    induction nn with
    | zero =>
      intro  k  hm   hk
      exact absurd hm (by omega)
    | succ nn ih1 =>
      intro  k  hm   hk
      refine c_iload_n (j := 0) C dX5_alike_16 rfl ?_
      refine c_iload_n (j := 1) C dX5_alike_17 rfl ?_
      refine c_icmp_ge (tgt := 44) C (r32_c (lo := 0) (hi := 4) hk.1 hk.2 (by decide) (by decide)) ⟨by omega, by omega⟩ dX5_alike_18 (by decide) (fun c1 => ?_) (fun c1 => ?_)
      · refine c_iload_n (j := 1) C dX5_alike_44 rfl ?_
        exact c_iret C dX5_alike_45 rfl (by decide) (rom0 hph hph (by decide)) ⟨mn1, rfl, rfl, rfl, rfl, rfl, rfl, ⟨by omega, by omega⟩, (by omega)⟩
      · refine c_aload_n (j := 2) (x := a0) C dX5_alike_21 rfl ?_
        refine c_getr (k := 2) C ck_6 dX5_alike_22 w3_142 (by decide) t_a0 rfl rfl (by decide) rfl rq1 ?_
        refine c_st (st2 := [.ref rb1]) rfl ?_
        refine c_iload_n (j := 0) C dX5_alike_25 rfl ?_
        refine c_iald C dX5_alike_26 trb1 rfl (by omega) (by omega) (by omega) ?_
        have ri1 : (-2147483648) ≤ iv rb1 k.toNat ∧ iv rb1 k.toNat ≤ 2147483647 := hW.int trb1 k.toNat
        refine c_aload_n (j := 3) (x := a1) C dX5_alike_27 rfl ?_
        refine c_getr (k := 2) C ck_6 dX5_alike_28 w3_142 (by decide) t_a1 rfl rfl (by decide) rfl rq2 ?_
        refine c_st (st2 := [.ref rb2, .int (iI (iv rb1 k.toNat))]) rfl ?_
        refine c_iload_n (j := 0) C dX5_alike_31 rfl ?_
        refine c_iald C dX5_alike_32 trb2 rfl (by omega) (by omega) (by omega) ?_
        have ri2 : (-2147483648) ≤ iv rb2 k.toNat ∧ iv rb2 k.toNat ≤ 2147483647 := hW.int trb2 k.toNat
        refine c_icmp_eq (tgt := 38) C (r32_c (lo := (-2147483648)) (hi := 2147483647) ri1.1 ri1.2 (by decide) (by decide)) (r32_c (lo := (-2147483648)) (hi := 2147483647) ri2.1 ri2.2 (by decide) (by decide)) dX5_alike_33 (by decide) (fun c2 => ?_) (fun c2 => ?_)
        · refine c_iinc (z := k) (j := 0) (lv2 := [(3, .int (iI (k + 1))), (2, .int (iI mn1)), (0, .ref a0), (1, .ref a1)]) C dX5_alike_38 rfl (by decide) rfl ?_
          refine c_goto (tgt := 16) C dX5_alike_41 (by decide) ?_
          refine c_lv (lv2 := [(3, .int (iI (k + 1))), (2, .int (iI mn1)), (0, .ref a0), (1, .ref a1)]) [0, 1, 2, 3] rfl ?_
          exact ih1  (k + 1)  (by omega)   (by omega)
        · refine c_iload_n (j := 0) C dX5_alike_36 rfl ?_
          exact c_iret C dX5_alike_37 rfl (by decide) (rom0 hph hph (by decide)) ⟨k, rfl, rfl, rfl, rfl, rfl, rfl, ⟨by omega, by omega⟩, (by omega)⟩
  refine c_lv (lv2 := [(3, .int (iI 0)), (2, .int (iI mn1)), (0, .ref a0), (1, .ref a1)]) [0, 1, 2, 3] rfl ?_
  exact Lp1 6 0  (by omega)   (by omega)
set_option maxHeartbeats 4000000 in
set_option maxRecDepth 100000 in
theorem C_isAtBegin {l : Launch} {G : GT} {mi : Nat} {sk : Nat → Nat} {L : List Nat} {cl ln : Nat → Nat} {iv : Nat → Nat → Int} {rv : Nat → Nat → Option Nat}  {a0 : Nat} {a1 : Nat} (hW : WT (g0 G) sk L cl ln iv rv) (hS : SKL sk L cl) (t_a0 : ty L cl a0 20) (t_a1 : ty L cl a1 20)  : Mc l G mi (Phi (g0 G) sk) PHM yX5_isAtBeginOf cX5_isAtBeginOf 2 (some .boolean) 2 [.ref a0, .ref a1] L cl ln iv rv 0 (fun v L2 cl2 ln2 iv2 rv2 => ∃ f : Int, v = some (.int (iI f)) ∧ L = L2 ∧ cl = cl2 ∧ ln = ln2 ∧ iv = iv2 ∧ rv = rv2 ∧ (f = 0 ∨ f = 1) ∧ (True)) := by
  refine Mc.mk (by decide) (Nat.le_of_ble_eq_true rfl) ?_
  intro p e s m args below meth c A C hM
  refine hv3 (Phi.le hW hS) (show XT L cl ln L cl ln from XT.refl) (show fT [] L cl iv rv iv rv from fT.refl) (fun hph hX0 hF0 => ?_)
  refine c_aload_n (j := 0) (x := a0) C dX5_isAtBeginOf_0 rfl ?_
  refine c_aload_n (j := 1) (x := a1) C dX5_isAtBeginOf_1 rfl ?_
  refine d_callV (As := [.ref a1]) (rest := []) C hM (C_alike (a0 := a0) (a1 := a1) hW hS t_a0 t_a1  ) dX5_isAtBeginOf_2 kV_X5_35 rfl t_a0 rfl rfl (by decide) ck_6 rfl (Nat.le_of_ble_eq_true rfl) ⟨(Nat.le_of_ble_eq_true rfl), (Nat.le_of_ble_eq_true rfl)⟩ hph hph (show 0 + 0 = 0 from rfl) (by decide) (fun rh1 Lh1 clh1 lnh1 ivh1 rvh1 h1 => ?_)
  obtain ⟨f1, rfl, rfl, rfl, rfl, rfl, rfl, rgf1, exf1⟩ := h1
  refine c_st (st2 := [.int (iI f1)]) rfl ?_
  have gf1 : 0 ≤ f1 ∧ f1 ≤ 4 := exf1
  refine c_aload_n (j := 0) (x := a0) C dX5_isAtBeginOf_5 rfl ?_
  obtain ⟨rb1, rq1, trb1⟩ := hW.ref t_a0 2 rfl rfl rfl
  have lnrb1 : 1 ≤ ln rb1 ∧ ln rb1 ≤ 4 := hW.len trb1 rfl
  refine c_getr (k := 2) C ck_6 dX5_isAtBeginOf_6 w3_142 (by decide) t_a0 rfl rfl (by decide) rfl rq1 ?_
  refine c_st (st2 := [.ref rb1, .int (iI f1)]) rfl ?_
  have ll1 : 1 ≤ ln rb1 ∧ ln rb1 ≤ 4 := hW.len trb1 rfl
  refine c_alenI C dX5_isAtBeginOf_9 trb1 rfl ?_
  refine c_icmp_ne (tgt := 17) C (r32_c (lo := 0) (hi := 4) gf1.1 gf1.2 (by decide) (by decide)) ⟨by omega, by omega⟩ dX5_isAtBeginOf_10 (by decide) (fun c1 => ?_) (fun c1 => ?_)
  · refine c_iconst C dX5_isAtBeginOf_17 ?_
    exact c_zret C dX5_isAtBeginOf_18 rfl (Or.inl rfl) (by decide) (rom0 hph hph (by decide)) ⟨0, rfl, rfl, rfl, rfl, rfl, rfl, (Or.inl rfl), trivial⟩
  · refine c_iconst C dX5_isAtBeginOf_13 ?_
    refine c_goto (tgt := 18) C dX5_isAtBeginOf_14 (by decide) ?_
    exact c_zret C dX5_isAtBeginOf_18 rfl (Or.inr rfl) (by decide) (rom0 hph hph (by decide)) ⟨1, rfl, rfl, rfl, rfl, rfl, rfl, (Or.inr rfl), trivial⟩
set_option maxHeartbeats 4000000 in
set_option maxRecDepth 100000 in
theorem C_rends {l : Launch} {G : GT} {mi : Nat} {sk : Nat → Nat} {L : List Nat} {cl ln : Nat → Nat} {iv : Nat → Nat → Int} {rv : Nat → Nat → Option Nat}  {a0 : Nat} {x : Int} (hW : WT (g0 G) sk L cl ln iv rv) (hS : SKL sk L cl) (t_a0 : ty L cl a0 20) (h_x : -2147483648 ≤ x ∧ x ≤ 2147483647)  : Mc l G mi (Phi (g0 G) sk) PHM yX5_endsWith cX5_endsWith 2 (some .boolean) 0 [.ref a0, .int (iI x)] L cl ln iv rv 0 (fun v L2 cl2 ln2 iv2 rv2 => ∃ f : Int, v = some (.int (iI f)) ∧ L = L2 ∧ cl = cl2 ∧ ln = ln2 ∧ iv = iv2 ∧ rv = rv2 ∧ (f = 0 ∨ f = 1) ∧ (True)) := by
  refine Mc.mk (by decide) (Nat.le_of_ble_eq_true rfl) ?_
  intro p e s m args below meth c A C hM
  refine hv3 (Phi.le hW hS) (show XT L cl ln L cl ln from XT.refl) (show fT [] L cl iv rv iv rv from fT.refl) (fun hph hX0 hF0 => ?_)
  refine c_aload_n (j := 0) (x := a0) C dX5_endsWith_0 rfl ?_
  obtain ⟨rb1, rq1, trb1⟩ := hW.ref t_a0 2 rfl rfl rfl
  have lnrb1 : 1 ≤ ln rb1 ∧ ln rb1 ≤ 4 := hW.len trb1 rfl
  refine c_getr (k := 2) C ck_6 dX5_endsWith_1 w3_142 (by decide) t_a0 rfl rfl (by decide) rfl rq1 ?_
  refine c_st (st2 := [.ref rb1]) rfl ?_
  have ll1 : 1 ≤ ln rb1 ∧ ln rb1 ≤ 4 := hW.len trb1 rfl
  refine c_alenI C dX5_endsWith_4 trb1 rfl ?_
  refine c_if_le (tgt := 28) C ⟨by omega, by omega⟩ dX5_endsWith_5 (by decide) (fun c1 => ?_) (fun c1 => ?_)
  · refine c_iconst C dX5_endsWith_28 ?_
    exact c_zret C dX5_endsWith_29 rfl (Or.inl rfl) (by decide) (rom0 hph hph (by decide)) ⟨0, rfl, rfl, rfl, rfl, rfl, rfl, (Or.inl rfl), trivial⟩
  · refine c_aload_n (j := 0) (x := a0) C dX5_endsWith_8 rfl ?_
    refine c_getr (k := 2) C ck_6 dX5_endsWith_9 w3_142 (by decide) t_a0 rfl rfl (by decide) rfl rq1 ?_
    refine c_st (st2 := [.ref rb1]) rfl ?_
    refine c_aload_n (j := 0) (x := a0) C dX5_endsWith_12 rfl ?_
    refine c_getr (k := 2) C ck_6 dX5_endsWith_13 w3_142 (by decide) t_a0 rfl rfl (by decide) rfl rq1 ?_
    refine c_st (st2 := [.ref rb1, .ref rb1]) rfl ?_
    refine c_alenI C dX5_endsWith_16 trb1 rfl ?_
    refine c_iconst C dX5_endsWith_17 ?_
    refine c_isub C dX5_endsWith_18 ?_
    refine c_iald C dX5_endsWith_19 trb1 rfl (by omega) (by omega) (by omega) ?_
    have ri1 : (-2147483648) ≤ iv rb1 ((((ln rb1 : Nat) : Int) - 1).toNat) ∧ iv rb1 ((((ln rb1 : Nat) : Int) - 1).toNat) ≤ 2147483647 := hW.int trb1 ((((ln rb1 : Nat) : Int) - 1).toNat)
    refine c_iload_n (j := 1) C dX5_endsWith_20 rfl ?_
    refine c_icmp_ne (tgt := 28) C ⟨by omega, by omega⟩ ⟨by omega, by omega⟩ dX5_endsWith_21 (by decide) (fun c2 => ?_) (fun c2 => ?_)
    · refine c_iconst C dX5_endsWith_28 ?_
      exact c_zret C dX5_endsWith_29 rfl (Or.inl rfl) (by decide) (rom0 hph hph (by decide)) ⟨0, rfl, rfl, rfl, rfl, rfl, rfl, (Or.inl rfl), trivial⟩
    · refine c_iconst C dX5_endsWith_24 ?_
      refine c_goto (tgt := 29) C dX5_endsWith_25 (by decide) ?_
      exact c_zret C dX5_endsWith_29 rfl (Or.inr rfl) (by decide) (rom0 hph hph (by decide)) ⟨1, rfl, rfl, rfl, rfl, rfl, rfl, (Or.inr rfl), trivial⟩
set_option maxHeartbeats 4000000 in
set_option maxRecDepth 100000 in
theorem C_standsAt {l : Launch} {G : GT} {mi : Nat} {sk : Nat → Nat} {L : List Nat} {cl ln : Nat → Nat} {iv : Nat → Nat → Int} {rv : Nat → Nat → Option Nat}  {a0 : Nat} {a1 : Nat} {i : Int} (hW : WT (g0 G) sk L cl ln iv rv) (hS : SKL sk L cl) (t_a0 : ty L cl a0 20) (t_a1 : ty L cl a1 8) (h_i : -2147483648 ≤ i ∧ i ≤ 2147483647)  : Mc l G mi (Phi (g0 G) sk) PHM yX5_standsAt cX5_standsAt 4 (some .boolean) 0 [.ref a0, .ref a1, .int (iI i)] L cl ln iv rv 0 (fun v L2 cl2 ln2 iv2 rv2 => ∃ f : Int, v = some (.int (iI f)) ∧ L = L2 ∧ cl = cl2 ∧ ln = ln2 ∧ iv = iv2 ∧ rv = rv2 ∧ (f = 0 ∨ f = 1) ∧ (True)) := by
  refine Mc.mk (by decide) (Nat.le_of_ble_eq_true rfl) ?_
  intro p e s m args below meth c A C hM
  refine hv3 (Phi.le hW hS) (show XT L cl ln L cl ln from XT.refl) (show fT [] L cl iv rv iv rv from fT.refl) (fun hph hX0 hF0 => ?_)
  refine c_iload_n (j := 2) C dX5_standsAt_0 rfl ?_
  refine c_if_lt (tgt := 18) C ⟨by omega, by omega⟩ dX5_standsAt_1 (by decide) (fun c1 => ?_) (fun c1 => ?_)
  · refine c_iconst C dX5_standsAt_18 ?_
    exact c_zret C dX5_standsAt_19 rfl (Or.inl rfl) (by decide) (rom0 hph hph (by decide)) ⟨0, rfl, rfl, rfl, rfl, rfl, rfl, (Or.inl rfl), trivial⟩
  · refine c_aload_n (j := 0) (x := a0) C dX5_standsAt_4 rfl ?_
    obtain ⟨rb1, rq1, trb1⟩ := hW.ref t_a0 2 rfl rfl rfl
    have lnrb1 : 1 ≤ ln rb1 ∧ ln rb1 ≤ 4 := hW.len trb1 rfl
    refine c_getr (k := 2) C ck_6 dX5_standsAt_5 w3_142 (by decide) t_a0 rfl rfl (by decide) rfl rq1 ?_
    refine c_st (st2 := [.ref rb1]) rfl ?_
    have ll1 : 1 ≤ ln rb1 ∧ ln rb1 ≤ 4 := hW.len trb1 rfl
    refine c_alenI C dX5_standsAt_8 trb1 rfl ?_
    refine c_aload_n (j := 1) (x := a1) C dX5_standsAt_9 rfl ?_
    have ri1 : 0 ≤ iv a1 2 ∧ iv a1 2 ≤ 40200 := hW.int t_a1 2
    refine c_get (k := 2) C ck_2 dX5_standsAt_10 w1_46 (by decide) t_a1 rfl rfl (by decide) rfl ?_
    refine c_iload_n (j := 2) C dX5_standsAt_13 rfl ?_
    refine c_isub C dX5_standsAt_14 ?_
    refine c_icmp_le (tgt := 20) C ⟨by omega, by omega⟩ ⟨by omega, by omega⟩ dX5_standsAt_15 (by decide) (fun c2 => ?_) (fun c2 => ?_)
    · refine c_iconst C dX5_standsAt_20 ?_
      refine c_istore_n (lv2 := [(3, .int (iI 0)), (0, .ref a0), (1, .ref a1), (2, .int (iI i))]) C dX5_standsAt_21 (by decide) rfl ?_
      have Lp1 : ∀ (nn : Nat) (k : Int) , 5 - k < (nn : Int) → (0 ≤ k ∧ k ≤ 4) → (0 ≤ i) → cw p l e 0 ((PHM) + 0 - ((Phi (g0 G) sk) ln rv)) s m args below meth c G A 4 (MQ below (Qu G A (Qp G (Phi (g0 G) sk) ((Phi (g0 G) sk) ln rv) 0 (fun v L2 cl2 ln2 iv2 rv2 => ∃ f : Int, v = some (.int (iI f)) ∧ L = L2 ∧ cl = cl2 ∧ ln = ln2 ∧ iv = iv2 ∧ rv = rv2 ∧ (f = 0 ∨ f = 1) ∧ (True)))) args s (((PHM) + 0 - ((Phi (g0 G) sk) ln rv)) / 16) ((PHM) + 0 - ((Phi (g0 G) sk) ln rv)) A) (Phi (g0 G) sk) ((Phi (g0 G) sk) ln rv) L cl ln iv rv 0 22 [(3, .int (iI k)), (0, .ref a0), (1, .ref a1), (2, .int (iI i))] [] := by
        intro nn
        induction nn with
        | zero =>
          intro  k  hm   hk hi0
          exact absurd hm (by omega)
        | succ nn ih1 =>
          intro  k  hm   hk hi0
          refine c_iload_n (j := 0) C dX5_standsAt_22 rfl ?_
          refine c_aload_n (j := 1) (x := a0) C dX5_standsAt_23 rfl ?_
          refine c_getr (k := 2) C ck_6 dX5_standsAt_24 w3_142 (by decide) t_a0 rfl rfl (by decide) rfl rq1 ?_
          refine c_st (st2 := [.ref rb1, .int (iI k)]) rfl ?_
          refine c_alenI C dX5_standsAt_27 trb1 rfl ?_
          refine c_icmp_ge (tgt := 56) C (r32_c (lo := 0) (hi := 4) hk.1 hk.2 (by decide) (by decide)) ⟨by omega, by omega⟩ dX5_standsAt_28 (by decide) (fun c3 => ?_) (fun c3 => ?_)
          · refine c_iconst C dX5_standsAt_56 ?_
            exact c_zret C dX5_standsAt_57 rfl (Or.inr rfl) (by decide) (rom0 hph hph (by decide)) ⟨1, rfl, rfl, rfl, rfl, rfl, rfl, (Or.inr rfl), trivial⟩
          · refine c_aload_n (j := 1) (x := a0) C dX5_standsAt_31 rfl ?_
            refine c_getr (k := 2) C ck_6 dX5_standsAt_32 w3_142 (by decide) t_a0 rfl rfl (by decide) rfl rq1 ?_
            refine c_st (st2 := [.ref rb1]) rfl ?_
            refine c_iload_n (j := 0) C dX5_standsAt_35 rfl ?_
            refine c_iald C dX5_standsAt_36 trb1 rfl (by omega) (by omega) (by omega) ?_
            have ri2 : (-2147483648) ≤ iv rb1 k.toNat ∧ iv rb1 k.toNat ≤ 2147483647 := hW.int trb1 k.toNat
            refine c_aload_n (j := 2) (x := a1) C dX5_standsAt_37 rfl ?_
            obtain ⟨rb2, rq2, trb2⟩ := hW.ref t_a1 1 rfl rfl rfl
            refine hv2 (show 16 ≤ ln rb2 ∧ ln rb2 ≤ 80400 from hW.len trb2 rfl) (hW.isz t_a1 rfl rfl rq2) (fun lnrb2 szrb2 => ?_)
            refine c_getr (k := 1) C ck_2 dX5_standsAt_38 w1_40 (by decide) t_a1 rfl rfl (by decide) rfl rq2 ?_
            refine c_st (st2 := [.ref rb2, .int (iI (iv rb1 k.toNat))]) rfl ?_
            refine c_iload_n (j := 3) C dX5_standsAt_41 rfl ?_
            refine c_iload_n (j := 0) C dX5_standsAt_42 rfl ?_
            refine c_iadd C dX5_standsAt_43 ?_
            have ll2 : 16 ≤ ln rb2 ∧ ln rb2 ≤ 80400 := hW.len trb2 rfl
            refine c_iald C dX5_standsAt_44 trb2 rfl (by omega) (by omega) (by omega) ?_
            have ri3 : (-2147483648) ≤ iv rb2 ((i + k).toNat) ∧ iv rb2 ((i + k).toNat) ≤ 2147483647 := hW.int trb2 ((i + k).toNat)
            refine c_icmp_eq (tgt := 50) C (r32_c (lo := (-2147483648)) (hi := 2147483647) ri2.1 ri2.2 (by decide) (by decide)) ⟨by omega, by omega⟩ dX5_standsAt_45 (by decide) (fun c4 => ?_) (fun c4 => ?_)
            · refine c_iinc (z := k) (j := 0) (lv2 := [(3, .int (iI (k + 1))), (0, .ref a0), (1, .ref a1), (2, .int (iI i))]) C dX5_standsAt_50 rfl (by decide) rfl ?_
              refine c_goto (tgt := 22) C dX5_standsAt_53 (by decide) ?_
              refine c_lv (lv2 := [(3, .int (iI (k + 1))), (0, .ref a0), (1, .ref a1), (2, .int (iI i))]) [0, 1, 2, 3] rfl ?_
              exact ih1  (k + 1)  (by omega)   (by omega) (by omega)
            · refine c_iconst C dX5_standsAt_48 ?_
              exact c_zret C dX5_standsAt_49 rfl (Or.inl rfl) (by decide) (rom0 hph hph (by decide)) ⟨0, rfl, rfl, rfl, rfl, rfl, rfl, (Or.inl rfl), trivial⟩
      refine c_lv (lv2 := [(3, .int (iI 0)), (0, .ref a0), (1, .ref a1), (2, .int (iI i))]) [0, 1, 2, 3] rfl ?_
      exact Lp1 6 0  (by omega)   (by omega) (by omega)
    · refine c_iconst C dX5_standsAt_18 ?_
      exact c_zret C dX5_standsAt_19 rfl (Or.inl rfl) (by decide) (rom0 hph hph (by decide)) ⟨0, rfl, rfl, rfl, rfl, rfl, rfl, (Or.inl rfl), trivial⟩
set_option maxHeartbeats 4000000 in
set_option maxRecDepth 100000 in
theorem C_wl_10 {l : Launch} {G : GT} {mi : Nat} {sk : Nat → Nat} {L : List Nat} {cl ln : Nat → Nat} {iv : Nat → Nat → Int} {rv : Nat → Nat → Option Nat}  {a0 : Nat} {a1 : Nat} {g : Int} (hW : WT (g0 G) sk L cl ln iv rv) (hS : SKL sk L cl) (t_a0 : ty L cl a0 20) (t_a1 : ty L cl a1 10) (h_g : -2147483648 ≤ g ∧ g ≤ 2147483647)  : Mc l G mi (Phi (g0 G) sk) PHM yX5_writeLetters cX5_writeLetters 4 none 3 [.ref a0, .ref a1, .int (iI g)] L cl ln iv rv 0 (fun v L2 cl2 ln2 iv2 rv2 => v = none ∧ XT L cl ln L2 cl2 ln2 ∧ fT [10, 40] L cl iv rv iv2 rv2 ∧ WT (g0 G) sk L2 cl2 ln2 iv2 rv2 ∧ (True)) := by
  refine Mc.mk (by decide) (Nat.le_of_ble_eq_true rfl) ?_
  intro p e s m args below meth c A C hM
  refine hv3 (Phi.le hW hS) (show XT L cl ln L cl ln from XT.refl) (show fT [10, 40] L cl iv rv iv rv from fT.refl) (fun hph hX0 hF0 => ?_)
  refine c_iconst C dX5_writeLetters_0 ?_
  refine c_istore_n (lv2 := [(3, .int (iI 0)), (0, .ref a0), (1, .ref a1), (2, .int (iI g))]) C dX5_writeLetters_1 (by decide) rfl ?_
  have Lp1 : ∀ (nn : Nat) (k : Int) (Lb1 : List Nat) (clb1 lnb1 : Nat → Nat) (ivb1 : Nat → Nat → Int) (rvb1 : Nat → Nat → Option Nat) , 9 - k < (nn : Int) → XT L cl ln Lb1 clb1 lnb1 → WT (g0 G) sk Lb1 clb1 lnb1 ivb1 rvb1 → fT [10, 40] L cl iv rv ivb1 rvb1 → (0 ≤ k ∧ k ≤ 8) → cw p l e 3 ((PHM) + 0 - ((Phi (g0 G) sk) ln rv)) s m args below meth c G A 4 (MQ below (Qu G A (Qp G (Phi (g0 G) sk) ((Phi (g0 G) sk) ln rv) 0 (fun v L2 cl2 ln2 iv2 rv2 => v = none ∧ XT L cl ln L2 cl2 ln2 ∧ fT [10, 40] L cl iv rv iv2 rv2 ∧ WT (g0 G) sk L2 cl2 ln2 iv2 rv2 ∧ (True)))) args s (((PHM) + 0 - ((Phi (g0 G) sk) ln rv)) / 16) ((PHM) + 0 - ((Phi (g0 G) sk) ln rv)) A) (Phi (g0 G) sk) ((Phi (g0 G) sk) ln rv) Lb1 clb1 lnb1 ivb1 rvb1 0 2 [(3, .int (iI k)), (0, .ref a0), (1, .ref a1), (2, .int (iI g))] [] := by
    intro nn
    induction nn with
    | zero =>
      intro  k Lb1 clb1 lnb1 ivb1 rvb1 hm Xb1 Wb1 Fb1  hk
      have skb1 := Xb1.skl hS
      exact absurd hm (by omega)
    | succ nn ih1 =>
      intro  k Lb1 clb1 lnb1 ivb1 rvb1 hm Xb1 Wb1 Fb1  hk
      have skb1 := Xb1.skl hS
      refine c_iload_n (j := 0) C dX5_writeLetters_2 rfl ?_
      refine c_aload_n (j := 1) (x := a0) C dX5_writeLetters_3 rfl ?_
      have ty1 := Xb1.ty t_a0
      obtain ⟨rb1, rq1, trb1⟩ := Wb1.ref ty1 1 rfl rfl rfl
      have lnrb1 : 0 ≤ lnb1 rb1 ∧ lnb1 rb1 ≤ 8 := Wb1.len trb1 rfl
      refine c_getr (k := 1) C ck_6 dX5_writeLetters_4 w3_138 (by decide) ty1 rfl rfl (by decide) rfl rq1 ?_
      refine c_st (st2 := [.ref rb1, .int (iI k)]) rfl ?_
      have ll1 : 0 ≤ lnb1 rb1 ∧ lnb1 rb1 ≤ 8 := Wb1.len trb1 rfl
      refine c_alenI C dX5_writeLetters_7 trb1 rfl ?_
      refine c_icmp_ge (tgt := 47) C (r32_c (lo := 0) (hi := 8) hk.1 hk.2 (by decide) (by decide)) ⟨by omega, by omega⟩ dX5_writeLetters_8 (by decide) (fun c1 => ?_) (fun c1 => ?_)
      · have pl1 := Phi.le Wb1 skb1
        exact c_vret C dX5_writeLetters_47 rfl (by decide) (rom0 hph pl1 (by decide)) ⟨rfl, Xb1, Fb1, Wb1, trivial⟩
      · refine c_aload_n (j := 2) (x := a1) C dX5_writeLetters_11 rfl ?_
        refine c_iload_n (j := 0) C dX5_writeLetters_12 rfl ?_
        refine c_if_ne (tgt := 32) C (r32_c (lo := 0) (hi := 8) hk.1 hk.2 (by decide) (by decide)) dX5_writeLetters_13 (by decide) (fun c2 => ?_) (fun c2 => ?_)
        · refine c_aload_n (j := 1) (x := a0) C dX5_writeLetters_32 rfl ?_
          refine c_getr (k := 1) C ck_6 dX5_writeLetters_33 w3_138 (by decide) ty1 rfl rfl (by decide) rfl rq1 ?_
          refine c_st (st2 := [.ref rb1, .ref a1]) rfl ?_
          refine c_iload_n (j := 0) C dX5_writeLetters_36 rfl ?_
          refine c_iald C dX5_writeLetters_37 trb1 rfl (by omega) (by omega) (by omega) ?_
          refine hv3 (show (-2147483648) ≤ ivb1 rb1 k.toNat ∧ ivb1 rb1 k.toNat ≤ 2147483647 from Wb1.int trb1 k.toNat) (Xb1.ty t_a1) (Phi.le Wb1 skb1) (fun ri1 ty2 pl2 => ?_)
          have ri2 : 0 ≤ ivb1 a1 2 ∧ ivb1 a1 2 ≤ 4001 := Wb1.int ty2 2
          refine d_callV (As := [.int (iI (ivb1 rb1 k.toNat))]) (rest := []) C hM (C_add_10 (a0 := a1) (x := ivb1 rb1 k.toNat) Wb1 skb1 ty2 (by omega) ) dX5_writeLetters_38 kV_X5_47 rfl ty2 rfl rfl (by decide) ck_2 rfl (Nat.le_of_ble_eq_true rfl) ⟨(Nat.le_of_ble_eq_true rfl), (Nat.le_of_ble_eq_true rfl)⟩ hph pl2 (show 0 + 0 = 0 from rfl) (by decide) (fun rh1 Lh1 clh1 lnh1 ivh1 rvh1 h1 => ?_)
          obtain ⟨rfl, xl1, fl1, W1, exf1⟩ := h1
          refine hv3 (Fb1.call Xb1 fl1 rfl) (Xb1.trans xl1) (xl1.skl skb1) (fun F1 X1 sk1 => ?_)
          refine c_st (st2 := []) rfl ?_
          refine hv2 (xl1.ty ty2) (show ((ivh1 a1 2 = ivb1 a1 2 ∧ ivb1 a1 2 = 4001) ∨ (ivh1 a1 2 = ivb1 a1 2 + 1 ∧ ivb1 a1 2 < 4001)) from exf1) (fun ty3 gf1 => ?_)
          have ri3 : 0 ≤ ivh1 a1 2 ∧ ivh1 a1 2 ≤ 4001 := W1.int ty3 2
          refine c_iinc (z := k) (j := 0) (lv2 := [(3, .int (iI (k + 1))), (0, .ref a0), (1, .ref a1), (2, .int (iI g))]) C dX5_writeLetters_41 rfl (by decide) rfl ?_
          refine c_goto (tgt := 2) C dX5_writeLetters_44 (by decide) ?_
          refine c_lv (lv2 := [(3, .int (iI (k + 1))), (0, .ref a0), (1, .ref a1), (2, .int (iI g))]) [0, 1, 2, 3] rfl ?_
          exact ih1  (k + 1) _ _ _ _ _ (by omega) X1 W1 F1  (by omega)
        · refine c_iload_n (j := 3) C dX5_writeLetters_16 rfl ?_
          refine c_if_eq (tgt := 32) C ⟨by omega, by omega⟩ dX5_writeLetters_17 (by decide) (fun c3 => ?_) (fun c3 => ?_)
          · refine c_aload_n (j := 1) (x := a0) C dX5_writeLetters_32 rfl ?_
            refine c_getr (k := 1) C ck_6 dX5_writeLetters_33 w3_138 (by decide) ty1 rfl rfl (by decide) rfl rq1 ?_
            refine c_st (st2 := [.ref rb1, .ref a1]) rfl ?_
            refine c_iload_n (j := 0) C dX5_writeLetters_36 rfl ?_
            refine c_iald C dX5_writeLetters_37 trb1 rfl (by omega) (by omega) (by omega) ?_
            refine hv3 (show (-2147483648) ≤ ivb1 rb1 k.toNat ∧ ivb1 rb1 k.toNat ≤ 2147483647 from Wb1.int trb1 k.toNat) (Xb1.ty t_a1) (Phi.le Wb1 skb1) (fun ri4 ty4 pl3 => ?_)
            have ri5 : 0 ≤ ivb1 a1 2 ∧ ivb1 a1 2 ≤ 4001 := Wb1.int ty4 2
            refine d_callV (As := [.int (iI (ivb1 rb1 k.toNat))]) (rest := []) C hM (C_add_10 (a0 := a1) (x := ivb1 rb1 k.toNat) Wb1 skb1 ty4 (by omega) ) dX5_writeLetters_38 kV_X5_47 rfl ty4 rfl rfl (by decide) ck_2 rfl (Nat.le_of_ble_eq_true rfl) ⟨(Nat.le_of_ble_eq_true rfl), (Nat.le_of_ble_eq_true rfl)⟩ hph pl3 (show 0 + 0 = 0 from rfl) (by decide) (fun rh2 Lh2 clh2 lnh2 ivh2 rvh2 h2 => ?_)
            obtain ⟨rfl, xl2, fl2, W2, exf2⟩ := h2
            refine hv3 (Fb1.call Xb1 fl2 rfl) (Xb1.trans xl2) (xl2.skl skb1) (fun F2 X2 sk2 => ?_)
            refine c_st (st2 := []) rfl ?_
            refine hv2 (xl2.ty ty4) (show ((ivh2 a1 2 = ivb1 a1 2 ∧ ivb1 a1 2 = 4001) ∨ (ivh2 a1 2 = ivb1 a1 2 + 1 ∧ ivb1 a1 2 < 4001)) from exf2) (fun ty5 gf2 => ?_)
            have ri6 : 0 ≤ ivh2 a1 2 ∧ ivh2 a1 2 ≤ 4001 := W2.int ty5 2
            refine c_iinc (z := k) (j := 0) (lv2 := [(3, .int (iI (k + 1))), (0, .ref a0), (1, .ref a1), (2, .int (iI g))]) C dX5_writeLetters_41 rfl (by decide) rfl ?_
            refine c_goto (tgt := 2) C dX5_writeLetters_44 (by decide) ?_
            refine c_lv (lv2 := [(3, .int (iI (k + 1))), (0, .ref a0), (1, .ref a1), (2, .int (iI g))]) [0, 1, 2, 3] rfl ?_
            exact ih1  (k + 1) _ _ _ _ _ (by omega) X2 W2 F2  (by omega)
          · refine c_aload_n (j := 1) (x := a0) C dX5_writeLetters_20 rfl ?_
            refine c_getr (k := 1) C ck_6 dX5_writeLetters_21 w3_138 (by decide) ty1 rfl rfl (by decide) rfl rq1 ?_
            refine c_st (st2 := [.ref rb1, .ref a1]) rfl ?_
            refine c_iload_n (j := 0) C dX5_writeLetters_24 rfl ?_
            refine c_iald C dX5_writeLetters_25 trb1 rfl (by omega) (by omega) (by omega) ?_
            have ri7 : (-2147483648) ≤ ivb1 rb1 k.toNat ∧ ivb1 rb1 k.toNat ≤ 2147483647 := Wb1.int trb1 k.toNat
            refine c_bipush (z := 32) C dX5_writeLetters_26 (by decide) ?_
            refine c_isub C dX5_writeLetters_28 ?_
            obtain ⟨zz1, hzz1, ezz1⟩ := iI_of (iI ((ivb1 rb1 k.toNat) - 32))
            refine c_st (st2 := [.int (iI zz1), .ref a1]) (by rw [ezz1]) ?_
            refine c_goto (tgt := 38) C dX5_writeLetters_29 (by decide) ?_
            refine hv2 (Xb1.ty t_a1) (Phi.le Wb1 skb1) (fun ty6 pl4 => ?_)
            have ri8 : 0 ≤ ivb1 a1 2 ∧ ivb1 a1 2 ≤ 4001 := Wb1.int ty6 2
            refine d_callV (As := [.int (iI zz1)]) (rest := []) C hM (C_add_10 (a0 := a1) (x := zz1) Wb1 skb1 ty6 (by omega) ) dX5_writeLetters_38 kV_X5_47 rfl ty6 rfl rfl (by decide) ck_2 rfl (Nat.le_of_ble_eq_true rfl) ⟨(Nat.le_of_ble_eq_true rfl), (Nat.le_of_ble_eq_true rfl)⟩ hph pl4 (show 0 + 0 = 0 from rfl) (by decide) (fun rh3 Lh3 clh3 lnh3 ivh3 rvh3 h3 => ?_)
            obtain ⟨rfl, xl3, fl3, W3, exf3⟩ := h3
            refine hv3 (Fb1.call Xb1 fl3 rfl) (Xb1.trans xl3) (xl3.skl skb1) (fun F3 X3 sk3 => ?_)
            refine c_st (st2 := []) rfl ?_
            refine hv2 (xl3.ty ty6) (show ((ivh3 a1 2 = ivb1 a1 2 ∧ ivb1 a1 2 = 4001) ∨ (ivh3 a1 2 = ivb1 a1 2 + 1 ∧ ivb1 a1 2 < 4001)) from exf3) (fun ty7 gf3 => ?_)
            have ri9 : 0 ≤ ivh3 a1 2 ∧ ivh3 a1 2 ≤ 4001 := W3.int ty7 2
            refine c_iinc (z := k) (j := 0) (lv2 := [(3, .int (iI (k + 1))), (0, .ref a0), (1, .ref a1), (2, .int (iI g))]) C dX5_writeLetters_41 rfl (by decide) rfl ?_
            refine c_goto (tgt := 2) C dX5_writeLetters_44 (by decide) ?_
            refine c_lv (lv2 := [(3, .int (iI (k + 1))), (0, .ref a0), (1, .ref a1), (2, .int (iI g))]) [0, 1, 2, 3] rfl ?_
            exact ih1  (k + 1) _ _ _ _ _ (by omega) X3 W3 F3  (by omega)
  refine c_lv (lv2 := [(3, .int (iI 0)), (0, .ref a0), (1, .ref a1), (2, .int (iI g))]) [0, 1, 2, 3] rfl ?_
  exact Lp1 10 0 _ _ _ _ _ (by omega) hX0 hW hF0  (by omega)
set_option maxHeartbeats 4000000 in
set_option maxRecDepth 100000 in
theorem C_wl_11 {l : Launch} {G : GT} {mi : Nat} {sk : Nat → Nat} {L : List Nat} {cl ln : Nat → Nat} {iv : Nat → Nat → Int} {rv : Nat → Nat → Option Nat}  {a0 : Nat} {a1 : Nat} {g : Int} (hW : WT (g0 G) sk L cl ln iv rv) (hS : SKL sk L cl) (t_a0 : ty L cl a0 20) (t_a1 : ty L cl a1 11) (h_g : -2147483648 ≤ g ∧ g ≤ 2147483647)  : Mc l G mi (Phi (g0 G) sk) PHM yX5_writeLetters cX5_writeLetters 4 none 3 [.ref a0, .ref a1, .int (iI g)] L cl ln iv rv 0 (fun v L2 cl2 ln2 iv2 rv2 => v = none ∧ XT L cl ln L2 cl2 ln2 ∧ fT [11, 41] L cl iv rv iv2 rv2 ∧ WT (g0 G) sk L2 cl2 ln2 iv2 rv2 ∧ (True)) := by
  refine Mc.mk (by decide) (Nat.le_of_ble_eq_true rfl) ?_
  intro p e s m args below meth c A C hM
  refine hv3 (Phi.le hW hS) (show XT L cl ln L cl ln from XT.refl) (show fT [11, 41] L cl iv rv iv rv from fT.refl) (fun hph hX0 hF0 => ?_)
  refine c_iconst C dX5_writeLetters_0 ?_
  refine c_istore_n (lv2 := [(3, .int (iI 0)), (0, .ref a0), (1, .ref a1), (2, .int (iI g))]) C dX5_writeLetters_1 (by decide) rfl ?_
  have Lp1 : ∀ (nn : Nat) (k : Int) (Lb1 : List Nat) (clb1 lnb1 : Nat → Nat) (ivb1 : Nat → Nat → Int) (rvb1 : Nat → Nat → Option Nat) , 9 - k < (nn : Int) → XT L cl ln Lb1 clb1 lnb1 → WT (g0 G) sk Lb1 clb1 lnb1 ivb1 rvb1 → fT [11, 41] L cl iv rv ivb1 rvb1 → (0 ≤ k ∧ k ≤ 8) → cw p l e 3 ((PHM) + 0 - ((Phi (g0 G) sk) ln rv)) s m args below meth c G A 4 (MQ below (Qu G A (Qp G (Phi (g0 G) sk) ((Phi (g0 G) sk) ln rv) 0 (fun v L2 cl2 ln2 iv2 rv2 => v = none ∧ XT L cl ln L2 cl2 ln2 ∧ fT [11, 41] L cl iv rv iv2 rv2 ∧ WT (g0 G) sk L2 cl2 ln2 iv2 rv2 ∧ (True)))) args s (((PHM) + 0 - ((Phi (g0 G) sk) ln rv)) / 16) ((PHM) + 0 - ((Phi (g0 G) sk) ln rv)) A) (Phi (g0 G) sk) ((Phi (g0 G) sk) ln rv) Lb1 clb1 lnb1 ivb1 rvb1 0 2 [(3, .int (iI k)), (0, .ref a0), (1, .ref a1), (2, .int (iI g))] [] := by
    intro nn
    induction nn with
    | zero =>
      intro  k Lb1 clb1 lnb1 ivb1 rvb1 hm Xb1 Wb1 Fb1  hk
      have skb1 := Xb1.skl hS
      exact absurd hm (by omega)
    | succ nn ih1 =>
      intro  k Lb1 clb1 lnb1 ivb1 rvb1 hm Xb1 Wb1 Fb1  hk
      have skb1 := Xb1.skl hS
      refine c_iload_n (j := 0) C dX5_writeLetters_2 rfl ?_
      refine c_aload_n (j := 1) (x := a0) C dX5_writeLetters_3 rfl ?_
      have ty1 := Xb1.ty t_a0
      obtain ⟨rb1, rq1, trb1⟩ := Wb1.ref ty1 1 rfl rfl rfl
      have lnrb1 : 0 ≤ lnb1 rb1 ∧ lnb1 rb1 ≤ 8 := Wb1.len trb1 rfl
      refine c_getr (k := 1) C ck_6 dX5_writeLetters_4 w3_138 (by decide) ty1 rfl rfl (by decide) rfl rq1 ?_
      refine c_st (st2 := [.ref rb1, .int (iI k)]) rfl ?_
      have ll1 : 0 ≤ lnb1 rb1 ∧ lnb1 rb1 ≤ 8 := Wb1.len trb1 rfl
      refine c_alenI C dX5_writeLetters_7 trb1 rfl ?_
      refine c_icmp_ge (tgt := 47) C (r32_c (lo := 0) (hi := 8) hk.1 hk.2 (by decide) (by decide)) ⟨by omega, by omega⟩ dX5_writeLetters_8 (by decide) (fun c1 => ?_) (fun c1 => ?_)
      · have pl1 := Phi.le Wb1 skb1
        exact c_vret C dX5_writeLetters_47 rfl (by decide) (rom0 hph pl1 (by decide)) ⟨rfl, Xb1, Fb1, Wb1, trivial⟩
      · refine c_aload_n (j := 2) (x := a1) C dX5_writeLetters_11 rfl ?_
        refine c_iload_n (j := 0) C dX5_writeLetters_12 rfl ?_
        refine c_if_ne (tgt := 32) C (r32_c (lo := 0) (hi := 8) hk.1 hk.2 (by decide) (by decide)) dX5_writeLetters_13 (by decide) (fun c2 => ?_) (fun c2 => ?_)
        · refine c_aload_n (j := 1) (x := a0) C dX5_writeLetters_32 rfl ?_
          refine c_getr (k := 1) C ck_6 dX5_writeLetters_33 w3_138 (by decide) ty1 rfl rfl (by decide) rfl rq1 ?_
          refine c_st (st2 := [.ref rb1, .ref a1]) rfl ?_
          refine c_iload_n (j := 0) C dX5_writeLetters_36 rfl ?_
          refine c_iald C dX5_writeLetters_37 trb1 rfl (by omega) (by omega) (by omega) ?_
          refine hv3 (show (-2147483648) ≤ ivb1 rb1 k.toNat ∧ ivb1 rb1 k.toNat ≤ 2147483647 from Wb1.int trb1 k.toNat) (Xb1.ty t_a1) (Phi.le Wb1 skb1) (fun ri1 ty2 pl2 => ?_)
          have ri2 : 0 ≤ ivb1 a1 2 ∧ ivb1 a1 2 ≤ 40000 := Wb1.int ty2 2
          refine d_callV (As := [.int (iI (ivb1 rb1 k.toNat))]) (rest := []) C hM (C_add_11 (a0 := a1) (x := ivb1 rb1 k.toNat) Wb1 skb1 ty2 (by omega) ) dX5_writeLetters_38 kV_X5_47 rfl ty2 rfl rfl (by decide) ck_2 rfl (Nat.le_of_ble_eq_true rfl) ⟨(Nat.le_of_ble_eq_true rfl), (Nat.le_of_ble_eq_true rfl)⟩ hph pl2 (show 0 + 0 = 0 from rfl) (by decide) (fun rh1 Lh1 clh1 lnh1 ivh1 rvh1 h1 => ?_)
          obtain ⟨rfl, xl1, fl1, W1, exf1⟩ := h1
          refine hv3 (Fb1.call Xb1 fl1 rfl) (Xb1.trans xl1) (xl1.skl skb1) (fun F1 X1 sk1 => ?_)
          refine c_st (st2 := []) rfl ?_
          refine hv2 (xl1.ty ty2) (show ((ivh1 a1 2 = ivb1 a1 2 ∧ ivb1 a1 2 = 40000) ∨ (ivh1 a1 2 = ivb1 a1 2 + 1 ∧ ivb1 a1 2 < 40000)) from exf1) (fun ty3 gf1 => ?_)
          have ri3 : 0 ≤ ivh1 a1 2 ∧ ivh1 a1 2 ≤ 40000 := W1.int ty3 2
          refine c_iinc (z := k) (j := 0) (lv2 := [(3, .int (iI (k + 1))), (0, .ref a0), (1, .ref a1), (2, .int (iI g))]) C dX5_writeLetters_41 rfl (by decide) rfl ?_
          refine c_goto (tgt := 2) C dX5_writeLetters_44 (by decide) ?_
          refine c_lv (lv2 := [(3, .int (iI (k + 1))), (0, .ref a0), (1, .ref a1), (2, .int (iI g))]) [0, 1, 2, 3] rfl ?_
          exact ih1  (k + 1) _ _ _ _ _ (by omega) X1 W1 F1  (by omega)
        · refine c_iload_n (j := 3) C dX5_writeLetters_16 rfl ?_
          refine c_if_eq (tgt := 32) C ⟨by omega, by omega⟩ dX5_writeLetters_17 (by decide) (fun c3 => ?_) (fun c3 => ?_)
          · refine c_aload_n (j := 1) (x := a0) C dX5_writeLetters_32 rfl ?_
            refine c_getr (k := 1) C ck_6 dX5_writeLetters_33 w3_138 (by decide) ty1 rfl rfl (by decide) rfl rq1 ?_
            refine c_st (st2 := [.ref rb1, .ref a1]) rfl ?_
            refine c_iload_n (j := 0) C dX5_writeLetters_36 rfl ?_
            refine c_iald C dX5_writeLetters_37 trb1 rfl (by omega) (by omega) (by omega) ?_
            refine hv3 (show (-2147483648) ≤ ivb1 rb1 k.toNat ∧ ivb1 rb1 k.toNat ≤ 2147483647 from Wb1.int trb1 k.toNat) (Xb1.ty t_a1) (Phi.le Wb1 skb1) (fun ri4 ty4 pl3 => ?_)
            have ri5 : 0 ≤ ivb1 a1 2 ∧ ivb1 a1 2 ≤ 40000 := Wb1.int ty4 2
            refine d_callV (As := [.int (iI (ivb1 rb1 k.toNat))]) (rest := []) C hM (C_add_11 (a0 := a1) (x := ivb1 rb1 k.toNat) Wb1 skb1 ty4 (by omega) ) dX5_writeLetters_38 kV_X5_47 rfl ty4 rfl rfl (by decide) ck_2 rfl (Nat.le_of_ble_eq_true rfl) ⟨(Nat.le_of_ble_eq_true rfl), (Nat.le_of_ble_eq_true rfl)⟩ hph pl3 (show 0 + 0 = 0 from rfl) (by decide) (fun rh2 Lh2 clh2 lnh2 ivh2 rvh2 h2 => ?_)
            obtain ⟨rfl, xl2, fl2, W2, exf2⟩ := h2
            refine hv3 (Fb1.call Xb1 fl2 rfl) (Xb1.trans xl2) (xl2.skl skb1) (fun F2 X2 sk2 => ?_)
            refine c_st (st2 := []) rfl ?_
            refine hv2 (xl2.ty ty4) (show ((ivh2 a1 2 = ivb1 a1 2 ∧ ivb1 a1 2 = 40000) ∨ (ivh2 a1 2 = ivb1 a1 2 + 1 ∧ ivb1 a1 2 < 40000)) from exf2) (fun ty5 gf2 => ?_)
            have ri6 : 0 ≤ ivh2 a1 2 ∧ ivh2 a1 2 ≤ 40000 := W2.int ty5 2
            refine c_iinc (z := k) (j := 0) (lv2 := [(3, .int (iI (k + 1))), (0, .ref a0), (1, .ref a1), (2, .int (iI g))]) C dX5_writeLetters_41 rfl (by decide) rfl ?_
            refine c_goto (tgt := 2) C dX5_writeLetters_44 (by decide) ?_
            refine c_lv (lv2 := [(3, .int (iI (k + 1))), (0, .ref a0), (1, .ref a1), (2, .int (iI g))]) [0, 1, 2, 3] rfl ?_
            exact ih1  (k + 1) _ _ _ _ _ (by omega) X2 W2 F2  (by omega)
          · refine c_aload_n (j := 1) (x := a0) C dX5_writeLetters_20 rfl ?_
            refine c_getr (k := 1) C ck_6 dX5_writeLetters_21 w3_138 (by decide) ty1 rfl rfl (by decide) rfl rq1 ?_
            refine c_st (st2 := [.ref rb1, .ref a1]) rfl ?_
            refine c_iload_n (j := 0) C dX5_writeLetters_24 rfl ?_
            refine c_iald C dX5_writeLetters_25 trb1 rfl (by omega) (by omega) (by omega) ?_
            have ri7 : (-2147483648) ≤ ivb1 rb1 k.toNat ∧ ivb1 rb1 k.toNat ≤ 2147483647 := Wb1.int trb1 k.toNat
            refine c_bipush (z := 32) C dX5_writeLetters_26 (by decide) ?_
            refine c_isub C dX5_writeLetters_28 ?_
            obtain ⟨zz1, hzz1, ezz1⟩ := iI_of (iI ((ivb1 rb1 k.toNat) - 32))
            refine c_st (st2 := [.int (iI zz1), .ref a1]) (by rw [ezz1]) ?_
            refine c_goto (tgt := 38) C dX5_writeLetters_29 (by decide) ?_
            refine hv2 (Xb1.ty t_a1) (Phi.le Wb1 skb1) (fun ty6 pl4 => ?_)
            have ri8 : 0 ≤ ivb1 a1 2 ∧ ivb1 a1 2 ≤ 40000 := Wb1.int ty6 2
            refine d_callV (As := [.int (iI zz1)]) (rest := []) C hM (C_add_11 (a0 := a1) (x := zz1) Wb1 skb1 ty6 (by omega) ) dX5_writeLetters_38 kV_X5_47 rfl ty6 rfl rfl (by decide) ck_2 rfl (Nat.le_of_ble_eq_true rfl) ⟨(Nat.le_of_ble_eq_true rfl), (Nat.le_of_ble_eq_true rfl)⟩ hph pl4 (show 0 + 0 = 0 from rfl) (by decide) (fun rh3 Lh3 clh3 lnh3 ivh3 rvh3 h3 => ?_)
            obtain ⟨rfl, xl3, fl3, W3, exf3⟩ := h3
            refine hv3 (Fb1.call Xb1 fl3 rfl) (Xb1.trans xl3) (xl3.skl skb1) (fun F3 X3 sk3 => ?_)
            refine c_st (st2 := []) rfl ?_
            refine hv2 (xl3.ty ty6) (show ((ivh3 a1 2 = ivb1 a1 2 ∧ ivb1 a1 2 = 40000) ∨ (ivh3 a1 2 = ivb1 a1 2 + 1 ∧ ivb1 a1 2 < 40000)) from exf3) (fun ty7 gf3 => ?_)
            have ri9 : 0 ≤ ivh3 a1 2 ∧ ivh3 a1 2 ≤ 40000 := W3.int ty7 2
            refine c_iinc (z := k) (j := 0) (lv2 := [(3, .int (iI (k + 1))), (0, .ref a0), (1, .ref a1), (2, .int (iI g))]) C dX5_writeLetters_41 rfl (by decide) rfl ?_
            refine c_goto (tgt := 2) C dX5_writeLetters_44 (by decide) ?_
            refine c_lv (lv2 := [(3, .int (iI (k + 1))), (0, .ref a0), (1, .ref a1), (2, .int (iI g))]) [0, 1, 2, 3] rfl ?_
            exact ih1  (k + 1) _ _ _ _ _ (by omega) X3 W3 F3  (by omega)
  refine c_lv (lv2 := [(3, .int (iI 0)), (0, .ref a0), (1, .ref a1), (2, .int (iI g))]) [0, 1, 2, 3] rfl ?_
  exact Lp1 10 0 _ _ _ _ _ (by omega) hX0 hW hF0  (by omega)
