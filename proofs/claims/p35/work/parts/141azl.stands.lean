section
set_option maxHeartbeats 4000000 in
set_option maxRecDepth 100000 in
theorem G_standsAt {l : Launch} {G : GT} {mi : Nat} {sk : Nat → Nat} {L : List Nat} {cl ln : Nat → Nat} {iv : Nat → Nat → Int} {rv : Nat → Nat → Option Nat}  {a0 : Nat} {a1 : Nat} {i : Int} (hW : WT (g0 G) sk L cl ln iv rv) (hS : SKL sk L cl) (t_a0 : ty L cl a0 20) (t_a1 : ty L cl a1 8) (h_i : -2147483648 ≤ i ∧ i ≤ 2147483647) (hi : 0 ≤ i) : Mc l G mi (Phi (g0 G) sk) PHM yX5_standsAt cX5_standsAt 4 (some .boolean) 0 [.ref a0, .ref a1, .int (iI i)] L cl ln iv rv 0 (fun v L2 cl2 ln2 iv2 rv2 => ∃ f : Int, v = some (.int (iI f)) ∧ L = L2 ∧ cl = cl2 ∧ ln = ln2 ∧ iv = iv2 ∧ rv = rv2 ∧ (f = 0 ∨ f = 1) ∧ (SAP ln iv rv a0 a1 i f)) := by
  refine Mc.mk (by decide) (Nat.le_of_ble_eq_true rfl) ?_
  intro p e s m args below meth c A C hM
  refine hv4 (Phi.le hW hS) (show XT L cl ln L cl ln from XT.refl) (show fT [] L cl iv rv iv rv from fT.refl) (show 0 ≤ iv a1 2 ∧ iv a1 2 ≤ 40200 from hW.int t_a1 2) (fun hph hX0 hF0 ri1 => ?_)
  refine c_iload_n (j := 2) C dX5_standsAt_0 rfl ?_
  refine c_if_lt (tgt := 18) C ⟨by omega, by omega⟩ dX5_standsAt_1 (by decide) (fun z => absurd z (by omega)) (fun _ => ?_)
  refine c_aload_n (j := 0) (x := a0) C dX5_standsAt_4 rfl ?_
  obtain ⟨rb1, rq1, trb1⟩ := hW.ref t_a0 2 rfl rfl rfl
  have lnrb1 : 1 ≤ ln rb1 ∧ ln rb1 ≤ 4 := hW.len trb1 rfl
  refine c_getr (k := 2) C ck_6 dX5_standsAt_5 w3_142 (by decide) t_a0 rfl rfl (by decide) rfl rq1 ?_
  refine c_st (st2 := [.ref rb1]) rfl ?_
  have ll1 : 1 ≤ ln rb1 ∧ ln rb1 ≤ 4 := hW.len trb1 rfl
  refine c_alenI C dX5_standsAt_8 trb1 rfl ?_
  refine c_aload_n (j := 1) (x := a1) C dX5_standsAt_9 rfl ?_
  refine c_get (k := 2) C ck_2 dX5_standsAt_10 w1_46 (by decide) t_a1 rfl rfl (by decide) rfl ?_
  refine c_iload_n (j := 2) C dX5_standsAt_13 rfl ?_
  refine c_isub C dX5_standsAt_14 ?_
  refine c_icmp_le (tgt := 20) C ⟨by omega, by omega⟩ ⟨by omega, by omega⟩ dX5_standsAt_15 (by decide) (fun c1 => ?_) (fun c1 => ?_)
  · refine c_iconst C dX5_standsAt_20 ?_
    refine c_istore_n (lv2 := [(3, .int (iI 0)), (0, .ref a0), (1, .ref a1), (2, .int (iI i))]) C dX5_standsAt_21 (by decide) rfl ?_
    have Lp1 : ∀ (nn : Nat) (k : Int) , 5 - k < (nn : Int) → (0 ≤ k ∧ k ≤ 4) → (0 ≤ i) → (∀ c, rv a0 2 = some c → i + ((ln c : Nat) : Int) ≤ iv a1 2) → (SAI iv rv a0 a1 i k) → cw p l e 0 ((PHM) + 0 - ((Phi (g0 G) sk) ln rv)) s m args below meth c G A 4 (MQ below (Qu G A (Qp G (Phi (g0 G) sk) ((Phi (g0 G) sk) ln rv) 0 (fun v L2 cl2 ln2 iv2 rv2 => ∃ f : Int, v = some (.int (iI f)) ∧ L = L2 ∧ cl = cl2 ∧ ln = ln2 ∧ iv = iv2 ∧ rv = rv2 ∧ (f = 0 ∨ f = 1) ∧ (SAP ln iv rv a0 a1 i f)))) args s (((PHM) + 0 - ((Phi (g0 G) sk) ln rv)) / 16) ((PHM) + 0 - ((Phi (g0 G) sk) ln rv)) A) (Phi (g0 G) sk) ((Phi (g0 G) sk) ln rv) L cl ln iv rv 0 22 [(3, .int (iI k)), (0, .ref a0), (1, .ref a1), (2, .int (iI i))] [] := by
      intro nn
      induction nn with
      | zero =>
        intro  k  hm   hk hi0 hin hI
        exact absurd hm (by omega)
      | succ nn ih1 =>
        intro  k  hm   hk hi0 hin hI
        refine c_iload_n (j := 0) C dX5_standsAt_22 rfl ?_
        refine c_aload_n (j := 1) (x := a0) C dX5_standsAt_23 rfl ?_
        refine c_getr (k := 2) C ck_6 dX5_standsAt_24 w3_142 (by decide) t_a0 rfl rfl (by decide) rfl rq1 ?_
        refine c_st (st2 := [.ref rb1, .int (iI k)]) rfl ?_
        refine c_alenI C dX5_standsAt_27 trb1 rfl ?_
        refine c_icmp_ge (tgt := 56) C (r32_c (lo := 0) (hi := 4) hk.1 hk.2 (by decide) (by decide)) ⟨by omega, by omega⟩ dX5_standsAt_28 (by decide) (fun c2 => ?_) (fun c2 => ?_)
        · refine c_iconst C dX5_standsAt_56 ?_
          exact c_zret C dX5_standsAt_57 rfl (Or.inr rfl) (by decide) (rom0 hph hph (by decide)) ⟨1, rfl, rfl, rfl, rfl, rfl, rfl, (Or.inr rfl), (SAP.yes hI rq1 (by omega) (hin _ rq1) rfl)⟩
        · refine c_aload_n (j := 1) (x := a0) C dX5_standsAt_31 rfl ?_
          refine c_getr (k := 2) C ck_6 dX5_standsAt_32 w3_142 (by decide) t_a0 rfl rfl (by decide) rfl rq1 ?_
          refine c_st (st2 := [.ref rb1]) rfl ?_
          refine c_iload_n (j := 0) C dX5_standsAt_35 rfl ?_
          refine c_iald C dX5_standsAt_36 trb1 rfl (by omega) (by omega) (by omega) ?_
          have ri2 : (-2147483648) ≤ iv rb1 k.toNat ∧ iv rb1 k.toNat ≤ 2147483647 := hW.int trb1 k.toNat
          refine c_aload_n (j := 2) (x := a1) C dX5_standsAt_37 rfl ?_
          obtain ⟨rb2, rq2, trb2⟩ := hW.ref t_a1 1 rfl rfl rfl
          refine hv2 (show 16 ≤ ln rb2 ∧ ln rb2 ≤ 80400 from hW.len trb2 rfl) (hW.isz t_a1 rfl rfl rq2) (fun lnrb2 szrb2 => ?_)
          refine c_getr (k := 1) C ck_2 dX5_standsAt_38 w1_40 (by decide) t_a1 rfl rfl (by decide) rfl rq2 ?_
          refine c_st (st2 := [.ref rb2, .int (iI (iv rb1 k.toNat))]) rfl ?_
          refine c_iload_n (j := 3) C dX5_standsAt_41 rfl ?_
          refine c_iload_n (j := 0) C dX5_standsAt_42 rfl ?_
          refine c_iadd C dX5_standsAt_43 ?_
          have ll2 : 16 ≤ ln rb2 ∧ ln rb2 ≤ 80400 := hW.len trb2 rfl
          refine c_iald C dX5_standsAt_44 trb2 rfl (by omega) (by omega) (by omega) ?_
          have ri3 : (-2147483648) ≤ iv rb2 ((i + k).toNat) ∧ iv rb2 ((i + k).toNat) ≤ 2147483647 := hW.int trb2 ((i + k).toNat)
          refine c_icmp_eq (tgt := 50) C (r32_c (lo := (-2147483648)) (hi := 2147483647) ri2.1 ri2.2 (by decide) (by decide)) ⟨by omega, by omega⟩ dX5_standsAt_45 (by decide) (fun c3 => ?_) (fun c3 => ?_)
          · refine c_iinc (z := k) (j := 0) (lv2 := [(3, .int (iI (k + 1))), (0, .ref a0), (1, .ref a1), (2, .int (iI i))]) C dX5_standsAt_50 rfl (by decide) rfl ?_
            refine c_goto (tgt := 22) C dX5_standsAt_53 (by decide) ?_
            refine c_lv (lv2 := [(3, .int (iI (k + 1))), (0, .ref a0), (1, .ref a1), (2, .int (iI i))]) [0, 1, 2, 3] rfl ?_
            exact ih1  (k + 1)  (by omega)   (by omega) (by omega) hin (hI.step rq1 rq2 (by omega) (by omega))
          · refine c_iconst C dX5_standsAt_48 ?_
            exact c_zret C dX5_standsAt_49 rfl (Or.inl rfl) (by decide) (rom0 hph hph (by decide)) ⟨0, rfl, rfl, rfl, rfl, rfl, rfl, (Or.inl rfl), (SAP.no (k := k) rq1 rq2 ⟨by omega, by omega⟩ (by omega) rfl)⟩
    refine c_lv (lv2 := [(3, .int (iI 0)), (0, .ref a0), (1, .ref a1), (2, .int (iI i))]) [0, 1, 2, 3] rfl ?_
    exact Lp1 6 0  (by omega)   (by omega) (by omega) (fun c hc => by rw [rq1] at hc; cases hc; omega) SAI.zero
  · refine c_iconst C dX5_standsAt_18 ?_
    exact c_zret C dX5_standsAt_19 rfl (Or.inl rfl) (by decide) (rom0 hph hph (by decide)) ⟨0, rfl, rfl, rfl, rfl, rfl, rfl, (Or.inl rfl), (SAP.short rq1 (by omega) rfl)⟩
set_option maxHeartbeats 4000000 in
set_option maxRecDepth 100000 in
theorem G_longestAt {l : Launch} {G : GT} {mi : Nat} {sk : Nat → Nat} {L : List Nat} {cl ln : Nat → Nat} {iv : Nat → Nat → Int} {rv : Nat → Nat → Option Nat}  {a0 : Nat} {g : Int} {i : Int} (hW : WT (g0 G) sk L cl ln iv rv) (hS : SKL sk L cl) (t_a0 : ty L cl a0 16) (h_g : -2147483648 ≤ g ∧ g ≤ 2147483647) (h_i : -2147483648 ≤ i ∧ i ≤ 2147483647) (hi : 0 ≤ i) : Mc l G mi (Phi (g0 G) sk) PHM yX3_longestAt cX3_longestAt 11 (some (.object "DotPress$Row")) 3 [.ref a0, .int (iI g), .int (iI i)] L cl ln iv rv 0 (fun v L2 cl2 ln2 iv2 rv2 => ∃ f : Option Nat, v = some ((va_rf f)) ∧ L = L2 ∧ cl = cl2 ∧ ln = ln2 ∧ iv = iv2 ∧ rv = rv2 ∧ (∀ b, f = some b → ty L2 cl2 b 20) ∧ (LAX4 L cl ln iv rv (if g = 0 then sk 24 else sk 25) (if g = 0 then sk 6 else sk 7) (sk 8) i f)) := by
  refine Mc.mk (by decide) (Nat.le_of_ble_eq_true rfl) ?_
  intro p e s m args below meth c A C hM
  refine hv10 (Phi.le hW hS) (show ty L cl (sk 6) 6 from ⟨(hS 6 rfl).1, by rw [(hS 6 rfl).2]; rfl⟩) (show ty L cl (sk 7) 7 from ⟨(hS 7 rfl).1, by rw [(hS 7 rfl).2]; rfl⟩) (show ty L cl (sk 8) 8 from ⟨(hS 8 rfl).1, by rw [(hS 8 rfl).2]; rfl⟩) (show ty L cl (sk 9) 9 from ⟨(hS 9 rfl).1, by rw [(hS 9 rfl).2]; rfl⟩) (show ty L cl (sk 10) 10 from ⟨(hS 10 rfl).1, by rw [(hS 10 rfl).2]; rfl⟩) (show ty L cl (sk 24) 24 from ⟨(hS 24 rfl).1, by rw [(hS 24 rfl).2]; rfl⟩) (show ty L cl (sk 25) 25 from ⟨(hS 25 rfl).1, by rw [(hS 25 rfl).2]; rfl⟩) (show XT L cl ln L cl ln from XT.refl) (show fT [] L cl iv rv iv rv from fT.refl) (fun hph tsk6 tsk7 tsk8 tsk9 tsk10 tsk24 tsk25 hX0 hF0 => ?_)
  refine c_aload_n (j := 0) (x := a0) C dX3_longestAt_0 rfl ?_
  refine c_iload_n (j := 1) C dX3_longestAt_1 rfl ?_
  refine d_callV (As := [.int (iI g)]) (rest := []) C hM (C_rowsOf (a0 := a0) (g := g) hW hS t_a0 (by omega) ) dX3_longestAt_2 kV_X3_147 rfl t_a0 rfl rfl (by decide) ck_4 rfl (Nat.le_of_ble_eq_true rfl) ⟨(Nat.le_of_ble_eq_true rfl), (Nat.le_of_ble_eq_true rfl)⟩ hph hph (show 0 + 0 = 0 from rfl) (by decide) (fun rh1 Lh1 clh1 lnh1 ivh1 rvh1 h1 => ?_)
  obtain ⟨f1, rfl, rfl, rfl, rfl, rfl, rfl, rgf1, exf1⟩ := h1
  refine c_st (st2 := [.ref f1]) rfl ?_
  rcases exf1 with exf1 | exf1
  · obtain ⟨hf1, rfl⟩ := exf1
    refine c_st (st2 := [.ref (sk 24)]) rfl ?_
    refine c_astore_n (lv2 := [(3, .ref (sk 24)), (0, .ref a0), (1, .int (iI g)), (2, .int (iI i))]) C dX3_longestAt_5 (by decide) rfl ?_
    refine c_iload_n (j := 2) C dX3_longestAt_6 rfl ?_
    refine c_if_eq (tgt := 17) C ⟨by omega, by omega⟩ dX3_longestAt_7 (by decide) (fun c1 => ?_) (fun c1 => ?_)
    · refine c_aload_n (j := 1) (x := a0) C dX3_longestAt_17 rfl ?_
      obtain ⟨rb1, rq1, trb1⟩ := hW.ref t_a0 2 rfl rfl rfl
      have erb1 := hW.sk trb1 (by decide) rfl
      subst erb1
      refine c_getr (k := 2) C ck_4 dX3_longestAt_18 w1_196 (by decide) t_a0 rfl rfl (by decide) rfl rq1 ?_
      refine c_st (st2 := [.ref (sk 6)]) rfl ?_
      refine c_astore (lv2 := [(4, .ref (sk 6)), (3, .ref (sk 24)), (0, .ref a0), (1, .int (iI g)), (2, .int (iI i))]) C dX3_longestAt_21 (by decide) rfl ?_
      refine c_aload_n (j := 2) (x := a0) C dX3_longestAt_23 rfl ?_
      obtain ⟨rb2, rq2, trb2⟩ := hW.ref t_a0 4 rfl rfl rfl
      have erb2 := hW.sk trb2 (by decide) rfl
      subst erb2
      refine c_getr (k := 4) C ck_4 dX3_longestAt_24 w1_198 (by decide) t_a0 rfl rfl (by decide) rfl rq2 ?_
      refine c_st (st2 := [.ref (sk 8)]) rfl ?_
      refine c_iload_n (j := 4) C dX3_longestAt_27 rfl ?_
      have ri1 : 0 ≤ iv (sk 8) 2 ∧ iv (sk 8) 2 ≤ 40200 := hW.int tsk8 2
      refine d_callV (As := [.int (iI i)]) (rest := []) C hM (C_at_8 (a0 := (sk 8)) (i := i) hW hS tsk8 (by omega) ) dX3_longestAt_28 kV_X3_119 rfl tsk8 rfl rfl (by decide) ck_2 rfl (Nat.le_of_ble_eq_true rfl) ⟨(Nat.le_of_ble_eq_true rfl), (Nat.le_of_ble_eq_true rfl)⟩ hph hph (show 0 + 0 = 0 from rfl) (by decide) (fun rh2 Lh2 clh2 lnh2 ivh2 rvh2 h2 => ?_)
      obtain ⟨f2, rfl, rfl, rfl, rfl, rfl, rfl, rgf2, exf2⟩ := h2
      refine c_st (st2 := [.int (iI f2)]) rfl ?_
      have gf2 : ((0 ≤ i ∧ i < iv (sk 8) 2) ∨ f2 = 0) ∧ ∀ ss, CT iv rv (sk 8) ss → 0 ≤ i → i < iv (sk 8) 2 → f2 = ss i.toNat := exf2
      refine c_istore (lv2 := [(5, .int (iI f2)), (4, .ref (sk 6)), (3, .ref (sk 24)), (0, .ref a0), (1, .int (iI g)), (2, .int (iI i))]) C dX3_longestAt_31 (by decide) rfl ?_
      refine c_null C dX3_longestAt_33 ?_
      refine c_astorer (r := none) (lv2 := [(6, .null), (5, .int (iI f2)), (4, .ref (sk 6)), (3, .ref (sk 24)), (0, .ref a0), (1, .int (iI g)), (2, .int (iI i))]) C dX3_longestAt_34 (by decide) rfl ?_
      refine c_iconst C dX3_longestAt_36 ?_
      refine c_istore (lv2 := [(7, .int (iI 0)), (6, .null), (5, .int (iI f2)), (4, .ref (sk 6)), (3, .ref (sk 24)), (0, .ref a0), (1, .int (iI g)), (2, .int (iI i))]) C dX3_longestAt_37 (by decide) rfl ?_
      refine c_aload (j := 3) (x := (sk 6)) C dX3_longestAt_39 rfl ?_
      have ri2 : 0 ≤ iv (sk 6) 2 ∧ iv (sk 6) 2 ≤ 6003 := hW.int tsk6 2
      refine c_get (k := 2) C ck_2 dX3_longestAt_41 w1_49 (by decide) tsk6 rfl rfl (by decide) rfl ?_
      refine c_aload_n (j := 4) (x := (sk 24)) C dX3_longestAt_44 rfl ?_
      have ri3 : 0 ≤ iv (sk 24) 2 ∧ iv (sk 24) 2 ≤ 6003 := hW.int tsk24 2
      refine d_callV (As := []) (rest := [.int (iI (iv (sk 6) 2))]) C hM (C_size_24 (a0 := (sk 24)) hW hS tsk24  ) dX3_longestAt_45 kV_X3_78 rfl tsk24 rfl rfl (by decide) ck_0 rfl (Nat.le_of_ble_eq_true rfl) ⟨(Nat.le_of_ble_eq_true rfl), (Nat.le_of_ble_eq_true rfl)⟩ hph hph (show 0 + 0 = 0 from rfl) (by decide) (fun rh3 Lh3 clh3 lnh3 ivh3 rvh3 h3 => ?_)
      obtain ⟨f3, rfl, rfl, rfl, rfl, rfl, rfl, rgf3, exf3⟩ := h3
      refine c_st (st2 := [.int (iI f3), .int (iI (iv (sk 6) 2))]) rfl ?_
      have gf3 : f3 = iv (sk 24) 2 := exf3
      obtain ⟨mn1, hmn1, emn1⟩ := mmin_c (x := iv (sk 6) 2) (y := f3) (r32_c (lo := 0) (hi := 6003) ri2.1 ri2.2 (by decide) (by decide)) ⟨by omega, by omega⟩
      refine c_mmin (w := iI mn1) C dX3_longestAt_48 w5_88 w2_129 w1_14 w2_130 (by decide) (rom0 hph hph (by decide)) (Nat.le_of_ble_eq_true rfl) emn1 ?_
      refine c_istore (lv2 := [(8, .int (iI mn1)), (7, .int (iI 0)), (6, .null), (5, .int (iI f2)), (4, .ref (sk 6)), (3, .ref (sk 24)), (0, .ref a0), (1, .int (iI g)), (2, .int (iI i))]) C dX3_longestAt_51 (by decide) rfl ?_
      refine c_iconst C dX3_longestAt_53 ?_
      refine c_istore (lv2 := [(9, .int (iI 0)), (8, .int (iI mn1)), (7, .int (iI 0)), (6, .null), (5, .int (iI f2)), (4, .ref (sk 6)), (3, .ref (sk 24)), (0, .ref a0), (1, .int (iI g)), (2, .int (iI i))]) C dX3_longestAt_54 (by decide) rfl ?_
      have Lp1 : ∀ (nn : Nat) (bs : Option Nat) (lg k : Int) , 6004 - k < (nn : Int) → (∀ b, bs = some b → ty L cl b 20) → (0 ≤ lg ∧ lg ≤ 4) → (0 ≤ k ∧ k ≤ 6003) → (k ≤ iv (sk 24) 2 ∧ k ≤ iv (sk 6) 2) → (LAI L cl ln iv rv (sk 24) (sk 6) (sk 8) i k lg bs) → cw p l e 3 ((PHM) + 0 - ((Phi (g0 G) sk) ln rv)) s m args below meth c G A 11 (MQ below (Qu G A (Qp G (Phi (g0 G) sk) ((Phi (g0 G) sk) ln rv) 0 (fun v L2 cl2 ln2 iv2 rv2 => ∃ f : Option Nat, v = some ((va_rf f)) ∧ L = L2 ∧ cl = cl2 ∧ ln = ln2 ∧ iv = iv2 ∧ rv = rv2 ∧ (∀ b, f = some b → ty L2 cl2 b 20) ∧ (LAX4 L cl ln iv rv (if g = 0 then sk 24 else sk 25) (if g = 0 then sk 6 else sk 7) (sk 8) i f)))) args s (((PHM) + 0 - ((Phi (g0 G) sk) ln rv)) / 16) ((PHM) + 0 - ((Phi (g0 G) sk) ln rv)) A) (Phi (g0 G) sk) ((Phi (g0 G) sk) ln rv) L cl ln iv rv 0 56 [(6, (va_rf bs)), (7, .int (iI lg)), (9, .int (iI k)), (8, .int (iI mn1)), (5, .int (iI f2)), (4, .ref (sk 6)), (3, .ref (sk 24)), (0, .ref a0), (1, .int (iI g)), (2, .int (iI i))] [] := by
        intro nn
        induction nn with
        | zero =>
          intro bs lg k  hm  ty_bs hlg hk hkn hI
          exact absurd hm (by omega)
        | succ nn ih1 =>
          intro bs lg k  hm  ty_bs hlg hk hkn hI
          obtain ⟨u81, hu81, tu81⟩ := hW.ref tsk8 1 rfl rfl rfl
          refine c_iload (j := 2) C dX3_longestAt_56 rfl ?_
          refine c_iload (j := 3) C dX3_longestAt_58 rfl ?_
          refine c_icmp_ge (tgt := 132) C (r32_c (lo := 0) (hi := 6003) hk.1 hk.2 (by decide) (by decide)) ⟨by omega, by omega⟩ dX3_longestAt_60 (by decide) (fun c2 => ?_) (fun c2 => ?_)
          · refine c_aloadr (j := 0) (r := bs) C dX3_longestAt_132 rfl ?_
            exact c_aret (x := bs) C dX3_longestAt_134 rfl (Or.inl ⟨_, rfl⟩) (by decide) (rom0 hph hph (by decide)) ⟨bs, rfl, rfl, rfl, rfl, rfl, rfl, ty_bs, (by first | (rw [if_pos (by omega), if_pos (by omega)]; exact hI.fin (by omega) (by omega)) | (rw [if_neg (by omega), if_neg (by omega)]; exact hI.fin (by omega) (by omega)) | (exfalso; omega))⟩
          · refine c_aload (j := 5) (x := (sk 6)) C dX3_longestAt_63 rfl ?_
            obtain ⟨rb3, rq3, trb3⟩ := hW.ref tsk6 1 rfl rfl rfl
            refine hv2 (show 16 ≤ ln rb3 ∧ ln rb3 ≤ 12006 from hW.len trb3 rfl) (hW.isz tsk6 rfl rfl rq3) (fun lnrb3 szrb3 => ?_)
            refine c_getr (k := 1) C ck_2 dX3_longestAt_65 w1_41 (by decide) tsk6 rfl rfl (by decide) rfl rq3 ?_
            refine c_st (st2 := [.ref rb3]) rfl ?_
            refine c_iload (j := 2) C dX3_longestAt_68 rfl ?_
            have ll1 : 16 ≤ ln rb3 ∧ ln rb3 ≤ 12006 := hW.len trb3 rfl
            refine c_iald C dX3_longestAt_70 trb3 rfl (by omega) (by omega) (by omega) ?_
            have ri4 : (-2147483648) ≤ iv rb3 k.toNat ∧ iv rb3 k.toNat ≤ 2147483647 := hW.int trb3 k.toNat
            refine c_iload (j := 4) C dX3_longestAt_71 rfl ?_
            refine c_icmp_eq (tgt := 79) C (r32_c (lo := (-2147483648)) (hi := 2147483647) ri4.1 ri4.2 (by decide) (by decide)) ⟨by omega, by omega⟩ dX3_longestAt_73 (by decide) (fun c3 => ?_) (fun c3 => ?_)
            · refine c_aload_n (j := 6) (x := (sk 24)) C dX3_longestAt_79 rfl ?_
              refine c_iload (j := 2) C dX3_longestAt_80 rfl ?_
              refine d_callV (As := [.int (iI k)]) (rest := []) C hM (C_get_24 (a0 := (sk 24)) (i := k) hW hS tsk24 (by omega) (by show 0 ≤ k ∧ k < iv (sk 24) 2; omega)) dX3_longestAt_82 kV_X3_82 rfl tsk24 rfl rfl (by decide) ck_0 rfl (Nat.le_of_ble_eq_true rfl) ⟨(Nat.le_of_ble_eq_true rfl), (Nat.le_of_ble_eq_true rfl)⟩ hph hph (show 0 + 0 = 0 from rfl) (by decide) (fun rh4 Lh4 clh4 lnh4 ivh4 rvh4 h4 => ?_)
              obtain ⟨f4, rfl, rfl, rfl, rfl, rfl, rfl, rgf4, exf4⟩ := h4
              refine c_st (st2 := [.ref f4]) rfl ?_
              have gf4 : el rv (sk 24) k.toNat = some f4 := exf4
              refine c_cast C ck_6 dX3_longestAt_85 w5_63 w8_169t rgf4 rfl rfl (by decide) ?_
              refine c_astore (lv2 := [(10, .ref f4), (6, (va_rf bs)), (7, .int (iI lg)), (9, .int (iI k)), (8, .int (iI mn1)), (5, .int (iI f2)), (4, .ref (sk 6)), (3, .ref (sk 24)), (0, .ref a0), (1, .int (iI g)), (2, .int (iI i))]) C dX3_longestAt_88 (by decide) rfl ?_
              refine c_aload (j := 0) (x := f4) C dX3_longestAt_90 rfl ?_
              obtain ⟨rb4, rq4, trb4⟩ := hW.ref rgf4 2 rfl rfl rfl
              have lnrb4 : 1 ≤ ln rb4 ∧ ln rb4 ≤ 4 := hW.len trb4 rfl
              refine c_getr (k := 2) C ck_6 dX3_longestAt_92 w3_143 (by decide) rgf4 rfl rfl (by decide) rfl rq4 ?_
              refine c_st (st2 := [.ref rb4]) rfl ?_
              have ll2 : 1 ≤ ln rb4 ∧ ln rb4 ≤ 4 := hW.len trb4 rfl
              refine c_alenI C dX3_longestAt_95 trb4 rfl ?_
              refine c_iload (j := 2) C dX3_longestAt_96 rfl ?_
              refine c_icmp_le (tgt := 126) C ⟨by omega, by omega⟩ (r32_c (lo := 0) (hi := 4) hlg.1 hlg.2 (by decide) (by decide)) dX3_longestAt_98 (by decide) (fun c4 => ?_) (fun c4 => ?_)
              · refine c_iinc (z := k) (j := 3) (lv2 := [(9, .int (iI (k + 1))), (10, .ref f4), (6, (va_rf bs)), (7, .int (iI lg)), (8, .int (iI mn1)), (5, .int (iI f2)), (4, .ref (sk 6)), (3, .ref (sk 24)), (0, .ref a0), (1, .int (iI g)), (2, .int (iI i))]) C dX3_longestAt_126 rfl (by decide) rfl ?_
                refine c_goto (tgt := 56) C dX3_longestAt_129 (by decide) ?_
                refine c_lv (lv2 := [(6, (va_rf bs)), (7, .int (iI lg)), (9, .int (iI (k + 1))), (8, .int (iI mn1)), (5, .int (iI f2)), (4, .ref (sk 6)), (3, .ref (sk 24)), (0, .ref a0), (1, .int (iI g)), (2, .int (iI i))]) [2, 3, 0, 4, 5, 6, 7, 8, 9, 10] rfl ?_
                exact ih1  bs lg (k + 1)  (by omega)  ty_bs (by omega) (by omega) (by omega) (hI.less ⟨by omega, by omega⟩ exf4 rq4 (by omega))
              · refine c_aload (j := 0) (x := f4) C dX3_longestAt_101 rfl ?_
                refine c_aload_n (j := 8) (x := a0) C dX3_longestAt_103 rfl ?_
                refine c_getr (k := 4) C ck_4 dX3_longestAt_104 w1_198 (by decide) t_a0 rfl rfl (by decide) rfl rq2 ?_
                refine c_st (st2 := [.ref (sk 8), .ref f4]) rfl ?_
                refine c_iload_n (j := 10) C dX3_longestAt_107 rfl ?_
                refine d_callV (As := [.ref (sk 8), .int (iI i)]) (rest := []) C hM (G_standsAt (a0 := f4) (a1 := (sk 8)) (i := i) hW hS rgf4 tsk8 (by omega) (by show 0 ≤ i; omega)) dX3_longestAt_108 kV_X3_157 rfl rgf4 rfl rfl (by decide) ck_6 rfl (Nat.le_of_ble_eq_true rfl) ⟨(Nat.le_of_ble_eq_true rfl), (Nat.le_of_ble_eq_true rfl)⟩ hph hph (show 0 + 0 = 0 from rfl) (by decide) (fun rh5 Lh5 clh5 lnh5 ivh5 rvh5 h5 => ?_)
                obtain ⟨f5, rfl, rfl, rfl, rfl, rfl, rfl, rgf5, exf5⟩ := h5
                refine c_st (st2 := [.int (iI f5)]) rfl ?_
                have gf5 : SAP ln iv rv f4 (sk 8) i f5 := exf5
                refine c_if_eq (tgt := 126) C ⟨by omega, by omega⟩ dX3_longestAt_111 (by decide) (fun c5 => ?_) (fun c5 => ?_)
                · refine c_iinc (z := k) (j := 3) (lv2 := [(9, .int (iI (k + 1))), (10, .ref f4), (6, (va_rf bs)), (7, .int (iI lg)), (8, .int (iI mn1)), (5, .int (iI f2)), (4, .ref (sk 6)), (3, .ref (sk 24)), (0, .ref a0), (1, .int (iI g)), (2, .int (iI i))]) C dX3_longestAt_126 rfl (by decide) rfl ?_
                  refine c_goto (tgt := 56) C dX3_longestAt_129 (by decide) ?_
                  refine c_lv (lv2 := [(6, (va_rf bs)), (7, .int (iI lg)), (9, .int (iI (k + 1))), (8, .int (iI mn1)), (5, .int (iI f2)), (4, .ref (sk 6)), (3, .ref (sk 24)), (0, .ref a0), (1, .int (iI g)), (2, .int (iI i))]) [2, 3, 0, 4, 5, 6, 7, 8, 9, 10] rfl ?_
                  exact ih1  bs lg (k + 1)  (by omega)  ty_bs (by omega) (by omega) (by omega) (hI.skip ⟨by omega, by omega⟩ exf4 gf5 hu81 (by omega))
                · refine c_aload (j := 0) (x := f4) C dX3_longestAt_114 rfl ?_
                  refine c_astore (lv2 := [(6, .ref f4), (10, .ref f4), (7, .int (iI lg)), (9, .int (iI k)), (8, .int (iI mn1)), (5, .int (iI f2)), (4, .ref (sk 6)), (3, .ref (sk 24)), (0, .ref a0), (1, .int (iI g)), (2, .int (iI i))]) C dX3_longestAt_116 (by decide) rfl ?_
                  refine c_aload (j := 1) (x := f4) C dX3_longestAt_118 rfl ?_
                  refine c_getr (k := 2) C ck_6 dX3_longestAt_120 w3_143 (by decide) rgf4 rfl rfl (by decide) rfl rq4 ?_
                  refine c_st (st2 := [.ref rb4]) rfl ?_
                  refine c_alenI C dX3_longestAt_123 trb4 rfl ?_
                  refine c_istore (lv2 := [(7, .int (iI ((ln rb4 : Nat) : Int))), (6, .ref f4), (10, .ref f4), (9, .int (iI k)), (8, .int (iI mn1)), (5, .int (iI f2)), (4, .ref (sk 6)), (3, .ref (sk 24)), (0, .ref a0), (1, .int (iI g)), (2, .int (iI i))]) C dX3_longestAt_124 (by decide) rfl ?_
                  refine c_iinc (z := k) (j := 3) (lv2 := [(9, .int (iI (k + 1))), (7, .int (iI ((ln rb4 : Nat) : Int))), (6, .ref f4), (10, .ref f4), (8, .int (iI mn1)), (5, .int (iI f2)), (4, .ref (sk 6)), (3, .ref (sk 24)), (0, .ref a0), (1, .int (iI g)), (2, .int (iI i))]) C dX3_longestAt_126 rfl (by decide) rfl ?_
                  refine c_goto (tgt := 56) C dX3_longestAt_129 (by decide) ?_
                  refine c_lv (lv2 := [(6, .ref f4), (7, .int (iI ((ln rb4 : Nat) : Int))), (9, .int (iI (k + 1))), (8, .int (iI mn1)), (5, .int (iI f2)), (4, .ref (sk 6)), (3, .ref (sk 24)), (0, .ref a0), (1, .int (iI g)), (2, .int (iI i))]) [2, 1, 0, 4, 5, 6, 7, 8, 9, 10] rfl ?_
                  exact ih1  (some f4) ((ln rb4 : Nat) : Int) (k + 1)  (by omega)  (fun _ q => by cases q; exact rgf4) (by omega) (by omega) (by omega) (hI.take ⟨by omega, by omega⟩ exf4 gf5 hu81 (by omega) rq4 (by omega) rfl)
            · refine c_goto (tgt := 126) C dX3_longestAt_76 (by decide) ?_
              refine c_iinc (z := k) (j := 2) (lv2 := [(9, .int (iI (k + 1))), (6, (va_rf bs)), (7, .int (iI lg)), (8, .int (iI mn1)), (5, .int (iI f2)), (4, .ref (sk 6)), (3, .ref (sk 24)), (0, .ref a0), (1, .int (iI g)), (2, .int (iI i))]) C dX3_longestAt_126 rfl (by decide) rfl ?_
              refine c_goto (tgt := 56) C dX3_longestAt_129 (by decide) ?_
              refine c_lv (lv2 := [(6, (va_rf bs)), (7, .int (iI lg)), (9, .int (iI (k + 1))), (8, .int (iI mn1)), (5, .int (iI f2)), (4, .ref (sk 6)), (3, .ref (sk 24)), (0, .ref a0), (1, .int (iI g)), (2, .int (iI i))]) [1, 2, 0, 3, 4, 5, 6, 7, 8, 9] rfl ?_
              exact ih1  bs lg (k + 1)  (by omega)  ty_bs (by omega) (by omega) (by omega) (hI.pass rq3 ⟨by omega, by omega⟩ rfl (fun R hR h1 h2 => gf2.2 R hR h1 h2) (by omega))
      refine c_lv (lv2 := [(6, .null), (7, .int (iI 0)), (9, .int (iI 0)), (8, .int (iI mn1)), (5, .int (iI f2)), (4, .ref (sk 6)), (3, .ref (sk 24)), (0, .ref a0), (1, .int (iI g)), (2, .int (iI i))]) [3, 2, 0, 1, 4, 5, 6, 7, 8, 9] rfl ?_
      exact Lp1 6006 none 0 0  (by omega)  (fun _ q => by cases q) (by omega) (by omega) (by omega) LAI.init
    · refine c_aload_n (j := 1) (x := a0) C dX3_longestAt_10 rfl ?_
      obtain ⟨rb5, rq5, trb5⟩ := hW.ref t_a0 3 rfl rfl rfl
      have erb5 := hW.sk trb5 (by decide) rfl
      subst erb5
      refine c_getr (k := 3) C ck_4 dX3_longestAt_11 w1_197 (by decide) t_a0 rfl rfl (by decide) rfl rq5 ?_
      refine c_st (st2 := [.ref (sk 7)]) rfl ?_
      refine c_goto (tgt := 21) C dX3_longestAt_14 (by decide) ?_
      refine c_astore (lv2 := [(4, .ref (sk 7)), (3, .ref (sk 24)), (0, .ref a0), (1, .int (iI g)), (2, .int (iI i))]) C dX3_longestAt_21 (by decide) rfl ?_
      refine c_aload_n (j := 2) (x := a0) C dX3_longestAt_23 rfl ?_
      obtain ⟨rb6, rq6, trb6⟩ := hW.ref t_a0 4 rfl rfl rfl
      have erb6 := hW.sk trb6 (by decide) rfl
      subst erb6
      refine c_getr (k := 4) C ck_4 dX3_longestAt_24 w1_198 (by decide) t_a0 rfl rfl (by decide) rfl rq6 ?_
      refine c_st (st2 := [.ref (sk 8)]) rfl ?_
      refine c_iload_n (j := 4) C dX3_longestAt_27 rfl ?_
      have ri5 : 0 ≤ iv (sk 8) 2 ∧ iv (sk 8) 2 ≤ 40200 := hW.int tsk8 2
      refine d_callV (As := [.int (iI i)]) (rest := []) C hM (C_at_8 (a0 := (sk 8)) (i := i) hW hS tsk8 (by omega) ) dX3_longestAt_28 kV_X3_119 rfl tsk8 rfl rfl (by decide) ck_2 rfl (Nat.le_of_ble_eq_true rfl) ⟨(Nat.le_of_ble_eq_true rfl), (Nat.le_of_ble_eq_true rfl)⟩ hph hph (show 0 + 0 = 0 from rfl) (by decide) (fun rh6 Lh6 clh6 lnh6 ivh6 rvh6 h6 => ?_)
      obtain ⟨f6, rfl, rfl, rfl, rfl, rfl, rfl, rgf6, exf6⟩ := h6
      refine c_st (st2 := [.int (iI f6)]) rfl ?_
      have gf6 : ((0 ≤ i ∧ i < iv (sk 8) 2) ∨ f6 = 0) ∧ ∀ ss, CT iv rv (sk 8) ss → 0 ≤ i → i < iv (sk 8) 2 → f6 = ss i.toNat := exf6
      refine c_istore (lv2 := [(5, .int (iI f6)), (4, .ref (sk 7)), (3, .ref (sk 24)), (0, .ref a0), (1, .int (iI g)), (2, .int (iI i))]) C dX3_longestAt_31 (by decide) rfl ?_
      refine c_null C dX3_longestAt_33 ?_
      refine c_astorer (r := none) (lv2 := [(6, .null), (5, .int (iI f6)), (4, .ref (sk 7)), (3, .ref (sk 24)), (0, .ref a0), (1, .int (iI g)), (2, .int (iI i))]) C dX3_longestAt_34 (by decide) rfl ?_
      refine c_iconst C dX3_longestAt_36 ?_
      refine c_istore (lv2 := [(7, .int (iI 0)), (6, .null), (5, .int (iI f6)), (4, .ref (sk 7)), (3, .ref (sk 24)), (0, .ref a0), (1, .int (iI g)), (2, .int (iI i))]) C dX3_longestAt_37 (by decide) rfl ?_
      refine c_aload (j := 3) (x := (sk 7)) C dX3_longestAt_39 rfl ?_
      have ri6 : 0 ≤ iv (sk 7) 2 ∧ iv (sk 7) 2 ≤ 6003 := hW.int tsk7 2
      refine c_get (k := 2) C ck_2 dX3_longestAt_41 w1_49 (by decide) tsk7 rfl rfl (by decide) rfl ?_
      refine c_aload_n (j := 4) (x := (sk 24)) C dX3_longestAt_44 rfl ?_
      have ri7 : 0 ≤ iv (sk 24) 2 ∧ iv (sk 24) 2 ≤ 6003 := hW.int tsk24 2
      refine d_callV (As := []) (rest := [.int (iI (iv (sk 7) 2))]) C hM (C_size_24 (a0 := (sk 24)) hW hS tsk24  ) dX3_longestAt_45 kV_X3_78 rfl tsk24 rfl rfl (by decide) ck_0 rfl (Nat.le_of_ble_eq_true rfl) ⟨(Nat.le_of_ble_eq_true rfl), (Nat.le_of_ble_eq_true rfl)⟩ hph hph (show 0 + 0 = 0 from rfl) (by decide) (fun rh7 Lh7 clh7 lnh7 ivh7 rvh7 h7 => ?_)
      obtain ⟨f7, rfl, rfl, rfl, rfl, rfl, rfl, rgf7, exf7⟩ := h7
      refine c_st (st2 := [.int (iI f7), .int (iI (iv (sk 7) 2))]) rfl ?_
      have gf7 : f7 = iv (sk 24) 2 := exf7
      obtain ⟨mn2, hmn2, emn2⟩ := mmin_c (x := iv (sk 7) 2) (y := f7) (r32_c (lo := 0) (hi := 6003) ri6.1 ri6.2 (by decide) (by decide)) ⟨by omega, by omega⟩
      refine c_mmin (w := iI mn2) C dX3_longestAt_48 w5_88 w2_129 w1_14 w2_130 (by decide) (rom0 hph hph (by decide)) (Nat.le_of_ble_eq_true rfl) emn2 ?_
      refine c_istore (lv2 := [(8, .int (iI mn2)), (7, .int (iI 0)), (6, .null), (5, .int (iI f6)), (4, .ref (sk 7)), (3, .ref (sk 24)), (0, .ref a0), (1, .int (iI g)), (2, .int (iI i))]) C dX3_longestAt_51 (by decide) rfl ?_
      refine c_iconst C dX3_longestAt_53 ?_
      refine c_istore (lv2 := [(9, .int (iI 0)), (8, .int (iI mn2)), (7, .int (iI 0)), (6, .null), (5, .int (iI f6)), (4, .ref (sk 7)), (3, .ref (sk 24)), (0, .ref a0), (1, .int (iI g)), (2, .int (iI i))]) C dX3_longestAt_54 (by decide) rfl ?_
      have Lp2 : ∀ (nn : Nat) (bs : Option Nat) (lg k : Int) , 6004 - k < (nn : Int) → (∀ b, bs = some b → ty L cl b 20) → (0 ≤ lg ∧ lg ≤ 4) → (0 ≤ k ∧ k ≤ 6003) → (k ≤ iv (sk 24) 2 ∧ k ≤ iv (sk 7) 2) → (LAI L cl ln iv rv (sk 24) (sk 7) (sk 8) i k lg bs) → cw p l e 3 ((PHM) + 0 - ((Phi (g0 G) sk) ln rv)) s m args below meth c G A 11 (MQ below (Qu G A (Qp G (Phi (g0 G) sk) ((Phi (g0 G) sk) ln rv) 0 (fun v L2 cl2 ln2 iv2 rv2 => ∃ f : Option Nat, v = some ((va_rf f)) ∧ L = L2 ∧ cl = cl2 ∧ ln = ln2 ∧ iv = iv2 ∧ rv = rv2 ∧ (∀ b, f = some b → ty L2 cl2 b 20) ∧ (LAX4 L cl ln iv rv (if g = 0 then sk 24 else sk 25) (if g = 0 then sk 6 else sk 7) (sk 8) i f)))) args s (((PHM) + 0 - ((Phi (g0 G) sk) ln rv)) / 16) ((PHM) + 0 - ((Phi (g0 G) sk) ln rv)) A) (Phi (g0 G) sk) ((Phi (g0 G) sk) ln rv) L cl ln iv rv 0 56 [(6, (va_rf bs)), (7, .int (iI lg)), (9, .int (iI k)), (8, .int (iI mn2)), (5, .int (iI f6)), (4, .ref (sk 7)), (3, .ref (sk 24)), (0, .ref a0), (1, .int (iI g)), (2, .int (iI i))] [] := by
        intro nn
        induction nn with
        | zero =>
          intro bs lg k  hm  ty_bs hlg hk hkn hI
          exact absurd hm (by omega)
        | succ nn ih2 =>
          intro bs lg k  hm  ty_bs hlg hk hkn hI
          obtain ⟨u82, hu82, tu82⟩ := hW.ref tsk8 1 rfl rfl rfl
          refine c_iload (j := 2) C dX3_longestAt_56 rfl ?_
          refine c_iload (j := 3) C dX3_longestAt_58 rfl ?_
          refine c_icmp_ge (tgt := 132) C (r32_c (lo := 0) (hi := 6003) hk.1 hk.2 (by decide) (by decide)) ⟨by omega, by omega⟩ dX3_longestAt_60 (by decide) (fun c6 => ?_) (fun c6 => ?_)
          · refine c_aloadr (j := 0) (r := bs) C dX3_longestAt_132 rfl ?_
            exact c_aret (x := bs) C dX3_longestAt_134 rfl (Or.inl ⟨_, rfl⟩) (by decide) (rom0 hph hph (by decide)) ⟨bs, rfl, rfl, rfl, rfl, rfl, rfl, ty_bs, (by first | (rw [if_pos (by omega), if_pos (by omega)]; exact hI.fin (by omega) (by omega)) | (rw [if_neg (by omega), if_neg (by omega)]; exact hI.fin (by omega) (by omega)) | (exfalso; omega))⟩
          · refine c_aload (j := 5) (x := (sk 7)) C dX3_longestAt_63 rfl ?_
            obtain ⟨rb7, rq7, trb7⟩ := hW.ref tsk7 1 rfl rfl rfl
            refine hv2 (show 16 ≤ ln rb7 ∧ ln rb7 ≤ 12006 from hW.len trb7 rfl) (hW.isz tsk7 rfl rfl rq7) (fun lnrb7 szrb7 => ?_)
            refine c_getr (k := 1) C ck_2 dX3_longestAt_65 w1_41 (by decide) tsk7 rfl rfl (by decide) rfl rq7 ?_
            refine c_st (st2 := [.ref rb7]) rfl ?_
            refine c_iload (j := 2) C dX3_longestAt_68 rfl ?_
            have ll3 : 16 ≤ ln rb7 ∧ ln rb7 ≤ 12006 := hW.len trb7 rfl
            refine c_iald C dX3_longestAt_70 trb7 rfl (by omega) (by omega) (by omega) ?_
            have ri8 : (-2147483648) ≤ iv rb7 k.toNat ∧ iv rb7 k.toNat ≤ 2147483647 := hW.int trb7 k.toNat
            refine c_iload (j := 4) C dX3_longestAt_71 rfl ?_
            refine c_icmp_eq (tgt := 79) C (r32_c (lo := (-2147483648)) (hi := 2147483647) ri8.1 ri8.2 (by decide) (by decide)) ⟨by omega, by omega⟩ dX3_longestAt_73 (by decide) (fun c7 => ?_) (fun c7 => ?_)
            · refine c_aload_n (j := 6) (x := (sk 24)) C dX3_longestAt_79 rfl ?_
              refine c_iload (j := 2) C dX3_longestAt_80 rfl ?_
              refine d_callV (As := [.int (iI k)]) (rest := []) C hM (C_get_24 (a0 := (sk 24)) (i := k) hW hS tsk24 (by omega) (by show 0 ≤ k ∧ k < iv (sk 24) 2; omega)) dX3_longestAt_82 kV_X3_82 rfl tsk24 rfl rfl (by decide) ck_0 rfl (Nat.le_of_ble_eq_true rfl) ⟨(Nat.le_of_ble_eq_true rfl), (Nat.le_of_ble_eq_true rfl)⟩ hph hph (show 0 + 0 = 0 from rfl) (by decide) (fun rh8 Lh8 clh8 lnh8 ivh8 rvh8 h8 => ?_)
              obtain ⟨f8, rfl, rfl, rfl, rfl, rfl, rfl, rgf8, exf8⟩ := h8
              refine c_st (st2 := [.ref f8]) rfl ?_
              have gf8 : el rv (sk 24) k.toNat = some f8 := exf8
              refine c_cast C ck_6 dX3_longestAt_85 w5_63 w8_169t rgf8 rfl rfl (by decide) ?_
              refine c_astore (lv2 := [(10, .ref f8), (6, (va_rf bs)), (7, .int (iI lg)), (9, .int (iI k)), (8, .int (iI mn2)), (5, .int (iI f6)), (4, .ref (sk 7)), (3, .ref (sk 24)), (0, .ref a0), (1, .int (iI g)), (2, .int (iI i))]) C dX3_longestAt_88 (by decide) rfl ?_
              refine c_aload (j := 0) (x := f8) C dX3_longestAt_90 rfl ?_
              obtain ⟨rb8, rq8, trb8⟩ := hW.ref rgf8 2 rfl rfl rfl
              have lnrb8 : 1 ≤ ln rb8 ∧ ln rb8 ≤ 4 := hW.len trb8 rfl
              refine c_getr (k := 2) C ck_6 dX3_longestAt_92 w3_143 (by decide) rgf8 rfl rfl (by decide) rfl rq8 ?_
              refine c_st (st2 := [.ref rb8]) rfl ?_
              have ll4 : 1 ≤ ln rb8 ∧ ln rb8 ≤ 4 := hW.len trb8 rfl
              refine c_alenI C dX3_longestAt_95 trb8 rfl ?_
              refine c_iload (j := 2) C dX3_longestAt_96 rfl ?_
              refine c_icmp_le (tgt := 126) C ⟨by omega, by omega⟩ (r32_c (lo := 0) (hi := 4) hlg.1 hlg.2 (by decide) (by decide)) dX3_longestAt_98 (by decide) (fun c8 => ?_) (fun c8 => ?_)
              · refine c_iinc (z := k) (j := 3) (lv2 := [(9, .int (iI (k + 1))), (10, .ref f8), (6, (va_rf bs)), (7, .int (iI lg)), (8, .int (iI mn2)), (5, .int (iI f6)), (4, .ref (sk 7)), (3, .ref (sk 24)), (0, .ref a0), (1, .int (iI g)), (2, .int (iI i))]) C dX3_longestAt_126 rfl (by decide) rfl ?_
                refine c_goto (tgt := 56) C dX3_longestAt_129 (by decide) ?_
                refine c_lv (lv2 := [(6, (va_rf bs)), (7, .int (iI lg)), (9, .int (iI (k + 1))), (8, .int (iI mn2)), (5, .int (iI f6)), (4, .ref (sk 7)), (3, .ref (sk 24)), (0, .ref a0), (1, .int (iI g)), (2, .int (iI i))]) [2, 3, 0, 4, 5, 6, 7, 8, 9, 10] rfl ?_
                exact ih2  bs lg (k + 1)  (by omega)  ty_bs (by omega) (by omega) (by omega) (hI.less ⟨by omega, by omega⟩ exf8 rq8 (by omega))
              · refine c_aload (j := 0) (x := f8) C dX3_longestAt_101 rfl ?_
                refine c_aload_n (j := 8) (x := a0) C dX3_longestAt_103 rfl ?_
                refine c_getr (k := 4) C ck_4 dX3_longestAt_104 w1_198 (by decide) t_a0 rfl rfl (by decide) rfl rq6 ?_
                refine c_st (st2 := [.ref (sk 8), .ref f8]) rfl ?_
                refine c_iload_n (j := 10) C dX3_longestAt_107 rfl ?_
                refine d_callV (As := [.ref (sk 8), .int (iI i)]) (rest := []) C hM (G_standsAt (a0 := f8) (a1 := (sk 8)) (i := i) hW hS rgf8 tsk8 (by omega) (by show 0 ≤ i; omega)) dX3_longestAt_108 kV_X3_157 rfl rgf8 rfl rfl (by decide) ck_6 rfl (Nat.le_of_ble_eq_true rfl) ⟨(Nat.le_of_ble_eq_true rfl), (Nat.le_of_ble_eq_true rfl)⟩ hph hph (show 0 + 0 = 0 from rfl) (by decide) (fun rh9 Lh9 clh9 lnh9 ivh9 rvh9 h9 => ?_)
                obtain ⟨f9, rfl, rfl, rfl, rfl, rfl, rfl, rgf9, exf9⟩ := h9
                refine c_st (st2 := [.int (iI f9)]) rfl ?_
                have gf9 : SAP ln iv rv f8 (sk 8) i f9 := exf9
                refine c_if_eq (tgt := 126) C ⟨by omega, by omega⟩ dX3_longestAt_111 (by decide) (fun c9 => ?_) (fun c9 => ?_)
                · refine c_iinc (z := k) (j := 3) (lv2 := [(9, .int (iI (k + 1))), (10, .ref f8), (6, (va_rf bs)), (7, .int (iI lg)), (8, .int (iI mn2)), (5, .int (iI f6)), (4, .ref (sk 7)), (3, .ref (sk 24)), (0, .ref a0), (1, .int (iI g)), (2, .int (iI i))]) C dX3_longestAt_126 rfl (by decide) rfl ?_
                  refine c_goto (tgt := 56) C dX3_longestAt_129 (by decide) ?_
                  refine c_lv (lv2 := [(6, (va_rf bs)), (7, .int (iI lg)), (9, .int (iI (k + 1))), (8, .int (iI mn2)), (5, .int (iI f6)), (4, .ref (sk 7)), (3, .ref (sk 24)), (0, .ref a0), (1, .int (iI g)), (2, .int (iI i))]) [2, 3, 0, 4, 5, 6, 7, 8, 9, 10] rfl ?_
                  exact ih2  bs lg (k + 1)  (by omega)  ty_bs (by omega) (by omega) (by omega) (hI.skip ⟨by omega, by omega⟩ exf8 gf9 hu82 (by omega))
                · refine c_aload (j := 0) (x := f8) C dX3_longestAt_114 rfl ?_
                  refine c_astore (lv2 := [(6, .ref f8), (10, .ref f8), (7, .int (iI lg)), (9, .int (iI k)), (8, .int (iI mn2)), (5, .int (iI f6)), (4, .ref (sk 7)), (3, .ref (sk 24)), (0, .ref a0), (1, .int (iI g)), (2, .int (iI i))]) C dX3_longestAt_116 (by decide) rfl ?_
                  refine c_aload (j := 1) (x := f8) C dX3_longestAt_118 rfl ?_
                  refine c_getr (k := 2) C ck_6 dX3_longestAt_120 w3_143 (by decide) rgf8 rfl rfl (by decide) rfl rq8 ?_
                  refine c_st (st2 := [.ref rb8]) rfl ?_
                  refine c_alenI C dX3_longestAt_123 trb8 rfl ?_
                  refine c_istore (lv2 := [(7, .int (iI ((ln rb8 : Nat) : Int))), (6, .ref f8), (10, .ref f8), (9, .int (iI k)), (8, .int (iI mn2)), (5, .int (iI f6)), (4, .ref (sk 7)), (3, .ref (sk 24)), (0, .ref a0), (1, .int (iI g)), (2, .int (iI i))]) C dX3_longestAt_124 (by decide) rfl ?_
                  refine c_iinc (z := k) (j := 3) (lv2 := [(9, .int (iI (k + 1))), (7, .int (iI ((ln rb8 : Nat) : Int))), (6, .ref f8), (10, .ref f8), (8, .int (iI mn2)), (5, .int (iI f6)), (4, .ref (sk 7)), (3, .ref (sk 24)), (0, .ref a0), (1, .int (iI g)), (2, .int (iI i))]) C dX3_longestAt_126 rfl (by decide) rfl ?_
                  refine c_goto (tgt := 56) C dX3_longestAt_129 (by decide) ?_
                  refine c_lv (lv2 := [(6, .ref f8), (7, .int (iI ((ln rb8 : Nat) : Int))), (9, .int (iI (k + 1))), (8, .int (iI mn2)), (5, .int (iI f6)), (4, .ref (sk 7)), (3, .ref (sk 24)), (0, .ref a0), (1, .int (iI g)), (2, .int (iI i))]) [2, 1, 0, 4, 5, 6, 7, 8, 9, 10] rfl ?_
                  exact ih2  (some f8) ((ln rb8 : Nat) : Int) (k + 1)  (by omega)  (fun _ q => by cases q; exact rgf8) (by omega) (by omega) (by omega) (hI.take ⟨by omega, by omega⟩ exf8 gf9 hu82 (by omega) rq8 (by omega) rfl)
            · refine c_goto (tgt := 126) C dX3_longestAt_76 (by decide) ?_
              refine c_iinc (z := k) (j := 2) (lv2 := [(9, .int (iI (k + 1))), (6, (va_rf bs)), (7, .int (iI lg)), (8, .int (iI mn2)), (5, .int (iI f6)), (4, .ref (sk 7)), (3, .ref (sk 24)), (0, .ref a0), (1, .int (iI g)), (2, .int (iI i))]) C dX3_longestAt_126 rfl (by decide) rfl ?_
              refine c_goto (tgt := 56) C dX3_longestAt_129 (by decide) ?_
              refine c_lv (lv2 := [(6, (va_rf bs)), (7, .int (iI lg)), (9, .int (iI (k + 1))), (8, .int (iI mn2)), (5, .int (iI f6)), (4, .ref (sk 7)), (3, .ref (sk 24)), (0, .ref a0), (1, .int (iI g)), (2, .int (iI i))]) [1, 2, 0, 3, 4, 5, 6, 7, 8, 9] rfl ?_
              exact ih2  bs lg (k + 1)  (by omega)  ty_bs (by omega) (by omega) (by omega) (hI.pass rq7 ⟨by omega, by omega⟩ rfl (fun R hR h1 h2 => gf6.2 R hR h1 h2) (by omega))
      refine c_lv (lv2 := [(6, .null), (7, .int (iI 0)), (9, .int (iI 0)), (8, .int (iI mn2)), (5, .int (iI f6)), (4, .ref (sk 7)), (3, .ref (sk 24)), (0, .ref a0), (1, .int (iI g)), (2, .int (iI i))]) [3, 2, 0, 1, 4, 5, 6, 7, 8, 9] rfl ?_
      exact Lp2 6006 none 0 0  (by omega)  (fun _ q => by cases q) (by omega) (by omega) (by omega) LAI.init
  · obtain ⟨hf1, rfl⟩ := exf1
    refine c_st (st2 := [.ref (sk 25)]) rfl ?_
    refine c_astore_n (lv2 := [(3, .ref (sk 25)), (0, .ref a0), (1, .int (iI g)), (2, .int (iI i))]) C dX3_longestAt_5 (by decide) rfl ?_
    refine c_iload_n (j := 2) C dX3_longestAt_6 rfl ?_
    refine c_if_eq (tgt := 17) C ⟨by omega, by omega⟩ dX3_longestAt_7 (by decide) (fun c10 => ?_) (fun c10 => ?_)
    · refine c_aload_n (j := 1) (x := a0) C dX3_longestAt_17 rfl ?_
      obtain ⟨rb9, rq9, trb9⟩ := hW.ref t_a0 2 rfl rfl rfl
      have erb9 := hW.sk trb9 (by decide) rfl
      subst erb9
      refine c_getr (k := 2) C ck_4 dX3_longestAt_18 w1_196 (by decide) t_a0 rfl rfl (by decide) rfl rq9 ?_
      refine c_st (st2 := [.ref (sk 6)]) rfl ?_
      refine c_astore (lv2 := [(4, .ref (sk 6)), (3, .ref (sk 25)), (0, .ref a0), (1, .int (iI g)), (2, .int (iI i))]) C dX3_longestAt_21 (by decide) rfl ?_
      refine c_aload_n (j := 2) (x := a0) C dX3_longestAt_23 rfl ?_
      obtain ⟨rb10, rq10, trb10⟩ := hW.ref t_a0 4 rfl rfl rfl
      have erb10 := hW.sk trb10 (by decide) rfl
      subst erb10
      refine c_getr (k := 4) C ck_4 dX3_longestAt_24 w1_198 (by decide) t_a0 rfl rfl (by decide) rfl rq10 ?_
      refine c_st (st2 := [.ref (sk 8)]) rfl ?_
      refine c_iload_n (j := 4) C dX3_longestAt_27 rfl ?_
      have ri9 : 0 ≤ iv (sk 8) 2 ∧ iv (sk 8) 2 ≤ 40200 := hW.int tsk8 2
      refine d_callV (As := [.int (iI i)]) (rest := []) C hM (C_at_8 (a0 := (sk 8)) (i := i) hW hS tsk8 (by omega) ) dX3_longestAt_28 kV_X3_119 rfl tsk8 rfl rfl (by decide) ck_2 rfl (Nat.le_of_ble_eq_true rfl) ⟨(Nat.le_of_ble_eq_true rfl), (Nat.le_of_ble_eq_true rfl)⟩ hph hph (show 0 + 0 = 0 from rfl) (by decide) (fun rh10 Lh10 clh10 lnh10 ivh10 rvh10 h10 => ?_)
      obtain ⟨f10, rfl, rfl, rfl, rfl, rfl, rfl, rgf10, exf10⟩ := h10
      refine c_st (st2 := [.int (iI f10)]) rfl ?_
      have gf10 : ((0 ≤ i ∧ i < iv (sk 8) 2) ∨ f10 = 0) ∧ ∀ ss, CT iv rv (sk 8) ss → 0 ≤ i → i < iv (sk 8) 2 → f10 = ss i.toNat := exf10
      refine c_istore (lv2 := [(5, .int (iI f10)), (4, .ref (sk 6)), (3, .ref (sk 25)), (0, .ref a0), (1, .int (iI g)), (2, .int (iI i))]) C dX3_longestAt_31 (by decide) rfl ?_
      refine c_null C dX3_longestAt_33 ?_
      refine c_astorer (r := none) (lv2 := [(6, .null), (5, .int (iI f10)), (4, .ref (sk 6)), (3, .ref (sk 25)), (0, .ref a0), (1, .int (iI g)), (2, .int (iI i))]) C dX3_longestAt_34 (by decide) rfl ?_
      refine c_iconst C dX3_longestAt_36 ?_
      refine c_istore (lv2 := [(7, .int (iI 0)), (6, .null), (5, .int (iI f10)), (4, .ref (sk 6)), (3, .ref (sk 25)), (0, .ref a0), (1, .int (iI g)), (2, .int (iI i))]) C dX3_longestAt_37 (by decide) rfl ?_
      refine c_aload (j := 3) (x := (sk 6)) C dX3_longestAt_39 rfl ?_
      have ri10 : 0 ≤ iv (sk 6) 2 ∧ iv (sk 6) 2 ≤ 6003 := hW.int tsk6 2
      refine c_get (k := 2) C ck_2 dX3_longestAt_41 w1_49 (by decide) tsk6 rfl rfl (by decide) rfl ?_
      refine c_aload_n (j := 4) (x := (sk 25)) C dX3_longestAt_44 rfl ?_
      have ri11 : 0 ≤ iv (sk 25) 2 ∧ iv (sk 25) 2 ≤ 6003 := hW.int tsk25 2
      refine d_callV (As := []) (rest := [.int (iI (iv (sk 6) 2))]) C hM (C_size_25 (a0 := (sk 25)) hW hS tsk25  ) dX3_longestAt_45 kV_X3_78 rfl tsk25 rfl rfl (by decide) ck_0 rfl (Nat.le_of_ble_eq_true rfl) ⟨(Nat.le_of_ble_eq_true rfl), (Nat.le_of_ble_eq_true rfl)⟩ hph hph (show 0 + 0 = 0 from rfl) (by decide) (fun rh11 Lh11 clh11 lnh11 ivh11 rvh11 h11 => ?_)
      obtain ⟨f11, rfl, rfl, rfl, rfl, rfl, rfl, rgf11, exf11⟩ := h11
      refine c_st (st2 := [.int (iI f11), .int (iI (iv (sk 6) 2))]) rfl ?_
      have gf11 : f11 = iv (sk 25) 2 := exf11
      obtain ⟨mn3, hmn3, emn3⟩ := mmin_c (x := iv (sk 6) 2) (y := f11) (r32_c (lo := 0) (hi := 6003) ri10.1 ri10.2 (by decide) (by decide)) ⟨by omega, by omega⟩
      refine c_mmin (w := iI mn3) C dX3_longestAt_48 w5_88 w2_129 w1_14 w2_130 (by decide) (rom0 hph hph (by decide)) (Nat.le_of_ble_eq_true rfl) emn3 ?_
      refine c_istore (lv2 := [(8, .int (iI mn3)), (7, .int (iI 0)), (6, .null), (5, .int (iI f10)), (4, .ref (sk 6)), (3, .ref (sk 25)), (0, .ref a0), (1, .int (iI g)), (2, .int (iI i))]) C dX3_longestAt_51 (by decide) rfl ?_
      refine c_iconst C dX3_longestAt_53 ?_
      refine c_istore (lv2 := [(9, .int (iI 0)), (8, .int (iI mn3)), (7, .int (iI 0)), (6, .null), (5, .int (iI f10)), (4, .ref (sk 6)), (3, .ref (sk 25)), (0, .ref a0), (1, .int (iI g)), (2, .int (iI i))]) C dX3_longestAt_54 (by decide) rfl ?_
      have Lp3 : ∀ (nn : Nat) (bs : Option Nat) (lg k : Int) , 6004 - k < (nn : Int) → (∀ b, bs = some b → ty L cl b 20) → (0 ≤ lg ∧ lg ≤ 4) → (0 ≤ k ∧ k ≤ 6003) → (k ≤ iv (sk 25) 2 ∧ k ≤ iv (sk 6) 2) → (LAI L cl ln iv rv (sk 25) (sk 6) (sk 8) i k lg bs) → cw p l e 3 ((PHM) + 0 - ((Phi (g0 G) sk) ln rv)) s m args below meth c G A 11 (MQ below (Qu G A (Qp G (Phi (g0 G) sk) ((Phi (g0 G) sk) ln rv) 0 (fun v L2 cl2 ln2 iv2 rv2 => ∃ f : Option Nat, v = some ((va_rf f)) ∧ L = L2 ∧ cl = cl2 ∧ ln = ln2 ∧ iv = iv2 ∧ rv = rv2 ∧ (∀ b, f = some b → ty L2 cl2 b 20) ∧ (LAX4 L cl ln iv rv (if g = 0 then sk 24 else sk 25) (if g = 0 then sk 6 else sk 7) (sk 8) i f)))) args s (((PHM) + 0 - ((Phi (g0 G) sk) ln rv)) / 16) ((PHM) + 0 - ((Phi (g0 G) sk) ln rv)) A) (Phi (g0 G) sk) ((Phi (g0 G) sk) ln rv) L cl ln iv rv 0 56 [(6, (va_rf bs)), (7, .int (iI lg)), (9, .int (iI k)), (8, .int (iI mn3)), (5, .int (iI f10)), (4, .ref (sk 6)), (3, .ref (sk 25)), (0, .ref a0), (1, .int (iI g)), (2, .int (iI i))] [] := by
        intro nn
        induction nn with
        | zero =>
          intro bs lg k  hm  ty_bs hlg hk hkn hI
          exact absurd hm (by omega)
        | succ nn ih3 =>
          intro bs lg k  hm  ty_bs hlg hk hkn hI
          obtain ⟨u83, hu83, tu83⟩ := hW.ref tsk8 1 rfl rfl rfl
          refine c_iload (j := 2) C dX3_longestAt_56 rfl ?_
          refine c_iload (j := 3) C dX3_longestAt_58 rfl ?_
          refine c_icmp_ge (tgt := 132) C (r32_c (lo := 0) (hi := 6003) hk.1 hk.2 (by decide) (by decide)) ⟨by omega, by omega⟩ dX3_longestAt_60 (by decide) (fun c11 => ?_) (fun c11 => ?_)
          · refine c_aloadr (j := 0) (r := bs) C dX3_longestAt_132 rfl ?_
            exact c_aret (x := bs) C dX3_longestAt_134 rfl (Or.inl ⟨_, rfl⟩) (by decide) (rom0 hph hph (by decide)) ⟨bs, rfl, rfl, rfl, rfl, rfl, rfl, ty_bs, (by first | (rw [if_pos (by omega), if_pos (by omega)]; exact hI.fin (by omega) (by omega)) | (rw [if_neg (by omega), if_neg (by omega)]; exact hI.fin (by omega) (by omega)) | (exfalso; omega))⟩
          · refine c_aload (j := 5) (x := (sk 6)) C dX3_longestAt_63 rfl ?_
            obtain ⟨rb11, rq11, trb11⟩ := hW.ref tsk6 1 rfl rfl rfl
            refine hv2 (show 16 ≤ ln rb11 ∧ ln rb11 ≤ 12006 from hW.len trb11 rfl) (hW.isz tsk6 rfl rfl rq11) (fun lnrb11 szrb11 => ?_)
            refine c_getr (k := 1) C ck_2 dX3_longestAt_65 w1_41 (by decide) tsk6 rfl rfl (by decide) rfl rq11 ?_
            refine c_st (st2 := [.ref rb11]) rfl ?_
            refine c_iload (j := 2) C dX3_longestAt_68 rfl ?_
            have ll5 : 16 ≤ ln rb11 ∧ ln rb11 ≤ 12006 := hW.len trb11 rfl
            refine c_iald C dX3_longestAt_70 trb11 rfl (by omega) (by omega) (by omega) ?_
            have ri12 : (-2147483648) ≤ iv rb11 k.toNat ∧ iv rb11 k.toNat ≤ 2147483647 := hW.int trb11 k.toNat
            refine c_iload (j := 4) C dX3_longestAt_71 rfl ?_
            refine c_icmp_eq (tgt := 79) C (r32_c (lo := (-2147483648)) (hi := 2147483647) ri12.1 ri12.2 (by decide) (by decide)) ⟨by omega, by omega⟩ dX3_longestAt_73 (by decide) (fun c12 => ?_) (fun c12 => ?_)
            · refine c_aload_n (j := 6) (x := (sk 25)) C dX3_longestAt_79 rfl ?_
              refine c_iload (j := 2) C dX3_longestAt_80 rfl ?_
              refine d_callV (As := [.int (iI k)]) (rest := []) C hM (C_get_25 (a0 := (sk 25)) (i := k) hW hS tsk25 (by omega) (by show 0 ≤ k ∧ k < iv (sk 25) 2; omega)) dX3_longestAt_82 kV_X3_82 rfl tsk25 rfl rfl (by decide) ck_0 rfl (Nat.le_of_ble_eq_true rfl) ⟨(Nat.le_of_ble_eq_true rfl), (Nat.le_of_ble_eq_true rfl)⟩ hph hph (show 0 + 0 = 0 from rfl) (by decide) (fun rh12 Lh12 clh12 lnh12 ivh12 rvh12 h12 => ?_)
              obtain ⟨f12, rfl, rfl, rfl, rfl, rfl, rfl, rgf12, exf12⟩ := h12
              refine c_st (st2 := [.ref f12]) rfl ?_
              have gf12 : el rv (sk 25) k.toNat = some f12 := exf12
              refine c_cast C ck_6 dX3_longestAt_85 w5_63 w8_169t rgf12 rfl rfl (by decide) ?_
              refine c_astore (lv2 := [(10, .ref f12), (6, (va_rf bs)), (7, .int (iI lg)), (9, .int (iI k)), (8, .int (iI mn3)), (5, .int (iI f10)), (4, .ref (sk 6)), (3, .ref (sk 25)), (0, .ref a0), (1, .int (iI g)), (2, .int (iI i))]) C dX3_longestAt_88 (by decide) rfl ?_
              refine c_aload (j := 0) (x := f12) C dX3_longestAt_90 rfl ?_
              obtain ⟨rb12, rq12, trb12⟩ := hW.ref rgf12 2 rfl rfl rfl
              have lnrb12 : 1 ≤ ln rb12 ∧ ln rb12 ≤ 4 := hW.len trb12 rfl
              refine c_getr (k := 2) C ck_6 dX3_longestAt_92 w3_143 (by decide) rgf12 rfl rfl (by decide) rfl rq12 ?_
              refine c_st (st2 := [.ref rb12]) rfl ?_
              have ll6 : 1 ≤ ln rb12 ∧ ln rb12 ≤ 4 := hW.len trb12 rfl
              refine c_alenI C dX3_longestAt_95 trb12 rfl ?_
              refine c_iload (j := 2) C dX3_longestAt_96 rfl ?_
              refine c_icmp_le (tgt := 126) C ⟨by omega, by omega⟩ (r32_c (lo := 0) (hi := 4) hlg.1 hlg.2 (by decide) (by decide)) dX3_longestAt_98 (by decide) (fun c13 => ?_) (fun c13 => ?_)
              · refine c_iinc (z := k) (j := 3) (lv2 := [(9, .int (iI (k + 1))), (10, .ref f12), (6, (va_rf bs)), (7, .int (iI lg)), (8, .int (iI mn3)), (5, .int (iI f10)), (4, .ref (sk 6)), (3, .ref (sk 25)), (0, .ref a0), (1, .int (iI g)), (2, .int (iI i))]) C dX3_longestAt_126 rfl (by decide) rfl ?_
                refine c_goto (tgt := 56) C dX3_longestAt_129 (by decide) ?_
                refine c_lv (lv2 := [(6, (va_rf bs)), (7, .int (iI lg)), (9, .int (iI (k + 1))), (8, .int (iI mn3)), (5, .int (iI f10)), (4, .ref (sk 6)), (3, .ref (sk 25)), (0, .ref a0), (1, .int (iI g)), (2, .int (iI i))]) [2, 3, 0, 4, 5, 6, 7, 8, 9, 10] rfl ?_
                exact ih3  bs lg (k + 1)  (by omega)  ty_bs (by omega) (by omega) (by omega) (hI.less ⟨by omega, by omega⟩ exf12 rq12 (by omega))
              · refine c_aload (j := 0) (x := f12) C dX3_longestAt_101 rfl ?_
                refine c_aload_n (j := 8) (x := a0) C dX3_longestAt_103 rfl ?_
                refine c_getr (k := 4) C ck_4 dX3_longestAt_104 w1_198 (by decide) t_a0 rfl rfl (by decide) rfl rq10 ?_
                refine c_st (st2 := [.ref (sk 8), .ref f12]) rfl ?_
                refine c_iload_n (j := 10) C dX3_longestAt_107 rfl ?_
                refine d_callV (As := [.ref (sk 8), .int (iI i)]) (rest := []) C hM (G_standsAt (a0 := f12) (a1 := (sk 8)) (i := i) hW hS rgf12 tsk8 (by omega) (by show 0 ≤ i; omega)) dX3_longestAt_108 kV_X3_157 rfl rgf12 rfl rfl (by decide) ck_6 rfl (Nat.le_of_ble_eq_true rfl) ⟨(Nat.le_of_ble_eq_true rfl), (Nat.le_of_ble_eq_true rfl)⟩ hph hph (show 0 + 0 = 0 from rfl) (by decide) (fun rh13 Lh13 clh13 lnh13 ivh13 rvh13 h13 => ?_)
                obtain ⟨f13, rfl, rfl, rfl, rfl, rfl, rfl, rgf13, exf13⟩ := h13
                refine c_st (st2 := [.int (iI f13)]) rfl ?_
                have gf13 : SAP ln iv rv f12 (sk 8) i f13 := exf13
                refine c_if_eq (tgt := 126) C ⟨by omega, by omega⟩ dX3_longestAt_111 (by decide) (fun c14 => ?_) (fun c14 => ?_)
                · refine c_iinc (z := k) (j := 3) (lv2 := [(9, .int (iI (k + 1))), (10, .ref f12), (6, (va_rf bs)), (7, .int (iI lg)), (8, .int (iI mn3)), (5, .int (iI f10)), (4, .ref (sk 6)), (3, .ref (sk 25)), (0, .ref a0), (1, .int (iI g)), (2, .int (iI i))]) C dX3_longestAt_126 rfl (by decide) rfl ?_
                  refine c_goto (tgt := 56) C dX3_longestAt_129 (by decide) ?_
                  refine c_lv (lv2 := [(6, (va_rf bs)), (7, .int (iI lg)), (9, .int (iI (k + 1))), (8, .int (iI mn3)), (5, .int (iI f10)), (4, .ref (sk 6)), (3, .ref (sk 25)), (0, .ref a0), (1, .int (iI g)), (2, .int (iI i))]) [2, 3, 0, 4, 5, 6, 7, 8, 9, 10] rfl ?_
                  exact ih3  bs lg (k + 1)  (by omega)  ty_bs (by omega) (by omega) (by omega) (hI.skip ⟨by omega, by omega⟩ exf12 gf13 hu83 (by omega))
                · refine c_aload (j := 0) (x := f12) C dX3_longestAt_114 rfl ?_
                  refine c_astore (lv2 := [(6, .ref f12), (10, .ref f12), (7, .int (iI lg)), (9, .int (iI k)), (8, .int (iI mn3)), (5, .int (iI f10)), (4, .ref (sk 6)), (3, .ref (sk 25)), (0, .ref a0), (1, .int (iI g)), (2, .int (iI i))]) C dX3_longestAt_116 (by decide) rfl ?_
                  refine c_aload (j := 1) (x := f12) C dX3_longestAt_118 rfl ?_
                  refine c_getr (k := 2) C ck_6 dX3_longestAt_120 w3_143 (by decide) rgf12 rfl rfl (by decide) rfl rq12 ?_
                  refine c_st (st2 := [.ref rb12]) rfl ?_
                  refine c_alenI C dX3_longestAt_123 trb12 rfl ?_
                  refine c_istore (lv2 := [(7, .int (iI ((ln rb12 : Nat) : Int))), (6, .ref f12), (10, .ref f12), (9, .int (iI k)), (8, .int (iI mn3)), (5, .int (iI f10)), (4, .ref (sk 6)), (3, .ref (sk 25)), (0, .ref a0), (1, .int (iI g)), (2, .int (iI i))]) C dX3_longestAt_124 (by decide) rfl ?_
                  refine c_iinc (z := k) (j := 3) (lv2 := [(9, .int (iI (k + 1))), (7, .int (iI ((ln rb12 : Nat) : Int))), (6, .ref f12), (10, .ref f12), (8, .int (iI mn3)), (5, .int (iI f10)), (4, .ref (sk 6)), (3, .ref (sk 25)), (0, .ref a0), (1, .int (iI g)), (2, .int (iI i))]) C dX3_longestAt_126 rfl (by decide) rfl ?_
                  refine c_goto (tgt := 56) C dX3_longestAt_129 (by decide) ?_
                  refine c_lv (lv2 := [(6, .ref f12), (7, .int (iI ((ln rb12 : Nat) : Int))), (9, .int (iI (k + 1))), (8, .int (iI mn3)), (5, .int (iI f10)), (4, .ref (sk 6)), (3, .ref (sk 25)), (0, .ref a0), (1, .int (iI g)), (2, .int (iI i))]) [2, 1, 0, 4, 5, 6, 7, 8, 9, 10] rfl ?_
                  exact ih3  (some f12) ((ln rb12 : Nat) : Int) (k + 1)  (by omega)  (fun _ q => by cases q; exact rgf12) (by omega) (by omega) (by omega) (hI.take ⟨by omega, by omega⟩ exf12 gf13 hu83 (by omega) rq12 (by omega) rfl)
            · refine c_goto (tgt := 126) C dX3_longestAt_76 (by decide) ?_
              refine c_iinc (z := k) (j := 2) (lv2 := [(9, .int (iI (k + 1))), (6, (va_rf bs)), (7, .int (iI lg)), (8, .int (iI mn3)), (5, .int (iI f10)), (4, .ref (sk 6)), (3, .ref (sk 25)), (0, .ref a0), (1, .int (iI g)), (2, .int (iI i))]) C dX3_longestAt_126 rfl (by decide) rfl ?_
              refine c_goto (tgt := 56) C dX3_longestAt_129 (by decide) ?_
              refine c_lv (lv2 := [(6, (va_rf bs)), (7, .int (iI lg)), (9, .int (iI (k + 1))), (8, .int (iI mn3)), (5, .int (iI f10)), (4, .ref (sk 6)), (3, .ref (sk 25)), (0, .ref a0), (1, .int (iI g)), (2, .int (iI i))]) [1, 2, 0, 3, 4, 5, 6, 7, 8, 9] rfl ?_
              exact ih3  bs lg (k + 1)  (by omega)  ty_bs (by omega) (by omega) (by omega) (hI.pass rq11 ⟨by omega, by omega⟩ rfl (fun R hR h1 h2 => gf10.2 R hR h1 h2) (by omega))
      refine c_lv (lv2 := [(6, .null), (7, .int (iI 0)), (9, .int (iI 0)), (8, .int (iI mn3)), (5, .int (iI f10)), (4, .ref (sk 6)), (3, .ref (sk 25)), (0, .ref a0), (1, .int (iI g)), (2, .int (iI i))]) [3, 2, 0, 1, 4, 5, 6, 7, 8, 9] rfl ?_
      exact Lp3 6006 none 0 0  (by omega)  (fun _ q => by cases q) (by omega) (by omega) (by omega) LAI.init
    · refine c_aload_n (j := 1) (x := a0) C dX3_longestAt_10 rfl ?_
      obtain ⟨rb13, rq13, trb13⟩ := hW.ref t_a0 3 rfl rfl rfl
      have erb13 := hW.sk trb13 (by decide) rfl
      subst erb13
      refine c_getr (k := 3) C ck_4 dX3_longestAt_11 w1_197 (by decide) t_a0 rfl rfl (by decide) rfl rq13 ?_
      refine c_st (st2 := [.ref (sk 7)]) rfl ?_
      refine c_goto (tgt := 21) C dX3_longestAt_14 (by decide) ?_
      refine c_astore (lv2 := [(4, .ref (sk 7)), (3, .ref (sk 25)), (0, .ref a0), (1, .int (iI g)), (2, .int (iI i))]) C dX3_longestAt_21 (by decide) rfl ?_
      refine c_aload_n (j := 2) (x := a0) C dX3_longestAt_23 rfl ?_
      obtain ⟨rb14, rq14, trb14⟩ := hW.ref t_a0 4 rfl rfl rfl
      have erb14 := hW.sk trb14 (by decide) rfl
      subst erb14
      refine c_getr (k := 4) C ck_4 dX3_longestAt_24 w1_198 (by decide) t_a0 rfl rfl (by decide) rfl rq14 ?_
      refine c_st (st2 := [.ref (sk 8)]) rfl ?_
      refine c_iload_n (j := 4) C dX3_longestAt_27 rfl ?_
      have ri13 : 0 ≤ iv (sk 8) 2 ∧ iv (sk 8) 2 ≤ 40200 := hW.int tsk8 2
      refine d_callV (As := [.int (iI i)]) (rest := []) C hM (C_at_8 (a0 := (sk 8)) (i := i) hW hS tsk8 (by omega) ) dX3_longestAt_28 kV_X3_119 rfl tsk8 rfl rfl (by decide) ck_2 rfl (Nat.le_of_ble_eq_true rfl) ⟨(Nat.le_of_ble_eq_true rfl), (Nat.le_of_ble_eq_true rfl)⟩ hph hph (show 0 + 0 = 0 from rfl) (by decide) (fun rh14 Lh14 clh14 lnh14 ivh14 rvh14 h14 => ?_)
      obtain ⟨f14, rfl, rfl, rfl, rfl, rfl, rfl, rgf14, exf14⟩ := h14
      refine c_st (st2 := [.int (iI f14)]) rfl ?_
      have gf14 : ((0 ≤ i ∧ i < iv (sk 8) 2) ∨ f14 = 0) ∧ ∀ ss, CT iv rv (sk 8) ss → 0 ≤ i → i < iv (sk 8) 2 → f14 = ss i.toNat := exf14
      refine c_istore (lv2 := [(5, .int (iI f14)), (4, .ref (sk 7)), (3, .ref (sk 25)), (0, .ref a0), (1, .int (iI g)), (2, .int (iI i))]) C dX3_longestAt_31 (by decide) rfl ?_
      refine c_null C dX3_longestAt_33 ?_
      refine c_astorer (r := none) (lv2 := [(6, .null), (5, .int (iI f14)), (4, .ref (sk 7)), (3, .ref (sk 25)), (0, .ref a0), (1, .int (iI g)), (2, .int (iI i))]) C dX3_longestAt_34 (by decide) rfl ?_
      refine c_iconst C dX3_longestAt_36 ?_
      refine c_istore (lv2 := [(7, .int (iI 0)), (6, .null), (5, .int (iI f14)), (4, .ref (sk 7)), (3, .ref (sk 25)), (0, .ref a0), (1, .int (iI g)), (2, .int (iI i))]) C dX3_longestAt_37 (by decide) rfl ?_
      refine c_aload (j := 3) (x := (sk 7)) C dX3_longestAt_39 rfl ?_
      have ri14 : 0 ≤ iv (sk 7) 2 ∧ iv (sk 7) 2 ≤ 6003 := hW.int tsk7 2
      refine c_get (k := 2) C ck_2 dX3_longestAt_41 w1_49 (by decide) tsk7 rfl rfl (by decide) rfl ?_
      refine c_aload_n (j := 4) (x := (sk 25)) C dX3_longestAt_44 rfl ?_
      have ri15 : 0 ≤ iv (sk 25) 2 ∧ iv (sk 25) 2 ≤ 6003 := hW.int tsk25 2
      refine d_callV (As := []) (rest := [.int (iI (iv (sk 7) 2))]) C hM (C_size_25 (a0 := (sk 25)) hW hS tsk25  ) dX3_longestAt_45 kV_X3_78 rfl tsk25 rfl rfl (by decide) ck_0 rfl (Nat.le_of_ble_eq_true rfl) ⟨(Nat.le_of_ble_eq_true rfl), (Nat.le_of_ble_eq_true rfl)⟩ hph hph (show 0 + 0 = 0 from rfl) (by decide) (fun rh15 Lh15 clh15 lnh15 ivh15 rvh15 h15 => ?_)
      obtain ⟨f15, rfl, rfl, rfl, rfl, rfl, rfl, rgf15, exf15⟩ := h15
      refine c_st (st2 := [.int (iI f15), .int (iI (iv (sk 7) 2))]) rfl ?_
      have gf15 : f15 = iv (sk 25) 2 := exf15
      obtain ⟨mn4, hmn4, emn4⟩ := mmin_c (x := iv (sk 7) 2) (y := f15) (r32_c (lo := 0) (hi := 6003) ri14.1 ri14.2 (by decide) (by decide)) ⟨by omega, by omega⟩
      refine c_mmin (w := iI mn4) C dX3_longestAt_48 w5_88 w2_129 w1_14 w2_130 (by decide) (rom0 hph hph (by decide)) (Nat.le_of_ble_eq_true rfl) emn4 ?_
      refine c_istore (lv2 := [(8, .int (iI mn4)), (7, .int (iI 0)), (6, .null), (5, .int (iI f14)), (4, .ref (sk 7)), (3, .ref (sk 25)), (0, .ref a0), (1, .int (iI g)), (2, .int (iI i))]) C dX3_longestAt_51 (by decide) rfl ?_
      refine c_iconst C dX3_longestAt_53 ?_
      refine c_istore (lv2 := [(9, .int (iI 0)), (8, .int (iI mn4)), (7, .int (iI 0)), (6, .null), (5, .int (iI f14)), (4, .ref (sk 7)), (3, .ref (sk 25)), (0, .ref a0), (1, .int (iI g)), (2, .int (iI i))]) C dX3_longestAt_54 (by decide) rfl ?_
      have Lp4 : ∀ (nn : Nat) (bs : Option Nat) (lg k : Int) , 6004 - k < (nn : Int) → (∀ b, bs = some b → ty L cl b 20) → (0 ≤ lg ∧ lg ≤ 4) → (0 ≤ k ∧ k ≤ 6003) → (k ≤ iv (sk 25) 2 ∧ k ≤ iv (sk 7) 2) → (LAI L cl ln iv rv (sk 25) (sk 7) (sk 8) i k lg bs) → cw p l e 3 ((PHM) + 0 - ((Phi (g0 G) sk) ln rv)) s m args below meth c G A 11 (MQ below (Qu G A (Qp G (Phi (g0 G) sk) ((Phi (g0 G) sk) ln rv) 0 (fun v L2 cl2 ln2 iv2 rv2 => ∃ f : Option Nat, v = some ((va_rf f)) ∧ L = L2 ∧ cl = cl2 ∧ ln = ln2 ∧ iv = iv2 ∧ rv = rv2 ∧ (∀ b, f = some b → ty L2 cl2 b 20) ∧ (LAX4 L cl ln iv rv (if g = 0 then sk 24 else sk 25) (if g = 0 then sk 6 else sk 7) (sk 8) i f)))) args s (((PHM) + 0 - ((Phi (g0 G) sk) ln rv)) / 16) ((PHM) + 0 - ((Phi (g0 G) sk) ln rv)) A) (Phi (g0 G) sk) ((Phi (g0 G) sk) ln rv) L cl ln iv rv 0 56 [(6, (va_rf bs)), (7, .int (iI lg)), (9, .int (iI k)), (8, .int (iI mn4)), (5, .int (iI f14)), (4, .ref (sk 7)), (3, .ref (sk 25)), (0, .ref a0), (1, .int (iI g)), (2, .int (iI i))] [] := by
        intro nn
        induction nn with
        | zero =>
          intro bs lg k  hm  ty_bs hlg hk hkn hI
          exact absurd hm (by omega)
        | succ nn ih4 =>
          intro bs lg k  hm  ty_bs hlg hk hkn hI
          obtain ⟨u84, hu84, tu84⟩ := hW.ref tsk8 1 rfl rfl rfl
          refine c_iload (j := 2) C dX3_longestAt_56 rfl ?_
          refine c_iload (j := 3) C dX3_longestAt_58 rfl ?_
          refine c_icmp_ge (tgt := 132) C (r32_c (lo := 0) (hi := 6003) hk.1 hk.2 (by decide) (by decide)) ⟨by omega, by omega⟩ dX3_longestAt_60 (by decide) (fun c15 => ?_) (fun c15 => ?_)
          · refine c_aloadr (j := 0) (r := bs) C dX3_longestAt_132 rfl ?_
            exact c_aret (x := bs) C dX3_longestAt_134 rfl (Or.inl ⟨_, rfl⟩) (by decide) (rom0 hph hph (by decide)) ⟨bs, rfl, rfl, rfl, rfl, rfl, rfl, ty_bs, (by first | (rw [if_pos (by omega), if_pos (by omega)]; exact hI.fin (by omega) (by omega)) | (rw [if_neg (by omega), if_neg (by omega)]; exact hI.fin (by omega) (by omega)) | (exfalso; omega))⟩
          · refine c_aload (j := 5) (x := (sk 7)) C dX3_longestAt_63 rfl ?_
            obtain ⟨rb15, rq15, trb15⟩ := hW.ref tsk7 1 rfl rfl rfl
            refine hv2 (show 16 ≤ ln rb15 ∧ ln rb15 ≤ 12006 from hW.len trb15 rfl) (hW.isz tsk7 rfl rfl rq15) (fun lnrb15 szrb15 => ?_)
            refine c_getr (k := 1) C ck_2 dX3_longestAt_65 w1_41 (by decide) tsk7 rfl rfl (by decide) rfl rq15 ?_
            refine c_st (st2 := [.ref rb15]) rfl ?_
            refine c_iload (j := 2) C dX3_longestAt_68 rfl ?_
            have ll7 : 16 ≤ ln rb15 ∧ ln rb15 ≤ 12006 := hW.len trb15 rfl
            refine c_iald C dX3_longestAt_70 trb15 rfl (by omega) (by omega) (by omega) ?_
            have ri16 : (-2147483648) ≤ iv rb15 k.toNat ∧ iv rb15 k.toNat ≤ 2147483647 := hW.int trb15 k.toNat
            refine c_iload (j := 4) C dX3_longestAt_71 rfl ?_
            refine c_icmp_eq (tgt := 79) C (r32_c (lo := (-2147483648)) (hi := 2147483647) ri16.1 ri16.2 (by decide) (by decide)) ⟨by omega, by omega⟩ dX3_longestAt_73 (by decide) (fun c16 => ?_) (fun c16 => ?_)
            · refine c_aload_n (j := 6) (x := (sk 25)) C dX3_longestAt_79 rfl ?_
              refine c_iload (j := 2) C dX3_longestAt_80 rfl ?_
              refine d_callV (As := [.int (iI k)]) (rest := []) C hM (C_get_25 (a0 := (sk 25)) (i := k) hW hS tsk25 (by omega) (by show 0 ≤ k ∧ k < iv (sk 25) 2; omega)) dX3_longestAt_82 kV_X3_82 rfl tsk25 rfl rfl (by decide) ck_0 rfl (Nat.le_of_ble_eq_true rfl) ⟨(Nat.le_of_ble_eq_true rfl), (Nat.le_of_ble_eq_true rfl)⟩ hph hph (show 0 + 0 = 0 from rfl) (by decide) (fun rh16 Lh16 clh16 lnh16 ivh16 rvh16 h16 => ?_)
              obtain ⟨f16, rfl, rfl, rfl, rfl, rfl, rfl, rgf16, exf16⟩ := h16
              refine c_st (st2 := [.ref f16]) rfl ?_
              have gf16 : el rv (sk 25) k.toNat = some f16 := exf16
              refine c_cast C ck_6 dX3_longestAt_85 w5_63 w8_169t rgf16 rfl rfl (by decide) ?_
              refine c_astore (lv2 := [(10, .ref f16), (6, (va_rf bs)), (7, .int (iI lg)), (9, .int (iI k)), (8, .int (iI mn4)), (5, .int (iI f14)), (4, .ref (sk 7)), (3, .ref (sk 25)), (0, .ref a0), (1, .int (iI g)), (2, .int (iI i))]) C dX3_longestAt_88 (by decide) rfl ?_
              refine c_aload (j := 0) (x := f16) C dX3_longestAt_90 rfl ?_
              obtain ⟨rb16, rq16, trb16⟩ := hW.ref rgf16 2 rfl rfl rfl
              have lnrb16 : 1 ≤ ln rb16 ∧ ln rb16 ≤ 4 := hW.len trb16 rfl
              refine c_getr (k := 2) C ck_6 dX3_longestAt_92 w3_143 (by decide) rgf16 rfl rfl (by decide) rfl rq16 ?_
              refine c_st (st2 := [.ref rb16]) rfl ?_
              have ll8 : 1 ≤ ln rb16 ∧ ln rb16 ≤ 4 := hW.len trb16 rfl
              refine c_alenI C dX3_longestAt_95 trb16 rfl ?_
              refine c_iload (j := 2) C dX3_longestAt_96 rfl ?_
              refine c_icmp_le (tgt := 126) C ⟨by omega, by omega⟩ (r32_c (lo := 0) (hi := 4) hlg.1 hlg.2 (by decide) (by decide)) dX3_longestAt_98 (by decide) (fun c17 => ?_) (fun c17 => ?_)
              · refine c_iinc (z := k) (j := 3) (lv2 := [(9, .int (iI (k + 1))), (10, .ref f16), (6, (va_rf bs)), (7, .int (iI lg)), (8, .int (iI mn4)), (5, .int (iI f14)), (4, .ref (sk 7)), (3, .ref (sk 25)), (0, .ref a0), (1, .int (iI g)), (2, .int (iI i))]) C dX3_longestAt_126 rfl (by decide) rfl ?_
                refine c_goto (tgt := 56) C dX3_longestAt_129 (by decide) ?_
                refine c_lv (lv2 := [(6, (va_rf bs)), (7, .int (iI lg)), (9, .int (iI (k + 1))), (8, .int (iI mn4)), (5, .int (iI f14)), (4, .ref (sk 7)), (3, .ref (sk 25)), (0, .ref a0), (1, .int (iI g)), (2, .int (iI i))]) [2, 3, 0, 4, 5, 6, 7, 8, 9, 10] rfl ?_
                exact ih4  bs lg (k + 1)  (by omega)  ty_bs (by omega) (by omega) (by omega) (hI.less ⟨by omega, by omega⟩ exf16 rq16 (by omega))
              · refine c_aload (j := 0) (x := f16) C dX3_longestAt_101 rfl ?_
                refine c_aload_n (j := 8) (x := a0) C dX3_longestAt_103 rfl ?_
                refine c_getr (k := 4) C ck_4 dX3_longestAt_104 w1_198 (by decide) t_a0 rfl rfl (by decide) rfl rq14 ?_
                refine c_st (st2 := [.ref (sk 8), .ref f16]) rfl ?_
                refine c_iload_n (j := 10) C dX3_longestAt_107 rfl ?_
                refine d_callV (As := [.ref (sk 8), .int (iI i)]) (rest := []) C hM (G_standsAt (a0 := f16) (a1 := (sk 8)) (i := i) hW hS rgf16 tsk8 (by omega) (by show 0 ≤ i; omega)) dX3_longestAt_108 kV_X3_157 rfl rgf16 rfl rfl (by decide) ck_6 rfl (Nat.le_of_ble_eq_true rfl) ⟨(Nat.le_of_ble_eq_true rfl), (Nat.le_of_ble_eq_true rfl)⟩ hph hph (show 0 + 0 = 0 from rfl) (by decide) (fun rh17 Lh17 clh17 lnh17 ivh17 rvh17 h17 => ?_)
                obtain ⟨f17, rfl, rfl, rfl, rfl, rfl, rfl, rgf17, exf17⟩ := h17
                refine c_st (st2 := [.int (iI f17)]) rfl ?_
                have gf17 : SAP ln iv rv f16 (sk 8) i f17 := exf17
                refine c_if_eq (tgt := 126) C ⟨by omega, by omega⟩ dX3_longestAt_111 (by decide) (fun c18 => ?_) (fun c18 => ?_)
                · refine c_iinc (z := k) (j := 3) (lv2 := [(9, .int (iI (k + 1))), (10, .ref f16), (6, (va_rf bs)), (7, .int (iI lg)), (8, .int (iI mn4)), (5, .int (iI f14)), (4, .ref (sk 7)), (3, .ref (sk 25)), (0, .ref a0), (1, .int (iI g)), (2, .int (iI i))]) C dX3_longestAt_126 rfl (by decide) rfl ?_
                  refine c_goto (tgt := 56) C dX3_longestAt_129 (by decide) ?_
                  refine c_lv (lv2 := [(6, (va_rf bs)), (7, .int (iI lg)), (9, .int (iI (k + 1))), (8, .int (iI mn4)), (5, .int (iI f14)), (4, .ref (sk 7)), (3, .ref (sk 25)), (0, .ref a0), (1, .int (iI g)), (2, .int (iI i))]) [2, 3, 0, 4, 5, 6, 7, 8, 9, 10] rfl ?_
                  exact ih4  bs lg (k + 1)  (by omega)  ty_bs (by omega) (by omega) (by omega) (hI.skip ⟨by omega, by omega⟩ exf16 gf17 hu84 (by omega))
                · refine c_aload (j := 0) (x := f16) C dX3_longestAt_114 rfl ?_
                  refine c_astore (lv2 := [(6, .ref f16), (10, .ref f16), (7, .int (iI lg)), (9, .int (iI k)), (8, .int (iI mn4)), (5, .int (iI f14)), (4, .ref (sk 7)), (3, .ref (sk 25)), (0, .ref a0), (1, .int (iI g)), (2, .int (iI i))]) C dX3_longestAt_116 (by decide) rfl ?_
                  refine c_aload (j := 1) (x := f16) C dX3_longestAt_118 rfl ?_
                  refine c_getr (k := 2) C ck_6 dX3_longestAt_120 w3_143 (by decide) rgf16 rfl rfl (by decide) rfl rq16 ?_
                  refine c_st (st2 := [.ref rb16]) rfl ?_
                  refine c_alenI C dX3_longestAt_123 trb16 rfl ?_
                  refine c_istore (lv2 := [(7, .int (iI ((ln rb16 : Nat) : Int))), (6, .ref f16), (10, .ref f16), (9, .int (iI k)), (8, .int (iI mn4)), (5, .int (iI f14)), (4, .ref (sk 7)), (3, .ref (sk 25)), (0, .ref a0), (1, .int (iI g)), (2, .int (iI i))]) C dX3_longestAt_124 (by decide) rfl ?_
                  refine c_iinc (z := k) (j := 3) (lv2 := [(9, .int (iI (k + 1))), (7, .int (iI ((ln rb16 : Nat) : Int))), (6, .ref f16), (10, .ref f16), (8, .int (iI mn4)), (5, .int (iI f14)), (4, .ref (sk 7)), (3, .ref (sk 25)), (0, .ref a0), (1, .int (iI g)), (2, .int (iI i))]) C dX3_longestAt_126 rfl (by decide) rfl ?_
                  refine c_goto (tgt := 56) C dX3_longestAt_129 (by decide) ?_
                  refine c_lv (lv2 := [(6, .ref f16), (7, .int (iI ((ln rb16 : Nat) : Int))), (9, .int (iI (k + 1))), (8, .int (iI mn4)), (5, .int (iI f14)), (4, .ref (sk 7)), (3, .ref (sk 25)), (0, .ref a0), (1, .int (iI g)), (2, .int (iI i))]) [2, 1, 0, 4, 5, 6, 7, 8, 9, 10] rfl ?_
                  exact ih4  (some f16) ((ln rb16 : Nat) : Int) (k + 1)  (by omega)  (fun _ q => by cases q; exact rgf16) (by omega) (by omega) (by omega) (hI.take ⟨by omega, by omega⟩ exf16 gf17 hu84 (by omega) rq16 (by omega) rfl)
            · refine c_goto (tgt := 126) C dX3_longestAt_76 (by decide) ?_
              refine c_iinc (z := k) (j := 2) (lv2 := [(9, .int (iI (k + 1))), (6, (va_rf bs)), (7, .int (iI lg)), (8, .int (iI mn4)), (5, .int (iI f14)), (4, .ref (sk 7)), (3, .ref (sk 25)), (0, .ref a0), (1, .int (iI g)), (2, .int (iI i))]) C dX3_longestAt_126 rfl (by decide) rfl ?_
              refine c_goto (tgt := 56) C dX3_longestAt_129 (by decide) ?_
              refine c_lv (lv2 := [(6, (va_rf bs)), (7, .int (iI lg)), (9, .int (iI (k + 1))), (8, .int (iI mn4)), (5, .int (iI f14)), (4, .ref (sk 7)), (3, .ref (sk 25)), (0, .ref a0), (1, .int (iI g)), (2, .int (iI i))]) [1, 2, 0, 3, 4, 5, 6, 7, 8, 9] rfl ?_
              exact ih4  bs lg (k + 1)  (by omega)  ty_bs (by omega) (by omega) (by omega) (hI.pass rq15 ⟨by omega, by omega⟩ rfl (fun R hR h1 h2 => gf14.2 R hR h1 h2) (by omega))
      refine c_lv (lv2 := [(6, .null), (7, .int (iI 0)), (9, .int (iI 0)), (8, .int (iI mn4)), (5, .int (iI f14)), (4, .ref (sk 7)), (3, .ref (sk 25)), (0, .ref a0), (1, .int (iI g)), (2, .int (iI i))]) [3, 2, 0, 1, 4, 5, 6, 7, 8, 9] rfl ?_
      exact Lp4 6006 none 0 0  (by omega)  (fun _ q => by cases q) (by omega) (by omega) (by omega) LAI.init
end
section
set_option maxHeartbeats 4000000 in
set_option maxRecDepth 100000 in
theorem G_copyOf_10 {l : Launch} {G : GT} {mi : Nat} {sk : Nat → Nat} {L : List Nat} {cl ln : Nat → Nat} {iv : Nat → Nat → Int} {rv : Nat → Nat → Option Nat}  {a0 : Nat} {n : Int} (hW : WT (g0 G) sk L cl ln iv rv) (hS : SKL sk L cl) (t_a0 : ty L cl a0 40) (h_n : -2147483648 ≤ n ∧ n ≤ 2147483647) (hn : ((ln a0 : Nat) : Int) < n ∧ 16 ≤ n ∧ n ≤ 8002) : Mc l G mi zPf 0 yJ7_copyOf_59c91 cJ7_copyOf_59c91 3 (some (.array .int)) 1 [.ref a0, .int (iI n)] L cl ln iv rv (16 + n.toNat) (fun v L2 cl2 ln2 iv2 rv2 => ∃ f : Nat, v = some (.ref f) ∧ XT L cl ln L2 cl2 ln2 ∧ fT [40] L cl iv rv iv2 rv2 ∧ WT (g0 G) sk L2 cl2 ln2 iv2 rv2 ∧ ty L2 cl2 f 40 ∧ (ln2 f = n.toNat ∧ ∀ j : Nat, j < ln a0 → iv2 f j = iv a0 j)) := by
  refine Mc.mk (by decide) (Nat.le_of_ble_eq_true rfl) ?_
  intro p e s m args below meth c A C hM
  refine hv3 ((show zPf ln rv ≤ 0 from Nat.le_refl 0)) (show XT L cl ln L cl ln from XT.refl) (show fT [40] L cl iv rv iv rv from fT.refl) (fun hph hX0 hF0 => ?_)
  refine c_iload_n (j := 1) C dJ7_copyOf_59c91_0 rfl ?_
  refine c_aload_n (j := 0) (x := a0) C dJ7_copyOf_59c91_1 rfl ?_
  have ll1 : 16 ≤ ln a0 ∧ ln a0 ≤ 8002 := hW.len t_a0 rfl
  refine c_alenI C dJ7_copyOf_59c91_2 t_a0 rfl ?_
  refine c_icmp_ne (tgt := 14) C ⟨by omega, by omega⟩ ⟨by omega, by omega⟩ dJ7_copyOf_59c91_3 (by decide) (fun _ => ?_) (fun z => absurd z (by omega))
  refine c_iload_n (j := 1) C dJ7_copyOf_59c91_14 rfl ?_
  refine c_newaI (z := n) (N := n.toNat) C 40 dJ7_copyOf_59c91_15 w1_57 rfl (by omega) (by omega) (rom2 hph hph (by omega)) (fun qn1 cln1 lnn1 ivn1 rvn1 hqn1 hcn1 hln1 hin1 hrn1 => ⟨(0 + (16 + n.toNat)), (z_in (by omega)), ?_⟩)
  refine c_g0 C (fun hg1 => ?_)
  refine hv5 (show ∀ b, b ≠ qn1 → lnn1 b = ln b from (fun b hb => by rw [hln1]; exact va_up_ne _ _ hb)) (show lnn1 qn1 = n.toNat from by rw [hln1]; exact va_up_self _ _ _) (hF0.new hX0 hqn1 hin1 hrn1) (show ty (L ++ [qn1]) cln1 qn1 40 from ty_new hcn1) (show qn1 ∉ L from fun h => hqn1 ((hX0 qn1 h).1)) (fun hxn1 lqn1 F1 tqn1 h0qn1 => ?_)
  refine hv2 (hW.new (ln2 := lnn1) hqn1 (hg1 qn1 (List.mem_append_right _ List.mem_cons_self)) hcn1 hxn1 hin1 hrn1 (fun _ => ⟨(show (-2147483648 : Int) ≤ 0 by decide), (show (0 : Int) ≤ 2147483647 by decide)⟩) (Or.inr (fun _ => rfl)) (fun _ => by show 16 ≤ lnn1 qn1 ∧ lnn1 qn1 ≤ 8002; omega) rfl rfl) (XT.new hqn1 hcn1 hxn1) (fun W1 xl1 => ?_)
  refine hv2 (hX0.trans xl1) (xl1.skl hS) (fun X1 sk1 => ?_)
  refine c_astore_n (lv2 := [(2, .ref qn1), (0, .ref a0), (1, .int (iI n))]) C dJ7_copyOf_59c91_17 (by decide) rfl ?_
  refine c_aload_n (j := 1) (x := a0) C dJ7_copyOf_59c91_18 rfl ?_
  refine c_iconst C dJ7_copyOf_59c91_19 ?_
  refine c_aload_n (j := 0) (x := qn1) C dJ7_copyOf_59c91_20 rfl ?_
  refine c_iconst C dJ7_copyOf_59c91_21 ?_
  refine c_aload_n (j := 1) (x := a0) C dJ7_copyOf_59c91_22 rfl ?_
  have ty1 := xl1.ty t_a0
  have ll2 : 16 ≤ lnn1 a0 ∧ lnn1 a0 ≤ 8002 := W1.len ty1 rfl
  refine c_alenI C dJ7_copyOf_59c91_23 ty1 rfl ?_
  refine c_iload_n (j := 2) C dJ7_copyOf_59c91_24 rfl ?_
  obtain ⟨mn1, hmn1, emn1⟩ := mmin_c (x := ((lnn1 a0 : Nat) : Int)) (y := n) ⟨by omega, by omega⟩ ⟨by omega, by omega⟩
  refine c_mmin (w := iI mn1) C dJ7_copyOf_59c91_25 w2_128 w2_129 w1_14 w2_130 (by decide) (rom0 hph (Nat.le_refl 0) (by omega)) (Nat.le_of_ble_eq_true rfl) emn1 ?_
  have ll3 : 16 ≤ lnn1 qn1 ∧ lnn1 qn1 ≤ 8002 := W1.len tqn1 rfl
  refine c_copyi (sp := 0) (dp := 0) (n := mn1) C dJ7_copyOf_59c91_28 w2_131 w2_133 w2_132 w1_15 ty1 rfl tqn1 rfl (by omega) (by omega) (by omega) (by omega) (by omega) (by omega) (by omega) (by decide) (Nat.le_of_ble_eq_true rfl) (fun iv1 pq1 => ?_)
  refine hv2 (W1.copy pq1 tqn1 ty1 (fun _ => rfl) (fun _ => rfl) (fun _ => rfl) (fun _ => rfl) rfl) (F1.copy X1 pq1 tqn1 rfl) (fun W2 F2 => ?_)
  refine c_aload_n (j := 0) (x := qn1) C dJ7_copyOf_59c91_31 rfl ?_
  have le1 : lnn1 a0 = ln a0 := (xl1 a0 t_a0.1).2.2
  exact c_aret (x := some qn1) C dJ7_copyOf_59c91_32 rfl (Or.inr ⟨_, rfl⟩) (by omega) (rom0 hph (Nat.le_refl 0) (by omega)) ⟨qn1, rfl, X1, F2, W2, tqn1, ⟨lqn1, fun j hj => by
      rw [pq1]
      show (if qn1 = qn1 then (if (0 : Int).toNat ≤ j ∧ j < (0 : Int).toNat + mn1.toNat then ivn1 a0 ((0 : Int).toNat + (j - (0 : Int).toNat)) else ivn1 qn1 j) else ivn1 qn1 j) = _
      rw [if_pos rfl, if_pos ⟨by omega, by omega⟩, hin1, congrFun (up0_a (ne_in t_a0.1 hqn1)) _]
      exact congrArg (iv a0) (by omega)⟩⟩
set_option maxHeartbeats 4000000 in
set_option maxRecDepth 100000 in
theorem G_add_10 {l : Launch} {G : GT} {mi : Nat} {sk : Nat → Nat} {L : List Nat} {cl ln : Nat → Nat} {iv : Nat → Nat → Int} {rv : Nat → Nat → Option Nat}  {a0 : Nat} {x : Int} (hW : WT (g0 G) sk L cl ln iv rv) (hS : SKL sk L cl) (t_a0 : ty L cl a0 10) (h_x : -2147483648 ≤ x ∧ x ≤ 2147483647)  : Mc l G mi (Phi (g0 G) sk) PHM yX1_add cX1_add 2 none 2 [.ref a0, .int (iI x)] L cl ln iv rv 0 (fun v L2 cl2 ln2 iv2 rv2 => v = none ∧ XT L cl ln L2 cl2 ln2 ∧ fT [10, 40] L cl iv rv iv2 rv2 ∧ WT (g0 G) sk L2 cl2 ln2 iv2 rv2 ∧ (((iv2 a0 2 = iv a0 2 ∧ iv a0 2 = 4001) ∨ (iv2 a0 2 = iv a0 2 + 1 ∧ iv a0 2 < 4001)) ∧ (∀ ss, CT iv rv a0 ss → iv a0 2 < 4001 → CT iv2 rv2 a0 (va_up ss (iv a0 2).toNat x)) ∧ (iv a0 2 = 4001 → ∀ ss, CT iv rv a0 ss → CT iv2 rv2 a0 ss))) := by
  refine Mc.mk (by decide) (Nat.le_of_ble_eq_true rfl) ?_
  intro p e s m args below meth c A C hM
  refine hv3 (Phi.le hW hS) (show XT L cl ln L cl ln from XT.refl) (show fT [10, 40] L cl iv rv iv rv from fT.refl) (fun hph hX0 hF0 => ?_)
  refine c_aload_n (j := 0) (x := a0) C dX1_add_0 rfl ?_
  have ri1 : 0 ≤ iv a0 2 ∧ iv a0 2 ≤ 4001 := hW.int t_a0 2
  refine c_get (k := 2) C ck_2 dX1_add_1 w1_43 (by decide) t_a0 rfl rfl (by decide) rfl ?_
  refine c_aload_n (j := 0) (x := a0) C dX1_add_4 rfl ?_
  have ri2 : 4001 ≤ iv a0 0 ∧ iv a0 0 ≤ 4001 := hW.int t_a0 0
  refine c_get (k := 0) C ck_2 dX1_add_5 w1_38 (by decide) t_a0 rfl rfl (by decide) rfl ?_
  refine c_icmp_lt (tgt := 12) C (r32_c (lo := 0) (hi := 4001) ri1.1 ri1.2 (by decide) (by decide)) (r32_c (lo := 4001) (hi := 4001) ri2.1 ri2.2 (by decide) (by decide)) dX1_add_8 (by decide) (fun c1 => ?_) (fun c1 => ?_)
  · refine c_aload_n (j := 0) (x := a0) C dX1_add_12 rfl ?_
    refine c_get (k := 2) C ck_2 dX1_add_13 w1_43 (by decide) t_a0 rfl rfl (by decide) rfl ?_
    refine c_aload_n (j := 0) (x := a0) C dX1_add_16 rfl ?_
    obtain ⟨rb1, rq1, trb1⟩ := hW.ref t_a0 1 rfl rfl rfl
    refine hv2 (show 16 ≤ ln rb1 ∧ ln rb1 ≤ 8002 from hW.len trb1 rfl) (hW.isz t_a0 rfl rfl rq1) (fun lnrb1 szrb1 => ?_)
    refine c_getr (k := 1) C ck_2 dX1_add_17 w1_39 (by decide) t_a0 rfl rfl (by decide) rfl rq1 ?_
    refine c_st (st2 := [.ref rb1, .int (iI (iv a0 2))]) rfl ?_
    have ll1 : 16 ≤ ln rb1 ∧ ln rb1 ≤ 8002 := hW.len trb1 rfl
    refine c_alenI C dX1_add_20 trb1 rfl ?_
    refine c_icmp_lt (tgt := 42) C (r32_c (lo := 0) (hi := 4001) ri1.1 ri1.2 (by decide) (by decide)) ⟨by omega, by omega⟩ dX1_add_21 (by decide) (fun c2 => ?_) (fun c2 => ?_)
    · refine c_aload_n (j := 0) (x := a0) C dX1_add_42 rfl ?_
      refine c_getr (k := 1) C ck_2 dX1_add_43 w1_39 (by decide) t_a0 rfl rfl (by decide) rfl rq1 ?_
      refine c_st (st2 := [.ref rb1]) rfl ?_
      refine c_aload_n (j := 0) (x := a0) C dX1_add_46 rfl ?_
      refine c_get (k := 2) C ck_2 dX1_add_47 w1_43 (by decide) t_a0 rfl rfl (by decide) rfl ?_
      refine c_iload_n (j := 1) C dX1_add_50 rfl ?_
      refine c_iast (x := x) C dX1_add_51 trb1 rfl (by omega) (by omega) (by omega) (fun iv1 pq1 => ?_)
      refine hv2 (hW.puti pq1 trb1 (show (-2147483648) ≤ x ∧ x ≤ 2147483647 by omega) rfl) (hF0.puti hX0 pq1 trb1 rfl) (fun W1 F1 => ?_)
      refine c_aload_n (j := 0) (x := a0) C dX1_add_52 rfl ?_
      refine c_dup C dX1_add_53 rfl ?_
      refine hv2 (show 0 ≤ iv1 a0 2 ∧ iv1 a0 2 ≤ 4001 from W1.int t_a0 2) (show iv1 a0 2 = iv a0 2 from by rw [pq1]; exact up2_k (ne_ty t_a0 trb1 (by decide))) (fun ri3 ie1 => ?_)
      refine c_get (k := 2) C ck_2 dX1_add_54 w1_43 (by decide) t_a0 rfl rfl (by decide) rfl ?_
      refine c_iconst C dX1_add_57 ?_
      refine c_iadd C dX1_add_58 ?_
      refine c_put (z := (iv1 a0 2) + 1) (k := 2) C ck_2 dX1_add_59 w1_43 (by decide) rfl t_a0 rfl rfl (by decide) rfl (by rfl) (by rfl) (fun iv2 pq2 => ?_)
      refine hv3 (W1.isz_put pq2 t_a0 (show 0 ≤ ((iv1 a0 2) + 1) ∧ ((iv1 a0 2) + 1) ≤ 4001 by omega) rfl rfl rq1 (show ((iv1 a0 2) + 1) ≤ ((ln rb1 : Nat) : Int) by omega)) (F1.puti hX0 pq2 t_a0 rfl) (show iv2 a0 2 = (iv1 a0 2) + 1 from by rw [pq2]; exact up2_s) (fun W2 F2 ie2 => ?_)
      have ri4 : 0 ≤ iv2 a0 2 ∧ iv2 a0 2 ≤ 4001 := W2.int t_a0 2
      exact c_vret C dX1_add_62 rfl (by decide) (rom0 hph hph (by decide)) ⟨rfl, hX0, F2, W2, ⟨by omega, (fun ss hs hq b2 hb j hj => by
          rw [rq1] at hb
          cases hb
          rw [pq2, up2_k (ne_ty trb1 t_a0 (by decide)), pq1]
          by_cases e : j = (iv a0 2).toNat
          · subst e; rw [up2_s, va_up_self]
          · rw [up2_j e, va_up_ne _ _ e]; exact hs _ rq1 j (by omega)), (fun e => absurd e (by omega))⟩⟩
    · refine c_aload_n (j := 0) (x := a0) C dX1_add_24 rfl ?_
      refine c_aload_n (j := 0) (x := a0) C dX1_add_25 rfl ?_
      refine c_getr (k := 1) C ck_2 dX1_add_26 w1_39 (by decide) t_a0 rfl rfl (by decide) rfl rq1 ?_
      refine c_st (st2 := [.ref rb1, .ref a0]) rfl ?_
      refine c_aload_n (j := 0) (x := a0) C dX1_add_29 rfl ?_
      refine c_getr (k := 1) C ck_2 dX1_add_30 w1_39 (by decide) t_a0 rfl rfl (by decide) rfl rq1 ?_
      refine c_st (st2 := [.ref rb1, .ref rb1, .ref a0]) rfl ?_
      refine c_alenI C dX1_add_33 trb1 rfl ?_
      refine c_iconst C dX1_add_34 ?_
      refine c_imul C dX1_add_35 ?_
      refine c_g0 C (fun hg0 => ?_)
      refine hv2 (hW.sk t_a0 (by decide) rfl) (cap_of (ln := ln) rq1 (hg0 rb1 trb1.1)) (fun ask0 cp0 => ?_)
      have sl0 := Phi.slack (t := 10) (n := ln rb1) hW hS ⟨by decide, by decide⟩ (by rw [← ask0]; exact cp0) (by show ln rb1 ≤ 4001; omega)
      refine c_callS (As := [.ref rb1, .int (iI (((ln rb1 : Nat) : Int) * 2))]) (rest := [.ref a0]) C hM (G_copyOf_10 (a0 := rb1) (n := ((ln rb1 : Nat) : Int) * 2) hW hS trb1 (by omega) (by show ((ln rb1 : Nat) : Int) < (((ln rb1 : Nat) : Int) * 2) ∧ 16 ≤ (((ln rb1 : Nat) : Int) * 2) ∧ (((ln rb1 : Nat) : Int) * 2) ≤ 8002; omega)) dX1_add_36 kS_X1_20 rfl rfl (Nat.le_of_ble_eq_true rfl) ⟨(Nat.le_of_ble_eq_true rfl), (Nat.le_of_ble_eq_true rfl)⟩ (by unfold zPf; omega) (fun rh1 Lh1 clh1 lnh1 ivh1 rvh1 h1 => ⟨(0 + (16 + (((ln rb1 : Nat) : Int) * 2).toNat)), (zk1 (by obtain ⟨_, _, xlh1x, flh1x, Wh1x, _⟩ := h1; exact Phi.fr hW hS xlh1x flh1x rfl)), ?_⟩)
      obtain ⟨f1, rfl, xl1, fl1, W3, rgf1, exf1⟩ := h1
      refine hv3 (hF0.call hX0 fl1 rfl) (hX0.trans xl1) (xl1.skl hS) (fun F3 X1 sk1 => ?_)
      refine c_st (st2 := [.ref f1, .ref a0]) rfl ?_
      refine hv3 (show lnh1 f1 = (((ln rb1 : Nat) : Int) * 2).toNat ∧ ∀ j : Nat, j < ln rb1 → ivh1 f1 j = iv rb1 j from exf1) (xl1.ty t_a0) (show rvh1 a0 1 = rv a0 1 from (fl1.r t_a0 rfl 1)) (fun gf1 ty1 re1 => ?_)
      rw [rq1] at re1
      refine hv4 (show 0 ≤ ivh1 a0 2 ∧ ivh1 a0 2 ≤ 4001 from W3.int ty1 2) (show ivh1 a0 2 = iv a0 2 from fl1.i t_a0 rfl 2) (xl1.ty trb1) (show lnh1 rb1 = ln rb1 from (xl1 rb1 trb1.1).2.2) (fun ri5 ie3 ty2 le1 => ?_)
      refine c_g0 C (fun hg1 => ?_)
      refine hv2 (W3.sk ty1 (by decide) rfl) (cap_of (ln := lnh1) re1 (hg1 rb1 ty2.1)) (fun ask cpo => ?_)
      refine c_putr (x := (some f1)) (k := 1) C ck_2 dX1_add_39 w1_39 (by decide) rfl ty1 rfl rfl (by decide) rfl (by rfl) (by rfl) (fun rv1 pq3 => ⟨0, (by have gr := Phi.grow (g := g0 G) (rv2 := rv1) (rv := rvh1) (b := f1) (ln := lnh1) (t := 10) sk1 (by rw [← ask]; exact pq3) (hg1 f1 rgf1.1) (Or.inl ⟨by decide, by decide⟩); rw [← ask] at gr; have gr2 : Phi (g0 G) sk lnh1 rv1 + 3 * cap (g0 G) lnh1 rvh1 a0 = Phi (g0 G) sk lnh1 rvh1 + 3 * lnh1 f1 := gr; omega), ?_⟩)
      refine hv2 (W3.putit pq3 ty1 rfl rfl rgf1 (by omega)) (F3.putr X1 pq3 ty1 rfl) (fun W4 F4 => ?_)
      refine c_aload_n (j := 0) (x := a0) C dX1_add_42 rfl ?_
      have rp1 : rv1 a0 1 = (some f1) := by rw [pq3]; exact upr_s
      refine c_getr (k := 1) C ck_2 dX1_add_43 w1_39 (by decide) ty1 rfl rfl (by decide) rfl rp1 ?_
      refine c_st (st2 := [.ref f1]) rfl ?_
      refine c_aload_n (j := 0) (x := a0) C dX1_add_46 rfl ?_
      refine c_get (k := 2) C ck_2 dX1_add_47 w1_43 (by decide) ty1 rfl rfl (by decide) rfl ?_
      refine c_iload_n (j := 1) C dX1_add_50 rfl ?_
      have ll2 : 16 ≤ lnh1 f1 ∧ lnh1 f1 ≤ 8002 := W4.len rgf1 rfl
      refine c_iast (x := x) C dX1_add_51 rgf1 rfl (by omega) (by omega) (by omega) (fun iv3 pq4 => ?_)
      refine hv2 (W4.puti pq4 rgf1 (show (-2147483648) ≤ x ∧ x ≤ 2147483647 by omega) rfl) (F4.puti X1 pq4 rgf1 rfl) (fun W5 F5 => ?_)
      refine c_aload_n (j := 0) (x := a0) C dX1_add_52 rfl ?_
      refine c_dup C dX1_add_53 rfl ?_
      refine hv2 (show 0 ≤ iv3 a0 2 ∧ iv3 a0 2 ≤ 4001 from W5.int ty1 2) (show iv3 a0 2 = ivh1 a0 2 from by rw [pq4]; exact up2_k (ne_ty ty1 rgf1 (by decide))) (fun ri6 ie4 => ?_)
      refine c_get (k := 2) C ck_2 dX1_add_54 w1_43 (by decide) ty1 rfl rfl (by decide) rfl ?_
      refine c_iconst C dX1_add_57 ?_
      refine c_iadd C dX1_add_58 ?_
      refine c_put (z := (iv3 a0 2) + 1) (k := 2) C ck_2 dX1_add_59 w1_43 (by decide) rfl ty1 rfl rfl (by decide) rfl (by rfl) (by rfl) (fun iv4 pq5 => ?_)
      refine hv3 (W5.isz_put pq5 ty1 (show 0 ≤ ((iv3 a0 2) + 1) ∧ ((iv3 a0 2) + 1) ≤ 4001 by omega) rfl rfl rp1 (show ((iv3 a0 2) + 1) ≤ ((lnh1 f1 : Nat) : Int) by omega)) (F5.puti X1 pq5 ty1 rfl) (show iv4 a0 2 = (iv3 a0 2) + 1 from by rw [pq5]; exact up2_s) (fun W6 F6 ie5 => ?_)
      refine hv2 (show 0 ≤ iv4 a0 2 ∧ iv4 a0 2 ≤ 4001 from W6.int ty1 2) (Phi.le W6 sk1) (fun ri7 pl1 => ?_)
      exact c_vret C dX1_add_62 rfl (by decide) (rom0 hph pl1 (by decide)) ⟨rfl, X1, F6, W6, ⟨by omega, (fun ss hs hq b2 hb j hj => by
          rw [rp1] at hb
          cases hb
          rw [pq5, up2_k (ne_ty rgf1 ty1 (by decide)), pq4]
          by_cases e : j = (iv a0 2).toNat
          · subst e; rw [show (iv a0 2).toNat = (ivh1 a0 2).toNat from congrArg Int.toNat (by omega), up2_s, va_up_self]
          · rw [up2_j (fun e2 => e (e2.trans (congrArg Int.toNat (by omega)))), va_up_ne _ _ e, gf1.2 j (by omega)]; exact hs _ rq1 j (by omega)), (fun e => absurd e (by omega))⟩⟩
  · exact c_vret C dX1_add_11 rfl (by decide) (rom0 hph hph (by decide)) ⟨rfl, hX0, hF0, hW, ⟨by omega, (fun ss hs hq => absurd hq (by omega)), fun _ ss hs => hs⟩⟩
def BYT (iv : Nat → Nat → Int) (rv : Nat → Nat → Option Nat) (q n : Nat) (bs : List Int) : Prop := iv q 2 = min ((bs.length : Nat) : Int) ((n : Nat) : Int) ∧ ∀ b, rv q 1 = some b → ∀ (j : Nat) (x : Int), j < n → bs[j]? = some x → iv b j = x
def WLQ (iv : Nat → Nat → Int) (rv : Nat → Nat → Option Nat) (iv2 : Nat → Nat → Int) (rv2 : Nat → Nat → Option Nat) (ln : Nat → Nat) (w q : Nat) (g : Int) : Prop := ∀ a d bs, RWD ln iv rv a w d → BYT iv rv q 4001 bs → BYT iv2 rv2 q 4001 (bs ++ (if 0 ≤ d then rout a d g else []))
def WLI (iv : Nat → Nat → Int) (rv : Nat → Nat → Option Nat) (iv1 : Nat → Nat → Int) (rv1 : Nat → Nat → Option Nat) (ln : Nat → Nat) (w q : Nat) (g k : Int) : Prop := ∀ a d bs, RWD ln iv rv a w d → BYT iv rv q 4001 bs → (∀ lb, rv w 1 = some lb → k ≤ ((ln lb : Nat) : Int)) ∧ BYT iv1 rv1 q 4001 (bs ++ (if 0 ≤ d then rlt a d g k.toNat else []))
section BYTS
variable {h : Nat} {sk : Nat → Nat} {L : List Nat} {cl ln : Nat → Nat} {iv iv1 iv2 : Nat → Nat → Int} {rv rv1 rv2 : Nat → Nat → Option Nat} {a : Nat → Nat → Int} {q w b lb T : Nat} {x k g d f : Int} {bs : List Int} {ls : List Nat}
theorem BYT.nil (h : iv q 2 = 0) : BYT iv rv q 4001 [] := ⟨by rw [h]; rfl, fun b _ j x _ e => by simp at e⟩
theorem BYT.ct (hb : BYT iv rv q 4001 bs) : CT iv rv q (fun j => (bs[j]?).getD 0) := fun b hq j hj => by
  have e := hb.1
  have lt : j < bs.length := by omega
  have e2 := List.getElem?_eq_getElem lt
  show iv b j = (bs[j]?).getD 0
  rw [e2, hb.2 b hq j _ (by omega) e2]
  rfl
theorem BYT.snoc (hb : BYT iv rv q 4001 bs) (g : ((iv2 q 2 = iv q 2 ∧ iv q 2 = 4001) ∨ (iv2 q 2 = iv q 2 + 1 ∧ iv q 2 < 4001)) ∧ (∀ ss, CT iv rv q ss → iv q 2 < 4001 → CT iv2 rv2 q (va_up ss (iv q 2).toNat x)) ∧ (iv q 2 = 4001 → ∀ ss, CT iv rv q ss → CT iv2 rv2 q ss)) : BYT iv2 rv2 q 4001 (bs ++ [x]) := by
  obtain ⟨g1, g2, g3⟩ := g
  have e := hb.1
  rcases g1 with ⟨p1, p2⟩ | ⟨p1, p2⟩
  · have w := g3 p2 _ hb.ct
    refine ⟨by rw [len1]; omega, fun b hq j y hj ej => ?_⟩
    rcases ap1 ej with ⟨c, ej⟩ | ⟨c, ej⟩
    · rw [w b hq j (by omega)]
      show (bs[j]?).getD 0 = y
      rw [ej]
      rfl
    · omega
  · have w := g2 _ hb.ct p2
    refine ⟨by rw [len1]; omega, fun b hq j y hj ej => ?_⟩
    rw [w b hq j (by rcases ap1 ej with ⟨c, _⟩ | ⟨c, _⟩ <;> omega)]
    rcases ap1 ej with ⟨c, ej⟩ | ⟨c, ej⟩
    · rw [va_up_ne _ _ (by omega)]
      show (bs[j]?).getD 0 = y
      rw [ej]
      rfl
    · rw [show j = (iv q 2).toNat by omega, va_up_self]
      exact ej
theorem BYT.fr (hb : BYT iv rv q 4001 bs) (hW : WT h sk L cl ln iv rv) (tq : ty L cl q 10) (hF : fT ls L cl iv rv iv2 rv2) (h1 : ls.contains 10 = false) (h2 : ls.contains 40 = false) : BYT iv2 rv2 q 4001 bs := by
  refine ⟨(hF.i tq h1 2).trans hb.1, fun b hq j x hj e => ?_⟩
  rw [hF.r tq h1 1] at hq
  obtain ⟨b', w1, tb⟩ := hW.ref tq 1 rfl rfl rfl
  rw [hq] at w1; cases w1
  rw [hF.i tb h2 j]
  exact hb.2 b hq j x hj e
theorem iI_ij {x y : Int} (e : iI x = iI y) (hx : -2147483648 ≤ x ∧ x ≤ 2147483647) (hy : -2147483648 ≤ y ∧ y ≤ 2147483647) : x = y := by
  have e2 := congrArg Int32.toInt e
  rw [iI_int ⟨by omega, by omega⟩, iI_int ⟨by omega, by omega⟩] at e2
  exact e2
theorem BYT.put9 {m r : Nat} (hb : BYT iv rv q 4001 bs) (tq : ty L cl q 10) (tr : ty L cl r 16) (e : iv2 = up2 iv r m x) (hW : WT h sk L cl ln iv rv) : BYT iv2 rv q 4001 bs := by
  refine ⟨by rw [e, up2_k (ne_ty tq tr (by decide))]; exact hb.1, fun b hq j y hj ej => ?_⟩
  obtain ⟨b', w1, tb⟩ := hW.ref tq 1 rfl rfl rfl
  rw [hq] at w1; cases w1
  rw [e, up2_k (ne_ty tb tr (by decide))]
  exact hb.2 b hq j y hj ej
theorem WLI.init : WLI iv rv iv rv ln w q g 0 := fun a d bs _ hb => ⟨fun lb _ => by omega, by
  have e : (if 0 ≤ d then rlt a d g (0 : Int).toNat else []) = [] := by split <;> rfl
  rw [e, List.append_nil]
  exact hb⟩
theorem WLI.step (hI : WLI iv rv iv1 rv1 ln w q g k) (hl : rv w 1 = some lb) (hk : 0 ≤ k ∧ k < ((ln lb : Nat) : Int)) (ga : ((iv2 q 2 = iv1 q 2 ∧ iv1 q 2 = 4001) ∨ (iv2 q 2 = iv1 q 2 + 1 ∧ iv1 q 2 < 4001)) ∧ (∀ ss, CT iv1 rv1 q ss → iv1 q 2 < 4001 → CT iv2 rv2 q (va_up ss (iv1 q 2).toNat x)) ∧ (iv1 q 2 = 4001 → ∀ ss, CT iv1 rv1 q ss → CT iv2 rv2 q ss)) (hx : 33 ≤ iv lb k.toNat → iv lb k.toNat ≤ 125 → x = iv lb k.toNat - (if g = 1 ∧ k = 0 then 32 else 0)) : WLI iv rv iv2 rv2 ln w q g (k + 1) := fun a d bs hw hb => by
  obtain ⟨c1, c2⟩ := hI a d bs hw hb
  refine ⟨fun lb' e => by rw [hl] at e; cases e; omega, ?_⟩
  by_cases hd : 0 ≤ d
  · obtain ⟨_, _, l', c', q1, _, q3, _, q5, _⟩ := hw.1 hd
    rw [hl] at q1; cases q1
    rw [if_pos hd] at c2 ⊢
    rw [show (k + 1).toNat = k.toNat + 1 by omega]
    show BYT iv2 rv2 q 4001 (bs ++ (rlt a d g k.toNat ++ [a 14 (8 * d + ((k.toNat : Nat) : Int)).toNat - (if g = 1 ∧ k.toNat = 0 then 32 else 0)]))
    rw [← List.append_assoc]
    have e2 : (if g = 1 ∧ k.toNat = 0 then (32 : Int) else 0) = (if g = 1 ∧ k = 0 then 32 else 0) := by
      by_cases q1 : g = 1 ∧ k = 0
      · rw [if_pos q1, if_pos ⟨q1.1, by omega⟩]
      · rw [if_neg q1, if_neg (fun q2 => q1 ⟨q2.1, by omega⟩)]
    have q7 := q5 k.toNat (by omega)
    refine hv2 (hx q7.2.1 q7.2.2) (q7.1) (fun hx2 e3 => ?_)
    rw [e2, show (8 * d + ((k.toNat : Nat) : Int)).toNat = 8 * d.toNat + k.toNat by omega, ← e3, ← hx2]
    exact c2.snoc ga
  · obtain ⟨⟨_, l', q1, q2⟩, _⟩ := hw.2 (by omega)
    rw [hl] at q1; cases q1
    omega
theorem WLI.fin (hI : WLI iv rv iv1 rv1 ln w q g k) (hl : rv w 1 = some lb) (hk : ((ln lb : Nat) : Int) ≤ k) : WLQ iv rv iv1 rv1 ln w q g := fun a d bs hw hb => by
  obtain ⟨c1, c2⟩ := hI a d bs hw hb
  have e1 := c1 lb hl
  by_cases hd : 0 ≤ d
  · obtain ⟨_, _, l', c', q1, _, q3, _, q5, _⟩ := hw.1 hd
    rw [hl] at q1; cases q1
    rw [if_pos hd] at c2 ⊢
    have e2 : rout a d g = rlt a d g (a 12 d.toNat).toNat := if_pos hd
    rw [e2, ← q3, show (((ln lb : Nat) : Int)).toNat = k.toNat by omega]
    exact c2
  · rw [if_neg hd] at c2 ⊢
    exact c2
end BYTS
set_option maxHeartbeats 4000000 in
set_option maxRecDepth 100000 in
theorem G_wl {l : Launch} {G : GT} {mi : Nat} {sk : Nat → Nat} {L : List Nat} {cl ln : Nat → Nat} {iv : Nat → Nat → Int} {rv : Nat → Nat → Option Nat}  {a0 : Nat} {a1 : Nat} {g : Int} (hW : WT (g0 G) sk L cl ln iv rv) (hS : SKL sk L cl) (t_a0 : ty L cl a0 20) (t_a1 : ty L cl a1 10) (h_g : -2147483648 ≤ g ∧ g ≤ 2147483647) (hg01 : g = 0 ∨ g = 1) : Mc l G mi (Phi (g0 G) sk) PHM yX5_writeLetters cX5_writeLetters 4 none 3 [.ref a0, .ref a1, .int (iI g)] L cl ln iv rv 0 (fun v L2 cl2 ln2 iv2 rv2 => v = none ∧ XT L cl ln L2 cl2 ln2 ∧ fT [10, 40] L cl iv rv iv2 rv2 ∧ WT (g0 G) sk L2 cl2 ln2 iv2 rv2 ∧ (WLQ iv rv iv2 rv2 ln a0 a1 g)) := by
  refine Mc.mk (by decide) (Nat.le_of_ble_eq_true rfl) ?_
  intro p e s m args below meth c A C hM
  refine hv3 (Phi.le hW hS) (show XT L cl ln L cl ln from XT.refl) (show fT [10, 40] L cl iv rv iv rv from fT.refl) (fun hph hX0 hF0 => ?_)
  obtain ⟨lb9, hl9, tl9⟩ := hW.ref t_a0 1 rfl rfl rfl
  refine c_iconst C dX5_writeLetters_0 ?_
  refine c_istore_n (lv2 := [(3, .int (iI 0)), (0, .ref a0), (1, .ref a1), (2, .int (iI g))]) C dX5_writeLetters_1 (by decide) rfl ?_
  have Lp1 : ∀ (nn : Nat) (k : Int) (Lb1 : List Nat) (clb1 lnb1 : Nat → Nat) (ivb1 : Nat → Nat → Int) (rvb1 : Nat → Nat → Option Nat) , 9 - k < (nn : Int) → XT L cl ln Lb1 clb1 lnb1 → WT (g0 G) sk Lb1 clb1 lnb1 ivb1 rvb1 → fT [10, 40] L cl iv rv ivb1 rvb1 → (0 ≤ k ∧ k ≤ 8) → (WLI iv rv ivb1 rvb1 ln a0 a1 g k) → cw p l e 3 ((PHM) + 0 - ((Phi (g0 G) sk) ln rv)) s m args below meth c G A 4 (MQ below (Qu G A (Qp G (Phi (g0 G) sk) ((Phi (g0 G) sk) ln rv) 0 (fun v L2 cl2 ln2 iv2 rv2 => v = none ∧ XT L cl ln L2 cl2 ln2 ∧ fT [10, 40] L cl iv rv iv2 rv2 ∧ WT (g0 G) sk L2 cl2 ln2 iv2 rv2 ∧ (WLQ iv rv iv2 rv2 ln a0 a1 g)))) args s (((PHM) + 0 - ((Phi (g0 G) sk) ln rv)) / 16) ((PHM) + 0 - ((Phi (g0 G) sk) ln rv)) A) (Phi (g0 G) sk) ((Phi (g0 G) sk) ln rv) Lb1 clb1 lnb1 ivb1 rvb1 0 2 [(3, .int (iI k)), (0, .ref a0), (1, .ref a1), (2, .int (iI g))] [] := by
    intro nn
    induction nn with
    | zero =>
      intro  k Lb1 clb1 lnb1 ivb1 rvb1 hm Xb1 Wb1 Fb1  hk hI
      have skb1 := Xb1.skl hS
      exact absurd hm (by omega)
    | succ nn ih1 =>
      intro  k Lb1 clb1 lnb1 ivb1 rvb1 hm Xb1 Wb1 Fb1  hk hI
      have skb1 := Xb1.skl hS
      refine c_iload_n (j := 0) C dX5_writeLetters_2 rfl ?_
      refine c_aload_n (j := 1) (x := a0) C dX5_writeLetters_3 rfl ?_
      refine hv2 (Xb1.ty t_a0) (show rvb1 a0 1 = rv a0 1 from (Fb1.r t_a0 rfl 1)) (fun ty1 re1 => ?_)
      rw [hl9] at re1
      refine c_getr (k := 1) C ck_6 dX5_writeLetters_4 w3_138 (by decide) ty1 rfl rfl (by decide) rfl re1 ?_
      refine c_st (st2 := [.ref lb9, .int (iI k)]) rfl ?_
      have ty2 := Xb1.ty tl9
      have ll1 : 0 ≤ lnb1 lb9 ∧ lnb1 lb9 ≤ 8 := Wb1.len ty2 rfl
      refine c_alenI C dX5_writeLetters_7 ty2 rfl ?_
      refine c_icmp_ge (tgt := 47) C (r32_c (lo := 0) (hi := 8) hk.1 hk.2 (by decide) (by decide)) ⟨by omega, by omega⟩ dX5_writeLetters_8 (by decide) (fun c1 => ?_) (fun c1 => ?_)
      · have le1 : lnb1 lb9 = ln lb9 := (Xb1 lb9 tl9.1).2.2
        have pl1 := Phi.le Wb1 skb1
        exact c_vret C dX5_writeLetters_47 rfl (by decide) (rom0 hph pl1 (by decide)) ⟨rfl, Xb1, Fb1, Wb1, (hI.fin hl9 (by omega))⟩
      · refine c_aload_n (j := 2) (x := a1) C dX5_writeLetters_11 rfl ?_
        refine c_iload_n (j := 0) C dX5_writeLetters_12 rfl ?_
        refine c_if_ne (tgt := 32) C (r32_c (lo := 0) (hi := 8) hk.1 hk.2 (by decide) (by decide)) dX5_writeLetters_13 (by decide) (fun c2 => ?_) (fun c2 => ?_)
        · refine c_aload_n (j := 1) (x := a0) C dX5_writeLetters_32 rfl ?_
          refine c_getr (k := 1) C ck_6 dX5_writeLetters_33 w3_138 (by decide) ty1 rfl rfl (by decide) rfl re1 ?_
          refine c_st (st2 := [.ref lb9, .ref a1]) rfl ?_
          refine c_iload_n (j := 0) C dX5_writeLetters_36 rfl ?_
          refine c_iald C dX5_writeLetters_37 ty2 rfl (by omega) (by omega) (by omega) ?_
          refine hv4 (show (-2147483648) ≤ ivb1 lb9 k.toNat ∧ ivb1 lb9 k.toNat ≤ 2147483647 from Wb1.int ty2 k.toNat) (show ivb1 lb9 k.toNat = iv lb9 k.toNat from Fb1.i tl9 rfl k.toNat) (Xb1.ty t_a1) (Phi.le Wb1 skb1) (fun ri1 ie1 ty3 pl2 => ?_)
          have ri2 : 0 ≤ ivb1 a1 2 ∧ ivb1 a1 2 ≤ 4001 := Wb1.int ty3 2
          refine d_callV (As := [.int (iI (ivb1 lb9 k.toNat))]) (rest := []) C hM (G_add_10 (a0 := a1) (x := ivb1 lb9 k.toNat) Wb1 skb1 ty3 (by omega) ) dX5_writeLetters_38 kV_X5_47 rfl ty3 rfl rfl (by decide) ck_2 rfl (Nat.le_of_ble_eq_true rfl) ⟨(Nat.le_of_ble_eq_true rfl), (Nat.le_of_ble_eq_true rfl)⟩ hph pl2 (show 0 + 0 = 0 from rfl) (by decide) (fun rh1 Lh1 clh1 lnh1 ivh1 rvh1 h1 => ?_)
          obtain ⟨rfl, xl1, fl1, W1, exf1⟩ := h1
          refine hv3 (Fb1.call Xb1 fl1 rfl) (Xb1.trans xl1) (xl1.skl skb1) (fun F1 X1 sk1 => ?_)
          refine c_st (st2 := []) rfl ?_
          refine hv2 (xl1.ty ty3) (show ((ivh1 a1 2 = ivb1 a1 2 ∧ ivb1 a1 2 = 4001) ∨ (ivh1 a1 2 = ivb1 a1 2 + 1 ∧ ivb1 a1 2 < 4001)) ∧ (∀ ss, CT ivb1 rvb1 a1 ss → ivb1 a1 2 < 4001 → CT ivh1 rvh1 a1 (va_up ss (ivb1 a1 2).toNat (ivb1 lb9 k.toNat))) ∧ (ivb1 a1 2 = 4001 → ∀ ss, CT ivb1 rvb1 a1 ss → CT ivh1 rvh1 a1 ss) from exf1) (fun ty4 gf1 => ?_)
          have ri3 : 0 ≤ ivh1 a1 2 ∧ ivh1 a1 2 ≤ 4001 := W1.int ty4 2
          refine c_iinc (z := k) (j := 0) (lv2 := [(3, .int (iI (k + 1))), (0, .ref a0), (1, .ref a1), (2, .int (iI g))]) C dX5_writeLetters_41 rfl (by decide) rfl ?_
          refine c_goto (tgt := 2) C dX5_writeLetters_44 (by decide) ?_
          refine hv3 (xl1.ty ty2) (show lnb1 lb9 = ln lb9 from (Xb1 lb9 tl9.1).2.2) (show lnh1 lb9 = lnb1 lb9 from (xl1 lb9 ty2.1).2.2) (fun ty5 le2 le3 => ?_)
          refine c_lv (lv2 := [(3, .int (iI (k + 1))), (0, .ref a0), (1, .ref a1), (2, .int (iI g))]) [0, 1, 2, 3] rfl ?_
          exact ih1  (k + 1) _ _ _ _ _ (by omega) X1 W1 F1  (by omega) (hI.step hl9 ⟨by omega, by omega⟩ gf1 (fun b1 b2 => by
              have e9 : ivb1 lb9 k.toNat = iv lb9 k.toNat := Fb1.i tl9 rfl k.toNat
              rw [if_neg (by omega)]
              omega))
        · refine c_iload_n (j := 3) C dX5_writeLetters_16 rfl ?_
          refine c_if_eq (tgt := 32) C ⟨by omega, by omega⟩ dX5_writeLetters_17 (by decide) (fun c3 => ?_) (fun c3 => ?_)
          · refine c_aload_n (j := 1) (x := a0) C dX5_writeLetters_32 rfl ?_
            refine c_getr (k := 1) C ck_6 dX5_writeLetters_33 w3_138 (by decide) ty1 rfl rfl (by decide) rfl re1 ?_
            refine c_st (st2 := [.ref lb9, .ref a1]) rfl ?_
            refine c_iload_n (j := 0) C dX5_writeLetters_36 rfl ?_
            refine c_iald C dX5_writeLetters_37 ty2 rfl (by omega) (by omega) (by omega) ?_
            refine hv4 (show (-2147483648) ≤ ivb1 lb9 k.toNat ∧ ivb1 lb9 k.toNat ≤ 2147483647 from Wb1.int ty2 k.toNat) (show ivb1 lb9 k.toNat = iv lb9 k.toNat from Fb1.i tl9 rfl k.toNat) (Xb1.ty t_a1) (Phi.le Wb1 skb1) (fun ri4 ie4 ty6 pl3 => ?_)
            have ri5 : 0 ≤ ivb1 a1 2 ∧ ivb1 a1 2 ≤ 4001 := Wb1.int ty6 2
            refine d_callV (As := [.int (iI (ivb1 lb9 k.toNat))]) (rest := []) C hM (G_add_10 (a0 := a1) (x := ivb1 lb9 k.toNat) Wb1 skb1 ty6 (by omega) ) dX5_writeLetters_38 kV_X5_47 rfl ty6 rfl rfl (by decide) ck_2 rfl (Nat.le_of_ble_eq_true rfl) ⟨(Nat.le_of_ble_eq_true rfl), (Nat.le_of_ble_eq_true rfl)⟩ hph pl3 (show 0 + 0 = 0 from rfl) (by decide) (fun rh2 Lh2 clh2 lnh2 ivh2 rvh2 h2 => ?_)
            obtain ⟨rfl, xl2, fl2, W2, exf2⟩ := h2
            refine hv3 (Fb1.call Xb1 fl2 rfl) (Xb1.trans xl2) (xl2.skl skb1) (fun F2 X2 sk2 => ?_)
            refine c_st (st2 := []) rfl ?_
            refine hv2 (xl2.ty ty6) (show ((ivh2 a1 2 = ivb1 a1 2 ∧ ivb1 a1 2 = 4001) ∨ (ivh2 a1 2 = ivb1 a1 2 + 1 ∧ ivb1 a1 2 < 4001)) ∧ (∀ ss, CT ivb1 rvb1 a1 ss → ivb1 a1 2 < 4001 → CT ivh2 rvh2 a1 (va_up ss (ivb1 a1 2).toNat (ivb1 lb9 k.toNat))) ∧ (ivb1 a1 2 = 4001 → ∀ ss, CT ivb1 rvb1 a1 ss → CT ivh2 rvh2 a1 ss) from exf2) (fun ty7 gf2 => ?_)
            have ri6 : 0 ≤ ivh2 a1 2 ∧ ivh2 a1 2 ≤ 4001 := W2.int ty7 2
            refine c_iinc (z := k) (j := 0) (lv2 := [(3, .int (iI (k + 1))), (0, .ref a0), (1, .ref a1), (2, .int (iI g))]) C dX5_writeLetters_41 rfl (by decide) rfl ?_
            refine c_goto (tgt := 2) C dX5_writeLetters_44 (by decide) ?_
            refine hv3 (xl2.ty ty2) (show lnb1 lb9 = ln lb9 from (Xb1 lb9 tl9.1).2.2) (show lnh2 lb9 = lnb1 lb9 from (xl2 lb9 ty2.1).2.2) (fun ty8 le4 le5 => ?_)
            refine c_lv (lv2 := [(3, .int (iI (k + 1))), (0, .ref a0), (1, .ref a1), (2, .int (iI g))]) [0, 1, 2, 3] rfl ?_
            exact ih1  (k + 1) _ _ _ _ _ (by omega) X2 W2 F2  (by omega) (hI.step hl9 ⟨by omega, by omega⟩ gf2 (fun b1 b2 => by
                have e9 : ivb1 lb9 k.toNat = iv lb9 k.toNat := Fb1.i tl9 rfl k.toNat
                rw [if_neg (by omega)]
                omega))
          · refine c_aload_n (j := 1) (x := a0) C dX5_writeLetters_20 rfl ?_
            refine c_getr (k := 1) C ck_6 dX5_writeLetters_21 w3_138 (by decide) ty1 rfl rfl (by decide) rfl re1 ?_
            refine c_st (st2 := [.ref lb9, .ref a1]) rfl ?_
            refine c_iload_n (j := 0) C dX5_writeLetters_24 rfl ?_
            refine c_iald C dX5_writeLetters_25 ty2 rfl (by omega) (by omega) (by omega) ?_
            refine hv2 (show (-2147483648) ≤ ivb1 lb9 k.toNat ∧ ivb1 lb9 k.toNat ≤ 2147483647 from Wb1.int ty2 k.toNat) (show ivb1 lb9 k.toNat = iv lb9 k.toNat from Fb1.i tl9 rfl k.toNat) (fun ri7 ie7 => ?_)
            refine c_bipush (z := 32) C dX5_writeLetters_26 (by decide) ?_
            refine c_isub C dX5_writeLetters_28 ?_
            obtain ⟨zz1, hzz1, ezz1⟩ := iI_of (iI ((ivb1 lb9 k.toNat) - 32))
            refine c_st (st2 := [.int (iI zz1), .ref a1]) (by rw [ezz1]) ?_
            refine c_goto (tgt := 38) C dX5_writeLetters_29 (by decide) ?_
            refine hv2 (Xb1.ty t_a1) (Phi.le Wb1 skb1) (fun ty9 pl4 => ?_)
            have ri8 : 0 ≤ ivb1 a1 2 ∧ ivb1 a1 2 ≤ 4001 := Wb1.int ty9 2
            refine d_callV (As := [.int (iI zz1)]) (rest := []) C hM (G_add_10 (a0 := a1) (x := zz1) Wb1 skb1 ty9 (by omega) ) dX5_writeLetters_38 kV_X5_47 rfl ty9 rfl rfl (by decide) ck_2 rfl (Nat.le_of_ble_eq_true rfl) ⟨(Nat.le_of_ble_eq_true rfl), (Nat.le_of_ble_eq_true rfl)⟩ hph pl4 (show 0 + 0 = 0 from rfl) (by decide) (fun rh3 Lh3 clh3 lnh3 ivh3 rvh3 h3 => ?_)
            obtain ⟨rfl, xl3, fl3, W3, exf3⟩ := h3
            refine hv3 (Fb1.call Xb1 fl3 rfl) (Xb1.trans xl3) (xl3.skl skb1) (fun F3 X3 sk3 => ?_)
            refine c_st (st2 := []) rfl ?_
            refine hv2 (xl3.ty ty9) (show ((ivh3 a1 2 = ivb1 a1 2 ∧ ivb1 a1 2 = 4001) ∨ (ivh3 a1 2 = ivb1 a1 2 + 1 ∧ ivb1 a1 2 < 4001)) ∧ (∀ ss, CT ivb1 rvb1 a1 ss → ivb1 a1 2 < 4001 → CT ivh3 rvh3 a1 (va_up ss (ivb1 a1 2).toNat zz1)) ∧ (ivb1 a1 2 = 4001 → ∀ ss, CT ivb1 rvb1 a1 ss → CT ivh3 rvh3 a1 ss) from exf3) (fun ty10 gf3 => ?_)
            have ri9 : 0 ≤ ivh3 a1 2 ∧ ivh3 a1 2 ≤ 4001 := W3.int ty10 2
            refine c_iinc (z := k) (j := 0) (lv2 := [(3, .int (iI (k + 1))), (0, .ref a0), (1, .ref a1), (2, .int (iI g))]) C dX5_writeLetters_41 rfl (by decide) rfl ?_
            refine c_goto (tgt := 2) C dX5_writeLetters_44 (by decide) ?_
            refine hv3 (xl3.ty ty2) (show lnb1 lb9 = ln lb9 from (Xb1 lb9 tl9.1).2.2) (show lnh3 lb9 = lnb1 lb9 from (xl3 lb9 ty2.1).2.2) (fun ty11 le6 le7 => ?_)
            refine c_lv (lv2 := [(3, .int (iI (k + 1))), (0, .ref a0), (1, .ref a1), (2, .int (iI g))]) [0, 1, 2, 3] rfl ?_
            exact ih1  (k + 1) _ _ _ _ _ (by omega) X3 W3 F3  (by omega) (hI.step hl9 ⟨by omega, by omega⟩ gf3 (fun b1 b2 => by
                have e9 : ivb1 lb9 k.toNat = iv lb9 k.toNat := Fb1.i tl9 rfl k.toNat
                have q9 := iI_ij ezz1 ⟨by omega, by omega⟩ ⟨by omega, by omega⟩
                rw [if_pos ⟨by omega, by omega⟩]
                omega))
  refine c_lv (lv2 := [(3, .int (iI 0)), (0, .ref a0), (1, .ref a1), (2, .int (iI g))]) [0, 1, 2, 3] rfl ?_
  exact Lp1 10 0 _ _ _ _ _ (by omega) hX0 hW hF0  (by omega) WLI.init
end
section
def LTP (a : Nat → Nat → Int) (l : List Int) : Prop := ∀ (j : Nat) (d : Int), l[j]? = some d → 0 ≤ d → 1 ≤ a 12 d.toNat
def DCX (L : List Nat) (cl ln : Nat → Nat) (iv : Nat → Nat → Int) (rv : Nat → Nat → Option Nat) (sk : Nat → Nat) (a : Nat → Nat → Int) (l0 l1 : List Int) (R : Nat → Int) : Prop := (HL L cl ln iv rv a (sk 24) l0 ∧ HL L cl ln iv rv a (sk 25) l1) ∧ (NZL a l0 ∧ NZL a l1) ∧ (LTP a l0 ∧ LTP a l1) ∧ (BGL iv rv a (sk 24) (sk 6) l0 ∧ BGL iv rv a (sk 25) (sk 7) l1) ∧ RCT iv rv (sk 8) R
def DWI (L : List Nat) (cl ln : Nat → Nat) (iv : Nat → Nat → Int) (rv : Nat → Nat → Option Nat) (sk : Nat → Nat) (iv1 : Nat → Nat → Int) (rv1 : Nat → Nat → Option Nat) (i x g h : Int) : Prop := ∀ a l0 l1 R bs, DCX L cl ln iv rv sk a l0 l1 R → MRC a l0 l1 R (i, 0, 0, 1, 1) bs → BYT iv rv (sk 10) 4001 bs → ∃ b1, MRC a l0 l1 R (x, g, h, 1, 1) b1 ∧ BYT iv1 rv1 (sk 10) 4001 b1
def DWX (L : List Nat) (cl ln : Nat → Nat) (iv : Nat → Nat → Int) (rv : Nat → Nat → Option Nat) (sk : Nat → Nat) (iv2 : Nat → Nat → Int) (rv2 : Nat → Nat → Option Nat) (i f : Int) : Prop := ∀ a l0 l1 R bs, DCX L cl ln iv rv sk a l0 l1 R → MRC a l0 l1 R (i, 0, 0, 1, 1) bs → BYT iv rv (sk 10) 4001 bs → (f = -1 ∧ RWG a l0 l1 R) ∨ (i ≤ f ∧ R f.toNat = 0 ∧ ∃ g b2, MRC a l0 l1 R (f, g, 0, 1, 1) b2 ∧ BYT iv2 rv2 (sk 10) 4001 b2)
def DWB (L : List Nat) (cl ln : Nat → Nat) (iv : Nat → Nat → Int) (rv : Nat → Nat → Option Nat) (sk : Nat → Nat) (ln1 : Nat → Nat) (iv1 : Nat → Nat → Int) (rv1 : Nat → Nat → Option Nat) (i x g h : Int) (w : Nat) : Prop := ∀ a l0 l1 R bs, DCX L cl ln iv rv sk a l0 l1 R → MRC a l0 l1 R (i, 0, 0, 1, 1) bs → BYT iv rv (sk 10) 4001 bs → ∃ b1 d, (MRC a l0 l1 R (x, g, h, 1, 1) b1 ∧ R x.toNat ≠ 0 ∧ BSQ a R x (if g = 0 then l0 else l1) (some d) ∧ (h = 1 → SMR a d) ∧ RWD ln1 iv1 rv1 a w d ∧ 1 ≤ rlen a d) ∧ BYT iv1 rv1 (sk 10) 4001 b1
section WROW
variable {h : Nat} {sk : Nat → Nat} {L L1 : List Nat} {cl ln cl1 ln1 : Nat → Nat} {iv iv1 iv2 iv3 : Nat → Nat → Int} {rv rv1 rv2 rv3 : Nat → Nat → Option Nat} {a : Nat → Nat → Int} {q w b c : Nat} {i x g gr f d z y k f1 : Int} {r : Option Nat} {l l0 l1 bs : List Int} {R : Nat → Int} {ls : List Nat}
theorem RWD.sml (hw : RWD ln iv rv a w d) (hf : f = 1 ↔ BSw ln iv rv w) (h12 : 0 ≤ d → 1 ≤ a 12 d.toNat) (hl : ∃ b, rv w 1 = some b) : f = 1 ↔ SMR a d := by
  rw [hf]
  by_cases hd : 0 ≤ d
  · obtain ⟨_, r4, l', c', q1, _, q3, _, q5, _⟩ := hw.1 hd
    have n1 := h12 hd
    have q6 := (q5 0 (by omega)).1
    rw [show 8 * d.toNat + 0 = (8 * d).toNat by omega] at q6
    refine ⟨fun e => ?_, fun e b hb => ?_⟩
    · have e2 := e l' q1
      exact ⟨hd, by omega, by omega⟩
    · rw [q1] at hb; cases hb
      obtain ⟨_, e1, e2⟩ := e
      exact ⟨r4, by omega, by omega, by omega⟩
  · obtain ⟨⟨r0, _⟩, _⟩ := hw.2 (by omega)
    obtain ⟨b, hb⟩ := hl
    refine ⟨fun e => ?_, fun e => absurd e.1 hd⟩
    have e2 := (e b hb).1
    omega
theorem RWD.rl0 (hw : RWD ln iv rv a w d) : iv w 0 = rol d := by
  unfold rol
  by_cases hd : 0 ≤ d
  · rw [if_pos hd]
    exact (hw.1 hd).2.1
  · rw [if_neg hd]
    exact (hw.2 (by omega)).1.1
theorem BGL.fr (hb : BGL iv rv a q b l) (hW : WT h sk L cl ln iv rv) {T t : Nat} (tq : ty L cl q T) (tb : ty L cl b t) (hF : fT ls L cl iv rv iv1 rv1) (h1 : ls.contains T = false) (h2 : ls.contains t = false) (h3 : ls.contains (tgt t 1) = false) (r1 : raw t = false) (r2 : (lst t && 1 == 1) = false) (r3 : nul t 1 = false) : BGL iv1 rv1 a q b l := by
  obtain ⟨g1, ss, g2, g3⟩ := hb
  exact ⟨by rw [hF.i tb h2 2, hF.i tq h1 2]; exact g1, ss, CT.fr g2 hW tb hF h2 h3 r1 r2 r3, g3⟩
theorem DCX.fr (hc : DCX L cl ln iv rv sk a l0 l1 R) (hW : WT h sk L cl ln iv rv) (hS : SKL sk L cl) (hX : XT L cl ln L1 cl1 ln1) (hF : fT ls L cl iv rv iv1 rv1) (hq : QT h sk L cl ln iv rv L1 cl1 ln1 iv1 rv1) (k24 : ls.contains 24 = false) (k25 : ls.contains 25 = false) (k2 : ls.contains 1002 = false) (k3 : ls.contains 1003 = false) (k6 : ls.contains 6 = false) (k7 : ls.contains 7 = false) (k36 : ls.contains 36 = false) (k37 : ls.contains 37 = false) (k8 : ls.contains 8 = false) (k38 : ls.contains 38 = false) : DCX L1 cl1 ln1 iv1 rv1 sk a l0 l1 R := by
  obtain ⟨⟨c1, c2⟩, c3, c4, ⟨c5, c6⟩, c7, c8⟩ := hc
  refine hv7 (el24.fr hW hS hF k24 k2) (el25.fr hW hS hF k25 k3) (show ty L cl (sk 24) 24 from tysq hS rfl rfl) (show ty L cl (sk 25) 25 from tysq hS rfl rfl) (show ty L cl (sk 6) 6 from tysq hS rfl rfl) (show ty L cl (sk 7) 7 from tysq hS rfl rfl) (show ty L cl (sk 8) 8 from tysq hS rfl rfl) (fun e24 e25 t24 t25 t6 t7 t8 => ?_)
  refine ⟨⟨c1.mv hq e24.1 e24.2, c2.mv hq e25.1 e25.2⟩, c3, c4, ⟨c5.fr hW t24 t6 hF k24 k6 k36 rfl rfl rfl, c6.fr hW t25 t7 hF k25 k7 k37 rfl rfl rfl⟩, CT.fr c7 hW t8 hF k8 k38 rfl rfl rfl, fun j hj => c8 j (by rw [← hF.i t8 k8 2]; exact hj)⟩
theorem DCX.lac (hc : DCX L cl ln iv rv sk a l0 l1 R) (hx : 0 ≤ x ∧ x < iv (sk 8) 2) : LAC L cl ln iv rv a (if g = 0 then sk 24 else sk 25) (if g = 0 then sk 6 else sk 7) (sk 8) x (if g = 0 then l0 else l1) R := by
  obtain ⟨⟨c1, c2⟩, ⟨c3, c3'⟩, c4, ⟨c5, c6⟩, c7⟩ := hc
  by_cases e : g = 0
  · rw [if_pos e, if_pos e, if_pos e]
    exact ⟨c1, c3, c5, c7, hx.1, hx.2⟩
  · rw [if_neg e, if_neg e, if_neg e]
    exact ⟨c2, c3', c6, c7, hx.1, hx.2⟩
theorem DWI.init : DWI L cl ln iv rv sk iv rv i i 0 0 := fun _ _ _ _ bs _ hm hb => ⟨bs, hm, hb⟩
theorem DWI.wrong (hI : DWI L cl ln iv rv sk iv1 rv1 i x g gr) (hd : ∀ a l0 l1 R, DCX L cl ln iv rv sk a l0 l1 R → DCX L1 cl1 ln1 iv1 rv1 sk a l0 l1 R) (hx : 0 ≤ x ∧ x < iv1 (sk 8) 2) (hy : ∀ R, CT iv1 rv1 (sk 8) R → y = R x.toNat) (hn : y ≠ 0) (hL : LAX4 L1 cl1 ln1 iv1 rv1 (if g = 0 then sk 24 else sk 25) (if g = 0 then sk 6 else sk 7) (sk 8) x none) (hf : f = -1) : DWX L cl ln iv rv sk iv2 rv2 i f := fun a l0 l1 R bs hc hm hb => by
  obtain ⟨b1, g1, g2⟩ := hI a l0 l1 R bs hc hm hb
  have hc1 := hd a l0 l1 R hc
  have e := hy R hc1.2.2.2.2.1
  rcases hL a _ R (hc1.lac hx) with ⟨_, w⟩ | ⟨w, d, p, _⟩
  · exact Or.inl ⟨hf, g1.no (by rw [← e]; exact hn) w⟩
  · cases p
theorem DWI.small (hI : DWI L cl ln iv rv sk iv1 rv1 i x g gr) (hd : ∀ a l0 l1 R, DCX L cl ln iv rv sk a l0 l1 R → DCX L1 cl1 ln1 iv1 rv1 sk a l0 l1 R) (hx : 0 ≤ x ∧ x < iv1 (sk 8) 2) (hy : ∀ R, CT iv1 rv1 (sk 8) R → y = R x.toNat) (hn : y ≠ 0) (hL : LAX4 L1 cl1 ln1 iv1 rv1 (if g = 0 then sk 24 else sk 25) (if g = 0 then sk 6 else sk 7) (sk 8) x (some w)) (hg : gr = 1) (hs : f1 = 1 ↔ BSw ln1 iv1 rv1 w) (hs1 : f1 ≠ 1) (hl : ∃ b, rv1 w 1 = some b) (hf : f = -1) : DWX L cl ln iv rv sk iv2 rv2 i f := fun a l0 l1 R bs hc hm hb => by
  obtain ⟨b1, g1, g2⟩ := hI a l0 l1 R bs hc hm hb
  have hc1 := hd a l0 l1 R hc
  have e := hy R hc1.2.2.2.2.1
  rcases hL a _ R (hc1.lac hx) with ⟨p, _⟩ | ⟨w', d, p, p2, p3, p4⟩
  · cases p
  · cases p
    obtain ⟨j, j1, _⟩ := BSQ.mem p4
    have h12 : 0 ≤ d → 1 ≤ a 12 d.toNat := by
      by_cases e0 : g = 0
      · rw [if_pos e0] at j1
        exact hc1.2.2.1.1 j d j1
      · rw [if_neg e0] at j1
        exact hc1.2.2.1.2 j d j1
    exact Or.inl ⟨hf, g1.ns (by rw [← e]; exact hn) p4 hg (fun s => hs1 ((p3.sml hs h12 hl).mpr s))⟩
theorem DWI.go (hI : DWI L cl ln iv rv sk iv1 rv1 i x g gr) (hd : ∀ a l0 l1 R, DCX L cl ln iv rv sk a l0 l1 R → DCX L1 cl1 ln1 iv1 rv1 sk a l0 l1 R) (hx : 0 ≤ x ∧ x < iv1 (sk 8) 2) (hy : ∀ R, CT iv1 rv1 (sk 8) R → y = R x.toNat) (hn : y ≠ 0) (hL : LAX4 L1 cl1 ln1 iv1 rv1 (if g = 0 then sk 24 else sk 25) (if g = 0 then sk 6 else sk 7) (sk 8) x (some w)) (hs : gr = 1 → ∃ f1 : Int, (f1 = 1 ↔ BSw ln1 iv1 rv1 w) ∧ f1 = 1) (hl : ∃ b, rv1 w 1 = some b) : DWB L cl ln iv rv sk ln1 iv1 rv1 i x g gr w := fun a l0 l1 R bs hc hm hb => by
  obtain ⟨b1, g1, g2⟩ := hI a l0 l1 R bs hc hm hb
  have hc1 := hd a l0 l1 R hc
  have e := hy R hc1.2.2.2.2.1
  rcases hL a _ R (hc1.lac hx) with ⟨p, _⟩ | ⟨w', d, p, p2, p3, p4⟩
  · cases p
  · cases p
    obtain ⟨j, j1, _⟩ := BSQ.mem p4
    have h12 : 0 ≤ d → 1 ≤ a 12 d.toNat := by
      by_cases e0 : g = 0
      · rw [if_pos e0] at j1
        exact hc1.2.2.1.1 j d j1
      · rw [if_neg e0] at j1
        exact hc1.2.2.1.2 j d j1
    have nz : (1 ≤ rlen a d ∧ rlen a d ≤ 4) := by
      by_cases e0 : g = 0
      · rw [if_pos e0] at j1
        exact (hc1.2.1.1 j d j1).1
      · rw [if_neg e0] at j1
        exact (hc1.2.1.2 j d j1).1
    refine ⟨b1, d, ⟨g1, by rw [← e]; exact hn, p4, fun q => ?_, p3, nz.1⟩, g2⟩
    obtain ⟨f1, s1, s2⟩ := hs q
    exact (p3.sml (f := f1) s1 h12 hl).mp s2
theorem rout_ind (hd : ¬ 0 ≤ d) (hr : rol d ≠ 2 ∧ rol d ≠ 3) : rout a d gr = [] := by
  unfold rout
  rw [if_neg hd, if_neg hr.1, if_neg hr.2]
theorem DWB.next (hB : DWB L cl ln iv rv sk ln1 iv1 rv1 i x g gr w) (hr : iv1 w 0 ≠ 2 ∧ iv1 w 0 ≠ 3) (hq : WLQ iv1 rv1 iv2 rv2 ln1 w (sk 10) gr) (hc : rv1 w 2 = some c) (hy : ((ln1 c : Nat) : Int) ≤ 1 ∧ y = x + 1 ∨ 1 ≤ ((ln1 c : Nat) : Int) ∧ y = x + ((ln1 c : Nat) : Int)) (hg2 : (z = 1 ∧ iv1 w 0 = 0) ∨ (z = 0 ∧ iv1 w 0 ≠ 0)) : DWI L cl ln iv rv sk iv2 rv2 i y g z := fun a l0 l1 R bs hx hm hb => by
  obtain ⟨b1, d, ⟨g1, g3, g4, g5, g6, g7⟩, g2⟩ := hB a l0 l1 R bs hx hm hb
  have er := g6.rl0
  obtain ⟨c', c1, c2, _⟩ := g6.c
  rw [hc] at c1; cases c1
  have w := g1.row g3 g4 g5
  have e2 : ngp d g = g := by
    unfold ngp
    rw [if_neg (by omega), if_neg (by omega)]
  have e3 : ngh d = z := by
    unfold ngh
    split <;> omega
  have e4 : (if 0 ≤ d then rout a d gr else []) = rout a d gr := by
    by_cases e : 0 ≤ d
    · rw [if_pos e]
    · rw [if_neg e, rout_ind e ⟨by omega, by omega⟩]
  rw [e2, e3, show x + rlen a d = y by omega] at w
  have o := hq a d b1 g6 g2
  rw [e4] at o
  exact ⟨_, w, o⟩
theorem DWB.turn {ln2 : Nat → Nat} (hB : DWB L cl ln iv rv sk ln1 iv1 rv1 i x g gr w) (hr : (iv1 w 0 = 2 ∧ k = 60 ∧ f = 1) ∨ (iv1 w 0 = 3 ∧ k = 62 ∧ f = 0)) (ga : ((iv2 (sk 10) 2 = iv1 (sk 10) 2 ∧ iv1 (sk 10) 2 = 4001) ∨ (iv2 (sk 10) 2 = iv1 (sk 10) 2 + 1 ∧ iv1 (sk 10) 2 < 4001)) ∧ (∀ ss, CT iv1 rv1 (sk 10) ss → iv1 (sk 10) 2 < 4001 → CT iv2 rv2 (sk 10) (va_up ss (iv1 (sk 10) 2).toNat k)) ∧ (iv1 (sk 10) 2 = 4001 → ∀ ss, CT iv1 rv1 (sk 10) ss → CT iv2 rv2 (sk 10) ss)) (hk : ∀ a d, RWD ln1 iv1 rv1 a w d → RWD ln2 iv2 rv2 a w d) (hq : WLQ iv2 rv2 iv3 rv3 ln2 w (sk 10) gr) (hc : rv1 w 2 = some c) (hy : ((ln1 c : Nat) : Int) ≤ 1 ∧ y = x + 1 ∨ 1 ≤ ((ln1 c : Nat) : Int) ∧ y = x + ((ln1 c : Nat) : Int)) (hg2 : z = 0) : DWI L cl ln iv rv sk iv3 rv3 i y f z := fun a l0 l1 R bs hx hm hb => by
  obtain ⟨b1, d, ⟨g1, g3, g4, g5, g6, g7⟩, g2⟩ := hB a l0 l1 R bs hx hm hb
  have er := g6.rl0
  obtain ⟨c', c1, c2, _⟩ := g6.c
  rw [hc] at c1; cases c1
  have w := g1.row g3 g4 g5
  have hd : ¬ 0 ≤ d := fun e => by
    have : rol d = 4 := if_pos e
    omega
  have e2 : ngp d g = f := by
    unfold ngp
    by_cases q1 : rol d = 2
    · rw [if_pos q1]
      omega
    · rw [if_neg q1, if_pos (by omega)]
      omega
  have e3 : ngh d = z := by
    unfold ngh
    rw [if_neg (by omega)]
    omega
  have e4 : rout a d gr = [k] := by
    unfold rout
    rw [if_neg hd]
    by_cases q1 : rol d = 2
    · rw [if_pos q1, show k = 60 by omega]
    · rw [if_neg q1, if_pos (by omega), show k = 62 by omega]
  rw [e2, e3, show x + rlen a d = y by omega, e4] at w
  have o := hq a d _ (hk a d g6) (g2.snoc ga)
  rw [if_neg hd, List.append_nil] at o
  exact ⟨_, w, o⟩
theorem DWI.fin (hI : DWI L cl ln iv rv sk iv1 rv1 i x g gr) (hd : ∀ a l0 l1 R, DCX L cl ln iv rv sk a l0 l1 R → DCX L1 cl1 ln1 iv1 rv1 sk a l0 l1 R) (hx : 0 ≤ x ∧ i ≤ x) (hy : iv1 (sk 8) 2 ≤ x ∨ (x < iv1 (sk 8) 2 ∧ ∀ R, CT iv1 rv1 (sk 8) R → R x.toNat = 0)) (hg : (gr = 1 ∧ f = -1) ∨ (gr = 0 ∧ f = x)) (hb2 : ∀ bs, BYT iv1 rv1 (sk 10) 4001 bs → BYT iv2 rv2 (sk 10) 4001 bs) : DWX L cl ln iv rv sk iv2 rv2 i f := fun a l0 l1 R bs hc hm hb => by
  obtain ⟨b1, g1, g2⟩ := hI a l0 l1 R bs hc hm hb
  have hc1 := hd a l0 l1 R hc
  have z0 : R x.toNat = 0 := by
    rcases hy with e | ⟨_, e⟩
    · exact hc1.2.2.2.2.2 x.toNat (by omega)
    · exact e R hc1.2.2.2.2.1
  rcases hg with ⟨e1, e2⟩ | ⟨e1, e2⟩
  · exact Or.inl ⟨e2, g1.ge z0 e1⟩
  · subst e1
    subst e2
    exact Or.inr ⟨hx.2, z0, g, b1, g1, hb2 _ g2⟩
end WROW
end
section
set_option maxHeartbeats 4000000 in
set_option maxRecDepth 100000 in
theorem G_decodeWord {l : Launch} {G : GT} {mi : Nat} {sk : Nat → Nat} {L : List Nat} {cl ln : Nat → Nat} {iv : Nat → Nat → Int} {rv : Nat → Nat → Option Nat}  {a0 : Nat} {i : Int} (hW : WT (g0 G) sk L cl ln iv rv) (hS : SKL sk L cl) (t_a0 : ty L cl a0 16) (h_i : -2147483648 ≤ i ∧ i ≤ 2147483647) (hi : 0 ≤ i ∧ i ≤ 40200) : Mc l G mi (Phi (g0 G) sk) PHM yX3_decodeWord cX3_decodeWord 6 (some .int) 4 [.ref a0, .int (iI i)] L cl ln iv rv 0 (fun v L2 cl2 ln2 iv2 rv2 => ∃ f : Int, v = some (.int (iI f)) ∧ XT L cl ln L2 cl2 ln2 ∧ fT [16, 10, 40] L cl iv rv iv2 rv2 ∧ WT (g0 G) sk L2 cl2 ln2 iv2 rv2 ∧ (-2147483648 ≤ f ∧ f ≤ 2147483647) ∧ (f ≤ 40210 ∧ DWX L cl ln iv rv sk iv2 rv2 i f)) := by
  refine Mc.mk (by decide) (Nat.le_of_ble_eq_true rfl) ?_
  intro p e s m args below meth c A C hM
  refine hv10 (Phi.le hW hS) (show ty L cl (sk 6) 6 from ⟨(hS 6 rfl).1, by rw [(hS 6 rfl).2]; rfl⟩) (show ty L cl (sk 7) 7 from ⟨(hS 7 rfl).1, by rw [(hS 7 rfl).2]; rfl⟩) (show ty L cl (sk 8) 8 from ⟨(hS 8 rfl).1, by rw [(hS 8 rfl).2]; rfl⟩) (show ty L cl (sk 9) 9 from ⟨(hS 9 rfl).1, by rw [(hS 9 rfl).2]; rfl⟩) (show ty L cl (sk 10) 10 from ⟨(hS 10 rfl).1, by rw [(hS 10 rfl).2]; rfl⟩) (show ty L cl (sk 24) 24 from ⟨(hS 24 rfl).1, by rw [(hS 24 rfl).2]; rfl⟩) (show ty L cl (sk 25) 25 from ⟨(hS 25 rfl).1, by rw [(hS 25 rfl).2]; rfl⟩) (show XT L cl ln L cl ln from XT.refl) (show fT [16, 10, 40] L cl iv rv iv rv from fT.refl) (fun hph tsk6 tsk7 tsk8 tsk9 tsk10 tsk24 tsk25 hX0 hF0 => ?_)
  refine c_iconst C dX3_decodeWord_0 ?_
  refine c_istore_n (lv2 := [(2, .int (iI 0)), (0, .ref a0), (1, .int (iI i))]) C dX3_decodeWord_1 (by decide) rfl ?_
  refine c_iconst C dX3_decodeWord_2 ?_
  refine c_istore_n (lv2 := [(3, .int (iI 0)), (2, .int (iI 0)), (0, .ref a0), (1, .int (iI i))]) C dX3_decodeWord_3 (by decide) rfl ?_
  refine c_iload_n (j := 3) C dX3_decodeWord_4 rfl ?_
  refine c_istore (lv2 := [(4, .int (iI i)), (3, .int (iI 0)), (2, .int (iI 0)), (0, .ref a0), (1, .int (iI i))]) C dX3_decodeWord_5 (by decide) rfl ?_
  have Lp1 : ∀ (nn : Nat) (sc gr aq : Int) (Lb1 : List Nat) (clb1 lnb1 : Nat → Nat) (ivb1 : Nat → Nat → Int) (rvb1 : Nat → Nat → Option Nat) , 40205 - aq < (nn : Int) → XT L cl ln Lb1 clb1 lnb1 → WT (g0 G) sk Lb1 clb1 lnb1 ivb1 rvb1 → fT [16, 10, 40] L cl iv rv ivb1 rvb1 → (sc = 0 ∨ sc = 1) → (gr = 0 ∨ gr = 1) → (0 ≤ aq ∧ aq ≤ 40204) → (i ≤ aq) → (DWI L cl ln iv rv sk ivb1 rvb1 i aq sc gr) → cw p l e 4 ((PHM) + 0 - ((Phi (g0 G) sk) ln rv)) s m args below meth c G A 6 (MQ below (Qu G A (Qp G (Phi (g0 G) sk) ((Phi (g0 G) sk) ln rv) 0 (fun v L2 cl2 ln2 iv2 rv2 => ∃ f : Int, v = some (.int (iI f)) ∧ XT L cl ln L2 cl2 ln2 ∧ fT [16, 10, 40] L cl iv rv iv2 rv2 ∧ WT (g0 G) sk L2 cl2 ln2 iv2 rv2 ∧ (-2147483648 ≤ f ∧ f ≤ 2147483647) ∧ (f ≤ 40210 ∧ DWX L cl ln iv rv sk iv2 rv2 i f)))) args s (((PHM) + 0 - ((Phi (g0 G) sk) ln rv)) / 16) ((PHM) + 0 - ((Phi (g0 G) sk) ln rv)) A) (Phi (g0 G) sk) ((Phi (g0 G) sk) ln rv) Lb1 clb1 lnb1 ivb1 rvb1 0 7 [(2, .int (iI sc)), (3, .int (iI gr)), (4, .int (iI aq)), (0, .ref a0), (1, .int (iI i))] [] := by
    intro nn
    induction nn with
    | zero =>
      intro  sc gr aq Lb1 clb1 lnb1 ivb1 rvb1 hm Xb1 Wb1 Fb1  hsc hgr haq hia hI
      have skb1 := Xb1.skl hS
      exact absurd hm (by omega)
    | succ nn ih1 =>
      intro  sc gr aq Lb1 clb1 lnb1 ivb1 rvb1 hm Xb1 Wb1 Fb1  hsc hgr haq hia hI
      have skb1 := Xb1.skl hS
      refine c_iload (j := 2) C dX3_decodeWord_7 rfl ?_
      refine c_aload_n (j := 3) (x := a0) C dX3_decodeWord_9 rfl ?_
      have ty1 := Xb1.ty t_a0
      obtain ⟨rb1, rq1, trb1⟩ := Wb1.ref ty1 4 rfl rfl rfl
      have erb1 := Wb1.sk trb1 (by decide) rfl
      subst erb1
      refine c_getr (k := 4) C ck_4 dX3_decodeWord_10 w1_198 (by decide) ty1 rfl rfl (by decide) rfl rq1 ?_
      refine c_st (st2 := [.ref (sk 8), .int (iI aq)]) rfl ?_
      refine hv2 (Xb1.ty tsk8) (show ivb1 (sk 8) 2 = iv (sk 8) 2 from Fb1.i tsk8 rfl 2) (fun ty2 ie1 => ?_)
      have ri1 : 0 ≤ ivb1 (sk 8) 2 ∧ ivb1 (sk 8) 2 ≤ 40200 := Wb1.int ty2 2
      refine c_get (k := 2) C ck_2 dX3_decodeWord_13 w1_49 (by decide) ty2 rfl rfl (by decide) rfl ?_
      refine c_icmp_ge (tgt := 158) C (r32_c (lo := 0) (hi := 40204) haq.1 haq.2 (by decide) (by decide)) (r32_c (lo := 0) (hi := 40200) ri1.1 ri1.2 (by decide) (by decide)) dX3_decodeWord_16 (by decide) (fun c1 => ?_) (fun c1 => ?_)
      · refine c_aload_n (j := 3) (x := a0) C dX3_decodeWord_158 rfl ?_
        refine c_iload (j := 2) C dX3_decodeWord_159 rfl ?_
        refine c_put (z := aq) (k := 7) C ck_4 dX3_decodeWord_161 w1_202 (by decide) rfl ty1 rfl rfl (by decide) rfl (by rfl) (by rfl) (fun iv1 pq1 => ?_)
        refine hv2 (Wb1.puti pq1 ty1 (show (-2147483648) ≤ aq ∧ aq ≤ 2147483647 by omega) rfl) (Fb1.puti Xb1 pq1 ty1 rfl) (fun W1 F1 => ?_)
        refine c_iload_n (j := 1) C dX3_decodeWord_164 rfl ?_
        refine c_if_eq (tgt := 172) C (r32_01 hgr) dX3_decodeWord_165 (by decide) (fun c2 => ?_) (fun c2 => ?_)
        · clear hgr
          refine c_iload (j := 2) C dX3_decodeWord_172 rfl ?_
          refine hv4 (show 0 ≤ iv1 (sk 8) 2 ∧ iv1 (sk 8) 2 ≤ 40200 from W1.int ty2 2) (show iv1 (sk 8) 2 = ivb1 (sk 8) 2 from by rw [pq1]; exact up2_k (ne_ty ty2 ty1 (by decide))) (Xb1.ty tsk10) (Phi.le W1 skb1) (fun ri2 ie2 ty3 pl1 => ?_)
          exact c_iret C dX3_decodeWord_174 rfl (by decide) (rom0 hph pl1 (by decide)) ⟨aq, rfl, Xb1, F1, W1, ⟨by omega, by omega⟩, ⟨by omega, hI.fin (fun a l0 l1 R hc => hc.fr hW hS Xb1 Fb1 (QT.of hW hS Xb1 Fb1 rfl rfl rfl rfl rfl) rfl rfl rfl rfl rfl rfl rfl rfl rfl rfl) ⟨by omega, by omega⟩ (Or.inl (by omega)) (by omega) (fun bs hb => hb.put9 ty3 ty1 pq1 Wb1)⟩⟩
        · replace hgr := (hgr.resolve_left c2)
          refine c_iconst C dX3_decodeWord_168 ?_
          refine c_goto (tgt := 174) C dX3_decodeWord_169 (by decide) ?_
          refine hv4 (show 0 ≤ iv1 (sk 8) 2 ∧ iv1 (sk 8) 2 ≤ 40200 from W1.int ty2 2) (show iv1 (sk 8) 2 = ivb1 (sk 8) 2 from by rw [pq1]; exact up2_k (ne_ty ty2 ty1 (by decide))) (Xb1.ty tsk10) (Phi.le W1 skb1) (fun ri3 ie3 ty4 pl2 => ?_)
          exact c_iret C dX3_decodeWord_174 rfl (by decide) (rom0 hph pl2 (by decide)) ⟨(-1), rfl, Xb1, F1, W1, ⟨by decide, by decide⟩, ⟨by omega, hI.fin (fun a l0 l1 R hc => hc.fr hW hS Xb1 Fb1 (QT.of hW hS Xb1 Fb1 rfl rfl rfl rfl rfl) rfl rfl rfl rfl rfl rfl rfl rfl rfl rfl) ⟨by omega, by omega⟩ (Or.inl (by omega)) (by omega) (fun bs hb => hb.put9 ty4 ty1 pq1 Wb1)⟩⟩
      · refine c_aload_n (j := 3) (x := a0) C dX3_decodeWord_19 rfl ?_
        refine c_getr (k := 4) C ck_4 dX3_decodeWord_20 w1_198 (by decide) ty1 rfl rfl (by decide) rfl rq1 ?_
        refine c_st (st2 := [.ref (sk 8)]) rfl ?_
        refine c_iload (j := 2) C dX3_decodeWord_23 rfl ?_
        have pl3 := Phi.le Wb1 skb1
        refine d_callV (As := [.int (iI aq)]) (rest := []) C hM (C_at_8 (a0 := (sk 8)) (i := aq) Wb1 skb1 ty2 (by omega) ) dX3_decodeWord_25 kV_X3_119 rfl ty2 rfl rfl (by decide) ck_2 rfl (Nat.le_of_ble_eq_true rfl) ⟨(Nat.le_of_ble_eq_true rfl), (Nat.le_of_ble_eq_true rfl)⟩ hph pl3 (show 0 + 0 = 0 from rfl) (by decide) (fun rh1 Lh1 clh1 lnh1 ivh1 rvh1 h1 => ?_)
        obtain ⟨f1, rfl, rfl, rfl, rfl, rfl, rfl, rgf1, exf1⟩ := h1
        refine c_st (st2 := [.int (iI f1)]) rfl ?_
        have gf1 : ((0 ≤ aq ∧ aq < ivb1 (sk 8) 2) ∨ f1 = 0) ∧ ∀ ss, CT ivb1 rvb1 (sk 8) ss → 0 ≤ aq → aq < ivb1 (sk 8) 2 → f1 = ss aq.toNat := exf1
        refine c_if_eq (tgt := 158) C ⟨by omega, by omega⟩ dX3_decodeWord_28 (by decide) (fun c3 => ?_) (fun c3 => ?_)
        · refine c_aload_n (j := 3) (x := a0) C dX3_decodeWord_158 rfl ?_
          refine c_iload (j := 2) C dX3_decodeWord_159 rfl ?_
          refine c_put (z := aq) (k := 7) C ck_4 dX3_decodeWord_161 w1_202 (by decide) rfl ty1 rfl rfl (by decide) rfl (by rfl) (by rfl) (fun iv2 pq2 => ?_)
          refine hv2 (Wb1.puti pq2 ty1 (show (-2147483648) ≤ aq ∧ aq ≤ 2147483647 by omega) rfl) (Fb1.puti Xb1 pq2 ty1 rfl) (fun W3 F2 => ?_)
          refine c_iload_n (j := 1) C dX3_decodeWord_164 rfl ?_
          refine c_if_eq (tgt := 172) C (r32_01 hgr) dX3_decodeWord_165 (by decide) (fun c4 => ?_) (fun c4 => ?_)
          · clear hgr
            refine c_iload (j := 2) C dX3_decodeWord_172 rfl ?_
            refine hv3 (show 0 ≤ iv2 (sk 8) 2 ∧ iv2 (sk 8) 2 ≤ 40200 from W3.int ty2 2) (show iv2 (sk 8) 2 = ivb1 (sk 8) 2 from by rw [pq2]; exact up2_k (ne_ty ty2 ty1 (by decide))) (Xb1.ty tsk10) (fun ri4 ie4 ty5 => ?_)
            exact c_iret C dX3_decodeWord_174 rfl (by decide) (rom0 hph pl3 (by decide)) ⟨aq, rfl, Xb1, F2, W3, ⟨by omega, by omega⟩, ⟨by omega, hI.fin (fun a l0 l1 R hc => hc.fr hW hS Xb1 Fb1 (QT.of hW hS Xb1 Fb1 rfl rfl rfl rfl rfl) rfl rfl rfl rfl rfl rfl rfl rfl rfl rfl) ⟨by omega, by omega⟩ (Or.inr ⟨by omega, fun R hR => by have q := gf1.2 R hR (by omega) (by omega); omega⟩) (by omega) (fun bs hb => hb.put9 ty5 ty1 pq2 Wb1)⟩⟩
          · replace hgr := (hgr.resolve_left c4)
            refine c_iconst C dX3_decodeWord_168 ?_
            refine c_goto (tgt := 174) C dX3_decodeWord_169 (by decide) ?_
            refine hv3 (show 0 ≤ iv2 (sk 8) 2 ∧ iv2 (sk 8) 2 ≤ 40200 from W3.int ty2 2) (show iv2 (sk 8) 2 = ivb1 (sk 8) 2 from by rw [pq2]; exact up2_k (ne_ty ty2 ty1 (by decide))) (Xb1.ty tsk10) (fun ri5 ie5 ty6 => ?_)
            exact c_iret C dX3_decodeWord_174 rfl (by decide) (rom0 hph pl3 (by decide)) ⟨(-1), rfl, Xb1, F2, W3, ⟨by decide, by decide⟩, ⟨by omega, hI.fin (fun a l0 l1 R hc => hc.fr hW hS Xb1 Fb1 (QT.of hW hS Xb1 Fb1 rfl rfl rfl rfl rfl) rfl rfl rfl rfl rfl rfl rfl rfl rfl rfl) ⟨by omega, by omega⟩ (Or.inr ⟨by omega, fun R hR => by have q := gf1.2 R hR (by omega) (by omega); omega⟩) (by omega) (fun bs hb => hb.put9 ty6 ty1 pq2 Wb1)⟩⟩
        · refine c_aload_n (j := 3) (x := a0) C dX3_decodeWord_31 rfl ?_
          refine c_iload_n (j := 0) C dX3_decodeWord_32 rfl ?_
          refine c_iload (j := 2) C dX3_decodeWord_33 rfl ?_
          refine d_callV (As := [.int (iI sc), .int (iI aq)]) (rest := []) C hM (G_longestAt (a0 := a0) (g := sc) (i := aq) Wb1 skb1 ty1 (by omega) (by omega) (by show 0 ≤ aq; omega)) dX3_decodeWord_35 kV_X3_126 rfl ty1 rfl rfl (by decide) ck_4 rfl (Nat.le_of_ble_eq_true rfl) ⟨(Nat.le_of_ble_eq_true rfl), (Nat.le_of_ble_eq_true rfl)⟩ hph pl3 (show 0 + 0 = 0 from rfl) (by decide) (fun rh2 Lh2 clh2 lnh2 ivh2 rvh2 h2 => ?_)
          obtain ⟨f2, rfl, rfl, rfl, rfl, rfl, rfl, rgf2, exf2⟩ := h2
          refine c_st (st2 := [(va_rf f2)]) rfl ?_
          have gf2 : LAX4 Lb1 clb1 lnb1 ivb1 rvb1 (if sc = 0 then sk 24 else sk 25) (if sc = 0 then sk 6 else sk 7) (sk 8) aq f2 := exf2
          refine c_astorer (r := f2) (lv2 := [(5, (va_rf f2)), (2, .int (iI sc)), (3, .int (iI gr)), (4, .int (iI aq)), (0, .ref a0), (1, .int (iI i))]) C dX3_decodeWord_38 (by decide) rfl ?_
          refine c_aloadr (j := 0) (r := f2) C dX3_decodeWord_40 rfl ?_
          refine c_ifnull (r := f2) (tgt := 57) C dX3_decodeWord_42 (by decide) (fun oq1 => ?_) (fun ob1 oq1 => ?_)
          · subst oq1
            refine c_lv (lv2 := [(5, .null), (2, .int (iI sc)), (3, .int (iI gr)), (4, .int (iI aq)), (0, .ref a0), (1, .int (iI i))]) [0, 1, 2, 3, 4, 5] rfl ?_
            refine c_st (st2 := []) rfl ?_
            refine c_aload_n (j := 4) (x := a0) C dX3_decodeWord_57 rfl ?_
            refine c_iload (j := 3) C dX3_decodeWord_58 rfl ?_
            refine c_put (z := aq) (k := 7) C ck_4 dX3_decodeWord_60 w1_202 (by decide) rfl ty1 rfl rfl (by decide) rfl (by rfl) (by rfl) (fun iv3 pq3 => ?_)
            refine hv2 (Wb1.puti pq3 ty1 (show (-2147483648) ≤ aq ∧ aq ≤ 2147483647 by omega) rfl) (Fb1.puti Xb1 pq3 ty1 rfl) (fun W5 F3 => ?_)
            refine c_iconst C dX3_decodeWord_63 ?_
            refine hv2 (show 0 ≤ iv3 (sk 8) 2 ∧ iv3 (sk 8) 2 ≤ 40200 from W5.int ty2 2) (show iv3 (sk 8) 2 = ivb1 (sk 8) 2 from by rw [pq3]; exact up2_k (ne_ty ty2 ty1 (by decide))) (fun ri6 ie6 => ?_)
            exact c_iret C dX3_decodeWord_64 rfl (by decide) (rom0 hph pl3 (by decide)) ⟨(-1), rfl, Xb1, F3, W5, ⟨by decide, by decide⟩, ⟨by omega, hI.wrong (fun a l0 l1 R hc => hc.fr hW hS Xb1 Fb1 (QT.of hW hS Xb1 Fb1 rfl rfl rfl rfl rfl) rfl rfl rfl rfl rfl rfl rfl rfl rfl rfl) ⟨by omega, by omega⟩ (fun R hR => gf1.2 R hR (by omega) (by omega)) (by omega) gf2 (by omega)⟩⟩
          · subst oq1
            refine hv2 (rgf2 ob1 rfl) (gf2) (fun tob1 wqob1 => ?_)
            refine c_lv (lv2 := [(5, .ref ob1), (2, .int (iI sc)), (3, .int (iI gr)), (4, .int (iI aq)), (0, .ref a0), (1, .int (iI i))]) [0, 1, 2, 3, 4, 5] rfl ?_
            refine c_st (st2 := []) rfl ?_
            refine c_iload_n (j := 2) C dX3_decodeWord_45 rfl ?_
            refine c_if_eq (tgt := 65) C (r32_01 hgr) dX3_decodeWord_46 (by decide) (fun c5 => ?_) (fun c5 => ?_)
            · clear hgr
              obtain ⟨l11, hl11, tl11⟩ := Wb1.ref tob1 1 rfl rfl rfl
              have hB9 : DWB L cl ln iv rv sk lnb1 ivb1 rvb1 i aq sc gr ob1 := hI.go (fun a l0 l1 R hc => hc.fr hW hS Xb1 Fb1 (QT.of hW hS Xb1 Fb1 rfl rfl rfl rfl rfl) rfl rfl rfl rfl rfl rfl rfl rfl rfl rfl) ⟨by omega, by omega⟩ (fun R hR => gf1.2 R hR (by omega) (by omega)) (by omega) wqob1 (fun e => absurd e (by omega)) ⟨_, hl11⟩
              obtain ⟨kw21, hkw21, tkw21⟩ := Wb1.ref tob1 2 rfl rfl rfl
              have ri7 : (-2147483648) ≤ ivb1 ob1 0 ∧ ivb1 ob1 0 ≤ 2147483647 := Wb1.int tob1 0
              refine c_aload (j := 0) (x := ob1) C dX3_decodeWord_65 rfl ?_
              refine c_get (k := 0) C ck_6 dX3_decodeWord_67 w3_137 (by decide) tob1 rfl rfl (by decide) rfl ?_
              refine c_iconst C dX3_decodeWord_70 ?_
              refine c_icmp_eq (tgt := 83) C (r32_c (lo := (-2147483648)) (hi := 2147483647) ri7.1 ri7.2 (by decide) (by decide)) ⟨by decide, by decide⟩ dX3_decodeWord_71 (by decide) (fun c6 => ?_) (fun c6 => ?_)
              · refine c_aload (j := 0) (x := ob1) C dX3_decodeWord_83 rfl ?_
                refine c_get (k := 0) C ck_6 dX3_decodeWord_85 w3_137 (by decide) tob1 rfl rfl (by decide) rfl ?_
                refine c_iconst C dX3_decodeWord_88 ?_
                refine c_icmp_ne (tgt := 96) C (r32_c (lo := (-2147483648)) (hi := 2147483647) ri7.1 ri7.2 (by decide) (by decide)) ⟨by decide, by decide⟩ dX3_decodeWord_89 (by decide) (fun z => absurd z (by omega)) (fun _ => ?_)
                refine c_iconst C dX3_decodeWord_92 ?_
                refine c_goto (tgt := 97) C dX3_decodeWord_93 (by decide) ?_
                refine c_istore_n (lv2 := [(2, .int (iI 1)), (5, .ref ob1), (3, .int (iI gr)), (4, .int (iI aq)), (0, .ref a0), (1, .int (iI i))]) C dX3_decodeWord_97 (by decide) rfl ?_
                refine c_aload_n (j := 4) (x := a0) C dX3_decodeWord_98 rfl ?_
                obtain ⟨rb2, rq2, trb2⟩ := Wb1.ref ty1 6 rfl rfl rfl
                have erb2 := Wb1.sk trb2 (by decide) rfl
                subst erb2
                refine c_getr (k := 6) C ck_4 dX3_decodeWord_99 w1_200 (by decide) ty1 rfl rfl (by decide) rfl rq2 ?_
                refine c_st (st2 := [.ref (sk 10)]) rfl ?_
                refine c_iload_n (j := 0) C dX3_decodeWord_102 rfl ?_
                refine c_if_eq (tgt := 111) C ⟨by decide, by decide⟩ dX3_decodeWord_103 (by decide) (fun z => absurd z (by omega)) (fun _ => ?_)
                refine c_bipush (z := 60) C dX3_decodeWord_106 (by decide) ?_
                refine c_goto (tgt := 113) C dX3_decodeWord_108 (by decide) ?_
                have ty7 := Xb1.ty tsk10
                have ri8 : 0 ≤ ivb1 (sk 10) 2 ∧ ivb1 (sk 10) 2 ≤ 4001 := Wb1.int ty7 2
                refine d_callV (As := [.int (iI 60)]) (rest := []) C hM (G_add_10 (a0 := (sk 10)) (x := 60) Wb1 skb1 ty7 ⟨by decide, by decide⟩ ) dX3_decodeWord_113 kV_X3_91 rfl ty7 rfl rfl (by decide) ck_2 rfl (Nat.le_of_ble_eq_true rfl) ⟨(Nat.le_of_ble_eq_true rfl), (Nat.le_of_ble_eq_true rfl)⟩ hph pl3 (show 0 + 0 = 0 from rfl) (by decide) (fun rh3 Lh3 clh3 lnh3 ivh3 rvh3 h3 => ?_)
                obtain ⟨rfl, xl3, fl3, W6, exf3⟩ := h3
                refine hv8 (Fb1.call Xb1 fl3 rfl) (Xb1.ty tsk6) (Xb1.ty tsk7) (Xb1.ty tsk9) (Xb1.ty tsk24) (Xb1.ty tsk25) (Xb1.trans xl3) (xl3.skl skb1) (fun F4 ty8 ty9 ty10 ty11 ty12 X1 sk1 => ?_)
                refine c_st (st2 := []) rfl ?_
                refine hv2 (xl3.ty ty7) (show ((ivh3 (sk 10) 2 = ivb1 (sk 10) 2 ∧ ivb1 (sk 10) 2 = 4001) ∨ (ivh3 (sk 10) 2 = ivb1 (sk 10) 2 + 1 ∧ ivb1 (sk 10) 2 < 4001)) ∧ (∀ ss, CT ivb1 rvb1 (sk 10) ss → ivb1 (sk 10) 2 < 4001 → CT ivh3 rvh3 (sk 10) (va_up ss (ivb1 (sk 10) 2).toNat (60 : Int))) ∧ (ivb1 (sk 10) 2 = 4001 → ∀ ss, CT ivb1 rvb1 (sk 10) ss → CT ivh3 rvh3 (sk 10) ss) from exf3) (fun ty13 gf3 => ?_)
                have ri9 : 0 ≤ ivh3 (sk 10) 2 ∧ ivh3 (sk 10) 2 ≤ 4001 := W6.int ty13 2
                refine c_aload (j := 1) (x := ob1) C dX3_decodeWord_116 rfl ?_
                refine c_aload_n (j := 4) (x := a0) C dX3_decodeWord_118 rfl ?_
                refine hv2 (xl3.ty ty1) (show rvh3 a0 6 = rvb1 a0 6 from (fl3.r ty1 rfl 6)) (fun ty14 re1 => ?_)
                rw [rq2] at re1
                refine c_getr (k := 6) C ck_4 dX3_decodeWord_119 w1_200 (by decide) ty14 rfl rfl (by decide) rfl re1 ?_
                refine c_st (st2 := [.ref (sk 10), .ref ob1]) rfl ?_
                refine c_iload_n (j := 2) C dX3_decodeWord_122 rfl ?_
                refine hv2 (xl3.ty tob1) (Phi.le W6 sk1) (fun ty15 pl4 => ?_)
                refine d_callV (As := [.ref (sk 10), .int (iI gr)]) (rest := []) C hM (G_wl (a0 := ob1) (a1 := (sk 10)) (g := gr) W6 sk1 ty15 ty13 (by omega) (by show gr = 0 ∨ gr = 1; omega)) dX3_decodeWord_123 kV_X3_137 rfl ty15 rfl rfl (by decide) ck_6 rfl (Nat.le_of_ble_eq_true rfl) ⟨(Nat.le_of_ble_eq_true rfl), (Nat.le_of_ble_eq_true rfl)⟩ hph pl4 (show 0 + 0 = 0 from rfl) (by decide) (fun rh4 Lh4 clh4 lnh4 ivh4 rvh4 h4 => ?_)
                obtain ⟨rfl, xl4, fl4, W7, exf4⟩ := h4
                refine hv10 (F4.call X1 fl4 rfl) (xl3.ty ty8) (xl3.ty ty9) (xl3.ty ty2) (xl3.ty ty10) (xl3.ty ty11) (xl3.ty ty12) (xl3.ty tkw21) (X1.trans xl4) (xl4.skl sk1) (fun F5 ty16 ty17 ty18 ty19 ty20 ty21 ty22 X2 sk2 => ?_)
                refine c_st (st2 := []) rfl ?_
                have gf4 : WLQ ivh3 rvh3 ivh4 rvh4 lnh3 ob1 (sk 10) gr := exf4
                refine c_aload (j := 1) (x := ob1) C dX3_decodeWord_126 rfl ?_
                refine hv3 (xl4.ty ty15) (show ivh4 ob1 0 = ivh3 ob1 0 from fl4.i ty15 rfl 0) (show ivh3 ob1 0 = ivb1 ob1 0 from fl3.i tob1 rfl 0) (fun ty23 ie10 ie11 => ?_)
                have ri10 : (-2147483648) ≤ ivh4 ob1 0 ∧ ivh4 ob1 0 ≤ 2147483647 := W7.int ty23 0
                refine c_get (k := 0) C ck_6 dX3_decodeWord_128 w3_137 (by decide) ty23 rfl rfl (by decide) rfl ?_
                refine c_if_ne (tgt := 138) C (r32_c (lo := (-2147483648)) (hi := 2147483647) ri10.1 ri10.2 (by decide) (by decide)) dX3_decodeWord_131 (by decide) (fun c7 => ?_) (fun c7 => ?_)
                · refine c_iconst C dX3_decodeWord_138 ?_
                  refine c_istore_n (lv2 := [(3, .int (iI 0)), (2, .int (iI 1)), (5, .ref ob1), (4, .int (iI aq)), (0, .ref a0), (1, .int (iI i))]) C dX3_decodeWord_139 (by decide) rfl ?_
                  refine c_iload (j := 3) C dX3_decodeWord_140 rfl ?_
                  refine c_iconst C dX3_decodeWord_142 ?_
                  refine c_aload (j := 2) (x := ob1) C dX3_decodeWord_143 rfl ?_
                  have re2 : rvh3 ob1 2 = rvb1 ob1 2 := (fl3.r tob1 rfl 2)
                  rw [hkw21] at re2
                  have re3 : rvh4 ob1 2 = rvh3 ob1 2 := (fl4.r ty15 rfl 2)
                  rw [re2] at re3
                  refine c_getr (k := 2) C ck_6 dX3_decodeWord_145 w3_143 (by decide) ty23 rfl rfl (by decide) rfl re3 ?_
                  refine c_st (st2 := [.ref kw21, .int (iI 1), .int (iI aq)]) rfl ?_
                  have ty24 := xl4.ty ty22
                  have ll1 : 1 ≤ lnh4 kw21 ∧ lnh4 kw21 ≤ 4 := W7.len ty24 rfl
                  refine c_alenI C dX3_decodeWord_148 ty24 rfl ?_
                  obtain ⟨mn1, hmn1, emn1⟩ := mmax_c (x := 1) (y := ((lnh4 kw21 : Nat) : Int)) ⟨by decide, by decide⟩ ⟨by omega, by omega⟩
                  have pl5 := Phi.le W7 sk2
                  refine c_mmax (w := iI mn1) C dX3_decodeWord_149 w5_105 w2_148 w1_14 w2_149 (by decide) (rom0 hph pl5 (by decide)) (Nat.le_of_ble_eq_true rfl) emn1 ?_
                  refine c_iadd C dX3_decodeWord_152 ?_
                  refine c_istore (lv2 := [(4, .int (iI (aq + mn1))), (3, .int (iI 0)), (2, .int (iI 1)), (5, .ref ob1), (0, .ref a0), (1, .int (iI i))]) C dX3_decodeWord_153 (by decide) rfl ?_
                  refine c_goto (tgt := 7) C dX3_decodeWord_155 (by decide) ?_
                  refine hv5 (xl4.ty ty18) (show ivh4 (sk 8) 2 = ivh3 (sk 8) 2 from fl4.i ty18 rfl 2) (show ivh3 (sk 8) 2 = ivb1 (sk 8) 2 from fl3.i ty2 rfl 2) (show lnh3 kw21 = lnb1 kw21 from (xl3 kw21 tkw21.1).2.2) (show lnh4 kw21 = lnh3 kw21 from (xl4 kw21 ty22.1).2.2) (fun ty25 ie12 ie13 le1 le2 => ?_)
                  have ri11 : 0 ≤ ivh4 (sk 8) 2 ∧ ivh4 (sk 8) 2 ≤ 40200 := W7.int ty25 2
                  refine c_lv (lv2 := [(2, .int (iI 1)), (3, .int (iI 0)), (4, .int (iI (aq + mn1))), (0, .ref a0), (1, .int (iI i))]) [2, 1, 0, 4, 5] rfl ?_
                  exact ih1  1 0 (aq + mn1) _ _ _ _ _ (by omega) X2 W7 F5  (by omega) (by omega) (by omega) (by omega) (hB9.turn (by omega) gf3 (fun a d q => q.keep tob1 Wb1 xl3 (KP.fr Wb1 fl3 rfl)) gf4 hkw21 (by omega) (by omega))
                · refine c_iconst C dX3_decodeWord_134 ?_
                  refine c_goto (tgt := 139) C dX3_decodeWord_135 (by decide) ?_
                  refine c_istore_n (lv2 := [(3, .int (iI 1)), (2, .int (iI 1)), (5, .ref ob1), (4, .int (iI aq)), (0, .ref a0), (1, .int (iI i))]) C dX3_decodeWord_139 (by decide) rfl ?_
                  refine c_iload (j := 3) C dX3_decodeWord_140 rfl ?_
                  refine c_iconst C dX3_decodeWord_142 ?_
                  refine c_aload (j := 2) (x := ob1) C dX3_decodeWord_143 rfl ?_
                  have re4 : rvh3 ob1 2 = rvb1 ob1 2 := (fl3.r tob1 rfl 2)
                  rw [hkw21] at re4
                  have re5 : rvh4 ob1 2 = rvh3 ob1 2 := (fl4.r ty15 rfl 2)
                  rw [re4] at re5
                  refine c_getr (k := 2) C ck_6 dX3_decodeWord_145 w3_143 (by decide) ty23 rfl rfl (by decide) rfl re5 ?_
                  refine c_st (st2 := [.ref kw21, .int (iI 1), .int (iI aq)]) rfl ?_
                  have ty26 := xl4.ty ty22
                  have ll2 : 1 ≤ lnh4 kw21 ∧ lnh4 kw21 ≤ 4 := W7.len ty26 rfl
                  refine c_alenI C dX3_decodeWord_148 ty26 rfl ?_
                  obtain ⟨mn2, hmn2, emn2⟩ := mmax_c (x := 1) (y := ((lnh4 kw21 : Nat) : Int)) ⟨by decide, by decide⟩ ⟨by omega, by omega⟩
                  have pl6 := Phi.le W7 sk2
                  refine c_mmax (w := iI mn2) C dX3_decodeWord_149 w5_105 w2_148 w1_14 w2_149 (by decide) (rom0 hph pl6 (by decide)) (Nat.le_of_ble_eq_true rfl) emn2 ?_
                  refine c_iadd C dX3_decodeWord_152 ?_
                  refine c_istore (lv2 := [(4, .int (iI (aq + mn2))), (3, .int (iI 1)), (2, .int (iI 1)), (5, .ref ob1), (0, .ref a0), (1, .int (iI i))]) C dX3_decodeWord_153 (by decide) rfl ?_
                  refine c_goto (tgt := 7) C dX3_decodeWord_155 (by decide) ?_
                  refine hv5 (xl4.ty ty18) (show ivh4 (sk 8) 2 = ivh3 (sk 8) 2 from fl4.i ty18 rfl 2) (show ivh3 (sk 8) 2 = ivb1 (sk 8) 2 from fl3.i ty2 rfl 2) (show lnh3 kw21 = lnb1 kw21 from (xl3 kw21 tkw21.1).2.2) (show lnh4 kw21 = lnh3 kw21 from (xl4 kw21 ty22.1).2.2) (fun ty27 ie14 ie15 le3 le4 => ?_)
                  have ri12 : 0 ≤ ivh4 (sk 8) 2 ∧ ivh4 (sk 8) 2 ≤ 40200 := W7.int ty27 2
                  refine c_lv (lv2 := [(2, .int (iI 1)), (3, .int (iI 1)), (4, .int (iI (aq + mn2))), (0, .ref a0), (1, .int (iI i))]) [2, 1, 0, 4, 5] rfl ?_
                  exact ih1  1 1 (aq + mn2) _ _ _ _ _ (by omega) X2 W7 F5  (by omega) (by omega) (by omega) (by omega) (hB9.turn (by omega) gf3 (fun a d q => q.keep tob1 Wb1 xl3 (KP.fr Wb1 fl3 rfl)) gf4 hkw21 (by omega) (by omega))
              · refine c_aload (j := 0) (x := ob1) C dX3_decodeWord_74 rfl ?_
                refine c_get (k := 0) C ck_6 dX3_decodeWord_76 w3_137 (by decide) tob1 rfl rfl (by decide) rfl ?_
                refine c_iconst C dX3_decodeWord_79 ?_
                refine c_icmp_ne (tgt := 116) C (r32_c (lo := (-2147483648)) (hi := 2147483647) ri7.1 ri7.2 (by decide) (by decide)) ⟨by decide, by decide⟩ dX3_decodeWord_80 (by decide) (fun c8 => ?_) (fun c8 => ?_)
                · refine c_aload (j := 0) (x := ob1) C dX3_decodeWord_116 rfl ?_
                  refine c_aload_n (j := 4) (x := a0) C dX3_decodeWord_118 rfl ?_
                  obtain ⟨rb3, rq3, trb3⟩ := Wb1.ref ty1 6 rfl rfl rfl
                  have erb3 := Wb1.sk trb3 (by decide) rfl
                  subst erb3
                  refine c_getr (k := 6) C ck_4 dX3_decodeWord_119 w1_200 (by decide) ty1 rfl rfl (by decide) rfl rq3 ?_
                  refine c_st (st2 := [.ref (sk 10), .ref ob1]) rfl ?_
                  refine c_iload_n (j := 2) C dX3_decodeWord_122 rfl ?_
                  have ty28 := Xb1.ty tsk10
                  refine d_callV (As := [.ref (sk 10), .int (iI gr)]) (rest := []) C hM (G_wl (a0 := ob1) (a1 := (sk 10)) (g := gr) Wb1 skb1 tob1 ty28 (by omega) (by show gr = 0 ∨ gr = 1; omega)) dX3_decodeWord_123 kV_X3_137 rfl tob1 rfl rfl (by decide) ck_6 rfl (Nat.le_of_ble_eq_true rfl) ⟨(Nat.le_of_ble_eq_true rfl), (Nat.le_of_ble_eq_true rfl)⟩ hph pl3 (show 0 + 0 = 0 from rfl) (by decide) (fun rh5 Lh5 clh5 lnh5 ivh5 rvh5 h5 => ?_)
                  obtain ⟨rfl, xl5, fl5, W8, exf5⟩ := h5
                  refine hv8 (Fb1.call Xb1 fl5 rfl) (Xb1.ty tsk6) (Xb1.ty tsk7) (Xb1.ty tsk9) (Xb1.ty tsk24) (Xb1.ty tsk25) (Xb1.trans xl5) (xl5.skl skb1) (fun F6 ty29 ty30 ty31 ty32 ty33 X3 sk3 => ?_)
                  refine c_st (st2 := []) rfl ?_
                  have gf5 : WLQ ivb1 rvb1 ivh5 rvh5 lnb1 ob1 (sk 10) gr := exf5
                  refine c_aload (j := 0) (x := ob1) C dX3_decodeWord_126 rfl ?_
                  refine hv2 (xl5.ty tob1) (show ivh5 ob1 0 = ivb1 ob1 0 from fl5.i tob1 rfl 0) (fun ty34 ie16 => ?_)
                  have ri13 : (-2147483648) ≤ ivh5 ob1 0 ∧ ivh5 ob1 0 ≤ 2147483647 := W8.int ty34 0
                  refine c_get (k := 0) C ck_6 dX3_decodeWord_128 w3_137 (by decide) ty34 rfl rfl (by decide) rfl ?_
                  refine c_if_ne (tgt := 138) C (r32_c (lo := (-2147483648)) (hi := 2147483647) ri13.1 ri13.2 (by decide) (by decide)) dX3_decodeWord_131 (by decide) (fun c9 => ?_) (fun c9 => ?_)
                  · refine c_iconst C dX3_decodeWord_138 ?_
                    refine c_istore_n (lv2 := [(3, .int (iI 0)), (5, .ref ob1), (2, .int (iI sc)), (4, .int (iI aq)), (0, .ref a0), (1, .int (iI i))]) C dX3_decodeWord_139 (by decide) rfl ?_
                    refine c_iload (j := 3) C dX3_decodeWord_140 rfl ?_
                    refine c_iconst C dX3_decodeWord_142 ?_
                    refine c_aload (j := 1) (x := ob1) C dX3_decodeWord_143 rfl ?_
                    have re6 : rvh5 ob1 2 = rvb1 ob1 2 := (fl5.r tob1 rfl 2)
                    rw [hkw21] at re6
                    refine c_getr (k := 2) C ck_6 dX3_decodeWord_145 w3_143 (by decide) ty34 rfl rfl (by decide) rfl re6 ?_
                    refine c_st (st2 := [.ref kw21, .int (iI 1), .int (iI aq)]) rfl ?_
                    have ty35 := xl5.ty tkw21
                    have ll3 : 1 ≤ lnh5 kw21 ∧ lnh5 kw21 ≤ 4 := W8.len ty35 rfl
                    refine c_alenI C dX3_decodeWord_148 ty35 rfl ?_
                    obtain ⟨mn3, hmn3, emn3⟩ := mmax_c (x := 1) (y := ((lnh5 kw21 : Nat) : Int)) ⟨by decide, by decide⟩ ⟨by omega, by omega⟩
                    have pl7 := Phi.le W8 sk3
                    refine c_mmax (w := iI mn3) C dX3_decodeWord_149 w5_105 w2_148 w1_14 w2_149 (by decide) (rom0 hph pl7 (by decide)) (Nat.le_of_ble_eq_true rfl) emn3 ?_
                    refine c_iadd C dX3_decodeWord_152 ?_
                    refine c_istore (lv2 := [(4, .int (iI (aq + mn3))), (3, .int (iI 0)), (5, .ref ob1), (2, .int (iI sc)), (0, .ref a0), (1, .int (iI i))]) C dX3_decodeWord_153 (by decide) rfl ?_
                    refine c_goto (tgt := 7) C dX3_decodeWord_155 (by decide) ?_
                    refine hv3 (xl5.ty ty2) (show ivh5 (sk 8) 2 = ivb1 (sk 8) 2 from fl5.i ty2 rfl 2) (show lnh5 kw21 = lnb1 kw21 from (xl5 kw21 tkw21.1).2.2) (fun ty36 ie17 le5 => ?_)
                    have ri14 : 0 ≤ ivh5 (sk 8) 2 ∧ ivh5 (sk 8) 2 ≤ 40200 := W8.int ty36 2
                    refine c_lv (lv2 := [(2, .int (iI sc)), (3, .int (iI 0)), (4, .int (iI (aq + mn3))), (0, .ref a0), (1, .int (iI i))]) [3, 1, 0, 4, 5] rfl ?_
                    exact ih1  sc 0 (aq + mn3) _ _ _ _ _ (by omega) X3 W8 F6  (by omega) (by omega) (by omega) (by omega) (hB9.next ⟨by omega, by omega⟩ gf5 hkw21 (by omega) (by omega))
                  · refine c_iconst C dX3_decodeWord_134 ?_
                    refine c_goto (tgt := 139) C dX3_decodeWord_135 (by decide) ?_
                    refine c_istore_n (lv2 := [(3, .int (iI 1)), (5, .ref ob1), (2, .int (iI sc)), (4, .int (iI aq)), (0, .ref a0), (1, .int (iI i))]) C dX3_decodeWord_139 (by decide) rfl ?_
                    refine c_iload (j := 3) C dX3_decodeWord_140 rfl ?_
                    refine c_iconst C dX3_decodeWord_142 ?_
                    refine c_aload (j := 1) (x := ob1) C dX3_decodeWord_143 rfl ?_
                    have re7 : rvh5 ob1 2 = rvb1 ob1 2 := (fl5.r tob1 rfl 2)
                    rw [hkw21] at re7
                    refine c_getr (k := 2) C ck_6 dX3_decodeWord_145 w3_143 (by decide) ty34 rfl rfl (by decide) rfl re7 ?_
                    refine c_st (st2 := [.ref kw21, .int (iI 1), .int (iI aq)]) rfl ?_
                    have ty37 := xl5.ty tkw21
                    have ll4 : 1 ≤ lnh5 kw21 ∧ lnh5 kw21 ≤ 4 := W8.len ty37 rfl
                    refine c_alenI C dX3_decodeWord_148 ty37 rfl ?_
                    obtain ⟨mn4, hmn4, emn4⟩ := mmax_c (x := 1) (y := ((lnh5 kw21 : Nat) : Int)) ⟨by decide, by decide⟩ ⟨by omega, by omega⟩
                    have pl8 := Phi.le W8 sk3
                    refine c_mmax (w := iI mn4) C dX3_decodeWord_149 w5_105 w2_148 w1_14 w2_149 (by decide) (rom0 hph pl8 (by decide)) (Nat.le_of_ble_eq_true rfl) emn4 ?_
                    refine c_iadd C dX3_decodeWord_152 ?_
                    refine c_istore (lv2 := [(4, .int (iI (aq + mn4))), (3, .int (iI 1)), (5, .ref ob1), (2, .int (iI sc)), (0, .ref a0), (1, .int (iI i))]) C dX3_decodeWord_153 (by decide) rfl ?_
                    refine c_goto (tgt := 7) C dX3_decodeWord_155 (by decide) ?_
                    refine hv3 (xl5.ty ty2) (show ivh5 (sk 8) 2 = ivb1 (sk 8) 2 from fl5.i ty2 rfl 2) (show lnh5 kw21 = lnb1 kw21 from (xl5 kw21 tkw21.1).2.2) (fun ty38 ie18 le6 => ?_)
                    have ri15 : 0 ≤ ivh5 (sk 8) 2 ∧ ivh5 (sk 8) 2 ≤ 40200 := W8.int ty38 2
                    refine c_lv (lv2 := [(2, .int (iI sc)), (3, .int (iI 1)), (4, .int (iI (aq + mn4))), (0, .ref a0), (1, .int (iI i))]) [3, 1, 0, 4, 5] rfl ?_
                    exact ih1  sc 1 (aq + mn4) _ _ _ _ _ (by omega) X3 W8 F6  (by omega) (by omega) (by omega) (by omega) (hB9.next ⟨by omega, by omega⟩ gf5 hkw21 (by omega) (by omega))
                · refine c_aload (j := 0) (x := ob1) C dX3_decodeWord_83 rfl ?_
                  refine c_get (k := 0) C ck_6 dX3_decodeWord_85 w3_137 (by decide) tob1 rfl rfl (by decide) rfl ?_
                  refine c_iconst C dX3_decodeWord_88 ?_
                  refine c_icmp_ne (tgt := 96) C (r32_c (lo := (-2147483648)) (hi := 2147483647) ri7.1 ri7.2 (by decide) (by decide)) ⟨by decide, by decide⟩ dX3_decodeWord_89 (by decide) (fun _ => ?_) (fun z => absurd z (by omega))
                  refine c_iconst C dX3_decodeWord_96 ?_
                  refine c_istore_n (lv2 := [(2, .int (iI 0)), (5, .ref ob1), (3, .int (iI gr)), (4, .int (iI aq)), (0, .ref a0), (1, .int (iI i))]) C dX3_decodeWord_97 (by decide) rfl ?_
                  refine c_aload_n (j := 4) (x := a0) C dX3_decodeWord_98 rfl ?_
                  obtain ⟨rb4, rq4, trb4⟩ := Wb1.ref ty1 6 rfl rfl rfl
                  have erb4 := Wb1.sk trb4 (by decide) rfl
                  subst erb4
                  refine c_getr (k := 6) C ck_4 dX3_decodeWord_99 w1_200 (by decide) ty1 rfl rfl (by decide) rfl rq4 ?_
                  refine c_st (st2 := [.ref (sk 10)]) rfl ?_
                  refine c_iload_n (j := 0) C dX3_decodeWord_102 rfl ?_
                  refine c_if_eq (tgt := 111) C ⟨by decide, by decide⟩ dX3_decodeWord_103 (by decide) (fun _ => ?_) (fun z => absurd z (by omega))
                  refine c_bipush (z := 62) C dX3_decodeWord_111 (by decide) ?_
                  have ty39 := Xb1.ty tsk10
                  have ri16 : 0 ≤ ivb1 (sk 10) 2 ∧ ivb1 (sk 10) 2 ≤ 4001 := Wb1.int ty39 2
                  refine d_callV (As := [.int (iI 62)]) (rest := []) C hM (G_add_10 (a0 := (sk 10)) (x := 62) Wb1 skb1 ty39 ⟨by decide, by decide⟩ ) dX3_decodeWord_113 kV_X3_91 rfl ty39 rfl rfl (by decide) ck_2 rfl (Nat.le_of_ble_eq_true rfl) ⟨(Nat.le_of_ble_eq_true rfl), (Nat.le_of_ble_eq_true rfl)⟩ hph pl3 (show 0 + 0 = 0 from rfl) (by decide) (fun rh6 Lh6 clh6 lnh6 ivh6 rvh6 h6 => ?_)
                  obtain ⟨rfl, xl6, fl6, W9, exf6⟩ := h6
                  refine hv8 (Fb1.call Xb1 fl6 rfl) (Xb1.ty tsk6) (Xb1.ty tsk7) (Xb1.ty tsk9) (Xb1.ty tsk24) (Xb1.ty tsk25) (Xb1.trans xl6) (xl6.skl skb1) (fun F7 ty40 ty41 ty42 ty43 ty44 X4 sk4 => ?_)
                  refine c_st (st2 := []) rfl ?_
                  refine hv2 (xl6.ty ty39) (show ((ivh6 (sk 10) 2 = ivb1 (sk 10) 2 ∧ ivb1 (sk 10) 2 = 4001) ∨ (ivh6 (sk 10) 2 = ivb1 (sk 10) 2 + 1 ∧ ivb1 (sk 10) 2 < 4001)) ∧ (∀ ss, CT ivb1 rvb1 (sk 10) ss → ivb1 (sk 10) 2 < 4001 → CT ivh6 rvh6 (sk 10) (va_up ss (ivb1 (sk 10) 2).toNat (62 : Int))) ∧ (ivb1 (sk 10) 2 = 4001 → ∀ ss, CT ivb1 rvb1 (sk 10) ss → CT ivh6 rvh6 (sk 10) ss) from exf6) (fun ty45 gf6 => ?_)
                  have ri17 : 0 ≤ ivh6 (sk 10) 2 ∧ ivh6 (sk 10) 2 ≤ 4001 := W9.int ty45 2
                  refine c_aload (j := 1) (x := ob1) C dX3_decodeWord_116 rfl ?_
                  refine c_aload_n (j := 4) (x := a0) C dX3_decodeWord_118 rfl ?_
                  refine hv2 (xl6.ty ty1) (show rvh6 a0 6 = rvb1 a0 6 from (fl6.r ty1 rfl 6)) (fun ty46 re8 => ?_)
                  rw [rq4] at re8
                  refine c_getr (k := 6) C ck_4 dX3_decodeWord_119 w1_200 (by decide) ty46 rfl rfl (by decide) rfl re8 ?_
                  refine c_st (st2 := [.ref (sk 10), .ref ob1]) rfl ?_
                  refine c_iload_n (j := 2) C dX3_decodeWord_122 rfl ?_
                  refine hv2 (xl6.ty tob1) (Phi.le W9 sk4) (fun ty47 pl9 => ?_)
                  refine d_callV (As := [.ref (sk 10), .int (iI gr)]) (rest := []) C hM (G_wl (a0 := ob1) (a1 := (sk 10)) (g := gr) W9 sk4 ty47 ty45 (by omega) (by show gr = 0 ∨ gr = 1; omega)) dX3_decodeWord_123 kV_X3_137 rfl ty47 rfl rfl (by decide) ck_6 rfl (Nat.le_of_ble_eq_true rfl) ⟨(Nat.le_of_ble_eq_true rfl), (Nat.le_of_ble_eq_true rfl)⟩ hph pl9 (show 0 + 0 = 0 from rfl) (by decide) (fun rh7 Lh7 clh7 lnh7 ivh7 rvh7 h7 => ?_)
                  obtain ⟨rfl, xl7, fl7, W10, exf7⟩ := h7
                  refine hv10 (F7.call X4 fl7 rfl) (xl6.ty ty40) (xl6.ty ty41) (xl6.ty ty2) (xl6.ty ty42) (xl6.ty ty43) (xl6.ty ty44) (xl6.ty tkw21) (X4.trans xl7) (xl7.skl sk4) (fun F8 ty48 ty49 ty50 ty51 ty52 ty53 ty54 X5 sk5 => ?_)
                  refine c_st (st2 := []) rfl ?_
                  have gf7 : WLQ ivh6 rvh6 ivh7 rvh7 lnh6 ob1 (sk 10) gr := exf7
                  refine c_aload (j := 1) (x := ob1) C dX3_decodeWord_126 rfl ?_
                  refine hv3 (xl7.ty ty47) (show ivh7 ob1 0 = ivh6 ob1 0 from fl7.i ty47 rfl 0) (show ivh6 ob1 0 = ivb1 ob1 0 from fl6.i tob1 rfl 0) (fun ty55 ie21 ie22 => ?_)
                  have ri18 : (-2147483648) ≤ ivh7 ob1 0 ∧ ivh7 ob1 0 ≤ 2147483647 := W10.int ty55 0
                  refine c_get (k := 0) C ck_6 dX3_decodeWord_128 w3_137 (by decide) ty55 rfl rfl (by decide) rfl ?_
                  refine c_if_ne (tgt := 138) C (r32_c (lo := (-2147483648)) (hi := 2147483647) ri18.1 ri18.2 (by decide) (by decide)) dX3_decodeWord_131 (by decide) (fun c10 => ?_) (fun c10 => ?_)
                  · refine c_iconst C dX3_decodeWord_138 ?_
                    refine c_istore_n (lv2 := [(3, .int (iI 0)), (2, .int (iI 0)), (5, .ref ob1), (4, .int (iI aq)), (0, .ref a0), (1, .int (iI i))]) C dX3_decodeWord_139 (by decide) rfl ?_
                    refine c_iload (j := 3) C dX3_decodeWord_140 rfl ?_
                    refine c_iconst C dX3_decodeWord_142 ?_
                    refine c_aload (j := 2) (x := ob1) C dX3_decodeWord_143 rfl ?_
                    have re9 : rvh6 ob1 2 = rvb1 ob1 2 := (fl6.r tob1 rfl 2)
                    rw [hkw21] at re9
                    have re10 : rvh7 ob1 2 = rvh6 ob1 2 := (fl7.r ty47 rfl 2)
                    rw [re9] at re10
                    refine c_getr (k := 2) C ck_6 dX3_decodeWord_145 w3_143 (by decide) ty55 rfl rfl (by decide) rfl re10 ?_
                    refine c_st (st2 := [.ref kw21, .int (iI 1), .int (iI aq)]) rfl ?_
                    have ty56 := xl7.ty ty54
                    have ll5 : 1 ≤ lnh7 kw21 ∧ lnh7 kw21 ≤ 4 := W10.len ty56 rfl
                    refine c_alenI C dX3_decodeWord_148 ty56 rfl ?_
                    obtain ⟨mn5, hmn5, emn5⟩ := mmax_c (x := 1) (y := ((lnh7 kw21 : Nat) : Int)) ⟨by decide, by decide⟩ ⟨by omega, by omega⟩
                    have pl10 := Phi.le W10 sk5
                    refine c_mmax (w := iI mn5) C dX3_decodeWord_149 w5_105 w2_148 w1_14 w2_149 (by decide) (rom0 hph pl10 (by decide)) (Nat.le_of_ble_eq_true rfl) emn5 ?_
                    refine c_iadd C dX3_decodeWord_152 ?_
                    refine c_istore (lv2 := [(4, .int (iI (aq + mn5))), (3, .int (iI 0)), (2, .int (iI 0)), (5, .ref ob1), (0, .ref a0), (1, .int (iI i))]) C dX3_decodeWord_153 (by decide) rfl ?_
                    refine c_goto (tgt := 7) C dX3_decodeWord_155 (by decide) ?_
                    refine hv5 (xl7.ty ty50) (show ivh7 (sk 8) 2 = ivh6 (sk 8) 2 from fl7.i ty50 rfl 2) (show ivh6 (sk 8) 2 = ivb1 (sk 8) 2 from fl6.i ty2 rfl 2) (show lnh6 kw21 = lnb1 kw21 from (xl6 kw21 tkw21.1).2.2) (show lnh7 kw21 = lnh6 kw21 from (xl7 kw21 ty54.1).2.2) (fun ty57 ie23 ie24 le7 le8 => ?_)
                    have ri19 : 0 ≤ ivh7 (sk 8) 2 ∧ ivh7 (sk 8) 2 ≤ 40200 := W10.int ty57 2
                    refine c_lv (lv2 := [(2, .int (iI 0)), (3, .int (iI 0)), (4, .int (iI (aq + mn5))), (0, .ref a0), (1, .int (iI i))]) [2, 1, 0, 4, 5] rfl ?_
                    exact ih1  0 0 (aq + mn5) _ _ _ _ _ (by omega) X5 W10 F8  (by omega) (by omega) (by omega) (by omega) (hB9.turn (by omega) gf6 (fun a d q => q.keep tob1 Wb1 xl6 (KP.fr Wb1 fl6 rfl)) gf7 hkw21 (by omega) (by omega))
                  · refine c_iconst C dX3_decodeWord_134 ?_
                    refine c_goto (tgt := 139) C dX3_decodeWord_135 (by decide) ?_
                    refine c_istore_n (lv2 := [(3, .int (iI 1)), (2, .int (iI 0)), (5, .ref ob1), (4, .int (iI aq)), (0, .ref a0), (1, .int (iI i))]) C dX3_decodeWord_139 (by decide) rfl ?_
                    refine c_iload (j := 3) C dX3_decodeWord_140 rfl ?_
                    refine c_iconst C dX3_decodeWord_142 ?_
                    refine c_aload (j := 2) (x := ob1) C dX3_decodeWord_143 rfl ?_
                    have re11 : rvh6 ob1 2 = rvb1 ob1 2 := (fl6.r tob1 rfl 2)
                    rw [hkw21] at re11
                    have re12 : rvh7 ob1 2 = rvh6 ob1 2 := (fl7.r ty47 rfl 2)
                    rw [re11] at re12
                    refine c_getr (k := 2) C ck_6 dX3_decodeWord_145 w3_143 (by decide) ty55 rfl rfl (by decide) rfl re12 ?_
                    refine c_st (st2 := [.ref kw21, .int (iI 1), .int (iI aq)]) rfl ?_
                    have ty58 := xl7.ty ty54
                    have ll6 : 1 ≤ lnh7 kw21 ∧ lnh7 kw21 ≤ 4 := W10.len ty58 rfl
                    refine c_alenI C dX3_decodeWord_148 ty58 rfl ?_
                    obtain ⟨mn6, hmn6, emn6⟩ := mmax_c (x := 1) (y := ((lnh7 kw21 : Nat) : Int)) ⟨by decide, by decide⟩ ⟨by omega, by omega⟩
                    have pl11 := Phi.le W10 sk5
                    refine c_mmax (w := iI mn6) C dX3_decodeWord_149 w5_105 w2_148 w1_14 w2_149 (by decide) (rom0 hph pl11 (by decide)) (Nat.le_of_ble_eq_true rfl) emn6 ?_
                    refine c_iadd C dX3_decodeWord_152 ?_
                    refine c_istore (lv2 := [(4, .int (iI (aq + mn6))), (3, .int (iI 1)), (2, .int (iI 0)), (5, .ref ob1), (0, .ref a0), (1, .int (iI i))]) C dX3_decodeWord_153 (by decide) rfl ?_
                    refine c_goto (tgt := 7) C dX3_decodeWord_155 (by decide) ?_
                    refine hv5 (xl7.ty ty50) (show ivh7 (sk 8) 2 = ivh6 (sk 8) 2 from fl7.i ty50 rfl 2) (show ivh6 (sk 8) 2 = ivb1 (sk 8) 2 from fl6.i ty2 rfl 2) (show lnh6 kw21 = lnb1 kw21 from (xl6 kw21 tkw21.1).2.2) (show lnh7 kw21 = lnh6 kw21 from (xl7 kw21 ty54.1).2.2) (fun ty59 ie25 ie26 le9 le10 => ?_)
                    have ri20 : 0 ≤ ivh7 (sk 8) 2 ∧ ivh7 (sk 8) 2 ≤ 40200 := W10.int ty59 2
                    refine c_lv (lv2 := [(2, .int (iI 0)), (3, .int (iI 1)), (4, .int (iI (aq + mn6))), (0, .ref a0), (1, .int (iI i))]) [2, 1, 0, 4, 5] rfl ?_
                    exact ih1  0 1 (aq + mn6) _ _ _ _ _ (by omega) X5 W10 F8  (by omega) (by omega) (by omega) (by omega) (hB9.turn (by omega) gf6 (fun a d q => q.keep tob1 Wb1 xl6 (KP.fr Wb1 fl6 rfl)) gf7 hkw21 (by omega) (by omega))
            · replace hgr := (hgr.resolve_left c5)
              refine c_aload (j := 0) (x := ob1) C dX3_decodeWord_49 rfl ?_
              refine d_callV (As := []) (rest := []) C hM (C_bsmall (a0 := ob1) Wb1 skb1 tob1  ) dX3_decodeWord_51 kV_X3_130 rfl tob1 rfl rfl (by decide) ck_6 rfl (Nat.le_of_ble_eq_true rfl) ⟨(Nat.le_of_ble_eq_true rfl), (Nat.le_of_ble_eq_true rfl)⟩ hph pl3 (show 0 + 0 = 0 from rfl) (by decide) (fun rh8 Lh8 clh8 lnh8 ivh8 rvh8 h8 => ?_)
              obtain ⟨f8, rfl, rfl, rfl, rfl, rfl, rfl, rgf8, exf8⟩ := h8
              refine c_st (st2 := [.int (iI f8)]) rfl ?_
              have gf8 : f8 = 1 ↔ BSw lnb1 ivb1 rvb1 ob1 := exf8
              refine c_if_ne (tgt := 65) C ⟨by omega, by omega⟩ dX3_decodeWord_54 (by decide) (fun c11 => ?_) (fun c11 => ?_)
              · obtain ⟨l12, hl12, tl12⟩ := Wb1.ref tob1 1 rfl rfl rfl
                have hB9 : DWB L cl ln iv rv sk lnb1 ivb1 rvb1 i aq sc gr ob1 := hI.go (fun a l0 l1 R hc => hc.fr hW hS Xb1 Fb1 (QT.of hW hS Xb1 Fb1 rfl rfl rfl rfl rfl) rfl rfl rfl rfl rfl rfl rfl rfl rfl rfl) ⟨by omega, by omega⟩ (fun R hR => gf1.2 R hR (by omega) (by omega)) (by omega) wqob1 (fun _ => ⟨f8, gf8, by omega⟩) ⟨_, hl12⟩
                obtain ⟨kw22, hkw22, tkw22⟩ := Wb1.ref tob1 2 rfl rfl rfl
                have ri21 : (-2147483648) ≤ ivb1 ob1 0 ∧ ivb1 ob1 0 ≤ 2147483647 := Wb1.int tob1 0
                refine c_aload (j := 0) (x := ob1) C dX3_decodeWord_65 rfl ?_
                refine c_get (k := 0) C ck_6 dX3_decodeWord_67 w3_137 (by decide) tob1 rfl rfl (by decide) rfl ?_
                refine c_iconst C dX3_decodeWord_70 ?_
                refine c_icmp_eq (tgt := 83) C (r32_c (lo := (-2147483648)) (hi := 2147483647) ri21.1 ri21.2 (by decide) (by decide)) ⟨by decide, by decide⟩ dX3_decodeWord_71 (by decide) (fun c12 => ?_) (fun c12 => ?_)
                · refine c_aload (j := 0) (x := ob1) C dX3_decodeWord_83 rfl ?_
                  refine c_get (k := 0) C ck_6 dX3_decodeWord_85 w3_137 (by decide) tob1 rfl rfl (by decide) rfl ?_
                  refine c_iconst C dX3_decodeWord_88 ?_
                  refine c_icmp_ne (tgt := 96) C (r32_c (lo := (-2147483648)) (hi := 2147483647) ri21.1 ri21.2 (by decide) (by decide)) ⟨by decide, by decide⟩ dX3_decodeWord_89 (by decide) (fun z => absurd z (by omega)) (fun _ => ?_)
                  refine c_iconst C dX3_decodeWord_92 ?_
                  refine c_goto (tgt := 97) C dX3_decodeWord_93 (by decide) ?_
                  refine c_istore_n (lv2 := [(2, .int (iI 1)), (5, .ref ob1), (3, .int (iI gr)), (4, .int (iI aq)), (0, .ref a0), (1, .int (iI i))]) C dX3_decodeWord_97 (by decide) rfl ?_
                  refine c_aload_n (j := 4) (x := a0) C dX3_decodeWord_98 rfl ?_
                  obtain ⟨rb5, rq5, trb5⟩ := Wb1.ref ty1 6 rfl rfl rfl
                  have erb5 := Wb1.sk trb5 (by decide) rfl
                  subst erb5
                  refine c_getr (k := 6) C ck_4 dX3_decodeWord_99 w1_200 (by decide) ty1 rfl rfl (by decide) rfl rq5 ?_
                  refine c_st (st2 := [.ref (sk 10)]) rfl ?_
                  refine c_iload_n (j := 0) C dX3_decodeWord_102 rfl ?_
                  refine c_if_eq (tgt := 111) C ⟨by decide, by decide⟩ dX3_decodeWord_103 (by decide) (fun z => absurd z (by omega)) (fun _ => ?_)
                  refine c_bipush (z := 60) C dX3_decodeWord_106 (by decide) ?_
                  refine c_goto (tgt := 113) C dX3_decodeWord_108 (by decide) ?_
                  have ty60 := Xb1.ty tsk10
                  have ri22 : 0 ≤ ivb1 (sk 10) 2 ∧ ivb1 (sk 10) 2 ≤ 4001 := Wb1.int ty60 2
                  refine d_callV (As := [.int (iI 60)]) (rest := []) C hM (G_add_10 (a0 := (sk 10)) (x := 60) Wb1 skb1 ty60 ⟨by decide, by decide⟩ ) dX3_decodeWord_113 kV_X3_91 rfl ty60 rfl rfl (by decide) ck_2 rfl (Nat.le_of_ble_eq_true rfl) ⟨(Nat.le_of_ble_eq_true rfl), (Nat.le_of_ble_eq_true rfl)⟩ hph pl3 (show 0 + 0 = 0 from rfl) (by decide) (fun rh9 Lh9 clh9 lnh9 ivh9 rvh9 h9 => ?_)
                  obtain ⟨rfl, xl9, fl9, W12, exf9⟩ := h9
                  refine hv8 (Fb1.call Xb1 fl9 rfl) (Xb1.ty tsk6) (Xb1.ty tsk7) (Xb1.ty tsk9) (Xb1.ty tsk24) (Xb1.ty tsk25) (Xb1.trans xl9) (xl9.skl skb1) (fun F9 ty61 ty62 ty63 ty64 ty65 X6 sk6 => ?_)
                  refine c_st (st2 := []) rfl ?_
                  refine hv2 (xl9.ty ty60) (show ((ivh9 (sk 10) 2 = ivb1 (sk 10) 2 ∧ ivb1 (sk 10) 2 = 4001) ∨ (ivh9 (sk 10) 2 = ivb1 (sk 10) 2 + 1 ∧ ivb1 (sk 10) 2 < 4001)) ∧ (∀ ss, CT ivb1 rvb1 (sk 10) ss → ivb1 (sk 10) 2 < 4001 → CT ivh9 rvh9 (sk 10) (va_up ss (ivb1 (sk 10) 2).toNat (60 : Int))) ∧ (ivb1 (sk 10) 2 = 4001 → ∀ ss, CT ivb1 rvb1 (sk 10) ss → CT ivh9 rvh9 (sk 10) ss) from exf9) (fun ty66 gf9 => ?_)
                  have ri23 : 0 ≤ ivh9 (sk 10) 2 ∧ ivh9 (sk 10) 2 ≤ 4001 := W12.int ty66 2
                  refine c_aload (j := 1) (x := ob1) C dX3_decodeWord_116 rfl ?_
                  refine c_aload_n (j := 4) (x := a0) C dX3_decodeWord_118 rfl ?_
                  refine hv2 (xl9.ty ty1) (show rvh9 a0 6 = rvb1 a0 6 from (fl9.r ty1 rfl 6)) (fun ty67 re13 => ?_)
                  rw [rq5] at re13
                  refine c_getr (k := 6) C ck_4 dX3_decodeWord_119 w1_200 (by decide) ty67 rfl rfl (by decide) rfl re13 ?_
                  refine c_st (st2 := [.ref (sk 10), .ref ob1]) rfl ?_
                  refine c_iload_n (j := 2) C dX3_decodeWord_122 rfl ?_
                  refine hv2 (xl9.ty tob1) (Phi.le W12 sk6) (fun ty68 pl12 => ?_)
                  refine d_callV (As := [.ref (sk 10), .int (iI gr)]) (rest := []) C hM (G_wl (a0 := ob1) (a1 := (sk 10)) (g := gr) W12 sk6 ty68 ty66 (by omega) (by show gr = 0 ∨ gr = 1; omega)) dX3_decodeWord_123 kV_X3_137 rfl ty68 rfl rfl (by decide) ck_6 rfl (Nat.le_of_ble_eq_true rfl) ⟨(Nat.le_of_ble_eq_true rfl), (Nat.le_of_ble_eq_true rfl)⟩ hph pl12 (show 0 + 0 = 0 from rfl) (by decide) (fun rh10 Lh10 clh10 lnh10 ivh10 rvh10 h10 => ?_)
                  obtain ⟨rfl, xl10, fl10, W13, exf10⟩ := h10
                  refine hv10 (F9.call X6 fl10 rfl) (xl9.ty ty61) (xl9.ty ty62) (xl9.ty ty2) (xl9.ty ty63) (xl9.ty ty64) (xl9.ty ty65) (xl9.ty tkw22) (X6.trans xl10) (xl10.skl sk6) (fun F10 ty69 ty70 ty71 ty72 ty73 ty74 ty75 X7 sk7 => ?_)
                  refine c_st (st2 := []) rfl ?_
                  have gf10 : WLQ ivh9 rvh9 ivh10 rvh10 lnh9 ob1 (sk 10) gr := exf10
                  refine c_aload (j := 1) (x := ob1) C dX3_decodeWord_126 rfl ?_
                  refine hv3 (xl10.ty ty68) (show ivh10 ob1 0 = ivh9 ob1 0 from fl10.i ty68 rfl 0) (show ivh9 ob1 0 = ivb1 ob1 0 from fl9.i tob1 rfl 0) (fun ty76 ie30 ie31 => ?_)
                  have ri24 : (-2147483648) ≤ ivh10 ob1 0 ∧ ivh10 ob1 0 ≤ 2147483647 := W13.int ty76 0
                  refine c_get (k := 0) C ck_6 dX3_decodeWord_128 w3_137 (by decide) ty76 rfl rfl (by decide) rfl ?_
                  refine c_if_ne (tgt := 138) C (r32_c (lo := (-2147483648)) (hi := 2147483647) ri24.1 ri24.2 (by decide) (by decide)) dX3_decodeWord_131 (by decide) (fun c13 => ?_) (fun c13 => ?_)
                  · refine c_iconst C dX3_decodeWord_138 ?_
                    refine c_istore_n (lv2 := [(3, .int (iI 0)), (2, .int (iI 1)), (5, .ref ob1), (4, .int (iI aq)), (0, .ref a0), (1, .int (iI i))]) C dX3_decodeWord_139 (by decide) rfl ?_
                    refine c_iload (j := 3) C dX3_decodeWord_140 rfl ?_
                    refine c_iconst C dX3_decodeWord_142 ?_
                    refine c_aload (j := 2) (x := ob1) C dX3_decodeWord_143 rfl ?_
                    have re14 : rvh9 ob1 2 = rvb1 ob1 2 := (fl9.r tob1 rfl 2)
                    rw [hkw22] at re14
                    have re15 : rvh10 ob1 2 = rvh9 ob1 2 := (fl10.r ty68 rfl 2)
                    rw [re14] at re15
                    refine c_getr (k := 2) C ck_6 dX3_decodeWord_145 w3_143 (by decide) ty76 rfl rfl (by decide) rfl re15 ?_
                    refine c_st (st2 := [.ref kw22, .int (iI 1), .int (iI aq)]) rfl ?_
                    have ty77 := xl10.ty ty75
                    have ll7 : 1 ≤ lnh10 kw22 ∧ lnh10 kw22 ≤ 4 := W13.len ty77 rfl
                    refine c_alenI C dX3_decodeWord_148 ty77 rfl ?_
                    obtain ⟨mn7, hmn7, emn7⟩ := mmax_c (x := 1) (y := ((lnh10 kw22 : Nat) : Int)) ⟨by decide, by decide⟩ ⟨by omega, by omega⟩
                    have pl13 := Phi.le W13 sk7
                    refine c_mmax (w := iI mn7) C dX3_decodeWord_149 w5_105 w2_148 w1_14 w2_149 (by decide) (rom0 hph pl13 (by decide)) (Nat.le_of_ble_eq_true rfl) emn7 ?_
                    refine c_iadd C dX3_decodeWord_152 ?_
                    refine c_istore (lv2 := [(4, .int (iI (aq + mn7))), (3, .int (iI 0)), (2, .int (iI 1)), (5, .ref ob1), (0, .ref a0), (1, .int (iI i))]) C dX3_decodeWord_153 (by decide) rfl ?_
                    refine c_goto (tgt := 7) C dX3_decodeWord_155 (by decide) ?_
                    refine hv5 (xl10.ty ty71) (show ivh10 (sk 8) 2 = ivh9 (sk 8) 2 from fl10.i ty71 rfl 2) (show ivh9 (sk 8) 2 = ivb1 (sk 8) 2 from fl9.i ty2 rfl 2) (show lnh9 kw22 = lnb1 kw22 from (xl9 kw22 tkw22.1).2.2) (show lnh10 kw22 = lnh9 kw22 from (xl10 kw22 ty75.1).2.2) (fun ty78 ie32 ie33 le11 le12 => ?_)
                    have ri25 : 0 ≤ ivh10 (sk 8) 2 ∧ ivh10 (sk 8) 2 ≤ 40200 := W13.int ty78 2
                    refine c_lv (lv2 := [(2, .int (iI 1)), (3, .int (iI 0)), (4, .int (iI (aq + mn7))), (0, .ref a0), (1, .int (iI i))]) [2, 1, 0, 4, 5] rfl ?_
                    exact ih1  1 0 (aq + mn7) _ _ _ _ _ (by omega) X7 W13 F10  (by omega) (by omega) (by omega) (by omega) (hB9.turn (by omega) gf9 (fun a d q => q.keep tob1 Wb1 xl9 (KP.fr Wb1 fl9 rfl)) gf10 hkw22 (by omega) (by omega))
                  · refine c_iconst C dX3_decodeWord_134 ?_
                    refine c_goto (tgt := 139) C dX3_decodeWord_135 (by decide) ?_
                    refine c_istore_n (lv2 := [(3, .int (iI 1)), (2, .int (iI 1)), (5, .ref ob1), (4, .int (iI aq)), (0, .ref a0), (1, .int (iI i))]) C dX3_decodeWord_139 (by decide) rfl ?_
                    refine c_iload (j := 3) C dX3_decodeWord_140 rfl ?_
                    refine c_iconst C dX3_decodeWord_142 ?_
                    refine c_aload (j := 2) (x := ob1) C dX3_decodeWord_143 rfl ?_
                    have re16 : rvh9 ob1 2 = rvb1 ob1 2 := (fl9.r tob1 rfl 2)
                    rw [hkw22] at re16
                    have re17 : rvh10 ob1 2 = rvh9 ob1 2 := (fl10.r ty68 rfl 2)
                    rw [re16] at re17
                    refine c_getr (k := 2) C ck_6 dX3_decodeWord_145 w3_143 (by decide) ty76 rfl rfl (by decide) rfl re17 ?_
                    refine c_st (st2 := [.ref kw22, .int (iI 1), .int (iI aq)]) rfl ?_
                    have ty79 := xl10.ty ty75
                    have ll8 : 1 ≤ lnh10 kw22 ∧ lnh10 kw22 ≤ 4 := W13.len ty79 rfl
                    refine c_alenI C dX3_decodeWord_148 ty79 rfl ?_
                    obtain ⟨mn8, hmn8, emn8⟩ := mmax_c (x := 1) (y := ((lnh10 kw22 : Nat) : Int)) ⟨by decide, by decide⟩ ⟨by omega, by omega⟩
                    have pl14 := Phi.le W13 sk7
                    refine c_mmax (w := iI mn8) C dX3_decodeWord_149 w5_105 w2_148 w1_14 w2_149 (by decide) (rom0 hph pl14 (by decide)) (Nat.le_of_ble_eq_true rfl) emn8 ?_
                    refine c_iadd C dX3_decodeWord_152 ?_
                    refine c_istore (lv2 := [(4, .int (iI (aq + mn8))), (3, .int (iI 1)), (2, .int (iI 1)), (5, .ref ob1), (0, .ref a0), (1, .int (iI i))]) C dX3_decodeWord_153 (by decide) rfl ?_
                    refine c_goto (tgt := 7) C dX3_decodeWord_155 (by decide) ?_
                    refine hv5 (xl10.ty ty71) (show ivh10 (sk 8) 2 = ivh9 (sk 8) 2 from fl10.i ty71 rfl 2) (show ivh9 (sk 8) 2 = ivb1 (sk 8) 2 from fl9.i ty2 rfl 2) (show lnh9 kw22 = lnb1 kw22 from (xl9 kw22 tkw22.1).2.2) (show lnh10 kw22 = lnh9 kw22 from (xl10 kw22 ty75.1).2.2) (fun ty80 ie34 ie35 le13 le14 => ?_)
                    have ri26 : 0 ≤ ivh10 (sk 8) 2 ∧ ivh10 (sk 8) 2 ≤ 40200 := W13.int ty80 2
                    refine c_lv (lv2 := [(2, .int (iI 1)), (3, .int (iI 1)), (4, .int (iI (aq + mn8))), (0, .ref a0), (1, .int (iI i))]) [2, 1, 0, 4, 5] rfl ?_
                    exact ih1  1 1 (aq + mn8) _ _ _ _ _ (by omega) X7 W13 F10  (by omega) (by omega) (by omega) (by omega) (hB9.turn (by omega) gf9 (fun a d q => q.keep tob1 Wb1 xl9 (KP.fr Wb1 fl9 rfl)) gf10 hkw22 (by omega) (by omega))
                · refine c_aload (j := 0) (x := ob1) C dX3_decodeWord_74 rfl ?_
                  refine c_get (k := 0) C ck_6 dX3_decodeWord_76 w3_137 (by decide) tob1 rfl rfl (by decide) rfl ?_
                  refine c_iconst C dX3_decodeWord_79 ?_
                  refine c_icmp_ne (tgt := 116) C (r32_c (lo := (-2147483648)) (hi := 2147483647) ri21.1 ri21.2 (by decide) (by decide)) ⟨by decide, by decide⟩ dX3_decodeWord_80 (by decide) (fun c14 => ?_) (fun c14 => ?_)
                  · refine c_aload (j := 0) (x := ob1) C dX3_decodeWord_116 rfl ?_
                    refine c_aload_n (j := 4) (x := a0) C dX3_decodeWord_118 rfl ?_
                    obtain ⟨rb6, rq6, trb6⟩ := Wb1.ref ty1 6 rfl rfl rfl
                    have erb6 := Wb1.sk trb6 (by decide) rfl
                    subst erb6
                    refine c_getr (k := 6) C ck_4 dX3_decodeWord_119 w1_200 (by decide) ty1 rfl rfl (by decide) rfl rq6 ?_
                    refine c_st (st2 := [.ref (sk 10), .ref ob1]) rfl ?_
                    refine c_iload_n (j := 2) C dX3_decodeWord_122 rfl ?_
                    have ty81 := Xb1.ty tsk10
                    refine d_callV (As := [.ref (sk 10), .int (iI gr)]) (rest := []) C hM (G_wl (a0 := ob1) (a1 := (sk 10)) (g := gr) Wb1 skb1 tob1 ty81 (by omega) (by show gr = 0 ∨ gr = 1; omega)) dX3_decodeWord_123 kV_X3_137 rfl tob1 rfl rfl (by decide) ck_6 rfl (Nat.le_of_ble_eq_true rfl) ⟨(Nat.le_of_ble_eq_true rfl), (Nat.le_of_ble_eq_true rfl)⟩ hph pl3 (show 0 + 0 = 0 from rfl) (by decide) (fun rh11 Lh11 clh11 lnh11 ivh11 rvh11 h11 => ?_)
                    obtain ⟨rfl, xl11, fl11, W14, exf11⟩ := h11
                    refine hv8 (Fb1.call Xb1 fl11 rfl) (Xb1.ty tsk6) (Xb1.ty tsk7) (Xb1.ty tsk9) (Xb1.ty tsk24) (Xb1.ty tsk25) (Xb1.trans xl11) (xl11.skl skb1) (fun F11 ty82 ty83 ty84 ty85 ty86 X8 sk8 => ?_)
                    refine c_st (st2 := []) rfl ?_
                    have gf11 : WLQ ivb1 rvb1 ivh11 rvh11 lnb1 ob1 (sk 10) gr := exf11
                    refine c_aload (j := 0) (x := ob1) C dX3_decodeWord_126 rfl ?_
                    refine hv2 (xl11.ty tob1) (show ivh11 ob1 0 = ivb1 ob1 0 from fl11.i tob1 rfl 0) (fun ty87 ie36 => ?_)
                    have ri27 : (-2147483648) ≤ ivh11 ob1 0 ∧ ivh11 ob1 0 ≤ 2147483647 := W14.int ty87 0
                    refine c_get (k := 0) C ck_6 dX3_decodeWord_128 w3_137 (by decide) ty87 rfl rfl (by decide) rfl ?_
                    refine c_if_ne (tgt := 138) C (r32_c (lo := (-2147483648)) (hi := 2147483647) ri27.1 ri27.2 (by decide) (by decide)) dX3_decodeWord_131 (by decide) (fun c15 => ?_) (fun c15 => ?_)
                    · refine c_iconst C dX3_decodeWord_138 ?_
                      refine c_istore_n (lv2 := [(3, .int (iI 0)), (5, .ref ob1), (2, .int (iI sc)), (4, .int (iI aq)), (0, .ref a0), (1, .int (iI i))]) C dX3_decodeWord_139 (by decide) rfl ?_
                      refine c_iload (j := 3) C dX3_decodeWord_140 rfl ?_
                      refine c_iconst C dX3_decodeWord_142 ?_
                      refine c_aload (j := 1) (x := ob1) C dX3_decodeWord_143 rfl ?_
                      have re18 : rvh11 ob1 2 = rvb1 ob1 2 := (fl11.r tob1 rfl 2)
                      rw [hkw22] at re18
                      refine c_getr (k := 2) C ck_6 dX3_decodeWord_145 w3_143 (by decide) ty87 rfl rfl (by decide) rfl re18 ?_
                      refine c_st (st2 := [.ref kw22, .int (iI 1), .int (iI aq)]) rfl ?_
                      have ty88 := xl11.ty tkw22
                      have ll9 : 1 ≤ lnh11 kw22 ∧ lnh11 kw22 ≤ 4 := W14.len ty88 rfl
                      refine c_alenI C dX3_decodeWord_148 ty88 rfl ?_
                      obtain ⟨mn9, hmn9, emn9⟩ := mmax_c (x := 1) (y := ((lnh11 kw22 : Nat) : Int)) ⟨by decide, by decide⟩ ⟨by omega, by omega⟩
                      have pl15 := Phi.le W14 sk8
                      refine c_mmax (w := iI mn9) C dX3_decodeWord_149 w5_105 w2_148 w1_14 w2_149 (by decide) (rom0 hph pl15 (by decide)) (Nat.le_of_ble_eq_true rfl) emn9 ?_
                      refine c_iadd C dX3_decodeWord_152 ?_
                      refine c_istore (lv2 := [(4, .int (iI (aq + mn9))), (3, .int (iI 0)), (5, .ref ob1), (2, .int (iI sc)), (0, .ref a0), (1, .int (iI i))]) C dX3_decodeWord_153 (by decide) rfl ?_
                      refine c_goto (tgt := 7) C dX3_decodeWord_155 (by decide) ?_
                      refine hv3 (xl11.ty ty2) (show ivh11 (sk 8) 2 = ivb1 (sk 8) 2 from fl11.i ty2 rfl 2) (show lnh11 kw22 = lnb1 kw22 from (xl11 kw22 tkw22.1).2.2) (fun ty89 ie37 le15 => ?_)
                      have ri28 : 0 ≤ ivh11 (sk 8) 2 ∧ ivh11 (sk 8) 2 ≤ 40200 := W14.int ty89 2
                      refine c_lv (lv2 := [(2, .int (iI sc)), (3, .int (iI 0)), (4, .int (iI (aq + mn9))), (0, .ref a0), (1, .int (iI i))]) [3, 1, 0, 4, 5] rfl ?_
                      exact ih1  sc 0 (aq + mn9) _ _ _ _ _ (by omega) X8 W14 F11  (by omega) (by omega) (by omega) (by omega) (hB9.next ⟨by omega, by omega⟩ gf11 hkw22 (by omega) (by omega))
                    · refine c_iconst C dX3_decodeWord_134 ?_
                      refine c_goto (tgt := 139) C dX3_decodeWord_135 (by decide) ?_
                      refine c_istore_n (lv2 := [(3, .int (iI 1)), (5, .ref ob1), (2, .int (iI sc)), (4, .int (iI aq)), (0, .ref a0), (1, .int (iI i))]) C dX3_decodeWord_139 (by decide) rfl ?_
                      refine c_iload (j := 3) C dX3_decodeWord_140 rfl ?_
                      refine c_iconst C dX3_decodeWord_142 ?_
                      refine c_aload (j := 1) (x := ob1) C dX3_decodeWord_143 rfl ?_
                      have re19 : rvh11 ob1 2 = rvb1 ob1 2 := (fl11.r tob1 rfl 2)
                      rw [hkw22] at re19
                      refine c_getr (k := 2) C ck_6 dX3_decodeWord_145 w3_143 (by decide) ty87 rfl rfl (by decide) rfl re19 ?_
                      refine c_st (st2 := [.ref kw22, .int (iI 1), .int (iI aq)]) rfl ?_
                      have ty90 := xl11.ty tkw22
                      have ll10 : 1 ≤ lnh11 kw22 ∧ lnh11 kw22 ≤ 4 := W14.len ty90 rfl
                      refine c_alenI C dX3_decodeWord_148 ty90 rfl ?_
                      obtain ⟨mn10, hmn10, emn10⟩ := mmax_c (x := 1) (y := ((lnh11 kw22 : Nat) : Int)) ⟨by decide, by decide⟩ ⟨by omega, by omega⟩
                      have pl16 := Phi.le W14 sk8
                      refine c_mmax (w := iI mn10) C dX3_decodeWord_149 w5_105 w2_148 w1_14 w2_149 (by decide) (rom0 hph pl16 (by decide)) (Nat.le_of_ble_eq_true rfl) emn10 ?_
                      refine c_iadd C dX3_decodeWord_152 ?_
                      refine c_istore (lv2 := [(4, .int (iI (aq + mn10))), (3, .int (iI 1)), (5, .ref ob1), (2, .int (iI sc)), (0, .ref a0), (1, .int (iI i))]) C dX3_decodeWord_153 (by decide) rfl ?_
                      refine c_goto (tgt := 7) C dX3_decodeWord_155 (by decide) ?_
                      refine hv3 (xl11.ty ty2) (show ivh11 (sk 8) 2 = ivb1 (sk 8) 2 from fl11.i ty2 rfl 2) (show lnh11 kw22 = lnb1 kw22 from (xl11 kw22 tkw22.1).2.2) (fun ty91 ie38 le16 => ?_)
                      have ri29 : 0 ≤ ivh11 (sk 8) 2 ∧ ivh11 (sk 8) 2 ≤ 40200 := W14.int ty91 2
                      refine c_lv (lv2 := [(2, .int (iI sc)), (3, .int (iI 1)), (4, .int (iI (aq + mn10))), (0, .ref a0), (1, .int (iI i))]) [3, 1, 0, 4, 5] rfl ?_
                      exact ih1  sc 1 (aq + mn10) _ _ _ _ _ (by omega) X8 W14 F11  (by omega) (by omega) (by omega) (by omega) (hB9.next ⟨by omega, by omega⟩ gf11 hkw22 (by omega) (by omega))
                  · refine c_aload (j := 0) (x := ob1) C dX3_decodeWord_83 rfl ?_
                    refine c_get (k := 0) C ck_6 dX3_decodeWord_85 w3_137 (by decide) tob1 rfl rfl (by decide) rfl ?_
                    refine c_iconst C dX3_decodeWord_88 ?_
                    refine c_icmp_ne (tgt := 96) C (r32_c (lo := (-2147483648)) (hi := 2147483647) ri21.1 ri21.2 (by decide) (by decide)) ⟨by decide, by decide⟩ dX3_decodeWord_89 (by decide) (fun _ => ?_) (fun z => absurd z (by omega))
                    refine c_iconst C dX3_decodeWord_96 ?_
                    refine c_istore_n (lv2 := [(2, .int (iI 0)), (5, .ref ob1), (3, .int (iI gr)), (4, .int (iI aq)), (0, .ref a0), (1, .int (iI i))]) C dX3_decodeWord_97 (by decide) rfl ?_
                    refine c_aload_n (j := 4) (x := a0) C dX3_decodeWord_98 rfl ?_
                    obtain ⟨rb7, rq7, trb7⟩ := Wb1.ref ty1 6 rfl rfl rfl
                    have erb7 := Wb1.sk trb7 (by decide) rfl
                    subst erb7
                    refine c_getr (k := 6) C ck_4 dX3_decodeWord_99 w1_200 (by decide) ty1 rfl rfl (by decide) rfl rq7 ?_
                    refine c_st (st2 := [.ref (sk 10)]) rfl ?_
                    refine c_iload_n (j := 0) C dX3_decodeWord_102 rfl ?_
                    refine c_if_eq (tgt := 111) C ⟨by decide, by decide⟩ dX3_decodeWord_103 (by decide) (fun _ => ?_) (fun z => absurd z (by omega))
                    refine c_bipush (z := 62) C dX3_decodeWord_111 (by decide) ?_
                    have ty92 := Xb1.ty tsk10
                    have ri30 : 0 ≤ ivb1 (sk 10) 2 ∧ ivb1 (sk 10) 2 ≤ 4001 := Wb1.int ty92 2
                    refine d_callV (As := [.int (iI 62)]) (rest := []) C hM (G_add_10 (a0 := (sk 10)) (x := 62) Wb1 skb1 ty92 ⟨by decide, by decide⟩ ) dX3_decodeWord_113 kV_X3_91 rfl ty92 rfl rfl (by decide) ck_2 rfl (Nat.le_of_ble_eq_true rfl) ⟨(Nat.le_of_ble_eq_true rfl), (Nat.le_of_ble_eq_true rfl)⟩ hph pl3 (show 0 + 0 = 0 from rfl) (by decide) (fun rh12 Lh12 clh12 lnh12 ivh12 rvh12 h12 => ?_)
                    obtain ⟨rfl, xl12, fl12, W15, exf12⟩ := h12
                    refine hv8 (Fb1.call Xb1 fl12 rfl) (Xb1.ty tsk6) (Xb1.ty tsk7) (Xb1.ty tsk9) (Xb1.ty tsk24) (Xb1.ty tsk25) (Xb1.trans xl12) (xl12.skl skb1) (fun F12 ty93 ty94 ty95 ty96 ty97 X9 sk9 => ?_)
                    refine c_st (st2 := []) rfl ?_
                    refine hv2 (xl12.ty ty92) (show ((ivh12 (sk 10) 2 = ivb1 (sk 10) 2 ∧ ivb1 (sk 10) 2 = 4001) ∨ (ivh12 (sk 10) 2 = ivb1 (sk 10) 2 + 1 ∧ ivb1 (sk 10) 2 < 4001)) ∧ (∀ ss, CT ivb1 rvb1 (sk 10) ss → ivb1 (sk 10) 2 < 4001 → CT ivh12 rvh12 (sk 10) (va_up ss (ivb1 (sk 10) 2).toNat (62 : Int))) ∧ (ivb1 (sk 10) 2 = 4001 → ∀ ss, CT ivb1 rvb1 (sk 10) ss → CT ivh12 rvh12 (sk 10) ss) from exf12) (fun ty98 gf12 => ?_)
                    have ri31 : 0 ≤ ivh12 (sk 10) 2 ∧ ivh12 (sk 10) 2 ≤ 4001 := W15.int ty98 2
                    refine c_aload (j := 1) (x := ob1) C dX3_decodeWord_116 rfl ?_
                    refine c_aload_n (j := 4) (x := a0) C dX3_decodeWord_118 rfl ?_
                    refine hv2 (xl12.ty ty1) (show rvh12 a0 6 = rvb1 a0 6 from (fl12.r ty1 rfl 6)) (fun ty99 re20 => ?_)
                    rw [rq7] at re20
                    refine c_getr (k := 6) C ck_4 dX3_decodeWord_119 w1_200 (by decide) ty99 rfl rfl (by decide) rfl re20 ?_
                    refine c_st (st2 := [.ref (sk 10), .ref ob1]) rfl ?_
                    refine c_iload_n (j := 2) C dX3_decodeWord_122 rfl ?_
                    refine hv2 (xl12.ty tob1) (Phi.le W15 sk9) (fun ty100 pl17 => ?_)
                    refine d_callV (As := [.ref (sk 10), .int (iI gr)]) (rest := []) C hM (G_wl (a0 := ob1) (a1 := (sk 10)) (g := gr) W15 sk9 ty100 ty98 (by omega) (by show gr = 0 ∨ gr = 1; omega)) dX3_decodeWord_123 kV_X3_137 rfl ty100 rfl rfl (by decide) ck_6 rfl (Nat.le_of_ble_eq_true rfl) ⟨(Nat.le_of_ble_eq_true rfl), (Nat.le_of_ble_eq_true rfl)⟩ hph pl17 (show 0 + 0 = 0 from rfl) (by decide) (fun rh13 Lh13 clh13 lnh13 ivh13 rvh13 h13 => ?_)
                    obtain ⟨rfl, xl13, fl13, W16, exf13⟩ := h13
                    refine hv10 (F12.call X9 fl13 rfl) (xl12.ty ty93) (xl12.ty ty94) (xl12.ty ty2) (xl12.ty ty95) (xl12.ty ty96) (xl12.ty ty97) (xl12.ty tkw22) (X9.trans xl13) (xl13.skl sk9) (fun F13 ty101 ty102 ty103 ty104 ty105 ty106 ty107 X10 sk10 => ?_)
                    refine c_st (st2 := []) rfl ?_
                    have gf13 : WLQ ivh12 rvh12 ivh13 rvh13 lnh12 ob1 (sk 10) gr := exf13
                    refine c_aload (j := 1) (x := ob1) C dX3_decodeWord_126 rfl ?_
                    refine hv3 (xl13.ty ty100) (show ivh13 ob1 0 = ivh12 ob1 0 from fl13.i ty100 rfl 0) (show ivh12 ob1 0 = ivb1 ob1 0 from fl12.i tob1 rfl 0) (fun ty108 ie41 ie42 => ?_)
                    have ri32 : (-2147483648) ≤ ivh13 ob1 0 ∧ ivh13 ob1 0 ≤ 2147483647 := W16.int ty108 0
                    refine c_get (k := 0) C ck_6 dX3_decodeWord_128 w3_137 (by decide) ty108 rfl rfl (by decide) rfl ?_
                    refine c_if_ne (tgt := 138) C (r32_c (lo := (-2147483648)) (hi := 2147483647) ri32.1 ri32.2 (by decide) (by decide)) dX3_decodeWord_131 (by decide) (fun c16 => ?_) (fun c16 => ?_)
                    · refine c_iconst C dX3_decodeWord_138 ?_
                      refine c_istore_n (lv2 := [(3, .int (iI 0)), (2, .int (iI 0)), (5, .ref ob1), (4, .int (iI aq)), (0, .ref a0), (1, .int (iI i))]) C dX3_decodeWord_139 (by decide) rfl ?_
                      refine c_iload (j := 3) C dX3_decodeWord_140 rfl ?_
                      refine c_iconst C dX3_decodeWord_142 ?_
                      refine c_aload (j := 2) (x := ob1) C dX3_decodeWord_143 rfl ?_
                      have re21 : rvh12 ob1 2 = rvb1 ob1 2 := (fl12.r tob1 rfl 2)
                      rw [hkw22] at re21
                      have re22 : rvh13 ob1 2 = rvh12 ob1 2 := (fl13.r ty100 rfl 2)
                      rw [re21] at re22
                      refine c_getr (k := 2) C ck_6 dX3_decodeWord_145 w3_143 (by decide) ty108 rfl rfl (by decide) rfl re22 ?_
                      refine c_st (st2 := [.ref kw22, .int (iI 1), .int (iI aq)]) rfl ?_
                      have ty109 := xl13.ty ty107
                      have ll11 : 1 ≤ lnh13 kw22 ∧ lnh13 kw22 ≤ 4 := W16.len ty109 rfl
                      refine c_alenI C dX3_decodeWord_148 ty109 rfl ?_
                      obtain ⟨mn11, hmn11, emn11⟩ := mmax_c (x := 1) (y := ((lnh13 kw22 : Nat) : Int)) ⟨by decide, by decide⟩ ⟨by omega, by omega⟩
                      have pl18 := Phi.le W16 sk10
                      refine c_mmax (w := iI mn11) C dX3_decodeWord_149 w5_105 w2_148 w1_14 w2_149 (by decide) (rom0 hph pl18 (by decide)) (Nat.le_of_ble_eq_true rfl) emn11 ?_
                      refine c_iadd C dX3_decodeWord_152 ?_
                      refine c_istore (lv2 := [(4, .int (iI (aq + mn11))), (3, .int (iI 0)), (2, .int (iI 0)), (5, .ref ob1), (0, .ref a0), (1, .int (iI i))]) C dX3_decodeWord_153 (by decide) rfl ?_
                      refine c_goto (tgt := 7) C dX3_decodeWord_155 (by decide) ?_
                      refine hv5 (xl13.ty ty103) (show ivh13 (sk 8) 2 = ivh12 (sk 8) 2 from fl13.i ty103 rfl 2) (show ivh12 (sk 8) 2 = ivb1 (sk 8) 2 from fl12.i ty2 rfl 2) (show lnh12 kw22 = lnb1 kw22 from (xl12 kw22 tkw22.1).2.2) (show lnh13 kw22 = lnh12 kw22 from (xl13 kw22 ty107.1).2.2) (fun ty110 ie43 ie44 le17 le18 => ?_)
                      have ri33 : 0 ≤ ivh13 (sk 8) 2 ∧ ivh13 (sk 8) 2 ≤ 40200 := W16.int ty110 2
                      refine c_lv (lv2 := [(2, .int (iI 0)), (3, .int (iI 0)), (4, .int (iI (aq + mn11))), (0, .ref a0), (1, .int (iI i))]) [2, 1, 0, 4, 5] rfl ?_
                      exact ih1  0 0 (aq + mn11) _ _ _ _ _ (by omega) X10 W16 F13  (by omega) (by omega) (by omega) (by omega) (hB9.turn (by omega) gf12 (fun a d q => q.keep tob1 Wb1 xl12 (KP.fr Wb1 fl12 rfl)) gf13 hkw22 (by omega) (by omega))
                    · refine c_iconst C dX3_decodeWord_134 ?_
                      refine c_goto (tgt := 139) C dX3_decodeWord_135 (by decide) ?_
                      refine c_istore_n (lv2 := [(3, .int (iI 1)), (2, .int (iI 0)), (5, .ref ob1), (4, .int (iI aq)), (0, .ref a0), (1, .int (iI i))]) C dX3_decodeWord_139 (by decide) rfl ?_
                      refine c_iload (j := 3) C dX3_decodeWord_140 rfl ?_
                      refine c_iconst C dX3_decodeWord_142 ?_
                      refine c_aload (j := 2) (x := ob1) C dX3_decodeWord_143 rfl ?_
                      have re23 : rvh12 ob1 2 = rvb1 ob1 2 := (fl12.r tob1 rfl 2)
                      rw [hkw22] at re23
                      have re24 : rvh13 ob1 2 = rvh12 ob1 2 := (fl13.r ty100 rfl 2)
                      rw [re23] at re24
                      refine c_getr (k := 2) C ck_6 dX3_decodeWord_145 w3_143 (by decide) ty108 rfl rfl (by decide) rfl re24 ?_
                      refine c_st (st2 := [.ref kw22, .int (iI 1), .int (iI aq)]) rfl ?_
                      have ty111 := xl13.ty ty107
                      have ll12 : 1 ≤ lnh13 kw22 ∧ lnh13 kw22 ≤ 4 := W16.len ty111 rfl
                      refine c_alenI C dX3_decodeWord_148 ty111 rfl ?_
                      obtain ⟨mn12, hmn12, emn12⟩ := mmax_c (x := 1) (y := ((lnh13 kw22 : Nat) : Int)) ⟨by decide, by decide⟩ ⟨by omega, by omega⟩
                      have pl19 := Phi.le W16 sk10
                      refine c_mmax (w := iI mn12) C dX3_decodeWord_149 w5_105 w2_148 w1_14 w2_149 (by decide) (rom0 hph pl19 (by decide)) (Nat.le_of_ble_eq_true rfl) emn12 ?_
                      refine c_iadd C dX3_decodeWord_152 ?_
                      refine c_istore (lv2 := [(4, .int (iI (aq + mn12))), (3, .int (iI 1)), (2, .int (iI 0)), (5, .ref ob1), (0, .ref a0), (1, .int (iI i))]) C dX3_decodeWord_153 (by decide) rfl ?_
                      refine c_goto (tgt := 7) C dX3_decodeWord_155 (by decide) ?_
                      refine hv5 (xl13.ty ty103) (show ivh13 (sk 8) 2 = ivh12 (sk 8) 2 from fl13.i ty103 rfl 2) (show ivh12 (sk 8) 2 = ivb1 (sk 8) 2 from fl12.i ty2 rfl 2) (show lnh12 kw22 = lnb1 kw22 from (xl12 kw22 tkw22.1).2.2) (show lnh13 kw22 = lnh12 kw22 from (xl13 kw22 ty107.1).2.2) (fun ty112 ie45 ie46 le19 le20 => ?_)
                      have ri34 : 0 ≤ ivh13 (sk 8) 2 ∧ ivh13 (sk 8) 2 ≤ 40200 := W16.int ty112 2
                      refine c_lv (lv2 := [(2, .int (iI 0)), (3, .int (iI 1)), (4, .int (iI (aq + mn12))), (0, .ref a0), (1, .int (iI i))]) [2, 1, 0, 4, 5] rfl ?_
                      exact ih1  0 1 (aq + mn12) _ _ _ _ _ (by omega) X10 W16 F13  (by omega) (by omega) (by omega) (by omega) (hB9.turn (by omega) gf12 (fun a d q => q.keep tob1 Wb1 xl12 (KP.fr Wb1 fl12 rfl)) gf13 hkw22 (by omega) (by omega))
              · refine c_aload_n (j := 4) (x := a0) C dX3_decodeWord_57 rfl ?_
                refine c_iload (j := 3) C dX3_decodeWord_58 rfl ?_
                refine c_put (z := aq) (k := 7) C ck_4 dX3_decodeWord_60 w1_202 (by decide) rfl ty1 rfl rfl (by decide) rfl (by rfl) (by rfl) (fun iv4 pq4 => ?_)
                refine hv2 (Wb1.puti pq4 ty1 (show (-2147483648) ≤ aq ∧ aq ≤ 2147483647 by omega) rfl) (Fb1.puti Xb1 pq4 ty1 rfl) (fun W17 F14 => ?_)
                refine c_iconst C dX3_decodeWord_63 ?_
                refine hv2 (show 0 ≤ iv4 (sk 8) 2 ∧ iv4 (sk 8) 2 ≤ 40200 from W17.int ty2 2) (show iv4 (sk 8) 2 = ivb1 (sk 8) 2 from by rw [pq4]; exact up2_k (ne_ty ty2 ty1 (by decide))) (fun ri35 ie47 => ?_)
                obtain ⟨l13, hl13, tl13⟩ := Wb1.ref tob1 1 rfl rfl rfl
                exact c_iret C dX3_decodeWord_64 rfl (by decide) (rom0 hph pl3 (by decide)) ⟨(-1), rfl, Xb1, F14, W17, ⟨by decide, by decide⟩, ⟨by omega, hI.small (fun a l0 l1 R hc => hc.fr hW hS Xb1 Fb1 (QT.of hW hS Xb1 Fb1 rfl rfl rfl rfl rfl) rfl rfl rfl rfl rfl rfl rfl rfl rfl rfl) ⟨by omega, by omega⟩ (fun R hR => gf1.2 R hR (by omega) (by omega)) (by omega) wqob1 (by omega) gf8 (by omega) ⟨_, hl13⟩ (by omega)⟩⟩
  have ri36 : 0 ≤ iv (sk 8) 2 ∧ iv (sk 8) 2 ≤ 40200 := hW.int tsk8 2
  refine c_lv (lv2 := [(2, .int (iI 0)), (3, .int (iI 0)), (4, .int (iI i)), (0, .ref a0), (1, .int (iI i))]) [2, 1, 0, 3, 4] rfl ?_
  exact Lp1 40207 0 0 i _ _ _ _ _ (by omega) hX0 hW hF0  (by omega) (by omega) (by omega) (by omega) DWI.init
end
section
def DCI (L : List Nat) (cl ln : Nat → Nat) (iv : Nat → Nat → Int) (rv : Nat → Nat → Option Nat) (sk : Nat → Nat) (iv1 : Nat → Nat → Int) (rv1 : Nat → Nat → Option Nat) (n x : Int) : Prop := ∀ a l0 l1 R, DCX L cl ln iv rv sk a l0 l1 R → ∃ bs, MRC a l0 l1 R (x, 0, 0, n, 0) bs ∧ BYT iv1 rv1 (sk 10) 4001 bs
def DCW (L : List Nat) (cl ln : Nat → Nat) (iv : Nat → Nat → Int) (rv : Nat → Nat → Option Nat) (sk : Nat → Nat) (iv1 : Nat → Nat → Int) (rv1 : Nat → Nat → Option Nat) (x : Int) : Prop := ∀ a l0 l1 R, DCX L cl ln iv rv sk a l0 l1 R → R x.toNat ≠ 0 ∧ ∃ bs, MRC a l0 l1 R (x, 0, 0, 1, 1) bs ∧ BYT iv1 rv1 (sk 10) 4001 bs
def DEX (L : List Nat) (cl ln : Nat → Nat) (iv : Nat → Nat → Int) (rv : Nat → Nat → Option Nat) (sk : Nat → Nat) (iv2 : Nat → Nat → Int) (rv2 : Nat → Nat → Option Nat) (f : Int) : Prop := ∀ a l0 l1 R, DCX L cl ln iv rv sk a l0 l1 R → (f = 0 ∧ RWG a l0 l1 R) ∨ (f = 1 ∧ ∃ bs, RFN a l0 l1 R bs ∧ BYT iv2 rv2 (sk 10) 4001 bs)
section DECO
variable {h : Nat} {sk : Nat → Nat} {L L1 : List Nat} {cl ln cl1 ln1 : Nat → Nat} {iv iv1 iv2 iv3 : Nat → Nat → Int} {rv rv1 rv2 rv3 : Nat → Nat → Option Nat} {n x y f : Int}
theorem DCI.init (h0 : iv1 (sk 10) 2 = 0) (hn : n = 0) : DCI L cl ln iv rv sk iv1 rv1 n 0 := fun a l0 l1 R _ => ⟨[], by rw [hn]; exact MRC.zero, BYT.nil h0⟩
theorem DCI.blank (hI : DCI L cl ln iv rv sk iv1 rv1 n x) (hd : ∀ a l0 l1 R, DCX L cl ln iv rv sk a l0 l1 R → DCX L1 cl1 ln1 iv1 rv1 sk a l0 l1 R) (hy : ∀ R, CT iv1 rv1 (sk 8) R → y = R x.toNat) (h0 : y = 0) : DCI L cl ln iv rv sk iv1 rv1 n (x + 1) := fun a l0 l1 R hc => by
  obtain ⟨bs, g1, g2⟩ := hI a l0 l1 R hc
  have e := hy R (hd a l0 l1 R hc).2.2.2.2.1
  exact ⟨bs, g1.blank (by rw [← e]; exact h0), g2⟩
theorem DCI.word0 (hI : DCI L cl ln iv rv sk iv1 rv1 n x) (hd : ∀ a l0 l1 R, DCX L cl ln iv rv sk a l0 l1 R → DCX L1 cl1 ln1 iv1 rv1 sk a l0 l1 R) (hy : ∀ R, CT iv1 rv1 (sk 8) R → y = R x.toNat) (h0 : y ≠ 0) (hn : n = 0) : DCW L cl ln iv rv sk iv1 rv1 x := fun a l0 l1 R hc => by
  obtain ⟨bs, g1, g2⟩ := hI a l0 l1 R hc
  have e := hy R (hd a l0 l1 R hc).2.2.2.2.1
  refine ⟨by rw [← e]; exact h0, bs, g1.word (by rw [← e]; exact h0) ?_, g2⟩
  rw [if_neg (by omega), List.append_nil]
theorem DCI.word1 (hI : DCI L cl ln iv rv sk iv1 rv1 n x) (hd : ∀ a l0 l1 R, DCX L cl ln iv rv sk a l0 l1 R → DCX L1 cl1 ln1 iv1 rv1 sk a l0 l1 R) (hy : ∀ R, CT iv1 rv1 (sk 8) R → y = R x.toNat) (h0 : y ≠ 0) (hn : n = 1) (ga : ((iv2 (sk 10) 2 = iv1 (sk 10) 2 ∧ iv1 (sk 10) 2 = 4001) ∨ (iv2 (sk 10) 2 = iv1 (sk 10) 2 + 1 ∧ iv1 (sk 10) 2 < 4001)) ∧ (∀ ss, CT iv1 rv1 (sk 10) ss → iv1 (sk 10) 2 < 4001 → CT iv2 rv2 (sk 10) (va_up ss (iv1 (sk 10) 2).toNat 32)) ∧ (iv1 (sk 10) 2 = 4001 → ∀ ss, CT iv1 rv1 (sk 10) ss → CT iv2 rv2 (sk 10) ss)) : DCW L cl ln iv rv sk iv2 rv2 x := fun a l0 l1 R hc => by
  obtain ⟨bs, g1, g2⟩ := hI a l0 l1 R hc
  have e := hy R (hd a l0 l1 R hc).2.2.2.2.1
  refine ⟨by rw [← e]; exact h0, _, g1.word (o2 := bs ++ [32]) (by rw [← e]; exact h0) ?_, g2.snoc ga⟩
  rw [if_pos hn]
theorem DCW.run (hw : DCW L cl ln iv rv sk iv1 rv1 x) (hd : ∀ a l0 l1 R, DCX L cl ln iv rv sk a l0 l1 R → DCX L1 cl1 ln1 iv1 rv1 sk a l0 l1 R) (hx : DWX L1 cl1 ln1 iv1 rv1 sk iv2 rv2 x f) (h0 : 0 ≤ x) : (f ≤ x → DEX L cl ln iv rv sk iv3 rv3 0) ∧ (x < f → DCI L cl ln iv rv sk iv2 rv2 1 f) := by
  refine ⟨fun e a l0 l1 R hc => ?_, fun e a l0 l1 R hc => ?_⟩
  · obtain ⟨nz, bs, g1, g2⟩ := hw a l0 l1 R hc
    rcases hx a l0 l1 R bs (hd a l0 l1 R hc) g1 g2 with ⟨_, w⟩ | ⟨w1, w2, _⟩
    · exact Or.inl ⟨rfl, w⟩
    · rw [show f = x by omega] at w2
      exact absurd w2 nz
  · obtain ⟨nz, bs, g1, g2⟩ := hw a l0 l1 R hc
    rcases hx a l0 l1 R bs (hd a l0 l1 R hc) g1 g2 with ⟨w, _⟩ | ⟨w1, w2, g, b2, w3, w4⟩
    · omega
    · exact ⟨b2, w3.wend w2 (by decide), w4⟩
theorem DCI.fin (hI : DCI L cl ln iv rv sk iv1 rv1 n x) (hd : ∀ a l0 l1 R, DCX L cl ln iv rv sk a l0 l1 R → DCX L1 cl1 ln1 iv1 rv1 sk a l0 l1 R) (hx : iv1 (sk 8) 2 ≤ x) (h0 : 0 ≤ x) : DEX L cl ln iv rv sk iv1 rv1 1 := fun a l0 l1 R hc => by
  obtain ⟨bs, g1, g2⟩ := hI a l0 l1 R hc
  have c8 := (hd a l0 l1 R hc).2.2.2.2.2
  exact Or.inr ⟨rfl, bs, g1.fin (fun j hj => c8 j (by omega)), g2⟩
end DECO
set_option maxHeartbeats 4000000 in
set_option maxRecDepth 100000 in
theorem G_decode {l : Launch} {G : GT} {mi : Nat} {sk : Nat → Nat} {L : List Nat} {cl ln : Nat → Nat} {iv : Nat → Nat → Int} {rv : Nat → Nat → Option Nat}  {a0 : Nat} (hW : WT (g0 G) sk L cl ln iv rv) (hS : SKL sk L cl) (t_a0 : ty L cl a0 16)  : Mc l G mi (Phi (g0 G) sk) PHM yX3_decode cX3_decode 4 (some .boolean) 5 [.ref a0] L cl ln iv rv 0 (fun v L2 cl2 ln2 iv2 rv2 => ∃ f : Int, v = some (.int (iI f)) ∧ XT L cl ln L2 cl2 ln2 ∧ fT [16, 10, 40] L cl iv rv iv2 rv2 ∧ WT (g0 G) sk L2 cl2 ln2 iv2 rv2 ∧ (f = 0 ∨ f = 1) ∧ (DEX L cl ln iv rv sk iv2 rv2 f)) := by
  refine Mc.mk (by decide) (Nat.le_of_ble_eq_true rfl) ?_
  intro p e s m args below meth c A C hM
  refine hv10 (Phi.le hW hS) (show ty L cl (sk 6) 6 from ⟨(hS 6 rfl).1, by rw [(hS 6 rfl).2]; rfl⟩) (show ty L cl (sk 7) 7 from ⟨(hS 7 rfl).1, by rw [(hS 7 rfl).2]; rfl⟩) (show ty L cl (sk 8) 8 from ⟨(hS 8 rfl).1, by rw [(hS 8 rfl).2]; rfl⟩) (show ty L cl (sk 9) 9 from ⟨(hS 9 rfl).1, by rw [(hS 9 rfl).2]; rfl⟩) (show ty L cl (sk 10) 10 from ⟨(hS 10 rfl).1, by rw [(hS 10 rfl).2]; rfl⟩) (show ty L cl (sk 24) 24 from ⟨(hS 24 rfl).1, by rw [(hS 24 rfl).2]; rfl⟩) (show ty L cl (sk 25) 25 from ⟨(hS 25 rfl).1, by rw [(hS 25 rfl).2]; rfl⟩) (show XT L cl ln L cl ln from XT.refl) (show fT [16, 10, 40] L cl iv rv iv rv from fT.refl) (fun hph tsk6 tsk7 tsk8 tsk9 tsk10 tsk24 tsk25 hX0 hF0 => ?_)
  refine c_aload_n (j := 0) (x := a0) C dX3_decode_0 rfl ?_
  obtain ⟨rb1, rq1, trb1⟩ := hW.ref t_a0 6 rfl rfl rfl
  have erb1 := hW.sk trb1 (by decide) rfl
  subst erb1
  refine c_getr (k := 6) C ck_4 dX3_decode_1 w1_200 (by decide) t_a0 rfl rfl (by decide) rfl rq1 ?_
  refine c_st (st2 := [.ref (sk 10)]) rfl ?_
  refine d_callV (As := []) (rest := []) C hM (C_clear_10 (a0 := (sk 10)) hW hS tsk10  ) dX3_decode_4 kV_X3_77 rfl tsk10 rfl rfl (by decide) ck_2 rfl (Nat.le_of_ble_eq_true rfl) ⟨(Nat.le_of_ble_eq_true rfl), (Nat.le_of_ble_eq_true rfl)⟩ hph hph (show 0 + 0 = 0 from rfl) (by decide) (fun rh1 Lh1 clh1 lnh1 ivh1 rvh1 h1 => ?_)
  obtain ⟨rfl, rfl, rfl, rfl, rfl, fl1, W1, exf1⟩ := h1
  have F1 := hF0.call hX0 fl1 rfl
  refine c_st (st2 := []) rfl ?_
  refine hv2 (show 0 ≤ ivh1 (sk 10) 2 ∧ ivh1 (sk 10) 2 ≤ 4001 from W1.int tsk10 2) (show ivh1 (sk 10) 2 = 0 from exf1) (fun ri1 gf1 => ?_)
  refine c_iconst C dX3_decode_7 ?_
  refine c_istore_n (lv2 := [(1, .int (iI 1)), (0, .ref a0)]) C dX3_decode_8 (by decide) rfl ?_
  refine c_iconst C dX3_decode_9 ?_
  refine c_istore_n (lv2 := [(2, .int (iI 0)), (1, .int (iI 1)), (0, .ref a0)]) C dX3_decode_10 (by decide) rfl ?_
  have Lp1 : ∀ (nn : Nat) (fs aq : Int) (Lb1 : List Nat) (clb1 lnb1 : Nat → Nat) (ivb1 : Nat → Nat → Int) (rvb1 : Nat → Nat → Option Nat) , 40211 - aq < (nn : Int) → XT L cl ln Lb1 clb1 lnb1 → WT (g0 G) sk Lb1 clb1 lnb1 ivb1 rvb1 → fT [16, 10, 40] L cl iv rv ivb1 rvb1 → (fs = 0 ∨ fs = 1) → (0 ≤ aq ∧ aq ≤ 40210) → (DCI L cl ln iv rv sk ivb1 rvb1 (1 - fs) aq) → cw p l e 5 ((PHM) + 0 - ((Phi (g0 G) sk) ln rv)) s m args below meth c G A 4 (MQ below (Qu G A (Qp G (Phi (g0 G) sk) ((Phi (g0 G) sk) ln rv) 0 (fun v L2 cl2 ln2 iv2 rv2 => ∃ f : Int, v = some (.int (iI f)) ∧ XT L cl ln L2 cl2 ln2 ∧ fT [16, 10, 40] L cl iv rv iv2 rv2 ∧ WT (g0 G) sk L2 cl2 ln2 iv2 rv2 ∧ (f = 0 ∨ f = 1) ∧ (DEX L cl ln iv rv sk iv2 rv2 f)))) args s (((PHM) + 0 - ((Phi (g0 G) sk) ln rv)) / 16) ((PHM) + 0 - ((Phi (g0 G) sk) ln rv)) A) (Phi (g0 G) sk) ((Phi (g0 G) sk) ln rv) Lb1 clb1 lnb1 ivb1 rvb1 0 11 [(1, .int (iI fs)), (2, .int (iI aq)), (0, .ref a0)] [] := by
    intro nn
    induction nn with
    | zero =>
      intro  fs aq Lb1 clb1 lnb1 ivb1 rvb1 hm Xb1 Wb1 Fb1  hfs haq hI
      have skb1 := Xb1.skl hS
      exact absurd hm (by omega)
    | succ nn ih1 =>
      intro  fs aq Lb1 clb1 lnb1 ivb1 rvb1 hm Xb1 Wb1 Fb1  hfs haq hI
      have skb1 := Xb1.skl hS
      refine c_iload_n (j := 1) C dX3_decode_11 rfl ?_
      refine c_aload_n (j := 2) (x := a0) C dX3_decode_12 rfl ?_
      have ty1 := Xb1.ty t_a0
      obtain ⟨rb2, rq2, trb2⟩ := Wb1.ref ty1 4 rfl rfl rfl
      have erb2 := Wb1.sk trb2 (by decide) rfl
      subst erb2
      refine c_getr (k := 4) C ck_4 dX3_decode_13 w1_198 (by decide) ty1 rfl rfl (by decide) rfl rq2 ?_
      refine c_st (st2 := [.ref (sk 8), .int (iI aq)]) rfl ?_
      refine hv2 (Xb1.ty tsk8) (show ivb1 (sk 8) 2 = iv (sk 8) 2 from Fb1.i tsk8 rfl 2) (fun ty2 ie2 => ?_)
      have ri2 : 0 ≤ ivb1 (sk 8) 2 ∧ ivb1 (sk 8) 2 ≤ 40200 := Wb1.int ty2 2
      refine c_get (k := 2) C ck_2 dX3_decode_16 w1_49 (by decide) ty2 rfl rfl (by decide) rfl ?_
      refine c_icmp_ge (tgt := 72) C (r32_c (lo := 0) (hi := 40210) haq.1 haq.2 (by decide) (by decide)) (r32_c (lo := 0) (hi := 40200) ri2.1 ri2.2 (by decide) (by decide)) dX3_decode_19 (by decide) (fun c1 => ?_) (fun c1 => ?_)
      · refine c_iconst C dX3_decode_72 ?_
        have pl1 := Phi.le Wb1 skb1
        exact c_zret C dX3_decode_73 rfl (Or.inr rfl) (by decide) (rom0 hph pl1 (by decide)) ⟨1, rfl, Xb1, Fb1, Wb1, (Or.inr rfl), (hI.fin (fun a l0 l1 R hc => hc.fr hW hS Xb1 Fb1 (QT.of hW hS Xb1 Fb1 rfl rfl rfl rfl rfl) rfl rfl rfl rfl rfl rfl rfl rfl rfl rfl) (by omega) (by omega))⟩
      · refine c_aload_n (j := 2) (x := a0) C dX3_decode_22 rfl ?_
        refine c_getr (k := 4) C ck_4 dX3_decode_23 w1_198 (by decide) ty1 rfl rfl (by decide) rfl rq2 ?_
        refine c_st (st2 := [.ref (sk 8)]) rfl ?_
        refine c_iload_n (j := 1) C dX3_decode_26 rfl ?_
        have pl2 := Phi.le Wb1 skb1
        refine d_callV (As := [.int (iI aq)]) (rest := []) C hM (C_at_8 (a0 := (sk 8)) (i := aq) Wb1 skb1 ty2 (by omega) ) dX3_decode_27 kV_X3_119 rfl ty2 rfl rfl (by decide) ck_2 rfl (Nat.le_of_ble_eq_true rfl) ⟨(Nat.le_of_ble_eq_true rfl), (Nat.le_of_ble_eq_true rfl)⟩ hph pl2 (show 0 + 0 = 0 from rfl) (by decide) (fun rh2 Lh2 clh2 lnh2 ivh2 rvh2 h2 => ?_)
        obtain ⟨f2, rfl, rfl, rfl, rfl, rfl, rfl, rgf2, exf2⟩ := h2
        refine c_st (st2 := [.int (iI f2)]) rfl ?_
        have gf2 : ((0 ≤ aq ∧ aq < ivb1 (sk 8) 2) ∨ f2 = 0) ∧ ∀ ss, CT ivb1 rvb1 (sk 8) ss → 0 ≤ aq → aq < ivb1 (sk 8) 2 → f2 = ss aq.toNat := exf2
        refine c_if_ne (tgt := 39) C ⟨by omega, by omega⟩ dX3_decode_30 (by decide) (fun c2 => ?_) (fun c2 => ?_)
        · refine c_iload_n (j := 0) C dX3_decode_39 rfl ?_
          refine c_if_ne (tgt := 52) C (r32_01 hfs) dX3_decode_40 (by decide) (fun c3 => ?_) (fun c3 => ?_)
          · replace hfs := (hfs.resolve_left c3)
            refine c_iconst C dX3_decode_52 ?_
            refine c_istore_n (lv2 := [(1, .int (iI 0)), (2, .int (iI aq)), (0, .ref a0)]) C dX3_decode_53 (by decide) rfl ?_
            have hW9 : DCW L cl ln iv rv sk ivb1 rvb1 aq := hI.word0 (fun a l0 l1 R hc => hc.fr hW hS Xb1 Fb1 (QT.of hW hS Xb1 Fb1 rfl rfl rfl rfl rfl) rfl rfl rfl rfl rfl rfl rfl rfl rfl rfl) (fun R hR => gf2.2 R hR (by omega) (by omega)) (by omega) (by omega)
            refine c_aload_n (j := 2) (x := a0) C dX3_decode_54 rfl ?_
            refine c_iload_n (j := 1) C dX3_decode_55 rfl ?_
            refine d_callV (As := [.int (iI aq)]) (rest := []) C hM (G_decodeWord (a0 := a0) (i := aq) Wb1 skb1 ty1 (by omega) (by show 0 ≤ aq ∧ aq ≤ 40200; omega)) dX3_decode_56 kV_X3_123 rfl ty1 rfl rfl (by decide) ck_4 rfl (Nat.le_of_ble_eq_true rfl) ⟨(Nat.le_of_ble_eq_true rfl), (Nat.le_of_ble_eq_true rfl)⟩ hph pl2 (show 0 + 0 = 0 from rfl) (by decide) (fun rh3 Lh3 clh3 lnh3 ivh3 rvh3 h3 => ?_)
            obtain ⟨f3, rfl, xl3, fl3, W3, rgf3, exf3⟩ := h3
            refine hv9 (Fb1.call Xb1 fl3 rfl) (Xb1.ty tsk6) (Xb1.ty tsk7) (Xb1.ty tsk9) (Xb1.ty tsk10) (Xb1.ty tsk24) (Xb1.ty tsk25) (Xb1.trans xl3) (xl3.skl skb1) (fun F2 ty3 ty4 ty5 ty6 ty7 ty8 X1 sk1 => ?_)
            refine c_st (st2 := [.int (iI f3)]) rfl ?_
            have gf3 : f3 ≤ 40210 ∧ DWX Lb1 clb1 lnb1 ivb1 rvb1 sk ivh3 rvh3 aq f3 := exf3
            have hR9 := hW9.run (iv3 := ivh3) (rv3 := rvh3) (fun a l0 l1 R hc => hc.fr hW hS Xb1 Fb1 (QT.of hW hS Xb1 Fb1 rfl rfl rfl rfl rfl) rfl rfl rfl rfl rfl rfl rfl rfl rfl rfl) gf3.2 (by omega)
            refine c_istore_n (lv2 := [(3, .int (iI f3)), (1, .int (iI 0)), (2, .int (iI aq)), (0, .ref a0)]) C dX3_decode_59 (by decide) rfl ?_
            refine c_iload_n (j := 0) C dX3_decode_60 rfl ?_
            refine c_iload_n (j := 2) C dX3_decode_61 rfl ?_
            refine c_icmp_gt (tgt := 67) C ⟨by omega, by omega⟩ (r32_c (lo := 0) (hi := 40210) haq.1 haq.2 (by decide) (by decide)) dX3_decode_62 (by decide) (fun c4 => ?_) (fun c4 => ?_)
            · refine c_iload_n (j := 0) C dX3_decode_67 rfl ?_
              refine c_istore_n (lv2 := [(2, .int (iI f3)), (3, .int (iI f3)), (1, .int (iI 0)), (0, .ref a0)]) C dX3_decode_68 (by decide) rfl ?_
              refine c_goto (tgt := 11) C dX3_decode_69 (by decide) ?_
              refine hv3 (xl3.ty ty2) (show ivh3 (sk 8) 2 = ivb1 (sk 8) 2 from fl3.i ty2 rfl 2) (xl3.ty ty6) (fun ty9 ie3 ty10 => ?_)
              refine hv2 (show 0 ≤ ivh3 (sk 8) 2 ∧ ivh3 (sk 8) 2 ≤ 40200 from W3.int ty9 2) (show 0 ≤ ivh3 (sk 10) 2 ∧ ivh3 (sk 10) 2 ≤ 4001 from W3.int ty10 2) (fun ri3 ri4 => ?_)
              refine c_lv (lv2 := [(1, .int (iI 0)), (2, .int (iI f3)), (0, .ref a0)]) [2, 0, 3] rfl ?_
              exact ih1  0 f3 _ _ _ _ _ (by omega) X1 W3 F2  (by omega) (by omega) (by have q := hR9.2 (by omega); exact q)
            · refine c_iconst C dX3_decode_65 ?_
              refine hv3 (xl3.ty ty2) (show ivh3 (sk 8) 2 = ivb1 (sk 8) 2 from fl3.i ty2 rfl 2) (Phi.le W3 sk1) (fun ty11 ie5 pl3 => ?_)
              have ri5 : 0 ≤ ivh3 (sk 8) 2 ∧ ivh3 (sk 8) 2 ≤ 40200 := W3.int ty11 2
              exact c_zret C dX3_decode_66 rfl (Or.inl rfl) (by decide) (rom0 hph pl3 (by decide)) ⟨0, rfl, X1, F2, W3, (Or.inl rfl), (hR9.1 (by omega))⟩
          · clear hfs
            refine c_aload_n (j := 2) (x := a0) C dX3_decode_43 rfl ?_
            obtain ⟨rb3, rq3, trb3⟩ := Wb1.ref ty1 6 rfl rfl rfl
            have erb3 := Wb1.sk trb3 (by decide) rfl
            subst erb3
            refine c_getr (k := 6) C ck_4 dX3_decode_44 w1_200 (by decide) ty1 rfl rfl (by decide) rfl rq3 ?_
            refine c_st (st2 := [.ref (sk 10)]) rfl ?_
            refine c_bipush (z := 32) C dX3_decode_47 (by decide) ?_
            have ty12 := Xb1.ty tsk10
            have ri6 : 0 ≤ ivb1 (sk 10) 2 ∧ ivb1 (sk 10) 2 ≤ 4001 := Wb1.int ty12 2
            refine d_callV (As := [.int (iI 32)]) (rest := []) C hM (G_add_10 (a0 := (sk 10)) (x := 32) Wb1 skb1 ty12 ⟨by decide, by decide⟩ ) dX3_decode_49 kV_X3_91 rfl ty12 rfl rfl (by decide) ck_2 rfl (Nat.le_of_ble_eq_true rfl) ⟨(Nat.le_of_ble_eq_true rfl), (Nat.le_of_ble_eq_true rfl)⟩ hph pl2 (show 0 + 0 = 0 from rfl) (by decide) (fun rh4 Lh4 clh4 lnh4 ivh4 rvh4 h4 => ?_)
            obtain ⟨rfl, xl4, fl4, W4, exf4⟩ := h4
            refine hv8 (Fb1.call Xb1 fl4 rfl) (Xb1.ty tsk6) (Xb1.ty tsk7) (Xb1.ty tsk9) (Xb1.ty tsk24) (Xb1.ty tsk25) (Xb1.trans xl4) (xl4.skl skb1) (fun F3 ty13 ty14 ty15 ty16 ty17 X2 sk2 => ?_)
            refine c_st (st2 := []) rfl ?_
            refine hv2 (xl4.ty ty12) (show ((ivh4 (sk 10) 2 = ivb1 (sk 10) 2 ∧ ivb1 (sk 10) 2 = 4001) ∨ (ivh4 (sk 10) 2 = ivb1 (sk 10) 2 + 1 ∧ ivb1 (sk 10) 2 < 4001)) ∧ (∀ ss, CT ivb1 rvb1 (sk 10) ss → ivb1 (sk 10) 2 < 4001 → CT ivh4 rvh4 (sk 10) (va_up ss (ivb1 (sk 10) 2).toNat (32 : Int))) ∧ (ivb1 (sk 10) 2 = 4001 → ∀ ss, CT ivb1 rvb1 (sk 10) ss → CT ivh4 rvh4 (sk 10) ss) from exf4) (fun ty18 gf4 => ?_)
            have ri7 : 0 ≤ ivh4 (sk 10) 2 ∧ ivh4 (sk 10) 2 ≤ 4001 := W4.int ty18 2
            refine c_iconst C dX3_decode_52 ?_
            refine c_istore_n (lv2 := [(1, .int (iI 0)), (2, .int (iI aq)), (0, .ref a0)]) C dX3_decode_53 (by decide) rfl ?_
            have hW9 : DCW L cl ln iv rv sk ivh4 rvh4 aq := hI.word1 (fun a l0 l1 R hc => hc.fr hW hS Xb1 Fb1 (QT.of hW hS Xb1 Fb1 rfl rfl rfl rfl rfl) rfl rfl rfl rfl rfl rfl rfl rfl rfl rfl) (fun R hR => gf2.2 R hR (by omega) (by omega)) (by omega) (by omega) gf4
            refine c_aload_n (j := 2) (x := a0) C dX3_decode_54 rfl ?_
            refine c_iload_n (j := 1) C dX3_decode_55 rfl ?_
            refine hv2 (xl4.ty ty1) (Phi.le W4 sk2) (fun ty19 pl4 => ?_)
            refine d_callV (As := [.int (iI aq)]) (rest := []) C hM (G_decodeWord (a0 := a0) (i := aq) W4 sk2 ty19 (by omega) (by show 0 ≤ aq ∧ aq ≤ 40200; omega)) dX3_decode_56 kV_X3_123 rfl ty19 rfl rfl (by decide) ck_4 rfl (Nat.le_of_ble_eq_true rfl) ⟨(Nat.le_of_ble_eq_true rfl), (Nat.le_of_ble_eq_true rfl)⟩ hph pl4 (show 0 + 0 = 0 from rfl) (by decide) (fun rh5 Lh5 clh5 lnh5 ivh5 rvh5 h5 => ?_)
            obtain ⟨f5, rfl, xl5, fl5, W5, rgf5, exf5⟩ := h5
            refine hv9 (F3.call X2 fl5 rfl) (xl4.ty ty13) (xl4.ty ty14) (xl4.ty ty2) (xl4.ty ty15) (xl4.ty ty16) (xl4.ty ty17) (X2.trans xl5) (xl5.skl sk2) (fun F4 ty20 ty21 ty22 ty23 ty24 ty25 X3 sk3 => ?_)
            refine c_st (st2 := [.int (iI f5)]) rfl ?_
            have gf5 : f5 ≤ 40210 ∧ DWX Lh4 clh4 lnh4 ivh4 rvh4 sk ivh5 rvh5 aq f5 := exf5
            have hR9 := hW9.run (iv3 := ivh5) (rv3 := rvh5) (fun a l0 l1 R hc => hc.fr hW hS X2 F3 (QT.of hW hS X2 F3 rfl rfl rfl rfl rfl) rfl rfl rfl rfl rfl rfl rfl rfl rfl rfl) gf5.2 (by omega)
            refine c_istore_n (lv2 := [(3, .int (iI f5)), (1, .int (iI 0)), (2, .int (iI aq)), (0, .ref a0)]) C dX3_decode_59 (by decide) rfl ?_
            refine c_iload_n (j := 0) C dX3_decode_60 rfl ?_
            refine c_iload_n (j := 2) C dX3_decode_61 rfl ?_
            refine c_icmp_gt (tgt := 67) C ⟨by omega, by omega⟩ (r32_c (lo := 0) (hi := 40210) haq.1 haq.2 (by decide) (by decide)) dX3_decode_62 (by decide) (fun c5 => ?_) (fun c5 => ?_)
            · refine c_iload_n (j := 0) C dX3_decode_67 rfl ?_
              refine c_istore_n (lv2 := [(2, .int (iI f5)), (3, .int (iI f5)), (1, .int (iI 0)), (0, .ref a0)]) C dX3_decode_68 (by decide) rfl ?_
              refine c_goto (tgt := 11) C dX3_decode_69 (by decide) ?_
              refine hv4 (xl5.ty ty22) (show ivh5 (sk 8) 2 = ivh4 (sk 8) 2 from fl5.i ty22 rfl 2) (show ivh4 (sk 8) 2 = ivb1 (sk 8) 2 from fl4.i ty2 rfl 2) (xl5.ty ty18) (fun ty26 ie8 ie9 ty27 => ?_)
              refine hv2 (show 0 ≤ ivh5 (sk 8) 2 ∧ ivh5 (sk 8) 2 ≤ 40200 from W5.int ty26 2) (show 0 ≤ ivh5 (sk 10) 2 ∧ ivh5 (sk 10) 2 ≤ 4001 from W5.int ty27 2) (fun ri8 ri9 => ?_)
              refine c_lv (lv2 := [(1, .int (iI 0)), (2, .int (iI f5)), (0, .ref a0)]) [2, 0, 3] rfl ?_
              exact ih1  0 f5 _ _ _ _ _ (by omega) X3 W5 F4  (by omega) (by omega) (by have q := hR9.2 (by omega); exact q)
            · refine c_iconst C dX3_decode_65 ?_
              refine hv4 (xl5.ty ty22) (show ivh5 (sk 8) 2 = ivh4 (sk 8) 2 from fl5.i ty22 rfl 2) (show ivh4 (sk 8) 2 = ivb1 (sk 8) 2 from fl4.i ty2 rfl 2) (Phi.le W5 sk3) (fun ty28 ie11 ie12 pl5 => ?_)
              have ri10 : 0 ≤ ivh5 (sk 8) 2 ∧ ivh5 (sk 8) 2 ≤ 40200 := W5.int ty28 2
              exact c_zret C dX3_decode_66 rfl (Or.inl rfl) (by decide) (rom0 hph pl5 (by decide)) ⟨0, rfl, X3, F4, W5, (Or.inl rfl), (hR9.1 (by omega))⟩
        · refine c_iinc (z := aq) (j := 1) (lv2 := [(2, .int (iI (aq + 1))), (1, .int (iI fs)), (0, .ref a0)]) C dX3_decode_33 rfl (by decide) rfl ?_
          refine c_goto (tgt := 11) C dX3_decode_36 (by decide) ?_
          have ty29 := Xb1.ty tsk10
          have ri11 : 0 ≤ ivb1 (sk 10) 2 ∧ ivb1 (sk 10) 2 ≤ 4001 := Wb1.int ty29 2
          refine c_lv (lv2 := [(1, .int (iI fs)), (2, .int (iI (aq + 1))), (0, .ref a0)]) [1, 0, 2] rfl ?_
          exact ih1  fs (aq + 1) _ _ _ _ _ (by omega) Xb1 Wb1 Fb1  (by omega) (by omega) (hI.blank (fun a l0 l1 R hc => hc.fr hW hS Xb1 Fb1 (QT.of hW hS Xb1 Fb1 rfl rfl rfl rfl rfl) rfl rfl rfl rfl rfl rfl rfl rfl rfl rfl) (fun R hR => gf2.2 R hR (by omega) (by omega)) (by omega))
  refine hv2 (show 0 ≤ ivh1 (sk 8) 2 ∧ ivh1 (sk 8) 2 ≤ 40200 from W1.int tsk8 2) (show ivh1 (sk 8) 2 = iv (sk 8) 2 from fl1.i tsk8 rfl 2) (fun ri12 ie14 => ?_)
  refine c_lv (lv2 := [(1, .int (iI 1)), (2, .int (iI 0)), (0, .ref a0)]) [1, 0, 2] rfl ?_
  exact Lp1 40213 1 0 _ _ _ _ _ (by omega) hX0 W1 F1  (by omega) (by omega) (DCI.init (by omega) (by omega))
end
