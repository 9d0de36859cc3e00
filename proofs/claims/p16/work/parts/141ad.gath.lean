set_option maxHeartbeats 4000000 in
set_option maxRecDepth 100000 in
theorem G_isUpright {l : Launch} {G : GT} {mi : Nat} {sk : Nat → Nat} {L : List Nat} {cl ln : Nat → Nat} {iv : Nat → Nat → Int} {rv : Nat → Nat → Option Nat}  {r : Option Nat} (hW : WT (g0 G) sk L cl ln iv rv) (hS : SKL sk L cl) (t_r : ∀ b, r = some b → ty L cl b 100)  : Mc l G mi (Phi (g0 G) sk) PHM yX9_isUpright cX9_isUpright 2 (some .boolean) 0 [va_rf r] L cl ln iv rv 0 (fun v L2 cl2 ln2 iv2 rv2 => ∃ f : Int, v = some (.int (iI f)) ∧ L = L2 ∧ cl = cl2 ∧ ln = ln2 ∧ iv = iv2 ∧ rv = rv2 ∧ (f = 0 ∨ f = 1) ∧ (UPX sk ln iv rv r f)) := by
  refine Mc.mk (by decide) (by cases r <;> exact Nat.le_of_ble_eq_true rfl) ?_
  intro p e s m args below meth c A C hM
  have hph := Phi.le hW hS
  refine c_lveq (show lv_args 0 [va_rf r] = [(0, (va_rf r))] from by cases r <;> rfl) ?_
  refine hv2 (show XT L cl ln L cl ln from XT.refl) (show fT [] L cl iv rv iv rv from fT.refl) (fun hX0 hF0 => ?_)
  refine c_aloadr_n (j := 0) (r := r) C dX9_isUpright_0 rfl ?_
  refine c_astorer_n (r := r) (lv2 := [(1, (va_rf r)), (0, (va_rf r))]) C dX9_isUpright_1 (by decide) (by cases r <;> rfl) ?_
  have Lp1 : ∀ (nn : Nat) (tq : Option Nat) (rk : Int) , rk - 99 < (nn : Int) → (∀ b, tq = some b → ty L cl b 100) → (99 ≤ rk) → (∀ b, tq = some b → ((cl b : Nat) : Int) ≤ rk) → (UPI sk ln iv rv r tq) → cw p l e 0 ((PHM) + 0 - ((Phi (g0 G) sk) ln rv)) s m args below meth c G A 2 (MQ below (Qu G A (Qp G (Phi (g0 G) sk) ((Phi (g0 G) sk) ln rv) 0 (fun v L2 cl2 ln2 iv2 rv2 => ∃ f : Int, v = some (.int (iI f)) ∧ L = L2 ∧ cl = cl2 ∧ ln = ln2 ∧ iv = iv2 ∧ rv = rv2 ∧ (f = 0 ∨ f = 1) ∧ (UPX sk ln iv rv r f)))) args s (((PHM) + 0 - ((Phi (g0 G) sk) ln rv)) / 16) ((PHM) + 0 - ((Phi (g0 G) sk) ln rv)) A) (Phi (g0 G) sk) ((Phi (g0 G) sk) ln rv) L cl ln iv rv 0 2 [(1, (va_rf tq)), (0, (va_rf r))] [] := by
    intro nn
    induction nn with
    | zero =>
      intro tq rk  hm  ty_tq h99 hrk hup
      exact absurd hm (by omega)
    | succ nn ih1 =>
      intro tq rk  hm  ty_tq h99 hrk hup
      refine c_aloadr_n (j := 0) (r := tq) C dX9_isUpright_2 rfl ?_
      refine c_ifnull (r := tq) (tgt := 23) C dX9_isUpright_3 (by decide) (fun oq1 => ?_) (fun ob1 oq1 => ?_)
      · subst oq1
        refine c_lv (lv2 := [(1, .null), (0, (va_rf r))]) [0, 1] rfl ?_
        refine c_st (st2 := []) rfl ?_
        refine c_iconst C dX9_isUpright_23 ?_
        exact c_zret C dX9_isUpright_24 rfl (Or.inr rfl) (by decide) (rom0 hph hph (by decide)) ⟨1, rfl, rfl, rfl, rfl, rfl, rfl, (Or.inr rfl), hup.yes⟩
      · subst oq1
        refine hv2 (ty_tq ob1 rfl) (hrk ob1 rfl) (fun tob1 hkob1 => ?_)
        have tgob1 := bt_100 tob1.2
        refine c_lv (lv2 := [(1, .ref ob1), (0, (va_rf r))]) [0, 1] rfl ?_
        refine c_st (st2 := []) rfl ?_
        refine c_aload_n (j := 0) (x := ob1) C dX9_isUpright_6 rfl ?_
        have ri1 : 0 ≤ iv ob1 7 ∧ iv ob1 7 ≤ 1 := hW.int tob1 7
        refine c_get (k := 7) C ck_10 dX9_isUpright_7 w2_197 (by decide) tob1 rfl rfl (by decide) rfl ?_
        refine c_if_eq (tgt := 15) C (r32_c (lo := 0) (hi := 1) ri1.1 ri1.2 (by decide) (by decide)) dX9_isUpright_10 (by decide) (fun c1 => ?_) (fun c1 => ?_)
        · refine c_aload_n (j := 0) (x := ob1) C dX9_isUpright_15 rfl ?_
          rcases hW.opt tob1 2 rfl rfl with ⟨nq1, _⟩ | ⟨nb1, nq1, tnb1⟩
          · refine c_getr (k := 2) C ck_10 dX9_isUpright_16 w2_180 (by decide) tob1 rfl rfl (by decide) rfl nq1 ?_
            refine c_st (st2 := [.null]) rfl ?_
            refine c_astorer_n (r := none) (lv2 := [(1, .null), (0, (va_rf r))]) C dX9_isUpright_19 (by decide) (by cases r <;> rfl) ?_
            refine c_goto (tgt := 2) C dX9_isUpright_20 (by decide) ?_
            refine c_lv (lv2 := [(1, .null), (0, (va_rf r))]) [0, 1] rfl ?_
            exact ih1  none (rk - 1)  (by omega)  (fun _ q => by cases q) (by omega) (fun _ q => by cases q) (hup.next (by omega) nq1)
          · have rknb1 := hW.rank tob1 (k := 2) (by decide) nq1
            refine c_getr (k := 2) C ck_10 dX9_isUpright_16 w2_180 (by decide) tob1 rfl rfl (by decide) rfl nq1 ?_
            refine c_st (st2 := [.ref nb1]) rfl ?_
            refine c_astore_n (lv2 := [(1, .ref nb1), (0, (va_rf r))]) C dX9_isUpright_19 (by decide) (by cases r <;> rfl) ?_
            refine c_goto (tgt := 2) C dX9_isUpright_20 (by decide) ?_
            have trnb1 := bt_100 tnb1.2
            refine c_lv (lv2 := [(1, .ref nb1), (0, (va_rf r))]) [0, 1] rfl ?_
            exact ih1  (some nb1) (rk - 1)  (by omega)  (fun _ q => by cases q; exact tnb1) (by omega) (fun _ q => by cases q; omega) (hup.next (by omega) nq1)
        · refine c_iconst C dX9_isUpright_13 ?_
          exact c_zret C dX9_isUpright_14 rfl (Or.inl rfl) (by decide) (rom0 hph hph (by decide)) ⟨0, rfl, rfl, rfl, rfl, rfl, rfl, (Or.inl rfl), (hup.no (by omega))⟩
  refine c_lv (lv2 := [(1, (va_rf r)), (0, (va_rf r))]) [0, 1] rfl ?_
  exact Lp1 31 r 129  (by omega)  t_r (by omega) (fun b q => by have q2 := bt_100 (t_r b q).2; omega) UPI.refl
set_option maxHeartbeats 4000000 in
set_option maxRecDepth 100000 in
theorem G_tisWhole {l : Launch} {G : GT} {mi : Nat} {sk : Nat → Nat} {L : List Nat} {cl ln : Nat → Nat} {iv : Nat → Nat → Int} {rv : Nat → Nat → Option Nat}  {a0 : Nat} (hW : WT (g0 G) sk L cl ln iv rv) (hS : SKL sk L cl) (t_a0 : ty L cl a0 100)  : Mc l G mi (Phi (g0 G) sk) PHM yX9_isWhole cX9_isWhole 1 (some .boolean) 1 [.ref a0] L cl ln iv rv 0 (fun v L2 cl2 ln2 iv2 rv2 => ∃ f : Int, v = some (.int (iI f)) ∧ L = L2 ∧ cl = cl2 ∧ ln = ln2 ∧ iv = iv2 ∧ rv = rv2 ∧ (f = 0 ∨ f = 1) ∧ (TWX sk ln iv rv a0 f)) := by
  refine Mc.mk (by decide) (Nat.le_of_ble_eq_true rfl) ?_
  intro p e s m args below meth c A C hM
  refine hv3 (Phi.le hW hS) (show XT L cl ln L cl ln from XT.refl) (show fT [] L cl iv rv iv rv from fT.refl) (fun hph hX0 hF0 => ?_)
  refine c_aload_n (j := 0) (x := a0) C dX9_isWhole_0 rfl ?_
  refine d_callS (As := [.ref a0]) (rest := []) C hM (G_isUpright (r := (some a0)) hW hS (fun _ q => by cases q; exact t_a0)  ) dX9_isWhole_1 kS_X9_76 rfl rfl (Nat.le_of_ble_eq_true rfl) ⟨(Nat.le_of_ble_eq_true rfl), (Nat.le_of_ble_eq_true rfl)⟩ hph hph (show 0 + 0 = 0 from rfl) (by decide) (fun rh1 Lh1 clh1 lnh1 ivh1 rvh1 h1 => ?_)
  obtain ⟨f1, rfl, rfl, rfl, rfl, rfl, rfl, rgf1, exf1⟩ := h1
  refine c_st (st2 := [.int (iI f1)]) rfl ?_
  have gf1 : UPX sk ln iv rv (some a0) f1 := exf1
  refine c_if_eq (tgt := 21) C ⟨by omega, by omega⟩ dX9_isWhole_4 (by decide) (fun c1 => ?_) (fun c1 => ?_)
  · refine c_iconst C dX9_isWhole_21 ?_
    exact c_zret C dX9_isWhole_22 rfl (Or.inl rfl) (by decide) (rom0 hph hph (by decide)) ⟨0, rfl, rfl, rfl, rfl, rfl, rfl, (Or.inl rfl), (TWX.no1 gf1 (by omega))⟩
  · refine c_aload_n (j := 0) (x := a0) C dX9_isWhole_7 rfl ?_
    rcases hW.opt t_a0 3 rfl rfl with ⟨nq1, _⟩ | ⟨nb1, nq1, tnb1⟩
    · refine c_getr (k := 3) C ck_10 dX9_isWhole_8 w2_183 (by decide) t_a0 rfl rfl (by decide) rfl nq1 ?_
      refine c_st (st2 := [.null]) rfl ?_
      refine d_callS (As := [.null]) (rest := []) C hM (G_isUpright (r := none) hW hS (fun _ q => by cases q)  ) dX9_isWhole_11 kS_X9_76 rfl rfl (Nat.le_of_ble_eq_true rfl) ⟨(Nat.le_of_ble_eq_true rfl), (Nat.le_of_ble_eq_true rfl)⟩ hph hph (show 0 + 0 = 0 from rfl) (by decide) (fun rh2 Lh2 clh2 lnh2 ivh2 rvh2 h2 => ?_)
      obtain ⟨f2, rfl, rfl, rfl, rfl, rfl, rfl, rgf2, exf2⟩ := h2
      refine c_st (st2 := [.int (iI f2)]) rfl ?_
      have gf2 : UPX sk ln iv rv none f2 := exf2
      refine c_if_eq (tgt := 21) C ⟨by omega, by omega⟩ dX9_isWhole_14 (by decide) (fun c2 => ?_) (fun c2 => ?_)
      · refine c_iconst C dX9_isWhole_21 ?_
        exact c_zret C dX9_isWhole_22 rfl (Or.inl rfl) (by decide) (rom0 hph hph (by decide)) ⟨0, rfl, rfl, rfl, rfl, rfl, rfl, (Or.inl rfl), (TWX.no2 gf2 nq1 (by omega))⟩
      · refine c_iconst C dX9_isWhole_17 ?_
        refine c_goto (tgt := 22) C dX9_isWhole_18 (by decide) ?_
        exact c_zret C dX9_isWhole_22 rfl (Or.inr rfl) (by decide) (rom0 hph hph (by decide)) ⟨1, rfl, rfl, rfl, rfl, rfl, rfl, (Or.inr rfl), (TWX.yes gf1 gf2 nq1 (by omega) (by omega))⟩
    · have rknb1 := hW.rank t_a0 (k := 3) (by decide) nq1
      refine c_getr (k := 3) C ck_10 dX9_isWhole_8 w2_183 (by decide) t_a0 rfl rfl (by decide) rfl nq1 ?_
      refine c_st (st2 := [.ref nb1]) rfl ?_
      refine d_callS (As := [.ref nb1]) (rest := []) C hM (G_isUpright (r := (some nb1)) hW hS (fun _ q => by cases q; exact tnb1)  ) dX9_isWhole_11 kS_X9_76 rfl rfl (Nat.le_of_ble_eq_true rfl) ⟨(Nat.le_of_ble_eq_true rfl), (Nat.le_of_ble_eq_true rfl)⟩ hph hph (show 0 + 0 = 0 from rfl) (by decide) (fun rh3 Lh3 clh3 lnh3 ivh3 rvh3 h3 => ?_)
      obtain ⟨f3, rfl, rfl, rfl, rfl, rfl, rfl, rgf3, exf3⟩ := h3
      refine c_st (st2 := [.int (iI f3)]) rfl ?_
      have gf3 : UPX sk ln iv rv (some nb1) f3 := exf3
      refine c_if_eq (tgt := 21) C ⟨by omega, by omega⟩ dX9_isWhole_14 (by decide) (fun c3 => ?_) (fun c3 => ?_)
      · refine c_iconst C dX9_isWhole_21 ?_
        exact c_zret C dX9_isWhole_22 rfl (Or.inl rfl) (by decide) (rom0 hph hph (by decide)) ⟨0, rfl, rfl, rfl, rfl, rfl, rfl, (Or.inl rfl), (TWX.no2 gf3 nq1 (by omega))⟩
      · refine c_iconst C dX9_isWhole_17 ?_
        refine c_goto (tgt := 22) C dX9_isWhole_18 (by decide) ?_
        exact c_zret C dX9_isWhole_22 rfl (Or.inr rfl) (by decide) (rom0 hph hph (by decide)) ⟨1, rfl, rfl, rfl, rfl, rfl, rfl, (Or.inr rfl), (TWX.yes gf1 gf3 nq1 (by omega) (by omega))⟩
set_option maxHeartbeats 4000000 in
set_option maxRecDepth 100000 in
theorem G_whole {l : Launch} {G : GT} {mi : Nat} {sk : Nat → Nat} {L : List Nat} {cl ln : Nat → Nat} {iv : Nat → Nat → Int} {rv : Nat → Nat → Option Nat}  {a0 : Nat} {i : Int} (hW : WT (g0 G) sk L cl ln iv rv) (hS : SKL sk L cl) (t_a0 : ty L cl a0 13) (h_i : -2147483648 ≤ i ∧ i ≤ 2147483647) (hmr : MRK sk cl iv rv) : Mc l G mi (Phi (g0 G) sk) PHM yX10_whole cX10_whole 3 (some (.object "DotPress$Table")) 4 [.ref a0, .int (iI i)] L cl ln iv rv 0 (fun v L2 cl2 ln2 iv2 rv2 => ∃ f : Option Nat, v = some ((va_rf f)) ∧ L = L2 ∧ cl = cl2 ∧ ln = ln2 ∧ iv = iv2 ∧ rv = rv2 ∧ (∀ b, f = some b → ty L2 cl2 b 100) ∧ (WOX sk ln iv rv i f)) := by
  refine Mc.mk (by decide) (Nat.le_of_ble_eq_true rfl) ?_
  intro p e s m args below meth c A C hM
  refine hv5 (Phi.le hW hS) (show ty L cl (sk 22) 22 from ⟨(hS 22 rfl).1, by rw [(hS 22 rfl).2]; rfl⟩) (show ty L cl (sk 23) 23 from ⟨(hS 23 rfl).1, by rw [(hS 23 rfl).2]; rfl⟩) (show XT L cl ln L cl ln from XT.refl) (show fT [] L cl iv rv iv rv from fT.refl) (fun hph tsk22 tsk23 hX0 hF0 => ?_)
  refine c_aload_n (j := 0) (x := a0) C dX10_whole_0 rfl ?_
  refine c_iload_n (j := 1) C dX10_whole_1 rfl ?_
  have ri1 : 0 ≤ iv (sk 22) 2 ∧ iv (sk 22) 2 ≤ 30 := hW.int tsk22 2
  refine d_callV (As := [.int (iI i)]) (rest := []) C hM (C_alive (a0 := a0) (i := i) hW hS t_a0 (by omega) hmr) dX10_whole_2 kV_X10_35 rfl t_a0 rfl rfl (by decide) ck_11 rfl (Nat.le_of_ble_eq_true rfl) ⟨(Nat.le_of_ble_eq_true rfl), (Nat.le_of_ble_eq_true rfl)⟩ hph hph (show 0 + 0 = 0 from rfl) (by decide) (fun rh1 Lh1 clh1 lnh1 ivh1 rvh1 h1 => ?_)
  obtain ⟨f1, rfl, rfl, rfl, rfl, rfl, rfl, rgf1, exf1⟩ := h1
  refine c_st (st2 := [(va_rf f1)]) rfl ?_
  have gf1 : (∀ b, f1 = some b → ((cl b : Nat) : Int) < 100 + iv (sk 22) 2 ∧ ALV sk iv rv i b) ∧ (f1 = none → ∀ b, ¬ ALV sk iv rv i b) := exf1
  refine c_astorer_n (r := f1) (lv2 := [(2, (va_rf f1)), (0, .ref a0), (1, .int (iI i))]) C dX10_whole_5 (by decide) rfl ?_
  refine c_aloadr_n (j := 0) (r := f1) C dX10_whole_6 rfl ?_
  refine c_ifnull (r := f1) (tgt := 21) C dX10_whole_7 (by decide) (fun oq1 => ?_) (fun ob1 oq1 => ?_)
  · subst oq1
    refine c_lv (lv2 := [(2, .null), (0, .ref a0), (1, .int (iI i))]) [0, 1, 2] rfl ?_
    refine c_st (st2 := []) rfl ?_
    refine c_null C dX10_whole_21 ?_
    exact c_aret (x := none) C dX10_whole_22 rfl (Or.inl ⟨_, rfl⟩) (by decide) (rom0 hph hph (by decide)) ⟨none, rfl, rfl, rfl, rfl, rfl, rfl, (fun _ q => by cases q), (WOX.n1 (gf1.2 rfl))⟩
  · subst oq1
    refine hv2 (rgf1 ob1 rfl) (gf1.1 ob1 rfl) (fun tob1 akob1 => ?_)
    refine c_lv (lv2 := [(2, .ref ob1), (0, .ref a0), (1, .int (iI i))]) [0, 1, 2] rfl ?_
    refine c_st (st2 := []) rfl ?_
    refine c_aload_n (j := 0) (x := ob1) C dX10_whole_10 rfl ?_
    refine d_callV (As := []) (rest := []) C hM (G_tisWhole (a0 := ob1) hW hS tob1  ) dX10_whole_11 kV_X10_39 rfl tob1 rfl rfl (by decide) ck_10 rfl (Nat.le_of_ble_eq_true rfl) ⟨(Nat.le_of_ble_eq_true rfl), (Nat.le_of_ble_eq_true rfl)⟩ hph hph (show 0 + 0 = 0 from rfl) (by decide) (fun rh2 Lh2 clh2 lnh2 ivh2 rvh2 h2 => ?_)
    obtain ⟨f2, rfl, rfl, rfl, rfl, rfl, rfl, rgf2, exf2⟩ := h2
    refine c_st (st2 := [.int (iI f2)]) rfl ?_
    have gf2 : TWX sk ln iv rv ob1 f2 := exf2
    refine c_if_eq (tgt := 21) C ⟨by omega, by omega⟩ dX10_whole_14 (by decide) (fun c1 => ?_) (fun c1 => ?_)
    · refine c_null C dX10_whole_21 ?_
      exact c_aret (x := none) C dX10_whole_22 rfl (Or.inl ⟨_, rfl⟩) (by decide) (rom0 hph hph (by decide)) ⟨none, rfl, rfl, rfl, rfl, rfl, rfl, (fun _ q => by cases q), (WOX.n2 akob1.2 gf2 (by omega))⟩
    · refine c_aload_n (j := 0) (x := ob1) C dX10_whole_17 rfl ?_
      refine c_goto (tgt := 22) C dX10_whole_18 (by decide) ?_
      exact c_aret (x := some ob1) C dX10_whole_22 rfl (Or.inl ⟨_, rfl⟩) (by decide) (rom0 hph hph (by decide)) ⟨(some ob1), rfl, rfl, rfl, rfl, rfl, rfl, (fun _ q => by cases q; exact tob1), (WOX.ys akob1.2 gf2 (by omega))⟩
