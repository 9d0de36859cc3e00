set_option maxHeartbeats 4000000 in
set_option maxRecDepth 100000 in
theorem G_isOverShort {l : Launch} {G : GT} {mi : Nat} {sk : Nat → Nat} {L : List Nat} {cl ln : Nat → Nat} {iv : Nat → Nat → Int} {rv : Nat → Nat → Option Nat}  {r : Option Nat} (hW : WT (g0 G) sk L cl ln iv rv) (hS : SKL sk L cl) (t_r : ∀ b, r = some b → ty L cl b 100)  : Mc l G mi (Phi (g0 G) sk) PHM yX9_isOverShort cX9_isOverShort 2 (some .boolean) 0 [va_rf r] L cl ln iv rv 0 (fun v L2 cl2 ln2 iv2 rv2 => ∃ f : Int, v = some (.int (iI f)) ∧ L = L2 ∧ cl = cl2 ∧ ln = ln2 ∧ iv = iv2 ∧ rv = rv2 ∧ (f = 0 ∨ f = 1) ∧ (OSX sk ln iv rv r f)) := by
  refine Mc.mk (by decide) (by cases r <;> exact Nat.le_of_ble_eq_true rfl) ?_
  intro p e s m args below meth c A C hM
  have hph := Phi.le hW hS
  refine c_lveq (show lv_args 0 [va_rf r] = [(0, (va_rf r))] from by cases r <;> rfl) ?_
  have hX0 : XT L cl ln L cl ln := XT.refl
  have hF0 : fT [] L cl iv rv iv rv := fT.refl
  refine c_aloadr_n (j := 0) (r := r) C dX9_isOverShort_0 rfl ?_
  refine c_astorer_n (r := r) (lv2 := [(1, (va_rf r)), (0, (va_rf r))]) C dX9_isOverShort_1 (by decide) (by cases r <;> rfl) ?_
  have Lp1 : ∀ (nn : Nat) (tq : Option Nat) (rk : Int) , rk - 99 < (nn : Int) → (∀ b, tq = some b → ty L cl b 100) → (99 ≤ rk) → (∀ b, tq = some b → ((cl b : Nat) : Int) ≤ rk) → (OSI sk ln iv rv r tq) → cw p l e 0 ((PHM) + 0 - ((Phi (g0 G) sk) ln rv)) s m args below meth c G A 2 (MQ below (Qu G A (Qp G (Phi (g0 G) sk) ((Phi (g0 G) sk) ln rv) 0 (fun v L2 cl2 ln2 iv2 rv2 => ∃ f : Int, v = some (.int (iI f)) ∧ L = L2 ∧ cl = cl2 ∧ ln = ln2 ∧ iv = iv2 ∧ rv = rv2 ∧ (f = 0 ∨ f = 1) ∧ (OSX sk ln iv rv r f)))) args s (((PHM) + 0 - ((Phi (g0 G) sk) ln rv)) / 16) ((PHM) + 0 - ((Phi (g0 G) sk) ln rv)) A) (Phi (g0 G) sk) ((Phi (g0 G) sk) ln rv) L cl ln iv rv 0 2 [(1, (va_rf tq)), (0, (va_rf r))] [] := by
    intro nn
    induction nn with
    | zero =>
      intro tq rk  hm  ty_tq h99 hrk hos
      exact absurd hm (by omega)
    | succ nn ih1 =>
      intro tq rk  hm  ty_tq h99 hrk hos
      refine c_aloadr_n (j := 0) (r := tq) C dX9_isOverShort_2 rfl ?_
      refine c_ifnull (r := tq) (tgt := 24) C dX9_isOverShort_3 (by decide) (fun oq1 => ?_) (fun ob1 oq1 => ?_)
      · subst oq1
        refine c_lv (lv2 := [(1, .null), (0, (va_rf r))]) [0, 1] rfl ?_
        refine c_st (st2 := []) rfl ?_
        refine c_iconst C dX9_isOverShort_24 ?_
        exact c_zret C dX9_isOverShort_25 rfl (Or.inl rfl) (by decide) (rom0 hph hph (by decide)) ⟨0, rfl, rfl, rfl, rfl, rfl, rfl, (Or.inl rfl), hos.no⟩
      · subst oq1
        have tob1 := ty_tq ob1 rfl
        have hkob1 := hrk ob1 rfl
        have tgob1 := bt_100 tob1.2
        refine c_lv (lv2 := [(1, .ref ob1), (0, (va_rf r))]) [0, 1] rfl ?_
        refine c_st (st2 := []) rfl ?_
        refine c_aload_n (j := 0) (x := ob1) C dX9_isOverShort_6 rfl ?_
        have ri1 : (-2147483648) ≤ iv ob1 0 ∧ iv ob1 0 ≤ 2147483647 := hW.int tob1 0
        refine c_get (k := 0) C ck_10 dX9_isOverShort_7 w2_174 (by decide) tob1 rfl rfl (by decide) rfl ?_
        refine c_iconst C dX9_isOverShort_10 ?_
        refine c_icmp_ne (tgt := 16) C ⟨by omega, by omega⟩ ⟨by decide, by decide⟩ dX9_isOverShort_11 (by decide) (fun c1 => ?_) (fun c1 => ?_)
        · refine c_aload_n (j := 0) (x := ob1) C dX9_isOverShort_16 rfl ?_
          rcases hW.opt tob1 2 rfl rfl with ⟨nq1, _⟩ | ⟨nb1, nq1, tnb1⟩
          · refine c_getr (k := 2) C ck_10 dX9_isOverShort_17 w2_180 (by decide) tob1 rfl rfl (by decide) rfl nq1 ?_
            refine c_st (st2 := [.null]) rfl ?_
            refine c_astorer_n (r := none) (lv2 := [(1, .null), (0, (va_rf r))]) C dX9_isOverShort_20 (by decide) (by cases r <;> rfl) ?_
            refine c_goto (tgt := 2) C dX9_isOverShort_21 (by decide) ?_
            refine c_lv (lv2 := [(1, .null), (0, (va_rf r))]) [0, 1] rfl ?_
            exact ih1  none (rk - 1)  (by omega)  (fun _ q => by cases q) (by omega) (fun _ q => by cases q) (hos.next (by omega) nq1)
          · have rknb1 := hW.rank tob1 (k := 2) (by decide) nq1
            refine c_getr (k := 2) C ck_10 dX9_isOverShort_17 w2_180 (by decide) tob1 rfl rfl (by decide) rfl nq1 ?_
            refine c_st (st2 := [.ref nb1]) rfl ?_
            refine c_astore_n (lv2 := [(1, .ref nb1), (0, (va_rf r))]) C dX9_isOverShort_20 (by decide) (by cases r <;> rfl) ?_
            refine c_goto (tgt := 2) C dX9_isOverShort_21 (by decide) ?_
            have trnb1 := bt_100 tnb1.2
            refine c_lv (lv2 := [(1, .ref nb1), (0, (va_rf r))]) [0, 1] rfl ?_
            exact ih1  (some nb1) (rk - 1)  (by omega)  (fun _ q => by cases q; exact tnb1) (by omega) (fun _ q => by cases q; omega) (hos.next (by omega) nq1)
        · refine c_iconst C dX9_isOverShort_14 ?_
          exact c_zret C dX9_isOverShort_15 rfl (Or.inr rfl) (by decide) (rom0 hph hph (by decide)) ⟨1, rfl, rfl, rfl, rfl, rfl, rfl, (Or.inr rfl), (hos.yes (by omega))⟩
  refine c_lv (lv2 := [(1, (va_rf r)), (0, (va_rf r))]) [0, 1] rfl ?_
  exact Lp1 31 r 129  (by omega)  t_r (by omega) (fun b q => by have q2 := bt_100 (t_r b q).2; omega) OSI.refl
set_option maxHeartbeats 4000000 in
set_option maxRecDepth 100000 in
theorem G_hasShort {l : Launch} {G : GT} {mi : Nat} {sk : Nat → Nat} {L : List Nat} {cl ln : Nat → Nat} {iv : Nat → Nat → Int} {rv : Nat → Nat → Option Nat}  {a0 : Nat} (hW : WT (g0 G) sk L cl ln iv rv) (hS : SKL sk L cl) (t_a0 : ty L cl a0 100)  : Mc l G mi (Phi (g0 G) sk) PHM yX9_hasShort cX9_hasShort 1 (some .boolean) 1 [.ref a0] L cl ln iv rv 0 (fun v L2 cl2 ln2 iv2 rv2 => ∃ f : Int, v = some (.int (iI f)) ∧ L = L2 ∧ cl = cl2 ∧ ln = ln2 ∧ iv = iv2 ∧ rv = rv2 ∧ (f = 0 ∨ f = 1) ∧ (HSX sk ln iv rv a0 f)) := by
  refine Mc.mk (by decide) (Nat.le_of_ble_eq_true rfl) ?_
  intro p e s m args below meth c A C hM
  have hph := Phi.le hW hS
  have hX0 : XT L cl ln L cl ln := XT.refl
  have hF0 : fT [] L cl iv rv iv rv := fT.refl
  refine c_aload_n (j := 0) (x := a0) C dX9_hasShort_0 rfl ?_
  refine d_callS (As := [.ref a0]) (rest := []) C hM (G_isOverShort (r := (some a0)) hW hS (fun _ q => by cases q; exact t_a0)  ) dX9_hasShort_1 kS_X9_80 rfl rfl (Nat.le_of_ble_eq_true rfl) ⟨(Nat.le_of_ble_eq_true rfl), (Nat.le_of_ble_eq_true rfl)⟩ hph hph (show 0 + 0 = 0 from rfl) (by decide) (fun rh1 Lh1 clh1 lnh1 ivh1 rvh1 h1 => ?_)
  obtain ⟨f1, rfl, rfl, rfl, rfl, rfl, rfl, rgf1, exf1⟩ := h1
  refine c_st (st2 := [.int (iI f1)]) rfl ?_
  have gf1 : OSX sk ln iv rv (some a0) f1 := exf1
  refine c_if_ne (tgt := 17) C ⟨by omega, by omega⟩ dX9_hasShort_4 (by decide) (fun c1 => ?_) (fun c1 => ?_)
  · refine c_iconst C dX9_hasShort_17 ?_
    refine c_goto (tgt := 22) C dX9_hasShort_18 (by decide) ?_
    exact c_zret C dX9_hasShort_22 rfl (Or.inr rfl) (by decide) (rom0 hph hph (by decide)) ⟨1, rfl, rfl, rfl, rfl, rfl, rfl, (Or.inr rfl), (HSX.y1 gf1 (by omega))⟩
  · refine c_aload_n (j := 0) (x := a0) C dX9_hasShort_7 rfl ?_
    rcases hW.opt t_a0 3 rfl rfl with ⟨nq1, _⟩ | ⟨nb1, nq1, tnb1⟩
    · refine c_getr (k := 3) C ck_10 dX9_hasShort_8 w2_183 (by decide) t_a0 rfl rfl (by decide) rfl nq1 ?_
      refine c_st (st2 := [.null]) rfl ?_
      refine d_callS (As := [.null]) (rest := []) C hM (G_isOverShort (r := none) hW hS (fun _ q => by cases q)  ) dX9_hasShort_11 kS_X9_80 rfl rfl (Nat.le_of_ble_eq_true rfl) ⟨(Nat.le_of_ble_eq_true rfl), (Nat.le_of_ble_eq_true rfl)⟩ hph hph (show 0 + 0 = 0 from rfl) (by decide) (fun rh2 Lh2 clh2 lnh2 ivh2 rvh2 h2 => ?_)
      obtain ⟨f2, rfl, rfl, rfl, rfl, rfl, rfl, rgf2, exf2⟩ := h2
      refine c_st (st2 := [.int (iI f2)]) rfl ?_
      have gf2 : OSX sk ln iv rv none f2 := exf2
      refine c_if_eq (tgt := 21) C ⟨by omega, by omega⟩ dX9_hasShort_14 (by decide) (fun c2 => ?_) (fun c2 => ?_)
      · refine c_iconst C dX9_hasShort_21 ?_
        exact c_zret C dX9_hasShort_22 rfl (Or.inl rfl) (by decide) (rom0 hph hph (by decide)) ⟨0, rfl, rfl, rfl, rfl, rfl, rfl, (Or.inl rfl), (HSX.no gf1 gf2 nq1 (by omega) (by omega))⟩
      · refine c_iconst C dX9_hasShort_17 ?_
        refine c_goto (tgt := 22) C dX9_hasShort_18 (by decide) ?_
        exact c_zret C dX9_hasShort_22 rfl (Or.inr rfl) (by decide) (rom0 hph hph (by decide)) ⟨1, rfl, rfl, rfl, rfl, rfl, rfl, (Or.inr rfl), (HSX.y2 gf2 nq1 (by omega))⟩
    · have rknb1 := hW.rank t_a0 (k := 3) (by decide) nq1
      refine c_getr (k := 3) C ck_10 dX9_hasShort_8 w2_183 (by decide) t_a0 rfl rfl (by decide) rfl nq1 ?_
      refine c_st (st2 := [.ref nb1]) rfl ?_
      refine d_callS (As := [.ref nb1]) (rest := []) C hM (G_isOverShort (r := (some nb1)) hW hS (fun _ q => by cases q; exact tnb1)  ) dX9_hasShort_11 kS_X9_80 rfl rfl (Nat.le_of_ble_eq_true rfl) ⟨(Nat.le_of_ble_eq_true rfl), (Nat.le_of_ble_eq_true rfl)⟩ hph hph (show 0 + 0 = 0 from rfl) (by decide) (fun rh3 Lh3 clh3 lnh3 ivh3 rvh3 h3 => ?_)
      obtain ⟨f3, rfl, rfl, rfl, rfl, rfl, rfl, rgf3, exf3⟩ := h3
      refine c_st (st2 := [.int (iI f3)]) rfl ?_
      have gf3 : OSX sk ln iv rv (some nb1) f3 := exf3
      refine c_if_eq (tgt := 21) C ⟨by omega, by omega⟩ dX9_hasShort_14 (by decide) (fun c3 => ?_) (fun c3 => ?_)
      · refine c_iconst C dX9_hasShort_21 ?_
        exact c_zret C dX9_hasShort_22 rfl (Or.inl rfl) (by decide) (rom0 hph hph (by decide)) ⟨0, rfl, rfl, rfl, rfl, rfl, rfl, (Or.inl rfl), (HSX.no gf1 gf3 nq1 (by omega) (by omega))⟩
      · refine c_iconst C dX9_hasShort_17 ?_
        refine c_goto (tgt := 22) C dX9_hasShort_18 (by decide) ?_
        exact c_zret C dX9_hasShort_22 rfl (Or.inr rfl) (by decide) (rom0 hph hph (by decide)) ⟨1, rfl, rfl, rfl, rfl, rfl, rfl, (Or.inr rfl), (HSX.y2 gf3 nq1 (by omega))⟩
set_option maxHeartbeats 4000000 in
set_option maxRecDepth 100000 in
theorem G_rends {l : Launch} {G : GT} {mi : Nat} {sk : Nat → Nat} {L : List Nat} {cl ln : Nat → Nat} {iv : Nat → Nat → Int} {rv : Nat → Nat → Option Nat}  {a0 : Nat} {x : Int} (hW : WT (g0 G) sk L cl ln iv rv) (hS : SKL sk L cl) (t_a0 : ty L cl a0 20) (h_x : -2147483648 ≤ x ∧ x ≤ 2147483647)  : Mc l G mi (Phi (g0 G) sk) PHM yX5_endsWith cX5_endsWith 2 (some .boolean) 0 [.ref a0, .int (iI x)] L cl ln iv rv 0 (fun v L2 cl2 ln2 iv2 rv2 => ∃ f : Int, v = some (.int (iI f)) ∧ L = L2 ∧ cl = cl2 ∧ ln = ln2 ∧ iv = iv2 ∧ rv = rv2 ∧ (f = 0 ∨ f = 1) ∧ (EWP ln iv rv a0 x f)) := by
  refine Mc.mk (by decide) (Nat.le_of_ble_eq_true rfl) ?_
  intro p e s m args below meth c A C hM
  have hph := Phi.le hW hS
  have hX0 : XT L cl ln L cl ln := XT.refl
  have hF0 : fT [] L cl iv rv iv rv := fT.refl
  refine c_aload_n (j := 0) (x := a0) C dX5_endsWith_0 rfl ?_
  obtain ⟨rb1, rq1, trb1⟩ := hW.ref t_a0 2 rfl rfl rfl
  have lnrb1 : 1 ≤ ln rb1 ∧ ln rb1 ≤ 4 := hW.len trb1 rfl
  refine c_getr (k := 2) C ck_6 dX5_endsWith_1 w3_142 (by decide) t_a0 rfl rfl (by decide) rfl rq1 ?_
  refine c_st (st2 := [.ref rb1]) rfl ?_
  have ll1 : 1 ≤ ln rb1 ∧ ln rb1 ≤ 4 := hW.len trb1 rfl
  refine c_alenI C dX5_endsWith_4 trb1 rfl ?_
  refine c_if_le (tgt := 28) C ⟨by omega, by omega⟩ dX5_endsWith_5 (by decide) (fun c1 => ?_) (fun c1 => ?_)
  · refine c_iconst C dX5_endsWith_28 ?_
    exact c_zret C dX5_endsWith_29 rfl (Or.inl rfl) (by decide) (rom0 hph hph (by decide)) ⟨0, rfl, rfl, rfl, rfl, rfl, rfl, (Or.inl rfl), (fun c hc => by rw [rq1] at hc; cases hc; exact ⟨fun q => absurd q (by decide), fun q => by have q1 := q.1; have q2 := q.2; omega⟩)⟩
  · refine c_aload_n (j := 0) (x := a0) C dX5_endsWith_8 rfl ?_
    refine c_getr (k := 2) C ck_6 dX5_endsWith_9 w3_142 (by decide) t_a0 rfl rfl (by decide) rfl rq1 ?_
    refine c_st (st2 := [.ref rb1]) rfl ?_
    refine c_aload_n (j := 0) (x := a0) C dX5_endsWith_12 rfl ?_
    refine c_getr (k := 2) C ck_6 dX5_endsWith_13 w3_142 (by decide) t_a0 rfl rfl (by decide) rfl rq1 ?_
    refine c_st (st2 := [.ref rb1, .ref rb1]) rfl ?_
    refine c_alenI C dX5_endsWith_16 trb1 rfl ?_
    refine c_iconst C dX5_endsWith_17 ?_
    refine c_isub C dX5_endsWith_18 ?_
    refine c_iald C dX5_endsWith_19 trb1 rfl (by omega) (by omega) (by omega) ?_
    have ri1 : (-2147483648) ≤ iv rb1 ((((ln rb1 : Nat) : Int) - 1).toNat) ∧ iv rb1 ((((ln rb1 : Nat) : Int) - 1).toNat) ≤ 2147483647 := hW.int trb1 ((((ln rb1 : Nat) : Int) - 1).toNat)
    refine c_iload_n (j := 1) C dX5_endsWith_20 rfl ?_
    refine c_icmp_ne (tgt := 28) C ⟨by omega, by omega⟩ ⟨by omega, by omega⟩ dX5_endsWith_21 (by decide) (fun c2 => ?_) (fun c2 => ?_)
    · refine c_iconst C dX5_endsWith_28 ?_
      exact c_zret C dX5_endsWith_29 rfl (Or.inl rfl) (by decide) (rom0 hph hph (by decide)) ⟨0, rfl, rfl, rfl, rfl, rfl, rfl, (Or.inl rfl), (fun c hc => by rw [rq1] at hc; cases hc; exact ⟨fun q => absurd q (by decide), fun q => by have q1 := q.1; have q2 := q.2; omega⟩)⟩
    · refine c_iconst C dX5_endsWith_24 ?_
      refine c_goto (tgt := 29) C dX5_endsWith_25 (by decide) ?_
      exact c_zret C dX5_endsWith_29 rfl (Or.inr rfl) (by decide) (rom0 hph hph (by decide)) ⟨1, rfl, rfl, rfl, rfl, rfl, rfl, (Or.inr rfl), (fun c hc => by rw [rq1] at hc; cases hc; exact ⟨fun _ => ⟨by omega, by omega⟩, fun _ => rfl⟩)⟩
set_option maxHeartbeats 4000000 in
set_option maxRecDepth 100000 in
theorem G_isAtBegin {l : Launch} {G : GT} {mi : Nat} {sk : Nat → Nat} {L : List Nat} {cl ln : Nat → Nat} {iv : Nat → Nat → Int} {rv : Nat → Nat → Option Nat}  {a0 : Nat} {a1 : Nat} (hW : WT (g0 G) sk L cl ln iv rv) (hS : SKL sk L cl) (t_a0 : ty L cl a0 20) (t_a1 : ty L cl a1 20)  : Mc l G mi (Phi (g0 G) sk) PHM yX5_isAtBeginOf cX5_isAtBeginOf 2 (some .boolean) 2 [.ref a0, .ref a1] L cl ln iv rv 0 (fun v L2 cl2 ln2 iv2 rv2 => ∃ f : Int, v = some (.int (iI f)) ∧ L = L2 ∧ cl = cl2 ∧ ln = ln2 ∧ iv = iv2 ∧ rv = rv2 ∧ (f = 0 ∨ f = 1) ∧ (ABP ln iv rv a0 a1 f)) := by
  refine Mc.mk (by decide) (Nat.le_of_ble_eq_true rfl) ?_
  intro p e s m args below meth c A C hM
  have hph := Phi.le hW hS
  have hX0 : XT L cl ln L cl ln := XT.refl
  have hF0 : fT [] L cl iv rv iv rv := fT.refl
  refine c_aload_n (j := 0) (x := a0) C dX5_isAtBeginOf_0 rfl ?_
  refine c_aload_n (j := 1) (x := a1) C dX5_isAtBeginOf_1 rfl ?_
  refine d_callV (As := [.ref a1]) (rest := []) C hM (G_alike (a0 := a0) (a1 := a1) hW hS t_a0 t_a1  ) dX5_isAtBeginOf_2 kV_X5_35 rfl t_a0 rfl rfl (by decide) ck_6 rfl (Nat.le_of_ble_eq_true rfl) ⟨(Nat.le_of_ble_eq_true rfl), (Nat.le_of_ble_eq_true rfl)⟩ hph hph (show 0 + 0 = 0 from rfl) (by decide) (fun rh1 Lh1 clh1 lnh1 ivh1 rvh1 h1 => ?_)
  obtain ⟨f1, rfl, rfl, rfl, rfl, rfl, rfl, rgf1, exf1⟩ := h1
  refine c_st (st2 := [.int (iI f1)]) rfl ?_
  have gf1 : (0 ≤ f1 ∧ f1 ≤ 4) ∧ ALP ln iv rv a0 a1 f1 := exf1
  refine c_aload_n (j := 0) (x := a0) C dX5_isAtBeginOf_5 rfl ?_
  obtain ⟨rb1, rq1, trb1⟩ := hW.ref t_a0 2 rfl rfl rfl
  have lnrb1 : 1 ≤ ln rb1 ∧ ln rb1 ≤ 4 := hW.len trb1 rfl
  refine c_getr (k := 2) C ck_6 dX5_isAtBeginOf_6 w3_142 (by decide) t_a0 rfl rfl (by decide) rfl rq1 ?_
  refine c_st (st2 := [.ref rb1, .int (iI f1)]) rfl ?_
  have ll1 : 1 ≤ ln rb1 ∧ ln rb1 ≤ 4 := hW.len trb1 rfl
  refine c_alenI C dX5_isAtBeginOf_9 trb1 rfl ?_
  refine c_icmp_ne (tgt := 17) C ⟨by omega, by omega⟩ ⟨by omega, by omega⟩ dX5_isAtBeginOf_10 (by decide) (fun c1 => ?_) (fun c1 => ?_)
  · refine c_iconst C dX5_isAtBeginOf_17 ?_
    exact c_zret C dX5_isAtBeginOf_18 rfl (Or.inl rfl) (by decide) (rom0 hph hph (by decide)) ⟨0, rfl, rfl, rfl, rfl, rfl, rfl, (Or.inl rfl), (ABP.mk gf1.2 rq1 ⟨fun q => absurd q (by decide), fun q => by omega⟩)⟩
  · refine c_iconst C dX5_isAtBeginOf_13 ?_
    refine c_goto (tgt := 18) C dX5_isAtBeginOf_14 (by decide) ?_
    exact c_zret C dX5_isAtBeginOf_18 rfl (Or.inr rfl) (by decide) (rom0 hph hph (by decide)) ⟨1, rfl, rfl, rfl, rfl, rfl, rfl, (Or.inr rfl), (ABP.mk gf1.2 rq1 ⟨fun _ => by omega, fun _ => rfl⟩)⟩
set_option maxHeartbeats 4000000 in
set_option maxRecDepth 100000 in
theorem G_isReadable_24 {l : Launch} {G : GT} {mi : Nat} {sk : Nat → Nat} {L : List Nat} {cl ln : Nat → Nat} {iv : Nat → Nat → Int} {rv : Nat → Nat → Option Nat}  {a0 : Nat} {x : Int} (hW : WT (g0 G) sk L cl ln iv rv) (hS : SKL sk L cl) (t_a0 : ty L cl a0 24) (h_x : -2147483648 ≤ x ∧ x ≤ 2147483647)  : Mc l G mi (Phi (g0 G) sk) PHM yX3_isReadable cX3_isReadable 6 (some .boolean) 3 [.ref a0, .int (iI x)] L cl ln iv rv 0 (fun v L2 cl2 ln2 iv2 rv2 => ∃ f : Int, v = some (.int (iI f)) ∧ L = L2 ∧ cl = cl2 ∧ ln = ln2 ∧ iv = iv2 ∧ rv = rv2 ∧ (f = 0 ∨ f = 1) ∧ (RDX L cl ln iv rv a0 x f)) := by
  refine Mc.mk (by decide) (Nat.le_of_ble_eq_true rfl) ?_
  intro p e s m args below meth c A C hM
  have hph := Phi.le hW hS
  have hX0 : XT L cl ln L cl ln := XT.refl
  have hF0 : fT [] L cl iv rv iv rv := fT.refl
  refine c_aload_n (j := 0) (x := a0) C dX3_isReadable_0 rfl ?_
  have ri1 : 0 ≤ iv a0 2 ∧ iv a0 2 ≤ 6003 := hW.int t_a0 2
  refine d_callV (As := []) (rest := []) C hM (C_size_24 (a0 := a0) hW hS t_a0  ) dX3_isReadable_1 kV_X3_78 rfl t_a0 rfl rfl (by decide) ck_0 rfl (Nat.le_of_ble_eq_true rfl) ⟨(Nat.le_of_ble_eq_true rfl), (Nat.le_of_ble_eq_true rfl)⟩ hph hph (show 0 + 0 = 0 from rfl) (by decide) (fun rh1 Lh1 clh1 lnh1 ivh1 rvh1 h1 => ?_)
  obtain ⟨f1, rfl, rfl, rfl, rfl, rfl, rfl, rgf1, exf1⟩ := h1
  refine c_st (st2 := [.int (iI f1)]) rfl ?_
  have gf1 : f1 = iv a0 2 := exf1
  refine c_istore_n (lv2 := [(2, .int (iI f1)), (0, .ref a0), (1, .int (iI x))]) C dX3_isReadable_4 (by decide) rfl ?_
  refine c_iconst C dX3_isReadable_5 ?_
  refine c_istore_n (lv2 := [(3, .int (iI 0)), (2, .int (iI f1)), (0, .ref a0), (1, .int (iI x))]) C dX3_isReadable_6 (by decide) rfl ?_
  have Lp1 : ∀ (nn : Nat) (k : Int) , 6004 - k < (nn : Int) → (0 ≤ k ∧ k ≤ 6003) → (RDPO L cl ln iv rv a0 x k) → cw p l e 3 ((PHM) + 0 - ((Phi (g0 G) sk) ln rv)) s m args below meth c G A 6 (MQ below (Qu G A (Qp G (Phi (g0 G) sk) ((Phi (g0 G) sk) ln rv) 0 (fun v L2 cl2 ln2 iv2 rv2 => ∃ f : Int, v = some (.int (iI f)) ∧ L = L2 ∧ cl = cl2 ∧ ln = ln2 ∧ iv = iv2 ∧ rv = rv2 ∧ (f = 0 ∨ f = 1) ∧ (RDX L cl ln iv rv a0 x f)))) args s (((PHM) + 0 - ((Phi (g0 G) sk) ln rv)) / 16) ((PHM) + 0 - ((Phi (g0 G) sk) ln rv)) A) (Phi (g0 G) sk) ((Phi (g0 G) sk) ln rv) L cl ln iv rv 0 7 [(3, .int (iI k)), (2, .int (iI f1)), (0, .ref a0), (1, .int (iI x))] [] := by
    intro nn
    induction nn with
    | zero =>
      intro  k  hm   hk hO
      exact absurd hm (by omega)
    | succ nn ih1 =>
      intro  k  hm   hk hO
      refine c_iload_n (j := 0) C dX3_isReadable_7 rfl ?_
      refine c_iload_n (j := 1) C dX3_isReadable_8 rfl ?_
      refine c_icmp_ge (tgt := 79) C ⟨by omega, by omega⟩ ⟨by omega, by omega⟩ dX3_isReadable_9 (by decide) (fun c1 => ?_) (fun c1 => ?_)
      · refine c_iconst C dX3_isReadable_79 ?_
        exact c_zret C dX3_isReadable_80 rfl (Or.inr rfl) (by decide) (rom0 hph hph (by decide)) ⟨1, rfl, rfl, rfl, rfl, rfl, rfl, (Or.inr rfl), (RDX.yes hO (by omega))⟩
      · refine c_aload_n (j := 2) (x := a0) C dX3_isReadable_12 rfl ?_
        refine c_iload_n (j := 0) C dX3_isReadable_13 rfl ?_
        refine d_callV (As := [.int (iI k)]) (rest := []) C hM (C_get_24 (a0 := a0) (i := k) hW hS t_a0 (by omega) (by show 0 ≤ k ∧ k < iv a0 2; omega)) dX3_isReadable_14 kV_X3_82 rfl t_a0 rfl rfl (by decide) ck_0 rfl (Nat.le_of_ble_eq_true rfl) ⟨(Nat.le_of_ble_eq_true rfl), (Nat.le_of_ble_eq_true rfl)⟩ hph hph (show 0 + 0 = 0 from rfl) (by decide) (fun rh2 Lh2 clh2 lnh2 ivh2 rvh2 h2 => ?_)
        obtain ⟨f2, rfl, rfl, rfl, rfl, rfl, rfl, rgf2, exf2⟩ := h2
        refine c_st (st2 := [.ref f2]) rfl ?_
        have gf2 : el rv a0 k.toNat = some f2 := exf2
        refine c_cast C ck_6 dX3_isReadable_17 w5_63 w8_169t rgf2 rfl rfl (by decide) ?_
        refine c_astore (lv2 := [(4, .ref f2), (3, .int (iI k)), (2, .int (iI f1)), (0, .ref a0), (1, .int (iI x))]) C dX3_isReadable_20 (by decide) rfl ?_
        refine c_aload (j := 0) (x := f2) C dX3_isReadable_22 rfl ?_
        refine c_iload_n (j := 4) C dX3_isReadable_24 rfl ?_
        refine d_callV (As := [.int (iI x)]) (rest := []) C hM (G_rends (a0 := f2) (x := x) hW hS rgf2 (by omega) ) dX3_isReadable_25 kV_X3_100 rfl rgf2 rfl rfl (by decide) ck_6 rfl (Nat.le_of_ble_eq_true rfl) ⟨(Nat.le_of_ble_eq_true rfl), (Nat.le_of_ble_eq_true rfl)⟩ hph hph (show 0 + 0 = 0 from rfl) (by decide) (fun rh3 Lh3 clh3 lnh3 ivh3 rvh3 h3 => ?_)
        obtain ⟨f3, rfl, rfl, rfl, rfl, rfl, rfl, rgf3, exf3⟩ := h3
        refine c_st (st2 := [.int (iI f3)]) rfl ?_
        have gf3 : EWP ln iv rv f2 x f3 := exf3
        refine c_if_eq (tgt := 33) C ⟨by omega, by omega⟩ dX3_isReadable_28 (by decide) (fun c2 => ?_) (fun c2 => ?_)
        · refine c_iconst C dX3_isReadable_33 ?_
          refine c_istore (lv2 := [(5, .int (iI 0)), (4, .ref f2), (3, .int (iI k)), (2, .int (iI f1)), (0, .ref a0), (1, .int (iI x))]) C dX3_isReadable_34 (by decide) rfl ?_
          have Lp2 : ∀ (nn : Nat) (k2 : Int) , 6004 - k2 < (nn : Int) → (0 ≤ k2 ∧ k2 ≤ 6003) → (RDPI L cl ln iv rv a0 k k2) → (RDPH L cl ln iv rv a0 x k) → cw p l e 3 ((PHM) + 0 - ((Phi (g0 G) sk) ln rv)) s m args below meth c G A 6 (MQ below (Qu G A (Qp G (Phi (g0 G) sk) ((Phi (g0 G) sk) ln rv) 0 (fun v L2 cl2 ln2 iv2 rv2 => ∃ f : Int, v = some (.int (iI f)) ∧ L = L2 ∧ cl = cl2 ∧ ln = ln2 ∧ iv = iv2 ∧ rv = rv2 ∧ (f = 0 ∨ f = 1) ∧ (RDX L cl ln iv rv a0 x f)))) args s (((PHM) + 0 - ((Phi (g0 G) sk) ln rv)) / 16) ((PHM) + 0 - ((Phi (g0 G) sk) ln rv)) A) (Phi (g0 G) sk) ((Phi (g0 G) sk) ln rv) L cl ln iv rv 0 36 [(5, .int (iI k2)), (4, .ref f2), (3, .int (iI k)), (2, .int (iI f1)), (0, .ref a0), (1, .int (iI x))] [] := by
            intro nn
            induction nn with
            | zero =>
              intro  k2  hm   hk2 hI hH
              exact absurd hm (by omega)
            | succ nn ih2 =>
              intro  k2  hm   hk2 hI hH
              refine c_iload (j := 0) C dX3_isReadable_36 rfl ?_
              refine c_iload_n (j := 3) C dX3_isReadable_38 rfl ?_
              refine c_icmp_ge (tgt := 73) C ⟨by omega, by omega⟩ ⟨by omega, by omega⟩ dX3_isReadable_39 (by decide) (fun c3 => ?_) (fun c3 => ?_)
              · refine c_iinc (z := k) (j := 2) (lv2 := [(3, .int (iI (k + 1))), (5, .int (iI k2)), (4, .ref f2), (2, .int (iI f1)), (0, .ref a0), (1, .int (iI x))]) C dX3_isReadable_73 rfl (by decide) rfl ?_
                refine c_goto (tgt := 7) C dX3_isReadable_76 (by decide) ?_
                refine c_lv (lv2 := [(3, .int (iI (k + 1))), (2, .int (iI f1)), (0, .ref a0), (1, .int (iI x))]) [0, 3, 4, 5] rfl ?_
                exact ih1  (k + 1)  (by omega)   (by omega) (hO.step (by omega) hH hI (by omega))
              · refine c_iload (j := 0) C dX3_isReadable_42 rfl ?_
                refine c_iload_n (j := 2) C dX3_isReadable_44 rfl ?_
                refine c_icmp_eq (tgt := 67) C ⟨by omega, by omega⟩ ⟨by omega, by omega⟩ dX3_isReadable_45 (by decide) (fun c4 => ?_) (fun c4 => ?_)
                · refine c_iinc (z := k2) (j := 0) (lv2 := [(5, .int (iI (k2 + 1))), (4, .ref f2), (3, .int (iI k)), (2, .int (iI f1)), (0, .ref a0), (1, .int (iI x))]) C dX3_isReadable_67 rfl (by decide) rfl ?_
                  refine c_goto (tgt := 36) C dX3_isReadable_70 (by decide) ?_
                  refine c_lv (lv2 := [(5, .int (iI (k2 + 1))), (4, .ref f2), (3, .int (iI k)), (2, .int (iI f1)), (0, .ref a0), (1, .int (iI x))]) [0, 1, 2, 3, 4, 5] rfl ?_
                  exact ih2  (k2 + 1)  (by omega)   (by omega) (hI.step (by omega) (Or.inl (by omega))) hH
                · refine c_aload (j := 1) (x := f2) C dX3_isReadable_48 rfl ?_
                  refine c_aload_n (j := 4) (x := a0) C dX3_isReadable_50 rfl ?_
                  refine c_iload (j := 0) C dX3_isReadable_51 rfl ?_
                  refine d_callV (As := [.int (iI k2)]) (rest := [.ref f2]) C hM (C_get_24 (a0 := a0) (i := k2) hW hS t_a0 (by omega) (by show 0 ≤ k2 ∧ k2 < iv a0 2; omega)) dX3_isReadable_53 kV_X3_82 rfl t_a0 rfl rfl (by decide) ck_0 rfl (Nat.le_of_ble_eq_true rfl) ⟨(Nat.le_of_ble_eq_true rfl), (Nat.le_of_ble_eq_true rfl)⟩ hph hph (show 0 + 0 = 0 from rfl) (by decide) (fun rh4 Lh4 clh4 lnh4 ivh4 rvh4 h4 => ?_)
                  obtain ⟨f4, rfl, rfl, rfl, rfl, rfl, rfl, rgf4, exf4⟩ := h4
                  refine c_st (st2 := [.ref f4, .ref f2]) rfl ?_
                  have gf4 : el rv a0 k2.toNat = some f4 := exf4
                  refine c_cast C ck_6 dX3_isReadable_56 w5_63 w8_169t rgf4 rfl rfl (by decide) ?_
                  refine d_callV (As := [.ref f4]) (rest := []) C hM (G_isAtBegin (a0 := f2) (a1 := f4) hW hS rgf2 rgf4  ) dX3_isReadable_59 kV_X3_104 rfl rgf2 rfl rfl (by decide) ck_6 rfl (Nat.le_of_ble_eq_true rfl) ⟨(Nat.le_of_ble_eq_true rfl), (Nat.le_of_ble_eq_true rfl)⟩ hph hph (show 0 + 0 = 0 from rfl) (by decide) (fun rh5 Lh5 clh5 lnh5 ivh5 rvh5 h5 => ?_)
                  obtain ⟨f5, rfl, rfl, rfl, rfl, rfl, rfl, rgf5, exf5⟩ := h5
                  refine c_st (st2 := [.int (iI f5)]) rfl ?_
                  have gf5 : ABP ln iv rv f2 f4 f5 := exf5
                  refine c_if_eq (tgt := 67) C ⟨by omega, by omega⟩ dX3_isReadable_62 (by decide) (fun c5 => ?_) (fun c5 => ?_)
                  · refine c_iinc (z := k2) (j := 0) (lv2 := [(5, .int (iI (k2 + 1))), (4, .ref f2), (3, .int (iI k)), (2, .int (iI f1)), (0, .ref a0), (1, .int (iI x))]) C dX3_isReadable_67 rfl (by decide) rfl ?_
                    refine c_goto (tgt := 36) C dX3_isReadable_70 (by decide) ?_
                    refine c_lv (lv2 := [(5, .int (iI (k2 + 1))), (4, .ref f2), (3, .int (iI k)), (2, .int (iI f1)), (0, .ref a0), (1, .int (iI x))]) [0, 1, 2, 3, 4, 5] rfl ?_
                    exact ih2  (k2 + 1)  (by omega)   (by omega) (hI.step (by omega) (Or.inr ⟨_, _, _, exf2, exf4, gf5, by omega⟩)) hH
                  · refine c_iconst C dX3_isReadable_65 ?_
                    exact c_zret C dX3_isReadable_66 rfl (Or.inl rfl) (by decide) (rom0 hph hph (by decide)) ⟨0, rfl, rfl, rfl, rfl, rfl, rfl, (Or.inl rfl), (RDX.no2 gf5 exf2 exf4 (by omega) ⟨by omega, by omega⟩ ⟨by omega, by omega⟩ (by omega))⟩
          refine c_lv (lv2 := [(5, .int (iI 0)), (4, .ref f2), (3, .int (iI k)), (2, .int (iI f1)), (0, .ref a0), (1, .int (iI x))]) [0, 1, 2, 3, 4, 5] rfl ?_
          exact Lp2 6006 0  (by omega)   (by omega) RDPI.zero (RDPH.mk gf3 exf2 (by omega) hW)
        · refine c_iconst C dX3_isReadable_31 ?_
          exact c_zret C dX3_isReadable_32 rfl (Or.inl rfl) (by decide) (rom0 hph hph (by decide)) ⟨0, rfl, rfl, rfl, rfl, rfl, rfl, (Or.inl rfl), (RDX.no1 gf3 exf2 (by omega) hW ⟨by omega, by omega⟩)⟩
  refine c_lv (lv2 := [(3, .int (iI 0)), (2, .int (iI f1)), (0, .ref a0), (1, .int (iI x))]) [0, 1, 2, 3] rfl ?_
  exact Lp1 6006 0  (by omega)   (by omega) RDPO.zero
set_option maxHeartbeats 4000000 in
set_option maxRecDepth 100000 in
theorem G_isReadable_25 {l : Launch} {G : GT} {mi : Nat} {sk : Nat → Nat} {L : List Nat} {cl ln : Nat → Nat} {iv : Nat → Nat → Int} {rv : Nat → Nat → Option Nat}  {a0 : Nat} {x : Int} (hW : WT (g0 G) sk L cl ln iv rv) (hS : SKL sk L cl) (t_a0 : ty L cl a0 25) (h_x : -2147483648 ≤ x ∧ x ≤ 2147483647)  : Mc l G mi (Phi (g0 G) sk) PHM yX3_isReadable cX3_isReadable 6 (some .boolean) 3 [.ref a0, .int (iI x)] L cl ln iv rv 0 (fun v L2 cl2 ln2 iv2 rv2 => ∃ f : Int, v = some (.int (iI f)) ∧ L = L2 ∧ cl = cl2 ∧ ln = ln2 ∧ iv = iv2 ∧ rv = rv2 ∧ (f = 0 ∨ f = 1) ∧ (RDX L cl ln iv rv a0 x f)) := by
  refine Mc.mk (by decide) (Nat.le_of_ble_eq_true rfl) ?_
  intro p e s m args below meth c A C hM
  have hph := Phi.le hW hS
  have hX0 : XT L cl ln L cl ln := XT.refl
  have hF0 : fT [] L cl iv rv iv rv := fT.refl
  refine c_aload_n (j := 0) (x := a0) C dX3_isReadable_0 rfl ?_
  have ri1 : 0 ≤ iv a0 2 ∧ iv a0 2 ≤ 6003 := hW.int t_a0 2
  refine d_callV (As := []) (rest := []) C hM (C_size_25 (a0 := a0) hW hS t_a0  ) dX3_isReadable_1 kV_X3_78 rfl t_a0 rfl rfl (by decide) ck_0 rfl (Nat.le_of_ble_eq_true rfl) ⟨(Nat.le_of_ble_eq_true rfl), (Nat.le_of_ble_eq_true rfl)⟩ hph hph (show 0 + 0 = 0 from rfl) (by decide) (fun rh1 Lh1 clh1 lnh1 ivh1 rvh1 h1 => ?_)
  obtain ⟨f1, rfl, rfl, rfl, rfl, rfl, rfl, rgf1, exf1⟩ := h1
  refine c_st (st2 := [.int (iI f1)]) rfl ?_
  have gf1 : f1 = iv a0 2 := exf1
  refine c_istore_n (lv2 := [(2, .int (iI f1)), (0, .ref a0), (1, .int (iI x))]) C dX3_isReadable_4 (by decide) rfl ?_
  refine c_iconst C dX3_isReadable_5 ?_
  refine c_istore_n (lv2 := [(3, .int (iI 0)), (2, .int (iI f1)), (0, .ref a0), (1, .int (iI x))]) C dX3_isReadable_6 (by decide) rfl ?_
  have Lp1 : ∀ (nn : Nat) (k : Int) , 6004 - k < (nn : Int) → (0 ≤ k ∧ k ≤ 6003) → (RDPO L cl ln iv rv a0 x k) → cw p l e 3 ((PHM) + 0 - ((Phi (g0 G) sk) ln rv)) s m args below meth c G A 6 (MQ below (Qu G A (Qp G (Phi (g0 G) sk) ((Phi (g0 G) sk) ln rv) 0 (fun v L2 cl2 ln2 iv2 rv2 => ∃ f : Int, v = some (.int (iI f)) ∧ L = L2 ∧ cl = cl2 ∧ ln = ln2 ∧ iv = iv2 ∧ rv = rv2 ∧ (f = 0 ∨ f = 1) ∧ (RDX L cl ln iv rv a0 x f)))) args s (((PHM) + 0 - ((Phi (g0 G) sk) ln rv)) / 16) ((PHM) + 0 - ((Phi (g0 G) sk) ln rv)) A) (Phi (g0 G) sk) ((Phi (g0 G) sk) ln rv) L cl ln iv rv 0 7 [(3, .int (iI k)), (2, .int (iI f1)), (0, .ref a0), (1, .int (iI x))] [] := by
    intro nn
    induction nn with
    | zero =>
      intro  k  hm   hk hO
      exact absurd hm (by omega)
    | succ nn ih1 =>
      intro  k  hm   hk hO
      refine c_iload_n (j := 0) C dX3_isReadable_7 rfl ?_
      refine c_iload_n (j := 1) C dX3_isReadable_8 rfl ?_
      refine c_icmp_ge (tgt := 79) C ⟨by omega, by omega⟩ ⟨by omega, by omega⟩ dX3_isReadable_9 (by decide) (fun c1 => ?_) (fun c1 => ?_)
      · refine c_iconst C dX3_isReadable_79 ?_
        exact c_zret C dX3_isReadable_80 rfl (Or.inr rfl) (by decide) (rom0 hph hph (by decide)) ⟨1, rfl, rfl, rfl, rfl, rfl, rfl, (Or.inr rfl), (RDX.yes hO (by omega))⟩
      · refine c_aload_n (j := 2) (x := a0) C dX3_isReadable_12 rfl ?_
        refine c_iload_n (j := 0) C dX3_isReadable_13 rfl ?_
        refine d_callV (As := [.int (iI k)]) (rest := []) C hM (C_get_25 (a0 := a0) (i := k) hW hS t_a0 (by omega) (by show 0 ≤ k ∧ k < iv a0 2; omega)) dX3_isReadable_14 kV_X3_82 rfl t_a0 rfl rfl (by decide) ck_0 rfl (Nat.le_of_ble_eq_true rfl) ⟨(Nat.le_of_ble_eq_true rfl), (Nat.le_of_ble_eq_true rfl)⟩ hph hph (show 0 + 0 = 0 from rfl) (by decide) (fun rh2 Lh2 clh2 lnh2 ivh2 rvh2 h2 => ?_)
        obtain ⟨f2, rfl, rfl, rfl, rfl, rfl, rfl, rgf2, exf2⟩ := h2
        refine c_st (st2 := [.ref f2]) rfl ?_
        have gf2 : el rv a0 k.toNat = some f2 := exf2
        refine c_cast C ck_6 dX3_isReadable_17 w5_63 w8_169t rgf2 rfl rfl (by decide) ?_
        refine c_astore (lv2 := [(4, .ref f2), (3, .int (iI k)), (2, .int (iI f1)), (0, .ref a0), (1, .int (iI x))]) C dX3_isReadable_20 (by decide) rfl ?_
        refine c_aload (j := 0) (x := f2) C dX3_isReadable_22 rfl ?_
        refine c_iload_n (j := 4) C dX3_isReadable_24 rfl ?_
        refine d_callV (As := [.int (iI x)]) (rest := []) C hM (G_rends (a0 := f2) (x := x) hW hS rgf2 (by omega) ) dX3_isReadable_25 kV_X3_100 rfl rgf2 rfl rfl (by decide) ck_6 rfl (Nat.le_of_ble_eq_true rfl) ⟨(Nat.le_of_ble_eq_true rfl), (Nat.le_of_ble_eq_true rfl)⟩ hph hph (show 0 + 0 = 0 from rfl) (by decide) (fun rh3 Lh3 clh3 lnh3 ivh3 rvh3 h3 => ?_)
        obtain ⟨f3, rfl, rfl, rfl, rfl, rfl, rfl, rgf3, exf3⟩ := h3
        refine c_st (st2 := [.int (iI f3)]) rfl ?_
        have gf3 : EWP ln iv rv f2 x f3 := exf3
        refine c_if_eq (tgt := 33) C ⟨by omega, by omega⟩ dX3_isReadable_28 (by decide) (fun c2 => ?_) (fun c2 => ?_)
        · refine c_iconst C dX3_isReadable_33 ?_
          refine c_istore (lv2 := [(5, .int (iI 0)), (4, .ref f2), (3, .int (iI k)), (2, .int (iI f1)), (0, .ref a0), (1, .int (iI x))]) C dX3_isReadable_34 (by decide) rfl ?_
          have Lp2 : ∀ (nn : Nat) (k2 : Int) , 6004 - k2 < (nn : Int) → (0 ≤ k2 ∧ k2 ≤ 6003) → (RDPI L cl ln iv rv a0 k k2) → (RDPH L cl ln iv rv a0 x k) → cw p l e 3 ((PHM) + 0 - ((Phi (g0 G) sk) ln rv)) s m args below meth c G A 6 (MQ below (Qu G A (Qp G (Phi (g0 G) sk) ((Phi (g0 G) sk) ln rv) 0 (fun v L2 cl2 ln2 iv2 rv2 => ∃ f : Int, v = some (.int (iI f)) ∧ L = L2 ∧ cl = cl2 ∧ ln = ln2 ∧ iv = iv2 ∧ rv = rv2 ∧ (f = 0 ∨ f = 1) ∧ (RDX L cl ln iv rv a0 x f)))) args s (((PHM) + 0 - ((Phi (g0 G) sk) ln rv)) / 16) ((PHM) + 0 - ((Phi (g0 G) sk) ln rv)) A) (Phi (g0 G) sk) ((Phi (g0 G) sk) ln rv) L cl ln iv rv 0 36 [(5, .int (iI k2)), (4, .ref f2), (3, .int (iI k)), (2, .int (iI f1)), (0, .ref a0), (1, .int (iI x))] [] := by
            intro nn
            induction nn with
            | zero =>
              intro  k2  hm   hk2 hI hH
              exact absurd hm (by omega)
            | succ nn ih2 =>
              intro  k2  hm   hk2 hI hH
              refine c_iload (j := 0) C dX3_isReadable_36 rfl ?_
              refine c_iload_n (j := 3) C dX3_isReadable_38 rfl ?_
              refine c_icmp_ge (tgt := 73) C ⟨by omega, by omega⟩ ⟨by omega, by omega⟩ dX3_isReadable_39 (by decide) (fun c3 => ?_) (fun c3 => ?_)
              · refine c_iinc (z := k) (j := 2) (lv2 := [(3, .int (iI (k + 1))), (5, .int (iI k2)), (4, .ref f2), (2, .int (iI f1)), (0, .ref a0), (1, .int (iI x))]) C dX3_isReadable_73 rfl (by decide) rfl ?_
                refine c_goto (tgt := 7) C dX3_isReadable_76 (by decide) ?_
                refine c_lv (lv2 := [(3, .int (iI (k + 1))), (2, .int (iI f1)), (0, .ref a0), (1, .int (iI x))]) [0, 3, 4, 5] rfl ?_
                exact ih1  (k + 1)  (by omega)   (by omega) (hO.step (by omega) hH hI (by omega))
              · refine c_iload (j := 0) C dX3_isReadable_42 rfl ?_
                refine c_iload_n (j := 2) C dX3_isReadable_44 rfl ?_
                refine c_icmp_eq (tgt := 67) C ⟨by omega, by omega⟩ ⟨by omega, by omega⟩ dX3_isReadable_45 (by decide) (fun c4 => ?_) (fun c4 => ?_)
                · refine c_iinc (z := k2) (j := 0) (lv2 := [(5, .int (iI (k2 + 1))), (4, .ref f2), (3, .int (iI k)), (2, .int (iI f1)), (0, .ref a0), (1, .int (iI x))]) C dX3_isReadable_67 rfl (by decide) rfl ?_
                  refine c_goto (tgt := 36) C dX3_isReadable_70 (by decide) ?_
                  refine c_lv (lv2 := [(5, .int (iI (k2 + 1))), (4, .ref f2), (3, .int (iI k)), (2, .int (iI f1)), (0, .ref a0), (1, .int (iI x))]) [0, 1, 2, 3, 4, 5] rfl ?_
                  exact ih2  (k2 + 1)  (by omega)   (by omega) (hI.step (by omega) (Or.inl (by omega))) hH
                · refine c_aload (j := 1) (x := f2) C dX3_isReadable_48 rfl ?_
                  refine c_aload_n (j := 4) (x := a0) C dX3_isReadable_50 rfl ?_
                  refine c_iload (j := 0) C dX3_isReadable_51 rfl ?_
                  refine d_callV (As := [.int (iI k2)]) (rest := [.ref f2]) C hM (C_get_25 (a0 := a0) (i := k2) hW hS t_a0 (by omega) (by show 0 ≤ k2 ∧ k2 < iv a0 2; omega)) dX3_isReadable_53 kV_X3_82 rfl t_a0 rfl rfl (by decide) ck_0 rfl (Nat.le_of_ble_eq_true rfl) ⟨(Nat.le_of_ble_eq_true rfl), (Nat.le_of_ble_eq_true rfl)⟩ hph hph (show 0 + 0 = 0 from rfl) (by decide) (fun rh4 Lh4 clh4 lnh4 ivh4 rvh4 h4 => ?_)
                  obtain ⟨f4, rfl, rfl, rfl, rfl, rfl, rfl, rgf4, exf4⟩ := h4
                  refine c_st (st2 := [.ref f4, .ref f2]) rfl ?_
                  have gf4 : el rv a0 k2.toNat = some f4 := exf4
                  refine c_cast C ck_6 dX3_isReadable_56 w5_63 w8_169t rgf4 rfl rfl (by decide) ?_
                  refine d_callV (As := [.ref f4]) (rest := []) C hM (G_isAtBegin (a0 := f2) (a1 := f4) hW hS rgf2 rgf4  ) dX3_isReadable_59 kV_X3_104 rfl rgf2 rfl rfl (by decide) ck_6 rfl (Nat.le_of_ble_eq_true rfl) ⟨(Nat.le_of_ble_eq_true rfl), (Nat.le_of_ble_eq_true rfl)⟩ hph hph (show 0 + 0 = 0 from rfl) (by decide) (fun rh5 Lh5 clh5 lnh5 ivh5 rvh5 h5 => ?_)
                  obtain ⟨f5, rfl, rfl, rfl, rfl, rfl, rfl, rgf5, exf5⟩ := h5
                  refine c_st (st2 := [.int (iI f5)]) rfl ?_
                  have gf5 : ABP ln iv rv f2 f4 f5 := exf5
                  refine c_if_eq (tgt := 67) C ⟨by omega, by omega⟩ dX3_isReadable_62 (by decide) (fun c5 => ?_) (fun c5 => ?_)
                  · refine c_iinc (z := k2) (j := 0) (lv2 := [(5, .int (iI (k2 + 1))), (4, .ref f2), (3, .int (iI k)), (2, .int (iI f1)), (0, .ref a0), (1, .int (iI x))]) C dX3_isReadable_67 rfl (by decide) rfl ?_
                    refine c_goto (tgt := 36) C dX3_isReadable_70 (by decide) ?_
                    refine c_lv (lv2 := [(5, .int (iI (k2 + 1))), (4, .ref f2), (3, .int (iI k)), (2, .int (iI f1)), (0, .ref a0), (1, .int (iI x))]) [0, 1, 2, 3, 4, 5] rfl ?_
                    exact ih2  (k2 + 1)  (by omega)   (by omega) (hI.step (by omega) (Or.inr ⟨_, _, _, exf2, exf4, gf5, by omega⟩)) hH
                  · refine c_iconst C dX3_isReadable_65 ?_
                    exact c_zret C dX3_isReadable_66 rfl (Or.inl rfl) (by decide) (rom0 hph hph (by decide)) ⟨0, rfl, rfl, rfl, rfl, rfl, rfl, (Or.inl rfl), (RDX.no2 gf5 exf2 exf4 (by omega) ⟨by omega, by omega⟩ ⟨by omega, by omega⟩ (by omega))⟩
          refine c_lv (lv2 := [(5, .int (iI 0)), (4, .ref f2), (3, .int (iI k)), (2, .int (iI f1)), (0, .ref a0), (1, .int (iI x))]) [0, 1, 2, 3, 4, 5] rfl ?_
          exact Lp2 6006 0  (by omega)   (by omega) RDPI.zero (RDPH.mk gf3 exf2 (by omega) hW)
        · refine c_iconst C dX3_isReadable_31 ?_
          exact c_zret C dX3_isReadable_32 rfl (Or.inl rfl) (by decide) (rom0 hph hph (by decide)) ⟨0, rfl, rfl, rfl, rfl, rfl, rfl, (Or.inl rfl), (RDX.no1 gf3 exf2 (by omega) hW ⟨by omega, by omega⟩)⟩
  refine c_lv (lv2 := [(3, .int (iI 0)), (2, .int (iI f1)), (0, .ref a0), (1, .int (iI x))]) [0, 1, 2, 3] rfl ?_
  exact Lp1 6006 0  (by omega)   (by omega) RDPO.zero
set_option maxHeartbeats 4000000 in
set_option maxRecDepth 100000 in
theorem G_judge {l : Launch} {G : GT} {mi : Nat} {sk : Nat → Nat} {L : List Nat} {cl ln : Nat → Nat} {iv : Nat → Nat → Int} {rv : Nat → Nat → Option Nat}  {a0 : Nat} {i : Int} (hW : WT (g0 G) sk L cl ln iv rv) (hS : SKL sk L cl) (t_a0 : ty L cl a0 1) (h_i : -2147483648 ≤ i ∧ i ≤ 2147483647) (hmr : MRK sk cl iv rv) : Mc l G mi (Phi (g0 G) sk) PHM yX11_judge cX11_judge 4 (some .int) 10 [.ref a0, .int (iI i)] L cl ln iv rv 0 (fun v L2 cl2 ln2 iv2 rv2 => ∃ f : Int, v = some (.int (iI f)) ∧ XT L cl ln L2 cl2 ln2 ∧ fT [1, 24, 1002, 25, 1003, 6, 36, 7, 37] L cl iv rv iv2 rv2 ∧ WT (g0 G) sk L2 cl2 ln2 iv2 rv2 ∧ (-2147483648 ≤ f ∧ f ≤ 2147483647) ∧ (True) ∧ iv2 a0 11 = iv a0 11 ∧ iv2 a0 12 = iv a0 12 ∧ iv2 a0 13 = iv a0 13 ∧ iv2 a0 14 = iv a0 14 ∧ iv2 a0 15 = iv a0 15 ∧ iv2 a0 16 = iv a0 16 ∧ (JTX sk ln iv rv (iv a0 13) i f) ∧ rv2 a0 9 = rv a0 9 ∧ rv2 a0 10 = rv a0 10) := by
  refine Mc.mk (by decide) (Nat.le_of_ble_eq_true rfl) ?_
  intro p e s m args below meth c A C hM
  have hph := Phi.le hW hS
  have tsk2 : ty L cl (sk 2) 2 := ⟨(hS 2 rfl).1, by rw [(hS 2 rfl).2]; rfl⟩
  have tsk3 : ty L cl (sk 3) 3 := ⟨(hS 3 rfl).1, by rw [(hS 3 rfl).2]; rfl⟩
  have tsk4 : ty L cl (sk 4) 4 := ⟨(hS 4 rfl).1, by rw [(hS 4 rfl).2]; rfl⟩
  have tsk5 : ty L cl (sk 5) 5 := ⟨(hS 5 rfl).1, by rw [(hS 5 rfl).2]; rfl⟩
  have tsk6 : ty L cl (sk 6) 6 := ⟨(hS 6 rfl).1, by rw [(hS 6 rfl).2]; rfl⟩
  have tsk7 : ty L cl (sk 7) 7 := ⟨(hS 7 rfl).1, by rw [(hS 7 rfl).2]; rfl⟩
  have tsk8 : ty L cl (sk 8) 8 := ⟨(hS 8 rfl).1, by rw [(hS 8 rfl).2]; rfl⟩
  have tsk9 : ty L cl (sk 9) 9 := ⟨(hS 9 rfl).1, by rw [(hS 9 rfl).2]; rfl⟩
  have tsk10 : ty L cl (sk 10) 10 := ⟨(hS 10 rfl).1, by rw [(hS 10 rfl).2]; rfl⟩
  have tsk13 : ty L cl (sk 13) 13 := ⟨(hS 13 rfl).1, by rw [(hS 13 rfl).2]; rfl⟩
  have tsk14 : ty L cl (sk 14) 14 := ⟨(hS 14 rfl).1, by rw [(hS 14 rfl).2]; rfl⟩
  have tsk15 : ty L cl (sk 15) 15 := ⟨(hS 15 rfl).1, by rw [(hS 15 rfl).2]; rfl⟩
  have tsk16 : ty L cl (sk 16) 16 := ⟨(hS 16 rfl).1, by rw [(hS 16 rfl).2]; rfl⟩
  have tsk17 : ty L cl (sk 17) 17 := ⟨(hS 17 rfl).1, by rw [(hS 17 rfl).2]; rfl⟩
  have tsk22 : ty L cl (sk 22) 22 := ⟨(hS 22 rfl).1, by rw [(hS 22 rfl).2]; rfl⟩
  have tsk23 : ty L cl (sk 23) 23 := ⟨(hS 23 rfl).1, by rw [(hS 23 rfl).2]; rfl⟩
  have tsk24 : ty L cl (sk 24) 24 := ⟨(hS 24 rfl).1, by rw [(hS 24 rfl).2]; rfl⟩
  have tsk25 : ty L cl (sk 25) 25 := ⟨(hS 25 rfl).1, by rw [(hS 25 rfl).2]; rfl⟩
  have hX0 : XT L cl ln L cl ln := XT.refl
  have hF0 : fT [1, 24, 1002, 25, 1003, 6, 36, 7, 37] L cl iv rv iv rv := fT.refl
  have ri1 : (-2147483648) ≤ iv a0 13 ∧ iv a0 13 ≤ 2147483647 := hW.int t_a0 13
  refine c_aload_n (j := 0) (x := a0) C dX11_judge_0 rfl ?_
  obtain ⟨rb1, rq1, trb1⟩ := hW.ref t_a0 4 rfl rfl rfl
  have erb1 := hW.sk trb1 (by decide) rfl
  subst erb1
  refine c_getr (k := 4) C ck_12 dX11_judge_1 w2_48 (by decide) t_a0 rfl rfl (by decide) rfl rq1 ?_
  refine c_st (st2 := [.ref (sk 13)]) rfl ?_
  refine c_iload_n (j := 1) C dX11_judge_4 rfl ?_
  have ri2 : 0 ≤ iv (sk 22) 2 ∧ iv (sk 22) 2 ≤ 30 := hW.int tsk22 2
  refine d_callV (As := [.int (iI i)]) (rest := []) C hM (C_alive (a0 := (sk 13)) (i := i) hW hS tsk13 (by omega) hmr) dX11_judge_5 kV_X11_131 rfl tsk13 rfl rfl (by decide) ck_11 rfl (Nat.le_of_ble_eq_true rfl) ⟨(Nat.le_of_ble_eq_true rfl), (Nat.le_of_ble_eq_true rfl)⟩ hph hph (show 0 + 0 = 0 from rfl) (by decide) (fun rh1 Lh1 clh1 lnh1 ivh1 rvh1 h1 => ?_)
  obtain ⟨f1, rfl, rfl, rfl, rfl, rfl, rfl, rgf1, exf1⟩ := h1
  refine c_st (st2 := [(va_rf f1)]) rfl ?_
  have gf1 : (∀ b, f1 = some b → ((cl b : Nat) : Int) < 100 + iv (sk 22) 2 ∧ ALV sk iv rv i b) ∧ (f1 = none → ∀ b, ¬ ALV sk iv rv i b) := exf1
  refine c_astorer_n (r := f1) (lv2 := [(2, (va_rf f1)), (0, .ref a0), (1, .int (iI i))]) C dX11_judge_8 (by decide) rfl ?_
  refine c_aloadr_n (j := 0) (r := f1) C dX11_judge_9 rfl ?_
  refine c_ifnonnull (r := f1) (tgt := 19) C dX11_judge_10 (by decide) (fun ob1 oq1 => ?_) (fun oq1 => ?_)
  · subst oq1
    have tob1 := rgf1 ob1 rfl
    have akob1 := gf1.1 ob1 rfl
    refine c_lv (lv2 := [(2, .ref ob1), (0, .ref a0), (1, .int (iI i))]) [0, 1, 2] rfl ?_
    refine c_st (st2 := []) rfl ?_
    refine c_aload_n (j := 0) (x := ob1) C dX11_judge_19 rfl ?_
    have ri3 : (-2147483648) ≤ iv ob1 0 ∧ iv ob1 0 ≤ 2147483647 := hW.int tob1 0
    refine c_get (k := 0) C ck_10 dX11_judge_20 w2_176 (by decide) tob1 rfl rfl (by decide) rfl ?_
    refine c_iconst C dX11_judge_23 ?_
    refine c_icmp_ne (tgt := 33) C ⟨by omega, by omega⟩ ⟨by decide, by decide⟩ dX11_judge_24 (by decide) (fun c1 => ?_) (fun c1 => ?_)
    · refine c_aload_n (j := 1) (x := a0) C dX11_judge_33 rfl ?_
      refine c_getr (k := 4) C ck_12 dX11_judge_34 w2_48 (by decide) t_a0 rfl rfl (by decide) rfl rq1 ?_
      refine c_st (st2 := [.ref (sk 13)]) rfl ?_
      refine c_iload_n (j := 2) C dX11_judge_37 rfl ?_
      refine d_callV (As := [.int (iI i)]) (rest := []) C hM (G_whole (a0 := (sk 13)) (i := i) hW hS tsk13 (by omega) hmr) dX11_judge_38 kV_X11_231 rfl tsk13 rfl rfl (by decide) ck_11 rfl (Nat.le_of_ble_eq_true rfl) ⟨(Nat.le_of_ble_eq_true rfl), (Nat.le_of_ble_eq_true rfl)⟩ hph hph (show 0 + 0 = 0 from rfl) (by decide) (fun rh2 Lh2 clh2 lnh2 ivh2 rvh2 h2 => ?_)
      obtain ⟨f2, rfl, rfl, rfl, rfl, rfl, rfl, rgf2, exf2⟩ := h2
      refine c_st (st2 := [(va_rf f2)]) rfl ?_
      have gf2 : WOX sk ln iv rv i f2 := exf2
      refine c_ifnonnull (r := f2) (tgt := 50) C dX11_judge_41 (by decide) (fun ob2 oq2 => ?_) (fun oq2 => ?_)
      · subst oq2
        have tob2 := rgf2 ob2 rfl
        refine c_lv (lv2 := [(2, .ref ob1), (0, .ref a0), (1, .int (iI i))]) [0, 1, 2] rfl ?_
        refine c_st (st2 := []) rfl ?_
        refine c_aload_n (j := 0) (x := ob1) C dX11_judge_50 rfl ?_
        refine d_callV (As := []) (rest := []) C hM (G_hasShort (a0 := ob1) hW hS tob1  ) dX11_judge_51 kV_X11_367 rfl tob1 rfl rfl (by decide) ck_10 rfl (Nat.le_of_ble_eq_true rfl) ⟨(Nat.le_of_ble_eq_true rfl), (Nat.le_of_ble_eq_true rfl)⟩ hph hph (show 0 + 0 = 0 from rfl) (by decide) (fun rh3 Lh3 clh3 lnh3 ivh3 rvh3 h3 => ?_)
        obtain ⟨f3, rfl, rfl, rfl, rfl, rfl, rfl, rgf3, exf3⟩ := h3
        refine c_st (st2 := [.int (iI f3)]) rfl ?_
        have gf3 : HSX sk ln iv rv ob1 f3 := exf3
        refine c_if_eq (tgt := 63) C ⟨by omega, by omega⟩ dX11_judge_54 (by decide) (fun c2 => ?_) (fun c2 => ?_)
        · refine c_aload_n (j := 1) (x := a0) C dX11_judge_63 rfl ?_
          obtain ⟨rb2, rq2, trb2⟩ := hW.ref t_a0 7 rfl rfl rfl
          have erb2 := hW.sk trb2 (by decide) rfl
          subst erb2
          refine c_getr (k := 7) C ck_12 dX11_judge_64 w2_51 (by decide) t_a0 rfl rfl (by decide) rfl rq2 ?_
          refine c_st (st2 := [.ref (sk 16)]) rfl ?_
          refine c_aload_n (j := 0) (x := ob1) C dX11_judge_67 rfl ?_
          refine d_callV (As := [.ref ob1]) (rest := []) C hM (G_gather (a0 := (sk 16)) (a1 := ob1) hW hS tsk16 tob1  ) dX11_judge_68 kV_X11_331 rfl tsk16 rfl rfl (by decide) ck_4 rfl (Nat.le_of_ble_eq_true rfl) ⟨(Nat.le_of_ble_eq_true rfl), (Nat.le_of_ble_eq_true rfl)⟩ hph hph (show 0 + 0 = 0 from rfl) (by decide) (fun rh4 Lh4 clh4 lnh4 ivh4 rvh4 h4 => ?_)
          obtain ⟨rfl, xl4, fl4, W4, exf4, gaxf4⟩ := h4
          have F1 := hF0.call hX0 fl4 rfl
          have mr1 := MRK.call hmr hW hS xl4 fl4 rfl rfl
          have X1 := hX0.trans xl4
          have sk1 := xl4.skl hS
          refine c_st (st2 := []) rfl ?_
          refine c_aload_n (j := 1) (x := a0) C dX11_judge_71 rfl ?_
          have ty1 := xl4.ty t_a0
          have re1 : rvh4 a0 7 = rv a0 7 := (fl4.r t_a0 rfl 7)
          rw [rq2] at re1
          refine c_getr (k := 7) C ck_12 dX11_judge_72 w2_51 (by decide) ty1 rfl rfl (by decide) rfl re1 ?_
          refine c_st (st2 := [.ref (sk 16)]) rfl ?_
          have ty2 := xl4.ty tsk16
          obtain ⟨rb3, rq3, trb3⟩ := W4.ref ty2 0 rfl rfl rfl
          have erb3 := W4.sk trb3 (by decide) rfl
          subst erb3
          refine c_getr (k := 0) C ck_4 dX11_judge_75 w1_192 (by decide) ty2 rfl rfl (by decide) rfl rq3 ?_
          refine c_st (st2 := [.ref (sk 24)]) rfl ?_
          refine c_aload_n (j := 1) (x := a0) C dX11_judge_78 rfl ?_
          have ri4 : (-2147483648) ≤ ivh4 a0 13 ∧ ivh4 a0 13 ≤ 2147483647 := W4.int ty1 13
          have ie1 : ivh4 a0 13 = iv a0 13 := fl4.i t_a0 rfl 13
          refine c_get (k := 13) C ck_12 dX11_judge_79 w2_57 (by decide) ty1 rfl rfl (by decide) rfl ?_
          have ty3 := xl4.ty tsk24
          have pl1 := Phi.le W4 sk1
          refine d_callS (As := [.ref (sk 24), .int (iI (ivh4 a0 13))]) (rest := []) C hM (G_isReadable_24 (a0 := (sk 24)) (x := ivh4 a0 13) W4 sk1 ty3 (by omega) ) dX11_judge_82 kS_X11_373 rfl rfl (Nat.le_of_ble_eq_true rfl) ⟨(Nat.le_of_ble_eq_true rfl), (Nat.le_of_ble_eq_true rfl)⟩ hph pl1 (show 0 + 0 = 0 from rfl) (by decide) (fun rh5 Lh5 clh5 lnh5 ivh5 rvh5 h5 => ?_)
          obtain ⟨f5, rfl, rfl, rfl, rfl, rfl, rfl, rgf5, exf5⟩ := h5
          refine c_st (st2 := [.int (iI f5)]) rfl ?_
          have gf5 : RDX Lh4 clh4 lnh4 ivh4 rvh4 (sk 24) (ivh4 a0 13) f5 := exf5
          refine c_if_eq (tgt := 109) C ⟨by omega, by omega⟩ dX11_judge_85 (by decide) (fun c3 => ?_) (fun c3 => ?_)
          · refine c_iconst C dX11_judge_109 ?_
            refine c_istore_n (lv2 := [(3, .int (iI 0)), (2, .ref ob1), (0, .ref a0), (1, .int (iI i))]) C dX11_judge_110 (by decide) rfl ?_
            refine c_aload_n (j := 2) (x := a0) C dX11_judge_111 rfl ?_
            refine c_iload_n (j := 0) C dX11_judge_112 rfl ?_
            refine c_if_eq (tgt := 120) C ⟨by decide, by decide⟩ dX11_judge_113 (by decide) (fun _ => ?_) (fun z => absurd z (by omega))
            refine c_iconst C dX11_judge_120 ?_
            refine d_callV (As := [.int (iI 0)]) (rest := []) C hM (C_done (a0 := a0) (x := 0) W4 sk1 ty1 ⟨by decide, by decide⟩ ) dX11_judge_121 kV_X11_109 rfl ty1 rfl rfl (by decide) ck_12 rfl (Nat.le_of_ble_eq_true rfl) ⟨(Nat.le_of_ble_eq_true rfl), (Nat.le_of_ble_eq_true rfl)⟩ hph pl1 (show 0 + 0 = 0 from rfl) (by decide) (fun rh6 Lh6 clh6 lnh6 ivh6 rvh6 h6 => ?_)
            obtain ⟨f6, rfl, rfl, rfl, rfl, rfl, fl6, W6, rgf6, exf6, kp11f6, kp12f6, kp13f6, kp14f6, kp15f6, kp16f6⟩ := h6
            have ri5 : 1 ≤ ivh4 a0 11 ∧ ivh4 a0 11 ≤ 100 := W4.int ty1 11
            have ie2 : ivh4 a0 11 = iv a0 11 := fl4.i t_a0 rfl 11
            have ri6 : 1 ≤ ivh4 a0 12 ∧ ivh4 a0 12 ≤ 50 := W4.int ty1 12
            have ie3 : ivh4 a0 12 = iv a0 12 := fl4.i t_a0 rfl 12
            have ri7 : (-2147483648) ≤ ivh4 a0 14 ∧ ivh4 a0 14 ≤ 2147483647 := W4.int ty1 14
            have ie4 : ivh4 a0 14 = iv a0 14 := fl4.i t_a0 rfl 14
            have ri8 : (-2147483648) ≤ ivh4 a0 15 ∧ ivh4 a0 15 ≤ 2147483647 := W4.int ty1 15
            have ie5 : ivh4 a0 15 = iv a0 15 := fl4.i t_a0 rfl 15
            have ri9 : (-2147483648) ≤ ivh4 a0 16 ∧ ivh4 a0 16 ≤ 2147483647 := W4.int ty1 16
            have ie6 : ivh4 a0 16 = iv a0 16 := fl4.i t_a0 rfl 16
            have F2 := F1.call X1 fl6 rfl
            have mr2 := MRK.call mr1 W4 sk1 XT.refl fl6 rfl rfl
            refine c_st (st2 := [.int (iI f6)]) rfl ?_
            have gk11f6 : ivh6 a0 11 = ivh4 a0 11 := kp11f6
            have gk12f6 : ivh6 a0 12 = ivh4 a0 12 := kp12f6
            have gk13f6 : ivh6 a0 13 = ivh4 a0 13 := kp13f6
            have gk14f6 : ivh6 a0 14 = ivh4 a0 14 := kp14f6
            have gk15f6 : ivh6 a0 15 = ivh4 a0 15 := kp15f6
            have gk16f6 : ivh6 a0 16 = ivh4 a0 16 := kp16f6
            have gf6 : f6 = (0 : Int) := exf6
            have ri10 : 1 ≤ ivh6 a0 11 ∧ ivh6 a0 11 ≤ 100 := W6.int ty1 11
            have ri11 : 1 ≤ ivh6 a0 12 ∧ ivh6 a0 12 ≤ 50 := W6.int ty1 12
            have ri12 : (-2147483648) ≤ ivh6 a0 13 ∧ ivh6 a0 13 ≤ 2147483647 := W6.int ty1 13
            have ri13 : (-2147483648) ≤ ivh6 a0 14 ∧ ivh6 a0 14 ≤ 2147483647 := W6.int ty1 14
            have ri14 : (-2147483648) ≤ ivh6 a0 15 ∧ ivh6 a0 15 ≤ 2147483647 := W6.int ty1 15
            have ri15 : (-2147483648) ≤ ivh6 a0 16 ∧ ivh6 a0 16 ≤ 2147483647 := W6.int ty1 16
            have ty4 := xl4.ty tob1
            have ri16 : (-2147483648) ≤ ivh6 ob1 0 ∧ ivh6 ob1 0 ≤ 2147483647 := W6.int ty4 0
            have ie13 : ivh6 ob1 0 = ivh4 ob1 0 := fl6.i ty4 rfl 0
            have ie14 : ivh4 ob1 0 = iv ob1 0 := fl4.i tob1 rfl 0
            exact c_iret C dX11_judge_124 rfl (by decide) (rom0 hph pl1 (by decide)) ⟨f6, rfl, X1, F2, W6, ⟨by omega, by omega⟩, trivial, (by omega), (by omega), (by omega), (by omega), (by omega), (by omega), (JTX.rd akob1.2 (by omega) gf2 gf3 (by omega) gaxf4 (by omega) (Or.inl ⟨_, gf5, by omega, by omega⟩)), (show rvh4 a0 9 = rv a0 9 from (fl4.r t_a0 rfl 9)), (show rvh4 a0 10 = rv a0 10 from (fl4.r t_a0 rfl 10))⟩
          · refine c_aload_n (j := 1) (x := a0) C dX11_judge_88 rfl ?_
            refine c_getr (k := 7) C ck_12 dX11_judge_89 w2_51 (by decide) ty1 rfl rfl (by decide) rfl re1 ?_
            refine c_st (st2 := [.ref (sk 16)]) rfl ?_
            obtain ⟨rb4, rq4, trb4⟩ := W4.ref ty2 1 rfl rfl rfl
            have erb4 := W4.sk trb4 (by decide) rfl
            subst erb4
            refine c_getr (k := 1) C ck_4 dX11_judge_92 w1_195 (by decide) ty2 rfl rfl (by decide) rfl rq4 ?_
            refine c_st (st2 := [.ref (sk 25)]) rfl ?_
            refine c_aload_n (j := 1) (x := a0) C dX11_judge_95 rfl ?_
            refine c_get (k := 13) C ck_12 dX11_judge_96 w2_57 (by decide) ty1 rfl rfl (by decide) rfl ?_
            have ty5 := xl4.ty tsk25
            refine d_callS (As := [.ref (sk 25), .int (iI (ivh4 a0 13))]) (rest := []) C hM (G_isReadable_25 (a0 := (sk 25)) (x := ivh4 a0 13) W4 sk1 ty5 (by omega) ) dX11_judge_99 kS_X11_373 rfl rfl (Nat.le_of_ble_eq_true rfl) ⟨(Nat.le_of_ble_eq_true rfl), (Nat.le_of_ble_eq_true rfl)⟩ hph pl1 (show 0 + 0 = 0 from rfl) (by decide) (fun rh7 Lh7 clh7 lnh7 ivh7 rvh7 h7 => ?_)
            obtain ⟨f7, rfl, rfl, rfl, rfl, rfl, rfl, rgf7, exf7⟩ := h7
            refine c_st (st2 := [.int (iI f7)]) rfl ?_
            have gf7 : RDX Lh4 clh4 lnh4 ivh4 rvh4 (sk 25) (ivh4 a0 13) f7 := exf7
            refine c_if_eq (tgt := 109) C ⟨by omega, by omega⟩ dX11_judge_102 (by decide) (fun c4 => ?_) (fun c4 => ?_)
            · refine c_iconst C dX11_judge_109 ?_
              refine c_istore_n (lv2 := [(3, .int (iI 0)), (2, .ref ob1), (0, .ref a0), (1, .int (iI i))]) C dX11_judge_110 (by decide) rfl ?_
              refine c_aload_n (j := 2) (x := a0) C dX11_judge_111 rfl ?_
              refine c_iload_n (j := 0) C dX11_judge_112 rfl ?_
              refine c_if_eq (tgt := 120) C ⟨by decide, by decide⟩ dX11_judge_113 (by decide) (fun _ => ?_) (fun z => absurd z (by omega))
              refine c_iconst C dX11_judge_120 ?_
              refine d_callV (As := [.int (iI 0)]) (rest := []) C hM (C_done (a0 := a0) (x := 0) W4 sk1 ty1 ⟨by decide, by decide⟩ ) dX11_judge_121 kV_X11_109 rfl ty1 rfl rfl (by decide) ck_12 rfl (Nat.le_of_ble_eq_true rfl) ⟨(Nat.le_of_ble_eq_true rfl), (Nat.le_of_ble_eq_true rfl)⟩ hph pl1 (show 0 + 0 = 0 from rfl) (by decide) (fun rh8 Lh8 clh8 lnh8 ivh8 rvh8 h8 => ?_)
              obtain ⟨f8, rfl, rfl, rfl, rfl, rfl, fl8, W8, rgf8, exf8, kp11f8, kp12f8, kp13f8, kp14f8, kp15f8, kp16f8⟩ := h8
              have ri17 : 1 ≤ ivh4 a0 11 ∧ ivh4 a0 11 ≤ 100 := W4.int ty1 11
              have ie15 : ivh4 a0 11 = iv a0 11 := fl4.i t_a0 rfl 11
              have ri18 : 1 ≤ ivh4 a0 12 ∧ ivh4 a0 12 ≤ 50 := W4.int ty1 12
              have ie16 : ivh4 a0 12 = iv a0 12 := fl4.i t_a0 rfl 12
              have ri19 : (-2147483648) ≤ ivh4 a0 14 ∧ ivh4 a0 14 ≤ 2147483647 := W4.int ty1 14
              have ie17 : ivh4 a0 14 = iv a0 14 := fl4.i t_a0 rfl 14
              have ri20 : (-2147483648) ≤ ivh4 a0 15 ∧ ivh4 a0 15 ≤ 2147483647 := W4.int ty1 15
              have ie18 : ivh4 a0 15 = iv a0 15 := fl4.i t_a0 rfl 15
              have ri21 : (-2147483648) ≤ ivh4 a0 16 ∧ ivh4 a0 16 ≤ 2147483647 := W4.int ty1 16
              have ie19 : ivh4 a0 16 = iv a0 16 := fl4.i t_a0 rfl 16
              have F3 := F1.call X1 fl8 rfl
              have mr3 := MRK.call mr1 W4 sk1 XT.refl fl8 rfl rfl
              refine c_st (st2 := [.int (iI f8)]) rfl ?_
              have gk11f8 : ivh8 a0 11 = ivh4 a0 11 := kp11f8
              have gk12f8 : ivh8 a0 12 = ivh4 a0 12 := kp12f8
              have gk13f8 : ivh8 a0 13 = ivh4 a0 13 := kp13f8
              have gk14f8 : ivh8 a0 14 = ivh4 a0 14 := kp14f8
              have gk15f8 : ivh8 a0 15 = ivh4 a0 15 := kp15f8
              have gk16f8 : ivh8 a0 16 = ivh4 a0 16 := kp16f8
              have gf8 : f8 = (0 : Int) := exf8
              have ri22 : 1 ≤ ivh8 a0 11 ∧ ivh8 a0 11 ≤ 100 := W8.int ty1 11
              have ri23 : 1 ≤ ivh8 a0 12 ∧ ivh8 a0 12 ≤ 50 := W8.int ty1 12
              have ri24 : (-2147483648) ≤ ivh8 a0 13 ∧ ivh8 a0 13 ≤ 2147483647 := W8.int ty1 13
              have ri25 : (-2147483648) ≤ ivh8 a0 14 ∧ ivh8 a0 14 ≤ 2147483647 := W8.int ty1 14
              have ri26 : (-2147483648) ≤ ivh8 a0 15 ∧ ivh8 a0 15 ≤ 2147483647 := W8.int ty1 15
              have ri27 : (-2147483648) ≤ ivh8 a0 16 ∧ ivh8 a0 16 ≤ 2147483647 := W8.int ty1 16
              have ty6 := xl4.ty tob1
              have ri28 : (-2147483648) ≤ ivh8 ob1 0 ∧ ivh8 ob1 0 ≤ 2147483647 := W8.int ty6 0
              have ie26 : ivh8 ob1 0 = ivh4 ob1 0 := fl8.i ty6 rfl 0
              have ie27 : ivh4 ob1 0 = iv ob1 0 := fl4.i tob1 rfl 0
              exact c_iret C dX11_judge_124 rfl (by decide) (rom0 hph pl1 (by decide)) ⟨f8, rfl, X1, F3, W8, ⟨by omega, by omega⟩, trivial, (by omega), (by omega), (by omega), (by omega), (by omega), (by omega), (JTX.rd akob1.2 (by omega) gf2 gf3 (by omega) gaxf4 (by omega) (Or.inr ⟨_, _, gf5, by omega, gf7, by omega⟩)), (show rvh4 a0 9 = rv a0 9 from (fl4.r t_a0 rfl 9)), (show rvh4 a0 10 = rv a0 10 from (fl4.r t_a0 rfl 10))⟩
            · refine c_iconst C dX11_judge_105 ?_
              refine c_goto (tgt := 110) C dX11_judge_106 (by decide) ?_
              refine c_istore_n (lv2 := [(3, .int (iI 1)), (2, .ref ob1), (0, .ref a0), (1, .int (iI i))]) C dX11_judge_110 (by decide) rfl ?_
              refine c_aload_n (j := 2) (x := a0) C dX11_judge_111 rfl ?_
              refine c_iload_n (j := 0) C dX11_judge_112 rfl ?_
              refine c_if_eq (tgt := 120) C ⟨by decide, by decide⟩ dX11_judge_113 (by decide) (fun z => absurd z (by omega)) (fun _ => ?_)
              refine c_iconst C dX11_judge_116 ?_
              refine c_goto (tgt := 121) C dX11_judge_117 (by decide) ?_
              refine d_callV (As := [.int (iI 1)]) (rest := []) C hM (C_done (a0 := a0) (x := 1) W4 sk1 ty1 ⟨by decide, by decide⟩ ) dX11_judge_121 kV_X11_109 rfl ty1 rfl rfl (by decide) ck_12 rfl (Nat.le_of_ble_eq_true rfl) ⟨(Nat.le_of_ble_eq_true rfl), (Nat.le_of_ble_eq_true rfl)⟩ hph pl1 (show 0 + 0 = 0 from rfl) (by decide) (fun rh9 Lh9 clh9 lnh9 ivh9 rvh9 h9 => ?_)
              obtain ⟨f9, rfl, rfl, rfl, rfl, rfl, fl9, W9, rgf9, exf9, kp11f9, kp12f9, kp13f9, kp14f9, kp15f9, kp16f9⟩ := h9
              have ri29 : 1 ≤ ivh4 a0 11 ∧ ivh4 a0 11 ≤ 100 := W4.int ty1 11
              have ie28 : ivh4 a0 11 = iv a0 11 := fl4.i t_a0 rfl 11
              have ri30 : 1 ≤ ivh4 a0 12 ∧ ivh4 a0 12 ≤ 50 := W4.int ty1 12
              have ie29 : ivh4 a0 12 = iv a0 12 := fl4.i t_a0 rfl 12
              have ri31 : (-2147483648) ≤ ivh4 a0 14 ∧ ivh4 a0 14 ≤ 2147483647 := W4.int ty1 14
              have ie30 : ivh4 a0 14 = iv a0 14 := fl4.i t_a0 rfl 14
              have ri32 : (-2147483648) ≤ ivh4 a0 15 ∧ ivh4 a0 15 ≤ 2147483647 := W4.int ty1 15
              have ie31 : ivh4 a0 15 = iv a0 15 := fl4.i t_a0 rfl 15
              have ri33 : (-2147483648) ≤ ivh4 a0 16 ∧ ivh4 a0 16 ≤ 2147483647 := W4.int ty1 16
              have ie32 : ivh4 a0 16 = iv a0 16 := fl4.i t_a0 rfl 16
              have F4 := F1.call X1 fl9 rfl
              have mr4 := MRK.call mr1 W4 sk1 XT.refl fl9 rfl rfl
              refine c_st (st2 := [.int (iI f9)]) rfl ?_
              have gk11f9 : ivh9 a0 11 = ivh4 a0 11 := kp11f9
              have gk12f9 : ivh9 a0 12 = ivh4 a0 12 := kp12f9
              have gk13f9 : ivh9 a0 13 = ivh4 a0 13 := kp13f9
              have gk14f9 : ivh9 a0 14 = ivh4 a0 14 := kp14f9
              have gk15f9 : ivh9 a0 15 = ivh4 a0 15 := kp15f9
              have gk16f9 : ivh9 a0 16 = ivh4 a0 16 := kp16f9
              have gf9 : f9 = (1 : Int) := exf9
              have ri34 : 1 ≤ ivh9 a0 11 ∧ ivh9 a0 11 ≤ 100 := W9.int ty1 11
              have ri35 : 1 ≤ ivh9 a0 12 ∧ ivh9 a0 12 ≤ 50 := W9.int ty1 12
              have ri36 : (-2147483648) ≤ ivh9 a0 13 ∧ ivh9 a0 13 ≤ 2147483647 := W9.int ty1 13
              have ri37 : (-2147483648) ≤ ivh9 a0 14 ∧ ivh9 a0 14 ≤ 2147483647 := W9.int ty1 14
              have ri38 : (-2147483648) ≤ ivh9 a0 15 ∧ ivh9 a0 15 ≤ 2147483647 := W9.int ty1 15
              have ri39 : (-2147483648) ≤ ivh9 a0 16 ∧ ivh9 a0 16 ≤ 2147483647 := W9.int ty1 16
              have ty7 := xl4.ty tob1
              have ri40 : (-2147483648) ≤ ivh9 ob1 0 ∧ ivh9 ob1 0 ≤ 2147483647 := W9.int ty7 0
              have ie39 : ivh9 ob1 0 = ivh4 ob1 0 := fl9.i ty7 rfl 0
              have ie40 : ivh4 ob1 0 = iv ob1 0 := fl4.i tob1 rfl 0
              exact c_iret C dX11_judge_124 rfl (by decide) (rom0 hph pl1 (by decide)) ⟨f9, rfl, X1, F4, W9, ⟨by omega, by omega⟩, trivial, (by omega), (by omega), (by omega), (by omega), (by omega), (by omega), (JTX.rd akob1.2 (by omega) gf2 gf3 (by omega) gaxf4 (by omega) (Or.inr ⟨_, _, gf5, by omega, gf7, by omega⟩)), (show rvh4 a0 9 = rv a0 9 from (fl4.r t_a0 rfl 9)), (show rvh4 a0 10 = rv a0 10 from (fl4.r t_a0 rfl 10))⟩
        · refine c_aload_n (j := 1) (x := a0) C dX11_judge_57 rfl ?_
          refine c_iconst C dX11_judge_58 ?_
          refine d_callV (As := [.int (iI 0)]) (rest := []) C hM (C_done (a0 := a0) (x := 0) hW hS t_a0 ⟨by decide, by decide⟩ ) dX11_judge_59 kV_X11_109 rfl t_a0 rfl rfl (by decide) ck_12 rfl (Nat.le_of_ble_eq_true rfl) ⟨(Nat.le_of_ble_eq_true rfl), (Nat.le_of_ble_eq_true rfl)⟩ hph hph (show 0 + 0 = 0 from rfl) (by decide) (fun rh10 Lh10 clh10 lnh10 ivh10 rvh10 h10 => ?_)
          obtain ⟨f10, rfl, rfl, rfl, rfl, rfl, fl10, W10, rgf10, exf10, kp11f10, kp12f10, kp13f10, kp14f10, kp15f10, kp16f10⟩ := h10
          have ri41 : 1 ≤ iv a0 11 ∧ iv a0 11 ≤ 100 := hW.int t_a0 11
          have ri42 : 1 ≤ iv a0 12 ∧ iv a0 12 ≤ 50 := hW.int t_a0 12
          have ri43 : (-2147483648) ≤ iv a0 14 ∧ iv a0 14 ≤ 2147483647 := hW.int t_a0 14
          have ri44 : (-2147483648) ≤ iv a0 15 ∧ iv a0 15 ≤ 2147483647 := hW.int t_a0 15
          have ri45 : (-2147483648) ≤ iv a0 16 ∧ iv a0 16 ≤ 2147483647 := hW.int t_a0 16
          have F5 := hF0.call hX0 fl10 rfl
          have mr5 := MRK.call hmr hW hS XT.refl fl10 rfl rfl
          refine c_st (st2 := [.int (iI f10)]) rfl ?_
          have gk11f10 : ivh10 a0 11 = iv a0 11 := kp11f10
          have gk12f10 : ivh10 a0 12 = iv a0 12 := kp12f10
          have gk13f10 : ivh10 a0 13 = iv a0 13 := kp13f10
          have gk14f10 : ivh10 a0 14 = iv a0 14 := kp14f10
          have gk15f10 : ivh10 a0 15 = iv a0 15 := kp15f10
          have gk16f10 : ivh10 a0 16 = iv a0 16 := kp16f10
          have gf10 : f10 = (0 : Int) := exf10
          have ri46 : 1 ≤ ivh10 a0 11 ∧ ivh10 a0 11 ≤ 100 := W10.int t_a0 11
          have ri47 : 1 ≤ ivh10 a0 12 ∧ ivh10 a0 12 ≤ 50 := W10.int t_a0 12
          have ri48 : (-2147483648) ≤ ivh10 a0 13 ∧ ivh10 a0 13 ≤ 2147483647 := W10.int t_a0 13
          have ri49 : (-2147483648) ≤ ivh10 a0 14 ∧ ivh10 a0 14 ≤ 2147483647 := W10.int t_a0 14
          have ri50 : (-2147483648) ≤ ivh10 a0 15 ∧ ivh10 a0 15 ≤ 2147483647 := W10.int t_a0 15
          have ri51 : (-2147483648) ≤ ivh10 a0 16 ∧ ivh10 a0 16 ≤ 2147483647 := W10.int t_a0 16
          have ri52 : (-2147483648) ≤ ivh10 ob1 0 ∧ ivh10 ob1 0 ≤ 2147483647 := W10.int tob1 0
          have ie47 : ivh10 ob1 0 = iv ob1 0 := fl10.i tob1 rfl 0
          exact c_iret C dX11_judge_62 rfl (by decide) (rom0 hph hph (by decide)) ⟨f10, rfl, hX0, F5, W10, ⟨by omega, by omega⟩, trivial, (by omega), (by omega), (by omega), (by omega), (by omega), (by omega), (JTX.sh akob1.2 (by omega) gf2 gf3 (by omega) (by omega)), rfl, rfl⟩
      · subst oq2
        refine c_lv (lv2 := [(2, .ref ob1), (0, .ref a0), (1, .int (iI i))]) [0, 1, 2] rfl ?_
        refine c_st (st2 := []) rfl ?_
        refine c_aload_n (j := 1) (x := a0) C dX11_judge_44 rfl ?_
        refine c_iconst C dX11_judge_45 ?_
        refine d_callV (As := [.int (iI 3)]) (rest := []) C hM (C_refuse (a0 := a0) (x := 3) hW hS t_a0 ⟨by decide, by decide⟩ ) dX11_judge_46 kV_X11_102 rfl t_a0 rfl rfl (by decide) ck_12 rfl (Nat.le_of_ble_eq_true rfl) ⟨(Nat.le_of_ble_eq_true rfl), (Nat.le_of_ble_eq_true rfl)⟩ hph hph (show 0 + 0 = 0 from rfl) (by decide) (fun rh11 Lh11 clh11 lnh11 ivh11 rvh11 h11 => ?_)
        obtain ⟨f11, rfl, rfl, rfl, rfl, rfl, fl11, W11, rgf11, exf11, kp11f11, kp12f11, kp13f11, kp14f11, kp15f11, kp16f11⟩ := h11
        have ri53 : 1 ≤ iv a0 11 ∧ iv a0 11 ≤ 100 := hW.int t_a0 11
        have ri54 : 1 ≤ iv a0 12 ∧ iv a0 12 ≤ 50 := hW.int t_a0 12
        have ri55 : (-2147483648) ≤ iv a0 14 ∧ iv a0 14 ≤ 2147483647 := hW.int t_a0 14
        have ri56 : (-2147483648) ≤ iv a0 15 ∧ iv a0 15 ≤ 2147483647 := hW.int t_a0 15
        have ri57 : (-2147483648) ≤ iv a0 16 ∧ iv a0 16 ≤ 2147483647 := hW.int t_a0 16
        have F6 := hF0.call hX0 fl11 rfl
        have mr6 := MRK.call hmr hW hS XT.refl fl11 rfl rfl
        refine c_st (st2 := [.int (iI f11)]) rfl ?_
        have gk11f11 : ivh11 a0 11 = iv a0 11 := kp11f11
        have gk12f11 : ivh11 a0 12 = iv a0 12 := kp12f11
        have gk13f11 : ivh11 a0 13 = iv a0 13 := kp13f11
        have gk14f11 : ivh11 a0 14 = iv a0 14 := kp14f11
        have gk15f11 : ivh11 a0 15 = iv a0 15 := kp15f11
        have gk16f11 : ivh11 a0 16 = iv a0 16 := kp16f11
        have gf11 : f11 = -1 := exf11
        have ri58 : 1 ≤ ivh11 a0 11 ∧ ivh11 a0 11 ≤ 100 := W11.int t_a0 11
        have ri59 : 1 ≤ ivh11 a0 12 ∧ ivh11 a0 12 ≤ 50 := W11.int t_a0 12
        have ri60 : (-2147483648) ≤ ivh11 a0 13 ∧ ivh11 a0 13 ≤ 2147483647 := W11.int t_a0 13
        have ri61 : (-2147483648) ≤ ivh11 a0 14 ∧ ivh11 a0 14 ≤ 2147483647 := W11.int t_a0 14
        have ri62 : (-2147483648) ≤ ivh11 a0 15 ∧ ivh11 a0 15 ≤ 2147483647 := W11.int t_a0 15
        have ri63 : (-2147483648) ≤ ivh11 a0 16 ∧ ivh11 a0 16 ≤ 2147483647 := W11.int t_a0 16
        have ri64 : (-2147483648) ≤ ivh11 ob1 0 ∧ ivh11 ob1 0 ≤ 2147483647 := W11.int tob1 0
        have ie54 : ivh11 ob1 0 = iv ob1 0 := fl11.i tob1 rfl 0
        exact c_iret C dX11_judge_49 rfl (by decide) (rom0 hph hph (by decide)) ⟨f11, rfl, hX0, F6, W11, ⟨by omega, by omega⟩, trivial, (by omega), (by omega), (by omega), (by omega), (by omega), (by omega), (JTX.n3 gf2 (by omega)), rfl, rfl⟩
    · refine c_aload_n (j := 1) (x := a0) C dX11_judge_27 rfl ?_
      refine c_iconst C dX11_judge_28 ?_
      refine d_callV (As := [.int (iI 4)]) (rest := []) C hM (C_refuse (a0 := a0) (x := 4) hW hS t_a0 ⟨by decide, by decide⟩ ) dX11_judge_29 kV_X11_102 rfl t_a0 rfl rfl (by decide) ck_12 rfl (Nat.le_of_ble_eq_true rfl) ⟨(Nat.le_of_ble_eq_true rfl), (Nat.le_of_ble_eq_true rfl)⟩ hph hph (show 0 + 0 = 0 from rfl) (by decide) (fun rh12 Lh12 clh12 lnh12 ivh12 rvh12 h12 => ?_)
      obtain ⟨f12, rfl, rfl, rfl, rfl, rfl, fl12, W12, rgf12, exf12, kp11f12, kp12f12, kp13f12, kp14f12, kp15f12, kp16f12⟩ := h12
      have ri65 : 1 ≤ iv a0 11 ∧ iv a0 11 ≤ 100 := hW.int t_a0 11
      have ri66 : 1 ≤ iv a0 12 ∧ iv a0 12 ≤ 50 := hW.int t_a0 12
      have ri67 : (-2147483648) ≤ iv a0 14 ∧ iv a0 14 ≤ 2147483647 := hW.int t_a0 14
      have ri68 : (-2147483648) ≤ iv a0 15 ∧ iv a0 15 ≤ 2147483647 := hW.int t_a0 15
      have ri69 : (-2147483648) ≤ iv a0 16 ∧ iv a0 16 ≤ 2147483647 := hW.int t_a0 16
      have F7 := hF0.call hX0 fl12 rfl
      have mr7 := MRK.call hmr hW hS XT.refl fl12 rfl rfl
      refine c_st (st2 := [.int (iI f12)]) rfl ?_
      have gk11f12 : ivh12 a0 11 = iv a0 11 := kp11f12
      have gk12f12 : ivh12 a0 12 = iv a0 12 := kp12f12
      have gk13f12 : ivh12 a0 13 = iv a0 13 := kp13f12
      have gk14f12 : ivh12 a0 14 = iv a0 14 := kp14f12
      have gk15f12 : ivh12 a0 15 = iv a0 15 := kp15f12
      have gk16f12 : ivh12 a0 16 = iv a0 16 := kp16f12
      have gf12 : f12 = -1 := exf12
      have ri70 : 1 ≤ ivh12 a0 11 ∧ ivh12 a0 11 ≤ 100 := W12.int t_a0 11
      have ri71 : 1 ≤ ivh12 a0 12 ∧ ivh12 a0 12 ≤ 50 := W12.int t_a0 12
      have ri72 : (-2147483648) ≤ ivh12 a0 13 ∧ ivh12 a0 13 ≤ 2147483647 := W12.int t_a0 13
      have ri73 : (-2147483648) ≤ ivh12 a0 14 ∧ ivh12 a0 14 ≤ 2147483647 := W12.int t_a0 14
      have ri74 : (-2147483648) ≤ ivh12 a0 15 ∧ ivh12 a0 15 ≤ 2147483647 := W12.int t_a0 15
      have ri75 : (-2147483648) ≤ ivh12 a0 16 ∧ ivh12 a0 16 ≤ 2147483647 := W12.int t_a0 16
      have ri76 : (-2147483648) ≤ ivh12 ob1 0 ∧ ivh12 ob1 0 ≤ 2147483647 := W12.int tob1 0
      have ie61 : ivh12 ob1 0 = iv ob1 0 := fl12.i tob1 rfl 0
      exact c_iret C dX11_judge_32 rfl (by decide) (rom0 hph hph (by decide)) ⟨f12, rfl, hX0, F7, W12, ⟨by omega, by omega⟩, trivial, (by omega), (by omega), (by omega), (by omega), (by omega), (by omega), (JTX.n2 akob1.2 (by omega) (by omega)), rfl, rfl⟩
  · subst oq1
    refine c_lv (lv2 := [(2, .null), (0, .ref a0), (1, .int (iI i))]) [0, 1, 2] rfl ?_
    refine c_st (st2 := []) rfl ?_
    refine c_aload_n (j := 1) (x := a0) C dX11_judge_13 rfl ?_
    refine c_iconst C dX11_judge_14 ?_
    refine d_callV (As := [.int (iI 3)]) (rest := []) C hM (C_refuse (a0 := a0) (x := 3) hW hS t_a0 ⟨by decide, by decide⟩ ) dX11_judge_15 kV_X11_102 rfl t_a0 rfl rfl (by decide) ck_12 rfl (Nat.le_of_ble_eq_true rfl) ⟨(Nat.le_of_ble_eq_true rfl), (Nat.le_of_ble_eq_true rfl)⟩ hph hph (show 0 + 0 = 0 from rfl) (by decide) (fun rh13 Lh13 clh13 lnh13 ivh13 rvh13 h13 => ?_)
    obtain ⟨f13, rfl, rfl, rfl, rfl, rfl, fl13, W13, rgf13, exf13, kp11f13, kp12f13, kp13f13, kp14f13, kp15f13, kp16f13⟩ := h13
    have ri77 : 1 ≤ iv a0 11 ∧ iv a0 11 ≤ 100 := hW.int t_a0 11
    have ri78 : 1 ≤ iv a0 12 ∧ iv a0 12 ≤ 50 := hW.int t_a0 12
    have ri79 : (-2147483648) ≤ iv a0 14 ∧ iv a0 14 ≤ 2147483647 := hW.int t_a0 14
    have ri80 : (-2147483648) ≤ iv a0 15 ∧ iv a0 15 ≤ 2147483647 := hW.int t_a0 15
    have ri81 : (-2147483648) ≤ iv a0 16 ∧ iv a0 16 ≤ 2147483647 := hW.int t_a0 16
    have F8 := hF0.call hX0 fl13 rfl
    have mr8 := MRK.call hmr hW hS XT.refl fl13 rfl rfl
    refine c_st (st2 := [.int (iI f13)]) rfl ?_
    have gk11f13 : ivh13 a0 11 = iv a0 11 := kp11f13
    have gk12f13 : ivh13 a0 12 = iv a0 12 := kp12f13
    have gk13f13 : ivh13 a0 13 = iv a0 13 := kp13f13
    have gk14f13 : ivh13 a0 14 = iv a0 14 := kp14f13
    have gk15f13 : ivh13 a0 15 = iv a0 15 := kp15f13
    have gk16f13 : ivh13 a0 16 = iv a0 16 := kp16f13
    have gf13 : f13 = -1 := exf13
    have ri82 : 1 ≤ ivh13 a0 11 ∧ ivh13 a0 11 ≤ 100 := W13.int t_a0 11
    have ri83 : 1 ≤ ivh13 a0 12 ∧ ivh13 a0 12 ≤ 50 := W13.int t_a0 12
    have ri84 : (-2147483648) ≤ ivh13 a0 13 ∧ ivh13 a0 13 ≤ 2147483647 := W13.int t_a0 13
    have ri85 : (-2147483648) ≤ ivh13 a0 14 ∧ ivh13 a0 14 ≤ 2147483647 := W13.int t_a0 14
    have ri86 : (-2147483648) ≤ ivh13 a0 15 ∧ ivh13 a0 15 ≤ 2147483647 := W13.int t_a0 15
    have ri87 : (-2147483648) ≤ ivh13 a0 16 ∧ ivh13 a0 16 ≤ 2147483647 := W13.int t_a0 16
    exact c_iret C dX11_judge_18 rfl (by decide) (rom0 hph hph (by decide)) ⟨f13, rfl, hX0, F8, W13, ⟨by omega, by omega⟩, trivial, (by omega), (by omega), (by omega), (by omega), (by omega), (by omega), (JTX.n1 (gf1.2 rfl) (by omega)), rfl, rfl⟩
