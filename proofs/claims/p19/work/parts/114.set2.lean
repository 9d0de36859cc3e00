section
set_option maxHeartbeats 4000000 in
set_option maxRecDepth 100000 in
theorem C_setPart {l : Launch} {G : GT} {mi : Nat} {sk : Nat → Nat} {L : List Nat} {cl ln : Nat → Nat} {iv : Nat → Nat → Int} {rv : Nat → Nat → Option Nat}  {a0 : Nat} {r : Option Nat} {i : Int} {n : Int} (hW : WT (g0 G) sk L cl ln iv rv) (hS : SKL sk L cl) (t_a0 : ty L cl a0 15) (t_r : ∀ b, r = some b → ty L cl b 100) (h_i : -2147483648 ≤ i ∧ i ≤ 2147483647) (h_n : -2147483648 ≤ n ∧ n ≤ 2147483647) (hi : 0 ≤ i ∧ i ≤ 500 ∧ 0 ≤ n ∧ n ≤ 500 ∧ iv a0 7 ≤ 50000) : Mc l G mi (Phi (g0 G) sk) PHM yX6_setPart cX6_setPart 9 (some .int) 5 [.ref a0, va_rf r, .int (iI i), .int (iI n)] L cl ln iv rv 0 (fun v L2 cl2 ln2 iv2 rv2 => ∃ f : Int, v = some (.int (iI f)) ∧ L = L2 ∧ cl = cl2 ∧ ln = ln2 ∧ rv = rv2 ∧ fT [15, 53, 54, 55] L cl iv rv iv2 rv2 ∧ WT (g0 G) sk L2 cl2 ln2 iv2 rv2 ∧ (-2147483648 ≤ f ∧ f ≤ 2147483647) ∧ ((f = 0 ∨ f = 6 ∨ f = 7) ∧ iv2 a0 4 = iv a0 4 ∧ iv2 a0 7 ≤ iv a0 7 + 208 ∧ (f = 0 → (iv2 a0 7 ≤ iv a0 7 ∨ iv2 a0 7 ≤ 200)))) := by
  refine Mc.mk (by decide) (by cases r <;> exact Nat.le_of_ble_eq_true rfl) ?_
  intro p e s m args below meth c A C hM
  have hph := Phi.le hW hS
  refine c_lveq (show lv_args 0 [.ref a0, va_rf r, .int (iI i), .int (iI n)] = [(0, .ref a0), (1, (va_rf r)), (2, .int (iI i)), (3, .int (iI n))] from by cases r <;> rfl) ?_
  refine hv3 (show 0 ≤ iv a0 7 from (hW.int t_a0 7).1) (show XT L cl ln L cl ln from XT.refl) (show fT [15, 53, 54, 55] L cl iv rv iv rv from fT.refl) (fun hc00 hX0 hF0 => ?_)
  refine c_aloadr_n (j := 1) (r := r) C dX6_setPart_0 rfl ?_
  refine c_ifnonnull (r := r) (tgt := 6) C dX6_setPart_1 (by decide) (fun ob1 oq1 => ?_) (fun oq1 => ?_)
  · subst oq1
    have tob1 := t_r ob1 rfl
    refine c_lv (lv2 := [(0, .ref a0), (1, .ref ob1), (2, .int (iI i)), (3, .int (iI n))]) [0, 1, 2, 3] rfl ?_
    refine c_st (st2 := []) rfl ?_
    refine c_aload_n (j := 0) (x := a0) C dX6_setPart_6 rfl ?_
    refine c_iload_n (j := 2) C dX6_setPart_7 rfl ?_
    refine c_put (z := i) (k := 10) C ck_7 dX6_setPart_8 w1_152 (by decide) rfl t_a0 rfl rfl (by decide) rfl (by rfl) (by rfl) (fun iv1 pq1 => ?_)
    refine hv2 (hW.puti pq1 t_a0 (show 0 ≤ i ∧ i ≤ 500 by omega) rfl) (hF0.puti hX0 pq1 t_a0 rfl) (fun W1 F1 => ?_)
    refine c_aload_n (j := 0) (x := a0) C dX6_setPart_11 rfl ?_
    refine c_iload_n (j := 3) C dX6_setPart_12 rfl ?_
    refine c_put (z := n) (k := 11) C ck_7 dX6_setPart_13 w1_153 (by decide) rfl t_a0 rfl rfl (by decide) rfl (by rfl) (by rfl) (fun iv2 pq2 => ?_)
    refine hv2 (W1.puti pq2 t_a0 (show 0 ≤ n ∧ n ≤ 500 by omega) rfl) (F1.puti hX0 pq2 t_a0 rfl) (fun W2 F2 => ?_)
    have Lp1 : ∀ (nn : Nat) (cp : Option Nat) (aq : Int) (ivb1 : Nat → Nat → Int) , 509 - aq < (nn : Int) → WT (g0 G) sk L cl ln ivb1 rv → fT [15, 53, 54, 55] L cl iv rv ivb1 rv → (∀ b, cp = some b → ty L cl b 20) → (i ≤ aq ∧ aq ≤ 508) → (ivb1 a0 7 ≤ iv a0 7 ∨ ivb1 a0 7 ≤ 200) → (ivb1 a0 4 = iv a0 4) → cw p l e 5 ((PHM) + 0 - ((Phi (g0 G) sk) ln rv)) s m args below meth c G A 9 (MQ below (Qu G A (Qp G (Phi (g0 G) sk) ((Phi (g0 G) sk) ln rv) 0 (fun v L2 cl2 ln2 iv2 rv2 => ∃ f : Int, v = some (.int (iI f)) ∧ L = L2 ∧ cl = cl2 ∧ ln = ln2 ∧ rv = rv2 ∧ fT [15, 53, 54, 55] L cl iv rv iv2 rv2 ∧ WT (g0 G) sk L2 cl2 ln2 iv2 rv2 ∧ (-2147483648 ≤ f ∧ f ≤ 2147483647) ∧ ((f = 0 ∨ f = 6 ∨ f = 7) ∧ iv2 a0 4 = iv a0 4 ∧ iv2 a0 7 ≤ iv a0 7 + 208 ∧ (f = 0 → (iv2 a0 7 ≤ iv a0 7 ∨ iv2 a0 7 ≤ 200)))))) args s (((PHM) + 0 - ((Phi (g0 G) sk) ln rv)) / 16) ((PHM) + 0 - ((Phi (g0 G) sk) ln rv)) A) (Phi (g0 G) sk) ((Phi (g0 G) sk) ln rv) L cl ln ivb1 rv 0 39 [(4, (va_rf cp)), (5, .int (iI aq)), (0, .ref a0), (1, .ref ob1), (2, .int (iI i)), (3, .int (iI n))] [] := by
      intro nn
      induction nn with
      | zero =>
        intro cp aq ivb1 hm Wb1 Fb1 ty_cp hat hc7 hc4
        exact absurd hm (by omega)
      | succ nn ih1 =>
        intro cp aq ivb1 hm Wb1 Fb1 ty_cp hat hc7 hc4
        refine c_iload (j := 1) C dX6_setPart_39 rfl ?_
        refine c_iload_n (j := 5) C dX6_setPart_41 rfl ?_
        refine c_icmp_ge (tgt := 179) C ⟨by omega, by omega⟩ ⟨by omega, by omega⟩ dX6_setPart_42 (by decide) (fun c1 => ?_) (fun c1 => ?_)
        · refine c_iconst C dX6_setPart_179 ?_
          refine hv2 (show 0 ≤ ivb1 a0 4 ∧ ivb1 a0 4 ≤ 500 from Wb1.int t_a0 4) (show 0 ≤ ivb1 a0 7 ∧ ivb1 a0 7 ≤ 100000 from Wb1.int t_a0 7) (fun ri1 ri2 => ?_)
          exact c_iret C dX6_setPart_180 rfl (by decide) (rom0 hph hph (by decide)) ⟨0, rfl, rfl, rfl, rfl, rfl, Fb1, Wb1, ⟨by decide, by decide⟩, (by omega)⟩
        · refine c_aload_n (j := 2) (x := a0) C dX6_setPart_45 rfl ?_
          obtain ⟨rb1, rq1, trb1⟩ := Wb1.ref t_a0 0 rfl rfl rfl
          have lnrb1 : 500 ≤ ln rb1 ∧ ln rb1 ≤ 500 := Wb1.len trb1 rfl
          refine c_getr (k := 0) C ck_7 dX6_setPart_46 w1_136 (by decide) t_a0 rfl rfl (by decide) rfl rq1 ?_
          refine c_st (st2 := [.ref rb1]) rfl ?_
          refine c_iload (j := 1) C dX6_setPart_49 rfl ?_
          have ll1 : 500 ≤ ln rb1 ∧ ln rb1 ≤ 500 := Wb1.len trb1 rfl
          refine c_iald C dX6_setPart_51 trb1 rfl (by omega) (by omega) (by omega) ?_
          refine hv2 (show (-2147483648) ≤ ivb1 rb1 aq.toNat ∧ ivb1 rb1 aq.toNat ≤ 2147483647 from Wb1.int trb1 aq.toNat) (show ivb1 rb1 aq.toNat = iv rb1 aq.toNat from Fb1.i trb1 rfl aq.toNat) (fun ri3 ie3 => ?_)
          refine c_istore (lv2 := [(6, .int (iI (ivb1 rb1 aq.toNat))), (4, (va_rf cp)), (5, .int (iI aq)), (0, .ref a0), (1, .ref ob1), (2, .int (iI i)), (3, .int (iI n))]) C dX6_setPart_52 (by decide) rfl ?_
          refine c_aload_n (j := 3) (x := a0) C dX6_setPart_54 rfl ?_
          refine c_aload_n (j := 4) (x := ob1) C dX6_setPart_55 rfl ?_
          refine c_iload (j := 2) C dX6_setPart_56 rfl ?_
          refine d_callV (As := [.ref ob1, .int (iI aq)]) (rest := []) C hM (C_numberAhead (a0 := a0) (a1 := ob1) (i := aq) Wb1 hS t_a0 tob1 (by omega) (by show 0 ≤ aq ∧ aq < 500; omega)) dX6_setPart_58 kV_X6_90 rfl t_a0 rfl rfl (by decide) ck_7 rfl (Nat.le_of_ble_eq_true rfl) ⟨(Nat.le_of_ble_eq_true rfl), (Nat.le_of_ble_eq_true rfl)⟩ hph hph (show 0 + 0 = 0 from rfl) (by decide) (fun rh1 Lh1 clh1 lnh1 ivh1 rvh1 h1 => ?_)
          obtain ⟨f1, rfl, rfl, rfl, rfl, rfl, rfl, rgf1, exf1⟩ := h1
          refine c_st (st2 := [(va_rf f1)]) rfl ?_
          refine c_astorer (r := f1) (lv2 := [(7, (va_rf f1)), (6, .int (iI (ivb1 rb1 aq.toNat))), (4, (va_rf cp)), (5, .int (iI aq)), (0, .ref a0), (1, .ref ob1), (2, .int (iI i)), (3, .int (iI n))]) C dX6_setPart_61 (by decide) rfl ?_
          refine c_aload_n (j := 4) (x := a0) C dX6_setPart_63 rfl ?_
          refine c_aload_n (j := 5) (x := ob1) C dX6_setPart_64 rfl ?_
          refine c_iload (j := 3) C dX6_setPart_65 rfl ?_
          refine c_iload (j := 1) C dX6_setPart_67 rfl ?_
          refine d_callV (As := [.ref ob1, .int (iI aq), .int (iI (ivb1 rb1 aq.toNat))]) (rest := []) C hM (C_find (a0 := a0) (a1 := ob1) (i := aq) (x := ivb1 rb1 aq.toNat) Wb1 hS t_a0 tob1 (by omega) (by omega) (by show 0 ≤ aq ∧ aq ≤ 500; omega)) dX6_setPart_69 kV_X6_94 rfl t_a0 rfl rfl (by decide) ck_7 rfl (Nat.le_of_ble_eq_true rfl) ⟨(Nat.le_of_ble_eq_true rfl), (Nat.le_of_ble_eq_true rfl)⟩ hph hph (show 0 + 0 = 0 from rfl) (by decide) (fun rh2 Lh2 clh2 lnh2 ivh2 rvh2 h2 => ?_)
          obtain ⟨f2, rfl, rfl, rfl, rfl, rfl, fl2, W4, rgf2, exf2⟩ := h2
          have F3 := Fb1.call hX0 fl2 rfl
          refine c_st (st2 := [(va_rf f2)]) rfl ?_
          refine c_astorer (r := f2) (lv2 := [(8, (va_rf f2)), (7, (va_rf f1)), (6, .int (iI (ivb1 rb1 aq.toNat))), (4, (va_rf cp)), (5, .int (iI aq)), (0, .ref a0), (1, .ref ob1), (2, .int (iI i)), (3, .int (iI n))]) C dX6_setPart_72 (by decide) (by cases f1 <;> rfl) ?_
          refine c_aloadr (j := 0) (r := f2) C dX6_setPart_74 rfl ?_
          refine c_ifnonnull (r := f2) (tgt := 110) C dX6_setPart_76 (by decide) (fun ob2 oq2 => ?_) (fun oq2 => ?_)
          · subst oq2
            have tob2 := rgf2 ob2 rfl
            refine c_lv (lv2 := [(8, .ref ob2), (7, (va_rf f1)), (6, .int (iI (ivb1 rb1 aq.toNat))), (4, (va_rf cp)), (5, .int (iI aq)), (0, .ref a0), (1, .ref ob1), (2, .int (iI i)), (3, .int (iI n))]) [0, 1, 2, 3, 4, 5, 6, 7, 8] rfl ?_
            refine c_st (st2 := []) rfl ?_
            refine c_aload (j := 0) (x := ob2) C dX6_setPart_110 rfl ?_
            refine c_ifnonnull (r := (some ob2)) (tgt := 124) C dX6_setPart_112 (by decide) (fun _ _ => ?_) (fun q => by cases q)
            refine c_aload_n (j := 5) (x := a0) C dX6_setPart_124 rfl ?_
            refine c_iload (j := 4) C dX6_setPart_125 rfl ?_
            refine c_aload (j := 0) (x := ob2) C dX6_setPart_127 rfl ?_
            obtain ⟨rb2, rq2, trb2⟩ := W4.ref tob2 1 rfl rfl rfl
            have lnrb2 : 0 ≤ ln rb2 ∧ ln rb2 ≤ 8 := W4.len trb2 rfl
            refine c_getr (k := 1) C ck_6 dX6_setPart_129 w3_141 (by decide) tob2 rfl rfl (by decide) rfl rq2 ?_
            refine c_st (st2 := [.ref rb2, .int (iI aq), .ref a0]) rfl ?_
            have ll2 : 0 ≤ ln rb2 ∧ ln rb2 ≤ 8 := W4.len trb2 rfl
            refine c_alenI C dX6_setPart_132 trb2 rfl ?_
            refine d_callV (As := [.int (iI aq), .int (iI ((ln rb2 : Nat) : Int))]) (rest := []) C hM (C_markStart (a0 := a0) (i := aq) (n := ((ln rb2 : Nat) : Int)) W4 hS t_a0 (by omega) (by omega) (by show 0 ≤ aq ∧ aq ≤ 500 ∧ 0 ≤ ((ln rb2 : Nat) : Int) ∧ ((ln rb2 : Nat) : Int) ≤ 8; omega)) dX6_setPart_133 kV_X6_105 rfl t_a0 rfl rfl (by decide) ck_7 rfl (Nat.le_of_ble_eq_true rfl) ⟨(Nat.le_of_ble_eq_true rfl), (Nat.le_of_ble_eq_true rfl)⟩ hph hph (show 0 + 0 = 0 from rfl) (by decide) (fun rh3 Lh3 clh3 lnh3 ivh3 rvh3 h3 => ?_)
            obtain ⟨rfl, rfl, rfl, rfl, rfl, fl3, W5, exf3⟩ := h3
            have F4 := F3.call hX0 fl3 rfl
            refine c_st (st2 := []) rfl ?_
            refine c_aload_n (j := 5) (x := a0) C dX6_setPart_136 rfl ?_
            refine c_aloadr (j := 1) (r := f1) C dX6_setPart_137 rfl ?_
            refine hv6 (show 0 ≤ ivh3 a0 7 ∧ ivh3 a0 7 ≤ 100000 from W5.int t_a0 7) (show ivh3 a0 7 = ivh2 a0 7 from fl3.i t_a0 rfl 7) (show ivh2 a0 7 = ivb1 a0 7 from fl2.i t_a0 rfl 7) (show 0 ≤ ivh3 a0 4 ∧ ivh3 a0 4 ≤ 500 from W5.int t_a0 4) (show ivh3 a0 4 = ivh2 a0 4 from fl3.i t_a0 rfl 4) (show ivh2 a0 4 = ivb1 a0 4 from fl2.i t_a0 rfl 4) (fun ri4 ie4 ie5 ri5 ie7 ie8 => ?_)
            refine d_callV (As := [(va_rf f1)]) (rest := []) C hM (C_push (a0 := a0) (r := f1) W5 hS t_a0 rgf1  (by show ivh3 a0 7 ≤ 90000; omega)) dX6_setPart_139 kV_X6_86 rfl t_a0 rfl rfl (by decide) ck_7 rfl (Nat.le_of_ble_eq_true rfl) ⟨(Nat.le_of_ble_eq_true rfl), (Nat.le_of_ble_eq_true rfl)⟩ hph hph (show 0 + 0 = 0 from rfl) (by decide) (fun rh4 Lh4 clh4 lnh4 ivh4 rvh4 h4 => ?_)
            obtain ⟨rfl, rfl, rfl, rfl, rfl, fl4, W6, exf4⟩ := h4
            have F5 := F4.call hX0 fl4 rfl
            refine c_st (st2 := []) rfl ?_
            refine hv3 (show 0 ≤ ivh4 a0 4 ∧ ivh4 a0 4 ≤ 500 from W6.int t_a0 4) (show 0 ≤ ivh4 a0 7 ∧ ivh4 a0 7 ≤ 100000 from W6.int t_a0 7) (show ivh4 a0 4 = ivh3 a0 4 ∧ ivh3 a0 7 ≤ ivh4 a0 7 ∧ ivh4 a0 7 ≤ ivh3 a0 7 + 4 from exf4) (fun ri6 ri7 gf4 => ?_)
            refine c_aload_n (j := 5) (x := a0) C dX6_setPart_142 rfl ?_
            refine c_aload (j := 0) (x := ob2) C dX6_setPart_143 rfl ?_
            refine d_callV (As := [.ref ob2]) (rest := []) C hM (C_push (a0 := a0) (r := (some ob2)) W6 hS t_a0 (fun _ q => by cases q; exact tob2)  (by show ivh4 a0 7 ≤ 90000; omega)) dX6_setPart_145 kV_X6_86 rfl t_a0 rfl rfl (by decide) ck_7 rfl (Nat.le_of_ble_eq_true rfl) ⟨(Nat.le_of_ble_eq_true rfl), (Nat.le_of_ble_eq_true rfl)⟩ hph hph (show 0 + 0 = 0 from rfl) (by decide) (fun rh5 Lh5 clh5 lnh5 ivh5 rvh5 h5 => ?_)
            obtain ⟨rfl, rfl, rfl, rfl, rfl, fl5, W7, exf5⟩ := h5
            have F6 := F5.call hX0 fl5 rfl
            refine c_st (st2 := []) rfl ?_
            refine hv3 (show 0 ≤ ivh5 a0 4 ∧ ivh5 a0 4 ≤ 500 from W7.int t_a0 4) (show 0 ≤ ivh5 a0 7 ∧ ivh5 a0 7 ≤ 100000 from W7.int t_a0 7) (show ivh5 a0 4 = ivh4 a0 4 ∧ ivh4 a0 7 ≤ ivh5 a0 7 ∧ ivh5 a0 7 ≤ ivh4 a0 7 + 4 from exf5) (fun ri8 ri9 gf5 => ?_)
            refine c_aload_n (j := 5) (x := a0) C dX6_setPart_148 rfl ?_
            refine c_get (k := 7) C ck_7 dX6_setPart_149 w1_147 (by decide) t_a0 rfl rfl (by decide) rfl ?_
            refine c_sipush (z := 200) C dX6_setPart_152 (by decide) ?_
            refine c_icmp_le (tgt := 161) C (r32_c (lo := 0) (hi := 100000) ri9.1 ri9.2 (by decide) (by decide)) ⟨by decide, by decide⟩ dX6_setPart_155 (by decide) (fun c2 => ?_) (fun c2 => ?_)
            · refine c_iload (j := 4) C dX6_setPart_161 rfl ?_
              refine c_iconst C dX6_setPart_163 ?_
              refine c_aload (j := 0) (x := ob2) C dX6_setPart_164 rfl ?_
              refine c_getr (k := 1) C ck_6 dX6_setPart_166 w3_141 (by decide) tob2 rfl rfl (by decide) rfl rq2 ?_
              refine c_st (st2 := [.ref rb2, .int (iI 1), .int (iI aq)]) rfl ?_
              refine c_alenI C dX6_setPart_169 trb2 rfl ?_
              obtain ⟨mn1, hmn1, emn1⟩ := mmax_c (x := 1) (y := ((ln rb2 : Nat) : Int)) ⟨by decide, by decide⟩ ⟨by omega, by omega⟩
              refine c_mmax (w := iI mn1) C dX6_setPart_170 w4_130 w2_148 w1_14 w2_149 (by decide) (rom0 hph hph (by decide)) (Nat.le_of_ble_eq_true rfl) emn1 ?_
              refine c_iadd C dX6_setPart_173 ?_
              refine c_istore (lv2 := [(5, .int (iI (aq + mn1))), (8, .ref ob2), (7, (va_rf f1)), (6, .int (iI (ivb1 rb1 aq.toNat))), (4, (va_rf cp)), (0, .ref a0), (1, .ref ob1), (2, .int (iI i)), (3, .int (iI n))]) C dX6_setPart_174 (by decide) (by cases cp <;> rfl) ?_
              refine c_goto (tgt := 39) C dX6_setPart_176 (by decide) ?_
              refine c_lv (lv2 := [(4, (va_rf cp)), (5, .int (iI (aq + mn1))), (0, .ref a0), (1, .ref ob1), (2, .int (iI i)), (3, .int (iI n))]) [4, 0, 5, 6, 7, 8] rfl ?_
              exact ih1  cp (aq + mn1) _ (by omega) W7 F6 ty_cp (by omega) (by show ivh5 a0 7 ≤ iv a0 7 ∨ ivh5 a0 7 ≤ 200; omega) (by show ivh5 a0 4 = iv a0 4; omega)
            · refine c_bipush (z := 6) C dX6_setPart_158 (by decide) ?_
              exact c_iret C dX6_setPart_160 rfl (by decide) (rom0 hph hph (by decide)) ⟨6, rfl, rfl, rfl, rfl, rfl, F6, W7, ⟨by decide, by decide⟩, (by omega)⟩
          · subst oq2
            refine c_lv (lv2 := [(8, .null), (7, (va_rf f1)), (6, .int (iI (ivb1 rb1 aq.toNat))), (4, (va_rf cp)), (5, .int (iI aq)), (0, .ref a0), (1, .ref ob1), (2, .int (iI i)), (3, .int (iI n))]) [0, 1, 2, 3, 4, 5, 6, 7, 8] rfl ?_
            refine c_st (st2 := []) rfl ?_
            refine c_aloadr (j := 3) (r := cp) C dX6_setPart_79 rfl ?_
            refine c_ifnull (r := cp) (tgt := 110) C dX6_setPart_81 (by decide) (fun oq3 => ?_) (fun ob3 oq3 => ?_)
            · subst oq3
              refine c_lv (lv2 := [(8, .null), (7, (va_rf f1)), (6, .int (iI (ivb1 rb1 aq.toNat))), (4, .null), (5, .int (iI aq)), (0, .ref a0), (1, .ref ob1), (2, .int (iI i)), (3, .int (iI n))]) [0, 1, 2, 3, 4, 5, 6, 7, 8] rfl ?_
              refine c_st (st2 := []) rfl ?_
              refine c_aloadr (j := 0) (r := none) C dX6_setPart_110 rfl ?_
              refine c_st (st2 := [.null]) rfl ?_
              refine c_ifnonnull (r := none) (tgt := 124) C dX6_setPart_112 (by decide) (fun _ q => by cases q) (fun _ => ?_)
              refine c_aload_n (j := 5) (x := a0) C dX6_setPart_115 rfl ?_
              refine c_iload (j := 4) C dX6_setPart_116 rfl ?_
              refine c_put (z := aq) (k := 9) C ck_7 dX6_setPart_118 w1_151 (by decide) rfl t_a0 rfl rfl (by decide) rfl (by rfl) (by rfl) (fun iv3 pq3 => ?_)
              refine hv2 (W4.puti pq3 t_a0 (show (-2147483648) ≤ aq ∧ aq ≤ 2147483647 by omega) rfl) (F3.puti hX0 pq3 t_a0 rfl) (fun W8 F7 => ?_)
              refine c_bipush (z := 7) C dX6_setPart_121 (by decide) ?_
              refine hv6 (show 0 ≤ iv3 a0 4 ∧ iv3 a0 4 ≤ 500 from W8.int t_a0 4) (show iv3 a0 4 = ivh2 a0 4 from by rw [pq3]; exact up2_j (by decide)) (show ivh2 a0 4 = ivb1 a0 4 from fl2.i t_a0 rfl 4) (show 0 ≤ iv3 a0 7 ∧ iv3 a0 7 ≤ 100000 from W8.int t_a0 7) (show iv3 a0 7 = ivh2 a0 7 from by rw [pq3]; exact up2_j (by decide)) (show ivh2 a0 7 = ivb1 a0 7 from fl2.i t_a0 rfl 7) (fun ri10 ie14 ie15 ri11 ie17 ie18 => ?_)
              exact c_iret C dX6_setPart_123 rfl (by decide) (rom0 hph hph (by decide)) ⟨7, rfl, rfl, rfl, rfl, rfl, F7, W8, ⟨by decide, by decide⟩, (by omega)⟩
            · subst oq3
              have tob3 := ty_cp ob3 rfl
              refine c_lv (lv2 := [(8, .null), (7, (va_rf f1)), (6, .int (iI (ivb1 rb1 aq.toNat))), (4, .ref ob3), (5, .int (iI aq)), (0, .ref a0), (1, .ref ob1), (2, .int (iI i)), (3, .int (iI n))]) [0, 1, 2, 3, 4, 5, 6, 7, 8] rfl ?_
              refine c_st (st2 := []) rfl ?_
              refine c_iload (j := 2) C dX6_setPart_84 rfl ?_
              refine c_callSN0 (As := [.int (iI (ivb1 rb1 aq.toNat))]) (rest := []) C (fun L E => s11_isGreat (iI (ivb1 rb1 aq.toNat))) dX6_setPart_86 kSN_X6_98 rfl rfl (Nat.le_of_ble_eq_true rfl) ⟨(Nat.le_of_ble_eq_true rfl), (Nat.le_of_ble_eq_true rfl)⟩ (rom0 hph hph (by decide)) ?_
              rcases inn_c (x := ivb1 rb1 aq.toNat) (lo := 65) (hi := 90) (r32_c (lo := (-2147483648)) (hi := 2147483647) ri3.1 ri3.2 (by decide) (by decide)) ⟨by decide, by decide⟩ ⟨by decide, by decide⟩ with ⟨hs1a, hs1b, hs1e⟩ | ⟨hs1a, hs1e⟩
              · refine c_st (st2 := [.int (iI 1)]) (by rw [show inn (iI (ivb1 rb1 aq.toNat)) 65 90 = iI 1 from hs1e]) ?_
                refine c_if_eq (tgt := 110) C ⟨by decide, by decide⟩ dX6_setPart_89 (by decide) (fun z => absurd z (by omega)) (fun _ => ?_)
                refine c_aload (j := 3) (x := ob3) C dX6_setPart_92 rfl ?_
                refine c_astore (lv2 := [(7, .ref ob3), (8, .null), (6, .int (iI (ivb1 rb1 aq.toNat))), (4, .ref ob3), (5, .int (iI aq)), (0, .ref a0), (1, .ref ob1), (2, .int (iI i)), (3, .int (iI n))]) C dX6_setPart_94 (by decide) rfl ?_
                refine c_aload_n (j := 5) (x := a0) C dX6_setPart_96 rfl ?_
                refine c_aload_n (j := 6) (x := ob1) C dX6_setPart_97 rfl ?_
                refine c_iload (j := 4) C dX6_setPart_98 rfl ?_
                refine c_iload (j := 2) C dX6_setPart_100 rfl ?_
                refine c_bipush (z := 32) C dX6_setPart_102 (by decide) ?_
                refine c_iadd C dX6_setPart_104 ?_
                refine d_callV (As := [.ref ob1, .int (iI aq), .int (iI ((ivb1 rb1 aq.toNat) + 32))]) (rest := []) C hM (C_find (a0 := a0) (a1 := ob1) (i := aq) (x := (ivb1 rb1 aq.toNat) + 32) W4 hS t_a0 tob1 (by omega) (by omega) (by show 0 ≤ aq ∧ aq ≤ 500; omega)) dX6_setPart_105 kV_X6_94 rfl t_a0 rfl rfl (by decide) ck_7 rfl (Nat.le_of_ble_eq_true rfl) ⟨(Nat.le_of_ble_eq_true rfl), (Nat.le_of_ble_eq_true rfl)⟩ hph hph (show 0 + 0 = 0 from rfl) (by decide) (fun rh6 Lh6 clh6 lnh6 ivh6 rvh6 h6 => ?_)
                obtain ⟨f6, rfl, rfl, rfl, rfl, rfl, fl6, W9, rgf6, exf6⟩ := h6
                have F8 := F3.call hX0 fl6 rfl
                refine c_st (st2 := [(va_rf f6)]) rfl ?_
                refine c_astorer (r := f6) (lv2 := [(8, (va_rf f6)), (7, .ref ob3), (6, .int (iI (ivb1 rb1 aq.toNat))), (4, .ref ob3), (5, .int (iI aq)), (0, .ref a0), (1, .ref ob1), (2, .int (iI i)), (3, .int (iI n))]) C dX6_setPart_108 (by decide) rfl ?_
                refine c_aloadr (j := 0) (r := f6) C dX6_setPart_110 rfl ?_
                refine c_ifnonnull (r := f6) (tgt := 124) C dX6_setPart_112 (by decide) (fun ob4 oq4 => ?_) (fun oq4 => ?_)
                · subst oq4
                  have tob4 := rgf6 ob4 rfl
                  refine c_lv (lv2 := [(8, .ref ob4), (7, .ref ob3), (6, .int (iI (ivb1 rb1 aq.toNat))), (4, .ref ob3), (5, .int (iI aq)), (0, .ref a0), (1, .ref ob1), (2, .int (iI i)), (3, .int (iI n))]) [0, 1, 2, 3, 4, 5, 6, 7, 8] rfl ?_
                  refine c_st (st2 := []) rfl ?_
                  refine c_aload_n (j := 5) (x := a0) C dX6_setPart_124 rfl ?_
                  refine c_iload (j := 4) C dX6_setPart_125 rfl ?_
                  refine c_aload (j := 0) (x := ob4) C dX6_setPart_127 rfl ?_
                  obtain ⟨rb3, rq3, trb3⟩ := W9.ref tob4 1 rfl rfl rfl
                  have lnrb3 : 0 ≤ ln rb3 ∧ ln rb3 ≤ 8 := W9.len trb3 rfl
                  refine c_getr (k := 1) C ck_6 dX6_setPart_129 w3_141 (by decide) tob4 rfl rfl (by decide) rfl rq3 ?_
                  refine c_st (st2 := [.ref rb3, .int (iI aq), .ref a0]) rfl ?_
                  have ll3 : 0 ≤ ln rb3 ∧ ln rb3 ≤ 8 := W9.len trb3 rfl
                  refine c_alenI C dX6_setPart_132 trb3 rfl ?_
                  refine d_callV (As := [.int (iI aq), .int (iI ((ln rb3 : Nat) : Int))]) (rest := []) C hM (C_markStart (a0 := a0) (i := aq) (n := ((ln rb3 : Nat) : Int)) W9 hS t_a0 (by omega) (by omega) (by show 0 ≤ aq ∧ aq ≤ 500 ∧ 0 ≤ ((ln rb3 : Nat) : Int) ∧ ((ln rb3 : Nat) : Int) ≤ 8; omega)) dX6_setPart_133 kV_X6_105 rfl t_a0 rfl rfl (by decide) ck_7 rfl (Nat.le_of_ble_eq_true rfl) ⟨(Nat.le_of_ble_eq_true rfl), (Nat.le_of_ble_eq_true rfl)⟩ hph hph (show 0 + 0 = 0 from rfl) (by decide) (fun rh7 Lh7 clh7 lnh7 ivh7 rvh7 h7 => ?_)
                  obtain ⟨rfl, rfl, rfl, rfl, rfl, fl7, W10, exf7⟩ := h7
                  have F9 := F8.call hX0 fl7 rfl
                  refine c_st (st2 := []) rfl ?_
                  refine c_aload_n (j := 5) (x := a0) C dX6_setPart_136 rfl ?_
                  refine c_aload (j := 1) (x := ob3) C dX6_setPart_137 rfl ?_
                  refine hv8 (show 0 ≤ ivh7 a0 7 ∧ ivh7 a0 7 ≤ 100000 from W10.int t_a0 7) (show ivh7 a0 7 = ivh6 a0 7 from fl7.i t_a0 rfl 7) (show ivh6 a0 7 = ivh2 a0 7 from fl6.i t_a0 rfl 7) (show ivh2 a0 7 = ivb1 a0 7 from fl2.i t_a0 rfl 7) (show 0 ≤ ivh7 a0 4 ∧ ivh7 a0 4 ≤ 500 from W10.int t_a0 4) (show ivh7 a0 4 = ivh6 a0 4 from fl7.i t_a0 rfl 4) (show ivh6 a0 4 = ivh2 a0 4 from fl6.i t_a0 rfl 4) (show ivh2 a0 4 = ivb1 a0 4 from fl2.i t_a0 rfl 4) (fun ri12 ie20 ie21 ie22 ri13 ie24 ie25 ie26 => ?_)
                  refine d_callV (As := [.ref ob3]) (rest := []) C hM (C_push (a0 := a0) (r := (some ob3)) W10 hS t_a0 (fun _ q => by cases q; exact tob3)  (by show ivh7 a0 7 ≤ 90000; omega)) dX6_setPart_139 kV_X6_86 rfl t_a0 rfl rfl (by decide) ck_7 rfl (Nat.le_of_ble_eq_true rfl) ⟨(Nat.le_of_ble_eq_true rfl), (Nat.le_of_ble_eq_true rfl)⟩ hph hph (show 0 + 0 = 0 from rfl) (by decide) (fun rh8 Lh8 clh8 lnh8 ivh8 rvh8 h8 => ?_)
                  obtain ⟨rfl, rfl, rfl, rfl, rfl, fl8, W11, exf8⟩ := h8
                  have F10 := F9.call hX0 fl8 rfl
                  refine c_st (st2 := []) rfl ?_
                  refine hv3 (show 0 ≤ ivh8 a0 4 ∧ ivh8 a0 4 ≤ 500 from W11.int t_a0 4) (show 0 ≤ ivh8 a0 7 ∧ ivh8 a0 7 ≤ 100000 from W11.int t_a0 7) (show ivh8 a0 4 = ivh7 a0 4 ∧ ivh7 a0 7 ≤ ivh8 a0 7 ∧ ivh8 a0 7 ≤ ivh7 a0 7 + 4 from exf8) (fun ri14 ri15 gf8 => ?_)
                  refine c_aload_n (j := 5) (x := a0) C dX6_setPart_142 rfl ?_
                  refine c_aload (j := 0) (x := ob4) C dX6_setPart_143 rfl ?_
                  refine d_callV (As := [.ref ob4]) (rest := []) C hM (C_push (a0 := a0) (r := (some ob4)) W11 hS t_a0 (fun _ q => by cases q; exact tob4)  (by show ivh8 a0 7 ≤ 90000; omega)) dX6_setPart_145 kV_X6_86 rfl t_a0 rfl rfl (by decide) ck_7 rfl (Nat.le_of_ble_eq_true rfl) ⟨(Nat.le_of_ble_eq_true rfl), (Nat.le_of_ble_eq_true rfl)⟩ hph hph (show 0 + 0 = 0 from rfl) (by decide) (fun rh9 Lh9 clh9 lnh9 ivh9 rvh9 h9 => ?_)
                  obtain ⟨rfl, rfl, rfl, rfl, rfl, fl9, W12, exf9⟩ := h9
                  have F11 := F10.call hX0 fl9 rfl
                  refine c_st (st2 := []) rfl ?_
                  refine hv3 (show 0 ≤ ivh9 a0 4 ∧ ivh9 a0 4 ≤ 500 from W12.int t_a0 4) (show 0 ≤ ivh9 a0 7 ∧ ivh9 a0 7 ≤ 100000 from W12.int t_a0 7) (show ivh9 a0 4 = ivh8 a0 4 ∧ ivh8 a0 7 ≤ ivh9 a0 7 ∧ ivh9 a0 7 ≤ ivh8 a0 7 + 4 from exf9) (fun ri16 ri17 gf9 => ?_)
                  refine c_aload_n (j := 5) (x := a0) C dX6_setPart_148 rfl ?_
                  refine c_get (k := 7) C ck_7 dX6_setPart_149 w1_147 (by decide) t_a0 rfl rfl (by decide) rfl ?_
                  refine c_sipush (z := 200) C dX6_setPart_152 (by decide) ?_
                  refine c_icmp_le (tgt := 161) C (r32_c (lo := 0) (hi := 100000) ri17.1 ri17.2 (by decide) (by decide)) ⟨by decide, by decide⟩ dX6_setPart_155 (by decide) (fun c3 => ?_) (fun c3 => ?_)
                  · refine c_iload (j := 4) C dX6_setPart_161 rfl ?_
                    refine c_iconst C dX6_setPart_163 ?_
                    refine c_aload (j := 0) (x := ob4) C dX6_setPart_164 rfl ?_
                    refine c_getr (k := 1) C ck_6 dX6_setPart_166 w3_141 (by decide) tob4 rfl rfl (by decide) rfl rq3 ?_
                    refine c_st (st2 := [.ref rb3, .int (iI 1), .int (iI aq)]) rfl ?_
                    refine c_alenI C dX6_setPart_169 trb3 rfl ?_
                    obtain ⟨mn2, hmn2, emn2⟩ := mmax_c (x := 1) (y := ((ln rb3 : Nat) : Int)) ⟨by decide, by decide⟩ ⟨by omega, by omega⟩
                    refine c_mmax (w := iI mn2) C dX6_setPart_170 w4_130 w2_148 w1_14 w2_149 (by decide) (rom0 hph hph (by decide)) (Nat.le_of_ble_eq_true rfl) emn2 ?_
                    refine c_iadd C dX6_setPart_173 ?_
                    refine c_istore (lv2 := [(5, .int (iI (aq + mn2))), (8, .ref ob4), (7, .ref ob3), (6, .int (iI (ivb1 rb1 aq.toNat))), (4, .ref ob3), (0, .ref a0), (1, .ref ob1), (2, .int (iI i)), (3, .int (iI n))]) C dX6_setPart_174 (by decide) rfl ?_
                    refine c_goto (tgt := 39) C dX6_setPart_176 (by decide) ?_
                    refine c_lv (lv2 := [(4, .ref ob3), (5, .int (iI (aq + mn2))), (0, .ref a0), (1, .ref ob1), (2, .int (iI i)), (3, .int (iI n))]) [4, 0, 5, 6, 7, 8] rfl ?_
                    exact ih1  (some ob3) (aq + mn2) _ (by omega) W12 F11 (fun _ q => by cases q; exact tob3) (by omega) (by show ivh9 a0 7 ≤ iv a0 7 ∨ ivh9 a0 7 ≤ 200; omega) (by show ivh9 a0 4 = iv a0 4; omega)
                  · refine c_bipush (z := 6) C dX6_setPart_158 (by decide) ?_
                    exact c_iret C dX6_setPart_160 rfl (by decide) (rom0 hph hph (by decide)) ⟨6, rfl, rfl, rfl, rfl, rfl, F11, W12, ⟨by decide, by decide⟩, (by omega)⟩
                · subst oq4
                  refine c_lv (lv2 := [(8, .null), (7, .ref ob3), (6, .int (iI (ivb1 rb1 aq.toNat))), (4, .ref ob3), (5, .int (iI aq)), (0, .ref a0), (1, .ref ob1), (2, .int (iI i)), (3, .int (iI n))]) [0, 1, 2, 3, 4, 5, 6, 7, 8] rfl ?_
                  refine c_st (st2 := []) rfl ?_
                  refine c_aload_n (j := 5) (x := a0) C dX6_setPart_115 rfl ?_
                  refine c_iload (j := 4) C dX6_setPart_116 rfl ?_
                  refine c_put (z := aq) (k := 9) C ck_7 dX6_setPart_118 w1_151 (by decide) rfl t_a0 rfl rfl (by decide) rfl (by rfl) (by rfl) (fun iv4 pq4 => ?_)
                  refine hv2 (W9.puti pq4 t_a0 (show (-2147483648) ≤ aq ∧ aq ≤ 2147483647 by omega) rfl) (F8.puti hX0 pq4 t_a0 rfl) (fun W13 F12 => ?_)
                  refine c_bipush (z := 7) C dX6_setPart_121 (by decide) ?_
                  refine hv8 (show 0 ≤ iv4 a0 4 ∧ iv4 a0 4 ≤ 500 from W13.int t_a0 4) (show iv4 a0 4 = ivh6 a0 4 from by rw [pq4]; exact up2_j (by decide)) (show ivh6 a0 4 = ivh2 a0 4 from fl6.i t_a0 rfl 4) (show ivh2 a0 4 = ivb1 a0 4 from fl2.i t_a0 rfl 4) (show 0 ≤ iv4 a0 7 ∧ iv4 a0 7 ≤ 100000 from W13.int t_a0 7) (show iv4 a0 7 = ivh6 a0 7 from by rw [pq4]; exact up2_j (by decide)) (show ivh6 a0 7 = ivh2 a0 7 from fl6.i t_a0 rfl 7) (show ivh2 a0 7 = ivb1 a0 7 from fl2.i t_a0 rfl 7) (fun ri18 ie32 ie33 ie34 ri19 ie36 ie37 ie38 => ?_)
                  exact c_iret C dX6_setPart_123 rfl (by decide) (rom0 hph hph (by decide)) ⟨7, rfl, rfl, rfl, rfl, rfl, F12, W13, ⟨by decide, by decide⟩, (by omega)⟩
              · refine c_st (st2 := [.int (iI 0)]) (by rw [show inn (iI (ivb1 rb1 aq.toNat)) 65 90 = iI 0 from hs1e]) ?_
                refine c_if_eq (tgt := 110) C ⟨by decide, by decide⟩ dX6_setPart_89 (by decide) (fun _ => ?_) (fun z => absurd z (by omega))
                refine c_aloadr (j := 0) (r := none) C dX6_setPart_110 rfl ?_
                refine c_st (st2 := [.null]) rfl ?_
                refine c_ifnonnull (r := none) (tgt := 124) C dX6_setPart_112 (by decide) (fun _ q => by cases q) (fun _ => ?_)
                refine c_aload_n (j := 5) (x := a0) C dX6_setPart_115 rfl ?_
                refine c_iload (j := 4) C dX6_setPart_116 rfl ?_
                refine c_put (z := aq) (k := 9) C ck_7 dX6_setPart_118 w1_151 (by decide) rfl t_a0 rfl rfl (by decide) rfl (by rfl) (by rfl) (fun iv5 pq5 => ?_)
                refine hv2 (W4.puti pq5 t_a0 (show (-2147483648) ≤ aq ∧ aq ≤ 2147483647 by omega) rfl) (F3.puti hX0 pq5 t_a0 rfl) (fun W14 F13 => ?_)
                refine c_bipush (z := 7) C dX6_setPart_121 (by decide) ?_
                refine hv6 (show 0 ≤ iv5 a0 4 ∧ iv5 a0 4 ≤ 500 from W14.int t_a0 4) (show iv5 a0 4 = ivh2 a0 4 from by rw [pq5]; exact up2_j (by decide)) (show ivh2 a0 4 = ivb1 a0 4 from fl2.i t_a0 rfl 4) (show 0 ≤ iv5 a0 7 ∧ iv5 a0 7 ≤ 100000 from W14.int t_a0 7) (show iv5 a0 7 = ivh2 a0 7 from by rw [pq5]; exact up2_j (by decide)) (show ivh2 a0 7 = ivb1 a0 7 from fl2.i t_a0 rfl 7) (fun ri20 ie40 ie41 ri21 ie43 ie44 => ?_)
                exact c_iret C dX6_setPart_123 rfl (by decide) (rom0 hph hph (by decide)) ⟨7, rfl, rfl, rfl, rfl, rfl, F13, W14, ⟨by decide, by decide⟩, (by omega)⟩
    refine c_aload_n (j := 1) (x := ob1) C dX6_setPart_16 rfl ?_
    refine hv3 (show (-2147483648) ≤ iv2 ob1 0 ∧ iv2 ob1 0 ≤ 2147483647 from W2.int tob1 0) (show iv2 ob1 0 = iv1 ob1 0 from by rw [pq2]; exact up2_k (ne_ty tob1 t_a0 (by decide))) (show iv1 ob1 0 = iv ob1 0 from by rw [pq1]; exact up2_k (ne_ty tob1 t_a0 (by decide))) (fun ri22 ie46 ie47 => ?_)
    refine c_get (k := 0) C ck_10 dX6_setPart_17 w2_177 (by decide) tob1 rfl rfl (by decide) rfl ?_
    refine c_iconst C dX6_setPart_20 ?_
    refine c_icmp_gt (tgt := 33) C (r32_c (lo := (-2147483648)) (hi := 2147483647) ri22.1 ri22.2 (by decide) (by decide)) ⟨by decide, by decide⟩ dX6_setPart_21 (by decide) (fun c4 => ?_) (fun c4 => ?_)
    · refine c_null C dX6_setPart_33 ?_
      refine c_astorer (r := none) (lv2 := [(4, .null), (0, .ref a0), (1, .ref ob1), (2, .int (iI i)), (3, .int (iI n))]) C dX6_setPart_34 (by decide) rfl ?_
      refine c_iload_n (j := 3) C dX6_setPart_36 rfl ?_
      refine c_istore (lv2 := [(5, .int (iI i)), (4, .null), (0, .ref a0), (1, .ref ob1), (2, .int (iI i)), (3, .int (iI n))]) C dX6_setPart_37 (by decide) rfl ?_
      refine hv6 (show 0 ≤ iv2 a0 7 ∧ iv2 a0 7 ≤ 100000 from W2.int t_a0 7) (show iv2 a0 7 = iv1 a0 7 from by rw [pq2]; exact up2_j (by decide)) (show iv1 a0 7 = iv a0 7 from by rw [pq1]; exact up2_j (by decide)) (show 0 ≤ iv2 a0 4 ∧ iv2 a0 4 ≤ 500 from W2.int t_a0 4) (show iv2 a0 4 = iv1 a0 4 from by rw [pq2]; exact up2_j (by decide)) (show iv1 a0 4 = iv a0 4 from by rw [pq1]; exact up2_j (by decide)) (fun ri23 ie48 ie49 ri24 ie50 ie51 => ?_)
      refine c_lv (lv2 := [(4, .null), (5, .int (iI i)), (0, .ref a0), (1, .ref ob1), (2, .int (iI i)), (3, .int (iI n))]) [1, 0, 2, 3, 4, 5] rfl ?_
      exact Lp1 511 none i _ (by omega) W2 F2 (fun _ q => by cases q) (by omega) (by show iv2 a0 7 ≤ iv a0 7 ∨ iv2 a0 7 ≤ 200; omega) (ie50.trans ie51)
    · refine c_aload_n (j := 1) (x := ob1) C dX6_setPart_24 rfl ?_
      obtain ⟨rb4, rq4, trb4⟩ := W2.ref tob1 6 rfl rfl rfl
      have lnrb4 : 4 ≤ ln rb4 ∧ ln rb4 ≤ 4 := W2.len trb4 rfl
      refine c_getr (k := 6) C ck_10 dX6_setPart_25 w2_195 (by decide) tob1 rfl rfl (by decide) rfl rq4 ?_
      refine c_st (st2 := [.ref rb4]) rfl ?_
      refine c_iconst C dX6_setPart_28 ?_
      have ll4 : 4 ≤ ln rb4 ∧ ln rb4 ≤ 4 := W2.len trb4 rfl
      obtain ⟨nb1, nq1, tnb1⟩ := opt_n (W2.opt trb4 ((0 : Int).toNat) rfl rfl)
      have tnb1 : ∀ b, nb1 = some b → ty L cl b 20 := tnb1
      refine c_aaldR C dX6_setPart_29 trb4 rfl (by omega) (by omega) (by omega) nq1 ?_
      refine c_st (st2 := [(va_rf nb1)]) rfl ?_
      refine c_goto (tgt := 34) C dX6_setPart_30 (by decide) ?_
      refine c_astorer (r := nb1) (lv2 := [(4, (va_rf nb1)), (0, .ref a0), (1, .ref ob1), (2, .int (iI i)), (3, .int (iI n))]) C dX6_setPart_34 (by decide) rfl ?_
      refine c_iload_n (j := 3) C dX6_setPart_36 rfl ?_
      refine c_istore (lv2 := [(5, .int (iI i)), (4, (va_rf nb1)), (0, .ref a0), (1, .ref ob1), (2, .int (iI i)), (3, .int (iI n))]) C dX6_setPart_37 (by decide) (by cases nb1 <;> rfl) ?_
      refine hv6 (show 0 ≤ iv2 a0 7 ∧ iv2 a0 7 ≤ 100000 from W2.int t_a0 7) (show iv2 a0 7 = iv1 a0 7 from by rw [pq2]; exact up2_j (by decide)) (show iv1 a0 7 = iv a0 7 from by rw [pq1]; exact up2_j (by decide)) (show 0 ≤ iv2 a0 4 ∧ iv2 a0 4 ≤ 500 from W2.int t_a0 4) (show iv2 a0 4 = iv1 a0 4 from by rw [pq2]; exact up2_j (by decide)) (show iv1 a0 4 = iv a0 4 from by rw [pq1]; exact up2_j (by decide)) (fun ri25 ie52 ie53 ri26 ie54 ie55 => ?_)
      refine c_lv (lv2 := [(4, (va_rf nb1)), (5, .int (iI i)), (0, .ref a0), (1, .ref ob1), (2, .int (iI i)), (3, .int (iI n))]) [1, 0, 2, 3, 4, 5] rfl ?_
      exact Lp1 511 nb1 i _ (by omega) W2 F2 tnb1 (by omega) (by show iv2 a0 7 ≤ iv a0 7 ∨ iv2 a0 7 ≤ 200; omega) (ie54.trans ie55)
  · subst oq1
    refine c_lv (lv2 := [(0, .ref a0), (1, .null), (2, .int (iI i)), (3, .int (iI n))]) [0, 1, 2, 3] rfl ?_
    refine c_st (st2 := []) rfl ?_
    refine c_iconst C dX6_setPart_4 ?_
    refine hv2 (show 0 ≤ iv a0 4 ∧ iv a0 4 ≤ 500 from hW.int t_a0 4) (show 0 ≤ iv a0 7 ∧ iv a0 7 ≤ 100000 from hW.int t_a0 7) (fun ri27 ri28 => ?_)
    exact c_iret C dX6_setPart_5 rfl (by decide) (rom0 hph hph (by decide)) ⟨0, rfl, rfl, rfl, rfl, rfl, hF0, hW, ⟨by decide, by decide⟩, (by omega)⟩
set_option maxHeartbeats 4000000 in
set_option maxRecDepth 100000 in
theorem C_setBy {l : Launch} {G : GT} {mi : Nat} {sk : Nat → Nat} {L : List Nat} {cl ln : Nat → Nat} {iv : Nat → Nat → Int} {rv : Nat → Nat → Option Nat}  {a0 : Nat} {a1 : Nat} (hW : WT (g0 G) sk L cl ln iv rv) (hS : SKL sk L cl) (t_a0 : ty L cl a0 15) (t_a1 : ty L cl a1 100)  : Mc l G mi (Phi (g0 G) sk) PHM yX6_setBy cX6_setBy 9 (some .int) 6 [.ref a0, .ref a1] L cl ln iv rv 0 (fun v L2 cl2 ln2 iv2 rv2 => ∃ f : Int, v = some (.int (iI f)) ∧ L = L2 ∧ cl = cl2 ∧ ln = ln2 ∧ rv = rv2 ∧ fT [15, 53, 54, 55] L cl iv rv iv2 rv2 ∧ WT (g0 G) sk L2 cl2 ln2 iv2 rv2 ∧ (-2147483648 ≤ f ∧ f ≤ 2147483647) ∧ ((f = 0 ∨ f = 6 ∨ f = 7) ∧ iv2 a0 4 = iv a0 4 ∧ (f = 0 → iv2 a0 7 ≤ 200))) := by
  refine Mc.mk (by decide) (Nat.le_of_ble_eq_true rfl) ?_
  intro p e s m args below meth c A C hM
  refine hv3 (Phi.le hW hS) (show XT L cl ln L cl ln from XT.refl) (show fT [15, 53, 54, 55] L cl iv rv iv rv from fT.refl) (fun hph hX0 hF0 => ?_)
  refine c_aload_n (j := 0) (x := a0) C dX6_setBy_0 rfl ?_
  refine c_iconst C dX6_setBy_1 ?_
  refine c_put (z := 0) (k := 7) C ck_7 dX6_setBy_2 w1_147 (by decide) rfl t_a0 rfl rfl (by decide) rfl (by rfl) (by rfl) (fun iv1 pq1 => ?_)
  refine hv2 (hW.puti pq1 t_a0 ⟨by decide, by decide⟩ rfl) (hF0.puti hX0 pq1 t_a0 rfl) (fun W1 F1 => ?_)
  refine c_aload_n (j := 1) (x := a1) C dX6_setBy_5 rfl ?_
  refine hv2 (show (-2147483648) ≤ iv1 a1 0 ∧ iv1 a1 0 ≤ 2147483647 from W1.int t_a1 0) (show iv1 a1 0 = iv a1 0 from by rw [pq1]; exact up2_k (ne_ty t_a1 t_a0 (by decide))) (fun ri1 ie1 => ?_)
  refine c_get (k := 0) C ck_10 dX6_setBy_6 w2_177 (by decide) t_a1 rfl rfl (by decide) rfl ?_
  refine c_iconst C dX6_setBy_9 ?_
  refine c_icmp_ne (tgt := 17) C (r32_c (lo := (-2147483648)) (hi := 2147483647) ri1.1 ri1.2 (by decide) (by decide)) ⟨by decide, by decide⟩ dX6_setBy_10 (by decide) (fun c1 => ?_) (fun c1 => ?_)
  · refine c_iconst C dX6_setBy_17 ?_
    refine c_istore_n (lv2 := [(2, .int (iI 0)), (0, .ref a0), (1, .ref a1)]) C dX6_setBy_18 (by decide) rfl ?_
    refine c_iconst C dX6_setBy_19 ?_
    refine c_istore_n (lv2 := [(3, .int (iI 0)), (2, .int (iI 0)), (0, .ref a0), (1, .ref a1)]) C dX6_setBy_20 (by decide) rfl ?_
    refine c_iconst C dX6_setBy_21 ?_
    refine c_istore (lv2 := [(4, .int (iI 0)), (3, .int (iI 0)), (2, .int (iI 0)), (0, .ref a0), (1, .ref a1)]) C dX6_setBy_22 (by decide) rfl ?_
    refine c_iconst C dX6_setBy_24 ?_
    refine c_istore (lv2 := [(5, .int (iI 0)), (4, .int (iI 0)), (3, .int (iI 0)), (2, .int (iI 0)), (0, .ref a0), (1, .ref a1)]) C dX6_setBy_25 (by decide) rfl ?_
    have Lp1 : ∀ (nn : Nat) (sc fr k : Int) (ivb1 : Nat → Nat → Int) , iv a0 4 + 2 - k < (nn : Int) → WT (g0 G) sk L cl ln ivb1 rv → fT [15, 53, 54, 55] L cl iv rv ivb1 rv → (sc = 0 ∨ sc = 1) → (0 ≤ fr ∧ fr ≤ k) → (0 ≤ k ∧ k ≤ iv a0 4 + 1) → (ivb1 a0 7 ≤ 200 + 4 * k) → (ivb1 a0 4 = iv a0 4) → cw p l e 6 ((PHM) + 0 - ((Phi (g0 G) sk) ln rv)) s m args below meth c G A 9 (MQ below (Qu G A (Qp G (Phi (g0 G) sk) ((Phi (g0 G) sk) ln rv) 0 (fun v L2 cl2 ln2 iv2 rv2 => ∃ f : Int, v = some (.int (iI f)) ∧ L = L2 ∧ cl = cl2 ∧ ln = ln2 ∧ rv = rv2 ∧ fT [15, 53, 54, 55] L cl iv rv iv2 rv2 ∧ WT (g0 G) sk L2 cl2 ln2 iv2 rv2 ∧ (-2147483648 ≤ f ∧ f ≤ 2147483647) ∧ ((f = 0 ∨ f = 6 ∨ f = 7) ∧ iv2 a0 4 = iv a0 4 ∧ (f = 0 → iv2 a0 7 ≤ 200))))) args s (((PHM) + 0 - ((Phi (g0 G) sk) ln rv)) / 16) ((PHM) + 0 - ((Phi (g0 G) sk) ln rv)) A) (Phi (g0 G) sk) ((Phi (g0 G) sk) ln rv) L cl ln ivb1 rv 0 27 [(3, .int (iI sc)), (4, .int (iI fr)), (5, .int (iI k)), (2, .int (iI 0)), (0, .ref a0), (1, .ref a1)] [] := by
      intro nn
      induction nn with
      | zero =>
        intro  sc fr k ivb1 hm Wb1 Fb1  hsc hfr hk hc7 hc4
        exact absurd hm (by omega)
      | succ nn ih1 =>
        intro  sc fr k ivb1 hm Wb1 Fb1  hsc hfr hk hc7 hc4
        refine c_iload (j := 2) C dX6_setBy_27 rfl ?_
        refine c_aload_n (j := 4) (x := a0) C dX6_setBy_29 rfl ?_
        have ri2 : 0 ≤ ivb1 a0 4 ∧ ivb1 a0 4 ≤ 500 := Wb1.int t_a0 4
        refine c_get (k := 4) C ck_7 dX6_setBy_30 w1_140 (by decide) t_a0 rfl rfl (by decide) rfl ?_
        refine c_icmp_gt (tgt := 193) C ⟨by omega, by omega⟩ (r32_c (lo := 0) (hi := 500) ri2.1 ri2.2 (by decide) (by decide)) dX6_setBy_33 (by decide) (fun c2 => ?_) (fun c2 => ?_)
        · refine c_aload_n (j := 4) (x := a0) C dX6_setBy_193 rfl ?_
          have ri3 : 0 ≤ ivb1 a0 7 ∧ ivb1 a0 7 ≤ 100000 := Wb1.int t_a0 7
          refine c_get (k := 7) C ck_7 dX6_setBy_194 w1_147 (by decide) t_a0 rfl rfl (by decide) rfl ?_
          refine c_sipush (z := 200) C dX6_setBy_197 (by decide) ?_
          refine c_icmp_le (tgt := 208) C (r32_c (lo := 0) (hi := 100000) ri3.1 ri3.2 (by decide) (by decide)) ⟨by decide, by decide⟩ dX6_setBy_200 (by decide) (fun c3 => ?_) (fun c3 => ?_)
          · refine c_iconst C dX6_setBy_208 ?_
            exact c_iret C dX6_setBy_209 rfl (by decide) (rom0 hph hph (by decide)) ⟨0, rfl, rfl, rfl, rfl, rfl, Fb1, Wb1, ⟨by decide, by decide⟩, (by omega)⟩
          · refine c_bipush (z := 6) C dX6_setBy_203 (by decide) ?_
            refine c_goto (tgt := 209) C dX6_setBy_205 (by decide) ?_
            exact c_iret C dX6_setBy_209 rfl (by decide) (rom0 hph hph (by decide)) ⟨6, rfl, rfl, rfl, rfl, rfl, Fb1, Wb1, ⟨by decide, by decide⟩, (by omega)⟩
        · have J1 : ∀ (fs : Option Nat) (tn : Int) (ivb2 : Nat → Nat → Int) , WT (g0 G) sk L cl ln ivb2 rv → fT [15, 53, 54, 55] L cl iv rv ivb2 rv → (∀ b, fs = some b → ty L cl b 100) → (tn = 0 ∨ tn = 1) → (k ≤ iv a0 4) → (tn = 1 → k < iv a0 4) → (ivb2 a0 7 ≤ 200 + 4 * k) → (ivb2 a0 4 = iv a0 4) → cw p l e 6 ((PHM) + 0 - ((Phi (g0 G) sk) ln rv)) s m args below meth c G A 9 (MQ below (Qu G A (Qp G (Phi (g0 G) sk) ((Phi (g0 G) sk) ln rv) 0 (fun v L2 cl2 ln2 iv2 rv2 => ∃ f : Int, v = some (.int (iI f)) ∧ L = L2 ∧ cl = cl2 ∧ ln = ln2 ∧ rv = rv2 ∧ fT [15, 53, 54, 55] L cl iv rv iv2 rv2 ∧ WT (g0 G) sk L2 cl2 ln2 iv2 rv2 ∧ (-2147483648 ≤ f ∧ f ≤ 2147483647) ∧ ((f = 0 ∨ f = 6 ∨ f = 7) ∧ iv2 a0 4 = iv a0 4 ∧ (f = 0 → iv2 a0 7 ≤ 200))))) args s (((PHM) + 0 - ((Phi (g0 G) sk) ln rv)) / 16) ((PHM) + 0 - ((Phi (g0 G) sk) ln rv)) A) (Phi (g0 G) sk) ((Phi (g0 G) sk) ln rv) L cl ln ivb2 rv 0 108 [(6, .int (iI tn)), (7, (va_rf fs)), (3, .int (iI sc)), (4, .int (iI fr)), (5, .int (iI k)), (2, .int (iI 0)), (0, .ref a0), (1, .ref a1)] [] := by
            intro fs tn ivb2 Wb2 Fb2 ty_fs htn hki htk hd7 hd4
            have J2 : ∀ (wy : Int) (ivb3 : Nat → Nat → Int) , WT (g0 G) sk L cl ln ivb3 rv → fT [15, 53, 54, 55] L cl iv rv ivb3 rv → (wy = 0 ∨ wy = 6 ∨ wy = 7) → (wy = 0 → ivb3 a0 7 ≤ 204 + 4 * k) → (ivb3 a0 4 = iv a0 4) → cw p l e 6 ((PHM) + 0 - ((Phi (g0 G) sk) ln rv)) s m args below meth c G A 9 (MQ below (Qu G A (Qp G (Phi (g0 G) sk) ((Phi (g0 G) sk) ln rv) 0 (fun v L2 cl2 ln2 iv2 rv2 => ∃ f : Int, v = some (.int (iI f)) ∧ L = L2 ∧ cl = cl2 ∧ ln = ln2 ∧ rv = rv2 ∧ fT [15, 53, 54, 55] L cl iv rv iv2 rv2 ∧ WT (g0 G) sk L2 cl2 ln2 iv2 rv2 ∧ (-2147483648 ≤ f ∧ f ≤ 2147483647) ∧ ((f = 0 ∨ f = 6 ∨ f = 7) ∧ iv2 a0 4 = iv a0 4 ∧ (f = 0 → iv2 a0 7 ≤ 200))))) args s (((PHM) + 0 - ((Phi (g0 G) sk) ln rv)) / 16) ((PHM) + 0 - ((Phi (g0 G) sk) ln rv)) A) (Phi (g0 G) sk) ((Phi (g0 G) sk) ln rv) L cl ln ivb3 rv 0 163 [(8, .int (iI wy)), (6, .int (iI tn)), (7, (va_rf fs)), (3, .int (iI sc)), (4, .int (iI fr)), (5, .int (iI k)), (2, .int (iI 0)), (0, .ref a0), (1, .ref a1)] [] := by
              intro  wy ivb3 Wb3 Fb3  hwy he7 he4
              refine c_iload (j := 0) C dX6_setBy_163 rfl ?_
              refine c_if_eq (tgt := 171) C (r32_067 hwy) dX6_setBy_165 (by decide) (fun c4 => ?_) (fun c4 => ?_)
              · clear hwy
                replace he7 := (he7 c4)
                refine c_iload_n (j := 3) C dX6_setBy_171 rfl ?_
                refine c_if_ne (tgt := 179) C (r32_01 hsc) dX6_setBy_172 (by decide) (fun c5 => ?_) (fun c5 => ?_)
                · replace hsc := (hsc.resolve_left c5)
                  refine c_iconst C dX6_setBy_179 ?_
                  refine c_istore_n (lv2 := [(3, .int (iI 0)), (8, .int (iI wy)), (6, .int (iI tn)), (7, (va_rf fs)), (4, .int (iI fr)), (5, .int (iI k)), (2, .int (iI 0)), (0, .ref a0), (1, .ref a1)]) C dX6_setBy_180 (by decide) rfl ?_
                  refine c_iload (j := 5) C dX6_setBy_181 rfl ?_
                  refine c_iconst C dX6_setBy_183 ?_
                  refine c_iadd C dX6_setBy_184 ?_
                  refine c_istore (lv2 := [(4, .int (iI (k + 1))), (3, .int (iI 0)), (8, .int (iI wy)), (6, .int (iI tn)), (7, (va_rf fs)), (5, .int (iI k)), (2, .int (iI 0)), (0, .ref a0), (1, .ref a1)]) C dX6_setBy_185 (by decide) rfl ?_
                  refine c_iinc (z := k) (j := 5) (lv2 := [(5, .int (iI (k + 1))), (4, .int (iI (k + 1))), (3, .int (iI 0)), (8, .int (iI wy)), (6, .int (iI tn)), (7, (va_rf fs)), (2, .int (iI 0)), (0, .ref a0), (1, .ref a1)]) C dX6_setBy_187 rfl (by decide) rfl ?_
                  refine c_goto (tgt := 27) C dX6_setBy_190 (by decide) ?_
                  refine hv2 (show 0 ≤ ivb3 a0 7 ∧ ivb3 a0 7 ≤ 100000 from Wb3.int t_a0 7) (show 0 ≤ ivb3 a0 4 ∧ ivb3 a0 4 ≤ 500 from Wb3.int t_a0 4) (fun ri4 ri5 => ?_)
                  refine c_lv (lv2 := [(3, .int (iI 0)), (4, .int (iI (k + 1))), (5, .int (iI (k + 1))), (2, .int (iI 0)), (0, .ref a0), (1, .ref a1)]) [2, 1, 0, 6, 7, 8] rfl ?_
                  exact ih1  0 (k + 1) (k + 1) _ (by omega) Wb3 Fb3  (by omega) (by omega) (by omega) (by show ivb3 a0 7 ≤ 200 + 4 * (k + 1); omega) he4
                · clear hsc
                  refine c_iconst C dX6_setBy_175 ?_
                  refine c_goto (tgt := 180) C dX6_setBy_176 (by decide) ?_
                  refine c_istore_n (lv2 := [(3, .int (iI 1)), (8, .int (iI wy)), (6, .int (iI tn)), (7, (va_rf fs)), (4, .int (iI fr)), (5, .int (iI k)), (2, .int (iI 0)), (0, .ref a0), (1, .ref a1)]) C dX6_setBy_180 (by decide) rfl ?_
                  refine c_iload (j := 5) C dX6_setBy_181 rfl ?_
                  refine c_iconst C dX6_setBy_183 ?_
                  refine c_iadd C dX6_setBy_184 ?_
                  refine c_istore (lv2 := [(4, .int (iI (k + 1))), (3, .int (iI 1)), (8, .int (iI wy)), (6, .int (iI tn)), (7, (va_rf fs)), (5, .int (iI k)), (2, .int (iI 0)), (0, .ref a0), (1, .ref a1)]) C dX6_setBy_185 (by decide) rfl ?_
                  refine c_iinc (z := k) (j := 5) (lv2 := [(5, .int (iI (k + 1))), (4, .int (iI (k + 1))), (3, .int (iI 1)), (8, .int (iI wy)), (6, .int (iI tn)), (7, (va_rf fs)), (2, .int (iI 0)), (0, .ref a0), (1, .ref a1)]) C dX6_setBy_187 rfl (by decide) rfl ?_
                  refine c_goto (tgt := 27) C dX6_setBy_190 (by decide) ?_
                  refine hv2 (show 0 ≤ ivb3 a0 7 ∧ ivb3 a0 7 ≤ 100000 from Wb3.int t_a0 7) (show 0 ≤ ivb3 a0 4 ∧ ivb3 a0 4 ≤ 500 from Wb3.int t_a0 4) (fun ri6 ri7 => ?_)
                  refine c_lv (lv2 := [(3, .int (iI 1)), (4, .int (iI (k + 1))), (5, .int (iI (k + 1))), (2, .int (iI 0)), (0, .ref a0), (1, .ref a1)]) [2, 1, 0, 6, 7, 8] rfl ?_
                  exact ih1  1 (k + 1) (k + 1) _ (by omega) Wb3 Fb3  (by omega) (by omega) (by omega) (by show ivb3 a0 7 ≤ 200 + 4 * (k + 1); omega) he4
              · replace hwy := (hwy.resolve_left c4)
                clear he7
                refine c_iload (j := 0) C dX6_setBy_168 rfl ?_
                refine hv2 (show 0 ≤ ivb3 a0 4 ∧ ivb3 a0 4 ≤ 500 from Wb3.int t_a0 4) (show 0 ≤ ivb3 a0 7 ∧ ivb3 a0 7 ≤ 100000 from Wb3.int t_a0 7) (fun ri8 ri9 => ?_)
                exact c_iret C dX6_setBy_170 rfl (by decide) (rom0 hph hph (by decide)) ⟨wy, rfl, rfl, rfl, rfl, rfl, Fb3, Wb3, ⟨by omega, by omega⟩, (by omega)⟩
            refine c_aload_n (j := 6) (x := a0) C dX6_setBy_108 rfl ?_
            refine c_iload_n (j := 2) C dX6_setBy_109 rfl ?_
            refine c_if_eq (tgt := 120) C (r32_01 hsc) dX6_setBy_110 (by decide) (fun c6 => ?_) (fun c6 => ?_)
            · clear hsc
              refine c_aloadr (j := 1) (r := fs) C dX6_setBy_120 rfl ?_
              refine c_iload (j := 3) C dX6_setBy_122 rfl ?_
              refine c_iload (j := 4) C dX6_setBy_124 rfl ?_
              refine hv2 (show 0 ≤ ivb2 a0 7 ∧ ivb2 a0 7 ≤ 100000 from Wb2.int t_a0 7) (show 0 ≤ ivb2 a0 4 ∧ ivb2 a0 4 ≤ 500 from Wb2.int t_a0 4) (fun ri10 ri11 => ?_)
              refine d_callV (As := [(va_rf fs), .int (iI fr), .int (iI k)]) (rest := []) C hM (C_setPart (a0 := a0) (r := fs) (i := fr) (n := k) Wb2 hS t_a0 ty_fs (by omega) (by omega) (by show 0 ≤ fr ∧ fr ≤ 500 ∧ 0 ≤ k ∧ k ≤ 500 ∧ ivb2 a0 7 ≤ 50000; omega)) dX6_setBy_126 kV_X6_74 rfl t_a0 rfl rfl (by decide) ck_7 rfl (Nat.le_of_ble_eq_true rfl) ⟨(Nat.le_of_ble_eq_true rfl), (Nat.le_of_ble_eq_true rfl)⟩ hph hph (show 0 + 0 = 0 from rfl) (by decide) (fun rh1 Lh1 clh1 lnh1 ivh1 rvh1 h1 => ?_)
              obtain ⟨f1, rfl, rfl, rfl, rfl, rfl, fl1, W2, rgf1, exf1⟩ := h1
              have F2 := Fb2.call hX0 fl1 rfl
              refine c_st (st2 := [.int (iI f1)]) rfl ?_
              refine hv3 (show 0 ≤ ivh1 a0 4 ∧ ivh1 a0 4 ≤ 500 from W2.int t_a0 4) (show 0 ≤ ivh1 a0 7 ∧ ivh1 a0 7 ≤ 100000 from W2.int t_a0 7) (show (f1 = 0 ∨ f1 = 6 ∨ f1 = 7) ∧ ivh1 a0 4 = ivb2 a0 4 ∧ ivh1 a0 7 ≤ ivb2 a0 7 + 208 ∧ (f1 = 0 → (ivh1 a0 7 ≤ ivb2 a0 7 ∨ ivh1 a0 7 ≤ 200)) from exf1) (fun ri12 ri13 gf1 => ?_)
              refine c_istore (lv2 := [(8, .int (iI f1)), (6, .int (iI tn)), (7, (va_rf fs)), (3, .int (iI sc)), (4, .int (iI fr)), (5, .int (iI k)), (2, .int (iI 0)), (0, .ref a0), (1, .ref a1)]) C dX6_setBy_129 (by decide) (by cases fs <;> rfl) ?_
              refine c_iload (j := 0) C dX6_setBy_131 rfl ?_
              refine c_if_ne (tgt := 163) C (r32_067 gf1.1) dX6_setBy_133 (by decide) (fun c7 => ?_) (fun c7 => ?_)
              · replace gf1 := (And.intro (gf1.1.resolve_left c7) (And.intro gf1.2.1 (And.intro gf1.2.2.1 trivial)))
                refine c_lv (lv2 := [(8, .int (iI f1)), (6, .int (iI tn)), (7, (va_rf fs)), (3, .int (iI sc)), (4, .int (iI fr)), (5, .int (iI k)), (2, .int (iI 0)), (0, .ref a0), (1, .ref a1)]) [0, 1, 2, 3, 4, 5, 6, 7, 8] rfl ?_
                exact J2  f1 _  W2 F2  (by omega) (by show f1 = 0 → ivh1 a0 7 ≤ 204 + 4 * k; omega) (by show ivh1 a0 4 = iv a0 4; omega)
              · replace gf1 := (And.intro c7 (And.intro gf1.2.1 (And.intro gf1.2.2.1 (gf1.2.2.2 c7))))
                refine c_iload (j := 1) C dX6_setBy_136 rfl ?_
                refine c_if_eq (tgt := 163) C (r32_01 htn) dX6_setBy_138 (by decide) (fun c8 => ?_) (fun c8 => ?_)
                · clear htn
                  clear htk
                  refine c_lv (lv2 := [(8, .int (iI f1)), (6, .int (iI tn)), (7, (va_rf fs)), (3, .int (iI sc)), (4, .int (iI fr)), (5, .int (iI k)), (2, .int (iI 0)), (0, .ref a0), (1, .ref a1)]) [0, 1, 2, 3, 4, 5, 6, 7, 8] rfl ?_
                  exact J2  f1 _  W2 F2  (by omega) (by show f1 = 0 → ivh1 a0 7 ≤ 204 + 4 * k; omega) (by show ivh1 a0 4 = iv a0 4; omega)
                · replace htn := (htn.resolve_left c8)
                  refine c_aload_n (j := 7) (x := a0) C dX6_setBy_141 rfl ?_
                  refine c_aload_n (j := 8) (x := a1) C dX6_setBy_142 rfl ?_
                  obtain ⟨rb1, rq1, trb1⟩ := W2.ref t_a1 6 rfl rfl rfl
                  have lnrb1 : 4 ≤ ln rb1 ∧ ln rb1 ≤ 4 := W2.len trb1 rfl
                  refine c_getr (k := 6) C ck_10 dX6_setBy_143 w2_195 (by decide) t_a1 rfl rfl (by decide) rfl rq1 ?_
                  refine c_st (st2 := [.ref rb1, .ref a0]) rfl ?_
                  refine c_iload_n (j := 3) C dX6_setBy_146 rfl ?_
                  refine c_if_eq (tgt := 154) C ⟨by omega, by omega⟩ dX6_setBy_147 (by decide) (fun _ => ?_) (fun z => absurd z (by omega))
                  refine c_iconst C dX6_setBy_154 ?_
                  have ll1 : 4 ≤ ln rb1 ∧ ln rb1 ≤ 4 := W2.len trb1 rfl
                  obtain ⟨nb1, nq1, tnb1⟩ := opt_n (W2.opt trb1 ((2 : Int).toNat) rfl rfl)
                  have tnb1 : ∀ b, nb1 = some b → ty L cl b 20 := tnb1
                  refine c_aaldR C dX6_setBy_155 trb1 rfl (by omega) (by omega) (by omega) nq1 ?_
                  refine c_st (st2 := [(va_rf nb1), .ref a0]) rfl ?_
                  refine c_iload (j := 5) C dX6_setBy_156 rfl ?_
                  refine d_callV (As := [(va_rf nb1), .int (iI k)]) (rest := []) C hM (C_setTurn (a0 := a0) (r := nb1) (i := k) W2 hS t_a0 tnb1 (by omega) (by show ivh1 a0 7 ≤ 90000; omega)) dX6_setBy_158 kV_X6_82 rfl t_a0 rfl rfl (by decide) ck_7 rfl (Nat.le_of_ble_eq_true rfl) ⟨(Nat.le_of_ble_eq_true rfl), (Nat.le_of_ble_eq_true rfl)⟩ hph hph (show 0 + 0 = 0 from rfl) (by decide) (fun rh2 Lh2 clh2 lnh2 ivh2 rvh2 h2 => ?_)
                  obtain ⟨f2, rfl, rfl, rfl, rfl, rfl, fl2, W3, rgf2, exf2⟩ := h2
                  have F3 := F2.call hX0 fl2 rfl
                  refine c_st (st2 := [.int (iI f2)]) rfl ?_
                  refine hv3 (show 0 ≤ ivh2 a0 4 ∧ ivh2 a0 4 ≤ 500 from W3.int t_a0 4) (show 0 ≤ ivh2 a0 7 ∧ ivh2 a0 7 ≤ 100000 from W3.int t_a0 7) (show (f2 = 0 ∨ f2 = 7) ∧ ivh2 a0 4 = ivh1 a0 4 ∧ ivh1 a0 7 ≤ ivh2 a0 7 ∧ ivh2 a0 7 ≤ ivh1 a0 7 + 4 from exf2) (fun ri14 ri15 gf2 => ?_)
                  refine c_istore (lv2 := [(8, .int (iI f2)), (6, .int (iI tn)), (7, (va_rf fs)), (3, .int (iI sc)), (4, .int (iI fr)), (5, .int (iI k)), (2, .int (iI 0)), (0, .ref a0), (1, .ref a1)]) C dX6_setBy_161 (by decide) (by cases fs <;> rfl) ?_
                  refine c_lv (lv2 := [(8, .int (iI f2)), (6, .int (iI tn)), (7, (va_rf fs)), (3, .int (iI sc)), (4, .int (iI fr)), (5, .int (iI k)), (2, .int (iI 0)), (0, .ref a0), (1, .ref a1)]) [0, 1, 2, 3, 4, 5, 6, 7, 8] rfl ?_
                  exact J2  f2 _  W3 F3  (by omega) (by show f2 = 0 → ivh2 a0 7 ≤ 204 + 4 * k; omega) (by show ivh2 a0 4 = iv a0 4; omega)
            · replace hsc := (hsc.resolve_left c6)
              refine c_aload_n (j := 7) (x := a1) C dX6_setBy_113 rfl ?_
              obtain ⟨nb2, nq2, tnb2⟩ := opt_n (Wb2.opt t_a1 3 rfl rfl)
              have tnb2 : ∀ b, nb2 = some b → ty L cl b 100 := tnb2
              refine c_getr (k := 3) C ck_10 dX6_setBy_114 w2_185 (by decide) t_a1 rfl rfl (by decide) rfl nq2 ?_
              refine c_st (st2 := [(va_rf nb2), .ref a0]) rfl ?_
              refine c_goto (tgt := 122) C dX6_setBy_117 (by decide) ?_
              refine c_iload (j := 3) C dX6_setBy_122 rfl ?_
              refine c_iload (j := 4) C dX6_setBy_124 rfl ?_
              refine hv2 (show 0 ≤ ivb2 a0 7 ∧ ivb2 a0 7 ≤ 100000 from Wb2.int t_a0 7) (show 0 ≤ ivb2 a0 4 ∧ ivb2 a0 4 ≤ 500 from Wb2.int t_a0 4) (fun ri16 ri17 => ?_)
              refine d_callV (As := [(va_rf nb2), .int (iI fr), .int (iI k)]) (rest := []) C hM (C_setPart (a0 := a0) (r := nb2) (i := fr) (n := k) Wb2 hS t_a0 tnb2 (by omega) (by omega) (by show 0 ≤ fr ∧ fr ≤ 500 ∧ 0 ≤ k ∧ k ≤ 500 ∧ ivb2 a0 7 ≤ 50000; omega)) dX6_setBy_126 kV_X6_74 rfl t_a0 rfl rfl (by decide) ck_7 rfl (Nat.le_of_ble_eq_true rfl) ⟨(Nat.le_of_ble_eq_true rfl), (Nat.le_of_ble_eq_true rfl)⟩ hph hph (show 0 + 0 = 0 from rfl) (by decide) (fun rh3 Lh3 clh3 lnh3 ivh3 rvh3 h3 => ?_)
              obtain ⟨f3, rfl, rfl, rfl, rfl, rfl, fl3, W4, rgf3, exf3⟩ := h3
              have F4 := Fb2.call hX0 fl3 rfl
              refine c_st (st2 := [.int (iI f3)]) rfl ?_
              refine hv3 (show 0 ≤ ivh3 a0 4 ∧ ivh3 a0 4 ≤ 500 from W4.int t_a0 4) (show 0 ≤ ivh3 a0 7 ∧ ivh3 a0 7 ≤ 100000 from W4.int t_a0 7) (show (f3 = 0 ∨ f3 = 6 ∨ f3 = 7) ∧ ivh3 a0 4 = ivb2 a0 4 ∧ ivh3 a0 7 ≤ ivb2 a0 7 + 208 ∧ (f3 = 0 → (ivh3 a0 7 ≤ ivb2 a0 7 ∨ ivh3 a0 7 ≤ 200)) from exf3) (fun ri18 ri19 gf3 => ?_)
              refine c_istore (lv2 := [(8, .int (iI f3)), (6, .int (iI tn)), (7, (va_rf fs)), (3, .int (iI sc)), (4, .int (iI fr)), (5, .int (iI k)), (2, .int (iI 0)), (0, .ref a0), (1, .ref a1)]) C dX6_setBy_129 (by decide) (by cases fs <;> rfl) ?_
              refine c_iload (j := 0) C dX6_setBy_131 rfl ?_
              refine c_if_ne (tgt := 163) C (r32_067 gf3.1) dX6_setBy_133 (by decide) (fun c9 => ?_) (fun c9 => ?_)
              · replace gf3 := (And.intro (gf3.1.resolve_left c9) (And.intro gf3.2.1 (And.intro gf3.2.2.1 trivial)))
                refine c_lv (lv2 := [(8, .int (iI f3)), (6, .int (iI tn)), (7, (va_rf fs)), (3, .int (iI sc)), (4, .int (iI fr)), (5, .int (iI k)), (2, .int (iI 0)), (0, .ref a0), (1, .ref a1)]) [0, 1, 2, 3, 4, 5, 6, 7, 8] rfl ?_
                exact J2  f3 _  W4 F4  (by omega) (by show f3 = 0 → ivh3 a0 7 ≤ 204 + 4 * k; omega) (by show ivh3 a0 4 = iv a0 4; omega)
              · replace gf3 := (And.intro c9 (And.intro gf3.2.1 (And.intro gf3.2.2.1 (gf3.2.2.2 c9))))
                refine c_iload (j := 1) C dX6_setBy_136 rfl ?_
                refine c_if_eq (tgt := 163) C (r32_01 htn) dX6_setBy_138 (by decide) (fun c10 => ?_) (fun c10 => ?_)
                · clear htn
                  clear htk
                  refine c_lv (lv2 := [(8, .int (iI f3)), (6, .int (iI tn)), (7, (va_rf fs)), (3, .int (iI sc)), (4, .int (iI fr)), (5, .int (iI k)), (2, .int (iI 0)), (0, .ref a0), (1, .ref a1)]) [0, 1, 2, 3, 4, 5, 6, 7, 8] rfl ?_
                  exact J2  f3 _  W4 F4  (by omega) (by show f3 = 0 → ivh3 a0 7 ≤ 204 + 4 * k; omega) (by show ivh3 a0 4 = iv a0 4; omega)
                · replace htn := (htn.resolve_left c10)
                  refine c_aload_n (j := 7) (x := a0) C dX6_setBy_141 rfl ?_
                  refine c_aload_n (j := 8) (x := a1) C dX6_setBy_142 rfl ?_
                  obtain ⟨rb2, rq2, trb2⟩ := W4.ref t_a1 6 rfl rfl rfl
                  have lnrb2 : 4 ≤ ln rb2 ∧ ln rb2 ≤ 4 := W4.len trb2 rfl
                  refine c_getr (k := 6) C ck_10 dX6_setBy_143 w2_195 (by decide) t_a1 rfl rfl (by decide) rfl rq2 ?_
                  refine c_st (st2 := [.ref rb2, .ref a0]) rfl ?_
                  refine c_iload_n (j := 3) C dX6_setBy_146 rfl ?_
                  refine c_if_eq (tgt := 154) C ⟨by omega, by omega⟩ dX6_setBy_147 (by decide) (fun z => absurd z (by omega)) (fun _ => ?_)
                  refine c_iconst C dX6_setBy_150 ?_
                  refine c_goto (tgt := 155) C dX6_setBy_151 (by decide) ?_
                  have ll2 : 4 ≤ ln rb2 ∧ ln rb2 ≤ 4 := W4.len trb2 rfl
                  obtain ⟨nb3, nq3, tnb3⟩ := opt_n (W4.opt trb2 ((3 : Int).toNat) rfl rfl)
                  have tnb3 : ∀ b, nb3 = some b → ty L cl b 20 := tnb3
                  refine c_aaldR C dX6_setBy_155 trb2 rfl (by omega) (by omega) (by omega) nq3 ?_
                  refine c_st (st2 := [(va_rf nb3), .ref a0]) rfl ?_
                  refine c_iload (j := 5) C dX6_setBy_156 rfl ?_
                  refine d_callV (As := [(va_rf nb3), .int (iI k)]) (rest := []) C hM (C_setTurn (a0 := a0) (r := nb3) (i := k) W4 hS t_a0 tnb3 (by omega) (by show ivh3 a0 7 ≤ 90000; omega)) dX6_setBy_158 kV_X6_82 rfl t_a0 rfl rfl (by decide) ck_7 rfl (Nat.le_of_ble_eq_true rfl) ⟨(Nat.le_of_ble_eq_true rfl), (Nat.le_of_ble_eq_true rfl)⟩ hph hph (show 0 + 0 = 0 from rfl) (by decide) (fun rh4 Lh4 clh4 lnh4 ivh4 rvh4 h4 => ?_)
                  obtain ⟨f4, rfl, rfl, rfl, rfl, rfl, fl4, W5, rgf4, exf4⟩ := h4
                  have F5 := F4.call hX0 fl4 rfl
                  refine c_st (st2 := [.int (iI f4)]) rfl ?_
                  refine hv3 (show 0 ≤ ivh4 a0 4 ∧ ivh4 a0 4 ≤ 500 from W5.int t_a0 4) (show 0 ≤ ivh4 a0 7 ∧ ivh4 a0 7 ≤ 100000 from W5.int t_a0 7) (show (f4 = 0 ∨ f4 = 7) ∧ ivh4 a0 4 = ivh3 a0 4 ∧ ivh3 a0 7 ≤ ivh4 a0 7 ∧ ivh4 a0 7 ≤ ivh3 a0 7 + 4 from exf4) (fun ri20 ri21 gf4 => ?_)
                  refine c_istore (lv2 := [(8, .int (iI f4)), (6, .int (iI tn)), (7, (va_rf fs)), (3, .int (iI sc)), (4, .int (iI fr)), (5, .int (iI k)), (2, .int (iI 0)), (0, .ref a0), (1, .ref a1)]) C dX6_setBy_161 (by decide) (by cases fs <;> rfl) ?_
                  refine c_lv (lv2 := [(8, .int (iI f4)), (6, .int (iI tn)), (7, (va_rf fs)), (3, .int (iI sc)), (4, .int (iI fr)), (5, .int (iI k)), (2, .int (iI 0)), (0, .ref a0), (1, .ref a1)]) [0, 1, 2, 3, 4, 5, 6, 7, 8] rfl ?_
                  exact J2  f4 _  W5 F5  (by omega) (by show f4 = 0 → ivh4 a0 7 ≤ 204 + 4 * k; omega) (by show ivh4 a0 4 = iv a0 4; omega)
          refine c_iload_n (j := 3) C dX6_setBy_36 rfl ?_
          refine c_if_eq (tgt := 74) C ⟨by decide, by decide⟩ dX6_setBy_37 (by decide) (fun _ => ?_) (fun z => absurd z (by omega))
          refine c_iconst C dX6_setBy_74 ?_
          refine c_istore (lv2 := [(6, .int (iI 0)), (3, .int (iI sc)), (4, .int (iI fr)), (5, .int (iI k)), (2, .int (iI 0)), (0, .ref a0), (1, .ref a1)]) C dX6_setBy_75 (by decide) rfl ?_
          refine c_iload (j := 3) C dX6_setBy_77 rfl ?_
          refine c_aload_n (j := 5) (x := a0) C dX6_setBy_79 rfl ?_
          refine c_get (k := 4) C ck_7 dX6_setBy_80 w1_140 (by decide) t_a0 rfl rfl (by decide) rfl ?_
          refine c_icmp_ge (tgt := 94) C ⟨by omega, by omega⟩ (r32_c (lo := 0) (hi := 500) ri2.1 ri2.2 (by decide) (by decide)) dX6_setBy_83 (by decide) (fun c11 => ?_) (fun c11 => ?_)
          · refine c_iload_n (j := 4) C dX6_setBy_94 rfl ?_
            refine c_if_eq (tgt := 105) C ⟨by decide, by decide⟩ dX6_setBy_95 (by decide) (fun _ => ?_) (fun z => absurd z (by omega))
            refine c_aload_n (j := 6) (x := a1) C dX6_setBy_105 rfl ?_
            refine c_astore (lv2 := [(7, .ref a1), (6, .int (iI 0)), (3, .int (iI sc)), (4, .int (iI fr)), (5, .int (iI k)), (2, .int (iI 0)), (0, .ref a0), (1, .ref a1)]) C dX6_setBy_106 (by decide) rfl ?_
            have ri22 : 0 ≤ ivb1 a0 7 ∧ ivb1 a0 7 ≤ 100000 := Wb1.int t_a0 7
            refine c_lv (lv2 := [(6, .int (iI 0)), (7, .ref a1), (3, .int (iI sc)), (4, .int (iI fr)), (5, .int (iI k)), (2, .int (iI 0)), (0, .ref a0), (1, .ref a1)]) [1, 0, 2, 3, 4, 5, 6, 7] rfl ?_
            exact J1  (some a1) 0 _  Wb1 Fb1 (fun _ q => by cases q; exact t_a1) (by omega) (by omega) (fun q => absurd q (by omega)) (by show ivb1 a0 7 ≤ 200 + 4 * k; omega) hc4
          · refine c_iload (j := 0) C dX6_setBy_86 rfl ?_
            refine c_if_ne (tgt := 94) C ⟨by decide, by decide⟩ dX6_setBy_88 (by decide) (fun z => absurd z (by omega)) (fun _ => ?_)
            refine c_goto (tgt := 187) C dX6_setBy_91 (by decide) ?_
            refine c_iinc (z := k) (j := 3) (lv2 := [(5, .int (iI (k + 1))), (6, .int (iI 0)), (3, .int (iI sc)), (4, .int (iI fr)), (2, .int (iI 0)), (0, .ref a0), (1, .ref a1)]) C dX6_setBy_187 rfl (by decide) rfl ?_
            refine c_goto (tgt := 27) C dX6_setBy_190 (by decide) ?_
            have ri23 : 0 ≤ ivb1 a0 7 ∧ ivb1 a0 7 ≤ 100000 := Wb1.int t_a0 7
            refine c_lv (lv2 := [(3, .int (iI sc)), (4, .int (iI fr)), (5, .int (iI (k + 1))), (2, .int (iI 0)), (0, .ref a0), (1, .ref a1)]) [2, 3, 0, 4, 5, 6] rfl ?_
            exact ih1  sc fr (k + 1) _ (by omega) Wb1 Fb1  (by omega) (by omega) (by omega) (by show ivb1 a0 7 ≤ 200 + 4 * (k + 1); omega) hc4
    refine hv4 (show 0 ≤ iv1 a0 7 ∧ iv1 a0 7 ≤ 100000 from W1.int t_a0 7) (show iv1 a0 7 = 0 from by rw [pq1]; exact up2_s) (show 0 ≤ iv1 a0 4 ∧ iv1 a0 4 ≤ 500 from W1.int t_a0 4) (show iv1 a0 4 = iv a0 4 from by rw [pq1]; exact up2_j (by decide)) (fun ri24 ie24 ri25 ie25 => ?_)
    refine c_lv (lv2 := [(3, .int (iI 0)), (4, .int (iI 0)), (5, .int (iI 0)), (2, .int (iI 0)), (0, .ref a0), (1, .ref a1)]) [2, 1, 0, 3, 4, 5] rfl ?_
    exact Lp1 503 0 0 0 _ (by omega) W1 F1  (by omega) (by omega) (by omega) (by show iv1 a0 7 ≤ 200 + 4 * 0; omega) ie25
  · refine c_iconst C dX6_setBy_13 ?_
    refine c_goto (tgt := 18) C dX6_setBy_14 (by decide) ?_
    refine c_istore_n (lv2 := [(2, .int (iI 1)), (0, .ref a0), (1, .ref a1)]) C dX6_setBy_18 (by decide) rfl ?_
    refine c_iconst C dX6_setBy_19 ?_
    refine c_istore_n (lv2 := [(3, .int (iI 0)), (2, .int (iI 1)), (0, .ref a0), (1, .ref a1)]) C dX6_setBy_20 (by decide) rfl ?_
    refine c_iconst C dX6_setBy_21 ?_
    refine c_istore (lv2 := [(4, .int (iI 0)), (3, .int (iI 0)), (2, .int (iI 1)), (0, .ref a0), (1, .ref a1)]) C dX6_setBy_22 (by decide) rfl ?_
    refine c_iconst C dX6_setBy_24 ?_
    refine c_istore (lv2 := [(5, .int (iI 0)), (4, .int (iI 0)), (3, .int (iI 0)), (2, .int (iI 1)), (0, .ref a0), (1, .ref a1)]) C dX6_setBy_25 (by decide) rfl ?_
    have Lp2 : ∀ (nn : Nat) (sc fr k : Int) (ivb4 : Nat → Nat → Int) , iv a0 4 + 2 - k < (nn : Int) → WT (g0 G) sk L cl ln ivb4 rv → fT [15, 53, 54, 55] L cl iv rv ivb4 rv → (sc = 0 ∨ sc = 1) → (0 ≤ fr ∧ fr ≤ k) → (0 ≤ k ∧ k ≤ iv a0 4 + 1) → (ivb4 a0 7 ≤ 200 + 4 * k) → (ivb4 a0 4 = iv a0 4) → cw p l e 6 ((PHM) + 0 - ((Phi (g0 G) sk) ln rv)) s m args below meth c G A 9 (MQ below (Qu G A (Qp G (Phi (g0 G) sk) ((Phi (g0 G) sk) ln rv) 0 (fun v L2 cl2 ln2 iv2 rv2 => ∃ f : Int, v = some (.int (iI f)) ∧ L = L2 ∧ cl = cl2 ∧ ln = ln2 ∧ rv = rv2 ∧ fT [15, 53, 54, 55] L cl iv rv iv2 rv2 ∧ WT (g0 G) sk L2 cl2 ln2 iv2 rv2 ∧ (-2147483648 ≤ f ∧ f ≤ 2147483647) ∧ ((f = 0 ∨ f = 6 ∨ f = 7) ∧ iv2 a0 4 = iv a0 4 ∧ (f = 0 → iv2 a0 7 ≤ 200))))) args s (((PHM) + 0 - ((Phi (g0 G) sk) ln rv)) / 16) ((PHM) + 0 - ((Phi (g0 G) sk) ln rv)) A) (Phi (g0 G) sk) ((Phi (g0 G) sk) ln rv) L cl ln ivb4 rv 0 27 [(3, .int (iI sc)), (4, .int (iI fr)), (5, .int (iI k)), (2, .int (iI 1)), (0, .ref a0), (1, .ref a1)] [] := by
      intro nn
      induction nn with
      | zero =>
        intro  sc fr k ivb4 hm Wb4 Fb4  hsc hfr hk hc7 hc4
        exact absurd hm (by omega)
      | succ nn ih2 =>
        intro  sc fr k ivb4 hm Wb4 Fb4  hsc hfr hk hc7 hc4
        refine c_iload (j := 2) C dX6_setBy_27 rfl ?_
        refine c_aload_n (j := 4) (x := a0) C dX6_setBy_29 rfl ?_
        have ri26 : 0 ≤ ivb4 a0 4 ∧ ivb4 a0 4 ≤ 500 := Wb4.int t_a0 4
        refine c_get (k := 4) C ck_7 dX6_setBy_30 w1_140 (by decide) t_a0 rfl rfl (by decide) rfl ?_
        refine c_icmp_gt (tgt := 193) C ⟨by omega, by omega⟩ (r32_c (lo := 0) (hi := 500) ri26.1 ri26.2 (by decide) (by decide)) dX6_setBy_33 (by decide) (fun c12 => ?_) (fun c12 => ?_)
        · refine c_aload_n (j := 4) (x := a0) C dX6_setBy_193 rfl ?_
          have ri27 : 0 ≤ ivb4 a0 7 ∧ ivb4 a0 7 ≤ 100000 := Wb4.int t_a0 7
          refine c_get (k := 7) C ck_7 dX6_setBy_194 w1_147 (by decide) t_a0 rfl rfl (by decide) rfl ?_
          refine c_sipush (z := 200) C dX6_setBy_197 (by decide) ?_
          refine c_icmp_le (tgt := 208) C (r32_c (lo := 0) (hi := 100000) ri27.1 ri27.2 (by decide) (by decide)) ⟨by decide, by decide⟩ dX6_setBy_200 (by decide) (fun c13 => ?_) (fun c13 => ?_)
          · refine c_iconst C dX6_setBy_208 ?_
            exact c_iret C dX6_setBy_209 rfl (by decide) (rom0 hph hph (by decide)) ⟨0, rfl, rfl, rfl, rfl, rfl, Fb4, Wb4, ⟨by decide, by decide⟩, (by omega)⟩
          · refine c_bipush (z := 6) C dX6_setBy_203 (by decide) ?_
            refine c_goto (tgt := 209) C dX6_setBy_205 (by decide) ?_
            exact c_iret C dX6_setBy_209 rfl (by decide) (rom0 hph hph (by decide)) ⟨6, rfl, rfl, rfl, rfl, rfl, Fb4, Wb4, ⟨by decide, by decide⟩, (by omega)⟩
        · have J3 : ∀ (fs : Option Nat) (tn : Int) (ivb5 : Nat → Nat → Int) , WT (g0 G) sk L cl ln ivb5 rv → fT [15, 53, 54, 55] L cl iv rv ivb5 rv → (∀ b, fs = some b → ty L cl b 100) → (tn = 0 ∨ tn = 1) → (k ≤ iv a0 4) → (tn = 1 → k < iv a0 4) → (ivb5 a0 7 ≤ 200 + 4 * k) → (ivb5 a0 4 = iv a0 4) → cw p l e 6 ((PHM) + 0 - ((Phi (g0 G) sk) ln rv)) s m args below meth c G A 9 (MQ below (Qu G A (Qp G (Phi (g0 G) sk) ((Phi (g0 G) sk) ln rv) 0 (fun v L2 cl2 ln2 iv2 rv2 => ∃ f : Int, v = some (.int (iI f)) ∧ L = L2 ∧ cl = cl2 ∧ ln = ln2 ∧ rv = rv2 ∧ fT [15, 53, 54, 55] L cl iv rv iv2 rv2 ∧ WT (g0 G) sk L2 cl2 ln2 iv2 rv2 ∧ (-2147483648 ≤ f ∧ f ≤ 2147483647) ∧ ((f = 0 ∨ f = 6 ∨ f = 7) ∧ iv2 a0 4 = iv a0 4 ∧ (f = 0 → iv2 a0 7 ≤ 200))))) args s (((PHM) + 0 - ((Phi (g0 G) sk) ln rv)) / 16) ((PHM) + 0 - ((Phi (g0 G) sk) ln rv)) A) (Phi (g0 G) sk) ((Phi (g0 G) sk) ln rv) L cl ln ivb5 rv 0 108 [(6, .int (iI tn)), (7, (va_rf fs)), (3, .int (iI sc)), (4, .int (iI fr)), (5, .int (iI k)), (2, .int (iI 1)), (0, .ref a0), (1, .ref a1)] [] := by
            intro fs tn ivb5 Wb5 Fb5 ty_fs htn hki htk hd7 hd4
            have J4 : ∀ (wy : Int) (ivb6 : Nat → Nat → Int) , WT (g0 G) sk L cl ln ivb6 rv → fT [15, 53, 54, 55] L cl iv rv ivb6 rv → (wy = 0 ∨ wy = 6 ∨ wy = 7) → (wy = 0 → ivb6 a0 7 ≤ 204 + 4 * k) → (ivb6 a0 4 = iv a0 4) → cw p l e 6 ((PHM) + 0 - ((Phi (g0 G) sk) ln rv)) s m args below meth c G A 9 (MQ below (Qu G A (Qp G (Phi (g0 G) sk) ((Phi (g0 G) sk) ln rv) 0 (fun v L2 cl2 ln2 iv2 rv2 => ∃ f : Int, v = some (.int (iI f)) ∧ L = L2 ∧ cl = cl2 ∧ ln = ln2 ∧ rv = rv2 ∧ fT [15, 53, 54, 55] L cl iv rv iv2 rv2 ∧ WT (g0 G) sk L2 cl2 ln2 iv2 rv2 ∧ (-2147483648 ≤ f ∧ f ≤ 2147483647) ∧ ((f = 0 ∨ f = 6 ∨ f = 7) ∧ iv2 a0 4 = iv a0 4 ∧ (f = 0 → iv2 a0 7 ≤ 200))))) args s (((PHM) + 0 - ((Phi (g0 G) sk) ln rv)) / 16) ((PHM) + 0 - ((Phi (g0 G) sk) ln rv)) A) (Phi (g0 G) sk) ((Phi (g0 G) sk) ln rv) L cl ln ivb6 rv 0 163 [(8, .int (iI wy)), (6, .int (iI tn)), (7, (va_rf fs)), (3, .int (iI sc)), (4, .int (iI fr)), (5, .int (iI k)), (2, .int (iI 1)), (0, .ref a0), (1, .ref a1)] [] := by
              intro  wy ivb6 Wb6 Fb6  hwy he7 he4
              refine c_iload (j := 0) C dX6_setBy_163 rfl ?_
              refine c_if_eq (tgt := 171) C (r32_067 hwy) dX6_setBy_165 (by decide) (fun c14 => ?_) (fun c14 => ?_)
              · clear hwy
                replace he7 := (he7 c14)
                refine c_iload_n (j := 3) C dX6_setBy_171 rfl ?_
                refine c_if_ne (tgt := 179) C (r32_01 hsc) dX6_setBy_172 (by decide) (fun c15 => ?_) (fun c15 => ?_)
                · replace hsc := (hsc.resolve_left c15)
                  refine c_iconst C dX6_setBy_179 ?_
                  refine c_istore_n (lv2 := [(3, .int (iI 0)), (8, .int (iI wy)), (6, .int (iI tn)), (7, (va_rf fs)), (4, .int (iI fr)), (5, .int (iI k)), (2, .int (iI 1)), (0, .ref a0), (1, .ref a1)]) C dX6_setBy_180 (by decide) rfl ?_
                  refine c_iload (j := 5) C dX6_setBy_181 rfl ?_
                  refine c_iconst C dX6_setBy_183 ?_
                  refine c_iadd C dX6_setBy_184 ?_
                  refine c_istore (lv2 := [(4, .int (iI (k + 1))), (3, .int (iI 0)), (8, .int (iI wy)), (6, .int (iI tn)), (7, (va_rf fs)), (5, .int (iI k)), (2, .int (iI 1)), (0, .ref a0), (1, .ref a1)]) C dX6_setBy_185 (by decide) rfl ?_
                  refine c_iinc (z := k) (j := 5) (lv2 := [(5, .int (iI (k + 1))), (4, .int (iI (k + 1))), (3, .int (iI 0)), (8, .int (iI wy)), (6, .int (iI tn)), (7, (va_rf fs)), (2, .int (iI 1)), (0, .ref a0), (1, .ref a1)]) C dX6_setBy_187 rfl (by decide) rfl ?_
                  refine c_goto (tgt := 27) C dX6_setBy_190 (by decide) ?_
                  refine hv2 (show 0 ≤ ivb6 a0 7 ∧ ivb6 a0 7 ≤ 100000 from Wb6.int t_a0 7) (show 0 ≤ ivb6 a0 4 ∧ ivb6 a0 4 ≤ 500 from Wb6.int t_a0 4) (fun ri28 ri29 => ?_)
                  refine c_lv (lv2 := [(3, .int (iI 0)), (4, .int (iI (k + 1))), (5, .int (iI (k + 1))), (2, .int (iI 1)), (0, .ref a0), (1, .ref a1)]) [2, 1, 0, 6, 7, 8] rfl ?_
                  exact ih2  0 (k + 1) (k + 1) _ (by omega) Wb6 Fb6  (by omega) (by omega) (by omega) (by show ivb6 a0 7 ≤ 200 + 4 * (k + 1); omega) he4
                · clear hsc
                  refine c_iconst C dX6_setBy_175 ?_
                  refine c_goto (tgt := 180) C dX6_setBy_176 (by decide) ?_
                  refine c_istore_n (lv2 := [(3, .int (iI 1)), (8, .int (iI wy)), (6, .int (iI tn)), (7, (va_rf fs)), (4, .int (iI fr)), (5, .int (iI k)), (2, .int (iI 1)), (0, .ref a0), (1, .ref a1)]) C dX6_setBy_180 (by decide) rfl ?_
                  refine c_iload (j := 5) C dX6_setBy_181 rfl ?_
                  refine c_iconst C dX6_setBy_183 ?_
                  refine c_iadd C dX6_setBy_184 ?_
                  refine c_istore (lv2 := [(4, .int (iI (k + 1))), (3, .int (iI 1)), (8, .int (iI wy)), (6, .int (iI tn)), (7, (va_rf fs)), (5, .int (iI k)), (2, .int (iI 1)), (0, .ref a0), (1, .ref a1)]) C dX6_setBy_185 (by decide) rfl ?_
                  refine c_iinc (z := k) (j := 5) (lv2 := [(5, .int (iI (k + 1))), (4, .int (iI (k + 1))), (3, .int (iI 1)), (8, .int (iI wy)), (6, .int (iI tn)), (7, (va_rf fs)), (2, .int (iI 1)), (0, .ref a0), (1, .ref a1)]) C dX6_setBy_187 rfl (by decide) rfl ?_
                  refine c_goto (tgt := 27) C dX6_setBy_190 (by decide) ?_
                  refine hv2 (show 0 ≤ ivb6 a0 7 ∧ ivb6 a0 7 ≤ 100000 from Wb6.int t_a0 7) (show 0 ≤ ivb6 a0 4 ∧ ivb6 a0 4 ≤ 500 from Wb6.int t_a0 4) (fun ri30 ri31 => ?_)
                  refine c_lv (lv2 := [(3, .int (iI 1)), (4, .int (iI (k + 1))), (5, .int (iI (k + 1))), (2, .int (iI 1)), (0, .ref a0), (1, .ref a1)]) [2, 1, 0, 6, 7, 8] rfl ?_
                  exact ih2  1 (k + 1) (k + 1) _ (by omega) Wb6 Fb6  (by omega) (by omega) (by omega) (by show ivb6 a0 7 ≤ 200 + 4 * (k + 1); omega) he4
              · replace hwy := (hwy.resolve_left c14)
                clear he7
                refine c_iload (j := 0) C dX6_setBy_168 rfl ?_
                refine hv2 (show 0 ≤ ivb6 a0 4 ∧ ivb6 a0 4 ≤ 500 from Wb6.int t_a0 4) (show 0 ≤ ivb6 a0 7 ∧ ivb6 a0 7 ≤ 100000 from Wb6.int t_a0 7) (fun ri32 ri33 => ?_)
                exact c_iret C dX6_setBy_170 rfl (by decide) (rom0 hph hph (by decide)) ⟨wy, rfl, rfl, rfl, rfl, rfl, Fb6, Wb6, ⟨by omega, by omega⟩, (by omega)⟩
            refine c_aload_n (j := 6) (x := a0) C dX6_setBy_108 rfl ?_
            refine c_iload_n (j := 2) C dX6_setBy_109 rfl ?_
            refine c_if_eq (tgt := 120) C (r32_01 hsc) dX6_setBy_110 (by decide) (fun c16 => ?_) (fun c16 => ?_)
            · clear hsc
              refine c_aloadr (j := 1) (r := fs) C dX6_setBy_120 rfl ?_
              refine c_iload (j := 3) C dX6_setBy_122 rfl ?_
              refine c_iload (j := 4) C dX6_setBy_124 rfl ?_
              refine hv2 (show 0 ≤ ivb5 a0 7 ∧ ivb5 a0 7 ≤ 100000 from Wb5.int t_a0 7) (show 0 ≤ ivb5 a0 4 ∧ ivb5 a0 4 ≤ 500 from Wb5.int t_a0 4) (fun ri34 ri35 => ?_)
              refine d_callV (As := [(va_rf fs), .int (iI fr), .int (iI k)]) (rest := []) C hM (C_setPart (a0 := a0) (r := fs) (i := fr) (n := k) Wb5 hS t_a0 ty_fs (by omega) (by omega) (by show 0 ≤ fr ∧ fr ≤ 500 ∧ 0 ≤ k ∧ k ≤ 500 ∧ ivb5 a0 7 ≤ 50000; omega)) dX6_setBy_126 kV_X6_74 rfl t_a0 rfl rfl (by decide) ck_7 rfl (Nat.le_of_ble_eq_true rfl) ⟨(Nat.le_of_ble_eq_true rfl), (Nat.le_of_ble_eq_true rfl)⟩ hph hph (show 0 + 0 = 0 from rfl) (by decide) (fun rh5 Lh5 clh5 lnh5 ivh5 rvh5 h5 => ?_)
              obtain ⟨f5, rfl, rfl, rfl, rfl, rfl, fl5, W6, rgf5, exf5⟩ := h5
              have F6 := Fb5.call hX0 fl5 rfl
              refine c_st (st2 := [.int (iI f5)]) rfl ?_
              refine hv3 (show 0 ≤ ivh5 a0 4 ∧ ivh5 a0 4 ≤ 500 from W6.int t_a0 4) (show 0 ≤ ivh5 a0 7 ∧ ivh5 a0 7 ≤ 100000 from W6.int t_a0 7) (show (f5 = 0 ∨ f5 = 6 ∨ f5 = 7) ∧ ivh5 a0 4 = ivb5 a0 4 ∧ ivh5 a0 7 ≤ ivb5 a0 7 + 208 ∧ (f5 = 0 → (ivh5 a0 7 ≤ ivb5 a0 7 ∨ ivh5 a0 7 ≤ 200)) from exf5) (fun ri36 ri37 gf5 => ?_)
              refine c_istore (lv2 := [(8, .int (iI f5)), (6, .int (iI tn)), (7, (va_rf fs)), (3, .int (iI sc)), (4, .int (iI fr)), (5, .int (iI k)), (2, .int (iI 1)), (0, .ref a0), (1, .ref a1)]) C dX6_setBy_129 (by decide) (by cases fs <;> rfl) ?_
              refine c_iload (j := 0) C dX6_setBy_131 rfl ?_
              refine c_if_ne (tgt := 163) C (r32_067 gf5.1) dX6_setBy_133 (by decide) (fun c17 => ?_) (fun c17 => ?_)
              · replace gf5 := (And.intro (gf5.1.resolve_left c17) (And.intro gf5.2.1 (And.intro gf5.2.2.1 trivial)))
                refine c_lv (lv2 := [(8, .int (iI f5)), (6, .int (iI tn)), (7, (va_rf fs)), (3, .int (iI sc)), (4, .int (iI fr)), (5, .int (iI k)), (2, .int (iI 1)), (0, .ref a0), (1, .ref a1)]) [0, 1, 2, 3, 4, 5, 6, 7, 8] rfl ?_
                exact J4  f5 _  W6 F6  (by omega) (by show f5 = 0 → ivh5 a0 7 ≤ 204 + 4 * k; omega) (by show ivh5 a0 4 = iv a0 4; omega)
              · replace gf5 := (And.intro c17 (And.intro gf5.2.1 (And.intro gf5.2.2.1 (gf5.2.2.2 c17))))
                refine c_iload (j := 1) C dX6_setBy_136 rfl ?_
                refine c_if_eq (tgt := 163) C (r32_01 htn) dX6_setBy_138 (by decide) (fun c18 => ?_) (fun c18 => ?_)
                · clear htn
                  clear htk
                  refine c_lv (lv2 := [(8, .int (iI f5)), (6, .int (iI tn)), (7, (va_rf fs)), (3, .int (iI sc)), (4, .int (iI fr)), (5, .int (iI k)), (2, .int (iI 1)), (0, .ref a0), (1, .ref a1)]) [0, 1, 2, 3, 4, 5, 6, 7, 8] rfl ?_
                  exact J4  f5 _  W6 F6  (by omega) (by show f5 = 0 → ivh5 a0 7 ≤ 204 + 4 * k; omega) (by show ivh5 a0 4 = iv a0 4; omega)
                · replace htn := (htn.resolve_left c18)
                  refine c_aload_n (j := 7) (x := a0) C dX6_setBy_141 rfl ?_
                  refine c_aload_n (j := 8) (x := a1) C dX6_setBy_142 rfl ?_
                  obtain ⟨rb3, rq3, trb3⟩ := W6.ref t_a1 6 rfl rfl rfl
                  have lnrb3 : 4 ≤ ln rb3 ∧ ln rb3 ≤ 4 := W6.len trb3 rfl
                  refine c_getr (k := 6) C ck_10 dX6_setBy_143 w2_195 (by decide) t_a1 rfl rfl (by decide) rfl rq3 ?_
                  refine c_st (st2 := [.ref rb3, .ref a0]) rfl ?_
                  refine c_iload_n (j := 3) C dX6_setBy_146 rfl ?_
                  refine c_if_eq (tgt := 154) C ⟨by omega, by omega⟩ dX6_setBy_147 (by decide) (fun _ => ?_) (fun z => absurd z (by omega))
                  refine c_iconst C dX6_setBy_154 ?_
                  have ll3 : 4 ≤ ln rb3 ∧ ln rb3 ≤ 4 := W6.len trb3 rfl
                  obtain ⟨nb4, nq4, tnb4⟩ := opt_n (W6.opt trb3 ((2 : Int).toNat) rfl rfl)
                  have tnb4 : ∀ b, nb4 = some b → ty L cl b 20 := tnb4
                  refine c_aaldR C dX6_setBy_155 trb3 rfl (by omega) (by omega) (by omega) nq4 ?_
                  refine c_st (st2 := [(va_rf nb4), .ref a0]) rfl ?_
                  refine c_iload (j := 5) C dX6_setBy_156 rfl ?_
                  refine d_callV (As := [(va_rf nb4), .int (iI k)]) (rest := []) C hM (C_setTurn (a0 := a0) (r := nb4) (i := k) W6 hS t_a0 tnb4 (by omega) (by show ivh5 a0 7 ≤ 90000; omega)) dX6_setBy_158 kV_X6_82 rfl t_a0 rfl rfl (by decide) ck_7 rfl (Nat.le_of_ble_eq_true rfl) ⟨(Nat.le_of_ble_eq_true rfl), (Nat.le_of_ble_eq_true rfl)⟩ hph hph (show 0 + 0 = 0 from rfl) (by decide) (fun rh6 Lh6 clh6 lnh6 ivh6 rvh6 h6 => ?_)
                  obtain ⟨f6, rfl, rfl, rfl, rfl, rfl, fl6, W7, rgf6, exf6⟩ := h6
                  have F7 := F6.call hX0 fl6 rfl
                  refine c_st (st2 := [.int (iI f6)]) rfl ?_
                  refine hv3 (show 0 ≤ ivh6 a0 4 ∧ ivh6 a0 4 ≤ 500 from W7.int t_a0 4) (show 0 ≤ ivh6 a0 7 ∧ ivh6 a0 7 ≤ 100000 from W7.int t_a0 7) (show (f6 = 0 ∨ f6 = 7) ∧ ivh6 a0 4 = ivh5 a0 4 ∧ ivh5 a0 7 ≤ ivh6 a0 7 ∧ ivh6 a0 7 ≤ ivh5 a0 7 + 4 from exf6) (fun ri38 ri39 gf6 => ?_)
                  refine c_istore (lv2 := [(8, .int (iI f6)), (6, .int (iI tn)), (7, (va_rf fs)), (3, .int (iI sc)), (4, .int (iI fr)), (5, .int (iI k)), (2, .int (iI 1)), (0, .ref a0), (1, .ref a1)]) C dX6_setBy_161 (by decide) (by cases fs <;> rfl) ?_
                  refine c_lv (lv2 := [(8, .int (iI f6)), (6, .int (iI tn)), (7, (va_rf fs)), (3, .int (iI sc)), (4, .int (iI fr)), (5, .int (iI k)), (2, .int (iI 1)), (0, .ref a0), (1, .ref a1)]) [0, 1, 2, 3, 4, 5, 6, 7, 8] rfl ?_
                  exact J4  f6 _  W7 F7  (by omega) (by show f6 = 0 → ivh6 a0 7 ≤ 204 + 4 * k; omega) (by show ivh6 a0 4 = iv a0 4; omega)
            · replace hsc := (hsc.resolve_left c16)
              refine c_aload_n (j := 7) (x := a1) C dX6_setBy_113 rfl ?_
              obtain ⟨nb5, nq5, tnb5⟩ := opt_n (Wb5.opt t_a1 3 rfl rfl)
              have tnb5 : ∀ b, nb5 = some b → ty L cl b 100 := tnb5
              refine c_getr (k := 3) C ck_10 dX6_setBy_114 w2_185 (by decide) t_a1 rfl rfl (by decide) rfl nq5 ?_
              refine c_st (st2 := [(va_rf nb5), .ref a0]) rfl ?_
              refine c_goto (tgt := 122) C dX6_setBy_117 (by decide) ?_
              refine c_iload (j := 3) C dX6_setBy_122 rfl ?_
              refine c_iload (j := 4) C dX6_setBy_124 rfl ?_
              refine hv2 (show 0 ≤ ivb5 a0 7 ∧ ivb5 a0 7 ≤ 100000 from Wb5.int t_a0 7) (show 0 ≤ ivb5 a0 4 ∧ ivb5 a0 4 ≤ 500 from Wb5.int t_a0 4) (fun ri40 ri41 => ?_)
              refine d_callV (As := [(va_rf nb5), .int (iI fr), .int (iI k)]) (rest := []) C hM (C_setPart (a0 := a0) (r := nb5) (i := fr) (n := k) Wb5 hS t_a0 tnb5 (by omega) (by omega) (by show 0 ≤ fr ∧ fr ≤ 500 ∧ 0 ≤ k ∧ k ≤ 500 ∧ ivb5 a0 7 ≤ 50000; omega)) dX6_setBy_126 kV_X6_74 rfl t_a0 rfl rfl (by decide) ck_7 rfl (Nat.le_of_ble_eq_true rfl) ⟨(Nat.le_of_ble_eq_true rfl), (Nat.le_of_ble_eq_true rfl)⟩ hph hph (show 0 + 0 = 0 from rfl) (by decide) (fun rh7 Lh7 clh7 lnh7 ivh7 rvh7 h7 => ?_)
              obtain ⟨f7, rfl, rfl, rfl, rfl, rfl, fl7, W8, rgf7, exf7⟩ := h7
              have F8 := Fb5.call hX0 fl7 rfl
              refine c_st (st2 := [.int (iI f7)]) rfl ?_
              refine hv3 (show 0 ≤ ivh7 a0 4 ∧ ivh7 a0 4 ≤ 500 from W8.int t_a0 4) (show 0 ≤ ivh7 a0 7 ∧ ivh7 a0 7 ≤ 100000 from W8.int t_a0 7) (show (f7 = 0 ∨ f7 = 6 ∨ f7 = 7) ∧ ivh7 a0 4 = ivb5 a0 4 ∧ ivh7 a0 7 ≤ ivb5 a0 7 + 208 ∧ (f7 = 0 → (ivh7 a0 7 ≤ ivb5 a0 7 ∨ ivh7 a0 7 ≤ 200)) from exf7) (fun ri42 ri43 gf7 => ?_)
              refine c_istore (lv2 := [(8, .int (iI f7)), (6, .int (iI tn)), (7, (va_rf fs)), (3, .int (iI sc)), (4, .int (iI fr)), (5, .int (iI k)), (2, .int (iI 1)), (0, .ref a0), (1, .ref a1)]) C dX6_setBy_129 (by decide) (by cases fs <;> rfl) ?_
              refine c_iload (j := 0) C dX6_setBy_131 rfl ?_
              refine c_if_ne (tgt := 163) C (r32_067 gf7.1) dX6_setBy_133 (by decide) (fun c19 => ?_) (fun c19 => ?_)
              · replace gf7 := (And.intro (gf7.1.resolve_left c19) (And.intro gf7.2.1 (And.intro gf7.2.2.1 trivial)))
                refine c_lv (lv2 := [(8, .int (iI f7)), (6, .int (iI tn)), (7, (va_rf fs)), (3, .int (iI sc)), (4, .int (iI fr)), (5, .int (iI k)), (2, .int (iI 1)), (0, .ref a0), (1, .ref a1)]) [0, 1, 2, 3, 4, 5, 6, 7, 8] rfl ?_
                exact J4  f7 _  W8 F8  (by omega) (by show f7 = 0 → ivh7 a0 7 ≤ 204 + 4 * k; omega) (by show ivh7 a0 4 = iv a0 4; omega)
              · replace gf7 := (And.intro c19 (And.intro gf7.2.1 (And.intro gf7.2.2.1 (gf7.2.2.2 c19))))
                refine c_iload (j := 1) C dX6_setBy_136 rfl ?_
                refine c_if_eq (tgt := 163) C (r32_01 htn) dX6_setBy_138 (by decide) (fun c20 => ?_) (fun c20 => ?_)
                · clear htn
                  clear htk
                  refine c_lv (lv2 := [(8, .int (iI f7)), (6, .int (iI tn)), (7, (va_rf fs)), (3, .int (iI sc)), (4, .int (iI fr)), (5, .int (iI k)), (2, .int (iI 1)), (0, .ref a0), (1, .ref a1)]) [0, 1, 2, 3, 4, 5, 6, 7, 8] rfl ?_
                  exact J4  f7 _  W8 F8  (by omega) (by show f7 = 0 → ivh7 a0 7 ≤ 204 + 4 * k; omega) (by show ivh7 a0 4 = iv a0 4; omega)
                · replace htn := (htn.resolve_left c20)
                  refine c_aload_n (j := 7) (x := a0) C dX6_setBy_141 rfl ?_
                  refine c_aload_n (j := 8) (x := a1) C dX6_setBy_142 rfl ?_
                  obtain ⟨rb4, rq4, trb4⟩ := W8.ref t_a1 6 rfl rfl rfl
                  have lnrb4 : 4 ≤ ln rb4 ∧ ln rb4 ≤ 4 := W8.len trb4 rfl
                  refine c_getr (k := 6) C ck_10 dX6_setBy_143 w2_195 (by decide) t_a1 rfl rfl (by decide) rfl rq4 ?_
                  refine c_st (st2 := [.ref rb4, .ref a0]) rfl ?_
                  refine c_iload_n (j := 3) C dX6_setBy_146 rfl ?_
                  refine c_if_eq (tgt := 154) C ⟨by omega, by omega⟩ dX6_setBy_147 (by decide) (fun z => absurd z (by omega)) (fun _ => ?_)
                  refine c_iconst C dX6_setBy_150 ?_
                  refine c_goto (tgt := 155) C dX6_setBy_151 (by decide) ?_
                  have ll4 : 4 ≤ ln rb4 ∧ ln rb4 ≤ 4 := W8.len trb4 rfl
                  obtain ⟨nb6, nq6, tnb6⟩ := opt_n (W8.opt trb4 ((3 : Int).toNat) rfl rfl)
                  have tnb6 : ∀ b, nb6 = some b → ty L cl b 20 := tnb6
                  refine c_aaldR C dX6_setBy_155 trb4 rfl (by omega) (by omega) (by omega) nq6 ?_
                  refine c_st (st2 := [(va_rf nb6), .ref a0]) rfl ?_
                  refine c_iload (j := 5) C dX6_setBy_156 rfl ?_
                  refine d_callV (As := [(va_rf nb6), .int (iI k)]) (rest := []) C hM (C_setTurn (a0 := a0) (r := nb6) (i := k) W8 hS t_a0 tnb6 (by omega) (by show ivh7 a0 7 ≤ 90000; omega)) dX6_setBy_158 kV_X6_82 rfl t_a0 rfl rfl (by decide) ck_7 rfl (Nat.le_of_ble_eq_true rfl) ⟨(Nat.le_of_ble_eq_true rfl), (Nat.le_of_ble_eq_true rfl)⟩ hph hph (show 0 + 0 = 0 from rfl) (by decide) (fun rh8 Lh8 clh8 lnh8 ivh8 rvh8 h8 => ?_)
                  obtain ⟨f8, rfl, rfl, rfl, rfl, rfl, fl8, W9, rgf8, exf8⟩ := h8
                  have F9 := F8.call hX0 fl8 rfl
                  refine c_st (st2 := [.int (iI f8)]) rfl ?_
                  refine hv3 (show 0 ≤ ivh8 a0 4 ∧ ivh8 a0 4 ≤ 500 from W9.int t_a0 4) (show 0 ≤ ivh8 a0 7 ∧ ivh8 a0 7 ≤ 100000 from W9.int t_a0 7) (show (f8 = 0 ∨ f8 = 7) ∧ ivh8 a0 4 = ivh7 a0 4 ∧ ivh7 a0 7 ≤ ivh8 a0 7 ∧ ivh8 a0 7 ≤ ivh7 a0 7 + 4 from exf8) (fun ri44 ri45 gf8 => ?_)
                  refine c_istore (lv2 := [(8, .int (iI f8)), (6, .int (iI tn)), (7, (va_rf fs)), (3, .int (iI sc)), (4, .int (iI fr)), (5, .int (iI k)), (2, .int (iI 1)), (0, .ref a0), (1, .ref a1)]) C dX6_setBy_161 (by decide) (by cases fs <;> rfl) ?_
                  refine c_lv (lv2 := [(8, .int (iI f8)), (6, .int (iI tn)), (7, (va_rf fs)), (3, .int (iI sc)), (4, .int (iI fr)), (5, .int (iI k)), (2, .int (iI 1)), (0, .ref a0), (1, .ref a1)]) [0, 1, 2, 3, 4, 5, 6, 7, 8] rfl ?_
                  exact J4  f8 _  W9 F9  (by omega) (by show f8 = 0 → ivh8 a0 7 ≤ 204 + 4 * k; omega) (by show ivh8 a0 4 = iv a0 4; omega)
          refine c_iload_n (j := 3) C dX6_setBy_36 rfl ?_
          refine c_if_eq (tgt := 74) C ⟨by decide, by decide⟩ dX6_setBy_37 (by decide) (fun z => absurd z (by omega)) (fun _ => ?_)
          refine c_iload (j := 2) C dX6_setBy_40 rfl ?_
          refine c_aload_n (j := 4) (x := a0) C dX6_setBy_42 rfl ?_
          refine c_get (k := 4) C ck_7 dX6_setBy_43 w1_140 (by decide) t_a0 rfl rfl (by decide) rfl ?_
          refine c_icmp_ge (tgt := 74) C ⟨by omega, by omega⟩ (r32_c (lo := 0) (hi := 500) ri26.1 ri26.2 (by decide) (by decide)) dX6_setBy_46 (by decide) (fun c21 => ?_) (fun c21 => ?_)
          · refine c_iconst C dX6_setBy_74 ?_
            refine c_istore (lv2 := [(6, .int (iI 0)), (3, .int (iI sc)), (4, .int (iI fr)), (5, .int (iI k)), (2, .int (iI 1)), (0, .ref a0), (1, .ref a1)]) C dX6_setBy_75 (by decide) rfl ?_
            refine c_iload (j := 3) C dX6_setBy_77 rfl ?_
            refine c_aload_n (j := 5) (x := a0) C dX6_setBy_79 rfl ?_
            refine c_get (k := 4) C ck_7 dX6_setBy_80 w1_140 (by decide) t_a0 rfl rfl (by decide) rfl ?_
            refine c_icmp_ge (tgt := 94) C ⟨by omega, by omega⟩ (r32_c (lo := 0) (hi := 500) ri26.1 ri26.2 (by decide) (by decide)) dX6_setBy_83 (by decide) (fun _ => ?_) (fun z => absurd z (by omega))
            refine c_iload_n (j := 4) C dX6_setBy_94 rfl ?_
            refine c_if_eq (tgt := 105) C ⟨by decide, by decide⟩ dX6_setBy_95 (by decide) (fun z => absurd z (by omega)) (fun _ => ?_)
            refine c_aload_n (j := 6) (x := a1) C dX6_setBy_98 rfl ?_
            obtain ⟨nb7, nq7, tnb7⟩ := opt_n (Wb4.opt t_a1 2 rfl rfl)
            have tnb7 : ∀ b, nb7 = some b → ty L cl b 100 := tnb7
            refine c_getr (k := 2) C ck_10 dX6_setBy_99 w2_182 (by decide) t_a1 rfl rfl (by decide) rfl nq7 ?_
            refine c_st (st2 := [(va_rf nb7)]) rfl ?_
            refine c_goto (tgt := 106) C dX6_setBy_102 (by decide) ?_
            refine c_astorer (r := nb7) (lv2 := [(7, (va_rf nb7)), (6, .int (iI 0)), (3, .int (iI sc)), (4, .int (iI fr)), (5, .int (iI k)), (2, .int (iI 1)), (0, .ref a0), (1, .ref a1)]) C dX6_setBy_106 (by decide) rfl ?_
            have ri46 : 0 ≤ ivb4 a0 7 ∧ ivb4 a0 7 ≤ 100000 := Wb4.int t_a0 7
            refine c_lv (lv2 := [(6, .int (iI 0)), (7, (va_rf nb7)), (3, .int (iI sc)), (4, .int (iI fr)), (5, .int (iI k)), (2, .int (iI 1)), (0, .ref a0), (1, .ref a1)]) [1, 0, 2, 3, 4, 5, 6, 7] rfl ?_
            exact J3  nb7 0 _  Wb4 Fb4 tnb7 (by omega) (by omega) (fun q => absurd q (by omega)) (by show ivb4 a0 7 ≤ 200 + 4 * k; omega) hc4
          · refine c_aload_n (j := 4) (x := a0) C dX6_setBy_49 rfl ?_
            obtain ⟨rb5, rq5, trb5⟩ := Wb4.ref t_a0 0 rfl rfl rfl
            have lnrb5 : 500 ≤ ln rb5 ∧ ln rb5 ≤ 500 := Wb4.len trb5 rfl
            refine c_getr (k := 0) C ck_7 dX6_setBy_50 w1_136 (by decide) t_a0 rfl rfl (by decide) rfl rq5 ?_
            refine c_st (st2 := [.ref rb5]) rfl ?_
            refine c_iload (j := 2) C dX6_setBy_53 rfl ?_
            have ll5 : 500 ≤ ln rb5 ∧ ln rb5 ≤ 500 := Wb4.len trb5 rfl
            refine c_iald C dX6_setBy_55 trb5 rfl (by omega) (by omega) (by omega) ?_
            refine hv2 (show (-2147483648) ≤ ivb4 rb5 k.toNat ∧ ivb4 rb5 k.toNat ≤ 2147483647 from Wb4.int trb5 k.toNat) (show ivb4 rb5 k.toNat = iv rb5 k.toNat from Fb4.i trb5 rfl k.toNat) (fun ri47 ie47 => ?_)
            refine c_iload_n (j := 0) C dX6_setBy_56 rfl ?_
            refine c_if_eq (tgt := 65) C (r32_01 hsc) dX6_setBy_57 (by decide) (fun c22 => ?_) (fun c22 => ?_)
            · clear hsc
              refine c_bipush (z := 60) C dX6_setBy_65 (by decide) ?_
              refine c_icmp_ne (tgt := 74) C (r32_c (lo := (-2147483648)) (hi := 2147483647) ri47.1 ri47.2 (by decide) (by decide)) ⟨by decide, by decide⟩ dX6_setBy_67 (by decide) (fun c23 => ?_) (fun c23 => ?_)
              · refine c_iconst C dX6_setBy_74 ?_
                refine c_istore (lv2 := [(6, .int (iI 0)), (3, .int (iI sc)), (4, .int (iI fr)), (5, .int (iI k)), (2, .int (iI 1)), (0, .ref a0), (1, .ref a1)]) C dX6_setBy_75 (by decide) rfl ?_
                refine c_iload (j := 3) C dX6_setBy_77 rfl ?_
                refine c_aload_n (j := 5) (x := a0) C dX6_setBy_79 rfl ?_
                refine c_get (k := 4) C ck_7 dX6_setBy_80 w1_140 (by decide) t_a0 rfl rfl (by decide) rfl ?_
                refine c_icmp_ge (tgt := 94) C ⟨by omega, by omega⟩ (r32_c (lo := 0) (hi := 500) ri26.1 ri26.2 (by decide) (by decide)) dX6_setBy_83 (by decide) (fun z => absurd z (by omega)) (fun _ => ?_)
                refine c_iload (j := 0) C dX6_setBy_86 rfl ?_
                refine c_if_ne (tgt := 94) C ⟨by decide, by decide⟩ dX6_setBy_88 (by decide) (fun z => absurd z (by omega)) (fun _ => ?_)
                refine c_goto (tgt := 187) C dX6_setBy_91 (by decide) ?_
                refine c_iinc (z := k) (j := 3) (lv2 := [(5, .int (iI (k + 1))), (6, .int (iI 0)), (3, .int (iI sc)), (4, .int (iI fr)), (2, .int (iI 1)), (0, .ref a0), (1, .ref a1)]) C dX6_setBy_187 rfl (by decide) rfl ?_
                refine c_goto (tgt := 27) C dX6_setBy_190 (by decide) ?_
                have ri48 : 0 ≤ ivb4 a0 7 ∧ ivb4 a0 7 ≤ 100000 := Wb4.int t_a0 7
                refine c_lv (lv2 := [(3, .int (iI sc)), (4, .int (iI fr)), (5, .int (iI (k + 1))), (2, .int (iI 1)), (0, .ref a0), (1, .ref a1)]) [2, 3, 0, 4, 5, 6] rfl ?_
                exact ih2  sc fr (k + 1) _ (by omega) Wb4 Fb4  (by omega) (by omega) (by omega) (by show ivb4 a0 7 ≤ 200 + 4 * (k + 1); omega) hc4
              · refine c_iconst C dX6_setBy_70 ?_
                refine c_goto (tgt := 75) C dX6_setBy_71 (by decide) ?_
                refine c_istore (lv2 := [(6, .int (iI 1)), (3, .int (iI sc)), (4, .int (iI fr)), (5, .int (iI k)), (2, .int (iI 1)), (0, .ref a0), (1, .ref a1)]) C dX6_setBy_75 (by decide) rfl ?_
                refine c_iload (j := 3) C dX6_setBy_77 rfl ?_
                refine c_aload_n (j := 5) (x := a0) C dX6_setBy_79 rfl ?_
                refine c_get (k := 4) C ck_7 dX6_setBy_80 w1_140 (by decide) t_a0 rfl rfl (by decide) rfl ?_
                refine c_icmp_ge (tgt := 94) C ⟨by omega, by omega⟩ (r32_c (lo := 0) (hi := 500) ri26.1 ri26.2 (by decide) (by decide)) dX6_setBy_83 (by decide) (fun z => absurd z (by omega)) (fun _ => ?_)
                refine c_iload (j := 0) C dX6_setBy_86 rfl ?_
                refine c_if_ne (tgt := 94) C ⟨by decide, by decide⟩ dX6_setBy_88 (by decide) (fun _ => ?_) (fun z => absurd z (by omega))
                refine c_iload_n (j := 4) C dX6_setBy_94 rfl ?_
                refine c_if_eq (tgt := 105) C ⟨by decide, by decide⟩ dX6_setBy_95 (by decide) (fun z => absurd z (by omega)) (fun _ => ?_)
                refine c_aload_n (j := 6) (x := a1) C dX6_setBy_98 rfl ?_
                obtain ⟨nb8, nq8, tnb8⟩ := opt_n (Wb4.opt t_a1 2 rfl rfl)
                have tnb8 : ∀ b, nb8 = some b → ty L cl b 100 := tnb8
                refine c_getr (k := 2) C ck_10 dX6_setBy_99 w2_182 (by decide) t_a1 rfl rfl (by decide) rfl nq8 ?_
                refine c_st (st2 := [(va_rf nb8)]) rfl ?_
                refine c_goto (tgt := 106) C dX6_setBy_102 (by decide) ?_
                refine c_astorer (r := nb8) (lv2 := [(7, (va_rf nb8)), (6, .int (iI 1)), (3, .int (iI sc)), (4, .int (iI fr)), (5, .int (iI k)), (2, .int (iI 1)), (0, .ref a0), (1, .ref a1)]) C dX6_setBy_106 (by decide) rfl ?_
                have ri49 : 0 ≤ ivb4 a0 7 ∧ ivb4 a0 7 ≤ 100000 := Wb4.int t_a0 7
                refine c_lv (lv2 := [(6, .int (iI 1)), (7, (va_rf nb8)), (3, .int (iI sc)), (4, .int (iI fr)), (5, .int (iI k)), (2, .int (iI 1)), (0, .ref a0), (1, .ref a1)]) [1, 0, 2, 3, 4, 5, 6, 7] rfl ?_
                exact J3  nb8 1 _  Wb4 Fb4 tnb8 (by omega) (by omega) (fun _ => by omega) (by show ivb4 a0 7 ≤ 200 + 4 * k; omega) hc4
            · replace hsc := (hsc.resolve_left c22)
              refine c_bipush (z := 62) C dX6_setBy_60 (by decide) ?_
              refine c_goto (tgt := 67) C dX6_setBy_62 (by decide) ?_
              refine c_icmp_ne (tgt := 74) C (r32_c (lo := (-2147483648)) (hi := 2147483647) ri47.1 ri47.2 (by decide) (by decide)) ⟨by decide, by decide⟩ dX6_setBy_67 (by decide) (fun c24 => ?_) (fun c24 => ?_)
              · refine c_iconst C dX6_setBy_74 ?_
                refine c_istore (lv2 := [(6, .int (iI 0)), (3, .int (iI sc)), (4, .int (iI fr)), (5, .int (iI k)), (2, .int (iI 1)), (0, .ref a0), (1, .ref a1)]) C dX6_setBy_75 (by decide) rfl ?_
                refine c_iload (j := 3) C dX6_setBy_77 rfl ?_
                refine c_aload_n (j := 5) (x := a0) C dX6_setBy_79 rfl ?_
                refine c_get (k := 4) C ck_7 dX6_setBy_80 w1_140 (by decide) t_a0 rfl rfl (by decide) rfl ?_
                refine c_icmp_ge (tgt := 94) C ⟨by omega, by omega⟩ (r32_c (lo := 0) (hi := 500) ri26.1 ri26.2 (by decide) (by decide)) dX6_setBy_83 (by decide) (fun z => absurd z (by omega)) (fun _ => ?_)
                refine c_iload (j := 0) C dX6_setBy_86 rfl ?_
                refine c_if_ne (tgt := 94) C ⟨by decide, by decide⟩ dX6_setBy_88 (by decide) (fun z => absurd z (by omega)) (fun _ => ?_)
                refine c_goto (tgt := 187) C dX6_setBy_91 (by decide) ?_
                refine c_iinc (z := k) (j := 3) (lv2 := [(5, .int (iI (k + 1))), (6, .int (iI 0)), (3, .int (iI sc)), (4, .int (iI fr)), (2, .int (iI 1)), (0, .ref a0), (1, .ref a1)]) C dX6_setBy_187 rfl (by decide) rfl ?_
                refine c_goto (tgt := 27) C dX6_setBy_190 (by decide) ?_
                have ri50 : 0 ≤ ivb4 a0 7 ∧ ivb4 a0 7 ≤ 100000 := Wb4.int t_a0 7
                refine c_lv (lv2 := [(3, .int (iI sc)), (4, .int (iI fr)), (5, .int (iI (k + 1))), (2, .int (iI 1)), (0, .ref a0), (1, .ref a1)]) [2, 3, 0, 4, 5, 6] rfl ?_
                exact ih2  sc fr (k + 1) _ (by omega) Wb4 Fb4  (by omega) (by omega) (by omega) (by show ivb4 a0 7 ≤ 200 + 4 * (k + 1); omega) hc4
              · refine c_iconst C dX6_setBy_70 ?_
                refine c_goto (tgt := 75) C dX6_setBy_71 (by decide) ?_
                refine c_istore (lv2 := [(6, .int (iI 1)), (3, .int (iI sc)), (4, .int (iI fr)), (5, .int (iI k)), (2, .int (iI 1)), (0, .ref a0), (1, .ref a1)]) C dX6_setBy_75 (by decide) rfl ?_
                refine c_iload (j := 3) C dX6_setBy_77 rfl ?_
                refine c_aload_n (j := 5) (x := a0) C dX6_setBy_79 rfl ?_
                refine c_get (k := 4) C ck_7 dX6_setBy_80 w1_140 (by decide) t_a0 rfl rfl (by decide) rfl ?_
                refine c_icmp_ge (tgt := 94) C ⟨by omega, by omega⟩ (r32_c (lo := 0) (hi := 500) ri26.1 ri26.2 (by decide) (by decide)) dX6_setBy_83 (by decide) (fun z => absurd z (by omega)) (fun _ => ?_)
                refine c_iload (j := 0) C dX6_setBy_86 rfl ?_
                refine c_if_ne (tgt := 94) C ⟨by decide, by decide⟩ dX6_setBy_88 (by decide) (fun _ => ?_) (fun z => absurd z (by omega))
                refine c_iload_n (j := 4) C dX6_setBy_94 rfl ?_
                refine c_if_eq (tgt := 105) C ⟨by decide, by decide⟩ dX6_setBy_95 (by decide) (fun z => absurd z (by omega)) (fun _ => ?_)
                refine c_aload_n (j := 6) (x := a1) C dX6_setBy_98 rfl ?_
                obtain ⟨nb9, nq9, tnb9⟩ := opt_n (Wb4.opt t_a1 2 rfl rfl)
                have tnb9 : ∀ b, nb9 = some b → ty L cl b 100 := tnb9
                refine c_getr (k := 2) C ck_10 dX6_setBy_99 w2_182 (by decide) t_a1 rfl rfl (by decide) rfl nq9 ?_
                refine c_st (st2 := [(va_rf nb9)]) rfl ?_
                refine c_goto (tgt := 106) C dX6_setBy_102 (by decide) ?_
                refine c_astorer (r := nb9) (lv2 := [(7, (va_rf nb9)), (6, .int (iI 1)), (3, .int (iI sc)), (4, .int (iI fr)), (5, .int (iI k)), (2, .int (iI 1)), (0, .ref a0), (1, .ref a1)]) C dX6_setBy_106 (by decide) rfl ?_
                have ri51 : 0 ≤ ivb4 a0 7 ∧ ivb4 a0 7 ≤ 100000 := Wb4.int t_a0 7
                refine c_lv (lv2 := [(6, .int (iI 1)), (7, (va_rf nb9)), (3, .int (iI sc)), (4, .int (iI fr)), (5, .int (iI k)), (2, .int (iI 1)), (0, .ref a0), (1, .ref a1)]) [1, 0, 2, 3, 4, 5, 6, 7] rfl ?_
                exact J3  nb9 1 _  Wb4 Fb4 tnb9 (by omega) (by omega) (fun _ => by omega) (by show ivb4 a0 7 ≤ 200 + 4 * k; omega) hc4
    refine hv4 (show 0 ≤ iv1 a0 7 ∧ iv1 a0 7 ≤ 100000 from W1.int t_a0 7) (show iv1 a0 7 = 0 from by rw [pq1]; exact up2_s) (show 0 ≤ iv1 a0 4 ∧ iv1 a0 4 ≤ 500 from W1.int t_a0 4) (show iv1 a0 4 = iv a0 4 from by rw [pq1]; exact up2_j (by decide)) (fun ri52 ie52 ri53 ie53 => ?_)
    refine c_lv (lv2 := [(3, .int (iI 0)), (4, .int (iI 0)), (5, .int (iI 0)), (2, .int (iI 1)), (0, .ref a0), (1, .ref a1)]) [2, 1, 0, 3, 4, 5] rfl ?_
    exact Lp2 503 0 0 0 _ (by omega) W1 F1  (by omega) (by omega) (by omega) (by show iv1 a0 7 ≤ 200 + 4 * 0; omega) ie53
end
section
theorem rom3 {P K c0 x ph pm : Nat} (h1 : ph ≤ pm) (h2 : P + 3000 ≤ pm) (h3 : K + x ≤ c0 + 3000) : P + K + x ≤ (pm + c0 - ph) + ph := by omega
theorem rz3 {P K c0 c2 ph pm : Nat} {ln : Nat → Nat} {rv : Nat → Nat → Option Nat} (h1 : ph ≤ pm) (h2 : P + 3000 ≤ pm) (h3 : K + c2 ≤ c0 + 3000) : P + K + (0 + c2 - zPf ln rv) ≤ (pm + c0 - ph) + ph := by unfold zPf; omega
theorem ty_rt {L : List Nat} {cl cl2 : Nat → Nat} {a q t T : Nat} (h : ty L cl a T) (hc : cl2 = va_up cl q t) (hne : a ≠ q) : ty L cl2 a T := ⟨h.1, by rw [hc, va_up_ne _ _ hne]; exact h.2⟩
theorem XT.rt {L0 L : List Nat} {cl0 ln0 cl ln cl2 : Nat → Nat} {q t : Nat} (h : XT L0 cl0 ln0 L cl ln) (hc : cl2 = va_up cl q t) (hq : q ∉ L0) : XT L0 cl0 ln0 L cl2 ln := fun a ha => ⟨(h a ha).1, by rw [hc, va_up_ne _ _ (ne_in ha hq)]; exact (h a ha).2.1, (h a ha).2.2⟩
theorem uq_raw {t : Nat} (h : uq t = true) : raw (bt t) = false := by
  unfold uq at h
  have hm := List.contains_iff_mem.mp h
  simp only [List.mem_cons, List.not_mem_nil, or_false] at hm
  rcases hm with rfl | rfl | rfl | rfl | rfl | rfl | rfl | rfl | rfl | rfl | rfl | rfl | rfl | rfl | rfl | rfl | rfl | rfl | rfl | rfl | rfl | rfl | rfl | rfl <;> rfl
theorem SKL.rt {sk : Nat → Nat} {L : List Nat} {cl cl2 : Nat → Nat} {q t : Nat} (h : SKL sk L cl) (hc : cl2 = va_up cl q t) (hr : raw (bt (cl q)) = true) : SKL sk L cl2 := fun u hu => ⟨(h u hu).1, by
  rw [hc, va_up_ne _ _ (fun e => ?_)]
  · exact (h u hu).2
  · rw [← e, (h u hu).2, uq_raw hu] at hr; cases hr⟩
theorem rok_none {L : List Nat} {cl : Nat → Nat} {g a k T : Nat} (ha : ty L cl a T) (hn : nul T k = true) : rok L cl g a k none := fun _ => ⟨fun _ => by rw [ha.2]; exact hn, fun _ q => by cases q⟩
theorem nn_up {f : Nat → Option Nat} {i x : Nat} (hf : f i = none) : ∀ n, nn (va_up f i (some x)) n = nn f n + (if i < n then 1 else 0) := by
  intro n
  induction n with
  | zero => rfl
  | succ n ih =>
    unfold nn
    rw [ih]
    by_cases e : n = i
    · subst e
      rw [va_up_self, hf]
      rw [if_neg (Nat.lt_irrefl n), if_pos (Nat.lt_succ_self n)]
      rfl
    · rw [va_up_ne _ _ e]
      by_cases h2 : i < n
      · have e1 : (if i < n then 1 else 0) = 1 := if_pos h2
        have e2 : (if i < n + 1 then 1 else 0) = 1 := if_pos (by omega)
        rw [e1, e2]; omega
      · have e1 : (if i < n then 1 else 0) = 0 := if_neg h2
        have e2 : (if i < n + 1 then 1 else 0) = 0 := if_neg (by omega)
        rw [e1, e2]; omega
theorem bt_67 {x : Nat} (h : bt x = 67) : x = 67 ∨ x = 69 := by
  unfold bt at h
  split at h
  · split at h
    · omega
    · split at h <;> omega
  · split at h
    · omega
    · split at h <;> omega
theorem cap_o {g : Nat} {ln : Nat → Nat} {rv : Nat → Nat → Option Nat} {a b k : Nat} {x : Option Nat} (h : a ≠ b) : cap g ln (upr rv b k x) a = cap g ln rv a := by unfold cap; rw [upr_a h]
theorem Phi.line {g : Nat} {sk : Nat → Nat} {L : List Nat} {cl ln : Nat → Nat} {iv : Nat → Nat → Int} {rv rv2 : Nat → Nat → Option Nat} {b i x : Nat} (h : WT g sk L cl ln iv rv) (hS : SKL sk L cl) (hb : ty L cl b 67) (he : rv2 = upr rv b i (some x)) (hi : i < 200) (hn : rv b i = none) : Phi g sk ln rv2 = Phi g sk ln rv + 240 := by
  subst he
  have hc : ∀ t, uq t = true → bt t ≠ 67 → cap g ln (upr rv b i (some x)) (sk t) = cap g ln rv (sk t) := by
    intro t ht h67
    refine cap_o (fun e => h67 ?_)
    rw [← hb.2, ← e, (hS t ht).2]
  rcases bt_67 hb.2 with e | e
  · have eb : b = sk 67 := by have q := h.2.2.2.2.2.1 b hb.1 (by rw [e]; rfl); rw [e] at q; exact q
    have hne : sk 69 ≠ b := fun q => by have w := (hS 69 rfl).2; rw [q, e] at w; cases w
    unfold Phi
    rw [hc 2 rfl (by decide), hc 3 rfl (by decide), hc 4 rfl (by decide), hc 5 rfl (by decide), hc 6 rfl (by decide), hc 7 rfl (by decide), hc 8 rfl (by decide), hc 9 rfl (by decide), hc 10 rfl (by decide), hc 11 rfl (by decide), hc 24 rfl (by decide), hc 25 rfl (by decide), upr_a hne, ← eb, upr_up, nn_up hn, if_pos hi]
    omega
  · have eb : b = sk 69 := by have q := h.2.2.2.2.2.1 b hb.1 (by rw [e]; rfl); rw [e] at q; exact q
    have hne : sk 67 ≠ b := fun q => by have w := (hS 67 rfl).2; rw [q, e] at w; cases w
    unfold Phi
    rw [hc 2 rfl (by decide), hc 3 rfl (by decide), hc 4 rfl (by decide), hc 5 rfl (by decide), hc 6 rfl (by decide), hc 7 rfl (by decide), hc 8 rfl (by decide), hc 9 rfl (by decide), hc 10 rfl (by decide), hc 11 rfl (by decide), hc 24 rfl (by decide), hc 25 rfl (by decide), upr_a hne, ← eb, upr_up, nn_up hn, if_pos hi]
    omega
set_option maxHeartbeats 4000000 in
set_option maxRecDepth 100000 in
theorem C_restart {l : Launch} {G : GT} {mi : Nat} {sk : Nat → Nat} {L : List Nat} {cl ln : Nat → Nat} {iv : Nat → Nat → Int} {rv : Nat → Nat → Option Nat}  {a0 : Nat} (hW : WT (g0 G) sk L cl ln iv rv) (hS : SKL sk L cl) (t_a0 : ty L cl a0 14)  : Mc l G mi (Phi (g0 G) sk) PHM yX8_restart cX8_restart 1 none 0 [.ref a0] L cl ln iv rv 0 (fun v L2 cl2 ln2 iv2 rv2 => v = none ∧ L = L2 ∧ cl = cl2 ∧ ln = ln2 ∧ rv = rv2 ∧ fT [14] L cl iv rv iv2 rv2 ∧ WT (g0 G) sk L2 cl2 ln2 iv2 rv2 ∧ (iv2 a0 0 = 0 ∧ iv2 a0 1 = 0)) := by
  refine Mc.mk (by decide) (Nat.le_of_ble_eq_true rfl) ?_
  intro p e s m args below meth c A C hM
  refine hv3 (Phi.le hW hS) (show XT L cl ln L cl ln from XT.refl) (show fT [14] L cl iv rv iv rv from fT.refl) (fun hph hX0 hF0 => ?_)
  refine c_aload_n (j := 0) (x := a0) C dX8_restart_0 rfl ?_
  refine c_iconst C dX8_restart_1 ?_
  refine c_put (z := 0) (k := 0) C ck_9 dX8_restart_2 w1_103 (by decide) rfl t_a0 rfl rfl (by decide) rfl (by rfl) (by rfl) (fun iv1 pq1 => ?_)
  refine hv2 (hW.puti pq1 t_a0 ⟨by decide, by decide⟩ rfl) (hF0.puti hX0 pq1 t_a0 rfl) (fun W1 F1 => ?_)
  refine c_aload_n (j := 0) (x := a0) C dX8_restart_5 rfl ?_
  refine c_iconst C dX8_restart_6 ?_
  refine c_put (z := 0) (k := 1) C ck_9 dX8_restart_7 w1_104 (by decide) rfl t_a0 rfl rfl (by decide) rfl (by decide) (by decide) (fun iv2 pq2 => ?_)
  refine hv5 (W1.puti pq2 t_a0 ⟨by decide, by decide⟩ rfl) (F1.puti hX0 pq2 t_a0 rfl) (show iv2 a0 0 = iv1 a0 0 from by rw [pq2]; exact up2_j (by decide)) (show iv1 a0 0 = 0 from by rw [pq1]; exact up2_s) (show iv2 a0 1 = 0 from by rw [pq2]; exact up2_s) (fun W2 F2 ie1 ie2 ie3 => ?_)
  refine hv2 (show (-2147483648) ≤ iv2 a0 0 ∧ iv2 a0 0 ≤ 2147483647 from W2.int t_a0 0) (show 0 ≤ iv2 a0 1 ∧ iv2 a0 1 ≤ 1 from W2.int t_a0 1) (fun ri1 ri2 => ?_)
  exact c_vret C dX8_restart_10 rfl (by decide) (rom0 hph hph (by decide)) ⟨rfl, rfl, rfl, rfl, rfl, F2, W2, (by omega)⟩
set_option maxHeartbeats 4000000 in
set_option maxRecDepth 100000 in
theorem C_enterLine {l : Launch} {G : GT} {mi : Nat} {sk : Nat → Nat} {L : List Nat} {cl ln : Nat → Nat} {iv : Nat → Nat → Int} {rv : Nat → Nat → Option Nat}  {a0 : Nat} {a1 : Nat} (hW : WT (g0 G) sk L cl ln iv rv) (hS : SKL sk L cl) (t_a0 : ty L cl a0 14) (t_a1 : ty L cl a1 3) (hs : 0 ≤ iv a0 0 ∧ iv a0 0 ≤ 501 ∧ (iv a0 1 = 0 ∨ iv a0 0 ≤ 500)) : Mc l G mi (Phi (g0 G) sk) PHM yX8_enterLine cX8_enterLine 2 (some .int) 1 [.ref a0, .ref a1] L cl ln iv rv 0 (fun v L2 cl2 ln2 iv2 rv2 => ∃ f : Int, v = some (.int (iI f)) ∧ L = L2 ∧ cl = cl2 ∧ ln = ln2 ∧ rv = rv2 ∧ fT [14] L cl iv rv iv2 rv2 ∧ WT (g0 G) sk L2 cl2 ln2 iv2 rv2 ∧ (-2147483648 ≤ f ∧ f ≤ 2147483647) ∧ ((f = 0 ∨ f = 1) ∧ 0 ≤ iv2 a0 0 ∧ iv2 a0 0 ≤ 501 ∧ (iv2 a0 1 = 0 ∨ iv2 a0 0 ≤ 500))) := by
  refine Mc.mk (by decide) (Nat.le_of_ble_eq_true rfl) ?_
  intro p e s m args below meth c A C hM
  refine hv3 (Phi.le hW hS) (show XT L cl ln L cl ln from XT.refl) (show fT [14] L cl iv rv iv rv from fT.refl) (fun hph hX0 hF0 => ?_)
  refine c_aload_n (j := 0) (x := a0) C dX8_enterLine_0 rfl ?_
  have ri1 : (-2147483648) ≤ iv a0 0 ∧ iv a0 0 ≤ 2147483647 := hW.int t_a0 0
  refine c_get (k := 0) C ck_9 dX8_enterLine_1 w1_103 (by decide) t_a0 rfl rfl (by decide) rfl ?_
  refine c_aload_n (j := 1) (x := a1) C dX8_enterLine_4 rfl ?_
  have ri2 : 0 ≤ iv a1 2 ∧ iv a1 2 ≤ 500 := hW.int t_a1 2
  refine c_get (k := 2) C ck_2 dX8_enterLine_5 w1_45 (by decide) t_a1 rfl rfl (by decide) rfl ?_
  refine c_icmp_lt (tgt := 13) C (r32_c (lo := (-2147483648)) (hi := 2147483647) ri1.1 ri1.2 (by decide) (by decide)) (r32_c (lo := 0) (hi := 500) ri2.1 ri2.2 (by decide) (by decide)) dX8_enterLine_8 (by decide) (fun c1 => ?_) (fun c1 => ?_)
  · refine c_aload_n (j := 0) (x := a0) C dX8_enterLine_13 rfl ?_
    refine c_iconst C dX8_enterLine_14 ?_
    refine c_put (z := 1) (k := 1) C ck_9 dX8_enterLine_15 w1_104 (by decide) rfl t_a0 rfl rfl (by decide) rfl (by decide) (by decide) (fun iv1 pq1 => ?_)
    refine hv2 (hW.puti pq1 t_a0 ⟨by decide, by decide⟩ rfl) (hF0.puti hX0 pq1 t_a0 rfl) (fun W1 F1 => ?_)
    refine c_aload_n (j := 0) (x := a0) C dX8_enterLine_18 rfl ?_
    refine c_aload_n (j := 1) (x := a1) C dX8_enterLine_19 rfl ?_
    refine c_aload_n (j := 0) (x := a0) C dX8_enterLine_20 rfl ?_
    refine hv2 (show (-2147483648) ≤ iv1 a0 0 ∧ iv1 a0 0 ≤ 2147483647 from W1.int t_a0 0) (show iv1 a0 0 = iv a0 0 from by rw [pq1]; exact up2_j (by decide)) (fun ri3 ie1 => ?_)
    refine c_get (k := 0) C ck_9 dX8_enterLine_21 w1_103 (by decide) t_a0 rfl rfl (by decide) rfl ?_
    refine hv2 (show 0 ≤ iv1 a1 2 ∧ iv1 a1 2 ≤ 500 from W1.int t_a1 2) (show iv1 a1 2 = iv a1 2 from by rw [pq1]; exact up2_k (ne_ty t_a1 t_a0 (by decide))) (fun ri4 ie2 => ?_)
    refine d_callV (As := [.int (iI (iv1 a0 0))]) (rest := [.ref a0]) C hM (C_at_3 (a0 := a1) (i := iv1 a0 0) W1 hS t_a1 (by omega) ) dX8_enterLine_24 kV_X8_53 rfl t_a1 rfl rfl (by decide) ck_2 rfl (Nat.le_of_ble_eq_true rfl) ⟨(Nat.le_of_ble_eq_true rfl), (Nat.le_of_ble_eq_true rfl)⟩ hph hph (show 0 + 0 = 0 from rfl) (by decide) (fun rh1 Lh1 clh1 lnh1 ivh1 rvh1 h1 => ?_)
    obtain ⟨f1, rfl, rfl, rfl, rfl, rfl, rfl, rgf1, exf1⟩ := h1
    refine c_st (st2 := [.int (iI f1), .ref a0]) rfl ?_
    have gf1 : ((0 ≤ (iv1 a0 0) ∧ (iv1 a0 0) < iv1 a1 2) ∨ f1 = 0) ∧ ∀ ss, CT iv1 rv a1 ss → 0 ≤ (iv1 a0 0) → (iv1 a0 0) < iv1 a1 2 → f1 = ss (iv1 a0 0).toNat := exf1
    refine c_bipush (z := 94) C dX8_enterLine_27 (by decide) ?_
    refine c_icmp_ne (tgt := 36) C ⟨by omega, by omega⟩ ⟨by decide, by decide⟩ dX8_enterLine_29 (by decide) (fun c2 => ?_) (fun c2 => ?_)
    · refine c_iconst C dX8_enterLine_36 ?_
      refine c_put (z := 0) (k := 2) C ck_9 dX8_enterLine_37 w1_105 (by decide) rfl t_a0 rfl rfl (by decide) rfl (by decide) (by decide) (fun iv2 pq2 => ?_)
      refine hv2 (W1.puti pq2 t_a0 ⟨by decide, by decide⟩ rfl) (F1.puti hX0 pq2 t_a0 rfl) (fun W3 F2 => ?_)
      refine c_aload_n (j := 0) (x := a0) C dX8_enterLine_40 rfl ?_
      refine c_dup C dX8_enterLine_41 rfl ?_
      refine hv2 (show (-2147483648) ≤ iv2 a0 0 ∧ iv2 a0 0 ≤ 2147483647 from W3.int t_a0 0) (show iv2 a0 0 = iv1 a0 0 from by rw [pq2]; exact up2_j (by decide)) (fun ri5 ie3 => ?_)
      refine c_get (k := 0) C ck_9 dX8_enterLine_42 w1_103 (by decide) t_a0 rfl rfl (by decide) rfl ?_
      refine c_aload_n (j := 0) (x := a0) C dX8_enterLine_45 rfl ?_
      refine hv2 (show 0 ≤ iv2 a0 2 ∧ iv2 a0 2 ≤ 1 from W3.int t_a0 2) (show iv2 a0 2 = 0 from by rw [pq2]; exact up2_s) (fun ri6 ie4 => ?_)
      refine c_get (k := 2) C ck_9 dX8_enterLine_46 w1_105 (by decide) t_a0 rfl rfl (by decide) rfl ?_
      refine c_if_eq (tgt := 56) C (r32_c (lo := 0) (hi := 1) ri6.1 ri6.2 (by decide) (by decide)) dX8_enterLine_49 (by decide) (fun c3 => ?_) (fun c3 => ?_)
      · refine c_iconst C dX8_enterLine_56 ?_
        refine c_iadd C dX8_enterLine_57 ?_
        refine c_put (z := (iv2 a0 0) + 0) (k := 0) C ck_9 dX8_enterLine_58 w1_103 (by decide) rfl t_a0 rfl rfl (by decide) rfl (by rfl) (by rfl) (fun iv3 pq3 => ?_)
        refine hv2 (W3.puti pq3 t_a0 (show (-2147483648) ≤ ((iv2 a0 0) + 0) ∧ ((iv2 a0 0) + 0) ≤ 2147483647 by omega) rfl) (F2.puti hX0 pq3 t_a0 rfl) (fun W4 F3 => ?_)
        refine c_iconst C dX8_enterLine_61 ?_
        refine hv6 (show (-2147483648) ≤ iv3 a0 0 ∧ iv3 a0 0 ≤ 2147483647 from W4.int t_a0 0) (show iv3 a0 0 = (iv2 a0 0) + 0 from by rw [pq3]; exact up2_s) (show 0 ≤ iv3 a0 1 ∧ iv3 a0 1 ≤ 1 from W4.int t_a0 1) (show iv3 a0 1 = iv2 a0 1 from by rw [pq3]; exact up2_j (by decide)) (show iv2 a0 1 = iv1 a0 1 from by rw [pq2]; exact up2_j (by decide)) (show iv1 a0 1 = 1 from by rw [pq1]; exact up2_s) (fun ri7 ie5 ri8 ie6 ie7 ie8 => ?_)
        exact c_iret C dX8_enterLine_62 rfl (by decide) (rom0 hph hph (by decide)) ⟨1, rfl, rfl, rfl, rfl, rfl, F3, W4, ⟨by decide, by decide⟩, (by omega)⟩
      · refine c_iconst C dX8_enterLine_52 ?_
        refine c_goto (tgt := 57) C dX8_enterLine_53 (by decide) ?_
        refine c_iadd C dX8_enterLine_57 ?_
        refine c_put (z := (iv2 a0 0) + 1) (k := 0) C ck_9 dX8_enterLine_58 w1_103 (by decide) rfl t_a0 rfl rfl (by decide) rfl (by rfl) (by rfl) (fun iv4 pq4 => ?_)
        refine hv2 (W3.puti pq4 t_a0 (show (-2147483648) ≤ ((iv2 a0 0) + 1) ∧ ((iv2 a0 0) + 1) ≤ 2147483647 by omega) rfl) (F2.puti hX0 pq4 t_a0 rfl) (fun W5 F4 => ?_)
        refine c_iconst C dX8_enterLine_61 ?_
        refine hv6 (show (-2147483648) ≤ iv4 a0 0 ∧ iv4 a0 0 ≤ 2147483647 from W5.int t_a0 0) (show iv4 a0 0 = (iv2 a0 0) + 1 from by rw [pq4]; exact up2_s) (show 0 ≤ iv4 a0 1 ∧ iv4 a0 1 ≤ 1 from W5.int t_a0 1) (show iv4 a0 1 = iv2 a0 1 from by rw [pq4]; exact up2_j (by decide)) (show iv2 a0 1 = iv1 a0 1 from by rw [pq2]; exact up2_j (by decide)) (show iv1 a0 1 = 1 from by rw [pq1]; exact up2_s) (fun ri9 ie9 ri10 ie10 ie11 ie12 => ?_)
        exact c_iret C dX8_enterLine_62 rfl (by decide) (rom0 hph hph (by decide)) ⟨1, rfl, rfl, rfl, rfl, rfl, F4, W5, ⟨by decide, by decide⟩, (by omega)⟩
    · refine c_iconst C dX8_enterLine_32 ?_
      refine c_goto (tgt := 37) C dX8_enterLine_33 (by decide) ?_
      refine c_put (z := 1) (k := 2) C ck_9 dX8_enterLine_37 w1_105 (by decide) rfl t_a0 rfl rfl (by decide) rfl (by decide) (by decide) (fun iv5 pq5 => ?_)
      refine hv2 (W1.puti pq5 t_a0 ⟨by decide, by decide⟩ rfl) (F1.puti hX0 pq5 t_a0 rfl) (fun W6 F5 => ?_)
      refine c_aload_n (j := 0) (x := a0) C dX8_enterLine_40 rfl ?_
      refine c_dup C dX8_enterLine_41 rfl ?_
      refine hv2 (show (-2147483648) ≤ iv5 a0 0 ∧ iv5 a0 0 ≤ 2147483647 from W6.int t_a0 0) (show iv5 a0 0 = iv1 a0 0 from by rw [pq5]; exact up2_j (by decide)) (fun ri11 ie13 => ?_)
      refine c_get (k := 0) C ck_9 dX8_enterLine_42 w1_103 (by decide) t_a0 rfl rfl (by decide) rfl ?_
      refine c_aload_n (j := 0) (x := a0) C dX8_enterLine_45 rfl ?_
      refine hv2 (show 0 ≤ iv5 a0 2 ∧ iv5 a0 2 ≤ 1 from W6.int t_a0 2) (show iv5 a0 2 = 1 from by rw [pq5]; exact up2_s) (fun ri12 ie14 => ?_)
      refine c_get (k := 2) C ck_9 dX8_enterLine_46 w1_105 (by decide) t_a0 rfl rfl (by decide) rfl ?_
      refine c_if_eq (tgt := 56) C (r32_c (lo := 0) (hi := 1) ri12.1 ri12.2 (by decide) (by decide)) dX8_enterLine_49 (by decide) (fun c4 => ?_) (fun c4 => ?_)
      · refine c_iconst C dX8_enterLine_56 ?_
        refine c_iadd C dX8_enterLine_57 ?_
        refine c_put (z := (iv5 a0 0) + 0) (k := 0) C ck_9 dX8_enterLine_58 w1_103 (by decide) rfl t_a0 rfl rfl (by decide) rfl (by rfl) (by rfl) (fun iv6 pq6 => ?_)
        refine hv2 (W6.puti pq6 t_a0 (show (-2147483648) ≤ ((iv5 a0 0) + 0) ∧ ((iv5 a0 0) + 0) ≤ 2147483647 by omega) rfl) (F5.puti hX0 pq6 t_a0 rfl) (fun W7 F6 => ?_)
        refine c_iconst C dX8_enterLine_61 ?_
        refine hv6 (show (-2147483648) ≤ iv6 a0 0 ∧ iv6 a0 0 ≤ 2147483647 from W7.int t_a0 0) (show iv6 a0 0 = (iv5 a0 0) + 0 from by rw [pq6]; exact up2_s) (show 0 ≤ iv6 a0 1 ∧ iv6 a0 1 ≤ 1 from W7.int t_a0 1) (show iv6 a0 1 = iv5 a0 1 from by rw [pq6]; exact up2_j (by decide)) (show iv5 a0 1 = iv1 a0 1 from by rw [pq5]; exact up2_j (by decide)) (show iv1 a0 1 = 1 from by rw [pq1]; exact up2_s) (fun ri13 ie15 ri14 ie16 ie17 ie18 => ?_)
        exact c_iret C dX8_enterLine_62 rfl (by decide) (rom0 hph hph (by decide)) ⟨1, rfl, rfl, rfl, rfl, rfl, F6, W7, ⟨by decide, by decide⟩, (by omega)⟩
      · refine c_iconst C dX8_enterLine_52 ?_
        refine c_goto (tgt := 57) C dX8_enterLine_53 (by decide) ?_
        refine c_iadd C dX8_enterLine_57 ?_
        refine c_put (z := (iv5 a0 0) + 1) (k := 0) C ck_9 dX8_enterLine_58 w1_103 (by decide) rfl t_a0 rfl rfl (by decide) rfl (by rfl) (by rfl) (fun iv7 pq7 => ?_)
        refine hv2 (W6.puti pq7 t_a0 (show (-2147483648) ≤ ((iv5 a0 0) + 1) ∧ ((iv5 a0 0) + 1) ≤ 2147483647 by omega) rfl) (F5.puti hX0 pq7 t_a0 rfl) (fun W8 F7 => ?_)
        refine c_iconst C dX8_enterLine_61 ?_
        refine hv6 (show (-2147483648) ≤ iv7 a0 0 ∧ iv7 a0 0 ≤ 2147483647 from W8.int t_a0 0) (show iv7 a0 0 = (iv5 a0 0) + 1 from by rw [pq7]; exact up2_s) (show 0 ≤ iv7 a0 1 ∧ iv7 a0 1 ≤ 1 from W8.int t_a0 1) (show iv7 a0 1 = iv5 a0 1 from by rw [pq7]; exact up2_j (by decide)) (show iv5 a0 1 = iv1 a0 1 from by rw [pq5]; exact up2_j (by decide)) (show iv1 a0 1 = 1 from by rw [pq1]; exact up2_s) (fun ri15 ie19 ri16 ie20 ie21 ie22 => ?_)
        exact c_iret C dX8_enterLine_62 rfl (by decide) (rom0 hph hph (by decide)) ⟨1, rfl, rfl, rfl, rfl, rfl, F7, W8, ⟨by decide, by decide⟩, (by omega)⟩
  · refine c_iconst C dX8_enterLine_11 ?_
    have ri17 : 0 ≤ iv a0 1 ∧ iv a0 1 ≤ 1 := hW.int t_a0 1
    exact c_iret C dX8_enterLine_12 rfl (by decide) (rom0 hph hph (by decide)) ⟨0, rfl, rfl, rfl, rfl, rfl, hF0, hW, ⟨by decide, by decide⟩, (by omega)⟩
set_option maxHeartbeats 4000000 in
set_option maxRecDepth 100000 in
theorem C_sstep {l : Launch} {G : GT} {mi : Nat} {sk : Nat → Nat} {L : List Nat} {cl ln : Nat → Nat} {iv : Nat → Nat → Int} {rv : Nat → Nat → Option Nat}  {a0 : Nat} {a1 : Nat} {a2 : Nat} (hW : WT (g0 G) sk L cl ln iv rv) (hS : SKL sk L cl) (t_a0 : ty L cl a0 14) (t_a1 : ty L cl a1 3) (t_a2 : ty L cl a2 15) (hs : 0 ≤ iv a0 0 ∧ iv a0 0 ≤ 501 ∧ (iv a0 1 = 0 ∨ iv a0 0 ≤ 500)) : Mc l G mi (Phi (g0 G) sk) PHM yX8_step cX8_step 4 (some .int) 2 [.ref a0, .ref a1, .ref a2] L cl ln iv rv 0 (fun v L2 cl2 ln2 iv2 rv2 => ∃ f : Int, v = some (.int (iI f)) ∧ L = L2 ∧ cl = cl2 ∧ ln = ln2 ∧ rv = rv2 ∧ fT [14, 15, 50, 51, 52] L cl iv rv iv2 rv2 ∧ WT (g0 G) sk L2 cl2 ln2 iv2 rv2 ∧ (-2147483648 ≤ f ∧ f ≤ 2147483647) ∧ ((0 ≤ f ∧ f ≤ 3) ∧ 0 ≤ iv2 a0 0 ∧ iv2 a0 0 ≤ 501 ∧ (iv2 a0 1 = 0 ∨ iv2 a0 0 ≤ 500))) := by
  refine Mc.mk (by decide) (Nat.le_of_ble_eq_true rfl) ?_
  intro p e s m args below meth c A C hM
  refine hv3 (Phi.le hW hS) (show XT L cl ln L cl ln from XT.refl) (show fT [14, 15, 50, 51, 52] L cl iv rv iv rv from fT.refl) (fun hph hX0 hF0 => ?_)
  refine c_aload_n (j := 0) (x := a0) C dX8_step_0 rfl ?_
  have ri1 : 0 ≤ iv a0 1 ∧ iv a0 1 ≤ 1 := hW.int t_a0 1
  refine c_get (k := 1) C ck_9 dX8_step_1 w1_104 (by decide) t_a0 rfl rfl (by decide) rfl ?_
  refine c_if_ne (tgt := 13) C (r32_c (lo := 0) (hi := 1) ri1.1 ri1.2 (by decide) (by decide)) dX8_step_4 (by decide) (fun c1 => ?_) (fun c1 => ?_)
  · refine c_aload_n (j := 2) (x := a2) C dX8_step_13 rfl ?_
    refine d_callV (As := []) (rest := []) C hM (C_wclear (a0 := a2) hW hS t_a2  ) dX8_step_14 kV_X8_43 rfl t_a2 rfl rfl (by decide) ck_7 rfl (Nat.le_of_ble_eq_true rfl) ⟨(Nat.le_of_ble_eq_true rfl), (Nat.le_of_ble_eq_true rfl)⟩ hph hph (show 0 + 0 = 0 from rfl) (by decide) (fun rh1 Lh1 clh1 lnh1 ivh1 rvh1 h1 => ?_)
    obtain ⟨rfl, rfl, rfl, rfl, rfl, fl1, W1, exf1⟩ := h1
    have F1 := hF0.call hX0 fl1 rfl
    refine c_st (st2 := []) rfl ?_
    have Lp1 : ∀ (nn : Nat) (ivb1 : Nat → Nat → Int) , 501 - ivb1 a0 0 < (nn : Int) → WT (g0 G) sk L cl ln ivb1 rv → fT [14, 15, 50, 51, 52] L cl iv rv ivb1 rv → (0 ≤ ivb1 a0 0 ∧ ivb1 a0 0 ≤ 500) → (ivb1 a0 1 = iv a0 1) → cw p l e 2 ((PHM) + 0 - ((Phi (g0 G) sk) ln rv)) s m args below meth c G A 4 (MQ below (Qu G A (Qp G (Phi (g0 G) sk) ((Phi (g0 G) sk) ln rv) 0 (fun v L2 cl2 ln2 iv2 rv2 => ∃ f : Int, v = some (.int (iI f)) ∧ L = L2 ∧ cl = cl2 ∧ ln = ln2 ∧ rv = rv2 ∧ fT [14, 15, 50, 51, 52] L cl iv rv iv2 rv2 ∧ WT (g0 G) sk L2 cl2 ln2 iv2 rv2 ∧ (-2147483648 ≤ f ∧ f ≤ 2147483647) ∧ ((0 ≤ f ∧ f ≤ 3) ∧ 0 ≤ iv2 a0 0 ∧ iv2 a0 0 ≤ 501 ∧ (iv2 a0 1 = 0 ∨ iv2 a0 0 ≤ 500))))) args s (((PHM) + 0 - ((Phi (g0 G) sk) ln rv)) / 16) ((PHM) + 0 - ((Phi (g0 G) sk) ln rv)) A) (Phi (g0 G) sk) ((Phi (g0 G) sk) ln rv) L cl ln ivb1 rv 0 17 [(0, .ref a0), (1, .ref a1), (2, .ref a2)] [] := by
      intro nn
      induction nn with
      | zero =>
        intro   ivb1 hm Wb1 Fb1  hat hin
        exact absurd hm (by omega)
      | succ nn ih1 =>
        intro   ivb1 hm Wb1 Fb1  hat hin
        refine c_aload_n (j := 0) (x := a0) C dX8_step_17 rfl ?_
        have ri2 : (-2147483648) ≤ ivb1 a0 0 ∧ ivb1 a0 0 ≤ 2147483647 := Wb1.int t_a0 0
        refine c_get (k := 0) C ck_9 dX8_step_18 w1_103 (by decide) t_a0 rfl rfl (by decide) rfl ?_
        refine c_aload_n (j := 1) (x := a1) C dX8_step_21 rfl ?_
        refine hv2 (show 0 ≤ ivb1 a1 2 ∧ ivb1 a1 2 ≤ 500 from Wb1.int t_a1 2) (show ivb1 a1 2 = iv a1 2 from Fb1.i t_a1 rfl 2) (fun ri3 ie2 => ?_)
        refine c_get (k := 2) C ck_2 dX8_step_22 w1_45 (by decide) t_a1 rfl rfl (by decide) rfl ?_
        refine c_icmp_ge (tgt := 106) C (r32_c (lo := (-2147483648)) (hi := 2147483647) ri2.1 ri2.2 (by decide) (by decide)) (r32_c (lo := 0) (hi := 500) ri3.1 ri3.2 (by decide) (by decide)) dX8_step_25 (by decide) (fun c2 => ?_) (fun c2 => ?_)
        · refine c_aload_n (j := 2) (x := a2) C dX8_step_106 rfl ?_
          have ri4 : 0 ≤ ivb1 a2 4 ∧ ivb1 a2 4 ≤ 500 := Wb1.int t_a2 4
          refine c_get (k := 4) C ck_7 dX8_step_107 w1_141 (by decide) t_a2 rfl rfl (by decide) rfl ?_
          refine c_if_le (tgt := 115) C (r32_c (lo := 0) (hi := 500) ri4.1 ri4.2 (by decide) (by decide)) dX8_step_110 (by decide) (fun c3 => ?_) (fun c3 => ?_)
          · refine c_aload_n (j := 0) (x := a0) C dX8_step_115 rfl ?_
            refine c_iconst C dX8_step_116 ?_
            refine c_put (z := 0) (k := 1) C ck_9 dX8_step_117 w1_104 (by decide) rfl t_a0 rfl rfl (by decide) rfl (by decide) (by decide) (fun iv1 pq1 => ?_)
            refine hv2 (Wb1.puti pq1 t_a0 ⟨by decide, by decide⟩ rfl) (Fb1.puti hX0 pq1 t_a0 rfl) (fun W2 F2 => ?_)
            refine c_aload_n (j := 0) (x := a0) C dX8_step_120 rfl ?_
            refine c_dup C dX8_step_121 rfl ?_
            refine hv2 (show (-2147483648) ≤ iv1 a0 0 ∧ iv1 a0 0 ≤ 2147483647 from W2.int t_a0 0) (show iv1 a0 0 = ivb1 a0 0 from by rw [pq1]; exact up2_j (by decide)) (fun ri5 ie4 => ?_)
            refine c_get (k := 0) C ck_9 dX8_step_122 w1_103 (by decide) t_a0 rfl rfl (by decide) rfl ?_
            refine c_iconst C dX8_step_125 ?_
            refine c_iadd C dX8_step_126 ?_
            refine c_put (z := (iv1 a0 0) + 1) (k := 0) C ck_9 dX8_step_127 w1_103 (by decide) rfl t_a0 rfl rfl (by decide) rfl (by rfl) (by rfl) (fun iv2 pq2 => ?_)
            refine hv2 (W2.puti pq2 t_a0 (show (-2147483648) ≤ ((iv1 a0 0) + 1) ∧ ((iv1 a0 0) + 1) ≤ 2147483647 by omega) rfl) (F2.puti hX0 pq2 t_a0 rfl) (fun W3 F3 => ?_)
            refine c_iconst C dX8_step_130 ?_
            refine hv5 (show (-2147483648) ≤ iv2 a0 0 ∧ iv2 a0 0 ≤ 2147483647 from W3.int t_a0 0) (show iv2 a0 0 = (iv1 a0 0) + 1 from by rw [pq2]; exact up2_s) (show 0 ≤ iv2 a0 1 ∧ iv2 a0 1 ≤ 1 from W3.int t_a0 1) (show iv2 a0 1 = iv1 a0 1 from by rw [pq2]; exact up2_j (by decide)) (show iv1 a0 1 = 0 from by rw [pq1]; exact up2_s) (fun ri6 ie5 ri7 ie6 ie7 => ?_)
            exact c_iret C dX8_step_131 rfl (by decide) (rom0 hph hph (by decide)) ⟨3, rfl, rfl, rfl, rfl, rfl, F3, W3, ⟨by decide, by decide⟩, (by omega)⟩
          · refine c_iconst C dX8_step_113 ?_
            have ri8 : 0 ≤ ivb1 a0 1 ∧ ivb1 a0 1 ≤ 1 := Wb1.int t_a0 1
            exact c_iret C dX8_step_114 rfl (by decide) (rom0 hph hph (by decide)) ⟨2, rfl, rfl, rfl, rfl, rfl, Fb1, Wb1, ⟨by decide, by decide⟩, (by omega)⟩
        · have J1 : ∀ (ivb2 : Nat → Nat → Int) , WT (g0 G) sk L cl ln ivb2 rv → fT [14, 15, 50, 51, 52] L cl iv rv ivb2 rv → (0 ≤ ivb2 a0 0 ∧ ivb2 a0 0 < iv a1 2) → (ivb2 a0 1 = iv a0 1) → (500 - ivb2 a0 0 < (nn : Int)) → cw p l e 2 ((PHM) + 0 - ((Phi (g0 G) sk) ln rv)) s m args below meth c G A 4 (MQ below (Qu G A (Qp G (Phi (g0 G) sk) ((Phi (g0 G) sk) ln rv) 0 (fun v L2 cl2 ln2 iv2 rv2 => ∃ f : Int, v = some (.int (iI f)) ∧ L = L2 ∧ cl = cl2 ∧ ln = ln2 ∧ rv = rv2 ∧ fT [14, 15, 50, 51, 52] L cl iv rv iv2 rv2 ∧ WT (g0 G) sk L2 cl2 ln2 iv2 rv2 ∧ (-2147483648 ≤ f ∧ f ≤ 2147483647) ∧ ((0 ≤ f ∧ f ≤ 3) ∧ 0 ≤ iv2 a0 0 ∧ iv2 a0 0 ≤ 501 ∧ (iv2 a0 1 = 0 ∨ iv2 a0 0 ≤ 500))))) args s (((PHM) + 0 - ((Phi (g0 G) sk) ln rv)) / 16) ((PHM) + 0 - ((Phi (g0 G) sk) ln rv)) A) (Phi (g0 G) sk) ((Phi (g0 G) sk) ln rv) L cl ln ivb2 rv 0 93 [(0, .ref a0), (1, .ref a1), (2, .ref a2)] [] := by
            intro   ivb2 Wb2 Fb2  hb hbi hbm
            refine c_aload_n (j := 0) (x := a0) C dX8_step_93 rfl ?_
            refine c_dup C dX8_step_94 rfl ?_
            have ri9 : (-2147483648) ≤ ivb2 a0 0 ∧ ivb2 a0 0 ≤ 2147483647 := Wb2.int t_a0 0
            refine c_get (k := 0) C ck_9 dX8_step_95 w1_103 (by decide) t_a0 rfl rfl (by decide) rfl ?_
            refine c_iconst C dX8_step_98 ?_
            refine c_iadd C dX8_step_99 ?_
            refine c_put (z := (ivb2 a0 0) + 1) (k := 0) C ck_9 dX8_step_100 w1_103 (by decide) rfl t_a0 rfl rfl (by decide) rfl (by rfl) (by rfl) (fun iv3 pq3 => ?_)
            refine hv2 (Wb2.puti pq3 t_a0 (show (-2147483648) ≤ ((ivb2 a0 0) + 1) ∧ ((ivb2 a0 0) + 1) ≤ 2147483647 by omega) rfl) (Fb2.puti hX0 pq3 t_a0 rfl) (fun W4 F4 => ?_)
            refine c_goto (tgt := 17) C dX8_step_103 (by decide) ?_
            refine hv4 (show (-2147483648) ≤ iv3 a0 0 ∧ iv3 a0 0 ≤ 2147483647 from W4.int t_a0 0) (show iv3 a0 0 = (ivb2 a0 0) + 1 from by rw [pq3]; exact up2_s) (show 0 ≤ iv3 a0 1 ∧ iv3 a0 1 ≤ 1 from W4.int t_a0 1) (show iv3 a0 1 = ivb2 a0 1 from by rw [pq3]; exact up2_j (by decide)) (fun ri10 ie10 ri11 ie11 => ?_)
            refine c_lv (lv2 := [(0, .ref a0), (1, .ref a1), (2, .ref a2)]) [0, 1, 2] rfl ?_
            exact ih1   _ (by omega) W4 F4  (by show 0 ≤ iv3 a0 0 ∧ iv3 a0 0 ≤ 500; omega) (ie11.trans hbi)
          refine c_aload_n (j := 1) (x := a1) C dX8_step_28 rfl ?_
          refine c_aload_n (j := 0) (x := a0) C dX8_step_29 rfl ?_
          refine c_get (k := 0) C ck_9 dX8_step_30 w1_103 (by decide) t_a0 rfl rfl (by decide) rfl ?_
          refine d_callV (As := [.int (iI (ivb1 a0 0))]) (rest := []) C hM (C_at_3 (a0 := a1) (i := ivb1 a0 0) Wb1 hS t_a1 (by omega) ) dX8_step_33 kV_X8_53 rfl t_a1 rfl rfl (by decide) ck_2 rfl (Nat.le_of_ble_eq_true rfl) ⟨(Nat.le_of_ble_eq_true rfl), (Nat.le_of_ble_eq_true rfl)⟩ hph hph (show 0 + 0 = 0 from rfl) (by decide) (fun rh2 Lh2 clh2 lnh2 ivh2 rvh2 h2 => ?_)
          obtain ⟨f2, rfl, rfl, rfl, rfl, rfl, rfl, rgf2, exf2⟩ := h2
          refine c_st (st2 := [.int (iI f2)]) rfl ?_
          have gf2 : ((0 ≤ (ivb1 a0 0) ∧ (ivb1 a0 0) < ivb1 a1 2) ∨ f2 = 0) ∧ ∀ ss, CT ivb1 rv a1 ss → 0 ≤ (ivb1 a0 0) → (ivb1 a0 0) < ivb1 a1 2 → f2 = ss (ivb1 a0 0).toNat := exf2
          refine c_bipush (z := 10) C dX8_step_36 (by decide) ?_
          refine c_icmp_eq (tgt := 106) C ⟨by omega, by omega⟩ ⟨by decide, by decide⟩ dX8_step_38 (by decide) (fun c4 => ?_) (fun c4 => ?_)
          · refine c_aload_n (j := 2) (x := a2) C dX8_step_106 rfl ?_
            have ri12 : 0 ≤ ivb1 a2 4 ∧ ivb1 a2 4 ≤ 500 := Wb1.int t_a2 4
            refine c_get (k := 4) C ck_7 dX8_step_107 w1_141 (by decide) t_a2 rfl rfl (by decide) rfl ?_
            refine c_if_le (tgt := 115) C (r32_c (lo := 0) (hi := 500) ri12.1 ri12.2 (by decide) (by decide)) dX8_step_110 (by decide) (fun c5 => ?_) (fun c5 => ?_)
            · refine c_aload_n (j := 0) (x := a0) C dX8_step_115 rfl ?_
              refine c_iconst C dX8_step_116 ?_
              refine c_put (z := 0) (k := 1) C ck_9 dX8_step_117 w1_104 (by decide) rfl t_a0 rfl rfl (by decide) rfl (by decide) (by decide) (fun iv4 pq4 => ?_)
              refine hv2 (Wb1.puti pq4 t_a0 ⟨by decide, by decide⟩ rfl) (Fb1.puti hX0 pq4 t_a0 rfl) (fun W6 F5 => ?_)
              refine c_aload_n (j := 0) (x := a0) C dX8_step_120 rfl ?_
              refine c_dup C dX8_step_121 rfl ?_
              refine hv2 (show (-2147483648) ≤ iv4 a0 0 ∧ iv4 a0 0 ≤ 2147483647 from W6.int t_a0 0) (show iv4 a0 0 = ivb1 a0 0 from by rw [pq4]; exact up2_j (by decide)) (fun ri13 ie14 => ?_)
              refine c_get (k := 0) C ck_9 dX8_step_122 w1_103 (by decide) t_a0 rfl rfl (by decide) rfl ?_
              refine c_iconst C dX8_step_125 ?_
              refine c_iadd C dX8_step_126 ?_
              refine c_put (z := (iv4 a0 0) + 1) (k := 0) C ck_9 dX8_step_127 w1_103 (by decide) rfl t_a0 rfl rfl (by decide) rfl (by rfl) (by rfl) (fun iv5 pq5 => ?_)
              refine hv2 (W6.puti pq5 t_a0 (show (-2147483648) ≤ ((iv4 a0 0) + 1) ∧ ((iv4 a0 0) + 1) ≤ 2147483647 by omega) rfl) (F5.puti hX0 pq5 t_a0 rfl) (fun W7 F6 => ?_)
              refine c_iconst C dX8_step_130 ?_
              refine hv5 (show (-2147483648) ≤ iv5 a0 0 ∧ iv5 a0 0 ≤ 2147483647 from W7.int t_a0 0) (show iv5 a0 0 = (iv4 a0 0) + 1 from by rw [pq5]; exact up2_s) (show 0 ≤ iv5 a0 1 ∧ iv5 a0 1 ≤ 1 from W7.int t_a0 1) (show iv5 a0 1 = iv4 a0 1 from by rw [pq5]; exact up2_j (by decide)) (show iv4 a0 1 = 0 from by rw [pq4]; exact up2_s) (fun ri14 ie15 ri15 ie16 ie17 => ?_)
              exact c_iret C dX8_step_131 rfl (by decide) (rom0 hph hph (by decide)) ⟨3, rfl, rfl, rfl, rfl, rfl, F6, W7, ⟨by decide, by decide⟩, (by omega)⟩
            · refine c_iconst C dX8_step_113 ?_
              have ri16 : 0 ≤ ivb1 a0 1 ∧ ivb1 a0 1 ≤ 1 := Wb1.int t_a0 1
              exact c_iret C dX8_step_114 rfl (by decide) (rom0 hph hph (by decide)) ⟨2, rfl, rfl, rfl, rfl, rfl, Fb1, Wb1, ⟨by decide, by decide⟩, (by omega)⟩
          · refine c_aload_n (j := 1) (x := a1) C dX8_step_41 rfl ?_
            refine c_aload_n (j := 0) (x := a0) C dX8_step_42 rfl ?_
            refine c_get (k := 0) C ck_9 dX8_step_43 w1_103 (by decide) t_a0 rfl rfl (by decide) rfl ?_
            refine d_callV (As := [.int (iI (ivb1 a0 0))]) (rest := []) C hM (C_at_3 (a0 := a1) (i := ivb1 a0 0) Wb1 hS t_a1 (by omega) ) dX8_step_46 kV_X8_53 rfl t_a1 rfl rfl (by decide) ck_2 rfl (Nat.le_of_ble_eq_true rfl) ⟨(Nat.le_of_ble_eq_true rfl), (Nat.le_of_ble_eq_true rfl)⟩ hph hph (show 0 + 0 = 0 from rfl) (by decide) (fun rh3 Lh3 clh3 lnh3 ivh3 rvh3 h3 => ?_)
            obtain ⟨f3, rfl, rfl, rfl, rfl, rfl, rfl, rgf3, exf3⟩ := h3
            refine c_st (st2 := [.int (iI f3)]) rfl ?_
            have gf3 : ((0 ≤ (ivb1 a0 0) ∧ (ivb1 a0 0) < ivb1 a1 2) ∨ f3 = 0) ∧ ∀ ss, CT ivb1 rv a1 ss → 0 ≤ (ivb1 a0 0) → (ivb1 a0 0) < ivb1 a1 2 → f3 = ss (ivb1 a0 0).toNat := exf3
            refine c_istore_n (lv2 := [(3, .int (iI f3)), (0, .ref a0), (1, .ref a1), (2, .ref a2)]) C dX8_step_49 (by decide) rfl ?_
            refine c_iload_n (j := 0) C dX8_step_50 rfl ?_
            refine c_bipush (z := 32) C dX8_step_51 (by decide) ?_
            refine c_icmp_ne (tgt := 65) C ⟨by omega, by omega⟩ ⟨by decide, by decide⟩ dX8_step_53 (by decide) (fun c6 => ?_) (fun c6 => ?_)
            · refine c_iload_n (j := 0) C dX8_step_65 rfl ?_
              refine c_bipush (z := 126) C dX8_step_66 (by decide) ?_
              refine c_icmp_ne (tgt := 78) C ⟨by omega, by omega⟩ ⟨by decide, by decide⟩ dX8_step_68 (by decide) (fun c7 => ?_) (fun c7 => ?_)
              · refine c_iload_n (j := 0) C dX8_step_78 rfl ?_
                refine c_bipush (z := 32) C dX8_step_79 (by decide) ?_
                refine c_icmp_eq (tgt := 93) C ⟨by omega, by omega⟩ ⟨by decide, by decide⟩ dX8_step_81 (by decide) (fun z => absurd z (by omega)) (fun _ => ?_)
                refine c_aload_n (j := 3) (x := a2) C dX8_step_84 rfl ?_
                refine c_iload_n (j := 0) C dX8_step_85 rfl ?_
                refine c_aload_n (j := 1) (x := a0) C dX8_step_86 rfl ?_
                refine c_get (k := 0) C ck_9 dX8_step_87 w1_103 (by decide) t_a0 rfl rfl (by decide) rfl ?_
                refine d_callV (As := [.int (iI f3), .int (iI (ivb1 a0 0))]) (rest := []) C hM (C_put (a0 := a2) (x := f3) (y := ivb1 a0 0) Wb1 hS t_a2 (by omega) (by omega) ) dX8_step_90 kV_X8_60 rfl t_a2 rfl rfl (by decide) ck_7 rfl (Nat.le_of_ble_eq_true rfl) ⟨(Nat.le_of_ble_eq_true rfl), (Nat.le_of_ble_eq_true rfl)⟩ hph hph (show 0 + 0 = 0 from rfl) (by decide) (fun rh4 Lh4 clh4 lnh4 ivh4 rvh4 h4 => ?_)
                obtain ⟨rfl, rfl, rfl, rfl, rfl, fl4, W9, exf4⟩ := h4
                have F7 := Fb1.call hX0 fl4 rfl
                refine c_st (st2 := []) rfl ?_
                refine hv4 (show (-2147483648) ≤ ivh4 a0 0 ∧ ivh4 a0 0 ≤ 2147483647 from W9.int t_a0 0) (show ivh4 a0 0 = ivb1 a0 0 from fl4.i t_a0 rfl 0) (show 0 ≤ ivh4 a0 1 ∧ ivh4 a0 1 ≤ 1 from W9.int t_a0 1) (show ivh4 a0 1 = ivb1 a0 1 from fl4.i t_a0 rfl 1) (fun ri17 ie19 ri18 ie20 => ?_)
                refine c_lv (lv2 := [(0, .ref a0), (1, .ref a1), (2, .ref a2)]) [1, 2, 3] rfl ?_
                exact J1   _  W9 F7  (by show 0 ≤ ivh4 a0 0 ∧ ivh4 a0 0 < iv a1 2; omega) (ie20.trans hin) (by show 500 - ivh4 a0 0 < (nn : Int); omega)
              · refine c_aload_n (j := 3) (x := a2) C dX8_step_71 rfl ?_
                refine d_callV (As := []) (rest := []) C hM (C_putBreak (a0 := a2) Wb1 hS t_a2  ) dX8_step_72 kV_X8_57 rfl t_a2 rfl rfl (by decide) ck_7 rfl (Nat.le_of_ble_eq_true rfl) ⟨(Nat.le_of_ble_eq_true rfl), (Nat.le_of_ble_eq_true rfl)⟩ hph hph (show 0 + 0 = 0 from rfl) (by decide) (fun rh5 Lh5 clh5 lnh5 ivh5 rvh5 h5 => ?_)
                obtain ⟨rfl, rfl, rfl, rfl, rfl, fl5, W10, exf5⟩ := h5
                have F8 := Fb1.call hX0 fl5 rfl
                refine c_st (st2 := []) rfl ?_
                refine c_goto (tgt := 93) C dX8_step_75 (by decide) ?_
                refine hv4 (show (-2147483648) ≤ ivh5 a0 0 ∧ ivh5 a0 0 ≤ 2147483647 from W10.int t_a0 0) (show ivh5 a0 0 = ivb1 a0 0 from fl5.i t_a0 rfl 0) (show 0 ≤ ivh5 a0 1 ∧ ivh5 a0 1 ≤ 1 from W10.int t_a0 1) (show ivh5 a0 1 = ivb1 a0 1 from fl5.i t_a0 rfl 1) (fun ri19 ie22 ri20 ie23 => ?_)
                refine c_lv (lv2 := [(0, .ref a0), (1, .ref a1), (2, .ref a2)]) [1, 2, 3] rfl ?_
                exact J1   _  W10 F8  (by show 0 ≤ ivh5 a0 0 ∧ ivh5 a0 0 < iv a1 2; omega) (ie23.trans hin) (by show 500 - ivh5 a0 0 < (nn : Int); omega)
            · refine c_aload_n (j := 3) (x := a2) C dX8_step_56 rfl ?_
              have ri21 : 0 ≤ ivb1 a2 4 ∧ ivb1 a2 4 ≤ 500 := Wb1.int t_a2 4
              refine c_get (k := 4) C ck_7 dX8_step_57 w1_141 (by decide) t_a2 rfl rfl (by decide) rfl ?_
              refine c_if_le (tgt := 65) C (r32_c (lo := 0) (hi := 500) ri21.1 ri21.2 (by decide) (by decide)) dX8_step_60 (by decide) (fun c8 => ?_) (fun c8 => ?_)
              · refine c_iload_n (j := 0) C dX8_step_65 rfl ?_
                refine c_bipush (z := 126) C dX8_step_66 (by decide) ?_
                refine c_icmp_ne (tgt := 78) C ⟨by omega, by omega⟩ ⟨by decide, by decide⟩ dX8_step_68 (by decide) (fun c9 => ?_) (fun c9 => ?_)
                · refine c_iload_n (j := 0) C dX8_step_78 rfl ?_
                  refine c_bipush (z := 32) C dX8_step_79 (by decide) ?_
                  refine c_icmp_eq (tgt := 93) C ⟨by omega, by omega⟩ ⟨by decide, by decide⟩ dX8_step_81 (by decide) (fun _ => ?_) (fun z => absurd z (by omega))
                  have ri22 : 0 ≤ ivb1 a0 1 ∧ ivb1 a0 1 ≤ 1 := Wb1.int t_a0 1
                  refine c_lv (lv2 := [(0, .ref a0), (1, .ref a1), (2, .ref a2)]) [1, 2, 3] rfl ?_
                  exact J1   _  Wb1 Fb1  (by show 0 ≤ ivb1 a0 0 ∧ ivb1 a0 0 < iv a1 2; omega) hin (by show 500 - ivb1 a0 0 < (nn : Int); omega)
                · refine c_aload_n (j := 3) (x := a2) C dX8_step_71 rfl ?_
                  refine d_callV (As := []) (rest := []) C hM (C_putBreak (a0 := a2) Wb1 hS t_a2  ) dX8_step_72 kV_X8_57 rfl t_a2 rfl rfl (by decide) ck_7 rfl (Nat.le_of_ble_eq_true rfl) ⟨(Nat.le_of_ble_eq_true rfl), (Nat.le_of_ble_eq_true rfl)⟩ hph hph (show 0 + 0 = 0 from rfl) (by decide) (fun rh6 Lh6 clh6 lnh6 ivh6 rvh6 h6 => ?_)
                  obtain ⟨rfl, rfl, rfl, rfl, rfl, fl6, W11, exf6⟩ := h6
                  have F9 := Fb1.call hX0 fl6 rfl
                  refine c_st (st2 := []) rfl ?_
                  refine c_goto (tgt := 93) C dX8_step_75 (by decide) ?_
                  refine hv4 (show (-2147483648) ≤ ivh6 a0 0 ∧ ivh6 a0 0 ≤ 2147483647 from W11.int t_a0 0) (show ivh6 a0 0 = ivb1 a0 0 from fl6.i t_a0 rfl 0) (show 0 ≤ ivh6 a0 1 ∧ ivh6 a0 1 ≤ 1 from W11.int t_a0 1) (show ivh6 a0 1 = ivb1 a0 1 from fl6.i t_a0 rfl 1) (fun ri23 ie27 ri24 ie28 => ?_)
                  refine c_lv (lv2 := [(0, .ref a0), (1, .ref a1), (2, .ref a2)]) [1, 2, 3] rfl ?_
                  exact J1   _  W11 F9  (by show 0 ≤ ivh6 a0 0 ∧ ivh6 a0 0 < iv a1 2; omega) (ie28.trans hin) (by show 500 - ivh6 a0 0 < (nn : Int); omega)
              · refine c_iconst C dX8_step_63 ?_
                have ri25 : 0 ≤ ivb1 a0 1 ∧ ivb1 a0 1 ≤ 1 := Wb1.int t_a0 1
                exact c_iret C dX8_step_64 rfl (by decide) (rom0 hph hph (by decide)) ⟨2, rfl, rfl, rfl, rfl, rfl, Fb1, Wb1, ⟨by decide, by decide⟩, (by omega)⟩
    refine hv4 (show (-2147483648) ≤ ivh1 a0 0 ∧ ivh1 a0 0 ≤ 2147483647 from W1.int t_a0 0) (show ivh1 a0 0 = iv a0 0 from fl1.i t_a0 rfl 0) (show 0 ≤ ivh1 a0 1 ∧ ivh1 a0 1 ≤ 1 from W1.int t_a0 1) (show ivh1 a0 1 = iv a0 1 from fl1.i t_a0 rfl 1) (fun ri26 ie31 ri27 ie32 => ?_)
    refine c_lv (lv2 := [(0, .ref a0), (1, .ref a1), (2, .ref a2)]) [0, 1, 2] rfl ?_
    exact Lp1 503  _ (by omega) W1 F1  (by show 0 ≤ ivh1 a0 0 ∧ ivh1 a0 0 ≤ 500; omega) ie32
  · refine c_aload_n (j := 0) (x := a0) C dX8_step_7 rfl ?_
    refine c_aload_n (j := 1) (x := a1) C dX8_step_8 rfl ?_
    have ri28 : (-2147483648) ≤ iv a0 0 ∧ iv a0 0 ≤ 2147483647 := hW.int t_a0 0
    refine d_callV (As := [.ref a1]) (rest := []) C hM (C_enterLine (a0 := a0) (a1 := a1) hW hS t_a0 t_a1  (by show 0 ≤ iv a0 0 ∧ iv a0 0 ≤ 501 ∧ (iv a0 1 = 0 ∨ iv a0 0 ≤ 500); omega)) dX8_step_9 kV_X8_39 rfl t_a0 rfl rfl (by decide) ck_9 rfl (Nat.le_of_ble_eq_true rfl) ⟨(Nat.le_of_ble_eq_true rfl), (Nat.le_of_ble_eq_true rfl)⟩ hph hph (show 0 + 0 = 0 from rfl) (by decide) (fun rh7 Lh7 clh7 lnh7 ivh7 rvh7 h7 => ?_)
    obtain ⟨f7, rfl, rfl, rfl, rfl, rfl, fl7, W12, rgf7, exf7⟩ := h7
    have F10 := hF0.call hX0 fl7 rfl
    refine c_st (st2 := [.int (iI f7)]) rfl ?_
    refine hv3 (show (-2147483648) ≤ ivh7 a0 0 ∧ ivh7 a0 0 ≤ 2147483647 from W12.int t_a0 0) (show 0 ≤ ivh7 a0 1 ∧ ivh7 a0 1 ≤ 1 from W12.int t_a0 1) (show (f7 = 0 ∨ f7 = 1) ∧ 0 ≤ ivh7 a0 0 ∧ ivh7 a0 0 ≤ 501 ∧ (ivh7 a0 1 = 0 ∨ ivh7 a0 0 ≤ 500) from exf7) (fun ri29 ri30 gf7 => ?_)
    exact c_iret C dX8_step_12 rfl (by decide) (rom0 hph hph (by decide)) ⟨f7, rfl, rfl, rfl, rfl, rfl, F10, W12, ⟨by omega, by omega⟩, (by omega)⟩
set_option maxHeartbeats 4000000 in
set_option maxRecDepth 100000 in
theorem C_markLetters_24 {l : Launch} {G : GT} {mi : Nat} {sk : Nat → Nat} {L : List Nat} {cl ln : Nat → Nat} {iv : Nat → Nat → Int} {rv : Nat → Nat → Option Nat}  {a0 : Nat} {a1 : Nat} (hW : WT (g0 G) sk L cl ln iv rv) (hS : SKL sk L cl) (t_a0 : ty L cl a0 14) (t_a1 : ty L cl a1 24)  : Mc l G mi (Phi (g0 G) sk) PHM yX8_markLetters cX8_markLetters 5 none 3 [.ref a0, .ref a1] L cl ln iv rv 0 (fun v L2 cl2 ln2 iv2 rv2 => v = none ∧ L = L2 ∧ cl = cl2 ∧ ln = ln2 ∧ rv = rv2 ∧ fT [56] L cl iv rv iv2 rv2 ∧ WT (g0 G) sk L2 cl2 ln2 iv2 rv2 ∧ (True)) := by
  refine Mc.mk (by decide) (Nat.le_of_ble_eq_true rfl) ?_
  intro p e s m args below meth c A C hM
  refine hv3 (Phi.le hW hS) (show XT L cl ln L cl ln from XT.refl) (show fT [56] L cl iv rv iv rv from fT.refl) (fun hph hX0 hF0 => ?_)
  refine c_iconst C dX8_markLetters_0 ?_
  refine c_istore_n (lv2 := [(2, .int (iI 0)), (0, .ref a0), (1, .ref a1)]) C dX8_markLetters_1 (by decide) rfl ?_
  have Lp1 : ∀ (nn : Nat) (k : Int) (ivb1 : Nat → Nat → Int) , 6004 - k < (nn : Int) → WT (g0 G) sk L cl ln ivb1 rv → fT [56] L cl iv rv ivb1 rv → (0 ≤ k ∧ k ≤ 6003) → cw p l e 3 ((PHM) + 0 - ((Phi (g0 G) sk) ln rv)) s m args below meth c G A 5 (MQ below (Qu G A (Qp G (Phi (g0 G) sk) ((Phi (g0 G) sk) ln rv) 0 (fun v L2 cl2 ln2 iv2 rv2 => v = none ∧ L = L2 ∧ cl = cl2 ∧ ln = ln2 ∧ rv = rv2 ∧ fT [56] L cl iv rv iv2 rv2 ∧ WT (g0 G) sk L2 cl2 ln2 iv2 rv2 ∧ (True)))) args s (((PHM) + 0 - ((Phi (g0 G) sk) ln rv)) / 16) ((PHM) + 0 - ((Phi (g0 G) sk) ln rv)) A) (Phi (g0 G) sk) ((Phi (g0 G) sk) ln rv) L cl ln ivb1 rv 0 2 [(2, .int (iI k)), (0, .ref a0), (1, .ref a1)] [] := by
    intro nn
    induction nn with
    | zero =>
      intro  k ivb1 hm Wb1 Fb1  hk
      exact absurd hm (by omega)
    | succ nn ih1 =>
      intro  k ivb1 hm Wb1 Fb1  hk
      refine c_iload_n (j := 0) C dX8_markLetters_2 rfl ?_
      refine c_aload_n (j := 2) (x := a1) C dX8_markLetters_3 rfl ?_
      refine hv2 (show 0 ≤ ivb1 a1 2 ∧ ivb1 a1 2 ≤ 6003 from Wb1.int t_a1 2) (show ivb1 a1 2 = iv a1 2 from Fb1.i t_a1 rfl 2) (fun ri1 ie1 => ?_)
      refine d_callV (As := []) (rest := [.int (iI k)]) C hM (C_size_24 (a0 := a1) Wb1 hS t_a1  ) dX8_markLetters_4 kV_X8_77 rfl t_a1 rfl rfl (by decide) ck_0 rfl (Nat.le_of_ble_eq_true rfl) ⟨(Nat.le_of_ble_eq_true rfl), (Nat.le_of_ble_eq_true rfl)⟩ hph hph (show 0 + 0 = 0 from rfl) (by decide) (fun rh1 Lh1 clh1 lnh1 ivh1 rvh1 h1 => ?_)
      obtain ⟨f1, rfl, rfl, rfl, rfl, rfl, rfl, rgf1, exf1⟩ := h1
      refine c_st (st2 := [.int (iI f1), .int (iI k)]) rfl ?_
      have gf1 : f1 = ivb1 a1 2 := exf1
      refine c_icmp_ge (tgt := 70) C (r32_c (lo := 0) (hi := 6003) hk.1 hk.2 (by decide) (by decide)) ⟨by omega, by omega⟩ dX8_markLetters_7 (by decide) (fun c1 => ?_) (fun c1 => ?_)
      · exact c_vret C dX8_markLetters_70 rfl (by decide) (rom0 hph hph (by decide)) ⟨rfl, rfl, rfl, rfl, rfl, Fb1, Wb1, trivial⟩
      · refine c_aload_n (j := 2) (x := a1) C dX8_markLetters_10 rfl ?_
        refine c_iload_n (j := 0) C dX8_markLetters_11 rfl ?_
        refine d_callV (As := [.int (iI k)]) (rest := []) C hM (C_get_24 (a0 := a1) (i := k) Wb1 hS t_a1 (by omega) (by show 0 ≤ k ∧ k < ivb1 a1 2; omega)) dX8_markLetters_12 kV_X8_82 rfl t_a1 rfl rfl (by decide) ck_0 rfl (Nat.le_of_ble_eq_true rfl) ⟨(Nat.le_of_ble_eq_true rfl), (Nat.le_of_ble_eq_true rfl)⟩ hph hph (show 0 + 0 = 0 from rfl) (by decide) (fun rh2 Lh2 clh2 lnh2 ivh2 rvh2 h2 => ?_)
        obtain ⟨f2, rfl, rfl, rfl, rfl, rfl, rfl, rgf2, exf2⟩ := h2
        refine c_st (st2 := [.ref f2]) rfl ?_
        have gf2 : el rv a1 k.toNat = some f2 := exf2
        refine c_cast C ck_6 dX8_markLetters_15 w5_225 w8_169t rgf2 rfl rfl (by decide) ?_
        obtain ⟨rb1, rq1, trb1⟩ := Wb1.ref rgf2 1 rfl rfl rfl
        have lnrb1 : 0 ≤ ln rb1 ∧ ln rb1 ≤ 8 := Wb1.len trb1 rfl
        refine c_getr (k := 1) C ck_6 dX8_markLetters_18 w3_140 (by decide) rgf2 rfl rfl (by decide) rfl rq1 ?_
        refine c_st (st2 := [.ref rb1]) rfl ?_
        refine c_astore_n (lv2 := [(3, .ref rb1), (2, .int (iI k)), (0, .ref a0), (1, .ref a1)]) C dX8_markLetters_21 (by decide) rfl ?_
        refine c_iconst C dX8_markLetters_22 ?_
        refine c_istore (lv2 := [(4, .int (iI 0)), (3, .ref rb1), (2, .int (iI k)), (0, .ref a0), (1, .ref a1)]) C dX8_markLetters_23 (by decide) rfl ?_
        have Lp2 : ∀ (nn : Nat) (k2 : Int) (ivb2 : Nat → Nat → Int) , 9 - k2 < (nn : Int) → WT (g0 G) sk L cl ln ivb2 rv → fT [56] L cl iv rv ivb2 rv → (0 ≤ k2 ∧ k2 ≤ 8) → cw p l e 3 ((PHM) + 0 - ((Phi (g0 G) sk) ln rv)) s m args below meth c G A 5 (MQ below (Qu G A (Qp G (Phi (g0 G) sk) ((Phi (g0 G) sk) ln rv) 0 (fun v L2 cl2 ln2 iv2 rv2 => v = none ∧ L = L2 ∧ cl = cl2 ∧ ln = ln2 ∧ rv = rv2 ∧ fT [56] L cl iv rv iv2 rv2 ∧ WT (g0 G) sk L2 cl2 ln2 iv2 rv2 ∧ (True)))) args s (((PHM) + 0 - ((Phi (g0 G) sk) ln rv)) / 16) ((PHM) + 0 - ((Phi (g0 G) sk) ln rv)) A) (Phi (g0 G) sk) ((Phi (g0 G) sk) ln rv) L cl ln ivb2 rv 0 25 [(4, .int (iI k2)), (3, .ref rb1), (2, .int (iI k)), (0, .ref a0), (1, .ref a1)] [] := by
          intro nn
          induction nn with
          | zero =>
            intro  k2 ivb2 hm Wb2 Fb2  hk2
            exact absurd hm (by omega)
          | succ nn ih2 =>
            intro  k2 ivb2 hm Wb2 Fb2  hk2
            refine c_iload (j := 0) C dX8_markLetters_25 rfl ?_
            refine c_aload_n (j := 1) (x := rb1) C dX8_markLetters_27 rfl ?_
            have ll1 : 0 ≤ ln rb1 ∧ ln rb1 ≤ 8 := Wb2.len trb1 rfl
            refine c_alenI C dX8_markLetters_28 trb1 rfl ?_
            refine c_icmp_ge (tgt := 64) C (r32_c (lo := 0) (hi := 8) hk2.1 hk2.2 (by decide) (by decide)) ⟨by omega, by omega⟩ dX8_markLetters_29 (by decide) (fun c2 => ?_) (fun c2 => ?_)
            · refine c_iinc (z := k) (j := 2) (lv2 := [(2, .int (iI (k + 1))), (4, .int (iI k2)), (3, .ref rb1), (0, .ref a0), (1, .ref a1)]) C dX8_markLetters_64 rfl (by decide) rfl ?_
              refine c_goto (tgt := 2) C dX8_markLetters_67 (by decide) ?_
              refine c_lv (lv2 := [(2, .int (iI (k + 1))), (0, .ref a0), (1, .ref a1)]) [0, 3, 4] rfl ?_
              exact ih1  (k + 1) _ (by omega) Wb2 Fb2  (by omega)
            · refine c_aload_n (j := 1) (x := rb1) C dX8_markLetters_32 rfl ?_
              refine c_iload (j := 0) C dX8_markLetters_33 rfl ?_
              refine c_iald C dX8_markLetters_35 trb1 rfl (by omega) (by omega) (by omega) ?_
              refine hv2 (show (-2147483648) ≤ ivb2 rb1 k2.toNat ∧ ivb2 rb1 k2.toNat ≤ 2147483647 from Wb2.int trb1 k2.toNat) (show ivb2 rb1 k2.toNat = iv rb1 k2.toNat from Fb2.i trb1 rfl k2.toNat) (fun ri2 ie2 => ?_)
              refine c_if_lt (tgt := 58) C (r32_c (lo := (-2147483648)) (hi := 2147483647) ri2.1 ri2.2 (by decide) (by decide)) dX8_markLetters_36 (by decide) (fun c3 => ?_) (fun c3 => ?_)
              · refine c_iinc (z := k2) (j := 0) (lv2 := [(4, .int (iI (k2 + 1))), (3, .ref rb1), (2, .int (iI k)), (0, .ref a0), (1, .ref a1)]) C dX8_markLetters_58 rfl (by decide) rfl ?_
                refine c_goto (tgt := 25) C dX8_markLetters_61 (by decide) ?_
                refine c_lv (lv2 := [(4, .int (iI (k2 + 1))), (3, .ref rb1), (2, .int (iI k)), (0, .ref a0), (1, .ref a1)]) [0, 1, 2, 3, 4] rfl ?_
                exact ih2  (k2 + 1) _ (by omega) Wb2 Fb2  (by omega)
              · refine c_aload_n (j := 1) (x := rb1) C dX8_markLetters_39 rfl ?_
                refine c_iload (j := 0) C dX8_markLetters_40 rfl ?_
                refine c_iald C dX8_markLetters_42 trb1 rfl (by omega) (by omega) (by omega) ?_
                refine c_bipush (z := 125) C dX8_markLetters_43 (by decide) ?_
                refine c_icmp_gt (tgt := 58) C (r32_c (lo := (-2147483648)) (hi := 2147483647) ri2.1 ri2.2 (by decide) (by decide)) ⟨by decide, by decide⟩ dX8_markLetters_45 (by decide) (fun c4 => ?_) (fun c4 => ?_)
                · refine c_iinc (z := k2) (j := 0) (lv2 := [(4, .int (iI (k2 + 1))), (3, .ref rb1), (2, .int (iI k)), (0, .ref a0), (1, .ref a1)]) C dX8_markLetters_58 rfl (by decide) rfl ?_
                  refine c_goto (tgt := 25) C dX8_markLetters_61 (by decide) ?_
                  refine c_lv (lv2 := [(4, .int (iI (k2 + 1))), (3, .ref rb1), (2, .int (iI k)), (0, .ref a0), (1, .ref a1)]) [0, 1, 2, 3, 4] rfl ?_
                  exact ih2  (k2 + 1) _ (by omega) Wb2 Fb2  (by omega)
                · refine c_aload_n (j := 3) (x := a0) C dX8_markLetters_48 rfl ?_
                  obtain ⟨rb2, rq2, trb2⟩ := Wb2.ref t_a0 3 rfl rfl rfl
                  have lnrb2 : 126 ≤ ln rb2 ∧ ln rb2 ≤ 126 := Wb2.len trb2 rfl
                  refine c_getr (k := 3) C ck_9 dX8_markLetters_49 w1_107 (by decide) t_a0 rfl rfl (by decide) rfl rq2 ?_
                  refine c_st (st2 := [.ref rb2]) rfl ?_
                  refine c_aload_n (j := 1) (x := rb1) C dX8_markLetters_52 rfl ?_
                  refine c_iload (j := 0) C dX8_markLetters_53 rfl ?_
                  refine c_iald C dX8_markLetters_55 trb1 rfl (by omega) (by omega) (by omega) ?_
                  refine c_iconst C dX8_markLetters_56 ?_
                  have ll2 : 126 ≤ ln rb2 ∧ ln rb2 ≤ 126 := Wb2.len trb2 rfl
                  refine c_zast (x := 1) C dX8_markLetters_57 trb2 rfl (by omega) (by omega) (by omega) (by omega) (fun iv1 pq1 => ?_)
                  refine hv2 (Wb2.puti pq1 trb2 (show 0 ≤ 1 ∧ 1 ≤ 1 by omega) rfl) (Fb2.puti hX0 pq1 trb2 rfl) (fun W3 F1 => ?_)
                  refine c_iinc (z := k2) (j := 0) (lv2 := [(4, .int (iI (k2 + 1))), (3, .ref rb1), (2, .int (iI k)), (0, .ref a0), (1, .ref a1)]) C dX8_markLetters_58 rfl (by decide) rfl ?_
                  refine c_goto (tgt := 25) C dX8_markLetters_61 (by decide) ?_
                  refine c_lv (lv2 := [(4, .int (iI (k2 + 1))), (3, .ref rb1), (2, .int (iI k)), (0, .ref a0), (1, .ref a1)]) [0, 1, 2, 3, 4] rfl ?_
                  exact ih2  (k2 + 1) _ (by omega) W3 F1  (by omega)
        refine c_lv (lv2 := [(4, .int (iI 0)), (3, .ref rb1), (2, .int (iI k)), (0, .ref a0), (1, .ref a1)]) [0, 1, 2, 3, 4] rfl ?_
        exact Lp2 10 0 _ (by omega) Wb1 Fb1  (by omega)
  refine c_lv (lv2 := [(2, .int (iI 0)), (0, .ref a0), (1, .ref a1)]) [0, 1, 2] rfl ?_
  exact Lp1 6006 0 _ (by omega) hW hF0  (by omega)
set_option maxHeartbeats 4000000 in
set_option maxRecDepth 100000 in
theorem C_markLetters_25 {l : Launch} {G : GT} {mi : Nat} {sk : Nat → Nat} {L : List Nat} {cl ln : Nat → Nat} {iv : Nat → Nat → Int} {rv : Nat → Nat → Option Nat}  {a0 : Nat} {a1 : Nat} (hW : WT (g0 G) sk L cl ln iv rv) (hS : SKL sk L cl) (t_a0 : ty L cl a0 14) (t_a1 : ty L cl a1 25)  : Mc l G mi (Phi (g0 G) sk) PHM yX8_markLetters cX8_markLetters 5 none 3 [.ref a0, .ref a1] L cl ln iv rv 0 (fun v L2 cl2 ln2 iv2 rv2 => v = none ∧ L = L2 ∧ cl = cl2 ∧ ln = ln2 ∧ rv = rv2 ∧ fT [56] L cl iv rv iv2 rv2 ∧ WT (g0 G) sk L2 cl2 ln2 iv2 rv2 ∧ (True)) := by
  refine Mc.mk (by decide) (Nat.le_of_ble_eq_true rfl) ?_
  intro p e s m args below meth c A C hM
  refine hv3 (Phi.le hW hS) (show XT L cl ln L cl ln from XT.refl) (show fT [56] L cl iv rv iv rv from fT.refl) (fun hph hX0 hF0 => ?_)
  refine c_iconst C dX8_markLetters_0 ?_
  refine c_istore_n (lv2 := [(2, .int (iI 0)), (0, .ref a0), (1, .ref a1)]) C dX8_markLetters_1 (by decide) rfl ?_
  have Lp1 : ∀ (nn : Nat) (k : Int) (ivb1 : Nat → Nat → Int) , 6004 - k < (nn : Int) → WT (g0 G) sk L cl ln ivb1 rv → fT [56] L cl iv rv ivb1 rv → (0 ≤ k ∧ k ≤ 6003) → cw p l e 3 ((PHM) + 0 - ((Phi (g0 G) sk) ln rv)) s m args below meth c G A 5 (MQ below (Qu G A (Qp G (Phi (g0 G) sk) ((Phi (g0 G) sk) ln rv) 0 (fun v L2 cl2 ln2 iv2 rv2 => v = none ∧ L = L2 ∧ cl = cl2 ∧ ln = ln2 ∧ rv = rv2 ∧ fT [56] L cl iv rv iv2 rv2 ∧ WT (g0 G) sk L2 cl2 ln2 iv2 rv2 ∧ (True)))) args s (((PHM) + 0 - ((Phi (g0 G) sk) ln rv)) / 16) ((PHM) + 0 - ((Phi (g0 G) sk) ln rv)) A) (Phi (g0 G) sk) ((Phi (g0 G) sk) ln rv) L cl ln ivb1 rv 0 2 [(2, .int (iI k)), (0, .ref a0), (1, .ref a1)] [] := by
    intro nn
    induction nn with
    | zero =>
      intro  k ivb1 hm Wb1 Fb1  hk
      exact absurd hm (by omega)
    | succ nn ih1 =>
      intro  k ivb1 hm Wb1 Fb1  hk
      refine c_iload_n (j := 0) C dX8_markLetters_2 rfl ?_
      refine c_aload_n (j := 2) (x := a1) C dX8_markLetters_3 rfl ?_
      refine hv2 (show 0 ≤ ivb1 a1 2 ∧ ivb1 a1 2 ≤ 6003 from Wb1.int t_a1 2) (show ivb1 a1 2 = iv a1 2 from Fb1.i t_a1 rfl 2) (fun ri1 ie1 => ?_)
      refine d_callV (As := []) (rest := [.int (iI k)]) C hM (C_size_25 (a0 := a1) Wb1 hS t_a1  ) dX8_markLetters_4 kV_X8_77 rfl t_a1 rfl rfl (by decide) ck_0 rfl (Nat.le_of_ble_eq_true rfl) ⟨(Nat.le_of_ble_eq_true rfl), (Nat.le_of_ble_eq_true rfl)⟩ hph hph (show 0 + 0 = 0 from rfl) (by decide) (fun rh1 Lh1 clh1 lnh1 ivh1 rvh1 h1 => ?_)
      obtain ⟨f1, rfl, rfl, rfl, rfl, rfl, rfl, rgf1, exf1⟩ := h1
      refine c_st (st2 := [.int (iI f1), .int (iI k)]) rfl ?_
      have gf1 : f1 = ivb1 a1 2 := exf1
      refine c_icmp_ge (tgt := 70) C (r32_c (lo := 0) (hi := 6003) hk.1 hk.2 (by decide) (by decide)) ⟨by omega, by omega⟩ dX8_markLetters_7 (by decide) (fun c1 => ?_) (fun c1 => ?_)
      · exact c_vret C dX8_markLetters_70 rfl (by decide) (rom0 hph hph (by decide)) ⟨rfl, rfl, rfl, rfl, rfl, Fb1, Wb1, trivial⟩
      · refine c_aload_n (j := 2) (x := a1) C dX8_markLetters_10 rfl ?_
        refine c_iload_n (j := 0) C dX8_markLetters_11 rfl ?_
        refine d_callV (As := [.int (iI k)]) (rest := []) C hM (C_get_25 (a0 := a1) (i := k) Wb1 hS t_a1 (by omega) (by show 0 ≤ k ∧ k < ivb1 a1 2; omega)) dX8_markLetters_12 kV_X8_82 rfl t_a1 rfl rfl (by decide) ck_0 rfl (Nat.le_of_ble_eq_true rfl) ⟨(Nat.le_of_ble_eq_true rfl), (Nat.le_of_ble_eq_true rfl)⟩ hph hph (show 0 + 0 = 0 from rfl) (by decide) (fun rh2 Lh2 clh2 lnh2 ivh2 rvh2 h2 => ?_)
        obtain ⟨f2, rfl, rfl, rfl, rfl, rfl, rfl, rgf2, exf2⟩ := h2
        refine c_st (st2 := [.ref f2]) rfl ?_
        have gf2 : el rv a1 k.toNat = some f2 := exf2
        refine c_cast C ck_6 dX8_markLetters_15 w5_225 w8_169t rgf2 rfl rfl (by decide) ?_
        obtain ⟨rb1, rq1, trb1⟩ := Wb1.ref rgf2 1 rfl rfl rfl
        have lnrb1 : 0 ≤ ln rb1 ∧ ln rb1 ≤ 8 := Wb1.len trb1 rfl
        refine c_getr (k := 1) C ck_6 dX8_markLetters_18 w3_140 (by decide) rgf2 rfl rfl (by decide) rfl rq1 ?_
        refine c_st (st2 := [.ref rb1]) rfl ?_
        refine c_astore_n (lv2 := [(3, .ref rb1), (2, .int (iI k)), (0, .ref a0), (1, .ref a1)]) C dX8_markLetters_21 (by decide) rfl ?_
        refine c_iconst C dX8_markLetters_22 ?_
        refine c_istore (lv2 := [(4, .int (iI 0)), (3, .ref rb1), (2, .int (iI k)), (0, .ref a0), (1, .ref a1)]) C dX8_markLetters_23 (by decide) rfl ?_
        have Lp2 : ∀ (nn : Nat) (k2 : Int) (ivb2 : Nat → Nat → Int) , 9 - k2 < (nn : Int) → WT (g0 G) sk L cl ln ivb2 rv → fT [56] L cl iv rv ivb2 rv → (0 ≤ k2 ∧ k2 ≤ 8) → cw p l e 3 ((PHM) + 0 - ((Phi (g0 G) sk) ln rv)) s m args below meth c G A 5 (MQ below (Qu G A (Qp G (Phi (g0 G) sk) ((Phi (g0 G) sk) ln rv) 0 (fun v L2 cl2 ln2 iv2 rv2 => v = none ∧ L = L2 ∧ cl = cl2 ∧ ln = ln2 ∧ rv = rv2 ∧ fT [56] L cl iv rv iv2 rv2 ∧ WT (g0 G) sk L2 cl2 ln2 iv2 rv2 ∧ (True)))) args s (((PHM) + 0 - ((Phi (g0 G) sk) ln rv)) / 16) ((PHM) + 0 - ((Phi (g0 G) sk) ln rv)) A) (Phi (g0 G) sk) ((Phi (g0 G) sk) ln rv) L cl ln ivb2 rv 0 25 [(4, .int (iI k2)), (3, .ref rb1), (2, .int (iI k)), (0, .ref a0), (1, .ref a1)] [] := by
          intro nn
          induction nn with
          | zero =>
            intro  k2 ivb2 hm Wb2 Fb2  hk2
            exact absurd hm (by omega)
          | succ nn ih2 =>
            intro  k2 ivb2 hm Wb2 Fb2  hk2
            refine c_iload (j := 0) C dX8_markLetters_25 rfl ?_
            refine c_aload_n (j := 1) (x := rb1) C dX8_markLetters_27 rfl ?_
            have ll1 : 0 ≤ ln rb1 ∧ ln rb1 ≤ 8 := Wb2.len trb1 rfl
            refine c_alenI C dX8_markLetters_28 trb1 rfl ?_
            refine c_icmp_ge (tgt := 64) C (r32_c (lo := 0) (hi := 8) hk2.1 hk2.2 (by decide) (by decide)) ⟨by omega, by omega⟩ dX8_markLetters_29 (by decide) (fun c2 => ?_) (fun c2 => ?_)
            · refine c_iinc (z := k) (j := 2) (lv2 := [(2, .int (iI (k + 1))), (4, .int (iI k2)), (3, .ref rb1), (0, .ref a0), (1, .ref a1)]) C dX8_markLetters_64 rfl (by decide) rfl ?_
              refine c_goto (tgt := 2) C dX8_markLetters_67 (by decide) ?_
              refine c_lv (lv2 := [(2, .int (iI (k + 1))), (0, .ref a0), (1, .ref a1)]) [0, 3, 4] rfl ?_
              exact ih1  (k + 1) _ (by omega) Wb2 Fb2  (by omega)
            · refine c_aload_n (j := 1) (x := rb1) C dX8_markLetters_32 rfl ?_
              refine c_iload (j := 0) C dX8_markLetters_33 rfl ?_
              refine c_iald C dX8_markLetters_35 trb1 rfl (by omega) (by omega) (by omega) ?_
              refine hv2 (show (-2147483648) ≤ ivb2 rb1 k2.toNat ∧ ivb2 rb1 k2.toNat ≤ 2147483647 from Wb2.int trb1 k2.toNat) (show ivb2 rb1 k2.toNat = iv rb1 k2.toNat from Fb2.i trb1 rfl k2.toNat) (fun ri2 ie2 => ?_)
              refine c_if_lt (tgt := 58) C (r32_c (lo := (-2147483648)) (hi := 2147483647) ri2.1 ri2.2 (by decide) (by decide)) dX8_markLetters_36 (by decide) (fun c3 => ?_) (fun c3 => ?_)
              · refine c_iinc (z := k2) (j := 0) (lv2 := [(4, .int (iI (k2 + 1))), (3, .ref rb1), (2, .int (iI k)), (0, .ref a0), (1, .ref a1)]) C dX8_markLetters_58 rfl (by decide) rfl ?_
                refine c_goto (tgt := 25) C dX8_markLetters_61 (by decide) ?_
                refine c_lv (lv2 := [(4, .int (iI (k2 + 1))), (3, .ref rb1), (2, .int (iI k)), (0, .ref a0), (1, .ref a1)]) [0, 1, 2, 3, 4] rfl ?_
                exact ih2  (k2 + 1) _ (by omega) Wb2 Fb2  (by omega)
              · refine c_aload_n (j := 1) (x := rb1) C dX8_markLetters_39 rfl ?_
                refine c_iload (j := 0) C dX8_markLetters_40 rfl ?_
                refine c_iald C dX8_markLetters_42 trb1 rfl (by omega) (by omega) (by omega) ?_
                refine c_bipush (z := 125) C dX8_markLetters_43 (by decide) ?_
                refine c_icmp_gt (tgt := 58) C (r32_c (lo := (-2147483648)) (hi := 2147483647) ri2.1 ri2.2 (by decide) (by decide)) ⟨by decide, by decide⟩ dX8_markLetters_45 (by decide) (fun c4 => ?_) (fun c4 => ?_)
                · refine c_iinc (z := k2) (j := 0) (lv2 := [(4, .int (iI (k2 + 1))), (3, .ref rb1), (2, .int (iI k)), (0, .ref a0), (1, .ref a1)]) C dX8_markLetters_58 rfl (by decide) rfl ?_
                  refine c_goto (tgt := 25) C dX8_markLetters_61 (by decide) ?_
                  refine c_lv (lv2 := [(4, .int (iI (k2 + 1))), (3, .ref rb1), (2, .int (iI k)), (0, .ref a0), (1, .ref a1)]) [0, 1, 2, 3, 4] rfl ?_
                  exact ih2  (k2 + 1) _ (by omega) Wb2 Fb2  (by omega)
                · refine c_aload_n (j := 3) (x := a0) C dX8_markLetters_48 rfl ?_
                  obtain ⟨rb2, rq2, trb2⟩ := Wb2.ref t_a0 3 rfl rfl rfl
                  have lnrb2 : 126 ≤ ln rb2 ∧ ln rb2 ≤ 126 := Wb2.len trb2 rfl
                  refine c_getr (k := 3) C ck_9 dX8_markLetters_49 w1_107 (by decide) t_a0 rfl rfl (by decide) rfl rq2 ?_
                  refine c_st (st2 := [.ref rb2]) rfl ?_
                  refine c_aload_n (j := 1) (x := rb1) C dX8_markLetters_52 rfl ?_
                  refine c_iload (j := 0) C dX8_markLetters_53 rfl ?_
                  refine c_iald C dX8_markLetters_55 trb1 rfl (by omega) (by omega) (by omega) ?_
                  refine c_iconst C dX8_markLetters_56 ?_
                  have ll2 : 126 ≤ ln rb2 ∧ ln rb2 ≤ 126 := Wb2.len trb2 rfl
                  refine c_zast (x := 1) C dX8_markLetters_57 trb2 rfl (by omega) (by omega) (by omega) (by omega) (fun iv1 pq1 => ?_)
                  refine hv2 (Wb2.puti pq1 trb2 (show 0 ≤ 1 ∧ 1 ≤ 1 by omega) rfl) (Fb2.puti hX0 pq1 trb2 rfl) (fun W3 F1 => ?_)
                  refine c_iinc (z := k2) (j := 0) (lv2 := [(4, .int (iI (k2 + 1))), (3, .ref rb1), (2, .int (iI k)), (0, .ref a0), (1, .ref a1)]) C dX8_markLetters_58 rfl (by decide) rfl ?_
                  refine c_goto (tgt := 25) C dX8_markLetters_61 (by decide) ?_
                  refine c_lv (lv2 := [(4, .int (iI (k2 + 1))), (3, .ref rb1), (2, .int (iI k)), (0, .ref a0), (1, .ref a1)]) [0, 1, 2, 3, 4] rfl ?_
                  exact ih2  (k2 + 1) _ (by omega) W3 F1  (by omega)
        refine c_lv (lv2 := [(4, .int (iI 0)), (3, .ref rb1), (2, .int (iI k)), (0, .ref a0), (1, .ref a1)]) [0, 1, 2, 3, 4] rfl ?_
        exact Lp2 10 0 _ (by omega) Wb1 Fb1  (by omega)
  refine c_lv (lv2 := [(2, .int (iI 0)), (0, .ref a0), (1, .ref a1)]) [0, 1, 2] rfl ?_
  exact Lp1 6006 0 _ (by omega) hW hF0  (by omega)
set_option maxHeartbeats 4000000 in
set_option maxRecDepth 100000 in
theorem C_gatherAlphabet {l : Launch} {G : GT} {mi : Nat} {sk : Nat → Nat} {L : List Nat} {cl ln : Nat → Nat} {iv : Nat → Nat → Int} {rv : Nat → Nat → Option Nat}  {a0 : Nat} {a1 : Nat} {g : Int} (hW : WT (g0 G) sk L cl ln iv rv) (hS : SKL sk L cl) (t_a0 : ty L cl a0 14) (t_a1 : ty L cl a1 16) (h_g : -2147483648 ≤ g ∧ g ≤ 2147483647)  : Mc l G mi (Phi (g0 G) sk) PHM yX8_gatherAlphabet cX8_gatherAlphabet 4 none 4 [.ref a0, .ref a1, .int (iI g)] L cl ln iv rv 0 (fun v L2 cl2 ln2 iv2 rv2 => v = none ∧ L = L2 ∧ cl = cl2 ∧ ln = ln2 ∧ rv = rv2 ∧ fT [14, 56, 57] L cl iv rv iv2 rv2 ∧ WT (g0 G) sk L2 cl2 ln2 iv2 rv2 ∧ (iv2 a0 7 = iv a0 7)) := by
  refine Mc.mk (by decide) (Nat.le_of_ble_eq_true rfl) ?_
  intro p e s m args below meth c A C hM
  refine hv3 (Phi.le hW hS) (show XT L cl ln L cl ln from XT.refl) (show fT [14, 56, 57] L cl iv rv iv rv from fT.refl) (fun hph hX0 hF0 => ?_)
  refine c_iconst C dX8_gatherAlphabet_0 ?_
  refine c_istore_n (lv2 := [(3, .int (iI 0)), (0, .ref a0), (1, .ref a1), (2, .int (iI g))]) C dX8_gatherAlphabet_1 (by decide) rfl ?_
  have Lp1 : ∀ (nn : Nat) (k : Int) (ivb1 : Nat → Nat → Int) , 127 - k < (nn : Int) → WT (g0 G) sk L cl ln ivb1 rv → fT [14, 56, 57] L cl iv rv ivb1 rv → (0 ≤ k ∧ k ≤ 126) → (ivb1 a0 7 = iv a0 7) → cw p l e 4 ((PHM) + 0 - ((Phi (g0 G) sk) ln rv)) s m args below meth c G A 4 (MQ below (Qu G A (Qp G (Phi (g0 G) sk) ((Phi (g0 G) sk) ln rv) 0 (fun v L2 cl2 ln2 iv2 rv2 => v = none ∧ L = L2 ∧ cl = cl2 ∧ ln = ln2 ∧ rv = rv2 ∧ fT [14, 56, 57] L cl iv rv iv2 rv2 ∧ WT (g0 G) sk L2 cl2 ln2 iv2 rv2 ∧ (iv2 a0 7 = iv a0 7)))) args s (((PHM) + 0 - ((Phi (g0 G) sk) ln rv)) / 16) ((PHM) + 0 - ((Phi (g0 G) sk) ln rv)) A) (Phi (g0 G) sk) ((Phi (g0 G) sk) ln rv) L cl ln ivb1 rv 0 2 [(3, .int (iI k)), (0, .ref a0), (1, .ref a1), (2, .int (iI g))] [] := by
    intro nn
    induction nn with
    | zero =>
      intro  k ivb1 hm Wb1 Fb1  hk h2
      exact absurd hm (by omega)
    | succ nn ih1 =>
      intro  k ivb1 hm Wb1 Fb1  hk h2
      refine c_iload_n (j := 0) C dX8_gatherAlphabet_2 rfl ?_
      refine c_bipush (z := 125) C dX8_gatherAlphabet_3 (by decide) ?_
      refine c_icmp_gt (tgt := 21) C (r32_c (lo := 0) (hi := 126) hk.1 hk.2 (by decide) (by decide)) ⟨by decide, by decide⟩ dX8_gatherAlphabet_5 (by decide) (fun c1 => ?_) (fun c1 => ?_)
      · refine c_aload_n (j := 1) (x := a0) C dX8_gatherAlphabet_21 rfl ?_
        refine c_aload_n (j := 2) (x := a1) C dX8_gatherAlphabet_22 rfl ?_
        obtain ⟨rb1, rq1, trb1⟩ := Wb1.ref t_a1 0 rfl rfl rfl
        refine c_getr (k := 0) C ck_4 dX8_gatherAlphabet_23 w1_191 (by decide) t_a1 rfl rfl (by decide) rfl rq1 ?_
        refine c_st (st2 := [.ref rb1, .ref a0]) rfl ?_
        refine d_callV (As := [.ref rb1]) (rest := []) C hM (C_markLetters_24 (a0 := a0) (a1 := rb1) Wb1 hS t_a0 trb1  ) dX8_gatherAlphabet_26 kV_X8_70 rfl t_a0 rfl rfl (by decide) ck_9 rfl (Nat.le_of_ble_eq_true rfl) ⟨(Nat.le_of_ble_eq_true rfl), (Nat.le_of_ble_eq_true rfl)⟩ hph hph (show 0 + 0 = 0 from rfl) (by decide) (fun rh1 Lh1 clh1 lnh1 ivh1 rvh1 h1 => ?_)
        obtain ⟨rfl, rfl, rfl, rfl, rfl, fl1, W1, exf1⟩ := h1
        have F1 := Fb1.call hX0 fl1 rfl
        refine c_st (st2 := []) rfl ?_
        refine c_aload_n (j := 1) (x := a0) C dX8_gatherAlphabet_29 rfl ?_
        refine c_aload_n (j := 2) (x := a1) C dX8_gatherAlphabet_30 rfl ?_
        obtain ⟨rb2, rq2, trb2⟩ := W1.ref t_a1 1 rfl rfl rfl
        refine c_getr (k := 1) C ck_4 dX8_gatherAlphabet_31 w1_194 (by decide) t_a1 rfl rfl (by decide) rfl rq2 ?_
        refine c_st (st2 := [.ref rb2, .ref a0]) rfl ?_
        refine d_callV (As := [.ref rb2]) (rest := []) C hM (C_markLetters_25 (a0 := a0) (a1 := rb2) W1 hS t_a0 trb2  ) dX8_gatherAlphabet_34 kV_X8_70 rfl t_a0 rfl rfl (by decide) ck_9 rfl (Nat.le_of_ble_eq_true rfl) ⟨(Nat.le_of_ble_eq_true rfl), (Nat.le_of_ble_eq_true rfl)⟩ hph hph (show 0 + 0 = 0 from rfl) (by decide) (fun rh3 Lh3 clh3 lnh3 ivh3 rvh3 h3 => ?_)
        obtain ⟨rfl, rfl, rfl, rfl, rfl, fl2, W2, exf2⟩ := h3
        have F2 := F1.call hX0 fl2 rfl
        refine c_st (st2 := []) rfl ?_
        have J1 : ∀ (ivb2 : Nat → Nat → Int) , WT (g0 G) sk L cl ln ivb2 rv → fT [14, 56, 57] L cl iv rv ivb2 rv → (ivb2 a0 7 = iv a0 7) → cw p l e 4 ((PHM) + 0 - ((Phi (g0 G) sk) ln rv)) s m args below meth c G A 4 (MQ below (Qu G A (Qp G (Phi (g0 G) sk) ((Phi (g0 G) sk) ln rv) 0 (fun v L2 cl2 ln2 iv2 rv2 => v = none ∧ L = L2 ∧ cl = cl2 ∧ ln = ln2 ∧ rv = rv2 ∧ fT [14, 56, 57] L cl iv rv iv2 rv2 ∧ WT (g0 G) sk L2 cl2 ln2 iv2 rv2 ∧ (iv2 a0 7 = iv a0 7)))) args s (((PHM) + 0 - ((Phi (g0 G) sk) ln rv)) / 16) ((PHM) + 0 - ((Phi (g0 G) sk) ln rv)) A) (Phi (g0 G) sk) ((Phi (g0 G) sk) ln rv) L cl ln ivb2 rv 0 57 [(0, .ref a0), (1, .ref a1), (2, .int (iI g))] [] := by
          intro   ivb2 Wb2 Fb2  h57
          refine c_bipush (z := 97) C dX8_gatherAlphabet_57 (by decide) ?_
          refine c_istore_n (lv2 := [(3, .int (iI 97)), (0, .ref a0), (1, .ref a1), (2, .int (iI g))]) C dX8_gatherAlphabet_59 (by decide) rfl ?_
          have Lp2 : ∀ (nn : Nat) (k1 : Int) (ivb3 : Nat → Nat → Int) , 124 - k1 < (nn : Int) → WT (g0 G) sk L cl ln ivb3 rv → fT [14, 56, 57] L cl iv rv ivb3 rv → (97 ≤ k1 ∧ k1 ≤ 123) → (ivb3 a0 7 = iv a0 7) → cw p l e 4 ((PHM) + 0 - ((Phi (g0 G) sk) ln rv)) s m args below meth c G A 4 (MQ below (Qu G A (Qp G (Phi (g0 G) sk) ((Phi (g0 G) sk) ln rv) 0 (fun v L2 cl2 ln2 iv2 rv2 => v = none ∧ L = L2 ∧ cl = cl2 ∧ ln = ln2 ∧ rv = rv2 ∧ fT [14, 56, 57] L cl iv rv iv2 rv2 ∧ WT (g0 G) sk L2 cl2 ln2 iv2 rv2 ∧ (iv2 a0 7 = iv a0 7)))) args s (((PHM) + 0 - ((Phi (g0 G) sk) ln rv)) / 16) ((PHM) + 0 - ((Phi (g0 G) sk) ln rv)) A) (Phi (g0 G) sk) ((Phi (g0 G) sk) ln rv) L cl ln ivb3 rv 0 60 [(3, .int (iI k1)), (0, .ref a0), (1, .ref a1), (2, .int (iI g))] [] := by
            intro nn
            induction nn with
            | zero =>
              intro  k1 ivb3 hm Wb3 Fb3  hk1 h60
              exact absurd hm (by omega)
            | succ nn ih2 =>
              intro  k1 ivb3 hm Wb3 Fb3  hk1 h60
              refine c_iload_n (j := 0) C dX8_gatherAlphabet_60 rfl ?_
              refine c_bipush (z := 122) C dX8_gatherAlphabet_61 (by decide) ?_
              refine c_icmp_gt (tgt := 107) C (r32_c (lo := 97) (hi := 123) hk1.1 hk1.2 (by decide) (by decide)) ⟨by decide, by decide⟩ dX8_gatherAlphabet_63 (by decide) (fun c2 => ?_) (fun c2 => ?_)
              · refine c_aload_n (j := 1) (x := a0) C dX8_gatherAlphabet_107 rfl ?_
                refine c_iconst C dX8_gatherAlphabet_108 ?_
                refine c_put (z := 0) (k := 5) C ck_9 dX8_gatherAlphabet_109 w1_109 (by decide) rfl t_a0 rfl rfl (by decide) rfl (by rfl) (by rfl) (fun iv1 pq1 => ?_)
                refine hv2 (Wb3.puti pq1 t_a0 ⟨by decide, by decide⟩ rfl) (Fb3.puti hX0 pq1 t_a0 rfl) (fun W3 F3 => ?_)
                refine c_bipush (z := 33) C dX8_gatherAlphabet_112 (by decide) ?_
                refine c_istore_n (lv2 := [(3, .int (iI 33)), (0, .ref a0), (1, .ref a1), (2, .int (iI g))]) C dX8_gatherAlphabet_114 (by decide) rfl ?_
                have Lp3 : ∀ (nn : Nat) (k2 : Int) (ivb4 : Nat → Nat → Int) , 127 - k2 < (nn : Int) → WT (g0 G) sk L cl ln ivb4 rv → fT [14, 56, 57] L cl iv rv ivb4 rv → (33 ≤ k2 ∧ k2 ≤ 126) → (0 ≤ ivb4 a0 5 ∧ ivb4 a0 5 ≤ k2 - 33) → (ivb4 a0 7 = iv a0 7) → cw p l e 4 ((PHM) + 0 - ((Phi (g0 G) sk) ln rv)) s m args below meth c G A 4 (MQ below (Qu G A (Qp G (Phi (g0 G) sk) ((Phi (g0 G) sk) ln rv) 0 (fun v L2 cl2 ln2 iv2 rv2 => v = none ∧ L = L2 ∧ cl = cl2 ∧ ln = ln2 ∧ rv = rv2 ∧ fT [14, 56, 57] L cl iv rv iv2 rv2 ∧ WT (g0 G) sk L2 cl2 ln2 iv2 rv2 ∧ (iv2 a0 7 = iv a0 7)))) args s (((PHM) + 0 - ((Phi (g0 G) sk) ln rv)) / 16) ((PHM) + 0 - ((Phi (g0 G) sk) ln rv)) A) (Phi (g0 G) sk) ((Phi (g0 G) sk) ln rv) L cl ln ivb4 rv 0 115 [(3, .int (iI k2)), (0, .ref a0), (1, .ref a1), (2, .int (iI g))] [] := by
                  intro nn
                  induction nn with
                  | zero =>
                    intro  k2 ivb4 hm Wb4 Fb4  hk2 hz h115
                    exact absurd hm (by omega)
                  | succ nn ih3 =>
                    intro  k2 ivb4 hm Wb4 Fb4  hk2 hz h115
                    refine c_iload_n (j := 0) C dX8_gatherAlphabet_115 rfl ?_
                    refine c_bipush (z := 125) C dX8_gatherAlphabet_116 (by decide) ?_
                    refine c_icmp_gt (tgt := 156) C (r32_c (lo := 33) (hi := 126) hk2.1 hk2.2 (by decide) (by decide)) ⟨by decide, by decide⟩ dX8_gatherAlphabet_118 (by decide) (fun c3 => ?_) (fun c3 => ?_)
                    · have ri1 : 0 ≤ ivb4 a0 7 ∧ ivb4 a0 7 ≤ 6 := Wb4.int t_a0 7
                      exact c_vret C dX8_gatherAlphabet_156 rfl (by decide) (rom0 hph hph (by decide)) ⟨rfl, rfl, rfl, rfl, rfl, Fb4, Wb4, (by omega)⟩
                    · refine c_aload_n (j := 1) (x := a0) C dX8_gatherAlphabet_121 rfl ?_
                      obtain ⟨rb3, rq3, trb3⟩ := Wb4.ref t_a0 3 rfl rfl rfl
                      have lnrb3 : 126 ≤ ln rb3 ∧ ln rb3 ≤ 126 := Wb4.len trb3 rfl
                      refine c_getr (k := 3) C ck_9 dX8_gatherAlphabet_122 w1_107 (by decide) t_a0 rfl rfl (by decide) rfl rq3 ?_
                      refine c_st (st2 := [.ref rb3]) rfl ?_
                      refine c_iload_n (j := 0) C dX8_gatherAlphabet_125 rfl ?_
                      have ll1 : 126 ≤ ln rb3 ∧ ln rb3 ≤ 126 := Wb4.len trb3 rfl
                      refine c_zald C dX8_gatherAlphabet_126 trb3 rfl (by omega) (by omega) (by omega) ?_
                      have ri2 : 0 ≤ ivb4 rb3 k2.toNat ∧ ivb4 rb3 k2.toNat ≤ 1 := Wb4.int trb3 k2.toNat
                      refine c_if_eq (tgt := 150) C (r32_c (lo := 0) (hi := 1) ri2.1 ri2.2 (by decide) (by decide)) dX8_gatherAlphabet_127 (by decide) (fun c4 => ?_) (fun c4 => ?_)
                      · refine c_iinc (z := k2) (j := 0) (lv2 := [(3, .int (iI (k2 + 1))), (0, .ref a0), (1, .ref a1), (2, .int (iI g))]) C dX8_gatherAlphabet_150 rfl (by decide) rfl ?_
                        refine c_goto (tgt := 115) C dX8_gatherAlphabet_153 (by decide) ?_
                        refine hv2 (show 0 ≤ ivb4 a0 5 ∧ ivb4 a0 5 ≤ 126 from Wb4.int t_a0 5) (show 0 ≤ ivb4 a0 7 ∧ ivb4 a0 7 ≤ 6 from Wb4.int t_a0 7) (fun ri3 ri4 => ?_)
                        refine c_lv (lv2 := [(3, .int (iI (k2 + 1))), (0, .ref a0), (1, .ref a1), (2, .int (iI g))]) [0, 1, 2, 3] rfl ?_
                        exact ih3  (k2 + 1) _ (by omega) Wb4 Fb4  (by omega) (by show 0 ≤ ivb4 a0 5 ∧ ivb4 a0 5 ≤ (k2 + 1) - 33; omega) h115
                      · refine c_aload_n (j := 1) (x := a0) C dX8_gatherAlphabet_130 rfl ?_
                        obtain ⟨rb4, rq4, trb4⟩ := Wb4.ref t_a0 4 rfl rfl rfl
                        have lnrb4 : 126 ≤ ln rb4 ∧ ln rb4 ≤ 126 := Wb4.len trb4 rfl
                        refine c_getr (k := 4) C ck_9 dX8_gatherAlphabet_131 w1_108 (by decide) t_a0 rfl rfl (by decide) rfl rq4 ?_
                        refine c_st (st2 := [.ref rb4]) rfl ?_
                        refine c_aload_n (j := 1) (x := a0) C dX8_gatherAlphabet_134 rfl ?_
                        have ri5 : 0 ≤ ivb4 a0 5 ∧ ivb4 a0 5 ≤ 126 := Wb4.int t_a0 5
                        refine c_get (k := 5) C ck_9 dX8_gatherAlphabet_135 w1_109 (by decide) t_a0 rfl rfl (by decide) rfl ?_
                        refine c_iload_n (j := 0) C dX8_gatherAlphabet_138 rfl ?_
                        have ll2 : 126 ≤ ln rb4 ∧ ln rb4 ≤ 126 := Wb4.len trb4 rfl
                        refine c_iast (x := k2) C dX8_gatherAlphabet_139 trb4 rfl (by omega) (by omega) (by omega) (fun iv2 pq2 => ?_)
                        refine hv2 (Wb4.puti pq2 trb4 (show (-2147483648) ≤ k2 ∧ k2 ≤ 2147483647 by omega) rfl) (Fb4.puti hX0 pq2 trb4 rfl) (fun W4 F4 => ?_)
                        refine c_aload_n (j := 1) (x := a0) C dX8_gatherAlphabet_140 rfl ?_
                        refine c_dup C dX8_gatherAlphabet_141 rfl ?_
                        refine hv2 (show 0 ≤ iv2 a0 5 ∧ iv2 a0 5 ≤ 126 from W4.int t_a0 5) (show iv2 a0 5 = ivb4 a0 5 from by rw [pq2]; exact up2_k (ne_ty t_a0 trb4 (by decide))) (fun ri6 ie6 => ?_)
                        refine c_get (k := 5) C ck_9 dX8_gatherAlphabet_142 w1_109 (by decide) t_a0 rfl rfl (by decide) rfl ?_
                        refine c_iconst C dX8_gatherAlphabet_145 ?_
                        refine c_iadd C dX8_gatherAlphabet_146 ?_
                        refine c_put (z := (iv2 a0 5) + 1) (k := 5) C ck_9 dX8_gatherAlphabet_147 w1_109 (by decide) rfl t_a0 rfl rfl (by decide) rfl (by rfl) (by rfl) (fun iv3 pq3 => ?_)
                        refine hv2 (W4.puti pq3 t_a0 (show 0 ≤ ((iv2 a0 5) + 1) ∧ ((iv2 a0 5) + 1) ≤ 126 by omega) rfl) (F4.puti hX0 pq3 t_a0 rfl) (fun W5 F5 => ?_)
                        refine c_iinc (z := k2) (j := 0) (lv2 := [(3, .int (iI (k2 + 1))), (0, .ref a0), (1, .ref a1), (2, .int (iI g))]) C dX8_gatherAlphabet_150 rfl (by decide) rfl ?_
                        refine c_goto (tgt := 115) C dX8_gatherAlphabet_153 (by decide) ?_
                        refine hv5 (show 0 ≤ iv3 a0 5 ∧ iv3 a0 5 ≤ 126 from W5.int t_a0 5) (show iv3 a0 5 = (iv2 a0 5) + 1 from by rw [pq3]; exact up2_s) (show 0 ≤ iv3 a0 7 ∧ iv3 a0 7 ≤ 6 from W5.int t_a0 7) (show iv3 a0 7 = iv2 a0 7 from by rw [pq3]; exact up2_j (by decide)) (show iv2 a0 7 = ivb4 a0 7 from by rw [pq2]; exact up2_k (ne_ty t_a0 trb4 (by decide))) (fun ri7 ie7 ri8 ie8 ie9 => ?_)
                        refine c_lv (lv2 := [(3, .int (iI (k2 + 1))), (0, .ref a0), (1, .ref a1), (2, .int (iI g))]) [0, 1, 2, 3] rfl ?_
                        exact ih3  (k2 + 1) _ (by omega) W5 F5  (by omega) (by show 0 ≤ iv3 a0 5 ∧ iv3 a0 5 ≤ (k2 + 1) - 33; omega) (ie8.trans (ie9.trans h115))
                refine hv4 (show 0 ≤ iv1 a0 5 ∧ iv1 a0 5 ≤ 126 from W3.int t_a0 5) (show iv1 a0 5 = 0 from by rw [pq1]; exact up2_s) (show 0 ≤ iv1 a0 7 ∧ iv1 a0 7 ≤ 6 from W3.int t_a0 7) (show iv1 a0 7 = ivb3 a0 7 from by rw [pq1]; exact up2_j (by decide)) (fun ri9 ie11 ri10 ie12 => ?_)
                refine c_lv (lv2 := [(3, .int (iI 33)), (0, .ref a0), (1, .ref a1), (2, .int (iI g))]) [0, 1, 2, 3] rfl ?_
                exact Lp3 130 33 _ (by omega) W3 F3  (by omega) (by show 0 ≤ iv1 a0 5 ∧ iv1 a0 5 ≤ 33 - 33; omega) (ie12.trans h60)
              · refine c_aload_n (j := 1) (x := a0) C dX8_gatherAlphabet_66 rfl ?_
                obtain ⟨rb5, rq5, trb5⟩ := Wb3.ref t_a0 3 rfl rfl rfl
                have lnrb5 : 126 ≤ ln rb5 ∧ ln rb5 ≤ 126 := Wb3.len trb5 rfl
                refine c_getr (k := 3) C ck_9 dX8_gatherAlphabet_67 w1_107 (by decide) t_a0 rfl rfl (by decide) rfl rq5 ?_
                refine c_st (st2 := [.ref rb5]) rfl ?_
                refine c_iload_n (j := 0) C dX8_gatherAlphabet_70 rfl ?_
                refine c_bipush (z := 32) C dX8_gatherAlphabet_71 (by decide) ?_
                refine c_isub C dX8_gatherAlphabet_73 ?_
                refine c_aload_n (j := 1) (x := a0) C dX8_gatherAlphabet_74 rfl ?_
                refine c_getr (k := 3) C ck_9 dX8_gatherAlphabet_75 w1_107 (by decide) t_a0 rfl rfl (by decide) rfl rq5 ?_
                refine c_st (st2 := [.ref rb5, .int (iI (k1 - 32)), .ref rb5]) rfl ?_
                refine c_iload_n (j := 0) C dX8_gatherAlphabet_78 rfl ?_
                refine c_bipush (z := 32) C dX8_gatherAlphabet_79 (by decide) ?_
                refine c_isub C dX8_gatherAlphabet_81 ?_
                have ll3 : 126 ≤ ln rb5 ∧ ln rb5 ≤ 126 := Wb3.len trb5 rfl
                refine c_zald C dX8_gatherAlphabet_82 trb5 rfl (by omega) (by omega) (by omega) ?_
                have ri11 : 0 ≤ ivb3 rb5 ((k1 - 32).toNat) ∧ ivb3 rb5 ((k1 - 32).toNat) ≤ 1 := Wb3.int trb5 ((k1 - 32).toNat)
                refine c_if_ne (tgt := 95) C ⟨by omega, by omega⟩ dX8_gatherAlphabet_83 (by decide) (fun c5 => ?_) (fun c5 => ?_)
                · refine c_iconst C dX8_gatherAlphabet_95 ?_
                  refine c_goto (tgt := 100) C dX8_gatherAlphabet_96 (by decide) ?_
                  refine c_zast (x := 1) C dX8_gatherAlphabet_100 trb5 rfl (by omega) (by omega) (by omega) (by omega) (fun iv4 pq4 => ?_)
                  refine hv2 (Wb3.puti pq4 trb5 (show 0 ≤ 1 ∧ 1 ≤ 1 by omega) rfl) (Fb3.puti hX0 pq4 trb5 rfl) (fun W6 F6 => ?_)
                  refine c_iinc (z := k1) (j := 0) (lv2 := [(3, .int (iI (k1 + 1))), (0, .ref a0), (1, .ref a1), (2, .int (iI g))]) C dX8_gatherAlphabet_101 rfl (by decide) rfl ?_
                  refine c_goto (tgt := 60) C dX8_gatherAlphabet_104 (by decide) ?_
                  refine hv2 (show 0 ≤ iv4 a0 7 ∧ iv4 a0 7 ≤ 6 from W6.int t_a0 7) (show iv4 a0 7 = ivb3 a0 7 from by rw [pq4]; exact up2_k (ne_ty t_a0 trb5 (by decide))) (fun ri12 ie15 => ?_)
                  refine c_lv (lv2 := [(3, .int (iI (k1 + 1))), (0, .ref a0), (1, .ref a1), (2, .int (iI g))]) [0, 1, 2, 3] rfl ?_
                  exact ih2  (k1 + 1) _ (by omega) W6 F6  (by omega) (ie15.trans h60)
                · refine c_aload_n (j := 1) (x := a0) C dX8_gatherAlphabet_86 rfl ?_
                  refine c_getr (k := 3) C ck_9 dX8_gatherAlphabet_87 w1_107 (by decide) t_a0 rfl rfl (by decide) rfl rq5 ?_
                  refine c_st (st2 := [.ref rb5, .int (iI (k1 - 32)), .ref rb5]) rfl ?_
                  refine c_iload_n (j := 0) C dX8_gatherAlphabet_90 rfl ?_
                  refine c_zald C dX8_gatherAlphabet_91 trb5 rfl (by omega) (by omega) (by omega) ?_
                  have ri13 : 0 ≤ ivb3 rb5 k1.toNat ∧ ivb3 rb5 k1.toNat ≤ 1 := Wb3.int trb5 k1.toNat
                  refine c_if_eq (tgt := 99) C (r32_c (lo := 0) (hi := 1) ri13.1 ri13.2 (by decide) (by decide)) dX8_gatherAlphabet_92 (by decide) (fun c6 => ?_) (fun c6 => ?_)
                  · refine c_iconst C dX8_gatherAlphabet_99 ?_
                    refine c_zast (x := 0) C dX8_gatherAlphabet_100 trb5 rfl (by omega) (by omega) (by omega) (by omega) (fun iv5 pq5 => ?_)
                    refine hv2 (Wb3.puti pq5 trb5 (show 0 ≤ 0 ∧ 0 ≤ 1 by omega) rfl) (Fb3.puti hX0 pq5 trb5 rfl) (fun W7 F7 => ?_)
                    refine c_iinc (z := k1) (j := 0) (lv2 := [(3, .int (iI (k1 + 1))), (0, .ref a0), (1, .ref a1), (2, .int (iI g))]) C dX8_gatherAlphabet_101 rfl (by decide) rfl ?_
                    refine c_goto (tgt := 60) C dX8_gatherAlphabet_104 (by decide) ?_
                    refine hv2 (show 0 ≤ iv5 a0 7 ∧ iv5 a0 7 ≤ 6 from W7.int t_a0 7) (show iv5 a0 7 = ivb3 a0 7 from by rw [pq5]; exact up2_k (ne_ty t_a0 trb5 (by decide))) (fun ri14 ie18 => ?_)
                    refine c_lv (lv2 := [(3, .int (iI (k1 + 1))), (0, .ref a0), (1, .ref a1), (2, .int (iI g))]) [0, 1, 2, 3] rfl ?_
                    exact ih2  (k1 + 1) _ (by omega) W7 F7  (by omega) (ie18.trans h60)
                  · refine c_iconst C dX8_gatherAlphabet_95 ?_
                    refine c_goto (tgt := 100) C dX8_gatherAlphabet_96 (by decide) ?_
                    refine c_zast (x := 1) C dX8_gatherAlphabet_100 trb5 rfl (by omega) (by omega) (by omega) (by omega) (fun iv6 pq6 => ?_)
                    refine hv2 (Wb3.puti pq6 trb5 (show 0 ≤ 1 ∧ 1 ≤ 1 by omega) rfl) (Fb3.puti hX0 pq6 trb5 rfl) (fun W8 F8 => ?_)
                    refine c_iinc (z := k1) (j := 0) (lv2 := [(3, .int (iI (k1 + 1))), (0, .ref a0), (1, .ref a1), (2, .int (iI g))]) C dX8_gatherAlphabet_101 rfl (by decide) rfl ?_
                    refine c_goto (tgt := 60) C dX8_gatherAlphabet_104 (by decide) ?_
                    refine hv2 (show 0 ≤ iv6 a0 7 ∧ iv6 a0 7 ≤ 6 from W8.int t_a0 7) (show iv6 a0 7 = ivb3 a0 7 from by rw [pq6]; exact up2_k (ne_ty t_a0 trb5 (by decide))) (fun ri15 ie20 => ?_)
                    refine c_lv (lv2 := [(3, .int (iI (k1 + 1))), (0, .ref a0), (1, .ref a1), (2, .int (iI g))]) [0, 1, 2, 3] rfl ?_
                    exact ih2  (k1 + 1) _ (by omega) W8 F8  (by omega) (ie20.trans h60)
          have ri16 : 0 ≤ ivb2 a0 7 ∧ ivb2 a0 7 ≤ 6 := Wb2.int t_a0 7
          refine c_lv (lv2 := [(3, .int (iI 97)), (0, .ref a0), (1, .ref a1), (2, .int (iI g))]) [0, 1, 2, 3] rfl ?_
          exact Lp2 130 97 _ (by omega) Wb2 Fb2  (by omega) h57
        refine c_iload_n (j := 3) C dX8_gatherAlphabet_37 rfl ?_
        refine c_if_eq (tgt := 57) C ⟨by omega, by omega⟩ dX8_gatherAlphabet_38 (by decide) (fun c7 => ?_) (fun c7 => ?_)
        · have ri17 : 0 ≤ ivh3 a0 7 ∧ ivh3 a0 7 ≤ 6 := W2.int t_a0 7
          refine hv2 (show ivh3 a0 7 = ivh1 a0 7 from fl2.i t_a0 rfl 7) (show ivh1 a0 7 = ivb1 a0 7 from fl1.i t_a0 rfl 7) (fun ie23 ie24 => ?_)
          refine c_lv (lv2 := [(0, .ref a0), (1, .ref a1), (2, .int (iI g))]) [1, 2, 3] rfl ?_
          exact J1   _  W2 F2  (ie23.trans (ie24.trans h2))
        · refine c_aload_n (j := 1) (x := a0) C dX8_gatherAlphabet_41 rfl ?_
          obtain ⟨rb6, rq6, trb6⟩ := W2.ref t_a0 3 rfl rfl rfl
          have lnrb6 : 126 ≤ ln rb6 ∧ ln rb6 ≤ 126 := W2.len trb6 rfl
          refine c_getr (k := 3) C ck_9 dX8_gatherAlphabet_42 w1_107 (by decide) t_a0 rfl rfl (by decide) rfl rq6 ?_
          refine c_st (st2 := [.ref rb6]) rfl ?_
          refine c_bipush (z := 60) C dX8_gatherAlphabet_45 (by decide) ?_
          refine c_iconst C dX8_gatherAlphabet_47 ?_
          have ll4 : 126 ≤ ln rb6 ∧ ln rb6 ≤ 126 := W2.len trb6 rfl
          refine c_zast (x := 1) C dX8_gatherAlphabet_48 trb6 rfl (by omega) (by omega) (by omega) (by omega) (fun iv7 pq7 => ?_)
          refine hv2 (W2.puti pq7 trb6 (show 0 ≤ 1 ∧ 1 ≤ 1 by omega) rfl) (F2.puti hX0 pq7 trb6 rfl) (fun W9 F9 => ?_)
          refine c_aload_n (j := 1) (x := a0) C dX8_gatherAlphabet_49 rfl ?_
          refine c_getr (k := 3) C ck_9 dX8_gatherAlphabet_50 w1_107 (by decide) t_a0 rfl rfl (by decide) rfl rq6 ?_
          refine c_st (st2 := [.ref rb6]) rfl ?_
          refine c_bipush (z := 62) C dX8_gatherAlphabet_53 (by decide) ?_
          refine c_iconst C dX8_gatherAlphabet_55 ?_
          refine c_zast (x := 1) C dX8_gatherAlphabet_56 trb6 rfl (by omega) (by omega) (by omega) (by omega) (fun iv8 pq8 => ?_)
          refine hv6 (W9.puti pq8 trb6 (show 0 ≤ 1 ∧ 1 ≤ 1 by omega) rfl) (F9.puti hX0 pq8 trb6 rfl) (show iv8 a0 7 = iv7 a0 7 from by rw [pq8]; exact up2_k (ne_ty t_a0 trb6 (by decide))) (show iv7 a0 7 = ivh3 a0 7 from by rw [pq7]; exact up2_k (ne_ty t_a0 trb6 (by decide))) (show ivh3 a0 7 = ivh1 a0 7 from fl2.i t_a0 rfl 7) (show ivh1 a0 7 = ivb1 a0 7 from fl1.i t_a0 rfl 7) (fun W10 F10 ie26 ie27 ie28 ie29 => ?_)
          have ri18 : 0 ≤ iv8 a0 7 ∧ iv8 a0 7 ≤ 6 := W10.int t_a0 7
          refine c_lv (lv2 := [(0, .ref a0), (1, .ref a1), (2, .int (iI g))]) [1, 2, 3] rfl ?_
          exact J1   _  W10 F10  (ie26.trans (ie27.trans (ie28.trans (ie29.trans h2))))
      · refine c_aload_n (j := 1) (x := a0) C dX8_gatherAlphabet_8 rfl ?_
        obtain ⟨rb7, rq7, trb7⟩ := Wb1.ref t_a0 3 rfl rfl rfl
        have lnrb7 : 126 ≤ ln rb7 ∧ ln rb7 ≤ 126 := Wb1.len trb7 rfl
        refine c_getr (k := 3) C ck_9 dX8_gatherAlphabet_9 w1_107 (by decide) t_a0 rfl rfl (by decide) rfl rq7 ?_
        refine c_st (st2 := [.ref rb7]) rfl ?_
        refine c_iload_n (j := 0) C dX8_gatherAlphabet_12 rfl ?_
        refine c_iconst C dX8_gatherAlphabet_13 ?_
        have ll5 : 126 ≤ ln rb7 ∧ ln rb7 ≤ 126 := Wb1.len trb7 rfl
        refine c_zast (x := 0) C dX8_gatherAlphabet_14 trb7 rfl (by omega) (by omega) (by omega) (by omega) (fun iv9 pq9 => ?_)
        refine hv2 (Wb1.puti pq9 trb7 (show 0 ≤ 0 ∧ 0 ≤ 1 by omega) rfl) (Fb1.puti hX0 pq9 trb7 rfl) (fun W11 F11 => ?_)
        refine c_iinc (z := k) (j := 0) (lv2 := [(3, .int (iI (k + 1))), (0, .ref a0), (1, .ref a1), (2, .int (iI g))]) C dX8_gatherAlphabet_15 rfl (by decide) rfl ?_
        refine c_goto (tgt := 2) C dX8_gatherAlphabet_18 (by decide) ?_
        refine hv2 (show 0 ≤ iv9 a0 7 ∧ iv9 a0 7 ≤ 6 from W11.int t_a0 7) (show iv9 a0 7 = ivb1 a0 7 from by rw [pq9]; exact up2_k (ne_ty t_a0 trb7 (by decide))) (fun ri19 ie31 => ?_)
        refine c_lv (lv2 := [(3, .int (iI (k + 1))), (0, .ref a0), (1, .ref a1), (2, .int (iI g))]) [0, 1, 2, 3] rfl ?_
        exact ih1  (k + 1) _ (by omega) W11 F11  (by omega) (ie31.trans h2)
  have ri20 : 0 ≤ iv a0 7 ∧ iv a0 7 ≤ 6 := hW.int t_a0 7
  refine c_lv (lv2 := [(3, .int (iI 0)), (0, .ref a0), (1, .ref a1), (2, .int (iI g))]) [0, 1, 2, 3] rfl ?_
  exact Lp1 130 0 _ (by omega) hW hF0  (by omega) rfl
set_option maxHeartbeats 4000000 in
set_option maxRecDepth 100000 in
theorem C_fill {l : Launch} {G : GT} {mi : Nat} {sk : Nat → Nat} {L : List Nat} {cl ln : Nat → Nat} {iv : Nat → Nat → Int} {rv : Nat → Nat → Option Nat}  {a0 : Nat} {x : Int} (hW : WT (g0 G) sk L cl ln iv rv) (hS : SKL sk L cl) (t_a0 : ty L cl a0 58) (h_x : -2147483648 ≤ x ∧ x ≤ 2147483647) (hx : x = 0) : Mc l G mi (Phi (g0 G) sk) PHM yJ7_fill_53178 cJ7_fill_53178 4 none 0 [.ref a0, .int (iI x)] L cl ln iv rv 0 (fun v L2 cl2 ln2 iv2 rv2 => v = none ∧ L = L2 ∧ cl = cl2 ∧ ln = ln2 ∧ rv = rv2 ∧ fT [58] L cl iv rv iv2 rv2 ∧ WT (g0 G) sk L2 cl2 ln2 iv2 rv2 ∧ (True)) := by
  refine Mc.mk (by decide) (Nat.le_of_ble_eq_true rfl) ?_
  intro p e s m args below meth c A C hM
  refine hv3 (Phi.le hW hS) (show XT L cl ln L cl ln from XT.refl) (show fT [58] L cl iv rv iv rv from fT.refl) (fun hph hX0 hF0 => ?_)
  refine c_iconst C dJ7_fill_53178_0 ?_
  refine c_istore_n (lv2 := [(2, .int (iI 0)), (0, .ref a0), (1, .int (iI x))]) C dJ7_fill_53178_1 (by decide) rfl ?_
  refine c_aload_n (j := 1) (x := a0) C dJ7_fill_53178_2 rfl ?_
  have ll1 : 6 ≤ ln a0 ∧ ln a0 ≤ 6 := hW.len t_a0 rfl
  refine c_alenI C dJ7_fill_53178_3 t_a0 rfl ?_
  refine c_istore_n (lv2 := [(3, .int (iI ((ln a0 : Nat) : Int))), (2, .int (iI 0)), (0, .ref a0), (1, .int (iI x))]) C dJ7_fill_53178_4 (by decide) rfl ?_
  have Lp1 : ∀ (nn : Nat) (k : Int) (ivb1 : Nat → Nat → Int) , 7 - k < (nn : Int) → WT (g0 G) sk L cl ln ivb1 rv → fT [58] L cl iv rv ivb1 rv → (0 ≤ k ∧ k ≤ 6) → cw p l e 0 ((PHM) + 0 - ((Phi (g0 G) sk) ln rv)) s m args below meth c G A 4 (MQ below (Qu G A (Qp G (Phi (g0 G) sk) ((Phi (g0 G) sk) ln rv) 0 (fun v L2 cl2 ln2 iv2 rv2 => v = none ∧ L = L2 ∧ cl = cl2 ∧ ln = ln2 ∧ rv = rv2 ∧ fT [58] L cl iv rv iv2 rv2 ∧ WT (g0 G) sk L2 cl2 ln2 iv2 rv2 ∧ (True)))) args s (((PHM) + 0 - ((Phi (g0 G) sk) ln rv)) / 16) ((PHM) + 0 - ((Phi (g0 G) sk) ln rv)) A) (Phi (g0 G) sk) ((Phi (g0 G) sk) ln rv) L cl ln ivb1 rv 0 5 [(2, .int (iI k)), (3, .int (iI ((ln a0 : Nat) : Int))), (0, .ref a0), (1, .int (iI x))] [] := by
    intro nn
    induction nn with
    | zero =>
      intro  k ivb1 hm Wb1 Fb1  hk
      exact absurd hm (by omega)
    | succ nn ih1 =>
      intro  k ivb1 hm Wb1 Fb1  hk
      refine c_iload_n (j := 0) C dJ7_fill_53178_5 rfl ?_
      refine c_iload_n (j := 1) C dJ7_fill_53178_6 rfl ?_
      refine c_icmp_ge (tgt := 20) C (r32_c (lo := 0) (hi := 6) hk.1 hk.2 (by decide) (by decide)) ⟨by omega, by omega⟩ dJ7_fill_53178_7 (by decide) (fun c1 => ?_) (fun c1 => ?_)
      · exact c_vret C dJ7_fill_53178_20 rfl (by decide) (rom0 hph hph (by decide)) ⟨rfl, rfl, rfl, rfl, rfl, Fb1, Wb1, trivial⟩
      · refine c_aload_n (j := 2) (x := a0) C dJ7_fill_53178_10 rfl ?_
        refine c_iload_n (j := 0) C dJ7_fill_53178_11 rfl ?_
        refine c_iload_n (j := 3) C dJ7_fill_53178_12 rfl ?_
        refine c_iast (x := x) C dJ7_fill_53178_13 t_a0 rfl (by omega) (by omega) (by omega) (fun iv1 pq1 => ?_)
        refine hv2 (Wb1.puti pq1 t_a0 (show 0 ≤ x ∧ x ≤ 125 by omega) rfl) (Fb1.puti hX0 pq1 t_a0 rfl) (fun W1 F1 => ?_)
        refine c_iinc (z := k) (j := 0) (lv2 := [(2, .int (iI (k + 1))), (3, .int (iI ((ln a0 : Nat) : Int))), (0, .ref a0), (1, .int (iI x))]) C dJ7_fill_53178_14 rfl (by decide) rfl ?_
        refine c_goto (tgt := 5) C dJ7_fill_53178_17 (by decide) ?_
        refine c_lv (lv2 := [(2, .int (iI (k + 1))), (3, .int (iI ((ln a0 : Nat) : Int))), (0, .ref a0), (1, .int (iI x))]) [0, 1, 2, 3] rfl ?_
        exact ih1  (k + 1) _ (by omega) W1 F1  (by omega)
  refine c_lv (lv2 := [(2, .int (iI 0)), (3, .int (iI ((ln a0 : Nat) : Int))), (0, .ref a0), (1, .int (iI x))]) [1, 0, 2, 3] rfl ?_
  exact Lp1 8 0 _ (by omega) hW hF0  (by omega)
set_option maxHeartbeats 4000000 in
set_option maxRecDepth 100000 in
theorem C_lengthen {l : Launch} {G : GT} {mi : Nat} {sk : Nat → Nat} {L : List Nat} {cl ln : Nat → Nat} {iv : Nat → Nat → Int} {rv : Nat → Nat → Option Nat}  {a0 : Nat} {n : Int} (hW : WT (g0 G) sk L cl ln iv rv) (hS : SKL sk L cl) (t_a0 : ty L cl a0 14) (h_n : -2147483648 ≤ n ∧ n ≤ 2147483647)  : Mc l G mi (Phi (g0 G) sk) PHM yX8_lengthen cX8_lengthen 2 (some .boolean) 1 [.ref a0, .int (iI n)] L cl ln iv rv 0 (fun v L2 cl2 ln2 iv2 rv2 => ∃ f : Int, v = some (.int (iI f)) ∧ L = L2 ∧ cl = cl2 ∧ ln = ln2 ∧ rv = rv2 ∧ fT [14, 58] L cl iv rv iv2 rv2 ∧ WT (g0 G) sk L2 cl2 ln2 iv2 rv2 ∧ (f = 0 ∨ f = 1) ∧ (iv2 a0 5 = iv a0 5)) := by
  refine Mc.mk (by decide) (Nat.le_of_ble_eq_true rfl) ?_
  intro p e s m args below meth c A C hM
  refine hv3 (Phi.le hW hS) (show XT L cl ln L cl ln from XT.refl) (show fT [14, 58] L cl iv rv iv rv from fT.refl) (fun hph hX0 hF0 => ?_)
  refine c_aload_n (j := 0) (x := a0) C dX8_lengthen_0 rfl ?_
  have ri1 : 0 ≤ iv a0 7 ∧ iv a0 7 ≤ 6 := hW.int t_a0 7
  refine c_get (k := 7) C ck_9 dX8_lengthen_1 w1_111 (by decide) t_a0 rfl rfl (by decide) rfl ?_
  refine c_iload_n (j := 1) C dX8_lengthen_4 rfl ?_
  refine c_icmp_ge (tgt := 17) C (r32_c (lo := 0) (hi := 6) ri1.1 ri1.2 (by decide) (by decide)) ⟨by omega, by omega⟩ dX8_lengthen_5 (by decide) (fun c1 => ?_) (fun c1 => ?_)
  · refine c_iconst C dX8_lengthen_17 ?_
    have ri2 : 0 ≤ iv a0 5 ∧ iv a0 5 ≤ 126 := hW.int t_a0 5
    exact c_zret C dX8_lengthen_18 rfl (Or.inl rfl) (by decide) (rom0 hph hph (by decide)) ⟨0, rfl, rfl, rfl, rfl, rfl, hF0, hW, (Or.inl rfl), (by omega)⟩
  · refine c_aload_n (j := 0) (x := a0) C dX8_lengthen_8 rfl ?_
    refine c_get (k := 7) C ck_9 dX8_lengthen_9 w1_111 (by decide) t_a0 rfl rfl (by decide) rfl ?_
    refine c_bipush (z := 6) C dX8_lengthen_12 (by decide) ?_
    refine c_icmp_lt (tgt := 19) C (r32_c (lo := 0) (hi := 6) ri1.1 ri1.2 (by decide) (by decide)) ⟨by decide, by decide⟩ dX8_lengthen_14 (by decide) (fun c2 => ?_) (fun c2 => ?_)
    · refine c_aload_n (j := 0) (x := a0) C dX8_lengthen_19 rfl ?_
      refine c_dup C dX8_lengthen_20 rfl ?_
      refine c_get (k := 7) C ck_9 dX8_lengthen_21 w1_111 (by decide) t_a0 rfl rfl (by decide) rfl ?_
      refine c_iconst C dX8_lengthen_24 ?_
      refine c_iadd C dX8_lengthen_25 ?_
      refine c_put (z := (iv a0 7) + 1) (k := 7) C ck_9 dX8_lengthen_26 w1_111 (by decide) rfl t_a0 rfl rfl (by decide) rfl (by rfl) (by rfl) (fun iv1 pq1 => ?_)
      refine hv2 (hW.puti pq1 t_a0 (show 0 ≤ ((iv a0 7) + 1) ∧ ((iv a0 7) + 1) ≤ 6 by omega) rfl) (hF0.puti hX0 pq1 t_a0 rfl) (fun W1 F1 => ?_)
      refine c_aload_n (j := 0) (x := a0) C dX8_lengthen_29 rfl ?_
      obtain ⟨rb1, rq1, trb1⟩ := W1.ref t_a0 6 rfl rfl rfl
      have lnrb1 : 6 ≤ ln rb1 ∧ ln rb1 ≤ 6 := W1.len trb1 rfl
      refine c_getr (k := 6) C ck_9 dX8_lengthen_30 w1_110 (by decide) t_a0 rfl rfl (by decide) rfl rq1 ?_
      refine c_st (st2 := [.ref rb1]) rfl ?_
      refine c_iconst C dX8_lengthen_33 ?_
      refine d_callS (As := [.ref rb1, .int (iI 0)]) (rest := []) C hM (C_fill (a0 := rb1) (x := 0) W1 hS trb1 ⟨by decide, by decide⟩ (by show (0 : Int) = 0; omega)) dX8_lengthen_34 kS_X8_95 rfl rfl (Nat.le_of_ble_eq_true rfl) ⟨(Nat.le_of_ble_eq_true rfl), (Nat.le_of_ble_eq_true rfl)⟩ hph hph (show 0 + 0 = 0 from rfl) (by decide) (fun rh1 Lh1 clh1 lnh1 ivh1 rvh1 h1 => ?_)
      obtain ⟨rfl, rfl, rfl, rfl, rfl, fl1, W2, exf1⟩ := h1
      have F2 := F1.call hX0 fl1 rfl
      refine c_st (st2 := []) rfl ?_
      refine c_iconst C dX8_lengthen_37 ?_
      refine hv3 (show 0 ≤ ivh1 a0 5 ∧ ivh1 a0 5 ≤ 126 from W2.int t_a0 5) (show ivh1 a0 5 = iv1 a0 5 from fl1.i t_a0 rfl 5) (show iv1 a0 5 = iv a0 5 from by rw [pq1]; exact up2_j (by decide)) (fun ri3 ie1 ie2 => ?_)
      exact c_zret C dX8_lengthen_38 rfl (Or.inr rfl) (by decide) (rom0 hph hph (by decide)) ⟨1, rfl, rfl, rfl, rfl, rfl, F2, W2, (Or.inr rfl), (by omega)⟩
    · refine c_iconst C dX8_lengthen_17 ?_
      have ri4 : 0 ≤ iv a0 5 ∧ iv a0 5 ≤ 126 := hW.int t_a0 5
      exact c_zret C dX8_lengthen_18 rfl (Or.inl rfl) (by decide) (rom0 hph hph (by decide)) ⟨0, rfl, rfl, rfl, rfl, rfl, hF0, hW, (Or.inl rfl), (by omega)⟩
set_option maxHeartbeats 4000000 in
set_option maxRecDepth 100000 in
theorem C_startSpelling {l : Launch} {G : GT} {mi : Nat} {sk : Nat → Nat} {L : List Nat} {cl ln : Nat → Nat} {iv : Nat → Nat → Int} {rv : Nat → Nat → Option Nat}  {a0 : Nat} {n : Int} (hW : WT (g0 G) sk L cl ln iv rv) (hS : SKL sk L cl) (t_a0 : ty L cl a0 14) (h_n : -2147483648 ≤ n ∧ n ≤ 2147483647)  : Mc l G mi (Phi (g0 G) sk) PHM yX8_startSpelling cX8_startSpelling 2 (some .boolean) 2 [.ref a0, .int (iI n)] L cl ln iv rv 0 (fun v L2 cl2 ln2 iv2 rv2 => ∃ f : Int, v = some (.int (iI f)) ∧ L = L2 ∧ cl = cl2 ∧ ln = ln2 ∧ rv = rv2 ∧ fT [14, 58] L cl iv rv iv2 rv2 ∧ WT (g0 G) sk L2 cl2 ln2 iv2 rv2 ∧ (f = 0 ∨ f = 1) ∧ (True)) := by
  refine Mc.mk (by decide) (Nat.le_of_ble_eq_true rfl) ?_
  intro p e s m args below meth c A C hM
  refine hv3 (Phi.le hW hS) (show XT L cl ln L cl ln from XT.refl) (show fT [14, 58] L cl iv rv iv rv from fT.refl) (fun hph hX0 hF0 => ?_)
  refine c_aload_n (j := 0) (x := a0) C dX8_startSpelling_0 rfl ?_
  refine c_iconst C dX8_startSpelling_1 ?_
  refine c_put (z := 0) (k := 7) C ck_9 dX8_startSpelling_2 w1_111 (by decide) rfl t_a0 rfl rfl (by decide) rfl (by rfl) (by rfl) (fun iv1 pq1 => ?_)
  refine hv2 (hW.puti pq1 t_a0 ⟨by decide, by decide⟩ rfl) (hF0.puti hX0 pq1 t_a0 rfl) (fun W1 F1 => ?_)
  refine c_aload_n (j := 0) (x := a0) C dX8_startSpelling_5 rfl ?_
  refine hv2 (show 0 ≤ iv1 a0 5 ∧ iv1 a0 5 ≤ 126 from W1.int t_a0 5) (show iv1 a0 5 = iv a0 5 from by rw [pq1]; exact up2_j (by decide)) (fun ri1 ie1 => ?_)
  refine c_get (k := 5) C ck_9 dX8_startSpelling_6 w1_109 (by decide) t_a0 rfl rfl (by decide) rfl ?_
  refine c_if_le (tgt := 24) C (r32_c (lo := 0) (hi := 126) ri1.1 ri1.2 (by decide) (by decide)) dX8_startSpelling_9 (by decide) (fun c1 => ?_) (fun c1 => ?_)
  · refine c_iconst C dX8_startSpelling_24 ?_
    exact c_zret C dX8_startSpelling_25 rfl (Or.inl rfl) (by decide) (rom0 hph hph (by decide)) ⟨0, rfl, rfl, rfl, rfl, rfl, F1, W1, (Or.inl rfl), trivial⟩
  · refine c_aload_n (j := 0) (x := a0) C dX8_startSpelling_12 rfl ?_
    refine c_iload_n (j := 1) C dX8_startSpelling_13 rfl ?_
    refine d_callV (As := [.int (iI n)]) (rest := []) C hM (C_lengthen (a0 := a0) (n := n) W1 hS t_a0 (by omega) ) dX8_startSpelling_14 kV_X8_91 rfl t_a0 rfl rfl (by decide) ck_9 rfl (Nat.le_of_ble_eq_true rfl) ⟨(Nat.le_of_ble_eq_true rfl), (Nat.le_of_ble_eq_true rfl)⟩ hph hph (show 0 + 0 = 0 from rfl) (by decide) (fun rh1 Lh1 clh1 lnh1 ivh1 rvh1 h1 => ?_)
    obtain ⟨f1, rfl, rfl, rfl, rfl, rfl, fl1, W2, rgf1, exf1⟩ := h1
    have F2 := F1.call hX0 fl1 rfl
    refine c_st (st2 := [.int (iI f1)]) rfl ?_
    refine hv2 (show 0 ≤ ivh1 a0 5 ∧ ivh1 a0 5 ≤ 126 from W2.int t_a0 5) (show ivh1 a0 5 = iv1 a0 5 from exf1) (fun ri2 gf1 => ?_)
    refine c_if_eq (tgt := 24) C ⟨by omega, by omega⟩ dX8_startSpelling_17 (by decide) (fun c2 => ?_) (fun c2 => ?_)
    · refine c_iconst C dX8_startSpelling_24 ?_
      exact c_zret C dX8_startSpelling_25 rfl (Or.inl rfl) (by decide) (rom0 hph hph (by decide)) ⟨0, rfl, rfl, rfl, rfl, rfl, F2, W2, (Or.inl rfl), trivial⟩
    · refine c_iconst C dX8_startSpelling_20 ?_
      refine c_goto (tgt := 25) C dX8_startSpelling_21 (by decide) ?_
      exact c_zret C dX8_startSpelling_25 rfl (Or.inr rfl) (by decide) (rom0 hph hph (by decide)) ⟨1, rfl, rfl, rfl, rfl, rfl, F2, W2, (Or.inr rfl), trivial⟩
set_option maxHeartbeats 4000000 in
set_option maxRecDepth 100000 in
theorem C_spell {l : Launch} {G : GT} {mi : Nat} {sk : Nat → Nat} {L : List Nat} {cl ln : Nat → Nat} {iv : Nat → Nat → Int} {rv : Nat → Nat → Option Nat}  {a0 : Nat} {a1 : Nat} (hW : WT (g0 G) sk L cl ln iv rv) (hS : SKL sk L cl) (t_a0 : ty L cl a0 14) (t_a1 : ty L cl a1 15)  : Mc l G mi (Phi (g0 G) sk) PHM yX8_spell cX8_spell 3 none 1 [.ref a0, .ref a1] L cl ln iv rv 0 (fun v L2 cl2 ln2 iv2 rv2 => v = none ∧ L = L2 ∧ cl = cl2 ∧ ln = ln2 ∧ rv = rv2 ∧ fT [15, 50, 51, 52] L cl iv rv iv2 rv2 ∧ WT (g0 G) sk L2 cl2 ln2 iv2 rv2 ∧ (True)) := by
  refine Mc.mk (by decide) (Nat.le_of_ble_eq_true rfl) ?_
  intro p e s m args below meth c A C hM
  refine hv3 (Phi.le hW hS) (show XT L cl ln L cl ln from XT.refl) (show fT [15, 50, 51, 52] L cl iv rv iv rv from fT.refl) (fun hph hX0 hF0 => ?_)
  refine c_aload_n (j := 1) (x := a1) C dX8_spell_0 rfl ?_
  refine d_callV (As := []) (rest := []) C hM (C_wclear (a0 := a1) hW hS t_a1  ) dX8_spell_1 kV_X8_43 rfl t_a1 rfl rfl (by decide) ck_7 rfl (Nat.le_of_ble_eq_true rfl) ⟨(Nat.le_of_ble_eq_true rfl), (Nat.le_of_ble_eq_true rfl)⟩ hph hph (show 0 + 0 = 0 from rfl) (by decide) (fun rh1 Lh1 clh1 lnh1 ivh1 rvh1 h1 => ?_)
  obtain ⟨rfl, rfl, rfl, rfl, rfl, fl1, W1, exf1⟩ := h1
  have F1 := hF0.call hX0 fl1 rfl
  refine c_st (st2 := []) rfl ?_
  refine c_iconst C dX8_spell_4 ?_
  refine c_istore_n (lv2 := [(2, .int (iI 0)), (0, .ref a0), (1, .ref a1)]) C dX8_spell_5 (by decide) rfl ?_
  have Lp1 : ∀ (nn : Nat) (k : Int) (ivb1 : Nat → Nat → Int) , 7 - k < (nn : Int) → WT (g0 G) sk L cl ln ivb1 rv → fT [15, 50, 51, 52] L cl iv rv ivb1 rv → (0 ≤ k ∧ k ≤ 6) → cw p l e 1 ((PHM) + 0 - ((Phi (g0 G) sk) ln rv)) s m args below meth c G A 3 (MQ below (Qu G A (Qp G (Phi (g0 G) sk) ((Phi (g0 G) sk) ln rv) 0 (fun v L2 cl2 ln2 iv2 rv2 => v = none ∧ L = L2 ∧ cl = cl2 ∧ ln = ln2 ∧ rv = rv2 ∧ fT [15, 50, 51, 52] L cl iv rv iv2 rv2 ∧ WT (g0 G) sk L2 cl2 ln2 iv2 rv2 ∧ (True)))) args s (((PHM) + 0 - ((Phi (g0 G) sk) ln rv)) / 16) ((PHM) + 0 - ((Phi (g0 G) sk) ln rv)) A) (Phi (g0 G) sk) ((Phi (g0 G) sk) ln rv) L cl ln ivb1 rv 0 6 [(2, .int (iI k)), (0, .ref a0), (1, .ref a1)] [] := by
    intro nn
    induction nn with
    | zero =>
      intro  k ivb1 hm Wb1 Fb1  hk
      exact absurd hm (by omega)
    | succ nn ih1 =>
      intro  k ivb1 hm Wb1 Fb1  hk
      refine c_iload_n (j := 0) C dX8_spell_6 rfl ?_
      refine c_aload_n (j := 1) (x := a0) C dX8_spell_7 rfl ?_
      refine hv2 (show 0 ≤ ivb1 a0 7 ∧ ivb1 a0 7 ≤ 6 from Wb1.int t_a0 7) (show ivb1 a0 7 = iv a0 7 from Fb1.i t_a0 rfl 7) (fun ri1 ie1 => ?_)
      refine c_get (k := 7) C ck_9 dX8_spell_8 w1_111 (by decide) t_a0 rfl rfl (by decide) rfl ?_
      refine c_icmp_ge (tgt := 36) C (r32_c (lo := 0) (hi := 6) hk.1 hk.2 (by decide) (by decide)) (r32_c (lo := 0) (hi := 6) ri1.1 ri1.2 (by decide) (by decide)) dX8_spell_11 (by decide) (fun c1 => ?_) (fun c1 => ?_)
      · exact c_vret C dX8_spell_36 rfl (by decide) (rom0 hph hph (by decide)) ⟨rfl, rfl, rfl, rfl, rfl, Fb1, Wb1, trivial⟩
      · refine c_aload_n (j := 2) (x := a1) C dX8_spell_14 rfl ?_
        refine c_aload_n (j := 1) (x := a0) C dX8_spell_15 rfl ?_
        obtain ⟨rb1, rq1, trb1⟩ := Wb1.ref t_a0 4 rfl rfl rfl
        have lnrb1 : 126 ≤ ln rb1 ∧ ln rb1 ≤ 126 := Wb1.len trb1 rfl
        refine c_getr (k := 4) C ck_9 dX8_spell_16 w1_108 (by decide) t_a0 rfl rfl (by decide) rfl rq1 ?_
        refine c_st (st2 := [.ref rb1, .ref a1]) rfl ?_
        refine c_aload_n (j := 1) (x := a0) C dX8_spell_19 rfl ?_
        obtain ⟨rb2, rq2, trb2⟩ := Wb1.ref t_a0 6 rfl rfl rfl
        have lnrb2 : 6 ≤ ln rb2 ∧ ln rb2 ≤ 6 := Wb1.len trb2 rfl
        refine c_getr (k := 6) C ck_9 dX8_spell_20 w1_110 (by decide) t_a0 rfl rfl (by decide) rfl rq2 ?_
        refine c_st (st2 := [.ref rb2, .ref rb1, .ref a1]) rfl ?_
        refine c_iload_n (j := 0) C dX8_spell_23 rfl ?_
        have ll1 : 6 ≤ ln rb2 ∧ ln rb2 ≤ 6 := Wb1.len trb2 rfl
        refine c_iald C dX8_spell_24 trb2 rfl (by omega) (by omega) (by omega) ?_
        refine hv3 (show 0 ≤ ivb1 rb2 k.toNat ∧ ivb1 rb2 k.toNat ≤ 125 from Wb1.int trb2 k.toNat) (show ivb1 rb2 k.toNat = iv rb2 k.toNat from Fb1.i trb2 rfl k.toNat) (show 126 ≤ ln rb1 ∧ ln rb1 ≤ 126 from Wb1.len trb1 rfl) (fun ri2 ie2 ll2 => ?_)
        refine c_iald C dX8_spell_25 trb1 rfl (by omega) (by omega) (by omega) ?_
        refine hv2 (show (-2147483648) ≤ ivb1 rb1 ((ivb1 rb2 k.toNat).toNat) ∧ ivb1 rb1 ((ivb1 rb2 k.toNat).toNat) ≤ 2147483647 from Wb1.int trb1 ((ivb1 rb2 k.toNat).toNat)) (show ivb1 rb1 ((ivb1 rb2 k.toNat).toNat) = iv rb1 ((ivb1 rb2 k.toNat).toNat) from Fb1.i trb1 rfl ((ivb1 rb2 k.toNat).toNat)) (fun ri3 ie3 => ?_)
        refine c_iload_n (j := 0) C dX8_spell_26 rfl ?_
        refine d_callV (As := [.int (iI (ivb1 rb1 (ivb1 rb2 k.toNat).toNat)), .int (iI k)]) (rest := []) C hM (C_put (a0 := a1) (x := ivb1 rb1 (ivb1 rb2 k.toNat).toNat) (y := k) Wb1 hS t_a1 (by omega) (by omega) ) dX8_spell_27 kV_X8_60 rfl t_a1 rfl rfl (by decide) ck_7 rfl (Nat.le_of_ble_eq_true rfl) ⟨(Nat.le_of_ble_eq_true rfl), (Nat.le_of_ble_eq_true rfl)⟩ hph hph (show 0 + 0 = 0 from rfl) (by decide) (fun rh2 Lh2 clh2 lnh2 ivh2 rvh2 h2 => ?_)
        obtain ⟨rfl, rfl, rfl, rfl, rfl, fl2, W2, exf2⟩ := h2
        have F2 := Fb1.call hX0 fl2 rfl
        refine c_st (st2 := []) rfl ?_
        refine c_iinc (z := k) (j := 0) (lv2 := [(2, .int (iI (k + 1))), (0, .ref a0), (1, .ref a1)]) C dX8_spell_30 rfl (by decide) rfl ?_
        refine c_goto (tgt := 6) C dX8_spell_33 (by decide) ?_
        refine c_lv (lv2 := [(2, .int (iI (k + 1))), (0, .ref a0), (1, .ref a1)]) [0, 1, 2] rfl ?_
        exact ih1  (k + 1) _ (by omega) W2 F2  (by omega)
  refine c_lv (lv2 := [(2, .int (iI 0)), (0, .ref a0), (1, .ref a1)]) [0, 1, 2] rfl ?_
  exact Lp1 8 0 _ (by omega) W1 F1  (by omega)
end
section
theorem rok_lst {L : List Nat} {cl : Nat → Nat} {g a T : Nat} (ha : ty L cl a T) (hl : lst T = true) : rok L cl g a 1 (some g) := fun _ => ⟨(fun q => by cases q), fun b q => by cases q; exact Or.inr ⟨rfl, by rw [ha.2]; exact hl, rfl⟩⟩
theorem bt_tab {m : Nat} (h : m < 30) : bt (100 + m) = 100 := by unfold bt; rw [if_neg (by omega), if_pos (by omega)]
theorem uq_tab {m : Nat} : uq (100 + m) = false := by unfold uq; simp; omega
theorem rok_tab {L : List Nat} {cl : Nat → Nat} {g a k : Nat} {x : Option Nat} (ha : ty L cl a 100) (hk : k = 2 ∨ k = 3) (hx : ∀ b, x = some b → ty L cl b 100 ∧ cl b < cl a) : rok L cl g a k x := by
  intro _
  refine ⟨fun _ => by rw [ha.2]; rcases hk with rfl | rfl <;> rfl, fun b hb => Or.inl ⟨(hx b hb).1.1, ?_, fun _ _ => (hx b hb).2, fun q => ?_⟩⟩
  · rw [(hx b hb).1.2, ha.2]; rcases hk with rfl | rfl <;> rfl
  · rw [ha.2] at q; cases q
theorem rok_ch {L : List Nat} {cl : Nat → Nat} {g a : Nat} {x : Option Nat} (ha : ty L cl a 21) (hx : ∀ b, x = some b → ty L cl b 20) : rok L cl g a 2 x := by
  intro _
  refine ⟨fun _ => by rw [ha.2]; rfl, fun b hb => Or.inl ⟨(hx b hb).1, ?_, ?_, ?_⟩⟩
  · rw [(hx b hb).2, ha.2]; rfl
  · intro q; rw [ha.2] at q; cases q
  · intro q; rw [ha.2] at q; cases q
theorem rok_tb {L : List Nat} {cl : Nat → Nat} {g a k b T2 : Nat} (ha : ty L cl a 100) (hb : ty L cl b T2) (hk : 4 ≤ k) (ht : tgt 100 k = T2) : rok L cl g a k (some b) := by
  intro _
  refine ⟨(fun q => by cases q), fun c hc => ?_⟩
  cases hc
  refine Or.inl ⟨hb.1, by rw [hb.2, ha.2, ht], fun _ q => absurd q (by omega), fun q => ?_⟩
  rw [ha.2] at q; cases q
set_option maxHeartbeats 4000000 in
set_option maxRecDepth 100000 in
theorem Z_acoll {l : Launch} {G : GT} {mi : Nat} {sk : Nat → Nat} {L : List Nat} {cl ln : Nat → Nat} {iv : Nat → Nat → Int} {rv : Nat → Nat → Option Nat}  {a0 : Nat} (hW : WT (g0 G) sk L cl ln iv rv) (hS : SKL sk L cl) (t_a0 : ty L cl a0 200)  : Mc l G mi zPf 0 yJxa1e45_init_da8c8 cJxa1e45_init_da8c8 1 none 1 [.ref a0] L cl ln iv rv 0 (fun v L2 cl2 ln2 iv2 rv2 => v = none ∧ L = L2 ∧ cl = cl2 ∧ ln = ln2 ∧ iv = iv2 ∧ rv = rv2 ∧ (True)) := by
  refine Mc.mk (by decide) (Nat.le_of_ble_eq_true rfl) ?_
  intro p e s m args below meth c A C hM
  refine hv3 ((show zPf ln rv ≤ 0 from Nat.le_refl 0)) (show XT L cl ln L cl ln from XT.refl) (show fT [] L cl iv rv iv rv from fT.refl) (fun hph hX0 hF0 => ?_)
  refine c_aload_n (j := 0) (x := a0) C dJxa1e45_init_da8c8_0 rfl ?_
  refine c_objInit C dJxa1e45_init_da8c8_1 w1_75 w1_30 w1_31 (by decide) (Nat.le_of_ble_eq_true rfl) ?_
  exact c_vret C dJxa1e45_init_da8c8_4 rfl (by decide) (rom0 hph hph (by decide)) ⟨rfl, rfl, rfl, rfl, rfl, rfl, trivial⟩
set_option maxHeartbeats 4000000 in
set_option maxRecDepth 100000 in
theorem Z_alist {l : Launch} {G : GT} {mi : Nat} {sk : Nat → Nat} {L : List Nat} {cl ln : Nat → Nat} {iv : Nat → Nat → Int} {rv : Nat → Nat → Option Nat}  {a0 : Nat} (hW : WT (g0 G) sk L cl ln iv rv) (hS : SKL sk L cl) (t_a0 : ty L cl a0 200)  : Mc l G mi zPf 0 yJxc12de_init_da8c8 cJxc12de_init_da8c8 1 none 2 [.ref a0] L cl ln iv rv 0 (fun v L2 cl2 ln2 iv2 rv2 => v = none ∧ L = L2 ∧ cl = cl2 ∧ ln = ln2 ∧ rv = rv2 ∧ fT [200] L cl iv rv iv2 rv2 ∧ WT (g0 G) sk L2 cl2 ln2 iv2 rv2 ∧ (iv2 a0 2 = iv a0 2)) := by
  refine Mc.mk (by decide) (Nat.le_of_ble_eq_true rfl) ?_
  intro p e s m args below meth c A C hM
  refine hv3 ((show zPf ln rv ≤ 0 from Nat.le_refl 0)) (show XT L cl ln L cl ln from XT.refl) (show fT [200] L cl iv rv iv rv from fT.refl) (fun hph hX0 hF0 => ?_)
  refine c_aload_n (j := 0) (x := a0) C dJxc12de_init_da8c8_0 rfl ?_
  refine c_callI (As := []) (rest := []) C hM (Z_acoll (a0 := a0) hW hS t_a0  ) dJxc12de_init_da8c8_1 kI_Jxc12de_1 rfl rfl (Nat.le_of_ble_eq_true rfl) ⟨(Nat.le_of_ble_eq_true rfl), (Nat.le_of_ble_eq_true rfl)⟩ (rz0 hph (by decide)) (fun rh1 Lh1 clh1 lnh1 ivh1 rvh1 h1 => ⟨0, zk0, ?_⟩)
  obtain ⟨rfl, rfl, rfl, rfl, rfl, rfl, exf1⟩ := h1
  refine c_st (st2 := []) rfl ?_
  refine c_aload_n (j := 0) (x := a0) C dJxc12de_init_da8c8_4 rfl ?_
  refine c_iconst C dJxc12de_init_da8c8_5 ?_
  refine c_put (z := 0) (k := 0) C ck_0 dJxc12de_init_da8c8_6 w1_80 (by decide) rfl t_a0 rfl rfl (by decide) rfl (by rfl) (by rfl) (fun iv1 pq1 => ?_)
  refine hv3 (hW.puti pq1 t_a0 ⟨by decide, by decide⟩ rfl) (hF0.puti hX0 pq1 t_a0 rfl) (show iv1 a0 2 = iv a0 2 from by rw [pq1]; exact up2_j (by decide)) (fun W2 F1 ie1 => ?_)
  have ri1 : (-2147483648) ≤ iv1 a0 2 ∧ iv1 a0 2 ≤ 2147483647 := W2.int t_a0 2
  exact c_vret C dJxc12de_init_da8c8_9 rfl (by decide) (rom0 hph hph (by decide)) ⟨rfl, rfl, rfl, rfl, rfl, F1, W2, (by omega)⟩
set_option maxHeartbeats 4000000 in
set_option maxRecDepth 100000 in
theorem Z_list {l : Launch} {G : GT} {mi : Nat} {sk : Nat → Nat} {L : List Nat} {cl ln : Nat → Nat} {iv : Nat → Nat → Int} {rv : Nat → Nat → Option Nat}  {a0 : Nat} (hW : WT (g0 G) sk L cl ln iv rv) (hS : SKL sk L cl) (t_a0 : ty L cl a0 200)  : Mc l G mi zPf 0 yJx4a65c_init_da8c8 cJx4a65c_init_da8c8 1 none 3 [.ref a0] L cl ln iv rv 0 (fun v L2 cl2 ln2 iv2 rv2 => v = none ∧ L = L2 ∧ cl = cl2 ∧ ln = ln2 ∧ fT [200] L cl iv rv iv2 rv2 ∧ WT (g0 G) sk L2 cl2 ln2 iv2 rv2 ∧ (rv2 a0 1 = some (g0 G) ∧ iv2 a0 2 = iv a0 2 ∧ (∀ k, ([1] : List Nat).contains k = false → rv2 a0 k = rv a0 k))) := by
  refine Mc.mk (by decide) (Nat.le_of_ble_eq_true rfl) ?_
  intro p e s m args below meth c A C hM
  refine hv3 ((show zPf ln rv ≤ 0 from Nat.le_refl 0)) (show XT L cl ln L cl ln from XT.refl) (show fT [200] L cl iv rv iv rv from fT.refl) (fun hph hX0 hF0 => ?_)
  refine c_aload_n (j := 0) (x := a0) C dJx4a65c_init_da8c8_0 rfl ?_
  have ri1 : (-2147483648) ≤ iv a0 2 ∧ iv a0 2 ≤ 2147483647 := hW.int t_a0 2
  refine c_callI (As := []) (rest := []) C hM (Z_alist (a0 := a0) hW hS t_a0  ) dJx4a65c_init_da8c8_1 kI_Jx4a65c_1 rfl rfl (Nat.le_of_ble_eq_true rfl) ⟨(Nat.le_of_ble_eq_true rfl), (Nat.le_of_ble_eq_true rfl)⟩ (rz0 hph (by decide)) (fun rh1 Lh1 clh1 lnh1 ivh1 rvh1 h1 => ⟨0, zk0, ?_⟩)
  obtain ⟨rfl, rfl, rfl, rfl, rfl, fl1, W1, exf1⟩ := h1
  have F1 := hF0.call hX0 fl1 rfl
  refine c_st (st2 := []) rfl ?_
  refine hv2 (show (-2147483648) ≤ ivh1 a0 2 ∧ ivh1 a0 2 ≤ 2147483647 from W1.int t_a0 2) (show ivh1 a0 2 = iv a0 2 from exf1) (fun ri2 gf1 => ?_)
  refine c_aload_n (j := 0) (x := a0) C dJx4a65c_init_da8c8_4 rfl ?_
  refine c_gets C dJx4a65c_init_da8c8_5 w1_76 ?_
  refine c_putr (x := (some (g0 G))) (k := 1) C ck_0 dJx4a65c_init_da8c8_8 w1_78 (by decide) rfl t_a0 rfl rfl (by decide) rfl (by rfl) (by rfl) (fun rv1 pq1 => ⟨0, (zp2 (Nat.le_refl _)), ?_⟩)
  refine hv4 (W1.putr pq1 t_a0 (fun qr => by rw [t_a0.2] at qr; cases qr) rfl (by decide)) (F1.putr hX0 pq1 t_a0 rfl) (show rv1 a0 1 = (some (g0 G)) from by rw [pq1]; exact upr_s) (show ∀ k, ([1] : List Nat).contains k = false → rv1 a0 k = rv a0 k from fun k hk => (show rv1 a0 k = rv a0 k from (by rw [pq1]; exact upr_j (fun e => by subst e; exact absurd hk (by decide))))) (fun W2 F2 rp1 rn1 => ?_)
  exact c_vret C dJx4a65c_init_da8c8_11 rfl (by decide) (rom0 hph (Nat.le_refl 0) (by decide)) ⟨rfl, rfl, rfl, rfl, F2, W2, ⟨rp1, (by omega), rn1⟩⟩
set_option maxHeartbeats 4000000 in
set_option maxRecDepth 100000 in
theorem Z_ints_12 {l : Launch} {G : GT} {mi : Nat} {sk : Nat → Nat} {L : List Nat} {cl ln : Nat → Nat} {iv : Nat → Nat → Int} {rv : Nat → Nat → Option Nat}  {a0 : Nat} {i : Int} (hW : WT (g0 G) sk L cl ln iv rv) (hS : SKL sk L cl) (t_a0 : ty L cl a0 202) (h_i : -2147483648 ≤ i ∧ i ≤ 2147483647)  : Mc l G mi zPf 0 yX1_init cX1_init 2 none 1 [.ref a0, .int (iI i)] L cl ln iv rv 32 (fun v L2 cl2 ln2 iv2 rv2 => v = none ∧ XT L cl ln L2 cl2 ln2 ∧ fT [202] L cl iv rv iv2 rv2 ∧ WT (g0 G) sk L2 cl2 ln2 iv2 rv2 ∧ (∃ b, (∀ k, ([1] : List Nat).contains k = false → rv2 a0 k = rv a0 k) ∧ rv2 a0 1 = some b ∧ ty L2 cl2 b 42 ∧ ln2 b = 16 ∧ iv2 a0 0 = i ∧ iv2 a0 2 = 0 ∧ b ∉ L)) := by
  refine Mc.mk (by decide) (Nat.le_of_ble_eq_true rfl) ?_
  intro p e s m args below meth c A C hM
  refine hv3 ((show zPf ln rv ≤ 0 from Nat.le_refl 0)) (show XT L cl ln L cl ln from XT.refl) (show fT [202] L cl iv rv iv rv from fT.refl) (fun hph hX0 hF0 => ?_)
  refine c_aload_n (j := 0) (x := a0) C dX1_init_0 rfl ?_
  refine c_objInit C dX1_init_1 w1_37 w1_30 w1_31 (by decide) (Nat.le_of_ble_eq_true rfl) ?_
  refine c_aload_n (j := 0) (x := a0) C dX1_init_4 rfl ?_
  refine c_iconst C dX1_init_5 ?_
  refine c_put (z := 0) (k := 2) C ck_2 dX1_init_6 w1_43 (by decide) rfl t_a0 rfl rfl (by decide) rfl (by rfl) (by rfl) (fun iv1 pq1 => ?_)
  refine hv2 (hW.puti pq1 t_a0 ⟨by decide, by decide⟩ rfl) (hF0.puti hX0 pq1 t_a0 rfl) (fun W1 F1 => ?_)
  refine c_aload_n (j := 0) (x := a0) C dX1_init_9 rfl ?_
  refine c_iload_n (j := 1) C dX1_init_10 rfl ?_
  refine c_putF (z := i) (k := 0) C ck_2 dX1_init_11 w1_38 (by decide) rfl rfl rfl t_a0 rfl rfl (by decide) rfl (by rfl) (by rfl) (fun iv2 pq2 => ?_)
  refine hv2 (W1.puti pq2 t_a0 (show (-2147483648) ≤ i ∧ i ≤ 2147483647 by omega) rfl) (F1.puti hX0 pq2 t_a0 rfl) (fun W2 F2 => ?_)
  refine c_aload_n (j := 0) (x := a0) C dX1_init_14 rfl ?_
  refine c_bipush (z := 16) C dX1_init_15 (by decide) ?_
  refine c_newaI (z := 16) (N := 16) C 42 dX1_init_17 w1_57 rfl (by omega) (by omega) (rom2 hph hph (by decide)) (fun qn1 cln1 lnn1 ivn1 rvn1 hqn1 hcn1 hln1 hin1 hrn1 => ⟨32, (z_in (by omega)), ?_⟩)
  refine c_g0 C (fun hg1 => ?_)
  refine hv5 (show ∀ b, b ≠ qn1 → lnn1 b = ln b from (fun b hb => by rw [hln1]; exact va_up_ne _ _ hb)) (show lnn1 qn1 = 16 from by rw [hln1]; exact va_up_self _ _ _) (F2.new hX0 hqn1 hin1 hrn1) (show ty (L ++ [qn1]) cln1 qn1 42 from ty_new hcn1) (show qn1 ∉ L from fun h => hqn1 ((hX0 qn1 h).1)) (fun hxn1 lqn1 F3 tqn1 h0qn1 => ?_)
  refine hv2 (W2.new (ln2 := lnn1) hqn1 (hg1 qn1 (List.mem_append_right _ List.mem_cons_self)) hcn1 hxn1 hin1 hrn1 (fun _ => ⟨(show (-2147483648 : Int) ≤ 0 by decide), (show (0 : Int) ≤ 2147483647 by decide)⟩) (Or.inr (fun _ => rfl)) (fun _ => by show 16 ≤ lnn1 qn1 ∧ lnn1 qn1 ≤ 400; omega) rfl rfl) (XT.new hqn1 hcn1 hxn1) (fun W3 xl1 => ?_)
  refine hv3 (hX0.trans xl1) (xl1.skl hS) (xl1.ty t_a0) (fun X1 sk1 ty1 => ?_)
  refine c_putr (x := (some qn1)) (k := 1) C ck_2 dX1_init_19 w1_39 (by decide) rfl ty1 rfl rfl (by decide) rfl (by rfl) (by rfl) (fun rv1 pq3 => ⟨32, (zp2 (Nat.le_refl _)), ?_⟩)
  refine hv9 (W3.putr pq3 ty1 (fun qr => by rw [ty1.2] at qr; cases qr) rfl (by decide)) (F3.putr X1 pq3 ty1 rfl) (show rv1 a0 1 = (some qn1) from by rw [pq3]; exact upr_s) (show ∀ k, ([1] : List Nat).contains k = false → rv1 a0 k = rv a0 k from fun k hk => (Eq.trans (show rv1 a0 k = rvn1 a0 k from (by rw [pq3]; exact upr_j (fun e => by subst e; exact absurd hk (by decide)))) (show rvn1 a0 k = rv a0 k from (by rw [hrn1]; exact congrFun (up0_a (ne_in t_a0.1 hqn1)) _)))) (show ivn1 a0 0 = iv2 a0 0 from by rw [hin1]; exact congrFun (up0_a (ne_in t_a0.1 hqn1)) _) (show iv2 a0 0 = i from by rw [pq2]; exact up2_s) (show ivn1 a0 2 = iv2 a0 2 from by rw [hin1]; exact congrFun (up0_a (ne_in t_a0.1 hqn1)) _) (show iv2 a0 2 = iv1 a0 2 from by rw [pq2]; exact up2_j (by decide)) (show iv1 a0 2 = 0 from by rw [pq1]; exact up2_s) (fun W4 F4 rp1 rn1 ie1 ie2 ie3 ie4 ie5 => ?_)
  refine hv2 (show (-2147483648) ≤ ivn1 a0 0 ∧ ivn1 a0 0 ≤ 2147483647 from W4.int ty1 0) (show (-2147483648) ≤ ivn1 a0 2 ∧ ivn1 a0 2 ≤ 2147483647 from W4.int ty1 2) (fun ri1 ri2 => ?_)
  exact c_vret C dX1_init_22 rfl (by decide) (rom0 hph (Nat.le_refl 0) (by decide)) ⟨rfl, X1, F4, W4, ⟨qn1, rn1, rp1, tqn1, (by omega), (by omega), (by omega), h0qn1⟩⟩
set_option maxHeartbeats 4000000 in
set_option maxRecDepth 100000 in
theorem Z_row {l : Launch} {G : GT} {mi : Nat} {sk : Nat → Nat} {L : List Nat} {cl ln : Nat → Nat} {iv : Nat → Nat → Int} {rv : Nat → Nat → Option Nat}  {a0 : Nat} {i : Int} {a2 : Nat} {a3 : Nat} (hW : WT (g0 G) sk L cl ln iv rv) (hS : SKL sk L cl) (t_a0 : ty L cl a0 206) (t_a2 : ty L cl a2 65) (t_a3 : ty L cl a3 66) (h_i : -2147483648 ≤ i ∧ i ≤ 2147483647)  : Mc l G mi zPf 0 yX5_init cX5_init 4 none 1 [.ref a0, .int (iI i), .ref a2, .ref a3] L cl ln iv rv 0 (fun v L2 cl2 ln2 iv2 rv2 => v = none ∧ L = L2 ∧ cl = cl2 ∧ ln = ln2 ∧ fT [206] L cl iv rv iv2 rv2 ∧ WT (g0 G) sk L2 cl2 ln2 iv2 rv2 ∧ ((∀ k, ([1, 2] : List Nat).contains k = false → rv2 a0 k = rv a0 k) ∧ rv2 a0 1 = some a2 ∧ rv2 a0 2 = some a3 ∧ iv2 a0 0 = i ∧ iv2 a0 3 = 0)) := by
  refine Mc.mk (by decide) (Nat.le_of_ble_eq_true rfl) ?_
  intro p e s m args below meth c A C hM
  refine hv3 ((show zPf ln rv ≤ 0 from Nat.le_refl 0)) (show XT L cl ln L cl ln from XT.refl) (show fT [206] L cl iv rv iv rv from fT.refl) (fun hph hX0 hF0 => ?_)
  refine c_aload_n (j := 0) (x := a0) C dX5_init_0 rfl ?_
  refine c_objInit C dX5_init_1 w3_134 w1_30 w1_31 (by decide) (Nat.le_of_ble_eq_true rfl) ?_
  refine c_aload_n (j := 0) (x := a0) C dX5_init_4 rfl ?_
  refine c_iconst C dX5_init_5 ?_
  refine c_put (z := 0) (k := 3) C ck_6 dX5_init_6 w3_147 (by decide) rfl t_a0 rfl rfl (by decide) rfl (by rfl) (by rfl) (fun iv1 pq1 => ?_)
  refine hv2 (hW.puti pq1 t_a0 ⟨by decide, by decide⟩ rfl) (hF0.puti hX0 pq1 t_a0 rfl) (fun W1 F1 => ?_)
  refine c_aload_n (j := 0) (x := a0) C dX5_init_9 rfl ?_
  refine c_iload_n (j := 1) C dX5_init_10 rfl ?_
  refine c_putF (z := i) (k := 0) C ck_6 dX5_init_11 w3_135 (by decide) rfl rfl rfl t_a0 rfl rfl (by decide) rfl (by rfl) (by rfl) (fun iv2 pq2 => ?_)
  refine hv2 (W1.puti pq2 t_a0 (show (-2147483648) ≤ i ∧ i ≤ 2147483647 by omega) rfl) (F1.puti hX0 pq2 t_a0 rfl) (fun W2 F2 => ?_)
  refine c_aload_n (j := 0) (x := a0) C dX5_init_14 rfl ?_
  refine c_aload_n (j := 2) (x := a2) C dX5_init_15 rfl ?_
  refine c_putrF (x := (some a2)) (k := 1) C ck_6 dX5_init_16 w3_138 (by decide) rfl rfl rfl t_a0 rfl rfl (by decide) rfl (by rfl) (by rfl) (fun rv1 pq3 => ⟨0, (zp2 (Nat.le_refl _)), ?_⟩)
  refine hv2 (W2.putr pq3 t_a0 (fun qr => by rw [t_a0.2] at qr; cases qr) rfl (by decide)) (F2.putr hX0 pq3 t_a0 rfl) (fun W3 F3 => ?_)
  refine c_aload_n (j := 0) (x := a0) C dX5_init_19 rfl ?_
  refine c_aload_n (j := 3) (x := a3) C dX5_init_20 rfl ?_
  refine c_putrF (x := (some a3)) (k := 2) C ck_6 dX5_init_21 w3_142 (by decide) rfl rfl rfl t_a0 rfl rfl (by decide) rfl (by rfl) (by rfl) (fun rv2 pq4 => ⟨0, (zp2 (Nat.le_refl _)), ?_⟩)
  refine hv5 (W3.putr pq4 t_a0 (fun qr => by rw [t_a0.2] at qr; cases qr) rfl (by decide)) (F3.putr hX0 pq4 t_a0 rfl) (show ∀ k, ([1, 2] : List Nat).contains k = false → rv2 a0 k = rv a0 k from fun k hk => (Eq.trans (show rv2 a0 k = rv1 a0 k from (by rw [pq4]; exact upr_j (fun e => by subst e; exact absurd hk (by decide)))) (show rv1 a0 k = rv a0 k from (by rw [pq3]; exact upr_j (fun e => by subst e; exact absurd hk (by decide)))))) (show rv1 a0 1 = (some a2) from by rw [pq3]; exact upr_s) (show rv2 a0 1 = rv1 a0 1 from (by rw [pq4]; exact upr_j (by decide))) (fun W4 F4 rn1 rp1 re1 => ?_)
  rw [rp1] at re1
  refine hv6 (show rv2 a0 2 = (some a3) from by rw [pq4]; exact upr_s) (show (-2147483648) ≤ iv2 a0 0 ∧ iv2 a0 0 ≤ 2147483647 from W4.int t_a0 0) (show iv2 a0 0 = i from by rw [pq2]; exact up2_s) (show (-2147483648) ≤ iv2 a0 3 ∧ iv2 a0 3 ≤ 2147483647 from W4.int t_a0 3) (show iv2 a0 3 = iv1 a0 3 from by rw [pq2]; exact up2_j (by decide)) (show iv1 a0 3 = 0 from by rw [pq1]; exact up2_s) (fun rp2 ri1 ie1 ri2 ie2 ie3 => ?_)
  exact c_vret C dX5_init_24 rfl (by decide) (rom0 hph (Nat.le_refl 0) (by decide)) ⟨rfl, rfl, rfl, rfl, F4, W4, ⟨rn1, re1, rp2, (by omega), (by omega)⟩⟩
set_option maxHeartbeats 4000000 in
set_option maxRecDepth 100000 in
theorem Z_change {l : Launch} {G : GT} {mi : Nat} {sk : Nat → Nat} {L : List Nat} {cl ln : Nat → Nat} {iv : Nat → Nat → Int} {rv : Nat → Nat → Option Nat}  {a0 : Nat} {i : Int} {a2 : Nat} {r : Option Nat} {n : Int} (hW : WT (g0 G) sk L cl ln iv rv) (hS : SKL sk L cl) (t_a0 : ty L cl a0 201) (t_a2 : ty L cl a2 100) (t_r : ∀ b, r = some b → ty L cl b 20) (h_i : -2147483648 ≤ i ∧ i ≤ 2147483647) (h_n : -2147483648 ≤ n ∧ n ≤ 2147483647)  : Mc l G mi zPf 0 yX0_init cX0_init 5 none 1 [.ref a0, .int (iI i), .ref a2, va_rf r, .int (iI n)] L cl ln iv rv 0 (fun v L2 cl2 ln2 iv2 rv2 => v = none ∧ L = L2 ∧ cl = cl2 ∧ ln = ln2 ∧ fT [201] L cl iv rv iv2 rv2 ∧ WT (g0 G) sk L2 cl2 ln2 iv2 rv2 ∧ ((∀ k, ([1, 2] : List Nat).contains k = false → rv2 a0 k = rv a0 k) ∧ rv2 a0 1 = some a2 ∧ rv2 a0 2 = r ∧ iv2 a0 0 = i ∧ iv2 a0 3 = n)) := by
  refine Mc.mk (by decide) (by cases r <;> exact Nat.le_of_ble_eq_true rfl) ?_
  intro p e s m args below meth c A C hM
  have hph := (show zPf ln rv ≤ 0 from Nat.le_refl 0)
  refine c_lveq (show lv_args 0 [.ref a0, .int (iI i), .ref a2, va_rf r, .int (iI n)] = [(0, .ref a0), (1, .int (iI i)), (2, .ref a2), (3, (va_rf r)), (4, .int (iI n))] from by cases r <;> rfl) ?_
  refine hv2 (show XT L cl ln L cl ln from XT.refl) (show fT [201] L cl iv rv iv rv from fT.refl) (fun hX0 hF0 => ?_)
  refine c_aload_n (j := 0) (x := a0) C dX0_init_0 rfl ?_
  refine c_objInit C dX0_init_1 w3_39 w1_30 w1_31 (by decide) (Nat.le_of_ble_eq_true rfl) ?_
  refine c_aload_n (j := 0) (x := a0) C dX0_init_4 rfl ?_
  refine c_iload_n (j := 1) C dX0_init_5 rfl ?_
  refine c_putF (z := i) (k := 0) C ck_1 dX0_init_6 w3_40 (by decide) rfl rfl rfl t_a0 rfl rfl (by decide) rfl (by rfl) (by rfl) (fun iv1 pq1 => ?_)
  refine hv2 (hW.puti pq1 t_a0 (show (-2147483648) ≤ i ∧ i ≤ 2147483647 by omega) rfl) (hF0.puti hX0 pq1 t_a0 rfl) (fun W1 F1 => ?_)
  refine c_aload_n (j := 0) (x := a0) C dX0_init_9 rfl ?_
  refine c_aload_n (j := 2) (x := a2) C dX0_init_10 rfl ?_
  refine c_putrF (x := (some a2)) (k := 1) C ck_1 dX0_init_11 w3_42 (by decide) rfl rfl rfl t_a0 rfl rfl (by decide) rfl (by rfl) (by rfl) (fun rv1 pq2 => ⟨0, (zp2 (Nat.le_refl _)), ?_⟩)
  refine hv2 (W1.putr pq2 t_a0 (fun qr => by rw [t_a0.2] at qr; cases qr) rfl (by decide)) (F1.putr hX0 pq2 t_a0 rfl) (fun W2 F2 => ?_)
  refine c_aload_n (j := 0) (x := a0) C dX0_init_14 rfl ?_
  refine c_aloadr_n (j := 3) (r := r) C dX0_init_15 rfl ?_
  refine c_putrF (x := r) (k := 2) C ck_1 dX0_init_16 w3_44 (by decide) rfl rfl rfl t_a0 rfl rfl (by decide) rfl (narr r (Or.inl ⟨_, rfl⟩)).1 (narr r (Or.inl ⟨_, rfl⟩)).2 (fun rv2 pq3 => ⟨0, (zp2 (Nat.le_refl _)), ?_⟩)
  refine hv2 (W2.putr pq3 t_a0 (fun qr => by rw [t_a0.2] at qr; cases qr) rfl (by decide)) (F2.putr hX0 pq3 t_a0 rfl) (fun W3 F3 => ?_)
  refine c_aload_n (j := 0) (x := a0) C dX0_init_19 rfl ?_
  refine c_iload (j := 4) C dX0_init_20 rfl ?_
  refine c_putF (z := n) (k := 3) C ck_1 dX0_init_22 w3_46 (by decide) rfl rfl rfl t_a0 rfl rfl (by decide) rfl (by rfl) (by rfl) (fun iv2 pq4 => ?_)
  refine hv5 (W3.puti pq4 t_a0 (show (-2147483648) ≤ n ∧ n ≤ 2147483647 by omega) rfl) (F3.puti hX0 pq4 t_a0 rfl) (show ∀ k, ([1, 2] : List Nat).contains k = false → rv2 a0 k = rv a0 k from fun k hk => (Eq.trans (show rv2 a0 k = rv1 a0 k from (by rw [pq3]; exact upr_j (fun e => by subst e; exact absurd hk (by decide)))) (show rv1 a0 k = rv a0 k from (by rw [pq2]; exact upr_j (fun e => by subst e; exact absurd hk (by decide)))))) (show rv1 a0 1 = (some a2) from by rw [pq2]; exact upr_s) (show rv2 a0 1 = rv1 a0 1 from (by rw [pq3]; exact upr_j (by decide))) (fun W4 F4 rn1 rp1 re1 => ?_)
  rw [rp1] at re1
  refine hv6 (show rv2 a0 2 = r from by rw [pq3]; exact upr_s) (show (-2147483648) ≤ iv2 a0 0 ∧ iv2 a0 0 ≤ 2147483647 from W4.int t_a0 0) (show iv2 a0 0 = iv1 a0 0 from by rw [pq4]; exact up2_j (by decide)) (show iv1 a0 0 = i from by rw [pq1]; exact up2_s) (show (-2147483648) ≤ iv2 a0 3 ∧ iv2 a0 3 ≤ 2147483647 from W4.int t_a0 3) (show iv2 a0 3 = n from by rw [pq4]; exact up2_s) (fun rp2 ri1 ie1 ie2 ri2 ie3 => ?_)
  exact c_vret C dX0_init_25 rfl (by decide) (rom0 hph (Nat.le_refl 0) (by decide)) ⟨rfl, rfl, rfl, rfl, F4, W4, ⟨rn1, re1, rp2, (by omega), (by omega)⟩⟩
end
section
set_option maxHeartbeats 4000000 in
set_option maxRecDepth 100000 in
theorem C_goOver {l : Launch} {G : GT} {mi : Nat} {sk : Nat → Nat} {L : List Nat} {cl ln : Nat → Nat} {iv : Nat → Nat → Int} {rv : Nat → Nat → Option Nat}  {a0 : Nat} {x : Int} (hW : WT (g0 G) sk L cl ln iv rv) (hS : SKL sk L cl) (t_a0 : ty L cl a0 18) (h_x : -2147483648 ≤ x ∧ x ≤ 2147483647)  : Mc l G mi (Phi (g0 G) sk) PHM yX7_goOver cX7_goOver 6 (some .int) 2 [.ref a0, .int (iI x)] L cl ln iv rv 0 (fun v L2 cl2 ln2 iv2 rv2 => ∃ f : Int, v = some (.int (iI f)) ∧ L = L2 ∧ cl = cl2 ∧ ln = ln2 ∧ iv = iv2 ∧ rv = rv2 ∧ (-2147483648 ≤ f ∧ f ≤ 2147483647) ∧ (True)) := by
  refine Mc.mk (by decide) (Nat.le_of_ble_eq_true rfl) ?_
  intro p e s m args below meth c A C hM
  refine hv3 (Phi.le hW hS) (show XT L cl ln L cl ln from XT.refl) (show fT [] L cl iv rv iv rv from fT.refl) (fun hph hX0 hF0 => ?_)
  refine c_iload_n (j := 1) C dX7_goOver_0 rfl ?_
  refine c_istore_n (lv2 := [(2, .int (iI x)), (0, .ref a0), (1, .int (iI x))]) C dX7_goOver_1 (by decide) rfl ?_
  refine c_iconst C dX7_goOver_2 ?_
  refine c_istore_n (lv2 := [(3, .int (iI 0)), (2, .int (iI x)), (0, .ref a0), (1, .int (iI x))]) C dX7_goOver_3 (by decide) rfl ?_
  have Lp1 : ∀ (nn : Nat) (d1 k : Int) , 201 - k < (nn : Int) → (-2147483648 ≤ d1 ∧ d1 ≤ 2147483647) → (0 ≤ k ∧ k ≤ 200) → cw p l e 2 ((PHM) + 0 - ((Phi (g0 G) sk) ln rv)) s m args below meth c G A 6 (MQ below (Qu G A (Qp G (Phi (g0 G) sk) ((Phi (g0 G) sk) ln rv) 0 (fun v L2 cl2 ln2 iv2 rv2 => ∃ f : Int, v = some (.int (iI f)) ∧ L = L2 ∧ cl = cl2 ∧ ln = ln2 ∧ iv = iv2 ∧ rv = rv2 ∧ (-2147483648 ≤ f ∧ f ≤ 2147483647) ∧ (True)))) args s (((PHM) + 0 - ((Phi (g0 G) sk) ln rv)) / 16) ((PHM) + 0 - ((Phi (g0 G) sk) ln rv)) A) (Phi (g0 G) sk) ((Phi (g0 G) sk) ln rv) L cl ln iv rv 0 4 [(2, .int (iI d1)), (3, .int (iI k)), (0, .ref a0), (1, .int (iI x))] [] := by
    intro nn
    induction nn with
    | zero =>
      intro  d1 k  hm   hd1 hk
      exact absurd hm (by omega)
    | succ nn ih1 =>
      intro  d1 k  hm   hd1 hk
      refine c_iload_n (j := 1) C dX7_goOver_4 rfl ?_
      refine c_aload_n (j := 2) (x := a0) C dX7_goOver_5 rfl ?_
      have ri1 : 0 ≤ iv a0 1 ∧ iv a0 1 ≤ 200 := hW.int t_a0 1
      refine c_get (k := 1) C ck_8 dX7_goOver_6 w2_34 (by decide) t_a0 rfl rfl (by decide) rfl ?_
      refine c_icmp_ge (tgt := 83) C (r32_c (lo := 0) (hi := 200) hk.1 hk.2 (by decide) (by decide)) (r32_c (lo := 0) (hi := 200) ri1.1 ri1.2 (by decide) (by decide)) dX7_goOver_9 (by decide) (fun c1 => ?_) (fun c1 => ?_)
      · refine c_iload_n (j := 0) C dX7_goOver_83 rfl ?_
        exact c_iret C dX7_goOver_84 rfl (by decide) (rom0 hph hph (by decide)) ⟨d1, rfl, rfl, rfl, rfl, rfl, rfl, ⟨by omega, by omega⟩, trivial⟩
      · refine c_aload_n (j := 2) (x := a0) C dX7_goOver_12 rfl ?_
        refine c_iload_n (j := 1) C dX7_goOver_13 rfl ?_
        refine d_callV (As := [.int (iI k)]) (rest := []) C hM (C_present (a0 := a0) (i := k) hW hS t_a0 (by omega) ) dX7_goOver_14 kV_X7_61 rfl t_a0 rfl rfl (by decide) ck_8 rfl (Nat.le_of_ble_eq_true rfl) ⟨(Nat.le_of_ble_eq_true rfl), (Nat.le_of_ble_eq_true rfl)⟩ hph hph (show 0 + 0 = 0 from rfl) (by decide) (fun rh1 Lh1 clh1 lnh1 ivh1 rvh1 h1 => ?_)
        obtain ⟨f1, rfl, rfl, rfl, rfl, rfl, rfl, rgf1, exf1⟩ := h1
        refine c_st (st2 := [(va_rf f1)]) rfl ?_
        have gf1 : f1 = none ∨ (0 ≤ k ∧ k < iv a0 1) := exf1
        refine c_astorer (r := f1) (lv2 := [(4, (va_rf f1)), (2, .int (iI d1)), (3, .int (iI k)), (0, .ref a0), (1, .int (iI x))]) C dX7_goOver_17 (by decide) rfl ?_
        refine c_iload_n (j := 1) C dX7_goOver_19 rfl ?_
        refine c_bipush (z := 31) C dX7_goOver_20 (by decide) ?_
        refine c_imul C dX7_goOver_22 ?_
        obtain ⟨zz1, hzz1, ezz1⟩ := iI_of (iI (d1 * 31))
        refine c_st (st2 := [.int (iI zz1)]) (by rw [ezz1]) ?_
        refine c_aloadr (j := 0) (r := f1) C dX7_goOver_23 rfl ?_
        refine c_ifnonnull (r := f1) (tgt := 32) C dX7_goOver_25 (by decide) (fun ob1 oq1 => ?_) (fun oq1 => ?_)
        · subst oq1
          have tob1 := rgf1 ob1 rfl
          refine c_lv (lv2 := [(4, .ref ob1), (2, .int (iI d1)), (3, .int (iI k)), (0, .ref a0), (1, .int (iI x))]) [0, 1, 2, 3, 4] rfl ?_
          refine c_st (st2 := [.int (iI zz1)]) rfl ?_
          refine c_aload (j := 0) (x := ob1) C dX7_goOver_32 rfl ?_
          have ri2 : 0 ≤ iv ob1 1 ∧ iv ob1 1 ≤ 200 := hW.int tob1 1
          refine c_get (k := 1) C ck_3 dX7_goOver_34 w4_51 (by decide) tob1 rfl rfl (by decide) rfl ?_
          refine c_iadd C dX7_goOver_37 ?_
          obtain ⟨zz2, hzz2, ezz2⟩ := iI_of (iI (zz1 + (iv ob1 1)))
          refine c_st (st2 := [.int (iI zz2)]) (by rw [ezz2]) ?_
          refine c_istore_n (lv2 := [(2, .int (iI zz2)), (4, .ref ob1), (3, .int (iI k)), (0, .ref a0), (1, .int (iI x))]) C dX7_goOver_38 (by decide) rfl ?_
          refine c_iconst C dX7_goOver_39 ?_
          refine c_istore (lv2 := [(5, .int (iI 0)), (2, .int (iI zz2)), (4, .ref ob1), (3, .int (iI k)), (0, .ref a0), (1, .int (iI x))]) C dX7_goOver_40 (by decide) rfl ?_
          have Lp2 : ∀ (nn : Nat) (d2 k2 : Int) , 201 - k2 < (nn : Int) → (-2147483648 ≤ d2 ∧ d2 ≤ 2147483647) → (0 ≤ k2 ∧ k2 ≤ 200) → cw p l e 2 ((PHM) + 0 - ((Phi (g0 G) sk) ln rv)) s m args below meth c G A 6 (MQ below (Qu G A (Qp G (Phi (g0 G) sk) ((Phi (g0 G) sk) ln rv) 0 (fun v L2 cl2 ln2 iv2 rv2 => ∃ f : Int, v = some (.int (iI f)) ∧ L = L2 ∧ cl = cl2 ∧ ln = ln2 ∧ iv = iv2 ∧ rv = rv2 ∧ (-2147483648 ≤ f ∧ f ≤ 2147483647) ∧ (True)))) args s (((PHM) + 0 - ((Phi (g0 G) sk) ln rv)) / 16) ((PHM) + 0 - ((Phi (g0 G) sk) ln rv)) A) (Phi (g0 G) sk) ((Phi (g0 G) sk) ln rv) L cl ln iv rv 0 42 [(2, .int (iI d2)), (5, .int (iI k2)), (4, .ref ob1), (3, .int (iI k)), (0, .ref a0), (1, .int (iI x))] [] := by
            intro nn
            induction nn with
            | zero =>
              intro  d2 k2  hm   hd2 hk2
              exact absurd hm (by omega)
            | succ nn ih2 =>
              intro  d2 k2  hm   hd2 hk2
              refine c_aload (j := 2) (x := ob1) C dX7_goOver_42 rfl ?_
              refine c_ifnull (r := (some ob1)) (tgt := 77) C dX7_goOver_44 (by decide) (fun q => by cases q) (fun _ _ => ?_)
              refine c_iload (j := 1) C dX7_goOver_47 rfl ?_
              refine c_aload (j := 2) (x := ob1) C dX7_goOver_49 rfl ?_
              refine c_get (k := 1) C ck_3 dX7_goOver_51 w4_51 (by decide) tob1 rfl rfl (by decide) rfl ?_
              refine c_icmp_ge (tgt := 77) C (r32_c (lo := 0) (hi := 200) hk2.1 hk2.2 (by decide) (by decide)) (r32_c (lo := 0) (hi := 200) ri2.1 ri2.2 (by decide) (by decide)) dX7_goOver_54 (by decide) (fun c2 => ?_) (fun c2 => ?_)
              · refine c_iinc (z := k) (j := 3) (lv2 := [(3, .int (iI (k + 1))), (2, .int (iI d2)), (5, .int (iI k2)), (4, .ref ob1), (0, .ref a0), (1, .int (iI x))]) C dX7_goOver_77 rfl (by decide) rfl ?_
                refine c_goto (tgt := 4) C dX7_goOver_80 (by decide) ?_
                refine c_lv (lv2 := [(2, .int (iI d2)), (3, .int (iI (k + 1))), (0, .ref a0), (1, .int (iI x))]) [1, 0, 4, 5] rfl ?_
                exact ih1  d2 (k + 1)  (by omega)   (by omega) (by omega)
              · refine c_iload_n (j := 0) C dX7_goOver_57 rfl ?_
                refine c_bipush (z := 31) C dX7_goOver_58 (by decide) ?_
                refine c_imul C dX7_goOver_60 ?_
                obtain ⟨zz3, hzz3, ezz3⟩ := iI_of (iI (d2 * 31))
                refine c_st (st2 := [.int (iI zz3)]) (by rw [ezz3]) ?_
                refine c_aload (j := 2) (x := ob1) C dX7_goOver_61 rfl ?_
                obtain ⟨rb1, rq1, trb1⟩ := hW.ref tob1 0 rfl rfl rfl
                have lnrb1 : 200 ≤ ln rb1 ∧ ln rb1 ≤ 200 := hW.len trb1 rfl
                refine c_getr (k := 0) C ck_3 dX7_goOver_63 w4_47 (by decide) tob1 rfl rfl (by decide) rfl rq1 ?_
                refine c_st (st2 := [.ref rb1, .int (iI zz3)]) rfl ?_
                refine c_iload (j := 1) C dX7_goOver_66 rfl ?_
                have ll1 : 200 ≤ ln rb1 ∧ ln rb1 ≤ 200 := hW.len trb1 rfl
                refine c_iald C dX7_goOver_68 trb1 rfl (by omega) (by omega) (by omega) ?_
                have ri3 : (-2147483648) ≤ iv rb1 k2.toNat ∧ iv rb1 k2.toNat ≤ 2147483647 := hW.int trb1 k2.toNat
                refine c_iadd C dX7_goOver_69 ?_
                obtain ⟨zz4, hzz4, ezz4⟩ := iI_of (iI (zz3 + (iv rb1 k2.toNat)))
                refine c_st (st2 := [.int (iI zz4)]) (by rw [ezz4]) ?_
                refine c_istore_n (lv2 := [(2, .int (iI zz4)), (5, .int (iI k2)), (4, .ref ob1), (3, .int (iI k)), (0, .ref a0), (1, .int (iI x))]) C dX7_goOver_70 (by decide) rfl ?_
                refine c_iinc (z := k2) (j := 1) (lv2 := [(5, .int (iI (k2 + 1))), (2, .int (iI zz4)), (4, .ref ob1), (3, .int (iI k)), (0, .ref a0), (1, .int (iI x))]) C dX7_goOver_71 rfl (by decide) rfl ?_
                refine c_goto (tgt := 42) C dX7_goOver_74 (by decide) ?_
                refine c_lv (lv2 := [(2, .int (iI zz4)), (5, .int (iI (k2 + 1))), (4, .ref ob1), (3, .int (iI k)), (0, .ref a0), (1, .int (iI x))]) [1, 0, 2, 3, 4, 5] rfl ?_
                exact ih2  zz4 (k2 + 1)  (by omega)   (by omega) (by omega)
          refine c_lv (lv2 := [(2, .int (iI zz2)), (5, .int (iI 0)), (4, .ref ob1), (3, .int (iI k)), (0, .ref a0), (1, .int (iI x))]) [1, 0, 2, 3, 4, 5] rfl ?_
          exact Lp2 203 zz2 0  (by omega)   (by omega) (by omega)
        · subst oq1
          refine c_lv (lv2 := [(4, .null), (2, .int (iI d1)), (3, .int (iI k)), (0, .ref a0), (1, .int (iI x))]) [0, 1, 2, 3, 4] rfl ?_
          refine c_st (st2 := [.int (iI zz1)]) rfl ?_
          refine c_iconst C dX7_goOver_28 ?_
          refine c_goto (tgt := 37) C dX7_goOver_29 (by decide) ?_
          refine c_iadd C dX7_goOver_37 ?_
          obtain ⟨zz5, hzz5, ezz5⟩ := iI_of (iI (zz1 + (-1)))
          refine c_st (st2 := [.int (iI zz5)]) (by rw [ezz5]) ?_
          refine c_istore_n (lv2 := [(2, .int (iI zz5)), (4, .null), (3, .int (iI k)), (0, .ref a0), (1, .int (iI x))]) C dX7_goOver_38 (by decide) rfl ?_
          refine c_iconst C dX7_goOver_39 ?_
          refine c_istore (lv2 := [(5, .int (iI 0)), (2, .int (iI zz5)), (4, .null), (3, .int (iI k)), (0, .ref a0), (1, .int (iI x))]) C dX7_goOver_40 (by decide) rfl ?_
          have Lp3 : ∀ (nn : Nat) (d2 k2 : Int) , 201 - k2 < (nn : Int) → (-2147483648 ≤ d2 ∧ d2 ≤ 2147483647) → (0 ≤ k2 ∧ k2 ≤ 200) → cw p l e 2 ((PHM) + 0 - ((Phi (g0 G) sk) ln rv)) s m args below meth c G A 6 (MQ below (Qu G A (Qp G (Phi (g0 G) sk) ((Phi (g0 G) sk) ln rv) 0 (fun v L2 cl2 ln2 iv2 rv2 => ∃ f : Int, v = some (.int (iI f)) ∧ L = L2 ∧ cl = cl2 ∧ ln = ln2 ∧ iv = iv2 ∧ rv = rv2 ∧ (-2147483648 ≤ f ∧ f ≤ 2147483647) ∧ (True)))) args s (((PHM) + 0 - ((Phi (g0 G) sk) ln rv)) / 16) ((PHM) + 0 - ((Phi (g0 G) sk) ln rv)) A) (Phi (g0 G) sk) ((Phi (g0 G) sk) ln rv) L cl ln iv rv 0 42 [(2, .int (iI d2)), (5, .int (iI k2)), (4, .null), (3, .int (iI k)), (0, .ref a0), (1, .int (iI x))] [] := by
            intro nn
            induction nn with
            | zero =>
              intro  d2 k2  hm   hd2 hk2
              exact absurd hm (by omega)
            | succ nn ih3 =>
              intro  d2 k2  hm   hd2 hk2
              refine c_aloadr (j := 2) (r := none) C dX7_goOver_42 rfl ?_
              refine c_st (st2 := [.null]) rfl ?_
              refine c_ifnull (r := none) (tgt := 77) C dX7_goOver_44 (by decide) (fun _ => ?_) (fun _ q => by cases q)
              refine c_iinc (z := k) (j := 3) (lv2 := [(3, .int (iI (k + 1))), (2, .int (iI d2)), (5, .int (iI k2)), (4, .null), (0, .ref a0), (1, .int (iI x))]) C dX7_goOver_77 rfl (by decide) rfl ?_
              refine c_goto (tgt := 4) C dX7_goOver_80 (by decide) ?_
              refine c_lv (lv2 := [(2, .int (iI d2)), (3, .int (iI (k + 1))), (0, .ref a0), (1, .int (iI x))]) [1, 0, 4, 5] rfl ?_
              exact ih1  d2 (k + 1)  (by omega)   (by omega) (by omega)
          refine c_lv (lv2 := [(2, .int (iI zz5)), (5, .int (iI 0)), (4, .null), (3, .int (iI k)), (0, .ref a0), (1, .int (iI x))]) [1, 0, 2, 3, 4, 5] rfl ?_
          exact Lp3 203 zz5 0  (by omega)   (by omega) (by omega)
  refine c_lv (lv2 := [(2, .int (iI x)), (3, .int (iI 0)), (0, .ref a0), (1, .int (iI x))]) [1, 0, 2, 3] rfl ?_
  exact Lp1 203 x 0  (by omega)   (by omega) (by omega)
end
section
def MRK (sk cl : Nat → Nat) (iv : Nat → Nat → Int) (rv : Nat → Nat → Option Nat) : Prop := ∀ i : Nat, (i : Int) < iv (sk 22) 2 → ∀ t, el rv (sk 22) i = some t → cl t ≤ 100 + i
set_option maxHeartbeats 4000000 in
set_option maxRecDepth 100000 in
theorem Z_table {l : Launch} {G : GT} {mi : Nat} {sk : Nat → Nat} {L : List Nat} {cl ln : Nat → Nat} {iv : Nat → Nat → Int} {rv : Nat → Nat → Option Nat}  {a0 : Nat} {i : Int} {n : Int} {r : Option Nat} {r2 : Option Nat} (hW : WT (g0 G) sk L cl ln iv rv) (hS : SKL sk L cl) (t_a0 : ty L cl a0 210) (t_r : ∀ b, r = some b → ty L cl b 100) (t_r2 : ∀ b, r2 = some b → ty L cl b 100) (h_i : -2147483648 ≤ i ∧ i ≤ 2147483647) (h_n : -2147483648 ≤ n ∧ n ≤ 2147483647)  : Mc l G mi zPf 0 yX9_init cX9_init 5 none 4 [.ref a0, .int (iI i), .int (iI n), va_rf r, va_rf r2] L cl ln iv rv 90 (fun v L2 cl2 ln2 iv2 rv2 => v = none ∧ XT L cl ln L2 cl2 ln2 ∧ fT [210, 200, 202] L cl iv rv iv2 rv2 ∧ WT (g0 G) sk L2 cl2 ln2 iv2 rv2 ∧ (∃ b4 b5 b6, (∀ k, ([2, 3, 4, 5, 6] : List Nat).contains k = false → rv2 a0 k = rv a0 k) ∧ rv2 a0 4 = some b4 ∧ ty L2 cl2 b4 26 ∧ rv2 a0 5 = some b5 ∧ ty L2 cl2 b5 12 ∧ rv2 a0 6 = some b6 ∧ ty L2 cl2 b6 68 ∧ rv2 a0 2 = r ∧ rv2 a0 3 = r2 ∧ iv2 a0 7 = 0 ∧ iv2 a0 0 = i ∧ iv2 a0 1 = n ∧ b4 ∉ L ∧ iv2 b4 2 = 0 ∧ b5 ∉ L ∧ b6 ∉ L ∧ (∃ x5, rv2 b5 1 = some x5 ∧ ty L2 cl2 x5 42 ∧ x5 ∉ L) ∧ iv2 b5 2 = 0 ∧ (∀ k, rv2 b6 k = none))) := by
  refine Mc.mk (by decide) (by cases r <;> cases r2 <;> exact Nat.le_of_ble_eq_true rfl) ?_
  intro p e s m args below meth c A C hM
  have hph := (show zPf ln rv ≤ 0 from Nat.le_refl 0)
  refine c_lveq (show lv_args 0 [.ref a0, .int (iI i), .int (iI n), va_rf r, va_rf r2] = [(0, .ref a0), (1, .int (iI i)), (2, .int (iI n)), (3, (va_rf r)), (4, (va_rf r2))] from by cases r <;> cases r2 <;> rfl) ?_
  refine hv2 (show XT L cl ln L cl ln from XT.refl) (show fT [210, 200, 202] L cl iv rv iv rv from fT.refl) (fun hX0 hF0 => ?_)
  refine c_aload_n (j := 0) (x := a0) C dX9_init_0 rfl ?_
  refine c_objInit C dX9_init_1 w2_167 w1_30 w1_31 (by decide) (Nat.le_of_ble_eq_true rfl) ?_
  refine c_aload_n (j := 0) (x := a0) C dX9_init_4 rfl ?_
  refine c_new C ck_0 dv_0 ⟨rfl, rfl⟩ rfl (by decide) dX9_init_5 w2_168 w1_65 w1_6 (rom2 hph hph (by decide)) (fun qn1 cln1 lnn1 ivn1 rvn1 hqn1 hcn1 hln1 hin1 hrn1 => ⟨19, (z_in (by omega)), ?_⟩)
  refine c_g0 C (fun hg1 => ?_)
  refine hv4 (show ∀ b, b ≠ qn1 → lnn1 b = ln b from (fun b _ => by rw [hln1])) (hF0.new hX0 hqn1 hin1 hrn1) (show ty (L ++ [qn1]) cln1 qn1 200 from ty_new hcn1) (show qn1 ∉ L from fun h => hqn1 ((hX0 qn1 h).1)) (fun hxn1 F1 tqn1 h0qn1 => ?_)
  refine hv2 (hW.new (ln2 := lnn1) hqn1 (hg1 qn1 (List.mem_append_right _ List.mem_cons_self)) hcn1 hxn1 hin1 hrn1 (fun _ => ⟨(show (-2147483648 : Int) ≤ 0 by decide), (show (0 : Int) ≤ 2147483647 by decide)⟩) (Or.inl rfl) (fun q => by cases q) rfl rfl) (XT.new hqn1 hcn1 hxn1) (fun W1 xl1 => ?_)
  refine hv2 (hX0.trans xl1) (xl1.skl hS) (fun X1 sk1 => ?_)
  refine c_dup C dX9_init_8 rfl ?_
  refine hv2 (show (-2147483648) ≤ ivn1 qn1 2 ∧ ivn1 qn1 2 ≤ 2147483647 from W1.int tqn1 2) (show ivn1 qn1 2 = 0 from by rw [hin1]; exact up0_s) (fun ri1 ie1 => ?_)
  refine c_callI (As := []) (rest := [.ref qn1, .ref a0]) C hM (Z_list (a0 := qn1) W1 sk1 tqn1  ) dX9_init_9 kI_X9_11 rfl rfl (Nat.le_of_ble_eq_true rfl) ⟨(Nat.le_of_ble_eq_true rfl), (Nat.le_of_ble_eq_true rfl)⟩ (rz0 hph (by decide)) (fun rh1 Lh1 clh1 lnh1 ivh1 rvh1 h1 => ⟨19, zk0, ?_⟩)
  obtain ⟨rfl, rfl, rfl, rfl, fl1, W2, exf1⟩ := h1
  have F2 := F1.call X1 fl1 rfl
  refine c_st (st2 := [.ref qn1, .ref a0]) rfl ?_
  refine hv3 (exf1.2.1) (show (-2147483648) ≤ ivh1 qn1 2 ∧ ivh1 qn1 2 ≤ 2147483647 from W2.int tqn1 2) (show ∀ k, ([1] : List Nat).contains k = false → rvh1 qn1 k = none from fun k hk => (Eq.trans (show rvh1 qn1 k = rvn1 qn1 k from (exf1.2.2 k hk)) (show rvn1 qn1 k = none from (by rw [hrn1]; exact up0_s)))) (fun exf1s ri2 rn1 => ?_)
  refine c_retag (q := qn1) (t := 26) (by rw [tqn1.2]; rfl) (fun clr1 hcr1 => ?_)
  refine hv2 (xl1.ty t_a0) (show ty (L ++ [qn1]) clr1 qn1 26 from ⟨tqn1.1, by rw [hcr1, va_up_self]; rfl⟩) (fun ty1 tqr1 => ?_)
  have ty2 := ty_rt ty1 hcr1 (ne_ty ty1 tqn1 (by decide))
  have W3 := W2.retag tqn1.1 (by rw [tqn1.2]; rfl) hcr1 (fun k => by
        rcases k with _ | _ | _ | k
        · exact W2.int tqn1 0
        · exact W2.int tqn1 1
        · exact ⟨(by show 0 ≤ ivh1 qn1 2; first | exact bx_lo ‹ivh1 qn1 2 = _› (by decide) | omega), (by show ivh1 qn1 2 ≤ 200; first | exact bx_hi ‹ivh1 qn1 2 = _› (by decide) | omega)⟩
        · exact W2.int tqn1 (k + 3)) (fun k => by
        rcases k with _ | _ | _ | k
        · rw [rn1 0 (by decide)]; exact rok_none tqr1 rfl
        · rw [exf1.1]; exact rok_lst tqr1 rfl
        · rw [rn1 2 (by decide)]; exact rok_none tqr1 rfl
        · rw [rn1 (k + 3) (by simp)]; exact rok_none tqr1 rfl) rfl (fun _ b hb => by rw [exf1.1] at hb; cases hb; exact Or.inl ⟨rfl, by omega⟩) (fun _ b hb i hi => absurd hi (by omega)) rfl
  refine hv4 (X1.rt hcr1 h0qn1) (sk1.rt hcr1 (by rw [tqn1.2]; rfl)) (fun b hb => xl1.ty (t_r b hb)) (fun b hb => xl1.ty (t_r2 b hb)) (fun X2 sk2 on1 on3 => ?_)
  refine hv2 (fun b hb => ty_rt (on1 b hb) hcr1 (ne_ty (on1 b hb) tqn1 (by decide))) (fun b hb => ty_rt (on3 b hb) hcr1 (ne_ty (on3 b hb) tqn1 (by decide))) (fun on2 on4 => ?_)
  refine c_putrF (x := (some qn1)) (k := 4) C ck_10 dX9_init_12 w2_186 (by decide) rfl rfl rfl ty2 rfl rfl (by decide) rfl (by rfl) (by rfl) (fun rv1 pq1 => ⟨19, (zp2 (Nat.le_refl _)), ?_⟩)
  refine hv2 (W3.putr pq1 ty2 (fun qr => by rw [ty2.2] at qr; cases qr) rfl (by decide)) (F2.putr X2 pq1 ty2 rfl) (fun W4 F3 => ?_)
  refine c_aload_n (j := 0) (x := a0) C dX9_init_15 rfl ?_
  refine c_new C ck_2 dv_2 ⟨rfl, rfl⟩ rfl (by decide) dX9_init_16 w2_170 w1_33 w1_2 (rom2 hph (Nat.le_refl 0) (by decide)) (fun qn2 cln2 lnn2 ivn2 rvn2 hqn2 hcn2 hln2 hin2 hrn2 => ⟨38, (z_in (by omega)), ?_⟩)
  refine c_g0 C (fun hg2 => ?_)
  refine hv4 (show ∀ b, b ≠ qn2 → lnn2 b = lnn1 b from (fun b _ => by rw [hln2])) (F3.new X2 hqn2 hin2 hrn2) (show ty ((L ++ [qn1]) ++ [qn2]) cln2 qn2 202 from ty_new hcn2) (show qn2 ∉ L from fun h => hqn2 ((X2 qn2 h).1)) (fun hxn2 F4 tqn2 h0qn2 => ?_)
  refine hv2 (W4.new (ln2 := lnn2) hqn2 (hg2 qn2 (List.mem_append_right _ List.mem_cons_self)) hcn2 hxn2 hin2 hrn2 (fun _ => ⟨(show (-2147483648 : Int) ≤ 0 by decide), (show (0 : Int) ≤ 2147483647 by decide)⟩) (Or.inl rfl) (fun q => by cases q) rfl rfl) (XT.new hqn2 hcn2 hxn2) (fun W5 xl3 => ?_)
  refine hv2 (X2.trans xl3) (xl3.skl sk2) (fun X3 sk3 => ?_)
  refine c_dup C dX9_init_19 rfl ?_
  refine c_sipush (z := 200) C dX9_init_20 (by decide) ?_
  refine c_callI (As := [.int (iI 200)]) (rest := [.ref qn2, .ref a0]) C hM (Z_ints_12 (a0 := qn2) (i := 200) W5 sk3 tqn2 ⟨by decide, by decide⟩ ) dX9_init_23 kI_X9_20 rfl rfl (Nat.le_of_ble_eq_true rfl) ⟨(Nat.le_of_ble_eq_true rfl), (Nat.le_of_ble_eq_true rfl)⟩ (rz0 hph (by decide)) (fun rh2 Lh2 clh2 lnh2 ivh2 rvh2 h2 => ⟨70, zk0, ?_⟩)
  obtain ⟨rfl, xl4, fl2, W6, exf2⟩ := h2
  refine hv5 (F4.call X3 fl2 rfl) (xl3.ty ty2) (xl3.ty tqr1) (X3.trans xl4) (xl4.skl sk3) (fun F5 ty3 ty4 X4 sk4 => ?_)
  refine c_st (st2 := [.ref qn2, .ref a0]) rfl ?_
  obtain ⟨bexf2, exf2x, exf2r, exf2t, exf2l, exf2i, exf2j, exf2n⟩ := exf2
  refine hv2 (show ∀ k, ([1] : List Nat).contains k = false → rvh2 qn2 k = none from fun k hk => (Eq.trans (show rvh2 qn2 k = rvn2 qn2 k from (exf2x k hk)) (show rvn2 qn2 k = none from (by rw [hrn2]; exact up0_s)))) (xl4.ty tqn2) (fun rn2 ty5 => ?_)
  refine c_retag (q := qn2) (t := 12) (by rw [ty5.2]; rfl) (fun clr2 hcr2 => ?_)
  refine hv4 (xl4.ty ty3) (xl4.ty ty4) (ty_rt exf2t hcr2 (ne_ty exf2t ty5 (by decide))) (show ty Lh2 clr2 qn2 12 from ⟨ty5.1, by rw [hcr2, va_up_self]; rfl⟩) (fun ty6 ty8 ty10 tqr2 => ?_)
  refine hv2 (ty_rt ty6 hcr2 (ne_ty ty6 ty5 (by decide))) (ty_rt ty8 hcr2 (ne_ty ty8 ty5 (by decide))) (fun ty7 ty9 => ?_)
  have W7 := W6.retag ty5.1 (by rw [ty5.2]; rfl) hcr2 (fun k => by
        rcases k with _ | _ | _ | k
        · exact ⟨(by show 200 ≤ ivh2 qn2 0; first | exact bx_lo ‹ivh2 qn2 0 = _› (by decide) | omega), (by show ivh2 qn2 0 ≤ 200; first | exact bx_hi ‹ivh2 qn2 0 = _› (by decide) | omega)⟩
        · exact W6.int ty5 1
        · exact ⟨(by show 0 ≤ ivh2 qn2 2; first | exact bx_lo ‹ivh2 qn2 2 = _› (by decide) | omega), (by show ivh2 qn2 2 ≤ 200; first | exact bx_hi ‹ivh2 qn2 2 = _› (by decide) | omega)⟩
        · exact W6.int ty5 (k + 3)) (fun k => by
        rcases k with _ | _ | _ | k
        · rw [rn2 0 (by decide)]; exact rok_none tqr2 rfl
        · rw [exf2r]; exact rok_some tqr2 ty10 rfl (by decide) rfl
        · rw [rn2 2 (by decide)]; exact rok_none tqr2 rfl
        · rw [rn2 (k + 3) (by simp)]; exact rok_none tqr2 rfl) rfl (fun _ b hb => by rw [exf2r] at hb; cases hb; exact Or.inr ⟨exf2t.1, by omega⟩) (fun z => by cases z) rfl
  refine hv4 (X4.rt hcr2 h0qn2) (sk4.rt hcr2 (by rw [ty5.2]; rfl)) (fun b hb => xl3.ty (on2 b hb)) (fun b hb => xl3.ty (on4 b hb)) (fun X5 sk5 on5 on8 => ?_)
  refine hv2 (fun b hb => xl4.ty (on5 b hb)) (fun b hb => xl4.ty (on8 b hb)) (fun on6 on9 => ?_)
  refine hv2 (fun b hb => ty_rt (on6 b hb) hcr2 (ne_ty (on6 b hb) ty5 (by decide))) (fun b hb => ty_rt (on9 b hb) hcr2 (ne_ty (on9 b hb) ty5 (by decide))) (fun on7 on10 => ?_)
  refine c_putrF (x := (some qn2)) (k := 5) C ck_10 dX9_init_26 w2_190 (by decide) rfl rfl rfl ty7 rfl rfl (by decide) rfl (by rfl) (by rfl) (fun rv2 pq2 => ⟨70, (zp2 (Nat.le_refl _)), ?_⟩)
  refine hv2 (W7.putr pq2 ty7 (fun qr => by rw [ty7.2] at qr; cases qr) rfl (by decide)) (F5.putr X5 pq2 ty7 rfl) (fun W8 F6 => ?_)
  refine c_aload_n (j := 0) (x := a0) C dX9_init_29 rfl ?_
  refine c_iconst C dX9_init_30 ?_
  refine c_newaR (z := 4) (N := 4) C 68 dX9_init_31 w2_172 w2_173t rfl (by omega) (by omega) (rom2 hph (Nat.le_refl 0) (by decide)) (fun qn3 cln3 lnn3 ivn3 rvn3 hqn3 hcn3 hln3 hin3 hrn3 => ⟨90, (z_in (by omega)), ?_⟩)
  refine c_g0 C (fun hg3 => ?_)
  refine hv5 (show ∀ b, b ≠ qn3 → lnn3 b = lnh2 b from (fun b hb => by rw [hln3]; exact va_up_ne _ _ hb)) (show lnn3 qn3 = 4 from by rw [hln3]; exact va_up_self _ _ _) (F6.new X5 hqn3 hin3 hrn3) (show ty (Lh2 ++ [qn3]) cln3 qn3 68 from ty_new hcn3) (show qn3 ∉ L from fun h => hqn3 ((X5 qn3 h).1)) (fun hxn3 lqn3 F7 tqn3 h0qn3 => ?_)
  refine hv2 (W8.new (ln2 := lnn3) hqn3 (hg3 qn3 (List.mem_append_right _ List.mem_cons_self)) hcn3 hxn3 hin3 hrn3 (fun _ => ⟨(show (-2147483648 : Int) ≤ 0 by decide), (show (0 : Int) ≤ 2147483647 by decide)⟩) (Or.inr (fun _ => rfl)) (fun _ => by show 4 ≤ lnn3 qn3 ∧ lnn3 qn3 ≤ 4; omega) rfl rfl) (XT.new hqn3 hcn3 hxn3) (fun W9 xl5 => ?_)
  refine hv3 (X5.trans xl5) (xl5.skl sk5) (xl5.ty ty7) (fun X6 sk6 ty11 => ?_)
  refine c_putrF (x := (some qn3)) (k := 6) C ck_10 dX9_init_34 w2_192 (by decide) rfl rfl rfl ty11 rfl rfl (by decide) rfl (by rfl) (by rfl) (fun rv3 pq3 => ⟨90, (zp2 (Nat.le_refl _)), ?_⟩)
  refine hv2 (W9.putr pq3 ty11 (fun qr => by rw [ty11.2] at qr; cases qr) rfl (by decide)) (F7.putr X6 pq3 ty11 rfl) (fun W10 F8 => ?_)
  refine c_aload_n (j := 0) (x := a0) C dX9_init_37 rfl ?_
  refine c_iconst C dX9_init_38 ?_
  refine c_put (z := 0) (k := 7) C ck_10 dX9_init_39 w2_197 (by decide) rfl ty11 rfl rfl (by decide) rfl (by decide) (by decide) (fun iv1 pq4 => ?_)
  refine hv2 (W10.puti pq4 ty11 ⟨by decide, by decide⟩ rfl) (F8.puti X6 pq4 ty11 rfl) (fun W11 F9 => ?_)
  refine c_aload_n (j := 0) (x := a0) C dX9_init_42 rfl ?_
  refine c_iload_n (j := 1) C dX9_init_43 rfl ?_
  refine c_putF (z := i) (k := 0) C ck_10 dX9_init_44 w2_174 (by decide) rfl rfl rfl ty11 rfl rfl (by decide) rfl (by rfl) (by rfl) (fun iv2 pq5 => ?_)
  refine hv2 (W11.puti pq5 ty11 (show (-2147483648) ≤ i ∧ i ≤ 2147483647 by omega) rfl) (F9.puti X6 pq5 ty11 rfl) (fun W12 F10 => ?_)
  refine c_aload_n (j := 0) (x := a0) C dX9_init_47 rfl ?_
  refine c_iload_n (j := 2) C dX9_init_48 rfl ?_
  refine c_putF (z := n) (k := 1) C ck_10 dX9_init_49 w2_178 (by decide) rfl rfl rfl ty11 rfl rfl (by decide) rfl (by rfl) (by rfl) (fun iv3 pq6 => ?_)
  refine hv2 (W12.puti pq6 ty11 (show (-2147483648) ≤ n ∧ n ≤ 2147483647 by omega) rfl) (F10.puti X6 pq6 ty11 rfl) (fun W13 F11 => ?_)
  refine c_aload_n (j := 0) (x := a0) C dX9_init_52 rfl ?_
  refine c_aloadr_n (j := 3) (r := r) C dX9_init_53 rfl ?_
  refine c_putrF (x := r) (k := 2) C ck_10 dX9_init_54 w2_180 (by decide) rfl rfl rfl ty11 rfl rfl (by decide) rfl (narr r (Or.inl ⟨_, rfl⟩)).1 (narr r (Or.inl ⟨_, rfl⟩)).2 (fun rv4 pq7 => ⟨90, (zp2 (Nat.le_refl _)), ?_⟩)
  refine hv2 (W13.putr pq7 ty11 (fun qr => by rw [ty11.2] at qr; cases qr) rfl (by decide)) (F11.putr X6 pq7 ty11 rfl) (fun W14 F12 => ?_)
  refine c_aload_n (j := 0) (x := a0) C dX9_init_57 rfl ?_
  refine c_aloadr (j := 4) (r := r2) C dX9_init_58 rfl ?_
  refine c_putrF (x := r2) (k := 3) C ck_10 dX9_init_60 w2_183 (by decide) rfl rfl rfl ty11 rfl rfl (by decide) rfl (narr r2 (Or.inl ⟨_, rfl⟩)).1 (narr r2 (Or.inl ⟨_, rfl⟩)).2 (fun rv5 pq8 => ⟨90, (zp2 (Nat.le_refl _)), ?_⟩)
  refine hv4 (W14.putr pq8 ty11 (fun qr => by rw [ty11.2] at qr; cases qr) rfl (by decide)) (F12.putr X6 pq8 ty11 rfl) (show rv1 a0 4 = (some qn1) from by rw [pq1]; exact upr_s) (show rvn2 a0 4 = rv1 a0 4 from (by rw [hrn2]; exact congrFun (up0_a (ne_in ty2.1 hqn2)) _)) (fun W15 F13 rp1 re1 => ?_)
  rw [rp1] at re1
  have re2 : rvh2 a0 4 = rvn2 a0 4 := (fl2.r ty3 rfl 4)
  rw [re1] at re2
  have re3 : rv2 a0 4 = rvh2 a0 4 := (by rw [pq2]; exact upr_j (by decide))
  rw [re2] at re3
  have re4 : rvn3 a0 4 = rv2 a0 4 := (by rw [hrn3]; exact congrFun (up0_a (ne_in ty7.1 hqn3)) _)
  rw [re3] at re4
  have re5 : rv3 a0 4 = rvn3 a0 4 := (by rw [pq3]; exact upr_j (by decide))
  rw [re4] at re5
  have re6 : rv4 a0 4 = rv3 a0 4 := (by rw [pq7]; exact upr_j (by decide))
  rw [re5] at re6
  have re7 : rv5 a0 4 = rv4 a0 4 := (by rw [pq8]; exact upr_j (by decide))
  rw [re6] at re7
  refine hv2 (show rv2 a0 5 = (some qn2) from by rw [pq2]; exact upr_s) (show rvn3 a0 5 = rv2 a0 5 from (by rw [hrn3]; exact congrFun (up0_a (ne_in ty7.1 hqn3)) _)) (fun rp2 re8 => ?_)
  rw [rp2] at re8
  have re9 : rv3 a0 5 = rvn3 a0 5 := (by rw [pq3]; exact upr_j (by decide))
  rw [re8] at re9
  have re10 : rv4 a0 5 = rv3 a0 5 := (by rw [pq7]; exact upr_j (by decide))
  rw [re9] at re10
  have re11 : rv5 a0 5 = rv4 a0 5 := (by rw [pq8]; exact upr_j (by decide))
  rw [re10] at re11
  refine hv2 (show rv3 a0 6 = (some qn3) from by rw [pq3]; exact upr_s) (show rv4 a0 6 = rv3 a0 6 from (by rw [pq7]; exact upr_j (by decide))) (fun rp3 re12 => ?_)
  rw [rp3] at re12
  have re13 : rv5 a0 6 = rv4 a0 6 := (by rw [pq8]; exact upr_j (by decide))
  rw [re12] at re13
  refine hv5 (show ∀ k, ([2, 3, 4, 5, 6] : List Nat).contains k = false → rv5 a0 k = rv a0 k from fun k hk => (Eq.trans (show rv5 a0 k = rv4 a0 k from (by rw [pq8]; exact upr_j (fun e => by subst e; exact absurd hk (by decide)))) (Eq.trans (show rv4 a0 k = rv3 a0 k from (by rw [pq7]; exact upr_j (fun e => by subst e; exact absurd hk (by decide)))) (Eq.trans (show rv3 a0 k = rvn3 a0 k from (by rw [pq3]; exact upr_j (fun e => by subst e; exact absurd hk (by decide)))) (Eq.trans (show rvn3 a0 k = rv2 a0 k from (by rw [hrn3]; exact congrFun (up0_a (ne_in ty7.1 hqn3)) _)) (Eq.trans (show rv2 a0 k = rvh2 a0 k from (by rw [pq2]; exact upr_j (fun e => by subst e; exact absurd hk (by decide)))) (Eq.trans (show rvh2 a0 k = rvn2 a0 k from (fl2.r ty3 rfl k)) (Eq.trans (show rvn2 a0 k = rv1 a0 k from (by rw [hrn2]; exact congrFun (up0_a (ne_in ty2.1 hqn2)) _)) (Eq.trans (show rv1 a0 k = rvh1 a0 k from (by rw [pq1]; exact upr_j (fun e => by subst e; exact absurd hk (by decide)))) (Eq.trans (show rvh1 a0 k = rvn1 a0 k from (fl1.r ty1 rfl k)) (show rvn1 a0 k = rv a0 k from (by rw [hrn1]; exact congrFun (up0_a (ne_in t_a0.1 hqn1)) _)))))))))))) (xl5.ty ty9) (xl5.ty tqr2) (show rv4 a0 2 = r from by rw [pq7]; exact upr_s) (show rv5 a0 2 = rv4 a0 2 from (by rw [pq8]; exact upr_j (by decide))) (fun rn3 ty12 ty13 rp4 re14 => ?_)
  rw [rp4] at re14
  refine hv18 (show rv5 a0 3 = r2 from by rw [pq8]; exact upr_s) (show (-2147483648) ≤ iv3 a0 7 ∧ iv3 a0 7 ≤ 2147483647 from W15.int ty11 7) (show iv3 a0 7 = iv2 a0 7 from by rw [pq6]; exact up2_j (by decide)) (show iv2 a0 7 = iv1 a0 7 from by rw [pq5]; exact up2_j (by decide)) (show iv1 a0 7 = 0 from by rw [pq4]; exact up2_s) (show (-2147483648) ≤ iv3 a0 0 ∧ iv3 a0 0 ≤ 2147483647 from W15.int ty11 0) (show iv3 a0 0 = iv2 a0 0 from by rw [pq6]; exact up2_j (by decide)) (show iv2 a0 0 = i from by rw [pq5]; exact up2_s) (show (-2147483648) ≤ iv3 a0 1 ∧ iv3 a0 1 ≤ 2147483647 from W15.int ty11 1) (show iv3 a0 1 = n from by rw [pq6]; exact up2_s) (show 0 ≤ iv3 qn1 2 ∧ iv3 qn1 2 ≤ 200 from W15.int ty12 2) (show iv3 qn1 2 = iv2 qn1 2 from by rw [pq6]; exact up2_k (ne_ty ty12 ty11 (by decide))) (show iv2 qn1 2 = iv1 qn1 2 from by rw [pq5]; exact up2_k (ne_ty ty12 ty11 (by decide))) (show iv1 qn1 2 = ivn3 qn1 2 from by rw [pq4]; exact up2_k (ne_ty ty12 ty11 (by decide))) (show ivn3 qn1 2 = ivh2 qn1 2 from by rw [hin3]; exact congrFun (up0_a (ne_in ty9.1 hqn3)) _) (show ivh2 qn1 2 = ivn2 qn1 2 from fl2.i ty4 rfl 2) (show ivn2 qn1 2 = ivh1 qn1 2 from by rw [hin2]; exact congrFun (up0_a (ne_in tqr1.1 hqn2)) _) (show rv2 qn2 1 = rvh2 qn2 1 from (by rw [pq2]; exact congrFun (upr_a (ne_ty tqr2 ty7 (by decide))) _)) (fun rp5 ri3 ie2 ie3 ie4 ri4 ie5 ie6 ri5 ie7 ri6 ie8 ie9 ie10 ie11 ie12 ie13 re15 => ?_)
  rw [exf2r] at re15
  have re16 : rvn3 qn2 1 = rv2 qn2 1 := (by rw [hrn3]; exact congrFun (up0_a (ne_in tqr2.1 hqn3)) _)
  rw [re15] at re16
  have re17 : rv3 qn2 1 = rvn3 qn2 1 := (by rw [pq3]; exact congrFun (upr_a (ne_ty ty13 ty11 (by decide))) _)
  rw [re16] at re17
  have re18 : rv4 qn2 1 = rv3 qn2 1 := (by rw [pq7]; exact congrFun (upr_a (ne_ty ty13 ty11 (by decide))) _)
  rw [re17] at re18
  have re19 : rv5 qn2 1 = rv4 qn2 1 := (by rw [pq8]; exact congrFun (upr_a (ne_ty ty13 ty11 (by decide))) _)
  rw [re18] at re19
  refine hv7 (xl5.ty ty10) (show 0 ≤ iv3 qn2 2 ∧ iv3 qn2 2 ≤ 200 from W15.int ty13 2) (show iv3 qn2 2 = iv2 qn2 2 from by rw [pq6]; exact up2_k (ne_ty ty13 ty11 (by decide))) (show iv2 qn2 2 = iv1 qn2 2 from by rw [pq5]; exact up2_k (ne_ty ty13 ty11 (by decide))) (show iv1 qn2 2 = ivn3 qn2 2 from by rw [pq4]; exact up2_k (ne_ty ty13 ty11 (by decide))) (show ivn3 qn2 2 = ivh2 qn2 2 from by rw [hin3]; exact congrFun (up0_a (ne_in tqr2.1 hqn3)) _) (show ∀ k, ([] : List Nat).contains k = false → rv5 qn3 k = none from fun k hk => (Eq.trans (show rv5 qn3 k = rv4 qn3 k from (by rw [pq8]; exact congrFun (upr_a (ne_ty tqn3 ty11 (by decide))) _)) (Eq.trans (show rv4 qn3 k = rv3 qn3 k from (by rw [pq7]; exact congrFun (upr_a (ne_ty tqn3 ty11 (by decide))) _)) (Eq.trans (show rv3 qn3 k = rvn3 qn3 k from (by rw [pq3]; exact congrFun (upr_a (ne_ty tqn3 ty11 (by decide))) _)) (show rvn3 qn3 k = none from (by rw [hrn3]; exact up0_s)))))) (fun ty14 ri7 ie14 ie15 ie16 ie17 rn4 => ?_)
  exact c_vret C dX9_init_63 rfl (by decide) (rom0 hph (Nat.le_refl 0) (by decide)) ⟨rfl, X6, F13, W15, ⟨qn1, qn2, qn3, rn3, re7, ty12, re11, ty13, re13, tqn3, re14, rp5, (by omega), (by omega), (by omega), h0qn1, (by omega), h0qn2, h0qn3, ⟨bexf2, re19, ty14, (fun hm => exf2n (X3 _ hm).1)⟩, (by omega), (fun k => rn4 k rfl)⟩⟩
def MH (f i k : Int) : Prop := f = 1 ↔ ((i = 0 ∧ k ≤ 2) ∨ (i = 1 ∧ k = 2) ∨ (i ≠ 0 ∧ i ≠ 1 ∧ k = 5))
set_option maxHeartbeats 4000000 in
set_option maxRecDepth 100000 in
theorem C_mayHave {l : Launch} {G : GT} {mi : Nat} {sk : Nat → Nat} {L : List Nat} {cl ln : Nat → Nat} {iv : Nat → Nat → Int} {rv : Nat → Nat → Option Nat}  {a0 : Nat} {i : Int} (hW : WT (g0 G) sk L cl ln iv rv) (hS : SKL sk L cl) (t_a0 : ty L cl a0 100) (h_i : -2147483648 ≤ i ∧ i ≤ 2147483647)  : Mc l G mi (Phi (g0 G) sk) PHM yX9_mayHave cX9_mayHave 2 (some .boolean) 0 [.ref a0, .int (iI i)] L cl ln iv rv 0 (fun v L2 cl2 ln2 iv2 rv2 => ∃ f : Int, v = some (.int (iI f)) ∧ L = L2 ∧ cl = cl2 ∧ ln = ln2 ∧ iv = iv2 ∧ rv = rv2 ∧ (f = 0 ∨ f = 1) ∧ (MH f i (iv a0 0))) := by
  refine Mc.mk (by decide) (Nat.le_of_ble_eq_true rfl) ?_
  intro p e s m args below meth c A C hM
  refine hv3 (Phi.le hW hS) (show XT L cl ln L cl ln from XT.refl) (show fT [] L cl iv rv iv rv from fT.refl) (fun hph hX0 hF0 => ?_)
  refine c_iload_n (j := 1) C dX9_mayHave_0 rfl ?_
  refine c_if_ne (tgt := 18) C ⟨by omega, by omega⟩ dX9_mayHave_1 (by decide) (fun c1 => ?_) (fun c1 => ?_)
  · refine c_iload_n (j := 1) C dX9_mayHave_18 rfl ?_
    refine c_iconst C dX9_mayHave_19 ?_
    refine c_icmp_ne (tgt := 39) C ⟨by omega, by omega⟩ ⟨by decide, by decide⟩ dX9_mayHave_20 (by decide) (fun c2 => ?_) (fun c2 => ?_)
    · refine c_aload_n (j := 0) (x := a0) C dX9_mayHave_39 rfl ?_
      have ri1 : (-2147483648) ≤ iv a0 0 ∧ iv a0 0 ≤ 2147483647 := hW.int t_a0 0
      refine c_get (k := 0) C ck_10 dX9_mayHave_40 w2_174 (by decide) t_a0 rfl rfl (by decide) rfl ?_
      refine c_iconst C dX9_mayHave_43 ?_
      refine c_icmp_ne (tgt := 51) C (r32_c (lo := (-2147483648)) (hi := 2147483647) ri1.1 ri1.2 (by decide) (by decide)) ⟨by decide, by decide⟩ dX9_mayHave_44 (by decide) (fun c3 => ?_) (fun c3 => ?_)
      · refine c_iconst C dX9_mayHave_51 ?_
        exact c_zret C dX9_mayHave_52 rfl (Or.inl rfl) (by decide) (rom0 hph hph (by decide)) ⟨0, rfl, rfl, rfl, rfl, rfl, rfl, (Or.inl rfl), (by unfold MH; omega)⟩
      · refine c_iconst C dX9_mayHave_47 ?_
        refine c_goto (tgt := 52) C dX9_mayHave_48 (by decide) ?_
        exact c_zret C dX9_mayHave_52 rfl (Or.inr rfl) (by decide) (rom0 hph hph (by decide)) ⟨1, rfl, rfl, rfl, rfl, rfl, rfl, (Or.inr rfl), (by unfold MH; omega)⟩
    · refine c_aload_n (j := 0) (x := a0) C dX9_mayHave_23 rfl ?_
      have ri2 : (-2147483648) ≤ iv a0 0 ∧ iv a0 0 ≤ 2147483647 := hW.int t_a0 0
      refine c_get (k := 0) C ck_10 dX9_mayHave_24 w2_174 (by decide) t_a0 rfl rfl (by decide) rfl ?_
      refine c_iconst C dX9_mayHave_27 ?_
      refine c_icmp_ne (tgt := 35) C (r32_c (lo := (-2147483648)) (hi := 2147483647) ri2.1 ri2.2 (by decide) (by decide)) ⟨by decide, by decide⟩ dX9_mayHave_28 (by decide) (fun c4 => ?_) (fun c4 => ?_)
      · refine c_iconst C dX9_mayHave_35 ?_
        refine c_goto (tgt := 52) C dX9_mayHave_36 (by decide) ?_
        exact c_zret C dX9_mayHave_52 rfl (Or.inl rfl) (by decide) (rom0 hph hph (by decide)) ⟨0, rfl, rfl, rfl, rfl, rfl, rfl, (Or.inl rfl), (by unfold MH; omega)⟩
      · refine c_iconst C dX9_mayHave_31 ?_
        refine c_goto (tgt := 52) C dX9_mayHave_32 (by decide) ?_
        exact c_zret C dX9_mayHave_52 rfl (Or.inr rfl) (by decide) (rom0 hph hph (by decide)) ⟨1, rfl, rfl, rfl, rfl, rfl, rfl, (Or.inr rfl), (by unfold MH; omega)⟩
  · refine c_aload_n (j := 0) (x := a0) C dX9_mayHave_4 rfl ?_
    have ri3 : (-2147483648) ≤ iv a0 0 ∧ iv a0 0 ≤ 2147483647 := hW.int t_a0 0
    refine c_get (k := 0) C ck_10 dX9_mayHave_5 w2_174 (by decide) t_a0 rfl rfl (by decide) rfl ?_
    refine c_iconst C dX9_mayHave_8 ?_
    refine c_icmp_gt (tgt := 16) C (r32_c (lo := (-2147483648)) (hi := 2147483647) ri3.1 ri3.2 (by decide) (by decide)) ⟨by decide, by decide⟩ dX9_mayHave_9 (by decide) (fun c5 => ?_) (fun c5 => ?_)
    · refine c_iconst C dX9_mayHave_16 ?_
      exact c_zret C dX9_mayHave_17 rfl (Or.inl rfl) (by decide) (rom0 hph hph (by decide)) ⟨0, rfl, rfl, rfl, rfl, rfl, rfl, (Or.inl rfl), (by unfold MH; omega)⟩
    · refine c_iconst C dX9_mayHave_12 ?_
      refine c_goto (tgt := 17) C dX9_mayHave_13 (by decide) ?_
      exact c_zret C dX9_mayHave_17 rfl (Or.inr rfl) (by decide) (rom0 hph hph (by decide)) ⟨1, rfl, rfl, rfl, rfl, rfl, rfl, (Or.inr rfl), (by unfold MH; omega)⟩
set_option maxHeartbeats 4000000 in
set_option maxRecDepth 100000 in
theorem C_isUpright {l : Launch} {G : GT} {mi : Nat} {sk : Nat → Nat} {L : List Nat} {cl ln : Nat → Nat} {iv : Nat → Nat → Int} {rv : Nat → Nat → Option Nat}  {r : Option Nat} (hW : WT (g0 G) sk L cl ln iv rv) (hS : SKL sk L cl) (t_r : ∀ b, r = some b → ty L cl b 100)  : Mc l G mi (Phi (g0 G) sk) PHM yX9_isUpright cX9_isUpright 2 (some .boolean) 0 [va_rf r] L cl ln iv rv 0 (fun v L2 cl2 ln2 iv2 rv2 => ∃ f : Int, v = some (.int (iI f)) ∧ L = L2 ∧ cl = cl2 ∧ ln = ln2 ∧ iv = iv2 ∧ rv = rv2 ∧ (f = 0 ∨ f = 1) ∧ (True)) := by
  refine Mc.mk (by decide) (by cases r <;> exact Nat.le_of_ble_eq_true rfl) ?_
  intro p e s m args below meth c A C hM
  have hph := Phi.le hW hS
  refine c_lveq (show lv_args 0 [va_rf r] = [(0, (va_rf r))] from by cases r <;> rfl) ?_
  refine hv2 (show XT L cl ln L cl ln from XT.refl) (show fT [] L cl iv rv iv rv from fT.refl) (fun hX0 hF0 => ?_)
  refine c_aloadr_n (j := 0) (r := r) C dX9_isUpright_0 rfl ?_
  refine c_astorer_n (r := r) (lv2 := [(1, (va_rf r)), (0, (va_rf r))]) C dX9_isUpright_1 (by decide) (by cases r <;> rfl) ?_
  have Lp1 : ∀ (nn : Nat) (tq : Option Nat) (rk : Int) , rk - 99 < (nn : Int) → (∀ b, tq = some b → ty L cl b 100) → (99 ≤ rk) → (∀ b, tq = some b → ((cl b : Nat) : Int) ≤ rk) → cw p l e 0 ((PHM) + 0 - ((Phi (g0 G) sk) ln rv)) s m args below meth c G A 2 (MQ below (Qu G A (Qp G (Phi (g0 G) sk) ((Phi (g0 G) sk) ln rv) 0 (fun v L2 cl2 ln2 iv2 rv2 => ∃ f : Int, v = some (.int (iI f)) ∧ L = L2 ∧ cl = cl2 ∧ ln = ln2 ∧ iv = iv2 ∧ rv = rv2 ∧ (f = 0 ∨ f = 1) ∧ (True)))) args s (((PHM) + 0 - ((Phi (g0 G) sk) ln rv)) / 16) ((PHM) + 0 - ((Phi (g0 G) sk) ln rv)) A) (Phi (g0 G) sk) ((Phi (g0 G) sk) ln rv) L cl ln iv rv 0 2 [(1, (va_rf tq)), (0, (va_rf r))] [] := by
    intro nn
    induction nn with
    | zero =>
      intro tq rk  hm  ty_tq h99 hrk
      exact absurd hm (by omega)
    | succ nn ih1 =>
      intro tq rk  hm  ty_tq h99 hrk
      refine c_aloadr_n (j := 0) (r := tq) C dX9_isUpright_2 rfl ?_
      refine c_ifnull (r := tq) (tgt := 23) C dX9_isUpright_3 (by decide) (fun oq1 => ?_) (fun ob1 oq1 => ?_)
      · subst oq1
        refine c_lv (lv2 := [(1, .null), (0, (va_rf r))]) [0, 1] rfl ?_
        refine c_st (st2 := []) rfl ?_
        refine c_iconst C dX9_isUpright_23 ?_
        exact c_zret C dX9_isUpright_24 rfl (Or.inr rfl) (by decide) (rom0 hph hph (by decide)) ⟨1, rfl, rfl, rfl, rfl, rfl, rfl, (Or.inr rfl), trivial⟩
      · subst oq1
        refine hv2 (ty_tq ob1 rfl) (hrk ob1 rfl) (fun tob1 hkob1 => ?_)
        have tgob1 := bt_100 tob1.2
        refine c_lv (lv2 := [(1, .ref ob1), (0, (va_rf r))]) [0, 1] rfl ?_
        refine c_st (st2 := []) rfl ?_
        refine c_aload_n (j := 0) (x := ob1) C dX9_isUpright_6 rfl ?_
        have ri1 : 0 ≤ iv ob1 7 ∧ iv ob1 7 ≤ 1 := hW.int tob1 7
        refine c_get (k := 7) C ck_10 dX9_isUpright_7 w2_197 (by decide) tob1 rfl rfl (by decide) rfl ?_
        refine c_if_eq (tgt := 15) C (r32_c (lo := 0) (hi := 1) ri1.1 ri1.2 (by decide) (by decide)) dX9_isUpright_10 (by decide) (fun c1 => ?_) (fun c1 => ?_)
        · refine c_aload_n (j := 0) (x := ob1) C dX9_isUpright_15 rfl ?_
          rcases hW.opt tob1 2 rfl rfl with ⟨nq1, _⟩ | ⟨nb1, nq1, tnb1⟩
          · refine c_getr (k := 2) C ck_10 dX9_isUpright_16 w2_180 (by decide) tob1 rfl rfl (by decide) rfl nq1 ?_
            refine c_st (st2 := [.null]) rfl ?_
            refine c_astorer_n (r := none) (lv2 := [(1, .null), (0, (va_rf r))]) C dX9_isUpright_19 (by decide) (by cases r <;> rfl) ?_
            refine c_goto (tgt := 2) C dX9_isUpright_20 (by decide) ?_
            refine c_lv (lv2 := [(1, .null), (0, (va_rf r))]) [0, 1] rfl ?_
            exact ih1  none (rk - 1)  (by omega)  (fun _ q => by cases q) (by omega) (fun _ q => by cases q)
          · have rknb1 := hW.rank tob1 (k := 2) (by decide) nq1
            refine c_getr (k := 2) C ck_10 dX9_isUpright_16 w2_180 (by decide) tob1 rfl rfl (by decide) rfl nq1 ?_
            refine c_st (st2 := [.ref nb1]) rfl ?_
            refine c_astore_n (lv2 := [(1, .ref nb1), (0, (va_rf r))]) C dX9_isUpright_19 (by decide) (by cases r <;> rfl) ?_
            refine c_goto (tgt := 2) C dX9_isUpright_20 (by decide) ?_
            have trnb1 := bt_100 tnb1.2
            refine c_lv (lv2 := [(1, .ref nb1), (0, (va_rf r))]) [0, 1] rfl ?_
            exact ih1  (some nb1) (rk - 1)  (by omega)  (fun _ q => by cases q; exact tnb1) (by omega) (fun _ q => by cases q; omega)
        · refine c_iconst C dX9_isUpright_13 ?_
          exact c_zret C dX9_isUpright_14 rfl (Or.inl rfl) (by decide) (rom0 hph hph (by decide)) ⟨0, rfl, rfl, rfl, rfl, rfl, rfl, (Or.inl rfl), trivial⟩
  refine c_lv (lv2 := [(1, (va_rf r)), (0, (va_rf r))]) [0, 1] rfl ?_
  exact Lp1 31 r 129  (by omega)  t_r (by omega) (fun b q => by have q2 := bt_100 (t_r b q).2; omega)
set_option maxHeartbeats 4000000 in
set_option maxRecDepth 100000 in
theorem C_isOverShort {l : Launch} {G : GT} {mi : Nat} {sk : Nat → Nat} {L : List Nat} {cl ln : Nat → Nat} {iv : Nat → Nat → Int} {rv : Nat → Nat → Option Nat}  {r : Option Nat} (hW : WT (g0 G) sk L cl ln iv rv) (hS : SKL sk L cl) (t_r : ∀ b, r = some b → ty L cl b 100)  : Mc l G mi (Phi (g0 G) sk) PHM yX9_isOverShort cX9_isOverShort 2 (some .boolean) 0 [va_rf r] L cl ln iv rv 0 (fun v L2 cl2 ln2 iv2 rv2 => ∃ f : Int, v = some (.int (iI f)) ∧ L = L2 ∧ cl = cl2 ∧ ln = ln2 ∧ iv = iv2 ∧ rv = rv2 ∧ (f = 0 ∨ f = 1) ∧ (True)) := by
  refine Mc.mk (by decide) (by cases r <;> exact Nat.le_of_ble_eq_true rfl) ?_
  intro p e s m args below meth c A C hM
  have hph := Phi.le hW hS
  refine c_lveq (show lv_args 0 [va_rf r] = [(0, (va_rf r))] from by cases r <;> rfl) ?_
  refine hv2 (show XT L cl ln L cl ln from XT.refl) (show fT [] L cl iv rv iv rv from fT.refl) (fun hX0 hF0 => ?_)
  refine c_aloadr_n (j := 0) (r := r) C dX9_isOverShort_0 rfl ?_
  refine c_astorer_n (r := r) (lv2 := [(1, (va_rf r)), (0, (va_rf r))]) C dX9_isOverShort_1 (by decide) (by cases r <;> rfl) ?_
  have Lp1 : ∀ (nn : Nat) (tq : Option Nat) (rk : Int) , rk - 99 < (nn : Int) → (∀ b, tq = some b → ty L cl b 100) → (99 ≤ rk) → (∀ b, tq = some b → ((cl b : Nat) : Int) ≤ rk) → cw p l e 0 ((PHM) + 0 - ((Phi (g0 G) sk) ln rv)) s m args below meth c G A 2 (MQ below (Qu G A (Qp G (Phi (g0 G) sk) ((Phi (g0 G) sk) ln rv) 0 (fun v L2 cl2 ln2 iv2 rv2 => ∃ f : Int, v = some (.int (iI f)) ∧ L = L2 ∧ cl = cl2 ∧ ln = ln2 ∧ iv = iv2 ∧ rv = rv2 ∧ (f = 0 ∨ f = 1) ∧ (True)))) args s (((PHM) + 0 - ((Phi (g0 G) sk) ln rv)) / 16) ((PHM) + 0 - ((Phi (g0 G) sk) ln rv)) A) (Phi (g0 G) sk) ((Phi (g0 G) sk) ln rv) L cl ln iv rv 0 2 [(1, (va_rf tq)), (0, (va_rf r))] [] := by
    intro nn
    induction nn with
    | zero =>
      intro tq rk  hm  ty_tq h99 hrk
      exact absurd hm (by omega)
    | succ nn ih1 =>
      intro tq rk  hm  ty_tq h99 hrk
      refine c_aloadr_n (j := 0) (r := tq) C dX9_isOverShort_2 rfl ?_
      refine c_ifnull (r := tq) (tgt := 24) C dX9_isOverShort_3 (by decide) (fun oq1 => ?_) (fun ob1 oq1 => ?_)
      · subst oq1
        refine c_lv (lv2 := [(1, .null), (0, (va_rf r))]) [0, 1] rfl ?_
        refine c_st (st2 := []) rfl ?_
        refine c_iconst C dX9_isOverShort_24 ?_
        exact c_zret C dX9_isOverShort_25 rfl (Or.inl rfl) (by decide) (rom0 hph hph (by decide)) ⟨0, rfl, rfl, rfl, rfl, rfl, rfl, (Or.inl rfl), trivial⟩
      · subst oq1
        refine hv2 (ty_tq ob1 rfl) (hrk ob1 rfl) (fun tob1 hkob1 => ?_)
        have tgob1 := bt_100 tob1.2
        refine c_lv (lv2 := [(1, .ref ob1), (0, (va_rf r))]) [0, 1] rfl ?_
        refine c_st (st2 := []) rfl ?_
        refine c_aload_n (j := 0) (x := ob1) C dX9_isOverShort_6 rfl ?_
        have ri1 : (-2147483648) ≤ iv ob1 0 ∧ iv ob1 0 ≤ 2147483647 := hW.int tob1 0
        refine c_get (k := 0) C ck_10 dX9_isOverShort_7 w2_174 (by decide) tob1 rfl rfl (by decide) rfl ?_
        refine c_iconst C dX9_isOverShort_10 ?_
        refine c_icmp_ne (tgt := 16) C (r32_c (lo := (-2147483648)) (hi := 2147483647) ri1.1 ri1.2 (by decide) (by decide)) ⟨by decide, by decide⟩ dX9_isOverShort_11 (by decide) (fun c1 => ?_) (fun c1 => ?_)
        · refine c_aload_n (j := 0) (x := ob1) C dX9_isOverShort_16 rfl ?_
          rcases hW.opt tob1 2 rfl rfl with ⟨nq1, _⟩ | ⟨nb1, nq1, tnb1⟩
          · refine c_getr (k := 2) C ck_10 dX9_isOverShort_17 w2_180 (by decide) tob1 rfl rfl (by decide) rfl nq1 ?_
            refine c_st (st2 := [.null]) rfl ?_
            refine c_astorer_n (r := none) (lv2 := [(1, .null), (0, (va_rf r))]) C dX9_isOverShort_20 (by decide) (by cases r <;> rfl) ?_
            refine c_goto (tgt := 2) C dX9_isOverShort_21 (by decide) ?_
            refine c_lv (lv2 := [(1, .null), (0, (va_rf r))]) [0, 1] rfl ?_
            exact ih1  none (rk - 1)  (by omega)  (fun _ q => by cases q) (by omega) (fun _ q => by cases q)
          · have rknb1 := hW.rank tob1 (k := 2) (by decide) nq1
            refine c_getr (k := 2) C ck_10 dX9_isOverShort_17 w2_180 (by decide) tob1 rfl rfl (by decide) rfl nq1 ?_
            refine c_st (st2 := [.ref nb1]) rfl ?_
            refine c_astore_n (lv2 := [(1, .ref nb1), (0, (va_rf r))]) C dX9_isOverShort_20 (by decide) (by cases r <;> rfl) ?_
            refine c_goto (tgt := 2) C dX9_isOverShort_21 (by decide) ?_
            have trnb1 := bt_100 tnb1.2
            refine c_lv (lv2 := [(1, .ref nb1), (0, (va_rf r))]) [0, 1] rfl ?_
            exact ih1  (some nb1) (rk - 1)  (by omega)  (fun _ q => by cases q; exact tnb1) (by omega) (fun _ q => by cases q; omega)
        · refine c_iconst C dX9_isOverShort_14 ?_
          exact c_zret C dX9_isOverShort_15 rfl (Or.inr rfl) (by decide) (rom0 hph hph (by decide)) ⟨1, rfl, rfl, rfl, rfl, rfl, rfl, (Or.inr rfl), trivial⟩
  refine c_lv (lv2 := [(1, (va_rf r)), (0, (va_rf r))]) [0, 1] rfl ?_
  exact Lp1 31 r 129  (by omega)  t_r (by omega) (fun b q => by have q2 := bt_100 (t_r b q).2; omega)
set_option maxHeartbeats 4000000 in
set_option maxRecDepth 100000 in
theorem C_tisWhole {l : Launch} {G : GT} {mi : Nat} {sk : Nat → Nat} {L : List Nat} {cl ln : Nat → Nat} {iv : Nat → Nat → Int} {rv : Nat → Nat → Option Nat}  {a0 : Nat} (hW : WT (g0 G) sk L cl ln iv rv) (hS : SKL sk L cl) (t_a0 : ty L cl a0 100)  : Mc l G mi (Phi (g0 G) sk) PHM yX9_isWhole cX9_isWhole 1 (some .boolean) 1 [.ref a0] L cl ln iv rv 0 (fun v L2 cl2 ln2 iv2 rv2 => ∃ f : Int, v = some (.int (iI f)) ∧ L = L2 ∧ cl = cl2 ∧ ln = ln2 ∧ iv = iv2 ∧ rv = rv2 ∧ (f = 0 ∨ f = 1) ∧ (True)) := by
  refine Mc.mk (by decide) (Nat.le_of_ble_eq_true rfl) ?_
  intro p e s m args below meth c A C hM
  refine hv3 (Phi.le hW hS) (show XT L cl ln L cl ln from XT.refl) (show fT [] L cl iv rv iv rv from fT.refl) (fun hph hX0 hF0 => ?_)
  refine c_aload_n (j := 0) (x := a0) C dX9_isWhole_0 rfl ?_
  refine d_callS (As := [.ref a0]) (rest := []) C hM (C_isUpright (r := (some a0)) hW hS (fun _ q => by cases q; exact t_a0)  ) dX9_isWhole_1 kS_X9_76 rfl rfl (Nat.le_of_ble_eq_true rfl) ⟨(Nat.le_of_ble_eq_true rfl), (Nat.le_of_ble_eq_true rfl)⟩ hph hph (show 0 + 0 = 0 from rfl) (by decide) (fun rh1 Lh1 clh1 lnh1 ivh1 rvh1 h1 => ?_)
  obtain ⟨f1, rfl, rfl, rfl, rfl, rfl, rfl, rgf1, exf1⟩ := h1
  refine c_st (st2 := [.int (iI f1)]) rfl ?_
  refine c_if_eq (tgt := 21) C ⟨by omega, by omega⟩ dX9_isWhole_4 (by decide) (fun c1 => ?_) (fun c1 => ?_)
  · refine c_iconst C dX9_isWhole_21 ?_
    exact c_zret C dX9_isWhole_22 rfl (Or.inl rfl) (by decide) (rom0 hph hph (by decide)) ⟨0, rfl, rfl, rfl, rfl, rfl, rfl, (Or.inl rfl), trivial⟩
  · refine c_aload_n (j := 0) (x := a0) C dX9_isWhole_7 rfl ?_
    rcases hW.opt t_a0 3 rfl rfl with ⟨nq1, _⟩ | ⟨nb1, nq1, tnb1⟩
    · refine c_getr (k := 3) C ck_10 dX9_isWhole_8 w2_183 (by decide) t_a0 rfl rfl (by decide) rfl nq1 ?_
      refine c_st (st2 := [.null]) rfl ?_
      refine d_callS (As := [.null]) (rest := []) C hM (C_isUpright (r := none) hW hS (fun _ q => by cases q)  ) dX9_isWhole_11 kS_X9_76 rfl rfl (Nat.le_of_ble_eq_true rfl) ⟨(Nat.le_of_ble_eq_true rfl), (Nat.le_of_ble_eq_true rfl)⟩ hph hph (show 0 + 0 = 0 from rfl) (by decide) (fun rh2 Lh2 clh2 lnh2 ivh2 rvh2 h2 => ?_)
      obtain ⟨f2, rfl, rfl, rfl, rfl, rfl, rfl, rgf2, exf2⟩ := h2
      refine c_st (st2 := [.int (iI f2)]) rfl ?_
      refine c_if_eq (tgt := 21) C ⟨by omega, by omega⟩ dX9_isWhole_14 (by decide) (fun c2 => ?_) (fun c2 => ?_)
      · refine c_iconst C dX9_isWhole_21 ?_
        exact c_zret C dX9_isWhole_22 rfl (Or.inl rfl) (by decide) (rom0 hph hph (by decide)) ⟨0, rfl, rfl, rfl, rfl, rfl, rfl, (Or.inl rfl), trivial⟩
      · refine c_iconst C dX9_isWhole_17 ?_
        refine c_goto (tgt := 22) C dX9_isWhole_18 (by decide) ?_
        exact c_zret C dX9_isWhole_22 rfl (Or.inr rfl) (by decide) (rom0 hph hph (by decide)) ⟨1, rfl, rfl, rfl, rfl, rfl, rfl, (Or.inr rfl), trivial⟩
    · have rknb1 := hW.rank t_a0 (k := 3) (by decide) nq1
      refine c_getr (k := 3) C ck_10 dX9_isWhole_8 w2_183 (by decide) t_a0 rfl rfl (by decide) rfl nq1 ?_
      refine c_st (st2 := [.ref nb1]) rfl ?_
      refine d_callS (As := [.ref nb1]) (rest := []) C hM (C_isUpright (r := (some nb1)) hW hS (fun _ q => by cases q; exact tnb1)  ) dX9_isWhole_11 kS_X9_76 rfl rfl (Nat.le_of_ble_eq_true rfl) ⟨(Nat.le_of_ble_eq_true rfl), (Nat.le_of_ble_eq_true rfl)⟩ hph hph (show 0 + 0 = 0 from rfl) (by decide) (fun rh3 Lh3 clh3 lnh3 ivh3 rvh3 h3 => ?_)
      obtain ⟨f3, rfl, rfl, rfl, rfl, rfl, rfl, rgf3, exf3⟩ := h3
      refine c_st (st2 := [.int (iI f3)]) rfl ?_
      refine c_if_eq (tgt := 21) C ⟨by omega, by omega⟩ dX9_isWhole_14 (by decide) (fun c3 => ?_) (fun c3 => ?_)
      · refine c_iconst C dX9_isWhole_21 ?_
        exact c_zret C dX9_isWhole_22 rfl (Or.inl rfl) (by decide) (rom0 hph hph (by decide)) ⟨0, rfl, rfl, rfl, rfl, rfl, rfl, (Or.inl rfl), trivial⟩
      · refine c_iconst C dX9_isWhole_17 ?_
        refine c_goto (tgt := 22) C dX9_isWhole_18 (by decide) ?_
        exact c_zret C dX9_isWhole_22 rfl (Or.inr rfl) (by decide) (rom0 hph hph (by decide)) ⟨1, rfl, rfl, rfl, rfl, rfl, rfl, (Or.inr rfl), trivial⟩
set_option maxHeartbeats 4000000 in
set_option maxRecDepth 100000 in
theorem C_hasShort {l : Launch} {G : GT} {mi : Nat} {sk : Nat → Nat} {L : List Nat} {cl ln : Nat → Nat} {iv : Nat → Nat → Int} {rv : Nat → Nat → Option Nat}  {a0 : Nat} (hW : WT (g0 G) sk L cl ln iv rv) (hS : SKL sk L cl) (t_a0 : ty L cl a0 100)  : Mc l G mi (Phi (g0 G) sk) PHM yX9_hasShort cX9_hasShort 1 (some .boolean) 1 [.ref a0] L cl ln iv rv 0 (fun v L2 cl2 ln2 iv2 rv2 => ∃ f : Int, v = some (.int (iI f)) ∧ L = L2 ∧ cl = cl2 ∧ ln = ln2 ∧ iv = iv2 ∧ rv = rv2 ∧ (f = 0 ∨ f = 1) ∧ (True)) := by
  refine Mc.mk (by decide) (Nat.le_of_ble_eq_true rfl) ?_
  intro p e s m args below meth c A C hM
  refine hv3 (Phi.le hW hS) (show XT L cl ln L cl ln from XT.refl) (show fT [] L cl iv rv iv rv from fT.refl) (fun hph hX0 hF0 => ?_)
  refine c_aload_n (j := 0) (x := a0) C dX9_hasShort_0 rfl ?_
  refine d_callS (As := [.ref a0]) (rest := []) C hM (C_isOverShort (r := (some a0)) hW hS (fun _ q => by cases q; exact t_a0)  ) dX9_hasShort_1 kS_X9_80 rfl rfl (Nat.le_of_ble_eq_true rfl) ⟨(Nat.le_of_ble_eq_true rfl), (Nat.le_of_ble_eq_true rfl)⟩ hph hph (show 0 + 0 = 0 from rfl) (by decide) (fun rh1 Lh1 clh1 lnh1 ivh1 rvh1 h1 => ?_)
  obtain ⟨f1, rfl, rfl, rfl, rfl, rfl, rfl, rgf1, exf1⟩ := h1
  refine c_st (st2 := [.int (iI f1)]) rfl ?_
  refine c_if_ne (tgt := 17) C ⟨by omega, by omega⟩ dX9_hasShort_4 (by decide) (fun c1 => ?_) (fun c1 => ?_)
  · refine c_iconst C dX9_hasShort_17 ?_
    refine c_goto (tgt := 22) C dX9_hasShort_18 (by decide) ?_
    exact c_zret C dX9_hasShort_22 rfl (Or.inr rfl) (by decide) (rom0 hph hph (by decide)) ⟨1, rfl, rfl, rfl, rfl, rfl, rfl, (Or.inr rfl), trivial⟩
  · refine c_aload_n (j := 0) (x := a0) C dX9_hasShort_7 rfl ?_
    rcases hW.opt t_a0 3 rfl rfl with ⟨nq1, _⟩ | ⟨nb1, nq1, tnb1⟩
    · refine c_getr (k := 3) C ck_10 dX9_hasShort_8 w2_183 (by decide) t_a0 rfl rfl (by decide) rfl nq1 ?_
      refine c_st (st2 := [.null]) rfl ?_
      refine d_callS (As := [.null]) (rest := []) C hM (C_isOverShort (r := none) hW hS (fun _ q => by cases q)  ) dX9_hasShort_11 kS_X9_80 rfl rfl (Nat.le_of_ble_eq_true rfl) ⟨(Nat.le_of_ble_eq_true rfl), (Nat.le_of_ble_eq_true rfl)⟩ hph hph (show 0 + 0 = 0 from rfl) (by decide) (fun rh2 Lh2 clh2 lnh2 ivh2 rvh2 h2 => ?_)
      obtain ⟨f2, rfl, rfl, rfl, rfl, rfl, rfl, rgf2, exf2⟩ := h2
      refine c_st (st2 := [.int (iI f2)]) rfl ?_
      refine c_if_eq (tgt := 21) C ⟨by omega, by omega⟩ dX9_hasShort_14 (by decide) (fun c2 => ?_) (fun c2 => ?_)
      · refine c_iconst C dX9_hasShort_21 ?_
        exact c_zret C dX9_hasShort_22 rfl (Or.inl rfl) (by decide) (rom0 hph hph (by decide)) ⟨0, rfl, rfl, rfl, rfl, rfl, rfl, (Or.inl rfl), trivial⟩
      · refine c_iconst C dX9_hasShort_17 ?_
        refine c_goto (tgt := 22) C dX9_hasShort_18 (by decide) ?_
        exact c_zret C dX9_hasShort_22 rfl (Or.inr rfl) (by decide) (rom0 hph hph (by decide)) ⟨1, rfl, rfl, rfl, rfl, rfl, rfl, (Or.inr rfl), trivial⟩
    · have rknb1 := hW.rank t_a0 (k := 3) (by decide) nq1
      refine c_getr (k := 3) C ck_10 dX9_hasShort_8 w2_183 (by decide) t_a0 rfl rfl (by decide) rfl nq1 ?_
      refine c_st (st2 := [.ref nb1]) rfl ?_
      refine d_callS (As := [.ref nb1]) (rest := []) C hM (C_isOverShort (r := (some nb1)) hW hS (fun _ q => by cases q; exact tnb1)  ) dX9_hasShort_11 kS_X9_80 rfl rfl (Nat.le_of_ble_eq_true rfl) ⟨(Nat.le_of_ble_eq_true rfl), (Nat.le_of_ble_eq_true rfl)⟩ hph hph (show 0 + 0 = 0 from rfl) (by decide) (fun rh3 Lh3 clh3 lnh3 ivh3 rvh3 h3 => ?_)
      obtain ⟨f3, rfl, rfl, rfl, rfl, rfl, rfl, rgf3, exf3⟩ := h3
      refine c_st (st2 := [.int (iI f3)]) rfl ?_
      refine c_if_eq (tgt := 21) C ⟨by omega, by omega⟩ dX9_hasShort_14 (by decide) (fun c3 => ?_) (fun c3 => ?_)
      · refine c_iconst C dX9_hasShort_21 ?_
        exact c_zret C dX9_hasShort_22 rfl (Or.inl rfl) (by decide) (rom0 hph hph (by decide)) ⟨0, rfl, rfl, rfl, rfl, rfl, rfl, (Or.inl rfl), trivial⟩
      · refine c_iconst C dX9_hasShort_17 ?_
        refine c_goto (tgt := 22) C dX9_hasShort_18 (by decide) ?_
        exact c_zret C dX9_hasShort_22 rfl (Or.inr rfl) (by decide) (rom0 hph hph (by decide)) ⟨1, rfl, rfl, rfl, rfl, rfl, rfl, (Or.inr rfl), trivial⟩
section MRKS
variable {g : Nat} {sk : Nat → Nat} {L L2 : List Nat} {cl ln cl2 ln2 : Nat → Nat} {iv iv2 : Nat → Nat → Int} {rv rv2 : Nat → Nat → Option Nat} {a k T q t x : Nat} {z : Int} {ls : List Nat} {y : Option Nat}
theorem tysk22 (hS : SKL sk L cl) : ty L cl (sk 22) 22 := ⟨(hS 22 rfl).1, by rw [(hS 22 rfl).2]; rfl⟩
theorem MRK.ed (h : WT g sk L cl ln iv rv) (hS : SKL sk L cl) {i : Nat} (hi : (i : Int) < iv (sk 22) 2) (he : el rv (sk 22) i = some t) : ∃ b, rv (sk 22) 1 = some b ∧ ty L cl b 1000 ∧ rv b i = some t ∧ ty L cl t 100 := by
  obtain ⟨b, q1, q2, q3, q4⟩ := h.ed2 (tysk22 hS) rfl rfl (by omega)
  rw [el_of q1] at he
  obtain ⟨c, w1, w2⟩ := h.elem (tysk22 hS) rfl q1 q2 rfl rfl hi
  rw [he] at w1; cases w1
  exact ⟨b, q1, q2, he, w2⟩
theorem MRK.call (h : MRK sk cl iv rv) (hW : WT g sk L cl ln iv rv) (hS : SKL sk L cl) (hX : XT L cl ln L2 cl2 ln2) (hF : fT ls L cl iv rv iv2 rv2) (h1 : ls.contains 22 = false) (h2 : ls.contains 1000 = false) : MRK sk cl2 iv2 rv2 := by
  intro i hi t he
  refine hv2 (hF.i (tysk22 hS) h1 2) (hF.r (tysk22 hS) h1 1) (fun ei er => ?_)
  rw [ei] at hi
  obtain ⟨b, q1, q2, q3, q4⟩ := hW.ed2 (tysk22 hS) rfl rfl (by omega)
  have eb := hF.r q2 h2 i
  rw [el_of (er.trans q1), eb] at he
  have he2 : el rv (sk 22) i = some t := by rw [el_of q1]; exact he
  obtain ⟨b2, w1, w2, w3, w4⟩ := MRK.ed hW hS hi he2
  rw [(hX t w4.1).2.1]
  exact h i hi t he2
theorem MRK.puti (h : MRK sk cl iv rv) (hS : SKL sk L cl) (he : iv2 = up2 iv a k z) (ha : ty L cl a T) (hT : T ≠ 22) : MRK sk cl iv2 rv := by
  intro i hi
  rw [he, up2_k (ne_ty (tysk22 hS) ha (Ne.symm hT))] at hi
  exact h i hi
theorem MRK.putr (h : MRK sk cl iv rv) (hW : WT g sk L cl ln iv rv) (hS : SKL sk L cl) (he : rv2 = upr rv a k y) (ha : ty L cl a T) (hT : T ≠ 22) (hT2 : T ≠ 1000) : MRK sk cl iv rv2 := by
  intro i hi t ht
  obtain ⟨b, q1, q2, q3, q4⟩ := hW.ed2 (tysk22 hS) rfl rfl (by omega)
  have er : rv2 (sk 22) 1 = some b := by rw [he, upr_a (ne_ty (tysk22 hS) ha (Ne.symm hT))]; exact q1
  rw [el_of er, he, upr_a (ne_ty q2 ha (Ne.symm hT2))] at ht
  exact h i hi t (by rw [el_of q1]; exact ht)
theorem MRK.rt (h : MRK sk cl iv rv) (hW : WT g sk L cl ln iv rv) (hS : SKL sk L cl) (hc : cl2 = va_up cl q t) (hr : raw (bt (cl q)) = true) : MRK sk cl2 iv rv := by
  intro i hi u hu
  obtain ⟨b, w1, w2, w3, w4⟩ := MRK.ed hW hS hi hu
  rw [hc, va_up_ne _ _ (fun e => by rw [← e, w4.2] at hr; cases hr)]
  exact h i hi u hu
theorem MRK.add (h : MRK sk cl iv rv) (hW : WT g sk L cl ln iv rv) (hS : SKL sk L cl) (hX : XT L cl ln L2 cl2 ln2) (h0 : 0 ≤ iv (sk 22) 2) (hn : iv2 (sk 22) 2 = iv (sk 22) 2 + 1) (hx : el rv2 (sk 22) (iv (sk 22) 2).toNat = some x) (ho : ∀ i : Nat, (i : Int) < iv (sk 22) 2 → el rv2 (sk 22) i = el rv (sk 22) i) (hr : ((cl2 x : Nat) : Int) ≤ 100 + iv (sk 22) 2) : MRK sk cl2 iv2 rv2 := by
  intro i hi t ht
  by_cases e : (i : Int) < iv (sk 22) 2
  · rw [ho i e] at ht
    obtain ⟨b, w1, w2, w3, w4⟩ := MRK.ed hW hS e ht
    rw [(hX t w4.1).2.1]
    exact h i e t ht
  · have ei : i = (iv (sk 22) 2).toNat := by omega
    rw [ei, hx] at ht
    cases ht
    omega
theorem MRK.rem (h : MRK sk cl iv rv) (hn : iv2 (sk 22) 2 = iv (sk 22) 2 - 1) (ho : ∀ i : Nat, (i : Int) < iv (sk 22) 2 - 1 → el rv2 (sk 22) i = el rv (sk 22) i) : MRK sk cl iv2 rv2 := fun i hi t ht => h i (by omega) t (by rw [← ho i (by omega)]; exact ht)
theorem tysk23 (hS : SKL sk L cl) : ty L cl (sk 23) 23 := ⟨(hS 23 rfl).1, by rw [(hS 23 rfl).2]; rfl⟩
theorem el23 (h : WT g sk L cl ln iv rv) (hS : SKL sk L cl) {i : Nat} (hi : (i : Int) < iv (sk 23) 2) (he : el rv (sk 23) i = some t) : ty L cl t 21 := by
  obtain ⟨b, q1, q2, q3, q4⟩ := h.ed2 (tysk23 hS) rfl rfl (by omega)
  rw [el_of q1] at he
  obtain ⟨c, w1, w2⟩ := h.elem (tysk23 hS) rfl q1 q2 rfl rfl hi
  rw [he] at w1; cases w1
  exact w2
theorem el22 (h : WT g sk L cl ln iv rv) (hS : SKL sk L cl) {i : Nat} (hi : (i : Int) < iv (sk 22) 2) (he : el rv (sk 22) i = some t) : ty L cl t 100 := by
  obtain ⟨b, q1, q2, q3, q4⟩ := MRK.ed h hS hi he
  exact q4
def ALV (sk : Nat → Nat) (iv : Nat → Nat → Int) (rv : Nat → Nat → Option Nat) (i : Int) (t : Nat) : Prop := 0 ≤ i ∧ i < iv (sk 22) 2 ∧ el rv (sk 22) i.toNat = some t ∧ iv t 7 = 0
def TS0 (sk : Nat → Nat) (iv : Nat → Nat → Int) (rv rv2 : Nat → Nat → Option Nat) : Prop := ∀ i : Nat, (i : Int) < iv (sk 22) 2 → el rv2 (sk 22) i = el rv (sk 22) i
def TSF (P : Nat → Prop) (sk : Nat → Nat) (iv : Nat → Nat → Int) (rv : Nat → Nat → Option Nat) (iv2 : Nat → Nat → Int) (rv2 : Nat → Nat → Option Nat) : Prop := ∀ i t : Nat, (i : Int) < iv (sk 22) 2 → el rv (sk 22) i = some t → (P t → iv2 t 7 = iv t 7) ∧ iv2 t 0 = iv t 0 ∧ iv2 t 1 = iv t 1 ∧ rv2 t 4 = rv t 4
def TSQ (P : Nat → Prop) (sk : Nat → Nat) (iv : Nat → Nat → Int) (rv : Nat → Nat → Option Nat) (iv2 : Nat → Nat → Int) : Prop := ∀ i t q : Nat, (i : Int) < iv (sk 22) 2 → el rv (sk 22) i = some t → rv t 4 = some q → P q → iv2 q 2 = iv q 2
def CS0 (n : Int) (sk : Nat → Nat) (iv : Nat → Nat → Int) (rv : Nat → Nat → Option Nat) (iv2 : Nat → Nat → Int) (rv2 : Nat → Nat → Option Nat) : Prop := ∀ k : Nat, (k : Int) < n → el rv2 (sk 23) k = el rv (sk 23) k ∧ ∀ ch, el rv (sk 23) k = some ch → iv2 ch 0 = iv ch 0 ∧ rv2 ch 1 = rv ch 1
def PPSH (w : Int) (x : Option Nat) (sk : Nat → Nat) (iv : Nat → Nat → Int) (rv : Nat → Nat → Option Nat) (iv2 : Nat → Nat → Int) (rv2 : Nat → Nat → Option Nat) : Prop := iv2 (sk 23) 2 = iv (sk 23) 2 + 1 ∧ CS0 (iv (sk 23) 2) sk iv rv iv2 rv2 ∧ ∃ ch, el rv2 (sk 23) (iv (sk 23) 2).toNat = some ch ∧ iv2 ch 0 = w ∧ rv2 ch 1 = x
def PTAB (P Q : Nat → Prop) (sk : Nat → Nat) (iv : Nat → Nat → Int) (rv : Nat → Nat → Option Nat) (iv2 : Nat → Nat → Int) (rv2 : Nat → Nat → Option Nat) : Prop := TS0 sk iv rv rv2 ∧ TSF P sk iv rv iv2 rv2 ∧ TSQ Q sk iv rv iv2
def PSAME (sk : Nat → Nat) (iv : Nat → Nat → Int) (rv : Nat → Nat → Option Nat) (iv2 : Nat → Nat → Int) (rv2 : Nat → Nat → Option Nat) : Prop := iv2 (sk 22) 2 = iv (sk 22) 2 ∧ iv2 (sk 23) 2 = iv (sk 23) 2 ∧ PTAB (fun _ => True) (fun _ => True) sk iv rv iv2 rv2 ∧ CS0 (iv (sk 23) 2) sk iv rv iv2 rv2
theorem TSF.of {P : Nat → Prop} (h : WT g sk L cl ln iv rv) (hS : SKL sk L cl) (h7 : ∀ bb, ty L cl bb 100 → P bb → iv2 bb 7 = iv bb 7) (h0 : ∀ bb, ty L cl bb 100 → iv2 bb 0 = iv bb 0) (h1 : ∀ bb, ty L cl bb 100 → iv2 bb 1 = iv bb 1) (h4 : ∀ bb, ty L cl bb 100 → rv2 bb 4 = rv bb 4) : TSF P sk iv rv iv2 rv2 := fun i t hi ht => ⟨h7 t (el22 h hS hi ht), h0 t (el22 h hS hi ht), h1 t (el22 h hS hi ht), h4 t (el22 h hS hi ht)⟩
theorem TSQ.of {P : Nat → Prop} (h : WT g sk L cl ln iv rv) (hS : SKL sk L cl) (h2 : ∀ bb, ty L cl bb 26 → P bb → iv2 bb 2 = iv bb 2) : TSQ P sk iv rv iv2 := fun i t q hi ht hq hp => by
  obtain ⟨b, w1, w2⟩ := h.ref (el22 h hS hi ht) 4 rfl rfl rfl
  rw [w1] at hq; cases hq
  exact h2 q w2 hp
theorem CS0.of {n : Int} (h : WT g sk L cl ln iv rv) (hS : SKL sk L cl) (hn : n ≤ iv (sk 23) 2) (he : ∀ i : Nat, (i : Int) < n → el rv2 (sk 23) i = el rv (sk 23) i) (h0 : ∀ bb, ty L cl bb 21 → iv2 bb 0 = iv bb 0) (h1 : ∀ bb, ty L cl bb 21 → rv2 bb 1 = rv bb 1) : CS0 n sk iv rv iv2 rv2 := fun k hk => ⟨he k hk, fun ch hc => ⟨h0 ch (el23 h hS (by omega) hc), h1 ch (el23 h hS (by omega) hc)⟩⟩
theorem el_fr {a1 T1 : Nat} (h : WT g sk L cl ln iv rv) (ha : ty L cl a1 T1) (hl : lst T1 = true) (hn : nul T1 1 = false) (hF : fT ls L cl iv rv iv2 rv2) (h1 : ls.contains T1 = false) (h2 : ls.contains (1000 + (T1 - 22)) = false) {i : Nat} (hi : (i : Int) < iv a1 2) : el rv2 a1 i = el rv a1 i := by
  obtain ⟨b, q1, q2, q3, q4⟩ := h.ed2 ha hl hn (by omega)
  rw [el_of ((hF.r ha h1 1).trans q1), el_of q1, hF.r q2 h2 i]
theorem el_ch {a1 T1 : Nat} (h : WT g sk L cl ln iv rv) (ha : ty L cl a1 T1) (hl : lst T1 = true) (hn : nul T1 1 = false) (h1 : rv2 a1 1 = rv a1 1) (h2 : ∀ bb, ty L cl bb (1000 + (T1 - 22)) → ∀ k, rv2 bb k = rv bb k) {i : Nat} (hi : (i : Int) < iv a1 2) : el rv2 a1 i = el rv a1 i := by
  obtain ⟨b, q1, q2, q3, q4⟩ := h.ed2 ha hl hn (by omega)
  rw [el_of (h1.trans q1), el_of q1, h2 b q2 i]
def PNEW (k d : Int) (sk : Nat → Nat) (iv : Nat → Nat → Int) (rv : Nat → Nat → Option Nat) (iv2 : Nat → Nat → Int) (rv2 : Nat → Nat → Option Nat) : Prop := ∃ q r, el rv2 (sk 22) (iv (sk 22) 2).toNat = some q ∧ iv2 q 0 = k ∧ iv2 q 1 = d ∧ iv2 q 7 = 0 ∧ rv2 q 4 = some r ∧ iv2 r 2 = 0 ∧ (∀ i t : Nat, (i : Int) < iv (sk 22) 2 → el rv (sk 22) i = some t → rv t 4 ≠ some r) ∧ iv2 (sk 22) 2 = iv (sk 22) 2 + 1 ∧ PTAB (fun _ => True) (fun _ => True) sk iv rv iv2 rv2 ∧ PPSH 0 (some q) sk iv rv iv2 rv2
def PPS2 (sk : Nat → Nat) (x y : Option Nat) (z : Int) (iv : Nat → Nat → Int) (iv2 : Nat → Nat → Int) (rv2 : Nat → Nat → Option Nat) : Prop := iv2 (sk 23) 2 = iv (sk 23) 2 + 1 ∧ ∃ ch, el rv2 (sk 23) (iv (sk 23) 2).toNat = some ch ∧ rv2 ch 1 = x ∧ rv2 ch 2 = y ∧ iv2 ch 3 = z
def UKP (L : List Nat) (cl : Nat → Nat) (ch : Nat) (iv : Nat → Nat → Int) (rv : Nat → Nat → Option Nat) (iv2 : Nat → Nat → Int) (rv2 : Nat → Nat → Option Nat) : Prop := (iv ch 0 = 0 → KP L cl (fun _ => False) (fun _ => False) (fun _ => False) (fun _ => False) (fun _ _ => False) iv rv iv2 rv2) ∧ (iv ch 0 = 1 → KP L cl (fun _ => False) (fun _ => False) (fun _ => False) (fun _ => False) (fun _ _ => False) iv rv iv2 rv2) ∧ (iv ch 0 = 2 → ∀ t q s, rv ch 1 = some t → rv t 4 = some q → rv t 5 = some s → KP L cl (fun _ => False) (fun b => b = q) (fun b => b = s) (fun _ => False) (fun _ _ => False) iv rv iv2 rv2 ∧ (∀ r : Nat, (r : Int) < iv2 q 2 → el rv2 q r = el rv q r) ∧ (iv s 2 = iv q 2 → iv2 s 2 = iv2 q 2) ∧ rv2 s 1 = rv s 1) ∧ (iv ch 0 = 3 → ∀ w, rv ch 2 = some w → KP L cl (fun b => b = w) (fun _ => False) (fun _ => False) (fun _ => False) (fun _ _ => False) iv rv iv2 rv2 ∧ iv2 w 3 = iv ch 3) ∧ (iv ch 0 = 4 → (0 ≤ iv ch 3 ∧ iv ch 3 ≤ 3) → ∀ t n, rv ch 1 = some t → rv t 6 = some n → KP L cl (fun _ => False) (fun _ => False) (fun _ => False) (fun _ => False) (fun b k => b = n ∧ k = (iv ch 3).toNat) iv rv iv2 rv2 ∧ rv2 n (iv ch 3).toNat = rv ch 2)
def U0 (sk : Nat → Nat) (iv : Nat → Nat → Int) (rv : Nat → Nat → Option Nat) (iv2 : Nat → Nat → Int) (rv2 : Nat → Nat → Option Nat) : Prop := ((iv (sk 22) 2 = 0 ∧ iv2 (sk 22) 2 = 0) ∨ (iv (sk 22) 2 ≠ 0 ∧ iv2 (sk 22) 2 = iv (sk 22) 2 - 1)) ∧ (∀ i : Nat, (i : Int) < iv2 (sk 22) 2 → el rv2 (sk 22) i = el rv (sk 22) i) ∧ TSF (fun _ => True) sk iv rv iv2 rv2 ∧ TSQ (fun _ => True) sk iv rv iv2
def U1 (ch : Nat) (sk : Nat → Nat) (iv : Nat → Nat → Int) (rv : Nat → Nat → Option Nat) (iv2 : Nat → Nat → Int) (rv2 : Nat → Nat → Option Nat) : Prop := ∃ t, rv ch 1 = some t ∧ iv2 (sk 22) 2 = iv (sk 22) 2 ∧ PTAB (fun b => b ≠ t) (fun _ => True) sk iv rv iv2 rv2 ∧ iv2 t 7 = 0
def U2 (ch : Nat) (sk : Nat → Nat) (iv : Nat → Nat → Int) (rv : Nat → Nat → Option Nat) (iv2 : Nat → Nat → Int) (rv2 : Nat → Nat → Option Nat) : Prop := ∃ t q, rv ch 1 = some t ∧ rv t 4 = some q ∧ iv2 (sk 22) 2 = iv (sk 22) 2 ∧ PTAB (fun _ => True) (fun b => b ≠ q) sk iv rv iv2 rv2 ∧ ((iv q 2 = 0 ∧ iv2 q 2 = 0) ∨ (iv q 2 ≠ 0 ∧ iv2 q 2 = iv q 2 - 1))
def U3 (sk : Nat → Nat) (iv : Nat → Nat → Int) (rv : Nat → Nat → Option Nat) (iv2 : Nat → Nat → Int) (rv2 : Nat → Nat → Option Nat) : Prop := iv2 (sk 22) 2 = iv (sk 22) 2 ∧ PTAB (fun _ => True) (fun _ => True) sk iv rv iv2 rv2
def PUND (ch : Nat) (sk : Nat → Nat) (iv : Nat → Nat → Int) (rv : Nat → Nat → Option Nat) (iv2 : Nat → Nat → Int) (rv2 : Nat → Nat → Option Nat) : Prop := iv2 (sk 23) 2 = iv (sk 23) 2 - 1 ∧ CS0 (iv (sk 23) 2 - 1) sk iv rv iv2 rv2 ∧ ((iv ch 0 = 0 ∧ U0 sk iv rv iv2 rv2) ∨ (iv ch 0 = 1 ∧ U1 ch sk iv rv iv2 rv2) ∨ (iv ch 0 = 2 ∧ U2 ch sk iv rv iv2 rv2) ∨ ((iv ch 0 < 0 ∨ 2 < iv ch 0) ∧ U3 sk iv rv iv2 rv2))
theorem PPSH.pre {w : Int} {x : Option Nat} {iv3 : Nat → Nat → Int} {rv3 : Nat → Nat → Option Nat} (h : PPSH w x sk iv2 rv2 iv3 rv3) (e1 : iv2 (sk 23) 2 = iv (sk 23) 2) (c : CS0 (iv (sk 23) 2) sk iv rv iv2 rv2) : PPSH w x sk iv rv iv3 rv3 := by
  obtain ⟨h1, h2, ch, h3, h4⟩ := h
  refine ⟨by omega, fun k hk => ?_, ch, by rw [← e1]; exact h3, h4⟩
  obtain ⟨c1, c2⟩ := c k hk
  obtain ⟨d1, d2⟩ := h2 k (by omega)
  refine ⟨d1.trans c1, fun q hq => ?_⟩
  refine hv2 (d2 q (c1.trans hq)) (c2 q hq) (fun d3 c3 => ?_)
  exact ⟨d3.1.trans c3.1, d3.2.trans c3.2⟩
theorem PSAME.fr (h : WT g sk L cl ln iv rv) (hS : SKL sk L cl) (hF : fT ls L cl iv rv iv2 rv2) (a1 : ls.contains 22 = false) (a2 : ls.contains 1000 = false) (a3 : ls.contains 23 = false) (a4 : ls.contains 1001 = false) (a5 : ls.contains 100 = false) (a6 : ls.contains 26 = false) (a7 : ls.contains 21 = false) : PSAME sk iv rv iv2 rv2 :=
  ⟨hF.i (tysk22 hS) a1 2, hF.i (tysk23 hS) a3 2, ⟨fun _ hi => el_fr h (tysk22 hS) rfl rfl hF a1 a2 hi, TSF.of h hS (fun bb tb _ => hF.i tb a5 7) (fun bb tb => hF.i tb a5 0) (fun bb tb => hF.i tb a5 1) (fun bb tb => hF.r tb a5 4), TSQ.of h hS (fun bb tb _ => hF.i tb a6 2)⟩, CS0.of h hS (Int.le_refl _) (fun _ hi => el_fr h (tysk23 hS) rfl rfl hF a3 a4 hi) (fun bb tb => hF.i tb a7 0) (fun bb tb => hF.r tb a7 1)⟩
theorem PSAME.refl : PSAME sk iv rv iv rv := ⟨rfl, rfl, ⟨fun _ _ => rfl, fun _ _ _ _ => ⟨fun _ => rfl, rfl, rfl, rfl⟩, fun _ _ _ _ _ _ _ => rfl⟩, fun _ _ => ⟨rfl, fun _ _ => ⟨rfl, rfl⟩⟩⟩
theorem PSAME.trans {iv3 : Nat → Nat → Int} {rv3 : Nat → Nat → Option Nat} (h : PSAME sk iv rv iv2 rv2) (h2 : PSAME sk iv2 rv2 iv3 rv3) : PSAME sk iv rv iv3 rv3 := by
  obtain ⟨a1, a2, ⟨a3, a4, a5⟩, a6⟩ := h
  obtain ⟨b1, b2, ⟨b3, b4, b5⟩, b6⟩ := h2
  refine ⟨b1.trans a1, b2.trans a2, ⟨fun i hi => (b3 i (by omega)).trans (a3 i hi), fun i t hi ht => ?_, fun i t q hi ht hq _ => ?_⟩, fun k hk => ?_⟩
  · have c1 := a4 i t hi ht
    have c2 := b4 i t (by omega) ((a3 i hi).trans ht)
    exact ⟨fun _ => (c2.1 trivial).trans (c1.1 trivial), c2.2.1.trans c1.2.1, c2.2.2.1.trans c1.2.2.1, c2.2.2.2.trans c1.2.2.2⟩
  · have c1 := a4 i t hi ht
    exact (b5 i t q (by omega) ((a3 i hi).trans ht) (c1.2.2.2.trans hq) trivial).trans (a5 i t q hi ht hq trivial)
  · have c1 := a6 k hk
    have c2 := b6 k (by omega)
    exact ⟨c2.1.trans c1.1, fun ch hc => ⟨(c2.2 ch (c1.1.trans hc)).1.trans (c1.2 ch hc).1, (c2.2 ch (c1.1.trans hc)).2.trans (c1.2 ch hc).2⟩⟩
theorem PTAB.after {P Q : Nat → Prop} {iv3 : Nat → Nat → Int} {rv3 : Nat → Nat → Option Nat} (h : PTAB P Q sk iv rv iv2 rv2) (hn : iv (sk 22) 2 ≤ iv2 (sk 22) 2) (h2 : PSAME sk iv2 rv2 iv3 rv3) : PTAB P Q sk iv rv iv3 rv3 := by
  obtain ⟨a3, a4, a5⟩ := h
  obtain ⟨b1, b2, ⟨b3, b4, b5⟩, b6⟩ := h2
  refine ⟨fun i hi => (b3 i (by omega)).trans (a3 i hi), fun i t hi ht => ?_, fun i t q hi ht hq hp => ?_⟩
  · have c1 := a4 i t hi ht
    have c2 := b4 i t (by omega) ((a3 i hi).trans ht)
    exact ⟨fun hp => (c2.1 trivial).trans (c1.1 hp), c2.2.1.trans c1.2.1, c2.2.2.1.trans c1.2.2.1, c2.2.2.2.trans c1.2.2.2⟩
  · have c1 := a4 i t hi ht
    exact (b5 i t q (by omega) ((a3 i hi).trans ht) (c1.2.2.2.trans hq) trivial).trans (a5 i t q hi ht hq hp)
theorem PPSH.after {w : Int} {x : Option Nat} {iv3 : Nat → Nat → Int} {rv3 : Nat → Nat → Option Nat} (h : PPSH w x sk iv rv iv2 rv2) (h0 : 0 ≤ iv (sk 23) 2) (h2 : PSAME sk iv2 rv2 iv3 rv3) : PPSH w x sk iv rv iv3 rv3 := by
  obtain ⟨a1, a2, ch, a3, a4, a5⟩ := h
  obtain ⟨b1, b2, _, b6⟩ := h2
  have c := b6 (iv (sk 23) 2).toNat (by omega)
  have d := c.2 ch a3
  refine ⟨by omega, fun k hk => ?_, ch, c.1.trans a3, d.1.trans a4, d.2.trans a5⟩
  have c1 := a2 k hk
  have c2 := b6 k (by omega)
  exact ⟨c2.1.trans c1.1, fun q hq => ⟨(c2.2 q (c1.1.trans hq)).1.trans (c1.2 q hq).1, (c2.2 q (c1.1.trans hq)).2.trans (c1.2 q hq).2⟩⟩
def PTBL (x y i f : Int) (sk : Nat → Nat) (iv : Nat → Nat → Int) (rv : Nat → Nat → Option Nat) (iv2 : Nat → Nat → Int) (rv2 : Nat → Nat → Option Nat) : Prop := (f = -1 ∧ PSAME sk iv rv iv2 rv2 ∧ ¬ ((0 ≤ x ∧ x ≤ 4 ∧ (y = 6 ∨ y = 8) ∧ iv (sk 22) 2 < 30) ∧ (x < 1 ∨ 3 < x ∨ ∃ t, ALV sk iv rv i t ∧ iv t 0 ≤ 3))) ∨ (f = iv (sk 22) 2 ∧ ((0 ≤ x ∧ x ≤ 4 ∧ (y = 6 ∨ y = 8) ∧ iv (sk 22) 2 < 30) ∧ (x < 1 ∨ 3 < x ∨ ∃ t, ALV sk iv rv i t ∧ iv t 0 ≤ 3)) ∧ PNEW x y sk iv rv iv2 rv2)
def PJOI (i j f : Int) (sk : Nat → Nat) (iv : Nat → Nat → Int) (rv : Nat → Nat → Option Nat) (iv2 : Nat → Nat → Int) (rv2 : Nat → Nat → Option Nat) : Prop := (f = -1 ∧ PSAME sk iv rv iv2 rv2 ∧ ¬ (iv (sk 22) 2 < 30 ∧ (∃ t, ALV sk iv rv i t ∧ iv t 0 ≤ 3) ∧ (∃ t, ALV sk iv rv j t ∧ iv t 0 ≤ 3))) ∨ (f = iv (sk 22) 2 ∧ iv (sk 22) 2 < 30 ∧ ∃ t u, (ALV sk iv rv i t ∧ iv t 0 ≤ 3) ∧ (ALV sk iv rv j u ∧ iv u 0 ≤ 3) ∧ PNEW 5 (max (iv t 1) (iv u 1)) sk iv rv iv2 rv2)
def PDRP (i f : Int) (sk : Nat → Nat) (iv : Nat → Nat → Int) (rv : Nat → Nat → Option Nat) (iv2 : Nat → Nat → Int) (rv2 : Nat → Nat → Option Nat) : Prop := (f = -1 ∧ PSAME sk iv rv iv2 rv2 ∧ ∀ t, ¬ ALV sk iv rv i t) ∨ (f = 1 ∧ ∃ t, ALV sk iv rv i t ∧ iv2 (sk 22) 2 = iv (sk 22) 2 ∧ PTAB (fun b => b ≠ t) (fun _ => True) sk iv rv iv2 rv2 ∧ iv2 t 7 = 1 ∧ PPSH 1 (some t) sk iv rv iv2 rv2)
def RUA (t q : Nat) (cnd n : Int) (sk : Nat → Nat) (iv : Nat → Nat → Int) : Prop := iv t 0 ≠ 5 ∧ 0 ≤ cnd ∧ cnd ≤ 5 ∧ 1 ≤ n ∧ n ≤ 8 ∧ 1 ≤ iv (sk 2) 2 - n ∧ iv (sk 2) 2 - n ≤ 4 ∧ iv q 2 < 200
def PRUL (i cnd n f : Int) (sk : Nat → Nat) (iv : Nat → Nat → Int) (rv : Nat → Nat → Option Nat) (iv2 : Nat → Nat → Int) (rv2 : Nat → Nat → Option Nat) : Prop := (f = -1 ∧ PSAME sk iv rv iv2 rv2 ∧ ∀ ss t q, CT iv rv (sk 2) ss → ALV sk iv rv i t → rv t 4 = some q → (iv t 1 = 6 ∨ iv t 1 = 8) → ¬ (RUA t q cnd n sk iv ∧ ACL ss n (iv (sk 2) 2 - n) (DC (iv t 1)) ∧ LTK ss n)) ∨ (∃ t q, ALV sk iv rv i t ∧ rv t 4 = some q ∧ f = iv q 2 ∧ (∀ ss, CT iv rv (sk 2) ss → (iv t 1 = 6 ∨ iv t 1 = 8) → (RUA t q cnd n sk iv ∧ ACL ss n (iv (sk 2) 2 - n) (DC (iv t 1)) ∧ LTK ss n)) ∧ iv2 (sk 22) 2 = iv (sk 22) 2 ∧ PTAB (fun _ => True) (fun b => b ≠ q) sk iv rv iv2 rv2 ∧ iv2 q 2 = iv q 2 + 1 ∧ PPSH 2 (some t) sk iv rv iv2 rv2)
def PCND (i j cnd f : Int) (sk : Nat → Nat) (iv : Nat → Nat → Int) (rv : Nat → Nat → Option Nat) (iv2 : Nat → Nat → Int) (rv2 : Nat → Nat → Option Nat) : Prop := (f = -1 ∧ PSAME sk iv rv iv2 rv2 ∧ ∀ t q, ALV sk iv rv i t → rv t 4 = some q → ¬ (iv t 0 ≠ 5 ∧ 0 ≤ j ∧ j < iv q 2 ∧ 0 ≤ cnd ∧ cnd ≤ 5)) ∨ (∃ t q, ALV sk iv rv i t ∧ rv t 4 = some q ∧ (iv t 0 ≠ 5 ∧ 0 ≤ j ∧ j < iv q 2 ∧ 0 ≤ cnd ∧ cnd ≤ 5) ∧ iv2 (sk 22) 2 = iv (sk 22) 2 ∧ PTAB (fun _ => True) (fun _ => True) sk iv rv iv2 rv2 ∧ PPSH 3 (some t) sk iv rv iv2 rv2)
def INA (t : Nat) (j : Int) (sk : Nat → Nat) (iv : Nat → Nat → Int) : Prop := 0 ≤ j ∧ j ≤ 3 ∧ ((j = 0 ∧ iv t 0 ≤ 2) ∨ (j = 1 ∧ iv t 0 = 2) ∨ (j ≠ 0 ∧ j ≠ 1 ∧ iv t 0 = 5)) ∧ iv (sk 2) 2 ≤ 4
def PIND (i j f : Int) (sk : Nat → Nat) (iv : Nat → Nat → Int) (rv : Nat → Nat → Option Nat) (iv2 : Nat → Nat → Int) (rv2 : Nat → Nat → Option Nat) : Prop := (f = -1 ∧ PSAME sk iv rv iv2 rv2 ∧ ∀ ss t, CT iv rv (sk 2) ss → ALV sk iv rv i t → (iv t 1 = 6 ∨ iv t 1 = 8) → ¬ (INA t j sk iv ∧ ACL ss 0 (iv (sk 2) 2) (DC (iv t 1)))) ∨ (f = iv (sk 2) 2 ∧ ∃ t, ALV sk iv rv i t ∧ (∀ ss, CT iv rv (sk 2) ss → (iv t 1 = 6 ∨ iv t 1 = 8) → (INA t j sk iv ∧ ACL ss 0 (iv (sk 2) 2) (DC (iv t 1)))) ∧ iv2 (sk 22) 2 = iv (sk 22) 2 ∧ PTAB (fun _ => True) (fun _ => True) sk iv rv iv2 rv2 ∧ PPSH 4 (some t) sk iv rv iv2 rv2)
def PUNX (f : Int) (sk : Nat → Nat) (iv : Nat → Nat → Int) (rv : Nat → Nat → Option Nat) (iv2 : Nat → Nat → Int) (rv2 : Nat → Nat → Option Nat) : Prop := (f = 0 ∧ iv (sk 23) 2 = 0 ∧ PSAME sk iv rv iv2 rv2) ∨ (f = 1 ∧ iv (sk 23) 2 ≠ 0 ∧ ∃ ch, el rv (sk 23) (iv (sk 23) 2 - 1).toNat = some ch ∧ PUND ch sk iv rv iv2 rv2)
theorem ALV.uni {i : Int} {u : Nat} (h : ALV sk iv rv i t) (h2 : ALV sk iv rv i u) : t = u := by
  have e := h.2.2.1.symm.trans h2.2.2.1
  cases e; rfl
theorem PRUL.after {i cnd n f : Int} {iv3 : Nat → Nat → Int} {rv3 : Nat → Nat → Option Nat} (h : PRUL i cnd n f sk iv rv iv2 rv2) (h0 : 0 ≤ iv (sk 23) 2) (h2 : PSAME sk iv2 rv2 iv3 rv3) : PRUL i cnd n f sk iv rv iv3 rv3 := by
  rcases h with ⟨a1, a2, a3⟩ | ⟨t, q, a1, a2, a3, a4, a5, a6, a7, a8⟩
  · exact Or.inl ⟨a1, a2.trans h2, a3⟩
  · refine Or.inr ⟨t, q, a1, a2, a3, a4, h2.1.trans a5, a6.after (by omega) h2, ?_, a8.after h0 h2⟩
    have hi : ((i.toNat : Nat) : Int) < iv (sk 22) 2 := by have w1 := a1.1; have w2 := a1.2.1; omega
    have c := a6.2.1 i.toNat t hi a1.2.2.1
    rw [h2.2.2.1.2.2 i.toNat t q (by omega) ((a6.1 i.toNat hi).trans a1.2.2.1) (c.2.2.2.trans a2) trivial]
    exact a7
theorem PIND.after {i j f : Int} {iv3 : Nat → Nat → Int} {rv3 : Nat → Nat → Option Nat} (h : PIND i j f sk iv rv iv2 rv2) (h0 : 0 ≤ iv (sk 23) 2) (h2 : PSAME sk iv2 rv2 iv3 rv3) : PIND i j f sk iv rv iv3 rv3 := by
  rcases h with ⟨a1, a2, a3⟩ | ⟨a1, t, a2, a3, a5, a6, a8⟩
  · exact Or.inl ⟨a1, a2.trans h2, a3⟩
  · exact Or.inr ⟨a1, t, a2, a3, h2.1.trans a5, a6.after (by omega) h2, a8.after h0 h2⟩
theorem PNEW.after {k d : Int} {iv3 : Nat → Nat → Int} {rv3 : Nat → Nat → Option Nat} (h : PNEW k d sk iv rv iv2 rv2) (h0 : 0 ≤ iv (sk 23) 2) (hn : 0 ≤ iv (sk 22) 2) (h2 : PSAME sk iv2 rv2 iv3 rv3) : PNEW k d sk iv rv iv3 rv3 := by
  obtain ⟨q, r, a1, a2, a3, a4, a5, a6, a7, a8, a9, a10⟩ := h
  have b := h2.2.2.1.2.1 (iv (sk 22) 2).toNat q (by omega) a1
  refine ⟨q, r, (h2.2.2.1.1 (iv (sk 22) 2).toNat (by omega)).trans a1, b.2.1.trans a2, b.2.2.1.trans a3, (b.1 trivial).trans a4, b.2.2.2.trans a5, ?_, a7, h2.1.trans a8, a9.after (by omega) h2, a10.after h0 h2⟩
  rw [h2.2.2.1.2.2 (iv (sk 22) 2).toNat q r (by omega) a1 a5 trivial]; exact a6
theorem PUND.after {ch : Nat} {iv3 : Nat → Nat → Int} {rv3 : Nat → Nat → Option Nat} (hW : WT g sk L cl ln iv rv) (hS : SKL sk L cl) (hc : ∃ k : Nat, (k : Int) < iv (sk 23) 2 ∧ el rv (sk 23) k = some ch) (h : PUND ch sk iv rv iv2 rv2) (h2 : PSAME sk iv2 rv2 iv3 rv3) (hF : fT ls L cl iv2 rv2 iv3 rv3) (x1 : ls.contains 100 = false) (x2 : ls.contains 26 = false) : PUND ch sk iv rv iv3 rv3 := by
  obtain ⟨k0, hk0, hk1⟩ := hc
  have tch := el23 hW hS hk0 hk1
  obtain ⟨a1, a2, a3⟩ := h
  obtain ⟨b1, b2, ⟨b3, b4, b5⟩, b6⟩ := id h2
  refine ⟨b2.trans a1, fun k hk => ?_, ?_⟩
  · have c1 := a2 k hk
    have c2 := b6 k (by omega)
    exact ⟨c2.1.trans c1.1, fun q hq => ⟨(c2.2 q (c1.1.trans hq)).1.trans (c1.2 q hq).1, (c2.2 q (c1.1.trans hq)).2.trans (c1.2 q hq).2⟩⟩
  rcases a3 with ⟨d1, d2, d3, d4, d5⟩ | ⟨d1, t, d2, d3, d4, d5⟩ | ⟨d1, t, q, d2, d3, d4, d5, d6⟩ | ⟨d1, d2, d3⟩
  · refine Or.inl ⟨d1, by rw [b1]; exact d2, fun i hi => (b3 i (by omega)).trans (d3 i (by omega)), fun i t hi ht => ?_, fun i t q hi ht hq _ => ?_⟩
    · have tt := el22 hW hS hi ht
      have c1 := d4 i t hi ht
      exact ⟨fun _ => (hF.i tt x1 7).trans (c1.1 trivial), (hF.i tt x1 0).trans c1.2.1, (hF.i tt x1 1).trans c1.2.2.1, (hF.r tt x1 4).trans c1.2.2.2⟩
    · obtain ⟨b, w1, w2⟩ := hW.ref (el22 hW hS hi ht) 4 rfl rfl rfl
      rw [w1] at hq; cases hq
      exact (hF.i w2 x2 2).trans (d5 i t q hi ht w1 trivial)
  · obtain ⟨b, w1, w2⟩ := hW.ref tch 1 rfl rfl rfl
    have e := d2; rw [w1] at e; cases e
    exact Or.inr (Or.inl ⟨d1, t, d2, b1.trans d3, d4.after (by omega) h2, (hF.i w2 x1 7).trans d5⟩)
  · obtain ⟨b, w1, w2⟩ := hW.ref tch 1 rfl rfl rfl
    have e := d2; rw [w1] at e; cases e
    obtain ⟨b8, w3, w4⟩ := hW.ref w2 4 rfl rfl rfl
    have e := d3; rw [w3] at e; cases e
    exact Or.inr (Or.inr (Or.inl ⟨d1, t, q, d2, d3, b1.trans d4, d5.after (by omega) h2, by rw [hF.i w4 x2 2]; exact d6⟩))
  · exact Or.inr (Or.inr (Or.inr ⟨d1, b1.trans d2, d3.after (by omega) h2⟩))
end MRKS
set_option maxHeartbeats 4000000 in
set_option maxRecDepth 100000 in
theorem C_append {l : Launch} {G : GT} {mi : Nat} {sk : Nat → Nat} {L : List Nat} {cl ln : Nat → Nat} {iv : Nat → Nat → Int} {rv : Nat → Nat → Option Nat}  {a0 : Nat} {a1 : Nat} (hW : WT (g0 G) sk L cl ln iv rv) (hS : SKL sk L cl) (t_a0 : ty L cl a0 100) (t_a1 : ty L cl a1 20) (hsz : ∀ b, rv a0 4 = some b → iv b 2 < 200) : Mc l G mi (Phi (g0 G) sk) PHM yX9_append cX9_append 2 none 7 [.ref a0, .ref a1] L cl ln iv rv 1020 (fun v L2 cl2 ln2 iv2 rv2 => v = none ∧ XT L cl ln L2 cl2 ln2 ∧ fT [26, 1004, 12, 42] L cl iv rv iv2 rv2 ∧ WT (g0 G) sk L2 cl2 ln2 iv2 rv2 ∧ (True) ∧ (∀ q, rv a0 4 = some q → iv2 q 2 = iv q 2 + 1 ∧ ∀ bb, ty L cl bb 26 → bb ≠ q → iv2 bb 2 = iv bb 2) ∧ (∀ q s x, rv a0 4 = some q → rv a0 5 = some s → rv s 1 = some x → KP L cl (fun _ => False) (fun b => b = q) (fun b => b = s) (fun b => b = x) (fun _ _ => False) iv rv iv2 rv2 ∧ el rv2 q (iv q 2).toNat = some a1 ∧ (∀ r : Nat, (r : Int) < iv q 2 → el rv2 q r = el rv q r) ∧ (iv s 2 < 200 → iv2 s 2 = iv s 2 + 1) ∧ (∀ x2, rv2 s 1 = some x2 → x2 = x ∨ x2 ∉ L) ∧ ∃ y, (∀ l, rv a1 1 = some l → 0 < ln l → y = iv l 0) ∧ ∀ ss, CT iv rv s ss → iv s 2 < 200 → CT iv2 rv2 s (va_up ss (iv s 2).toNat y))) := by
  refine Mc.mk (by decide) (Nat.le_of_ble_eq_true rfl) ?_
  intro p e s m args below meth c A C hM
  refine hv3 (Phi.le hW hS) (show XT L cl ln L cl ln from XT.refl) (show fT [26, 1004, 12, 42] L cl iv rv iv rv from fT.refl) (fun hph hX0 hF0 => ?_)
  obtain ⟨q4, hq4, tq4⟩ := hW.ref t_a0 4 rfl rfl rfl
  have ri1 : 0 ≤ iv q4 2 ∧ iv q4 2 ≤ 200 := hW.int tq4 2
  obtain ⟨s5, hs5, ts5⟩ := hW.ref t_a0 5 rfl rfl rfl
  obtain ⟨x5, hx5, tx5⟩ := hW.ref ts5 1 rfl rfl rfl
  refine hv2 (show 0 ≤ iv s5 2 ∧ iv s5 2 ≤ 200 from hW.int ts5 2) (show KP L cl (fun _ => False) (fun b => b = q4) (fun b => b = s5) (fun b => b = x5) (fun _ _ => False) iv rv iv rv from KP.refl) (fun ri2 kp1 => ?_)
  refine c_aload_n (j := 0) (x := a0) C dX9_append_0 rfl ?_
  refine c_getr (k := 4) C ck_10 dX9_append_1 w2_186 (by decide) t_a0 rfl rfl (by decide) rfl hq4 ?_
  refine c_st (st2 := [.ref q4]) rfl ?_
  refine c_aload_n (j := 1) (x := a1) C dX9_append_4 rfl ?_
  have hz9 := hsz q4 hq4
  refine d_callV (As := [.ref a1]) (rest := []) C hM (C_add_26 (a0 := q4) (x := a1) hW hS tq4 t_a1  (by show iv q4 2 < 200; omega)) dX9_append_5 kV_X9_51 rfl tq4 rfl rfl (by decide) ck_0 rfl (Nat.le_of_ble_eq_true rfl) ⟨(Nat.le_of_ble_eq_true rfl), (Nat.le_of_ble_eq_true rfl)⟩ hph hph (show 0 + 420 = 420 from rfl) (by decide) (fun rh1 Lh1 clh1 lnh1 ivh1 rvh1 h1 => ?_)
  obtain ⟨f1, rfl, xl1, fl1, W1, rgf1, exf1, o26f1⟩ := h1
  refine hv4 (hF0.call hX0 fl1 rfl) (kp1.trans TX.refl (KP.l26 hW fl1 o26f1)) (hX0.trans xl1) (xl1.skl hS) (fun F1 kp2 X1 sk1 => ?_)
  refine c_st (st2 := [.int (iI f1)]) rfl ?_
  refine hv2 (xl1.ty tq4) (show ivh1 q4 2 = iv q4 2 + 1 ∧ el rvh1 q4 (iv q4 2).toNat = some a1 ∧ ∀ i : Nat, (i : Int) < iv q4 2 → el rvh1 q4 i = el rv q4 i from exf1) (fun ty1 gf1 => ?_)
  have ri3 : 0 ≤ ivh1 q4 2 ∧ ivh1 q4 2 ≤ 200 := W1.int ty1 2
  refine c_pop C dX9_append_8 rfl ?_
  refine c_aload_n (j := 0) (x := a0) C dX9_append_9 rfl ?_
  refine hv2 (xl1.ty t_a0) (show rvh1 a0 5 = rv a0 5 from (fl1.r t_a0 rfl 5)) (fun ty2 re1 => ?_)
  rw [hs5] at re1
  refine c_getr (k := 5) C ck_10 dX9_append_10 w2_190 (by decide) ty2 rfl rfl (by decide) rfl re1 ?_
  refine c_st (st2 := [.ref s5]) rfl ?_
  refine c_aload_n (j := 1) (x := a1) C dX9_append_13 rfl ?_
  have ty3 := xl1.ty t_a1
  obtain ⟨rb1, rq1, trb1⟩ := W1.ref ty3 1 rfl rfl rfl
  have lnrb1 : 0 ≤ lnh1 rb1 ∧ lnh1 rb1 ≤ 8 := W1.len trb1 rfl
  refine c_getr (k := 1) C ck_6 dX9_append_14 w3_139 (by decide) ty3 rfl rfl (by decide) rfl rq1 ?_
  refine c_st (st2 := [.ref rb1, .ref s5]) rfl ?_
  have lt1 : rv a1 1 = some rb1 := (fl1.r t_a1 rfl 1).symm.trans rq1
  have lt1t : ty L cl rb1 65 := by
    obtain ⟨b9, w1, w2⟩ := hW.ref t_a1 1 rfl rfl rfl
    rw [lt1] at w1; cases w1; exact w2
  have ll1 : 0 ≤ lnh1 rb1 ∧ lnh1 rb1 ≤ 8 := W1.len trb1 rfl
  refine c_alenI C dX9_append_17 trb1 rfl ?_
  refine c_if_le (tgt := 30) C ⟨by omega, by omega⟩ dX9_append_18 (by decide) (fun c1 => ?_) (fun c1 => ?_)
  · refine c_iconst C dX9_append_30 ?_
    refine hv2 (xl1.ty ts5) (show rvh1 s5 1 = rv s5 1 from (fl1.r ts5 rfl 1)) (fun ty4 re2 => ?_)
    rw [hx5] at re2
    refine hv3 (show 0 ≤ ivh1 s5 2 ∧ ivh1 s5 2 ≤ 200 from W1.int ty4 2) (show ivh1 s5 2 = iv s5 2 from fl1.i ts5 rfl 2) (Phi.le W1 sk1) (fun ri4 ie2 pl1 => ?_)
    refine d_callV (As := [.int (iI 0)]) (rest := []) C hM (C_add_12 (a0 := s5) (x := 0) W1 sk1 ty4 ⟨by decide, by decide⟩ ) dX9_append_31 kV_X9_59 rfl ty4 rfl rfl (by decide) ck_2 rfl (Nat.le_of_ble_eq_true rfl) ⟨(Nat.le_of_ble_eq_true rfl), (Nat.le_of_ble_eq_true rfl)⟩ hph pl1 (show 420 + 600 = 1020 from rfl) (by decide) (fun rh2 Lh2 clh2 lnh2 ivh2 rvh2 h2 => ?_)
    obtain ⟨rfl, xl2, fl2, W2, exf2, o12f2, o42f2, o1xf2⟩ := h2
    refine hv5 (F1.call X1 fl2 rfl) (TX.xt TX.refl xl1) (xl1.ty tx5) (X1.trans xl2) (xl2.skl sk1) (fun F2 tx1 ty5 X2 sk2 => ?_)
    have kp3 := kp2.trans tx1 (KP.i12 W1 fl2 rfl o12f2 (fun bb tb hb k => o42f2 bb tb (fun e => hb (by rw [re2] at e; cases e; rfl)) k))
    refine c_st (st2 := []) rfl ?_
    refine hv6 (xl2.ty ty4) (show ((ivh2 s5 2 = ivh1 s5 2 ∧ ivh1 s5 2 = 200) ∨ (ivh2 s5 2 = ivh1 s5 2 + 1 ∧ ivh1 s5 2 < 200)) ∧ ∀ ss, CT ivh1 rvh1 s5 ss → ivh1 s5 2 < 200 → CT ivh2 rvh2 s5 (va_up ss (ivh1 s5 2).toNat (0 : Int)) from exf2) (xl2.ty ty1) (show ivh2 q4 2 = ivh1 q4 2 from fl2.i ty1 rfl 2) (xl2.ty ty3) (show rvh2 a1 1 = rvh1 a1 1 from (fl2.r ty3 rfl 1)) (fun ty6 gf2 ty7 ie4 ty8 re3 => ?_)
    refine hv2 (show 0 ≤ ivh2 s5 2 ∧ ivh2 s5 2 ≤ 200 from W2.int ty6 2) (show 0 ≤ ivh2 q4 2 ∧ ivh2 q4 2 ≤ 200 from W2.int ty7 2) (fun ri5 ri6 => ?_)
    rw [rq1] at re3
    have pl2 := Phi.le W2 sk2
    exact c_vret C dX9_append_34 rfl (by decide) (rom0 hph pl2 (by decide)) ⟨rfl, X2, F2, W2, trivial, (fun q hq => by
        rw [hq4] at hq
        cases hq
        exact ⟨by omega, fun bb tbb hbb => by have tb1 := xl1.ty tbb; exact (Eq.trans (show ivh2 bb 2 = ivh1 bb 2 from (fl2.i tb1 rfl 2)) (show ivh1 bb 2 = iv bb 2 from (o26f1 bb tbb hbb).1))⟩), (fun q s x h4 h5 hx => by
        rw [hq4] at h4; cases h4
        rw [hs5] at h5; cases h5
        rw [hx5] at hx; cases hx
        refine ⟨kp3, ?_, fun r hr => ?_, fun _ => by omega, fun x2 h2 => ?_, 0, (fun l hl h0 => by rw [lt1] at hl; cases hl; have q := (X1 _ lt1t.1).2.2; omega), (fun ss hs hl => by
          have g1 := CT.fr hs hW ts5 fl1 rfl rfl rfl rfl rfl
          have g2 := gf2.2 ss g1 (by omega)
          rw [show (ivh1 s5 2).toNat = (iv s5 2).toNat from congrArg Int.toNat (by omega)] at g2
          exact g2)⟩
        · rw [(el_fr W1 ty1 rfl rfl fl2 rfl rfl (by omega))]; exact exf1.2.1
        · rw [(el_fr W1 ty1 rfl rfl fl2 rfl rfl (by omega))]; exact exf1.2.2 r hr
        · rcases o1xf2 x2 h2 with e | e
          · rw [re2] at e; cases e; exact Or.inl rfl
          · exact Or.inr (fun hm => e ((X1 _ hm).1)))⟩
  · refine c_aload_n (j := 1) (x := a1) C dX9_append_21 rfl ?_
    refine c_getr (k := 1) C ck_6 dX9_append_22 w3_139 (by decide) ty3 rfl rfl (by decide) rfl rq1 ?_
    refine c_st (st2 := [.ref rb1, .ref s5]) rfl ?_
    refine c_iconst C dX9_append_25 ?_
    refine c_iald C dX9_append_26 trb1 rfl (by omega) (by omega) (by omega) ?_
    have ri7 : (-2147483648) ≤ ivh1 rb1 ((0 : Int).toNat) ∧ ivh1 rb1 ((0 : Int).toNat) ≤ 2147483647 := W1.int trb1 ((0 : Int).toNat)
    refine c_goto (tgt := 31) C dX9_append_27 (by decide) ?_
    refine hv2 (xl1.ty ts5) (show rvh1 s5 1 = rv s5 1 from (fl1.r ts5 rfl 1)) (fun ty9 re4 => ?_)
    rw [hx5] at re4
    refine hv3 (show 0 ≤ ivh1 s5 2 ∧ ivh1 s5 2 ≤ 200 from W1.int ty9 2) (show ivh1 s5 2 = iv s5 2 from fl1.i ts5 rfl 2) (Phi.le W1 sk1) (fun ri8 ie6 pl3 => ?_)
    refine d_callV (As := [.int (iI (ivh1 rb1 (0 : Int).toNat))]) (rest := []) C hM (C_add_12 (a0 := s5) (x := ivh1 rb1 (0 : Int).toNat) W1 sk1 ty9 (by omega) ) dX9_append_31 kV_X9_59 rfl ty9 rfl rfl (by decide) ck_2 rfl (Nat.le_of_ble_eq_true rfl) ⟨(Nat.le_of_ble_eq_true rfl), (Nat.le_of_ble_eq_true rfl)⟩ hph pl3 (show 420 + 600 = 1020 from rfl) (by decide) (fun rh3 Lh3 clh3 lnh3 ivh3 rvh3 h3 => ?_)
    obtain ⟨rfl, xl3, fl3, W3, exf3, o12f3, o42f3, o1xf3⟩ := h3
    refine hv5 (F1.call X1 fl3 rfl) (TX.xt TX.refl xl1) (xl1.ty tx5) (X1.trans xl3) (xl3.skl sk1) (fun F3 tx2 ty10 X3 sk3 => ?_)
    have kp4 := kp2.trans tx2 (KP.i12 W1 fl3 rfl o12f3 (fun bb tb hb k => o42f3 bb tb (fun e => hb (by rw [re4] at e; cases e; rfl)) k))
    refine c_st (st2 := []) rfl ?_
    refine hv6 (xl3.ty ty9) (show ((ivh3 s5 2 = ivh1 s5 2 ∧ ivh1 s5 2 = 200) ∨ (ivh3 s5 2 = ivh1 s5 2 + 1 ∧ ivh1 s5 2 < 200)) ∧ ∀ ss, CT ivh1 rvh1 s5 ss → ivh1 s5 2 < 200 → CT ivh3 rvh3 s5 (va_up ss (ivh1 s5 2).toNat (ivh1 rb1 (0 : Int).toNat)) from exf3) (xl3.ty ty1) (show ivh3 q4 2 = ivh1 q4 2 from fl3.i ty1 rfl 2) (xl3.ty ty3) (show rvh3 a1 1 = rvh1 a1 1 from (fl3.r ty3 rfl 1)) (fun ty11 gf3 ty12 ie8 ty13 re5 => ?_)
    refine hv2 (show 0 ≤ ivh3 s5 2 ∧ ivh3 s5 2 ≤ 200 from W3.int ty11 2) (show 0 ≤ ivh3 q4 2 ∧ ivh3 q4 2 ≤ 200 from W3.int ty12 2) (fun ri9 ri10 => ?_)
    rw [rq1] at re5
    have pl4 := Phi.le W3 sk3
    exact c_vret C dX9_append_34 rfl (by decide) (rom0 hph pl4 (by decide)) ⟨rfl, X3, F3, W3, trivial, (fun q hq => by
        rw [hq4] at hq
        cases hq
        exact ⟨by omega, fun bb tbb hbb => by have tb1 := xl1.ty tbb; exact (Eq.trans (show ivh3 bb 2 = ivh1 bb 2 from (fl3.i tb1 rfl 2)) (show ivh1 bb 2 = iv bb 2 from (o26f1 bb tbb hbb).1))⟩), (fun q s x h4 h5 hx => by
        rw [hq4] at h4; cases h4
        rw [hs5] at h5; cases h5
        rw [hx5] at hx; cases hx
        refine ⟨kp4, ?_, fun r hr => ?_, fun _ => by omega, fun x2 h2 => ?_, ivh1 rb1 (0 : Int).toNat, (fun l hl h0 => by rw [lt1] at hl; cases hl; exact fl1.i lt1t rfl 0), (fun ss hs hl => by
          have g1 := CT.fr hs hW ts5 fl1 rfl rfl rfl rfl rfl
          have g2 := gf3.2 ss g1 (by omega)
          rw [show (ivh1 s5 2).toNat = (iv s5 2).toNat from congrArg Int.toNat (by omega)] at g2
          exact g2)⟩
        · rw [(el_fr W1 ty1 rfl rfl fl3 rfl rfl (by omega))]; exact exf1.2.1
        · rw [(el_fr W1 ty1 rfl rfl fl3 rfl rfl (by omega))]; exact exf1.2.2 r hr
        · rcases o1xf3 x2 h2 with e | e
          · rw [re4] at e; cases e; exact Or.inl rfl
          · exact Or.inr (fun hm => e ((X1 _ hm).1)))⟩
set_option maxHeartbeats 4000000 in
set_option maxRecDepth 100000 in
theorem C_removeLast {l : Launch} {G : GT} {mi : Nat} {sk : Nat → Nat} {L : List Nat} {cl ln : Nat → Nat} {iv : Nat → Nat → Int} {rv : Nat → Nat → Option Nat}  {a0 : Nat} (hW : WT (g0 G) sk L cl ln iv rv) (hS : SKL sk L cl) (t_a0 : ty L cl a0 100)  : Mc l G mi (Phi (g0 G) sk) PHM yX9_removeLast cX9_removeLast 1 none 3 [.ref a0] L cl ln iv rv 0 (fun v L2 cl2 ln2 iv2 rv2 => v = none ∧ L = L2 ∧ cl = cl2 ∧ ln = ln2 ∧ fT [26, 1004, 12] L cl iv rv iv2 rv2 ∧ WT (g0 G) sk L2 cl2 ln2 iv2 rv2 ∧ (True) ∧ (∀ q, rv a0 4 = some q → ((iv q 2 = 0 ∧ iv2 q 2 = 0) ∨ (iv q 2 ≠ 0 ∧ iv2 q 2 = iv q 2 - 1)) ∧ ∀ bb, ty L cl bb 26 → bb ≠ q → iv2 bb 2 = iv bb 2) ∧ (∀ q s, rv a0 4 = some q → rv a0 5 = some s → KP L cl (fun _ => False) (fun b => b = q) (fun b => b = s) (fun _ => False) (fun _ _ => False) iv rv iv2 rv2 ∧ (∀ r : Nat, (r : Int) < iv2 q 2 → el rv2 q r = el rv q r) ∧ (iv s 2 = iv q 2 → iv2 s 2 = iv2 q 2) ∧ rv2 s 1 = rv s 1)) := by
  refine Mc.mk (by decide) (Nat.le_of_ble_eq_true rfl) ?_
  intro p e s m args below meth c A C hM
  refine hv3 (Phi.le hW hS) (show XT L cl ln L cl ln from XT.refl) (show fT [26, 1004, 12] L cl iv rv iv rv from fT.refl) (fun hph hX0 hF0 => ?_)
  obtain ⟨q4, hq4, tq4⟩ := hW.ref t_a0 4 rfl rfl rfl
  have ri1 : 0 ≤ iv q4 2 ∧ iv q4 2 ≤ 200 := hW.int tq4 2
  obtain ⟨s5, hs5, ts5⟩ := hW.ref t_a0 5 rfl rfl rfl
  obtain ⟨x5, hx5, tx5⟩ := hW.ref ts5 1 rfl rfl rfl
  refine hv2 (show 0 ≤ iv s5 2 ∧ iv s5 2 ≤ 200 from hW.int ts5 2) (show KP L cl (fun _ => False) (fun b => b = q4) (fun b => b = s5) (fun _ => False) (fun _ _ => False) iv rv iv rv from KP.refl) (fun ri2 kp1 => ?_)
  refine c_aload_n (j := 0) (x := a0) C dX9_removeLast_0 rfl ?_
  refine c_getr (k := 4) C ck_10 dX9_removeLast_1 w2_186 (by decide) t_a0 rfl rfl (by decide) rfl hq4 ?_
  refine c_st (st2 := [.ref q4]) rfl ?_
  refine d_callV (As := []) (rest := []) C hM (C_isEmpty_26 (a0 := q4) hW hS tq4  ) dX9_removeLast_4 kV_X9_61 rfl tq4 rfl rfl (by decide) ck_0 rfl (Nat.le_of_ble_eq_true rfl) ⟨(Nat.le_of_ble_eq_true rfl), (Nat.le_of_ble_eq_true rfl)⟩ hph hph (show 0 + 0 = 0 from rfl) (by decide) (fun rh1 Lh1 clh1 lnh1 ivh1 rvh1 h1 => ?_)
  obtain ⟨f1, rfl, rfl, rfl, rfl, rfl, rfl, rgf1, exf1⟩ := h1
  refine c_st (st2 := [.int (iI f1)]) rfl ?_
  have gf1 : (f1 = 1 ∧ iv q4 2 = 0) ∨ (f1 = 0 ∧ iv q4 2 ≠ 0) := exf1
  refine c_if_ne (tgt := 41) C (r32_qp gf1) dX9_removeLast_7 (by decide) (fun c1 => ?_) (fun c1 => ?_)
  · replace gf1 := (gf1.resolve_right (fun q => c1 q.1))
    exact c_vret C dX9_removeLast_41 rfl (by decide) (rom0 hph hph (by decide)) ⟨rfl, rfl, rfl, rfl, hF0, hW, trivial, (fun q hq => by
        rw [hq4] at hq
        cases hq
        exact ⟨by omega, fun bb tbb hbb => by exact rfl⟩), (fun q s h4 h5 => by
        rw [hq4] at h4; cases h4
        rw [hs5] at h5; cases h5
        exact ⟨kp1, fun _ _ => rfl, fun _ => by omega, rfl⟩)⟩
  · replace gf1 := (gf1.resolve_left (fun q => absurd (q.1.symm.trans c1) (by decide)))
    refine c_aload_n (j := 0) (x := a0) C dX9_removeLast_10 rfl ?_
    refine c_getr (k := 4) C ck_10 dX9_removeLast_11 w2_186 (by decide) t_a0 rfl rfl (by decide) rfl hq4 ?_
    refine c_st (st2 := [.ref q4]) rfl ?_
    refine c_aload_n (j := 0) (x := a0) C dX9_removeLast_14 rfl ?_
    refine c_getr (k := 4) C ck_10 dX9_removeLast_15 w2_186 (by decide) t_a0 rfl rfl (by decide) rfl hq4 ?_
    refine c_st (st2 := [.ref q4, .ref q4]) rfl ?_
    refine d_callV (As := []) (rest := [.ref q4]) C hM (C_size_26 (a0 := q4) hW hS tq4  ) dX9_removeLast_18 kV_X9_65 rfl tq4 rfl rfl (by decide) ck_0 rfl (Nat.le_of_ble_eq_true rfl) ⟨(Nat.le_of_ble_eq_true rfl), (Nat.le_of_ble_eq_true rfl)⟩ hph hph (show 0 + 0 = 0 from rfl) (by decide) (fun rh2 Lh2 clh2 lnh2 ivh2 rvh2 h2 => ?_)
    obtain ⟨f2, rfl, rfl, rfl, rfl, rfl, rfl, rgf2, exf2⟩ := h2
    refine c_st (st2 := [.int (iI f2), .ref q4]) rfl ?_
    have gf2 : f2 = iv q4 2 := exf2
    refine c_iconst C dX9_removeLast_21 ?_
    refine c_isub C dX9_removeLast_22 ?_
    refine d_callV (As := [.int (iI (f2 - 1))]) (rest := []) C hM (C_remove_26 (a0 := q4) (i := f2 - 1) hW hS tq4 (by omega) (by show (f2 - 1) = iv q4 2 - 1 ∧ 0 ≤ (f2 - 1); omega)) dX9_removeLast_23 kV_X9_69 rfl tq4 rfl rfl (by decide) ck_0 rfl (Nat.le_of_ble_eq_true rfl) ⟨(Nat.le_of_ble_eq_true rfl), (Nat.le_of_ble_eq_true rfl)⟩ hph hph (show 0 + 0 = 0 from rfl) (by decide) (fun rh3 Lh3 clh3 lnh3 ivh3 rvh3 h3 => ?_)
    obtain ⟨f3, rfl, rfl, rfl, rfl, fl3, W3, rgf3, exf3, rmef3, o26f3⟩ := h3
    refine hv2 (hF0.call hX0 fl3 rfl) (kp1.trans TX.refl (KP.l26 hW fl3 o26f3)) (fun F1 kp2 => ?_)
    refine c_st (st2 := [.ref f3]) rfl ?_
    refine hv2 (show 0 ≤ ivh3 q4 2 ∧ ivh3 q4 2 ≤ 200 from W3.int tq4 2) (show ivh3 q4 2 = iv q4 2 - 1 ∧ ∀ j : Nat, (j : Int) < iv q4 2 - 1 → el rvh3 q4 j = el rv q4 j from exf3) (fun ri3 gf3 => ?_)
    refine c_pop C dX9_removeLast_26 rfl ?_
    refine c_aload_n (j := 0) (x := a0) C dX9_removeLast_27 rfl ?_
    have re1 : rvh3 a0 5 = rv a0 5 := (fl3.r t_a0 rfl 5)
    rw [hs5] at re1
    refine c_getr (k := 5) C ck_10 dX9_removeLast_28 w2_190 (by decide) t_a0 rfl rfl (by decide) rfl re1 ?_
    refine c_st (st2 := [.ref s5]) rfl ?_
    refine c_aload_n (j := 0) (x := a0) C dX9_removeLast_31 rfl ?_
    have re2 : rvh3 a0 4 = rv a0 4 := (fl3.r t_a0 rfl 4)
    rw [hq4] at re2
    refine c_getr (k := 4) C ck_10 dX9_removeLast_32 w2_186 (by decide) t_a0 rfl rfl (by decide) rfl re2 ?_
    refine c_st (st2 := [.ref q4, .ref s5]) rfl ?_
    have pl1 := Phi.le W3 hS
    refine d_callV (As := []) (rest := [.ref s5]) C hM (C_size_26 (a0 := q4) W3 hS tq4  ) dX9_removeLast_35 kV_X9_65 rfl tq4 rfl rfl (by decide) ck_0 rfl (Nat.le_of_ble_eq_true rfl) ⟨(Nat.le_of_ble_eq_true rfl), (Nat.le_of_ble_eq_true rfl)⟩ hph pl1 (show 0 + 0 = 0 from rfl) (by decide) (fun rh4 Lh4 clh4 lnh4 ivh4 rvh4 h4 => ?_)
    obtain ⟨f4, rfl, rfl, rfl, rfl, rfl, rfl, rgf4, exf4⟩ := h4
    refine c_st (st2 := [.int (iI f4), .ref s5]) rfl ?_
    refine hv3 (show f4 = ivh3 q4 2 from exf4) (show 0 ≤ ivh3 s5 2 ∧ ivh3 s5 2 ≤ 200 from W3.int ts5 2) (show ivh3 s5 2 = iv s5 2 from fl3.i ts5 rfl 2) (fun gf4 ri4 ie2 => ?_)
    refine d_callV (As := [.int (iI f4)]) (rest := []) C hM (C_keep_12 (a0 := s5) (n := f4) W3 hS ts5 (by omega) ) dX9_removeLast_38 kV_X9_73 rfl ts5 rfl rfl (by decide) ck_2 rfl (Nat.le_of_ble_eq_true rfl) ⟨(Nat.le_of_ble_eq_true rfl), (Nat.le_of_ble_eq_true rfl)⟩ hph pl1 (show 0 + 0 = 0 from rfl) (by decide) (fun rh5 Lh5 clh5 lnh5 ivh5 rvh5 h5 => ?_)
    obtain ⟨rfl, rfl, rfl, rfl, rfl, fl5, W5, exf5, o12f5⟩ := h5
    refine hv2 (F1.call hX0 fl5 rfl) (kp2.trans TX.refl (KP.i12 W3 fl5 rfl (fun bb tb hb => ⟨o12f5 bb tb hb, rfl⟩) (fun bb tb _ k => fl5.i tb rfl k))) (fun F2 kp3 => ?_)
    refine c_st (st2 := []) rfl ?_
    refine hv4 (show 0 ≤ ivh5 s5 2 ∧ ivh5 s5 2 ≤ 200 from W5.int ts5 2) (show ivh5 s5 2 ≤ ivh3 s5 2 ∧ (f4 < 0 ∨ ivh3 s5 2 < f4 ∨ ivh5 s5 2 = f4) from exf5) (show 0 ≤ ivh5 q4 2 ∧ ivh5 q4 2 ≤ 200 from W5.int tq4 2) (show ivh5 q4 2 = ivh3 q4 2 from fl5.i tq4 rfl 2) (fun ri5 gf5 ri6 ie4 => ?_)
    exact c_vret C dX9_removeLast_41 rfl (by decide) (rom0 hph pl1 (by decide)) ⟨rfl, rfl, rfl, rfl, F2, W5, trivial, (fun q hq => by
        rw [hq4] at hq
        cases hq
        exact ⟨by omega, fun bb tbb hbb => by exact (Eq.trans (show ivh5 bb 2 = ivh3 bb 2 from (fl5.i tbb rfl 2)) (show ivh3 bb 2 = iv bb 2 from (o26f3 bb tbb hbb).1))⟩), (fun q s h4 h5 => by
        rw [hq4] at h4; cases h4
        rw [hs5] at h5; cases h5
        exact ⟨kp3, fun r hr => exf3.2 r (by omega), fun _ => by omega, fl3.r ts5 rfl 1⟩)⟩
set_option maxHeartbeats 4000000 in
set_option maxRecDepth 100000 in
theorem C_isFull {l : Launch} {G : GT} {mi : Nat} {sk : Nat → Nat} {L : List Nat} {cl ln : Nat → Nat} {iv : Nat → Nat → Int} {rv : Nat → Nat → Option Nat}  {a0 : Nat} (hW : WT (g0 G) sk L cl ln iv rv) (hS : SKL sk L cl) (t_a0 : ty L cl a0 13)  : Mc l G mi (Phi (g0 G) sk) PHM yX10_isFull cX10_isFull 1 (some .boolean) 1 [.ref a0] L cl ln iv rv 0 (fun v L2 cl2 ln2 iv2 rv2 => ∃ f : Int, v = some (.int (iI f)) ∧ L = L2 ∧ cl = cl2 ∧ ln = ln2 ∧ iv = iv2 ∧ rv = rv2 ∧ (f = 0 ∨ f = 1) ∧ ((f = 1 ∧ 30 ≤ iv (sk 22) 2) ∨ (f = 0 ∧ iv (sk 22) 2 < 30))) := by
  refine Mc.mk (by decide) (Nat.le_of_ble_eq_true rfl) ?_
  intro p e s m args below meth c A C hM
  refine hv5 (Phi.le hW hS) (show ty L cl (sk 22) 22 from ⟨(hS 22 rfl).1, by rw [(hS 22 rfl).2]; rfl⟩) (show ty L cl (sk 23) 23 from ⟨(hS 23 rfl).1, by rw [(hS 23 rfl).2]; rfl⟩) (show XT L cl ln L cl ln from XT.refl) (show fT [] L cl iv rv iv rv from fT.refl) (fun hph tsk22 tsk23 hX0 hF0 => ?_)
  refine c_aload_n (j := 0) (x := a0) C dX10_isFull_0 rfl ?_
  obtain ⟨rb1, rq1, trb1⟩ := hW.ref t_a0 0 rfl rfl rfl
  have erb1 := hW.sk trb1 (by decide) rfl
  subst erb1
  refine c_getr (k := 0) C ck_11 dX10_isFull_1 w1_90 (by decide) t_a0 rfl rfl (by decide) rfl rq1 ?_
  refine c_st (st2 := [.ref (sk 22)]) rfl ?_
  have ri1 : 0 ≤ iv (sk 22) 2 ∧ iv (sk 22) 2 ≤ 30 := hW.int tsk22 2
  refine d_callV (As := []) (rest := []) C hM (C_size_22 (a0 := (sk 22)) hW hS tsk22  ) dX10_isFull_4 kV_X10_21 rfl tsk22 rfl rfl (by decide) ck_0 rfl (Nat.le_of_ble_eq_true rfl) ⟨(Nat.le_of_ble_eq_true rfl), (Nat.le_of_ble_eq_true rfl)⟩ hph hph (show 0 + 0 = 0 from rfl) (by decide) (fun rh1 Lh1 clh1 lnh1 ivh1 rvh1 h1 => ?_)
  obtain ⟨f1, rfl, rfl, rfl, rfl, rfl, rfl, rgf1, exf1⟩ := h1
  refine c_st (st2 := [.int (iI f1)]) rfl ?_
  have gf1 : f1 = iv (sk 22) 2 := exf1
  refine c_bipush (z := 30) C dX10_isFull_7 (by decide) ?_
  refine c_icmp_lt (tgt := 16) C ⟨by omega, by omega⟩ ⟨by decide, by decide⟩ dX10_isFull_9 (by decide) (fun c1 => ?_) (fun c1 => ?_)
  · refine c_iconst C dX10_isFull_16 ?_
    exact c_zret C dX10_isFull_17 rfl (Or.inl rfl) (by decide) (rom0 hph hph (by decide)) ⟨0, rfl, rfl, rfl, rfl, rfl, rfl, (Or.inl rfl), (by omega)⟩
  · refine c_iconst C dX10_isFull_12 ?_
    refine c_goto (tgt := 17) C dX10_isFull_13 (by decide) ?_
    exact c_zret C dX10_isFull_17 rfl (Or.inr rfl) (by decide) (rom0 hph hph (by decide)) ⟨1, rfl, rfl, rfl, rfl, rfl, rfl, (Or.inr rfl), (by omega)⟩
set_option maxHeartbeats 4000000 in
set_option maxRecDepth 100000 in
theorem C_alive {l : Launch} {G : GT} {mi : Nat} {sk : Nat → Nat} {L : List Nat} {cl ln : Nat → Nat} {iv : Nat → Nat → Int} {rv : Nat → Nat → Option Nat}  {a0 : Nat} {i : Int} (hW : WT (g0 G) sk L cl ln iv rv) (hS : SKL sk L cl) (t_a0 : ty L cl a0 13) (h_i : -2147483648 ≤ i ∧ i ≤ 2147483647) (hmr : MRK sk cl iv rv) : Mc l G mi (Phi (g0 G) sk) PHM yX10_alive cX10_alive 3 (some (.object "DotPress$Table")) 3 [.ref a0, .int (iI i)] L cl ln iv rv 0 (fun v L2 cl2 ln2 iv2 rv2 => ∃ f : Option Nat, v = some ((va_rf f)) ∧ L = L2 ∧ cl = cl2 ∧ ln = ln2 ∧ iv = iv2 ∧ rv = rv2 ∧ (∀ b, f = some b → ty L2 cl2 b 100) ∧ ((∀ b, f = some b → ((cl b : Nat) : Int) < 100 + iv (sk 22) 2 ∧ ALV sk iv rv i b) ∧ (f = none → ∀ b, ¬ ALV sk iv rv i b))) := by
  refine Mc.mk (by decide) (Nat.le_of_ble_eq_true rfl) ?_
  intro p e s m args below meth c A C hM
  refine hv5 (Phi.le hW hS) (show ty L cl (sk 22) 22 from ⟨(hS 22 rfl).1, by rw [(hS 22 rfl).2]; rfl⟩) (show ty L cl (sk 23) 23 from ⟨(hS 23 rfl).1, by rw [(hS 23 rfl).2]; rfl⟩) (show XT L cl ln L cl ln from XT.refl) (show fT [] L cl iv rv iv rv from fT.refl) (fun hph tsk22 tsk23 hX0 hF0 => ?_)
  refine c_iload_n (j := 1) C dX10_alive_0 rfl ?_
  refine c_if_lt (tgt := 15) C ⟨by omega, by omega⟩ dX10_alive_1 (by decide) (fun c1 => ?_) (fun c1 => ?_)
  · refine c_null C dX10_alive_15 ?_
    exact c_aret (x := none) C dX10_alive_16 rfl (Or.inl ⟨_, rfl⟩) (by decide) (rom0 hph hph (by decide)) ⟨none, rfl, rfl, rfl, rfl, rfl, rfl, (fun _ q => by cases q), ⟨(fun _ q => by cases q), fun _ b q => by have q1 := q.1; have q2 := q.2.1; omega⟩⟩
  · refine c_iload_n (j := 1) C dX10_alive_4 rfl ?_
    refine c_aload_n (j := 0) (x := a0) C dX10_alive_5 rfl ?_
    obtain ⟨rb1, rq1, trb1⟩ := hW.ref t_a0 0 rfl rfl rfl
    have erb1 := hW.sk trb1 (by decide) rfl
    subst erb1
    refine c_getr (k := 0) C ck_11 dX10_alive_6 w1_90 (by decide) t_a0 rfl rfl (by decide) rfl rq1 ?_
    refine c_st (st2 := [.ref (sk 22), .int (iI i)]) rfl ?_
    have ri1 : 0 ≤ iv (sk 22) 2 ∧ iv (sk 22) 2 ≤ 30 := hW.int tsk22 2
    refine d_callV (As := []) (rest := [.int (iI i)]) C hM (C_size_22 (a0 := (sk 22)) hW hS tsk22  ) dX10_alive_9 kV_X10_21 rfl tsk22 rfl rfl (by decide) ck_0 rfl (Nat.le_of_ble_eq_true rfl) ⟨(Nat.le_of_ble_eq_true rfl), (Nat.le_of_ble_eq_true rfl)⟩ hph hph (show 0 + 0 = 0 from rfl) (by decide) (fun rh1 Lh1 clh1 lnh1 ivh1 rvh1 h1 => ?_)
    obtain ⟨f1, rfl, rfl, rfl, rfl, rfl, rfl, rgf1, exf1⟩ := h1
    refine c_st (st2 := [.int (iI f1), .int (iI i)]) rfl ?_
    have gf1 : f1 = iv (sk 22) 2 := exf1
    refine c_icmp_lt (tgt := 17) C ⟨by omega, by omega⟩ ⟨by omega, by omega⟩ dX10_alive_12 (by decide) (fun c2 => ?_) (fun c2 => ?_)
    · refine c_aload_n (j := 0) (x := a0) C dX10_alive_17 rfl ?_
      refine c_getr (k := 0) C ck_11 dX10_alive_18 w1_90 (by decide) t_a0 rfl rfl (by decide) rfl rq1 ?_
      refine c_st (st2 := [.ref (sk 22)]) rfl ?_
      refine c_iload_n (j := 1) C dX10_alive_21 rfl ?_
      refine d_callV (As := [.int (iI i)]) (rest := []) C hM (C_get_22 (a0 := (sk 22)) (i := i) hW hS tsk22 (by omega) (by show 0 ≤ i ∧ i < iv (sk 22) 2; omega)) dX10_alive_22 kV_X10_25 rfl tsk22 rfl rfl (by decide) ck_0 rfl (Nat.le_of_ble_eq_true rfl) ⟨(Nat.le_of_ble_eq_true rfl), (Nat.le_of_ble_eq_true rfl)⟩ hph hph (show 0 + 0 = 0 from rfl) (by decide) (fun rh2 Lh2 clh2 lnh2 ivh2 rvh2 h2 => ?_)
      obtain ⟨f2, rfl, rfl, rfl, rfl, rfl, rfl, rgf2, exf2⟩ := h2
      refine c_st (st2 := [.ref f2]) rfl ?_
      have gf2 : el rv (sk 22) i.toNat = some f2 := exf2
      refine c_cast C ck_10 dX10_alive_25 w3_88 w8_168t rgf2 rfl rfl (by decide) ?_
      refine c_astore_n (lv2 := [(2, .ref f2), (0, .ref a0), (1, .int (iI i))]) C dX10_alive_28 (by decide) rfl ?_
      refine c_aload_n (j := 0) (x := f2) C dX10_alive_29 rfl ?_
      have ri2 : 0 ≤ iv f2 7 ∧ iv f2 7 ≤ 1 := hW.int rgf2 7
      refine c_get (k := 7) C ck_10 dX10_alive_30 w2_198 (by decide) rgf2 rfl rfl (by decide) rfl ?_
      refine c_if_eq (tgt := 40) C (r32_c (lo := 0) (hi := 1) ri2.1 ri2.2 (by decide) (by decide)) dX10_alive_33 (by decide) (fun c3 => ?_) (fun c3 => ?_)
      · refine c_aload_n (j := 0) (x := f2) C dX10_alive_40 rfl ?_
        exact c_aret (x := some f2) C dX10_alive_41 rfl (Or.inl ⟨_, rfl⟩) (by decide) (rom0 hph hph (by decide)) ⟨(some f2), rfl, rfl, rfl, rfl, rfl, rfl, (fun _ q => by cases q; exact rgf2), ⟨fun _ q => by cases q; have q2 := hmr i.toNat (by omega) _ exf2; exact ⟨by omega, by omega, by omega, exf2, by omega⟩, fun q => by cases q⟩⟩
      · refine c_null C dX10_alive_36 ?_
        refine c_goto (tgt := 41) C dX10_alive_37 (by decide) ?_
        exact c_aret (x := none) C dX10_alive_41 rfl (Or.inl ⟨_, rfl⟩) (by decide) (rom0 hph hph (by decide)) ⟨none, rfl, rfl, rfl, rfl, rfl, rfl, (fun _ q => by cases q), ⟨(fun _ q => by cases q), fun _ b q => by have q3 := q.2.2.1; rw [exf2] at q3; cases q3; have q4 := q.2.2.2; omega⟩⟩
    · refine c_null C dX10_alive_15 ?_
      exact c_aret (x := none) C dX10_alive_16 rfl (Or.inl ⟨_, rfl⟩) (by decide) (rom0 hph hph (by decide)) ⟨none, rfl, rfl, rfl, rfl, rfl, rfl, (fun _ q => by cases q), ⟨(fun _ q => by cases q), fun _ b q => by have q1 := q.1; have q2 := q.2.1; omega⟩⟩
set_option maxHeartbeats 4000000 in
set_option maxRecDepth 100000 in
theorem C_whole {l : Launch} {G : GT} {mi : Nat} {sk : Nat → Nat} {L : List Nat} {cl ln : Nat → Nat} {iv : Nat → Nat → Int} {rv : Nat → Nat → Option Nat}  {a0 : Nat} {i : Int} (hW : WT (g0 G) sk L cl ln iv rv) (hS : SKL sk L cl) (t_a0 : ty L cl a0 13) (h_i : -2147483648 ≤ i ∧ i ≤ 2147483647) (hmr : MRK sk cl iv rv) : Mc l G mi (Phi (g0 G) sk) PHM yX10_whole cX10_whole 3 (some (.object "DotPress$Table")) 4 [.ref a0, .int (iI i)] L cl ln iv rv 0 (fun v L2 cl2 ln2 iv2 rv2 => ∃ f : Option Nat, v = some ((va_rf f)) ∧ L = L2 ∧ cl = cl2 ∧ ln = ln2 ∧ iv = iv2 ∧ rv = rv2 ∧ (∀ b, f = some b → ty L2 cl2 b 100) ∧ (True)) := by
  refine Mc.mk (by decide) (Nat.le_of_ble_eq_true rfl) ?_
  intro p e s m args below meth c A C hM
  refine hv5 (Phi.le hW hS) (show ty L cl (sk 22) 22 from ⟨(hS 22 rfl).1, by rw [(hS 22 rfl).2]; rfl⟩) (show ty L cl (sk 23) 23 from ⟨(hS 23 rfl).1, by rw [(hS 23 rfl).2]; rfl⟩) (show XT L cl ln L cl ln from XT.refl) (show fT [] L cl iv rv iv rv from fT.refl) (fun hph tsk22 tsk23 hX0 hF0 => ?_)
  refine c_aload_n (j := 0) (x := a0) C dX10_whole_0 rfl ?_
  refine c_iload_n (j := 1) C dX10_whole_1 rfl ?_
  have ri1 : 0 ≤ iv (sk 22) 2 ∧ iv (sk 22) 2 ≤ 30 := hW.int tsk22 2
  refine d_callV (As := [.int (iI i)]) (rest := []) C hM (C_alive (a0 := a0) (i := i) hW hS t_a0 (by omega) hmr) dX10_whole_2 kV_X10_35 rfl t_a0 rfl rfl (by decide) ck_11 rfl (Nat.le_of_ble_eq_true rfl) ⟨(Nat.le_of_ble_eq_true rfl), (Nat.le_of_ble_eq_true rfl)⟩ hph hph (show 0 + 0 = 0 from rfl) (by decide) (fun rh1 Lh1 clh1 lnh1 ivh1 rvh1 h1 => ?_)
  obtain ⟨f1, rfl, rfl, rfl, rfl, rfl, rfl, rgf1, exf1⟩ := h1
  refine c_st (st2 := [(va_rf f1)]) rfl ?_
  have gf1 : (∀ b, f1 = some b → ((cl b : Nat) : Int) < 100 + iv (sk 22) 2 ∧ ALV sk iv rv i b) ∧ (f1 = none → ∀ b, ¬ ALV sk iv rv i b) := exf1
  refine c_astorer_n (r := f1) (lv2 := [(2, (va_rf f1)), (0, .ref a0), (1, .int (iI i))]) C dX10_whole_5 (by decide) rfl ?_
  refine c_aloadr_n (j := 0) (r := f1) C dX10_whole_6 rfl ?_
  refine c_ifnull (r := f1) (tgt := 21) C dX10_whole_7 (by decide) (fun oq1 => ?_) (fun ob1 oq1 => ?_)
  · subst oq1
    refine c_lv (lv2 := [(2, .null), (0, .ref a0), (1, .int (iI i))]) [0, 1, 2] rfl ?_
    refine c_st (st2 := []) rfl ?_
    refine c_null C dX10_whole_21 ?_
    exact c_aret (x := none) C dX10_whole_22 rfl (Or.inl ⟨_, rfl⟩) (by decide) (rom0 hph hph (by decide)) ⟨none, rfl, rfl, rfl, rfl, rfl, rfl, (fun _ q => by cases q), trivial⟩
  · subst oq1
    have tob1 := rgf1 ob1 rfl
    refine c_lv (lv2 := [(2, .ref ob1), (0, .ref a0), (1, .int (iI i))]) [0, 1, 2] rfl ?_
    refine c_st (st2 := []) rfl ?_
    refine c_aload_n (j := 0) (x := ob1) C dX10_whole_10 rfl ?_
    refine d_callV (As := []) (rest := []) C hM (C_tisWhole (a0 := ob1) hW hS tob1  ) dX10_whole_11 kV_X10_39 rfl tob1 rfl rfl (by decide) ck_10 rfl (Nat.le_of_ble_eq_true rfl) ⟨(Nat.le_of_ble_eq_true rfl), (Nat.le_of_ble_eq_true rfl)⟩ hph hph (show 0 + 0 = 0 from rfl) (by decide) (fun rh2 Lh2 clh2 lnh2 ivh2 rvh2 h2 => ?_)
    obtain ⟨f2, rfl, rfl, rfl, rfl, rfl, rfl, rgf2, exf2⟩ := h2
    refine c_st (st2 := [.int (iI f2)]) rfl ?_
    refine c_if_eq (tgt := 21) C ⟨by omega, by omega⟩ dX10_whole_14 (by decide) (fun c1 => ?_) (fun c1 => ?_)
    · refine c_null C dX10_whole_21 ?_
      exact c_aret (x := none) C dX10_whole_22 rfl (Or.inl ⟨_, rfl⟩) (by decide) (rom0 hph hph (by decide)) ⟨none, rfl, rfl, rfl, rfl, rfl, rfl, (fun _ q => by cases q), trivial⟩
    · refine c_aload_n (j := 0) (x := ob1) C dX10_whole_17 rfl ?_
      refine c_goto (tgt := 22) C dX10_whole_18 (by decide) ?_
      exact c_aret (x := some ob1) C dX10_whole_22 rfl (Or.inl ⟨_, rfl⟩) (by decide) (rom0 hph hph (by decide)) ⟨(some ob1), rfl, rfl, rfl, rfl, rfl, rfl, (fun _ q => by cases q; exact tob1), trivial⟩
set_option maxHeartbeats 4000000 in
set_option maxRecDepth 100000 in
theorem C_remember {l : Launch} {G : GT} {mi : Nat} {sk : Nat → Nat} {L : List Nat} {cl ln : Nat → Nat} {iv : Nat → Nat → Int} {rv : Nat → Nat → Option Nat}  {a0 : Nat} {a1 : Nat} (hW : WT (g0 G) sk L cl ln iv rv) (hS : SKL sk L cl) (t_a0 : ty L cl a0 13) (t_a1 : ty L cl a1 21) (hch : iv (sk 23) 2 < 512) : Mc l G mi (Phi (g0 G) sk) PHM yX10_remember cX10_remember 2 none 7 [.ref a0, .ref a1] L cl ln iv rv 1216 (fun v L2 cl2 ln2 iv2 rv2 => v = none ∧ XT L cl ln L2 cl2 ln2 ∧ fT [23, 1001] L cl iv rv iv2 rv2 ∧ WT (g0 G) sk L2 cl2 ln2 iv2 rv2 ∧ (iv2 (sk 23) 2 = iv (sk 23) 2 + 1) ∧ (el rv2 (sk 23) (iv (sk 23) 2).toNat = some a1 ∧ ∀ i : Nat, (i : Int) < iv (sk 23) 2 → el rv2 (sk 23) i = el rv (sk 23) i)) := by
  refine Mc.mk (by decide) (Nat.le_of_ble_eq_true rfl) ?_
  intro p e s m args below meth c A C hM
  refine hv5 (Phi.le hW hS) (show ty L cl (sk 22) 22 from ⟨(hS 22 rfl).1, by rw [(hS 22 rfl).2]; rfl⟩) (show ty L cl (sk 23) 23 from ⟨(hS 23 rfl).1, by rw [(hS 23 rfl).2]; rfl⟩) (show XT L cl ln L cl ln from XT.refl) (show fT [23, 1001] L cl iv rv iv rv from fT.refl) (fun hph tsk22 tsk23 hX0 hF0 => ?_)
  refine c_aload_n (j := 0) (x := a0) C dX10_remember_0 rfl ?_
  obtain ⟨rb1, rq1, trb1⟩ := hW.ref t_a0 1 rfl rfl rfl
  have erb1 := hW.sk trb1 (by decide) rfl
  subst erb1
  refine c_getr (k := 1) C ck_11 dX10_remember_1 w1_91 (by decide) t_a0 rfl rfl (by decide) rfl rq1 ?_
  refine c_st (st2 := [.ref (sk 23)]) rfl ?_
  have ri1 : 0 ≤ iv (sk 23) 2 ∧ iv (sk 23) 2 ≤ 512 := hW.int tsk23 2
  refine d_callV (As := []) (rest := []) C hM (C_size_23 (a0 := (sk 23)) hW hS tsk23  ) dX10_remember_4 kV_X10_21 rfl tsk23 rfl rfl (by decide) ck_0 rfl (Nat.le_of_ble_eq_true rfl) ⟨(Nat.le_of_ble_eq_true rfl), (Nat.le_of_ble_eq_true rfl)⟩ hph hph (show 0 + 0 = 0 from rfl) (by decide) (fun rh1 Lh1 clh1 lnh1 ivh1 rvh1 h1 => ?_)
  obtain ⟨f1, rfl, rfl, rfl, rfl, rfl, rfl, rgf1, exf1⟩ := h1
  refine c_st (st2 := [.int (iI f1)]) rfl ?_
  have gf1 : f1 = iv (sk 23) 2 := exf1
  refine c_sipush (z := 512) C dX10_remember_7 (by decide) ?_
  refine c_icmp_lt (tgt := 22) C ⟨by omega, by omega⟩ ⟨by decide, by decide⟩ dX10_remember_10 (by decide) (fun _ => ?_) (fun z => absurd z (by omega))
  refine c_aload_n (j := 0) (x := a0) C dX10_remember_22 rfl ?_
  refine c_getr (k := 1) C ck_11 dX10_remember_23 w1_91 (by decide) t_a0 rfl rfl (by decide) rfl rq1 ?_
  refine c_st (st2 := [.ref (sk 23)]) rfl ?_
  refine c_aload_n (j := 1) (x := a1) C dX10_remember_26 rfl ?_
  refine d_callV (As := [.ref a1]) (rest := []) C hM (C_add_23 (a0 := (sk 23)) (x := a1) hW hS tsk23 t_a1  (by show iv (sk 23) 2 < 512; omega)) dX10_remember_27 kV_X10_43 rfl tsk23 rfl rfl (by decide) ck_0 rfl (Nat.le_of_ble_eq_true rfl) ⟨(Nat.le_of_ble_eq_true rfl), (Nat.le_of_ble_eq_true rfl)⟩ hph hph (show 0 + 1216 = 1216 from rfl) (by decide) (fun rh2 Lh2 clh2 lnh2 ivh2 rvh2 h2 => ?_)
  obtain ⟨f2, rfl, xl2, fl2, W2, rgf2, exf2⟩ := h2
  refine hv3 (hF0.call hX0 fl2 rfl) (hX0.trans xl2) (xl2.skl hS) (fun F1 X1 sk1 => ?_)
  refine c_st (st2 := [.int (iI f2)]) rfl ?_
  refine hv2 (xl2.ty tsk23) (show ivh2 (sk 23) 2 = iv (sk 23) 2 + 1 ∧ el rvh2 (sk 23) (iv (sk 23) 2).toNat = some a1 ∧ ∀ i : Nat, (i : Int) < iv (sk 23) 2 → el rvh2 (sk 23) i = el rv (sk 23) i from exf2) (fun ty1 gf2 => ?_)
  have ri2 : 0 ≤ ivh2 (sk 23) 2 ∧ ivh2 (sk 23) 2 ≤ 512 := W2.int ty1 2
  refine c_pop C dX10_remember_30 rfl ?_
  have pl1 := Phi.le W2 sk1
  exact c_vret C dX10_remember_31 rfl (by decide) (rom0 hph pl1 (by decide)) ⟨rfl, X1, F1, W2, (by omega), ⟨exf2.2.1, exf2.2.2⟩⟩
set_option maxHeartbeats 4000000 in
set_option maxRecDepth 100000 in
theorem C_make {l : Launch} {G : GT} {mi : Nat} {sk : Nat → Nat} {L : List Nat} {cl ln : Nat → Nat} {iv : Nat → Nat → Int} {rv : Nat → Nat → Option Nat}  {a0 : Nat} {a1 : Nat} (hW : WT (g0 G) sk L cl ln iv rv) (hS : SKL sk L cl) (t_a0 : ty L cl a0 13) (t_a1 : ty L cl a1 100) (hmr : MRK sk cl iv rv) (hmk : iv (sk 22) 2 < 30 ∧ iv (sk 23) 2 < 512 ∧ ((cl a1 : Nat) : Int) ≤ 100 + iv (sk 22) 2) : Mc l G mi (Phi (g0 G) sk) PHM yX10_make cX10_make 2 (some .int) 8 [.ref a0, .ref a1] L cl ln iv rv 1320 (fun v L2 cl2 ln2 iv2 rv2 => ∃ f : Int, v = some (.int (iI f)) ∧ XT L cl ln L2 cl2 ln2 ∧ fT [22, 1000, 23, 1001, 201] L cl iv rv iv2 rv2 ∧ WT (g0 G) sk L2 cl2 ln2 iv2 rv2 ∧ (-2147483648 ≤ f ∧ f ≤ 2147483647) ∧ (f = iv (sk 22) 2 ∧ iv2 (sk 22) 2 = iv (sk 22) 2 + 1 ∧ iv2 (sk 23) 2 = iv (sk 23) 2 + 1 ∧ MRK sk cl2 iv2 rv2) ∧ (el rv2 (sk 22) (iv (sk 22) 2).toNat = some a1 ∧ (∀ i : Nat, (i : Int) < iv (sk 22) 2 → el rv2 (sk 22) i = el rv (sk 22) i) ∧ PPSH 0 (some a1) sk iv rv iv2 rv2)) := by
  refine Mc.mk (by decide) (Nat.le_of_ble_eq_true rfl) ?_
  intro p e s m args below meth c A C hM
  refine hv5 (Phi.le hW hS) (show ty L cl (sk 22) 22 from ⟨(hS 22 rfl).1, by rw [(hS 22 rfl).2]; rfl⟩) (show ty L cl (sk 23) 23 from ⟨(hS 23 rfl).1, by rw [(hS 23 rfl).2]; rfl⟩) (show XT L cl ln L cl ln from XT.refl) (show fT [22, 1000, 23, 1001, 201] L cl iv rv iv rv from fT.refl) (fun hph tsk22 tsk23 hX0 hF0 => ?_)
  refine c_aload_n (j := 0) (x := a0) C dX10_make_0 rfl ?_
  obtain ⟨rb1, rq1, trb1⟩ := hW.ref t_a0 0 rfl rfl rfl
  have erb1 := hW.sk trb1 (by decide) rfl
  subst erb1
  refine c_getr (k := 0) C ck_11 dX10_make_1 w1_90 (by decide) t_a0 rfl rfl (by decide) rfl rq1 ?_
  refine c_st (st2 := [.ref (sk 22)]) rfl ?_
  refine c_aload_n (j := 1) (x := a1) C dX10_make_4 rfl ?_
  have ri1 : 0 ≤ iv (sk 22) 2 ∧ iv (sk 22) 2 ≤ 30 := hW.int tsk22 2
  refine d_callV (As := [.ref a1]) (rest := []) C hM (C_add_22 (a0 := (sk 22)) (x := a1) hW hS tsk22 t_a1  (by show iv (sk 22) 2 < 30; omega)) dX10_make_5 kV_X10_43 rfl tsk22 rfl rfl (by decide) ck_0 rfl (Nat.le_of_ble_eq_true rfl) ⟨(Nat.le_of_ble_eq_true rfl), (Nat.le_of_ble_eq_true rfl)⟩ hph hph (show 0 + 80 = 80 from rfl) (by decide) (fun rh1 Lh1 clh1 lnh1 ivh1 rvh1 h1 => ?_)
  obtain ⟨f1, rfl, xl1, fl1, W1, rgf1, exf1⟩ := h1
  refine hv3 (hF0.call hX0 fl1 rfl) (hX0.trans xl1) (xl1.skl hS) (fun F1 X1 sk1 => ?_)
  refine c_st (st2 := [.int (iI f1)]) rfl ?_
  refine hv2 (xl1.ty tsk22) (show ivh1 (sk 22) 2 = iv (sk 22) 2 + 1 ∧ el rvh1 (sk 22) (iv (sk 22) 2).toNat = some a1 ∧ ∀ i : Nat, (i : Int) < iv (sk 22) 2 → el rvh1 (sk 22) i = el rv (sk 22) i from exf1) (fun ty1 gf1 => ?_)
  have ri2 : 0 ≤ ivh1 (sk 22) 2 ∧ ivh1 (sk 22) 2 ≤ 30 := W1.int ty1 2
  have mr1 := MRK.add hmr hW hS xl1 (by omega) exf1.1 exf1.2.1 exf1.2.2 (by rw [(xl1 a1 t_a1.1).2.1]; omega)
  refine c_pop C dX10_make_8 rfl ?_
  refine c_aload_n (j := 0) (x := a0) C dX10_make_9 rfl ?_
  refine hv4 (xl1.ty t_a0) (xl1.ty t_a1) (xl1.ty tsk23) (Phi.le W1 sk1) (fun ty2 ty3 ty4 pl1 => ?_)
  refine c_new C ck_1 dv_1 ⟨rfl, rfl⟩ rfl (by decide) dX10_make_10 w3_34 w3_35 w1_18 (rom2 hph pl1 (by decide)) (fun qn1 cln1 lnn1 ivn1 rvn1 hqn1 hcn1 hln1 hin1 hrn1 => ⟨100, (p_in (Phi.new W1 sk1 hqn1 (fun b _ => by rw [hln1]) hrn1) (by omega)), ?_⟩)
  refine c_g0 C (fun hg1 => ?_)
  refine hv4 (show ∀ b, b ≠ qn1 → lnn1 b = lnh1 b from (fun b _ => by rw [hln1])) (F1.new X1 hqn1 hin1 hrn1) (show ty (Lh1 ++ [qn1]) cln1 qn1 201 from ty_new hcn1) (show qn1 ∉ L from fun h => hqn1 ((X1 qn1 h).1)) (fun hxn1 F2 tqn1 h0qn1 => ?_)
  refine hv2 (W1.new (ln2 := lnn1) hqn1 (hg1 qn1 (List.mem_append_right _ List.mem_cons_self)) hcn1 hxn1 hin1 hrn1 (fun _ => ⟨(show (-2147483648 : Int) ≤ 0 by decide), (show (0 : Int) ≤ 2147483647 by decide)⟩) (Or.inl rfl) (fun q => by cases q) rfl rfl) (XT.new hqn1 hcn1 hxn1) (fun W2 xl2 => ?_)
  refine hv3 (X1.trans xl2) (xl2.skl sk1) (MRK.call mr1 W1 sk1 xl2 ((fT.refl (ls := [])).new (XT.refl (ln := lnh1)) hqn1 hin1 hrn1) rfl rfl) (fun X2 sk2 mr2 => ?_)
  refine c_dup C dX10_make_13 rfl ?_
  refine c_iconst C dX10_make_14 ?_
  refine c_aload_n (j := 1) (x := a1) C dX10_make_15 rfl ?_
  refine c_null C dX10_make_16 ?_
  refine c_iconst C dX10_make_17 ?_
  refine hv2 (xl2.ty ty3) (Phi.le W2 sk2) (fun ty5 pl2 => ?_)
  refine c_callI (As := [.int (iI 0), .ref a1, .null, .int (iI 0)]) (rest := [.ref qn1, .ref a0]) C hM (Z_change (a0 := qn1) (i := 0) (a2 := a1) (r := none) (n := 0) W2 sk2 tqn1 ty5 (fun _ q => by cases q) ⟨by decide, by decide⟩ ⟨by decide, by decide⟩ ) dX10_make_18 kI_X10_49 rfl rfl (Nat.le_of_ble_eq_true rfl) ⟨(Nat.le_of_ble_eq_true rfl), (Nat.le_of_ble_eq_true rfl)⟩ (rz1 hph pl2 (by decide)) (fun rh2 Lh2 clh2 lnh2 ivh2 rvh2 h2 => ⟨100, (zk1 (by obtain ⟨_, _, _, e3, flh2x, Wh2x, _⟩ := h2; subst e3; exact Phi.frn sk2 flh2x rfl)), ?_⟩)
  obtain ⟨rfl, rfl, rfl, rfl, fl2, W3, exf2⟩ := h2
  refine hv2 (F2.call X2 fl2 rfl) (MRK.call mr2 W2 sk2 XT.refl fl2 rfl rfl) (fun F3 mr3 => ?_)
  refine c_st (st2 := [.ref qn1, .ref a0]) rfl ?_
  obtain ⟨exf2x, exf2r, exf2p, exf2i, exf2j⟩ := exf2
  have rn1 : ∀ k, ([1, 2] : List Nat).contains k = false → rvh2 qn1 k = none := fun k hk => (Eq.trans (show rvh2 qn1 k = rvn1 qn1 k from (exf2x k hk)) (show rvn1 qn1 k = none from (by rw [hrn1]; exact up0_s)))
  refine c_retag (q := qn1) (t := 21) (by rw [tqn1.2]; rfl) (fun clr1 hcr1 => ?_)
  refine hv5 (xl2.ty ty2) (ty_rt ty5 hcr1 (ne_ty ty5 tqn1 (by decide))) (xl2.ty ty1) (xl2.ty ty4) (show ty (Lh1 ++ [qn1]) clr1 qn1 21 from ⟨tqn1.1, by rw [hcr1, va_up_self]; rfl⟩) (fun ty6 ty8 ty9 ty11 tqr1 => ?_)
  refine hv3 (ty_rt ty6 hcr1 (ne_ty ty6 tqn1 (by decide))) (ty_rt ty9 hcr1 (ne_ty ty9 tqn1 (by decide))) (ty_rt ty11 hcr1 (ne_ty ty11 tqn1 (by decide))) (fun ty7 ty10 ty12 => ?_)
  have W4 := W3.retag tqn1.1 (by rw [tqn1.2]; rfl) hcr1 (fun k => by
        rcases k with _ | _ | _ | _ | k
        · exact W3.int tqn1 0
        · exact W3.int tqn1 1
        · exact W3.int tqn1 2
        · exact ⟨(by show 0 ≤ ivh2 qn1 3; first | exact bx_lo ‹ivh2 qn1 3 = _› (by decide) | omega), (by show ivh2 qn1 3 ≤ 5; first | exact bx_hi ‹ivh2 qn1 3 = _› (by decide) | omega)⟩
        · exact W3.int tqn1 (k + 4)) (fun k => by
        rcases k with _ | _ | _ | _ | k
        · rw [rn1 0 (by decide)]; exact rok_none tqr1 rfl
        · rw [exf2r]; exact rok_some tqr1 ty8 rfl (by decide) rfl
        · rw [exf2p]; exact rok_ch tqr1 (fun _ q => by cases q)
        · rw [rn1 3 (by decide)]; exact rok_none tqr1 rfl
        · rw [rn1 (k + 4) (by simp)]; exact rok_none tqr1 rfl) rfl (fun z => by cases z) (fun z => by cases z) rfl
  refine hv8 (X2.rt hcr1 h0qn1) (sk2.rt hcr1 (by rw [tqn1.2]; rfl)) (MRK.rt mr3 W3 sk2 hcr1 (by rw [tqn1.2]; rfl)) (show ∀ i : Nat, (i : Int) < iv (sk 23) 2 → el rvh2 (sk 23) i = el rv (sk 23) i from (fun i hi => el_ch hW (tysk23 hS) rfl rfl ((show ∀ bb, ty L cl bb 23 → rvh2 bb 1 = rv bb 1 from fun bb tbb => by have tb1 := xl1.ty tbb; have tb2 := xl2.ty tb1; exact (Eq.trans (show rvh2 bb 1 = rvn1 bb 1 from (fl2.r tb2 rfl 1)) (Eq.trans (show rvn1 bb 1 = rvh1 bb 1 from (by rw [hrn1]; exact congrFun (up0_a (ne_in tb1.1 hqn1)) _)) (show rvh1 bb 1 = rv bb 1 from (fl1.r tbb rfl 1))))) (sk 23) (tysk23 hS)) (fun bb tbb kk => by have tb1 := xl1.ty tbb; have tb2 := xl2.ty tb1; exact (Eq.trans (show rvh2 bb kk = rvn1 bb kk from (fl2.r tb2 rfl kk)) (Eq.trans (show rvn1 bb kk = rvh1 bb kk from (by rw [hrn1]; exact congrFun (up0_a (ne_in tb1.1 hqn1)) _)) (show rvh1 bb kk = rv bb kk from (fl1.r tbb rfl kk))))) hi)) (show 0 ≤ ivh2 (sk 23) 2 ∧ ivh2 (sk 23) 2 ≤ 512 from W4.int ty12 2) (show ivh2 (sk 23) 2 = ivn1 (sk 23) 2 from fl2.i ty11 rfl 2) (show ivn1 (sk 23) 2 = ivh1 (sk 23) 2 from by rw [hin1]; exact congrFun (up0_a (ne_in ty4.1 hqn1)) _) (show ivh1 (sk 23) 2 = iv (sk 23) 2 from fl1.i tsk23 rfl 2) (fun X3 sk3 mr4 ce1 ri3 ie2 ie3 ie4 => ?_)
  have pl3 := Phi.le W4 sk3
  refine d_callV (As := [.ref qn1]) (rest := []) C hM (C_remember (a0 := a0) (a1 := qn1) W4 sk3 ty7 tqr1  (by show ivh2 (sk 23) 2 < 512; omega)) dX10_make_21 kV_X10_52 rfl ty7 rfl rfl (by decide) ck_11 rfl (Nat.le_of_ble_eq_true rfl) ⟨(Nat.le_of_ble_eq_true rfl), (Nat.le_of_ble_eq_true rfl)⟩ hph pl3 (show 100 + 1216 = 1316 from rfl) (by decide) (fun rh3 Lh3 clh3 lnh3 ivh3 rvh3 h3 => ?_)
  obtain ⟨rfl, xl4, fl3, W5, exf3, rmef3⟩ := h3
  refine hv4 (F3.call X3 fl3 rfl) (MRK.call mr4 W4 sk3 xl4 fl3 rfl rfl) (X3.trans xl4) (xl4.skl sk3) (fun F4 mr5 X4 sk4 => ?_)
  refine c_st (st2 := []) rfl ?_
  refine hv2 (xl4.ty ty12) (show ivh3 (sk 23) 2 = ivh2 (sk 23) 2 + 1 from exf3) (fun ty13 gf3 => ?_)
  have ri4 : 0 ≤ ivh3 (sk 23) 2 ∧ ivh3 (sk 23) 2 ≤ 512 := W5.int ty13 2
  refine c_aload_n (j := 0) (x := a0) C dX10_make_24 rfl ?_
  refine hv2 (xl4.ty ty7) (show rvh1 a0 0 = rv a0 0 from (fl1.r t_a0 rfl 0)) (fun ty14 re1 => ?_)
  rw [rq1] at re1
  have re2 : rvn1 a0 0 = rvh1 a0 0 := (by rw [hrn1]; exact congrFun (up0_a (ne_in ty2.1 hqn1)) _)
  rw [re1] at re2
  have re3 : rvh2 a0 0 = rvn1 a0 0 := (fl2.r ty6 rfl 0)
  rw [re2] at re3
  have re4 : rvh3 a0 0 = rvh2 a0 0 := (fl3.r ty7 rfl 0)
  rw [re3] at re4
  refine c_getr (k := 0) C ck_11 dX10_make_25 w1_90 (by decide) ty14 rfl rfl (by decide) rfl re4 ?_
  refine c_st (st2 := [.ref (sk 22)]) rfl ?_
  refine hv5 (xl4.ty ty10) (show ivh3 (sk 22) 2 = ivh2 (sk 22) 2 from fl3.i ty10 rfl 2) (show ivh2 (sk 22) 2 = ivn1 (sk 22) 2 from fl2.i ty9 rfl 2) (show ivn1 (sk 22) 2 = ivh1 (sk 22) 2 from by rw [hin1]; exact congrFun (up0_a (ne_in ty1.1 hqn1)) _) (Phi.le W5 sk4) (fun ty15 ie6 ie7 ie8 pl4 => ?_)
  have ri5 : 0 ≤ ivh3 (sk 22) 2 ∧ ivh3 (sk 22) 2 ≤ 30 := W5.int ty15 2
  refine d_callV (As := []) (rest := []) C hM (C_size_22 (a0 := (sk 22)) W5 sk4 ty15  ) dX10_make_28 kV_X10_21 rfl ty15 rfl rfl (by decide) ck_0 rfl (Nat.le_of_ble_eq_true rfl) ⟨(Nat.le_of_ble_eq_true rfl), (Nat.le_of_ble_eq_true rfl)⟩ hph pl4 (show 1316 + 0 = 1316 from rfl) (by decide) (fun rh4 Lh4 clh4 lnh4 ivh4 rvh4 h4 => ?_)
  obtain ⟨f4, rfl, rfl, rfl, rfl, rfl, rfl, rgf4, exf4⟩ := h4
  refine c_st (st2 := [.int (iI f4)]) rfl ?_
  have gf4 : f4 = ivh3 (sk 22) 2 := exf4
  refine c_iconst C dX10_make_31 ?_
  refine c_isub C dX10_make_32 ?_
  refine hv3 (xl4.ty tqr1) (show ivh3 qn1 0 = ivh2 qn1 0 from fl3.i tqr1 rfl 0) (show rvh3 qn1 1 = rvh2 qn1 1 from (fl3.r tqr1 rfl 1)) (fun ty16 ie9 re5 => ?_)
  have ri6 : (-2147483648) ≤ ivh3 qn1 0 ∧ ivh3 qn1 0 ≤ 2147483647 := W5.int ty16 0
  rw [exf2r] at re5
  exact c_iret C dX10_make_33 rfl (by decide) (rom0 hph pl4 (by decide)) ⟨(f4 - 1), rfl, X4, F4, W5, ⟨by omega, by omega⟩, ⟨(by omega), (by omega), (by omega), mr5⟩, ⟨((fun i hi => el_ch W1 (tysk22 sk1) rfl rfl ((show ∀ bb, ty Lh1 clh1 bb 22 → rvh3 bb 1 = rvh1 bb 1 from fun bb tbb => by have tb2 := xl2.ty tbb; have tb3 := ty_rt tb2 hcr1 (ne_ty tb2 tqn1 (by decide)); exact (Eq.trans (show rvh3 bb 1 = rvh2 bb 1 from (fl3.r tb3 rfl 1)) (Eq.trans (show rvh2 bb 1 = rvn1 bb 1 from (fl2.r tb2 rfl 1)) (show rvn1 bb 1 = rvh1 bb 1 from (by rw [hrn1]; exact congrFun (up0_a (ne_in tbb.1 hqn1)) _))))) (sk 22) (tysk22 sk1)) (fun bb tbb kk => by have tb2 := xl2.ty tbb; have tb3 := ty_rt tb2 hcr1 (ne_ty tb2 tqn1 (by decide)); exact (Eq.trans (show rvh3 bb kk = rvh2 bb kk from (fl3.r tb3 rfl kk)) (Eq.trans (show rvh2 bb kk = rvn1 bb kk from (fl2.r tb2 rfl kk)) (show rvn1 bb kk = rvh1 bb kk from (by rw [hrn1]; exact congrFun (up0_a (ne_in tbb.1 hqn1)) _))))) hi) _ (by omega)).trans exf1.2.1, (fun i hi => ((fun i hi => el_ch W1 (tysk22 sk1) rfl rfl ((show ∀ bb, ty Lh1 clh1 bb 22 → rvh3 bb 1 = rvh1 bb 1 from fun bb tbb => by have tb2 := xl2.ty tbb; have tb3 := ty_rt tb2 hcr1 (ne_ty tb2 tqn1 (by decide)); exact (Eq.trans (show rvh3 bb 1 = rvh2 bb 1 from (fl3.r tb3 rfl 1)) (Eq.trans (show rvh2 bb 1 = rvn1 bb 1 from (fl2.r tb2 rfl 1)) (show rvn1 bb 1 = rvh1 bb 1 from (by rw [hrn1]; exact congrFun (up0_a (ne_in tbb.1 hqn1)) _))))) (sk 22) (tysk22 sk1)) (fun bb tbb kk => by have tb2 := xl2.ty tbb; have tb3 := ty_rt tb2 hcr1 (ne_ty tb2 tqn1 (by decide)); exact (Eq.trans (show rvh3 bb kk = rvh2 bb kk from (fl3.r tb3 rfl kk)) (Eq.trans (show rvh2 bb kk = rvn1 bb kk from (fl2.r tb2 rfl kk)) (show rvn1 bb kk = rvh1 bb kk from (by rw [hrn1]; exact congrFun (up0_a (ne_in tbb.1 hqn1)) _))))) hi) i (by omega)).trans (exf1.2.2 i hi)), ⟨(by omega), CS0.of hW hS (Int.le_refl _) (fun i hi => (rmef3.2 i (by omega)).trans (ce1 i hi)) (fun bb tbb => by have tb1 := xl1.ty tbb; have tb2 := xl2.ty tb1; have tb3 := ty_rt tb2 hcr1 (ne_ty tb2 tqn1 (by decide)); exact (Eq.trans (show ivh3 bb 0 = ivh2 bb 0 from (fl3.i tb3 rfl 0)) (Eq.trans (show ivh2 bb 0 = ivn1 bb 0 from (fl2.i tb2 rfl 0)) (Eq.trans (show ivn1 bb 0 = ivh1 bb 0 from (by rw [hin1]; exact congrFun (up0_a (ne_in tb1.1 hqn1)) _)) (show ivh1 bb 0 = iv bb 0 from (fl1.i tbb rfl 0)))))) (fun bb tbb => by have tb1 := xl1.ty tbb; have tb2 := xl2.ty tb1; have tb3 := ty_rt tb2 hcr1 (ne_ty tb2 tqn1 (by decide)); exact (Eq.trans (show rvh3 bb 1 = rvh2 bb 1 from (fl3.r tb3 rfl 1)) (Eq.trans (show rvh2 bb 1 = rvn1 bb 1 from (fl2.r tb2 rfl 1)) (Eq.trans (show rvn1 bb 1 = rvh1 bb 1 from (by rw [hrn1]; exact congrFun (up0_a (ne_in tb1.1 hqn1)) _)) (show rvh1 bb 1 = rv bb 1 from (fl1.r tbb rfl 1)))))), ⟨qn1, (by rw [show (iv (sk 23) 2).toNat = (ivh2 (sk 23) 2).toNat from congrArg Int.toNat (by omega)]; exact rmef3.1), (by omega), re5⟩⟩⟩⟩
set_option maxHeartbeats 4000000 in
set_option maxRecDepth 100000 in
theorem C_takeBack {l : Launch} {G : GT} {mi : Nat} {sk : Nat → Nat} {L : List Nat} {cl ln : Nat → Nat} {iv : Nat → Nat → Int} {rv : Nat → Nat → Option Nat}  {a0 : Nat} (hW : WT (g0 G) sk L cl ln iv rv) (hS : SKL sk L cl) (t_a0 : ty L cl a0 13) (hmr : MRK sk cl iv rv) : Mc l G mi (Phi (g0 G) sk) PHM yX10_takeBack cX10_takeBack 2 (some .boolean) 4 [.ref a0] L cl ln iv rv 0 (fun v L2 cl2 ln2 iv2 rv2 => ∃ f : Int, v = some (.int (iI f)) ∧ L = L2 ∧ cl = cl2 ∧ ln = ln2 ∧ fT [22, 1000, 23, 1001, 26, 1004, 12, 20, 68, 100] L cl iv rv iv2 rv2 ∧ WT (g0 G) sk L2 cl2 ln2 iv2 rv2 ∧ (f = 0 ∨ f = 1) ∧ (iv2 (sk 22) 2 ≤ iv (sk 22) 2 ∧ iv2 (sk 23) 2 ≤ iv (sk 23) 2 ∧ MRK sk cl2 iv2 rv2) ∧ ((f = 0 ∧ iv (sk 23) 2 = 0 ∧ PSAME sk iv rv iv2 rv2) ∨ (f = 1 ∧ iv (sk 23) 2 ≠ 0 ∧ ∃ ch, el rv (sk 23) (iv (sk 23) 2 - 1).toNat = some ch ∧ PUND ch sk iv rv iv2 rv2)) ∧ ((f = 0 ∧ KP L cl (fun _ => False) (fun _ => False) (fun _ => False) (fun _ => False) (fun _ _ => False) iv rv iv2 rv2) ∨ (f = 1 ∧ ∃ ch, el rv (sk 23) (iv (sk 23) 2 - 1).toNat = some ch ∧ UKP L cl ch iv rv iv2 rv2))) := by
  refine Mc.mk (by decide) (Nat.le_of_ble_eq_true rfl) ?_
  intro p e s m args below meth c A C hM
  refine hv5 (Phi.le hW hS) (show ty L cl (sk 22) 22 from ⟨(hS 22 rfl).1, by rw [(hS 22 rfl).2]; rfl⟩) (show ty L cl (sk 23) 23 from ⟨(hS 23 rfl).1, by rw [(hS 23 rfl).2]; rfl⟩) (show XT L cl ln L cl ln from XT.refl) (show fT [22, 1000, 23, 1001, 26, 1004, 12, 20, 68, 100] L cl iv rv iv rv from fT.refl) (fun hph tsk22 tsk23 hX0 hF0 => ?_)
  refine c_aload_n (j := 0) (x := a0) C dX10_takeBack_0 rfl ?_
  obtain ⟨rb1, rq1, trb1⟩ := hW.ref t_a0 1 rfl rfl rfl
  have erb1 := hW.sk trb1 (by decide) rfl
  subst erb1
  refine c_getr (k := 1) C ck_11 dX10_takeBack_1 w1_91 (by decide) t_a0 rfl rfl (by decide) rfl rq1 ?_
  refine c_st (st2 := [.ref (sk 23)]) rfl ?_
  have ri1 : 0 ≤ iv (sk 23) 2 ∧ iv (sk 23) 2 ≤ 512 := hW.int tsk23 2
  refine d_callV (As := []) (rest := []) C hM (C_isEmpty_23 (a0 := (sk 23)) hW hS tsk23  ) dX10_takeBack_4 kV_X10_59 rfl tsk23 rfl rfl (by decide) ck_0 rfl (Nat.le_of_ble_eq_true rfl) ⟨(Nat.le_of_ble_eq_true rfl), (Nat.le_of_ble_eq_true rfl)⟩ hph hph (show 0 + 0 = 0 from rfl) (by decide) (fun rh1 Lh1 clh1 lnh1 ivh1 rvh1 h1 => ?_)
  obtain ⟨f1, rfl, rfl, rfl, rfl, rfl, rfl, rgf1, exf1⟩ := h1
  refine c_st (st2 := [.int (iI f1)]) rfl ?_
  have gf1 : (f1 = 1 ∧ iv (sk 23) 2 = 0) ∨ (f1 = 0 ∧ iv (sk 23) 2 ≠ 0) := exf1
  refine c_if_eq (tgt := 12) C (r32_qp gf1) dX10_takeBack_7 (by decide) (fun c1 => ?_) (fun c1 => ?_)
  · replace gf1 := (gf1.resolve_left (fun q => absurd (q.1.symm.trans c1) (by decide)))
    refine c_aload_n (j := 0) (x := a0) C dX10_takeBack_12 rfl ?_
    refine c_getr (k := 1) C ck_11 dX10_takeBack_13 w1_91 (by decide) t_a0 rfl rfl (by decide) rfl rq1 ?_
    refine c_st (st2 := [.ref (sk 23)]) rfl ?_
    refine c_aload_n (j := 0) (x := a0) C dX10_takeBack_16 rfl ?_
    refine c_getr (k := 1) C ck_11 dX10_takeBack_17 w1_91 (by decide) t_a0 rfl rfl (by decide) rfl rq1 ?_
    refine c_st (st2 := [.ref (sk 23), .ref (sk 23)]) rfl ?_
    refine d_callV (As := []) (rest := [.ref (sk 23)]) C hM (C_size_23 (a0 := (sk 23)) hW hS tsk23  ) dX10_takeBack_20 kV_X10_21 rfl tsk23 rfl rfl (by decide) ck_0 rfl (Nat.le_of_ble_eq_true rfl) ⟨(Nat.le_of_ble_eq_true rfl), (Nat.le_of_ble_eq_true rfl)⟩ hph hph (show 0 + 0 = 0 from rfl) (by decide) (fun rh2 Lh2 clh2 lnh2 ivh2 rvh2 h2 => ?_)
    obtain ⟨f2, rfl, rfl, rfl, rfl, rfl, rfl, rgf2, exf2⟩ := h2
    refine c_st (st2 := [.int (iI f2), .ref (sk 23)]) rfl ?_
    have gf2 : f2 = iv (sk 23) 2 := exf2
    refine c_iconst C dX10_takeBack_23 ?_
    refine c_isub C dX10_takeBack_24 ?_
    refine d_callV (As := [.int (iI (f2 - 1))]) (rest := []) C hM (C_remove_23 (a0 := (sk 23)) (i := f2 - 1) hW hS tsk23 (by omega) (by show (f2 - 1) = iv (sk 23) 2 - 1 ∧ 0 ≤ (f2 - 1); omega)) dX10_takeBack_25 kV_X10_56 rfl tsk23 rfl rfl (by decide) ck_0 rfl (Nat.le_of_ble_eq_true rfl) ⟨(Nat.le_of_ble_eq_true rfl), (Nat.le_of_ble_eq_true rfl)⟩ hph hph (show 0 + 0 = 0 from rfl) (by decide) (fun rh3 Lh3 clh3 lnh3 ivh3 rvh3 h3 => ?_)
    obtain ⟨f3, rfl, rfl, rfl, rfl, fl3, W3, rgf3, exf3, rmef3⟩ := h3
    refine hv2 (hF0.call hX0 fl3 rfl) (MRK.call hmr hW hS XT.refl fl3 rfl rfl) (fun F1 mr1 => ?_)
    refine c_st (st2 := [.ref f3]) rfl ?_
    refine hv2 (show 0 ≤ ivh3 (sk 23) 2 ∧ ivh3 (sk 23) 2 ≤ 512 from W3.int tsk23 2) (show ivh3 (sk 23) 2 = iv (sk 23) 2 - 1 ∧ ∀ j : Nat, (j : Int) < iv (sk 23) 2 - 1 → el rvh3 (sk 23) j = el rv (sk 23) j from exf3) (fun ri2 gf3 => ?_)
    refine c_cast C ck_1 dX10_takeBack_28 w3_34 w8_170t rgf3 rfl rfl (by decide) ?_
    refine c_astore_n (lv2 := [(1, .ref f3), (0, .ref a0)]) C dX10_takeBack_31 (by decide) rfl ?_
    refine c_aload_n (j := 0) (x := f3) C dX10_takeBack_32 rfl ?_
    refine hv2 (show (-2147483648) ≤ ivh3 f3 0 ∧ ivh3 f3 0 ≤ 2147483647 from W3.int rgf3 0) (show ivh3 f3 0 = iv f3 0 from fl3.i rgf3 rfl 0) (fun ri3 ie2 => ?_)
    refine c_get (k := 0) C ck_1 dX10_takeBack_33 w3_41 (by decide) rgf3 rfl rfl (by decide) rfl ?_
    rcases (show (ivh3 f3 0) = 0 ∨ (ivh3 f3 0) = 1 ∨ (ivh3 f3 0) = 2 ∨ (ivh3 f3 0) = 3 ∨ ((ivh3 f3 0) < 0 ∨ 3 < (ivh3 f3 0)) by omega) with sw1 | sw1 | sw1 | sw1 | sw1
    · refine c_tabIn (tgt := 68) (off := 32) C (r32_c (lo := (-2147483648)) (hi := 2147483647) ri3.1 ri3.2 (by decide) (by decide)) dX10_takeBack_36 (by omega) (by omega) (by rw [sw1]; rfl) (by decide) ?_
      have kp1 : KP L cl (fun _ => False) (fun _ => False) (fun _ => False) (fun _ => False) (fun _ _ => False) iv rv iv rv := KP.refl
      have kp2 := kp1.call TX.refl hW fl3 rfl
      refine c_aload_n (j := 1) (x := a0) C dX10_takeBack_68 rfl ?_
      obtain ⟨rb2, rq2, trb2⟩ := W3.ref t_a0 0 rfl rfl rfl
      have erb2 := W3.sk trb2 (by decide) rfl
      subst erb2
      refine c_getr (k := 0) C ck_11 dX10_takeBack_69 w1_90 (by decide) t_a0 rfl rfl (by decide) rfl rq2 ?_
      refine c_st (st2 := [.ref (sk 22)]) rfl ?_
      refine hv3 (show 0 ≤ ivh3 (sk 22) 2 ∧ ivh3 (sk 22) 2 ≤ 30 from W3.int tsk22 2) (show ivh3 (sk 22) 2 = iv (sk 22) 2 from fl3.i tsk22 rfl 2) (Phi.le W3 hS) (fun ri4 ie3 pl1 => ?_)
      refine d_callV (As := []) (rest := []) C hM (C_isEmpty_22 (a0 := (sk 22)) W3 hS tsk22  ) dX10_takeBack_72 kV_X10_59 rfl tsk22 rfl rfl (by decide) ck_0 rfl (Nat.le_of_ble_eq_true rfl) ⟨(Nat.le_of_ble_eq_true rfl), (Nat.le_of_ble_eq_true rfl)⟩ hph pl1 (show 0 + 0 = 0 from rfl) (by decide) (fun rh4 Lh4 clh4 lnh4 ivh4 rvh4 h4 => ?_)
      obtain ⟨f4, rfl, rfl, rfl, rfl, rfl, rfl, rgf4, exf4⟩ := h4
      refine c_st (st2 := [.int (iI f4)]) rfl ?_
      have gf4 : (f4 = 1 ∧ ivh3 (sk 22) 2 = 0) ∨ (f4 = 0 ∧ ivh3 (sk 22) 2 ≠ 0) := exf4
      refine c_if_ne (tgt := 171) C (r32_qp gf4) dX10_takeBack_75 (by decide) (fun c2 => ?_) (fun c2 => ?_)
      · replace gf4 := (gf4.resolve_right (fun q => c2 q.1))
        refine c_iconst C dX10_takeBack_171 ?_
        refine hv2 (show 0 ≤ ivh3 f3 3 ∧ ivh3 f3 3 ≤ 5 from W3.int rgf3 3) (show ivh3 f3 3 = iv f3 3 from fl3.i rgf3 rfl 3) (fun ri5 ie4 => ?_)
        exact c_zret C dX10_takeBack_172 rfl (Or.inr rfl) (by decide) (rom0 hph pl1 (by decide)) ⟨1, rfl, rfl, rfl, rfl, F1, W3, (Or.inr rfl), ⟨(by omega), (by omega), mr1⟩, (Or.inr ⟨by omega, by omega, f3, rmef3, by omega, CS0.of hW hS (by omega) (fun i hi => exf3.2 i (by omega)) (fun bb tb => F1.i tb rfl 0) (fun bb tb => F1.r tb rfl 1), Or.inl ⟨by omega, by omega, (fun i hi => absurd hi (by omega)), TSF.of hW hS (fun bb tbb hbb => by exact (show ivh3 bb 7 = iv bb 7 from (fl3.i tbb rfl 7))) (fun bb tbb => by exact (show ivh3 bb 0 = iv bb 0 from (fl3.i tbb rfl 0))) (fun bb tbb => by exact (show ivh3 bb 1 = iv bb 1 from (fl3.i tbb rfl 1))) (fun bb tbb => by exact (show rvh3 bb 4 = rv bb 4 from (fl3.r tbb rfl 4))), TSQ.of hW hS (fun bb tbb hbb => by exact (show ivh3 bb 2 = iv bb 2 from (fl3.i tbb rfl 2)))⟩⟩), (Or.inr ⟨by omega, f3, rmef3, (fun _ => kp2), (fun h => absurd h (by omega)), (fun h => absurd h (by omega)), (fun h => absurd h (by omega)), (fun h => absurd h (by omega))⟩)⟩
      · replace gf4 := (gf4.resolve_left (fun q => absurd (q.1.symm.trans c2) (by decide)))
        refine c_aload_n (j := 1) (x := a0) C dX10_takeBack_78 rfl ?_
        refine c_getr (k := 0) C ck_11 dX10_takeBack_79 w1_90 (by decide) t_a0 rfl rfl (by decide) rfl rq2 ?_
        refine c_st (st2 := [.ref (sk 22)]) rfl ?_
        refine c_aload_n (j := 1) (x := a0) C dX10_takeBack_82 rfl ?_
        refine c_getr (k := 0) C ck_11 dX10_takeBack_83 w1_90 (by decide) t_a0 rfl rfl (by decide) rfl rq2 ?_
        refine c_st (st2 := [.ref (sk 22), .ref (sk 22)]) rfl ?_
        refine d_callV (As := []) (rest := [.ref (sk 22)]) C hM (C_size_22 (a0 := (sk 22)) W3 hS tsk22  ) dX10_takeBack_86 kV_X10_21 rfl tsk22 rfl rfl (by decide) ck_0 rfl (Nat.le_of_ble_eq_true rfl) ⟨(Nat.le_of_ble_eq_true rfl), (Nat.le_of_ble_eq_true rfl)⟩ hph pl1 (show 0 + 0 = 0 from rfl) (by decide) (fun rh5 Lh5 clh5 lnh5 ivh5 rvh5 h5 => ?_)
        obtain ⟨f5, rfl, rfl, rfl, rfl, rfl, rfl, rgf5, exf5⟩ := h5
        refine c_st (st2 := [.int (iI f5), .ref (sk 22)]) rfl ?_
        have gf5 : f5 = ivh3 (sk 22) 2 := exf5
        refine c_iconst C dX10_takeBack_89 ?_
        refine c_isub C dX10_takeBack_90 ?_
        have te1 : ∀ i : Nat, (i : Int) < iv (sk 22) 2 → el rvh3 (sk 22) i = el rv (sk 22) i := (fun i hi => el_ch hW (tysk22 hS) rfl rfl ((show ∀ bb, ty L cl bb 22 → rvh3 bb 1 = rv bb 1 from fun bb tbb => by exact (show rvh3 bb 1 = rv bb 1 from (fl3.r tbb rfl 1))) (sk 22) (tysk22 hS)) (fun bb tbb kk => by exact (show rvh3 bb kk = rv bb kk from (fl3.r tbb rfl kk))) hi)
        refine d_callV (As := [.int (iI (f5 - 1))]) (rest := []) C hM (C_remove_22 (a0 := (sk 22)) (i := f5 - 1) W3 hS tsk22 (by omega) (by show (f5 - 1) = ivh3 (sk 22) 2 - 1 ∧ 0 ≤ (f5 - 1); omega)) dX10_takeBack_91 kV_X10_56 rfl tsk22 rfl rfl (by decide) ck_0 rfl (Nat.le_of_ble_eq_true rfl) ⟨(Nat.le_of_ble_eq_true rfl), (Nat.le_of_ble_eq_true rfl)⟩ hph pl1 (show 0 + 0 = 0 from rfl) (by decide) (fun rh6 Lh6 clh6 lnh6 ivh6 rvh6 h6 => ?_)
        obtain ⟨f6, rfl, rfl, rfl, rfl, fl6, W6, rgf6, exf6, rmef6⟩ := h6
        refine hv2 (F1.call hX0 fl6 rfl) (kp2.call TX.refl W3 fl6 rfl) (fun F2 kp3 => ?_)
        refine c_st (st2 := [.ref f6]) rfl ?_
        refine hv3 (show 0 ≤ ivh6 (sk 22) 2 ∧ ivh6 (sk 22) 2 ≤ 30 from W6.int tsk22 2) (show ivh6 (sk 22) 2 = ivh3 (sk 22) 2 - 1 ∧ ∀ j : Nat, (j : Int) < ivh3 (sk 22) 2 - 1 → el rvh6 (sk 22) j = el rvh3 (sk 22) j from exf6) (MRK.rem mr1 exf6.1 exf6.2) (fun ri6 gf6 mr2 => ?_)
        refine c_pop C dX10_takeBack_94 rfl ?_
        refine c_goto (tgt := 171) C dX10_takeBack_95 (by decide) ?_
        refine c_iconst C dX10_takeBack_171 ?_
        refine hv8 (show 0 ≤ ivh6 (sk 23) 2 ∧ ivh6 (sk 23) 2 ≤ 512 from W6.int tsk23 2) (show ivh6 (sk 23) 2 = ivh3 (sk 23) 2 from fl6.i tsk23 rfl 2) (show (-2147483648) ≤ ivh6 f3 0 ∧ ivh6 f3 0 ≤ 2147483647 from W6.int rgf3 0) (show ivh6 f3 0 = ivh3 f3 0 from fl6.i rgf3 rfl 0) (show 0 ≤ ivh6 f3 3 ∧ ivh6 f3 3 ≤ 5 from W6.int rgf3 3) (show ivh6 f3 3 = ivh3 f3 3 from fl6.i rgf3 rfl 3) (show ivh3 f3 3 = iv f3 3 from fl3.i rgf3 rfl 3) (Phi.le W6 hS) (fun ri7 ie6 ri8 ie7 ri9 ie8 ie9 pl2 => ?_)
        exact c_zret C dX10_takeBack_172 rfl (Or.inr rfl) (by decide) (rom0 hph pl2 (by decide)) ⟨1, rfl, rfl, rfl, rfl, F2, W6, (Or.inr rfl), ⟨(by omega), (by omega), mr2⟩, (Or.inr ⟨by omega, by omega, f3, rmef3, by omega, CS0.of hW hS (by omega) (fun i hi => ((fun i hi => el_ch W3 (tysk23 hS) rfl rfl ((show ∀ bb, ty L cl bb 23 → rvh6 bb 1 = rvh3 bb 1 from fun bb tbb => by exact (show rvh6 bb 1 = rvh3 bb 1 from (fl6.r tbb rfl 1))) (sk 23) (tysk23 hS)) (fun bb tbb kk => by exact (show rvh6 bb kk = rvh3 bb kk from (fl6.r tbb rfl kk))) hi) i (by omega)).trans (exf3.2 i (by omega))) (fun bb tb => F2.i tb rfl 0) (fun bb tb => F2.r tb rfl 1), Or.inl ⟨by omega, by omega, (fun i hi => (exf6.2 i (by omega)).trans (te1 i (by omega))), TSF.of hW hS (fun bb tbb hbb => by exact (Eq.trans (show ivh6 bb 7 = ivh3 bb 7 from (fl6.i tbb rfl 7)) (show ivh3 bb 7 = iv bb 7 from (fl3.i tbb rfl 7)))) (fun bb tbb => by exact (Eq.trans (show ivh6 bb 0 = ivh3 bb 0 from (fl6.i tbb rfl 0)) (show ivh3 bb 0 = iv bb 0 from (fl3.i tbb rfl 0)))) (fun bb tbb => by exact (Eq.trans (show ivh6 bb 1 = ivh3 bb 1 from (fl6.i tbb rfl 1)) (show ivh3 bb 1 = iv bb 1 from (fl3.i tbb rfl 1)))) (fun bb tbb => by exact (Eq.trans (show rvh6 bb 4 = rvh3 bb 4 from (fl6.r tbb rfl 4)) (show rvh3 bb 4 = rv bb 4 from (fl3.r tbb rfl 4)))), TSQ.of hW hS (fun bb tbb hbb => by exact (Eq.trans (show ivh6 bb 2 = ivh3 bb 2 from (fl6.i tbb rfl 2)) (show ivh3 bb 2 = iv bb 2 from (fl3.i tbb rfl 2))))⟩⟩), (Or.inr ⟨by omega, f3, rmef3, (fun _ => kp3), (fun h => absurd h (by omega)), (fun h => absurd h (by omega)), (fun h => absurd h (by omega)), (fun h => absurd h (by omega))⟩)⟩
    · refine c_tabIn (tgt := 98) (off := 62) C (r32_c (lo := (-2147483648)) (hi := 2147483647) ri3.1 ri3.2 (by decide) (by decide)) dX10_takeBack_36 (by omega) (by omega) (by rw [sw1]; rfl) (by decide) ?_
      have kp4 : KP L cl (fun _ => False) (fun _ => False) (fun _ => False) (fun _ => False) (fun _ _ => False) iv rv iv rv := KP.refl
      have kp5 := kp4.call TX.refl hW fl3 rfl
      refine c_aload_n (j := 0) (x := f3) C dX10_takeBack_98 rfl ?_
      obtain ⟨rb3, rq3, trb3⟩ := W3.ref rgf3 1 rfl rfl rfl
      refine c_getr (k := 1) C ck_1 dX10_takeBack_99 w3_43 (by decide) rgf3 rfl rfl (by decide) rfl rq3 ?_
      refine c_st (st2 := [.ref rb3]) rfl ?_
      have tt1 : rv f3 1 = some rb3 := by rw [← fl3.r rgf3 rfl 1]; exact rq3
      refine c_iconst C dX10_takeBack_102 ?_
      refine c_put (z := 0) (k := 7) C ck_10 dX10_takeBack_103 w2_198 (by decide) rfl trb3 rfl rfl (by decide) rfl (by decide) (by decide) (fun iv1 pq1 => ?_)
      refine hv4 (kp5.puti TX.refl pq1 trb3 rfl) (W3.puti pq1 trb3 ⟨by decide, by decide⟩ rfl) (F1.puti hX0 pq1 trb3 rfl) (MRK.puti mr1 hS pq1 trb3 (by decide)) (fun kp6 W7 F3 mr3 => ?_)
      refine c_goto (tgt := 171) C dX10_takeBack_106 (by decide) ?_
      refine c_iconst C dX10_takeBack_171 ?_
      refine hv19 (show 0 ≤ iv1 (sk 22) 2 ∧ iv1 (sk 22) 2 ≤ 30 from W7.int tsk22 2) (show iv1 (sk 22) 2 = ivh3 (sk 22) 2 from by rw [pq1]; exact up2_k (ne_ty tsk22 trb3 (by decide))) (show ivh3 (sk 22) 2 = iv (sk 22) 2 from fl3.i tsk22 rfl 2) (show 0 ≤ iv1 (sk 23) 2 ∧ iv1 (sk 23) 2 ≤ 512 from W7.int tsk23 2) (show iv1 (sk 23) 2 = ivh3 (sk 23) 2 from by rw [pq1]; exact up2_k (ne_ty tsk23 trb3 (by decide))) (show (-2147483648) ≤ iv1 f3 0 ∧ iv1 f3 0 ≤ 2147483647 from W7.int rgf3 0) (show iv1 f3 0 = ivh3 f3 0 from by rw [pq1]; exact up2_k (ne_ty rgf3 trb3 (by decide))) (show 0 ≤ iv1 rb3 7 ∧ iv1 rb3 7 ≤ 1 from W7.int trb3 7) (show iv1 rb3 7 = 0 from by rw [pq1]; exact up2_s) (show (-2147483648) ≤ iv1 rb3 0 ∧ iv1 rb3 0 ≤ 2147483647 from W7.int trb3 0) (show iv1 rb3 0 = ivh3 rb3 0 from by rw [pq1]; exact up2_j (by decide)) (show ivh3 rb3 0 = iv rb3 0 from fl3.i trb3 rfl 0) (show (-2147483648) ≤ iv1 rb3 1 ∧ iv1 rb3 1 ≤ 2147483647 from W7.int trb3 1) (show iv1 rb3 1 = ivh3 rb3 1 from by rw [pq1]; exact up2_j (by decide)) (show ivh3 rb3 1 = iv rb3 1 from fl3.i trb3 rfl 1) (show 0 ≤ iv1 f3 3 ∧ iv1 f3 3 ≤ 5 from W7.int rgf3 3) (show iv1 f3 3 = ivh3 f3 3 from by rw [pq1]; exact up2_k (ne_ty rgf3 trb3 (by decide))) (show ivh3 f3 3 = iv f3 3 from fl3.i rgf3 rfl 3) (Phi.le W7 hS) (fun ri10 ie10 ie11 ri11 ie12 ri12 ie13 ri13 ie14 ri14 ie15 ie16 ri15 ie17 ie18 ri16 ie19 ie20 pl3 => ?_)
      exact c_zret C dX10_takeBack_172 rfl (Or.inr rfl) (by decide) (rom0 hph pl3 (by decide)) ⟨1, rfl, rfl, rfl, rfl, F3, W7, (Or.inr rfl), ⟨(by omega), (by omega), mr3⟩, (Or.inr ⟨by omega, by omega, f3, rmef3, by omega, CS0.of hW hS (by omega) (fun i hi => exf3.2 i (by omega)) (fun bb tb => F3.i tb rfl 0) (fun bb tb => F3.r tb rfl 1), Or.inr (Or.inl ⟨by omega, rb3, tt1, by omega, ⟨(fun i hi => el_ch hW (tysk22 hS) rfl rfl ((show ∀ bb, ty L cl bb 22 → rvh3 bb 1 = rv bb 1 from fun bb tbb => by exact (show rvh3 bb 1 = rv bb 1 from (fl3.r tbb rfl 1))) (sk 22) (tysk22 hS)) (fun bb tbb kk => by exact (show rvh3 bb kk = rv bb kk from (fl3.r tbb rfl kk))) hi), TSF.of hW hS (fun bb tbb hbb => by exact (Eq.trans (show iv1 bb 7 = ivh3 bb 7 from (by rw [pq1]; exact up2_k hbb)) (show ivh3 bb 7 = iv bb 7 from (fl3.i tbb rfl 7)))) (fun bb tbb => (Classical.em (bb = rb3)).elim (fun e => by subst e; omega) (fun hbb => by exact (Eq.trans (show iv1 bb 0 = ivh3 bb 0 from (by rw [pq1]; exact up2_k hbb)) (show ivh3 bb 0 = iv bb 0 from (fl3.i tbb rfl 0))))) (fun bb tbb => (Classical.em (bb = rb3)).elim (fun e => by subst e; omega) (fun hbb => by exact (Eq.trans (show iv1 bb 1 = ivh3 bb 1 from (by rw [pq1]; exact up2_k hbb)) (show ivh3 bb 1 = iv bb 1 from (fl3.i tbb rfl 1))))) (fun bb tbb => by exact (show rvh3 bb 4 = rv bb 4 from (fl3.r tbb rfl 4))), TSQ.of hW hS (fun bb tbb hbb => by exact (Eq.trans (show iv1 bb 2 = ivh3 bb 2 from (by rw [pq1]; exact up2_k (ne_ty tbb trb3 (by decide)))) (show ivh3 bb 2 = iv bb 2 from (fl3.i tbb rfl 2))))⟩, by omega⟩)⟩), (Or.inr ⟨by omega, f3, rmef3, (fun h => absurd h (by omega)), (fun _ => kp6), (fun h => absurd h (by omega)), (fun h => absurd h (by omega)), (fun h => absurd h (by omega))⟩)⟩
    · refine c_tabIn (tgt := 109) (off := 73) C (r32_c (lo := (-2147483648)) (hi := 2147483647) ri3.1 ri3.2 (by decide) (by decide)) dX10_takeBack_36 (by omega) (by omega) (by rw [sw1]; rfl) (by decide) ?_
      refine c_aload_n (j := 0) (x := f3) C dX10_takeBack_109 rfl ?_
      obtain ⟨rb4, rq4, trb4⟩ := W3.ref rgf3 1 rfl rfl rfl
      refine c_getr (k := 1) C ck_1 dX10_takeBack_110 w3_43 (by decide) rgf3 rfl rfl (by decide) rfl rq4 ?_
      refine c_st (st2 := [.ref rb4]) rfl ?_
      have tt2 : rv f3 1 = some rb4 := by rw [← fl3.r rgf3 rfl 1]; exact rq4
      obtain ⟨q4, hq4, tq4⟩ := W3.ref trb4 4 rfl rfl rfl
      refine hv2 (show 0 ≤ ivh3 q4 2 ∧ ivh3 q4 2 ≤ 200 from W3.int tq4 2) (show ivh3 q4 2 = iv q4 2 from fl3.i tq4 rfl 2) (fun ri17 ie21 => ?_)
      obtain ⟨s5, hs5, ts5⟩ := W3.ref trb4 5 rfl rfl rfl
      refine hv4 (show 0 ≤ ivh3 s5 2 ∧ ivh3 s5 2 ≤ 200 from W3.int ts5 2) (show ivh3 s5 2 = iv s5 2 from fl3.i ts5 rfl 2) (show KP L cl (fun _ => False) (fun b => b = q4) (fun b => b = s5) (fun _ => False) (fun _ _ => False) iv rv iv rv from KP.refl) (Phi.le W3 hS) (fun ri18 ie22 kp7 pl4 => ?_)
      have kp8 := kp7.call TX.refl hW fl3 rfl
      refine d_callV (As := []) (rest := []) C hM (C_removeLast (a0 := rb4) W3 hS trb4  ) dX10_takeBack_113 kV_X10_70 rfl trb4 rfl rfl (by decide) ck_10 rfl (Nat.le_of_ble_eq_true rfl) ⟨(Nat.le_of_ble_eq_true rfl), (Nat.le_of_ble_eq_true rfl)⟩ hph pl4 (show 0 + 0 = 0 from rfl) (by decide) (fun rh7 Lh7 clh7 lnh7 ivh7 rvh7 h7 => ?_)
      obtain ⟨rfl, rfl, rfl, rfl, fl7, W8, exf7, rlxf7, rlkf7⟩ := h7
      refine hv3 (F1.call hX0 fl7 rfl) (MRK.call mr1 W3 hS XT.refl fl7 rfl rfl) (kp8.trans TX.refl (rlkf7 _ _ hq4 hs5).1) (fun F4 mr4 kp9 => ?_)
      refine c_st (st2 := []) rfl ?_
      refine hv2 (show 0 ≤ ivh7 q4 2 ∧ ivh7 q4 2 ≤ 200 from W8.int tq4 2) ((rlxf7 _ hq4).1) (fun ri19 rq9 => ?_)
      refine c_goto (tgt := 171) C dX10_takeBack_116 (by decide) ?_
      refine c_iconst C dX10_takeBack_171 ?_
      refine hv12 (show 0 ≤ ivh7 (sk 22) 2 ∧ ivh7 (sk 22) 2 ≤ 30 from W8.int tsk22 2) (show ivh7 (sk 22) 2 = ivh3 (sk 22) 2 from fl7.i tsk22 rfl 2) (show ivh3 (sk 22) 2 = iv (sk 22) 2 from fl3.i tsk22 rfl 2) (show 0 ≤ ivh7 (sk 23) 2 ∧ ivh7 (sk 23) 2 ≤ 512 from W8.int tsk23 2) (show ivh7 (sk 23) 2 = ivh3 (sk 23) 2 from fl7.i tsk23 rfl 2) (show (-2147483648) ≤ ivh7 f3 0 ∧ ivh7 f3 0 ≤ 2147483647 from W8.int rgf3 0) (show ivh7 f3 0 = ivh3 f3 0 from fl7.i rgf3 rfl 0) (show 0 ≤ ivh7 f3 3 ∧ ivh7 f3 3 ≤ 5 from W8.int rgf3 3) (show ivh7 f3 3 = ivh3 f3 3 from fl7.i rgf3 rfl 3) (show ivh3 f3 3 = iv f3 3 from fl3.i rgf3 rfl 3) (show 0 ≤ ivh7 s5 2 ∧ ivh7 s5 2 ≤ 200 from W8.int ts5 2) (Phi.le W8 hS) (fun ri20 ie24 ie25 ri21 ie26 ri22 ie27 ri23 ie28 ie29 ri24 pl5 => ?_)
      exact c_zret C dX10_takeBack_172 rfl (Or.inr rfl) (by decide) (rom0 hph pl5 (by decide)) ⟨1, rfl, rfl, rfl, rfl, F4, W8, (Or.inr rfl), ⟨(by omega), (by omega), mr4⟩, (Or.inr ⟨by omega, by omega, f3, rmef3, by omega, CS0.of hW hS (by omega) (fun i hi => ((fun i hi => el_ch W3 (tysk23 hS) rfl rfl ((show ∀ bb, ty L cl bb 23 → rvh7 bb 1 = rvh3 bb 1 from fun bb tbb => by exact (show rvh7 bb 1 = rvh3 bb 1 from (fl7.r tbb rfl 1))) (sk 23) (tysk23 hS)) (fun bb tbb kk => by exact (show rvh7 bb kk = rvh3 bb kk from (fl7.r tbb rfl kk))) hi) i (by omega)).trans (exf3.2 i (by omega))) (fun bb tb => F4.i tb rfl 0) (fun bb tb => F4.r tb rfl 1), Or.inr (Or.inr (Or.inl ⟨by omega, rb4, q4, tt2, ((fl3.r trb4 rfl 4).symm.trans hq4), by omega, ⟨(fun i hi => el_ch hW (tysk22 hS) rfl rfl ((show ∀ bb, ty L cl bb 22 → rvh7 bb 1 = rv bb 1 from fun bb tbb => by exact (Eq.trans (show rvh7 bb 1 = rvh3 bb 1 from (fl7.r tbb rfl 1)) (show rvh3 bb 1 = rv bb 1 from (fl3.r tbb rfl 1)))) (sk 22) (tysk22 hS)) (fun bb tbb kk => by exact (Eq.trans (show rvh7 bb kk = rvh3 bb kk from (fl7.r tbb rfl kk)) (show rvh3 bb kk = rv bb kk from (fl3.r tbb rfl kk)))) hi), TSF.of hW hS (fun bb tbb hbb => by exact (Eq.trans (show ivh7 bb 7 = ivh3 bb 7 from (fl7.i tbb rfl 7)) (show ivh3 bb 7 = iv bb 7 from (fl3.i tbb rfl 7)))) (fun bb tbb => by exact (Eq.trans (show ivh7 bb 0 = ivh3 bb 0 from (fl7.i tbb rfl 0)) (show ivh3 bb 0 = iv bb 0 from (fl3.i tbb rfl 0)))) (fun bb tbb => by exact (Eq.trans (show ivh7 bb 1 = ivh3 bb 1 from (fl7.i tbb rfl 1)) (show ivh3 bb 1 = iv bb 1 from (fl3.i tbb rfl 1)))) (fun bb tbb => by exact (Eq.trans (show rvh7 bb 4 = rvh3 bb 4 from (fl7.r tbb rfl 4)) (show rvh3 bb 4 = rv bb 4 from (fl3.r tbb rfl 4)))), TSQ.of hW hS (fun bb tbb hbb => by exact (Eq.trans (show ivh7 bb 2 = ivh3 bb 2 from ((rlxf7 _ hq4).2 bb tbb hbb)) (show ivh3 bb 2 = iv bb 2 from (fl3.i tbb rfl 2))))⟩, by omega⟩))⟩), (Or.inr ⟨by omega, f3, rmef3, (fun h => absurd h (by omega)), (fun h => absurd h (by omega)), (fun _ t9 q9 s9 h1 h4 h5 => by
          rw [tt2] at h1; cases h1
          rw [((fl3.r trb4 rfl 4).symm.trans hq4)] at h4; cases h4
          rw [((fl3.r trb4 rfl 5).symm.trans hs5)] at h5; cases h5
          exact ⟨kp9, fun r hr => ((rlkf7 _ _ hq4 hs5).2.1 r hr).trans (el_fr hW tq4 rfl rfl fl3 rfl rfl (by omega)), fun hz => (rlkf7 _ _ hq4 hs5).2.2.1 (by rw [fl3.i ts5 rfl 2, fl3.i tq4 rfl 2]; exact hz), (rlkf7 _ _ hq4 hs5).2.2.2.trans (fl3.r ts5 rfl 1)⟩), (fun h => absurd h (by omega)), (fun h => absurd h (by omega))⟩)⟩
    · refine c_tabIn (tgt := 119) (off := 83) C (r32_c (lo := (-2147483648)) (hi := 2147483647) ri3.1 ri3.2 (by decide) (by decide)) dX10_takeBack_36 (by omega) (by omega) (by rw [sw1]; rfl) (by decide) ?_
      refine c_aload_n (j := 0) (x := f3) C dX10_takeBack_119 rfl ?_
      rcases W3.opt rgf3 2 rfl rfl with ⟨nq1, _⟩ | ⟨nb1, nq1, tnb1⟩
      · refine c_getr (k := 2) C ck_1 dX10_takeBack_120 w3_45 (by decide) rgf3 rfl rfl (by decide) rfl nq1 ?_
        refine c_st (st2 := [.null]) rfl ?_
        refine c_ifnull (r := none) (tgt := 171) C dX10_takeBack_123 (by decide) (fun _ => ?_) (fun _ q => by cases q)
        refine c_iconst C dX10_takeBack_171 ?_
        refine hv5 (show 0 ≤ ivh3 (sk 22) 2 ∧ ivh3 (sk 22) 2 ≤ 30 from W3.int tsk22 2) (show ivh3 (sk 22) 2 = iv (sk 22) 2 from fl3.i tsk22 rfl 2) (show 0 ≤ ivh3 f3 3 ∧ ivh3 f3 3 ≤ 5 from W3.int rgf3 3) (show ivh3 f3 3 = iv f3 3 from fl3.i rgf3 rfl 3) (Phi.le W3 hS) (fun ri25 ie31 ri26 ie32 pl6 => ?_)
        exact c_zret C dX10_takeBack_172 rfl (Or.inr rfl) (by decide) (rom0 hph pl6 (by decide)) ⟨1, rfl, rfl, rfl, rfl, F1, W3, (Or.inr rfl), ⟨(by omega), (by omega), mr1⟩, (Or.inr ⟨by omega, by omega, f3, rmef3, by omega, CS0.of hW hS (by omega) (fun i hi => exf3.2 i (by omega)) (fun bb tb => F1.i tb rfl 0) (fun bb tb => F1.r tb rfl 1), Or.inr (Or.inr (Or.inr ⟨by omega, by omega, ⟨(fun i hi => el_ch hW (tysk22 hS) rfl rfl ((show ∀ bb, ty L cl bb 22 → rvh3 bb 1 = rv bb 1 from fun bb tbb => by exact (show rvh3 bb 1 = rv bb 1 from (fl3.r tbb rfl 1))) (sk 22) (tysk22 hS)) (fun bb tbb kk => by exact (show rvh3 bb kk = rv bb kk from (fl3.r tbb rfl kk))) hi), TSF.of hW hS (fun bb tbb hbb => by exact (show ivh3 bb 7 = iv bb 7 from (fl3.i tbb rfl 7))) (fun bb tbb => by exact (show ivh3 bb 0 = iv bb 0 from (fl3.i tbb rfl 0))) (fun bb tbb => by exact (show ivh3 bb 1 = iv bb 1 from (fl3.i tbb rfl 1))) (fun bb tbb => by exact (show rvh3 bb 4 = rv bb 4 from (fl3.r tbb rfl 4))), TSQ.of hW hS (fun bb tbb hbb => by exact (show ivh3 bb 2 = iv bb 2 from (fl3.i tbb rfl 2)))⟩⟩))⟩), (Or.inr ⟨by omega, f3, rmef3, (fun h => absurd h (by omega)), (fun h => absurd h (by omega)), (fun h => absurd h (by omega)), (fun _ w9 hw => by
            rw [((fl3.r rgf3 rfl 2).symm.trans nq1)] at hw; cases hw), (fun h => absurd h (by omega))⟩)⟩
      · refine c_getr (k := 2) C ck_1 dX10_takeBack_120 w3_45 (by decide) rgf3 rfl rfl (by decide) rfl nq1 ?_
        refine c_st (st2 := [.ref nb1]) rfl ?_
        refine c_ifnull (r := (some nb1)) (tgt := 171) C dX10_takeBack_123 (by decide) (fun q => by cases q) (fun _ _ => ?_)
        refine c_aload_n (j := 0) (x := f3) C dX10_takeBack_126 rfl ?_
        refine c_getr (k := 2) C ck_1 dX10_takeBack_127 w3_45 (by decide) rgf3 rfl rfl (by decide) rfl nq1 ?_
        refine c_st (st2 := [.ref nb1]) rfl ?_
        refine c_aload_n (j := 0) (x := f3) C dX10_takeBack_130 rfl ?_
        refine hv2 (show 0 ≤ ivh3 f3 3 ∧ ivh3 f3 3 ≤ 5 from W3.int rgf3 3) (show ivh3 f3 3 = iv f3 3 from fl3.i rgf3 rfl 3) (fun ri27 ie33 => ?_)
        refine c_get (k := 3) C ck_1 dX10_takeBack_131 w3_47 (by decide) rgf3 rfl rfl (by decide) rfl ?_
        have kp10 : KP L cl (fun b => b = nb1) (fun _ => False) (fun _ => False) (fun _ => False) (fun _ _ => False) iv rv iv rv := KP.refl
        have kp11 := kp10.call TX.refl hW fl3 rfl
        refine c_put (z := ivh3 f3 3) (k := 3) C ck_6 dX10_takeBack_134 w3_148 (by decide) rfl tnb1 rfl rfl (by decide) rfl (by rfl) (by rfl) (fun iv2 pq2 => ?_)
        refine hv3 (kp11.putiC TX.refl pq2 tnb1 rfl) (F1.puti hX0 pq2 tnb1 rfl) (MRK.puti mr1 hS pq2 tnb1 (by decide)) (fun kp12 F5 mr5 => ?_)
        have W9 := W3.puti pq2 tnb1 (show 0 ≤ (ivh3 f3 3) ∧ (ivh3 f3 3) ≤ 5 by omega) rfl
        refine c_goto (tgt := 171) C dX10_takeBack_137 (by decide) ?_
        refine c_iconst C dX10_takeBack_171 ?_
        refine hv12 (show 0 ≤ iv2 (sk 22) 2 ∧ iv2 (sk 22) 2 ≤ 30 from W9.int tsk22 2) (show iv2 (sk 22) 2 = ivh3 (sk 22) 2 from by rw [pq2]; exact up2_k (ne_ty tsk22 tnb1 (by decide))) (show ivh3 (sk 22) 2 = iv (sk 22) 2 from fl3.i tsk22 rfl 2) (show 0 ≤ iv2 (sk 23) 2 ∧ iv2 (sk 23) 2 ≤ 512 from W9.int tsk23 2) (show iv2 (sk 23) 2 = ivh3 (sk 23) 2 from by rw [pq2]; exact up2_k (ne_ty tsk23 tnb1 (by decide))) (show (-2147483648) ≤ iv2 f3 0 ∧ iv2 f3 0 ≤ 2147483647 from W9.int rgf3 0) (show iv2 f3 0 = ivh3 f3 0 from by rw [pq2]; exact up2_k (ne_ty rgf3 tnb1 (by decide))) (show 0 ≤ iv2 f3 3 ∧ iv2 f3 3 ≤ 5 from W9.int rgf3 3) (show iv2 f3 3 = ivh3 f3 3 from by rw [pq2]; exact up2_k (ne_ty rgf3 tnb1 (by decide))) (show 0 ≤ iv2 nb1 3 ∧ iv2 nb1 3 ≤ 5 from W9.int tnb1 3) (show iv2 nb1 3 = ivh3 f3 3 from by rw [pq2]; exact up2_s) (Phi.le W9 hS) (fun ri28 ie34 ie35 ri29 ie36 ri30 ie37 ri31 ie38 ri32 ie39 pl7 => ?_)
        exact c_zret C dX10_takeBack_172 rfl (Or.inr rfl) (by decide) (rom0 hph pl7 (by decide)) ⟨1, rfl, rfl, rfl, rfl, F5, W9, (Or.inr rfl), ⟨(by omega), (by omega), mr5⟩, (Or.inr ⟨by omega, by omega, f3, rmef3, by omega, CS0.of hW hS (by omega) (fun i hi => exf3.2 i (by omega)) (fun bb tb => F5.i tb rfl 0) (fun bb tb => F5.r tb rfl 1), Or.inr (Or.inr (Or.inr ⟨by omega, by omega, ⟨(fun i hi => el_ch hW (tysk22 hS) rfl rfl ((show ∀ bb, ty L cl bb 22 → rvh3 bb 1 = rv bb 1 from fun bb tbb => by exact (show rvh3 bb 1 = rv bb 1 from (fl3.r tbb rfl 1))) (sk 22) (tysk22 hS)) (fun bb tbb kk => by exact (show rvh3 bb kk = rv bb kk from (fl3.r tbb rfl kk))) hi), TSF.of hW hS (fun bb tbb hbb => by exact (Eq.trans (show iv2 bb 7 = ivh3 bb 7 from (by rw [pq2]; exact up2_k (ne_ty tbb tnb1 (by decide)))) (show ivh3 bb 7 = iv bb 7 from (fl3.i tbb rfl 7)))) (fun bb tbb => by exact (Eq.trans (show iv2 bb 0 = ivh3 bb 0 from (by rw [pq2]; exact up2_k (ne_ty tbb tnb1 (by decide)))) (show ivh3 bb 0 = iv bb 0 from (fl3.i tbb rfl 0)))) (fun bb tbb => by exact (Eq.trans (show iv2 bb 1 = ivh3 bb 1 from (by rw [pq2]; exact up2_k (ne_ty tbb tnb1 (by decide)))) (show ivh3 bb 1 = iv bb 1 from (fl3.i tbb rfl 1)))) (fun bb tbb => by exact (show rvh3 bb 4 = rv bb 4 from (fl3.r tbb rfl 4))), TSQ.of hW hS (fun bb tbb hbb => by exact (Eq.trans (show iv2 bb 2 = ivh3 bb 2 from (by rw [pq2]; exact up2_k (ne_ty tbb tnb1 (by decide)))) (show ivh3 bb 2 = iv bb 2 from (fl3.i tbb rfl 2))))⟩⟩))⟩), (Or.inr ⟨by omega, f3, rmef3, (fun h => absurd h (by omega)), (fun h => absurd h (by omega)), (fun h => absurd h (by omega)), (fun _ w9 hw => by
            rw [((fl3.r rgf3 rfl 2).symm.trans nq1)] at hw; cases hw
            exact ⟨kp12, by omega⟩), (fun h => absurd h (by omega))⟩)⟩
    · refine c_tabOut (tgt := 140) C (r32_c (lo := (-2147483648)) (hi := 2147483647) ri3.1 ri3.2 (by decide) (by decide)) dX10_takeBack_36 sw1 (by decide) ?_
      refine c_aload_n (j := 0) (x := f3) C dX10_takeBack_140 rfl ?_
      refine hv2 (show 0 ≤ ivh3 f3 3 ∧ ivh3 f3 3 ≤ 5 from W3.int rgf3 3) (show ivh3 f3 3 = iv f3 3 from fl3.i rgf3 rfl 3) (fun ri33 ie40 => ?_)
      refine c_get (k := 3) C ck_1 dX10_takeBack_141 w3_47 (by decide) rgf3 rfl rfl (by decide) rfl ?_
      refine c_if_lt (tgt := 171) C (r32_c (lo := 0) (hi := 5) ri33.1 ri33.2 (by decide) (by decide)) dX10_takeBack_144 (by decide) (fun c3 => ?_) (fun c3 => ?_)
      · refine c_iconst C dX10_takeBack_171 ?_
        refine hv3 (show 0 ≤ ivh3 (sk 22) 2 ∧ ivh3 (sk 22) 2 ≤ 30 from W3.int tsk22 2) (show ivh3 (sk 22) 2 = iv (sk 22) 2 from fl3.i tsk22 rfl 2) (Phi.le W3 hS) (fun ri34 ie41 pl8 => ?_)
        exact c_zret C dX10_takeBack_172 rfl (Or.inr rfl) (by decide) (rom0 hph pl8 (by decide)) ⟨1, rfl, rfl, rfl, rfl, F1, W3, (Or.inr rfl), ⟨(by omega), (by omega), mr1⟩, (Or.inr ⟨by omega, by omega, f3, rmef3, by omega, CS0.of hW hS (by omega) (fun i hi => exf3.2 i (by omega)) (fun bb tb => F1.i tb rfl 0) (fun bb tb => F1.r tb rfl 1), Or.inr (Or.inr (Or.inr ⟨by omega, by omega, ⟨(fun i hi => el_ch hW (tysk22 hS) rfl rfl ((show ∀ bb, ty L cl bb 22 → rvh3 bb 1 = rv bb 1 from fun bb tbb => by exact (show rvh3 bb 1 = rv bb 1 from (fl3.r tbb rfl 1))) (sk 22) (tysk22 hS)) (fun bb tbb kk => by exact (show rvh3 bb kk = rv bb kk from (fl3.r tbb rfl kk))) hi), TSF.of hW hS (fun bb tbb hbb => by exact (show ivh3 bb 7 = iv bb 7 from (fl3.i tbb rfl 7))) (fun bb tbb => by exact (show ivh3 bb 0 = iv bb 0 from (fl3.i tbb rfl 0))) (fun bb tbb => by exact (show ivh3 bb 1 = iv bb 1 from (fl3.i tbb rfl 1))) (fun bb tbb => by exact (show rvh3 bb 4 = rv bb 4 from (fl3.r tbb rfl 4))), TSQ.of hW hS (fun bb tbb hbb => by exact (show ivh3 bb 2 = iv bb 2 from (fl3.i tbb rfl 2)))⟩⟩))⟩), (Or.inr ⟨by omega, f3, rmef3, (fun h => absurd h (by omega)), (fun h => absurd h (by omega)), (fun h => absurd h (by omega)), (fun h => absurd h (by omega)), (fun _ h => absurd h (by omega))⟩)⟩
      · refine c_aload_n (j := 0) (x := f3) C dX10_takeBack_147 rfl ?_
        refine c_get (k := 3) C ck_1 dX10_takeBack_148 w3_47 (by decide) rgf3 rfl rfl (by decide) rfl ?_
        refine c_iconst C dX10_takeBack_151 ?_
        refine c_icmp_gt (tgt := 171) C (r32_c (lo := 0) (hi := 5) ri33.1 ri33.2 (by decide) (by decide)) ⟨by decide, by decide⟩ dX10_takeBack_152 (by decide) (fun c4 => ?_) (fun c4 => ?_)
        · refine c_iconst C dX10_takeBack_171 ?_
          refine hv3 (show 0 ≤ ivh3 (sk 22) 2 ∧ ivh3 (sk 22) 2 ≤ 30 from W3.int tsk22 2) (show ivh3 (sk 22) 2 = iv (sk 22) 2 from fl3.i tsk22 rfl 2) (Phi.le W3 hS) (fun ri35 ie42 pl9 => ?_)
          exact c_zret C dX10_takeBack_172 rfl (Or.inr rfl) (by decide) (rom0 hph pl9 (by decide)) ⟨1, rfl, rfl, rfl, rfl, F1, W3, (Or.inr rfl), ⟨(by omega), (by omega), mr1⟩, (Or.inr ⟨by omega, by omega, f3, rmef3, by omega, CS0.of hW hS (by omega) (fun i hi => exf3.2 i (by omega)) (fun bb tb => F1.i tb rfl 0) (fun bb tb => F1.r tb rfl 1), Or.inr (Or.inr (Or.inr ⟨by omega, by omega, ⟨(fun i hi => el_ch hW (tysk22 hS) rfl rfl ((show ∀ bb, ty L cl bb 22 → rvh3 bb 1 = rv bb 1 from fun bb tbb => by exact (show rvh3 bb 1 = rv bb 1 from (fl3.r tbb rfl 1))) (sk 22) (tysk22 hS)) (fun bb tbb kk => by exact (show rvh3 bb kk = rv bb kk from (fl3.r tbb rfl kk))) hi), TSF.of hW hS (fun bb tbb hbb => by exact (show ivh3 bb 7 = iv bb 7 from (fl3.i tbb rfl 7))) (fun bb tbb => by exact (show ivh3 bb 0 = iv bb 0 from (fl3.i tbb rfl 0))) (fun bb tbb => by exact (show ivh3 bb 1 = iv bb 1 from (fl3.i tbb rfl 1))) (fun bb tbb => by exact (show rvh3 bb 4 = rv bb 4 from (fl3.r tbb rfl 4))), TSQ.of hW hS (fun bb tbb hbb => by exact (show ivh3 bb 2 = iv bb 2 from (fl3.i tbb rfl 2)))⟩⟩))⟩), (Or.inr ⟨by omega, f3, rmef3, (fun h => absurd h (by omega)), (fun h => absurd h (by omega)), (fun h => absurd h (by omega)), (fun h => absurd h (by omega)), (fun _ h => absurd h (by omega))⟩)⟩
        · refine c_aload_n (j := 0) (x := f3) C dX10_takeBack_155 rfl ?_
          obtain ⟨rb5, rq5, trb5⟩ := W3.ref rgf3 1 rfl rfl rfl
          refine c_getr (k := 1) C ck_1 dX10_takeBack_156 w3_43 (by decide) rgf3 rfl rfl (by decide) rfl rq5 ?_
          refine c_st (st2 := [.ref rb5]) rfl ?_
          have tt3 : rv f3 1 = some rb5 := by rw [← fl3.r rgf3 rfl 1]; exact rq5
          obtain ⟨rb6, rq6, trb6⟩ := W3.ref trb5 6 rfl rfl rfl
          have lnrb6 : 4 ≤ ln rb6 ∧ ln rb6 ≤ 4 := W3.len trb6 rfl
          refine c_getr (k := 6) C ck_10 dX10_takeBack_159 w2_194 (by decide) trb5 rfl rfl (by decide) rfl rq6 ?_
          refine c_st (st2 := [.ref rb6]) rfl ?_
          refine c_aload_n (j := 0) (x := f3) C dX10_takeBack_162 rfl ?_
          refine c_get (k := 3) C ck_1 dX10_takeBack_163 w3_47 (by decide) rgf3 rfl rfl (by decide) rfl ?_
          refine c_aload_n (j := 0) (x := f3) C dX10_takeBack_166 rfl ?_
          rcases W3.opt rgf3 2 rfl rfl with ⟨nq2, _⟩ | ⟨nb2, nq2, tnb2⟩
          · refine c_getr (k := 2) C ck_1 dX10_takeBack_167 w3_45 (by decide) rgf3 rfl rfl (by decide) rfl nq2 ?_
            refine c_st (st2 := [.null, .int (iI (ivh3 f3 3)), .ref rb6]) rfl ?_
            refine hv2 (show KP L cl (fun _ => False) (fun _ => False) (fun _ => False) (fun _ => False) (fun b k => b = rb6 ∧ k = (iv f3 3).toNat) iv rv iv rv from KP.refl) (show 4 ≤ ln rb6 ∧ ln rb6 ≤ 4 from W3.len trb6 rfl) (fun kp13 ll1 => ?_)
            have kp14 := kp13.call TX.refl hW fl3 rfl
            refine c_aastNR (z := ivh3 f3 3) C dX10_takeBack_170 trb6 rfl (by omega) (by omega) (by omega) (fun rv1 pq3 => ⟨0, (by rw [Phi.putr hS pq3 trb6 rfl]; exact Nat.le_refl _), ?_⟩)
            refine hv3 (W3.putr pq3 trb6 (fun _ => ⟨fun _ => by rw [trb6.2]; rfl, fun _ qq => by cases qq⟩) rfl (by decide)) (F1.putr hX0 pq3 trb6 rfl) (MRK.putr mr1 W3 hS pq3 trb6 (by decide) (by decide)) (fun W10 F6 mr6 => ?_)
            have kp15 := kp14.putrI TX.refl W3 pq3 trb6 ⟨rfl, by omega⟩
            refine c_iconst C dX10_takeBack_171 ?_
            refine hv3 (show 0 ≤ ivh3 (sk 22) 2 ∧ ivh3 (sk 22) 2 ≤ 30 from W10.int tsk22 2) (show ivh3 (sk 22) 2 = iv (sk 22) 2 from fl3.i tsk22 rfl 2) (Phi.le W10 hS) (fun ri36 ie43 pl10 => ?_)
            exact c_zret C dX10_takeBack_172 rfl (Or.inr rfl) (by decide) (rom0 hph pl10 (by decide)) ⟨1, rfl, rfl, rfl, rfl, F6, W10, (Or.inr rfl), ⟨(by omega), (by omega), mr6⟩, (Or.inr ⟨by omega, by omega, f3, rmef3, by omega, CS0.of hW hS (by omega) (fun i hi => ((fun i hi => el_ch W3 (tysk23 hS) rfl rfl ((show ∀ bb, ty L cl bb 23 → rv1 bb 1 = rvh3 bb 1 from fun bb tbb => by exact (show rv1 bb 1 = rvh3 bb 1 from (by rw [pq3]; exact congrFun (upr_a (ne_ty tbb trb6 (by decide))) _))) (sk 23) (tysk23 hS)) (fun bb tbb kk => by exact (show rv1 bb kk = rvh3 bb kk from (by rw [pq3]; exact congrFun (upr_a (ne_ty tbb trb6 (by decide))) _))) hi) i (by omega)).trans (exf3.2 i (by omega))) (fun bb tb => F6.i tb rfl 0) (fun bb tb => F6.r tb rfl 1), Or.inr (Or.inr (Or.inr ⟨by omega, by omega, ⟨(fun i hi => el_ch hW (tysk22 hS) rfl rfl ((show ∀ bb, ty L cl bb 22 → rv1 bb 1 = rv bb 1 from fun bb tbb => by exact (Eq.trans (show rv1 bb 1 = rvh3 bb 1 from (by rw [pq3]; exact congrFun (upr_a (ne_ty tbb trb6 (by decide))) _)) (show rvh3 bb 1 = rv bb 1 from (fl3.r tbb rfl 1)))) (sk 22) (tysk22 hS)) (fun bb tbb kk => by exact (Eq.trans (show rv1 bb kk = rvh3 bb kk from (by rw [pq3]; exact congrFun (upr_a (ne_ty tbb trb6 (by decide))) _)) (show rvh3 bb kk = rv bb kk from (fl3.r tbb rfl kk)))) hi), TSF.of hW hS (fun bb tbb hbb => by exact (show ivh3 bb 7 = iv bb 7 from (fl3.i tbb rfl 7))) (fun bb tbb => by exact (show ivh3 bb 0 = iv bb 0 from (fl3.i tbb rfl 0))) (fun bb tbb => by exact (show ivh3 bb 1 = iv bb 1 from (fl3.i tbb rfl 1))) (fun bb tbb => by exact (Eq.trans (show rv1 bb 4 = rvh3 bb 4 from (by rw [pq3]; exact congrFun (upr_a (ne_ty tbb trb6 (by decide))) _)) (show rvh3 bb 4 = rv bb 4 from (fl3.r tbb rfl 4)))), TSQ.of hW hS (fun bb tbb hbb => by exact (show ivh3 bb 2 = iv bb 2 from (fl3.i tbb rfl 2)))⟩⟩))⟩), (Or.inr ⟨by omega, f3, rmef3, (fun h => absurd h (by omega)), (fun h => absurd h (by omega)), (fun h => absurd h (by omega)), (fun h => absurd h (by omega)), (fun _ _ t9 n9 h1 h6 => by
                rw [tt3] at h1; cases h1
                rw [((fl3.r trb5 rfl 6).symm.trans rq6)] at h6; cases h6
                exact ⟨kp15, by rw [((fl3.r rgf3 rfl 2).symm.trans nq2), show (iv f3 3).toNat = (ivh3 f3 3).toNat by omega, pq3]; exact upr_s⟩)⟩)⟩
          · refine c_getr (k := 2) C ck_1 dX10_takeBack_167 w3_45 (by decide) rgf3 rfl rfl (by decide) rfl nq2 ?_
            refine c_st (st2 := [.ref nb2, .int (iI (ivh3 f3 3)), .ref rb6]) rfl ?_
            refine hv2 (show KP L cl (fun _ => False) (fun _ => False) (fun _ => False) (fun _ => False) (fun b k => b = rb6 ∧ k = (iv f3 3).toNat) iv rv iv rv from KP.refl) (show 4 ≤ ln rb6 ∧ ln rb6 ≤ 4 from W3.len trb6 rfl) (fun kp16 ll2 => ?_)
            have kp17 := kp16.call TX.refl hW fl3 rfl
            refine c_aastR (z := ivh3 f3 3) C ck_6 dX10_takeBack_170 trb6 rfl tnb2 rfl rfl (by decide) (by omega) (by omega) (by omega) (fun rv2 pq4 => ⟨0, (by rw [Phi.putr hS pq4 trb6 rfl]; exact Nat.le_refl _), ?_⟩)
            refine hv3 (W3.putr pq4 trb6 (rok_some trb6 tnb2 rfl (by decide) rfl) rfl (by decide)) (F1.putr hX0 pq4 trb6 rfl) (MRK.putr mr1 W3 hS pq4 trb6 (by decide) (by decide)) (fun W11 F7 mr7 => ?_)
            have kp18 := kp17.putrI TX.refl W3 pq4 trb6 ⟨rfl, by omega⟩
            refine c_iconst C dX10_takeBack_171 ?_
            refine hv3 (show 0 ≤ ivh3 (sk 22) 2 ∧ ivh3 (sk 22) 2 ≤ 30 from W11.int tsk22 2) (show ivh3 (sk 22) 2 = iv (sk 22) 2 from fl3.i tsk22 rfl 2) (Phi.le W11 hS) (fun ri37 ie44 pl11 => ?_)
            exact c_zret C dX10_takeBack_172 rfl (Or.inr rfl) (by decide) (rom0 hph pl11 (by decide)) ⟨1, rfl, rfl, rfl, rfl, F7, W11, (Or.inr rfl), ⟨(by omega), (by omega), mr7⟩, (Or.inr ⟨by omega, by omega, f3, rmef3, by omega, CS0.of hW hS (by omega) (fun i hi => ((fun i hi => el_ch W3 (tysk23 hS) rfl rfl ((show ∀ bb, ty L cl bb 23 → rv2 bb 1 = rvh3 bb 1 from fun bb tbb => by exact (show rv2 bb 1 = rvh3 bb 1 from (by rw [pq4]; exact congrFun (upr_a (ne_ty tbb trb6 (by decide))) _))) (sk 23) (tysk23 hS)) (fun bb tbb kk => by exact (show rv2 bb kk = rvh3 bb kk from (by rw [pq4]; exact congrFun (upr_a (ne_ty tbb trb6 (by decide))) _))) hi) i (by omega)).trans (exf3.2 i (by omega))) (fun bb tb => F7.i tb rfl 0) (fun bb tb => F7.r tb rfl 1), Or.inr (Or.inr (Or.inr ⟨by omega, by omega, ⟨(fun i hi => el_ch hW (tysk22 hS) rfl rfl ((show ∀ bb, ty L cl bb 22 → rv2 bb 1 = rv bb 1 from fun bb tbb => by exact (Eq.trans (show rv2 bb 1 = rvh3 bb 1 from (by rw [pq4]; exact congrFun (upr_a (ne_ty tbb trb6 (by decide))) _)) (show rvh3 bb 1 = rv bb 1 from (fl3.r tbb rfl 1)))) (sk 22) (tysk22 hS)) (fun bb tbb kk => by exact (Eq.trans (show rv2 bb kk = rvh3 bb kk from (by rw [pq4]; exact congrFun (upr_a (ne_ty tbb trb6 (by decide))) _)) (show rvh3 bb kk = rv bb kk from (fl3.r tbb rfl kk)))) hi), TSF.of hW hS (fun bb tbb hbb => by exact (show ivh3 bb 7 = iv bb 7 from (fl3.i tbb rfl 7))) (fun bb tbb => by exact (show ivh3 bb 0 = iv bb 0 from (fl3.i tbb rfl 0))) (fun bb tbb => by exact (show ivh3 bb 1 = iv bb 1 from (fl3.i tbb rfl 1))) (fun bb tbb => by exact (Eq.trans (show rv2 bb 4 = rvh3 bb 4 from (by rw [pq4]; exact congrFun (upr_a (ne_ty tbb trb6 (by decide))) _)) (show rvh3 bb 4 = rv bb 4 from (fl3.r tbb rfl 4)))), TSQ.of hW hS (fun bb tbb hbb => by exact (show ivh3 bb 2 = iv bb 2 from (fl3.i tbb rfl 2)))⟩⟩))⟩), (Or.inr ⟨by omega, f3, rmef3, (fun h => absurd h (by omega)), (fun h => absurd h (by omega)), (fun h => absurd h (by omega)), (fun h => absurd h (by omega)), (fun _ _ t9 n9 h1 h6 => by
                rw [tt3] at h1; cases h1
                rw [((fl3.r trb5 rfl 6).symm.trans rq6)] at h6; cases h6
                exact ⟨kp18, by rw [((fl3.r rgf3 rfl 2).symm.trans nq2), show (iv f3 3).toNat = (ivh3 f3 3).toNat by omega, pq4]; exact upr_s⟩)⟩)⟩
  · replace gf1 := (gf1.resolve_right (fun q => c1 q.1))
    refine c_iconst C dX10_takeBack_10 ?_
    have ri38 : 0 ≤ iv (sk 22) 2 ∧ iv (sk 22) 2 ≤ 30 := hW.int tsk22 2
    exact c_zret C dX10_takeBack_11 rfl (Or.inl rfl) (by decide) (rom0 hph hph (by decide)) ⟨0, rfl, rfl, rfl, rfl, hF0, hW, (Or.inl rfl), ⟨(by omega), (by omega), hmr⟩, (Or.inl ⟨by omega, by omega, PSAME.refl⟩), (Or.inl ⟨by omega, KP.refl⟩)⟩
end
