set_option maxHeartbeats 4000000 in
set_option maxRecDepth 100000 in
theorem G_present {l : Launch} {G : GT} {mi : Nat} {sk : Nat → Nat} {L : List Nat} {cl ln : Nat → Nat} {iv : Nat → Nat → Int} {rv : Nat → Nat → Option Nat}  {a0 : Nat} {i : Int} (hW : WT (g0 G) sk L cl ln iv rv) (hS : SKL sk L cl) (t_a0 : ty L cl a0 18) (h_i : -2147483648 ≤ i ∧ i ≤ 2147483647)  : Mc l G mi (Phi (g0 G) sk) PHM yX7_present cX7_present 3 (some (.object "DotPress$Line")) 1 [.ref a0, .int (iI i)] L cl ln iv rv 0 (fun v L2 cl2 ln2 iv2 rv2 => ∃ f : Option Nat, v = some ((va_rf f)) ∧ L = L2 ∧ cl = cl2 ∧ ln = ln2 ∧ iv = iv2 ∧ rv = rv2 ∧ (∀ b, f = some b → ty L2 cl2 b 19) ∧ (PRX iv rv a0 i f)) := by
  refine Mc.mk (by decide) (Nat.le_of_ble_eq_true rfl) ?_
  intro p e s m args below meth c A C hM
  refine hv3 (Phi.le hW hS) (show XT L cl ln L cl ln from XT.refl) (show fT [] L cl iv rv iv rv from fT.refl) (fun hph hX0 hF0 => ?_)
  refine c_aload_n (j := 0) (x := a0) C dX7_present_0 rfl ?_
  refine c_iload_n (j := 1) C dX7_present_1 rfl ?_
  refine d_callV (As := [.int (iI i)]) (rest := []) C hM (G_sat (a0 := a0) (i := i) hW hS t_a0 (by omega) ) dX7_present_2 kV_X7_24 rfl t_a0 rfl rfl (by decide) ck_8 rfl (Nat.le_of_ble_eq_true rfl) ⟨(Nat.le_of_ble_eq_true rfl), (Nat.le_of_ble_eq_true rfl)⟩ hph hph (show 0 + 0 = 0 from rfl) (by decide) (fun rh1 Lh1 clh1 lnh1 ivh1 rvh1 h1 => ?_)
  obtain ⟨f1, rfl, rfl, rfl, rfl, rfl, rfl, rgf1, exf1⟩ := h1
  refine c_st (st2 := [(va_rf f1)]) rfl ?_
  have gf1 : SATX iv rv a0 i f1 := exf1
  refine c_astorer_n (r := f1) (lv2 := [(2, (va_rf f1)), (0, .ref a0), (1, .int (iI i))]) C dX7_present_5 (by decide) rfl ?_
  refine c_aloadr_n (j := 0) (r := f1) C dX7_present_6 rfl ?_
  refine c_ifnull (r := f1) (tgt := 17) C dX7_present_7 (by decide) (fun oq1 => ?_) (fun ob1 oq1 => ?_)
  · subst oq1
    refine c_lv (lv2 := [(2, .null), (0, .ref a0), (1, .int (iI i))]) [0, 1, 2] rfl ?_
    refine c_st (st2 := []) rfl ?_
    refine c_null C dX7_present_17 ?_
    refine c_goto (tgt := 22) C dX7_present_18 (by decide) ?_
    exact c_aret (x := none) C dX7_present_22 rfl (Or.inl ⟨_, rfl⟩) (by decide) (rom0 hph hph (by decide)) ⟨none, rfl, rfl, rfl, rfl, rfl, rfl, (fun _ q => by cases q), (Or.inr ⟨rfl, Or.inl gf1⟩)⟩
  · subst oq1
    have tob1 := rgf1 ob1 rfl
    refine c_lv (lv2 := [(2, .ref ob1), (0, .ref a0), (1, .int (iI i))]) [0, 1, 2] rfl ?_
    refine c_st (st2 := []) rfl ?_
    refine c_aload_n (j := 0) (x := ob1) C dX7_present_10 rfl ?_
    have ri1 : 0 ≤ iv ob1 2 ∧ iv ob1 2 ≤ 1 := hW.int tob1 2
    refine c_get (k := 2) C ck_3 dX7_present_11 w4_55 (by decide) tob1 rfl rfl (by decide) rfl ?_
    refine c_if_eq (tgt := 21) C (r32_c (lo := 0) (hi := 1) ri1.1 ri1.2 (by decide) (by decide)) dX7_present_14 (by decide) (fun c1 => ?_) (fun c1 => ?_)
    · refine c_aload_n (j := 0) (x := ob1) C dX7_present_21 rfl ?_
      exact c_aret (x := some ob1) C dX7_present_22 rfl (Or.inl ⟨_, rfl⟩) (by decide) (rom0 hph hph (by decide)) ⟨(some ob1), rfl, rfl, rfl, rfl, rfl, rfl, (fun _ q => by cases q; exact tob1), (Or.inl ⟨_, rfl, gf1, by omega⟩)⟩
    · refine c_null C dX7_present_17 ?_
      refine c_goto (tgt := 22) C dX7_present_18 (by decide) ?_
      exact c_aret (x := none) C dX7_present_22 rfl (Or.inl ⟨_, rfl⟩) (by decide) (rom0 hph hph (by decide)) ⟨none, rfl, rfl, rfl, rfl, rfl, rfl, (fun _ q => by cases q), (Or.inr ⟨rfl, Or.inr ⟨_, gf1, by omega⟩⟩)⟩
set_option maxHeartbeats 4000000 in
set_option maxRecDepth 100000 in
theorem G_lose {l : Launch} {G : GT} {mi : Nat} {sk : Nat → Nat} {L : List Nat} {cl ln : Nat → Nat} {iv : Nat → Nat → Int} {rv : Nat → Nat → Option Nat}  {a0 : Nat} {i : Int} (hW : WT (g0 G) sk L cl ln iv rv) (hS : SKL sk L cl) (t_a0 : ty L cl a0 1) (h_i : -2147483648 ≤ i ∧ i ≤ 2147483647)  : Mc l G mi (Phi (g0 G) sk) PHM yX11_lose cX11_lose 3 (some .int) 1 [.ref a0, .int (iI i)] L cl ln iv rv 0 (fun v L2 cl2 ln2 iv2 rv2 => ∃ f : Int, v = some (.int (iI f)) ∧ L = L2 ∧ cl = cl2 ∧ ln = ln2 ∧ rv = rv2 ∧ fT [1, 19] L cl iv rv iv2 rv2 ∧ WT (g0 G) sk L2 cl2 ln2 iv2 rv2 ∧ (-2147483648 ≤ f ∧ f ≤ 2147483647) ∧ (True) ∧ iv2 a0 11 = iv a0 11 ∧ iv2 a0 12 = iv a0 12 ∧ iv2 a0 13 = iv a0 13 ∧ iv2 a0 14 = iv a0 14 ∧ iv2 a0 15 = iv a0 15 ∧ iv2 a0 16 = iv a0 16 ∧ (TCH iv rv iv2 a0 (fun E E2 => LOSX E i f E2))) := by
  refine Mc.mk (by decide) (Nat.le_of_ble_eq_true rfl) ?_
  intro p e s m args below meth c A C hM
  refine hv3 (Phi.le hW hS) (show XT L cl ln L cl ln from XT.refl) (show fT [1, 19] L cl iv rv iv rv from fT.refl) (fun hph hX0 hF0 => ?_)
  obtain ⟨sA, hsA, tsA⟩ := hW.ref t_a0 9 rfl rfl rfl
  have ri1 : 0 ≤ iv sA 1 ∧ iv sA 1 ≤ 200 := hW.int tsA 1
  refine c_aload_n (j := 0) (x := a0) C dX11_lose_0 rfl ?_
  refine c_getr (k := 9) C ck_12 dX11_lose_1 w2_53 (by decide) t_a0 rfl rfl (by decide) rfl hsA ?_
  refine c_st (st2 := [.ref sA]) rfl ?_
  refine c_iload_n (j := 1) C dX11_lose_4 rfl ?_
  refine d_callV (As := [.int (iI i)]) (rest := []) C hM (G_sat (a0 := sA) (i := i) hW hS tsA (by omega) ) dX11_lose_5 kV_X11_308 rfl tsA rfl rfl (by decide) ck_8 rfl (Nat.le_of_ble_eq_true rfl) ⟨(Nat.le_of_ble_eq_true rfl), (Nat.le_of_ble_eq_true rfl)⟩ hph hph (show 0 + 0 = 0 from rfl) (by decide) (fun rh1 Lh1 clh1 lnh1 ivh1 rvh1 h1 => ?_)
  obtain ⟨f1, rfl, rfl, rfl, rfl, rfl, rfl, rgf1, exf1⟩ := h1
  refine c_st (st2 := [(va_rf f1)]) rfl ?_
  have gf1 : SATX iv rv sA i f1 := exf1
  refine c_astorer_n (r := f1) (lv2 := [(2, (va_rf f1)), (0, .ref a0), (1, .int (iI i))]) C dX11_lose_8 (by decide) rfl ?_
  refine c_aloadr_n (j := 0) (r := f1) C dX11_lose_9 rfl ?_
  refine c_ifnonnull (r := f1) (tgt := 19) C dX11_lose_10 (by decide) (fun ob1 oq1 => ?_) (fun oq1 => ?_)
  · subst oq1
    have tob1 := rgf1 ob1 rfl
    refine c_lv (lv2 := [(2, .ref ob1), (0, .ref a0), (1, .int (iI i))]) [0, 1, 2] rfl ?_
    refine c_st (st2 := []) rfl ?_
    refine c_aload_n (j := 0) (x := ob1) C dX11_lose_19 rfl ?_
    refine c_iconst C dX11_lose_20 ?_
    refine c_put (z := 1) (k := 2) C ck_3 dX11_lose_21 w4_56 (by decide) rfl tob1 rfl rfl (by decide) rfl (by decide) (by decide) (fun iv1 pq1 => ?_)
    refine hv3 (hW.puti pq1 tob1 ⟨by decide, by decide⟩ rfl) (hF0.puti hX0 pq1 tob1 rfl) (show iv1 sA 1 = iv sA 1 from by rw [pq1]; exact up2_k (ne_ty tsA tob1 (by decide))) (fun W2 F1 ie1 => ?_)
    have ri2 : 0 ≤ iv1 sA 1 ∧ iv1 sA 1 ≤ 200 := W2.int tsA 1
    refine c_aload_n (j := 1) (x := a0) C dX11_lose_24 rfl ?_
    refine c_iconst C dX11_lose_25 ?_
    refine d_callV (As := [.int (iI 1)]) (rest := []) C hM (C_done (a0 := a0) (x := 1) W2 hS t_a0 ⟨by decide, by decide⟩ ) dX11_lose_26 kV_X11_109 rfl t_a0 rfl rfl (by decide) ck_12 rfl (Nat.le_of_ble_eq_true rfl) ⟨(Nat.le_of_ble_eq_true rfl), (Nat.le_of_ble_eq_true rfl)⟩ hph hph (show 0 + 0 = 0 from rfl) (by decide) (fun rh2 Lh2 clh2 lnh2 ivh2 rvh2 h2 => ?_)
    obtain ⟨f2, rfl, rfl, rfl, rfl, rfl, fl2, W3, rgf2, exf2, kp11f2, kp12f2, kp13f2, kp14f2, kp15f2, kp16f2⟩ := h2
    refine hv13 (show 1 ≤ iv1 a0 11 ∧ iv1 a0 11 ≤ 100 from W2.int t_a0 11) (show iv1 a0 11 = iv a0 11 from by rw [pq1]; exact up2_k (ne_ty t_a0 tob1 (by decide))) (show 1 ≤ iv1 a0 12 ∧ iv1 a0 12 ≤ 50 from W2.int t_a0 12) (show iv1 a0 12 = iv a0 12 from by rw [pq1]; exact up2_k (ne_ty t_a0 tob1 (by decide))) (show (-2147483648) ≤ iv1 a0 13 ∧ iv1 a0 13 ≤ 2147483647 from W2.int t_a0 13) (show iv1 a0 13 = iv a0 13 from by rw [pq1]; exact up2_k (ne_ty t_a0 tob1 (by decide))) (show (-2147483648) ≤ iv1 a0 14 ∧ iv1 a0 14 ≤ 2147483647 from W2.int t_a0 14) (show iv1 a0 14 = iv a0 14 from by rw [pq1]; exact up2_k (ne_ty t_a0 tob1 (by decide))) (show (-2147483648) ≤ iv1 a0 15 ∧ iv1 a0 15 ≤ 2147483647 from W2.int t_a0 15) (show iv1 a0 15 = iv a0 15 from by rw [pq1]; exact up2_k (ne_ty t_a0 tob1 (by decide))) (show (-2147483648) ≤ iv1 a0 16 ∧ iv1 a0 16 ≤ 2147483647 from W2.int t_a0 16) (show iv1 a0 16 = iv a0 16 from by rw [pq1]; exact up2_k (ne_ty t_a0 tob1 (by decide))) (F1.call hX0 fl2 rfl) (fun ri3 ie2 ri4 ie3 ri5 ie4 ri6 ie5 ri7 ie6 ri8 ie7 F2 => ?_)
    refine c_st (st2 := [.int (iI f2)]) rfl ?_
    refine hv15 (show ivh2 a0 11 = iv1 a0 11 from kp11f2) (show ivh2 a0 12 = iv1 a0 12 from kp12f2) (show ivh2 a0 13 = iv1 a0 13 from kp13f2) (show ivh2 a0 14 = iv1 a0 14 from kp14f2) (show ivh2 a0 15 = iv1 a0 15 from kp15f2) (show ivh2 a0 16 = iv1 a0 16 from kp16f2) (show f2 = (1 : Int) from exf2) (show 1 ≤ ivh2 a0 11 ∧ ivh2 a0 11 ≤ 100 from W3.int t_a0 11) (show 1 ≤ ivh2 a0 12 ∧ ivh2 a0 12 ≤ 50 from W3.int t_a0 12) (show (-2147483648) ≤ ivh2 a0 13 ∧ ivh2 a0 13 ≤ 2147483647 from W3.int t_a0 13) (show (-2147483648) ≤ ivh2 a0 14 ∧ ivh2 a0 14 ≤ 2147483647 from W3.int t_a0 14) (show (-2147483648) ≤ ivh2 a0 15 ∧ ivh2 a0 15 ≤ 2147483647 from W3.int t_a0 15) (show (-2147483648) ≤ ivh2 a0 16 ∧ ivh2 a0 16 ≤ 2147483647 from W3.int t_a0 16) (show 0 ≤ ivh2 sA 1 ∧ ivh2 sA 1 ≤ 200 from W3.int tsA 1) (show ivh2 sA 1 = iv1 sA 1 from fl2.i tsA rfl 1) (fun gk11f2 gk12f2 gk13f2 gk14f2 gk15f2 gk16f2 gf2 ri9 ri10 ri11 ri12 ri13 ri14 ri15 ie14 => ?_)
    exact c_iret C dX11_lose_29 rfl (by decide) (rom0 hph hph (by decide)) ⟨f2, rfl, rfl, rfl, rfl, rfl, F2, W3, ⟨by omega, by omega⟩, trivial, (by omega), (by omega), (by omega), (by omega), (by omega), (by omega), (TCH.row hsA hW tsA gf1 (LFR.refl.self tob1 pq1) (by omega) W2 fl2 rfl rfl rfl rfl (fun E hE => LSP.ok gf1 pq1 (by omega) hE))⟩
  · subst oq1
    refine c_lv (lv2 := [(2, .null), (0, .ref a0), (1, .int (iI i))]) [0, 1, 2] rfl ?_
    refine c_st (st2 := []) rfl ?_
    refine c_aload_n (j := 1) (x := a0) C dX11_lose_13 rfl ?_
    refine c_iconst C dX11_lose_14 ?_
    refine d_callV (As := [.int (iI 2)]) (rest := []) C hM (C_refuse (a0 := a0) (x := 2) hW hS t_a0 ⟨by decide, by decide⟩ ) dX11_lose_15 kV_X11_102 rfl t_a0 rfl rfl (by decide) ck_12 rfl (Nat.le_of_ble_eq_true rfl) ⟨(Nat.le_of_ble_eq_true rfl), (Nat.le_of_ble_eq_true rfl)⟩ hph hph (show 0 + 0 = 0 from rfl) (by decide) (fun rh3 Lh3 clh3 lnh3 ivh3 rvh3 h3 => ?_)
    obtain ⟨f3, rfl, rfl, rfl, rfl, rfl, fl3, W4, rgf3, exf3, kp11f3, kp12f3, kp13f3, kp14f3, kp15f3, kp16f3⟩ := h3
    refine hv7 (show 1 ≤ iv a0 11 ∧ iv a0 11 ≤ 100 from hW.int t_a0 11) (show 1 ≤ iv a0 12 ∧ iv a0 12 ≤ 50 from hW.int t_a0 12) (show (-2147483648) ≤ iv a0 13 ∧ iv a0 13 ≤ 2147483647 from hW.int t_a0 13) (show (-2147483648) ≤ iv a0 14 ∧ iv a0 14 ≤ 2147483647 from hW.int t_a0 14) (show (-2147483648) ≤ iv a0 15 ∧ iv a0 15 ≤ 2147483647 from hW.int t_a0 15) (show (-2147483648) ≤ iv a0 16 ∧ iv a0 16 ≤ 2147483647 from hW.int t_a0 16) (hF0.call hX0 fl3 rfl) (fun ri16 ri17 ri18 ri19 ri20 ri21 F3 => ?_)
    refine c_st (st2 := [.int (iI f3)]) rfl ?_
    refine hv13 (show ivh3 a0 11 = iv a0 11 from kp11f3) (show ivh3 a0 12 = iv a0 12 from kp12f3) (show ivh3 a0 13 = iv a0 13 from kp13f3) (show ivh3 a0 14 = iv a0 14 from kp14f3) (show ivh3 a0 15 = iv a0 15 from kp15f3) (show ivh3 a0 16 = iv a0 16 from kp16f3) (show f3 = -1 from exf3) (show 1 ≤ ivh3 a0 11 ∧ ivh3 a0 11 ≤ 100 from W4.int t_a0 11) (show 1 ≤ ivh3 a0 12 ∧ ivh3 a0 12 ≤ 50 from W4.int t_a0 12) (show (-2147483648) ≤ ivh3 a0 13 ∧ ivh3 a0 13 ≤ 2147483647 from W4.int t_a0 13) (show (-2147483648) ≤ ivh3 a0 14 ∧ ivh3 a0 14 ≤ 2147483647 from W4.int t_a0 14) (show (-2147483648) ≤ ivh3 a0 15 ∧ ivh3 a0 15 ≤ 2147483647 from W4.int t_a0 15) (show (-2147483648) ≤ ivh3 a0 16 ∧ ivh3 a0 16 ≤ 2147483647 from W4.int t_a0 16) (fun gk11f3 gk12f3 gk13f3 gk14f3 gk15f3 gk16f3 gf3 ri22 ri23 ri24 ri25 ri26 ri27 => ?_)
    exact c_iret C dX11_lose_18 rfl (by decide) (rom0 hph hph (by decide)) ⟨f3, rfl, rfl, rfl, rfl, rfl, F3, W4, ⟨by omega, by omega⟩, trivial, (by omega), (by omega), (by omega), (by omega), (by omega), (by omega), (TCH.same hsA hW tsA fl3 rfl rfl rfl rfl (fun E hE => LSP.no gf1 (by omega) hE))⟩
set_option maxHeartbeats 4000000 in
set_option maxRecDepth 100000 in
theorem G_resize {l : Launch} {G : GT} {mi : Nat} {sk : Nat → Nat} {L : List Nat} {cl ln : Nat → Nat} {iv : Nat → Nat → Int} {rv : Nat → Nat → Option Nat}  {a0 : Nat} {n : Int} (hW : WT (g0 G) sk L cl ln iv rv) (hS : SKL sk L cl) (t_a0 : ty L cl a0 19) (h_n : -2147483648 ≤ n ∧ n ≤ 2147483647) (hn : 0 ≤ n ∧ n ≤ 200) : Mc l G mi (Phi (g0 G) sk) PHM yX2_resize cX2_resize 3 none 1 [.ref a0, .int (iI n)] L cl ln iv rv 0 (fun v L2 cl2 ln2 iv2 rv2 => v = none ∧ L = L2 ∧ cl = cl2 ∧ ln = ln2 ∧ rv = rv2 ∧ fT [19, 64] L cl iv rv iv2 rv2 ∧ WT (g0 G) sk L2 cl2 ln2 iv2 rv2 ∧ ((LFR L cl iv rv iv2 a0 ∧ iv2 a0 2 = iv a0 2) ∧ RSK iv rv iv2 a0 n)) := by
  refine Mc.mk (by decide) (Nat.le_of_ble_eq_true rfl) ?_
  intro p e s m args below meth c A C hM
  refine hv5 (Phi.le hW hS) (show XT L cl ln L cl ln from XT.refl) (show fT [19, 64] L cl iv rv iv rv from fT.refl) (show 0 ≤ iv a0 1 ∧ iv a0 1 ≤ 200 from hW.int t_a0 1) (show 0 ≤ iv a0 2 ∧ iv a0 2 ≤ 1 from hW.int t_a0 2) (fun hph hX0 hF0 ri1 ri2 => ?_)
  refine c_aload_n (j := 0) (x := a0) C dX2_resize_0 rfl ?_
  refine c_aload_n (j := 0) (x := a0) C dX2_resize_1 rfl ?_
  refine c_get (k := 1) C ck_3 dX2_resize_2 w4_49 (by decide) t_a0 rfl rfl (by decide) rfl ?_
  refine c_iload_n (j := 1) C dX2_resize_5 rfl ?_
  obtain ⟨mn1, hmn1, emn1⟩ := mmin_c (x := iv a0 1) (y := n) (r32_c (lo := 0) (hi := 200) ri1.1 ri1.2 (by decide) (by decide)) ⟨by omega, by omega⟩
  refine c_mmin (w := iI mn1) C dX2_resize_6 w4_219 w2_129 w1_14 w2_130 (by decide) (rom0 hph hph (by decide)) (Nat.le_of_ble_eq_true rfl) emn1 ?_
  refine c_put (z := mn1) (k := 1) C ck_3 dX2_resize_9 w4_49 (by decide) rfl t_a0 rfl rfl (by decide) rfl (by rfl) (by rfl) (fun iv1 pq1 => ?_)
  refine hv2 (hW.puti pq1 t_a0 (show 0 ≤ mn1 ∧ mn1 ≤ 200 by omega) rfl) (hF0.puti hX0 pq1 t_a0 rfl) (fun W1 F1 => ?_)
  refine c_aload_n (j := 0) (x := a0) C dX2_resize_12 rfl ?_
  refine hv2 (show 0 ≤ iv1 a0 1 ∧ iv1 a0 1 ≤ 200 from W1.int t_a0 1) (show iv1 a0 1 = mn1 from by rw [pq1]; exact up2_s) (fun ri3 ie1 => ?_)
  refine c_get (k := 1) C ck_3 dX2_resize_13 w4_49 (by decide) t_a0 rfl rfl (by decide) rfl ?_
  refine c_istore_n (lv2 := [(2, .int (iI (iv1 a0 1))), (0, .ref a0), (1, .int (iI n))]) C dX2_resize_16 (by decide) rfl ?_
  have Lp1 : ∀ (nn : Nat) (k : Int) (ivb1 : Nat → Nat → Int) , 201 - k < (nn : Int) → WT (g0 G) sk L cl ln ivb1 rv → fT [19, 64] L cl iv rv ivb1 rv → (0 ≤ k ∧ k ≤ 200) → (k ≤ n ∧ (iv a0 1 ≤ k ∨ k = n)) → (LFR L cl iv rv ivb1 a0) → (ivb1 a0 2 = iv a0 2) → (RSK iv rv ivb1 a0 k) → cw p l e 1 ((PHM) + 0 - ((Phi (g0 G) sk) ln rv)) s m args below meth c G A 3 (MQ below (Qu G A (Qp G (Phi (g0 G) sk) ((Phi (g0 G) sk) ln rv) 0 (fun v L2 cl2 ln2 iv2 rv2 => v = none ∧ L = L2 ∧ cl = cl2 ∧ ln = ln2 ∧ rv = rv2 ∧ fT [19, 64] L cl iv rv iv2 rv2 ∧ WT (g0 G) sk L2 cl2 ln2 iv2 rv2 ∧ ((LFR L cl iv rv iv2 a0 ∧ iv2 a0 2 = iv a0 2) ∧ RSK iv rv iv2 a0 n)))) args s (((PHM) + 0 - ((Phi (g0 G) sk) ln rv)) / 16) ((PHM) + 0 - ((Phi (g0 G) sk) ln rv)) A) (Phi (g0 G) sk) ((Phi (g0 G) sk) ln rv) L cl ln ivb1 rv 0 17 [(2, .int (iI k)), (0, .ref a0), (1, .int (iI n))] [] := by
    intro nn
    induction nn with
    | zero =>
      intro  k ivb1 hm Wb1 Fb1  hk hkn hLF h2e hRS
      exact absurd hm (by omega)
    | succ nn ih1 =>
      intro  k ivb1 hm Wb1 Fb1  hk hkn hLF h2e hRS
      refine c_iload_n (j := 0) C dX2_resize_17 rfl ?_
      refine c_iload_n (j := 2) C dX2_resize_18 rfl ?_
      refine c_icmp_ge (tgt := 33) C (r32_c (lo := 0) (hi := 200) hk.1 hk.2 (by decide) (by decide)) ⟨by omega, by omega⟩ dX2_resize_19 (by decide) (fun c1 => ?_) (fun c1 => ?_)
      · have ri4 : 0 ≤ ivb1 a0 1 ∧ ivb1 a0 1 ≤ 200 := Wb1.int t_a0 1
        have ri5 : 0 ≤ ivb1 a0 2 ∧ ivb1 a0 2 ≤ 1 := Wb1.int t_a0 2
        exact c_vret C dX2_resize_33 rfl (by decide) (rom0 hph hph (by decide)) ⟨rfl, rfl, rfl, rfl, rfl, Fb1, Wb1, ⟨⟨hLF, by omega⟩, (by rw [show n = k by omega]; exact hRS)⟩⟩
      · refine c_aload_n (j := 1) (x := a0) C dX2_resize_22 rfl ?_
        refine c_iconst C dX2_resize_23 ?_
        refine hv2 (show 0 ≤ ivb1 a0 1 ∧ ivb1 a0 1 ≤ 200 from Wb1.int t_a0 1) (show 0 ≤ ivb1 a0 2 ∧ ivb1 a0 2 ≤ 1 from Wb1.int t_a0 2) (fun ri6 ri7 => ?_)
        refine d_callV (As := [.int (iI 0)]) (rest := []) C hM (G_ladd (a0 := a0) (x := 0) Wb1 hS t_a0 ⟨by decide, by decide⟩ ) dX2_resize_24 kV_X2_23 rfl t_a0 rfl rfl (by decide) ck_3 rfl (Nat.le_of_ble_eq_true rfl) ⟨(Nat.le_of_ble_eq_true rfl), (Nat.le_of_ble_eq_true rfl)⟩ hph hph (show 0 + 0 = 0 from rfl) (by decide) (fun rh1 Lh1 clh1 lnh1 ivh1 rvh1 h1 => ?_)
        obtain ⟨rfl, rfl, rfl, rfl, rfl, fl1, W2, exf1⟩ := h1
        have F2 := Fb1.call hX0 fl1 rfl
        refine c_st (st2 := []) rfl ?_
        refine hv3 (show 0 ≤ ivh1 a0 1 ∧ ivh1 a0 1 ≤ 200 from W2.int t_a0 1) (show 0 ≤ ivh1 a0 2 ∧ ivh1 a0 2 ≤ 1 from W2.int t_a0 2) (show ((ivh1 a0 1 = ivb1 a0 1 ∧ ivb1 a0 1 = 200) ∨ ivh1 a0 1 = ivb1 a0 1 + 1) ∧ (LFR L cl ivb1 rv ivh1 a0 ∧ ivh1 a0 2 = ivb1 a0 2) ∧ LAX ivb1 rv ivh1 a0 (0 : Int) from exf1) (fun ri8 ri9 gf1 => ?_)
        refine c_iinc (z := k) (j := 0) (lv2 := [(2, .int (iI (k + 1))), (0, .ref a0), (1, .int (iI n))]) C dX2_resize_27 rfl (by decide) rfl ?_
        refine c_goto (tgt := 17) C dX2_resize_30 (by decide) ?_
        refine c_lv (lv2 := [(2, .int (iI (k + 1))), (0, .ref a0), (1, .int (iI n))]) [0, 1, 2] rfl ?_
        exact ih1  (k + 1) _ (by omega) W2 F2  (by omega) (by omega) (hLF.trans gf1.2.1.1) (by show ivh1 a0 2 = iv a0 2; omega) (hRS.step gf1.2.2 ⟨by omega, by omega, by omega⟩)
  refine hv2 (show 0 ≤ iv1 a0 2 ∧ iv1 a0 2 ≤ 1 from W1.int t_a0 2) (show iv1 a0 2 = iv a0 2 from by rw [pq1]; exact up2_j (by decide)) (fun ri10 ie8 => ?_)
  refine c_lv (lv2 := [(2, .int (iI (iv1 a0 1))), (0, .ref a0), (1, .int (iI n))]) [0, 1, 2] rfl ?_
  exact Lp1 203 (iv1 a0 1) _ (by omega) W1 F1  (by omega) (by omega) (LFR.refl.self t_a0 pq1) (by show iv1 a0 2 = iv a0 2; omega) (by rw [show iv1 a0 1 = mn1 by omega]; exact RSK.init pq1 ⟨by omega, by omega⟩ (fun cb hc => ne_ty (li64 hW t_a0 hc) t_a0 (by decide)))
set_option maxHeartbeats 4000000 in
set_option maxRecDepth 100000 in
theorem G_cut {l : Launch} {G : GT} {mi : Nat} {sk : Nat → Nat} {L : List Nat} {cl ln : Nat → Nat} {iv : Nat → Nat → Int} {rv : Nat → Nat → Option Nat}  {a0 : Nat} {i : Int} {n : Int} (hW : WT (g0 G) sk L cl ln iv rv) (hS : SKL sk L cl) (t_a0 : ty L cl a0 1) (h_i : -2147483648 ≤ i ∧ i ≤ 2147483647) (h_n : -2147483648 ≤ n ∧ n ≤ 2147483647)  : Mc l G mi (Phi (g0 G) sk) PHM yX11_cut cX11_cut 4 (some .int) 2 [.ref a0, .int (iI i), .int (iI n)] L cl ln iv rv 0 (fun v L2 cl2 ln2 iv2 rv2 => ∃ f : Int, v = some (.int (iI f)) ∧ L = L2 ∧ cl = cl2 ∧ ln = ln2 ∧ rv = rv2 ∧ fT [1, 19, 64] L cl iv rv iv2 rv2 ∧ WT (g0 G) sk L2 cl2 ln2 iv2 rv2 ∧ (-2147483648 ≤ f ∧ f ≤ 2147483647) ∧ (True) ∧ iv2 a0 11 = iv a0 11 ∧ iv2 a0 12 = iv a0 12 ∧ iv2 a0 13 = iv a0 13 ∧ iv2 a0 14 = iv a0 14 ∧ iv2 a0 15 = iv a0 15 ∧ iv2 a0 16 = iv a0 16 ∧ (TCH iv rv iv2 a0 (fun E E2 => CUTX E i n f E2))) := by
  refine Mc.mk (by decide) (Nat.le_of_ble_eq_true rfl) ?_
  intro p e s m args below meth c A C hM
  refine hv3 (Phi.le hW hS) (show XT L cl ln L cl ln from XT.refl) (show fT [1, 19, 64] L cl iv rv iv rv from fT.refl) (fun hph hX0 hF0 => ?_)
  obtain ⟨sA, hsA, tsA⟩ := hW.ref t_a0 9 rfl rfl rfl
  have ri1 : 0 ≤ iv sA 1 ∧ iv sA 1 ≤ 200 := hW.int tsA 1
  refine c_iload_n (j := 2) C dX11_cut_0 rfl ?_
  refine c_sipush (z := 200) C dX11_cut_1 (by decide) ?_
  refine c_icmp_le (tgt := 14) C ⟨by omega, by omega⟩ ⟨by decide, by decide⟩ dX11_cut_4 (by decide) (fun c1 => ?_) (fun c1 => ?_)
  · refine c_iload_n (j := 2) C dX11_cut_14 rfl ?_
    refine c_if_ge (tgt := 24) C ⟨by omega, by omega⟩ dX11_cut_15 (by decide) (fun c2 => ?_) (fun c2 => ?_)
    · refine c_aload_n (j := 0) (x := a0) C dX11_cut_24 rfl ?_
      refine c_getr (k := 9) C ck_12 dX11_cut_25 w2_53 (by decide) t_a0 rfl rfl (by decide) rfl hsA ?_
      refine c_st (st2 := [.ref sA]) rfl ?_
      refine c_iload_n (j := 1) C dX11_cut_28 rfl ?_
      refine d_callV (As := [.int (iI i)]) (rest := []) C hM (G_present (a0 := sA) (i := i) hW hS tsA (by omega) ) dX11_cut_29 kV_X11_288 rfl tsA rfl rfl (by decide) ck_8 rfl (Nat.le_of_ble_eq_true rfl) ⟨(Nat.le_of_ble_eq_true rfl), (Nat.le_of_ble_eq_true rfl)⟩ hph hph (show 0 + 0 = 0 from rfl) (by decide) (fun rh1 Lh1 clh1 lnh1 ivh1 rvh1 h1 => ?_)
      obtain ⟨f1, rfl, rfl, rfl, rfl, rfl, rfl, rgf1, exf1⟩ := h1
      refine c_st (st2 := [(va_rf f1)]) rfl ?_
      have gf1 : PRX iv rv sA i f1 := exf1
      refine c_astorer_n (r := f1) (lv2 := [(3, (va_rf f1)), (0, .ref a0), (1, .int (iI i)), (2, .int (iI n))]) C dX11_cut_32 (by decide) rfl ?_
      refine c_aloadr_n (j := 0) (r := f1) C dX11_cut_33 rfl ?_
      refine c_ifnonnull (r := f1) (tgt := 50) C dX11_cut_34 (by decide) (fun ob1 oq1 => ?_) (fun oq1 => ?_)
      · subst oq1
        have tob1 := rgf1 ob1 rfl
        refine c_lv (lv2 := [(3, .ref ob1), (0, .ref a0), (1, .int (iI i)), (2, .int (iI n))]) [0, 1, 2, 3] rfl ?_
        refine c_st (st2 := []) rfl ?_
        refine c_aload_n (j := 0) (x := ob1) C dX11_cut_50 rfl ?_
        refine c_iload_n (j := 3) C dX11_cut_51 rfl ?_
        have ri2 : 0 ≤ iv ob1 2 ∧ iv ob1 2 ≤ 1 := hW.int tob1 2
        refine d_callV (As := [.int (iI n)]) (rest := []) C hM (G_resize (a0 := ob1) (n := n) hW hS tob1 (by omega) (by show 0 ≤ n ∧ n ≤ 200; omega)) dX11_cut_52 kV_X11_305 rfl tob1 rfl rfl (by decide) ck_3 rfl (Nat.le_of_ble_eq_true rfl) ⟨(Nat.le_of_ble_eq_true rfl), (Nat.le_of_ble_eq_true rfl)⟩ hph hph (show 0 + 0 = 0 from rfl) (by decide) (fun rh2 Lh2 clh2 lnh2 ivh2 rvh2 h2 => ?_)
        obtain ⟨rfl, rfl, rfl, rfl, rfl, fl2, W2, exf2⟩ := h2
        have F1 := hF0.call hX0 fl2 rfl
        refine c_st (st2 := []) rfl ?_
        refine hv4 (show 0 ≤ ivh2 ob1 2 ∧ ivh2 ob1 2 ≤ 1 from W2.int tob1 2) (show (LFR L cl iv rv ivh2 ob1 ∧ ivh2 ob1 2 = iv ob1 2) ∧ RSK iv rv ivh2 ob1 n from exf2) (show 0 ≤ ivh2 sA 1 ∧ ivh2 sA 1 ≤ 200 from W2.int tsA 1) (show ivh2 sA 1 = iv sA 1 from fl2.i tsA rfl 1) (fun ri3 gf2 ri4 ie2 => ?_)
        refine c_aload_n (j := 1) (x := a0) C dX11_cut_55 rfl ?_
        refine c_iload_n (j := 3) C dX11_cut_56 rfl ?_
        refine d_callV (As := [.int (iI n)]) (rest := []) C hM (C_done (a0 := a0) (x := n) W2 hS t_a0 (by omega) ) dX11_cut_57 kV_X11_109 rfl t_a0 rfl rfl (by decide) ck_12 rfl (Nat.le_of_ble_eq_true rfl) ⟨(Nat.le_of_ble_eq_true rfl), (Nat.le_of_ble_eq_true rfl)⟩ hph hph (show 0 + 0 = 0 from rfl) (by decide) (fun rh3 Lh3 clh3 lnh3 ivh3 rvh3 h3 => ?_)
        obtain ⟨f3, rfl, rfl, rfl, rfl, rfl, fl3, W3, rgf3, exf3, kp11f3, kp12f3, kp13f3, kp14f3, kp15f3, kp16f3⟩ := h3
        refine hv13 (show 1 ≤ ivh2 a0 11 ∧ ivh2 a0 11 ≤ 100 from W2.int t_a0 11) (show ivh2 a0 11 = iv a0 11 from fl2.i t_a0 rfl 11) (show 1 ≤ ivh2 a0 12 ∧ ivh2 a0 12 ≤ 50 from W2.int t_a0 12) (show ivh2 a0 12 = iv a0 12 from fl2.i t_a0 rfl 12) (show (-2147483648) ≤ ivh2 a0 13 ∧ ivh2 a0 13 ≤ 2147483647 from W2.int t_a0 13) (show ivh2 a0 13 = iv a0 13 from fl2.i t_a0 rfl 13) (show (-2147483648) ≤ ivh2 a0 14 ∧ ivh2 a0 14 ≤ 2147483647 from W2.int t_a0 14) (show ivh2 a0 14 = iv a0 14 from fl2.i t_a0 rfl 14) (show (-2147483648) ≤ ivh2 a0 15 ∧ ivh2 a0 15 ≤ 2147483647 from W2.int t_a0 15) (show ivh2 a0 15 = iv a0 15 from fl2.i t_a0 rfl 15) (show (-2147483648) ≤ ivh2 a0 16 ∧ ivh2 a0 16 ≤ 2147483647 from W2.int t_a0 16) (show ivh2 a0 16 = iv a0 16 from fl2.i t_a0 rfl 16) (F1.call hX0 fl3 rfl) (fun ri5 ie3 ri6 ie4 ri7 ie5 ri8 ie6 ri9 ie7 ri10 ie8 F2 => ?_)
        refine c_st (st2 := [.int (iI f3)]) rfl ?_
        refine hv13 (show ivh3 a0 11 = ivh2 a0 11 from kp11f3) (show ivh3 a0 12 = ivh2 a0 12 from kp12f3) (show ivh3 a0 13 = ivh2 a0 13 from kp13f3) (show ivh3 a0 14 = ivh2 a0 14 from kp14f3) (show ivh3 a0 15 = ivh2 a0 15 from kp15f3) (show ivh3 a0 16 = ivh2 a0 16 from kp16f3) (show f3 = n from exf3) (show 1 ≤ ivh3 a0 11 ∧ ivh3 a0 11 ≤ 100 from W3.int t_a0 11) (show 1 ≤ ivh3 a0 12 ∧ ivh3 a0 12 ≤ 50 from W3.int t_a0 12) (show (-2147483648) ≤ ivh3 a0 13 ∧ ivh3 a0 13 ≤ 2147483647 from W3.int t_a0 13) (show (-2147483648) ≤ ivh3 a0 14 ∧ ivh3 a0 14 ≤ 2147483647 from W3.int t_a0 14) (show (-2147483648) ≤ ivh3 a0 15 ∧ ivh3 a0 15 ≤ 2147483647 from W3.int t_a0 15) (show (-2147483648) ≤ ivh3 a0 16 ∧ ivh3 a0 16 ≤ 2147483647 from W3.int t_a0 16) (fun gk11f3 gk12f3 gk13f3 gk14f3 gk15f3 gk16f3 gf3 ri11 ri12 ri13 ri14 ri15 ri16 => ?_)
        exact c_iret C dX11_cut_60 rfl (by decide) (rom0 hph hph (by decide)) ⟨f3, rfl, rfl, rfl, rfl, rfl, F2, W3, ⟨by omega, by omega⟩, trivial, (by omega), (by omega), (by omega), (by omega), (by omega), (by omega), (TCH.row hsA hW tsA (PRX.smt gf1).1 gf2.1.1 (by omega) W2 fl3 rfl rfl rfl rfl (fun E hE => CTP.ok gf1 ⟨by omega, by omega⟩ gf2.2 gf2.1.2 (by omega) hE))⟩
      · subst oq1
        refine c_lv (lv2 := [(3, .null), (0, .ref a0), (1, .int (iI i)), (2, .int (iI n))]) [0, 1, 2, 3] rfl ?_
        refine c_st (st2 := []) rfl ?_
        refine c_aload_n (j := 1) (x := a0) C dX11_cut_37 rfl ?_
        refine c_aload_n (j := 1) (x := a0) C dX11_cut_38 rfl ?_
        refine c_getr (k := 9) C ck_12 dX11_cut_39 w2_53 (by decide) t_a0 rfl rfl (by decide) rfl hsA ?_
        refine c_st (st2 := [.ref sA, .ref a0]) rfl ?_
        refine c_iload_n (j := 2) C dX11_cut_42 rfl ?_
        refine d_callV (As := [.int (iI i)]) (rest := [.ref a0]) C hM (C_whyNone (a0 := sA) (i := i) hW hS tsA (by omega) ) dX11_cut_43 kV_X11_292 rfl tsA rfl rfl (by decide) ck_8 rfl (Nat.le_of_ble_eq_true rfl) ⟨(Nat.le_of_ble_eq_true rfl), (Nat.le_of_ble_eq_true rfl)⟩ hph hph (show 0 + 0 = 0 from rfl) (by decide) (fun rh4 Lh4 clh4 lnh4 ivh4 rvh4 h4 => ?_)
        obtain ⟨f4, rfl, rfl, rfl, rfl, rfl, rfl, rgf4, exf4⟩ := h4
        refine c_st (st2 := [.int (iI f4), .ref a0]) rfl ?_
        have gf4 : f4 = 1 ∨ f4 = 2 := exf4
        refine d_callV (As := [.int (iI f4)]) (rest := []) C hM (C_refuse (a0 := a0) (x := f4) hW hS t_a0 (by omega) ) dX11_cut_46 kV_X11_102 rfl t_a0 rfl rfl (by decide) ck_12 rfl (Nat.le_of_ble_eq_true rfl) ⟨(Nat.le_of_ble_eq_true rfl), (Nat.le_of_ble_eq_true rfl)⟩ hph hph (show 0 + 0 = 0 from rfl) (by decide) (fun rh5 Lh5 clh5 lnh5 ivh5 rvh5 h5 => ?_)
        obtain ⟨f5, rfl, rfl, rfl, rfl, rfl, fl5, W5, rgf5, exf5, kp11f5, kp12f5, kp13f5, kp14f5, kp15f5, kp16f5⟩ := h5
        refine hv7 (show 1 ≤ iv a0 11 ∧ iv a0 11 ≤ 100 from hW.int t_a0 11) (show 1 ≤ iv a0 12 ∧ iv a0 12 ≤ 50 from hW.int t_a0 12) (show (-2147483648) ≤ iv a0 13 ∧ iv a0 13 ≤ 2147483647 from hW.int t_a0 13) (show (-2147483648) ≤ iv a0 14 ∧ iv a0 14 ≤ 2147483647 from hW.int t_a0 14) (show (-2147483648) ≤ iv a0 15 ∧ iv a0 15 ≤ 2147483647 from hW.int t_a0 15) (show (-2147483648) ≤ iv a0 16 ∧ iv a0 16 ≤ 2147483647 from hW.int t_a0 16) (hF0.call hX0 fl5 rfl) (fun ri17 ri18 ri19 ri20 ri21 ri22 F3 => ?_)
        refine c_st (st2 := [.int (iI f5)]) rfl ?_
        refine hv13 (show ivh5 a0 11 = iv a0 11 from kp11f5) (show ivh5 a0 12 = iv a0 12 from kp12f5) (show ivh5 a0 13 = iv a0 13 from kp13f5) (show ivh5 a0 14 = iv a0 14 from kp14f5) (show ivh5 a0 15 = iv a0 15 from kp15f5) (show ivh5 a0 16 = iv a0 16 from kp16f5) (show f5 = -1 from exf5) (show 1 ≤ ivh5 a0 11 ∧ ivh5 a0 11 ≤ 100 from W5.int t_a0 11) (show 1 ≤ ivh5 a0 12 ∧ ivh5 a0 12 ≤ 50 from W5.int t_a0 12) (show (-2147483648) ≤ ivh5 a0 13 ∧ ivh5 a0 13 ≤ 2147483647 from W5.int t_a0 13) (show (-2147483648) ≤ ivh5 a0 14 ∧ ivh5 a0 14 ≤ 2147483647 from W5.int t_a0 14) (show (-2147483648) ≤ ivh5 a0 15 ∧ ivh5 a0 15 ≤ 2147483647 from W5.int t_a0 15) (show (-2147483648) ≤ ivh5 a0 16 ∧ ivh5 a0 16 ≤ 2147483647 from W5.int t_a0 16) (fun gk11f5 gk12f5 gk13f5 gk14f5 gk15f5 gk16f5 gf5 ri23 ri24 ri25 ri26 ri27 ri28 => ?_)
        exact c_iret C dX11_cut_49 rfl (by decide) (rom0 hph hph (by decide)) ⟨f5, rfl, rfl, rfl, rfl, rfl, F3, W5, ⟨by omega, by omega⟩, trivial, (by omega), (by omega), (by omega), (by omega), (by omega), (by omega), (TCH.same hsA hW tsA fl5 rfl rfl rfl rfl (fun E hE => CTP.no (Or.inr gf1) (by omega) hE))⟩
    · refine c_aload_n (j := 0) (x := a0) C dX11_cut_18 rfl ?_
      refine c_iconst C dX11_cut_19 ?_
      refine d_callV (As := [.int (iI 5)]) (rest := []) C hM (C_refuse (a0 := a0) (x := 5) hW hS t_a0 ⟨by decide, by decide⟩ ) dX11_cut_20 kV_X11_102 rfl t_a0 rfl rfl (by decide) ck_12 rfl (Nat.le_of_ble_eq_true rfl) ⟨(Nat.le_of_ble_eq_true rfl), (Nat.le_of_ble_eq_true rfl)⟩ hph hph (show 0 + 0 = 0 from rfl) (by decide) (fun rh6 Lh6 clh6 lnh6 ivh6 rvh6 h6 => ?_)
      obtain ⟨f6, rfl, rfl, rfl, rfl, rfl, fl6, W6, rgf6, exf6, kp11f6, kp12f6, kp13f6, kp14f6, kp15f6, kp16f6⟩ := h6
      refine hv7 (show 1 ≤ iv a0 11 ∧ iv a0 11 ≤ 100 from hW.int t_a0 11) (show 1 ≤ iv a0 12 ∧ iv a0 12 ≤ 50 from hW.int t_a0 12) (show (-2147483648) ≤ iv a0 13 ∧ iv a0 13 ≤ 2147483647 from hW.int t_a0 13) (show (-2147483648) ≤ iv a0 14 ∧ iv a0 14 ≤ 2147483647 from hW.int t_a0 14) (show (-2147483648) ≤ iv a0 15 ∧ iv a0 15 ≤ 2147483647 from hW.int t_a0 15) (show (-2147483648) ≤ iv a0 16 ∧ iv a0 16 ≤ 2147483647 from hW.int t_a0 16) (hF0.call hX0 fl6 rfl) (fun ri29 ri30 ri31 ri32 ri33 ri34 F4 => ?_)
      refine c_st (st2 := [.int (iI f6)]) rfl ?_
      refine hv13 (show ivh6 a0 11 = iv a0 11 from kp11f6) (show ivh6 a0 12 = iv a0 12 from kp12f6) (show ivh6 a0 13 = iv a0 13 from kp13f6) (show ivh6 a0 14 = iv a0 14 from kp14f6) (show ivh6 a0 15 = iv a0 15 from kp15f6) (show ivh6 a0 16 = iv a0 16 from kp16f6) (show f6 = -1 from exf6) (show 1 ≤ ivh6 a0 11 ∧ ivh6 a0 11 ≤ 100 from W6.int t_a0 11) (show 1 ≤ ivh6 a0 12 ∧ ivh6 a0 12 ≤ 50 from W6.int t_a0 12) (show (-2147483648) ≤ ivh6 a0 13 ∧ ivh6 a0 13 ≤ 2147483647 from W6.int t_a0 13) (show (-2147483648) ≤ ivh6 a0 14 ∧ ivh6 a0 14 ≤ 2147483647 from W6.int t_a0 14) (show (-2147483648) ≤ ivh6 a0 15 ∧ ivh6 a0 15 ≤ 2147483647 from W6.int t_a0 15) (show (-2147483648) ≤ ivh6 a0 16 ∧ ivh6 a0 16 ≤ 2147483647 from W6.int t_a0 16) (fun gk11f6 gk12f6 gk13f6 gk14f6 gk15f6 gk16f6 gf6 ri35 ri36 ri37 ri38 ri39 ri40 => ?_)
      exact c_iret C dX11_cut_23 rfl (by decide) (rom0 hph hph (by decide)) ⟨f6, rfl, rfl, rfl, rfl, rfl, F4, W6, ⟨by omega, by omega⟩, trivial, (by omega), (by omega), (by omega), (by omega), (by omega), (by omega), (TCH.same hsA hW tsA fl6 rfl rfl rfl rfl (fun E hE => CTP.no (Or.inl (by omega)) (by omega) hE))⟩
  · refine c_aload_n (j := 0) (x := a0) C dX11_cut_7 rfl ?_
    refine c_bipush (z := 6) C dX11_cut_8 (by decide) ?_
    refine d_callV (As := [.int (iI 6)]) (rest := []) C hM (C_refuse (a0 := a0) (x := 6) hW hS t_a0 ⟨by decide, by decide⟩ ) dX11_cut_10 kV_X11_102 rfl t_a0 rfl rfl (by decide) ck_12 rfl (Nat.le_of_ble_eq_true rfl) ⟨(Nat.le_of_ble_eq_true rfl), (Nat.le_of_ble_eq_true rfl)⟩ hph hph (show 0 + 0 = 0 from rfl) (by decide) (fun rh7 Lh7 clh7 lnh7 ivh7 rvh7 h7 => ?_)
    obtain ⟨f7, rfl, rfl, rfl, rfl, rfl, fl7, W7, rgf7, exf7, kp11f7, kp12f7, kp13f7, kp14f7, kp15f7, kp16f7⟩ := h7
    refine hv7 (show 1 ≤ iv a0 11 ∧ iv a0 11 ≤ 100 from hW.int t_a0 11) (show 1 ≤ iv a0 12 ∧ iv a0 12 ≤ 50 from hW.int t_a0 12) (show (-2147483648) ≤ iv a0 13 ∧ iv a0 13 ≤ 2147483647 from hW.int t_a0 13) (show (-2147483648) ≤ iv a0 14 ∧ iv a0 14 ≤ 2147483647 from hW.int t_a0 14) (show (-2147483648) ≤ iv a0 15 ∧ iv a0 15 ≤ 2147483647 from hW.int t_a0 15) (show (-2147483648) ≤ iv a0 16 ∧ iv a0 16 ≤ 2147483647 from hW.int t_a0 16) (hF0.call hX0 fl7 rfl) (fun ri41 ri42 ri43 ri44 ri45 ri46 F5 => ?_)
    refine c_st (st2 := [.int (iI f7)]) rfl ?_
    refine hv13 (show ivh7 a0 11 = iv a0 11 from kp11f7) (show ivh7 a0 12 = iv a0 12 from kp12f7) (show ivh7 a0 13 = iv a0 13 from kp13f7) (show ivh7 a0 14 = iv a0 14 from kp14f7) (show ivh7 a0 15 = iv a0 15 from kp15f7) (show ivh7 a0 16 = iv a0 16 from kp16f7) (show f7 = -1 from exf7) (show 1 ≤ ivh7 a0 11 ∧ ivh7 a0 11 ≤ 100 from W7.int t_a0 11) (show 1 ≤ ivh7 a0 12 ∧ ivh7 a0 12 ≤ 50 from W7.int t_a0 12) (show (-2147483648) ≤ ivh7 a0 13 ∧ ivh7 a0 13 ≤ 2147483647 from W7.int t_a0 13) (show (-2147483648) ≤ ivh7 a0 14 ∧ ivh7 a0 14 ≤ 2147483647 from W7.int t_a0 14) (show (-2147483648) ≤ ivh7 a0 15 ∧ ivh7 a0 15 ≤ 2147483647 from W7.int t_a0 15) (show (-2147483648) ≤ ivh7 a0 16 ∧ ivh7 a0 16 ≤ 2147483647 from W7.int t_a0 16) (fun gk11f7 gk12f7 gk13f7 gk14f7 gk15f7 gk16f7 gf7 ri47 ri48 ri49 ri50 ri51 ri52 => ?_)
    exact c_iret C dX11_cut_13 rfl (by decide) (rom0 hph hph (by decide)) ⟨f7, rfl, rfl, rfl, rfl, rfl, F5, W7, ⟨by omega, by omega⟩, trivial, (by omega), (by omega), (by omega), (by omega), (by omega), (by omega), (TCH.same hsA hW tsA fl7 rfl rfl rfl rfl (fun E hE => CTP.no (Or.inl (by omega)) (by omega) hE))⟩
set_option maxHeartbeats 4000000 in
set_option maxRecDepth 100000 in
theorem G_hasCells {l : Launch} {G : GT} {mi : Nat} {sk : Nat → Nat} {L : List Nat} {cl ln : Nat → Nat} {iv : Nat → Nat → Int} {rv : Nat → Nat → Option Nat}  {a0 : Nat} {i : Int} {n : Int} (hW : WT (g0 G) sk L cl ln iv rv) (hS : SKL sk L cl) (t_a0 : ty L cl a0 19) (h_i : -2147483648 ≤ i ∧ i ≤ 2147483647) (h_n : -2147483648 ≤ n ∧ n ≤ 2147483647)  : Mc l G mi (Phi (g0 G) sk) PHM yX2_hasCells cX2_hasCells 3 (some .boolean) 0 [.ref a0, .int (iI i), .int (iI n)] L cl ln iv rv 0 (fun v L2 cl2 ln2 iv2 rv2 => ∃ f : Int, v = some (.int (iI f)) ∧ L = L2 ∧ cl = cl2 ∧ ln = ln2 ∧ iv = iv2 ∧ rv = rv2 ∧ (f = 0 ∨ f = 1) ∧ ((f = 1 ∧ 0 ≤ n ∧ 0 ≤ i ∧ i + n ≤ iv a0 1) ∨ (f = 0 ∧ ¬ (0 ≤ n ∧ 0 ≤ i ∧ i + n ≤ iv a0 1)))) := by
  refine Mc.mk (by decide) (Nat.le_of_ble_eq_true rfl) ?_
  intro p e s m args below meth c A C hM
  refine hv3 (Phi.le hW hS) (show XT L cl ln L cl ln from XT.refl) (show fT [] L cl iv rv iv rv from fT.refl) (fun hph hX0 hF0 => ?_)
  refine c_iload_n (j := 2) C dX2_hasCells_0 rfl ?_
  refine c_if_lt (tgt := 30) C ⟨by omega, by omega⟩ dX2_hasCells_1 (by decide) (fun c1 => ?_) (fun c1 => ?_)
  · refine c_iconst C dX2_hasCells_30 ?_
    have ri1 : 0 ≤ iv a0 1 ∧ iv a0 1 ≤ 200 := hW.int t_a0 1
    exact c_zret C dX2_hasCells_31 rfl (Or.inl rfl) (by decide) (rom0 hph hph (by decide)) ⟨0, rfl, rfl, rfl, rfl, rfl, rfl, (Or.inl rfl), (by omega)⟩
  · refine c_iload_n (j := 1) C dX2_hasCells_4 rfl ?_
    refine c_if_lt (tgt := 30) C ⟨by omega, by omega⟩ dX2_hasCells_5 (by decide) (fun c2 => ?_) (fun c2 => ?_)
    · refine c_iconst C dX2_hasCells_30 ?_
      have ri2 : 0 ≤ iv a0 1 ∧ iv a0 1 ≤ 200 := hW.int t_a0 1
      exact c_zret C dX2_hasCells_31 rfl (Or.inl rfl) (by decide) (rom0 hph hph (by decide)) ⟨0, rfl, rfl, rfl, rfl, rfl, rfl, (Or.inl rfl), (by omega)⟩
    · refine c_iload_n (j := 1) C dX2_hasCells_8 rfl ?_
      refine c_aload_n (j := 0) (x := a0) C dX2_hasCells_9 rfl ?_
      have ri3 : 0 ≤ iv a0 1 ∧ iv a0 1 ≤ 200 := hW.int t_a0 1
      refine c_get (k := 1) C ck_3 dX2_hasCells_10 w4_49 (by decide) t_a0 rfl rfl (by decide) rfl ?_
      refine c_icmp_gt (tgt := 30) C ⟨by omega, by omega⟩ (r32_c (lo := 0) (hi := 200) ri3.1 ri3.2 (by decide) (by decide)) dX2_hasCells_13 (by decide) (fun c3 => ?_) (fun c3 => ?_)
      · refine c_iconst C dX2_hasCells_30 ?_
        exact c_zret C dX2_hasCells_31 rfl (Or.inl rfl) (by decide) (rom0 hph hph (by decide)) ⟨0, rfl, rfl, rfl, rfl, rfl, rfl, (Or.inl rfl), (by omega)⟩
      · refine c_iload_n (j := 2) C dX2_hasCells_16 rfl ?_
        refine c_aload_n (j := 0) (x := a0) C dX2_hasCells_17 rfl ?_
        refine c_get (k := 1) C ck_3 dX2_hasCells_18 w4_49 (by decide) t_a0 rfl rfl (by decide) rfl ?_
        refine c_iload_n (j := 1) C dX2_hasCells_21 rfl ?_
        refine c_isub C dX2_hasCells_22 ?_
        refine c_icmp_gt (tgt := 30) C ⟨by omega, by omega⟩ ⟨by omega, by omega⟩ dX2_hasCells_23 (by decide) (fun c4 => ?_) (fun c4 => ?_)
        · refine c_iconst C dX2_hasCells_30 ?_
          exact c_zret C dX2_hasCells_31 rfl (Or.inl rfl) (by decide) (rom0 hph hph (by decide)) ⟨0, rfl, rfl, rfl, rfl, rfl, rfl, (Or.inl rfl), (by omega)⟩
        · refine c_iconst C dX2_hasCells_26 ?_
          refine c_goto (tgt := 31) C dX2_hasCells_27 (by decide) ?_
          exact c_zret C dX2_hasCells_31 rfl (Or.inr rfl) (by decide) (rom0 hph hph (by decide)) ⟨1, rfl, rfl, rfl, rfl, rfl, rfl, (Or.inr rfl), (by omega)⟩
set_option maxHeartbeats 4000000 in
set_option maxRecDepth 100000 in
theorem G_copyRow {l : Launch} {G : GT} {mi : Nat} {sk : Nat → Nat} {L : List Nat} {cl ln : Nat → Nat} {iv : Nat → Nat → Int} {rv : Nat → Nat → Option Nat}  {a0 : Nat} {i : Int} {i2 : Int} {j : Int} {j2 : Int} {n : Int} (hW : WT (g0 G) sk L cl ln iv rv) (hS : SKL sk L cl) (t_a0 : ty L cl a0 1) (h_i : -2147483648 ≤ i ∧ i ≤ 2147483647) (h_i2 : -2147483648 ≤ i2 ∧ i2 ≤ 2147483647) (h_j : -2147483648 ≤ j ∧ j ≤ 2147483647) (h_j2 : -2147483648 ≤ j2 ∧ j2 ≤ 2147483647) (h_n : -2147483648 ≤ n ∧ n ≤ 2147483647)  : Mc l G mi (Phi (g0 G) sk) PHM yX11_copyRow cX11_copyRow 8 (some .int) 1 [.ref a0, .int (iI i), .int (iI i2), .int (iI j), .int (iI j2), .int (iI n)] L cl ln iv rv 0 (fun v L2 cl2 ln2 iv2 rv2 => ∃ f : Int, v = some (.int (iI f)) ∧ L = L2 ∧ cl = cl2 ∧ ln = ln2 ∧ rv = rv2 ∧ fT [1, 64] L cl iv rv iv2 rv2 ∧ WT (g0 G) sk L2 cl2 ln2 iv2 rv2 ∧ (-2147483648 ≤ f ∧ f ≤ 2147483647) ∧ (True) ∧ iv2 a0 11 = iv a0 11 ∧ iv2 a0 12 = iv a0 12 ∧ iv2 a0 13 = iv a0 13 ∧ iv2 a0 14 = iv a0 14 ∧ iv2 a0 15 = iv a0 15 ∧ iv2 a0 16 = iv a0 16 ∧ (TCH iv rv iv2 a0 (fun E E2 => CPRX E i i2 j j2 n f E2))) := by
  refine Mc.mk (by decide) (Nat.le_of_ble_eq_true rfl) ?_
  intro p e s m args below meth c A C hM
  refine hv3 (Phi.le hW hS) (show XT L cl ln L cl ln from XT.refl) (show fT [1, 64] L cl iv rv iv rv from fT.refl) (fun hph hX0 hF0 => ?_)
  obtain ⟨sA, hsA, tsA⟩ := hW.ref t_a0 9 rfl rfl rfl
  have ri1 : 0 ≤ iv sA 1 ∧ iv sA 1 ≤ 200 := hW.int tsA 1
  refine c_aload_n (j := 0) (x := a0) C dX11_copyRow_0 rfl ?_
  refine c_getr (k := 9) C ck_12 dX11_copyRow_1 w2_53 (by decide) t_a0 rfl rfl (by decide) rfl hsA ?_
  refine c_st (st2 := [.ref sA]) rfl ?_
  refine c_iload_n (j := 1) C dX11_copyRow_4 rfl ?_
  refine d_callV (As := [.int (iI i)]) (rest := []) C hM (G_sat (a0 := sA) (i := i) hW hS tsA (by omega) ) dX11_copyRow_5 kV_X11_308 rfl tsA rfl rfl (by decide) ck_8 rfl (Nat.le_of_ble_eq_true rfl) ⟨(Nat.le_of_ble_eq_true rfl), (Nat.le_of_ble_eq_true rfl)⟩ hph hph (show 0 + 0 = 0 from rfl) (by decide) (fun rh1 Lh1 clh1 lnh1 ivh1 rvh1 h1 => ?_)
  obtain ⟨f1, rfl, rfl, rfl, rfl, rfl, rfl, rgf1, exf1⟩ := h1
  refine c_st (st2 := [(va_rf f1)]) rfl ?_
  have gf1 : SATX iv rv sA i f1 := exf1
  refine c_astorer (r := f1) (lv2 := [(6, (va_rf f1)), (0, .ref a0), (1, .int (iI i)), (2, .int (iI i2)), (3, .int (iI j)), (4, .int (iI j2)), (5, .int (iI n))]) C dX11_copyRow_8 (by decide) rfl ?_
  refine c_aload_n (j := 1) (x := a0) C dX11_copyRow_10 rfl ?_
  refine c_getr (k := 9) C ck_12 dX11_copyRow_11 w2_53 (by decide) t_a0 rfl rfl (by decide) rfl hsA ?_
  refine c_st (st2 := [.ref sA]) rfl ?_
  refine c_iload_n (j := 4) C dX11_copyRow_14 rfl ?_
  refine d_callV (As := [.int (iI j)]) (rest := []) C hM (G_sat (a0 := sA) (i := j) hW hS tsA (by omega) ) dX11_copyRow_15 kV_X11_308 rfl tsA rfl rfl (by decide) ck_8 rfl (Nat.le_of_ble_eq_true rfl) ⟨(Nat.le_of_ble_eq_true rfl), (Nat.le_of_ble_eq_true rfl)⟩ hph hph (show 0 + 0 = 0 from rfl) (by decide) (fun rh2 Lh2 clh2 lnh2 ivh2 rvh2 h2 => ?_)
  obtain ⟨f2, rfl, rfl, rfl, rfl, rfl, rfl, rgf2, exf2⟩ := h2
  refine c_st (st2 := [(va_rf f2)]) rfl ?_
  have gf2 : SATX iv rv sA j f2 := exf2
  refine c_astorer (r := f2) (lv2 := [(7, (va_rf f2)), (6, (va_rf f1)), (0, .ref a0), (1, .int (iI i)), (2, .int (iI i2)), (3, .int (iI j)), (4, .int (iI j2)), (5, .int (iI n))]) C dX11_copyRow_18 (by decide) (by cases f1 <;> rfl) ?_
  refine c_aloadr (j := 1) (r := f1) C dX11_copyRow_20 rfl ?_
  refine c_ifnull (r := f1) (tgt := 30) C dX11_copyRow_22 (by decide) (fun oq1 => ?_) (fun ob1 oq1 => ?_)
  · subst oq1
    refine c_lv (lv2 := [(7, (va_rf f2)), (6, .null), (0, .ref a0), (1, .int (iI i)), (2, .int (iI i2)), (3, .int (iI j)), (4, .int (iI j2)), (5, .int (iI n))]) [0, 1, 2, 3, 4, 5, 6, 7] rfl ?_
    refine c_st (st2 := []) rfl ?_
    refine c_aload_n (j := 2) (x := a0) C dX11_copyRow_30 rfl ?_
    refine c_iconst C dX11_copyRow_31 ?_
    refine d_callV (As := [.int (iI 2)]) (rest := []) C hM (C_refuse (a0 := a0) (x := 2) hW hS t_a0 ⟨by decide, by decide⟩ ) dX11_copyRow_32 kV_X11_102 rfl t_a0 rfl rfl (by decide) ck_12 rfl (Nat.le_of_ble_eq_true rfl) ⟨(Nat.le_of_ble_eq_true rfl), (Nat.le_of_ble_eq_true rfl)⟩ hph hph (show 0 + 0 = 0 from rfl) (by decide) (fun rh3 Lh3 clh3 lnh3 ivh3 rvh3 h3 => ?_)
    obtain ⟨f3, rfl, rfl, rfl, rfl, rfl, fl3, W3, rgf3, exf3, kp11f3, kp12f3, kp13f3, kp14f3, kp15f3, kp16f3⟩ := h3
    refine hv7 (show 1 ≤ iv a0 11 ∧ iv a0 11 ≤ 100 from hW.int t_a0 11) (show 1 ≤ iv a0 12 ∧ iv a0 12 ≤ 50 from hW.int t_a0 12) (show (-2147483648) ≤ iv a0 13 ∧ iv a0 13 ≤ 2147483647 from hW.int t_a0 13) (show (-2147483648) ≤ iv a0 14 ∧ iv a0 14 ≤ 2147483647 from hW.int t_a0 14) (show (-2147483648) ≤ iv a0 15 ∧ iv a0 15 ≤ 2147483647 from hW.int t_a0 15) (show (-2147483648) ≤ iv a0 16 ∧ iv a0 16 ≤ 2147483647 from hW.int t_a0 16) (hF0.call hX0 fl3 rfl) (fun ri2 ri3 ri4 ri5 ri6 ri7 F1 => ?_)
    refine c_st (st2 := [.int (iI f3)]) rfl ?_
    refine hv13 (show ivh3 a0 11 = iv a0 11 from kp11f3) (show ivh3 a0 12 = iv a0 12 from kp12f3) (show ivh3 a0 13 = iv a0 13 from kp13f3) (show ivh3 a0 14 = iv a0 14 from kp14f3) (show ivh3 a0 15 = iv a0 15 from kp15f3) (show ivh3 a0 16 = iv a0 16 from kp16f3) (show f3 = -1 from exf3) (show 1 ≤ ivh3 a0 11 ∧ ivh3 a0 11 ≤ 100 from W3.int t_a0 11) (show 1 ≤ ivh3 a0 12 ∧ ivh3 a0 12 ≤ 50 from W3.int t_a0 12) (show (-2147483648) ≤ ivh3 a0 13 ∧ ivh3 a0 13 ≤ 2147483647 from W3.int t_a0 13) (show (-2147483648) ≤ ivh3 a0 14 ∧ ivh3 a0 14 ≤ 2147483647 from W3.int t_a0 14) (show (-2147483648) ≤ ivh3 a0 15 ∧ ivh3 a0 15 ≤ 2147483647 from W3.int t_a0 15) (show (-2147483648) ≤ ivh3 a0 16 ∧ ivh3 a0 16 ≤ 2147483647 from W3.int t_a0 16) (fun gk11f3 gk12f3 gk13f3 gk14f3 gk15f3 gk16f3 gf3 ri8 ri9 ri10 ri11 ri12 ri13 => ?_)
    exact c_iret C dX11_copyRow_35 rfl (by decide) (rom0 hph hph (by decide)) ⟨f3, rfl, rfl, rfl, rfl, rfl, F1, W3, ⟨by omega, by omega⟩, trivial, (by omega), (by omega), (by omega), (by omega), (by omega), (by omega), (TCH.same hsA hW tsA fl3 rfl rfl rfl rfl (fun E hE => CRP.no (Or.inl gf1) (by omega) hE))⟩
  · subst oq1
    have tob1 := rgf1 ob1 rfl
    refine c_lv (lv2 := [(7, (va_rf f2)), (6, .ref ob1), (0, .ref a0), (1, .int (iI i)), (2, .int (iI i2)), (3, .int (iI j)), (4, .int (iI j2)), (5, .int (iI n))]) [0, 1, 2, 3, 4, 5, 6, 7] rfl ?_
    refine c_st (st2 := []) rfl ?_
    refine c_aloadr (j := 0) (r := f2) C dX11_copyRow_25 rfl ?_
    refine c_ifnonnull (r := f2) (tgt := 36) C dX11_copyRow_27 (by decide) (fun ob2 oq2 => ?_) (fun oq2 => ?_)
    · subst oq2
      have tob2 := rgf2 ob2 rfl
      refine c_lv (lv2 := [(7, .ref ob2), (6, .ref ob1), (0, .ref a0), (1, .int (iI i)), (2, .int (iI i2)), (3, .int (iI j)), (4, .int (iI j2)), (5, .int (iI n))]) [0, 1, 2, 3, 4, 5, 6, 7] rfl ?_
      refine c_st (st2 := []) rfl ?_
      refine hv4 (show 0 ≤ iv ob1 1 ∧ iv ob1 1 ≤ 200 from hW.int tob1 1) (show 0 ≤ iv ob1 2 ∧ iv ob1 2 ≤ 1 from hW.int tob1 2) (show 0 ≤ iv ob2 1 ∧ iv ob2 1 ≤ 200 from hW.int tob2 1) (show 0 ≤ iv ob2 2 ∧ iv ob2 2 ≤ 1 from hW.int tob2 2) (fun ri14 ri15 ri16 ri17 => ?_)
      refine c_aload (j := 1) (x := ob1) C dX11_copyRow_36 rfl ?_
      refine c_get (k := 2) C ck_3 dX11_copyRow_38 w4_56 (by decide) tob1 rfl rfl (by decide) rfl ?_
      refine c_if_ne (tgt := 52) C (r32_c (lo := 0) (hi := 1) ri15.1 ri15.2 (by decide) (by decide)) dX11_copyRow_41 (by decide) (fun c1 => ?_) (fun c1 => ?_)
      · refine c_aload_n (j := 2) (x := a0) C dX11_copyRow_52 rfl ?_
        refine c_iconst C dX11_copyRow_53 ?_
        refine d_callV (As := [.int (iI 1)]) (rest := []) C hM (C_refuse (a0 := a0) (x := 1) hW hS t_a0 ⟨by decide, by decide⟩ ) dX11_copyRow_54 kV_X11_102 rfl t_a0 rfl rfl (by decide) ck_12 rfl (Nat.le_of_ble_eq_true rfl) ⟨(Nat.le_of_ble_eq_true rfl), (Nat.le_of_ble_eq_true rfl)⟩ hph hph (show 0 + 0 = 0 from rfl) (by decide) (fun rh4 Lh4 clh4 lnh4 ivh4 rvh4 h4 => ?_)
        obtain ⟨f4, rfl, rfl, rfl, rfl, rfl, fl4, W4, rgf4, exf4, kp11f4, kp12f4, kp13f4, kp14f4, kp15f4, kp16f4⟩ := h4
        refine hv7 (show 1 ≤ iv a0 11 ∧ iv a0 11 ≤ 100 from hW.int t_a0 11) (show 1 ≤ iv a0 12 ∧ iv a0 12 ≤ 50 from hW.int t_a0 12) (show (-2147483648) ≤ iv a0 13 ∧ iv a0 13 ≤ 2147483647 from hW.int t_a0 13) (show (-2147483648) ≤ iv a0 14 ∧ iv a0 14 ≤ 2147483647 from hW.int t_a0 14) (show (-2147483648) ≤ iv a0 15 ∧ iv a0 15 ≤ 2147483647 from hW.int t_a0 15) (show (-2147483648) ≤ iv a0 16 ∧ iv a0 16 ≤ 2147483647 from hW.int t_a0 16) (hF0.call hX0 fl4 rfl) (fun ri18 ri19 ri20 ri21 ri22 ri23 F2 => ?_)
        refine c_st (st2 := [.int (iI f4)]) rfl ?_
        refine hv13 (show ivh4 a0 11 = iv a0 11 from kp11f4) (show ivh4 a0 12 = iv a0 12 from kp12f4) (show ivh4 a0 13 = iv a0 13 from kp13f4) (show ivh4 a0 14 = iv a0 14 from kp14f4) (show ivh4 a0 15 = iv a0 15 from kp15f4) (show ivh4 a0 16 = iv a0 16 from kp16f4) (show f4 = -1 from exf4) (show 1 ≤ ivh4 a0 11 ∧ ivh4 a0 11 ≤ 100 from W4.int t_a0 11) (show 1 ≤ ivh4 a0 12 ∧ ivh4 a0 12 ≤ 50 from W4.int t_a0 12) (show (-2147483648) ≤ ivh4 a0 13 ∧ ivh4 a0 13 ≤ 2147483647 from W4.int t_a0 13) (show (-2147483648) ≤ ivh4 a0 14 ∧ ivh4 a0 14 ≤ 2147483647 from W4.int t_a0 14) (show (-2147483648) ≤ ivh4 a0 15 ∧ ivh4 a0 15 ≤ 2147483647 from W4.int t_a0 15) (show (-2147483648) ≤ ivh4 a0 16 ∧ ivh4 a0 16 ≤ 2147483647 from W4.int t_a0 16) (fun gk11f4 gk12f4 gk13f4 gk14f4 gk15f4 gk16f4 gf4 ri24 ri25 ri26 ri27 ri28 ri29 => ?_)
        exact c_iret C dX11_copyRow_57 rfl (by decide) (rom0 hph hph (by decide)) ⟨f4, rfl, rfl, rfl, rfl, rfl, F2, W4, ⟨by omega, by omega⟩, trivial, (by omega), (by omega), (by omega), (by omega), (by omega), (by omega), (TCH.same hsA hW tsA fl4 rfl rfl rfl rfl (fun E hE => CRP.lck gf1 gf2 (by omega) (by omega) hE))⟩
      · refine c_aload (j := 0) (x := ob2) C dX11_copyRow_44 rfl ?_
        refine c_get (k := 2) C ck_3 dX11_copyRow_46 w4_56 (by decide) tob2 rfl rfl (by decide) rfl ?_
        refine c_if_eq (tgt := 58) C (r32_c (lo := 0) (hi := 1) ri17.1 ri17.2 (by decide) (by decide)) dX11_copyRow_49 (by decide) (fun c2 => ?_) (fun c2 => ?_)
        · refine c_aload (j := 1) (x := ob1) C dX11_copyRow_58 rfl ?_
          refine c_iload_n (j := 4) C dX11_copyRow_60 rfl ?_
          refine c_iload (j := 7) C dX11_copyRow_61 rfl ?_
          refine d_callV (As := [.int (iI i2), .int (iI n)]) (rest := []) C hM (G_hasCells (a0 := ob1) (i := i2) (n := n) hW hS tob1 (by omega) (by omega) ) dX11_copyRow_63 kV_X11_313 rfl tob1 rfl rfl (by decide) ck_3 rfl (Nat.le_of_ble_eq_true rfl) ⟨(Nat.le_of_ble_eq_true rfl), (Nat.le_of_ble_eq_true rfl)⟩ hph hph (show 0 + 0 = 0 from rfl) (by decide) (fun rh5 Lh5 clh5 lnh5 ivh5 rvh5 h5 => ?_)
          obtain ⟨f5, rfl, rfl, rfl, rfl, rfl, rfl, rgf5, exf5⟩ := h5
          refine c_st (st2 := [.int (iI f5)]) rfl ?_
          have gf5 : (f5 = 1 ∧ 0 ≤ n ∧ 0 ≤ i2 ∧ i2 + n ≤ iv ob1 1) ∨ (f5 = 0 ∧ ¬ (0 ≤ n ∧ 0 ≤ i2 ∧ i2 + n ≤ iv ob1 1)) := exf5
          refine c_if_eq (tgt := 81) C (r32_qp gf5) dX11_copyRow_66 (by decide) (fun c3 => ?_) (fun c3 => ?_)
          · replace gf5 := (gf5.resolve_left (fun q => absurd (q.1.symm.trans c3) (by decide)))
            refine c_aload_n (j := 2) (x := a0) C dX11_copyRow_81 rfl ?_
            refine c_iconst C dX11_copyRow_82 ?_
            refine d_callV (As := [.int (iI 2)]) (rest := []) C hM (C_refuse (a0 := a0) (x := 2) hW hS t_a0 ⟨by decide, by decide⟩ ) dX11_copyRow_83 kV_X11_102 rfl t_a0 rfl rfl (by decide) ck_12 rfl (Nat.le_of_ble_eq_true rfl) ⟨(Nat.le_of_ble_eq_true rfl), (Nat.le_of_ble_eq_true rfl)⟩ hph hph (show 0 + 0 = 0 from rfl) (by decide) (fun rh6 Lh6 clh6 lnh6 ivh6 rvh6 h6 => ?_)
            obtain ⟨f6, rfl, rfl, rfl, rfl, rfl, fl6, W6, rgf6, exf6, kp11f6, kp12f6, kp13f6, kp14f6, kp15f6, kp16f6⟩ := h6
            refine hv7 (show 1 ≤ iv a0 11 ∧ iv a0 11 ≤ 100 from hW.int t_a0 11) (show 1 ≤ iv a0 12 ∧ iv a0 12 ≤ 50 from hW.int t_a0 12) (show (-2147483648) ≤ iv a0 13 ∧ iv a0 13 ≤ 2147483647 from hW.int t_a0 13) (show (-2147483648) ≤ iv a0 14 ∧ iv a0 14 ≤ 2147483647 from hW.int t_a0 14) (show (-2147483648) ≤ iv a0 15 ∧ iv a0 15 ≤ 2147483647 from hW.int t_a0 15) (show (-2147483648) ≤ iv a0 16 ∧ iv a0 16 ≤ 2147483647 from hW.int t_a0 16) (hF0.call hX0 fl6 rfl) (fun ri30 ri31 ri32 ri33 ri34 ri35 F3 => ?_)
            refine c_st (st2 := [.int (iI f6)]) rfl ?_
            refine hv13 (show ivh6 a0 11 = iv a0 11 from kp11f6) (show ivh6 a0 12 = iv a0 12 from kp12f6) (show ivh6 a0 13 = iv a0 13 from kp13f6) (show ivh6 a0 14 = iv a0 14 from kp14f6) (show ivh6 a0 15 = iv a0 15 from kp15f6) (show ivh6 a0 16 = iv a0 16 from kp16f6) (show f6 = -1 from exf6) (show 1 ≤ ivh6 a0 11 ∧ ivh6 a0 11 ≤ 100 from W6.int t_a0 11) (show 1 ≤ ivh6 a0 12 ∧ ivh6 a0 12 ≤ 50 from W6.int t_a0 12) (show (-2147483648) ≤ ivh6 a0 13 ∧ ivh6 a0 13 ≤ 2147483647 from W6.int t_a0 13) (show (-2147483648) ≤ ivh6 a0 14 ∧ ivh6 a0 14 ≤ 2147483647 from W6.int t_a0 14) (show (-2147483648) ≤ ivh6 a0 15 ∧ ivh6 a0 15 ≤ 2147483647 from W6.int t_a0 15) (show (-2147483648) ≤ ivh6 a0 16 ∧ ivh6 a0 16 ≤ 2147483647 from W6.int t_a0 16) (fun gk11f6 gk12f6 gk13f6 gk14f6 gk15f6 gk16f6 gf6 ri36 ri37 ri38 ri39 ri40 ri41 => ?_)
            exact c_iret C dX11_copyRow_86 rfl (by decide) (rom0 hph hph (by decide)) ⟨f6, rfl, rfl, rfl, rfl, rfl, F3, W6, ⟨by omega, by omega⟩, trivial, (by omega), (by omega), (by omega), (by omega), (by omega), (by omega), (TCH.same hsA hW tsA fl6 rfl rfl rfl rfl (fun E hE => CRP.out gf1 gf2 (by omega) (by omega) (by omega) (by omega) hE))⟩
          · replace gf5 := (gf5.resolve_right (fun q => c3 q.1))
            refine c_aload (j := 0) (x := ob2) C dX11_copyRow_69 rfl ?_
            refine c_iload (j := 6) C dX11_copyRow_71 rfl ?_
            refine c_iload (j := 7) C dX11_copyRow_73 rfl ?_
            refine d_callV (As := [.int (iI j2), .int (iI n)]) (rest := []) C hM (G_hasCells (a0 := ob2) (i := j2) (n := n) hW hS tob2 (by omega) (by omega) ) dX11_copyRow_75 kV_X11_313 rfl tob2 rfl rfl (by decide) ck_3 rfl (Nat.le_of_ble_eq_true rfl) ⟨(Nat.le_of_ble_eq_true rfl), (Nat.le_of_ble_eq_true rfl)⟩ hph hph (show 0 + 0 = 0 from rfl) (by decide) (fun rh7 Lh7 clh7 lnh7 ivh7 rvh7 h7 => ?_)
            obtain ⟨f7, rfl, rfl, rfl, rfl, rfl, rfl, rgf7, exf7⟩ := h7
            refine c_st (st2 := [.int (iI f7)]) rfl ?_
            have gf7 : (f7 = 1 ∧ 0 ≤ n ∧ 0 ≤ j2 ∧ j2 + n ≤ iv ob2 1) ∨ (f7 = 0 ∧ ¬ (0 ≤ n ∧ 0 ≤ j2 ∧ j2 + n ≤ iv ob2 1)) := exf7
            refine c_if_ne (tgt := 87) C (r32_qp gf7) dX11_copyRow_78 (by decide) (fun c4 => ?_) (fun c4 => ?_)
            · replace gf7 := (gf7.resolve_right (fun q => c4 q.1))
              refine c_aload (j := 1) (x := ob1) C dX11_copyRow_87 rfl ?_
              obtain ⟨rb1, rq1, trb1⟩ := hW.ref tob1 0 rfl rfl rfl
              have lnrb1 : 200 ≤ ln rb1 ∧ ln rb1 ≤ 200 := hW.len trb1 rfl
              refine c_getr (k := 0) C ck_3 dX11_copyRow_89 w4_48 (by decide) tob1 rfl rfl (by decide) rfl rq1 ?_
              refine c_st (st2 := [.ref rb1]) rfl ?_
              refine c_iload_n (j := 4) C dX11_copyRow_92 rfl ?_
              refine c_aload (j := 0) (x := ob2) C dX11_copyRow_93 rfl ?_
              obtain ⟨rb2, rq2, trb2⟩ := hW.ref tob2 0 rfl rfl rfl
              have lnrb2 : 200 ≤ ln rb2 ∧ ln rb2 ≤ 200 := hW.len trb2 rfl
              refine c_getr (k := 0) C ck_3 dX11_copyRow_95 w4_48 (by decide) tob2 rfl rfl (by decide) rfl rq2 ?_
              refine c_st (st2 := [.ref rb2, .int (iI i2), .ref rb1]) rfl ?_
              refine c_iload (j := 6) C dX11_copyRow_98 rfl ?_
              refine c_iload (j := 7) C dX11_copyRow_100 rfl ?_
              refine hv2 (show 200 ≤ ln rb1 ∧ ln rb1 ≤ 200 from hW.len trb1 rfl) (show 200 ≤ ln rb2 ∧ ln rb2 ≤ 200 from hW.len trb2 rfl) (fun ll1 ll2 => ?_)
              refine c_copyi (sp := i2) (dp := j2) (n := n) C dX11_copyRow_102 w4_233 w2_133 w2_132 w1_15 trb1 rfl trb2 rfl (by omega) (by omega) (by omega) (by omega) (by omega) (by omega) (by omega) (by decide) (Nat.le_of_ble_eq_true rfl) (fun iv1 pq1 => ?_)
              refine hv3 (hW.copy pq1 trb2 trb1 (fun _ => rfl) (fun _ => rfl) (fun _ => rfl) (fun _ => rfl) rfl) (hF0.copy hX0 pq1 trb2 rfl) (show iv1 sA 1 = iv sA 1 from by rw [pq1]; exact if_neg (ne_ty tsA trb2 (by decide))) (fun W8 F4 ie19 => ?_)
              have ri42 : 0 ≤ iv1 sA 1 ∧ iv1 sA 1 ≤ 200 := W8.int tsA 1
              refine c_aload_n (j := 2) (x := a0) C dX11_copyRow_105 rfl ?_
              refine c_iload (j := 7) C dX11_copyRow_106 rfl ?_
              refine d_callV (As := [.int (iI n)]) (rest := []) C hM (C_done (a0 := a0) (x := n) W8 hS t_a0 (by omega) ) dX11_copyRow_108 kV_X11_109 rfl t_a0 rfl rfl (by decide) ck_12 rfl (Nat.le_of_ble_eq_true rfl) ⟨(Nat.le_of_ble_eq_true rfl), (Nat.le_of_ble_eq_true rfl)⟩ hph hph (show 0 + 0 = 0 from rfl) (by decide) (fun rh8 Lh8 clh8 lnh8 ivh8 rvh8 h8 => ?_)
              obtain ⟨f8, rfl, rfl, rfl, rfl, rfl, fl8, W9, rgf8, exf8, kp11f8, kp12f8, kp13f8, kp14f8, kp15f8, kp16f8⟩ := h8
              refine hv13 (show 1 ≤ iv1 a0 11 ∧ iv1 a0 11 ≤ 100 from W8.int t_a0 11) (show iv1 a0 11 = iv a0 11 from by rw [pq1]; exact if_neg (ne_ty t_a0 trb2 (by decide))) (show 1 ≤ iv1 a0 12 ∧ iv1 a0 12 ≤ 50 from W8.int t_a0 12) (show iv1 a0 12 = iv a0 12 from by rw [pq1]; exact if_neg (ne_ty t_a0 trb2 (by decide))) (show (-2147483648) ≤ iv1 a0 13 ∧ iv1 a0 13 ≤ 2147483647 from W8.int t_a0 13) (show iv1 a0 13 = iv a0 13 from by rw [pq1]; exact if_neg (ne_ty t_a0 trb2 (by decide))) (show (-2147483648) ≤ iv1 a0 14 ∧ iv1 a0 14 ≤ 2147483647 from W8.int t_a0 14) (show iv1 a0 14 = iv a0 14 from by rw [pq1]; exact if_neg (ne_ty t_a0 trb2 (by decide))) (show (-2147483648) ≤ iv1 a0 15 ∧ iv1 a0 15 ≤ 2147483647 from W8.int t_a0 15) (show iv1 a0 15 = iv a0 15 from by rw [pq1]; exact if_neg (ne_ty t_a0 trb2 (by decide))) (show (-2147483648) ≤ iv1 a0 16 ∧ iv1 a0 16 ≤ 2147483647 from W8.int t_a0 16) (show iv1 a0 16 = iv a0 16 from by rw [pq1]; exact if_neg (ne_ty t_a0 trb2 (by decide))) (F4.call hX0 fl8 rfl) (fun ri43 ie20 ri44 ie21 ri45 ie22 ri46 ie23 ri47 ie24 ri48 ie25 F5 => ?_)
              refine c_st (st2 := [.int (iI f8)]) rfl ?_
              refine hv13 (show ivh8 a0 11 = iv1 a0 11 from kp11f8) (show ivh8 a0 12 = iv1 a0 12 from kp12f8) (show ivh8 a0 13 = iv1 a0 13 from kp13f8) (show ivh8 a0 14 = iv1 a0 14 from kp14f8) (show ivh8 a0 15 = iv1 a0 15 from kp15f8) (show ivh8 a0 16 = iv1 a0 16 from kp16f8) (show f8 = n from exf8) (show 1 ≤ ivh8 a0 11 ∧ ivh8 a0 11 ≤ 100 from W9.int t_a0 11) (show 1 ≤ ivh8 a0 12 ∧ ivh8 a0 12 ≤ 50 from W9.int t_a0 12) (show (-2147483648) ≤ ivh8 a0 13 ∧ ivh8 a0 13 ≤ 2147483647 from W9.int t_a0 13) (show (-2147483648) ≤ ivh8 a0 14 ∧ ivh8 a0 14 ≤ 2147483647 from W9.int t_a0 14) (show (-2147483648) ≤ ivh8 a0 15 ∧ ivh8 a0 15 ≤ 2147483647 from W9.int t_a0 15) (show (-2147483648) ≤ ivh8 a0 16 ∧ ivh8 a0 16 ≤ 2147483647 from W9.int t_a0 16) (fun gk11f8 gk12f8 gk13f8 gk14f8 gk15f8 gk16f8 gf8 ri49 ri50 ri51 ri52 ri53 ri54 => ?_)
              exact c_iret C dX11_copyRow_111 rfl (by decide) (rom0 hph hph (by decide)) ⟨f8, rfl, rfl, rfl, rfl, rfl, F5, W9, ⟨by omega, by omega⟩, trivial, (by omega), (by omega), (by omega), (by omega), (by omega), (by omega), (TCH.row hsA hW tsA gf2 (LFR.refl.copy rq2 trb2 pq1) (by omega) W8 fl8 rfl rfl rfl rfl (fun E hE => CRP.ok gf1 gf2 (by omega) (by omega) ⟨by omega, by omega, by omega, by omega, by omega⟩ rq1 rq2 pq1 (ne_ty tob2 trb2 (by decide)) (by omega) hE))⟩
            · replace gf7 := (gf7.resolve_left (fun q => absurd (q.1.symm.trans c4) (by decide)))
              refine c_aload_n (j := 2) (x := a0) C dX11_copyRow_81 rfl ?_
              refine c_iconst C dX11_copyRow_82 ?_
              refine d_callV (As := [.int (iI 2)]) (rest := []) C hM (C_refuse (a0 := a0) (x := 2) hW hS t_a0 ⟨by decide, by decide⟩ ) dX11_copyRow_83 kV_X11_102 rfl t_a0 rfl rfl (by decide) ck_12 rfl (Nat.le_of_ble_eq_true rfl) ⟨(Nat.le_of_ble_eq_true rfl), (Nat.le_of_ble_eq_true rfl)⟩ hph hph (show 0 + 0 = 0 from rfl) (by decide) (fun rh9 Lh9 clh9 lnh9 ivh9 rvh9 h9 => ?_)
              obtain ⟨f9, rfl, rfl, rfl, rfl, rfl, fl9, W10, rgf9, exf9, kp11f9, kp12f9, kp13f9, kp14f9, kp15f9, kp16f9⟩ := h9
              refine hv7 (show 1 ≤ iv a0 11 ∧ iv a0 11 ≤ 100 from hW.int t_a0 11) (show 1 ≤ iv a0 12 ∧ iv a0 12 ≤ 50 from hW.int t_a0 12) (show (-2147483648) ≤ iv a0 13 ∧ iv a0 13 ≤ 2147483647 from hW.int t_a0 13) (show (-2147483648) ≤ iv a0 14 ∧ iv a0 14 ≤ 2147483647 from hW.int t_a0 14) (show (-2147483648) ≤ iv a0 15 ∧ iv a0 15 ≤ 2147483647 from hW.int t_a0 15) (show (-2147483648) ≤ iv a0 16 ∧ iv a0 16 ≤ 2147483647 from hW.int t_a0 16) (hF0.call hX0 fl9 rfl) (fun ri55 ri56 ri57 ri58 ri59 ri60 F6 => ?_)
              refine c_st (st2 := [.int (iI f9)]) rfl ?_
              refine hv13 (show ivh9 a0 11 = iv a0 11 from kp11f9) (show ivh9 a0 12 = iv a0 12 from kp12f9) (show ivh9 a0 13 = iv a0 13 from kp13f9) (show ivh9 a0 14 = iv a0 14 from kp14f9) (show ivh9 a0 15 = iv a0 15 from kp15f9) (show ivh9 a0 16 = iv a0 16 from kp16f9) (show f9 = -1 from exf9) (show 1 ≤ ivh9 a0 11 ∧ ivh9 a0 11 ≤ 100 from W10.int t_a0 11) (show 1 ≤ ivh9 a0 12 ∧ ivh9 a0 12 ≤ 50 from W10.int t_a0 12) (show (-2147483648) ≤ ivh9 a0 13 ∧ ivh9 a0 13 ≤ 2147483647 from W10.int t_a0 13) (show (-2147483648) ≤ ivh9 a0 14 ∧ ivh9 a0 14 ≤ 2147483647 from W10.int t_a0 14) (show (-2147483648) ≤ ivh9 a0 15 ∧ ivh9 a0 15 ≤ 2147483647 from W10.int t_a0 15) (show (-2147483648) ≤ ivh9 a0 16 ∧ ivh9 a0 16 ≤ 2147483647 from W10.int t_a0 16) (fun gk11f9 gk12f9 gk13f9 gk14f9 gk15f9 gk16f9 gf9 ri61 ri62 ri63 ri64 ri65 ri66 => ?_)
              exact c_iret C dX11_copyRow_86 rfl (by decide) (rom0 hph hph (by decide)) ⟨f9, rfl, rfl, rfl, rfl, rfl, F6, W10, ⟨by omega, by omega⟩, trivial, (by omega), (by omega), (by omega), (by omega), (by omega), (by omega), (TCH.same hsA hW tsA fl9 rfl rfl rfl rfl (fun E hE => CRP.out gf1 gf2 (by omega) (by omega) (by omega) (by omega) hE))⟩
        · refine c_aload_n (j := 2) (x := a0) C dX11_copyRow_52 rfl ?_
          refine c_iconst C dX11_copyRow_53 ?_
          refine d_callV (As := [.int (iI 1)]) (rest := []) C hM (C_refuse (a0 := a0) (x := 1) hW hS t_a0 ⟨by decide, by decide⟩ ) dX11_copyRow_54 kV_X11_102 rfl t_a0 rfl rfl (by decide) ck_12 rfl (Nat.le_of_ble_eq_true rfl) ⟨(Nat.le_of_ble_eq_true rfl), (Nat.le_of_ble_eq_true rfl)⟩ hph hph (show 0 + 0 = 0 from rfl) (by decide) (fun rh10 Lh10 clh10 lnh10 ivh10 rvh10 h10 => ?_)
          obtain ⟨f10, rfl, rfl, rfl, rfl, rfl, fl10, W11, rgf10, exf10, kp11f10, kp12f10, kp13f10, kp14f10, kp15f10, kp16f10⟩ := h10
          refine hv7 (show 1 ≤ iv a0 11 ∧ iv a0 11 ≤ 100 from hW.int t_a0 11) (show 1 ≤ iv a0 12 ∧ iv a0 12 ≤ 50 from hW.int t_a0 12) (show (-2147483648) ≤ iv a0 13 ∧ iv a0 13 ≤ 2147483647 from hW.int t_a0 13) (show (-2147483648) ≤ iv a0 14 ∧ iv a0 14 ≤ 2147483647 from hW.int t_a0 14) (show (-2147483648) ≤ iv a0 15 ∧ iv a0 15 ≤ 2147483647 from hW.int t_a0 15) (show (-2147483648) ≤ iv a0 16 ∧ iv a0 16 ≤ 2147483647 from hW.int t_a0 16) (hF0.call hX0 fl10 rfl) (fun ri67 ri68 ri69 ri70 ri71 ri72 F7 => ?_)
          refine c_st (st2 := [.int (iI f10)]) rfl ?_
          refine hv13 (show ivh10 a0 11 = iv a0 11 from kp11f10) (show ivh10 a0 12 = iv a0 12 from kp12f10) (show ivh10 a0 13 = iv a0 13 from kp13f10) (show ivh10 a0 14 = iv a0 14 from kp14f10) (show ivh10 a0 15 = iv a0 15 from kp15f10) (show ivh10 a0 16 = iv a0 16 from kp16f10) (show f10 = -1 from exf10) (show 1 ≤ ivh10 a0 11 ∧ ivh10 a0 11 ≤ 100 from W11.int t_a0 11) (show 1 ≤ ivh10 a0 12 ∧ ivh10 a0 12 ≤ 50 from W11.int t_a0 12) (show (-2147483648) ≤ ivh10 a0 13 ∧ ivh10 a0 13 ≤ 2147483647 from W11.int t_a0 13) (show (-2147483648) ≤ ivh10 a0 14 ∧ ivh10 a0 14 ≤ 2147483647 from W11.int t_a0 14) (show (-2147483648) ≤ ivh10 a0 15 ∧ ivh10 a0 15 ≤ 2147483647 from W11.int t_a0 15) (show (-2147483648) ≤ ivh10 a0 16 ∧ ivh10 a0 16 ≤ 2147483647 from W11.int t_a0 16) (fun gk11f10 gk12f10 gk13f10 gk14f10 gk15f10 gk16f10 gf10 ri73 ri74 ri75 ri76 ri77 ri78 => ?_)
          exact c_iret C dX11_copyRow_57 rfl (by decide) (rom0 hph hph (by decide)) ⟨f10, rfl, rfl, rfl, rfl, rfl, F7, W11, ⟨by omega, by omega⟩, trivial, (by omega), (by omega), (by omega), (by omega), (by omega), (by omega), (TCH.same hsA hW tsA fl10 rfl rfl rfl rfl (fun E hE => CRP.lck gf1 gf2 (by omega) (by omega) hE))⟩
    · subst oq2
      refine c_lv (lv2 := [(7, .null), (6, .ref ob1), (0, .ref a0), (1, .int (iI i)), (2, .int (iI i2)), (3, .int (iI j)), (4, .int (iI j2)), (5, .int (iI n))]) [0, 1, 2, 3, 4, 5, 6, 7] rfl ?_
      refine c_st (st2 := []) rfl ?_
      refine c_aload_n (j := 2) (x := a0) C dX11_copyRow_30 rfl ?_
      refine c_iconst C dX11_copyRow_31 ?_
      refine d_callV (As := [.int (iI 2)]) (rest := []) C hM (C_refuse (a0 := a0) (x := 2) hW hS t_a0 ⟨by decide, by decide⟩ ) dX11_copyRow_32 kV_X11_102 rfl t_a0 rfl rfl (by decide) ck_12 rfl (Nat.le_of_ble_eq_true rfl) ⟨(Nat.le_of_ble_eq_true rfl), (Nat.le_of_ble_eq_true rfl)⟩ hph hph (show 0 + 0 = 0 from rfl) (by decide) (fun rh11 Lh11 clh11 lnh11 ivh11 rvh11 h11 => ?_)
      obtain ⟨f11, rfl, rfl, rfl, rfl, rfl, fl11, W12, rgf11, exf11, kp11f11, kp12f11, kp13f11, kp14f11, kp15f11, kp16f11⟩ := h11
      refine hv7 (show 1 ≤ iv a0 11 ∧ iv a0 11 ≤ 100 from hW.int t_a0 11) (show 1 ≤ iv a0 12 ∧ iv a0 12 ≤ 50 from hW.int t_a0 12) (show (-2147483648) ≤ iv a0 13 ∧ iv a0 13 ≤ 2147483647 from hW.int t_a0 13) (show (-2147483648) ≤ iv a0 14 ∧ iv a0 14 ≤ 2147483647 from hW.int t_a0 14) (show (-2147483648) ≤ iv a0 15 ∧ iv a0 15 ≤ 2147483647 from hW.int t_a0 15) (show (-2147483648) ≤ iv a0 16 ∧ iv a0 16 ≤ 2147483647 from hW.int t_a0 16) (hF0.call hX0 fl11 rfl) (fun ri79 ri80 ri81 ri82 ri83 ri84 F8 => ?_)
      refine c_st (st2 := [.int (iI f11)]) rfl ?_
      refine hv13 (show ivh11 a0 11 = iv a0 11 from kp11f11) (show ivh11 a0 12 = iv a0 12 from kp12f11) (show ivh11 a0 13 = iv a0 13 from kp13f11) (show ivh11 a0 14 = iv a0 14 from kp14f11) (show ivh11 a0 15 = iv a0 15 from kp15f11) (show ivh11 a0 16 = iv a0 16 from kp16f11) (show f11 = -1 from exf11) (show 1 ≤ ivh11 a0 11 ∧ ivh11 a0 11 ≤ 100 from W12.int t_a0 11) (show 1 ≤ ivh11 a0 12 ∧ ivh11 a0 12 ≤ 50 from W12.int t_a0 12) (show (-2147483648) ≤ ivh11 a0 13 ∧ ivh11 a0 13 ≤ 2147483647 from W12.int t_a0 13) (show (-2147483648) ≤ ivh11 a0 14 ∧ ivh11 a0 14 ≤ 2147483647 from W12.int t_a0 14) (show (-2147483648) ≤ ivh11 a0 15 ∧ ivh11 a0 15 ≤ 2147483647 from W12.int t_a0 15) (show (-2147483648) ≤ ivh11 a0 16 ∧ ivh11 a0 16 ≤ 2147483647 from W12.int t_a0 16) (fun gk11f11 gk12f11 gk13f11 gk14f11 gk15f11 gk16f11 gf11 ri85 ri86 ri87 ri88 ri89 ri90 => ?_)
      exact c_iret C dX11_copyRow_35 rfl (by decide) (rom0 hph hph (by decide)) ⟨f11, rfl, rfl, rfl, rfl, rfl, F8, W12, ⟨by omega, by omega⟩, trivial, (by omega), (by omega), (by omega), (by omega), (by omega), (by omega), (TCH.same hsA hW tsA fl11 rfl rfl rfl rfl (fun E hE => CRP.no (Or.inr gf2) (by omega) hE))⟩
set_option maxHeartbeats 4000000 in
set_option maxRecDepth 100000 in
theorem G_become {l : Launch} {G : GT} {mi : Nat} {sk : Nat → Nat} {L : List Nat} {cl ln : Nat → Nat} {iv : Nat → Nat → Int} {rv : Nat → Nat → Option Nat}  {a0 : Nat} {a1 : Nat} (hW : WT (g0 G) sk L cl ln iv rv) (hS : SKL sk L cl) (t_a0 : ty L cl a0 19) (t_a1 : ty L cl a1 19)  : Mc l G mi (Phi (g0 G) sk) PHM yX2_become cX2_become 2 none 1 [.ref a0, .ref a1] L cl ln iv rv 0 (fun v L2 cl2 ln2 iv2 rv2 => v = none ∧ L = L2 ∧ cl = cl2 ∧ ln = ln2 ∧ rv = rv2 ∧ fT [19, 64] L cl iv rv iv2 rv2 ∧ WT (g0 G) sk L2 cl2 ln2 iv2 rv2 ∧ (LFR L cl iv rv iv2 a0 ∧ BCX iv rv iv2 a0 a1)) := by
  refine Mc.mk (by decide) (Nat.le_of_ble_eq_true rfl) ?_
  intro p e s m args below meth c A C hM
  refine hv5 (Phi.le hW hS) (show XT L cl ln L cl ln from XT.refl) (show fT [19, 64] L cl iv rv iv rv from fT.refl) (show 0 ≤ iv a1 1 ∧ iv a1 1 ≤ 200 from hW.int t_a1 1) (show 0 ≤ iv a1 2 ∧ iv a1 2 ≤ 1 from hW.int t_a1 2) (fun hph hX0 hF0 ri1 ri2 => ?_)
  refine c_aload_n (j := 1) (x := a1) C dX2_become_0 rfl ?_
  obtain ⟨rb1, rq1, trb1⟩ := hW.ref t_a1 0 rfl rfl rfl
  have lnrb1 : 200 ≤ ln rb1 ∧ ln rb1 ≤ 200 := hW.len trb1 rfl
  refine c_getr (k := 0) C ck_3 dX2_become_1 w4_44 (by decide) t_a1 rfl rfl (by decide) rfl rq1 ?_
  refine c_st (st2 := [.ref rb1]) rfl ?_
  refine c_iconst C dX2_become_4 ?_
  refine c_aload_n (j := 0) (x := a0) C dX2_become_5 rfl ?_
  obtain ⟨rb2, rq2, trb2⟩ := hW.ref t_a0 0 rfl rfl rfl
  have lnrb2 : 200 ≤ ln rb2 ∧ ln rb2 ≤ 200 := hW.len trb2 rfl
  refine c_getr (k := 0) C ck_3 dX2_become_6 w4_44 (by decide) t_a0 rfl rfl (by decide) rfl rq2 ?_
  refine c_st (st2 := [.ref rb2, .int (iI 0), .ref rb1]) rfl ?_
  refine c_iconst C dX2_become_9 ?_
  refine c_aload_n (j := 1) (x := a1) C dX2_become_10 rfl ?_
  refine c_get (k := 1) C ck_3 dX2_become_11 w4_49 (by decide) t_a1 rfl rfl (by decide) rfl ?_
  refine hv2 (show 200 ≤ ln rb1 ∧ ln rb1 ≤ 200 from hW.len trb1 rfl) (show 200 ≤ ln rb2 ∧ ln rb2 ≤ 200 from hW.len trb2 rfl) (fun ll1 ll2 => ?_)
  refine c_copyi (sp := 0) (dp := 0) (n := iv a1 1) C dX2_become_14 w4_80 w2_133 w2_132 w1_15 trb1 rfl trb2 rfl (by omega) (by omega) (by omega) (by omega) (by omega) (by omega) (by omega) (by decide) (Nat.le_of_ble_eq_true rfl) (fun iv1 pq1 => ?_)
  refine hv2 (hW.copy pq1 trb2 trb1 (fun _ => rfl) (fun _ => rfl) (fun _ => rfl) (fun _ => rfl) rfl) (hF0.copy hX0 pq1 trb2 rfl) (fun W1 F1 => ?_)
  refine c_aload_n (j := 0) (x := a0) C dX2_become_17 rfl ?_
  refine c_aload_n (j := 1) (x := a1) C dX2_become_18 rfl ?_
  refine hv2 (show 0 ≤ iv1 a1 1 ∧ iv1 a1 1 ≤ 200 from W1.int t_a1 1) (show iv1 a1 1 = iv a1 1 from by rw [pq1]; exact if_neg (ne_ty t_a1 trb2 (by decide))) (fun ri3 ie1 => ?_)
  refine c_get (k := 1) C ck_3 dX2_become_19 w4_49 (by decide) t_a1 rfl rfl (by decide) rfl ?_
  refine c_put (z := iv1 a1 1) (k := 1) C ck_3 dX2_become_22 w4_49 (by decide) rfl t_a0 rfl rfl (by decide) rfl (by rfl) (by rfl) (fun iv2 pq2 => ?_)
  refine hv2 (W1.puti pq2 t_a0 (show 0 ≤ (iv1 a1 1) ∧ (iv1 a1 1) ≤ 200 by omega) rfl) (F1.puti hX0 pq2 t_a0 rfl) (fun W2 F2 => ?_)
  refine c_aload_n (j := 0) (x := a0) C dX2_become_25 rfl ?_
  refine c_aload_n (j := 1) (x := a1) C dX2_become_26 rfl ?_
  have ri4 : 0 ≤ iv2 a1 2 ∧ iv2 a1 2 ≤ 1 := W2.int t_a1 2
  refine c_get (k := 2) C ck_3 dX2_become_27 w4_54 (by decide) t_a1 rfl rfl (by decide) rfl ?_
  refine c_put (z := iv2 a1 2) (k := 2) C ck_3 dX2_become_30 w4_54 (by decide) rfl t_a0 rfl rfl (by decide) rfl (nar2 (z := iv2 a1 2) (by omega)).1 (nar2 (z := iv2 a1 2) (by omega)).2 (fun iv3 pq3 => ?_)
  refine hv5 (W2.puti pq3 t_a0 (show 0 ≤ (iv2 a1 2) ∧ (iv2 a1 2) ≤ 1 by omega) rfl) (F2.puti hX0 pq3 t_a0 rfl) (show iv3 a0 1 = iv2 a0 1 from by rw [pq3]; exact up2_j (by decide)) (show iv2 a0 1 = iv1 a1 1 from by rw [pq2]; exact up2_s) (show iv3 a0 2 = iv2 a1 2 from by rw [pq3]; exact up2_s) (fun W3 F3 ie3 ie4 ie5 => ?_)
  refine hv2 (show 0 ≤ iv3 a0 1 ∧ iv3 a0 1 ≤ 200 from W3.int t_a0 1) (show 0 ≤ iv3 a0 2 ∧ iv3 a0 2 ≤ 1 from W3.int t_a0 2) (fun ri5 ri6 => ?_)
  exact c_vret C dX2_become_33 rfl (by decide) (rom0 hph hph (by decide)) ⟨rfl, rfl, rfl, rfl, rfl, F3, W3, ⟨((LFR.refl.copy rq2 trb2 pq1).self t_a0 pq2).self t_a0 pq3, BCX.mk rq1 rq2 pq1 rfl pq2 (by omega) pq3 rfl (ne_ty trb2 t_a0 (by decide)) (ne_ty t_a1 trb2 (by decide))⟩⟩
set_option maxHeartbeats 4000000 in
set_option maxRecDepth 100000 in
theorem G_copyLines {l : Launch} {G : GT} {mi : Nat} {sk : Nat → Nat} {L : List Nat} {cl ln : Nat → Nat} {iv : Nat → Nat → Int} {rv : Nat → Nat → Option Nat}  {a0 : Nat} {i : Int} {j : Int} {n : Int} (hW : WT (g0 G) sk L cl ln iv rv) (hS : SKL sk L cl) (t_a0 : ty L cl a0 1) (h_i : -2147483648 ≤ i ∧ i ≤ 2147483647) (h_j : -2147483648 ≤ j ∧ j ≤ 2147483647) (h_n : -2147483648 ≤ n ∧ n ≤ 2147483647)  : Mc l G mi (Phi (g0 G) sk) PHM yX11_copyLines cX11_copyLines 7 (some .int) 2 [.ref a0, .int (iI i), .int (iI j), .int (iI n)] L cl ln iv rv 0 (fun v L2 cl2 ln2 iv2 rv2 => ∃ f : Int, v = some (.int (iI f)) ∧ L = L2 ∧ cl = cl2 ∧ ln = ln2 ∧ rv = rv2 ∧ fT [1, 19, 64] L cl iv rv iv2 rv2 ∧ WT (g0 G) sk L2 cl2 ln2 iv2 rv2 ∧ (-2147483648 ≤ f ∧ f ≤ 2147483647) ∧ (True) ∧ iv2 a0 11 = iv a0 11 ∧ iv2 a0 12 = iv a0 12 ∧ iv2 a0 13 = iv a0 13 ∧ iv2 a0 14 = iv a0 14 ∧ iv2 a0 16 = iv a0 16 ∧ (TCH iv rv iv2 a0 (fun E E2 => CPLX E i j n (iv a0 15) f E2 (iv2 a0 15)))) := by
  refine Mc.mk (by decide) (Nat.le_of_ble_eq_true rfl) ?_
  intro p e s m args below meth c A C hM
  refine hv3 (Phi.le hW hS) (show XT L cl ln L cl ln from XT.refl) (show fT [1, 19, 64] L cl iv rv iv rv from fT.refl) (fun hph hX0 hF0 => ?_)
  obtain ⟨sA, hsA, tsA⟩ := hW.ref t_a0 9 rfl rfl rfl
  refine hv2 (show 0 ≤ iv sA 1 ∧ iv sA 1 ≤ 200 from hW.int tsA 1) (show (-2147483648) ≤ iv a0 15 ∧ iv a0 15 ≤ 2147483647 from hW.int t_a0 15) (fun ri1 ri2 => ?_)
  refine c_iload_n (j := 3) C dX11_copyLines_0 rfl ?_
  refine c_bipush (z := 10) C dX11_copyLines_1 (by decide) ?_
  refine c_icmp_le (tgt := 13) C ⟨by omega, by omega⟩ ⟨by decide, by decide⟩ dX11_copyLines_3 (by decide) (fun c1 => ?_) (fun c1 => ?_)
  · refine c_iload_n (j := 3) C dX11_copyLines_13 rfl ?_
    refine c_if_ge (tgt := 23) C ⟨by omega, by omega⟩ dX11_copyLines_14 (by decide) (fun c2 => ?_) (fun c2 => ?_)
    · refine c_aload_n (j := 0) (x := a0) C dX11_copyLines_23 rfl ?_
      refine c_iconst C dX11_copyLines_24 ?_
      refine c_put (z := 0) (k := 15) C ck_12 dX11_copyLines_25 w2_59 (by decide) rfl t_a0 rfl rfl (by decide) rfl (by rfl) (by rfl) (fun iv1 pq1 => ?_)
      refine hv2 (hW.puti pq1 t_a0 ⟨by decide, by decide⟩ rfl) (hF0.puti hX0 pq1 t_a0 rfl) (fun W1 F1 => ?_)
      refine c_iconst C dX11_copyLines_28 ?_
      refine c_istore (lv2 := [(4, .int (iI 0)), (0, .ref a0), (1, .int (iI i)), (2, .int (iI j)), (3, .int (iI n))]) C dX11_copyLines_29 (by decide) rfl ?_
      have Lp1 : ∀ (nn : Nat) (k : Int) (ivb1 : Nat → Nat → Int) , 201 - k < (nn : Int) → WT (g0 G) sk L cl ln ivb1 rv → fT [1, 19, 64] L cl iv rv ivb1 rv → (0 ≤ k ∧ k ≤ n ∧ n ≤ 10) → (ivb1 a0 15 = k) → (TCH iv rv ivb1 a0 (fun E E1 => cpn E i j k.toNat E1)) → (ivb1 a0 11 = iv a0 11) → (ivb1 a0 12 = iv a0 12) → (ivb1 a0 13 = iv a0 13) → (ivb1 a0 14 = iv a0 14) → (ivb1 a0 16 = iv a0 16) → cw p l e 2 ((PHM) + 0 - ((Phi (g0 G) sk) ln rv)) s m args below meth c G A 7 (MQ below (Qu G A (Qp G (Phi (g0 G) sk) ((Phi (g0 G) sk) ln rv) 0 (fun v L2 cl2 ln2 iv2 rv2 => ∃ f : Int, v = some (.int (iI f)) ∧ L = L2 ∧ cl = cl2 ∧ ln = ln2 ∧ rv = rv2 ∧ fT [1, 19, 64] L cl iv rv iv2 rv2 ∧ WT (g0 G) sk L2 cl2 ln2 iv2 rv2 ∧ (-2147483648 ≤ f ∧ f ≤ 2147483647) ∧ (True) ∧ iv2 a0 11 = iv a0 11 ∧ iv2 a0 12 = iv a0 12 ∧ iv2 a0 13 = iv a0 13 ∧ iv2 a0 14 = iv a0 14 ∧ iv2 a0 16 = iv a0 16 ∧ (TCH iv rv iv2 a0 (fun E E2 => CPLX E i j n (iv a0 15) f E2 (iv2 a0 15)))))) args s (((PHM) + 0 - ((Phi (g0 G) sk) ln rv)) / 16) ((PHM) + 0 - ((Phi (g0 G) sk) ln rv)) A) (Phi (g0 G) sk) ((Phi (g0 G) sk) ln rv) L cl ln ivb1 rv 0 31 [(4, .int (iI k)), (0, .ref a0), (1, .int (iI i)), (2, .int (iI j)), (3, .int (iI n))] [] := by
        intro nn
        induction nn with
        | zero =>
          intro  k ivb1 hm Wb1 Fb1  hk h15 hT hkp11 hkp12 hkp13 hkp14 hkp16
          exact absurd hm (by omega)
        | succ nn ih1 =>
          intro  k ivb1 hm Wb1 Fb1  hk h15 hT hkp11 hkp12 hkp13 hkp14 hkp16
          refine c_iload (j := 0) C dX11_copyLines_31 rfl ?_
          refine c_iload_n (j := 4) C dX11_copyLines_33 rfl ?_
          refine c_icmp_ge (tgt := 116) C ⟨by omega, by omega⟩ ⟨by omega, by omega⟩ dX11_copyLines_34 (by decide) (fun c3 => ?_) (fun c3 => ?_)
          · refine c_aload_n (j := 1) (x := a0) C dX11_copyLines_116 rfl ?_
            refine c_iload_n (j := 4) C dX11_copyLines_117 rfl ?_
            refine d_callV (As := [.int (iI n)]) (rest := []) C hM (C_done (a0 := a0) (x := n) Wb1 hS t_a0 (by omega) ) dX11_copyLines_118 kV_X11_109 rfl t_a0 rfl rfl (by decide) ck_12 rfl (Nat.le_of_ble_eq_true rfl) ⟨(Nat.le_of_ble_eq_true rfl), (Nat.le_of_ble_eq_true rfl)⟩ hph hph (show 0 + 0 = 0 from rfl) (by decide) (fun rh1 Lh1 clh1 lnh1 ivh1 rvh1 h1 => ?_)
            obtain ⟨f1, rfl, rfl, rfl, rfl, rfl, fl1, W2, rgf1, exf1, kp11f1, kp12f1, kp13f1, kp14f1, kp15f1, kp16f1⟩ := h1
            refine hv7 (show 1 ≤ ivb1 a0 11 ∧ ivb1 a0 11 ≤ 100 from Wb1.int t_a0 11) (show 1 ≤ ivb1 a0 12 ∧ ivb1 a0 12 ≤ 50 from Wb1.int t_a0 12) (show (-2147483648) ≤ ivb1 a0 13 ∧ ivb1 a0 13 ≤ 2147483647 from Wb1.int t_a0 13) (show (-2147483648) ≤ ivb1 a0 14 ∧ ivb1 a0 14 ≤ 2147483647 from Wb1.int t_a0 14) (show (-2147483648) ≤ ivb1 a0 15 ∧ ivb1 a0 15 ≤ 2147483647 from Wb1.int t_a0 15) (show (-2147483648) ≤ ivb1 a0 16 ∧ ivb1 a0 16 ≤ 2147483647 from Wb1.int t_a0 16) (Fb1.call hX0 fl1 rfl) (fun ri3 ri4 ri5 ri6 ri7 ri8 F2 => ?_)
            refine c_st (st2 := [.int (iI f1)]) rfl ?_
            refine hv13 (show ivh1 a0 11 = ivb1 a0 11 from kp11f1) (show ivh1 a0 12 = ivb1 a0 12 from kp12f1) (show ivh1 a0 13 = ivb1 a0 13 from kp13f1) (show ivh1 a0 14 = ivb1 a0 14 from kp14f1) (show ivh1 a0 15 = ivb1 a0 15 from kp15f1) (show ivh1 a0 16 = ivb1 a0 16 from kp16f1) (show f1 = n from exf1) (show 1 ≤ ivh1 a0 11 ∧ ivh1 a0 11 ≤ 100 from W2.int t_a0 11) (show 1 ≤ ivh1 a0 12 ∧ ivh1 a0 12 ≤ 50 from W2.int t_a0 12) (show (-2147483648) ≤ ivh1 a0 13 ∧ ivh1 a0 13 ≤ 2147483647 from W2.int t_a0 13) (show (-2147483648) ≤ ivh1 a0 14 ∧ ivh1 a0 14 ≤ 2147483647 from W2.int t_a0 14) (show (-2147483648) ≤ ivh1 a0 16 ∧ ivh1 a0 16 ≤ 2147483647 from W2.int t_a0 16) (show (-2147483648) ≤ ivh1 a0 15 ∧ ivh1 a0 15 ≤ 2147483647 from W2.int t_a0 15) (fun gk11f1 gk12f1 gk13f1 gk14f1 gk15f1 gk16f1 gf1 ri9 ri10 ri11 ri12 ri13 ri14 => ?_)
            exact c_iret C dX11_copyLines_121 rfl (by decide) (rom0 hph hph (by decide)) ⟨f1, rfl, rfl, rfl, rfl, rfl, F2, W2, ⟨by omega, by omega⟩, trivial, (by omega), (by omega), (by omega), (by omega), (by omega), (CPP.ok hT hsA Wb1 tsA fl1 (by omega) ⟨by omega, by omega⟩ (by omega) (by omega))⟩
          · refine c_aload_n (j := 1) (x := a0) C dX11_copyLines_37 rfl ?_
            refine c_getr (k := 9) C ck_12 dX11_copyLines_38 w2_53 (by decide) t_a0 rfl rfl (by decide) rfl hsA ?_
            refine c_st (st2 := [.ref sA]) rfl ?_
            refine c_iload_n (j := 2) C dX11_copyLines_41 rfl ?_
            refine c_iload (j := 0) C dX11_copyLines_42 rfl ?_
            refine c_iadd C dX11_copyLines_44 ?_
            obtain ⟨zz1, hzz1, ezz1⟩ := iI_of (iI (i + k))
            refine c_st (st2 := [.int (iI zz1), .ref sA]) (by rw [ezz1]) ?_
            refine hv2 (show 0 ≤ ivb1 sA 1 ∧ ivb1 sA 1 ≤ 200 from Wb1.int tsA 1) (show ivb1 sA 1 = iv sA 1 from Fb1.i tsA rfl 1) (fun ri15 ie13 => ?_)
            refine d_callV (As := [.int (iI zz1)]) (rest := []) C hM (G_sat (a0 := sA) (i := zz1) Wb1 hS tsA (by omega) ) dX11_copyLines_45 kV_X11_308 rfl tsA rfl rfl (by decide) ck_8 rfl (Nat.le_of_ble_eq_true rfl) ⟨(Nat.le_of_ble_eq_true rfl), (Nat.le_of_ble_eq_true rfl)⟩ hph hph (show 0 + 0 = 0 from rfl) (by decide) (fun rh2 Lh2 clh2 lnh2 ivh2 rvh2 h2 => ?_)
            obtain ⟨f2, rfl, rfl, rfl, rfl, rfl, rfl, rgf2, exf2⟩ := h2
            refine c_st (st2 := [(va_rf f2)]) rfl ?_
            have gf2 : SATX ivb1 rv sA zz1 f2 := exf2
            have gaf2 := SATX.wr gf2 (wr_add (x := i + k) hzz1 ⟨by omega, by omega⟩ ezz1) (by omega)
            refine c_astorer (r := f2) (lv2 := [(5, (va_rf f2)), (4, .int (iI k)), (0, .ref a0), (1, .int (iI i)), (2, .int (iI j)), (3, .int (iI n))]) C dX11_copyLines_48 (by decide) rfl ?_
            refine c_aload_n (j := 2) (x := a0) C dX11_copyLines_50 rfl ?_
            refine c_getr (k := 9) C ck_12 dX11_copyLines_51 w2_53 (by decide) t_a0 rfl rfl (by decide) rfl hsA ?_
            refine c_st (st2 := [.ref sA]) rfl ?_
            refine c_iload_n (j := 4) C dX11_copyLines_54 rfl ?_
            refine c_iload (j := 1) C dX11_copyLines_55 rfl ?_
            refine c_iadd C dX11_copyLines_57 ?_
            obtain ⟨zz2, hzz2, ezz2⟩ := iI_of (iI (j + k))
            refine c_st (st2 := [.int (iI zz2), .ref sA]) (by rw [ezz2]) ?_
            refine d_callV (As := [.int (iI zz2)]) (rest := []) C hM (G_sat (a0 := sA) (i := zz2) Wb1 hS tsA (by omega) ) dX11_copyLines_58 kV_X11_308 rfl tsA rfl rfl (by decide) ck_8 rfl (Nat.le_of_ble_eq_true rfl) ⟨(Nat.le_of_ble_eq_true rfl), (Nat.le_of_ble_eq_true rfl)⟩ hph hph (show 0 + 0 = 0 from rfl) (by decide) (fun rh3 Lh3 clh3 lnh3 ivh3 rvh3 h3 => ?_)
            obtain ⟨f3, rfl, rfl, rfl, rfl, rfl, rfl, rgf3, exf3⟩ := h3
            refine c_st (st2 := [(va_rf f3)]) rfl ?_
            have gf3 : SATX ivb1 rv sA zz2 f3 := exf3
            have gaf3 := SATX.wr gf3 (wr_add (x := j + k) hzz2 ⟨by omega, by omega⟩ ezz2) (by omega)
            refine c_astorer (r := f3) (lv2 := [(6, (va_rf f3)), (5, (va_rf f2)), (4, .int (iI k)), (0, .ref a0), (1, .int (iI i)), (2, .int (iI j)), (3, .int (iI n))]) C dX11_copyLines_61 (by decide) (by cases f2 <;> rfl) ?_
            refine c_aloadr (j := 1) (r := f2) C dX11_copyLines_63 rfl ?_
            refine c_ifnull (r := f2) (tgt := 73) C dX11_copyLines_65 (by decide) (fun oq1 => ?_) (fun ob1 oq1 => ?_)
            · subst oq1
              refine c_lv (lv2 := [(6, (va_rf f3)), (5, .null), (4, .int (iI k)), (0, .ref a0), (1, .int (iI i)), (2, .int (iI j)), (3, .int (iI n))]) [0, 1, 2, 3, 4, 5, 6] rfl ?_
              refine c_st (st2 := []) rfl ?_
              refine c_aload_n (j := 3) (x := a0) C dX11_copyLines_73 rfl ?_
              refine c_iconst C dX11_copyLines_74 ?_
              refine d_callV (As := [.int (iI 2)]) (rest := []) C hM (C_refuse (a0 := a0) (x := 2) Wb1 hS t_a0 ⟨by decide, by decide⟩ ) dX11_copyLines_75 kV_X11_102 rfl t_a0 rfl rfl (by decide) ck_12 rfl (Nat.le_of_ble_eq_true rfl) ⟨(Nat.le_of_ble_eq_true rfl), (Nat.le_of_ble_eq_true rfl)⟩ hph hph (show 0 + 0 = 0 from rfl) (by decide) (fun rh4 Lh4 clh4 lnh4 ivh4 rvh4 h4 => ?_)
              obtain ⟨f4, rfl, rfl, rfl, rfl, rfl, fl4, W5, rgf4, exf4, kp11f4, kp12f4, kp13f4, kp14f4, kp15f4, kp16f4⟩ := h4
              refine hv7 (show 1 ≤ ivb1 a0 11 ∧ ivb1 a0 11 ≤ 100 from Wb1.int t_a0 11) (show 1 ≤ ivb1 a0 12 ∧ ivb1 a0 12 ≤ 50 from Wb1.int t_a0 12) (show (-2147483648) ≤ ivb1 a0 13 ∧ ivb1 a0 13 ≤ 2147483647 from Wb1.int t_a0 13) (show (-2147483648) ≤ ivb1 a0 14 ∧ ivb1 a0 14 ≤ 2147483647 from Wb1.int t_a0 14) (show (-2147483648) ≤ ivb1 a0 15 ∧ ivb1 a0 15 ≤ 2147483647 from Wb1.int t_a0 15) (show (-2147483648) ≤ ivb1 a0 16 ∧ ivb1 a0 16 ≤ 2147483647 from Wb1.int t_a0 16) (Fb1.call hX0 fl4 rfl) (fun ri16 ri17 ri18 ri19 ri20 ri21 F3 => ?_)
              refine c_st (st2 := [.int (iI f4)]) rfl ?_
              refine hv13 (show ivh4 a0 11 = ivb1 a0 11 from kp11f4) (show ivh4 a0 12 = ivb1 a0 12 from kp12f4) (show ivh4 a0 13 = ivb1 a0 13 from kp13f4) (show ivh4 a0 14 = ivb1 a0 14 from kp14f4) (show ivh4 a0 15 = ivb1 a0 15 from kp15f4) (show ivh4 a0 16 = ivb1 a0 16 from kp16f4) (show f4 = -1 from exf4) (show 1 ≤ ivh4 a0 11 ∧ ivh4 a0 11 ≤ 100 from W5.int t_a0 11) (show 1 ≤ ivh4 a0 12 ∧ ivh4 a0 12 ≤ 50 from W5.int t_a0 12) (show (-2147483648) ≤ ivh4 a0 13 ∧ ivh4 a0 13 ≤ 2147483647 from W5.int t_a0 13) (show (-2147483648) ≤ ivh4 a0 14 ∧ ivh4 a0 14 ≤ 2147483647 from W5.int t_a0 14) (show (-2147483648) ≤ ivh4 a0 16 ∧ ivh4 a0 16 ≤ 2147483647 from W5.int t_a0 16) (show (-2147483648) ≤ ivh4 a0 15 ∧ ivh4 a0 15 ≤ 2147483647 from W5.int t_a0 15) (fun gk11f4 gk12f4 gk13f4 gk14f4 gk15f4 gk16f4 gf4 ri22 ri23 ri24 ri25 ri26 ri27 => ?_)
              exact c_iret C dX11_copyLines_78 rfl (by decide) (rom0 hph hph (by decide)) ⟨f4, rfl, rfl, rfl, rfl, rfl, F3, W5, ⟨by omega, by omega⟩, trivial, (by omega), (by omega), (by omega), (by omega), (by omega), (CPP.stop hT hsA Wb1 tsA fl4 ⟨by omega, by omega⟩ (by omega) (by omega) (by omega) (Or.inl gaf2))⟩
            · subst oq1
              have tob1 := rgf2 ob1 rfl
              refine c_lv (lv2 := [(6, (va_rf f3)), (5, .ref ob1), (4, .int (iI k)), (0, .ref a0), (1, .int (iI i)), (2, .int (iI j)), (3, .int (iI n))]) [0, 1, 2, 3, 4, 5, 6] rfl ?_
              refine c_st (st2 := []) rfl ?_
              refine c_aloadr (j := 0) (r := f3) C dX11_copyLines_68 rfl ?_
              refine c_ifnonnull (r := f3) (tgt := 79) C dX11_copyLines_70 (by decide) (fun ob2 oq2 => ?_) (fun oq2 => ?_)
              · subst oq2
                have tob2 := rgf3 ob2 rfl
                refine c_lv (lv2 := [(6, .ref ob2), (5, .ref ob1), (4, .int (iI k)), (0, .ref a0), (1, .int (iI i)), (2, .int (iI j)), (3, .int (iI n))]) [0, 1, 2, 3, 4, 5, 6] rfl ?_
                refine c_st (st2 := []) rfl ?_
                have ri28 : 0 ≤ ivb1 ob1 2 ∧ ivb1 ob1 2 ≤ 1 := Wb1.int tob1 2
                refine c_aload (j := 1) (x := ob1) C dX11_copyLines_79 rfl ?_
                refine c_get (k := 2) C ck_3 dX11_copyLines_81 w4_56 (by decide) tob1 rfl rfl (by decide) rfl ?_
                refine c_if_eq (tgt := 93) C (r32_c (lo := 0) (hi := 1) ri28.1 ri28.2 (by decide) (by decide)) dX11_copyLines_84 (by decide) (fun c4 => ?_) (fun c4 => ?_)
                · refine c_aload (j := 0) (x := ob2) C dX11_copyLines_93 rfl ?_
                  refine c_aload (j := 1) (x := ob1) C dX11_copyLines_95 rfl ?_
                  refine d_callV (As := [.ref ob1]) (rest := []) C hM (G_become (a0 := ob2) (a1 := ob1) Wb1 hS tob2 tob1  ) dX11_copyLines_97 kV_X11_322 rfl tob2 rfl rfl (by decide) ck_3 rfl (Nat.le_of_ble_eq_true rfl) ⟨(Nat.le_of_ble_eq_true rfl), (Nat.le_of_ble_eq_true rfl)⟩ hph hph (show 0 + 0 = 0 from rfl) (by decide) (fun rh5 Lh5 clh5 lnh5 ivh5 rvh5 h5 => ?_)
                  obtain ⟨rfl, rfl, rfl, rfl, rfl, fl5, W6, exf5⟩ := h5
                  have F4 := Fb1.call hX0 fl5 rfl
                  refine c_st (st2 := []) rfl ?_
                  refine hv3 (show LFR L cl ivb1 rv ivh5 ob2 ∧ BCX ivb1 rv ivh5 ob2 ob1 from exf5) (show 0 ≤ ivh5 sA 1 ∧ ivh5 sA 1 ≤ 200 from W6.int tsA 1) (show ivh5 sA 1 = ivb1 sA 1 from fl5.i tsA rfl 1) (fun gf5 ri29 ie27 => ?_)
                  refine c_aload_n (j := 3) (x := a0) C dX11_copyLines_100 rfl ?_
                  refine c_dup C dX11_copyLines_101 rfl ?_
                  refine hv2 (show (-2147483648) ≤ ivh5 a0 15 ∧ ivh5 a0 15 ≤ 2147483647 from W6.int t_a0 15) (show ivh5 a0 15 = ivb1 a0 15 from fl5.i t_a0 rfl 15) (fun ri30 ie28 => ?_)
                  refine c_get (k := 15) C ck_12 dX11_copyLines_102 w2_59 (by decide) t_a0 rfl rfl (by decide) rfl ?_
                  refine c_iconst C dX11_copyLines_105 ?_
                  refine c_iadd C dX11_copyLines_106 ?_
                  refine c_put (z := (ivh5 a0 15) + 1) (k := 15) C ck_12 dX11_copyLines_107 w2_59 (by decide) rfl t_a0 rfl rfl (by decide) rfl (by rfl) (by rfl) (fun iv2 pq2 => ?_)
                  refine hv2 (W6.puti pq2 t_a0 (show (-2147483648) ≤ ((ivh5 a0 15) + 1) ∧ ((ivh5 a0 15) + 1) ≤ 2147483647 by omega) rfl) (F4.puti hX0 pq2 t_a0 rfl) (fun W7 F5 => ?_)
                  refine c_iinc (z := k) (j := 2) (lv2 := [(4, .int (iI (k + 1))), (6, .ref ob2), (5, .ref ob1), (0, .ref a0), (1, .int (iI i)), (2, .int (iI j)), (3, .int (iI n))]) C dX11_copyLines_110 rfl (by decide) rfl ?_
                  refine c_goto (tgt := 31) C dX11_copyLines_113 (by decide) ?_
                  refine hv19 (show (-2147483648) ≤ iv2 a0 15 ∧ iv2 a0 15 ≤ 2147483647 from W7.int t_a0 15) (show iv2 a0 15 = (ivh5 a0 15) + 1 from by rw [pq2]; exact up2_s) (show 1 ≤ iv2 a0 11 ∧ iv2 a0 11 ≤ 100 from W7.int t_a0 11) (show iv2 a0 11 = ivh5 a0 11 from by rw [pq2]; exact up2_j (by decide)) (show ivh5 a0 11 = ivb1 a0 11 from fl5.i t_a0 rfl 11) (show 1 ≤ iv2 a0 12 ∧ iv2 a0 12 ≤ 50 from W7.int t_a0 12) (show iv2 a0 12 = ivh5 a0 12 from by rw [pq2]; exact up2_j (by decide)) (show ivh5 a0 12 = ivb1 a0 12 from fl5.i t_a0 rfl 12) (show (-2147483648) ≤ iv2 a0 13 ∧ iv2 a0 13 ≤ 2147483647 from W7.int t_a0 13) (show iv2 a0 13 = ivh5 a0 13 from by rw [pq2]; exact up2_j (by decide)) (show ivh5 a0 13 = ivb1 a0 13 from fl5.i t_a0 rfl 13) (show (-2147483648) ≤ iv2 a0 14 ∧ iv2 a0 14 ≤ 2147483647 from W7.int t_a0 14) (show iv2 a0 14 = ivh5 a0 14 from by rw [pq2]; exact up2_j (by decide)) (show ivh5 a0 14 = ivb1 a0 14 from fl5.i t_a0 rfl 14) (show (-2147483648) ≤ iv2 a0 16 ∧ iv2 a0 16 ≤ 2147483647 from W7.int t_a0 16) (show iv2 a0 16 = ivh5 a0 16 from by rw [pq2]; exact up2_j (by decide)) (show ivh5 a0 16 = ivb1 a0 16 from fl5.i t_a0 rfl 16) (show 0 ≤ iv2 ob1 2 ∧ iv2 ob1 2 ≤ 1 from W7.int tob1 2) (show iv2 ob1 2 = ivh5 ob1 2 from by rw [pq2]; exact up2_k (ne_ty tob1 t_a0 (by decide))) (fun ri31 ie30 ri32 ie31 ie32 ri33 ie34 ie35 ri34 ie37 ie38 ri35 ie40 ie41 ri36 ie43 ie44 ri37 ie46 => ?_)
                  refine c_lv (lv2 := [(4, .int (iI (k + 1))), (0, .ref a0), (1, .int (iI i)), (2, .int (iI j)), (3, .int (iI n))]) [0, 3, 4, 5, 6] rfl ?_
                  exact ih1  (k + 1) _ (by omega) W7 F5  (by omega) (by show iv2 a0 15 = (k + 1); omega) (CPP.step hT hsA Wb1 tsA t_a0 gaf2 gaf3 (by omega) gf5.1 gf5.2 (by omega) W6 pq2 (by omega)) (by show iv2 a0 11 = iv a0 11; omega) (by show iv2 a0 12 = iv a0 12; omega) (by show iv2 a0 13 = iv a0 13; omega) (by show iv2 a0 14 = iv a0 14; omega) (by show iv2 a0 16 = iv a0 16; omega)
                · refine c_aload_n (j := 3) (x := a0) C dX11_copyLines_87 rfl ?_
                  refine c_iconst C dX11_copyLines_88 ?_
                  refine d_callV (As := [.int (iI 1)]) (rest := []) C hM (C_refuse (a0 := a0) (x := 1) Wb1 hS t_a0 ⟨by decide, by decide⟩ ) dX11_copyLines_89 kV_X11_102 rfl t_a0 rfl rfl (by decide) ck_12 rfl (Nat.le_of_ble_eq_true rfl) ⟨(Nat.le_of_ble_eq_true rfl), (Nat.le_of_ble_eq_true rfl)⟩ hph hph (show 0 + 0 = 0 from rfl) (by decide) (fun rh6 Lh6 clh6 lnh6 ivh6 rvh6 h6 => ?_)
                  obtain ⟨f6, rfl, rfl, rfl, rfl, rfl, fl6, W8, rgf6, exf6, kp11f6, kp12f6, kp13f6, kp14f6, kp15f6, kp16f6⟩ := h6
                  refine hv7 (show 1 ≤ ivb1 a0 11 ∧ ivb1 a0 11 ≤ 100 from Wb1.int t_a0 11) (show 1 ≤ ivb1 a0 12 ∧ ivb1 a0 12 ≤ 50 from Wb1.int t_a0 12) (show (-2147483648) ≤ ivb1 a0 13 ∧ ivb1 a0 13 ≤ 2147483647 from Wb1.int t_a0 13) (show (-2147483648) ≤ ivb1 a0 14 ∧ ivb1 a0 14 ≤ 2147483647 from Wb1.int t_a0 14) (show (-2147483648) ≤ ivb1 a0 15 ∧ ivb1 a0 15 ≤ 2147483647 from Wb1.int t_a0 15) (show (-2147483648) ≤ ivb1 a0 16 ∧ ivb1 a0 16 ≤ 2147483647 from Wb1.int t_a0 16) (Fb1.call hX0 fl6 rfl) (fun ri38 ri39 ri40 ri41 ri42 ri43 F6 => ?_)
                  refine c_st (st2 := [.int (iI f6)]) rfl ?_
                  refine hv13 (show ivh6 a0 11 = ivb1 a0 11 from kp11f6) (show ivh6 a0 12 = ivb1 a0 12 from kp12f6) (show ivh6 a0 13 = ivb1 a0 13 from kp13f6) (show ivh6 a0 14 = ivb1 a0 14 from kp14f6) (show ivh6 a0 15 = ivb1 a0 15 from kp15f6) (show ivh6 a0 16 = ivb1 a0 16 from kp16f6) (show f6 = -1 from exf6) (show 1 ≤ ivh6 a0 11 ∧ ivh6 a0 11 ≤ 100 from W8.int t_a0 11) (show 1 ≤ ivh6 a0 12 ∧ ivh6 a0 12 ≤ 50 from W8.int t_a0 12) (show (-2147483648) ≤ ivh6 a0 13 ∧ ivh6 a0 13 ≤ 2147483647 from W8.int t_a0 13) (show (-2147483648) ≤ ivh6 a0 14 ∧ ivh6 a0 14 ≤ 2147483647 from W8.int t_a0 14) (show (-2147483648) ≤ ivh6 a0 16 ∧ ivh6 a0 16 ≤ 2147483647 from W8.int t_a0 16) (show (-2147483648) ≤ ivh6 a0 15 ∧ ivh6 a0 15 ≤ 2147483647 from W8.int t_a0 15) (fun gk11f6 gk12f6 gk13f6 gk14f6 gk15f6 gk16f6 gf6 ri44 ri45 ri46 ri47 ri48 ri49 => ?_)
                  exact c_iret C dX11_copyLines_92 rfl (by decide) (rom0 hph hph (by decide)) ⟨f6, rfl, rfl, rfl, rfl, rfl, F6, W8, ⟨by omega, by omega⟩, trivial, (by omega), (by omega), (by omega), (by omega), (by omega), (CPP.stop hT hsA Wb1 tsA fl6 ⟨by omega, by omega⟩ (by omega) (by omega) (by omega) (Or.inr (Or.inr ⟨_, gaf2, by omega⟩)))⟩
              · subst oq2
                refine c_lv (lv2 := [(6, .null), (5, .ref ob1), (4, .int (iI k)), (0, .ref a0), (1, .int (iI i)), (2, .int (iI j)), (3, .int (iI n))]) [0, 1, 2, 3, 4, 5, 6] rfl ?_
                refine c_st (st2 := []) rfl ?_
                refine c_aload_n (j := 3) (x := a0) C dX11_copyLines_73 rfl ?_
                refine c_iconst C dX11_copyLines_74 ?_
                refine d_callV (As := [.int (iI 2)]) (rest := []) C hM (C_refuse (a0 := a0) (x := 2) Wb1 hS t_a0 ⟨by decide, by decide⟩ ) dX11_copyLines_75 kV_X11_102 rfl t_a0 rfl rfl (by decide) ck_12 rfl (Nat.le_of_ble_eq_true rfl) ⟨(Nat.le_of_ble_eq_true rfl), (Nat.le_of_ble_eq_true rfl)⟩ hph hph (show 0 + 0 = 0 from rfl) (by decide) (fun rh7 Lh7 clh7 lnh7 ivh7 rvh7 h7 => ?_)
                obtain ⟨f7, rfl, rfl, rfl, rfl, rfl, fl7, W9, rgf7, exf7, kp11f7, kp12f7, kp13f7, kp14f7, kp15f7, kp16f7⟩ := h7
                refine hv7 (show 1 ≤ ivb1 a0 11 ∧ ivb1 a0 11 ≤ 100 from Wb1.int t_a0 11) (show 1 ≤ ivb1 a0 12 ∧ ivb1 a0 12 ≤ 50 from Wb1.int t_a0 12) (show (-2147483648) ≤ ivb1 a0 13 ∧ ivb1 a0 13 ≤ 2147483647 from Wb1.int t_a0 13) (show (-2147483648) ≤ ivb1 a0 14 ∧ ivb1 a0 14 ≤ 2147483647 from Wb1.int t_a0 14) (show (-2147483648) ≤ ivb1 a0 15 ∧ ivb1 a0 15 ≤ 2147483647 from Wb1.int t_a0 15) (show (-2147483648) ≤ ivb1 a0 16 ∧ ivb1 a0 16 ≤ 2147483647 from Wb1.int t_a0 16) (Fb1.call hX0 fl7 rfl) (fun ri50 ri51 ri52 ri53 ri54 ri55 F7 => ?_)
                refine c_st (st2 := [.int (iI f7)]) rfl ?_
                refine hv13 (show ivh7 a0 11 = ivb1 a0 11 from kp11f7) (show ivh7 a0 12 = ivb1 a0 12 from kp12f7) (show ivh7 a0 13 = ivb1 a0 13 from kp13f7) (show ivh7 a0 14 = ivb1 a0 14 from kp14f7) (show ivh7 a0 15 = ivb1 a0 15 from kp15f7) (show ivh7 a0 16 = ivb1 a0 16 from kp16f7) (show f7 = -1 from exf7) (show 1 ≤ ivh7 a0 11 ∧ ivh7 a0 11 ≤ 100 from W9.int t_a0 11) (show 1 ≤ ivh7 a0 12 ∧ ivh7 a0 12 ≤ 50 from W9.int t_a0 12) (show (-2147483648) ≤ ivh7 a0 13 ∧ ivh7 a0 13 ≤ 2147483647 from W9.int t_a0 13) (show (-2147483648) ≤ ivh7 a0 14 ∧ ivh7 a0 14 ≤ 2147483647 from W9.int t_a0 14) (show (-2147483648) ≤ ivh7 a0 16 ∧ ivh7 a0 16 ≤ 2147483647 from W9.int t_a0 16) (show (-2147483648) ≤ ivh7 a0 15 ∧ ivh7 a0 15 ≤ 2147483647 from W9.int t_a0 15) (fun gk11f7 gk12f7 gk13f7 gk14f7 gk15f7 gk16f7 gf7 ri56 ri57 ri58 ri59 ri60 ri61 => ?_)
                exact c_iret C dX11_copyLines_78 rfl (by decide) (rom0 hph hph (by decide)) ⟨f7, rfl, rfl, rfl, rfl, rfl, F7, W9, ⟨by omega, by omega⟩, trivial, (by omega), (by omega), (by omega), (by omega), (by omega), (CPP.stop hT hsA Wb1 tsA fl7 ⟨by omega, by omega⟩ (by omega) (by omega) (by omega) (Or.inr (Or.inl gaf3)))⟩
      refine hv12 (show (-2147483648) ≤ iv1 a0 15 ∧ iv1 a0 15 ≤ 2147483647 from W1.int t_a0 15) (show iv1 a0 15 = 0 from by rw [pq1]; exact up2_s) (show 1 ≤ iv1 a0 11 ∧ iv1 a0 11 ≤ 100 from W1.int t_a0 11) (show iv1 a0 11 = iv a0 11 from by rw [pq1]; exact up2_j (by decide)) (show 1 ≤ iv1 a0 12 ∧ iv1 a0 12 ≤ 50 from W1.int t_a0 12) (show iv1 a0 12 = iv a0 12 from by rw [pq1]; exact up2_j (by decide)) (show (-2147483648) ≤ iv1 a0 13 ∧ iv1 a0 13 ≤ 2147483647 from W1.int t_a0 13) (show iv1 a0 13 = iv a0 13 from by rw [pq1]; exact up2_j (by decide)) (show (-2147483648) ≤ iv1 a0 14 ∧ iv1 a0 14 ≤ 2147483647 from W1.int t_a0 14) (show iv1 a0 14 = iv a0 14 from by rw [pq1]; exact up2_j (by decide)) (show (-2147483648) ≤ iv1 a0 16 ∧ iv1 a0 16 ≤ 2147483647 from W1.int t_a0 16) (show iv1 a0 16 = iv a0 16 from by rw [pq1]; exact up2_j (by decide)) (fun ri62 ie72 ri63 ie73 ri64 ie74 ri65 ie75 ri66 ie76 ri67 ie77 => ?_)
      refine c_lv (lv2 := [(4, .int (iI 0)), (0, .ref a0), (1, .int (iI i)), (2, .int (iI j)), (3, .int (iI n))]) [0, 1, 2, 3, 4] rfl ?_
      exact Lp1 203 0 _ (by omega) W1 F1  (by omega) (by show iv1 a0 15 = 0; omega) (CPP.zero hsA hW tsA t_a0 pq1 rfl) (by show iv1 a0 11 = iv a0 11; omega) (by show iv1 a0 12 = iv a0 12; omega) (by show iv1 a0 13 = iv a0 13; omega) (by show iv1 a0 14 = iv a0 14; omega) (by show iv1 a0 16 = iv a0 16; omega)
    · refine c_aload_n (j := 0) (x := a0) C dX11_copyLines_17 rfl ?_
      refine c_iconst C dX11_copyLines_18 ?_
      refine d_callV (As := [.int (iI 5)]) (rest := []) C hM (C_refuse (a0 := a0) (x := 5) hW hS t_a0 ⟨by decide, by decide⟩ ) dX11_copyLines_19 kV_X11_102 rfl t_a0 rfl rfl (by decide) ck_12 rfl (Nat.le_of_ble_eq_true rfl) ⟨(Nat.le_of_ble_eq_true rfl), (Nat.le_of_ble_eq_true rfl)⟩ hph hph (show 0 + 0 = 0 from rfl) (by decide) (fun rh8 Lh8 clh8 lnh8 ivh8 rvh8 h8 => ?_)
      obtain ⟨f8, rfl, rfl, rfl, rfl, rfl, fl8, W10, rgf8, exf8, kp11f8, kp12f8, kp13f8, kp14f8, kp15f8, kp16f8⟩ := h8
      refine hv6 (show 1 ≤ iv a0 11 ∧ iv a0 11 ≤ 100 from hW.int t_a0 11) (show 1 ≤ iv a0 12 ∧ iv a0 12 ≤ 50 from hW.int t_a0 12) (show (-2147483648) ≤ iv a0 13 ∧ iv a0 13 ≤ 2147483647 from hW.int t_a0 13) (show (-2147483648) ≤ iv a0 14 ∧ iv a0 14 ≤ 2147483647 from hW.int t_a0 14) (show (-2147483648) ≤ iv a0 16 ∧ iv a0 16 ≤ 2147483647 from hW.int t_a0 16) (hF0.call hX0 fl8 rfl) (fun ri68 ri69 ri70 ri71 ri72 F8 => ?_)
      refine c_st (st2 := [.int (iI f8)]) rfl ?_
      refine hv13 (show ivh8 a0 11 = iv a0 11 from kp11f8) (show ivh8 a0 12 = iv a0 12 from kp12f8) (show ivh8 a0 13 = iv a0 13 from kp13f8) (show ivh8 a0 14 = iv a0 14 from kp14f8) (show ivh8 a0 15 = iv a0 15 from kp15f8) (show ivh8 a0 16 = iv a0 16 from kp16f8) (show f8 = -1 from exf8) (show 1 ≤ ivh8 a0 11 ∧ ivh8 a0 11 ≤ 100 from W10.int t_a0 11) (show 1 ≤ ivh8 a0 12 ∧ ivh8 a0 12 ≤ 50 from W10.int t_a0 12) (show (-2147483648) ≤ ivh8 a0 13 ∧ ivh8 a0 13 ≤ 2147483647 from W10.int t_a0 13) (show (-2147483648) ≤ ivh8 a0 14 ∧ ivh8 a0 14 ≤ 2147483647 from W10.int t_a0 14) (show (-2147483648) ≤ ivh8 a0 16 ∧ ivh8 a0 16 ≤ 2147483647 from W10.int t_a0 16) (show (-2147483648) ≤ ivh8 a0 15 ∧ ivh8 a0 15 ≤ 2147483647 from W10.int t_a0 15) (fun gk11f8 gk12f8 gk13f8 gk14f8 gk15f8 gk16f8 gf8 ri73 ri74 ri75 ri76 ri77 ri78 => ?_)
      exact c_iret C dX11_copyLines_22 rfl (by decide) (rom0 hph hph (by decide)) ⟨f8, rfl, rfl, rfl, rfl, rfl, F8, W10, ⟨by omega, by omega⟩, trivial, (by omega), (by omega), (by omega), (by omega), (by omega), (CPP.bad hsA hW tsA fl8 (by omega) (by omega) (by omega))⟩
  · refine c_aload_n (j := 0) (x := a0) C dX11_copyLines_6 rfl ?_
    refine c_bipush (z := 6) C dX11_copyLines_7 (by decide) ?_
    refine d_callV (As := [.int (iI 6)]) (rest := []) C hM (C_refuse (a0 := a0) (x := 6) hW hS t_a0 ⟨by decide, by decide⟩ ) dX11_copyLines_9 kV_X11_102 rfl t_a0 rfl rfl (by decide) ck_12 rfl (Nat.le_of_ble_eq_true rfl) ⟨(Nat.le_of_ble_eq_true rfl), (Nat.le_of_ble_eq_true rfl)⟩ hph hph (show 0 + 0 = 0 from rfl) (by decide) (fun rh9 Lh9 clh9 lnh9 ivh9 rvh9 h9 => ?_)
    obtain ⟨f9, rfl, rfl, rfl, rfl, rfl, fl9, W11, rgf9, exf9, kp11f9, kp12f9, kp13f9, kp14f9, kp15f9, kp16f9⟩ := h9
    refine hv6 (show 1 ≤ iv a0 11 ∧ iv a0 11 ≤ 100 from hW.int t_a0 11) (show 1 ≤ iv a0 12 ∧ iv a0 12 ≤ 50 from hW.int t_a0 12) (show (-2147483648) ≤ iv a0 13 ∧ iv a0 13 ≤ 2147483647 from hW.int t_a0 13) (show (-2147483648) ≤ iv a0 14 ∧ iv a0 14 ≤ 2147483647 from hW.int t_a0 14) (show (-2147483648) ≤ iv a0 16 ∧ iv a0 16 ≤ 2147483647 from hW.int t_a0 16) (hF0.call hX0 fl9 rfl) (fun ri79 ri80 ri81 ri82 ri83 F9 => ?_)
    refine c_st (st2 := [.int (iI f9)]) rfl ?_
    refine hv13 (show ivh9 a0 11 = iv a0 11 from kp11f9) (show ivh9 a0 12 = iv a0 12 from kp12f9) (show ivh9 a0 13 = iv a0 13 from kp13f9) (show ivh9 a0 14 = iv a0 14 from kp14f9) (show ivh9 a0 15 = iv a0 15 from kp15f9) (show ivh9 a0 16 = iv a0 16 from kp16f9) (show f9 = -1 from exf9) (show 1 ≤ ivh9 a0 11 ∧ ivh9 a0 11 ≤ 100 from W11.int t_a0 11) (show 1 ≤ ivh9 a0 12 ∧ ivh9 a0 12 ≤ 50 from W11.int t_a0 12) (show (-2147483648) ≤ ivh9 a0 13 ∧ ivh9 a0 13 ≤ 2147483647 from W11.int t_a0 13) (show (-2147483648) ≤ ivh9 a0 14 ∧ ivh9 a0 14 ≤ 2147483647 from W11.int t_a0 14) (show (-2147483648) ≤ ivh9 a0 16 ∧ ivh9 a0 16 ≤ 2147483647 from W11.int t_a0 16) (show (-2147483648) ≤ ivh9 a0 15 ∧ ivh9 a0 15 ≤ 2147483647 from W11.int t_a0 15) (fun gk11f9 gk12f9 gk13f9 gk14f9 gk15f9 gk16f9 gf9 ri84 ri85 ri86 ri87 ri88 ri89 => ?_)
    exact c_iret C dX11_copyLines_12 rfl (by decide) (rom0 hph hph (by decide)) ⟨f9, rfl, rfl, rfl, rfl, rfl, F9, W11, ⟨by omega, by omega⟩, trivial, (by omega), (by omega), (by omega), (by omega), (by omega), (CPP.bad hsA hW tsA fl9 (by omega) (by omega) (by omega))⟩
set_option maxHeartbeats 4000000 in
set_option maxRecDepth 100000 in
theorem G_dots {l : Launch} {G : GT} {mi : Nat} {sk : Nat → Nat} {L : List Nat} {cl ln : Nat → Nat} {iv : Nat → Nat → Int} {rv : Nat → Nat → Option Nat}  {a0 : Nat} (hW : WT (g0 G) sk L cl ln iv rv) (hS : SKL sk L cl) (t_a0 : ty L cl a0 19)  : Mc l G mi (Phi (g0 G) sk) PHM yX2_dots cX2_dots 3 (some .int) 1 [.ref a0] L cl ln iv rv 0 (fun v L2 cl2 ln2 iv2 rv2 => ∃ f : Int, v = some (.int (iI f)) ∧ L = L2 ∧ cl = cl2 ∧ ln = ln2 ∧ iv = iv2 ∧ rv = rv2 ∧ (-2147483648 ≤ f ∧ f ≤ 2147483647) ∧ (DTX iv rv a0 f)) := by
  refine Mc.mk (by decide) (Nat.le_of_ble_eq_true rfl) ?_
  intro p e s m args below meth c A C hM
  refine hv4 (Phi.le hW hS) (show XT L cl ln L cl ln from XT.refl) (show fT [] L cl iv rv iv rv from fT.refl) (show 0 ≤ iv a0 1 ∧ iv a0 1 ≤ 200 from hW.int t_a0 1) (fun hph hX0 hF0 ri1 => ?_)
  refine c_iconst C dX2_dots_0 ?_
  refine c_istore_n (lv2 := [(1, .int (iI 0)), (0, .ref a0)]) C dX2_dots_1 (by decide) rfl ?_
  refine c_iconst C dX2_dots_2 ?_
  refine c_istore_n (lv2 := [(2, .int (iI 0)), (1, .int (iI 0)), (0, .ref a0)]) C dX2_dots_3 (by decide) rfl ?_
  have Lp1 : ∀ (nn : Nat) (s1 k : Int) , 201 - k < (nn : Int) → (-2147483648 ≤ s1 ∧ s1 ≤ 2147483647) → (0 ≤ k ∧ k ≤ iv a0 1) → (DTK iv rv a0 k s1) → cw p l e 1 ((PHM) + 0 - ((Phi (g0 G) sk) ln rv)) s m args below meth c G A 3 (MQ below (Qu G A (Qp G (Phi (g0 G) sk) ((Phi (g0 G) sk) ln rv) 0 (fun v L2 cl2 ln2 iv2 rv2 => ∃ f : Int, v = some (.int (iI f)) ∧ L = L2 ∧ cl = cl2 ∧ ln = ln2 ∧ iv = iv2 ∧ rv = rv2 ∧ (-2147483648 ≤ f ∧ f ≤ 2147483647) ∧ (DTX iv rv a0 f)))) args s (((PHM) + 0 - ((Phi (g0 G) sk) ln rv)) / 16) ((PHM) + 0 - ((Phi (g0 G) sk) ln rv)) A) (Phi (g0 G) sk) ((Phi (g0 G) sk) ln rv) L cl ln iv rv 0 4 [(2, .int (iI k)), (1, .int (iI s1)), (0, .ref a0)] [] := by
    intro nn
    induction nn with
    | zero =>
      intro  s1 k  hm   hs hk hD
      exact absurd hm (by omega)
    | succ nn ih1 =>
      intro  s1 k  hm   hs hk hD
      refine c_iload_n (j := 0) C dX2_dots_4 rfl ?_
      refine c_aload_n (j := 2) (x := a0) C dX2_dots_5 rfl ?_
      refine c_get (k := 1) C ck_3 dX2_dots_6 w4_49 (by decide) t_a0 rfl rfl (by decide) rfl ?_
      refine c_icmp_ge (tgt := 30) C ⟨by omega, by omega⟩ (r32_c (lo := 0) (hi := 200) ri1.1 ri1.2 (by decide) (by decide)) dX2_dots_9 (by decide) (fun c1 => ?_) (fun c1 => ?_)
      · refine c_iload_n (j := 1) C dX2_dots_30 rfl ?_
        exact c_iret C dX2_dots_31 rfl (by decide) (rom0 hph hph (by decide)) ⟨s1, rfl, rfl, rfl, rfl, rfl, rfl, ⟨by omega, by omega⟩, (DTX.fin hD (by omega))⟩
      · refine c_iload_n (j := 1) C dX2_dots_12 rfl ?_
        refine c_aload_n (j := 2) (x := a0) C dX2_dots_13 rfl ?_
        obtain ⟨rb1, rq1, trb1⟩ := hW.ref t_a0 0 rfl rfl rfl
        have lnrb1 : 200 ≤ ln rb1 ∧ ln rb1 ≤ 200 := hW.len trb1 rfl
        refine c_getr (k := 0) C ck_3 dX2_dots_14 w4_44 (by decide) t_a0 rfl rfl (by decide) rfl rq1 ?_
        refine c_st (st2 := [.ref rb1, .int (iI s1)]) rfl ?_
        refine c_iload_n (j := 0) C dX2_dots_17 rfl ?_
        have ll1 : 200 ≤ ln rb1 ∧ ln rb1 ≤ 200 := hW.len trb1 rfl
        refine c_iald C dX2_dots_18 trb1 rfl (by omega) (by omega) (by omega) ?_
        have ri2 : (-2147483648) ≤ iv rb1 k.toNat ∧ iv rb1 k.toNat ≤ 2147483647 := hW.int trb1 k.toNat
        refine c_callS0 (As := [.int (iI (iv rb1 k.toNat))]) (rest := [.int (iI s1)]) C (fun L E => s_bitCount (iI (iv rb1 k.toNat))) dX2_dots_19 kS_X2_42 rfl rfl (Nat.le_of_ble_eq_true rfl) ⟨(Nat.le_of_ble_eq_true rfl), (Nat.le_of_ble_eq_true rfl)⟩ (rom0 hph hph (by decide)) ?_
        obtain ⟨zz1, hzz1, ezz1⟩ := iI_of (bcn (iI (iv rb1 k.toNat)))
        refine c_st (st2 := [.int (iI zz1), .int (iI s1)]) (by rw [ezz1]) ?_
        refine c_iadd C dX2_dots_22 ?_
        obtain ⟨zz2, hzz2, ezz2⟩ := iI_of (iI (s1 + zz1))
        refine c_st (st2 := [.int (iI zz2)]) (by rw [ezz2]) ?_
        refine c_istore_n (lv2 := [(1, .int (iI zz2)), (2, .int (iI k)), (0, .ref a0)]) C dX2_dots_23 (by decide) rfl ?_
        refine c_iinc (z := k) (j := 1) (lv2 := [(2, .int (iI (k + 1))), (1, .int (iI zz2)), (0, .ref a0)]) C dX2_dots_24 rfl (by decide) rfl ?_
        refine c_goto (tgt := 4) C dX2_dots_27 (by decide) ?_
        refine c_lv (lv2 := [(2, .int (iI (k + 1))), (1, .int (iI zz2)), (0, .ref a0)]) [0, 1, 2] rfl ?_
        exact ih1  zz2 (k + 1)  (by omega)   (by omega) (by omega) (hD.step rq1 (by omega) ezz1 ezz2)
  refine c_lv (lv2 := [(2, .int (iI 0)), (1, .int (iI 0)), (0, .ref a0)]) [0, 1, 2] rfl ?_
  exact Lp1 203 0 0  (by omega)   (by omega) (by omega) (DTK.zero rfl rfl)
set_option maxHeartbeats 4000000 in
set_option maxRecDepth 100000 in
theorem G_emboss {l : Launch} {G : GT} {mi : Nat} {sk : Nat → Nat} {L : List Nat} {cl ln : Nat → Nat} {iv : Nat → Nat → Int} {rv : Nat → Nat → Option Nat}  {a0 : Nat} {i : Int} {n : Int} (hW : WT (g0 G) sk L cl ln iv rv) (hS : SKL sk L cl) (t_a0 : ty L cl a0 1) (h_i : -2147483648 ≤ i ∧ i ≤ 2147483647) (h_n : -2147483648 ≤ n ∧ n ≤ 2147483647)  : Mc l G mi (Phi (g0 G) sk) PHM yX11_emboss cX11_emboss 6 (some .int) 2 [.ref a0, .int (iI i), .int (iI n)] L cl ln iv rv 0 (fun v L2 cl2 ln2 iv2 rv2 => ∃ f : Int, v = some (.int (iI f)) ∧ L = L2 ∧ cl = cl2 ∧ ln = ln2 ∧ rv = rv2 ∧ fT [1] L cl iv rv iv2 rv2 ∧ WT (g0 G) sk L2 cl2 ln2 iv2 rv2 ∧ (-2147483648 ≤ f ∧ f ≤ 2147483647) ∧ (True) ∧ iv2 a0 11 = iv a0 11 ∧ iv2 a0 12 = iv a0 12 ∧ iv2 a0 13 = iv a0 13 ∧ iv2 a0 14 = iv a0 14 ∧ iv2 a0 15 = iv a0 15 ∧ (EPX iv rv iv2 a0 i n (iv a0 11) f)) := by
  refine Mc.mk (by decide) (Nat.le_of_ble_eq_true rfl) ?_
  intro p e s m args below meth c A C hM
  refine hv3 (Phi.le hW hS) (show XT L cl ln L cl ln from XT.refl) (show fT [1] L cl iv rv iv rv from fT.refl) (fun hph hX0 hF0 => ?_)
  obtain ⟨sA, hsA, tsA⟩ := hW.ref t_a0 9 rfl rfl rfl
  refine hv3 (show 0 ≤ iv sA 1 ∧ iv sA 1 ≤ 200 from hW.int tsA 1) (show (-2147483648) ≤ iv a0 16 ∧ iv a0 16 ≤ 2147483647 from hW.int t_a0 16) (show 1 ≤ iv a0 11 ∧ iv a0 11 ≤ 100 from hW.int t_a0 11) (fun ri1 ri2 ri3 => ?_)
  refine c_iload_n (j := 2) C dX11_emboss_0 rfl ?_
  refine c_sipush (z := 200) C dX11_emboss_1 (by decide) ?_
  refine c_icmp_le (tgt := 14) C ⟨by omega, by omega⟩ ⟨by decide, by decide⟩ dX11_emboss_4 (by decide) (fun c1 => ?_) (fun c1 => ?_)
  · refine c_iload_n (j := 2) C dX11_emboss_14 rfl ?_
    refine c_if_ge (tgt := 24) C ⟨by omega, by omega⟩ dX11_emboss_15 (by decide) (fun c2 => ?_) (fun c2 => ?_)
    · refine c_iconst C dX11_emboss_24 ?_
      refine c_istore_n (lv2 := [(3, .int (iI 0)), (0, .ref a0), (1, .int (iI i)), (2, .int (iI n))]) C dX11_emboss_25 (by decide) rfl ?_
      refine c_iconst C dX11_emboss_26 ?_
      refine c_istore (lv2 := [(4, .int (iI 0)), (3, .int (iI 0)), (0, .ref a0), (1, .int (iI i)), (2, .int (iI n))]) C dX11_emboss_27 (by decide) rfl ?_
      have Lp1 : ∀ (nn : Nat) (s1 k : Int) (ivb1 : Nat → Nat → Int) , 201 - k < (nn : Int) → WT (g0 G) sk L cl ln ivb1 rv → fT [1] L cl iv rv ivb1 rv → (-2147483648 ≤ s1 ∧ s1 ≤ 2147483647) → (0 ≤ k ∧ k ≤ n ∧ n ≤ 200) → (iI (ivb1 a0 16) = iI (iv a0 16) + iI k) → (EP1 iv rv a0 i (iv a0 11) k s1) → (ivb1 a0 11 = iv a0 11) → (ivb1 a0 12 = iv a0 12) → (ivb1 a0 13 = iv a0 13) → (ivb1 a0 14 = iv a0 14) → (ivb1 a0 15 = iv a0 15) → cw p l e 2 ((PHM) + 0 - ((Phi (g0 G) sk) ln rv)) s m args below meth c G A 6 (MQ below (Qu G A (Qp G (Phi (g0 G) sk) ((Phi (g0 G) sk) ln rv) 0 (fun v L2 cl2 ln2 iv2 rv2 => ∃ f : Int, v = some (.int (iI f)) ∧ L = L2 ∧ cl = cl2 ∧ ln = ln2 ∧ rv = rv2 ∧ fT [1] L cl iv rv iv2 rv2 ∧ WT (g0 G) sk L2 cl2 ln2 iv2 rv2 ∧ (-2147483648 ≤ f ∧ f ≤ 2147483647) ∧ (True) ∧ iv2 a0 11 = iv a0 11 ∧ iv2 a0 12 = iv a0 12 ∧ iv2 a0 13 = iv a0 13 ∧ iv2 a0 14 = iv a0 14 ∧ iv2 a0 15 = iv a0 15 ∧ (EPX iv rv iv2 a0 i n (iv a0 11) f)))) args s (((PHM) + 0 - ((Phi (g0 G) sk) ln rv)) / 16) ((PHM) + 0 - ((Phi (g0 G) sk) ln rv)) A) (Phi (g0 G) sk) ((Phi (g0 G) sk) ln rv) L cl ln ivb1 rv 0 29 [(3, .int (iI s1)), (4, .int (iI k)), (0, .ref a0), (1, .int (iI i)), (2, .int (iI n))] [] := by
        intro nn
        induction nn with
        | zero =>
          intro  s1 k ivb1 hm Wb1 Fb1  hs hk h16 hE hkp11 hkp12 hkp13 hkp14 hkp15
          exact absurd hm (by omega)
        | succ nn ih1 =>
          intro  s1 k ivb1 hm Wb1 Fb1  hs hk h16 hE hkp11 hkp12 hkp13 hkp14 hkp15
          refine hv2 (show (-2147483648) ≤ ivb1 a0 16 ∧ ivb1 a0 16 ≤ 2147483647 from Wb1.int t_a0 16) (show 1 ≤ ivb1 a0 11 ∧ ivb1 a0 11 ≤ 100 from Wb1.int t_a0 11) (fun ri4 ri5 => ?_)
          refine c_iload (j := 1) C dX11_emboss_29 rfl ?_
          refine c_iload_n (j := 4) C dX11_emboss_31 rfl ?_
          refine c_icmp_ge (tgt := 121) C ⟨by omega, by omega⟩ ⟨by omega, by omega⟩ dX11_emboss_32 (by decide) (fun c3 => ?_) (fun c3 => ?_)
          · refine c_aload_n (j := 2) (x := a0) C dX11_emboss_121 rfl ?_
            refine c_iload_n (j := 0) C dX11_emboss_122 rfl ?_
            refine d_callV (As := [.int (iI s1)]) (rest := []) C hM (C_done (a0 := a0) (x := s1) Wb1 hS t_a0 (by omega) ) dX11_emboss_123 kV_X11_109 rfl t_a0 rfl rfl (by decide) ck_12 rfl (Nat.le_of_ble_eq_true rfl) ⟨(Nat.le_of_ble_eq_true rfl), (Nat.le_of_ble_eq_true rfl)⟩ hph hph (show 0 + 0 = 0 from rfl) (by decide) (fun rh1 Lh1 clh1 lnh1 ivh1 rvh1 h1 => ?_)
            obtain ⟨f1, rfl, rfl, rfl, rfl, rfl, fl1, W1, rgf1, exf1, kp11f1, kp12f1, kp13f1, kp14f1, kp15f1, kp16f1⟩ := h1
            refine hv5 (show 1 ≤ ivb1 a0 12 ∧ ivb1 a0 12 ≤ 50 from Wb1.int t_a0 12) (show (-2147483648) ≤ ivb1 a0 13 ∧ ivb1 a0 13 ≤ 2147483647 from Wb1.int t_a0 13) (show (-2147483648) ≤ ivb1 a0 14 ∧ ivb1 a0 14 ≤ 2147483647 from Wb1.int t_a0 14) (show (-2147483648) ≤ ivb1 a0 15 ∧ ivb1 a0 15 ≤ 2147483647 from Wb1.int t_a0 15) (Fb1.call hX0 fl1 rfl) (fun ri6 ri7 ri8 ri9 F1 => ?_)
            refine c_st (st2 := [.int (iI f1)]) rfl ?_
            refine hv13 (show ivh1 a0 11 = ivb1 a0 11 from kp11f1) (show ivh1 a0 12 = ivb1 a0 12 from kp12f1) (show ivh1 a0 13 = ivb1 a0 13 from kp13f1) (show ivh1 a0 14 = ivb1 a0 14 from kp14f1) (show ivh1 a0 15 = ivb1 a0 15 from kp15f1) (show ivh1 a0 16 = ivb1 a0 16 from kp16f1) (show f1 = s1 from exf1) (show 1 ≤ ivh1 a0 11 ∧ ivh1 a0 11 ≤ 100 from W1.int t_a0 11) (show 1 ≤ ivh1 a0 12 ∧ ivh1 a0 12 ≤ 50 from W1.int t_a0 12) (show (-2147483648) ≤ ivh1 a0 13 ∧ ivh1 a0 13 ≤ 2147483647 from W1.int t_a0 13) (show (-2147483648) ≤ ivh1 a0 14 ∧ ivh1 a0 14 ≤ 2147483647 from W1.int t_a0 14) (show (-2147483648) ≤ ivh1 a0 15 ∧ ivh1 a0 15 ≤ 2147483647 from W1.int t_a0 15) (show (-2147483648) ≤ ivh1 a0 16 ∧ ivh1 a0 16 ≤ 2147483647 from W1.int t_a0 16) (fun gk11f1 gk12f1 gk13f1 gk14f1 gk15f1 gk16f1 gf1 ri10 ri11 ri12 ri13 ri14 ri15 => ?_)
            exact c_iret C dX11_emboss_126 rfl (by decide) (rom0 hph hph (by decide)) ⟨f1, rfl, rfl, rfl, rfl, rfl, F1, W1, ⟨by omega, by omega⟩, trivial, (by omega), (by omega), (by omega), (by omega), (by omega), (EPX.ok hE (by omega) ⟨by omega, by omega⟩ (by omega) (by rw [show ivh1 a0 16 = ivb1 a0 16 by omega]; exact h16))⟩
          · refine c_aload_n (j := 2) (x := a0) C dX11_emboss_35 rfl ?_
            refine c_dup C dX11_emboss_36 rfl ?_
            refine c_get (k := 16) C ck_12 dX11_emboss_37 w2_60 (by decide) t_a0 rfl rfl (by decide) rfl ?_
            refine c_iconst C dX11_emboss_40 ?_
            refine c_iadd C dX11_emboss_41 ?_
            obtain ⟨zz1, hzz1, ezz1⟩ := iI_of (iI ((ivb1 a0 16) + 1))
            refine c_st (st2 := [.int (iI zz1), .ref a0]) (by rw [ezz1]) ?_
            refine c_put (z := zz1) (k := 16) C ck_12 dX11_emboss_42 w2_60 (by decide) rfl t_a0 rfl rfl (by decide) rfl (by rfl) (by rfl) (fun iv1 pq1 => ?_)
            refine hv2 (Wb1.puti pq1 t_a0 (show (-2147483648) ≤ zz1 ∧ zz1 ≤ 2147483647 by omega) rfl) (Fb1.puti hX0 pq1 t_a0 rfl) (fun W2 F2 => ?_)
            refine c_aload_n (j := 2) (x := a0) C dX11_emboss_45 rfl ?_
            refine c_getr (k := 9) C ck_12 dX11_emboss_46 w2_53 (by decide) t_a0 rfl rfl (by decide) rfl hsA ?_
            refine c_st (st2 := [.ref sA]) rfl ?_
            refine c_iload_n (j := 3) C dX11_emboss_49 rfl ?_
            refine c_iload (j := 1) C dX11_emboss_50 rfl ?_
            refine c_iadd C dX11_emboss_52 ?_
            obtain ⟨zz2, hzz2, ezz2⟩ := iI_of (iI (i + k))
            refine c_st (st2 := [.int (iI zz2), .ref sA]) (by rw [ezz2]) ?_
            refine hv3 (show 0 ≤ iv1 sA 1 ∧ iv1 sA 1 ≤ 200 from W2.int tsA 1) (show iv1 sA 1 = ivb1 sA 1 from by rw [pq1]; exact up2_k (ne_ty tsA t_a0 (by decide))) (show ivb1 sA 1 = iv sA 1 from Fb1.i tsA rfl 1) (fun ri16 ie13 ie14 => ?_)
            refine d_callV (As := [.int (iI zz2)]) (rest := []) C hM (G_sat (a0 := sA) (i := zz2) W2 hS tsA (by omega) ) dX11_emboss_53 kV_X11_308 rfl tsA rfl rfl (by decide) ck_8 rfl (Nat.le_of_ble_eq_true rfl) ⟨(Nat.le_of_ble_eq_true rfl), (Nat.le_of_ble_eq_true rfl)⟩ hph hph (show 0 + 0 = 0 from rfl) (by decide) (fun rh2 Lh2 clh2 lnh2 ivh2 rvh2 h2 => ?_)
            obtain ⟨f2, rfl, rfl, rfl, rfl, rfl, rfl, rgf2, exf2⟩ := h2
            refine c_st (st2 := [(va_rf f2)]) rfl ?_
            have gf2 : SATX iv1 rv sA zz2 f2 := exf2
            have gaf2 := SATX.up (iv := iv) (SATX.wr gf2 (wr_add (x := i + k) hzz2 ⟨by omega, by omega⟩ ezz2) (by omega)) (by omega)
            refine c_astorer (r := f2) (lv2 := [(5, (va_rf f2)), (3, .int (iI s1)), (4, .int (iI k)), (0, .ref a0), (1, .int (iI i)), (2, .int (iI n))]) C dX11_emboss_56 (by decide) rfl ?_
            refine c_aloadr (j := 0) (r := f2) C dX11_emboss_58 rfl ?_
            refine c_ifnonnull (r := f2) (tgt := 69) C dX11_emboss_60 (by decide) (fun ob1 oq1 => ?_) (fun oq1 => ?_)
            · subst oq1
              have tob1 := rgf2 ob1 rfl
              refine c_lv (lv2 := [(5, .ref ob1), (3, .int (iI s1)), (4, .int (iI k)), (0, .ref a0), (1, .int (iI i)), (2, .int (iI n))]) [0, 1, 2, 3, 4, 5] rfl ?_
              refine c_st (st2 := []) rfl ?_
              refine hv8 (show 0 ≤ iv1 ob1 1 ∧ iv1 ob1 1 ≤ 200 from W2.int tob1 1) (show iv1 ob1 1 = ivb1 ob1 1 from by rw [pq1]; exact up2_k (ne_ty tob1 t_a0 (by decide))) (show ivb1 ob1 1 = iv ob1 1 from Fb1.i tob1 rfl 1) (show 0 ≤ iv1 ob1 2 ∧ iv1 ob1 2 ≤ 1 from W2.int tob1 2) (show iv1 ob1 2 = ivb1 ob1 2 from by rw [pq1]; exact up2_k (ne_ty tob1 t_a0 (by decide))) (show ivb1 ob1 2 = iv ob1 2 from Fb1.i tob1 rfl 2) (show 1 ≤ iv1 a0 11 ∧ iv1 a0 11 ≤ 100 from W2.int t_a0 11) (show iv1 a0 11 = ivb1 a0 11 from by rw [pq1]; exact up2_j (by decide)) (fun ri17 ie15 ie16 ri18 ie17 ie18 ri19 ie19 => ?_)
              refine c_aload (j := 0) (x := ob1) C dX11_emboss_69 rfl ?_
              refine c_get (k := 2) C ck_3 dX11_emboss_71 w4_56 (by decide) tob1 rfl rfl (by decide) rfl ?_
              refine c_if_ne (tgt := 95) C (r32_c (lo := 0) (hi := 1) ri18.1 ri18.2 (by decide) (by decide)) dX11_emboss_74 (by decide) (fun c4 => ?_) (fun c4 => ?_)
              · refine c_iload_n (j := 1) C dX11_emboss_95 rfl ?_
                refine c_aload (j := 0) (x := ob1) C dX11_emboss_96 rfl ?_
                refine c_get (k := 2) C ck_3 dX11_emboss_98 w4_56 (by decide) tob1 rfl rfl (by decide) rfl ?_
                refine c_if_eq (tgt := 108) C (r32_c (lo := 0) (hi := 1) ri18.1 ri18.2 (by decide) (by decide)) dX11_emboss_101 (by decide) (fun z => absurd z (by omega)) (fun _ => ?_)
                refine c_iconst C dX11_emboss_104 ?_
                refine c_goto (tgt := 113) C dX11_emboss_105 (by decide) ?_
                refine c_iadd C dX11_emboss_113 ?_
                obtain ⟨zz3, hzz3, ezz3⟩ := iI_of (iI (s1 + 0))
                refine c_st (st2 := [.int (iI zz3)]) (by rw [ezz3]) ?_
                refine c_istore_n (lv2 := [(3, .int (iI zz3)), (5, .ref ob1), (4, .int (iI k)), (0, .ref a0), (1, .int (iI i)), (2, .int (iI n))]) C dX11_emboss_114 (by decide) rfl ?_
                refine c_iinc (z := k) (j := 2) (lv2 := [(4, .int (iI (k + 1))), (3, .int (iI zz3)), (5, .ref ob1), (0, .ref a0), (1, .int (iI i)), (2, .int (iI n))]) C dX11_emboss_115 rfl (by decide) rfl ?_
                refine c_goto (tgt := 29) C dX11_emboss_118 (by decide) ?_
                refine hv10 (show (-2147483648) ≤ iv1 a0 16 ∧ iv1 a0 16 ≤ 2147483647 from W2.int t_a0 16) (show iv1 a0 16 = zz1 from by rw [pq1]; exact up2_s) (show 1 ≤ iv1 a0 12 ∧ iv1 a0 12 ≤ 50 from W2.int t_a0 12) (show iv1 a0 12 = ivb1 a0 12 from by rw [pq1]; exact up2_j (by decide)) (show (-2147483648) ≤ iv1 a0 13 ∧ iv1 a0 13 ≤ 2147483647 from W2.int t_a0 13) (show iv1 a0 13 = ivb1 a0 13 from by rw [pq1]; exact up2_j (by decide)) (show (-2147483648) ≤ iv1 a0 14 ∧ iv1 a0 14 ≤ 2147483647 from W2.int t_a0 14) (show iv1 a0 14 = ivb1 a0 14 from by rw [pq1]; exact up2_j (by decide)) (show (-2147483648) ≤ iv1 a0 15 ∧ iv1 a0 15 ≤ 2147483647 from W2.int t_a0 15) (show iv1 a0 15 = ivb1 a0 15 from by rw [pq1]; exact up2_j (by decide)) (fun ri20 ie20 ri21 ie21 ri22 ie23 ri23 ie25 ri24 ie27 => ?_)
                refine c_lv (lv2 := [(3, .int (iI zz3)), (4, .int (iI (k + 1))), (0, .ref a0), (1, .int (iI i)), (2, .int (iI n))]) [1, 0, 3, 4, 5] rfl ?_
                exact ih1  zz3 (k + 1) _ (by omega) W2 F2  (by omega) (by omega) (cnt_s h16 ezz1 (by omega)) (EP1.lck hE hsA gaf2 (by omega) (by omega) (by rw [← ezz3, Int.add_zero])) (by show iv1 a0 11 = iv a0 11; omega) (by show iv1 a0 12 = iv a0 12; omega) (by show iv1 a0 13 = iv a0 13; omega) (by show iv1 a0 14 = iv a0 14; omega) (by show iv1 a0 15 = iv a0 15; omega)
              · refine c_aload (j := 0) (x := ob1) C dX11_emboss_77 rfl ?_
                refine c_get (k := 1) C ck_3 dX11_emboss_79 w4_53 (by decide) tob1 rfl rfl (by decide) rfl ?_
                refine c_aload_n (j := 3) (x := a0) C dX11_emboss_82 rfl ?_
                refine c_get (k := 11) C ck_12 dX11_emboss_83 w2_55 (by decide) t_a0 rfl rfl (by decide) rfl ?_
                refine c_icmp_le (tgt := 95) C (r32_c (lo := 0) (hi := 200) ri17.1 ri17.2 (by decide) (by decide)) (r32_c (lo := 1) (hi := 100) ri19.1 ri19.2 (by decide) (by decide)) dX11_emboss_86 (by decide) (fun c5 => ?_) (fun c5 => ?_)
                · refine c_iload_n (j := 1) C dX11_emboss_95 rfl ?_
                  refine c_aload (j := 0) (x := ob1) C dX11_emboss_96 rfl ?_
                  refine c_get (k := 2) C ck_3 dX11_emboss_98 w4_56 (by decide) tob1 rfl rfl (by decide) rfl ?_
                  refine c_if_eq (tgt := 108) C (r32_c (lo := 0) (hi := 1) ri18.1 ri18.2 (by decide) (by decide)) dX11_emboss_101 (by decide) (fun _ => ?_) (fun z => absurd z (by omega))
                  refine c_aload (j := 0) (x := ob1) C dX11_emboss_108 rfl ?_
                  refine d_callV (As := []) (rest := [.int (iI s1)]) C hM (G_dots (a0 := ob1) W2 hS tob1  ) dX11_emboss_110 kV_X11_326 rfl tob1 rfl rfl (by decide) ck_3 rfl (Nat.le_of_ble_eq_true rfl) ⟨(Nat.le_of_ble_eq_true rfl), (Nat.le_of_ble_eq_true rfl)⟩ hph hph (show 0 + 0 = 0 from rfl) (by decide) (fun rh3 Lh3 clh3 lnh3 ivh3 rvh3 h3 => ?_)
                  obtain ⟨f3, rfl, rfl, rfl, rfl, rfl, rfl, rgf3, exf3⟩ := h3
                  refine c_st (st2 := [.int (iI f3), .int (iI s1)]) rfl ?_
                  have gf3 : DTX iv1 rv ob1 f3 := exf3
                  refine c_iadd C dX11_emboss_113 ?_
                  obtain ⟨zz4, hzz4, ezz4⟩ := iI_of (iI (s1 + f3))
                  refine c_st (st2 := [.int (iI zz4)]) (by rw [ezz4]) ?_
                  refine c_istore_n (lv2 := [(3, .int (iI zz4)), (5, .ref ob1), (4, .int (iI k)), (0, .ref a0), (1, .int (iI i)), (2, .int (iI n))]) C dX11_emboss_114 (by decide) rfl ?_
                  refine c_iinc (z := k) (j := 2) (lv2 := [(4, .int (iI (k + 1))), (3, .int (iI zz4)), (5, .ref ob1), (0, .ref a0), (1, .int (iI i)), (2, .int (iI n))]) C dX11_emboss_115 rfl (by decide) rfl ?_
                  refine c_goto (tgt := 29) C dX11_emboss_118 (by decide) ?_
                  refine hv10 (show (-2147483648) ≤ iv1 a0 16 ∧ iv1 a0 16 ≤ 2147483647 from W2.int t_a0 16) (show iv1 a0 16 = zz1 from by rw [pq1]; exact up2_s) (show 1 ≤ iv1 a0 12 ∧ iv1 a0 12 ≤ 50 from W2.int t_a0 12) (show iv1 a0 12 = ivb1 a0 12 from by rw [pq1]; exact up2_j (by decide)) (show (-2147483648) ≤ iv1 a0 13 ∧ iv1 a0 13 ≤ 2147483647 from W2.int t_a0 13) (show iv1 a0 13 = ivb1 a0 13 from by rw [pq1]; exact up2_j (by decide)) (show (-2147483648) ≤ iv1 a0 14 ∧ iv1 a0 14 ≤ 2147483647 from W2.int t_a0 14) (show iv1 a0 14 = ivb1 a0 14 from by rw [pq1]; exact up2_j (by decide)) (show (-2147483648) ≤ iv1 a0 15 ∧ iv1 a0 15 ≤ 2147483647 from W2.int t_a0 15) (show iv1 a0 15 = ivb1 a0 15 from by rw [pq1]; exact up2_j (by decide)) (fun ri25 ie29 ri26 ie30 ri27 ie32 ri28 ie34 ri29 ie36 => ?_)
                  refine c_lv (lv2 := [(3, .int (iI zz4)), (4, .int (iI (k + 1))), (0, .ref a0), (1, .int (iI i)), (2, .int (iI n))]) [1, 0, 3, 4, 5] rfl ?_
                  exact ih1  zz4 (k + 1) _ (by omega) W2 F2  (by omega) (by omega) (cnt_s h16 ezz1 (by omega)) (EP1.dts hE hsA gaf2 (by omega) (by omega) (by omega) (fun xs hx => gf3 xs (LNE.fr hx (funext fun j => F2.i tob1 rfl j) rfl (fun cb hc => funext fun j => F2.i (li64 hW tob1 hc) rfl j))) ezz4) (by show iv1 a0 11 = iv a0 11; omega) (by show iv1 a0 12 = iv a0 12; omega) (by show iv1 a0 13 = iv a0 13; omega) (by show iv1 a0 14 = iv a0 14; omega) (by show iv1 a0 15 = iv a0 15; omega)
                · refine c_aload_n (j := 3) (x := a0) C dX11_emboss_89 rfl ?_
                  refine c_iload_n (j := 1) C dX11_emboss_90 rfl ?_
                  refine d_callV (As := [.int (iI s1)]) (rest := []) C hM (C_done (a0 := a0) (x := s1) W2 hS t_a0 (by omega) ) dX11_emboss_91 kV_X11_109 rfl t_a0 rfl rfl (by decide) ck_12 rfl (Nat.le_of_ble_eq_true rfl) ⟨(Nat.le_of_ble_eq_true rfl), (Nat.le_of_ble_eq_true rfl)⟩ hph hph (show 0 + 0 = 0 from rfl) (by decide) (fun rh4 Lh4 clh4 lnh4 ivh4 rvh4 h4 => ?_)
                  obtain ⟨f4, rfl, rfl, rfl, rfl, rfl, fl4, W5, rgf4, exf4, kp11f4, kp12f4, kp13f4, kp14f4, kp15f4, kp16f4⟩ := h4
                  refine hv11 (show 1 ≤ iv1 a0 12 ∧ iv1 a0 12 ≤ 50 from W2.int t_a0 12) (show iv1 a0 12 = ivb1 a0 12 from by rw [pq1]; exact up2_j (by decide)) (show (-2147483648) ≤ iv1 a0 13 ∧ iv1 a0 13 ≤ 2147483647 from W2.int t_a0 13) (show iv1 a0 13 = ivb1 a0 13 from by rw [pq1]; exact up2_j (by decide)) (show (-2147483648) ≤ iv1 a0 14 ∧ iv1 a0 14 ≤ 2147483647 from W2.int t_a0 14) (show iv1 a0 14 = ivb1 a0 14 from by rw [pq1]; exact up2_j (by decide)) (show (-2147483648) ≤ iv1 a0 15 ∧ iv1 a0 15 ≤ 2147483647 from W2.int t_a0 15) (show iv1 a0 15 = ivb1 a0 15 from by rw [pq1]; exact up2_j (by decide)) (show (-2147483648) ≤ iv1 a0 16 ∧ iv1 a0 16 ≤ 2147483647 from W2.int t_a0 16) (show iv1 a0 16 = zz1 from by rw [pq1]; exact up2_s) (F2.call hX0 fl4 rfl) (fun ri30 ie38 ri31 ie40 ri32 ie42 ri33 ie44 ri34 ie46 F3 => ?_)
                  refine c_st (st2 := [.int (iI f4)]) rfl ?_
                  refine hv17 (show ivh4 a0 11 = iv1 a0 11 from kp11f4) (show ivh4 a0 12 = iv1 a0 12 from kp12f4) (show ivh4 a0 13 = iv1 a0 13 from kp13f4) (show ivh4 a0 14 = iv1 a0 14 from kp14f4) (show ivh4 a0 15 = iv1 a0 15 from kp15f4) (show ivh4 a0 16 = iv1 a0 16 from kp16f4) (show f4 = s1 from exf4) (show 1 ≤ ivh4 a0 11 ∧ ivh4 a0 11 ≤ 100 from W5.int t_a0 11) (show 1 ≤ ivh4 a0 12 ∧ ivh4 a0 12 ≤ 50 from W5.int t_a0 12) (show (-2147483648) ≤ ivh4 a0 13 ∧ ivh4 a0 13 ≤ 2147483647 from W5.int t_a0 13) (show (-2147483648) ≤ ivh4 a0 14 ∧ ivh4 a0 14 ≤ 2147483647 from W5.int t_a0 14) (show (-2147483648) ≤ ivh4 a0 15 ∧ ivh4 a0 15 ≤ 2147483647 from W5.int t_a0 15) (show (-2147483648) ≤ ivh4 a0 16 ∧ ivh4 a0 16 ≤ 2147483647 from W5.int t_a0 16) (show 0 ≤ ivh4 ob1 1 ∧ ivh4 ob1 1 ≤ 200 from W5.int tob1 1) (show ivh4 ob1 1 = iv1 ob1 1 from fl4.i tob1 rfl 1) (show 0 ≤ ivh4 ob1 2 ∧ ivh4 ob1 2 ≤ 1 from W5.int tob1 2) (show ivh4 ob1 2 = iv1 ob1 2 from fl4.i tob1 rfl 2) (fun gk11f4 gk12f4 gk13f4 gk14f4 gk15f4 gk16f4 gf4 ri35 ri36 ri37 ri38 ri39 ri40 ri41 ie53 ri42 ie54 => ?_)
                  exact c_iret C dX11_emboss_94 rfl (by decide) (rom0 hph hph (by decide)) ⟨f4, rfl, rfl, rfl, rfl, rfl, F3, W5, ⟨by omega, by omega⟩, trivial, (by omega), (by omega), (by omega), (by omega), (by omega), (EPX.big hE hsA ⟨by omega, by omega⟩ (by omega) (cnt_s h16 ezz1 (by omega)) gaf2 (by omega) (by omega) (by omega))⟩
            · subst oq1
              refine c_lv (lv2 := [(5, .null), (3, .int (iI s1)), (4, .int (iI k)), (0, .ref a0), (1, .int (iI i)), (2, .int (iI n))]) [0, 1, 2, 3, 4, 5] rfl ?_
              refine c_st (st2 := []) rfl ?_
              refine c_aload_n (j := 3) (x := a0) C dX11_emboss_63 rfl ?_
              refine c_iconst C dX11_emboss_64 ?_
              refine d_callV (As := [.int (iI 2)]) (rest := []) C hM (C_refuse (a0 := a0) (x := 2) W2 hS t_a0 ⟨by decide, by decide⟩ ) dX11_emboss_65 kV_X11_102 rfl t_a0 rfl rfl (by decide) ck_12 rfl (Nat.le_of_ble_eq_true rfl) ⟨(Nat.le_of_ble_eq_true rfl), (Nat.le_of_ble_eq_true rfl)⟩ hph hph (show 0 + 0 = 0 from rfl) (by decide) (fun rh5 Lh5 clh5 lnh5 ivh5 rvh5 h5 => ?_)
              obtain ⟨f5, rfl, rfl, rfl, rfl, rfl, fl5, W6, rgf5, exf5, kp11f5, kp12f5, kp13f5, kp14f5, kp15f5, kp16f5⟩ := h5
              refine hv13 (show 1 ≤ iv1 a0 11 ∧ iv1 a0 11 ≤ 100 from W2.int t_a0 11) (show iv1 a0 11 = ivb1 a0 11 from by rw [pq1]; exact up2_j (by decide)) (show 1 ≤ iv1 a0 12 ∧ iv1 a0 12 ≤ 50 from W2.int t_a0 12) (show iv1 a0 12 = ivb1 a0 12 from by rw [pq1]; exact up2_j (by decide)) (show (-2147483648) ≤ iv1 a0 13 ∧ iv1 a0 13 ≤ 2147483647 from W2.int t_a0 13) (show iv1 a0 13 = ivb1 a0 13 from by rw [pq1]; exact up2_j (by decide)) (show (-2147483648) ≤ iv1 a0 14 ∧ iv1 a0 14 ≤ 2147483647 from W2.int t_a0 14) (show iv1 a0 14 = ivb1 a0 14 from by rw [pq1]; exact up2_j (by decide)) (show (-2147483648) ≤ iv1 a0 15 ∧ iv1 a0 15 ≤ 2147483647 from W2.int t_a0 15) (show iv1 a0 15 = ivb1 a0 15 from by rw [pq1]; exact up2_j (by decide)) (show (-2147483648) ≤ iv1 a0 16 ∧ iv1 a0 16 ≤ 2147483647 from W2.int t_a0 16) (show iv1 a0 16 = zz1 from by rw [pq1]; exact up2_s) (F2.call hX0 fl5 rfl) (fun ri43 ie55 ri44 ie56 ri45 ie58 ri46 ie60 ri47 ie62 ri48 ie64 F4 => ?_)
              refine c_st (st2 := [.int (iI f5)]) rfl ?_
              refine hv13 (show ivh5 a0 11 = iv1 a0 11 from kp11f5) (show ivh5 a0 12 = iv1 a0 12 from kp12f5) (show ivh5 a0 13 = iv1 a0 13 from kp13f5) (show ivh5 a0 14 = iv1 a0 14 from kp14f5) (show ivh5 a0 15 = iv1 a0 15 from kp15f5) (show ivh5 a0 16 = iv1 a0 16 from kp16f5) (show f5 = -1 from exf5) (show 1 ≤ ivh5 a0 11 ∧ ivh5 a0 11 ≤ 100 from W6.int t_a0 11) (show 1 ≤ ivh5 a0 12 ∧ ivh5 a0 12 ≤ 50 from W6.int t_a0 12) (show (-2147483648) ≤ ivh5 a0 13 ∧ ivh5 a0 13 ≤ 2147483647 from W6.int t_a0 13) (show (-2147483648) ≤ ivh5 a0 14 ∧ ivh5 a0 14 ≤ 2147483647 from W6.int t_a0 14) (show (-2147483648) ≤ ivh5 a0 15 ∧ ivh5 a0 15 ≤ 2147483647 from W6.int t_a0 15) (show (-2147483648) ≤ ivh5 a0 16 ∧ ivh5 a0 16 ≤ 2147483647 from W6.int t_a0 16) (fun gk11f5 gk12f5 gk13f5 gk14f5 gk15f5 gk16f5 gf5 ri49 ri50 ri51 ri52 ri53 ri54 => ?_)
              exact c_iret C dX11_emboss_68 rfl (by decide) (rom0 hph hph (by decide)) ⟨f5, rfl, rfl, rfl, rfl, rfl, F4, W6, ⟨by omega, by omega⟩, trivial, (by omega), (by omega), (by omega), (by omega), (by omega), (EPX.nul hE hsA ⟨by omega, by omega⟩ (by omega) (cnt_s h16 ezz1 (by omega)) gaf2 (by omega))⟩
      refine hv4 (show 1 ≤ iv a0 12 ∧ iv a0 12 ≤ 50 from hW.int t_a0 12) (show (-2147483648) ≤ iv a0 13 ∧ iv a0 13 ≤ 2147483647 from hW.int t_a0 13) (show (-2147483648) ≤ iv a0 14 ∧ iv a0 14 ≤ 2147483647 from hW.int t_a0 14) (show (-2147483648) ≤ iv a0 15 ∧ iv a0 15 ≤ 2147483647 from hW.int t_a0 15) (fun ri55 ri56 ri57 ri58 => ?_)
      refine c_lv (lv2 := [(3, .int (iI 0)), (4, .int (iI 0)), (0, .ref a0), (1, .int (iI i)), (2, .int (iI n))]) [1, 0, 2, 3, 4] rfl ?_
      exact Lp1 203 0 0 _ (by omega) hW hF0  (by omega) (by omega) (cnt_0 rfl) (EP1.zero rfl rfl) (by show iv a0 11 = iv a0 11; omega) (by show iv a0 12 = iv a0 12; omega) (by show iv a0 13 = iv a0 13; omega) (by show iv a0 14 = iv a0 14; omega) (by show iv a0 15 = iv a0 15; omega)
    · refine c_aload_n (j := 0) (x := a0) C dX11_emboss_18 rfl ?_
      refine c_iconst C dX11_emboss_19 ?_
      refine d_callV (As := [.int (iI 5)]) (rest := []) C hM (C_refuse (a0 := a0) (x := 5) hW hS t_a0 ⟨by decide, by decide⟩ ) dX11_emboss_20 kV_X11_102 rfl t_a0 rfl rfl (by decide) ck_12 rfl (Nat.le_of_ble_eq_true rfl) ⟨(Nat.le_of_ble_eq_true rfl), (Nat.le_of_ble_eq_true rfl)⟩ hph hph (show 0 + 0 = 0 from rfl) (by decide) (fun rh6 Lh6 clh6 lnh6 ivh6 rvh6 h6 => ?_)
      obtain ⟨f6, rfl, rfl, rfl, rfl, rfl, fl6, W7, rgf6, exf6, kp11f6, kp12f6, kp13f6, kp14f6, kp15f6, kp16f6⟩ := h6
      refine hv5 (show 1 ≤ iv a0 12 ∧ iv a0 12 ≤ 50 from hW.int t_a0 12) (show (-2147483648) ≤ iv a0 13 ∧ iv a0 13 ≤ 2147483647 from hW.int t_a0 13) (show (-2147483648) ≤ iv a0 14 ∧ iv a0 14 ≤ 2147483647 from hW.int t_a0 14) (show (-2147483648) ≤ iv a0 15 ∧ iv a0 15 ≤ 2147483647 from hW.int t_a0 15) (hF0.call hX0 fl6 rfl) (fun ri59 ri60 ri61 ri62 F5 => ?_)
      refine c_st (st2 := [.int (iI f6)]) rfl ?_
      refine hv13 (show ivh6 a0 11 = iv a0 11 from kp11f6) (show ivh6 a0 12 = iv a0 12 from kp12f6) (show ivh6 a0 13 = iv a0 13 from kp13f6) (show ivh6 a0 14 = iv a0 14 from kp14f6) (show ivh6 a0 15 = iv a0 15 from kp15f6) (show ivh6 a0 16 = iv a0 16 from kp16f6) (show f6 = -1 from exf6) (show 1 ≤ ivh6 a0 11 ∧ ivh6 a0 11 ≤ 100 from W7.int t_a0 11) (show 1 ≤ ivh6 a0 12 ∧ ivh6 a0 12 ≤ 50 from W7.int t_a0 12) (show (-2147483648) ≤ ivh6 a0 13 ∧ ivh6 a0 13 ≤ 2147483647 from W7.int t_a0 13) (show (-2147483648) ≤ ivh6 a0 14 ∧ ivh6 a0 14 ≤ 2147483647 from W7.int t_a0 14) (show (-2147483648) ≤ ivh6 a0 15 ∧ ivh6 a0 15 ≤ 2147483647 from W7.int t_a0 15) (show (-2147483648) ≤ ivh6 a0 16 ∧ ivh6 a0 16 ≤ 2147483647 from W7.int t_a0 16) (fun gk11f6 gk12f6 gk13f6 gk14f6 gk15f6 gk16f6 gf6 ri63 ri64 ri65 ri66 ri67 ri68 => ?_)
      exact c_iret C dX11_emboss_23 rfl (by decide) (rom0 hph hph (by decide)) ⟨f6, rfl, rfl, rfl, rfl, rfl, F5, W7, ⟨by omega, by omega⟩, trivial, (by omega), (by omega), (by omega), (by omega), (by omega), (EPX.bad (by omega) (by omega) (by omega))⟩
  · refine c_aload_n (j := 0) (x := a0) C dX11_emboss_7 rfl ?_
    refine c_bipush (z := 6) C dX11_emboss_8 (by decide) ?_
    refine d_callV (As := [.int (iI 6)]) (rest := []) C hM (C_refuse (a0 := a0) (x := 6) hW hS t_a0 ⟨by decide, by decide⟩ ) dX11_emboss_10 kV_X11_102 rfl t_a0 rfl rfl (by decide) ck_12 rfl (Nat.le_of_ble_eq_true rfl) ⟨(Nat.le_of_ble_eq_true rfl), (Nat.le_of_ble_eq_true rfl)⟩ hph hph (show 0 + 0 = 0 from rfl) (by decide) (fun rh7 Lh7 clh7 lnh7 ivh7 rvh7 h7 => ?_)
    obtain ⟨f7, rfl, rfl, rfl, rfl, rfl, fl7, W8, rgf7, exf7, kp11f7, kp12f7, kp13f7, kp14f7, kp15f7, kp16f7⟩ := h7
    refine hv5 (show 1 ≤ iv a0 12 ∧ iv a0 12 ≤ 50 from hW.int t_a0 12) (show (-2147483648) ≤ iv a0 13 ∧ iv a0 13 ≤ 2147483647 from hW.int t_a0 13) (show (-2147483648) ≤ iv a0 14 ∧ iv a0 14 ≤ 2147483647 from hW.int t_a0 14) (show (-2147483648) ≤ iv a0 15 ∧ iv a0 15 ≤ 2147483647 from hW.int t_a0 15) (hF0.call hX0 fl7 rfl) (fun ri69 ri70 ri71 ri72 F6 => ?_)
    refine c_st (st2 := [.int (iI f7)]) rfl ?_
    refine hv13 (show ivh7 a0 11 = iv a0 11 from kp11f7) (show ivh7 a0 12 = iv a0 12 from kp12f7) (show ivh7 a0 13 = iv a0 13 from kp13f7) (show ivh7 a0 14 = iv a0 14 from kp14f7) (show ivh7 a0 15 = iv a0 15 from kp15f7) (show ivh7 a0 16 = iv a0 16 from kp16f7) (show f7 = -1 from exf7) (show 1 ≤ ivh7 a0 11 ∧ ivh7 a0 11 ≤ 100 from W8.int t_a0 11) (show 1 ≤ ivh7 a0 12 ∧ ivh7 a0 12 ≤ 50 from W8.int t_a0 12) (show (-2147483648) ≤ ivh7 a0 13 ∧ ivh7 a0 13 ≤ 2147483647 from W8.int t_a0 13) (show (-2147483648) ≤ ivh7 a0 14 ∧ ivh7 a0 14 ≤ 2147483647 from W8.int t_a0 14) (show (-2147483648) ≤ ivh7 a0 15 ∧ ivh7 a0 15 ≤ 2147483647 from W8.int t_a0 15) (show (-2147483648) ≤ ivh7 a0 16 ∧ ivh7 a0 16 ≤ 2147483647 from W8.int t_a0 16) (fun gk11f7 gk12f7 gk13f7 gk14f7 gk15f7 gk16f7 gf7 ri73 ri74 ri75 ri76 ri77 ri78 => ?_)
    exact c_iret C dX11_emboss_13 rfl (by decide) (rom0 hph hph (by decide)) ⟨f7, rfl, rfl, rfl, rfl, rfl, F6, W8, ⟨by omega, by omega⟩, trivial, (by omega), (by omega), (by omega), (by omega), (by omega), (EPX.bad (by omega) (by omega) (by omega))⟩
