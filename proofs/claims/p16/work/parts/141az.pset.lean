set_option maxHeartbeats 4000000 in
set_option maxRecDepth 100000 in
theorem G_sclear {l : Launch} {G : GT} {mi : Nat} {sk : Nat → Nat} {L : List Nat} {cl ln : Nat → Nat} {iv : Nat → Nat → Int} {rv : Nat → Nat → Option Nat}  {a0 : Nat} (hW : WT (g0 G) sk L cl ln iv rv) (hS : SKL sk L cl) (t_a0 : ty L cl a0 18)  : Mc l G mi (Phi (g0 G) sk) PHM yX7_clear cX7_clear 1 none 0 [.ref a0] L cl ln iv rv 0 (fun v L2 cl2 ln2 iv2 rv2 => v = none ∧ L = L2 ∧ cl = cl2 ∧ ln = ln2 ∧ rv = rv2 ∧ fT [18] L cl iv rv iv2 rv2 ∧ WT (g0 G) sk L2 cl2 ln2 iv2 rv2 ∧ (iv2 = up2 iv a0 1 0)) := by
  refine Mc.mk (by decide) (Nat.le_of_ble_eq_true rfl) ?_
  intro p e s m args below meth c A C hM
  refine hv3 (Phi.le hW hS) (show XT L cl ln L cl ln from XT.refl) (show fT [18] L cl iv rv iv rv from fT.refl) (fun hph hX0 hF0 => ?_)
  refine c_aload_n (j := 0) (x := a0) C dX7_clear_0 rfl ?_
  refine c_iconst C dX7_clear_1 ?_
  refine c_put (z := 0) (k := 1) C ck_8 dX7_clear_2 w2_34 (by decide) rfl t_a0 rfl rfl (by decide) rfl (by rfl) (by rfl) (fun iv1 pq1 => ?_)
  refine hv2 (hW.puti pq1 t_a0 ⟨by decide, by decide⟩ rfl) (hF0.puti hX0 pq1 t_a0 rfl) (fun W1 F1 => ?_)
  exact c_vret C dX7_clear_5 rfl (by decide) (rom0 hph hph (by decide)) ⟨rfl, rfl, rfl, rfl, rfl, F1, W1, pq1⟩
set_option maxHeartbeats 4000000 in
set_option maxRecDepth 100000 in
theorem G_publish {l : Launch} {G : GT} {mi : Nat} {sk : Nat → Nat} {L : List Nat} {cl ln : Nat → Nat} {iv : Nat → Nat → Int} {rv : Nat → Nat → Option Nat}  {a0 : Nat} (hW : WT (g0 G) sk L cl ln iv rv) (hS : SKL sk L cl) (t_a0 : ty L cl a0 1)  : Mc l G mi (Phi (g0 G) sk) PHM yX11_publish cX11_publish 2 (some .int) 1 [.ref a0] L cl ln iv rv 0 (fun v L2 cl2 ln2 iv2 rv2 => ∃ f : Int, v = some (.int (iI f)) ∧ L = L2 ∧ cl = cl2 ∧ ln = ln2 ∧ fT [1] L cl iv rv iv2 rv2 ∧ WT (g0 G) sk L2 cl2 ln2 iv2 rv2 ∧ (-2147483648 ≤ f ∧ f ≤ 2147483647) ∧ (PBX iv rv rv2 a0 f) ∧ iv2 a0 11 = iv a0 11 ∧ iv2 a0 12 = iv a0 12 ∧ iv2 a0 13 = iv a0 13 ∧ iv2 a0 14 = iv a0 14 ∧ iv2 a0 15 = iv a0 15 ∧ iv2 a0 16 = iv a0 16) := by
  refine Mc.mk (by decide) (Nat.le_of_ble_eq_true rfl) ?_
  intro p e s m args below meth c A C hM
  refine hv3 (Phi.le hW hS) (show XT L cl ln L cl ln from XT.refl) (show fT [1] L cl iv rv iv rv from fT.refl) (fun hph hX0 hF0 => ?_)
  obtain ⟨sA, hsA, tsA⟩ := hW.ref t_a0 9 rfl rfl rfl
  obtain ⟨sB, hsB, tsB⟩ := hW.ref t_a0 10 rfl rfl rfl
  refine c_aload_n (j := 0) (x := a0) C dX11_publish_0 rfl ?_
  refine c_getr (k := 9) C ck_12 dX11_publish_1 w2_53 (by decide) t_a0 rfl rfl (by decide) rfl hsA ?_
  refine c_st (st2 := [.ref sA]) rfl ?_
  refine c_astore_n (lv2 := [(1, .ref sA), (0, .ref a0)]) C dX11_publish_4 (by decide) rfl ?_
  refine c_aload_n (j := 1) (x := a0) C dX11_publish_5 rfl ?_
  refine c_aload_n (j := 1) (x := a0) C dX11_publish_6 rfl ?_
  refine c_getr (k := 10) C ck_12 dX11_publish_7 w2_54 (by decide) t_a0 rfl rfl (by decide) rfl hsB ?_
  refine c_st (st2 := [.ref sB, .ref a0]) rfl ?_
  refine c_putr (x := (some sB)) (k := 9) C ck_12 dX11_publish_10 w2_53 (by decide) rfl t_a0 rfl rfl (by decide) rfl (by rfl) (by rfl) (fun rv1 pq1 => ⟨0, (by rw [Phi.putr hS pq1 t_a0 rfl]; exact Nat.le_refl _), ?_⟩)
  refine hv2 (hW.putr pq1 t_a0 (rok_some t_a0 tsB rfl (by decide) rfl) rfl (by decide)) (hF0.putr hX0 pq1 t_a0 rfl) (fun W1 F1 => ?_)
  refine c_aload_n (j := 1) (x := a0) C dX11_publish_13 rfl ?_
  refine c_aload_n (j := 0) (x := sA) C dX11_publish_14 rfl ?_
  refine c_putr (x := (some sA)) (k := 10) C ck_12 dX11_publish_15 w2_54 (by decide) rfl t_a0 rfl rfl (by decide) rfl (by rfl) (by rfl) (fun rv2 pq2 => ⟨0, (by rw [Phi.putr hS pq2 t_a0 rfl]; exact Nat.le_refl _), ?_⟩)
  refine hv2 (W1.putr pq2 t_a0 (rok_some t_a0 tsA rfl (by decide) rfl) rfl (by decide)) (F1.putr hX0 pq2 t_a0 rfl) (fun W2 F2 => ?_)
  refine c_aload_n (j := 1) (x := a0) C dX11_publish_18 rfl ?_
  refine c_aload_n (j := 1) (x := a0) C dX11_publish_19 rfl ?_
  refine hv2 (show rv1 a0 9 = (some sB) from by rw [pq1]; exact upr_s) (show rv2 a0 9 = rv1 a0 9 from (by rw [pq2]; exact upr_j (by decide))) (fun rp1 re1 => ?_)
  rw [rp1] at re1
  refine c_getr (k := 9) C ck_12 dX11_publish_20 w2_53 (by decide) t_a0 rfl rfl (by decide) rfl re1 ?_
  refine c_st (st2 := [.ref sB, .ref a0]) rfl ?_
  have ri1 : 0 ≤ iv sB 1 ∧ iv sB 1 ≤ 200 := W2.int tsB 1
  refine c_get (k := 1) C ck_8 dX11_publish_23 w2_35 (by decide) tsB rfl rfl (by decide) rfl ?_
  have pl1 := Phi.le W2 hS
  refine d_callV (As := [.int (iI (iv sB 1))]) (rest := []) C hM (C_done (a0 := a0) (x := iv sB 1) W2 hS t_a0 (by omega) ) dX11_publish_26 kV_X11_109 rfl t_a0 rfl rfl (by decide) ck_12 rfl (Nat.le_of_ble_eq_true rfl) ⟨(Nat.le_of_ble_eq_true rfl), (Nat.le_of_ble_eq_true rfl)⟩ hph pl1 (show 0 + 0 = 0 from rfl) (by decide) (fun rh1 Lh1 clh1 lnh1 ivh1 rvh1 h1 => ?_)
  obtain ⟨f1, rfl, rfl, rfl, rfl, rfl, fl1, W3, rgf1, exf1, kp11f1, kp12f1, kp13f1, kp14f1, kp15f1, kp16f1⟩ := h1
  refine hv7 (show 1 ≤ iv a0 11 ∧ iv a0 11 ≤ 100 from W2.int t_a0 11) (show 1 ≤ iv a0 12 ∧ iv a0 12 ≤ 50 from W2.int t_a0 12) (show (-2147483648) ≤ iv a0 13 ∧ iv a0 13 ≤ 2147483647 from W2.int t_a0 13) (show (-2147483648) ≤ iv a0 14 ∧ iv a0 14 ≤ 2147483647 from W2.int t_a0 14) (show (-2147483648) ≤ iv a0 15 ∧ iv a0 15 ≤ 2147483647 from W2.int t_a0 15) (show (-2147483648) ≤ iv a0 16 ∧ iv a0 16 ≤ 2147483647 from W2.int t_a0 16) (F2.call hX0 fl1 rfl) (fun ri2 ri3 ri4 ri5 ri6 ri7 F3 => ?_)
  refine c_st (st2 := [.int (iI f1)]) rfl ?_
  refine hv16 (show ivh1 a0 11 = iv a0 11 from kp11f1) (show ivh1 a0 12 = iv a0 12 from kp12f1) (show ivh1 a0 13 = iv a0 13 from kp13f1) (show ivh1 a0 14 = iv a0 14 from kp14f1) (show ivh1 a0 15 = iv a0 15 from kp15f1) (show ivh1 a0 16 = iv a0 16 from kp16f1) (show f1 = (iv sB 1) from exf1) (show 1 ≤ ivh1 a0 11 ∧ ivh1 a0 11 ≤ 100 from W3.int t_a0 11) (show 1 ≤ ivh1 a0 12 ∧ ivh1 a0 12 ≤ 50 from W3.int t_a0 12) (show (-2147483648) ≤ ivh1 a0 13 ∧ ivh1 a0 13 ≤ 2147483647 from W3.int t_a0 13) (show (-2147483648) ≤ ivh1 a0 14 ∧ ivh1 a0 14 ≤ 2147483647 from W3.int t_a0 14) (show (-2147483648) ≤ ivh1 a0 15 ∧ ivh1 a0 15 ≤ 2147483647 from W3.int t_a0 15) (show (-2147483648) ≤ ivh1 a0 16 ∧ ivh1 a0 16 ≤ 2147483647 from W3.int t_a0 16) (show 0 ≤ ivh1 sB 1 ∧ ivh1 sB 1 ≤ 200 from W3.int tsB 1) (show ivh1 sB 1 = iv sB 1 from fl1.i tsB rfl 1) (show rv2 a0 10 = (some sA) from by rw [pq2]; exact upr_s) (fun gk11f1 gk12f1 gk13f1 gk14f1 gk15f1 gk16f1 gf1 ri8 ri9 ri10 ri11 ri12 ri13 ri14 ie7 rp2 => ?_)
  exact c_iret C dX11_publish_29 rfl (by decide) (rom0 hph pl1 (by decide)) ⟨f1, rfl, rfl, rfl, rfl, F3, W3, ⟨by omega, by omega⟩, (fun sA' sB' e1 e2 => by
      rw [hsA] at e1; cases e1
      rw [hsB] at e2; cases e2
      exact ⟨re1, rp2, (by omega)⟩), (by omega), (by omega), (by omega), (by omega), (by omega), (by omega)⟩
set_option maxHeartbeats 4000000 in
set_option maxRecDepth 100000 in
theorem G_set {l : Launch} {G : GT} {mi : Nat} {sk : Nat → Nat} {L : List Nat} {cl ln : Nat → Nat} {iv : Nat → Nat → Int} {rv : Nat → Nat → Option Nat}  {a0 : Nat} {i : Int} (hW : WT (g0 G) sk L cl ln iv rv) (hS : SKL sk L cl) (t_a0 : ty L cl a0 1) (h_i : -2147483648 ≤ i ∧ i ≤ 2147483647) (hmr : MRK sk cl iv rv) : Mc l G mi (Phi (g0 G) sk) PHM yX11_set cX11_set 7 (some .int) 8 [.ref a0, .int (iI i)] L cl ln iv rv 0 (fun v L2 cl2 ln2 iv2 rv2 => ∃ f : Int, v = some (.int (iI f)) ∧ XT L cl ln L2 cl2 ln2 ∧ fT [1, 14, 15, 50, 51, 52, 53, 54, 55, 18, 19, 64, 67, 203] L cl iv rv iv2 rv2 ∧ WT (g0 G) sk L2 cl2 ln2 iv2 rv2 ∧ (-2147483648 ≤ f ∧ f ≤ 2147483647) ∧ (True) ∧ iv2 a0 11 = iv a0 11 ∧ iv2 a0 12 = iv a0 12 ∧ iv2 a0 13 = iv a0 13 ∧ iv2 a0 14 = iv a0 14 ∧ iv2 a0 15 = iv a0 15 ∧ iv2 a0 16 = iv a0 16 ∧ (PSX sk ln iv rv iv2 rv2 a0 (iv a0 11) (iv a0 13) i f)) := by
  refine Mc.mk (by decide) (Nat.le_of_ble_eq_true rfl) ?_
  intro p e s m args below meth c A C hM
  refine hv14 (Phi.le hW hS) (show ty L cl (sk 2) 2 from ⟨(hS 2 rfl).1, by rw [(hS 2 rfl).2]; rfl⟩) (show ty L cl (sk 3) 3 from ⟨(hS 3 rfl).1, by rw [(hS 3 rfl).2]; rfl⟩) (show ty L cl (sk 4) 4 from ⟨(hS 4 rfl).1, by rw [(hS 4 rfl).2]; rfl⟩) (show ty L cl (sk 5) 5 from ⟨(hS 5 rfl).1, by rw [(hS 5 rfl).2]; rfl⟩) (show ty L cl (sk 13) 13 from ⟨(hS 13 rfl).1, by rw [(hS 13 rfl).2]; rfl⟩) (show ty L cl (sk 14) 14 from ⟨(hS 14 rfl).1, by rw [(hS 14 rfl).2]; rfl⟩) (show ty L cl (sk 15) 15 from ⟨(hS 15 rfl).1, by rw [(hS 15 rfl).2]; rfl⟩) (show ty L cl (sk 16) 16 from ⟨(hS 16 rfl).1, by rw [(hS 16 rfl).2]; rfl⟩) (show ty L cl (sk 17) 17 from ⟨(hS 17 rfl).1, by rw [(hS 17 rfl).2]; rfl⟩) (show ty L cl (sk 22) 22 from ⟨(hS 22 rfl).1, by rw [(hS 22 rfl).2]; rfl⟩) (show ty L cl (sk 23) 23 from ⟨(hS 23 rfl).1, by rw [(hS 23 rfl).2]; rfl⟩) (show XT L cl ln L cl ln from XT.refl) (show fT [1, 14, 15, 50, 51, 52, 53, 54, 55, 18, 19, 64, 67, 203] L cl iv rv iv rv from fT.refl) (fun hph tsk2 tsk3 tsk4 tsk5 tsk13 tsk14 tsk15 tsk16 tsk17 tsk22 tsk23 hX0 hF0 => ?_)
  obtain ⟨sA, hsA, tsA⟩ := hW.ref t_a0 9 rfl rfl rfl
  obtain ⟨sB, hsB, tsB⟩ := hW.ref t_a0 10 rfl rfl rfl
  refine hv5 (show (-2147483648) ≤ iv (sk 14) 0 ∧ iv (sk 14) 0 ≤ 2147483647 from hW.int tsk14 0) (show 0 ≤ iv (sk 14) 1 ∧ iv (sk 14) 1 ≤ 1 from hW.int tsk14 1) (show 0 ≤ iv (sk 14) 2 ∧ iv (sk 14) 2 ≤ 1 from hW.int tsk14 2) (show 1 ≤ iv a0 11 ∧ iv a0 11 ≤ 100 from hW.int t_a0 11) (show (-2147483648) ≤ iv a0 13 ∧ iv a0 13 ≤ 2147483647 from hW.int t_a0 13) (fun ri1 ri2 ri3 ri4 ri5 => ?_)
  refine c_aload_n (j := 0) (x := a0) C dX11_set_0 rfl ?_
  obtain ⟨rb1, rq1, trb1⟩ := hW.ref t_a0 4 rfl rfl rfl
  have erb1 := hW.sk trb1 (by decide) rfl
  subst erb1
  refine c_getr (k := 4) C ck_12 dX11_set_1 w2_48 (by decide) t_a0 rfl rfl (by decide) rfl rq1 ?_
  refine c_st (st2 := [.ref (sk 13)]) rfl ?_
  refine c_iload_n (j := 1) C dX11_set_4 rfl ?_
  refine d_callV (As := [.int (iI i)]) (rest := []) C hM (G_whole (a0 := (sk 13)) (i := i) hW hS tsk13 (by omega) hmr) dX11_set_5 kV_X11_231 rfl tsk13 rfl rfl (by decide) ck_11 rfl (Nat.le_of_ble_eq_true rfl) ⟨(Nat.le_of_ble_eq_true rfl), (Nat.le_of_ble_eq_true rfl)⟩ hph hph (show 0 + 0 = 0 from rfl) (by decide) (fun rh1 Lh1 clh1 lnh1 ivh1 rvh1 h1 => ?_)
  obtain ⟨f1, rfl, rfl, rfl, rfl, rfl, rfl, rgf1, exf1⟩ := h1
  refine c_st (st2 := [(va_rf f1)]) rfl ?_
  have gf1 : WOX sk ln iv rv i f1 := exf1
  refine c_astorer_n (r := f1) (lv2 := [(2, (va_rf f1)), (0, .ref a0), (1, .int (iI i))]) C dX11_set_8 (by decide) rfl ?_
  refine c_aloadr_n (j := 0) (r := f1) C dX11_set_9 rfl ?_
  refine c_ifnonnull (r := f1) (tgt := 19) C dX11_set_10 (by decide) (fun ob1 oq1 => ?_) (fun oq1 => ?_)
  · subst oq1
    refine hv2 (rgf1 ob1 rfl) (gf1) (fun tob1 wkob1 => ?_)
    refine c_lv (lv2 := [(2, .ref ob1), (0, .ref a0), (1, .int (iI i))]) [0, 1, 2] rfl ?_
    refine c_st (st2 := []) rfl ?_
    refine c_aload_n (j := 1) (x := a0) C dX11_set_19 rfl ?_
    refine c_getr (k := 10) C ck_12 dX11_set_20 w2_54 (by decide) t_a0 rfl rfl (by decide) rfl hsB ?_
    refine c_st (st2 := [.ref sB]) rfl ?_
    have ri6 : 0 ≤ iv sB 1 ∧ iv sB 1 ≤ 200 := hW.int tsB 1
    refine d_callV (As := []) (rest := []) C hM (G_sclear (a0 := sB) hW hS tsB  ) dX11_set_23 kV_X11_234 rfl tsB rfl rfl (by decide) ck_8 rfl (Nat.le_of_ble_eq_true rfl) ⟨(Nat.le_of_ble_eq_true rfl), (Nat.le_of_ble_eq_true rfl)⟩ hph hph (show 0 + 0 = 0 from rfl) (by decide) (fun rh2 Lh2 clh2 lnh2 ivh2 rvh2 h2 => ?_)
    obtain ⟨rfl, rfl, rfl, rfl, rfl, fl2, W2, exf2⟩ := h2
    refine hv2 (hF0.call hX0 fl2 rfl) (MRK.call hmr hW hS XT.refl fl2 rfl rfl) (fun F1 mr1 => ?_)
    refine c_st (st2 := []) rfl ?_
    refine c_aload_n (j := 1) (x := a0) C dX11_set_26 rfl ?_
    obtain ⟨rb2, rq2, trb2⟩ := W2.ref t_a0 5 rfl rfl rfl
    have erb2 := W2.sk trb2 (by decide) rfl
    subst erb2
    refine c_getr (k := 5) C ck_12 dX11_set_27 w2_49 (by decide) t_a0 rfl rfl (by decide) rfl rq2 ?_
    refine c_st (st2 := [.ref (sk 14)]) rfl ?_
    refine d_callV (As := []) (rest := []) C hM (C_restart (a0 := (sk 14)) W2 hS tsk14  ) dX11_set_30 kV_X11_235 rfl tsk14 rfl rfl (by decide) ck_9 rfl (Nat.le_of_ble_eq_true rfl) ⟨(Nat.le_of_ble_eq_true rfl), (Nat.le_of_ble_eq_true rfl)⟩ hph hph (show 0 + 0 = 0 from rfl) (by decide) (fun rh3 Lh3 clh3 lnh3 ivh3 rvh3 h3 => ?_)
    obtain ⟨rfl, rfl, rfl, rfl, rfl, fl3, W3, exf3⟩ := h3
    refine hv2 (F1.call hX0 fl3 rfl) (MRK.call mr1 W2 hS XT.refl fl3 rfl rfl) (fun F2 mr2 => ?_)
    refine c_st (st2 := []) rfl ?_
    refine hv4 (show (-2147483648) ≤ ivh3 (sk 14) 0 ∧ ivh3 (sk 14) 0 ≤ 2147483647 from W3.int tsk14 0) (show 0 ≤ ivh3 (sk 14) 1 ∧ ivh3 (sk 14) 1 ≤ 1 from W3.int tsk14 1) (show ivh3 (sk 14) 0 = 0 ∧ ivh3 (sk 14) 1 = 0 from exf3) (show 0 ≤ ivh3 (sk 14) 2 ∧ ivh3 (sk 14) 2 ≤ 1 from W3.int tsk14 2) (fun ri7 ri8 gf3 ri9 => ?_)
    refine c_iconst C dX11_set_33 ?_
    refine c_istore_n (lv2 := [(3, .int (iI 0)), (2, .ref ob1), (0, .ref a0), (1, .int (iI i))]) C dX11_set_34 (by decide) rfl ?_
    refine c_aload_n (j := 2) (x := a0) C dX11_set_35 rfl ?_
    refine c_getr (k := 5) C ck_12 dX11_set_36 w2_49 (by decide) t_a0 rfl rfl (by decide) rfl rq2 ?_
    refine c_st (st2 := [.ref (sk 14)]) rfl ?_
    refine c_aload_n (j := 2) (x := a0) C dX11_set_39 rfl ?_
    obtain ⟨rb3, rq3, trb3⟩ := W3.ref t_a0 1 rfl rfl rfl
    have erb3 := W3.sk trb3 (by decide) rfl
    subst erb3
    refine c_getr (k := 1) C ck_12 dX11_set_40 w2_45 (by decide) t_a0 rfl rfl (by decide) rfl rq3 ?_
    refine c_st (st2 := [.ref (sk 3), .ref (sk 14)]) rfl ?_
    refine c_aload_n (j := 2) (x := a0) C dX11_set_43 rfl ?_
    obtain ⟨rb4, rq4, trb4⟩ := W3.ref t_a0 6 rfl rfl rfl
    have erb4 := W3.sk trb4 (by decide) rfl
    subst erb4
    refine c_getr (k := 6) C ck_12 dX11_set_44 w2_50 (by decide) t_a0 rfl rfl (by decide) rfl rq4 ?_
    refine c_st (st2 := [.ref (sk 15), .ref (sk 3), .ref (sk 14)]) rfl ?_
    refine d_callV (As := [.ref (sk 3), .ref (sk 15)]) (rest := []) C hM (G_step (a0 := (sk 14)) (a1 := (sk 3)) (a2 := (sk 15)) W3 hS tsk14 tsk3 tsk15  (by show 0 ≤ ivh3 (sk 14) 0 ∧ ivh3 (sk 14) 0 ≤ 501 ∧ (ivh3 (sk 14) 1 = 0 ∨ ivh3 (sk 14) 0 ≤ 500); omega)) dX11_set_47 kV_X11_238 rfl tsk14 rfl rfl (by decide) ck_9 rfl (Nat.le_of_ble_eq_true rfl) ⟨(Nat.le_of_ble_eq_true rfl), (Nat.le_of_ble_eq_true rfl)⟩ hph hph (show 0 + 0 = 0 from rfl) (by decide) (fun rh4 Lh4 clh4 lnh4 ivh4 rvh4 h4 => ?_)
    obtain ⟨f4, rfl, rfl, rfl, rfl, rfl, fl4, W4, rgf4, exf4⟩ := h4
    refine hv2 (F2.call hX0 fl4 rfl) (MRK.call mr2 W3 hS XT.refl fl4 rfl rfl) (fun F3 mr3 => ?_)
    refine c_st (st2 := [.int (iI f4)]) rfl ?_
    refine hv4 (show (-2147483648) ≤ ivh4 (sk 14) 0 ∧ ivh4 (sk 14) 0 ≤ 2147483647 from W4.int tsk14 0) (show 0 ≤ ivh4 (sk 14) 1 ∧ ivh4 (sk 14) 1 ≤ 1 from W4.int tsk14 1) (show ((0 ≤ f4 ∧ f4 ≤ 3) ∧ 0 ≤ ivh4 (sk 14) 0 ∧ ivh4 (sk 14) 0 ≤ 501 ∧ (ivh4 (sk 14) 1 = 0 ∨ ivh4 (sk 14) 0 ≤ 500) ∧ (f4 = 0 ∨ 2 * ivh3 (sk 14) 0 + ivh3 (sk 14) 1 < 2 * ivh4 (sk 14) 0 + ivh4 (sk 14) 1)) ∧ STP ivh3 rv ivh4 (sk 3) (sk 14) (sk 15) f4 from exf4) (show 0 ≤ ivh4 (sk 14) 2 ∧ ivh4 (sk 14) 2 ≤ 1 from W4.int tsk14 2) (fun ri10 ri11 gf4 ri12 => ?_)
    refine c_istore (lv2 := [(4, .int (iI f4)), (3, .int (iI 0)), (2, .ref ob1), (0, .ref a0), (1, .int (iI i))]) C dX11_set_50 (by decide) rfl ?_
    refine c_iconst C dX11_set_52 ?_
    refine c_istore (lv2 := [(5, .int (iI 0)), (4, .int (iI f4)), (3, .int (iI 0)), (2, .ref ob1), (0, .ref a0), (1, .int (iI i))]) C dX11_set_53 (by decide) rfl ?_
    have Lp1 : ∀ (nn : Nat) (wy cm k : Int) (Lb1 : List Nat) (clb1 lnb1 : Nat → Nat) (ivb1 : Nat → Nat → Int) (rvb1 : Nat → Nat → Option Nat) , 1101 - k < (nn : Int) → XT L cl ln Lb1 clb1 lnb1 → WT (g0 G) sk Lb1 clb1 lnb1 ivb1 rvb1 → fT [1, 14, 15, 50, 51, 52, 53, 54, 55, 18, 19, 64, 67, 203] L cl iv rv ivb1 rvb1 → (0 ≤ wy ∧ wy ≤ 9) → (0 ≤ cm ∧ cm ≤ 3) → (0 ≤ k ∧ k ≤ 1100) → (0 ≤ ivb1 (sk 14) 0 ∧ ivb1 (sk 14) 0 ≤ 501 ∧ (ivb1 (sk 14) 1 = 0 ∨ ivb1 (sk 14) 0 ≤ 500)) → (cm = 0 ∨ wy ≠ 0 ∨ k < 2 * ivb1 (sk 14) 0 + ivb1 (sk 14) 1) → (rvb1 a0 9 = some sA) → (rvb1 a0 10 = some sB) → (PSL sk ln iv rv ivb1 rvb1 sA sB (iv a0 11) (iv a0 13) i wy cm) → (ivb1 a0 11 = iv a0 11) → (ivb1 a0 12 = iv a0 12) → (ivb1 a0 13 = iv a0 13) → (ivb1 a0 14 = iv a0 14) → (ivb1 a0 15 = iv a0 15) → (ivb1 a0 16 = iv a0 16) → cw p l e 8 ((PHM) + 0 - ((Phi (g0 G) sk) ln rv)) s m args below meth c G A 7 (MQ below (Qu G A (Qp G (Phi (g0 G) sk) ((Phi (g0 G) sk) ln rv) 0 (fun v L2 cl2 ln2 iv2 rv2 => ∃ f : Int, v = some (.int (iI f)) ∧ XT L cl ln L2 cl2 ln2 ∧ fT [1, 14, 15, 50, 51, 52, 53, 54, 55, 18, 19, 64, 67, 203] L cl iv rv iv2 rv2 ∧ WT (g0 G) sk L2 cl2 ln2 iv2 rv2 ∧ (-2147483648 ≤ f ∧ f ≤ 2147483647) ∧ (True) ∧ iv2 a0 11 = iv a0 11 ∧ iv2 a0 12 = iv a0 12 ∧ iv2 a0 13 = iv a0 13 ∧ iv2 a0 14 = iv a0 14 ∧ iv2 a0 15 = iv a0 15 ∧ iv2 a0 16 = iv a0 16 ∧ (PSX sk ln iv rv iv2 rv2 a0 (iv a0 11) (iv a0 13) i f)))) args s (((PHM) + 0 - ((Phi (g0 G) sk) ln rv)) / 16) ((PHM) + 0 - ((Phi (g0 G) sk) ln rv)) A) (Phi (g0 G) sk) ((Phi (g0 G) sk) ln rv) Lb1 clb1 lnb1 ivb1 rvb1 0 55 [(3, .int (iI wy)), (4, .int (iI cm)), (5, .int (iI k)), (2, .ref ob1), (0, .ref a0), (1, .int (iI i))] [] := by
      intro nn
      induction nn with
      | zero =>
        intro  wy cm k Lb1 clb1 lnb1 ivb1 rvb1 hm Xb1 Wb1 Fb1  hwy hcm hk hsr hkn h9 h10 hP hkp11 hkp12 hkp13 hkp14 hkp15 hkp16
        have skb1 := Xb1.skl hS
        exact absurd hm (by omega)
      | succ nn ih1 =>
        intro  wy cm k Lb1 clb1 lnb1 ivb1 rvb1 hm Xb1 Wb1 Fb1  hwy hcm hk hsr hkn h9 h10 hP hkp11 hkp12 hkp13 hkp14 hkp15 hkp16
        refine hv2 (Xb1.skl hS) (MRK.call hmr hW hS Xb1 Fb1 rfl rfl) (fun skb1 mrb1 => ?_)
        refine c_iload_n (j := 0) C dX11_set_55 rfl ?_
        refine c_if_ne (tgt := 203) C (r32_c (lo := 0) (hi := 9) hwy.1 hwy.2 (by decide) (by decide)) dX11_set_56 (by decide) (fun c1 => ?_) (fun c1 => ?_)
        · refine c_iload_n (j := 0) C dX11_set_203 rfl ?_
          refine c_if_ne (tgt := 214) C (r32_c (lo := 0) (hi := 9) hwy.1 hwy.2 (by decide) (by decide)) dX11_set_204 (by decide) (fun _ => ?_) (fun z => absurd z (by omega))
          refine c_aload_n (j := 4) (x := a0) C dX11_set_214 rfl ?_
          refine c_iload_n (j := 0) C dX11_set_215 rfl ?_
          refine c_aload_n (j := 4) (x := a0) C dX11_set_216 rfl ?_
          have ty1 := Xb1.ty t_a0
          obtain ⟨rb5, rq5, trb5⟩ := Wb1.ref ty1 6 rfl rfl rfl
          have erb5 := Wb1.sk trb5 (by decide) rfl
          subst erb5
          refine c_getr (k := 6) C ck_12 dX11_set_217 w2_50 (by decide) ty1 rfl rfl (by decide) rfl rq5 ?_
          refine c_st (st2 := [.ref (sk 15), .int (iI wy), .ref a0]) rfl ?_
          refine hv2 (Xb1.ty tsk15) (Phi.le Wb1 skb1) (fun ty2 pl1 => ?_)
          refine d_callV (As := []) (rest := [.int (iI wy), .ref a0]) C hM (C_placeOfUnknown (a0 := (sk 15)) Wb1 skb1 ty2  ) dX11_set_220 kV_X11_263 rfl ty2 rfl rfl (by decide) ck_7 rfl (Nat.le_of_ble_eq_true rfl) ⟨(Nat.le_of_ble_eq_true rfl), (Nat.le_of_ble_eq_true rfl)⟩ hph pl1 (show 0 + 0 = 0 from rfl) (by decide) (fun rh5 Lh5 clh5 lnh5 ivh5 rvh5 h5 => ?_)
          obtain ⟨f5, rfl, rfl, rfl, rfl, rfl, rfl, rgf5, exf5⟩ := h5
          refine c_st (st2 := [.int (iI f5), .int (iI wy), .ref a0]) rfl ?_
          refine hv2 (Xb1.ty tsB) (Xb1.ty tsA) (fun ty3 ty4 => ?_)
          refine d_callV (As := [.int (iI wy), .int (iI f5)]) (rest := []) C hM (C_refuseAt (a0 := a0) (x := wy) (y := f5) Wb1 skb1 ty1 (by omega) (by omega) ) dX11_set_223 kV_X11_266 rfl ty1 rfl rfl (by decide) ck_12 rfl (Nat.le_of_ble_eq_true rfl) ⟨(Nat.le_of_ble_eq_true rfl), (Nat.le_of_ble_eq_true rfl)⟩ hph pl1 (show 0 + 0 = 0 from rfl) (by decide) (fun rh6 Lh6 clh6 lnh6 ivh6 rvh6 h6 => ?_)
          obtain ⟨f6, rfl, rfl, rfl, rfl, rfl, fl6, W6, rgf6, exf6, kp11f6, kp12f6, kp13f6, kp14f6, kp15f6, kp16f6⟩ := h6
          refine hv8 (show 1 ≤ ivb1 a0 11 ∧ ivb1 a0 11 ≤ 100 from Wb1.int ty1 11) (show 1 ≤ ivb1 a0 12 ∧ ivb1 a0 12 ≤ 50 from Wb1.int ty1 12) (show (-2147483648) ≤ ivb1 a0 13 ∧ ivb1 a0 13 ≤ 2147483647 from Wb1.int ty1 13) (show (-2147483648) ≤ ivb1 a0 14 ∧ ivb1 a0 14 ≤ 2147483647 from Wb1.int ty1 14) (show (-2147483648) ≤ ivb1 a0 15 ∧ ivb1 a0 15 ≤ 2147483647 from Wb1.int ty1 15) (show (-2147483648) ≤ ivb1 a0 16 ∧ ivb1 a0 16 ≤ 2147483647 from Wb1.int ty1 16) (Fb1.call Xb1 fl6 rfl) (MRK.call mrb1 Wb1 skb1 XT.refl fl6 rfl rfl) (fun ri13 ri14 ri15 ri16 ri17 ri18 F4 mr4 => ?_)
          refine c_st (st2 := [.int (iI f6)]) rfl ?_
          refine hv13 (show ivh6 a0 11 = ivb1 a0 11 from kp11f6) (show ivh6 a0 12 = ivb1 a0 12 from kp12f6) (show ivh6 a0 13 = ivb1 a0 13 from kp13f6) (show ivh6 a0 14 = ivb1 a0 14 from kp14f6) (show ivh6 a0 15 = ivb1 a0 15 from kp15f6) (show ivh6 a0 16 = ivb1 a0 16 from kp16f6) (show f6 = -1 from exf6) (show 1 ≤ ivh6 a0 11 ∧ ivh6 a0 11 ≤ 100 from W6.int ty1 11) (show 1 ≤ ivh6 a0 12 ∧ ivh6 a0 12 ≤ 50 from W6.int ty1 12) (show (-2147483648) ≤ ivh6 a0 13 ∧ ivh6 a0 13 ≤ 2147483647 from W6.int ty1 13) (show (-2147483648) ≤ ivh6 a0 14 ∧ ivh6 a0 14 ≤ 2147483647 from W6.int ty1 14) (show (-2147483648) ≤ ivh6 a0 15 ∧ ivh6 a0 15 ≤ 2147483647 from W6.int ty1 15) (show (-2147483648) ≤ ivh6 a0 16 ∧ ivh6 a0 16 ≤ 2147483647 from W6.int ty1 16) (fun gk11f6 gk12f6 gk13f6 gk14f6 gk15f6 gk16f6 gf6 ri19 ri20 ri21 ri22 ri23 ri24 => ?_)
          exact c_iret C dX11_set_226 rfl (by decide) (rom0 hph pl1 (by decide)) ⟨f6, rfl, Xb1, F4, W6, ⟨by omega, by omega⟩, trivial, (by omega), (by omega), (by omega), (by omega), (by omega), (by omega), (PSX.n2 hP (by omega) wkob1 hsA hsB h9 h10 Wb1 ty3 ty4 fl6 rfl rfl rfl rfl (by omega))⟩
        · refine c_iload (j := 1) C dX11_set_59 rfl ?_
          refine c_if_eq (tgt := 203) C (r32_c (lo := 0) (hi := 3) hcm.1 hcm.2 (by decide) (by decide)) dX11_set_61 (by decide) (fun c2 => ?_) (fun c2 => ?_)
          · clear hkn
            refine c_iload_n (j := 0) C dX11_set_203 rfl ?_
            refine c_if_ne (tgt := 214) C (r32_c (lo := 0) (hi := 9) hwy.1 hwy.2 (by decide) (by decide)) dX11_set_204 (by decide) (fun z => absurd z (by omega)) (fun _ => ?_)
            refine c_aload_n (j := 4) (x := a0) C dX11_set_207 rfl ?_
            refine hv4 (Xb1.ty tsB) (Xb1.ty tsA) (Xb1.ty t_a0) (Phi.le Wb1 skb1) (fun ty5 ty6 ty7 pl2 => ?_)
            refine d_callV (As := []) (rest := []) C hM (G_publish (a0 := a0) Wb1 skb1 ty7  ) dX11_set_208 kV_X11_260 rfl ty7 rfl rfl (by decide) ck_12 rfl (Nat.le_of_ble_eq_true rfl) ⟨(Nat.le_of_ble_eq_true rfl), (Nat.le_of_ble_eq_true rfl)⟩ hph pl2 (show 0 + 0 = 0 from rfl) (by decide) (fun rh7 Lh7 clh7 lnh7 ivh7 rvh7 h7 => ?_)
            obtain ⟨f7, rfl, rfl, rfl, rfl, fl7, W7, rgf7, exf7, kp11f7, kp12f7, kp13f7, kp14f7, kp15f7, kp16f7⟩ := h7
            refine hv8 (show 1 ≤ ivb1 a0 11 ∧ ivb1 a0 11 ≤ 100 from Wb1.int ty7 11) (show 1 ≤ ivb1 a0 12 ∧ ivb1 a0 12 ≤ 50 from Wb1.int ty7 12) (show (-2147483648) ≤ ivb1 a0 13 ∧ ivb1 a0 13 ≤ 2147483647 from Wb1.int ty7 13) (show (-2147483648) ≤ ivb1 a0 14 ∧ ivb1 a0 14 ≤ 2147483647 from Wb1.int ty7 14) (show (-2147483648) ≤ ivb1 a0 15 ∧ ivb1 a0 15 ≤ 2147483647 from Wb1.int ty7 15) (show (-2147483648) ≤ ivb1 a0 16 ∧ ivb1 a0 16 ≤ 2147483647 from Wb1.int ty7 16) (Fb1.call Xb1 fl7 rfl) (MRK.call mrb1 Wb1 skb1 XT.refl fl7 rfl rfl) (fun ri25 ri26 ri27 ri28 ri29 ri30 F5 mr5 => ?_)
            refine c_st (st2 := [.int (iI f7)]) rfl ?_
            refine hv7 (show ivh7 a0 11 = ivb1 a0 11 from kp11f7) (show ivh7 a0 12 = ivb1 a0 12 from kp12f7) (show ivh7 a0 13 = ivb1 a0 13 from kp13f7) (show ivh7 a0 14 = ivb1 a0 14 from kp14f7) (show ivh7 a0 15 = ivb1 a0 15 from kp15f7) (show ivh7 a0 16 = ivb1 a0 16 from kp16f7) (show PBX ivb1 rvb1 rvh7 a0 f7 from exf7) (fun gk11f7 gk12f7 gk13f7 gk14f7 gk15f7 gk16f7 gf7 => ?_)
            refine c_goto (tgt := 226) C dX11_set_211 (by decide) ?_
            refine hv7 (show 1 ≤ ivh7 a0 11 ∧ ivh7 a0 11 ≤ 100 from W7.int ty7 11) (show 1 ≤ ivh7 a0 12 ∧ ivh7 a0 12 ≤ 50 from W7.int ty7 12) (show (-2147483648) ≤ ivh7 a0 13 ∧ ivh7 a0 13 ≤ 2147483647 from W7.int ty7 13) (show (-2147483648) ≤ ivh7 a0 14 ∧ ivh7 a0 14 ≤ 2147483647 from W7.int ty7 14) (show (-2147483648) ≤ ivh7 a0 15 ∧ ivh7 a0 15 ≤ 2147483647 from W7.int ty7 15) (show (-2147483648) ≤ ivh7 a0 16 ∧ ivh7 a0 16 ≤ 2147483647 from W7.int ty7 16) (Phi.le W7 skb1) (fun ri31 ri32 ri33 ri34 ri35 ri36 pl3 => ?_)
            exact c_iret C dX11_set_226 rfl (by decide) (rom0 hph pl3 (by decide)) ⟨f7, rfl, Xb1, F5, W7, ⟨by omega, by omega⟩, trivial, (by omega), (by omega), (by omega), (by omega), (by omega), (by omega), (PSX.yes hP (by omega) (by omega) wkob1 hsA hsB (gf7 sA sB h9 h10).1 (gf7 sA sB h9 h10).2.1 Wb1 ty5 ty6 fl7 rfl rfl rfl rfl (gf7 sA sB h9 h10).2.2)⟩
          · replace hkn := (hkn.resolve_left c2)
            refine c_iload (j := 2) C dX11_set_64 rfl ?_
            refine c_ldc (z := 1000000) C dX11_set_66 w4_30 rfl ?_
            refine c_icmp_ge (tgt := 203) C (r32_c (lo := 0) (hi := 1100) hk.1 hk.2 (by decide) (by decide)) ⟨by decide, by decide⟩ dX11_set_68 (by decide) (fun c3 => ?_) (fun c3 => ?_)
            · refine c_iload_n (j := 0) C dX11_set_203 rfl ?_
              refine c_if_ne (tgt := 214) C (r32_c (lo := 0) (hi := 9) hwy.1 hwy.2 (by decide) (by decide)) dX11_set_204 (by decide) (fun z => absurd z (by omega)) (fun _ => ?_)
              refine c_aload_n (j := 4) (x := a0) C dX11_set_207 rfl ?_
              refine hv4 (Xb1.ty tsB) (Xb1.ty tsA) (Xb1.ty t_a0) (Phi.le Wb1 skb1) (fun ty8 ty9 ty10 pl4 => ?_)
              refine d_callV (As := []) (rest := []) C hM (G_publish (a0 := a0) Wb1 skb1 ty10  ) dX11_set_208 kV_X11_260 rfl ty10 rfl rfl (by decide) ck_12 rfl (Nat.le_of_ble_eq_true rfl) ⟨(Nat.le_of_ble_eq_true rfl), (Nat.le_of_ble_eq_true rfl)⟩ hph pl4 (show 0 + 0 = 0 from rfl) (by decide) (fun rh8 Lh8 clh8 lnh8 ivh8 rvh8 h8 => ?_)
              obtain ⟨f8, rfl, rfl, rfl, rfl, fl8, W8, rgf8, exf8, kp11f8, kp12f8, kp13f8, kp14f8, kp15f8, kp16f8⟩ := h8
              refine hv8 (show 1 ≤ ivb1 a0 11 ∧ ivb1 a0 11 ≤ 100 from Wb1.int ty10 11) (show 1 ≤ ivb1 a0 12 ∧ ivb1 a0 12 ≤ 50 from Wb1.int ty10 12) (show (-2147483648) ≤ ivb1 a0 13 ∧ ivb1 a0 13 ≤ 2147483647 from Wb1.int ty10 13) (show (-2147483648) ≤ ivb1 a0 14 ∧ ivb1 a0 14 ≤ 2147483647 from Wb1.int ty10 14) (show (-2147483648) ≤ ivb1 a0 15 ∧ ivb1 a0 15 ≤ 2147483647 from Wb1.int ty10 15) (show (-2147483648) ≤ ivb1 a0 16 ∧ ivb1 a0 16 ≤ 2147483647 from Wb1.int ty10 16) (Fb1.call Xb1 fl8 rfl) (MRK.call mrb1 Wb1 skb1 XT.refl fl8 rfl rfl) (fun ri37 ri38 ri39 ri40 ri41 ri42 F6 mr6 => ?_)
              refine c_st (st2 := [.int (iI f8)]) rfl ?_
              refine hv7 (show ivh8 a0 11 = ivb1 a0 11 from kp11f8) (show ivh8 a0 12 = ivb1 a0 12 from kp12f8) (show ivh8 a0 13 = ivb1 a0 13 from kp13f8) (show ivh8 a0 14 = ivb1 a0 14 from kp14f8) (show ivh8 a0 15 = ivb1 a0 15 from kp15f8) (show ivh8 a0 16 = ivb1 a0 16 from kp16f8) (show PBX ivb1 rvb1 rvh8 a0 f8 from exf8) (fun gk11f8 gk12f8 gk13f8 gk14f8 gk15f8 gk16f8 gf8 => ?_)
              refine c_goto (tgt := 226) C dX11_set_211 (by decide) ?_
              refine hv7 (show 1 ≤ ivh8 a0 11 ∧ ivh8 a0 11 ≤ 100 from W8.int ty10 11) (show 1 ≤ ivh8 a0 12 ∧ ivh8 a0 12 ≤ 50 from W8.int ty10 12) (show (-2147483648) ≤ ivh8 a0 13 ∧ ivh8 a0 13 ≤ 2147483647 from W8.int ty10 13) (show (-2147483648) ≤ ivh8 a0 14 ∧ ivh8 a0 14 ≤ 2147483647 from W8.int ty10 14) (show (-2147483648) ≤ ivh8 a0 15 ∧ ivh8 a0 15 ≤ 2147483647 from W8.int ty10 15) (show (-2147483648) ≤ ivh8 a0 16 ∧ ivh8 a0 16 ≤ 2147483647 from W8.int ty10 16) (Phi.le W8 skb1) (fun ri43 ri44 ri45 ri46 ri47 ri48 pl5 => ?_)
              exact c_iret C dX11_set_226 rfl (by decide) (rom0 hph pl5 (by decide)) ⟨f8, rfl, Xb1, F6, W8, ⟨by omega, by omega⟩, trivial, (by omega), (by omega), (by omega), (by omega), (by omega), (by omega), (PSX.yes hP (by omega) (by omega) wkob1 hsA hsB (gf8 sA sB h9 h10).1 (gf8 sA sB h9 h10).2.1 Wb1 ty8 ty9 fl8 rfl rfl rfl rfl (gf8 sA sB h9 h10).2.2)⟩
            · have J1 : ∀ (wy2 ok : Int) (Lb2 : List Nat) (clb2 lnb2 : Nat → Nat) (ivb2 : Nat → Nat → Int) (rvb2 : Nat → Nat → Option Nat) , XT L cl ln Lb2 clb2 lnb2 → WT (g0 G) sk Lb2 clb2 lnb2 ivb2 rvb2 → fT [1, 14, 15, 50, 51, 52, 53, 54, 55, 18, 19, 64, 67, 203] L cl iv rv ivb2 rvb2 → (0 ≤ wy2 ∧ wy2 ≤ 9) → (ok = 0 ∨ ok = 1) → (0 ≤ ivb2 (sk 14) 0 ∧ ivb2 (sk 14) 0 ≤ 501 ∧ (ivb2 (sk 14) 1 = 0 ∨ ivb2 (sk 14) 0 ≤ 500)) → (k < 2 * ivb2 (sk 14) 0 + ivb2 (sk 14) 1) → (rvb2 a0 9 = some sA) → (rvb2 a0 10 = some sB) → (PSQ sk ln iv rv ivb2 rvb2 sA sB (iv a0 11) (iv a0 13) i wy2 ok) → (ivb2 a0 11 = iv a0 11) → (ivb2 a0 12 = iv a0 12) → (ivb2 a0 13 = iv a0 13) → (ivb2 a0 14 = iv a0 14) → (ivb2 a0 15 = iv a0 15) → (ivb2 a0 16 = iv a0 16) → cw p l e 8 ((PHM) + 0 - ((Phi (g0 G) sk) ln rv)) s m args below meth c G A 7 (MQ below (Qu G A (Qp G (Phi (g0 G) sk) ((Phi (g0 G) sk) ln rv) 0 (fun v L2 cl2 ln2 iv2 rv2 => ∃ f : Int, v = some (.int (iI f)) ∧ XT L cl ln L2 cl2 ln2 ∧ fT [1, 14, 15, 50, 51, 52, 53, 54, 55, 18, 19, 64, 67, 203] L cl iv rv iv2 rv2 ∧ WT (g0 G) sk L2 cl2 ln2 iv2 rv2 ∧ (-2147483648 ≤ f ∧ f ≤ 2147483647) ∧ (True) ∧ iv2 a0 11 = iv a0 11 ∧ iv2 a0 12 = iv a0 12 ∧ iv2 a0 13 = iv a0 13 ∧ iv2 a0 14 = iv a0 14 ∧ iv2 a0 15 = iv a0 15 ∧ iv2 a0 16 = iv a0 16 ∧ (PSX sk ln iv rv iv2 rv2 a0 (iv a0 11) (iv a0 13) i f)))) args s (((PHM) + 0 - ((Phi (g0 G) sk) ln rv)) / 16) ((PHM) + 0 - ((Phi (g0 G) sk) ln rv)) A) (Phi (g0 G) sk) ((Phi (g0 G) sk) ln rv) Lb2 clb2 lnb2 ivb2 rvb2 0 165 [(3, .int (iI wy2)), (6, .int (iI ok)), (4, .int (iI cm)), (5, .int (iI k)), (2, .ref ob1), (0, .ref a0), (1, .int (iI i))] [] := by
                intro  wy2 ok Lb2 clb2 lnb2 ivb2 rvb2 Xb2 Wb2 Fb2  hwy2 hok hsr2 hkn2 h9b h10b hQ hkp11 hkp12 hkp13 hkp14 hkp15 hkp16
                refine hv2 (Xb2.skl hS) (MRK.call hmr hW hS Xb2 Fb2 rfl rfl) (fun skb2 mrb2 => ?_)
                refine c_iload (j := 1) C dX11_set_165 rfl ?_
                refine c_if_ne (tgt := 176) C (r32_01 hok) dX11_set_167 (by decide) (fun c4 => ?_) (fun c4 => ?_)
                · replace hok := (hok.resolve_left c4)
                  refine c_iload_n (j := 0) C dX11_set_176 rfl ?_
                  refine c_if_ne (tgt := 197) C (r32_c (lo := 0) (hi := 9) hwy2.1 hwy2.2 (by decide) (by decide)) dX11_set_177 (by decide) (fun c5 => ?_) (fun c5 => ?_)
                  · refine c_iinc (z := k) (j := 3) (lv2 := [(5, .int (iI (k + 1))), (3, .int (iI wy2)), (6, .int (iI ok)), (4, .int (iI cm)), (2, .ref ob1), (0, .ref a0), (1, .int (iI i))]) C dX11_set_197 rfl (by decide) rfl ?_
                    refine c_goto (tgt := 55) C dX11_set_200 (by decide) ?_
                    refine hv2 (Xb2.ty tsk14) (Xb2.ty t_a0) (fun ty11 ty12 => ?_)
                    refine hv9 (show (-2147483648) ≤ ivb2 (sk 14) 0 ∧ ivb2 (sk 14) 0 ≤ 2147483647 from Wb2.int ty11 0) (show 0 ≤ ivb2 (sk 14) 1 ∧ ivb2 (sk 14) 1 ≤ 1 from Wb2.int ty11 1) (show 1 ≤ ivb2 a0 11 ∧ ivb2 a0 11 ≤ 100 from Wb2.int ty12 11) (show 1 ≤ ivb2 a0 12 ∧ ivb2 a0 12 ≤ 50 from Wb2.int ty12 12) (show (-2147483648) ≤ ivb2 a0 13 ∧ ivb2 a0 13 ≤ 2147483647 from Wb2.int ty12 13) (show (-2147483648) ≤ ivb2 a0 14 ∧ ivb2 a0 14 ≤ 2147483647 from Wb2.int ty12 14) (show (-2147483648) ≤ ivb2 a0 15 ∧ ivb2 a0 15 ≤ 2147483647 from Wb2.int ty12 15) (show (-2147483648) ≤ ivb2 a0 16 ∧ ivb2 a0 16 ≤ 2147483647 from Wb2.int ty12 16) (show 0 ≤ ivb2 (sk 14) 2 ∧ ivb2 (sk 14) 2 ≤ 1 from Wb2.int ty11 2) (fun ri49 ri50 ri51 ri52 ri53 ri54 ri55 ri56 ri57 => ?_)
                    refine c_lv (lv2 := [(3, .int (iI wy2)), (4, .int (iI cm)), (5, .int (iI (k + 1))), (2, .ref ob1), (0, .ref a0), (1, .int (iI i))]) [1, 3, 0, 4, 5, 6] rfl ?_
                    exact ih1  wy2 cm (k + 1) _ _ _ _ _ (by omega) Xb2 Wb2 Fb2  (by omega) (by omega) (by omega) (by show 0 ≤ ivb2 (sk 14) 0 ∧ ivb2 (sk 14) 0 ≤ 501 ∧ (ivb2 (sk 14) 1 = 0 ∨ ivb2 (sk 14) 0 ≤ 500); omega) (by omega) h9b h10b (hQ.stop (by omega)) (by show ivb2 a0 11 = iv a0 11; omega) (by show ivb2 a0 12 = iv a0 12; omega) (by show ivb2 a0 13 = iv a0 13; omega) (by show ivb2 a0 14 = iv a0 14; omega) (by show ivb2 a0 15 = iv a0 15; omega) (by show ivb2 a0 16 = iv a0 16; omega)
                  · refine c_aload_n (j := 5) (x := a0) C dX11_set_180 rfl ?_
                    have ty13 := Xb2.ty t_a0
                    obtain ⟨rb6, rq6, trb6⟩ := Wb2.ref ty13 5 rfl rfl rfl
                    have erb6 := Wb2.sk trb6 (by decide) rfl
                    subst erb6
                    refine c_getr (k := 5) C ck_12 dX11_set_181 w2_49 (by decide) ty13 rfl rfl (by decide) rfl rq6 ?_
                    refine c_st (st2 := [.ref (sk 14)]) rfl ?_
                    refine c_aload_n (j := 5) (x := a0) C dX11_set_184 rfl ?_
                    obtain ⟨rb7, rq7, trb7⟩ := Wb2.ref ty13 1 rfl rfl rfl
                    have erb7 := Wb2.sk trb7 (by decide) rfl
                    subst erb7
                    refine c_getr (k := 1) C ck_12 dX11_set_185 w2_45 (by decide) ty13 rfl rfl (by decide) rfl rq7 ?_
                    refine c_st (st2 := [.ref (sk 3), .ref (sk 14)]) rfl ?_
                    refine c_aload_n (j := 5) (x := a0) C dX11_set_188 rfl ?_
                    obtain ⟨rb8, rq8, trb8⟩ := Wb2.ref ty13 6 rfl rfl rfl
                    have erb8 := Wb2.sk trb8 (by decide) rfl
                    subst erb8
                    refine c_getr (k := 6) C ck_12 dX11_set_189 w2_50 (by decide) ty13 rfl rfl (by decide) rfl rq8 ?_
                    refine c_st (st2 := [.ref (sk 15), .ref (sk 3), .ref (sk 14)]) rfl ?_
                    refine hv6 (Xb2.ty tsB) (Xb2.ty tsA) (Xb2.ty tsk14) (Xb2.ty tsk3) (Xb2.ty tsk15) (Phi.le Wb2 skb2) (fun ty14 ty15 ty16 ty17 ty18 pl6 => ?_)
                    refine hv3 (show (-2147483648) ≤ ivb2 (sk 14) 0 ∧ ivb2 (sk 14) 0 ≤ 2147483647 from Wb2.int ty16 0) (show 0 ≤ ivb2 (sk 14) 1 ∧ ivb2 (sk 14) 1 ≤ 1 from Wb2.int ty16 1) (show 0 ≤ ivb2 (sk 14) 2 ∧ ivb2 (sk 14) 2 ≤ 1 from Wb2.int ty16 2) (fun ri58 ri59 ri60 => ?_)
                    refine d_callV (As := [.ref (sk 3), .ref (sk 15)]) (rest := []) C hM (G_step (a0 := (sk 14)) (a1 := (sk 3)) (a2 := (sk 15)) Wb2 skb2 ty16 ty17 ty18  (by show 0 ≤ ivb2 (sk 14) 0 ∧ ivb2 (sk 14) 0 ≤ 501 ∧ (ivb2 (sk 14) 1 = 0 ∨ ivb2 (sk 14) 0 ≤ 500); omega)) dX11_set_192 kV_X11_238 rfl ty16 rfl rfl (by decide) ck_9 rfl (Nat.le_of_ble_eq_true rfl) ⟨(Nat.le_of_ble_eq_true rfl), (Nat.le_of_ble_eq_true rfl)⟩ hph pl6 (show 0 + 0 = 0 from rfl) (by decide) (fun rh11 Lh11 clh11 lnh11 ivh11 rvh11 h11 => ?_)
                    obtain ⟨f9, rfl, rfl, rfl, rfl, rfl, fl9, W9, rgf9, exf9⟩ := h11
                    refine hv2 (Fb2.call Xb2 fl9 rfl) (MRK.call mrb2 Wb2 skb2 XT.refl fl9 rfl rfl) (fun F7 mr7 => ?_)
                    refine c_st (st2 := [.int (iI f9)]) rfl ?_
                    refine hv4 (show (-2147483648) ≤ ivh11 (sk 14) 0 ∧ ivh11 (sk 14) 0 ≤ 2147483647 from W9.int ty16 0) (show 0 ≤ ivh11 (sk 14) 1 ∧ ivh11 (sk 14) 1 ≤ 1 from W9.int ty16 1) (show ((0 ≤ f9 ∧ f9 ≤ 3) ∧ 0 ≤ ivh11 (sk 14) 0 ∧ ivh11 (sk 14) 0 ≤ 501 ∧ (ivh11 (sk 14) 1 = 0 ∨ ivh11 (sk 14) 0 ≤ 500) ∧ (f9 = 0 ∨ 2 * ivb2 (sk 14) 0 + ivb2 (sk 14) 1 < 2 * ivh11 (sk 14) 0 + ivh11 (sk 14) 1)) ∧ STP ivb2 rvb2 ivh11 (sk 3) (sk 14) (sk 15) f9 from exf9) (show 0 ≤ ivh11 (sk 14) 2 ∧ ivh11 (sk 14) 2 ≤ 1 from W9.int ty16 2) (fun ri61 ri62 gf9 ri63 => ?_)
                    refine c_istore (lv2 := [(4, .int (iI f9)), (3, .int (iI wy2)), (6, .int (iI ok)), (5, .int (iI k)), (2, .ref ob1), (0, .ref a0), (1, .int (iI i))]) C dX11_set_195 (by decide) rfl ?_
                    refine c_iinc (z := k) (j := 3) (lv2 := [(5, .int (iI (k + 1))), (4, .int (iI f9)), (3, .int (iI wy2)), (6, .int (iI ok)), (2, .ref ob1), (0, .ref a0), (1, .int (iI i))]) C dX11_set_197 rfl (by decide) rfl ?_
                    refine c_goto (tgt := 55) C dX11_set_200 (by decide) ?_
                    refine hv12 (show 1 ≤ ivh11 a0 11 ∧ ivh11 a0 11 ≤ 100 from W9.int ty13 11) (show ivh11 a0 11 = ivb2 a0 11 from fl9.i ty13 rfl 11) (show 1 ≤ ivh11 a0 12 ∧ ivh11 a0 12 ≤ 50 from W9.int ty13 12) (show ivh11 a0 12 = ivb2 a0 12 from fl9.i ty13 rfl 12) (show (-2147483648) ≤ ivh11 a0 13 ∧ ivh11 a0 13 ≤ 2147483647 from W9.int ty13 13) (show ivh11 a0 13 = ivb2 a0 13 from fl9.i ty13 rfl 13) (show (-2147483648) ≤ ivh11 a0 14 ∧ ivh11 a0 14 ≤ 2147483647 from W9.int ty13 14) (show ivh11 a0 14 = ivb2 a0 14 from fl9.i ty13 rfl 14) (show (-2147483648) ≤ ivh11 a0 15 ∧ ivh11 a0 15 ≤ 2147483647 from W9.int ty13 15) (show ivh11 a0 15 = ivb2 a0 15 from fl9.i ty13 rfl 15) (show (-2147483648) ≤ ivh11 a0 16 ∧ ivh11 a0 16 ≤ 2147483647 from W9.int ty13 16) (show ivh11 a0 16 = ivb2 a0 16 from fl9.i ty13 rfl 16) (fun ri64 ie58 ri65 ie60 ri66 ie62 ri67 ie64 ri68 ie66 ri69 ie68 => ?_)
                    refine c_lv (lv2 := [(3, .int (iI wy2)), (4, .int (iI f9)), (5, .int (iI (k + 1))), (2, .ref ob1), (0, .ref a0), (1, .int (iI i))]) [2, 1, 0, 4, 5, 6] rfl ?_
                    exact ih1  wy2 f9 (k + 1) _ _ _ _ _ (by omega) Xb2 W9 F7  (by omega) (by omega) (by omega) (by show 0 ≤ ivh11 (sk 14) 0 ∧ ivh11 (sk 14) 0 ≤ 501 ∧ (ivh11 (sk 14) 1 = 0 ∨ ivh11 (sk 14) 0 ≤ 500); omega) (by omega) h9b h10b (hQ.next (by omega) (by omega) hW Xb2 Fb2 rfl rfl tsk3 Wb2 ty14 ty15 fl9 gf9.2) (by show ivh11 a0 11 = iv a0 11; omega) (by show ivh11 a0 12 = iv a0 12; omega) (by show ivh11 a0 13 = iv a0 13; omega) (by show ivh11 a0 14 = iv a0 14; omega) (by show ivh11 a0 15 = iv a0 15; omega) (by show ivh11 a0 16 = iv a0 16; omega)
                · clear hok
                  refine c_bipush (z := 6) C dX11_set_170 (by decide) ?_
                  refine c_istore_n (lv2 := [(3, .int (iI 6)), (6, .int (iI ok)), (4, .int (iI cm)), (5, .int (iI k)), (2, .ref ob1), (0, .ref a0), (1, .int (iI i))]) C dX11_set_172 (by decide) rfl ?_
                  refine c_goto (tgt := 197) C dX11_set_173 (by decide) ?_
                  refine c_iinc (z := k) (j := 3) (lv2 := [(5, .int (iI (k + 1))), (3, .int (iI 6)), (6, .int (iI ok)), (4, .int (iI cm)), (2, .ref ob1), (0, .ref a0), (1, .int (iI i))]) C dX11_set_197 rfl (by decide) rfl ?_
                  refine c_goto (tgt := 55) C dX11_set_200 (by decide) ?_
                  refine hv2 (Xb2.ty tsk14) (Xb2.ty t_a0) (fun ty19 ty20 => ?_)
                  refine hv9 (show (-2147483648) ≤ ivb2 (sk 14) 0 ∧ ivb2 (sk 14) 0 ≤ 2147483647 from Wb2.int ty19 0) (show 0 ≤ ivb2 (sk 14) 1 ∧ ivb2 (sk 14) 1 ≤ 1 from Wb2.int ty19 1) (show 1 ≤ ivb2 a0 11 ∧ ivb2 a0 11 ≤ 100 from Wb2.int ty20 11) (show 1 ≤ ivb2 a0 12 ∧ ivb2 a0 12 ≤ 50 from Wb2.int ty20 12) (show (-2147483648) ≤ ivb2 a0 13 ∧ ivb2 a0 13 ≤ 2147483647 from Wb2.int ty20 13) (show (-2147483648) ≤ ivb2 a0 14 ∧ ivb2 a0 14 ≤ 2147483647 from Wb2.int ty20 14) (show (-2147483648) ≤ ivb2 a0 15 ∧ ivb2 a0 15 ≤ 2147483647 from Wb2.int ty20 15) (show (-2147483648) ≤ ivb2 a0 16 ∧ ivb2 a0 16 ≤ 2147483647 from Wb2.int ty20 16) (show 0 ≤ ivb2 (sk 14) 2 ∧ ivb2 (sk 14) 2 ≤ 1 from Wb2.int ty19 2) (fun ri70 ri71 ri72 ri73 ri74 ri75 ri76 ri77 ri78 => ?_)
                  refine c_lv (lv2 := [(3, .int (iI 6)), (4, .int (iI cm)), (5, .int (iI (k + 1))), (2, .ref ob1), (0, .ref a0), (1, .int (iI i))]) [1, 3, 0, 4, 5, 6] rfl ?_
                  exact ih1  6 cm (k + 1) _ _ _ _ _ (by omega) Xb2 Wb2 Fb2  (by omega) (by omega) (by omega) (by show 0 ≤ ivb2 (sk 14) 0 ∧ ivb2 (sk 14) 0 ≤ 501 ∧ (ivb2 (sk 14) 1 = 0 ∨ ivb2 (sk 14) 0 ≤ 500); omega) (by omega) h9b h10b (hQ.nor (by omega) (by decide)) (by show ivb2 a0 11 = iv a0 11; omega) (by show ivb2 a0 12 = iv a0 12; omega) (by show ivb2 a0 13 = iv a0 13; omega) (by show ivb2 a0 14 = iv a0 14; omega) (by show ivb2 a0 15 = iv a0 15; omega) (by show ivb2 a0 16 = iv a0 16; omega)
              refine c_iconst C dX11_set_71 ?_
              refine c_istore (lv2 := [(6, .int (iI 1)), (3, .int (iI wy)), (4, .int (iI cm)), (5, .int (iI k)), (2, .ref ob1), (0, .ref a0), (1, .int (iI i))]) C dX11_set_72 (by decide) rfl ?_
              refine c_iload (j := 2) C dX11_set_74 rfl ?_
              refine c_iconst C dX11_set_76 ?_
              refine c_icmp_ne (tgt := 92) C (r32_c (lo := 0) (hi := 3) hcm.1 hcm.2 (by decide) (by decide)) ⟨by decide, by decide⟩ dX11_set_77 (by decide) (fun c6 => ?_) (fun c6 => ?_)
              · refine c_iload (j := 2) C dX11_set_92 rfl ?_
                refine c_iconst C dX11_set_94 ?_
                refine c_icmp_ne (tgt := 119) C (r32_c (lo := 0) (hi := 3) hcm.1 hcm.2 (by decide) (by decide)) ⟨by decide, by decide⟩ dX11_set_95 (by decide) (fun c7 => ?_) (fun c7 => ?_)
                · refine c_aload_n (j := 5) (x := a0) C dX11_set_119 rfl ?_
                  have ty21 := Xb1.ty t_a0
                  obtain ⟨rb9, rq9, trb9⟩ := Wb1.ref ty21 6 rfl rfl rfl
                  have erb9 := Wb1.sk trb9 (by decide) rfl
                  subst erb9
                  refine c_getr (k := 6) C ck_12 dX11_set_120 w2_50 (by decide) ty21 rfl rfl (by decide) rfl rq9 ?_
                  refine c_st (st2 := [.ref (sk 15)]) rfl ?_
                  refine c_aload_n (j := 4) (x := ob1) C dX11_set_123 rfl ?_
                  refine hv7 (Xb1.ty tsk15) (Xb1.ty tsB) (Xb1.ty tsA) (Xb1.ty tsk14) (Xb1.ty tob1) (show ivb1 ob1 0 = iv ob1 0 from Fb1.i tob1 rfl 0) (Phi.le Wb1 skb1) (fun ty22 ty23 ty24 ty25 ty26 ie83 pl7 => ?_)
                  refine hv5 (show (-2147483648) ≤ ivb1 (sk 14) 0 ∧ ivb1 (sk 14) 0 ≤ 2147483647 from Wb1.int ty25 0) (show 0 ≤ ivb1 (sk 14) 1 ∧ ivb1 (sk 14) 1 ≤ 1 from Wb1.int ty25 1) (show 0 ≤ ivb1 (sk 14) 2 ∧ ivb1 (sk 14) 2 ≤ 1 from Wb1.int ty25 2) (show 0 ≤ ivb1 (sk 15) 4 ∧ ivb1 (sk 15) 4 ≤ 500 from Wb1.int ty22 4) (show (-2147483648) ≤ ivb1 ob1 0 ∧ ivb1 ob1 0 ≤ 2147483647 from Wb1.int ty26 0) (fun ri79 ri80 ri81 ri82 ri83 => ?_)
                  refine d_callV (As := [.ref ob1]) (rest := []) C hM (G_setBy (a0 := (sk 15)) (a1 := ob1) Wb1 skb1 ty22 ty26  ) dX11_set_124 kV_X11_253 rfl ty22 rfl rfl (by decide) ck_7 rfl (Nat.le_of_ble_eq_true rfl) ⟨(Nat.le_of_ble_eq_true rfl), (Nat.le_of_ble_eq_true rfl)⟩ hph pl7 (show 0 + 0 = 0 from rfl) (by decide) (fun rh12 Lh12 clh12 lnh12 ivh12 rvh12 h12 => ?_)
                  obtain ⟨f10, rfl, rfl, rfl, rfl, rfl, fl10, W10, rgf10, exf10⟩ := h12
                  refine hv2 (Fb1.call Xb1 fl10 rfl) (MRK.call mrb1 Wb1 skb1 XT.refl fl10 rfl rfl) (fun F8 mr8 => ?_)
                  refine c_st (st2 := [.int (iI f10)]) rfl ?_
                  refine hv11 (show 0 ≤ ivh12 (sk 15) 4 ∧ ivh12 (sk 15) 4 ≤ 500 from W10.int ty22 4) (show 0 ≤ ivh12 (sk 15) 7 ∧ ivh12 (sk 15) 7 ≤ 100000 from W10.int ty22 7) (show ((f10 = 0 ∨ f10 = 6 ∨ f10 = 7) ∧ ivh12 (sk 15) 4 = ivb1 (sk 15) 4 ∧ (f10 = 0 → ivh12 (sk 15) 7 ≤ 200)) ∧ SBX sk lnb1 ivb1 rvb1 ivh12 (sk 15) ob1 f10 from exf10) (show (-2147483648) ≤ ivh12 (sk 14) 0 ∧ ivh12 (sk 14) 0 ≤ 2147483647 from W10.int ty25 0) (show ivh12 (sk 14) 0 = ivb1 (sk 14) 0 from fl10.i ty25 rfl 0) (show 0 ≤ ivh12 (sk 14) 1 ∧ ivh12 (sk 14) 1 ≤ 1 from W10.int ty25 1) (show ivh12 (sk 14) 1 = ivb1 (sk 14) 1 from fl10.i ty25 rfl 1) (show 0 ≤ ivh12 (sk 14) 2 ∧ ivh12 (sk 14) 2 ≤ 1 from W10.int ty25 2) (show ivh12 (sk 14) 2 = ivb1 (sk 14) 2 from fl10.i ty25 rfl 2) (show (-2147483648) ≤ ivh12 ob1 0 ∧ ivh12 ob1 0 ≤ 2147483647 from W10.int ty26 0) (show ivh12 ob1 0 = ivb1 ob1 0 from fl10.i ty26 rfl 0) (fun ri84 ri85 gf10 ri86 ie86 ri87 ie87 ri88 ie88 ri89 ie89 => ?_)
                  refine c_istore_n (lv2 := [(3, .int (iI f10)), (6, .int (iI 1)), (4, .int (iI cm)), (5, .int (iI k)), (2, .ref ob1), (0, .ref a0), (1, .int (iI i))]) C dX11_set_127 (by decide) rfl ?_
                  refine c_iload_n (j := 0) C dX11_set_128 rfl ?_
                  refine c_if_ne (tgt := 158) C (r32_067 gf10.1.1) dX11_set_129 (by decide) (fun c8 => ?_) (fun c8 => ?_)
                  · replace gf10 := (And.intro (And.intro (gf10.1.1.resolve_left c8) (And.intro gf10.1.2.1 trivial)) gf10.2)
                    refine c_iconst C dX11_set_158 ?_
                    refine c_goto (tgt := 163) C dX11_set_159 (by decide) ?_
                    refine c_istore (lv2 := [(6, .int (iI 1)), (3, .int (iI f10)), (4, .int (iI cm)), (5, .int (iI k)), (2, .ref ob1), (0, .ref a0), (1, .int (iI i))]) C dX11_set_163 (by decide) rfl ?_
                    refine hv12 (show 1 ≤ ivh12 a0 11 ∧ ivh12 a0 11 ≤ 100 from W10.int ty21 11) (show ivh12 a0 11 = ivb1 a0 11 from fl10.i ty21 rfl 11) (show 1 ≤ ivh12 a0 12 ∧ ivh12 a0 12 ≤ 50 from W10.int ty21 12) (show ivh12 a0 12 = ivb1 a0 12 from fl10.i ty21 rfl 12) (show (-2147483648) ≤ ivh12 a0 13 ∧ ivh12 a0 13 ≤ 2147483647 from W10.int ty21 13) (show ivh12 a0 13 = ivb1 a0 13 from fl10.i ty21 rfl 13) (show (-2147483648) ≤ ivh12 a0 14 ∧ ivh12 a0 14 ≤ 2147483647 from W10.int ty21 14) (show ivh12 a0 14 = ivb1 a0 14 from fl10.i ty21 rfl 14) (show (-2147483648) ≤ ivh12 a0 15 ∧ ivh12 a0 15 ≤ 2147483647 from W10.int ty21 15) (show ivh12 a0 15 = ivb1 a0 15 from fl10.i ty21 rfl 15) (show (-2147483648) ≤ ivh12 a0 16 ∧ ivh12 a0 16 ≤ 2147483647 from W10.int ty21 16) (show ivh12 a0 16 = ivb1 a0 16 from fl10.i ty21 rfl 16) (fun ri90 ie90 ri91 ie92 ri92 ie94 ri93 ie96 ri94 ie98 ri95 ie100 => ?_)
                    refine c_lv (lv2 := [(3, .int (iI f10)), (6, .int (iI 1)), (4, .int (iI cm)), (5, .int (iI k)), (2, .ref ob1), (0, .ref a0), (1, .int (iI i))]) [1, 0, 2, 3, 4, 5, 6] rfl ?_
                    exact J1  f10 1 _ _ _ _ _  Xb1 W10 F8  (by omega) (by omega) (by show 0 ≤ ivh12 (sk 14) 0 ∧ ivh12 (sk 14) 0 ≤ 501 ∧ (ivh12 (sk 14) 1 = 0 ∨ ivh12 (sk 14) 0 ≤ 500); omega) (by show k < 2 * ivh12 (sk 14) 0 + ivh12 (sk 14) 1; omega) h9 h10 (hP.bad (by omega) (by omega) (QT.of hW hS Xb1 Fb1 rfl rfl rfl rfl rfl) wkob1 Wb1 ty22 ty23 ty24 gf10.2 (by omega) fl10) (by show ivh12 a0 11 = iv a0 11; omega) (by show ivh12 a0 12 = iv a0 12; omega) (by show ivh12 a0 13 = iv a0 13; omega) (by show ivh12 a0 14 = iv a0 14; omega) (by show ivh12 a0 15 = iv a0 15; omega) (by show ivh12 a0 16 = iv a0 16; omega)
                  · replace gf10 := (And.intro (And.intro c8 (And.intro gf10.1.2.1 (gf10.1.2.2 c8))) gf10.2)
                    refine c_aload_n (j := 5) (x := a0) C dX11_set_132 rfl ?_
                    refine c_getr (k := 10) C ck_12 dX11_set_133 w2_54 (by decide) ty21 rfl rfl (by decide) rfl h10 ?_
                    refine c_st (st2 := [.ref sB]) rfl ?_
                    refine c_aload_n (j := 5) (x := a0) C dX11_set_136 rfl ?_
                    refine c_getr (k := 6) C ck_12 dX11_set_137 w2_50 (by decide) ty21 rfl rfl (by decide) rfl rq9 ?_
                    refine c_st (st2 := [.ref (sk 15), .ref sB]) rfl ?_
                    refine c_aload_n (j := 4) (x := ob1) C dX11_set_140 rfl ?_
                    refine c_get (k := 0) C ck_10 dX11_set_141 w2_176 (by decide) ty26 rfl rfl (by decide) rfl ?_
                    refine c_aload_n (j := 5) (x := a0) C dX11_set_144 rfl ?_
                    refine hv2 (show 1 ≤ ivh12 a0 11 ∧ ivh12 a0 11 ≤ 100 from W10.int ty21 11) (show ivh12 a0 11 = ivb1 a0 11 from fl10.i ty21 rfl 11) (fun ri96 ie102 => ?_)
                    refine c_get (k := 11) C ck_12 dX11_set_145 w2_55 (by decide) ty21 rfl rfl (by decide) rfl ?_
                    refine c_aload_n (j := 5) (x := a0) C dX11_set_148 rfl ?_
                    refine hv2 (show (-2147483648) ≤ ivh12 a0 13 ∧ ivh12 a0 13 ≤ 2147483647 from W10.int ty21 13) (show ivh12 a0 13 = ivb1 a0 13 from fl10.i ty21 rfl 13) (fun ri97 ie104 => ?_)
                    refine c_get (k := 13) C ck_12 dX11_set_149 w2_57 (by decide) ty21 rfl rfl (by decide) rfl ?_
                    refine hv2 (show (-2147483648) ≤ ivh12 sB 2 ∧ ivh12 sB 2 ≤ 2147483647 from W10.int ty23 2) (show ivh12 sB 2 = ivb1 sB 2 from fl10.i ty23 rfl 2) (fun ri98 ie106 => ?_)
                    refine d_callV (As := [.ref (sk 15), .int (iI (ivh12 ob1 0)), .int (iI (ivh12 a0 11)), .int (iI (ivh12 a0 13))]) (rest := []) C hM (G_take (a0 := sB) (a1 := (sk 15)) (x := ivh12 ob1 0) (w1 := ivh12 a0 11) (h1 := ivh12 a0 13) W10 skb1 ty23 ty22 (by omega) (by omega) (by omega) (by show 1 ≤ (ivh12 a0 11) ∧ (ivh12 a0 11) ≤ 100; omega)) dX11_set_152 kV_X11_256 rfl ty23 rfl rfl (by decide) ck_8 rfl (Nat.le_of_ble_eq_true rfl) ⟨(Nat.le_of_ble_eq_true rfl), (Nat.le_of_ble_eq_true rfl)⟩ hph pl7 (show 0 + 0 = 0 from rfl) (by decide) (fun rh13 Lh13 clh13 lnh13 ivh13 rvh13 h13 => ?_)
                    obtain ⟨f11, rfl, xl11, fl11, W11, rgf11, exf11⟩ := h13
                    refine hv13 (F8.call Xb1 fl11 rfl) (MRK.call mr8 W10 skb1 xl11 fl11 rfl rfl) (Xb1.ty tsk2) (Xb1.ty tsk3) (Xb1.ty tsk4) (Xb1.ty tsk5) (Xb1.ty tsk13) (Xb1.ty tsk16) (Xb1.ty tsk17) (Xb1.ty tsk22) (Xb1.ty tsk23) (Xb1.trans xl11) (xl11.skl skb1) (fun F9 mr9 ty27 ty28 ty29 ty30 ty31 ty32 ty33 ty34 ty35 X1 sk1 => ?_)
                    refine c_st (st2 := [.int (iI f11)]) rfl ?_
                    refine hv6 (xl11.ty ty23) (show ivh13 sB 2 = ivh12 sB 2 ∧ TKE Lb1 clb1 ivh12 rvb1 ivh13 rvh13 sB (sk 15) (ivh12 ob1 0) (ivh12 a0 11) (ivh12 a0 13) f11 from exf11) (xl11.ty ty25) (show ivh13 (sk 14) 0 = ivh12 (sk 14) 0 from fl11.i ty25 rfl 0) (show ivh13 (sk 14) 1 = ivh12 (sk 14) 1 from fl11.i ty25 rfl 1) (show ivh13 (sk 14) 2 = ivh12 (sk 14) 2 from fl11.i ty25 rfl 2) (fun ty36 gf11 ty37 ie109 ie110 ie111 => ?_)
                    refine hv4 (show (-2147483648) ≤ ivh13 sB 2 ∧ ivh13 sB 2 ≤ 2147483647 from W11.int ty36 2) (show (-2147483648) ≤ ivh13 (sk 14) 0 ∧ ivh13 (sk 14) 0 ≤ 2147483647 from W11.int ty37 0) (show 0 ≤ ivh13 (sk 14) 1 ∧ ivh13 (sk 14) 1 ≤ 1 from W11.int ty37 1) (show 0 ≤ ivh13 (sk 14) 2 ∧ ivh13 (sk 14) 2 ≤ 1 from W11.int ty37 2) (fun ri99 ri100 ri101 ri102 => ?_)
                    refine c_if_eq (tgt := 162) C ⟨by omega, by omega⟩ dX11_set_155 (by decide) (fun c9 => ?_) (fun c9 => ?_)
                    · refine c_iconst C dX11_set_162 ?_
                      refine c_istore (lv2 := [(6, .int (iI 0)), (3, .int (iI f10)), (4, .int (iI cm)), (5, .int (iI k)), (2, .ref ob1), (0, .ref a0), (1, .int (iI i))]) C dX11_set_163 (by decide) rfl ?_
                      refine hv12 (xl11.ty ty21) (show ivh13 a0 11 = ivh12 a0 11 from fl11.i ty21 rfl 11) (show ivh13 a0 12 = ivh12 a0 12 from fl11.i ty21 rfl 12) (show ivh12 a0 12 = ivb1 a0 12 from fl10.i ty21 rfl 12) (show ivh13 a0 13 = ivh12 a0 13 from fl11.i ty21 rfl 13) (show ivh13 a0 14 = ivh12 a0 14 from fl11.i ty21 rfl 14) (show ivh12 a0 14 = ivb1 a0 14 from fl10.i ty21 rfl 14) (show ivh13 a0 15 = ivh12 a0 15 from fl11.i ty21 rfl 15) (show ivh12 a0 15 = ivb1 a0 15 from fl10.i ty21 rfl 15) (show ivh13 a0 16 = ivh12 a0 16 from fl11.i ty21 rfl 16) (show ivh12 a0 16 = ivb1 a0 16 from fl10.i ty21 rfl 16) (show rvh13 a0 9 = rvb1 a0 9 from (fl11.r ty21 rfl 9)) (fun ty38 ie112 ie113 ie114 ie116 ie117 ie118 ie120 ie121 ie123 ie124 re1 => ?_)
                      refine hv6 (show 1 ≤ ivh13 a0 11 ∧ ivh13 a0 11 ≤ 100 from W11.int ty38 11) (show 1 ≤ ivh13 a0 12 ∧ ivh13 a0 12 ≤ 50 from W11.int ty38 12) (show (-2147483648) ≤ ivh13 a0 13 ∧ ivh13 a0 13 ≤ 2147483647 from W11.int ty38 13) (show (-2147483648) ≤ ivh13 a0 14 ∧ ivh13 a0 14 ≤ 2147483647 from W11.int ty38 14) (show (-2147483648) ≤ ivh13 a0 15 ∧ ivh13 a0 15 ≤ 2147483647 from W11.int ty38 15) (show (-2147483648) ≤ ivh13 a0 16 ∧ ivh13 a0 16 ≤ 2147483647 from W11.int ty38 16) (fun ri103 ri104 ri105 ri106 ri107 ri108 => ?_)
                      rw [h9] at re1
                      have re2 : rvh13 a0 10 = rvb1 a0 10 := (fl11.r ty21 rfl 10)
                      rw [h10] at re2
                      refine c_lv (lv2 := [(3, .int (iI f10)), (6, .int (iI 0)), (4, .int (iI cm)), (5, .int (iI k)), (2, .ref ob1), (0, .ref a0), (1, .int (iI i))]) [1, 0, 2, 3, 4, 5, 6] rfl ?_
                      exact J1  f10 0 _ _ _ _ _  X1 W11 F9  (by omega) (by omega) (by show 0 ≤ ivh13 (sk 14) 0 ∧ ivh13 (sk 14) 0 ≤ 501 ∧ (ivh13 (sk 14) 1 = 0 ∨ ivh13 (sk 14) 0 ≤ 500); omega) (by show k < 2 * ivh13 (sk 14) 0 + ivh13 (sk 14) 1; omega) re1 re2 (hP.word (by omega) (by omega) (QT.of hW hS Xb1 Fb1 rfl rfl rfl rfl rfl) wkob1 Wb1 W10 ty22 ty23 ty24 gf10.2 (by omega) fl10 (by omega) (by omega) (by have q := gf11.2; rw [show ivh12 a0 11 = iv a0 11 by omega, show ivh12 a0 13 = iv a0 13 by omega] at q; exact q) gf11.1 (by omega) (by omega) (by omega) (by omega)) (by show ivh13 a0 11 = iv a0 11; omega) (by show ivh13 a0 12 = iv a0 12; omega) (by show ivh13 a0 13 = iv a0 13; omega) (by show ivh13 a0 14 = iv a0 14; omega) (by show ivh13 a0 15 = iv a0 15; omega) (by show ivh13 a0 16 = iv a0 16; omega)
                    · refine c_iconst C dX11_set_158 ?_
                      refine c_goto (tgt := 163) C dX11_set_159 (by decide) ?_
                      refine c_istore (lv2 := [(6, .int (iI 1)), (3, .int (iI f10)), (4, .int (iI cm)), (5, .int (iI k)), (2, .ref ob1), (0, .ref a0), (1, .int (iI i))]) C dX11_set_163 (by decide) rfl ?_
                      refine hv12 (xl11.ty ty21) (show ivh13 a0 11 = ivh12 a0 11 from fl11.i ty21 rfl 11) (show ivh13 a0 12 = ivh12 a0 12 from fl11.i ty21 rfl 12) (show ivh12 a0 12 = ivb1 a0 12 from fl10.i ty21 rfl 12) (show ivh13 a0 13 = ivh12 a0 13 from fl11.i ty21 rfl 13) (show ivh13 a0 14 = ivh12 a0 14 from fl11.i ty21 rfl 14) (show ivh12 a0 14 = ivb1 a0 14 from fl10.i ty21 rfl 14) (show ivh13 a0 15 = ivh12 a0 15 from fl11.i ty21 rfl 15) (show ivh12 a0 15 = ivb1 a0 15 from fl10.i ty21 rfl 15) (show ivh13 a0 16 = ivh12 a0 16 from fl11.i ty21 rfl 16) (show ivh12 a0 16 = ivb1 a0 16 from fl10.i ty21 rfl 16) (show rvh13 a0 9 = rvb1 a0 9 from (fl11.r ty21 rfl 9)) (fun ty39 ie126 ie127 ie128 ie130 ie131 ie132 ie134 ie135 ie137 ie138 re3 => ?_)
                      refine hv6 (show 1 ≤ ivh13 a0 11 ∧ ivh13 a0 11 ≤ 100 from W11.int ty39 11) (show 1 ≤ ivh13 a0 12 ∧ ivh13 a0 12 ≤ 50 from W11.int ty39 12) (show (-2147483648) ≤ ivh13 a0 13 ∧ ivh13 a0 13 ≤ 2147483647 from W11.int ty39 13) (show (-2147483648) ≤ ivh13 a0 14 ∧ ivh13 a0 14 ≤ 2147483647 from W11.int ty39 14) (show (-2147483648) ≤ ivh13 a0 15 ∧ ivh13 a0 15 ≤ 2147483647 from W11.int ty39 15) (show (-2147483648) ≤ ivh13 a0 16 ∧ ivh13 a0 16 ≤ 2147483647 from W11.int ty39 16) (fun ri109 ri110 ri111 ri112 ri113 ri114 => ?_)
                      rw [h9] at re3
                      have re4 : rvh13 a0 10 = rvb1 a0 10 := (fl11.r ty21 rfl 10)
                      rw [h10] at re4
                      refine c_lv (lv2 := [(3, .int (iI f10)), (6, .int (iI 1)), (4, .int (iI cm)), (5, .int (iI k)), (2, .ref ob1), (0, .ref a0), (1, .int (iI i))]) [1, 0, 2, 3, 4, 5, 6] rfl ?_
                      exact J1  f10 1 _ _ _ _ _  X1 W11 F9  (by omega) (by omega) (by show 0 ≤ ivh13 (sk 14) 0 ∧ ivh13 (sk 14) 0 ≤ 501 ∧ (ivh13 (sk 14) 1 = 0 ∨ ivh13 (sk 14) 0 ≤ 500); omega) (by show k < 2 * ivh13 (sk 14) 0 + ivh13 (sk 14) 1; omega) re3 re4 (hP.word (by omega) (by omega) (QT.of hW hS Xb1 Fb1 rfl rfl rfl rfl rfl) wkob1 Wb1 W10 ty22 ty23 ty24 gf10.2 (by omega) fl10 (by omega) (by omega) (by have q := gf11.2; rw [show ivh12 a0 11 = iv a0 11 by omega, show ivh12 a0 13 = iv a0 13 by omega] at q; exact q) gf11.1 (by omega) (by omega) (by omega) (by omega)) (by show ivh13 a0 11 = iv a0 11; omega) (by show ivh13 a0 12 = iv a0 12; omega) (by show ivh13 a0 13 = iv a0 13; omega) (by show ivh13 a0 14 = iv a0 14; omega) (by show ivh13 a0 15 = iv a0 15; omega) (by show ivh13 a0 16 = iv a0 16; omega)
                · refine c_aload_n (j := 5) (x := a0) C dX11_set_98 rfl ?_
                  have ty40 := Xb1.ty t_a0
                  refine c_getr (k := 10) C ck_12 dX11_set_99 w2_54 (by decide) ty40 rfl rfl (by decide) rfl h10 ?_
                  refine c_st (st2 := [.ref sB]) rfl ?_
                  refine c_aload_n (j := 5) (x := a0) C dX11_set_102 rfl ?_
                  obtain ⟨rb10, rq10, trb10⟩ := Wb1.ref ty40 5 rfl rfl rfl
                  have erb10 := Wb1.sk trb10 (by decide) rfl
                  subst erb10
                  refine c_getr (k := 5) C ck_12 dX11_set_103 w2_49 (by decide) ty40 rfl rfl (by decide) rfl rq10 ?_
                  refine c_st (st2 := [.ref (sk 14), .ref sB]) rfl ?_
                  have ty41 := Xb1.ty tsk14
                  have ri115 : 0 ≤ ivb1 (sk 14) 2 ∧ ivb1 (sk 14) 2 ≤ 1 := Wb1.int ty41 2
                  refine c_get (k := 2) C ck_9 dX11_set_106 w1_106 (by decide) ty41 rfl rfl (by decide) rfl ?_
                  refine c_aload_n (j := 5) (x := a0) C dX11_set_109 rfl ?_
                  have ri116 : 1 ≤ ivb1 a0 11 ∧ ivb1 a0 11 ≤ 100 := Wb1.int ty40 11
                  refine c_get (k := 11) C ck_12 dX11_set_110 w2_55 (by decide) ty40 rfl rfl (by decide) rfl ?_
                  refine hv5 (Xb1.ty tsA) (show (-2147483648) ≤ ivb1 (sk 14) 0 ∧ ivb1 (sk 14) 0 ≤ 2147483647 from Wb1.int ty41 0) (show 0 ≤ ivb1 (sk 14) 1 ∧ ivb1 (sk 14) 1 ≤ 1 from Wb1.int ty41 1) (Xb1.ty tsB) (Phi.le Wb1 skb1) (fun ty42 ri117 ri118 ty43 pl8 => ?_)
                  refine d_callV (As := [.int (iI (ivb1 (sk 14) 2)), .int (iI (ivb1 a0 11))]) (rest := []) C hM (G_endText (a0 := sB) (g := ivb1 (sk 14) 2) (w1 := ivb1 a0 11) Wb1 skb1 ty43 (by omega) (by omega) (by show 1 ≤ (ivb1 a0 11) ∧ (ivb1 a0 11) ≤ 100; omega)) dX11_set_113 kV_X11_249 rfl ty43 rfl rfl (by decide) ck_8 rfl (Nat.le_of_ble_eq_true rfl) ⟨(Nat.le_of_ble_eq_true rfl), (Nat.le_of_ble_eq_true rfl)⟩ hph pl8 (show 0 + 0 = 0 from rfl) (by decide) (fun rh14 Lh14 clh14 lnh14 ivh14 rvh14 h14 => ?_)
                  obtain ⟨rfl, rfl, rfl, rfl, rfl, fl12, W12, exf12⟩ := h14
                  refine hv2 (Fb1.call Xb1 fl12 rfl) (MRK.call mrb1 Wb1 skb1 XT.refl fl12 rfl rfl) (fun F10 mr10 => ?_)
                  refine c_st (st2 := []) rfl ?_
                  refine hv7 (show ENX Lb1 clb1 ivb1 rvb1 ivh14 sB (ivb1 (sk 14) 2) (ivb1 a0 11) from exf12) (show (-2147483648) ≤ ivh14 (sk 14) 0 ∧ ivh14 (sk 14) 0 ≤ 2147483647 from W12.int ty41 0) (show ivh14 (sk 14) 0 = ivb1 (sk 14) 0 from fl12.i ty41 rfl 0) (show 0 ≤ ivh14 (sk 14) 1 ∧ ivh14 (sk 14) 1 ≤ 1 from W12.int ty41 1) (show ivh14 (sk 14) 1 = ivb1 (sk 14) 1 from fl12.i ty41 rfl 1) (show 0 ≤ ivh14 (sk 14) 2 ∧ ivh14 (sk 14) 2 ≤ 1 from W12.int ty41 2) (show ivh14 (sk 14) 2 = ivb1 (sk 14) 2 from fl12.i ty41 rfl 2) (fun gf12 ri119 ie144 ri120 ie145 ri121 ie146 => ?_)
                  refine c_goto (tgt := 165) C dX11_set_116 (by decide) ?_
                  refine hv12 (show 1 ≤ ivh14 a0 11 ∧ ivh14 a0 11 ≤ 100 from W12.int ty40 11) (show ivh14 a0 11 = ivb1 a0 11 from fl12.i ty40 rfl 11) (show 1 ≤ ivh14 a0 12 ∧ ivh14 a0 12 ≤ 50 from W12.int ty40 12) (show ivh14 a0 12 = ivb1 a0 12 from fl12.i ty40 rfl 12) (show (-2147483648) ≤ ivh14 a0 13 ∧ ivh14 a0 13 ≤ 2147483647 from W12.int ty40 13) (show ivh14 a0 13 = ivb1 a0 13 from fl12.i ty40 rfl 13) (show (-2147483648) ≤ ivh14 a0 14 ∧ ivh14 a0 14 ≤ 2147483647 from W12.int ty40 14) (show ivh14 a0 14 = ivb1 a0 14 from fl12.i ty40 rfl 14) (show (-2147483648) ≤ ivh14 a0 15 ∧ ivh14 a0 15 ≤ 2147483647 from W12.int ty40 15) (show ivh14 a0 15 = ivb1 a0 15 from fl12.i ty40 rfl 15) (show (-2147483648) ≤ ivh14 a0 16 ∧ ivh14 a0 16 ≤ 2147483647 from W12.int ty40 16) (show ivh14 a0 16 = ivb1 a0 16 from fl12.i ty40 rfl 16) (fun ri122 ie147 ri123 ie148 ri124 ie150 ri125 ie152 ri126 ie154 ri127 ie156 => ?_)
                  refine c_lv (lv2 := [(3, .int (iI wy)), (6, .int (iI 1)), (4, .int (iI cm)), (5, .int (iI k)), (2, .ref ob1), (0, .ref a0), (1, .int (iI i))]) [1, 0, 2, 3, 4, 5, 6] rfl ?_
                  exact J1  wy 1 _ _ _ _ _  Xb1 W12 F10  (by omega) (by omega) (by show 0 ≤ ivh14 (sk 14) 0 ∧ ivh14 (sk 14) 0 ≤ 501 ∧ (ivh14 (sk 14) 1 = 0 ∨ ivh14 (sk 14) 0 ≤ 500); omega) (by show k < 2 * ivh14 (sk 14) 0 + ivh14 (sk 14) 1; omega) h9 h10 (hP.end_ (x := ivb1 (sk 14) 2) (by omega) (by omega) ty42 (by have q := gf12; rw [show ivb1 a0 11 = iv a0 11 by omega] at q; exact q) rfl (by omega) (by omega) rfl) (by show ivh14 a0 11 = iv a0 11; omega) (by show ivh14 a0 12 = iv a0 12; omega) (by show ivh14 a0 13 = iv a0 13; omega) (by show ivh14 a0 14 = iv a0 14; omega) (by show ivh14 a0 15 = iv a0 15; omega) (by show ivh14 a0 16 = iv a0 16; omega)
              · refine c_aload_n (j := 5) (x := a0) C dX11_set_80 rfl ?_
                have ty44 := Xb1.ty t_a0
                refine c_getr (k := 10) C ck_12 dX11_set_81 w2_54 (by decide) ty44 rfl rfl (by decide) rfl h10 ?_
                refine c_st (st2 := [.ref sB]) rfl ?_
                refine hv4 (Xb1.ty tsA) (Xb1.ty tsk14) (Xb1.ty tsB) (Phi.le Wb1 skb1) (fun ty45 ty46 ty47 pl9 => ?_)
                refine hv3 (show (-2147483648) ≤ ivb1 (sk 14) 0 ∧ ivb1 (sk 14) 0 ≤ 2147483647 from Wb1.int ty46 0) (show 0 ≤ ivb1 (sk 14) 1 ∧ ivb1 (sk 14) 1 ≤ 1 from Wb1.int ty46 1) (show 0 ≤ ivb1 (sk 14) 2 ∧ ivb1 (sk 14) 2 ≤ 1 from Wb1.int ty46 2) (fun ri128 ri129 ri130 => ?_)
                refine d_callV (As := []) (rest := []) C hM (G_beginText (a0 := sB) Wb1 skb1 ty47  ) dX11_set_84 kV_X11_243 rfl ty47 rfl rfl (by decide) ck_8 rfl (Nat.le_of_ble_eq_true rfl) ⟨(Nat.le_of_ble_eq_true rfl), (Nat.le_of_ble_eq_true rfl)⟩ hph pl9 (show 0 + 0 = 0 from rfl) (by decide) (fun rh15 Lh15 clh15 lnh15 ivh15 rvh15 h15 => ?_)
                obtain ⟨f13, rfl, xl13, fl13, W13, rgf13, exf13⟩ := h15
                refine hv15 (Fb1.call Xb1 fl13 rfl) (MRK.call mrb1 Wb1 skb1 xl13 fl13 rfl rfl) (Xb1.ty tsk2) (Xb1.ty tsk3) (Xb1.ty tsk4) (Xb1.ty tsk5) (Xb1.ty tsk13) (Xb1.ty tsk15) (Xb1.ty tsk16) (Xb1.ty tsk17) (Xb1.ty tsk22) (Xb1.ty tsk23) (Xb1.ty tob1) (Xb1.trans xl13) (xl13.skl skb1) (fun F11 mr11 ty48 ty49 ty50 ty51 ty52 ty53 ty54 ty55 ty56 ty57 ty58 X2 sk2 => ?_)
                refine c_st (st2 := [.int (iI f13)]) rfl ?_
                refine hv5 (show BTX Lb1 clb1 ivb1 rvb1 ivh15 rvh15 sB f13 from exf13) (xl13.ty ty46) (show ivh15 (sk 14) 0 = ivb1 (sk 14) 0 from fl13.i ty46 rfl 0) (show ivh15 (sk 14) 1 = ivb1 (sk 14) 1 from fl13.i ty46 rfl 1) (show ivh15 (sk 14) 2 = ivb1 (sk 14) 2 from fl13.i ty46 rfl 2) (fun gf13 ty59 ie161 ie162 ie163 => ?_)
                refine hv3 (show (-2147483648) ≤ ivh15 (sk 14) 0 ∧ ivh15 (sk 14) 0 ≤ 2147483647 from W13.int ty59 0) (show 0 ≤ ivh15 (sk 14) 1 ∧ ivh15 (sk 14) 1 ≤ 1 from W13.int ty59 1) (show 0 ≤ ivh15 (sk 14) 2 ∧ ivh15 (sk 14) 2 ≤ 1 from W13.int ty59 2) (fun ri131 ri132 ri133 => ?_)
                refine c_istore (lv2 := [(6, .int (iI f13)), (3, .int (iI wy)), (4, .int (iI cm)), (5, .int (iI k)), (2, .ref ob1), (0, .ref a0), (1, .int (iI i))]) C dX11_set_87 (by decide) rfl ?_
                refine c_goto (tgt := 165) C dX11_set_89 (by decide) ?_
                refine hv8 (xl13.ty ty44) (show ivh15 a0 11 = ivb1 a0 11 from fl13.i ty44 rfl 11) (show ivh15 a0 12 = ivb1 a0 12 from fl13.i ty44 rfl 12) (show ivh15 a0 13 = ivb1 a0 13 from fl13.i ty44 rfl 13) (show ivh15 a0 14 = ivb1 a0 14 from fl13.i ty44 rfl 14) (show ivh15 a0 15 = ivb1 a0 15 from fl13.i ty44 rfl 15) (show ivh15 a0 16 = ivb1 a0 16 from fl13.i ty44 rfl 16) (show rvh15 a0 9 = rvb1 a0 9 from (fl13.r ty44 rfl 9)) (fun ty60 ie164 ie166 ie168 ie170 ie172 ie174 re5 => ?_)
                refine hv6 (show 1 ≤ ivh15 a0 11 ∧ ivh15 a0 11 ≤ 100 from W13.int ty60 11) (show 1 ≤ ivh15 a0 12 ∧ ivh15 a0 12 ≤ 50 from W13.int ty60 12) (show (-2147483648) ≤ ivh15 a0 13 ∧ ivh15 a0 13 ≤ 2147483647 from W13.int ty60 13) (show (-2147483648) ≤ ivh15 a0 14 ∧ ivh15 a0 14 ≤ 2147483647 from W13.int ty60 14) (show (-2147483648) ≤ ivh15 a0 15 ∧ ivh15 a0 15 ≤ 2147483647 from W13.int ty60 15) (show (-2147483648) ≤ ivh15 a0 16 ∧ ivh15 a0 16 ≤ 2147483647 from W13.int ty60 16) (fun ri134 ri135 ri136 ri137 ri138 ri139 => ?_)
                rw [h9] at re5
                have re6 : rvh15 a0 10 = rvb1 a0 10 := (fl13.r ty44 rfl 10)
                rw [h10] at re6
                refine c_lv (lv2 := [(3, .int (iI wy)), (6, .int (iI f13)), (4, .int (iI cm)), (5, .int (iI k)), (2, .ref ob1), (0, .ref a0), (1, .int (iI i))]) [1, 0, 2, 3, 4, 5, 6] rfl ?_
                exact J1  wy f13 _ _ _ _ _  X2 W13 F11  (by omega) (by omega) (by show 0 ≤ ivh15 (sk 14) 0 ∧ ivh15 (sk 14) 0 ≤ 501 ∧ (ivh15 (sk 14) 1 = 0 ∨ ivh15 (sk 14) 0 ≤ 500); omega) (by show k < 2 * ivh15 (sk 14) 0 + ivh15 (sk 14) 1; omega) re5 re6 (hP.beg (by omega) (by omega) wkob1 ty45 gf13 (by omega) (by omega) (by omega) (by omega)) (by show ivh15 a0 11 = iv a0 11; omega) (by show ivh15 a0 12 = iv a0 12; omega) (by show ivh15 a0 13 = iv a0 13; omega) (by show ivh15 a0 14 = iv a0 14; omega) (by show ivh15 a0 15 = iv a0 15; omega) (by show ivh15 a0 16 = iv a0 16; omega)
    refine hv24 (show 1 ≤ ivh4 a0 11 ∧ ivh4 a0 11 ≤ 100 from W4.int t_a0 11) (show ivh4 a0 11 = ivh3 a0 11 from fl4.i t_a0 rfl 11) (show ivh3 a0 11 = ivh2 a0 11 from fl3.i t_a0 rfl 11) (show ivh2 a0 11 = iv a0 11 from fl2.i t_a0 rfl 11) (show 1 ≤ ivh4 a0 12 ∧ ivh4 a0 12 ≤ 50 from W4.int t_a0 12) (show ivh4 a0 12 = ivh3 a0 12 from fl4.i t_a0 rfl 12) (show ivh3 a0 12 = ivh2 a0 12 from fl3.i t_a0 rfl 12) (show ivh2 a0 12 = iv a0 12 from fl2.i t_a0 rfl 12) (show (-2147483648) ≤ ivh4 a0 13 ∧ ivh4 a0 13 ≤ 2147483647 from W4.int t_a0 13) (show ivh4 a0 13 = ivh3 a0 13 from fl4.i t_a0 rfl 13) (show ivh3 a0 13 = ivh2 a0 13 from fl3.i t_a0 rfl 13) (show ivh2 a0 13 = iv a0 13 from fl2.i t_a0 rfl 13) (show (-2147483648) ≤ ivh4 a0 14 ∧ ivh4 a0 14 ≤ 2147483647 from W4.int t_a0 14) (show ivh4 a0 14 = ivh3 a0 14 from fl4.i t_a0 rfl 14) (show ivh3 a0 14 = ivh2 a0 14 from fl3.i t_a0 rfl 14) (show ivh2 a0 14 = iv a0 14 from fl2.i t_a0 rfl 14) (show (-2147483648) ≤ ivh4 a0 15 ∧ ivh4 a0 15 ≤ 2147483647 from W4.int t_a0 15) (show ivh4 a0 15 = ivh3 a0 15 from fl4.i t_a0 rfl 15) (show ivh3 a0 15 = ivh2 a0 15 from fl3.i t_a0 rfl 15) (show ivh2 a0 15 = iv a0 15 from fl2.i t_a0 rfl 15) (show (-2147483648) ≤ ivh4 a0 16 ∧ ivh4 a0 16 ≤ 2147483647 from W4.int t_a0 16) (show ivh4 a0 16 = ivh3 a0 16 from fl4.i t_a0 rfl 16) (show ivh3 a0 16 = ivh2 a0 16 from fl3.i t_a0 rfl 16) (show ivh2 a0 16 = iv a0 16 from fl2.i t_a0 rfl 16) (fun ri140 ie176 ie177 ie178 ri141 ie179 ie180 ie181 ri142 ie182 ie183 ie184 ri143 ie185 ie186 ie187 ri144 ie188 ie189 ie190 ri145 ie191 ie192 ie193 => ?_)
    refine c_lv (lv2 := [(3, .int (iI 0)), (4, .int (iI f4)), (5, .int (iI 0)), (2, .ref ob1), (0, .ref a0), (1, .int (iI i))]) [2, 1, 0, 3, 4, 5] rfl ?_
    exact Lp1 1103 0 f4 0 _ _ _ _ _ (by omega) hX0 W4 F3  (by omega) (by omega) (by omega) (by show 0 ≤ ivh4 (sk 14) 0 ∧ ivh4 (sk 14) 0 ≤ 501 ∧ (ivh4 (sk 14) 1 = 0 ∨ ivh4 (sk 14) 0 ≤ 500); omega) (by omega) hsA hsB (PSL.init hW tsB tsA exf2 W2 fl3 W3 (by omega) (by omega) fl4 F2 rfl rfl tsk3 gf4.2 rfl) (by show ivh4 a0 11 = iv a0 11; omega) (by show ivh4 a0 12 = iv a0 12; omega) (by show ivh4 a0 13 = iv a0 13; omega) (by show ivh4 a0 14 = iv a0 14; omega) (by show ivh4 a0 15 = iv a0 15; omega) (by show ivh4 a0 16 = iv a0 16; omega)
  · subst oq1
    refine c_lv (lv2 := [(2, .null), (0, .ref a0), (1, .int (iI i))]) [0, 1, 2] rfl ?_
    refine c_st (st2 := []) rfl ?_
    refine c_aload_n (j := 1) (x := a0) C dX11_set_13 rfl ?_
    refine c_iconst C dX11_set_14 ?_
    refine d_callV (As := [.int (iI 3)]) (rest := []) C hM (C_refuse (a0 := a0) (x := 3) hW hS t_a0 ⟨by decide, by decide⟩ ) dX11_set_15 kV_X11_102 rfl t_a0 rfl rfl (by decide) ck_12 rfl (Nat.le_of_ble_eq_true rfl) ⟨(Nat.le_of_ble_eq_true rfl), (Nat.le_of_ble_eq_true rfl)⟩ hph hph (show 0 + 0 = 0 from rfl) (by decide) (fun rh16 Lh16 clh16 lnh16 ivh16 rvh16 h16 => ?_)
    obtain ⟨f14, rfl, rfl, rfl, rfl, rfl, fl14, W14, rgf14, exf14, kp11f14, kp12f14, kp13f14, kp14f14, kp15f14, kp16f14⟩ := h16
    refine hv6 (show 1 ≤ iv a0 12 ∧ iv a0 12 ≤ 50 from hW.int t_a0 12) (show (-2147483648) ≤ iv a0 14 ∧ iv a0 14 ≤ 2147483647 from hW.int t_a0 14) (show (-2147483648) ≤ iv a0 15 ∧ iv a0 15 ≤ 2147483647 from hW.int t_a0 15) (show (-2147483648) ≤ iv a0 16 ∧ iv a0 16 ≤ 2147483647 from hW.int t_a0 16) (hF0.call hX0 fl14 rfl) (MRK.call hmr hW hS XT.refl fl14 rfl rfl) (fun ri146 ri147 ri148 ri149 F12 mr12 => ?_)
    refine c_st (st2 := [.int (iI f14)]) rfl ?_
    refine hv13 (show ivh16 a0 11 = iv a0 11 from kp11f14) (show ivh16 a0 12 = iv a0 12 from kp12f14) (show ivh16 a0 13 = iv a0 13 from kp13f14) (show ivh16 a0 14 = iv a0 14 from kp14f14) (show ivh16 a0 15 = iv a0 15 from kp15f14) (show ivh16 a0 16 = iv a0 16 from kp16f14) (show f14 = -1 from exf14) (show 1 ≤ ivh16 a0 11 ∧ ivh16 a0 11 ≤ 100 from W14.int t_a0 11) (show 1 ≤ ivh16 a0 12 ∧ ivh16 a0 12 ≤ 50 from W14.int t_a0 12) (show (-2147483648) ≤ ivh16 a0 13 ∧ ivh16 a0 13 ≤ 2147483647 from W14.int t_a0 13) (show (-2147483648) ≤ ivh16 a0 14 ∧ ivh16 a0 14 ≤ 2147483647 from W14.int t_a0 14) (show (-2147483648) ≤ ivh16 a0 15 ∧ ivh16 a0 15 ≤ 2147483647 from W14.int t_a0 15) (show (-2147483648) ≤ ivh16 a0 16 ∧ ivh16 a0 16 ≤ 2147483647 from W14.int t_a0 16) (fun gk11f14 gk12f14 gk13f14 gk14f14 gk15f14 gk16f14 gf14 ri150 ri151 ri152 ri153 ri154 ri155 => ?_)
    exact c_iret C dX11_set_18 rfl (by decide) (rom0 hph hph (by decide)) ⟨f14, rfl, hX0, F12, W14, ⟨by omega, by omega⟩, trivial, (by omega), (by omega), (by omega), (by omega), (by omega), (by omega), (PSX.n1 gf1 hW tsB tsA hsA hsB fl14 rfl rfl rfl rfl (by omega))⟩
