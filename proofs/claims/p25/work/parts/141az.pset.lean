section
set_option maxHeartbeats 4000000 in
set_option maxRecDepth 100000 in
theorem G_sclear {l : Launch} {G : GT} {mi : Nat} {sk : Nat → Nat} {L : List Nat} {cl ln : Nat → Nat} {iv : Nat → Nat → Int} {rv : Nat → Nat → Option Nat}  {a0 : Nat} (hW : WT (g0 G) sk L cl ln iv rv) (hS : SKL sk L cl) (t_a0 : ty L cl a0 18)  : Mc l G mi (Phi (g0 G) sk) PHM yX7_clear cX7_clear 1 none 0 [.ref a0] L cl ln iv rv 0 (fun v L2 cl2 ln2 iv2 rv2 => v = none ∧ L = L2 ∧ cl = cl2 ∧ ln = ln2 ∧ rv = rv2 ∧ fT [18] L cl iv rv iv2 rv2 ∧ WT (g0 G) sk L2 cl2 ln2 iv2 rv2 ∧ (iv2 = up2 iv a0 1 0)) := by
  refine Mc.mk (by decide) (Nat.le_of_ble_eq_true rfl) ?_
  intro p e s m args below meth c A C hM
  refine hv3 (Phi.le hW hS) (show XT L cl ln L cl ln from XT.refl) (show fT [18] L cl iv rv iv rv from fT.refl) (fun hph hX0 hF0 => ?_)
  refine c_aload_n (j := 0) (x := a0) C dX7_clear_0 rfl ?_
  refine c_iconst C dX7_clear_1 ?_
  refine c_put (z := 0) (k := 1) C ck_8 dX7_clear_2 w2_34 (by decide) rfl t_a0 rfl rfl (by decide) rfl (by rfl) (by rfl) (fun iv1 pq1 => ?_)
  refine hv2 (hW.puti pq1 t_a0 ⟨by decide, by decide⟩ rfl) (hF0.puti hX0 pq1 t_a0 rfl) (fun W1 F1 => ?_)
  exact c_vret C dX7_clear_5 rfl (by decide) (rom0 hph hph (by decide)) ⟨rfl, rfl, rfl, rfl, rfl, F1, W1, pq1⟩
set_option maxHeartbeats 4000000 in
set_option maxRecDepth 100000 in
theorem G_publish {l : Launch} {G : GT} {mi : Nat} {sk : Nat → Nat} {L : List Nat} {cl ln : Nat → Nat} {iv : Nat → Nat → Int} {rv : Nat → Nat → Option Nat}  {a0 : Nat} (hW : WT (g0 G) sk L cl ln iv rv) (hS : SKL sk L cl) (t_a0 : ty L cl a0 1)  : Mc l G mi (Phi (g0 G) sk) PHM yX11_publish cX11_publish 2 (some .int) 1 [.ref a0] L cl ln iv rv 0 (fun v L2 cl2 ln2 iv2 rv2 => ∃ f : Int, v = some (.int (iI f)) ∧ L = L2 ∧ cl = cl2 ∧ ln = ln2 ∧ fT [1] L cl iv rv iv2 rv2 ∧ WT (g0 G) sk L2 cl2 ln2 iv2 rv2 ∧ (-2147483648 ≤ f ∧ f ≤ 2147483647) ∧ (PBX iv rv rv2 a0 f) ∧ iv2 a0 11 = iv a0 11 ∧ iv2 a0 12 = iv a0 12 ∧ iv2 a0 13 = iv a0 13 ∧ iv2 a0 14 = iv a0 14 ∧ iv2 a0 15 = iv a0 15 ∧ iv2 a0 16 = iv a0 16) := by
  refine Mc.mk (by decide) (Nat.le_of_ble_eq_true rfl) ?_
  intro p e s m args below meth c A C hM
  refine hv3 (Phi.le hW hS) (show XT L cl ln L cl ln from XT.refl) (show fT [1] L cl iv rv iv rv from fT.refl) (fun hph hX0 hF0 => ?_)
  obtain ⟨sA, hsA, tsA⟩ := hW.ref t_a0 9 rfl rfl rfl
  obtain ⟨sB, hsB, tsB⟩ := hW.ref t_a0 10 rfl rfl rfl
  refine c_aload_n (j := 0) (x := a0) C dX11_publish_0 rfl ?_
  refine c_getr (k := 9) C ck_12 dX11_publish_1 w2_53 (by decide) t_a0 rfl rfl (by decide) rfl hsA ?_
  refine c_st (st2 := [.ref sA]) rfl ?_
  refine c_astore_n (lv2 := [(1, .ref sA), (0, .ref a0)]) C dX11_publish_4 (by decide) rfl ?_
  refine c_aload_n (j := 1) (x := a0) C dX11_publish_5 rfl ?_
  refine c_aload_n (j := 1) (x := a0) C dX11_publish_6 rfl ?_
  refine c_getr (k := 10) C ck_12 dX11_publish_7 w2_54 (by decide) t_a0 rfl rfl (by decide) rfl hsB ?_
  refine c_st (st2 := [.ref sB, .ref a0]) rfl ?_
  refine c_putr (x := (some sB)) (k := 9) C ck_12 dX11_publish_10 w2_53 (by decide) rfl t_a0 rfl rfl (by decide) rfl (by rfl) (by rfl) (fun rv1 pq1 => ⟨0, (by rw [Phi.putr hS pq1 t_a0 rfl]; exact Nat.le_refl _), ?_⟩)
  refine hv2 (hW.putr pq1 t_a0 (rok_some t_a0 tsB rfl (by decide) rfl) rfl (by decide)) (hF0.putr hX0 pq1 t_a0 rfl) (fun W1 F1 => ?_)
  refine c_aload_n (j := 1) (x := a0) C dX11_publish_13 rfl ?_
  refine c_aload_n (j := 0) (x := sA) C dX11_publish_14 rfl ?_
  refine c_putr (x := (some sA)) (k := 10) C ck_12 dX11_publish_15 w2_54 (by decide) rfl t_a0 rfl rfl (by decide) rfl (by rfl) (by rfl) (fun rv2 pq2 => ⟨0, (by rw [Phi.putr hS pq2 t_a0 rfl]; exact Nat.le_refl _), ?_⟩)
  refine hv2 (W1.putr pq2 t_a0 (rok_some t_a0 tsA rfl (by decide) rfl) rfl (by decide)) (F1.putr hX0 pq2 t_a0 rfl) (fun W2 F2 => ?_)
  refine c_aload_n (j := 1) (x := a0) C dX11_publish_18 rfl ?_
  refine c_aload_n (j := 1) (x := a0) C dX11_publish_19 rfl ?_
  refine hv2 (show rv1 a0 9 = (some sB) from by rw [pq1]; exact upr_s) (show rv2 a0 9 = rv1 a0 9 from (by rw [pq2]; exact upr_j (by decide))) (fun rp1 re1 => ?_)
  rw [rp1] at re1
  refine c_getr (k := 9) C ck_12 dX11_publish_20 w2_53 (by decide) t_a0 rfl rfl (by decide) rfl re1 ?_
  refine c_st (st2 := [.ref sB, .ref a0]) rfl ?_
  have ri1 : 0 ≤ iv sB 1 ∧ iv sB 1 ≤ 200 := W2.int tsB 1
  refine c_get (k := 1) C ck_8 dX11_publish_23 w2_35 (by decide) tsB rfl rfl (by decide) rfl ?_
  have pl1 := Phi.le W2 hS
  refine d_callV (As := [.int (iI (iv sB 1))]) (rest := []) C hM (C_done (a0 := a0) (x := iv sB 1) W2 hS t_a0 (by omega) ) dX11_publish_26 kV_X11_109 rfl t_a0 rfl rfl (by decide) ck_12 rfl (Nat.le_of_ble_eq_true rfl) ⟨(Nat.le_of_ble_eq_true rfl), (Nat.le_of_ble_eq_true rfl)⟩ hph pl1 (show 0 + 0 = 0 from rfl) (by decide) (fun rh1 Lh1 clh1 lnh1 ivh1 rvh1 h1 => ?_)
  obtain ⟨f1, rfl, rfl, rfl, rfl, rfl, fl1, W3, rgf1, exf1, kp11f1, kp12f1, kp13f1, kp14f1, kp15f1, kp16f1⟩ := h1
  refine hv7 (show 1 ≤ iv a0 11 ∧ iv a0 11 ≤ 100 from W2.int t_a0 11) (show 1 ≤ iv a0 12 ∧ iv a0 12 ≤ 50 from W2.int t_a0 12) (show (-2147483648) ≤ iv a0 13 ∧ iv a0 13 ≤ 2147483647 from W2.int t_a0 13) (show (-2147483648) ≤ iv a0 14 ∧ iv a0 14 ≤ 2147483647 from W2.int t_a0 14) (show (-2147483648) ≤ iv a0 15 ∧ iv a0 15 ≤ 2147483647 from W2.int t_a0 15) (show (-2147483648) ≤ iv a0 16 ∧ iv a0 16 ≤ 2147483647 from W2.int t_a0 16) (F2.call hX0 fl1 rfl) (fun ri2 ri3 ri4 ri5 ri6 ri7 F3 => ?_)
  refine c_st (st2 := [.int (iI f1)]) rfl ?_
  refine hv16 (show ivh1 a0 11 = iv a0 11 from kp11f1) (show ivh1 a0 12 = iv a0 12 from kp12f1) (show ivh1 a0 13 = iv a0 13 from kp13f1) (show ivh1 a0 14 = iv a0 14 from kp14f1) (show ivh1 a0 15 = iv a0 15 from kp15f1) (show ivh1 a0 16 = iv a0 16 from kp16f1) (show f1 = (iv sB 1) from exf1) (show 1 ≤ ivh1 a0 11 ∧ ivh1 a0 11 ≤ 100 from W3.int t_a0 11) (show 1 ≤ ivh1 a0 12 ∧ ivh1 a0 12 ≤ 50 from W3.int t_a0 12) (show (-2147483648) ≤ ivh1 a0 13 ∧ ivh1 a0 13 ≤ 2147483647 from W3.int t_a0 13) (show (-2147483648) ≤ ivh1 a0 14 ∧ ivh1 a0 14 ≤ 2147483647 from W3.int t_a0 14) (show (-2147483648) ≤ ivh1 a0 15 ∧ ivh1 a0 15 ≤ 2147483647 from W3.int t_a0 15) (show (-2147483648) ≤ ivh1 a0 16 ∧ ivh1 a0 16 ≤ 2147483647 from W3.int t_a0 16) (show 0 ≤ ivh1 sB 1 ∧ ivh1 sB 1 ≤ 200 from W3.int tsB 1) (show ivh1 sB 1 = iv sB 1 from fl1.i tsB rfl 1) (show rv2 a0 10 = (some sA) from by rw [pq2]; exact upr_s) (fun gk11f1 gk12f1 gk13f1 gk14f1 gk15f1 gk16f1 gf1 ri8 ri9 ri10 ri11 ri12 ri13 ri14 ie7 rp2 => ?_)
  exact c_iret C dX11_publish_29 rfl (by decide) (rom0 hph pl1 (by decide)) ⟨f1, rfl, rfl, rfl, rfl, F3, W3, ⟨by omega, by omega⟩, (fun sA' sB' e1 e2 => by
      rw [hsA] at e1; cases e1
      rw [hsB] at e2; cases e2
      exact ⟨re1, rp2, (by omega)⟩), gk11f1, gk12f1, gk13f1, gk14f1, gk15f1, gk16f1⟩
set_option maxHeartbeats 4000000 in
set_option maxRecDepth 100000 in
theorem G_set {l : Launch} {G : GT} {mi : Nat} {sk : Nat → Nat} {L : List Nat} {cl ln : Nat → Nat} {iv : Nat → Nat → Int} {rv : Nat → Nat → Option Nat}  {a0 : Nat} {i : Int} (hW : WT (g0 G) sk L cl ln iv rv) (hS : SKL sk L cl) (t_a0 : ty L cl a0 1) (h_i : -2147483648 ≤ i ∧ i ≤ 2147483647) (hmr : MRK sk cl iv rv) : Mc l G mi (Phi (g0 G) sk) PHM yX11_set cX11_set 7 (some .int) 8 [.ref a0, .int (iI i)] L cl ln iv rv 0 (fun v L2 cl2 ln2 iv2 rv2 => ∃ f : Int, v = some (.int (iI f)) ∧ XT L cl ln L2 cl2 ln2 ∧ fT [1, 14, 15, 50, 51, 52, 53, 54, 55, 18, 19, 64, 67, 203] L cl iv rv iv2 rv2 ∧ WT (g0 G) sk L2 cl2 ln2 iv2 rv2 ∧ (-2147483648 ≤ f ∧ f ≤ 2147483647) ∧ (True) ∧ iv2 a0 11 = iv a0 11 ∧ iv2 a0 12 = iv a0 12 ∧ iv2 a0 13 = iv a0 13 ∧ iv2 a0 14 = iv a0 14 ∧ iv2 a0 15 = iv a0 15 ∧ iv2 a0 16 = iv a0 16 ∧ (PSX sk ln iv rv iv2 rv2 a0 (iv a0 11) (iv a0 13) i f)) := by
  refine Mc.mk (by decide) (Nat.le_of_ble_eq_true rfl) ?_
  intro p e s m args below meth c A C hM
  refine hv14 (Phi.le hW hS) (show ty L cl (sk 2) 2 from ⟨(hS 2 rfl).1, by rw [(hS 2 rfl).2]; rfl⟩) (show ty L cl (sk 3) 3 from ⟨(hS 3 rfl).1, by rw [(hS 3 rfl).2]; rfl⟩) (show ty L cl (sk 4) 4 from ⟨(hS 4 rfl).1, by rw [(hS 4 rfl).2]; rfl⟩) (show ty L cl (sk 5) 5 from ⟨(hS 5 rfl).1, by rw [(hS 5 rfl).2]; rfl⟩) (show ty L cl (sk 13) 13 from ⟨(hS 13 rfl).1, by rw [(hS 13 rfl).2]; rfl⟩) (show ty L cl (sk 14) 14 from ⟨(hS 14 rfl).1, by rw [(hS 14 rfl).2]; rfl⟩) (show ty L cl (sk 15) 15 from ⟨(hS 15 rfl).1, by rw [(hS 15 rfl).2]; rfl⟩) (show ty L cl (sk 16) 16 from ⟨(hS 16 rfl).1, by rw [(hS 16 rfl).2]; rfl⟩) (show ty L cl (sk 17) 17 from ⟨(hS 17 rfl).1, by rw [(hS 17 rfl).2]; rfl⟩) (show ty L cl (sk 22) 22 from ⟨(hS 22 rfl).1, by rw [(hS 22 rfl).2]; rfl⟩) (show ty L cl (sk 23) 23 from ⟨(hS 23 rfl).1, by rw [(hS 23 rfl).2]; rfl⟩) (show XT L cl ln L cl ln from XT.refl) (show fT [1, 14, 15, 50, 51, 52, 53, 54, 55, 18, 19, 64, 67, 203] L cl iv rv iv rv from fT.refl) (fun hph tsk2 tsk3 tsk4 tsk5 tsk13 tsk14 tsk15 tsk16 tsk17 tsk22 tsk23 hX0 hF0 => ?_)
  obtain ⟨sA, hsA, tsA⟩ := hW.ref t_a0 9 rfl rfl rfl
  obtain ⟨sB, hsB, tsB⟩ := hW.ref t_a0 10 rfl rfl rfl
  refine hv5 (show (-2147483648) ≤ iv (sk 14) 0 ∧ iv (sk 14) 0 ≤ 2147483647 from hW.int tsk14 0) (show 0 ≤ iv (sk 14) 1 ∧ iv (sk 14) 1 ≤ 1 from hW.int tsk14 1) (show 0 ≤ iv (sk 14) 2 ∧ iv (sk 14) 2 ≤ 1 from hW.int tsk14 2) (show 1 ≤ iv a0 11 ∧ iv a0 11 ≤ 100 from hW.int t_a0 11) (show (-2147483648) ≤ iv a0 13 ∧ iv a0 13 ≤ 2147483647 from hW.int t_a0 13) (fun ri1 ri2 ri3 ri4 ri5 => ?_)
  refine c_aload_n (j := 0) (x := a0) C dX11_set_0 rfl ?_
  obtain ⟨rb1, rq1, trb1⟩ := hW.ref t_a0 4 rfl rfl rfl
  have erb1 := hW.sk trb1 (by decide) rfl
  subst erb1
  refine c_getr (k := 4) C ck_12 dX11_set_1 w2_48 (by decide) t_a0 rfl rfl (by decide) rfl rq1 ?_
  refine c_st (st2 := [.ref (sk 13)]) rfl ?_
  refine c_iload_n (j := 1) C dX11_set_4 rfl ?_
  refine d_callV (As := [.int (iI i)]) (rest := []) C hM (G_whole (a0 := (sk 13)) (i := i) hW hS tsk13 (by omega) hmr) dX11_set_5 kV_X11_231 rfl tsk13 rfl rfl (by decide) ck_11 rfl (Nat.le_of_ble_eq_true rfl) ⟨(Nat.le_of_ble_eq_true rfl), (Nat.le_of_ble_eq_true rfl)⟩ hph hph (show 0 + 0 = 0 from rfl) (by decide) (fun rh1 Lh1 clh1 lnh1 ivh1 rvh1 h1 => ?_)
  obtain ⟨f1, rfl, rfl, rfl, rfl, rfl, rfl, rgf1, exf1⟩ := h1
  refine c_st (st2 := [(va_rf f1)]) rfl ?_
  have gf1 : WOX sk ln iv rv i f1 := exf1
  refine c_astorer_n (r := f1) (lv2 := [(2, (va_rf f1)), (0, .ref a0), (1, .int (iI i))]) C dX11_set_8 (by decide) rfl ?_
  refine c_aloadr_n (j := 0) (r := f1) C dX11_set_9 rfl ?_
  refine c_ifnonnull (r := f1) (tgt := 19) C dX11_set_10 (by decide) (fun ob1 oq1 => ?_) (fun oq1 => ?_)
  · subst oq1
    refine hv2 (rgf1 ob1 rfl) (gf1) (fun tob1 wkob1 => ?_)
    refine c_lv (lv2 := [(2, .ref ob1), (0, .ref a0), (1, .int (iI i))]) [0, 1, 2] rfl ?_
    refine c_st (st2 := []) rfl ?_
    refine c_aload_n (j := 1) (x := a0) C dX11_set_19 rfl ?_
    refine c_getr (k := 10) C ck_12 dX11_set_20 w2_54 (by decide) t_a0 rfl rfl (by decide) rfl hsB ?_
    refine c_st (st2 := [.ref sB]) rfl ?_
    have ri6 : 0 ≤ iv sB 1 ∧ iv sB 1 ≤ 200 := hW.int tsB 1
    refine d_callV (As := []) (rest := []) C hM (G_sclear (a0 := sB) hW hS tsB  ) dX11_set_23 kV_X11_234 rfl tsB rfl rfl (by decide) ck_8 rfl (Nat.le_of_ble_eq_true rfl) ⟨(Nat.le_of_ble_eq_true rfl), (Nat.le_of_ble_eq_true rfl)⟩ hph hph (show 0 + 0 = 0 from rfl) (by decide) (fun rh2 Lh2 clh2 lnh2 ivh2 rvh2 h2 => ?_)
    obtain ⟨rfl, rfl, rfl, rfl, rfl, fl2, W2, exf2⟩ := h2
    refine hv2 (hF0.call hX0 fl2 rfl) (MRK.call hmr hW hS XT.refl fl2 rfl rfl) (fun F1 mr1 => ?_)
    refine c_st (st2 := []) rfl ?_
    refine c_aload_n (j := 1) (x := a0) C dX11_set_26 rfl ?_
    obtain ⟨rb2, rq2, trb2⟩ := W2.ref t_a0 5 rfl rfl rfl
    have erb2 := W2.sk trb2 (by decide) rfl
    subst erb2
    refine c_getr (k := 5) C ck_12 dX11_set_27 w2_49 (by decide) t_a0 rfl rfl (by decide) rfl rq2 ?_
    refine c_st (st2 := [.ref (sk 14)]) rfl ?_
    refine d_callV (As := []) (rest := []) C hM (C_restart (a0 := (sk 14)) W2 hS tsk14  ) dX11_set_30 kV_X11_235 rfl tsk14 rfl rfl (by decide) ck_9 rfl (Nat.le_of_ble_eq_true rfl) ⟨(Nat.le_of_ble_eq_true rfl), (Nat.le_of_ble_eq_true rfl)⟩ hph hph (show 0 + 0 = 0 from rfl) (by decide) (fun rh3 Lh3 clh3 lnh3 ivh3 rvh3 h3 => ?_)
    obtain ⟨rfl, rfl, rfl, rfl, rfl, fl3, W3, exf3⟩ := h3
    refine hv2 (F1.call hX0 fl3 rfl) (MRK.call mr1 W2 hS XT.refl fl3 rfl rfl) (fun F2 mr2 => ?_)
    refine c_st (st2 := []) rfl ?_
    refine hv4 (show (-2147483648) ≤ ivh3 (sk 14) 0 ∧ ivh3 (sk 14) 0 ≤ 2147483647 from W3.int tsk14 0) (show 0 ≤ ivh3 (sk 14) 1 ∧ ivh3 (sk 14) 1 ≤ 1 from W3.int tsk14 1) (show ivh3 (sk 14) 0 = 0 ∧ ivh3 (sk 14) 1 = 0 from exf3) (show 0 ≤ ivh3 (sk 14) 2 ∧ ivh3 (sk 14) 2 ≤ 1 from W3.int tsk14 2) (fun ri7 ri8 gf3 ri9 => ?_)
    refine c_iconst C dX11_set_33 ?_
    refine c_istore_n (lv2 := [(3, .int (iI 0)), (2, .ref ob1), (0, .ref a0), (1, .int (iI i))]) C dX11_set_34 (by decide) rfl ?_
    refine c_aload_n (j := 2) (x := a0) C dX11_set_35 rfl ?_
    refine c_getr (k := 5) C ck_12 dX11_set_36 w2_49 (by decide) t_a0 rfl rfl (by decide) rfl rq2 ?_
    refine c_st (st2 := [.ref (sk 14)]) rfl ?_
    refine c_aload_n (j := 2) (x := a0) C dX11_set_39 rfl ?_
    obtain ⟨rb3, rq3, trb3⟩ := W3.ref t_a0 1 rfl rfl rfl
    have erb3 := W3.sk trb3 (by decide) rfl
    subst erb3
    refine c_getr (k := 1) C ck_12 dX11_set_40 w2_45 (by decide) t_a0 rfl rfl (by decide) rfl rq3 ?_
    refine c_st (st2 := [.ref (sk 3), .ref (sk 14)]) rfl ?_
    refine c_aload_n (j := 2) (x := a0) C dX11_set_43 rfl ?_
    obtain ⟨rb4, rq4, trb4⟩ := W3.ref t_a0 6 rfl rfl rfl
    have erb4 := W3.sk trb4 (by decide) rfl
    subst erb4
    refine c_getr (k := 6) C ck_12 dX11_set_44 w2_50 (by decide) t_a0 rfl rfl (by decide) rfl rq4 ?_
    refine c_st (st2 := [.ref (sk 15), .ref (sk 3), .ref (sk 14)]) rfl ?_
    refine d_callV (As := [.ref (sk 3), .ref (sk 15)]) (rest := []) C hM (G_step (a0 := (sk 14)) (a1 := (sk 3)) (a2 := (sk 15)) W3 hS tsk14 tsk3 tsk15  (by show 0 ≤ ivh3 (sk 14) 0 ∧ ivh3 (sk 14) 0 ≤ 501 ∧ (ivh3 (sk 14) 1 = 0 ∨ ivh3 (sk 14) 0 ≤ 500); omega)) dX11_set_47 kV_X11_238 rfl tsk14 rfl rfl (by decide) ck_9 rfl (Nat.le_of_ble_eq_true rfl) ⟨(Nat.le_of_ble_eq_true rfl), (Nat.le_of_ble_eq_true rfl)⟩ hph hph (show 0 + 0 = 0 from rfl) (by decide) (fun rh4 Lh4 clh4 lnh4 ivh4 rvh4 h4 => ?_)
    obtain ⟨f4, rfl, rfl, rfl, rfl, rfl, fl4, W4, rgf4, exf4⟩ := h4
    refine hv2 (F2.call hX0 fl4 rfl) (MRK.call mr2 W3 hS XT.refl fl4 rfl rfl) (fun F3 mr3 => ?_)
    refine c_st (st2 := [.int (iI f4)]) rfl ?_
    refine hv4 (show (-2147483648) ≤ ivh4 (sk 14) 0 ∧ ivh4 (sk 14) 0 ≤ 2147483647 from W4.int tsk14 0) (show 0 ≤ ivh4 (sk 14) 1 ∧ ivh4 (sk 14) 1 ≤ 1 from W4.int tsk14 1) (show ((0 ≤ f4 ∧ f4 ≤ 3) ∧ 0 ≤ ivh4 (sk 14) 0 ∧ ivh4 (sk 14) 0 ≤ 501 ∧ (ivh4 (sk 14) 1 = 0 ∨ ivh4 (sk 14) 0 ≤ 500) ∧ (f4 = 0 ∨ 2 * ivh3 (sk 14) 0 + ivh3 (sk 14) 1 < 2 * ivh4 (sk 14) 0 + ivh4 (sk 14) 1)) ∧ STP ivh3 rv ivh4 (sk 3) (sk 14) (sk 15) f4 from exf4) (show 0 ≤ ivh4 (sk 14) 2 ∧ ivh4 (sk 14) 2 ≤ 1 from W4.int tsk14 2) (fun ri10 ri11 gf4 ri12 => ?_)
    refine c_istore (lv2 := [(4, .int (iI f4)), (3, .int (iI 0)), (2, .ref ob1), (0, .ref a0), (1, .int (iI i))]) C dX11_set_50 (by decide) rfl ?_
    refine c_iconst C dX11_set_52 ?_
    refine c_istore (lv2 := [(5, .int (iI 0)), (4, .int (iI f4)), (3, .int (iI 0)), (2, .ref ob1), (0, .ref a0), (1, .int (iI i))]) C dX11_set_53 (by decide) rfl ?_
    have Lp1 : ∀ (nn : Nat) (wy cm k : Int) (Lb1 : List Nat) (clb1 lnb1 : Nat → Nat) (ivb1 : Nat → Nat → Int) (rvb1 : Nat → Nat → Option Nat) , 1101 - k < (nn : Int) → XT L cl ln Lb1 clb1 lnb1 → WT (g0 G) sk Lb1 clb1 lnb1 ivb1 rvb1 → fT [1, 14, 15, 50, 51, 52, 53, 54, 55, 18, 19, 64, 67, 203] L cl iv rv ivb1 rvb1 → (0 ≤ wy ∧ wy ≤ 9) → (0 ≤ cm ∧ cm ≤ 3) → (0 ≤ k ∧ k ≤ 1100) → (0 ≤ ivb1 (sk 14) 0 ∧ ivb1 (sk 14) 0 ≤ 501 ∧ (ivb1 (sk 14) 1 = 0 ∨ ivb1 (sk 14) 0 ≤ 500)) → (cm = 0 ∨ wy ≠ 0 ∨ k < 2 * ivb1 (sk 14) 0 + ivb1 (sk 14) 1) → (rvb1 a0 9 = some sA) → (rvb1 a0 10 = some sB) → (PSL sk ln iv rv ivb1 rvb1 sA sB (iv a0 11) (iv a0 13) i wy cm) → (ivb1 a0 11 = iv a0 11) → (ivb1 a0 12 = iv a0 12) → (ivb1 a0 13 = iv a0 13) → (ivb1 a0 14 = iv a0 14) → (ivb1 a0 15 = iv a0 15) → (ivb1 a0 16 = iv a0 16) → cw p l e 8 ((PHM) + 0 - ((Phi (g0 G) sk) ln rv)) s m args below meth c G A 7 (MQ below (Qu G A (Qp G (Phi (g0 G) sk) ((Phi (g0 G) sk) ln rv) 0 (fun v L2 cl2 ln2 iv2 rv2 => ∃ f : Int, v = some (.int (iI f)) ∧ XT L cl ln L2 cl2 ln2 ∧ fT [1, 14, 15, 50, 51, 52, 53, 54, 55, 18, 19, 64, 67, 203] L cl iv rv iv2 rv2 ∧ WT (g0 G) sk L2 cl2 ln2 iv2 rv2 ∧ (-2147483648 ≤ f ∧ f ≤ 2147483647) ∧ (True) ∧ iv2 a0 11 = iv a0 11 ∧ iv2 a0 12 = iv a0 12 ∧ iv2 a0 13 = iv a0 13 ∧ iv2 a0 14 = iv a0 14 ∧ iv2 a0 15 = iv a0 15 ∧ iv2 a0 16 = iv a0 16 ∧ (PSX sk ln iv rv iv2 rv2 a0 (iv a0 11) (iv a0 13) i f)))) args s (((PHM) + 0 - ((Phi (g0 G) sk) ln rv)) / 16) ((PHM) + 0 - ((Phi (g0 G) sk) ln rv)) A) (Phi (g0 G) sk) ((Phi (g0 G) sk) ln rv) Lb1 clb1 lnb1 ivb1 rvb1 0 55 [(3, .int (iI wy)), (4, .int (iI cm)), (5, .int (iI k)), (2, .ref ob1), (0, .ref a0), (1, .int (iI i))] [] := by
      intro nn
      induction nn with
      | zero =>
        intro  wy cm k Lb1 clb1 lnb1 ivb1 rvb1 hm Xb1 Wb1 Fb1  hwy hcm hk hsr hkn h9 h10 hP hkp11 hkp12 hkp13 hkp14 hkp15 hkp16
        have skb1 := Xb1.skl hS
        exact absurd hm (by omega)
      | succ nn ih1 =>
        intro  wy cm k Lb1 clb1 lnb1 ivb1 rvb1 hm Xb1 Wb1 Fb1  hwy hcm hk hsr hkn h9 h10 hP hkp11 hkp12 hkp13 hkp14 hkp15 hkp16
        refine hv2 (Xb1.skl hS) (MRK.call hmr hW hS Xb1 Fb1 rfl rfl) (fun skb1 mrb1 => ?_)
        refine c_iload_n (j := 0) C dX11_set_55 rfl ?_
        refine c_if_ne (tgt := 203) C (r32_c (lo := 0) (hi := 9) hwy.1 hwy.2 (by decide) (by decide)) dX11_set_56 (by decide) (fun c1 => ?_) (fun c1 => ?_)
        · refine c_iload_n (j := 0) C dX11_set_203 rfl ?_
          refine c_if_ne (tgt := 214) C (r32_c (lo := 0) (hi := 9) hwy.1 hwy.2 (by decide) (by decide)) dX11_set_204 (by decide) (fun _ => ?_) (fun z => absurd z (by omega))
          refine c_aload_n (j := 4) (x := a0) C dX11_set_214 rfl ?_
          refine c_iload_n (j := 0) C dX11_set_215 rfl ?_
          refine c_aload_n (j := 4) (x := a0) C dX11_set_216 rfl ?_
          have ty1 := Xb1.ty t_a0
          obtain ⟨rb5, rq5, trb5⟩ := Wb1.ref ty1 6 rfl rfl rfl
          have erb5 := Wb1.sk trb5 (by decide) rfl
          subst erb5
          refine c_getr (k := 6) C ck_12 dX11_set_217 w2_50 (by decide) ty1 rfl rfl (by decide) rfl rq5 ?_
          refine c_st (st2 := [.ref (sk 15), .int (iI wy), .ref a0]) rfl ?_
          refine hv2 (Xb1.ty tsk15) (Phi.le Wb1 skb1) (fun ty2 pl1 => ?_)
          refine d_callV (As := []) (rest := [.int (iI wy), .ref a0]) C hM (C_placeOfUnknown (a0 := (sk 15)) Wb1 skb1 ty2  ) dX11_set_220 kV_X11_263 rfl ty2 rfl rfl (by decide) ck_7 rfl (Nat.le_of_ble_eq_true rfl) ⟨(Nat.le_of_ble_eq_true rfl), (Nat.le_of_ble_eq_true rfl)⟩ hph pl1 (show 0 + 0 = 0 from rfl) (by decide) (fun rh5 Lh5 clh5 lnh5 ivh5 rvh5 h5 => ?_)
          obtain ⟨f5, rfl, rfl, rfl, rfl, rfl, rfl, rgf5, exf5⟩ := h5
          refine c_st (st2 := [.int (iI f5), .int (iI wy), .ref a0]) rfl ?_
          refine hv2 (Xb1.ty tsB) (Xb1.ty tsA) (fun ty3 ty4 => ?_)
          refine d_callV (As := [.int (iI wy), .int (iI f5)]) (rest := []) C hM (C_refuseAt (a0 := a0) (x := wy) (y := f5) Wb1 skb1 ty1 (by omega) (by omega) ) dX11_set_223 kV_X11_266 rfl ty1 rfl rfl (by decide) ck_12 rfl (Nat.le_of_ble_eq_true rfl) ⟨(Nat.le_of_ble_eq_true rfl), (Nat.le_of_ble_eq_true rfl)⟩ hph pl1 (show 0 + 0 = 0 from rfl) (by decide) (fun rh6 Lh6 clh6 lnh6 ivh6 rvh6 h6 => ?_)
          obtain ⟨f6, rfl, rfl, rfl, rfl, rfl, fl6, W6, rgf6, exf6, kp11f6, kp12f6, kp13f6, kp14f6, kp15f6, kp16f6⟩ := h6
          refine hv8 (show 1 ≤ ivb1 a0 11 ∧ ivb1 a0 11 ≤ 100 from Wb1.int ty1 11) (show 1 ≤ ivb1 a0 12 ∧ ivb1 a0 12 ≤ 50 from Wb1.int ty1 12) (show (-2147483648) ≤ ivb1 a0 13 ∧ ivb1 a0 13 ≤ 2147483647 from Wb1.int ty1 13) (show (-2147483648) ≤ ivb1 a0 14 ∧ ivb1 a0 14 ≤ 2147483647 from Wb1.int ty1 14) (show (-2147483648) ≤ ivb1 a0 15 ∧ ivb1 a0 15 ≤ 2147483647 from Wb1.int ty1 15) (show (-2147483648) ≤ ivb1 a0 16 ∧ ivb1 a0 16 ≤ 2147483647 from Wb1.int ty1 16) (Fb1.call Xb1 fl6 rfl) (MRK.call mrb1 Wb1 skb1 XT.refl fl6 rfl rfl) (fun ri13 ri14 ri15 ri16 ri17 ri18 F4 mr4 => ?_)
          refine c_st (st2 := [.int (iI f6)]) rfl ?_
          refine hv13 (show ivh6 a0 11 = ivb1 a0 11 from kp11f6) (show ivh6 a0 12 = ivb1 a0 12 from kp12f6) (show ivh6 a0 13 = ivb1 a0 13 from kp13f6) (show ivh6 a0 14 = ivb1 a0 14 from kp14f6) (show ivh6 a0 15 = ivb1 a0 15 from kp15f6) (show ivh6 a0 16 = ivb1 a0 16 from kp16f6) (show f6 = -1 from exf6) (show 1 ≤ ivh6 a0 11 ∧ ivh6 a0 11 ≤ 100 from W6.int ty1 11) (show 1 ≤ ivh6 a0 12 ∧ ivh6 a0 12 ≤ 50 from W6.int ty1 12) (show (-2147483648) ≤ ivh6 a0 13 ∧ ivh6 a0 13 ≤ 2147483647 from W6.int ty1 13) (show (-2147483648) ≤ ivh6 a0 14 ∧ ivh6 a0 14 ≤ 2147483647 from W6.int ty1 14) (show (-2147483648) ≤ ivh6 a0 15 ∧ ivh6 a0 15 ≤ 2147483647 from W6.int ty1 15) (show (-2147483648) ≤ ivh6 a0 16 ∧ ivh6 a0 16 ≤ 2147483647 from W6.int ty1 16) (fun gk11f6 gk12f6 gk13f6 gk14f6 gk15f6 gk16f6 gf6 ri19 ri20 ri21 ri22 ri23 ri24 => ?_)
          exact c_iret C dX11_set_226 rfl (by decide) (rom0 hph pl1 (by decide)) ⟨f6, rfl, Xb1, F4, W6, ⟨by omega, by omega⟩, trivial, (gk11f6.trans hkp11), (gk12f6.trans hkp12), (gk13f6.trans hkp13), (gk14f6.trans hkp14), (gk15f6.trans hkp15), (gk16f6.trans hkp16), (PSX.n2 hP (by omega) wkob1 hsA hsB h9 h10 Wb1 ty3 ty4 fl6 rfl rfl rfl rfl (by omega))⟩
        · refine c_iload (j := 1) C dX11_set_59 rfl ?_
          refine c_if_eq (tgt := 203) C (r32_c (lo := 0) (hi := 3) hcm.1 hcm.2 (by decide) (by decide)) dX11_set_61 (by decide) (fun c2 => ?_) (fun c2 => ?_)
          · clear hkn
            refine c_iload_n (j := 0) C dX11_set_203 rfl ?_
            refine c_if_ne (tgt := 214) C (r32_c (lo := 0) (hi := 9) hwy.1 hwy.2 (by decide) (by decide)) dX11_set_204 (by decide) (fun z => absurd z (by omega)) (fun _ => ?_)
            refine c_aload_n (j := 4) (x := a0) C dX11_set_207 rfl ?_
            refine hv4 (Xb1.ty tsB) (Xb1.ty tsA) (Xb1.ty t_a0) (Phi.le Wb1 skb1) (fun ty5 ty6 ty7 pl2 => ?_)
            refine d_callV (As := []) (rest := []) C hM (G_publish (a0 := a0) Wb1 skb1 ty7  ) dX11_set_208 kV_X11_260 rfl ty7 rfl rfl (by decide) ck_12 rfl (Nat.le_of_ble_eq_true rfl) ⟨(Nat.le_of_ble_eq_true rfl), (Nat.le_of_ble_eq_true rfl)⟩ hph pl2 (show 0 + 0 = 0 from rfl) (by decide) (fun rh7 Lh7 clh7 lnh7 ivh7 rvh7 h7 => ?_)
            obtain ⟨f7, rfl, rfl, rfl, rfl, fl7, W7, rgf7, exf7, kp11f7, kp12f7, kp13f7, kp14f7, kp15f7, kp16f7⟩ := h7
            refine hv8 (show 1 ≤ ivb1 a0 11 ∧ ivb1 a0 11 ≤ 100 from Wb1.int ty7 11) (show 1 ≤ ivb1 a0 12 ∧ ivb1 a0 12 ≤ 50 from Wb1.int ty7 12) (show (-2147483648) ≤ ivb1 a0 13 ∧ ivb1 a0 13 ≤ 2147483647 from Wb1.int ty7 13) (show (-2147483648) ≤ ivb1 a0 14 ∧ ivb1 a0 14 ≤ 2147483647 from Wb1.int ty7 14) (show (-2147483648) ≤ ivb1 a0 15 ∧ ivb1 a0 15 ≤ 2147483647 from Wb1.int ty7 15) (show (-2147483648) ≤ ivb1 a0 16 ∧ ivb1 a0 16 ≤ 2147483647 from Wb1.int ty7 16) (Fb1.call Xb1 fl7 rfl) (MRK.call mrb1 Wb1 skb1 XT.refl fl7 rfl rfl) (fun ri25 ri26 ri27 ri28 ri29 ri30 F5 mr5 => ?_)
            refine c_st (st2 := [.int (iI f7)]) rfl ?_
            refine hv7 (show ivh7 a0 11 = ivb1 a0 11 from kp11f7) (show ivh7 a0 12 = ivb1 a0 12 from kp12f7) (show ivh7 a0 13 = ivb1 a0 13 from kp13f7) (show ivh7 a0 14 = ivb1 a0 14 from kp14f7) (show ivh7 a0 15 = ivb1 a0 15 from kp15f7) (show ivh7 a0 16 = ivb1 a0 16 from kp16f7) (show PBX ivb1 rvb1 rvh7 a0 f7 from exf7) (fun gk11f7 gk12f7 gk13f7 gk14f7 gk15f7 gk16f7 gf7 => ?_)
            refine c_goto (tgt := 226) C dX11_set_211 (by decide) ?_
            refine hv7 (show 1 ≤ ivh7 a0 11 ∧ ivh7 a0 11 ≤ 100 from W7.int ty7 11) (show 1 ≤ ivh7 a0 12 ∧ ivh7 a0 12 ≤ 50 from W7.int ty7 12) (show (-2147483648) ≤ ivh7 a0 13 ∧ ivh7 a0 13 ≤ 2147483647 from W7.int ty7 13) (show (-2147483648) ≤ ivh7 a0 14 ∧ ivh7 a0 14 ≤ 2147483647 from W7.int ty7 14) (show (-2147483648) ≤ ivh7 a0 15 ∧ ivh7 a0 15 ≤ 2147483647 from W7.int ty7 15) (show (-2147483648) ≤ ivh7 a0 16 ∧ ivh7 a0 16 ≤ 2147483647 from W7.int ty7 16) (Phi.le W7 skb1) (fun ri31 ri32 ri33 ri34 ri35 ri36 pl3 => ?_)
            exact c_iret C dX11_set_226 rfl (by decide) (rom0 hph pl3 (by decide)) ⟨f7, rfl, Xb1, F5, W7, ⟨by omega, by omega⟩, trivial, (gk11f7.trans hkp11), (gk12f7.trans hkp12), (gk13f7.trans hkp13), (gk14f7.trans hkp14), (gk15f7.trans hkp15), (gk16f7.trans hkp16), (PSX.yes hP (by omega) (by omega) wkob1 hsA hsB (gf7 sA sB h9 h10).1 (gf7 sA sB h9 h10).2.1 Wb1 ty5 ty6 fl7 rfl rfl rfl rfl (gf7 sA sB h9 h10).2.2)⟩
          · replace hkn := (hkn.resolve_left c2)
            refine c_iload (j := 2) C dX11_set_64 rfl ?_
            refine c_ldc (z := 1000000) C dX11_set_66 w4_30 rfl ?_
            refine c_icmp_ge (tgt := 203) C (r32_c (lo := 0) (hi := 1100) hk.1 hk.2 (by decide) (by decide)) ⟨by decide, by decide⟩ dX11_set_68 (by decide) (fun c3 => ?_) (fun c3 => ?_)
            · refine c_iload_n (j := 0) C dX11_set_203 rfl ?_
              refine c_if_ne (tgt := 214) C (r32_c (lo := 0) (hi := 9) hwy.1 hwy.2 (by decide) (by decide)) dX11_set_204 (by decide) (fun z => absurd z (by omega)) (fun _ => ?_)
              refine c_aload_n (j := 4) (x := a0) C dX11_set_207 rfl ?_
              refine hv4 (Xb1.ty tsB) (Xb1.ty tsA) (Xb1.ty t_a0) (Phi.le Wb1 skb1) (fun ty8 ty9 ty10 pl4 => ?_)
              refine d_callV (As := []) (rest := []) C hM (G_publish (a0 := a0) Wb1 skb1 ty10  ) dX11_set_208 kV_X11_260 rfl ty10 rfl rfl (by decide) ck_12 rfl (Nat.le_of_ble_eq_true rfl) ⟨(Nat.le_of_ble_eq_true rfl), (Nat.le_of_ble_eq_true rfl)⟩ hph pl4 (show 0 + 0 = 0 from rfl) (by decide) (fun rh8 Lh8 clh8 lnh8 ivh8 rvh8 h8 => ?_)
              obtain ⟨f8, rfl, rfl, rfl, rfl, fl8, W8, rgf8, exf8, kp11f8, kp12f8, kp13f8, kp14f8, kp15f8, kp16f8⟩ := h8
              refine hv8 (show 1 ≤ ivb1 a0 11 ∧ ivb1 a0 11 ≤ 100 from Wb1.int ty10 11) (show 1 ≤ ivb1 a0 12 ∧ ivb1 a0 12 ≤ 50 from Wb1.int ty10 12) (show (-2147483648) ≤ ivb1 a0 13 ∧ ivb1 a0 13 ≤ 2147483647 from Wb1.int ty10 13) (show (-2147483648) ≤ ivb1 a0 14 ∧ ivb1 a0 14 ≤ 2147483647 from Wb1.int ty10 14) (show (-2147483648) ≤ ivb1 a0 15 ∧ ivb1 a0 15 ≤ 2147483647 from Wb1.int ty10 15) (show (-2147483648) ≤ ivb1 a0 16 ∧ ivb1 a0 16 ≤ 2147483647 from Wb1.int ty10 16) (Fb1.call Xb1 fl8 rfl) (MRK.call mrb1 Wb1 skb1 XT.refl fl8 rfl rfl) (fun ri37 ri38 ri39 ri40 ri41 ri42 F6 mr6 => ?_)
              refine c_st (st2 := [.int (iI f8)]) rfl ?_
              refine hv7 (show ivh8 a0 11 = ivb1 a0 11 from kp11f8) (show ivh8 a0 12 = ivb1 a0 12 from kp12f8) (show ivh8 a0 13 = ivb1 a0 13 from kp13f8) (show ivh8 a0 14 = ivb1 a0 14 from kp14f8) (show ivh8 a0 15 = ivb1 a0 15 from kp15f8) (show ivh8 a0 16 = ivb1 a0 16 from kp16f8) (show PBX ivb1 rvb1 rvh8 a0 f8 from exf8) (fun gk11f8 gk12f8 gk13f8 gk14f8 gk15f8 gk16f8 gf8 => ?_)
              refine c_goto (tgt := 226) C dX11_set_211 (by decide) ?_
              refine hv7 (show 1 ≤ ivh8 a0 11 ∧ ivh8 a0 11 ≤ 100 from W8.int ty10 11) (show 1 ≤ ivh8 a0 12 ∧ ivh8 a0 12 ≤ 50 from W8.int ty10 12) (show (-2147483648) ≤ ivh8 a0 13 ∧ ivh8 a0 13 ≤ 2147483647 from W8.int ty10 13) (show (-2147483648) ≤ ivh8 a0 14 ∧ ivh8 a0 14 ≤ 2147483647 from W8.int ty10 14) (show (-2147483648) ≤ ivh8 a0 15 ∧ ivh8 a0 15 ≤ 2147483647 from W8.int ty10 15) (show (-2147483648) ≤ ivh8 a0 16 ∧ ivh8 a0 16 ≤ 2147483647 from W8.int ty10 16) (Phi.le W8 skb1) (fun ri43 ri44 ri45 ri46 ri47 ri48 pl5 => ?_)
              exact c_iret C dX11_set_226 rfl (by decide) (rom0 hph pl5 (by decide)) ⟨f8, rfl, Xb1, F6, W8, ⟨by omega, by omega⟩, trivial, (gk11f8.trans hkp11), (gk12f8.trans hkp12), (gk13f8.trans hkp13), (gk14f8.trans hkp14), (gk15f8.trans hkp15), (gk16f8.trans hkp16), (PSX.yes hP (by omega) (by omega) wkob1 hsA hsB (gf8 sA sB h9 h10).1 (gf8 sA sB h9 h10).2.1 Wb1 ty8 ty9 fl8 rfl rfl rfl rfl (gf8 sA sB h9 h10).2.2)⟩
            · have J1 : ∀ (wy2 ok : Int) (Lb2 : List Nat) (clb2 lnb2 : Nat → Nat) (ivb2 : Nat → Nat → Int) (rvb2 : Nat → Nat → Option Nat) , XT L cl ln Lb2 clb2 lnb2 → WT (g0 G) sk Lb2 clb2 lnb2 ivb2 rvb2 → fT [1, 14, 15, 50, 51, 52, 53, 54, 55, 18, 19, 64, 67, 203] L cl iv rv ivb2 rvb2 → (0 ≤ wy2 ∧ wy2 ≤ 9) → (ok = 0 ∨ ok = 1) → (0 ≤ ivb2 (sk 14) 0 ∧ ivb2 (sk 14) 0 ≤ 501 ∧ (ivb2 (sk 14) 1 = 0 ∨ ivb2 (sk 14) 0 ≤ 500)) → (k < 2 * ivb2 (sk 14) 0 + ivb2 (sk 14) 1) → (rvb2 a0 9 = some sA) → (rvb2 a0 10 = some sB) → (PSQ sk ln iv rv ivb2 rvb2 sA sB (iv a0 11) (iv a0 13) i wy2 ok) → (ivb2 a0 11 = iv a0 11) → (ivb2 a0 12 = iv a0 12) → (ivb2 a0 13 = iv a0 13) → (ivb2 a0 14 = iv a0 14) → (ivb2 a0 15 = iv a0 15) → (ivb2 a0 16 = iv a0 16) → cw p l e 8 ((PHM) + 0 - ((Phi (g0 G) sk) ln rv)) s m args below meth c G A 7 (MQ below (Qu G A (Qp G (Phi (g0 G) sk) ((Phi (g0 G) sk) ln rv) 0 (fun v L2 cl2 ln2 iv2 rv2 => ∃ f : Int, v = some (.int (iI f)) ∧ XT L cl ln L2 cl2 ln2 ∧ fT [1, 14, 15, 50, 51, 52, 53, 54, 55, 18, 19, 64, 67, 203] L cl iv rv iv2 rv2 ∧ WT (g0 G) sk L2 cl2 ln2 iv2 rv2 ∧ (-2147483648 ≤ f ∧ f ≤ 2147483647) ∧ (True) ∧ iv2 a0 11 = iv a0 11 ∧ iv2 a0 12 = iv a0 12 ∧ iv2 a0 13 = iv a0 13 ∧ iv2 a0 14 = iv a0 14 ∧ iv2 a0 15 = iv a0 15 ∧ iv2 a0 16 = iv a0 16 ∧ (PSX sk ln iv rv iv2 rv2 a0 (iv a0 11) (iv a0 13) i f)))) args s (((PHM) + 0 - ((Phi (g0 G) sk) ln rv)) / 16) ((PHM) + 0 - ((Phi (g0 G) sk) ln rv)) A) (Phi (g0 G) sk) ((Phi (g0 G) sk) ln rv) Lb2 clb2 lnb2 ivb2 rvb2 0 165 [(3, .int (iI wy2)), (6, .int (iI ok)), (4, .int (iI cm)), (5, .int (iI k)), (2, .ref ob1), (0, .ref a0), (1, .int (iI i))] [] := by
                intro  wy2 ok Lb2 clb2 lnb2 ivb2 rvb2 Xb2 Wb2 Fb2  hwy2 hok hsr2 hkn2 h9b h10b hQ hkp11 hkp12 hkp13 hkp14 hkp15 hkp16
                refine hv2 (Xb2.skl hS) (MRK.call hmr hW hS Xb2 Fb2 rfl rfl) (fun skb2 mrb2 => ?_)
                refine c_iload (j := 1) C dX11_set_165 rfl ?_
                refine c_if_ne (tgt := 176) C (r32_01 hok) dX11_set_167 (by decide) (fun c4 => ?_) (fun c4 => ?_)
                · replace hok := (hok.resolve_left c4)
                  refine c_iload_n (j := 0) C dX11_set_176 rfl ?_
                  refine c_if_ne (tgt := 197) C (r32_c (lo := 0) (hi := 9) hwy2.1 hwy2.2 (by decide) (by decide)) dX11_set_177 (by decide) (fun c5 => ?_) (fun c5 => ?_)
                  · refine c_iinc (z := k) (j := 3) (lv2 := [(5, .int (iI (k + 1))), (3, .int (iI wy2)), (6, .int (iI ok)), (4, .int (iI cm)), (2, .ref ob1), (0, .ref a0), (1, .int (iI i))]) C dX11_set_197 rfl (by decide) rfl ?_
                    refine c_goto (tgt := 55) C dX11_set_200 (by decide) ?_
                    refine hv2 (Xb2.ty tsk14) (Xb2.ty t_a0) (fun ty11 ty12 => ?_)
                    refine hv9 (show (-2147483648) ≤ ivb2 (sk 14) 0 ∧ ivb2 (sk 14) 0 ≤ 2147483647 from Wb2.int ty11 0) (show 0 ≤ ivb2 (sk 14) 1 ∧ ivb2 (sk 14) 1 ≤ 1 from Wb2.int ty11 1) (show 1 ≤ ivb2 a0 11 ∧ ivb2 a0 11 ≤ 100 from Wb2.int ty12 11) (show 1 ≤ ivb2 a0 12 ∧ ivb2 a0 12 ≤ 50 from Wb2.int ty12 12) (show (-2147483648) ≤ ivb2 a0 13 ∧ ivb2 a0 13 ≤ 2147483647 from Wb2.int ty12 13) (show (-2147483648) ≤ ivb2 a0 14 ∧ ivb2 a0 14 ≤ 2147483647 from Wb2.int ty12 14) (show (-2147483648) ≤ ivb2 a0 15 ∧ ivb2 a0 15 ≤ 2147483647 from Wb2.int ty12 15) (show (-2147483648) ≤ ivb2 a0 16 ∧ ivb2 a0 16 ≤ 2147483647 from Wb2.int ty12 16) (show 0 ≤ ivb2 (sk 14) 2 ∧ ivb2 (sk 14) 2 ≤ 1 from Wb2.int ty11 2) (fun ri49 ri50 ri51 ri52 ri53 ri54 ri55 ri56 ri57 => ?_)
                    refine c_lv (lv2 := [(3, .int (iI wy2)), (4, .int (iI cm)), (5, .int (iI (k + 1))), (2, .ref ob1), (0, .ref a0), (1, .int (iI i))]) [1, 3, 0, 4, 5, 6] rfl ?_
                    exact ih1  wy2 cm (k + 1) _ _ _ _ _ (by omega) Xb2 Wb2 Fb2  (by omega) (by omega) (by omega) (by show 0 ≤ ivb2 (sk 14) 0 ∧ ivb2 (sk 14) 0 ≤ 501 ∧ (ivb2 (sk 14) 1 = 0 ∨ ivb2 (sk 14) 0 ≤ 500); omega) (by omega) h9b h10b (hQ.stop (by omega)) hkp11 hkp12 hkp13 hkp14 hkp15 hkp16
                  · refine c_aload_n (j := 5) (x := a0) C dX11_set_180 rfl ?_
                    have ty13 := Xb2.ty t_a0
                    obtain ⟨rb6, rq6, trb6⟩ := Wb2.ref ty13 5 rfl rfl rfl
                    have erb6 := Wb2.sk trb6 (by decide) rfl
                    subst erb6
                    refine c_getr (k := 5) C ck_12 dX11_set_181 w2_49 (by decide) ty13 rfl rfl (by decide) rfl rq6 ?_
                    refine c_st (st2 := [.ref (sk 14)]) rfl ?_
                    refine c_aload_n (j := 5) (x := a0) C dX11_set_184 rfl ?_
                    obtain ⟨rb7, rq7, trb7⟩ := Wb2.ref ty13 1 rfl rfl rfl
                    have erb7 := Wb2.sk trb7 (by decide) rfl
                    subst erb7
                    refine c_getr (k := 1) C ck_12 dX11_set_185 w2_45 (by decide) ty13 rfl rfl (by decide) rfl rq7 ?_
                    refine c_st (st2 := [.ref (sk 3), .ref (sk 14)]) rfl ?_
                    refine c_aload_n (j := 5) (x := a0) C dX11_set_188 rfl ?_
                    obtain ⟨rb8, rq8, trb8⟩ := Wb2.ref ty13 6 rfl rfl rfl
                    have erb8 := Wb2.sk trb8 (by decide) rfl
                    subst erb8
                    refine c_getr (k := 6) C ck_12 dX11_set_189 w2_50 (by decide) ty13 rfl rfl (by decide) rfl rq8 ?_
                    refine c_st (st2 := [.ref (sk 15), .ref (sk 3), .ref (sk 14)]) rfl ?_
                    refine hv6 (Xb2.ty tsB) (Xb2.ty tsA) (Xb2.ty tsk14) (Xb2.ty tsk3) (Xb2.ty tsk15) (Phi.le Wb2 skb2) (fun ty14 ty15 ty16 ty17 ty18 pl6 => ?_)
                    refine hv3 (show (-2147483648) ≤ ivb2 (sk 14) 0 ∧ ivb2 (sk 14) 0 ≤ 2147483647 from Wb2.int ty16 0) (show 0 ≤ ivb2 (sk 14) 1 ∧ ivb2 (sk 14) 1 ≤ 1 from Wb2.int ty16 1) (show 0 ≤ ivb2 (sk 14) 2 ∧ ivb2 (sk 14) 2 ≤ 1 from Wb2.int ty16 2) (fun ri58 ri59 ri60 => ?_)
                    refine d_callV (As := [.ref (sk 3), .ref (sk 15)]) (rest := []) C hM (G_step (a0 := (sk 14)) (a1 := (sk 3)) (a2 := (sk 15)) Wb2 skb2 ty16 ty17 ty18  (by show 0 ≤ ivb2 (sk 14) 0 ∧ ivb2 (sk 14) 0 ≤ 501 ∧ (ivb2 (sk 14) 1 = 0 ∨ ivb2 (sk 14) 0 ≤ 500); omega)) dX11_set_192 kV_X11_238 rfl ty16 rfl rfl (by decide) ck_9 rfl (Nat.le_of_ble_eq_true rfl) ⟨(Nat.le_of_ble_eq_true rfl), (Nat.le_of_ble_eq_true rfl)⟩ hph pl6 (show 0 + 0 = 0 from rfl) (by decide) (fun rh11 Lh11 clh11 lnh11 ivh11 rvh11 h11 => ?_)
                    obtain ⟨f9, rfl, rfl, rfl, rfl, rfl, fl9, W9, rgf9, exf9⟩ := h11
                    refine hv2 (Fb2.call Xb2 fl9 rfl) (MRK.call mrb2 Wb2 skb2 XT.refl fl9 rfl rfl) (fun F7 mr7 => ?_)
                    refine c_st (st2 := [.int (iI f9)]) rfl ?_
                    refine hv4 (show (-2147483648) ≤ ivh11 (sk 14) 0 ∧ ivh11 (sk 14) 0 ≤ 2147483647 from W9.int ty16 0) (show 0 ≤ ivh11 (sk 14) 1 ∧ ivh11 (sk 14) 1 ≤ 1 from W9.int ty16 1) (show ((0 ≤ f9 ∧ f9 ≤ 3) ∧ 0 ≤ ivh11 (sk 14) 0 ∧ ivh11 (sk 14) 0 ≤ 501 ∧ (ivh11 (sk 14) 1 = 0 ∨ ivh11 (sk 14) 0 ≤ 500) ∧ (f9 = 0 ∨ 2 * ivb2 (sk 14) 0 + ivb2 (sk 14) 1 < 2 * ivh11 (sk 14) 0 + ivh11 (sk 14) 1)) ∧ STP ivb2 rvb2 ivh11 (sk 3) (sk 14) (sk 15) f9 from exf9) (show 0 ≤ ivh11 (sk 14) 2 ∧ ivh11 (sk 14) 2 ≤ 1 from W9.int ty16 2) (fun ri61 ri62 gf9 ri63 => ?_)
                    refine c_istore (lv2 := [(4, .int (iI f9)), (3, .int (iI wy2)), (6, .int (iI ok)), (5, .int (iI k)), (2, .ref ob1), (0, .ref a0), (1, .int (iI i))]) C dX11_set_195 (by decide) rfl ?_
                    refine c_iinc (z := k) (j := 3) (lv2 := [(5, .int (iI (k + 1))), (4, .int (iI f9)), (3, .int (iI wy2)), (6, .int (iI ok)), (2, .ref ob1), (0, .ref a0), (1, .int (iI i))]) C dX11_set_197 rfl (by decide) rfl ?_
                    refine c_goto (tgt := 55) C dX11_set_200 (by decide) ?_
                    refine hv12 (show 1 ≤ ivh11 a0 11 ∧ ivh11 a0 11 ≤ 100 from W9.int ty13 11) (show ivh11 a0 11 = ivb2 a0 11 from fl9.i ty13 rfl 11) (show 1 ≤ ivh11 a0 12 ∧ ivh11 a0 12 ≤ 50 from W9.int ty13 12) (show ivh11 a0 12 = ivb2 a0 12 from fl9.i ty13 rfl 12) (show (-2147483648) ≤ ivh11 a0 13 ∧ ivh11 a0 13 ≤ 2147483647 from W9.int ty13 13) (show ivh11 a0 13 = ivb2 a0 13 from fl9.i ty13 rfl 13) (show (-2147483648) ≤ ivh11 a0 14 ∧ ivh11 a0 14 ≤ 2147483647 from W9.int ty13 14) (show ivh11 a0 14 = ivb2 a0 14 from fl9.i ty13 rfl 14) (show (-2147483648) ≤ ivh11 a0 15 ∧ ivh11 a0 15 ≤ 2147483647 from W9.int ty13 15) (show ivh11 a0 15 = ivb2 a0 15 from fl9.i ty13 rfl 15) (show (-2147483648) ≤ ivh11 a0 16 ∧ ivh11 a0 16 ≤ 2147483647 from W9.int ty13 16) (show ivh11 a0 16 = ivb2 a0 16 from fl9.i ty13 rfl 16) (fun ri64 ie58 ri65 ie60 ri66 ie62 ri67 ie64 ri68 ie66 ri69 ie68 => ?_)
                    refine c_lv (lv2 := [(3, .int (iI wy2)), (4, .int (iI f9)), (5, .int (iI (k + 1))), (2, .ref ob1), (0, .ref a0), (1, .int (iI i))]) [2, 1, 0, 4, 5, 6] rfl ?_
                    exact ih1  wy2 f9 (k + 1) _ _ _ _ _ (by omega) Xb2 W9 F7  (by omega) (by omega) (by omega) (by show 0 ≤ ivh11 (sk 14) 0 ∧ ivh11 (sk 14) 0 ≤ 501 ∧ (ivh11 (sk 14) 1 = 0 ∨ ivh11 (sk 14) 0 ≤ 500); omega) (by omega) h9b h10b (hQ.next (by omega) (by omega) hW Xb2 Fb2 rfl rfl tsk3 Wb2 ty14 ty15 fl9 gf9.2) (ie58.trans hkp11) (ie60.trans hkp12) (ie62.trans hkp13) (ie64.trans hkp14) (ie66.trans hkp15) (ie68.trans hkp16)
                · clear hok
                  refine c_bipush (z := 6) C dX11_set_170 (by decide) ?_
                  refine c_istore_n (lv2 := [(3, .int (iI 6)), (6, .int (iI ok)), (4, .int (iI cm)), (5, .int (iI k)), (2, .ref ob1), (0, .ref a0), (1, .int (iI i))]) C dX11_set_172 (by decide) rfl ?_
                  refine c_goto (tgt := 197) C dX11_set_173 (by decide) ?_
                  refine c_iinc (z := k) (j := 3) (lv2 := [(5, .int (iI (k + 1))), (3, .int (iI 6)), (6, .int (iI ok)), (4, .int (iI cm)), (2, .ref ob1), (0, .ref a0), (1, .int (iI i))]) C dX11_set_197 rfl (by decide) rfl ?_
                  refine c_goto (tgt := 55) C dX11_set_200 (by decide) ?_
                  refine hv2 (Xb2.ty tsk14) (Xb2.ty t_a0) (fun ty19 ty20 => ?_)
                  refine hv9 (show (-2147483648) ≤ ivb2 (sk 14) 0 ∧ ivb2 (sk 14) 0 ≤ 2147483647 from Wb2.int ty19 0) (show 0 ≤ ivb2 (sk 14) 1 ∧ ivb2 (sk 14) 1 ≤ 1 from Wb2.int ty19 1) (show 1 ≤ ivb2 a0 11 ∧ ivb2 a0 11 ≤ 100 from Wb2.int ty20 11) (show 1 ≤ ivb2 a0 12 ∧ ivb2 a0 12 ≤ 50 from Wb2.int ty20 12) (show (-2147483648) ≤ ivb2 a0 13 ∧ ivb2 a0 13 ≤ 2147483647 from Wb2.int ty20 13) (show (-2147483648) ≤ ivb2 a0 14 ∧ ivb2 a0 14 ≤ 2147483647 from Wb2.int ty20 14) (show (-2147483648) ≤ ivb2 a0 15 ∧ ivb2 a0 15 ≤ 2147483647 from Wb2.int ty20 15) (show (-2147483648) ≤ ivb2 a0 16 ∧ ivb2 a0 16 ≤ 2147483647 from Wb2.int ty20 16) (show 0 ≤ ivb2 (sk 14) 2 ∧ ivb2 (sk 14) 2 ≤ 1 from Wb2.int ty19 2) (fun ri70 ri71 ri72 ri73 ri74 ri75 ri76 ri77 ri78 => ?_)
                  refine c_lv (lv2 := [(3, .int (iI 6)), (4, .int (iI cm)), (5, .int (iI (k + 1))), (2, .ref ob1), (0, .ref a0), (1, .int (iI i))]) [1, 3, 0, 4, 5, 6] rfl ?_
                  exact ih1  6 cm (k + 1) _ _ _ _ _ (by omega) Xb2 Wb2 Fb2  (by omega) (by omega) (by omega) (by show 0 ≤ ivb2 (sk 14) 0 ∧ ivb2 (sk 14) 0 ≤ 501 ∧ (ivb2 (sk 14) 1 = 0 ∨ ivb2 (sk 14) 0 ≤ 500); omega) (by omega) h9b h10b (hQ.nor (by omega) (by decide)) hkp11 hkp12 hkp13 hkp14 hkp15 hkp16
              refine c_iconst C dX11_set_71 ?_
              refine c_istore (lv2 := [(6, .int (iI 1)), (3, .int (iI wy)), (4, .int (iI cm)), (5, .int (iI k)), (2, .ref ob1), (0, .ref a0), (1, .int (iI i))]) C dX11_set_72 (by decide) rfl ?_
              refine c_iload (j := 2) C dX11_set_74 rfl ?_
              refine c_iconst C dX11_set_76 ?_
              refine c_icmp_ne (tgt := 92) C (r32_c (lo := 0) (hi := 3) hcm.1 hcm.2 (by decide) (by decide)) ⟨by decide, by decide⟩ dX11_set_77 (by decide) (fun c6 => ?_) (fun c6 => ?_)
              · refine c_iload (j := 2) C dX11_set_92 rfl ?_
                refine c_iconst C dX11_set_94 ?_
                refine c_icmp_ne (tgt := 119) C (r32_c (lo := 0) (hi := 3) hcm.1 hcm.2 (by decide) (by decide)) ⟨by decide, by decide⟩ dX11_set_95 (by decide) (fun c7 => ?_) (fun c7 => ?_)
                · refine c_aload_n (j := 5) (x := a0) C dX11_set_119 rfl ?_
                  have ty21 := Xb1.ty t_a0
                  obtain ⟨rb9, rq9, trb9⟩ := Wb1.ref ty21 6 rfl rfl rfl
                  have erb9 := Wb1.sk trb9 (by decide) rfl
                  subst erb9
                  refine c_getr (k := 6) C ck_12 dX11_set_120 w2_50 (by decide) ty21 rfl rfl (by decide) rfl rq9 ?_
                  refine c_st (st2 := [.ref (sk 15)]) rfl ?_
                  refine c_aload_n (j := 4) (x := ob1) C dX11_set_123 rfl ?_
                  refine hv7 (Xb1.ty tsk15) (Xb1.ty tsB) (Xb1.ty tsA) (Xb1.ty tsk14) (Xb1.ty tob1) (show ivb1 ob1 0 = iv ob1 0 from Fb1.i tob1 rfl 0) (Phi.le Wb1 skb1) (fun ty22 ty23 ty24 ty25 ty26 ie83 pl7 => ?_)
                  refine hv5 (show (-2147483648) ≤ ivb1 (sk 14) 0 ∧ ivb1 (sk 14) 0 ≤ 2147483647 from Wb1.int ty25 0) (show 0 ≤ ivb1 (sk 14) 1 ∧ ivb1 (sk 14) 1 ≤ 1 from Wb1.int ty25 1) (show 0 ≤ ivb1 (sk 14) 2 ∧ ivb1 (sk 14) 2 ≤ 1 from Wb1.int ty25 2) (show 0 ≤ ivb1 (sk 15) 4 ∧ ivb1 (sk 15) 4 ≤ 500 from Wb1.int ty22 4) (show (-2147483648) ≤ ivb1 ob1 0 ∧ ivb1 ob1 0 ≤ 2147483647 from Wb1.int ty26 0) (fun ri79 ri80 ri81 ri82 ri83 => ?_)
                  refine d_callV (As := [.ref ob1]) (rest := []) C hM (G_setBy (a0 := (sk 15)) (a1 := ob1) Wb1 skb1 ty22 ty26  ) dX11_set_124 kV_X11_253 rfl ty22 rfl rfl (by decide) ck_7 rfl (Nat.le_of_ble_eq_true rfl) ⟨(Nat.le_of_ble_eq_true rfl), (Nat.le_of_ble_eq_true rfl)⟩ hph pl7 (show 0 + 0 = 0 from rfl) (by decide) (fun rh12 Lh12 clh12 lnh12 ivh12 rvh12 h12 => ?_)
                  obtain ⟨f10, rfl, rfl, rfl, rfl, rfl, fl10, W10, rgf10, exf10⟩ := h12
                  refine hv2 (Fb1.call Xb1 fl10 rfl) (MRK.call mrb1 Wb1 skb1 XT.refl fl10 rfl rfl) (fun F8 mr8 => ?_)
                  refine c_st (st2 := [.int (iI f10)]) rfl ?_
                  refine hv11 (show 0 ≤ ivh12 (sk 15) 4 ∧ ivh12 (sk 15) 4 ≤ 500 from W10.int ty22 4) (show 0 ≤ ivh12 (sk 15) 7 ∧ ivh12 (sk 15) 7 ≤ 100000 from W10.int ty22 7) (show ((f10 = 0 ∨ f10 = 6 ∨ f10 = 7) ∧ ivh12 (sk 15) 4 = ivb1 (sk 15) 4 ∧ (f10 = 0 → ivh12 (sk 15) 7 ≤ 200)) ∧ SBX sk lnb1 ivb1 rvb1 ivh12 (sk 15) ob1 f10 from exf10) (show (-2147483648) ≤ ivh12 (sk 14) 0 ∧ ivh12 (sk 14) 0 ≤ 2147483647 from W10.int ty25 0) (show ivh12 (sk 14) 0 = ivb1 (sk 14) 0 from fl10.i ty25 rfl 0) (show 0 ≤ ivh12 (sk 14) 1 ∧ ivh12 (sk 14) 1 ≤ 1 from W10.int ty25 1) (show ivh12 (sk 14) 1 = ivb1 (sk 14) 1 from fl10.i ty25 rfl 1) (show 0 ≤ ivh12 (sk 14) 2 ∧ ivh12 (sk 14) 2 ≤ 1 from W10.int ty25 2) (show ivh12 (sk 14) 2 = ivb1 (sk 14) 2 from fl10.i ty25 rfl 2) (show (-2147483648) ≤ ivh12 ob1 0 ∧ ivh12 ob1 0 ≤ 2147483647 from W10.int ty26 0) (show ivh12 ob1 0 = ivb1 ob1 0 from fl10.i ty26 rfl 0) (fun ri84 ri85 gf10 ri86 ie86 ri87 ie87 ri88 ie88 ri89 ie89 => ?_)
                  refine c_istore_n (lv2 := [(3, .int (iI f10)), (6, .int (iI 1)), (4, .int (iI cm)), (5, .int (iI k)), (2, .ref ob1), (0, .ref a0), (1, .int (iI i))]) C dX11_set_127 (by decide) rfl ?_
                  refine c_iload_n (j := 0) C dX11_set_128 rfl ?_
                  refine c_if_ne (tgt := 158) C (r32_067 gf10.1.1) dX11_set_129 (by decide) (fun c8 => ?_) (fun c8 => ?_)
                  · replace gf10 := (And.intro (And.intro (gf10.1.1.resolve_left c8) (And.intro gf10.1.2.1 trivial)) gf10.2)
                    refine c_iconst C dX11_set_158 ?_
                    refine c_goto (tgt := 163) C dX11_set_159 (by decide) ?_
                    refine c_istore (lv2 := [(6, .int (iI 1)), (3, .int (iI f10)), (4, .int (iI cm)), (5, .int (iI k)), (2, .ref ob1), (0, .ref a0), (1, .int (iI i))]) C dX11_set_163 (by decide) rfl ?_
                    refine hv12 (show 1 ≤ ivh12 a0 11 ∧ ivh12 a0 11 ≤ 100 from W10.int ty21 11) (show ivh12 a0 11 = ivb1 a0 11 from fl10.i ty21 rfl 11) (show 1 ≤ ivh12 a0 12 ∧ ivh12 a0 12 ≤ 50 from W10.int ty21 12) (show ivh12 a0 12 = ivb1 a0 12 from fl10.i ty21 rfl 12) (show (-2147483648) ≤ ivh12 a0 13 ∧ ivh12 a0 13 ≤ 2147483647 from W10.int ty21 13) (show ivh12 a0 13 = ivb1 a0 13 from fl10.i ty21 rfl 13) (show (-2147483648) ≤ ivh12 a0 14 ∧ ivh12 a0 14 ≤ 2147483647 from W10.int ty21 14) (show ivh12 a0 14 = ivb1 a0 14 from fl10.i ty21 rfl 14) (show (-2147483648) ≤ ivh12 a0 15 ∧ ivh12 a0 15 ≤ 2147483647 from W10.int ty21 15) (show ivh12 a0 15 = ivb1 a0 15 from fl10.i ty21 rfl 15) (show (-2147483648) ≤ ivh12 a0 16 ∧ ivh12 a0 16 ≤ 2147483647 from W10.int ty21 16) (show ivh12 a0 16 = ivb1 a0 16 from fl10.i ty21 rfl 16) (fun ri90 ie90 ri91 ie92 ri92 ie94 ri93 ie96 ri94 ie98 ri95 ie100 => ?_)
                    refine c_lv (lv2 := [(3, .int (iI f10)), (6, .int (iI 1)), (4, .int (iI cm)), (5, .int (iI k)), (2, .ref ob1), (0, .ref a0), (1, .int (iI i))]) [1, 0, 2, 3, 4, 5, 6] rfl ?_
                    exact J1  f10 1 _ _ _ _ _  Xb1 W10 F8  (by omega) (by omega) (by show 0 ≤ ivh12 (sk 14) 0 ∧ ivh12 (sk 14) 0 ≤ 501 ∧ (ivh12 (sk 14) 1 = 0 ∨ ivh12 (sk 14) 0 ≤ 500); omega) (by show k < 2 * ivh12 (sk 14) 0 + ivh12 (sk 14) 1; omega) h9 h10 (hP.bad (by omega) (by omega) (QT.of hW hS Xb1 Fb1 rfl rfl rfl rfl rfl) wkob1 Wb1 ty22 ty23 ty24 gf10.2 (by omega) fl10) (ie90.trans hkp11) (ie92.trans hkp12) (ie94.trans hkp13) (ie96.trans hkp14) (ie98.trans hkp15) (ie100.trans hkp16)
                  · replace gf10 := (And.intro (And.intro c8 (And.intro gf10.1.2.1 (gf10.1.2.2 c8))) gf10.2)
                    refine c_aload_n (j := 5) (x := a0) C dX11_set_132 rfl ?_
                    refine c_getr (k := 10) C ck_12 dX11_set_133 w2_54 (by decide) ty21 rfl rfl (by decide) rfl h10 ?_
                    refine c_st (st2 := [.ref sB]) rfl ?_
                    refine c_aload_n (j := 5) (x := a0) C dX11_set_136 rfl ?_
                    refine c_getr (k := 6) C ck_12 dX11_set_137 w2_50 (by decide) ty21 rfl rfl (by decide) rfl rq9 ?_
                    refine c_st (st2 := [.ref (sk 15), .ref sB]) rfl ?_
                    refine c_aload_n (j := 4) (x := ob1) C dX11_set_140 rfl ?_
                    refine c_get (k := 0) C ck_10 dX11_set_141 w2_176 (by decide) ty26 rfl rfl (by decide) rfl ?_
                    refine c_aload_n (j := 5) (x := a0) C dX11_set_144 rfl ?_
                    refine hv2 (show 1 ≤ ivh12 a0 11 ∧ ivh12 a0 11 ≤ 100 from W10.int ty21 11) (show ivh12 a0 11 = ivb1 a0 11 from fl10.i ty21 rfl 11) (fun ri96 ie102 => ?_)
                    refine c_get (k := 11) C ck_12 dX11_set_145 w2_55 (by decide) ty21 rfl rfl (by decide) rfl ?_
                    refine c_aload_n (j := 5) (x := a0) C dX11_set_148 rfl ?_
                    refine hv2 (show (-2147483648) ≤ ivh12 a0 13 ∧ ivh12 a0 13 ≤ 2147483647 from W10.int ty21 13) (show ivh12 a0 13 = ivb1 a0 13 from fl10.i ty21 rfl 13) (fun ri97 ie104 => ?_)
                    refine c_get (k := 13) C ck_12 dX11_set_149 w2_57 (by decide) ty21 rfl rfl (by decide) rfl ?_
                    refine hv2 (show (-2147483648) ≤ ivh12 sB 2 ∧ ivh12 sB 2 ≤ 2147483647 from W10.int ty23 2) (show ivh12 sB 2 = ivb1 sB 2 from fl10.i ty23 rfl 2) (fun ri98 ie106 => ?_)
                    refine d_callV (As := [.ref (sk 15), .int (iI (ivh12 ob1 0)), .int (iI (ivh12 a0 11)), .int (iI (ivh12 a0 13))]) (rest := []) C hM (G_take (a0 := sB) (a1 := (sk 15)) (x := ivh12 ob1 0) (w1 := ivh12 a0 11) (h1 := ivh12 a0 13) W10 skb1 ty23 ty22 (by omega) (by omega) (by omega) (by show 1 ≤ (ivh12 a0 11) ∧ (ivh12 a0 11) ≤ 100; omega)) dX11_set_152 kV_X11_256 rfl ty23 rfl rfl (by decide) ck_8 rfl (Nat.le_of_ble_eq_true rfl) ⟨(Nat.le_of_ble_eq_true rfl), (Nat.le_of_ble_eq_true rfl)⟩ hph pl7 (show 0 + 0 = 0 from rfl) (by decide) (fun rh13 Lh13 clh13 lnh13 ivh13 rvh13 h13 => ?_)
                    obtain ⟨f11, rfl, xl11, fl11, W11, rgf11, exf11⟩ := h13
                    refine hv13 (F8.call Xb1 fl11 rfl) (MRK.call mr8 W10 skb1 xl11 fl11 rfl rfl) (Xb1.ty tsk2) (Xb1.ty tsk3) (Xb1.ty tsk4) (Xb1.ty tsk5) (Xb1.ty tsk13) (Xb1.ty tsk16) (Xb1.ty tsk17) (Xb1.ty tsk22) (Xb1.ty tsk23) (Xb1.trans xl11) (xl11.skl skb1) (fun F9 mr9 ty27 ty28 ty29 ty30 ty31 ty32 ty33 ty34 ty35 X1 sk1 => ?_)
                    refine c_st (st2 := [.int (iI f11)]) rfl ?_
                    refine hv6 (xl11.ty ty23) (show ivh13 sB 2 = ivh12 sB 2 ∧ TKE Lb1 clb1 ivh12 rvb1 ivh13 rvh13 sB (sk 15) (ivh12 ob1 0) (ivh12 a0 11) (ivh12 a0 13) f11 from exf11) (xl11.ty ty25) (show ivh13 (sk 14) 0 = ivh12 (sk 14) 0 from fl11.i ty25 rfl 0) (show ivh13 (sk 14) 1 = ivh12 (sk 14) 1 from fl11.i ty25 rfl 1) (show ivh13 (sk 14) 2 = ivh12 (sk 14) 2 from fl11.i ty25 rfl 2) (fun ty36 gf11 ty37 ie109 ie110 ie111 => ?_)
                    refine hv4 (show (-2147483648) ≤ ivh13 sB 2 ∧ ivh13 sB 2 ≤ 2147483647 from W11.int ty36 2) (show (-2147483648) ≤ ivh13 (sk 14) 0 ∧ ivh13 (sk 14) 0 ≤ 2147483647 from W11.int ty37 0) (show 0 ≤ ivh13 (sk 14) 1 ∧ ivh13 (sk 14) 1 ≤ 1 from W11.int ty37 1) (show 0 ≤ ivh13 (sk 14) 2 ∧ ivh13 (sk 14) 2 ≤ 1 from W11.int ty37 2) (fun ri99 ri100 ri101 ri102 => ?_)
                    refine c_if_eq (tgt := 162) C ⟨by omega, by omega⟩ dX11_set_155 (by decide) (fun c9 => ?_) (fun c9 => ?_)
                    · refine c_iconst C dX11_set_162 ?_
                      refine c_istore (lv2 := [(6, .int (iI 0)), (3, .int (iI f10)), (4, .int (iI cm)), (5, .int (iI k)), (2, .ref ob1), (0, .ref a0), (1, .int (iI i))]) C dX11_set_163 (by decide) rfl ?_
                      refine hv12 (xl11.ty ty21) (show ivh13 a0 11 = ivh12 a0 11 from fl11.i ty21 rfl 11) (show ivh13 a0 12 = ivh12 a0 12 from fl11.i ty21 rfl 12) (show ivh12 a0 12 = ivb1 a0 12 from fl10.i ty21 rfl 12) (show ivh13 a0 13 = ivh12 a0 13 from fl11.i ty21 rfl 13) (show ivh13 a0 14 = ivh12 a0 14 from fl11.i ty21 rfl 14) (show ivh12 a0 14 = ivb1 a0 14 from fl10.i ty21 rfl 14) (show ivh13 a0 15 = ivh12 a0 15 from fl11.i ty21 rfl 15) (show ivh12 a0 15 = ivb1 a0 15 from fl10.i ty21 rfl 15) (show ivh13 a0 16 = ivh12 a0 16 from fl11.i ty21 rfl 16) (show ivh12 a0 16 = ivb1 a0 16 from fl10.i ty21 rfl 16) (show rvh13 a0 9 = rvb1 a0 9 from (fl11.r ty21 rfl 9)) (fun ty38 ie112 ie113 ie114 ie116 ie117 ie118 ie120 ie121 ie123 ie124 re1 => ?_)
                      refine hv6 (show 1 ≤ ivh13 a0 11 ∧ ivh13 a0 11 ≤ 100 from W11.int ty38 11) (show 1 ≤ ivh13 a0 12 ∧ ivh13 a0 12 ≤ 50 from W11.int ty38 12) (show (-2147483648) ≤ ivh13 a0 13 ∧ ivh13 a0 13 ≤ 2147483647 from W11.int ty38 13) (show (-2147483648) ≤ ivh13 a0 14 ∧ ivh13 a0 14 ≤ 2147483647 from W11.int ty38 14) (show (-2147483648) ≤ ivh13 a0 15 ∧ ivh13 a0 15 ≤ 2147483647 from W11.int ty38 15) (show (-2147483648) ≤ ivh13 a0 16 ∧ ivh13 a0 16 ≤ 2147483647 from W11.int ty38 16) (fun ri103 ri104 ri105 ri106 ri107 ri108 => ?_)
                      rw [h9] at re1
                      have re2 : rvh13 a0 10 = rvb1 a0 10 := (fl11.r ty21 rfl 10)
                      rw [h10] at re2
                      refine c_lv (lv2 := [(3, .int (iI f10)), (6, .int (iI 0)), (4, .int (iI cm)), (5, .int (iI k)), (2, .ref ob1), (0, .ref a0), (1, .int (iI i))]) [1, 0, 2, 3, 4, 5, 6] rfl ?_
                      exact J1  f10 0 _ _ _ _ _  X1 W11 F9  (by omega) (by omega) (by show 0 ≤ ivh13 (sk 14) 0 ∧ ivh13 (sk 14) 0 ≤ 501 ∧ (ivh13 (sk 14) 1 = 0 ∨ ivh13 (sk 14) 0 ≤ 500); omega) (by show k < 2 * ivh13 (sk 14) 0 + ivh13 (sk 14) 1; omega) re1 re2 (hP.word (by omega) (by omega) (QT.of hW hS Xb1 Fb1 rfl rfl rfl rfl rfl) wkob1 Wb1 W10 ty22 ty23 ty24 gf10.2 (by omega) fl10 (by omega) (by omega) (by have q := gf11.2; rw [show ivh12 a0 11 = iv a0 11 by omega, show ivh12 a0 13 = iv a0 13 by omega] at q; exact q) gf11.1 (by omega) (by omega) (by omega) (by omega)) (ie112.trans (ie102.trans hkp11)) (ie113.trans (ie114.trans hkp12)) (ie116.trans (ie104.trans hkp13)) (ie117.trans (ie118.trans hkp14)) (ie120.trans (ie121.trans hkp15)) (ie123.trans (ie124.trans hkp16))
                    · refine c_iconst C dX11_set_158 ?_
                      refine c_goto (tgt := 163) C dX11_set_159 (by decide) ?_
                      refine c_istore (lv2 := [(6, .int (iI 1)), (3, .int (iI f10)), (4, .int (iI cm)), (5, .int (iI k)), (2, .ref ob1), (0, .ref a0), (1, .int (iI i))]) C dX11_set_163 (by decide) rfl ?_
                      refine hv12 (xl11.ty ty21) (show ivh13 a0 11 = ivh12 a0 11 from fl11.i ty21 rfl 11) (show ivh13 a0 12 = ivh12 a0 12 from fl11.i ty21 rfl 12) (show ivh12 a0 12 = ivb1 a0 12 from fl10.i ty21 rfl 12) (show ivh13 a0 13 = ivh12 a0 13 from fl11.i ty21 rfl 13) (show ivh13 a0 14 = ivh12 a0 14 from fl11.i ty21 rfl 14) (show ivh12 a0 14 = ivb1 a0 14 from fl10.i ty21 rfl 14) (show ivh13 a0 15 = ivh12 a0 15 from fl11.i ty21 rfl 15) (show ivh12 a0 15 = ivb1 a0 15 from fl10.i ty21 rfl 15) (show ivh13 a0 16 = ivh12 a0 16 from fl11.i ty21 rfl 16) (show ivh12 a0 16 = ivb1 a0 16 from fl10.i ty21 rfl 16) (show rvh13 a0 9 = rvb1 a0 9 from (fl11.r ty21 rfl 9)) (fun ty39 ie126 ie127 ie128 ie130 ie131 ie132 ie134 ie135 ie137 ie138 re3 => ?_)
                      refine hv6 (show 1 ≤ ivh13 a0 11 ∧ ivh13 a0 11 ≤ 100 from W11.int ty39 11) (show 1 ≤ ivh13 a0 12 ∧ ivh13 a0 12 ≤ 50 from W11.int ty39 12) (show (-2147483648) ≤ ivh13 a0 13 ∧ ivh13 a0 13 ≤ 2147483647 from W11.int ty39 13) (show (-2147483648) ≤ ivh13 a0 14 ∧ ivh13 a0 14 ≤ 2147483647 from W11.int ty39 14) (show (-2147483648) ≤ ivh13 a0 15 ∧ ivh13 a0 15 ≤ 2147483647 from W11.int ty39 15) (show (-2147483648) ≤ ivh13 a0 16 ∧ ivh13 a0 16 ≤ 2147483647 from W11.int ty39 16) (fun ri109 ri110 ri111 ri112 ri113 ri114 => ?_)
                      rw [h9] at re3
                      have re4 : rvh13 a0 10 = rvb1 a0 10 := (fl11.r ty21 rfl 10)
                      rw [h10] at re4
                      refine c_lv (lv2 := [(3, .int (iI f10)), (6, .int (iI 1)), (4, .int (iI cm)), (5, .int (iI k)), (2, .ref ob1), (0, .ref a0), (1, .int (iI i))]) [1, 0, 2, 3, 4, 5, 6] rfl ?_
                      exact J1  f10 1 _ _ _ _ _  X1 W11 F9  (by omega) (by omega) (by show 0 ≤ ivh13 (sk 14) 0 ∧ ivh13 (sk 14) 0 ≤ 501 ∧ (ivh13 (sk 14) 1 = 0 ∨ ivh13 (sk 14) 0 ≤ 500); omega) (by show k < 2 * ivh13 (sk 14) 0 + ivh13 (sk 14) 1; omega) re3 re4 (hP.word (by omega) (by omega) (QT.of hW hS Xb1 Fb1 rfl rfl rfl rfl rfl) wkob1 Wb1 W10 ty22 ty23 ty24 gf10.2 (by omega) fl10 (by omega) (by omega) (by have q := gf11.2; rw [show ivh12 a0 11 = iv a0 11 by omega, show ivh12 a0 13 = iv a0 13 by omega] at q; exact q) gf11.1 (by omega) (by omega) (by omega) (by omega)) (ie126.trans (ie102.trans hkp11)) (ie127.trans (ie128.trans hkp12)) (ie130.trans (ie104.trans hkp13)) (ie131.trans (ie132.trans hkp14)) (ie134.trans (ie135.trans hkp15)) (ie137.trans (ie138.trans hkp16))
                · refine c_aload_n (j := 5) (x := a0) C dX11_set_98 rfl ?_
                  have ty40 := Xb1.ty t_a0
                  refine c_getr (k := 10) C ck_12 dX11_set_99 w2_54 (by decide) ty40 rfl rfl (by decide) rfl h10 ?_
                  refine c_st (st2 := [.ref sB]) rfl ?_
                  refine c_aload_n (j := 5) (x := a0) C dX11_set_102 rfl ?_
                  obtain ⟨rb10, rq10, trb10⟩ := Wb1.ref ty40 5 rfl rfl rfl
                  have erb10 := Wb1.sk trb10 (by decide) rfl
                  subst erb10
                  refine c_getr (k := 5) C ck_12 dX11_set_103 w2_49 (by decide) ty40 rfl rfl (by decide) rfl rq10 ?_
                  refine c_st (st2 := [.ref (sk 14), .ref sB]) rfl ?_
                  have ty41 := Xb1.ty tsk14
                  have ri115 : 0 ≤ ivb1 (sk 14) 2 ∧ ivb1 (sk 14) 2 ≤ 1 := Wb1.int ty41 2
                  refine c_get (k := 2) C ck_9 dX11_set_106 w1_106 (by decide) ty41 rfl rfl (by decide) rfl ?_
                  refine c_aload_n (j := 5) (x := a0) C dX11_set_109 rfl ?_
                  have ri116 : 1 ≤ ivb1 a0 11 ∧ ivb1 a0 11 ≤ 100 := Wb1.int ty40 11
                  refine c_get (k := 11) C ck_12 dX11_set_110 w2_55 (by decide) ty40 rfl rfl (by decide) rfl ?_
                  refine hv5 (Xb1.ty tsA) (show (-2147483648) ≤ ivb1 (sk 14) 0 ∧ ivb1 (sk 14) 0 ≤ 2147483647 from Wb1.int ty41 0) (show 0 ≤ ivb1 (sk 14) 1 ∧ ivb1 (sk 14) 1 ≤ 1 from Wb1.int ty41 1) (Xb1.ty tsB) (Phi.le Wb1 skb1) (fun ty42 ri117 ri118 ty43 pl8 => ?_)
                  refine d_callV (As := [.int (iI (ivb1 (sk 14) 2)), .int (iI (ivb1 a0 11))]) (rest := []) C hM (G_endText (a0 := sB) (g := ivb1 (sk 14) 2) (w1 := ivb1 a0 11) Wb1 skb1 ty43 (by omega) (by omega) (by show 1 ≤ (ivb1 a0 11) ∧ (ivb1 a0 11) ≤ 100; omega)) dX11_set_113 kV_X11_249 rfl ty43 rfl rfl (by decide) ck_8 rfl (Nat.le_of_ble_eq_true rfl) ⟨(Nat.le_of_ble_eq_true rfl), (Nat.le_of_ble_eq_true rfl)⟩ hph pl8 (show 0 + 0 = 0 from rfl) (by decide) (fun rh14 Lh14 clh14 lnh14 ivh14 rvh14 h14 => ?_)
                  obtain ⟨rfl, rfl, rfl, rfl, rfl, fl12, W12, exf12⟩ := h14
                  refine hv2 (Fb1.call Xb1 fl12 rfl) (MRK.call mrb1 Wb1 skb1 XT.refl fl12 rfl rfl) (fun F10 mr10 => ?_)
                  refine c_st (st2 := []) rfl ?_
                  refine hv7 (show ENX Lb1 clb1 ivb1 rvb1 ivh14 sB (ivb1 (sk 14) 2) (ivb1 a0 11) from exf12) (show (-2147483648) ≤ ivh14 (sk 14) 0 ∧ ivh14 (sk 14) 0 ≤ 2147483647 from W12.int ty41 0) (show ivh14 (sk 14) 0 = ivb1 (sk 14) 0 from fl12.i ty41 rfl 0) (show 0 ≤ ivh14 (sk 14) 1 ∧ ivh14 (sk 14) 1 ≤ 1 from W12.int ty41 1) (show ivh14 (sk 14) 1 = ivb1 (sk 14) 1 from fl12.i ty41 rfl 1) (show 0 ≤ ivh14 (sk 14) 2 ∧ ivh14 (sk 14) 2 ≤ 1 from W12.int ty41 2) (show ivh14 (sk 14) 2 = ivb1 (sk 14) 2 from fl12.i ty41 rfl 2) (fun gf12 ri119 ie144 ri120 ie145 ri121 ie146 => ?_)
                  refine c_goto (tgt := 165) C dX11_set_116 (by decide) ?_
                  refine hv12 (show 1 ≤ ivh14 a0 11 ∧ ivh14 a0 11 ≤ 100 from W12.int ty40 11) (show ivh14 a0 11 = ivb1 a0 11 from fl12.i ty40 rfl 11) (show 1 ≤ ivh14 a0 12 ∧ ivh14 a0 12 ≤ 50 from W12.int ty40 12) (show ivh14 a0 12 = ivb1 a0 12 from fl12.i ty40 rfl 12) (show (-2147483648) ≤ ivh14 a0 13 ∧ ivh14 a0 13 ≤ 2147483647 from W12.int ty40 13) (show ivh14 a0 13 = ivb1 a0 13 from fl12.i ty40 rfl 13) (show (-2147483648) ≤ ivh14 a0 14 ∧ ivh14 a0 14 ≤ 2147483647 from W12.int ty40 14) (show ivh14 a0 14 = ivb1 a0 14 from fl12.i ty40 rfl 14) (show (-2147483648) ≤ ivh14 a0 15 ∧ ivh14 a0 15 ≤ 2147483647 from W12.int ty40 15) (show ivh14 a0 15 = ivb1 a0 15 from fl12.i ty40 rfl 15) (show (-2147483648) ≤ ivh14 a0 16 ∧ ivh14 a0 16 ≤ 2147483647 from W12.int ty40 16) (show ivh14 a0 16 = ivb1 a0 16 from fl12.i ty40 rfl 16) (fun ri122 ie147 ri123 ie148 ri124 ie150 ri125 ie152 ri126 ie154 ri127 ie156 => ?_)
                  refine c_lv (lv2 := [(3, .int (iI wy)), (6, .int (iI 1)), (4, .int (iI cm)), (5, .int (iI k)), (2, .ref ob1), (0, .ref a0), (1, .int (iI i))]) [1, 0, 2, 3, 4, 5, 6] rfl ?_
                  exact J1  wy 1 _ _ _ _ _  Xb1 W12 F10  (by omega) (by omega) (by show 0 ≤ ivh14 (sk 14) 0 ∧ ivh14 (sk 14) 0 ≤ 501 ∧ (ivh14 (sk 14) 1 = 0 ∨ ivh14 (sk 14) 0 ≤ 500); omega) (by show k < 2 * ivh14 (sk 14) 0 + ivh14 (sk 14) 1; omega) h9 h10 (hP.end_ (x := ivb1 (sk 14) 2) (by omega) (by omega) ty42 (by have q := gf12; rw [show ivb1 a0 11 = iv a0 11 by omega] at q; exact q) rfl (by omega) (by omega) rfl) (ie147.trans hkp11) (ie148.trans hkp12) (ie150.trans hkp13) (ie152.trans hkp14) (ie154.trans hkp15) (ie156.trans hkp16)
              · refine c_aload_n (j := 5) (x := a0) C dX11_set_80 rfl ?_
                have ty44 := Xb1.ty t_a0
                refine c_getr (k := 10) C ck_12 dX11_set_81 w2_54 (by decide) ty44 rfl rfl (by decide) rfl h10 ?_
                refine c_st (st2 := [.ref sB]) rfl ?_
                refine hv4 (Xb1.ty tsA) (Xb1.ty tsk14) (Xb1.ty tsB) (Phi.le Wb1 skb1) (fun ty45 ty46 ty47 pl9 => ?_)
                refine hv3 (show (-2147483648) ≤ ivb1 (sk 14) 0 ∧ ivb1 (sk 14) 0 ≤ 2147483647 from Wb1.int ty46 0) (show 0 ≤ ivb1 (sk 14) 1 ∧ ivb1 (sk 14) 1 ≤ 1 from Wb1.int ty46 1) (show 0 ≤ ivb1 (sk 14) 2 ∧ ivb1 (sk 14) 2 ≤ 1 from Wb1.int ty46 2) (fun ri128 ri129 ri130 => ?_)
                refine d_callV (As := []) (rest := []) C hM (G_beginText (a0 := sB) Wb1 skb1 ty47  ) dX11_set_84 kV_X11_243 rfl ty47 rfl rfl (by decide) ck_8 rfl (Nat.le_of_ble_eq_true rfl) ⟨(Nat.le_of_ble_eq_true rfl), (Nat.le_of_ble_eq_true rfl)⟩ hph pl9 (show 0 + 0 = 0 from rfl) (by decide) (fun rh15 Lh15 clh15 lnh15 ivh15 rvh15 h15 => ?_)
                obtain ⟨f13, rfl, xl13, fl13, W13, rgf13, exf13⟩ := h15
                refine hv15 (Fb1.call Xb1 fl13 rfl) (MRK.call mrb1 Wb1 skb1 xl13 fl13 rfl rfl) (Xb1.ty tsk2) (Xb1.ty tsk3) (Xb1.ty tsk4) (Xb1.ty tsk5) (Xb1.ty tsk13) (Xb1.ty tsk15) (Xb1.ty tsk16) (Xb1.ty tsk17) (Xb1.ty tsk22) (Xb1.ty tsk23) (Xb1.ty tob1) (Xb1.trans xl13) (xl13.skl skb1) (fun F11 mr11 ty48 ty49 ty50 ty51 ty52 ty53 ty54 ty55 ty56 ty57 ty58 X2 sk2 => ?_)
                refine c_st (st2 := [.int (iI f13)]) rfl ?_
                refine hv5 (show BTX Lb1 clb1 ivb1 rvb1 ivh15 rvh15 sB f13 from exf13) (xl13.ty ty46) (show ivh15 (sk 14) 0 = ivb1 (sk 14) 0 from fl13.i ty46 rfl 0) (show ivh15 (sk 14) 1 = ivb1 (sk 14) 1 from fl13.i ty46 rfl 1) (show ivh15 (sk 14) 2 = ivb1 (sk 14) 2 from fl13.i ty46 rfl 2) (fun gf13 ty59 ie161 ie162 ie163 => ?_)
                refine hv3 (show (-2147483648) ≤ ivh15 (sk 14) 0 ∧ ivh15 (sk 14) 0 ≤ 2147483647 from W13.int ty59 0) (show 0 ≤ ivh15 (sk 14) 1 ∧ ivh15 (sk 14) 1 ≤ 1 from W13.int ty59 1) (show 0 ≤ ivh15 (sk 14) 2 ∧ ivh15 (sk 14) 2 ≤ 1 from W13.int ty59 2) (fun ri131 ri132 ri133 => ?_)
                refine c_istore (lv2 := [(6, .int (iI f13)), (3, .int (iI wy)), (4, .int (iI cm)), (5, .int (iI k)), (2, .ref ob1), (0, .ref a0), (1, .int (iI i))]) C dX11_set_87 (by decide) rfl ?_
                refine c_goto (tgt := 165) C dX11_set_89 (by decide) ?_
                refine hv8 (xl13.ty ty44) (show ivh15 a0 11 = ivb1 a0 11 from fl13.i ty44 rfl 11) (show ivh15 a0 12 = ivb1 a0 12 from fl13.i ty44 rfl 12) (show ivh15 a0 13 = ivb1 a0 13 from fl13.i ty44 rfl 13) (show ivh15 a0 14 = ivb1 a0 14 from fl13.i ty44 rfl 14) (show ivh15 a0 15 = ivb1 a0 15 from fl13.i ty44 rfl 15) (show ivh15 a0 16 = ivb1 a0 16 from fl13.i ty44 rfl 16) (show rvh15 a0 9 = rvb1 a0 9 from (fl13.r ty44 rfl 9)) (fun ty60 ie164 ie166 ie168 ie170 ie172 ie174 re5 => ?_)
                refine hv6 (show 1 ≤ ivh15 a0 11 ∧ ivh15 a0 11 ≤ 100 from W13.int ty60 11) (show 1 ≤ ivh15 a0 12 ∧ ivh15 a0 12 ≤ 50 from W13.int ty60 12) (show (-2147483648) ≤ ivh15 a0 13 ∧ ivh15 a0 13 ≤ 2147483647 from W13.int ty60 13) (show (-2147483648) ≤ ivh15 a0 14 ∧ ivh15 a0 14 ≤ 2147483647 from W13.int ty60 14) (show (-2147483648) ≤ ivh15 a0 15 ∧ ivh15 a0 15 ≤ 2147483647 from W13.int ty60 15) (show (-2147483648) ≤ ivh15 a0 16 ∧ ivh15 a0 16 ≤ 2147483647 from W13.int ty60 16) (fun ri134 ri135 ri136 ri137 ri138 ri139 => ?_)
                rw [h9] at re5
                have re6 : rvh15 a0 10 = rvb1 a0 10 := (fl13.r ty44 rfl 10)
                rw [h10] at re6
                refine c_lv (lv2 := [(3, .int (iI wy)), (6, .int (iI f13)), (4, .int (iI cm)), (5, .int (iI k)), (2, .ref ob1), (0, .ref a0), (1, .int (iI i))]) [1, 0, 2, 3, 4, 5, 6] rfl ?_
                exact J1  wy f13 _ _ _ _ _  X2 W13 F11  (by omega) (by omega) (by show 0 ≤ ivh15 (sk 14) 0 ∧ ivh15 (sk 14) 0 ≤ 501 ∧ (ivh15 (sk 14) 1 = 0 ∨ ivh15 (sk 14) 0 ≤ 500); omega) (by show k < 2 * ivh15 (sk 14) 0 + ivh15 (sk 14) 1; omega) re5 re6 (hP.beg (by omega) (by omega) wkob1 ty45 gf13 (by omega) (by omega) (by omega) (by omega)) (ie164.trans hkp11) (ie166.trans hkp12) (ie168.trans hkp13) (ie170.trans hkp14) (ie172.trans hkp15) (ie174.trans hkp16)
    refine hv24 (show 1 ≤ ivh4 a0 11 ∧ ivh4 a0 11 ≤ 100 from W4.int t_a0 11) (show ivh4 a0 11 = ivh3 a0 11 from fl4.i t_a0 rfl 11) (show ivh3 a0 11 = ivh2 a0 11 from fl3.i t_a0 rfl 11) (show ivh2 a0 11 = iv a0 11 from fl2.i t_a0 rfl 11) (show 1 ≤ ivh4 a0 12 ∧ ivh4 a0 12 ≤ 50 from W4.int t_a0 12) (show ivh4 a0 12 = ivh3 a0 12 from fl4.i t_a0 rfl 12) (show ivh3 a0 12 = ivh2 a0 12 from fl3.i t_a0 rfl 12) (show ivh2 a0 12 = iv a0 12 from fl2.i t_a0 rfl 12) (show (-2147483648) ≤ ivh4 a0 13 ∧ ivh4 a0 13 ≤ 2147483647 from W4.int t_a0 13) (show ivh4 a0 13 = ivh3 a0 13 from fl4.i t_a0 rfl 13) (show ivh3 a0 13 = ivh2 a0 13 from fl3.i t_a0 rfl 13) (show ivh2 a0 13 = iv a0 13 from fl2.i t_a0 rfl 13) (show (-2147483648) ≤ ivh4 a0 14 ∧ ivh4 a0 14 ≤ 2147483647 from W4.int t_a0 14) (show ivh4 a0 14 = ivh3 a0 14 from fl4.i t_a0 rfl 14) (show ivh3 a0 14 = ivh2 a0 14 from fl3.i t_a0 rfl 14) (show ivh2 a0 14 = iv a0 14 from fl2.i t_a0 rfl 14) (show (-2147483648) ≤ ivh4 a0 15 ∧ ivh4 a0 15 ≤ 2147483647 from W4.int t_a0 15) (show ivh4 a0 15 = ivh3 a0 15 from fl4.i t_a0 rfl 15) (show ivh3 a0 15 = ivh2 a0 15 from fl3.i t_a0 rfl 15) (show ivh2 a0 15 = iv a0 15 from fl2.i t_a0 rfl 15) (show (-2147483648) ≤ ivh4 a0 16 ∧ ivh4 a0 16 ≤ 2147483647 from W4.int t_a0 16) (show ivh4 a0 16 = ivh3 a0 16 from fl4.i t_a0 rfl 16) (show ivh3 a0 16 = ivh2 a0 16 from fl3.i t_a0 rfl 16) (show ivh2 a0 16 = iv a0 16 from fl2.i t_a0 rfl 16) (fun ri140 ie176 ie177 ie178 ri141 ie179 ie180 ie181 ri142 ie182 ie183 ie184 ri143 ie185 ie186 ie187 ri144 ie188 ie189 ie190 ri145 ie191 ie192 ie193 => ?_)
    refine c_lv (lv2 := [(3, .int (iI 0)), (4, .int (iI f4)), (5, .int (iI 0)), (2, .ref ob1), (0, .ref a0), (1, .int (iI i))]) [2, 1, 0, 3, 4, 5] rfl ?_
    exact Lp1 1103 0 f4 0 _ _ _ _ _ (by omega) hX0 W4 F3  (by omega) (by omega) (by omega) (by show 0 ≤ ivh4 (sk 14) 0 ∧ ivh4 (sk 14) 0 ≤ 501 ∧ (ivh4 (sk 14) 1 = 0 ∨ ivh4 (sk 14) 0 ≤ 500); omega) (by omega) hsA hsB (PSL.init hW tsB tsA exf2 W2 fl3 W3 (by omega) (by omega) fl4 F2 rfl rfl tsk3 gf4.2 rfl) (ie176.trans (ie177.trans ie178)) (ie179.trans (ie180.trans ie181)) (ie182.trans (ie183.trans ie184)) (ie185.trans (ie186.trans ie187)) (ie188.trans (ie189.trans ie190)) (ie191.trans (ie192.trans ie193))
  · subst oq1
    refine c_lv (lv2 := [(2, .null), (0, .ref a0), (1, .int (iI i))]) [0, 1, 2] rfl ?_
    refine c_st (st2 := []) rfl ?_
    refine c_aload_n (j := 1) (x := a0) C dX11_set_13 rfl ?_
    refine c_iconst C dX11_set_14 ?_
    refine d_callV (As := [.int (iI 3)]) (rest := []) C hM (C_refuse (a0 := a0) (x := 3) hW hS t_a0 ⟨by decide, by decide⟩ ) dX11_set_15 kV_X11_102 rfl t_a0 rfl rfl (by decide) ck_12 rfl (Nat.le_of_ble_eq_true rfl) ⟨(Nat.le_of_ble_eq_true rfl), (Nat.le_of_ble_eq_true rfl)⟩ hph hph (show 0 + 0 = 0 from rfl) (by decide) (fun rh16 Lh16 clh16 lnh16 ivh16 rvh16 h16 => ?_)
    obtain ⟨f14, rfl, rfl, rfl, rfl, rfl, fl14, W14, rgf14, exf14, kp11f14, kp12f14, kp13f14, kp14f14, kp15f14, kp16f14⟩ := h16
    refine hv6 (show 1 ≤ iv a0 12 ∧ iv a0 12 ≤ 50 from hW.int t_a0 12) (show (-2147483648) ≤ iv a0 14 ∧ iv a0 14 ≤ 2147483647 from hW.int t_a0 14) (show (-2147483648) ≤ iv a0 15 ∧ iv a0 15 ≤ 2147483647 from hW.int t_a0 15) (show (-2147483648) ≤ iv a0 16 ∧ iv a0 16 ≤ 2147483647 from hW.int t_a0 16) (hF0.call hX0 fl14 rfl) (MRK.call hmr hW hS XT.refl fl14 rfl rfl) (fun ri146 ri147 ri148 ri149 F12 mr12 => ?_)
    refine c_st (st2 := [.int (iI f14)]) rfl ?_
    refine hv13 (show ivh16 a0 11 = iv a0 11 from kp11f14) (show ivh16 a0 12 = iv a0 12 from kp12f14) (show ivh16 a0 13 = iv a0 13 from kp13f14) (show ivh16 a0 14 = iv a0 14 from kp14f14) (show ivh16 a0 15 = iv a0 15 from kp15f14) (show ivh16 a0 16 = iv a0 16 from kp16f14) (show f14 = -1 from exf14) (show 1 ≤ ivh16 a0 11 ∧ ivh16 a0 11 ≤ 100 from W14.int t_a0 11) (show 1 ≤ ivh16 a0 12 ∧ ivh16 a0 12 ≤ 50 from W14.int t_a0 12) (show (-2147483648) ≤ ivh16 a0 13 ∧ ivh16 a0 13 ≤ 2147483647 from W14.int t_a0 13) (show (-2147483648) ≤ ivh16 a0 14 ∧ ivh16 a0 14 ≤ 2147483647 from W14.int t_a0 14) (show (-2147483648) ≤ ivh16 a0 15 ∧ ivh16 a0 15 ≤ 2147483647 from W14.int t_a0 15) (show (-2147483648) ≤ ivh16 a0 16 ∧ ivh16 a0 16 ≤ 2147483647 from W14.int t_a0 16) (fun gk11f14 gk12f14 gk13f14 gk14f14 gk15f14 gk16f14 gf14 ri150 ri151 ri152 ri153 ri154 ri155 => ?_)
    exact c_iret C dX11_set_18 rfl (by decide) (rom0 hph hph (by decide)) ⟨f14, rfl, hX0, F12, W14, ⟨by omega, by omega⟩, trivial, gk11f14, gk12f14, gk13f14, gk14f14, gk15f14, gk16f14, (PSX.n1 gf1 hW tsB tsA hsA hsB fl14 rfl rfl rfl rfl (by omega))⟩
end
section
theorem PO2_set {l : Launch} {G : GT} {mi h0 : Nat} {i : Int} (h_i : -2147483648 ≤ i ∧ i ≤ 2147483647) : PressOp l G mi yX11_set cX11_set 7 (some .int) 8 [.int (iI i)] h0 (fun sk L cl ln iv rv L2 cl2 ln2 iv2 rv2 f => ((PSX sk ln iv rv iv2 rv2 h0 (iv h0 11) (iv h0 13) i f) ∧ (True ∧ True ∧ iv2 h0 15 = iv h0 15 ∧ iv2 h0 16 = iv h0 16 ∧ (iv2 (sk 5) 2 = iv (sk 5) 2 ∧ ∀ ss, CT iv rv (sk 5) ss → CT iv2 rv2 (sk 5) ss) ∧ (iv2 (sk 4) 2 = iv (sk 4) 2 ∧ ∀ ss, CT iv rv (sk 4) ss → CT iv2 rv2 (sk 4) ss) ∧ FKP sk iv rv iv2 rv2)) ∧ (iv2 h0 14 = iv h0 14 ∧ iv2 h0 11 = iv h0 11 ∧ iv2 h0 12 = iv h0 12 ∧ iv2 h0 13 = iv h0 13) ∧ (iv2 (sk 2) 2 = iv (sk 2) 2 ∧ (∀ ss, CT iv rv (sk 2) ss → CT iv2 rv2 (sk 2) ss)) ∧ (iv2 (sk 3) 2 = iv (sk 3) 2 ∧ (∀ tt, CT iv rv (sk 3) tt → CT iv2 rv2 (sk 3) tt)) ∧ PSAME sk iv rv iv2 rv2 ∧ (∃ g, WT g sk L cl ln iv rv ∧ WT g sk L2 cl2 ln2 iv2 rv2) ∧ SKL sk L cl ∧ XT L cl ln L2 cl2 ln2 ∧ (KP L cl (fun _ => False) (fun _ => False) (fun _ => False) (fun _ => False) (fun _ _ => False) iv rv iv2 rv2)) := by
  intro n L cl ln iv rv sk hn hp
  obtain ⟨hW, hS, hm, h23, ht⟩ := hp
  refine hv3 (show ty L cl (sk 23) 23 from ⟨(hS 23 rfl).1, by rw [(hS 23 rfl).2]; rfl⟩) (show ty L cl (sk 2) 2 from ⟨(hS 2 rfl).1, by rw [(hS 2 rfl).2]; rfl⟩) (show ty L cl (sk 3) 3 from ⟨(hS 3 rfl).1, by rw [(hS 3 rfl).2]; rfl⟩) (fun t23 t2 t3 => ?_)
  refine ⟨0, _, by decide, G_set hW hS ht h_i hm, fun v L2 cl2 ln2 iv2 rv2 h => ?_⟩
  obtain ⟨f, rfl, hX, hF, hW2, rg, ex, kp11, kp12, kp13, kp14, kp15, kp16, psx⟩ := h
  exact ⟨f, rfl, by omega, hX, hW2, (MRK.call hm hW hS hX hF rfl rfl), (by have q := hF.i t23 rfl 2; omega), ⟨⟨psx, ⟨trivial, trivial, kp15, kp16, ⟨hF.i (tysq (t := 5) hS rfl rfl) rfl 2, fun ss hs => CT.fr hs hW (tysq (t := 5) hS rfl rfl) hF rfl rfl rfl rfl rfl⟩, ⟨hF.i (tysq (t := 4) hS rfl rfl) rfl 2, fun ss hs => CT.fr hs hW (tysq (t := 4) hS rfl rfl) hF rfl rfl rfl rfl rfl⟩, (FKP.fr hW hS hF rfl rfl rfl rfl)⟩⟩, ⟨kp14, kp11, kp12, kp13⟩, ⟨hF.i t2 rfl 2, fun ss hs => CT.fr hs hW t2 hF rfl rfl rfl rfl rfl⟩, ⟨hF.i t3 rfl 2, fun tt ht => CT.fr ht hW t3 hF rfl rfl rfl rfl rfl⟩, (PSAME.fr hW hS hF rfl rfl rfl rfl rfl rfl rfl), ⟨⟨_, hW, hW2⟩, hS, hX, (KP.fr hW hF rfl)⟩⟩⟩
theorem MO2_set {l : Launch} {G : GT} {mm : Nat} {x1 : Int} (h_x1 : -2147483648 ≤ x1 ∧ x1 ≤ 2147483647) : ModelOp l G yX12_set cX12_set 7 (some .int) 66 [.int (iI x1)] mm 0 0 (fun v a v2 a2 f => ((SETX v a v2 a2 x1 f ∧ TBL v a ∧ ∀ j, a 10 j ≤ 200) ∧ (True ∧ True ∧ v2 42 = v 42 ∧ v2 43 = v 43 ∧ (v2 41 = v 41 ∧ a2 40 = a 40) ∧ (v2 52 = v 52 ∧ a2 51 = a 51) ∧ (v2 60 = v 60 ∧ v2 61 = v 61 ∧ a2 58 = a 58 ∧ a2 59 = a 59))) ∧ (v2 56 = v 56 ∧ v2 31 = v 31 ∧ v2 32 = v 32 ∧ v2 33 = v 33) ∧ (v2 3 = v 3 ∧ a2 2 = a 2) ∧ (v2 30 = v 30 ∧ a2 29 = a 29) ∧ TSAME v a v2 a2) := by
  intro n ad ln v a L E hn hV hI
  obtain ⟨hB, hT, hS, hR, h19⟩ := hV
  refine ⟨_, N2_set (t := x1) hB hT h_x1 L E hI, fun r L2 E2 h => ?_⟩
  obtain ⟨v2, a2, hI2, f, rfl, hf, hB2, hx⟩ := h
  exact ⟨f, ad, ln, v2, a2, rfl, hI2, ⟨hB2, (hT.fr hf rfl rfl), (hS.fr hf rfl rfl), (hR.fr hf rfl), (by have q := hf.1 19 rfl; push_cast; omega)⟩, ⟨⟨⟨hx, hT, fun j => (hB.2 10 j).2⟩, ⟨trivial, trivial, hf.1 42 rfl, hf.1 43 rfl, ⟨hf.1 41 rfl, hf.2 40 rfl⟩, ⟨hf.1 52 rfl, hf.2 51 rfl⟩, ⟨hf.1 60 rfl, hf.1 61 rfl, hf.2 58 rfl, hf.2 59 rfl⟩⟩⟩, ⟨hf.1 56 rfl, hf.1 31 rfl, hf.1 32 rfl, hf.1 33 rfl⟩, ⟨hf.1 3 rfl, hf.2 2 rfl⟩, ⟨hf.1 30 rfl, hf.2 29 rfl⟩, ⟨hf.1 4 rfl, hf.2 5 rfl, hf.2 6 rfl, hf.2 7 rfl, hf.2 10 rfl, hf.1 19 rfl, hf.2 18 rfl, hf.2 11 rfl, hf.2 8 rfl, hf.2 9 rfl, hf.2 12 rfl, hf.2 13 rfl, hf.2 14 rfl, hf.2 15 rfl, hf.2 16 rfl, hf.2 17 rfl⟩⟩⟩
end
section
def LNO (iv : Nat → Nat → Int) (rv : Nat → Nat → Option Nat) (r : Nat) (x : Option (List Int)) : Prop := (x = none ∧ iv r 2 ≠ 0) ∨ ∃ xs, x = some xs ∧ iv r 2 = 0 ∧ LNE iv rv r xs
def SHT (iv : Nat → Nat → Int) (rv : Nat → Nat → Option Nat) (s : Nat) (E : List (Option (List Int))) : Prop := iv s 1 = ((E.length : Nat) : Int) ∧ ∀ (l : Nat) (x : Option (List Int)), E[l]? = some x → ∃ rb r, rv s 0 = some rb ∧ rv rb l = some r ∧ LNO iv rv r x
def PRX (iv : Nat → Nat → Int) (rv : Nat → Nat → Option Nat) (s : Nat) (i : Int) (f : Option Nat) : Prop := (∃ r, f = some r ∧ SATX iv rv s i (some r) ∧ iv r 2 = 0) ∨ (f = none ∧ (SATX iv rv s i none ∨ ∃ r, SATX iv rv s i (some r) ∧ iv r 2 ≠ 0))
def TCH (iv : Nat → Nat → Int) (rv : Nat → Nat → Option Nat) (iv2 : Nat → Nat → Int) (h0 : Nat) (P : List (Option (List Int)) → List (Option (List Int)) → Prop) : Prop := ∀ sA sB, rv h0 9 = some sA → rv h0 10 = some sB → LNK rv sB sA → ∀ E, SHT iv rv sA E → ∃ E2, P E E2 ∧ SHT iv2 rv sA E2
def RSK (iv : Nat → Nat → Int) (rv : Nat → Nat → Option Nat) (iv1 : Nat → Nat → Int) (r : Nat) (k : Int) : Prop := ∀ xs, LNE iv rv r xs → LNE iv1 rv r (mpr k.toNat (gd0 xs))
def BCX (iv : Nat → Nat → Int) (rv : Nat → Nat → Option Nat) (iv2 : Nat → Nat → Int) (r r2 : Nat) : Prop := iv2 r 2 = iv r2 2 ∧ ∀ xs, LNE iv rv r2 xs → LNE iv2 rv r xs
def DTK (iv : Nat → Nat → Int) (rv : Nat → Nat → Option Nat) (r : Nat) (k z : Int) : Prop := ∀ xs, LNE iv rv r xs → k ≤ ((xs.length : Nat) : Int) → iI z = bcs 0 (mpr k.toNat (gd0 xs))
def DTX (iv : Nat → Nat → Int) (rv : Nat → Nat → Option Nat) (r : Nat) (z : Int) : Prop := ∀ xs, LNE iv rv r xs → iI z = bcs 0 xs
def EP1 (iv : Nat → Nat → Int) (rv : Nat → Nat → Option Nat) (h0 : Nat) (q w k z : Int) : Prop := ∀ sA, rv h0 9 = some sA → ∀ E, SHT iv rv sA E → emb E q w k.toNat (iI z)
def EPX (iv : Nat → Nat → Int) (rv : Nat → Nat → Option Nat) (iv2 : Nat → Nat → Int) (h0 : Nat) (q n w f : Int) : Prop := ∀ sA, rv h0 9 = some sA → ∀ E, SHT iv rv sA E → EMBX E q n w (iI (iv h0 16)) f (iI (iv2 h0 16))
section CROW
variable {h : Nat} {sk : Nat → Nat} {L : List Nat} {cl ln : Nat → Nat} {iv iv1 iv2 iv3 iv4 : Nat → Nat → Int} {rv rv2 : Nat → Nat → Option Nat} {s s2 r r2 rb cb ca h0 sA : Nat} {l i n f k w x q u z : Int} {E E2 : List (Option (List Int))} {y : Option (List Int)} {xs ys : List Int} {ls : List Nat} {P : List (Option (List Int)) → List (Option (List Int)) → Prop}
theorem mpr_s {n : Nat} {F : Nat → Int} : mpr (n + 1) F = mpr n F ++ [F n] := by
  unfold mpr
  rw [List.range_succ, List.map_append]
  rfl
theorem LNE.gd (hx : LNE iv rv r xs) (h0 : rv r 0 = some cb) {j : Nat} (hj : j < xs.length) : iv cb j = gd0 xs j := hx.2 cb h0 j _ (gd0_lt hj)
theorem LNO.fr (hx : LNO iv rv r y) (h1 : iv2 r = iv r) (h2 : rv2 r = rv r) (h3 : ∀ cb, rv r 0 = some cb → iv2 cb = iv cb) : LNO iv2 rv2 r y := by
  rcases hx with ⟨e1, e2⟩ | ⟨xs, e1, e2, e3⟩
  · exact Or.inl ⟨e1, by rw [h1]; exact e2⟩
  · exact Or.inr ⟨xs, e1, by rw [h1]; exact e2, e3.fr h1 h2 h3⟩
theorem SHT.sam (hE : SHT iv rv s E) (hS : SAM iv rv iv2 rv2 s) : SHT iv2 rv2 s E := by
  obtain ⟨s1, s2, s3⟩ := hS
  refine ⟨by rw [s1]; exact hE.1, fun l x e => ?_⟩
  obtain ⟨rb, r, q0, q1, q2⟩ := hE.2 l x e
  obtain ⟨p1, p2⟩ := s3 rb q0
  obtain ⟨k1, k2, k3⟩ := p2 l r q1
  exact ⟨rb, r, by rw [s2]; exact q0, by rw [p1]; exact q1, q2.fr k1 k2 k3⟩
theorem SHT.nul (hE : SHT iv rv s E) (hx : SATX iv rv s i none) : rwe E i = none := by
  rcases hx with ⟨⟨c1, c2⟩, rb, h0, e⟩ | ⟨c, _⟩
  · obtain ⟨y, _, y2⟩ := rwl_in (E := E) c1 (by have q := hE.1; omega)
    obtain ⟨rb2, r, q0, q1, _⟩ := hE.2 _ _ y2
    rw [h0] at q0; cases q0
    rw [← e] at q1
    cases q1
  · exact rwl_out (by have q := hE.1; omega)
theorem SHT.smt (hE : SHT iv rv s E) (hx : SATX iv rv s i (some r)) : ∃ y, rwe E i = some y ∧ LNO iv rv r y := by
  rcases hx with ⟨⟨c1, c2⟩, rb, h0, e⟩ | ⟨_, e⟩
  · obtain ⟨y, y1, y2⟩ := rwl_in (E := E) c1 (by have q := hE.1; omega)
    obtain ⟨rb2, r2, q0, q1, q2⟩ := hE.2 _ _ y2
    rw [h0] at q0; cases q0
    rw [← e] at q1
    cases q1
    exact ⟨y, y1, q2⟩
  · cases e
theorem SHT.lck (hE : SHT iv rv s E) (hx : SATX iv rv s i (some r)) (hn : iv r 2 ≠ 0) : rwe E i = some none := by
  obtain ⟨y, y1, y2⟩ := hE.smt hx
  rcases y2 with ⟨e, _⟩ | ⟨xs, _, e, _⟩
  · rw [y1, e]
  · exact absurd e hn
theorem SHT.prs (hE : SHT iv rv s E) (hx : SATX iv rv s i (some r)) (hn : iv r 2 = 0) : ∃ xs, rwe E i = some (some xs) ∧ LNE iv rv r xs := by
  obtain ⟨y, y1, y2⟩ := hE.smt hx
  rcases y2 with ⟨_, e⟩ | ⟨xs, e1, _, e2⟩
  · exact absurd hn e
  · exact ⟨xs, by rw [y1, e1], e2⟩
theorem PRX.non (hx : PRX iv rv s i none) (hE : SHT iv rv s E) : ¬ ∃ xs, rwe E i = some (some xs) := fun g => by
  obtain ⟨xs, g⟩ := g
  rcases hx with ⟨r, e, _⟩ | ⟨_, e | ⟨r, e1, e2⟩⟩
  · cases e
  · rw [hE.nul e] at g
    cases g
  · rw [hE.lck e1 e2] at g
    cases g
theorem PRX.smt (hx : PRX iv rv s i (some r)) : SATX iv rv s i (some r) ∧ iv r 2 = 0 := by
  rcases hx with ⟨r2, e, e1, e2⟩ | ⟨e, _⟩
  · cases e
    exact ⟨e1, e2⟩
  · cases e
theorem SHT.set (hE : SHT iv rv s E) (hK : LNK rv s2 s) (hW : WT h sk L cl ln iv rv) (ts : ty L cl s 18) (hx : SATX iv rv s i (some r)) (hL : LFR L cl iv rv iv2 r) (h1 : iv2 s 1 = iv s 1) (hn : LNO iv2 rv r y) : SHT iv2 rv s (E.set i.toNat y) := by
  obtain ⟨rb, r0, r1⟩ := hx.row
  have tr := ro19 hW (sh67 hW ts r0) r1
  refine ⟨by rw [List.length_set, h1]; exact hE.1, fun j x e => ?_⟩
  rw [List.getElem?_set] at e
  by_cases c : i.toNat = j
  · rw [if_pos c] at e
    split at e
    · cases e
      exact ⟨rb, r, r0, by rw [← c]; exact r1, hn⟩
    · cases e
  · rw [if_neg c] at e
    obtain ⟨rb2, r2, q0, q1, q2⟩ := hE.2 j x e
    obtain ⟨n1, n2⟩ := hK.sym.ne hW (Or.inl rfl) (Or.inl rfl) tr r0 r1 q0 q1 (fun g => c g.2)
    have t2 := ro19 hW (sh67 hW ts q0) q1
    exact ⟨rb2, r2, q0, q1, q2.fr (hL.1 r2 t2 n1) rfl (fun cb hc => hL.2 cb (li64 hW t2 hc) (n2 cb hc))⟩
theorem TCH.same (hA : rv h0 9 = some sA) (hW : WT h sk L cl ln iv rv) (tA : ty L cl sA 18) (hF : fT ls L cl iv rv iv2 rv) (a18 : ls.contains 18 = false) (a19 : ls.contains 19 = false) (a64 : ls.contains 64 = false) (a67 : ls.contains 67 = false) (hP : ∀ E, SHT iv rv sA E → P E E) : TCH iv rv iv2 h0 P := fun sA' sB e _ _ E hE => by
  rw [hA] at e; cases e
  exact ⟨E, hP E hE, hE.sam (SAM.frm hW tA hF a18 a19 a64 a67)⟩
theorem TCH.row (hA : rv h0 9 = some sA) (hW : WT h sk L cl ln iv rv) (tA : ty L cl sA 18) (hx : SATX iv rv sA i (some r)) (hL : LFR L cl iv rv iv1 r) (h1 : iv1 sA 1 = iv sA 1) (hW1 : WT h sk L cl ln iv1 rv) (hF : fT ls L cl iv1 rv iv2 rv) (a18 : ls.contains 18 = false) (a19 : ls.contains 19 = false) (a64 : ls.contains 64 = false) (a67 : ls.contains 67 = false) (hP : ∀ E, SHT iv rv sA E → ∃ y, LNO iv1 rv r y ∧ P E (E.set i.toNat y)) : TCH iv rv iv2 h0 P := fun sA' sB e _ hK E hE => by
  rw [hA] at e; cases e
  obtain ⟨y, y1, y2⟩ := hP E hE
  exact ⟨_, y2, (hE.set hK hW tA hx hL h1 y1).sam (SAM.frm hW1 tA hF a18 a19 a64 a67)⟩
theorem LSP.no (hx : SATX iv rv s l none) (hf : f = -1) (hE : SHT iv rv s E) : LOSX E l f E := Or.inr ⟨hE.nul hx, rfl, hf⟩
theorem LSP.ok (hx : SATX iv rv s l (some r)) (e : iv1 = up2 iv r 2 1) (hf : f = 1) (hE : SHT iv rv s E) : ∃ y, LNO iv1 rv r y ∧ LOSX E l f (E.set l.toNat y) := by
  obtain ⟨y, y1, _⟩ := hE.smt hx
  exact ⟨none, Or.inl ⟨rfl, by rw [e, up2_s]; decide⟩, Or.inl ⟨⟨y, y1⟩, rfl, hf⟩⟩
theorem CTP.no (hx : (n < 0 ∨ 200 < n) ∨ PRX iv rv s l none) (hf : f = -1) (hE : SHT iv rv s E) : CUTX E l n f E := by
  refine Or.inr ⟨fun ⟨c, g⟩ => ?_, rfl, hf⟩
  rcases hx with e | e
  · omega
  · exact e.non hE g
theorem CTP.ok (hx : PRX iv rv s l (some r)) (hn : 0 ≤ n ∧ n ≤ 200) (hr : RSK iv rv iv1 r n) (h2 : iv1 r 2 = iv r 2) (hf : f = n) (hE : SHT iv rv s E) : ∃ y, LNO iv1 rv r y ∧ CUTX E l n f (E.set l.toNat y) := by
  obtain ⟨x1, x2⟩ := hx.smt
  obtain ⟨xs, e1, e2⟩ := hE.prs x1 x2
  exact ⟨some (mpr n.toNat (gd0 xs)), Or.inr ⟨_, rfl, h2.trans x2, hr xs e2⟩, Or.inl ⟨hn, xs, e1, rfl, hf⟩⟩
theorem RSK.init (e : iv1 = up2 iv r 1 k) (hk : 0 ≤ k ∧ k ≤ iv r 1) (hne : ∀ cb, rv r 0 = some cb → cb ≠ r) : RSK iv rv iv1 r k := fun xs hx => by
  refine ⟨by rw [e, up2_s, mpr_len]; omega, fun cb hc j y ey => ?_⟩
  obtain ⟨m1, m2⟩ := mpr_at ey
  have q := hx.1
  rw [e, up2_k (hne cb hc), m2]
  exact hx.gd hc (by omega)
theorem RSK.step (hr : RSK iv rv iv1 r k) (hx : LAX iv1 rv iv2 r 0) (hk : 0 ≤ k ∧ iv r 1 ≤ k ∧ k < 200) : RSK iv rv iv2 r (k + 1) := fun xs hl => by
  have q := hl.1
  have g := hx _ (hr xs hl) (by rw [mpr_len]; omega)
  rw [show (k + 1).toNat = k.toNat + 1 by omega, mpr_s, gd0_out (by omega)]
  exact g
theorem CRP.no (hx : SATX iv rv s q none ∨ SATX iv rv s u none) (hf : f = -1) (hE : SHT iv rv s E) : CPRX E q w u x n f E := by
  refine Or.inr ⟨fun ⟨xs, ys, g⟩ => ?_, rfl, hf⟩
  rcases hx with e | e
  · have g1 := g.1
    rw [hE.nul e] at g1
    cases g1
  · have g1 := g.2.1
    rw [hE.nul e] at g1
    cases g1
theorem CRP.lck (hq : SATX iv rv s q (some r)) (hu : SATX iv rv s u (some r2)) (hx : iv r 2 ≠ 0 ∨ iv r2 2 ≠ 0) (hf : f = -1) (hE : SHT iv rv s E) : CPRX E q w u x n f E := by
  refine Or.inr ⟨fun ⟨xs, ys, g⟩ => ?_, rfl, hf⟩
  rcases hx with e | e
  · have g1 := g.1
    rw [hE.lck hq e] at g1
    cases g1
  · have g1 := g.2.1
    rw [hE.lck hu e] at g1
    cases g1
theorem CRP.out (hq : SATX iv rv s q (some r)) (hu : SATX iv rv s u (some r2)) (h1 : iv r 2 = 0) (h2 : iv r2 2 = 0) (hx : ¬ (0 ≤ n ∧ 0 ≤ w ∧ 0 ≤ x ∧ w + n ≤ iv r 1 ∧ x + n ≤ iv r2 1)) (hf : f = -1) (hE : SHT iv rv s E) : CPRX E q w u x n f E := by
  obtain ⟨xs, e1, e2⟩ := hE.prs hq h1
  obtain ⟨ys, d1, d2⟩ := hE.prs hu h2
  refine Or.inr ⟨fun ⟨zs, us, g1, g2, g3, g4, g5, g6, g7⟩ => hx ?_, rfl, hf⟩
  rw [e1] at g1
  rw [d1] at g2
  cases g1
  cases g2
  refine hv2 (e2.1) (d2.1) (fun a1 a2 => ?_)
  exact ⟨g3, g4, g5, by omega, by omega⟩
theorem CRP.ok (hq : SATX iv rv s q (some r)) (hu : SATX iv rv s u (some r2)) (h1 : iv r 2 = 0) (h2 : iv r2 2 = 0) (hx : 0 ≤ n ∧ 0 ≤ w ∧ 0 ≤ x ∧ w + n ≤ iv r 1 ∧ x + n ≤ iv r2 1) (ha : rv r 0 = some ca) (hb : rv r2 0 = some cb) (e : iv1 = fun a b => if a = cb then (if x.toNat ≤ b ∧ b < x.toNat + n.toNat then iv ca (w.toNat + (b - x.toNat)) else iv cb b) else iv a b) (hne : r2 ≠ cb) (hf : f = n) (hE : SHT iv rv s E) : ∃ y, LNO iv1 rv r2 y ∧ CPRX E q w u x n f (E.set u.toNat y) := by
  obtain ⟨xs, e1, e2⟩ := hE.prs hq h1
  obtain ⟨ys, d1, d2⟩ := hE.prs hu h2
  refine hv2 (e2.1) (d2.1) (fun a1 a2 => ?_)
  have er : ∀ m, iv1 r2 m = iv r2 m := fun m => by
    rw [e]
    show (if r2 = cb then _ else iv r2 m) = iv r2 m
    rw [if_neg hne]
  refine ⟨some (cpx xs ys w.toNat x.toNat n.toNat), Or.inr ⟨_, rfl, (er 2).trans h2, ?_, fun c hc j y ey => ?_⟩, Or.inl ⟨xs, ys, ⟨e1, d1, hx.1, hx.2.1, hx.2.2.1, by omega, by omega⟩, rfl, hf⟩⟩
  · unfold cpx
    rw [er, mpr_len]
    exact a2
  · unfold cpx at ey
    obtain ⟨m1, m2⟩ := mpr_at ey
    rw [hb] at hc; cases hc
    have ec : iv1 cb j = if x.toNat ≤ j ∧ j < x.toNat + n.toNat then iv ca (w.toNat + (j - x.toNat)) else iv cb j := by
      rw [e]
      show (if cb = cb then _ else _) = _
      rw [if_pos rfl]
    rw [ec, m2]
    by_cases c0 : x.toNat ≤ j ∧ j < x.toNat + n.toNat
    · rw [if_pos c0, if_pos c0]
      exact e2.gd ha (by omega)
    · rw [if_neg c0, if_neg c0]
      exact d2.gd hb m1
theorem BCX.mk {m : Int} (ha : rv r2 0 = some ca) (hb : rv r 0 = some cb) (e1 : iv1 = fun a b => if a = cb then (if (0 : Int).toNat ≤ b ∧ b < (0 : Int).toNat + m.toNat then iv ca ((0 : Int).toNat + (b - (0 : Int).toNat)) else iv cb b) else iv a b) (hm : m = iv r2 1) (e2 : iv2 = up2 iv1 r 1 k) (hk : k = iv r2 1) (e3 : iv3 = up2 iv2 r 2 z) (hz : z = iv2 r2 2) (hne : cb ≠ r) (hne2 : r2 ≠ cb) : BCX iv rv iv3 r r2 := by
  have z2 : iv2 r2 2 = iv r2 2 := by
    rw [e2, up2_j (by decide), e1]
    show (if r2 = cb then _ else iv r2 2) = iv r2 2
    rw [if_neg hne2]
  refine ⟨by rw [e3, up2_s]; exact hz.trans z2, fun xs hx => ⟨by rw [e3, up2_j (by decide), e2, up2_s]; exact hk.trans hx.1, fun c hc j y ey => ?_⟩⟩
  rw [hb] at hc; cases hc
  refine hv2 (hx.1) (gl3 ey) (fun q lt => ?_)
  have ec : iv1 cb j = if (0 : Int).toNat ≤ j ∧ j < (0 : Int).toNat + m.toNat then iv ca ((0 : Int).toNat + (j - (0 : Int).toNat)) else iv cb j := by
    rw [e1]
    show (if cb = cb then _ else _) = _
    rw [if_pos rfl]
  rw [e3, up2_k hne, e2, up2_k hne, ec, if_pos (by omega), show (0 : Int).toNat + (j - (0 : Int).toNat) = j by omega]
  exact hx.2 ca ha j y ey
theorem wr_add {x z : Int} (hz : R32 z) (hx : -2147483648 ≤ x ∧ x ≤ 2147484000) (e : iI x = iI z) : (x < 2147483648 ∧ z = x) ∨ (2147483648 ≤ x ∧ z < 0) := by
  have g := congrArg Int32.toInt e
  rw [iI_int hz] at g
  by_cases c : x < 2147483648
  · rw [iI_int ⟨hx.1, c⟩] at g
    exact Or.inl ⟨c, g.symm⟩
  · have h2 : (iI x).toInt = x.bmod 4294967296 := Int32.toInt_ofInt
    rw [h2, Int.bmod_def] at g
    refine Or.inr ⟨by omega, ?_⟩
    split at g <;> omega
theorem SATX.wr {fo : Option Nat} (hx : SATX iv rv s z fo) (hw : (x < 2147483648 ∧ z = x) ∨ (2147483648 ≤ x ∧ z < 0)) (hc : iv s 1 ≤ 200) : SATX iv rv s x fo := by
  rcases hw with ⟨_, e⟩ | ⟨e1, e2⟩
  · rw [← e]
    exact hx
  · rcases hx with ⟨c, _⟩ | ⟨_, c⟩
    · omega
    · exact Or.inr ⟨by omega, c⟩
theorem CPP.zero (hA : rv h0 9 = some sA) (hW : WT h sk L cl ln iv rv) (tA : ty L cl sA 18) (th : ty L cl h0 1) (e : iv1 = up2 iv h0 15 z) (hk : k = 0) : TCH iv rv iv1 h0 (fun E E1 => cpn E q u k.toNat E1) := by
  have hF : fT [1] L cl iv rv iv1 rv := fT.refl.puti (ln := ln) (ln2 := ln) XT.refl e th rfl
  refine TCH.same hA hW tA hF rfl rfl rfl rfl (fun E hE => ?_)
  rw [hk]
  exact rfl
theorem CPP.step (hT : TCH iv rv iv1 h0 (fun E E1 => cpn E q u k.toNat E1)) (hA : rv h0 9 = some sA) (hW1 : WT h sk L cl ln iv1 rv) (tA : ty L cl sA 18) (th : ty L cl h0 1) (g1 : SATX iv1 rv sA (q + k) (some r)) (g2 : SATX iv1 rv sA (u + k) (some r2)) (hl : iv1 r 2 = 0) (hL : LFR L cl iv1 rv iv2 r2) (hB : BCX iv1 rv iv2 r2 r) (h1 : iv2 sA 1 = iv1 sA 1) (hW2 : WT h sk L cl ln iv2 rv) (e : iv3 = up2 iv2 h0 15 z) (hk : 0 ≤ k) : TCH iv rv iv3 h0 (fun E E1 => cpn E q u (k + 1).toNat E1) := fun sA' sB e1 e2 hK E hE => by
  rw [hA] at e1; cases e1
  have hF : fT [1] L cl iv2 rv iv3 rv := fT.refl.puti (ln := ln) (ln2 := ln) XT.refl e th rfl
  obtain ⟨E1, p1, p2⟩ := hT sA sB hA e2 hK E hE
  obtain ⟨xs, d1, d2⟩ := p2.prs g1 hl
  obtain ⟨y, y1, _⟩ := p2.smt g2
  refine ⟨E1.set (u + k).toNat (some xs), ?_, (p2.set hK hW1 tA g2 hL h1 (Or.inr ⟨xs, rfl, hB.1.trans hl, hB.2 xs d2⟩)).sam (SAM.frm hW2 tA hF rfl rfl rfl rfl)⟩
  show cpn E q u (k + 1).toNat (E1.set (u + k).toNat (some xs))
  rw [show (k + 1).toNat = k.toNat + 1 by omega]
  refine ⟨E1, p1, xs, y, ?_, ?_, ?_⟩
  · rw [show q + ((k.toNat : Nat) : Int) = q + k by omega]
    exact d1
  · rw [show u + ((k.toNat : Nat) : Int) = u + k by omega]
    exact y1
  · rw [show u + ((k.toNat : Nat) : Int) = u + k by omega]
theorem CPP.bad (hA : rv h0 9 = some sA) (hW : WT h sk L cl ln iv rv) (tA : ty L cl sA 18) (hF : fT [1] L cl iv rv iv2 rv) {c c2 : Int} (hn : n < 0 ∨ 10 < n) (hf : f = -1) (hc : c2 = c) : TCH iv rv iv2 h0 (fun E E2 => CPLX E q u n c f E2 c2) := TCH.same hA hW tA hF rfl rfl rfl rfl (fun E hE => Or.inl ⟨hn, rfl, hf, hc⟩)
theorem CPP.ok (hT : TCH iv rv iv1 h0 (fun E E1 => cpn E q u k.toNat E1)) (hA : rv h0 9 = some sA) (hW1 : WT h sk L cl ln iv1 rv) (tA : ty L cl sA 18) (hF : fT [1] L cl iv1 rv iv2 rv) {c c2 : Int} (hk : k = n) (hn : 0 ≤ n ∧ n ≤ 10) (hf : f = n) (hc : c2 = n) : TCH iv rv iv2 h0 (fun E E2 => CPLX E q u n c f E2 c2) := fun sA' sB e1 e2 hK E hE => by
  rw [hA] at e1; cases e1
  obtain ⟨E1, p1, p2⟩ := hT sA sB hA e2 hK E hE
  have p3 : cpn E q u k.toNat E1 := p1
  rw [hk] at p3
  exact ⟨E1, Or.inr ⟨hn, Or.inl ⟨p3, hf, hc⟩⟩, p2.sam (SAM.frm hW1 tA hF rfl rfl rfl rfl)⟩
theorem CPP.stop (hT : TCH iv rv iv1 h0 (fun E E1 => cpn E q u k.toNat E1)) (hA : rv h0 9 = some sA) (hW1 : WT h sk L cl ln iv1 rv) (tA : ty L cl sA 18) (hF : fT [1] L cl iv1 rv iv2 rv) {c c2 : Int} (hk : 0 ≤ k ∧ k < n) (hn : n ≤ 10) (hf : f = -1) (hc : c2 = k) (hx : SATX iv1 rv sA (q + k) none ∨ SATX iv1 rv sA (u + k) none ∨ ∃ r, SATX iv1 rv sA (q + k) (some r) ∧ iv1 r 2 ≠ 0) : TCH iv rv iv2 h0 (fun E E2 => CPLX E q u n c f E2 c2) := fun sA' sB e1 e2 hK E hE => by
  rw [hA] at e1; cases e1
  obtain ⟨E1, p1, p2⟩ := hT sA sB hA e2 hK E hE
  refine ⟨E1, Or.inr ⟨⟨by omega, hn⟩, Or.inr ⟨k.toNat, by omega, p1, fun ⟨E3, xs, y, d1, d2, _⟩ => ?_, hf, by omega⟩⟩, p2.sam (SAM.frm hW1 tA hF rfl rfl rfl rfl)⟩
  rw [show q + ((k.toNat : Nat) : Int) = q + k by omega] at d1
  rw [show u + ((k.toNat : Nat) : Int) = u + k by omega] at d2
  rcases hx with e | e | ⟨r, e1, e3⟩
  · rw [p2.nul e] at d1
    cases d1
  · rw [p2.nul e] at d2
    cases d2
  · rw [p2.lck e1 e3] at d1
    cases d1
theorem DTK.zero (hk : k = 0) (hz : z = 0) : DTK iv rv r k z := fun xs hx hl => by
  rw [hk, hz]
  rfl
theorem DTK.step (hd : DTK iv rv r k z) (hc : rv r 0 = some cb) (hk : 0 ≤ k) (e1 : bcn (iI (iv cb k.toNat)) = iI w) (e2 : iI (z + w) = iI x) : DTK iv rv r (k + 1) x := fun xs hx hl => by
  refine hv2 (hd xs hx (by omega)) (show iI (z + w) = iI z + iI w from Int32.ofInt_add z w) (fun g ea => ?_)
  have ec := hx.gd hc (j := k.toNat) (by omega)
  rw [show (k + 1).toNat = k.toNat + 1 by omega, mpr_s, bcs_snoc, ← g, ← e2, ea, ← e1, ec]
theorem mpr_all {n : Nat} (hn : n = xs.length) : mpr n (gd0 xs) = xs := by
  refine List.ext_getElem? (fun j => ?_)
  by_cases cj : j < xs.length
  · have lt : j < (mpr n (gd0 xs)).length := by rw [mpr_len]; omega
    have g := List.getElem?_eq_getElem lt
    rw [gd0_lt cj, g]
    obtain ⟨_, m2⟩ := mpr_at g
    rw [m2]
  · have l1 : (mpr n (gd0 xs)).length ≤ j := by
      rw [mpr_len]
      omega
    rw [List.getElem?_eq_none l1, List.getElem?_eq_none (show xs.length ≤ j by omega)]
theorem DTX.fin (hd : DTK iv rv r k z) (hk : k = iv r 1) : DTX iv rv r z := fun xs hx => by
  have e := hx.1
  have g := hd xs hx (by omega)
  rw [mpr_all (by omega)] at g
  exact g
theorem SATX.up {fo : Option Nat} (hx : SATX iv1 rv s x fo) (h1 : iv1 s 1 = iv s 1) : SATX iv rv s x fo := by
  unfold SATX at hx ⊢
  rw [h1] at hx
  exact hx
theorem EP1.zero (hk : k = 0) (hz : z = 0) : EP1 iv rv h0 q w k z := fun sA _ E _ => by
  rw [hk, hz]
  rfl
theorem EP1.lck (hp : EP1 iv rv h0 q w k z) (hA : rv h0 9 = some sA) (hx : SATX iv rv sA (q + k) (some r)) (hn : iv r 2 ≠ 0) (hk : 0 ≤ k) (hz : iI x = iI z) : EP1 iv rv h0 q w (k + 1) x := fun sA' e E hE => by
  have g := hp sA' e E hE
  rw [hA] at e; cases e
  rw [show (k + 1).toNat = k.toNat + 1 by omega]
  refine ⟨_, g, Or.inl ⟨?_, hz⟩⟩
  rw [show q + ((k.toNat : Nat) : Int) = q + k by omega]
  exact hE.lck hx hn
theorem EP1.dts (hp : EP1 iv rv h0 q w k z) (hA : rv h0 9 = some sA) (hx : SATX iv rv sA (q + k) (some r)) (hn : iv r 2 = 0) (hw : iv r 1 ≤ w) (hk : 0 ≤ k) (hd : DTX iv rv r u) (hz : iI (z + u) = iI x) : EP1 iv rv h0 q w (k + 1) x := fun sA' e E hE => by
  have g := hp sA' e E hE
  rw [hA] at e; cases e
  obtain ⟨xs, e1, e2⟩ := hE.prs hx hn
  refine hv2 (e2.1) (show iI (z + u) = iI z + iI u from Int32.ofInt_add z u) (fun l1 ea => ?_)
  rw [show (k + 1).toNat = k.toNat + 1 by omega]
  refine ⟨_, g, Or.inr ⟨xs, ?_, by omega, ?_⟩⟩
  · rw [show q + ((k.toNat : Nat) : Int) = q + k by omega]
    exact e1
  · rw [← hz, ea, hd xs e2, bcs_add xs (iI z)]
theorem EPX.bad (hn : n < 0 ∨ 200 < n) (hf : f = -1) (h16 : iv2 h0 16 = iv h0 16) : EPX iv rv iv2 h0 q n w f := fun sA _ E _ => Or.inl ⟨hn, hf, by rw [h16]⟩
theorem EPX.ok (hp : EP1 iv rv h0 q w k z) (hk : k = n) (hn : 0 ≤ n ∧ n ≤ 200) (hf : f = z) (hc : iI (iv2 h0 16) = iI (iv h0 16) + iI k) : EPX iv rv iv2 h0 q n w f := fun sA e E hE => by
  have g := hp sA e E hE
  rw [hk, ← hf] at g
  rw [hk] at hc
  exact Or.inr ⟨hn, Or.inl ⟨g, hc⟩⟩
theorem EPX.nul (hp : EP1 iv rv h0 q w k z) (hA : rv h0 9 = some sA) (hk : 0 ≤ k ∧ k < n) (hn : n ≤ 200) (hc : iI (iv2 h0 16) = iI (iv h0 16) + iI (k + 1)) (hx : SATX iv rv sA (q + k) none) (hf : f = -1) : EPX iv rv iv2 h0 q n w f := fun sA' e E hE => by
  have g := hp sA' e E hE
  rw [hA] at e; cases e
  refine Or.inr ⟨⟨by omega, hn⟩, Or.inr ⟨k.toNat, iI z, by omega, g, Or.inl ⟨?_, hf⟩, by rw [hc, show ((k.toNat : Nat) : Int) = k by omega]⟩⟩
  rw [show q + ((k.toNat : Nat) : Int) = q + k by omega]
  exact hE.nul hx
theorem EPX.big (hp : EP1 iv rv h0 q w k z) (hA : rv h0 9 = some sA) (hk : 0 ≤ k ∧ k < n) (hn : n ≤ 200) (hc : iI (iv2 h0 16) = iI (iv h0 16) + iI (k + 1)) (hx : SATX iv rv sA (q + k) (some r)) (hl : iv r 2 = 0) (hw : w < iv r 1) (hf : f = z) : EPX iv rv iv2 h0 q n w f := fun sA' e E hE => by
  have g := hp sA' e E hE
  rw [hA] at e; cases e
  obtain ⟨xs, e1, e2⟩ := hE.prs hx hl
  have l1 := e2.1
  refine Or.inr ⟨⟨by omega, hn⟩, Or.inr ⟨k.toNat, iI z, by omega, g, Or.inr ⟨xs, ?_, by omega, by rw [hf]⟩, by rw [hc, show ((k.toNat : Nat) : Int) = k by omega]⟩⟩
  rw [show q + ((k.toNat : Nat) : Int) = q + k by omega]
  exact e1
end CROW
end
section
set_option maxHeartbeats 4000000 in
set_option maxRecDepth 100000 in
theorem G_present {l : Launch} {G : GT} {mi : Nat} {sk : Nat → Nat} {L : List Nat} {cl ln : Nat → Nat} {iv : Nat → Nat → Int} {rv : Nat → Nat → Option Nat}  {a0 : Nat} {i : Int} (hW : WT (g0 G) sk L cl ln iv rv) (hS : SKL sk L cl) (t_a0 : ty L cl a0 18) (h_i : -2147483648 ≤ i ∧ i ≤ 2147483647)  : Mc l G mi (Phi (g0 G) sk) PHM yX7_present cX7_present 3 (some (.object "DotPress$Line")) 1 [.ref a0, .int (iI i)] L cl ln iv rv 0 (fun v L2 cl2 ln2 iv2 rv2 => ∃ f : Option Nat, v = some ((va_rf f)) ∧ L = L2 ∧ cl = cl2 ∧ ln = ln2 ∧ iv = iv2 ∧ rv = rv2 ∧ (∀ b, f = some b → ty L2 cl2 b 19) ∧ (PRX iv rv a0 i f)) := by
  refine Mc.mk (by decide) (Nat.le_of_ble_eq_true rfl) ?_
  intro p e s m args below meth c A C hM
  refine hv3 (Phi.le hW hS) (show XT L cl ln L cl ln from XT.refl) (show fT [] L cl iv rv iv rv from fT.refl) (fun hph hX0 hF0 => ?_)
  refine c_aload_n (j := 0) (x := a0) C dX7_present_0 rfl ?_
  refine c_iload_n (j := 1) C dX7_present_1 rfl ?_
  refine d_callV (As := [.int (iI i)]) (rest := []) C hM (G_sat (a0 := a0) (i := i) hW hS t_a0 (by omega) ) dX7_present_2 kV_X7_24 rfl t_a0 rfl rfl (by decide) ck_8 rfl (Nat.le_of_ble_eq_true rfl) ⟨(Nat.le_of_ble_eq_true rfl), (Nat.le_of_ble_eq_true rfl)⟩ hph hph (show 0 + 0 = 0 from rfl) (by decide) (fun rh1 Lh1 clh1 lnh1 ivh1 rvh1 h1 => ?_)
  obtain ⟨f1, rfl, rfl, rfl, rfl, rfl, rfl, rgf1, exf1⟩ := h1
  refine c_st (st2 := [(va_rf f1)]) rfl ?_
  have gf1 : SATX iv rv a0 i f1 := exf1
  refine c_astorer_n (r := f1) (lv2 := [(2, (va_rf f1)), (0, .ref a0), (1, .int (iI i))]) C dX7_present_5 (by decide) rfl ?_
  refine c_aloadr_n (j := 0) (r := f1) C dX7_present_6 rfl ?_
  refine c_ifnull (r := f1) (tgt := 17) C dX7_present_7 (by decide) (fun oq1 => ?_) (fun ob1 oq1 => ?_)
  · subst oq1
    refine c_lv (lv2 := [(2, .null), (0, .ref a0), (1, .int (iI i))]) [0, 1, 2] rfl ?_
    refine c_st (st2 := []) rfl ?_
    refine c_null C dX7_present_17 ?_
    refine c_goto (tgt := 22) C dX7_present_18 (by decide) ?_
    exact c_aret (x := none) C dX7_present_22 rfl (Or.inl ⟨_, rfl⟩) (by decide) (rom0 hph hph (by decide)) ⟨none, rfl, rfl, rfl, rfl, rfl, rfl, (fun _ q => by cases q), (Or.inr ⟨rfl, Or.inl gf1⟩)⟩
  · subst oq1
    have tob1 := rgf1 ob1 rfl
    refine c_lv (lv2 := [(2, .ref ob1), (0, .ref a0), (1, .int (iI i))]) [0, 1, 2] rfl ?_
    refine c_st (st2 := []) rfl ?_
    refine c_aload_n (j := 0) (x := ob1) C dX7_present_10 rfl ?_
    have ri1 : 0 ≤ iv ob1 2 ∧ iv ob1 2 ≤ 1 := hW.int tob1 2
    refine c_get (k := 2) C ck_3 dX7_present_11 w4_55 (by decide) tob1 rfl rfl (by decide) rfl ?_
    refine c_if_eq (tgt := 21) C (r32_c (lo := 0) (hi := 1) ri1.1 ri1.2 (by decide) (by decide)) dX7_present_14 (by decide) (fun c1 => ?_) (fun c1 => ?_)
    · refine c_aload_n (j := 0) (x := ob1) C dX7_present_21 rfl ?_
      exact c_aret (x := some ob1) C dX7_present_22 rfl (Or.inl ⟨_, rfl⟩) (by decide) (rom0 hph hph (by decide)) ⟨(some ob1), rfl, rfl, rfl, rfl, rfl, rfl, (fun _ q => by cases q; exact tob1), (Or.inl ⟨_, rfl, gf1, by omega⟩)⟩
    · refine c_null C dX7_present_17 ?_
      refine c_goto (tgt := 22) C dX7_present_18 (by decide) ?_
      exact c_aret (x := none) C dX7_present_22 rfl (Or.inl ⟨_, rfl⟩) (by decide) (rom0 hph hph (by decide)) ⟨none, rfl, rfl, rfl, rfl, rfl, rfl, (fun _ q => by cases q), (Or.inr ⟨rfl, Or.inr ⟨_, gf1, by omega⟩⟩)⟩
set_option maxHeartbeats 4000000 in
set_option maxRecDepth 100000 in
theorem G_lose {l : Launch} {G : GT} {mi : Nat} {sk : Nat → Nat} {L : List Nat} {cl ln : Nat → Nat} {iv : Nat → Nat → Int} {rv : Nat → Nat → Option Nat}  {a0 : Nat} {i : Int} (hW : WT (g0 G) sk L cl ln iv rv) (hS : SKL sk L cl) (t_a0 : ty L cl a0 1) (h_i : -2147483648 ≤ i ∧ i ≤ 2147483647)  : Mc l G mi (Phi (g0 G) sk) PHM yX11_lose cX11_lose 3 (some .int) 1 [.ref a0, .int (iI i)] L cl ln iv rv 0 (fun v L2 cl2 ln2 iv2 rv2 => ∃ f : Int, v = some (.int (iI f)) ∧ L = L2 ∧ cl = cl2 ∧ ln = ln2 ∧ rv = rv2 ∧ fT [1, 19] L cl iv rv iv2 rv2 ∧ WT (g0 G) sk L2 cl2 ln2 iv2 rv2 ∧ (-2147483648 ≤ f ∧ f ≤ 2147483647) ∧ (True) ∧ iv2 a0 11 = iv a0 11 ∧ iv2 a0 12 = iv a0 12 ∧ iv2 a0 13 = iv a0 13 ∧ iv2 a0 14 = iv a0 14 ∧ iv2 a0 15 = iv a0 15 ∧ iv2 a0 16 = iv a0 16 ∧ (TCH iv rv iv2 a0 (fun E E2 => LOSX E i f E2))) := by
  refine Mc.mk (by decide) (Nat.le_of_ble_eq_true rfl) ?_
  intro p e s m args below meth c A C hM
  refine hv3 (Phi.le hW hS) (show XT L cl ln L cl ln from XT.refl) (show fT [1, 19] L cl iv rv iv rv from fT.refl) (fun hph hX0 hF0 => ?_)
  obtain ⟨sA, hsA, tsA⟩ := hW.ref t_a0 9 rfl rfl rfl
  have ri1 : 0 ≤ iv sA 1 ∧ iv sA 1 ≤ 200 := hW.int tsA 1
  refine c_aload_n (j := 0) (x := a0) C dX11_lose_0 rfl ?_
  refine c_getr (k := 9) C ck_12 dX11_lose_1 w2_53 (by decide) t_a0 rfl rfl (by decide) rfl hsA ?_
  refine c_st (st2 := [.ref sA]) rfl ?_
  refine c_iload_n (j := 1) C dX11_lose_4 rfl ?_
  refine d_callV (As := [.int (iI i)]) (rest := []) C hM (G_sat (a0 := sA) (i := i) hW hS tsA (by omega) ) dX11_lose_5 kV_X11_308 rfl tsA rfl rfl (by decide) ck_8 rfl (Nat.le_of_ble_eq_true rfl) ⟨(Nat.le_of_ble_eq_true rfl), (Nat.le_of_ble_eq_true rfl)⟩ hph hph (show 0 + 0 = 0 from rfl) (by decide) (fun rh1 Lh1 clh1 lnh1 ivh1 rvh1 h1 => ?_)
  obtain ⟨f1, rfl, rfl, rfl, rfl, rfl, rfl, rgf1, exf1⟩ := h1
  refine c_st (st2 := [(va_rf f1)]) rfl ?_
  have gf1 : SATX iv rv sA i f1 := exf1
  refine c_astorer_n (r := f1) (lv2 := [(2, (va_rf f1)), (0, .ref a0), (1, .int (iI i))]) C dX11_lose_8 (by decide) rfl ?_
  refine c_aloadr_n (j := 0) (r := f1) C dX11_lose_9 rfl ?_
  refine c_ifnonnull (r := f1) (tgt := 19) C dX11_lose_10 (by decide) (fun ob1 oq1 => ?_) (fun oq1 => ?_)
  · subst oq1
    have tob1 := rgf1 ob1 rfl
    refine c_lv (lv2 := [(2, .ref ob1), (0, .ref a0), (1, .int (iI i))]) [0, 1, 2] rfl ?_
    refine c_st (st2 := []) rfl ?_
    refine c_aload_n (j := 0) (x := ob1) C dX11_lose_19 rfl ?_
    refine c_iconst C dX11_lose_20 ?_
    refine c_put (z := 1) (k := 2) C ck_3 dX11_lose_21 w4_56 (by decide) rfl tob1 rfl rfl (by decide) rfl (by decide) (by decide) (fun iv1 pq1 => ?_)
    refine hv3 (hW.puti pq1 tob1 ⟨by decide, by decide⟩ rfl) (hF0.puti hX0 pq1 tob1 rfl) (show iv1 sA 1 = iv sA 1 from by rw [pq1]; exact up2_k (ne_ty tsA tob1 (by decide))) (fun W2 F1 ie1 => ?_)
    have ri2 : 0 ≤ iv1 sA 1 ∧ iv1 sA 1 ≤ 200 := W2.int tsA 1
    refine c_aload_n (j := 1) (x := a0) C dX11_lose_24 rfl ?_
    refine c_iconst C dX11_lose_25 ?_
    refine d_callV (As := [.int (iI 1)]) (rest := []) C hM (C_done (a0 := a0) (x := 1) W2 hS t_a0 ⟨by decide, by decide⟩ ) dX11_lose_26 kV_X11_109 rfl t_a0 rfl rfl (by decide) ck_12 rfl (Nat.le_of_ble_eq_true rfl) ⟨(Nat.le_of_ble_eq_true rfl), (Nat.le_of_ble_eq_true rfl)⟩ hph hph (show 0 + 0 = 0 from rfl) (by decide) (fun rh2 Lh2 clh2 lnh2 ivh2 rvh2 h2 => ?_)
    obtain ⟨f2, rfl, rfl, rfl, rfl, rfl, fl2, W3, rgf2, exf2, kp11f2, kp12f2, kp13f2, kp14f2, kp15f2, kp16f2⟩ := h2
    refine hv13 (show 1 ≤ iv1 a0 11 ∧ iv1 a0 11 ≤ 100 from W2.int t_a0 11) (show iv1 a0 11 = iv a0 11 from by rw [pq1]; exact up2_k (ne_ty t_a0 tob1 (by decide))) (show 1 ≤ iv1 a0 12 ∧ iv1 a0 12 ≤ 50 from W2.int t_a0 12) (show iv1 a0 12 = iv a0 12 from by rw [pq1]; exact up2_k (ne_ty t_a0 tob1 (by decide))) (show (-2147483648) ≤ iv1 a0 13 ∧ iv1 a0 13 ≤ 2147483647 from W2.int t_a0 13) (show iv1 a0 13 = iv a0 13 from by rw [pq1]; exact up2_k (ne_ty t_a0 tob1 (by decide))) (show (-2147483648) ≤ iv1 a0 14 ∧ iv1 a0 14 ≤ 2147483647 from W2.int t_a0 14) (show iv1 a0 14 = iv a0 14 from by rw [pq1]; exact up2_k (ne_ty t_a0 tob1 (by decide))) (show (-2147483648) ≤ iv1 a0 15 ∧ iv1 a0 15 ≤ 2147483647 from W2.int t_a0 15) (show iv1 a0 15 = iv a0 15 from by rw [pq1]; exact up2_k (ne_ty t_a0 tob1 (by decide))) (show (-2147483648) ≤ iv1 a0 16 ∧ iv1 a0 16 ≤ 2147483647 from W2.int t_a0 16) (show iv1 a0 16 = iv a0 16 from by rw [pq1]; exact up2_k (ne_ty t_a0 tob1 (by decide))) (F1.call hX0 fl2 rfl) (fun ri3 ie2 ri4 ie3 ri5 ie4 ri6 ie5 ri7 ie6 ri8 ie7 F2 => ?_)
    refine c_st (st2 := [.int (iI f2)]) rfl ?_
    refine hv15 (show ivh2 a0 11 = iv1 a0 11 from kp11f2) (show ivh2 a0 12 = iv1 a0 12 from kp12f2) (show ivh2 a0 13 = iv1 a0 13 from kp13f2) (show ivh2 a0 14 = iv1 a0 14 from kp14f2) (show ivh2 a0 15 = iv1 a0 15 from kp15f2) (show ivh2 a0 16 = iv1 a0 16 from kp16f2) (show f2 = (1 : Int) from exf2) (show 1 ≤ ivh2 a0 11 ∧ ivh2 a0 11 ≤ 100 from W3.int t_a0 11) (show 1 ≤ ivh2 a0 12 ∧ ivh2 a0 12 ≤ 50 from W3.int t_a0 12) (show (-2147483648) ≤ ivh2 a0 13 ∧ ivh2 a0 13 ≤ 2147483647 from W3.int t_a0 13) (show (-2147483648) ≤ ivh2 a0 14 ∧ ivh2 a0 14 ≤ 2147483647 from W3.int t_a0 14) (show (-2147483648) ≤ ivh2 a0 15 ∧ ivh2 a0 15 ≤ 2147483647 from W3.int t_a0 15) (show (-2147483648) ≤ ivh2 a0 16 ∧ ivh2 a0 16 ≤ 2147483647 from W3.int t_a0 16) (show 0 ≤ ivh2 sA 1 ∧ ivh2 sA 1 ≤ 200 from W3.int tsA 1) (show ivh2 sA 1 = iv1 sA 1 from fl2.i tsA rfl 1) (fun gk11f2 gk12f2 gk13f2 gk14f2 gk15f2 gk16f2 gf2 ri9 ri10 ri11 ri12 ri13 ri14 ri15 ie14 => ?_)
    exact c_iret C dX11_lose_29 rfl (by decide) (rom0 hph hph (by decide)) ⟨f2, rfl, rfl, rfl, rfl, rfl, F2, W3, ⟨by omega, by omega⟩, trivial, (gk11f2.trans ie2), (gk12f2.trans ie3), (gk13f2.trans ie4), (gk14f2.trans ie5), (gk15f2.trans ie6), (gk16f2.trans ie7), (TCH.row hsA hW tsA gf1 (LFR.refl.self tob1 pq1) (by omega) W2 fl2 rfl rfl rfl rfl (fun E hE => LSP.ok gf1 pq1 (by omega) hE))⟩
  · subst oq1
    refine c_lv (lv2 := [(2, .null), (0, .ref a0), (1, .int (iI i))]) [0, 1, 2] rfl ?_
    refine c_st (st2 := []) rfl ?_
    refine c_aload_n (j := 1) (x := a0) C dX11_lose_13 rfl ?_
    refine c_iconst C dX11_lose_14 ?_
    refine d_callV (As := [.int (iI 2)]) (rest := []) C hM (C_refuse (a0 := a0) (x := 2) hW hS t_a0 ⟨by decide, by decide⟩ ) dX11_lose_15 kV_X11_102 rfl t_a0 rfl rfl (by decide) ck_12 rfl (Nat.le_of_ble_eq_true rfl) ⟨(Nat.le_of_ble_eq_true rfl), (Nat.le_of_ble_eq_true rfl)⟩ hph hph (show 0 + 0 = 0 from rfl) (by decide) (fun rh3 Lh3 clh3 lnh3 ivh3 rvh3 h3 => ?_)
    obtain ⟨f3, rfl, rfl, rfl, rfl, rfl, fl3, W4, rgf3, exf3, kp11f3, kp12f3, kp13f3, kp14f3, kp15f3, kp16f3⟩ := h3
    refine hv7 (show 1 ≤ iv a0 11 ∧ iv a0 11 ≤ 100 from hW.int t_a0 11) (show 1 ≤ iv a0 12 ∧ iv a0 12 ≤ 50 from hW.int t_a0 12) (show (-2147483648) ≤ iv a0 13 ∧ iv a0 13 ≤ 2147483647 from hW.int t_a0 13) (show (-2147483648) ≤ iv a0 14 ∧ iv a0 14 ≤ 2147483647 from hW.int t_a0 14) (show (-2147483648) ≤ iv a0 15 ∧ iv a0 15 ≤ 2147483647 from hW.int t_a0 15) (show (-2147483648) ≤ iv a0 16 ∧ iv a0 16 ≤ 2147483647 from hW.int t_a0 16) (hF0.call hX0 fl3 rfl) (fun ri16 ri17 ri18 ri19 ri20 ri21 F3 => ?_)
    refine c_st (st2 := [.int (iI f3)]) rfl ?_
    refine hv13 (show ivh3 a0 11 = iv a0 11 from kp11f3) (show ivh3 a0 12 = iv a0 12 from kp12f3) (show ivh3 a0 13 = iv a0 13 from kp13f3) (show ivh3 a0 14 = iv a0 14 from kp14f3) (show ivh3 a0 15 = iv a0 15 from kp15f3) (show ivh3 a0 16 = iv a0 16 from kp16f3) (show f3 = -1 from exf3) (show 1 ≤ ivh3 a0 11 ∧ ivh3 a0 11 ≤ 100 from W4.int t_a0 11) (show 1 ≤ ivh3 a0 12 ∧ ivh3 a0 12 ≤ 50 from W4.int t_a0 12) (show (-2147483648) ≤ ivh3 a0 13 ∧ ivh3 a0 13 ≤ 2147483647 from W4.int t_a0 13) (show (-2147483648) ≤ ivh3 a0 14 ∧ ivh3 a0 14 ≤ 2147483647 from W4.int t_a0 14) (show (-2147483648) ≤ ivh3 a0 15 ∧ ivh3 a0 15 ≤ 2147483647 from W4.int t_a0 15) (show (-2147483648) ≤ ivh3 a0 16 ∧ ivh3 a0 16 ≤ 2147483647 from W4.int t_a0 16) (fun gk11f3 gk12f3 gk13f3 gk14f3 gk15f3 gk16f3 gf3 ri22 ri23 ri24 ri25 ri26 ri27 => ?_)
    exact c_iret C dX11_lose_18 rfl (by decide) (rom0 hph hph (by decide)) ⟨f3, rfl, rfl, rfl, rfl, rfl, F3, W4, ⟨by omega, by omega⟩, trivial, gk11f3, gk12f3, gk13f3, gk14f3, gk15f3, gk16f3, (TCH.same hsA hW tsA fl3 rfl rfl rfl rfl (fun E hE => LSP.no gf1 (by omega) hE))⟩
set_option maxHeartbeats 4000000 in
set_option maxRecDepth 100000 in
theorem G_resize {l : Launch} {G : GT} {mi : Nat} {sk : Nat → Nat} {L : List Nat} {cl ln : Nat → Nat} {iv : Nat → Nat → Int} {rv : Nat → Nat → Option Nat}  {a0 : Nat} {n : Int} (hW : WT (g0 G) sk L cl ln iv rv) (hS : SKL sk L cl) (t_a0 : ty L cl a0 19) (h_n : -2147483648 ≤ n ∧ n ≤ 2147483647) (hn : 0 ≤ n ∧ n ≤ 200) : Mc l G mi (Phi (g0 G) sk) PHM yX2_resize cX2_resize 3 none 1 [.ref a0, .int (iI n)] L cl ln iv rv 0 (fun v L2 cl2 ln2 iv2 rv2 => v = none ∧ L = L2 ∧ cl = cl2 ∧ ln = ln2 ∧ rv = rv2 ∧ fT [19, 64] L cl iv rv iv2 rv2 ∧ WT (g0 G) sk L2 cl2 ln2 iv2 rv2 ∧ ((LFR L cl iv rv iv2 a0 ∧ iv2 a0 2 = iv a0 2) ∧ RSK iv rv iv2 a0 n)) := by
  refine Mc.mk (by decide) (Nat.le_of_ble_eq_true rfl) ?_
  intro p e s m args below meth c A C hM
  refine hv5 (Phi.le hW hS) (show XT L cl ln L cl ln from XT.refl) (show fT [19, 64] L cl iv rv iv rv from fT.refl) (show 0 ≤ iv a0 1 ∧ iv a0 1 ≤ 200 from hW.int t_a0 1) (show 0 ≤ iv a0 2 ∧ iv a0 2 ≤ 1 from hW.int t_a0 2) (fun hph hX0 hF0 ri1 ri2 => ?_)
  refine c_aload_n (j := 0) (x := a0) C dX2_resize_0 rfl ?_
  refine c_aload_n (j := 0) (x := a0) C dX2_resize_1 rfl ?_
  refine c_get (k := 1) C ck_3 dX2_resize_2 w4_49 (by decide) t_a0 rfl rfl (by decide) rfl ?_
  refine c_iload_n (j := 1) C dX2_resize_5 rfl ?_
  obtain ⟨mn1, hmn1, emn1⟩ := mmin_c (x := iv a0 1) (y := n) (r32_c (lo := 0) (hi := 200) ri1.1 ri1.2 (by decide) (by decide)) ⟨by omega, by omega⟩
  refine c_mmin (w := iI mn1) C dX2_resize_6 w4_219 w2_129 w1_14 w2_130 (by decide) (rom0 hph hph (by decide)) (Nat.le_of_ble_eq_true rfl) emn1 ?_
  refine c_put (z := mn1) (k := 1) C ck_3 dX2_resize_9 w4_49 (by decide) rfl t_a0 rfl rfl (by decide) rfl (by rfl) (by rfl) (fun iv1 pq1 => ?_)
  refine hv2 (hW.puti pq1 t_a0 (show 0 ≤ mn1 ∧ mn1 ≤ 200 by omega) rfl) (hF0.puti hX0 pq1 t_a0 rfl) (fun W1 F1 => ?_)
  refine c_aload_n (j := 0) (x := a0) C dX2_resize_12 rfl ?_
  refine hv2 (show 0 ≤ iv1 a0 1 ∧ iv1 a0 1 ≤ 200 from W1.int t_a0 1) (show iv1 a0 1 = mn1 from by rw [pq1]; exact up2_s) (fun ri3 ie1 => ?_)
  refine c_get (k := 1) C ck_3 dX2_resize_13 w4_49 (by decide) t_a0 rfl rfl (by decide) rfl ?_
  refine c_istore_n (lv2 := [(2, .int (iI (iv1 a0 1))), (0, .ref a0), (1, .int (iI n))]) C dX2_resize_16 (by decide) rfl ?_
  have Lp1 : ∀ (nn : Nat) (k : Int) (ivb1 : Nat → Nat → Int) , 201 - k < (nn : Int) → WT (g0 G) sk L cl ln ivb1 rv → fT [19, 64] L cl iv rv ivb1 rv → (0 ≤ k ∧ k ≤ 200) → (k ≤ n ∧ (iv a0 1 ≤ k ∨ k = n)) → (LFR L cl iv rv ivb1 a0) → (ivb1 a0 2 = iv a0 2) → (RSK iv rv ivb1 a0 k) → cw p l e 1 ((PHM) + 0 - ((Phi (g0 G) sk) ln rv)) s m args below meth c G A 3 (MQ below (Qu G A (Qp G (Phi (g0 G) sk) ((Phi (g0 G) sk) ln rv) 0 (fun v L2 cl2 ln2 iv2 rv2 => v = none ∧ L = L2 ∧ cl = cl2 ∧ ln = ln2 ∧ rv = rv2 ∧ fT [19, 64] L cl iv rv iv2 rv2 ∧ WT (g0 G) sk L2 cl2 ln2 iv2 rv2 ∧ ((LFR L cl iv rv iv2 a0 ∧ iv2 a0 2 = iv a0 2) ∧ RSK iv rv iv2 a0 n)))) args s (((PHM) + 0 - ((Phi (g0 G) sk) ln rv)) / 16) ((PHM) + 0 - ((Phi (g0 G) sk) ln rv)) A) (Phi (g0 G) sk) ((Phi (g0 G) sk) ln rv) L cl ln ivb1 rv 0 17 [(2, .int (iI k)), (0, .ref a0), (1, .int (iI n))] [] := by
    intro nn
    induction nn with
    | zero =>
      intro  k ivb1 hm Wb1 Fb1  hk hkn hLF h2e hRS
      exact absurd hm (by omega)
    | succ nn ih1 =>
      intro  k ivb1 hm Wb1 Fb1  hk hkn hLF h2e hRS
      refine c_iload_n (j := 0) C dX2_resize_17 rfl ?_
      refine c_iload_n (j := 2) C dX2_resize_18 rfl ?_
      refine c_icmp_ge (tgt := 33) C (r32_c (lo := 0) (hi := 200) hk.1 hk.2 (by decide) (by decide)) ⟨by omega, by omega⟩ dX2_resize_19 (by decide) (fun c1 => ?_) (fun c1 => ?_)
      · have ri4 : 0 ≤ ivb1 a0 1 ∧ ivb1 a0 1 ≤ 200 := Wb1.int t_a0 1
        have ri5 : 0 ≤ ivb1 a0 2 ∧ ivb1 a0 2 ≤ 1 := Wb1.int t_a0 2
        exact c_vret C dX2_resize_33 rfl (by decide) (rom0 hph hph (by decide)) ⟨rfl, rfl, rfl, rfl, rfl, Fb1, Wb1, ⟨⟨hLF, by omega⟩, (by rw [show n = k by omega]; exact hRS)⟩⟩
      · refine c_aload_n (j := 1) (x := a0) C dX2_resize_22 rfl ?_
        refine c_iconst C dX2_resize_23 ?_
        refine hv2 (show 0 ≤ ivb1 a0 1 ∧ ivb1 a0 1 ≤ 200 from Wb1.int t_a0 1) (show 0 ≤ ivb1 a0 2 ∧ ivb1 a0 2 ≤ 1 from Wb1.int t_a0 2) (fun ri6 ri7 => ?_)
        refine d_callV (As := [.int (iI 0)]) (rest := []) C hM (G_ladd (a0 := a0) (x := 0) Wb1 hS t_a0 ⟨by decide, by decide⟩ ) dX2_resize_24 kV_X2_23 rfl t_a0 rfl rfl (by decide) ck_3 rfl (Nat.le_of_ble_eq_true rfl) ⟨(Nat.le_of_ble_eq_true rfl), (Nat.le_of_ble_eq_true rfl)⟩ hph hph (show 0 + 0 = 0 from rfl) (by decide) (fun rh1 Lh1 clh1 lnh1 ivh1 rvh1 h1 => ?_)
        obtain ⟨rfl, rfl, rfl, rfl, rfl, fl1, W2, exf1⟩ := h1
        have F2 := Fb1.call hX0 fl1 rfl
        refine c_st (st2 := []) rfl ?_
        refine hv3 (show 0 ≤ ivh1 a0 1 ∧ ivh1 a0 1 ≤ 200 from W2.int t_a0 1) (show 0 ≤ ivh1 a0 2 ∧ ivh1 a0 2 ≤ 1 from W2.int t_a0 2) (show ((ivh1 a0 1 = ivb1 a0 1 ∧ ivb1 a0 1 = 200) ∨ ivh1 a0 1 = ivb1 a0 1 + 1) ∧ (LFR L cl ivb1 rv ivh1 a0 ∧ ivh1 a0 2 = ivb1 a0 2) ∧ LAX ivb1 rv ivh1 a0 (0 : Int) from exf1) (fun ri8 ri9 gf1 => ?_)
        refine c_iinc (z := k) (j := 0) (lv2 := [(2, .int (iI (k + 1))), (0, .ref a0), (1, .int (iI n))]) C dX2_resize_27 rfl (by decide) rfl ?_
        refine c_goto (tgt := 17) C dX2_resize_30 (by decide) ?_
        refine c_lv (lv2 := [(2, .int (iI (k + 1))), (0, .ref a0), (1, .int (iI n))]) [0, 1, 2] rfl ?_
        exact ih1  (k + 1) _ (by omega) W2 F2  (by omega) (by omega) (hLF.trans gf1.2.1.1) (gf1.2.1.2.trans h2e) (hRS.step gf1.2.2 ⟨by omega, by omega, by omega⟩)
  refine hv2 (show 0 ≤ iv1 a0 2 ∧ iv1 a0 2 ≤ 1 from W1.int t_a0 2) (show iv1 a0 2 = iv a0 2 from by rw [pq1]; exact up2_j (by decide)) (fun ri10 ie8 => ?_)
  refine c_lv (lv2 := [(2, .int (iI (iv1 a0 1))), (0, .ref a0), (1, .int (iI n))]) [0, 1, 2] rfl ?_
  exact Lp1 203 (iv1 a0 1) _ (by omega) W1 F1  (by omega) (by omega) (LFR.refl.self t_a0 pq1) ie8 (by rw [show iv1 a0 1 = mn1 by omega]; exact RSK.init pq1 ⟨by omega, by omega⟩ (fun cb hc => ne_ty (li64 hW t_a0 hc) t_a0 (by decide)))
set_option maxHeartbeats 4000000 in
set_option maxRecDepth 100000 in
theorem G_cut {l : Launch} {G : GT} {mi : Nat} {sk : Nat → Nat} {L : List Nat} {cl ln : Nat → Nat} {iv : Nat → Nat → Int} {rv : Nat → Nat → Option Nat}  {a0 : Nat} {i : Int} {n : Int} (hW : WT (g0 G) sk L cl ln iv rv) (hS : SKL sk L cl) (t_a0 : ty L cl a0 1) (h_i : -2147483648 ≤ i ∧ i ≤ 2147483647) (h_n : -2147483648 ≤ n ∧ n ≤ 2147483647)  : Mc l G mi (Phi (g0 G) sk) PHM yX11_cut cX11_cut 4 (some .int) 2 [.ref a0, .int (iI i), .int (iI n)] L cl ln iv rv 0 (fun v L2 cl2 ln2 iv2 rv2 => ∃ f : Int, v = some (.int (iI f)) ∧ L = L2 ∧ cl = cl2 ∧ ln = ln2 ∧ rv = rv2 ∧ fT [1, 19, 64] L cl iv rv iv2 rv2 ∧ WT (g0 G) sk L2 cl2 ln2 iv2 rv2 ∧ (-2147483648 ≤ f ∧ f ≤ 2147483647) ∧ (True) ∧ iv2 a0 11 = iv a0 11 ∧ iv2 a0 12 = iv a0 12 ∧ iv2 a0 13 = iv a0 13 ∧ iv2 a0 14 = iv a0 14 ∧ iv2 a0 15 = iv a0 15 ∧ iv2 a0 16 = iv a0 16 ∧ (TCH iv rv iv2 a0 (fun E E2 => CUTX E i n f E2))) := by
  refine Mc.mk (by decide) (Nat.le_of_ble_eq_true rfl) ?_
  intro p e s m args below meth c A C hM
  refine hv3 (Phi.le hW hS) (show XT L cl ln L cl ln from XT.refl) (show fT [1, 19, 64] L cl iv rv iv rv from fT.refl) (fun hph hX0 hF0 => ?_)
  obtain ⟨sA, hsA, tsA⟩ := hW.ref t_a0 9 rfl rfl rfl
  have ri1 : 0 ≤ iv sA 1 ∧ iv sA 1 ≤ 200 := hW.int tsA 1
  refine c_iload_n (j := 2) C dX11_cut_0 rfl ?_
  refine c_sipush (z := 200) C dX11_cut_1 (by decide) ?_
  refine c_icmp_le (tgt := 14) C ⟨by omega, by omega⟩ ⟨by decide, by decide⟩ dX11_cut_4 (by decide) (fun c1 => ?_) (fun c1 => ?_)
  · refine c_iload_n (j := 2) C dX11_cut_14 rfl ?_
    refine c_if_ge (tgt := 24) C ⟨by omega, by omega⟩ dX11_cut_15 (by decide) (fun c2 => ?_) (fun c2 => ?_)
    · refine c_aload_n (j := 0) (x := a0) C dX11_cut_24 rfl ?_
      refine c_getr (k := 9) C ck_12 dX11_cut_25 w2_53 (by decide) t_a0 rfl rfl (by decide) rfl hsA ?_
      refine c_st (st2 := [.ref sA]) rfl ?_
      refine c_iload_n (j := 1) C dX11_cut_28 rfl ?_
      refine d_callV (As := [.int (iI i)]) (rest := []) C hM (G_present (a0 := sA) (i := i) hW hS tsA (by omega) ) dX11_cut_29 kV_X11_288 rfl tsA rfl rfl (by decide) ck_8 rfl (Nat.le_of_ble_eq_true rfl) ⟨(Nat.le_of_ble_eq_true rfl), (Nat.le_of_ble_eq_true rfl)⟩ hph hph (show 0 + 0 = 0 from rfl) (by decide) (fun rh1 Lh1 clh1 lnh1 ivh1 rvh1 h1 => ?_)
      obtain ⟨f1, rfl, rfl, rfl, rfl, rfl, rfl, rgf1, exf1⟩ := h1
      refine c_st (st2 := [(va_rf f1)]) rfl ?_
      have gf1 : PRX iv rv sA i f1 := exf1
      refine c_astorer_n (r := f1) (lv2 := [(3, (va_rf f1)), (0, .ref a0), (1, .int (iI i)), (2, .int (iI n))]) C dX11_cut_32 (by decide) rfl ?_
      refine c_aloadr_n (j := 0) (r := f1) C dX11_cut_33 rfl ?_
      refine c_ifnonnull (r := f1) (tgt := 50) C dX11_cut_34 (by decide) (fun ob1 oq1 => ?_) (fun oq1 => ?_)
      · subst oq1
        have tob1 := rgf1 ob1 rfl
        refine c_lv (lv2 := [(3, .ref ob1), (0, .ref a0), (1, .int (iI i)), (2, .int (iI n))]) [0, 1, 2, 3] rfl ?_
        refine c_st (st2 := []) rfl ?_
        refine c_aload_n (j := 0) (x := ob1) C dX11_cut_50 rfl ?_
        refine c_iload_n (j := 3) C dX11_cut_51 rfl ?_
        have ri2 : 0 ≤ iv ob1 2 ∧ iv ob1 2 ≤ 1 := hW.int tob1 2
        refine d_callV (As := [.int (iI n)]) (rest := []) C hM (G_resize (a0 := ob1) (n := n) hW hS tob1 (by omega) (by show 0 ≤ n ∧ n ≤ 200; omega)) dX11_cut_52 kV_X11_305 rfl tob1 rfl rfl (by decide) ck_3 rfl (Nat.le_of_ble_eq_true rfl) ⟨(Nat.le_of_ble_eq_true rfl), (Nat.le_of_ble_eq_true rfl)⟩ hph hph (show 0 + 0 = 0 from rfl) (by decide) (fun rh2 Lh2 clh2 lnh2 ivh2 rvh2 h2 => ?_)
        obtain ⟨rfl, rfl, rfl, rfl, rfl, fl2, W2, exf2⟩ := h2
        have F1 := hF0.call hX0 fl2 rfl
        refine c_st (st2 := []) rfl ?_
        refine hv4 (show 0 ≤ ivh2 ob1 2 ∧ ivh2 ob1 2 ≤ 1 from W2.int tob1 2) (show (LFR L cl iv rv ivh2 ob1 ∧ ivh2 ob1 2 = iv ob1 2) ∧ RSK iv rv ivh2 ob1 n from exf2) (show 0 ≤ ivh2 sA 1 ∧ ivh2 sA 1 ≤ 200 from W2.int tsA 1) (show ivh2 sA 1 = iv sA 1 from fl2.i tsA rfl 1) (fun ri3 gf2 ri4 ie2 => ?_)
        refine c_aload_n (j := 1) (x := a0) C dX11_cut_55 rfl ?_
        refine c_iload_n (j := 3) C dX11_cut_56 rfl ?_
        refine d_callV (As := [.int (iI n)]) (rest := []) C hM (C_done (a0 := a0) (x := n) W2 hS t_a0 (by omega) ) dX11_cut_57 kV_X11_109 rfl t_a0 rfl rfl (by decide) ck_12 rfl (Nat.le_of_ble_eq_true rfl) ⟨(Nat.le_of_ble_eq_true rfl), (Nat.le_of_ble_eq_true rfl)⟩ hph hph (show 0 + 0 = 0 from rfl) (by decide) (fun rh3 Lh3 clh3 lnh3 ivh3 rvh3 h3 => ?_)
        obtain ⟨f3, rfl, rfl, rfl, rfl, rfl, fl3, W3, rgf3, exf3, kp11f3, kp12f3, kp13f3, kp14f3, kp15f3, kp16f3⟩ := h3
        refine hv13 (show 1 ≤ ivh2 a0 11 ∧ ivh2 a0 11 ≤ 100 from W2.int t_a0 11) (show ivh2 a0 11 = iv a0 11 from fl2.i t_a0 rfl 11) (show 1 ≤ ivh2 a0 12 ∧ ivh2 a0 12 ≤ 50 from W2.int t_a0 12) (show ivh2 a0 12 = iv a0 12 from fl2.i t_a0 rfl 12) (show (-2147483648) ≤ ivh2 a0 13 ∧ ivh2 a0 13 ≤ 2147483647 from W2.int t_a0 13) (show ivh2 a0 13 = iv a0 13 from fl2.i t_a0 rfl 13) (show (-2147483648) ≤ ivh2 a0 14 ∧ ivh2 a0 14 ≤ 2147483647 from W2.int t_a0 14) (show ivh2 a0 14 = iv a0 14 from fl2.i t_a0 rfl 14) (show (-2147483648) ≤ ivh2 a0 15 ∧ ivh2 a0 15 ≤ 2147483647 from W2.int t_a0 15) (show ivh2 a0 15 = iv a0 15 from fl2.i t_a0 rfl 15) (show (-2147483648) ≤ ivh2 a0 16 ∧ ivh2 a0 16 ≤ 2147483647 from W2.int t_a0 16) (show ivh2 a0 16 = iv a0 16 from fl2.i t_a0 rfl 16) (F1.call hX0 fl3 rfl) (fun ri5 ie3 ri6 ie4 ri7 ie5 ri8 ie6 ri9 ie7 ri10 ie8 F2 => ?_)
        refine c_st (st2 := [.int (iI f3)]) rfl ?_
        refine hv13 (show ivh3 a0 11 = ivh2 a0 11 from kp11f3) (show ivh3 a0 12 = ivh2 a0 12 from kp12f3) (show ivh3 a0 13 = ivh2 a0 13 from kp13f3) (show ivh3 a0 14 = ivh2 a0 14 from kp14f3) (show ivh3 a0 15 = ivh2 a0 15 from kp15f3) (show ivh3 a0 16 = ivh2 a0 16 from kp16f3) (show f3 = n from exf3) (show 1 ≤ ivh3 a0 11 ∧ ivh3 a0 11 ≤ 100 from W3.int t_a0 11) (show 1 ≤ ivh3 a0 12 ∧ ivh3 a0 12 ≤ 50 from W3.int t_a0 12) (show (-2147483648) ≤ ivh3 a0 13 ∧ ivh3 a0 13 ≤ 2147483647 from W3.int t_a0 13) (show (-2147483648) ≤ ivh3 a0 14 ∧ ivh3 a0 14 ≤ 2147483647 from W3.int t_a0 14) (show (-2147483648) ≤ ivh3 a0 15 ∧ ivh3 a0 15 ≤ 2147483647 from W3.int t_a0 15) (show (-2147483648) ≤ ivh3 a0 16 ∧ ivh3 a0 16 ≤ 2147483647 from W3.int t_a0 16) (fun gk11f3 gk12f3 gk13f3 gk14f3 gk15f3 gk16f3 gf3 ri11 ri12 ri13 ri14 ri15 ri16 => ?_)
        exact c_iret C dX11_cut_60 rfl (by decide) (rom0 hph hph (by decide)) ⟨f3, rfl, rfl, rfl, rfl, rfl, F2, W3, ⟨by omega, by omega⟩, trivial, (gk11f3.trans ie3), (gk12f3.trans ie4), (gk13f3.trans ie5), (gk14f3.trans ie6), (gk15f3.trans ie7), (gk16f3.trans ie8), (TCH.row hsA hW tsA (PRX.smt gf1).1 gf2.1.1 (by omega) W2 fl3 rfl rfl rfl rfl (fun E hE => CTP.ok gf1 ⟨by omega, by omega⟩ gf2.2 gf2.1.2 (by omega) hE))⟩
      · subst oq1
        refine c_lv (lv2 := [(3, .null), (0, .ref a0), (1, .int (iI i)), (2, .int (iI n))]) [0, 1, 2, 3] rfl ?_
        refine c_st (st2 := []) rfl ?_
        refine c_aload_n (j := 1) (x := a0) C dX11_cut_37 rfl ?_
        refine c_aload_n (j := 1) (x := a0) C dX11_cut_38 rfl ?_
        refine c_getr (k := 9) C ck_12 dX11_cut_39 w2_53 (by decide) t_a0 rfl rfl (by decide) rfl hsA ?_
        refine c_st (st2 := [.ref sA, .ref a0]) rfl ?_
        refine c_iload_n (j := 2) C dX11_cut_42 rfl ?_
        refine d_callV (As := [.int (iI i)]) (rest := [.ref a0]) C hM (C_whyNone (a0 := sA) (i := i) hW hS tsA (by omega) ) dX11_cut_43 kV_X11_292 rfl tsA rfl rfl (by decide) ck_8 rfl (Nat.le_of_ble_eq_true rfl) ⟨(Nat.le_of_ble_eq_true rfl), (Nat.le_of_ble_eq_true rfl)⟩ hph hph (show 0 + 0 = 0 from rfl) (by decide) (fun rh4 Lh4 clh4 lnh4 ivh4 rvh4 h4 => ?_)
        obtain ⟨f4, rfl, rfl, rfl, rfl, rfl, rfl, rgf4, exf4⟩ := h4
        refine c_st (st2 := [.int (iI f4), .ref a0]) rfl ?_
        have gf4 : f4 = 1 ∨ f4 = 2 := exf4
        refine d_callV (As := [.int (iI f4)]) (rest := []) C hM (C_refuse (a0 := a0) (x := f4) hW hS t_a0 (by omega) ) dX11_cut_46 kV_X11_102 rfl t_a0 rfl rfl (by decide) ck_12 rfl (Nat.le_of_ble_eq_true rfl) ⟨(Nat.le_of_ble_eq_true rfl), (Nat.le_of_ble_eq_true rfl)⟩ hph hph (show 0 + 0 = 0 from rfl) (by decide) (fun rh5 Lh5 clh5 lnh5 ivh5 rvh5 h5 => ?_)
        obtain ⟨f5, rfl, rfl, rfl, rfl, rfl, fl5, W5, rgf5, exf5, kp11f5, kp12f5, kp13f5, kp14f5, kp15f5, kp16f5⟩ := h5
        refine hv7 (show 1 ≤ iv a0 11 ∧ iv a0 11 ≤ 100 from hW.int t_a0 11) (show 1 ≤ iv a0 12 ∧ iv a0 12 ≤ 50 from hW.int t_a0 12) (show (-2147483648) ≤ iv a0 13 ∧ iv a0 13 ≤ 2147483647 from hW.int t_a0 13) (show (-2147483648) ≤ iv a0 14 ∧ iv a0 14 ≤ 2147483647 from hW.int t_a0 14) (show (-2147483648) ≤ iv a0 15 ∧ iv a0 15 ≤ 2147483647 from hW.int t_a0 15) (show (-2147483648) ≤ iv a0 16 ∧ iv a0 16 ≤ 2147483647 from hW.int t_a0 16) (hF0.call hX0 fl5 rfl) (fun ri17 ri18 ri19 ri20 ri21 ri22 F3 => ?_)
        refine c_st (st2 := [.int (iI f5)]) rfl ?_
        refine hv13 (show ivh5 a0 11 = iv a0 11 from kp11f5) (show ivh5 a0 12 = iv a0 12 from kp12f5) (show ivh5 a0 13 = iv a0 13 from kp13f5) (show ivh5 a0 14 = iv a0 14 from kp14f5) (show ivh5 a0 15 = iv a0 15 from kp15f5) (show ivh5 a0 16 = iv a0 16 from kp16f5) (show f5 = -1 from exf5) (show 1 ≤ ivh5 a0 11 ∧ ivh5 a0 11 ≤ 100 from W5.int t_a0 11) (show 1 ≤ ivh5 a0 12 ∧ ivh5 a0 12 ≤ 50 from W5.int t_a0 12) (show (-2147483648) ≤ ivh5 a0 13 ∧ ivh5 a0 13 ≤ 2147483647 from W5.int t_a0 13) (show (-2147483648) ≤ ivh5 a0 14 ∧ ivh5 a0 14 ≤ 2147483647 from W5.int t_a0 14) (show (-2147483648) ≤ ivh5 a0 15 ∧ ivh5 a0 15 ≤ 2147483647 from W5.int t_a0 15) (show (-2147483648) ≤ ivh5 a0 16 ∧ ivh5 a0 16 ≤ 2147483647 from W5.int t_a0 16) (fun gk11f5 gk12f5 gk13f5 gk14f5 gk15f5 gk16f5 gf5 ri23 ri24 ri25 ri26 ri27 ri28 => ?_)
        exact c_iret C dX11_cut_49 rfl (by decide) (rom0 hph hph (by decide)) ⟨f5, rfl, rfl, rfl, rfl, rfl, F3, W5, ⟨by omega, by omega⟩, trivial, gk11f5, gk12f5, gk13f5, gk14f5, gk15f5, gk16f5, (TCH.same hsA hW tsA fl5 rfl rfl rfl rfl (fun E hE => CTP.no (Or.inr gf1) (by omega) hE))⟩
    · refine c_aload_n (j := 0) (x := a0) C dX11_cut_18 rfl ?_
      refine c_iconst C dX11_cut_19 ?_
      refine d_callV (As := [.int (iI 5)]) (rest := []) C hM (C_refuse (a0 := a0) (x := 5) hW hS t_a0 ⟨by decide, by decide⟩ ) dX11_cut_20 kV_X11_102 rfl t_a0 rfl rfl (by decide) ck_12 rfl (Nat.le_of_ble_eq_true rfl) ⟨(Nat.le_of_ble_eq_true rfl), (Nat.le_of_ble_eq_true rfl)⟩ hph hph (show 0 + 0 = 0 from rfl) (by decide) (fun rh6 Lh6 clh6 lnh6 ivh6 rvh6 h6 => ?_)
      obtain ⟨f6, rfl, rfl, rfl, rfl, rfl, fl6, W6, rgf6, exf6, kp11f6, kp12f6, kp13f6, kp14f6, kp15f6, kp16f6⟩ := h6
      refine hv7 (show 1 ≤ iv a0 11 ∧ iv a0 11 ≤ 100 from hW.int t_a0 11) (show 1 ≤ iv a0 12 ∧ iv a0 12 ≤ 50 from hW.int t_a0 12) (show (-2147483648) ≤ iv a0 13 ∧ iv a0 13 ≤ 2147483647 from hW.int t_a0 13) (show (-2147483648) ≤ iv a0 14 ∧ iv a0 14 ≤ 2147483647 from hW.int t_a0 14) (show (-2147483648) ≤ iv a0 15 ∧ iv a0 15 ≤ 2147483647 from hW.int t_a0 15) (show (-2147483648) ≤ iv a0 16 ∧ iv a0 16 ≤ 2147483647 from hW.int t_a0 16) (hF0.call hX0 fl6 rfl) (fun ri29 ri30 ri31 ri32 ri33 ri34 F4 => ?_)
      refine c_st (st2 := [.int (iI f6)]) rfl ?_
      refine hv13 (show ivh6 a0 11 = iv a0 11 from kp11f6) (show ivh6 a0 12 = iv a0 12 from kp12f6) (show ivh6 a0 13 = iv a0 13 from kp13f6) (show ivh6 a0 14 = iv a0 14 from kp14f6) (show ivh6 a0 15 = iv a0 15 from kp15f6) (show ivh6 a0 16 = iv a0 16 from kp16f6) (show f6 = -1 from exf6) (show 1 ≤ ivh6 a0 11 ∧ ivh6 a0 11 ≤ 100 from W6.int t_a0 11) (show 1 ≤ ivh6 a0 12 ∧ ivh6 a0 12 ≤ 50 from W6.int t_a0 12) (show (-2147483648) ≤ ivh6 a0 13 ∧ ivh6 a0 13 ≤ 2147483647 from W6.int t_a0 13) (show (-2147483648) ≤ ivh6 a0 14 ∧ ivh6 a0 14 ≤ 2147483647 from W6.int t_a0 14) (show (-2147483648) ≤ ivh6 a0 15 ∧ ivh6 a0 15 ≤ 2147483647 from W6.int t_a0 15) (show (-2147483648) ≤ ivh6 a0 16 ∧ ivh6 a0 16 ≤ 2147483647 from W6.int t_a0 16) (fun gk11f6 gk12f6 gk13f6 gk14f6 gk15f6 gk16f6 gf6 ri35 ri36 ri37 ri38 ri39 ri40 => ?_)
      exact c_iret C dX11_cut_23 rfl (by decide) (rom0 hph hph (by decide)) ⟨f6, rfl, rfl, rfl, rfl, rfl, F4, W6, ⟨by omega, by omega⟩, trivial, gk11f6, gk12f6, gk13f6, gk14f6, gk15f6, gk16f6, (TCH.same hsA hW tsA fl6 rfl rfl rfl rfl (fun E hE => CTP.no (Or.inl (by omega)) (by omega) hE))⟩
  · refine c_aload_n (j := 0) (x := a0) C dX11_cut_7 rfl ?_
    refine c_bipush (z := 6) C dX11_cut_8 (by decide) ?_
    refine d_callV (As := [.int (iI 6)]) (rest := []) C hM (C_refuse (a0 := a0) (x := 6) hW hS t_a0 ⟨by decide, by decide⟩ ) dX11_cut_10 kV_X11_102 rfl t_a0 rfl rfl (by decide) ck_12 rfl (Nat.le_of_ble_eq_true rfl) ⟨(Nat.le_of_ble_eq_true rfl), (Nat.le_of_ble_eq_true rfl)⟩ hph hph (show 0 + 0 = 0 from rfl) (by decide) (fun rh7 Lh7 clh7 lnh7 ivh7 rvh7 h7 => ?_)
    obtain ⟨f7, rfl, rfl, rfl, rfl, rfl, fl7, W7, rgf7, exf7, kp11f7, kp12f7, kp13f7, kp14f7, kp15f7, kp16f7⟩ := h7
    refine hv7 (show 1 ≤ iv a0 11 ∧ iv a0 11 ≤ 100 from hW.int t_a0 11) (show 1 ≤ iv a0 12 ∧ iv a0 12 ≤ 50 from hW.int t_a0 12) (show (-2147483648) ≤ iv a0 13 ∧ iv a0 13 ≤ 2147483647 from hW.int t_a0 13) (show (-2147483648) ≤ iv a0 14 ∧ iv a0 14 ≤ 2147483647 from hW.int t_a0 14) (show (-2147483648) ≤ iv a0 15 ∧ iv a0 15 ≤ 2147483647 from hW.int t_a0 15) (show (-2147483648) ≤ iv a0 16 ∧ iv a0 16 ≤ 2147483647 from hW.int t_a0 16) (hF0.call hX0 fl7 rfl) (fun ri41 ri42 ri43 ri44 ri45 ri46 F5 => ?_)
    refine c_st (st2 := [.int (iI f7)]) rfl ?_
    refine hv13 (show ivh7 a0 11 = iv a0 11 from kp11f7) (show ivh7 a0 12 = iv a0 12 from kp12f7) (show ivh7 a0 13 = iv a0 13 from kp13f7) (show ivh7 a0 14 = iv a0 14 from kp14f7) (show ivh7 a0 15 = iv a0 15 from kp15f7) (show ivh7 a0 16 = iv a0 16 from kp16f7) (show f7 = -1 from exf7) (show 1 ≤ ivh7 a0 11 ∧ ivh7 a0 11 ≤ 100 from W7.int t_a0 11) (show 1 ≤ ivh7 a0 12 ∧ ivh7 a0 12 ≤ 50 from W7.int t_a0 12) (show (-2147483648) ≤ ivh7 a0 13 ∧ ivh7 a0 13 ≤ 2147483647 from W7.int t_a0 13) (show (-2147483648) ≤ ivh7 a0 14 ∧ ivh7 a0 14 ≤ 2147483647 from W7.int t_a0 14) (show (-2147483648) ≤ ivh7 a0 15 ∧ ivh7 a0 15 ≤ 2147483647 from W7.int t_a0 15) (show (-2147483648) ≤ ivh7 a0 16 ∧ ivh7 a0 16 ≤ 2147483647 from W7.int t_a0 16) (fun gk11f7 gk12f7 gk13f7 gk14f7 gk15f7 gk16f7 gf7 ri47 ri48 ri49 ri50 ri51 ri52 => ?_)
    exact c_iret C dX11_cut_13 rfl (by decide) (rom0 hph hph (by decide)) ⟨f7, rfl, rfl, rfl, rfl, rfl, F5, W7, ⟨by omega, by omega⟩, trivial, gk11f7, gk12f7, gk13f7, gk14f7, gk15f7, gk16f7, (TCH.same hsA hW tsA fl7 rfl rfl rfl rfl (fun E hE => CTP.no (Or.inl (by omega)) (by omega) hE))⟩
set_option maxHeartbeats 4000000 in
set_option maxRecDepth 100000 in
theorem G_hasCells {l : Launch} {G : GT} {mi : Nat} {sk : Nat → Nat} {L : List Nat} {cl ln : Nat → Nat} {iv : Nat → Nat → Int} {rv : Nat → Nat → Option Nat}  {a0 : Nat} {i : Int} {n : Int} (hW : WT (g0 G) sk L cl ln iv rv) (hS : SKL sk L cl) (t_a0 : ty L cl a0 19) (h_i : -2147483648 ≤ i ∧ i ≤ 2147483647) (h_n : -2147483648 ≤ n ∧ n ≤ 2147483647)  : Mc l G mi (Phi (g0 G) sk) PHM yX2_hasCells cX2_hasCells 3 (some .boolean) 0 [.ref a0, .int (iI i), .int (iI n)] L cl ln iv rv 0 (fun v L2 cl2 ln2 iv2 rv2 => ∃ f : Int, v = some (.int (iI f)) ∧ L = L2 ∧ cl = cl2 ∧ ln = ln2 ∧ iv = iv2 ∧ rv = rv2 ∧ (f = 0 ∨ f = 1) ∧ ((f = 1 ∧ 0 ≤ n ∧ 0 ≤ i ∧ i + n ≤ iv a0 1) ∨ (f = 0 ∧ ¬ (0 ≤ n ∧ 0 ≤ i ∧ i + n ≤ iv a0 1)))) := by
  refine Mc.mk (by decide) (Nat.le_of_ble_eq_true rfl) ?_
  intro p e s m args below meth c A C hM
  refine hv3 (Phi.le hW hS) (show XT L cl ln L cl ln from XT.refl) (show fT [] L cl iv rv iv rv from fT.refl) (fun hph hX0 hF0 => ?_)
  refine c_iload_n (j := 2) C dX2_hasCells_0 rfl ?_
  refine c_if_lt (tgt := 30) C ⟨by omega, by omega⟩ dX2_hasCells_1 (by decide) (fun c1 => ?_) (fun c1 => ?_)
  · refine c_iconst C dX2_hasCells_30 ?_
    have ri1 : 0 ≤ iv a0 1 ∧ iv a0 1 ≤ 200 := hW.int t_a0 1
    exact c_zret C dX2_hasCells_31 rfl (Or.inl rfl) (by decide) (rom0 hph hph (by decide)) ⟨0, rfl, rfl, rfl, rfl, rfl, rfl, (Or.inl rfl), (by omega)⟩
  · refine c_iload_n (j := 1) C dX2_hasCells_4 rfl ?_
    refine c_if_lt (tgt := 30) C ⟨by omega, by omega⟩ dX2_hasCells_5 (by decide) (fun c2 => ?_) (fun c2 => ?_)
    · refine c_iconst C dX2_hasCells_30 ?_
      have ri2 : 0 ≤ iv a0 1 ∧ iv a0 1 ≤ 200 := hW.int t_a0 1
      exact c_zret C dX2_hasCells_31 rfl (Or.inl rfl) (by decide) (rom0 hph hph (by decide)) ⟨0, rfl, rfl, rfl, rfl, rfl, rfl, (Or.inl rfl), (by omega)⟩
    · refine c_iload_n (j := 1) C dX2_hasCells_8 rfl ?_
      refine c_aload_n (j := 0) (x := a0) C dX2_hasCells_9 rfl ?_
      have ri3 : 0 ≤ iv a0 1 ∧ iv a0 1 ≤ 200 := hW.int t_a0 1
      refine c_get (k := 1) C ck_3 dX2_hasCells_10 w4_49 (by decide) t_a0 rfl rfl (by decide) rfl ?_
      refine c_icmp_gt (tgt := 30) C ⟨by omega, by omega⟩ (r32_c (lo := 0) (hi := 200) ri3.1 ri3.2 (by decide) (by decide)) dX2_hasCells_13 (by decide) (fun c3 => ?_) (fun c3 => ?_)
      · refine c_iconst C dX2_hasCells_30 ?_
        exact c_zret C dX2_hasCells_31 rfl (Or.inl rfl) (by decide) (rom0 hph hph (by decide)) ⟨0, rfl, rfl, rfl, rfl, rfl, rfl, (Or.inl rfl), (by omega)⟩
      · refine c_iload_n (j := 2) C dX2_hasCells_16 rfl ?_
        refine c_aload_n (j := 0) (x := a0) C dX2_hasCells_17 rfl ?_
        refine c_get (k := 1) C ck_3 dX2_hasCells_18 w4_49 (by decide) t_a0 rfl rfl (by decide) rfl ?_
        refine c_iload_n (j := 1) C dX2_hasCells_21 rfl ?_
        refine c_isub C dX2_hasCells_22 ?_
        refine c_icmp_gt (tgt := 30) C ⟨by omega, by omega⟩ ⟨by omega, by omega⟩ dX2_hasCells_23 (by decide) (fun c4 => ?_) (fun c4 => ?_)
        · refine c_iconst C dX2_hasCells_30 ?_
          exact c_zret C dX2_hasCells_31 rfl (Or.inl rfl) (by decide) (rom0 hph hph (by decide)) ⟨0, rfl, rfl, rfl, rfl, rfl, rfl, (Or.inl rfl), (by omega)⟩
        · refine c_iconst C dX2_hasCells_26 ?_
          refine c_goto (tgt := 31) C dX2_hasCells_27 (by decide) ?_
          exact c_zret C dX2_hasCells_31 rfl (Or.inr rfl) (by decide) (rom0 hph hph (by decide)) ⟨1, rfl, rfl, rfl, rfl, rfl, rfl, (Or.inr rfl), (by omega)⟩
set_option maxHeartbeats 4000000 in
set_option maxRecDepth 100000 in
theorem G_copyRow {l : Launch} {G : GT} {mi : Nat} {sk : Nat → Nat} {L : List Nat} {cl ln : Nat → Nat} {iv : Nat → Nat → Int} {rv : Nat → Nat → Option Nat}  {a0 : Nat} {i : Int} {i2 : Int} {j : Int} {j2 : Int} {n : Int} (hW : WT (g0 G) sk L cl ln iv rv) (hS : SKL sk L cl) (t_a0 : ty L cl a0 1) (h_i : -2147483648 ≤ i ∧ i ≤ 2147483647) (h_i2 : -2147483648 ≤ i2 ∧ i2 ≤ 2147483647) (h_j : -2147483648 ≤ j ∧ j ≤ 2147483647) (h_j2 : -2147483648 ≤ j2 ∧ j2 ≤ 2147483647) (h_n : -2147483648 ≤ n ∧ n ≤ 2147483647)  : Mc l G mi (Phi (g0 G) sk) PHM yX11_copyRow cX11_copyRow 8 (some .int) 1 [.ref a0, .int (iI i), .int (iI i2), .int (iI j), .int (iI j2), .int (iI n)] L cl ln iv rv 0 (fun v L2 cl2 ln2 iv2 rv2 => ∃ f : Int, v = some (.int (iI f)) ∧ L = L2 ∧ cl = cl2 ∧ ln = ln2 ∧ rv = rv2 ∧ fT [1, 64] L cl iv rv iv2 rv2 ∧ WT (g0 G) sk L2 cl2 ln2 iv2 rv2 ∧ (-2147483648 ≤ f ∧ f ≤ 2147483647) ∧ (True) ∧ iv2 a0 11 = iv a0 11 ∧ iv2 a0 12 = iv a0 12 ∧ iv2 a0 13 = iv a0 13 ∧ iv2 a0 14 = iv a0 14 ∧ iv2 a0 15 = iv a0 15 ∧ iv2 a0 16 = iv a0 16 ∧ (TCH iv rv iv2 a0 (fun E E2 => CPRX E i i2 j j2 n f E2))) := by
  refine Mc.mk (by decide) (Nat.le_of_ble_eq_true rfl) ?_
  intro p e s m args below meth c A C hM
  refine hv3 (Phi.le hW hS) (show XT L cl ln L cl ln from XT.refl) (show fT [1, 64] L cl iv rv iv rv from fT.refl) (fun hph hX0 hF0 => ?_)
  obtain ⟨sA, hsA, tsA⟩ := hW.ref t_a0 9 rfl rfl rfl
  have ri1 : 0 ≤ iv sA 1 ∧ iv sA 1 ≤ 200 := hW.int tsA 1
  refine c_aload_n (j := 0) (x := a0) C dX11_copyRow_0 rfl ?_
  refine c_getr (k := 9) C ck_12 dX11_copyRow_1 w2_53 (by decide) t_a0 rfl rfl (by decide) rfl hsA ?_
  refine c_st (st2 := [.ref sA]) rfl ?_
  refine c_iload_n (j := 1) C dX11_copyRow_4 rfl ?_
  refine d_callV (As := [.int (iI i)]) (rest := []) C hM (G_sat (a0 := sA) (i := i) hW hS tsA (by omega) ) dX11_copyRow_5 kV_X11_308 rfl tsA rfl rfl (by decide) ck_8 rfl (Nat.le_of_ble_eq_true rfl) ⟨(Nat.le_of_ble_eq_true rfl), (Nat.le_of_ble_eq_true rfl)⟩ hph hph (show 0 + 0 = 0 from rfl) (by decide) (fun rh1 Lh1 clh1 lnh1 ivh1 rvh1 h1 => ?_)
  obtain ⟨f1, rfl, rfl, rfl, rfl, rfl, rfl, rgf1, exf1⟩ := h1
  refine c_st (st2 := [(va_rf f1)]) rfl ?_
  have gf1 : SATX iv rv sA i f1 := exf1
  refine c_astorer (r := f1) (lv2 := [(6, (va_rf f1)), (0, .ref a0), (1, .int (iI i)), (2, .int (iI i2)), (3, .int (iI j)), (4, .int (iI j2)), (5, .int (iI n))]) C dX11_copyRow_8 (by decide) rfl ?_
  refine c_aload_n (j := 1) (x := a0) C dX11_copyRow_10 rfl ?_
  refine c_getr (k := 9) C ck_12 dX11_copyRow_11 w2_53 (by decide) t_a0 rfl rfl (by decide) rfl hsA ?_
  refine c_st (st2 := [.ref sA]) rfl ?_
  refine c_iload_n (j := 4) C dX11_copyRow_14 rfl ?_
  refine d_callV (As := [.int (iI j)]) (rest := []) C hM (G_sat (a0 := sA) (i := j) hW hS tsA (by omega) ) dX11_copyRow_15 kV_X11_308 rfl tsA rfl rfl (by decide) ck_8 rfl (Nat.le_of_ble_eq_true rfl) ⟨(Nat.le_of_ble_eq_true rfl), (Nat.le_of_ble_eq_true rfl)⟩ hph hph (show 0 + 0 = 0 from rfl) (by decide) (fun rh2 Lh2 clh2 lnh2 ivh2 rvh2 h2 => ?_)
  obtain ⟨f2, rfl, rfl, rfl, rfl, rfl, rfl, rgf2, exf2⟩ := h2
  refine c_st (st2 := [(va_rf f2)]) rfl ?_
  have gf2 : SATX iv rv sA j f2 := exf2
  refine c_astorer (r := f2) (lv2 := [(7, (va_rf f2)), (6, (va_rf f1)), (0, .ref a0), (1, .int (iI i)), (2, .int (iI i2)), (3, .int (iI j)), (4, .int (iI j2)), (5, .int (iI n))]) C dX11_copyRow_18 (by decide) (by cases f1 <;> rfl) ?_
  refine c_aloadr (j := 1) (r := f1) C dX11_copyRow_20 rfl ?_
  refine c_ifnull (r := f1) (tgt := 30) C dX11_copyRow_22 (by decide) (fun oq1 => ?_) (fun ob1 oq1 => ?_)
  · subst oq1
    refine c_lv (lv2 := [(7, (va_rf f2)), (6, .null), (0, .ref a0), (1, .int (iI i)), (2, .int (iI i2)), (3, .int (iI j)), (4, .int (iI j2)), (5, .int (iI n))]) [0, 1, 2, 3, 4, 5, 6, 7] rfl ?_
    refine c_st (st2 := []) rfl ?_
    refine c_aload_n (j := 2) (x := a0) C dX11_copyRow_30 rfl ?_
    refine c_iconst C dX11_copyRow_31 ?_
    refine d_callV (As := [.int (iI 2)]) (rest := []) C hM (C_refuse (a0 := a0) (x := 2) hW hS t_a0 ⟨by decide, by decide⟩ ) dX11_copyRow_32 kV_X11_102 rfl t_a0 rfl rfl (by decide) ck_12 rfl (Nat.le_of_ble_eq_true rfl) ⟨(Nat.le_of_ble_eq_true rfl), (Nat.le_of_ble_eq_true rfl)⟩ hph hph (show 0 + 0 = 0 from rfl) (by decide) (fun rh3 Lh3 clh3 lnh3 ivh3 rvh3 h3 => ?_)
    obtain ⟨f3, rfl, rfl, rfl, rfl, rfl, fl3, W3, rgf3, exf3, kp11f3, kp12f3, kp13f3, kp14f3, kp15f3, kp16f3⟩ := h3
    refine hv7 (show 1 ≤ iv a0 11 ∧ iv a0 11 ≤ 100 from hW.int t_a0 11) (show 1 ≤ iv a0 12 ∧ iv a0 12 ≤ 50 from hW.int t_a0 12) (show (-2147483648) ≤ iv a0 13 ∧ iv a0 13 ≤ 2147483647 from hW.int t_a0 13) (show (-2147483648) ≤ iv a0 14 ∧ iv a0 14 ≤ 2147483647 from hW.int t_a0 14) (show (-2147483648) ≤ iv a0 15 ∧ iv a0 15 ≤ 2147483647 from hW.int t_a0 15) (show (-2147483648) ≤ iv a0 16 ∧ iv a0 16 ≤ 2147483647 from hW.int t_a0 16) (hF0.call hX0 fl3 rfl) (fun ri2 ri3 ri4 ri5 ri6 ri7 F1 => ?_)
    refine c_st (st2 := [.int (iI f3)]) rfl ?_
    refine hv13 (show ivh3 a0 11 = iv a0 11 from kp11f3) (show ivh3 a0 12 = iv a0 12 from kp12f3) (show ivh3 a0 13 = iv a0 13 from kp13f3) (show ivh3 a0 14 = iv a0 14 from kp14f3) (show ivh3 a0 15 = iv a0 15 from kp15f3) (show ivh3 a0 16 = iv a0 16 from kp16f3) (show f3 = -1 from exf3) (show 1 ≤ ivh3 a0 11 ∧ ivh3 a0 11 ≤ 100 from W3.int t_a0 11) (show 1 ≤ ivh3 a0 12 ∧ ivh3 a0 12 ≤ 50 from W3.int t_a0 12) (show (-2147483648) ≤ ivh3 a0 13 ∧ ivh3 a0 13 ≤ 2147483647 from W3.int t_a0 13) (show (-2147483648) ≤ ivh3 a0 14 ∧ ivh3 a0 14 ≤ 2147483647 from W3.int t_a0 14) (show (-2147483648) ≤ ivh3 a0 15 ∧ ivh3 a0 15 ≤ 2147483647 from W3.int t_a0 15) (show (-2147483648) ≤ ivh3 a0 16 ∧ ivh3 a0 16 ≤ 2147483647 from W3.int t_a0 16) (fun gk11f3 gk12f3 gk13f3 gk14f3 gk15f3 gk16f3 gf3 ri8 ri9 ri10 ri11 ri12 ri13 => ?_)
    exact c_iret C dX11_copyRow_35 rfl (by decide) (rom0 hph hph (by decide)) ⟨f3, rfl, rfl, rfl, rfl, rfl, F1, W3, ⟨by omega, by omega⟩, trivial, gk11f3, gk12f3, gk13f3, gk14f3, gk15f3, gk16f3, (TCH.same hsA hW tsA fl3 rfl rfl rfl rfl (fun E hE => CRP.no (Or.inl gf1) (by omega) hE))⟩
  · subst oq1
    have tob1 := rgf1 ob1 rfl
    refine c_lv (lv2 := [(7, (va_rf f2)), (6, .ref ob1), (0, .ref a0), (1, .int (iI i)), (2, .int (iI i2)), (3, .int (iI j)), (4, .int (iI j2)), (5, .int (iI n))]) [0, 1, 2, 3, 4, 5, 6, 7] rfl ?_
    refine c_st (st2 := []) rfl ?_
    refine c_aloadr (j := 0) (r := f2) C dX11_copyRow_25 rfl ?_
    refine c_ifnonnull (r := f2) (tgt := 36) C dX11_copyRow_27 (by decide) (fun ob2 oq2 => ?_) (fun oq2 => ?_)
    · subst oq2
      have tob2 := rgf2 ob2 rfl
      refine c_lv (lv2 := [(7, .ref ob2), (6, .ref ob1), (0, .ref a0), (1, .int (iI i)), (2, .int (iI i2)), (3, .int (iI j)), (4, .int (iI j2)), (5, .int (iI n))]) [0, 1, 2, 3, 4, 5, 6, 7] rfl ?_
      refine c_st (st2 := []) rfl ?_
      refine hv4 (show 0 ≤ iv ob1 1 ∧ iv ob1 1 ≤ 200 from hW.int tob1 1) (show 0 ≤ iv ob1 2 ∧ iv ob1 2 ≤ 1 from hW.int tob1 2) (show 0 ≤ iv ob2 1 ∧ iv ob2 1 ≤ 200 from hW.int tob2 1) (show 0 ≤ iv ob2 2 ∧ iv ob2 2 ≤ 1 from hW.int tob2 2) (fun ri14 ri15 ri16 ri17 => ?_)
      refine c_aload (j := 1) (x := ob1) C dX11_copyRow_36 rfl ?_
      refine c_get (k := 2) C ck_3 dX11_copyRow_38 w4_56 (by decide) tob1 rfl rfl (by decide) rfl ?_
      refine c_if_ne (tgt := 52) C (r32_c (lo := 0) (hi := 1) ri15.1 ri15.2 (by decide) (by decide)) dX11_copyRow_41 (by decide) (fun c1 => ?_) (fun c1 => ?_)
      · refine c_aload_n (j := 2) (x := a0) C dX11_copyRow_52 rfl ?_
        refine c_iconst C dX11_copyRow_53 ?_
        refine d_callV (As := [.int (iI 1)]) (rest := []) C hM (C_refuse (a0 := a0) (x := 1) hW hS t_a0 ⟨by decide, by decide⟩ ) dX11_copyRow_54 kV_X11_102 rfl t_a0 rfl rfl (by decide) ck_12 rfl (Nat.le_of_ble_eq_true rfl) ⟨(Nat.le_of_ble_eq_true rfl), (Nat.le_of_ble_eq_true rfl)⟩ hph hph (show 0 + 0 = 0 from rfl) (by decide) (fun rh4 Lh4 clh4 lnh4 ivh4 rvh4 h4 => ?_)
        obtain ⟨f4, rfl, rfl, rfl, rfl, rfl, fl4, W4, rgf4, exf4, kp11f4, kp12f4, kp13f4, kp14f4, kp15f4, kp16f4⟩ := h4
        refine hv7 (show 1 ≤ iv a0 11 ∧ iv a0 11 ≤ 100 from hW.int t_a0 11) (show 1 ≤ iv a0 12 ∧ iv a0 12 ≤ 50 from hW.int t_a0 12) (show (-2147483648) ≤ iv a0 13 ∧ iv a0 13 ≤ 2147483647 from hW.int t_a0 13) (show (-2147483648) ≤ iv a0 14 ∧ iv a0 14 ≤ 2147483647 from hW.int t_a0 14) (show (-2147483648) ≤ iv a0 15 ∧ iv a0 15 ≤ 2147483647 from hW.int t_a0 15) (show (-2147483648) ≤ iv a0 16 ∧ iv a0 16 ≤ 2147483647 from hW.int t_a0 16) (hF0.call hX0 fl4 rfl) (fun ri18 ri19 ri20 ri21 ri22 ri23 F2 => ?_)
        refine c_st (st2 := [.int (iI f4)]) rfl ?_
        refine hv13 (show ivh4 a0 11 = iv a0 11 from kp11f4) (show ivh4 a0 12 = iv a0 12 from kp12f4) (show ivh4 a0 13 = iv a0 13 from kp13f4) (show ivh4 a0 14 = iv a0 14 from kp14f4) (show ivh4 a0 15 = iv a0 15 from kp15f4) (show ivh4 a0 16 = iv a0 16 from kp16f4) (show f4 = -1 from exf4) (show 1 ≤ ivh4 a0 11 ∧ ivh4 a0 11 ≤ 100 from W4.int t_a0 11) (show 1 ≤ ivh4 a0 12 ∧ ivh4 a0 12 ≤ 50 from W4.int t_a0 12) (show (-2147483648) ≤ ivh4 a0 13 ∧ ivh4 a0 13 ≤ 2147483647 from W4.int t_a0 13) (show (-2147483648) ≤ ivh4 a0 14 ∧ ivh4 a0 14 ≤ 2147483647 from W4.int t_a0 14) (show (-2147483648) ≤ ivh4 a0 15 ∧ ivh4 a0 15 ≤ 2147483647 from W4.int t_a0 15) (show (-2147483648) ≤ ivh4 a0 16 ∧ ivh4 a0 16 ≤ 2147483647 from W4.int t_a0 16) (fun gk11f4 gk12f4 gk13f4 gk14f4 gk15f4 gk16f4 gf4 ri24 ri25 ri26 ri27 ri28 ri29 => ?_)
        exact c_iret C dX11_copyRow_57 rfl (by decide) (rom0 hph hph (by decide)) ⟨f4, rfl, rfl, rfl, rfl, rfl, F2, W4, ⟨by omega, by omega⟩, trivial, gk11f4, gk12f4, gk13f4, gk14f4, gk15f4, gk16f4, (TCH.same hsA hW tsA fl4 rfl rfl rfl rfl (fun E hE => CRP.lck gf1 gf2 (by omega) (by omega) hE))⟩
      · refine c_aload (j := 0) (x := ob2) C dX11_copyRow_44 rfl ?_
        refine c_get (k := 2) C ck_3 dX11_copyRow_46 w4_56 (by decide) tob2 rfl rfl (by decide) rfl ?_
        refine c_if_eq (tgt := 58) C (r32_c (lo := 0) (hi := 1) ri17.1 ri17.2 (by decide) (by decide)) dX11_copyRow_49 (by decide) (fun c2 => ?_) (fun c2 => ?_)
        · refine c_aload (j := 1) (x := ob1) C dX11_copyRow_58 rfl ?_
          refine c_iload_n (j := 4) C dX11_copyRow_60 rfl ?_
          refine c_iload (j := 7) C dX11_copyRow_61 rfl ?_
          refine d_callV (As := [.int (iI i2), .int (iI n)]) (rest := []) C hM (G_hasCells (a0 := ob1) (i := i2) (n := n) hW hS tob1 (by omega) (by omega) ) dX11_copyRow_63 kV_X11_313 rfl tob1 rfl rfl (by decide) ck_3 rfl (Nat.le_of_ble_eq_true rfl) ⟨(Nat.le_of_ble_eq_true rfl), (Nat.le_of_ble_eq_true rfl)⟩ hph hph (show 0 + 0 = 0 from rfl) (by decide) (fun rh5 Lh5 clh5 lnh5 ivh5 rvh5 h5 => ?_)
          obtain ⟨f5, rfl, rfl, rfl, rfl, rfl, rfl, rgf5, exf5⟩ := h5
          refine c_st (st2 := [.int (iI f5)]) rfl ?_
          have gf5 : (f5 = 1 ∧ 0 ≤ n ∧ 0 ≤ i2 ∧ i2 + n ≤ iv ob1 1) ∨ (f5 = 0 ∧ ¬ (0 ≤ n ∧ 0 ≤ i2 ∧ i2 + n ≤ iv ob1 1)) := exf5
          refine c_if_eq (tgt := 81) C (r32_qp gf5) dX11_copyRow_66 (by decide) (fun c3 => ?_) (fun c3 => ?_)
          · replace gf5 := (gf5.resolve_left (fun q => absurd (q.1.symm.trans c3) (by decide)))
            refine c_aload_n (j := 2) (x := a0) C dX11_copyRow_81 rfl ?_
            refine c_iconst C dX11_copyRow_82 ?_
            refine d_callV (As := [.int (iI 2)]) (rest := []) C hM (C_refuse (a0 := a0) (x := 2) hW hS t_a0 ⟨by decide, by decide⟩ ) dX11_copyRow_83 kV_X11_102 rfl t_a0 rfl rfl (by decide) ck_12 rfl (Nat.le_of_ble_eq_true rfl) ⟨(Nat.le_of_ble_eq_true rfl), (Nat.le_of_ble_eq_true rfl)⟩ hph hph (show 0 + 0 = 0 from rfl) (by decide) (fun rh6 Lh6 clh6 lnh6 ivh6 rvh6 h6 => ?_)
            obtain ⟨f6, rfl, rfl, rfl, rfl, rfl, fl6, W6, rgf6, exf6, kp11f6, kp12f6, kp13f6, kp14f6, kp15f6, kp16f6⟩ := h6
            refine hv7 (show 1 ≤ iv a0 11 ∧ iv a0 11 ≤ 100 from hW.int t_a0 11) (show 1 ≤ iv a0 12 ∧ iv a0 12 ≤ 50 from hW.int t_a0 12) (show (-2147483648) ≤ iv a0 13 ∧ iv a0 13 ≤ 2147483647 from hW.int t_a0 13) (show (-2147483648) ≤ iv a0 14 ∧ iv a0 14 ≤ 2147483647 from hW.int t_a0 14) (show (-2147483648) ≤ iv a0 15 ∧ iv a0 15 ≤ 2147483647 from hW.int t_a0 15) (show (-2147483648) ≤ iv a0 16 ∧ iv a0 16 ≤ 2147483647 from hW.int t_a0 16) (hF0.call hX0 fl6 rfl) (fun ri30 ri31 ri32 ri33 ri34 ri35 F3 => ?_)
            refine c_st (st2 := [.int (iI f6)]) rfl ?_
            refine hv13 (show ivh6 a0 11 = iv a0 11 from kp11f6) (show ivh6 a0 12 = iv a0 12 from kp12f6) (show ivh6 a0 13 = iv a0 13 from kp13f6) (show ivh6 a0 14 = iv a0 14 from kp14f6) (show ivh6 a0 15 = iv a0 15 from kp15f6) (show ivh6 a0 16 = iv a0 16 from kp16f6) (show f6 = -1 from exf6) (show 1 ≤ ivh6 a0 11 ∧ ivh6 a0 11 ≤ 100 from W6.int t_a0 11) (show 1 ≤ ivh6 a0 12 ∧ ivh6 a0 12 ≤ 50 from W6.int t_a0 12) (show (-2147483648) ≤ ivh6 a0 13 ∧ ivh6 a0 13 ≤ 2147483647 from W6.int t_a0 13) (show (-2147483648) ≤ ivh6 a0 14 ∧ ivh6 a0 14 ≤ 2147483647 from W6.int t_a0 14) (show (-2147483648) ≤ ivh6 a0 15 ∧ ivh6 a0 15 ≤ 2147483647 from W6.int t_a0 15) (show (-2147483648) ≤ ivh6 a0 16 ∧ ivh6 a0 16 ≤ 2147483647 from W6.int t_a0 16) (fun gk11f6 gk12f6 gk13f6 gk14f6 gk15f6 gk16f6 gf6 ri36 ri37 ri38 ri39 ri40 ri41 => ?_)
            exact c_iret C dX11_copyRow_86 rfl (by decide) (rom0 hph hph (by decide)) ⟨f6, rfl, rfl, rfl, rfl, rfl, F3, W6, ⟨by omega, by omega⟩, trivial, gk11f6, gk12f6, gk13f6, gk14f6, gk15f6, gk16f6, (TCH.same hsA hW tsA fl6 rfl rfl rfl rfl (fun E hE => CRP.out gf1 gf2 (by omega) (by omega) (by omega) (by omega) hE))⟩
          · replace gf5 := (gf5.resolve_right (fun q => c3 q.1))
            refine c_aload (j := 0) (x := ob2) C dX11_copyRow_69 rfl ?_
            refine c_iload (j := 6) C dX11_copyRow_71 rfl ?_
            refine c_iload (j := 7) C dX11_copyRow_73 rfl ?_
            refine d_callV (As := [.int (iI j2), .int (iI n)]) (rest := []) C hM (G_hasCells (a0 := ob2) (i := j2) (n := n) hW hS tob2 (by omega) (by omega) ) dX11_copyRow_75 kV_X11_313 rfl tob2 rfl rfl (by decide) ck_3 rfl (Nat.le_of_ble_eq_true rfl) ⟨(Nat.le_of_ble_eq_true rfl), (Nat.le_of_ble_eq_true rfl)⟩ hph hph (show 0 + 0 = 0 from rfl) (by decide) (fun rh7 Lh7 clh7 lnh7 ivh7 rvh7 h7 => ?_)
            obtain ⟨f7, rfl, rfl, rfl, rfl, rfl, rfl, rgf7, exf7⟩ := h7
            refine c_st (st2 := [.int (iI f7)]) rfl ?_
            have gf7 : (f7 = 1 ∧ 0 ≤ n ∧ 0 ≤ j2 ∧ j2 + n ≤ iv ob2 1) ∨ (f7 = 0 ∧ ¬ (0 ≤ n ∧ 0 ≤ j2 ∧ j2 + n ≤ iv ob2 1)) := exf7
            refine c_if_ne (tgt := 87) C (r32_qp gf7) dX11_copyRow_78 (by decide) (fun c4 => ?_) (fun c4 => ?_)
            · replace gf7 := (gf7.resolve_right (fun q => c4 q.1))
              refine c_aload (j := 1) (x := ob1) C dX11_copyRow_87 rfl ?_
              obtain ⟨rb1, rq1, trb1⟩ := hW.ref tob1 0 rfl rfl rfl
              have lnrb1 : 200 ≤ ln rb1 ∧ ln rb1 ≤ 200 := hW.len trb1 rfl
              refine c_getr (k := 0) C ck_3 dX11_copyRow_89 w4_48 (by decide) tob1 rfl rfl (by decide) rfl rq1 ?_
              refine c_st (st2 := [.ref rb1]) rfl ?_
              refine c_iload_n (j := 4) C dX11_copyRow_92 rfl ?_
              refine c_aload (j := 0) (x := ob2) C dX11_copyRow_93 rfl ?_
              obtain ⟨rb2, rq2, trb2⟩ := hW.ref tob2 0 rfl rfl rfl
              have lnrb2 : 200 ≤ ln rb2 ∧ ln rb2 ≤ 200 := hW.len trb2 rfl
              refine c_getr (k := 0) C ck_3 dX11_copyRow_95 w4_48 (by decide) tob2 rfl rfl (by decide) rfl rq2 ?_
              refine c_st (st2 := [.ref rb2, .int (iI i2), .ref rb1]) rfl ?_
              refine c_iload (j := 6) C dX11_copyRow_98 rfl ?_
              refine c_iload (j := 7) C dX11_copyRow_100 rfl ?_
              refine hv2 (show 200 ≤ ln rb1 ∧ ln rb1 ≤ 200 from hW.len trb1 rfl) (show 200 ≤ ln rb2 ∧ ln rb2 ≤ 200 from hW.len trb2 rfl) (fun ll1 ll2 => ?_)
              refine c_copyi (sp := i2) (dp := j2) (n := n) C dX11_copyRow_102 w4_233 w2_133 w2_132 w1_15 trb1 rfl trb2 rfl (by omega) (by omega) (by omega) (by omega) (by omega) (by omega) (by omega) (by decide) (Nat.le_of_ble_eq_true rfl) (fun iv1 pq1 => ?_)
              refine hv3 (hW.copy pq1 trb2 trb1 (fun _ => rfl) (fun _ => rfl) (fun _ => rfl) (fun _ => rfl) rfl) (hF0.copy hX0 pq1 trb2 rfl) (show iv1 sA 1 = iv sA 1 from by rw [pq1]; exact if_neg (ne_ty tsA trb2 (by decide))) (fun W8 F4 ie19 => ?_)
              have ri42 : 0 ≤ iv1 sA 1 ∧ iv1 sA 1 ≤ 200 := W8.int tsA 1
              refine c_aload_n (j := 2) (x := a0) C dX11_copyRow_105 rfl ?_
              refine c_iload (j := 7) C dX11_copyRow_106 rfl ?_
              refine d_callV (As := [.int (iI n)]) (rest := []) C hM (C_done (a0 := a0) (x := n) W8 hS t_a0 (by omega) ) dX11_copyRow_108 kV_X11_109 rfl t_a0 rfl rfl (by decide) ck_12 rfl (Nat.le_of_ble_eq_true rfl) ⟨(Nat.le_of_ble_eq_true rfl), (Nat.le_of_ble_eq_true rfl)⟩ hph hph (show 0 + 0 = 0 from rfl) (by decide) (fun rh8 Lh8 clh8 lnh8 ivh8 rvh8 h8 => ?_)
              obtain ⟨f8, rfl, rfl, rfl, rfl, rfl, fl8, W9, rgf8, exf8, kp11f8, kp12f8, kp13f8, kp14f8, kp15f8, kp16f8⟩ := h8
              refine hv13 (show 1 ≤ iv1 a0 11 ∧ iv1 a0 11 ≤ 100 from W8.int t_a0 11) (show iv1 a0 11 = iv a0 11 from by rw [pq1]; exact if_neg (ne_ty t_a0 trb2 (by decide))) (show 1 ≤ iv1 a0 12 ∧ iv1 a0 12 ≤ 50 from W8.int t_a0 12) (show iv1 a0 12 = iv a0 12 from by rw [pq1]; exact if_neg (ne_ty t_a0 trb2 (by decide))) (show (-2147483648) ≤ iv1 a0 13 ∧ iv1 a0 13 ≤ 2147483647 from W8.int t_a0 13) (show iv1 a0 13 = iv a0 13 from by rw [pq1]; exact if_neg (ne_ty t_a0 trb2 (by decide))) (show (-2147483648) ≤ iv1 a0 14 ∧ iv1 a0 14 ≤ 2147483647 from W8.int t_a0 14) (show iv1 a0 14 = iv a0 14 from by rw [pq1]; exact if_neg (ne_ty t_a0 trb2 (by decide))) (show (-2147483648) ≤ iv1 a0 15 ∧ iv1 a0 15 ≤ 2147483647 from W8.int t_a0 15) (show iv1 a0 15 = iv a0 15 from by rw [pq1]; exact if_neg (ne_ty t_a0 trb2 (by decide))) (show (-2147483648) ≤ iv1 a0 16 ∧ iv1 a0 16 ≤ 2147483647 from W8.int t_a0 16) (show iv1 a0 16 = iv a0 16 from by rw [pq1]; exact if_neg (ne_ty t_a0 trb2 (by decide))) (F4.call hX0 fl8 rfl) (fun ri43 ie20 ri44 ie21 ri45 ie22 ri46 ie23 ri47 ie24 ri48 ie25 F5 => ?_)
              refine c_st (st2 := [.int (iI f8)]) rfl ?_
              refine hv13 (show ivh8 a0 11 = iv1 a0 11 from kp11f8) (show ivh8 a0 12 = iv1 a0 12 from kp12f8) (show ivh8 a0 13 = iv1 a0 13 from kp13f8) (show ivh8 a0 14 = iv1 a0 14 from kp14f8) (show ivh8 a0 15 = iv1 a0 15 from kp15f8) (show ivh8 a0 16 = iv1 a0 16 from kp16f8) (show f8 = n from exf8) (show 1 ≤ ivh8 a0 11 ∧ ivh8 a0 11 ≤ 100 from W9.int t_a0 11) (show 1 ≤ ivh8 a0 12 ∧ ivh8 a0 12 ≤ 50 from W9.int t_a0 12) (show (-2147483648) ≤ ivh8 a0 13 ∧ ivh8 a0 13 ≤ 2147483647 from W9.int t_a0 13) (show (-2147483648) ≤ ivh8 a0 14 ∧ ivh8 a0 14 ≤ 2147483647 from W9.int t_a0 14) (show (-2147483648) ≤ ivh8 a0 15 ∧ ivh8 a0 15 ≤ 2147483647 from W9.int t_a0 15) (show (-2147483648) ≤ ivh8 a0 16 ∧ ivh8 a0 16 ≤ 2147483647 from W9.int t_a0 16) (fun gk11f8 gk12f8 gk13f8 gk14f8 gk15f8 gk16f8 gf8 ri49 ri50 ri51 ri52 ri53 ri54 => ?_)
              exact c_iret C dX11_copyRow_111 rfl (by decide) (rom0 hph hph (by decide)) ⟨f8, rfl, rfl, rfl, rfl, rfl, F5, W9, ⟨by omega, by omega⟩, trivial, (gk11f8.trans ie20), (gk12f8.trans ie21), (gk13f8.trans ie22), (gk14f8.trans ie23), (gk15f8.trans ie24), (gk16f8.trans ie25), (TCH.row hsA hW tsA gf2 (LFR.refl.copy rq2 trb2 pq1) (by omega) W8 fl8 rfl rfl rfl rfl (fun E hE => CRP.ok gf1 gf2 (by omega) (by omega) ⟨by omega, by omega, by omega, by omega, by omega⟩ rq1 rq2 pq1 (ne_ty tob2 trb2 (by decide)) (by omega) hE))⟩
            · replace gf7 := (gf7.resolve_left (fun q => absurd (q.1.symm.trans c4) (by decide)))
              refine c_aload_n (j := 2) (x := a0) C dX11_copyRow_81 rfl ?_
              refine c_iconst C dX11_copyRow_82 ?_
              refine d_callV (As := [.int (iI 2)]) (rest := []) C hM (C_refuse (a0 := a0) (x := 2) hW hS t_a0 ⟨by decide, by decide⟩ ) dX11_copyRow_83 kV_X11_102 rfl t_a0 rfl rfl (by decide) ck_12 rfl (Nat.le_of_ble_eq_true rfl) ⟨(Nat.le_of_ble_eq_true rfl), (Nat.le_of_ble_eq_true rfl)⟩ hph hph (show 0 + 0 = 0 from rfl) (by decide) (fun rh9 Lh9 clh9 lnh9 ivh9 rvh9 h9 => ?_)
              obtain ⟨f9, rfl, rfl, rfl, rfl, rfl, fl9, W10, rgf9, exf9, kp11f9, kp12f9, kp13f9, kp14f9, kp15f9, kp16f9⟩ := h9
              refine hv7 (show 1 ≤ iv a0 11 ∧ iv a0 11 ≤ 100 from hW.int t_a0 11) (show 1 ≤ iv a0 12 ∧ iv a0 12 ≤ 50 from hW.int t_a0 12) (show (-2147483648) ≤ iv a0 13 ∧ iv a0 13 ≤ 2147483647 from hW.int t_a0 13) (show (-2147483648) ≤ iv a0 14 ∧ iv a0 14 ≤ 2147483647 from hW.int t_a0 14) (show (-2147483648) ≤ iv a0 15 ∧ iv a0 15 ≤ 2147483647 from hW.int t_a0 15) (show (-2147483648) ≤ iv a0 16 ∧ iv a0 16 ≤ 2147483647 from hW.int t_a0 16) (hF0.call hX0 fl9 rfl) (fun ri55 ri56 ri57 ri58 ri59 ri60 F6 => ?_)
              refine c_st (st2 := [.int (iI f9)]) rfl ?_
              refine hv13 (show ivh9 a0 11 = iv a0 11 from kp11f9) (show ivh9 a0 12 = iv a0 12 from kp12f9) (show ivh9 a0 13 = iv a0 13 from kp13f9) (show ivh9 a0 14 = iv a0 14 from kp14f9) (show ivh9 a0 15 = iv a0 15 from kp15f9) (show ivh9 a0 16 = iv a0 16 from kp16f9) (show f9 = -1 from exf9) (show 1 ≤ ivh9 a0 11 ∧ ivh9 a0 11 ≤ 100 from W10.int t_a0 11) (show 1 ≤ ivh9 a0 12 ∧ ivh9 a0 12 ≤ 50 from W10.int t_a0 12) (show (-2147483648) ≤ ivh9 a0 13 ∧ ivh9 a0 13 ≤ 2147483647 from W10.int t_a0 13) (show (-2147483648) ≤ ivh9 a0 14 ∧ ivh9 a0 14 ≤ 2147483647 from W10.int t_a0 14) (show (-2147483648) ≤ ivh9 a0 15 ∧ ivh9 a0 15 ≤ 2147483647 from W10.int t_a0 15) (show (-2147483648) ≤ ivh9 a0 16 ∧ ivh9 a0 16 ≤ 2147483647 from W10.int t_a0 16) (fun gk11f9 gk12f9 gk13f9 gk14f9 gk15f9 gk16f9 gf9 ri61 ri62 ri63 ri64 ri65 ri66 => ?_)
              exact c_iret C dX11_copyRow_86 rfl (by decide) (rom0 hph hph (by decide)) ⟨f9, rfl, rfl, rfl, rfl, rfl, F6, W10, ⟨by omega, by omega⟩, trivial, gk11f9, gk12f9, gk13f9, gk14f9, gk15f9, gk16f9, (TCH.same hsA hW tsA fl9 rfl rfl rfl rfl (fun E hE => CRP.out gf1 gf2 (by omega) (by omega) (by omega) (by omega) hE))⟩
        · refine c_aload_n (j := 2) (x := a0) C dX11_copyRow_52 rfl ?_
          refine c_iconst C dX11_copyRow_53 ?_
          refine d_callV (As := [.int (iI 1)]) (rest := []) C hM (C_refuse (a0 := a0) (x := 1) hW hS t_a0 ⟨by decide, by decide⟩ ) dX11_copyRow_54 kV_X11_102 rfl t_a0 rfl rfl (by decide) ck_12 rfl (Nat.le_of_ble_eq_true rfl) ⟨(Nat.le_of_ble_eq_true rfl), (Nat.le_of_ble_eq_true rfl)⟩ hph hph (show 0 + 0 = 0 from rfl) (by decide) (fun rh10 Lh10 clh10 lnh10 ivh10 rvh10 h10 => ?_)
          obtain ⟨f10, rfl, rfl, rfl, rfl, rfl, fl10, W11, rgf10, exf10, kp11f10, kp12f10, kp13f10, kp14f10, kp15f10, kp16f10⟩ := h10
          refine hv7 (show 1 ≤ iv a0 11 ∧ iv a0 11 ≤ 100 from hW.int t_a0 11) (show 1 ≤ iv a0 12 ∧ iv a0 12 ≤ 50 from hW.int t_a0 12) (show (-2147483648) ≤ iv a0 13 ∧ iv a0 13 ≤ 2147483647 from hW.int t_a0 13) (show (-2147483648) ≤ iv a0 14 ∧ iv a0 14 ≤ 2147483647 from hW.int t_a0 14) (show (-2147483648) ≤ iv a0 15 ∧ iv a0 15 ≤ 2147483647 from hW.int t_a0 15) (show (-2147483648) ≤ iv a0 16 ∧ iv a0 16 ≤ 2147483647 from hW.int t_a0 16) (hF0.call hX0 fl10 rfl) (fun ri67 ri68 ri69 ri70 ri71 ri72 F7 => ?_)
          refine c_st (st2 := [.int (iI f10)]) rfl ?_
          refine hv13 (show ivh10 a0 11 = iv a0 11 from kp11f10) (show ivh10 a0 12 = iv a0 12 from kp12f10) (show ivh10 a0 13 = iv a0 13 from kp13f10) (show ivh10 a0 14 = iv a0 14 from kp14f10) (show ivh10 a0 15 = iv a0 15 from kp15f10) (show ivh10 a0 16 = iv a0 16 from kp16f10) (show f10 = -1 from exf10) (show 1 ≤ ivh10 a0 11 ∧ ivh10 a0 11 ≤ 100 from W11.int t_a0 11) (show 1 ≤ ivh10 a0 12 ∧ ivh10 a0 12 ≤ 50 from W11.int t_a0 12) (show (-2147483648) ≤ ivh10 a0 13 ∧ ivh10 a0 13 ≤ 2147483647 from W11.int t_a0 13) (show (-2147483648) ≤ ivh10 a0 14 ∧ ivh10 a0 14 ≤ 2147483647 from W11.int t_a0 14) (show (-2147483648) ≤ ivh10 a0 15 ∧ ivh10 a0 15 ≤ 2147483647 from W11.int t_a0 15) (show (-2147483648) ≤ ivh10 a0 16 ∧ ivh10 a0 16 ≤ 2147483647 from W11.int t_a0 16) (fun gk11f10 gk12f10 gk13f10 gk14f10 gk15f10 gk16f10 gf10 ri73 ri74 ri75 ri76 ri77 ri78 => ?_)
          exact c_iret C dX11_copyRow_57 rfl (by decide) (rom0 hph hph (by decide)) ⟨f10, rfl, rfl, rfl, rfl, rfl, F7, W11, ⟨by omega, by omega⟩, trivial, gk11f10, gk12f10, gk13f10, gk14f10, gk15f10, gk16f10, (TCH.same hsA hW tsA fl10 rfl rfl rfl rfl (fun E hE => CRP.lck gf1 gf2 (by omega) (by omega) hE))⟩
    · subst oq2
      refine c_lv (lv2 := [(7, .null), (6, .ref ob1), (0, .ref a0), (1, .int (iI i)), (2, .int (iI i2)), (3, .int (iI j)), (4, .int (iI j2)), (5, .int (iI n))]) [0, 1, 2, 3, 4, 5, 6, 7] rfl ?_
      refine c_st (st2 := []) rfl ?_
      refine c_aload_n (j := 2) (x := a0) C dX11_copyRow_30 rfl ?_
      refine c_iconst C dX11_copyRow_31 ?_
      refine d_callV (As := [.int (iI 2)]) (rest := []) C hM (C_refuse (a0 := a0) (x := 2) hW hS t_a0 ⟨by decide, by decide⟩ ) dX11_copyRow_32 kV_X11_102 rfl t_a0 rfl rfl (by decide) ck_12 rfl (Nat.le_of_ble_eq_true rfl) ⟨(Nat.le_of_ble_eq_true rfl), (Nat.le_of_ble_eq_true rfl)⟩ hph hph (show 0 + 0 = 0 from rfl) (by decide) (fun rh11 Lh11 clh11 lnh11 ivh11 rvh11 h11 => ?_)
      obtain ⟨f11, rfl, rfl, rfl, rfl, rfl, fl11, W12, rgf11, exf11, kp11f11, kp12f11, kp13f11, kp14f11, kp15f11, kp16f11⟩ := h11
      refine hv7 (show 1 ≤ iv a0 11 ∧ iv a0 11 ≤ 100 from hW.int t_a0 11) (show 1 ≤ iv a0 12 ∧ iv a0 12 ≤ 50 from hW.int t_a0 12) (show (-2147483648) ≤ iv a0 13 ∧ iv a0 13 ≤ 2147483647 from hW.int t_a0 13) (show (-2147483648) ≤ iv a0 14 ∧ iv a0 14 ≤ 2147483647 from hW.int t_a0 14) (show (-2147483648) ≤ iv a0 15 ∧ iv a0 15 ≤ 2147483647 from hW.int t_a0 15) (show (-2147483648) ≤ iv a0 16 ∧ iv a0 16 ≤ 2147483647 from hW.int t_a0 16) (hF0.call hX0 fl11 rfl) (fun ri79 ri80 ri81 ri82 ri83 ri84 F8 => ?_)
      refine c_st (st2 := [.int (iI f11)]) rfl ?_
      refine hv13 (show ivh11 a0 11 = iv a0 11 from kp11f11) (show ivh11 a0 12 = iv a0 12 from kp12f11) (show ivh11 a0 13 = iv a0 13 from kp13f11) (show ivh11 a0 14 = iv a0 14 from kp14f11) (show ivh11 a0 15 = iv a0 15 from kp15f11) (show ivh11 a0 16 = iv a0 16 from kp16f11) (show f11 = -1 from exf11) (show 1 ≤ ivh11 a0 11 ∧ ivh11 a0 11 ≤ 100 from W12.int t_a0 11) (show 1 ≤ ivh11 a0 12 ∧ ivh11 a0 12 ≤ 50 from W12.int t_a0 12) (show (-2147483648) ≤ ivh11 a0 13 ∧ ivh11 a0 13 ≤ 2147483647 from W12.int t_a0 13) (show (-2147483648) ≤ ivh11 a0 14 ∧ ivh11 a0 14 ≤ 2147483647 from W12.int t_a0 14) (show (-2147483648) ≤ ivh11 a0 15 ∧ ivh11 a0 15 ≤ 2147483647 from W12.int t_a0 15) (show (-2147483648) ≤ ivh11 a0 16 ∧ ivh11 a0 16 ≤ 2147483647 from W12.int t_a0 16) (fun gk11f11 gk12f11 gk13f11 gk14f11 gk15f11 gk16f11 gf11 ri85 ri86 ri87 ri88 ri89 ri90 => ?_)
      exact c_iret C dX11_copyRow_35 rfl (by decide) (rom0 hph hph (by decide)) ⟨f11, rfl, rfl, rfl, rfl, rfl, F8, W12, ⟨by omega, by omega⟩, trivial, gk11f11, gk12f11, gk13f11, gk14f11, gk15f11, gk16f11, (TCH.same hsA hW tsA fl11 rfl rfl rfl rfl (fun E hE => CRP.no (Or.inr gf2) (by omega) hE))⟩
set_option maxHeartbeats 4000000 in
set_option maxRecDepth 100000 in
theorem G_become {l : Launch} {G : GT} {mi : Nat} {sk : Nat → Nat} {L : List Nat} {cl ln : Nat → Nat} {iv : Nat → Nat → Int} {rv : Nat → Nat → Option Nat}  {a0 : Nat} {a1 : Nat} (hW : WT (g0 G) sk L cl ln iv rv) (hS : SKL sk L cl) (t_a0 : ty L cl a0 19) (t_a1 : ty L cl a1 19)  : Mc l G mi (Phi (g0 G) sk) PHM yX2_become cX2_become 2 none 1 [.ref a0, .ref a1] L cl ln iv rv 0 (fun v L2 cl2 ln2 iv2 rv2 => v = none ∧ L = L2 ∧ cl = cl2 ∧ ln = ln2 ∧ rv = rv2 ∧ fT [19, 64] L cl iv rv iv2 rv2 ∧ WT (g0 G) sk L2 cl2 ln2 iv2 rv2 ∧ (LFR L cl iv rv iv2 a0 ∧ BCX iv rv iv2 a0 a1)) := by
  refine Mc.mk (by decide) (Nat.le_of_ble_eq_true rfl) ?_
  intro p e s m args below meth c A C hM
  refine hv5 (Phi.le hW hS) (show XT L cl ln L cl ln from XT.refl) (show fT [19, 64] L cl iv rv iv rv from fT.refl) (show 0 ≤ iv a1 1 ∧ iv a1 1 ≤ 200 from hW.int t_a1 1) (show 0 ≤ iv a1 2 ∧ iv a1 2 ≤ 1 from hW.int t_a1 2) (fun hph hX0 hF0 ri1 ri2 => ?_)
  refine c_aload_n (j := 1) (x := a1) C dX2_become_0 rfl ?_
  obtain ⟨rb1, rq1, trb1⟩ := hW.ref t_a1 0 rfl rfl rfl
  have lnrb1 : 200 ≤ ln rb1 ∧ ln rb1 ≤ 200 := hW.len trb1 rfl
  refine c_getr (k := 0) C ck_3 dX2_become_1 w4_44 (by decide) t_a1 rfl rfl (by decide) rfl rq1 ?_
  refine c_st (st2 := [.ref rb1]) rfl ?_
  refine c_iconst C dX2_become_4 ?_
  refine c_aload_n (j := 0) (x := a0) C dX2_become_5 rfl ?_
  obtain ⟨rb2, rq2, trb2⟩ := hW.ref t_a0 0 rfl rfl rfl
  have lnrb2 : 200 ≤ ln rb2 ∧ ln rb2 ≤ 200 := hW.len trb2 rfl
  refine c_getr (k := 0) C ck_3 dX2_become_6 w4_44 (by decide) t_a0 rfl rfl (by decide) rfl rq2 ?_
  refine c_st (st2 := [.ref rb2, .int (iI 0), .ref rb1]) rfl ?_
  refine c_iconst C dX2_become_9 ?_
  refine c_aload_n (j := 1) (x := a1) C dX2_become_10 rfl ?_
  refine c_get (k := 1) C ck_3 dX2_become_11 w4_49 (by decide) t_a1 rfl rfl (by decide) rfl ?_
  refine hv2 (show 200 ≤ ln rb1 ∧ ln rb1 ≤ 200 from hW.len trb1 rfl) (show 200 ≤ ln rb2 ∧ ln rb2 ≤ 200 from hW.len trb2 rfl) (fun ll1 ll2 => ?_)
  refine c_copyi (sp := 0) (dp := 0) (n := iv a1 1) C dX2_become_14 w4_80 w2_133 w2_132 w1_15 trb1 rfl trb2 rfl (by omega) (by omega) (by omega) (by omega) (by omega) (by omega) (by omega) (by decide) (Nat.le_of_ble_eq_true rfl) (fun iv1 pq1 => ?_)
  refine hv2 (hW.copy pq1 trb2 trb1 (fun _ => rfl) (fun _ => rfl) (fun _ => rfl) (fun _ => rfl) rfl) (hF0.copy hX0 pq1 trb2 rfl) (fun W1 F1 => ?_)
  refine c_aload_n (j := 0) (x := a0) C dX2_become_17 rfl ?_
  refine c_aload_n (j := 1) (x := a1) C dX2_become_18 rfl ?_
  refine hv2 (show 0 ≤ iv1 a1 1 ∧ iv1 a1 1 ≤ 200 from W1.int t_a1 1) (show iv1 a1 1 = iv a1 1 from by rw [pq1]; exact if_neg (ne_ty t_a1 trb2 (by decide))) (fun ri3 ie1 => ?_)
  refine c_get (k := 1) C ck_3 dX2_become_19 w4_49 (by decide) t_a1 rfl rfl (by decide) rfl ?_
  refine c_put (z := iv1 a1 1) (k := 1) C ck_3 dX2_become_22 w4_49 (by decide) rfl t_a0 rfl rfl (by decide) rfl (by rfl) (by rfl) (fun iv2 pq2 => ?_)
  refine hv2 (W1.puti pq2 t_a0 (show 0 ≤ (iv1 a1 1) ∧ (iv1 a1 1) ≤ 200 by omega) rfl) (F1.puti hX0 pq2 t_a0 rfl) (fun W2 F2 => ?_)
  refine c_aload_n (j := 0) (x := a0) C dX2_become_25 rfl ?_
  refine c_aload_n (j := 1) (x := a1) C dX2_become_26 rfl ?_
  have ri4 : 0 ≤ iv2 a1 2 ∧ iv2 a1 2 ≤ 1 := W2.int t_a1 2
  refine c_get (k := 2) C ck_3 dX2_become_27 w4_54 (by decide) t_a1 rfl rfl (by decide) rfl ?_
  refine c_put (z := iv2 a1 2) (k := 2) C ck_3 dX2_become_30 w4_54 (by decide) rfl t_a0 rfl rfl (by decide) rfl (nar2 (z := iv2 a1 2) (by omega)).1 (nar2 (z := iv2 a1 2) (by omega)).2 (fun iv3 pq3 => ?_)
  refine hv5 (W2.puti pq3 t_a0 (show 0 ≤ (iv2 a1 2) ∧ (iv2 a1 2) ≤ 1 by omega) rfl) (F2.puti hX0 pq3 t_a0 rfl) (show iv3 a0 1 = iv2 a0 1 from by rw [pq3]; exact up2_j (by decide)) (show iv2 a0 1 = iv1 a1 1 from by rw [pq2]; exact up2_s) (show iv3 a0 2 = iv2 a1 2 from by rw [pq3]; exact up2_s) (fun W3 F3 ie3 ie4 ie5 => ?_)
  refine hv2 (show 0 ≤ iv3 a0 1 ∧ iv3 a0 1 ≤ 200 from W3.int t_a0 1) (show 0 ≤ iv3 a0 2 ∧ iv3 a0 2 ≤ 1 from W3.int t_a0 2) (fun ri5 ri6 => ?_)
  exact c_vret C dX2_become_33 rfl (by decide) (rom0 hph hph (by decide)) ⟨rfl, rfl, rfl, rfl, rfl, F3, W3, ⟨((LFR.refl.copy rq2 trb2 pq1).self t_a0 pq2).self t_a0 pq3, BCX.mk rq1 rq2 pq1 rfl pq2 (by omega) pq3 rfl (ne_ty trb2 t_a0 (by decide)) (ne_ty t_a1 trb2 (by decide))⟩⟩
set_option maxHeartbeats 4000000 in
set_option maxRecDepth 100000 in
theorem G_copyLines {l : Launch} {G : GT} {mi : Nat} {sk : Nat → Nat} {L : List Nat} {cl ln : Nat → Nat} {iv : Nat → Nat → Int} {rv : Nat → Nat → Option Nat}  {a0 : Nat} {i : Int} {j : Int} {n : Int} (hW : WT (g0 G) sk L cl ln iv rv) (hS : SKL sk L cl) (t_a0 : ty L cl a0 1) (h_i : -2147483648 ≤ i ∧ i ≤ 2147483647) (h_j : -2147483648 ≤ j ∧ j ≤ 2147483647) (h_n : -2147483648 ≤ n ∧ n ≤ 2147483647)  : Mc l G mi (Phi (g0 G) sk) PHM yX11_copyLines cX11_copyLines 7 (some .int) 2 [.ref a0, .int (iI i), .int (iI j), .int (iI n)] L cl ln iv rv 0 (fun v L2 cl2 ln2 iv2 rv2 => ∃ f : Int, v = some (.int (iI f)) ∧ L = L2 ∧ cl = cl2 ∧ ln = ln2 ∧ rv = rv2 ∧ fT [1, 19, 64] L cl iv rv iv2 rv2 ∧ WT (g0 G) sk L2 cl2 ln2 iv2 rv2 ∧ (-2147483648 ≤ f ∧ f ≤ 2147483647) ∧ (True) ∧ iv2 a0 11 = iv a0 11 ∧ iv2 a0 12 = iv a0 12 ∧ iv2 a0 13 = iv a0 13 ∧ iv2 a0 14 = iv a0 14 ∧ iv2 a0 16 = iv a0 16 ∧ (TCH iv rv iv2 a0 (fun E E2 => CPLX E i j n (iv a0 15) f E2 (iv2 a0 15)))) := by
  refine Mc.mk (by decide) (Nat.le_of_ble_eq_true rfl) ?_
  intro p e s m args below meth c A C hM
  refine hv3 (Phi.le hW hS) (show XT L cl ln L cl ln from XT.refl) (show fT [1, 19, 64] L cl iv rv iv rv from fT.refl) (fun hph hX0 hF0 => ?_)
  obtain ⟨sA, hsA, tsA⟩ := hW.ref t_a0 9 rfl rfl rfl
  refine hv2 (show 0 ≤ iv sA 1 ∧ iv sA 1 ≤ 200 from hW.int tsA 1) (show (-2147483648) ≤ iv a0 15 ∧ iv a0 15 ≤ 2147483647 from hW.int t_a0 15) (fun ri1 ri2 => ?_)
  refine c_iload_n (j := 3) C dX11_copyLines_0 rfl ?_
  refine c_bipush (z := 10) C dX11_copyLines_1 (by decide) ?_
  refine c_icmp_le (tgt := 13) C ⟨by omega, by omega⟩ ⟨by decide, by decide⟩ dX11_copyLines_3 (by decide) (fun c1 => ?_) (fun c1 => ?_)
  · refine c_iload_n (j := 3) C dX11_copyLines_13 rfl ?_
    refine c_if_ge (tgt := 23) C ⟨by omega, by omega⟩ dX11_copyLines_14 (by decide) (fun c2 => ?_) (fun c2 => ?_)
    · refine c_aload_n (j := 0) (x := a0) C dX11_copyLines_23 rfl ?_
      refine c_iconst C dX11_copyLines_24 ?_
      refine c_put (z := 0) (k := 15) C ck_12 dX11_copyLines_25 w2_59 (by decide) rfl t_a0 rfl rfl (by decide) rfl (by rfl) (by rfl) (fun iv1 pq1 => ?_)
      refine hv2 (hW.puti pq1 t_a0 ⟨by decide, by decide⟩ rfl) (hF0.puti hX0 pq1 t_a0 rfl) (fun W1 F1 => ?_)
      refine c_iconst C dX11_copyLines_28 ?_
      refine c_istore (lv2 := [(4, .int (iI 0)), (0, .ref a0), (1, .int (iI i)), (2, .int (iI j)), (3, .int (iI n))]) C dX11_copyLines_29 (by decide) rfl ?_
      have Lp1 : ∀ (nn : Nat) (k : Int) (ivb1 : Nat → Nat → Int) , 201 - k < (nn : Int) → WT (g0 G) sk L cl ln ivb1 rv → fT [1, 19, 64] L cl iv rv ivb1 rv → (0 ≤ k ∧ k ≤ n ∧ n ≤ 10) → (ivb1 a0 15 = k) → (TCH iv rv ivb1 a0 (fun E E1 => cpn E i j k.toNat E1)) → (ivb1 a0 11 = iv a0 11) → (ivb1 a0 12 = iv a0 12) → (ivb1 a0 13 = iv a0 13) → (ivb1 a0 14 = iv a0 14) → (ivb1 a0 16 = iv a0 16) → cw p l e 2 ((PHM) + 0 - ((Phi (g0 G) sk) ln rv)) s m args below meth c G A 7 (MQ below (Qu G A (Qp G (Phi (g0 G) sk) ((Phi (g0 G) sk) ln rv) 0 (fun v L2 cl2 ln2 iv2 rv2 => ∃ f : Int, v = some (.int (iI f)) ∧ L = L2 ∧ cl = cl2 ∧ ln = ln2 ∧ rv = rv2 ∧ fT [1, 19, 64] L cl iv rv iv2 rv2 ∧ WT (g0 G) sk L2 cl2 ln2 iv2 rv2 ∧ (-2147483648 ≤ f ∧ f ≤ 2147483647) ∧ (True) ∧ iv2 a0 11 = iv a0 11 ∧ iv2 a0 12 = iv a0 12 ∧ iv2 a0 13 = iv a0 13 ∧ iv2 a0 14 = iv a0 14 ∧ iv2 a0 16 = iv a0 16 ∧ (TCH iv rv iv2 a0 (fun E E2 => CPLX E i j n (iv a0 15) f E2 (iv2 a0 15)))))) args s (((PHM) + 0 - ((Phi (g0 G) sk) ln rv)) / 16) ((PHM) + 0 - ((Phi (g0 G) sk) ln rv)) A) (Phi (g0 G) sk) ((Phi (g0 G) sk) ln rv) L cl ln ivb1 rv 0 31 [(4, .int (iI k)), (0, .ref a0), (1, .int (iI i)), (2, .int (iI j)), (3, .int (iI n))] [] := by
        intro nn
        induction nn with
        | zero =>
          intro  k ivb1 hm Wb1 Fb1  hk h15 hT hkp11 hkp12 hkp13 hkp14 hkp16
          exact absurd hm (by omega)
        | succ nn ih1 =>
          intro  k ivb1 hm Wb1 Fb1  hk h15 hT hkp11 hkp12 hkp13 hkp14 hkp16
          refine c_iload (j := 0) C dX11_copyLines_31 rfl ?_
          refine c_iload_n (j := 4) C dX11_copyLines_33 rfl ?_
          refine c_icmp_ge (tgt := 116) C ⟨by omega, by omega⟩ ⟨by omega, by omega⟩ dX11_copyLines_34 (by decide) (fun c3 => ?_) (fun c3 => ?_)
          · refine c_aload_n (j := 1) (x := a0) C dX11_copyLines_116 rfl ?_
            refine c_iload_n (j := 4) C dX11_copyLines_117 rfl ?_
            refine d_callV (As := [.int (iI n)]) (rest := []) C hM (C_done (a0 := a0) (x := n) Wb1 hS t_a0 (by omega) ) dX11_copyLines_118 kV_X11_109 rfl t_a0 rfl rfl (by decide) ck_12 rfl (Nat.le_of_ble_eq_true rfl) ⟨(Nat.le_of_ble_eq_true rfl), (Nat.le_of_ble_eq_true rfl)⟩ hph hph (show 0 + 0 = 0 from rfl) (by decide) (fun rh1 Lh1 clh1 lnh1 ivh1 rvh1 h1 => ?_)
            obtain ⟨f1, rfl, rfl, rfl, rfl, rfl, fl1, W2, rgf1, exf1, kp11f1, kp12f1, kp13f1, kp14f1, kp15f1, kp16f1⟩ := h1
            refine hv7 (show 1 ≤ ivb1 a0 11 ∧ ivb1 a0 11 ≤ 100 from Wb1.int t_a0 11) (show 1 ≤ ivb1 a0 12 ∧ ivb1 a0 12 ≤ 50 from Wb1.int t_a0 12) (show (-2147483648) ≤ ivb1 a0 13 ∧ ivb1 a0 13 ≤ 2147483647 from Wb1.int t_a0 13) (show (-2147483648) ≤ ivb1 a0 14 ∧ ivb1 a0 14 ≤ 2147483647 from Wb1.int t_a0 14) (show (-2147483648) ≤ ivb1 a0 15 ∧ ivb1 a0 15 ≤ 2147483647 from Wb1.int t_a0 15) (show (-2147483648) ≤ ivb1 a0 16 ∧ ivb1 a0 16 ≤ 2147483647 from Wb1.int t_a0 16) (Fb1.call hX0 fl1 rfl) (fun ri3 ri4 ri5 ri6 ri7 ri8 F2 => ?_)
            refine c_st (st2 := [.int (iI f1)]) rfl ?_
            refine hv13 (show ivh1 a0 11 = ivb1 a0 11 from kp11f1) (show ivh1 a0 12 = ivb1 a0 12 from kp12f1) (show ivh1 a0 13 = ivb1 a0 13 from kp13f1) (show ivh1 a0 14 = ivb1 a0 14 from kp14f1) (show ivh1 a0 15 = ivb1 a0 15 from kp15f1) (show ivh1 a0 16 = ivb1 a0 16 from kp16f1) (show f1 = n from exf1) (show 1 ≤ ivh1 a0 11 ∧ ivh1 a0 11 ≤ 100 from W2.int t_a0 11) (show 1 ≤ ivh1 a0 12 ∧ ivh1 a0 12 ≤ 50 from W2.int t_a0 12) (show (-2147483648) ≤ ivh1 a0 13 ∧ ivh1 a0 13 ≤ 2147483647 from W2.int t_a0 13) (show (-2147483648) ≤ ivh1 a0 14 ∧ ivh1 a0 14 ≤ 2147483647 from W2.int t_a0 14) (show (-2147483648) ≤ ivh1 a0 16 ∧ ivh1 a0 16 ≤ 2147483647 from W2.int t_a0 16) (show (-2147483648) ≤ ivh1 a0 15 ∧ ivh1 a0 15 ≤ 2147483647 from W2.int t_a0 15) (fun gk11f1 gk12f1 gk13f1 gk14f1 gk15f1 gk16f1 gf1 ri9 ri10 ri11 ri12 ri13 ri14 => ?_)
            exact c_iret C dX11_copyLines_121 rfl (by decide) (rom0 hph hph (by decide)) ⟨f1, rfl, rfl, rfl, rfl, rfl, F2, W2, ⟨by omega, by omega⟩, trivial, (gk11f1.trans hkp11), (gk12f1.trans hkp12), (gk13f1.trans hkp13), (gk14f1.trans hkp14), (gk16f1.trans hkp16), (CPP.ok hT hsA Wb1 tsA fl1 (by omega) ⟨by omega, by omega⟩ (by omega) (by omega))⟩
          · refine c_aload_n (j := 1) (x := a0) C dX11_copyLines_37 rfl ?_
            refine c_getr (k := 9) C ck_12 dX11_copyLines_38 w2_53 (by decide) t_a0 rfl rfl (by decide) rfl hsA ?_
            refine c_st (st2 := [.ref sA]) rfl ?_
            refine c_iload_n (j := 2) C dX11_copyLines_41 rfl ?_
            refine c_iload (j := 0) C dX11_copyLines_42 rfl ?_
            refine c_iadd C dX11_copyLines_44 ?_
            obtain ⟨zz1, hzz1, ezz1⟩ := iI_of (iI (i + k))
            refine c_st (st2 := [.int (iI zz1), .ref sA]) (by rw [ezz1]) ?_
            refine hv2 (show 0 ≤ ivb1 sA 1 ∧ ivb1 sA 1 ≤ 200 from Wb1.int tsA 1) (show ivb1 sA 1 = iv sA 1 from Fb1.i tsA rfl 1) (fun ri15 ie13 => ?_)
            refine d_callV (As := [.int (iI zz1)]) (rest := []) C hM (G_sat (a0 := sA) (i := zz1) Wb1 hS tsA (by omega) ) dX11_copyLines_45 kV_X11_308 rfl tsA rfl rfl (by decide) ck_8 rfl (Nat.le_of_ble_eq_true rfl) ⟨(Nat.le_of_ble_eq_true rfl), (Nat.le_of_ble_eq_true rfl)⟩ hph hph (show 0 + 0 = 0 from rfl) (by decide) (fun rh2 Lh2 clh2 lnh2 ivh2 rvh2 h2 => ?_)
            obtain ⟨f2, rfl, rfl, rfl, rfl, rfl, rfl, rgf2, exf2⟩ := h2
            refine c_st (st2 := [(va_rf f2)]) rfl ?_
            have gf2 : SATX ivb1 rv sA zz1 f2 := exf2
            have gaf2 := SATX.wr gf2 (wr_add (x := i + k) hzz1 ⟨by omega, by omega⟩ ezz1) (by omega)
            refine c_astorer (r := f2) (lv2 := [(5, (va_rf f2)), (4, .int (iI k)), (0, .ref a0), (1, .int (iI i)), (2, .int (iI j)), (3, .int (iI n))]) C dX11_copyLines_48 (by decide) rfl ?_
            refine c_aload_n (j := 2) (x := a0) C dX11_copyLines_50 rfl ?_
            refine c_getr (k := 9) C ck_12 dX11_copyLines_51 w2_53 (by decide) t_a0 rfl rfl (by decide) rfl hsA ?_
            refine c_st (st2 := [.ref sA]) rfl ?_
            refine c_iload_n (j := 4) C dX11_copyLines_54 rfl ?_
            refine c_iload (j := 1) C dX11_copyLines_55 rfl ?_
            refine c_iadd C dX11_copyLines_57 ?_
            obtain ⟨zz2, hzz2, ezz2⟩ := iI_of (iI (j + k))
            refine c_st (st2 := [.int (iI zz2), .ref sA]) (by rw [ezz2]) ?_
            refine d_callV (As := [.int (iI zz2)]) (rest := []) C hM (G_sat (a0 := sA) (i := zz2) Wb1 hS tsA (by omega) ) dX11_copyLines_58 kV_X11_308 rfl tsA rfl rfl (by decide) ck_8 rfl (Nat.le_of_ble_eq_true rfl) ⟨(Nat.le_of_ble_eq_true rfl), (Nat.le_of_ble_eq_true rfl)⟩ hph hph (show 0 + 0 = 0 from rfl) (by decide) (fun rh3 Lh3 clh3 lnh3 ivh3 rvh3 h3 => ?_)
            obtain ⟨f3, rfl, rfl, rfl, rfl, rfl, rfl, rgf3, exf3⟩ := h3
            refine c_st (st2 := [(va_rf f3)]) rfl ?_
            have gf3 : SATX ivb1 rv sA zz2 f3 := exf3
            have gaf3 := SATX.wr gf3 (wr_add (x := j + k) hzz2 ⟨by omega, by omega⟩ ezz2) (by omega)
            refine c_astorer (r := f3) (lv2 := [(6, (va_rf f3)), (5, (va_rf f2)), (4, .int (iI k)), (0, .ref a0), (1, .int (iI i)), (2, .int (iI j)), (3, .int (iI n))]) C dX11_copyLines_61 (by decide) (by cases f2 <;> rfl) ?_
            refine c_aloadr (j := 1) (r := f2) C dX11_copyLines_63 rfl ?_
            refine c_ifnull (r := f2) (tgt := 73) C dX11_copyLines_65 (by decide) (fun oq1 => ?_) (fun ob1 oq1 => ?_)
            · subst oq1
              refine c_lv (lv2 := [(6, (va_rf f3)), (5, .null), (4, .int (iI k)), (0, .ref a0), (1, .int (iI i)), (2, .int (iI j)), (3, .int (iI n))]) [0, 1, 2, 3, 4, 5, 6] rfl ?_
              refine c_st (st2 := []) rfl ?_
              refine c_aload_n (j := 3) (x := a0) C dX11_copyLines_73 rfl ?_
              refine c_iconst C dX11_copyLines_74 ?_
              refine d_callV (As := [.int (iI 2)]) (rest := []) C hM (C_refuse (a0 := a0) (x := 2) Wb1 hS t_a0 ⟨by decide, by decide⟩ ) dX11_copyLines_75 kV_X11_102 rfl t_a0 rfl rfl (by decide) ck_12 rfl (Nat.le_of_ble_eq_true rfl) ⟨(Nat.le_of_ble_eq_true rfl), (Nat.le_of_ble_eq_true rfl)⟩ hph hph (show 0 + 0 = 0 from rfl) (by decide) (fun rh4 Lh4 clh4 lnh4 ivh4 rvh4 h4 => ?_)
              obtain ⟨f4, rfl, rfl, rfl, rfl, rfl, fl4, W5, rgf4, exf4, kp11f4, kp12f4, kp13f4, kp14f4, kp15f4, kp16f4⟩ := h4
              refine hv7 (show 1 ≤ ivb1 a0 11 ∧ ivb1 a0 11 ≤ 100 from Wb1.int t_a0 11) (show 1 ≤ ivb1 a0 12 ∧ ivb1 a0 12 ≤ 50 from Wb1.int t_a0 12) (show (-2147483648) ≤ ivb1 a0 13 ∧ ivb1 a0 13 ≤ 2147483647 from Wb1.int t_a0 13) (show (-2147483648) ≤ ivb1 a0 14 ∧ ivb1 a0 14 ≤ 2147483647 from Wb1.int t_a0 14) (show (-2147483648) ≤ ivb1 a0 15 ∧ ivb1 a0 15 ≤ 2147483647 from Wb1.int t_a0 15) (show (-2147483648) ≤ ivb1 a0 16 ∧ ivb1 a0 16 ≤ 2147483647 from Wb1.int t_a0 16) (Fb1.call hX0 fl4 rfl) (fun ri16 ri17 ri18 ri19 ri20 ri21 F3 => ?_)
              refine c_st (st2 := [.int (iI f4)]) rfl ?_
              refine hv13 (show ivh4 a0 11 = ivb1 a0 11 from kp11f4) (show ivh4 a0 12 = ivb1 a0 12 from kp12f4) (show ivh4 a0 13 = ivb1 a0 13 from kp13f4) (show ivh4 a0 14 = ivb1 a0 14 from kp14f4) (show ivh4 a0 15 = ivb1 a0 15 from kp15f4) (show ivh4 a0 16 = ivb1 a0 16 from kp16f4) (show f4 = -1 from exf4) (show 1 ≤ ivh4 a0 11 ∧ ivh4 a0 11 ≤ 100 from W5.int t_a0 11) (show 1 ≤ ivh4 a0 12 ∧ ivh4 a0 12 ≤ 50 from W5.int t_a0 12) (show (-2147483648) ≤ ivh4 a0 13 ∧ ivh4 a0 13 ≤ 2147483647 from W5.int t_a0 13) (show (-2147483648) ≤ ivh4 a0 14 ∧ ivh4 a0 14 ≤ 2147483647 from W5.int t_a0 14) (show (-2147483648) ≤ ivh4 a0 16 ∧ ivh4 a0 16 ≤ 2147483647 from W5.int t_a0 16) (show (-2147483648) ≤ ivh4 a0 15 ∧ ivh4 a0 15 ≤ 2147483647 from W5.int t_a0 15) (fun gk11f4 gk12f4 gk13f4 gk14f4 gk15f4 gk16f4 gf4 ri22 ri23 ri24 ri25 ri26 ri27 => ?_)
              exact c_iret C dX11_copyLines_78 rfl (by decide) (rom0 hph hph (by decide)) ⟨f4, rfl, rfl, rfl, rfl, rfl, F3, W5, ⟨by omega, by omega⟩, trivial, (gk11f4.trans hkp11), (gk12f4.trans hkp12), (gk13f4.trans hkp13), (gk14f4.trans hkp14), (gk16f4.trans hkp16), (CPP.stop hT hsA Wb1 tsA fl4 ⟨by omega, by omega⟩ (by omega) (by omega) (by omega) (Or.inl gaf2))⟩
            · subst oq1
              have tob1 := rgf2 ob1 rfl
              refine c_lv (lv2 := [(6, (va_rf f3)), (5, .ref ob1), (4, .int (iI k)), (0, .ref a0), (1, .int (iI i)), (2, .int (iI j)), (3, .int (iI n))]) [0, 1, 2, 3, 4, 5, 6] rfl ?_
              refine c_st (st2 := []) rfl ?_
              refine c_aloadr (j := 0) (r := f3) C dX11_copyLines_68 rfl ?_
              refine c_ifnonnull (r := f3) (tgt := 79) C dX11_copyLines_70 (by decide) (fun ob2 oq2 => ?_) (fun oq2 => ?_)
              · subst oq2
                have tob2 := rgf3 ob2 rfl
                refine c_lv (lv2 := [(6, .ref ob2), (5, .ref ob1), (4, .int (iI k)), (0, .ref a0), (1, .int (iI i)), (2, .int (iI j)), (3, .int (iI n))]) [0, 1, 2, 3, 4, 5, 6] rfl ?_
                refine c_st (st2 := []) rfl ?_
                have ri28 : 0 ≤ ivb1 ob1 2 ∧ ivb1 ob1 2 ≤ 1 := Wb1.int tob1 2
                refine c_aload (j := 1) (x := ob1) C dX11_copyLines_79 rfl ?_
                refine c_get (k := 2) C ck_3 dX11_copyLines_81 w4_56 (by decide) tob1 rfl rfl (by decide) rfl ?_
                refine c_if_eq (tgt := 93) C (r32_c (lo := 0) (hi := 1) ri28.1 ri28.2 (by decide) (by decide)) dX11_copyLines_84 (by decide) (fun c4 => ?_) (fun c4 => ?_)
                · refine c_aload (j := 0) (x := ob2) C dX11_copyLines_93 rfl ?_
                  refine c_aload (j := 1) (x := ob1) C dX11_copyLines_95 rfl ?_
                  refine d_callV (As := [.ref ob1]) (rest := []) C hM (G_become (a0 := ob2) (a1 := ob1) Wb1 hS tob2 tob1  ) dX11_copyLines_97 kV_X11_322 rfl tob2 rfl rfl (by decide) ck_3 rfl (Nat.le_of_ble_eq_true rfl) ⟨(Nat.le_of_ble_eq_true rfl), (Nat.le_of_ble_eq_true rfl)⟩ hph hph (show 0 + 0 = 0 from rfl) (by decide) (fun rh5 Lh5 clh5 lnh5 ivh5 rvh5 h5 => ?_)
                  obtain ⟨rfl, rfl, rfl, rfl, rfl, fl5, W6, exf5⟩ := h5
                  have F4 := Fb1.call hX0 fl5 rfl
                  refine c_st (st2 := []) rfl ?_
                  refine hv3 (show LFR L cl ivb1 rv ivh5 ob2 ∧ BCX ivb1 rv ivh5 ob2 ob1 from exf5) (show 0 ≤ ivh5 sA 1 ∧ ivh5 sA 1 ≤ 200 from W6.int tsA 1) (show ivh5 sA 1 = ivb1 sA 1 from fl5.i tsA rfl 1) (fun gf5 ri29 ie27 => ?_)
                  refine c_aload_n (j := 3) (x := a0) C dX11_copyLines_100 rfl ?_
                  refine c_dup C dX11_copyLines_101 rfl ?_
                  refine hv2 (show (-2147483648) ≤ ivh5 a0 15 ∧ ivh5 a0 15 ≤ 2147483647 from W6.int t_a0 15) (show ivh5 a0 15 = ivb1 a0 15 from fl5.i t_a0 rfl 15) (fun ri30 ie28 => ?_)
                  refine c_get (k := 15) C ck_12 dX11_copyLines_102 w2_59 (by decide) t_a0 rfl rfl (by decide) rfl ?_
                  refine c_iconst C dX11_copyLines_105 ?_
                  refine c_iadd C dX11_copyLines_106 ?_
                  refine c_put (z := (ivh5 a0 15) + 1) (k := 15) C ck_12 dX11_copyLines_107 w2_59 (by decide) rfl t_a0 rfl rfl (by decide) rfl (by rfl) (by rfl) (fun iv2 pq2 => ?_)
                  refine hv2 (W6.puti pq2 t_a0 (show (-2147483648) ≤ ((ivh5 a0 15) + 1) ∧ ((ivh5 a0 15) + 1) ≤ 2147483647 by omega) rfl) (F4.puti hX0 pq2 t_a0 rfl) (fun W7 F5 => ?_)
                  refine c_iinc (z := k) (j := 2) (lv2 := [(4, .int (iI (k + 1))), (6, .ref ob2), (5, .ref ob1), (0, .ref a0), (1, .int (iI i)), (2, .int (iI j)), (3, .int (iI n))]) C dX11_copyLines_110 rfl (by decide) rfl ?_
                  refine c_goto (tgt := 31) C dX11_copyLines_113 (by decide) ?_
                  refine hv19 (show (-2147483648) ≤ iv2 a0 15 ∧ iv2 a0 15 ≤ 2147483647 from W7.int t_a0 15) (show iv2 a0 15 = (ivh5 a0 15) + 1 from by rw [pq2]; exact up2_s) (show 1 ≤ iv2 a0 11 ∧ iv2 a0 11 ≤ 100 from W7.int t_a0 11) (show iv2 a0 11 = ivh5 a0 11 from by rw [pq2]; exact up2_j (by decide)) (show ivh5 a0 11 = ivb1 a0 11 from fl5.i t_a0 rfl 11) (show 1 ≤ iv2 a0 12 ∧ iv2 a0 12 ≤ 50 from W7.int t_a0 12) (show iv2 a0 12 = ivh5 a0 12 from by rw [pq2]; exact up2_j (by decide)) (show ivh5 a0 12 = ivb1 a0 12 from fl5.i t_a0 rfl 12) (show (-2147483648) ≤ iv2 a0 13 ∧ iv2 a0 13 ≤ 2147483647 from W7.int t_a0 13) (show iv2 a0 13 = ivh5 a0 13 from by rw [pq2]; exact up2_j (by decide)) (show ivh5 a0 13 = ivb1 a0 13 from fl5.i t_a0 rfl 13) (show (-2147483648) ≤ iv2 a0 14 ∧ iv2 a0 14 ≤ 2147483647 from W7.int t_a0 14) (show iv2 a0 14 = ivh5 a0 14 from by rw [pq2]; exact up2_j (by decide)) (show ivh5 a0 14 = ivb1 a0 14 from fl5.i t_a0 rfl 14) (show (-2147483648) ≤ iv2 a0 16 ∧ iv2 a0 16 ≤ 2147483647 from W7.int t_a0 16) (show iv2 a0 16 = ivh5 a0 16 from by rw [pq2]; exact up2_j (by decide)) (show ivh5 a0 16 = ivb1 a0 16 from fl5.i t_a0 rfl 16) (show 0 ≤ iv2 ob1 2 ∧ iv2 ob1 2 ≤ 1 from W7.int tob1 2) (show iv2 ob1 2 = ivh5 ob1 2 from by rw [pq2]; exact up2_k (ne_ty tob1 t_a0 (by decide))) (fun ri31 ie30 ri32 ie31 ie32 ri33 ie34 ie35 ri34 ie37 ie38 ri35 ie40 ie41 ri36 ie43 ie44 ri37 ie46 => ?_)
                  refine c_lv (lv2 := [(4, .int (iI (k + 1))), (0, .ref a0), (1, .int (iI i)), (2, .int (iI j)), (3, .int (iI n))]) [0, 3, 4, 5, 6] rfl ?_
                  exact ih1  (k + 1) _ (by omega) W7 F5  (by omega) (by show iv2 a0 15 = (k + 1); omega) (CPP.step hT hsA Wb1 tsA t_a0 gaf2 gaf3 (by omega) gf5.1 gf5.2 (by omega) W6 pq2 (by omega)) (ie31.trans (ie32.trans hkp11)) (ie34.trans (ie35.trans hkp12)) (ie37.trans (ie38.trans hkp13)) (ie40.trans (ie41.trans hkp14)) (ie43.trans (ie44.trans hkp16))
                · refine c_aload_n (j := 3) (x := a0) C dX11_copyLines_87 rfl ?_
                  refine c_iconst C dX11_copyLines_88 ?_
                  refine d_callV (As := [.int (iI 1)]) (rest := []) C hM (C_refuse (a0 := a0) (x := 1) Wb1 hS t_a0 ⟨by decide, by decide⟩ ) dX11_copyLines_89 kV_X11_102 rfl t_a0 rfl rfl (by decide) ck_12 rfl (Nat.le_of_ble_eq_true rfl) ⟨(Nat.le_of_ble_eq_true rfl), (Nat.le_of_ble_eq_true rfl)⟩ hph hph (show 0 + 0 = 0 from rfl) (by decide) (fun rh6 Lh6 clh6 lnh6 ivh6 rvh6 h6 => ?_)
                  obtain ⟨f6, rfl, rfl, rfl, rfl, rfl, fl6, W8, rgf6, exf6, kp11f6, kp12f6, kp13f6, kp14f6, kp15f6, kp16f6⟩ := h6
                  refine hv7 (show 1 ≤ ivb1 a0 11 ∧ ivb1 a0 11 ≤ 100 from Wb1.int t_a0 11) (show 1 ≤ ivb1 a0 12 ∧ ivb1 a0 12 ≤ 50 from Wb1.int t_a0 12) (show (-2147483648) ≤ ivb1 a0 13 ∧ ivb1 a0 13 ≤ 2147483647 from Wb1.int t_a0 13) (show (-2147483648) ≤ ivb1 a0 14 ∧ ivb1 a0 14 ≤ 2147483647 from Wb1.int t_a0 14) (show (-2147483648) ≤ ivb1 a0 15 ∧ ivb1 a0 15 ≤ 2147483647 from Wb1.int t_a0 15) (show (-2147483648) ≤ ivb1 a0 16 ∧ ivb1 a0 16 ≤ 2147483647 from Wb1.int t_a0 16) (Fb1.call hX0 fl6 rfl) (fun ri38 ri39 ri40 ri41 ri42 ri43 F6 => ?_)
                  refine c_st (st2 := [.int (iI f6)]) rfl ?_
                  refine hv13 (show ivh6 a0 11 = ivb1 a0 11 from kp11f6) (show ivh6 a0 12 = ivb1 a0 12 from kp12f6) (show ivh6 a0 13 = ivb1 a0 13 from kp13f6) (show ivh6 a0 14 = ivb1 a0 14 from kp14f6) (show ivh6 a0 15 = ivb1 a0 15 from kp15f6) (show ivh6 a0 16 = ivb1 a0 16 from kp16f6) (show f6 = -1 from exf6) (show 1 ≤ ivh6 a0 11 ∧ ivh6 a0 11 ≤ 100 from W8.int t_a0 11) (show 1 ≤ ivh6 a0 12 ∧ ivh6 a0 12 ≤ 50 from W8.int t_a0 12) (show (-2147483648) ≤ ivh6 a0 13 ∧ ivh6 a0 13 ≤ 2147483647 from W8.int t_a0 13) (show (-2147483648) ≤ ivh6 a0 14 ∧ ivh6 a0 14 ≤ 2147483647 from W8.int t_a0 14) (show (-2147483648) ≤ ivh6 a0 16 ∧ ivh6 a0 16 ≤ 2147483647 from W8.int t_a0 16) (show (-2147483648) ≤ ivh6 a0 15 ∧ ivh6 a0 15 ≤ 2147483647 from W8.int t_a0 15) (fun gk11f6 gk12f6 gk13f6 gk14f6 gk15f6 gk16f6 gf6 ri44 ri45 ri46 ri47 ri48 ri49 => ?_)
                  exact c_iret C dX11_copyLines_92 rfl (by decide) (rom0 hph hph (by decide)) ⟨f6, rfl, rfl, rfl, rfl, rfl, F6, W8, ⟨by omega, by omega⟩, trivial, (gk11f6.trans hkp11), (gk12f6.trans hkp12), (gk13f6.trans hkp13), (gk14f6.trans hkp14), (gk16f6.trans hkp16), (CPP.stop hT hsA Wb1 tsA fl6 ⟨by omega, by omega⟩ (by omega) (by omega) (by omega) (Or.inr (Or.inr ⟨_, gaf2, by omega⟩)))⟩
              · subst oq2
                refine c_lv (lv2 := [(6, .null), (5, .ref ob1), (4, .int (iI k)), (0, .ref a0), (1, .int (iI i)), (2, .int (iI j)), (3, .int (iI n))]) [0, 1, 2, 3, 4, 5, 6] rfl ?_
                refine c_st (st2 := []) rfl ?_
                refine c_aload_n (j := 3) (x := a0) C dX11_copyLines_73 rfl ?_
                refine c_iconst C dX11_copyLines_74 ?_
                refine d_callV (As := [.int (iI 2)]) (rest := []) C hM (C_refuse (a0 := a0) (x := 2) Wb1 hS t_a0 ⟨by decide, by decide⟩ ) dX11_copyLines_75 kV_X11_102 rfl t_a0 rfl rfl (by decide) ck_12 rfl (Nat.le_of_ble_eq_true rfl) ⟨(Nat.le_of_ble_eq_true rfl), (Nat.le_of_ble_eq_true rfl)⟩ hph hph (show 0 + 0 = 0 from rfl) (by decide) (fun rh7 Lh7 clh7 lnh7 ivh7 rvh7 h7 => ?_)
                obtain ⟨f7, rfl, rfl, rfl, rfl, rfl, fl7, W9, rgf7, exf7, kp11f7, kp12f7, kp13f7, kp14f7, kp15f7, kp16f7⟩ := h7
                refine hv7 (show 1 ≤ ivb1 a0 11 ∧ ivb1 a0 11 ≤ 100 from Wb1.int t_a0 11) (show 1 ≤ ivb1 a0 12 ∧ ivb1 a0 12 ≤ 50 from Wb1.int t_a0 12) (show (-2147483648) ≤ ivb1 a0 13 ∧ ivb1 a0 13 ≤ 2147483647 from Wb1.int t_a0 13) (show (-2147483648) ≤ ivb1 a0 14 ∧ ivb1 a0 14 ≤ 2147483647 from Wb1.int t_a0 14) (show (-2147483648) ≤ ivb1 a0 15 ∧ ivb1 a0 15 ≤ 2147483647 from Wb1.int t_a0 15) (show (-2147483648) ≤ ivb1 a0 16 ∧ ivb1 a0 16 ≤ 2147483647 from Wb1.int t_a0 16) (Fb1.call hX0 fl7 rfl) (fun ri50 ri51 ri52 ri53 ri54 ri55 F7 => ?_)
                refine c_st (st2 := [.int (iI f7)]) rfl ?_
                refine hv13 (show ivh7 a0 11 = ivb1 a0 11 from kp11f7) (show ivh7 a0 12 = ivb1 a0 12 from kp12f7) (show ivh7 a0 13 = ivb1 a0 13 from kp13f7) (show ivh7 a0 14 = ivb1 a0 14 from kp14f7) (show ivh7 a0 15 = ivb1 a0 15 from kp15f7) (show ivh7 a0 16 = ivb1 a0 16 from kp16f7) (show f7 = -1 from exf7) (show 1 ≤ ivh7 a0 11 ∧ ivh7 a0 11 ≤ 100 from W9.int t_a0 11) (show 1 ≤ ivh7 a0 12 ∧ ivh7 a0 12 ≤ 50 from W9.int t_a0 12) (show (-2147483648) ≤ ivh7 a0 13 ∧ ivh7 a0 13 ≤ 2147483647 from W9.int t_a0 13) (show (-2147483648) ≤ ivh7 a0 14 ∧ ivh7 a0 14 ≤ 2147483647 from W9.int t_a0 14) (show (-2147483648) ≤ ivh7 a0 16 ∧ ivh7 a0 16 ≤ 2147483647 from W9.int t_a0 16) (show (-2147483648) ≤ ivh7 a0 15 ∧ ivh7 a0 15 ≤ 2147483647 from W9.int t_a0 15) (fun gk11f7 gk12f7 gk13f7 gk14f7 gk15f7 gk16f7 gf7 ri56 ri57 ri58 ri59 ri60 ri61 => ?_)
                exact c_iret C dX11_copyLines_78 rfl (by decide) (rom0 hph hph (by decide)) ⟨f7, rfl, rfl, rfl, rfl, rfl, F7, W9, ⟨by omega, by omega⟩, trivial, (gk11f7.trans hkp11), (gk12f7.trans hkp12), (gk13f7.trans hkp13), (gk14f7.trans hkp14), (gk16f7.trans hkp16), (CPP.stop hT hsA Wb1 tsA fl7 ⟨by omega, by omega⟩ (by omega) (by omega) (by omega) (Or.inr (Or.inl gaf3)))⟩
      refine hv12 (show (-2147483648) ≤ iv1 a0 15 ∧ iv1 a0 15 ≤ 2147483647 from W1.int t_a0 15) (show iv1 a0 15 = 0 from by rw [pq1]; exact up2_s) (show 1 ≤ iv1 a0 11 ∧ iv1 a0 11 ≤ 100 from W1.int t_a0 11) (show iv1 a0 11 = iv a0 11 from by rw [pq1]; exact up2_j (by decide)) (show 1 ≤ iv1 a0 12 ∧ iv1 a0 12 ≤ 50 from W1.int t_a0 12) (show iv1 a0 12 = iv a0 12 from by rw [pq1]; exact up2_j (by decide)) (show (-2147483648) ≤ iv1 a0 13 ∧ iv1 a0 13 ≤ 2147483647 from W1.int t_a0 13) (show iv1 a0 13 = iv a0 13 from by rw [pq1]; exact up2_j (by decide)) (show (-2147483648) ≤ iv1 a0 14 ∧ iv1 a0 14 ≤ 2147483647 from W1.int t_a0 14) (show iv1 a0 14 = iv a0 14 from by rw [pq1]; exact up2_j (by decide)) (show (-2147483648) ≤ iv1 a0 16 ∧ iv1 a0 16 ≤ 2147483647 from W1.int t_a0 16) (show iv1 a0 16 = iv a0 16 from by rw [pq1]; exact up2_j (by decide)) (fun ri62 ie72 ri63 ie73 ri64 ie74 ri65 ie75 ri66 ie76 ri67 ie77 => ?_)
      refine c_lv (lv2 := [(4, .int (iI 0)), (0, .ref a0), (1, .int (iI i)), (2, .int (iI j)), (3, .int (iI n))]) [0, 1, 2, 3, 4] rfl ?_
      exact Lp1 203 0 _ (by omega) W1 F1  (by omega) ie72 (CPP.zero hsA hW tsA t_a0 pq1 rfl) ie73 ie74 ie75 ie76 ie77
    · refine c_aload_n (j := 0) (x := a0) C dX11_copyLines_17 rfl ?_
      refine c_iconst C dX11_copyLines_18 ?_
      refine d_callV (As := [.int (iI 5)]) (rest := []) C hM (C_refuse (a0 := a0) (x := 5) hW hS t_a0 ⟨by decide, by decide⟩ ) dX11_copyLines_19 kV_X11_102 rfl t_a0 rfl rfl (by decide) ck_12 rfl (Nat.le_of_ble_eq_true rfl) ⟨(Nat.le_of_ble_eq_true rfl), (Nat.le_of_ble_eq_true rfl)⟩ hph hph (show 0 + 0 = 0 from rfl) (by decide) (fun rh8 Lh8 clh8 lnh8 ivh8 rvh8 h8 => ?_)
      obtain ⟨f8, rfl, rfl, rfl, rfl, rfl, fl8, W10, rgf8, exf8, kp11f8, kp12f8, kp13f8, kp14f8, kp15f8, kp16f8⟩ := h8
      refine hv6 (show 1 ≤ iv a0 11 ∧ iv a0 11 ≤ 100 from hW.int t_a0 11) (show 1 ≤ iv a0 12 ∧ iv a0 12 ≤ 50 from hW.int t_a0 12) (show (-2147483648) ≤ iv a0 13 ∧ iv a0 13 ≤ 2147483647 from hW.int t_a0 13) (show (-2147483648) ≤ iv a0 14 ∧ iv a0 14 ≤ 2147483647 from hW.int t_a0 14) (show (-2147483648) ≤ iv a0 16 ∧ iv a0 16 ≤ 2147483647 from hW.int t_a0 16) (hF0.call hX0 fl8 rfl) (fun ri68 ri69 ri70 ri71 ri72 F8 => ?_)
      refine c_st (st2 := [.int (iI f8)]) rfl ?_
      refine hv13 (show ivh8 a0 11 = iv a0 11 from kp11f8) (show ivh8 a0 12 = iv a0 12 from kp12f8) (show ivh8 a0 13 = iv a0 13 from kp13f8) (show ivh8 a0 14 = iv a0 14 from kp14f8) (show ivh8 a0 15 = iv a0 15 from kp15f8) (show ivh8 a0 16 = iv a0 16 from kp16f8) (show f8 = -1 from exf8) (show 1 ≤ ivh8 a0 11 ∧ ivh8 a0 11 ≤ 100 from W10.int t_a0 11) (show 1 ≤ ivh8 a0 12 ∧ ivh8 a0 12 ≤ 50 from W10.int t_a0 12) (show (-2147483648) ≤ ivh8 a0 13 ∧ ivh8 a0 13 ≤ 2147483647 from W10.int t_a0 13) (show (-2147483648) ≤ ivh8 a0 14 ∧ ivh8 a0 14 ≤ 2147483647 from W10.int t_a0 14) (show (-2147483648) ≤ ivh8 a0 16 ∧ ivh8 a0 16 ≤ 2147483647 from W10.int t_a0 16) (show (-2147483648) ≤ ivh8 a0 15 ∧ ivh8 a0 15 ≤ 2147483647 from W10.int t_a0 15) (fun gk11f8 gk12f8 gk13f8 gk14f8 gk15f8 gk16f8 gf8 ri73 ri74 ri75 ri76 ri77 ri78 => ?_)
      exact c_iret C dX11_copyLines_22 rfl (by decide) (rom0 hph hph (by decide)) ⟨f8, rfl, rfl, rfl, rfl, rfl, F8, W10, ⟨by omega, by omega⟩, trivial, gk11f8, gk12f8, gk13f8, gk14f8, gk16f8, (CPP.bad hsA hW tsA fl8 (by omega) (by omega) (by omega))⟩
  · refine c_aload_n (j := 0) (x := a0) C dX11_copyLines_6 rfl ?_
    refine c_bipush (z := 6) C dX11_copyLines_7 (by decide) ?_
    refine d_callV (As := [.int (iI 6)]) (rest := []) C hM (C_refuse (a0 := a0) (x := 6) hW hS t_a0 ⟨by decide, by decide⟩ ) dX11_copyLines_9 kV_X11_102 rfl t_a0 rfl rfl (by decide) ck_12 rfl (Nat.le_of_ble_eq_true rfl) ⟨(Nat.le_of_ble_eq_true rfl), (Nat.le_of_ble_eq_true rfl)⟩ hph hph (show 0 + 0 = 0 from rfl) (by decide) (fun rh9 Lh9 clh9 lnh9 ivh9 rvh9 h9 => ?_)
    obtain ⟨f9, rfl, rfl, rfl, rfl, rfl, fl9, W11, rgf9, exf9, kp11f9, kp12f9, kp13f9, kp14f9, kp15f9, kp16f9⟩ := h9
    refine hv6 (show 1 ≤ iv a0 11 ∧ iv a0 11 ≤ 100 from hW.int t_a0 11) (show 1 ≤ iv a0 12 ∧ iv a0 12 ≤ 50 from hW.int t_a0 12) (show (-2147483648) ≤ iv a0 13 ∧ iv a0 13 ≤ 2147483647 from hW.int t_a0 13) (show (-2147483648) ≤ iv a0 14 ∧ iv a0 14 ≤ 2147483647 from hW.int t_a0 14) (show (-2147483648) ≤ iv a0 16 ∧ iv a0 16 ≤ 2147483647 from hW.int t_a0 16) (hF0.call hX0 fl9 rfl) (fun ri79 ri80 ri81 ri82 ri83 F9 => ?_)
    refine c_st (st2 := [.int (iI f9)]) rfl ?_
    refine hv13 (show ivh9 a0 11 = iv a0 11 from kp11f9) (show ivh9 a0 12 = iv a0 12 from kp12f9) (show ivh9 a0 13 = iv a0 13 from kp13f9) (show ivh9 a0 14 = iv a0 14 from kp14f9) (show ivh9 a0 15 = iv a0 15 from kp15f9) (show ivh9 a0 16 = iv a0 16 from kp16f9) (show f9 = -1 from exf9) (show 1 ≤ ivh9 a0 11 ∧ ivh9 a0 11 ≤ 100 from W11.int t_a0 11) (show 1 ≤ ivh9 a0 12 ∧ ivh9 a0 12 ≤ 50 from W11.int t_a0 12) (show (-2147483648) ≤ ivh9 a0 13 ∧ ivh9 a0 13 ≤ 2147483647 from W11.int t_a0 13) (show (-2147483648) ≤ ivh9 a0 14 ∧ ivh9 a0 14 ≤ 2147483647 from W11.int t_a0 14) (show (-2147483648) ≤ ivh9 a0 16 ∧ ivh9 a0 16 ≤ 2147483647 from W11.int t_a0 16) (show (-2147483648) ≤ ivh9 a0 15 ∧ ivh9 a0 15 ≤ 2147483647 from W11.int t_a0 15) (fun gk11f9 gk12f9 gk13f9 gk14f9 gk15f9 gk16f9 gf9 ri84 ri85 ri86 ri87 ri88 ri89 => ?_)
    exact c_iret C dX11_copyLines_12 rfl (by decide) (rom0 hph hph (by decide)) ⟨f9, rfl, rfl, rfl, rfl, rfl, F9, W11, ⟨by omega, by omega⟩, trivial, gk11f9, gk12f9, gk13f9, gk14f9, gk16f9, (CPP.bad hsA hW tsA fl9 (by omega) (by omega) (by omega))⟩
set_option maxHeartbeats 4000000 in
set_option maxRecDepth 100000 in
theorem G_dots {l : Launch} {G : GT} {mi : Nat} {sk : Nat → Nat} {L : List Nat} {cl ln : Nat → Nat} {iv : Nat → Nat → Int} {rv : Nat → Nat → Option Nat}  {a0 : Nat} (hW : WT (g0 G) sk L cl ln iv rv) (hS : SKL sk L cl) (t_a0 : ty L cl a0 19)  : Mc l G mi (Phi (g0 G) sk) PHM yX2_dots cX2_dots 3 (some .int) 1 [.ref a0] L cl ln iv rv 0 (fun v L2 cl2 ln2 iv2 rv2 => ∃ f : Int, v = some (.int (iI f)) ∧ L = L2 ∧ cl = cl2 ∧ ln = ln2 ∧ iv = iv2 ∧ rv = rv2 ∧ (-2147483648 ≤ f ∧ f ≤ 2147483647) ∧ (DTX iv rv a0 f)) := by
  refine Mc.mk (by decide) (Nat.le_of_ble_eq_true rfl) ?_
  intro p e s m args below meth c A C hM
  refine hv4 (Phi.le hW hS) (show XT L cl ln L cl ln from XT.refl) (show fT [] L cl iv rv iv rv from fT.refl) (show 0 ≤ iv a0 1 ∧ iv a0 1 ≤ 200 from hW.int t_a0 1) (fun hph hX0 hF0 ri1 => ?_)
  refine c_iconst C dX2_dots_0 ?_
  refine c_istore_n (lv2 := [(1, .int (iI 0)), (0, .ref a0)]) C dX2_dots_1 (by decide) rfl ?_
  refine c_iconst C dX2_dots_2 ?_
  refine c_istore_n (lv2 := [(2, .int (iI 0)), (1, .int (iI 0)), (0, .ref a0)]) C dX2_dots_3 (by decide) rfl ?_
  have Lp1 : ∀ (nn : Nat) (s1 k : Int) , 201 - k < (nn : Int) → (-2147483648 ≤ s1 ∧ s1 ≤ 2147483647) → (0 ≤ k ∧ k ≤ iv a0 1) → (DTK iv rv a0 k s1) → cw p l e 1 ((PHM) + 0 - ((Phi (g0 G) sk) ln rv)) s m args below meth c G A 3 (MQ below (Qu G A (Qp G (Phi (g0 G) sk) ((Phi (g0 G) sk) ln rv) 0 (fun v L2 cl2 ln2 iv2 rv2 => ∃ f : Int, v = some (.int (iI f)) ∧ L = L2 ∧ cl = cl2 ∧ ln = ln2 ∧ iv = iv2 ∧ rv = rv2 ∧ (-2147483648 ≤ f ∧ f ≤ 2147483647) ∧ (DTX iv rv a0 f)))) args s (((PHM) + 0 - ((Phi (g0 G) sk) ln rv)) / 16) ((PHM) + 0 - ((Phi (g0 G) sk) ln rv)) A) (Phi (g0 G) sk) ((Phi (g0 G) sk) ln rv) L cl ln iv rv 0 4 [(2, .int (iI k)), (1, .int (iI s1)), (0, .ref a0)] [] := by
    intro nn
    induction nn with
    | zero =>
      intro  s1 k  hm   hs hk hD
      exact absurd hm (by omega)
    | succ nn ih1 =>
      intro  s1 k  hm   hs hk hD
      refine c_iload_n (j := 0) C dX2_dots_4 rfl ?_
      refine c_aload_n (j := 2) (x := a0) C dX2_dots_5 rfl ?_
      refine c_get (k := 1) C ck_3 dX2_dots_6 w4_49 (by decide) t_a0 rfl rfl (by decide) rfl ?_
      refine c_icmp_ge (tgt := 30) C ⟨by omega, by omega⟩ (r32_c (lo := 0) (hi := 200) ri1.1 ri1.2 (by decide) (by decide)) dX2_dots_9 (by decide) (fun c1 => ?_) (fun c1 => ?_)
      · refine c_iload_n (j := 1) C dX2_dots_30 rfl ?_
        exact c_iret C dX2_dots_31 rfl (by decide) (rom0 hph hph (by decide)) ⟨s1, rfl, rfl, rfl, rfl, rfl, rfl, ⟨by omega, by omega⟩, (DTX.fin hD (by omega))⟩
      · refine c_iload_n (j := 1) C dX2_dots_12 rfl ?_
        refine c_aload_n (j := 2) (x := a0) C dX2_dots_13 rfl ?_
        obtain ⟨rb1, rq1, trb1⟩ := hW.ref t_a0 0 rfl rfl rfl
        have lnrb1 : 200 ≤ ln rb1 ∧ ln rb1 ≤ 200 := hW.len trb1 rfl
        refine c_getr (k := 0) C ck_3 dX2_dots_14 w4_44 (by decide) t_a0 rfl rfl (by decide) rfl rq1 ?_
        refine c_st (st2 := [.ref rb1, .int (iI s1)]) rfl ?_
        refine c_iload_n (j := 0) C dX2_dots_17 rfl ?_
        have ll1 : 200 ≤ ln rb1 ∧ ln rb1 ≤ 200 := hW.len trb1 rfl
        refine c_iald C dX2_dots_18 trb1 rfl (by omega) (by omega) (by omega) ?_
        have ri2 : (-2147483648) ≤ iv rb1 k.toNat ∧ iv rb1 k.toNat ≤ 2147483647 := hW.int trb1 k.toNat
        refine c_callS0 (As := [.int (iI (iv rb1 k.toNat))]) (rest := [.int (iI s1)]) C (fun L E => s_bitCount (iI (iv rb1 k.toNat))) dX2_dots_19 kS_X2_42 rfl rfl (Nat.le_of_ble_eq_true rfl) ⟨(Nat.le_of_ble_eq_true rfl), (Nat.le_of_ble_eq_true rfl)⟩ (rom0 hph hph (by decide)) ?_
        obtain ⟨zz1, hzz1, ezz1⟩ := iI_of (bcn (iI (iv rb1 k.toNat)))
        refine c_st (st2 := [.int (iI zz1), .int (iI s1)]) (by rw [ezz1]) ?_
        refine c_iadd C dX2_dots_22 ?_
        obtain ⟨zz2, hzz2, ezz2⟩ := iI_of (iI (s1 + zz1))
        refine c_st (st2 := [.int (iI zz2)]) (by rw [ezz2]) ?_
        refine c_istore_n (lv2 := [(1, .int (iI zz2)), (2, .int (iI k)), (0, .ref a0)]) C dX2_dots_23 (by decide) rfl ?_
        refine c_iinc (z := k) (j := 1) (lv2 := [(2, .int (iI (k + 1))), (1, .int (iI zz2)), (0, .ref a0)]) C dX2_dots_24 rfl (by decide) rfl ?_
        refine c_goto (tgt := 4) C dX2_dots_27 (by decide) ?_
        refine c_lv (lv2 := [(2, .int (iI (k + 1))), (1, .int (iI zz2)), (0, .ref a0)]) [0, 1, 2] rfl ?_
        exact ih1  zz2 (k + 1)  (by omega)   (by omega) (by omega) (hD.step rq1 (by omega) ezz1 ezz2)
  refine c_lv (lv2 := [(2, .int (iI 0)), (1, .int (iI 0)), (0, .ref a0)]) [0, 1, 2] rfl ?_
  exact Lp1 203 0 0  (by omega)   (by omega) (by omega) (DTK.zero rfl rfl)
set_option maxHeartbeats 4000000 in
set_option maxRecDepth 100000 in
theorem G_emboss {l : Launch} {G : GT} {mi : Nat} {sk : Nat → Nat} {L : List Nat} {cl ln : Nat → Nat} {iv : Nat → Nat → Int} {rv : Nat → Nat → Option Nat}  {a0 : Nat} {i : Int} {n : Int} (hW : WT (g0 G) sk L cl ln iv rv) (hS : SKL sk L cl) (t_a0 : ty L cl a0 1) (h_i : -2147483648 ≤ i ∧ i ≤ 2147483647) (h_n : -2147483648 ≤ n ∧ n ≤ 2147483647)  : Mc l G mi (Phi (g0 G) sk) PHM yX11_emboss cX11_emboss 6 (some .int) 2 [.ref a0, .int (iI i), .int (iI n)] L cl ln iv rv 0 (fun v L2 cl2 ln2 iv2 rv2 => ∃ f : Int, v = some (.int (iI f)) ∧ L = L2 ∧ cl = cl2 ∧ ln = ln2 ∧ rv = rv2 ∧ fT [1] L cl iv rv iv2 rv2 ∧ WT (g0 G) sk L2 cl2 ln2 iv2 rv2 ∧ (-2147483648 ≤ f ∧ f ≤ 2147483647) ∧ (True) ∧ iv2 a0 11 = iv a0 11 ∧ iv2 a0 12 = iv a0 12 ∧ iv2 a0 13 = iv a0 13 ∧ iv2 a0 14 = iv a0 14 ∧ iv2 a0 15 = iv a0 15 ∧ (EPX iv rv iv2 a0 i n (iv a0 11) f)) := by
  refine Mc.mk (by decide) (Nat.le_of_ble_eq_true rfl) ?_
  intro p e s m args below meth c A C hM
  refine hv3 (Phi.le hW hS) (show XT L cl ln L cl ln from XT.refl) (show fT [1] L cl iv rv iv rv from fT.refl) (fun hph hX0 hF0 => ?_)
  obtain ⟨sA, hsA, tsA⟩ := hW.ref t_a0 9 rfl rfl rfl
  refine hv3 (show 0 ≤ iv sA 1 ∧ iv sA 1 ≤ 200 from hW.int tsA 1) (show (-2147483648) ≤ iv a0 16 ∧ iv a0 16 ≤ 2147483647 from hW.int t_a0 16) (show 1 ≤ iv a0 11 ∧ iv a0 11 ≤ 100 from hW.int t_a0 11) (fun ri1 ri2 ri3 => ?_)
  refine c_iload_n (j := 2) C dX11_emboss_0 rfl ?_
  refine c_sipush (z := 200) C dX11_emboss_1 (by decide) ?_
  refine c_icmp_le (tgt := 14) C ⟨by omega, by omega⟩ ⟨by decide, by decide⟩ dX11_emboss_4 (by decide) (fun c1 => ?_) (fun c1 => ?_)
  · refine c_iload_n (j := 2) C dX11_emboss_14 rfl ?_
    refine c_if_ge (tgt := 24) C ⟨by omega, by omega⟩ dX11_emboss_15 (by decide) (fun c2 => ?_) (fun c2 => ?_)
    · refine c_iconst C dX11_emboss_24 ?_
      refine c_istore_n (lv2 := [(3, .int (iI 0)), (0, .ref a0), (1, .int (iI i)), (2, .int (iI n))]) C dX11_emboss_25 (by decide) rfl ?_
      refine c_iconst C dX11_emboss_26 ?_
      refine c_istore (lv2 := [(4, .int (iI 0)), (3, .int (iI 0)), (0, .ref a0), (1, .int (iI i)), (2, .int (iI n))]) C dX11_emboss_27 (by decide) rfl ?_
      have Lp1 : ∀ (nn : Nat) (s1 k : Int) (ivb1 : Nat → Nat → Int) , 201 - k < (nn : Int) → WT (g0 G) sk L cl ln ivb1 rv → fT [1] L cl iv rv ivb1 rv → (-2147483648 ≤ s1 ∧ s1 ≤ 2147483647) → (0 ≤ k ∧ k ≤ n ∧ n ≤ 200) → (iI (ivb1 a0 16) = iI (iv a0 16) + iI k) → (EP1 iv rv a0 i (iv a0 11) k s1) → (ivb1 a0 11 = iv a0 11) → (ivb1 a0 12 = iv a0 12) → (ivb1 a0 13 = iv a0 13) → (ivb1 a0 14 = iv a0 14) → (ivb1 a0 15 = iv a0 15) → cw p l e 2 ((PHM) + 0 - ((Phi (g0 G) sk) ln rv)) s m args below meth c G A 6 (MQ below (Qu G A (Qp G (Phi (g0 G) sk) ((Phi (g0 G) sk) ln rv) 0 (fun v L2 cl2 ln2 iv2 rv2 => ∃ f : Int, v = some (.int (iI f)) ∧ L = L2 ∧ cl = cl2 ∧ ln = ln2 ∧ rv = rv2 ∧ fT [1] L cl iv rv iv2 rv2 ∧ WT (g0 G) sk L2 cl2 ln2 iv2 rv2 ∧ (-2147483648 ≤ f ∧ f ≤ 2147483647) ∧ (True) ∧ iv2 a0 11 = iv a0 11 ∧ iv2 a0 12 = iv a0 12 ∧ iv2 a0 13 = iv a0 13 ∧ iv2 a0 14 = iv a0 14 ∧ iv2 a0 15 = iv a0 15 ∧ (EPX iv rv iv2 a0 i n (iv a0 11) f)))) args s (((PHM) + 0 - ((Phi (g0 G) sk) ln rv)) / 16) ((PHM) + 0 - ((Phi (g0 G) sk) ln rv)) A) (Phi (g0 G) sk) ((Phi (g0 G) sk) ln rv) L cl ln ivb1 rv 0 29 [(3, .int (iI s1)), (4, .int (iI k)), (0, .ref a0), (1, .int (iI i)), (2, .int (iI n))] [] := by
        intro nn
        induction nn with
        | zero =>
          intro  s1 k ivb1 hm Wb1 Fb1  hs hk h16 hE hkp11 hkp12 hkp13 hkp14 hkp15
          exact absurd hm (by omega)
        | succ nn ih1 =>
          intro  s1 k ivb1 hm Wb1 Fb1  hs hk h16 hE hkp11 hkp12 hkp13 hkp14 hkp15
          refine hv2 (show (-2147483648) ≤ ivb1 a0 16 ∧ ivb1 a0 16 ≤ 2147483647 from Wb1.int t_a0 16) (show 1 ≤ ivb1 a0 11 ∧ ivb1 a0 11 ≤ 100 from Wb1.int t_a0 11) (fun ri4 ri5 => ?_)
          refine c_iload (j := 1) C dX11_emboss_29 rfl ?_
          refine c_iload_n (j := 4) C dX11_emboss_31 rfl ?_
          refine c_icmp_ge (tgt := 121) C ⟨by omega, by omega⟩ ⟨by omega, by omega⟩ dX11_emboss_32 (by decide) (fun c3 => ?_) (fun c3 => ?_)
          · refine c_aload_n (j := 2) (x := a0) C dX11_emboss_121 rfl ?_
            refine c_iload_n (j := 0) C dX11_emboss_122 rfl ?_
            refine d_callV (As := [.int (iI s1)]) (rest := []) C hM (C_done (a0 := a0) (x := s1) Wb1 hS t_a0 (by omega) ) dX11_emboss_123 kV_X11_109 rfl t_a0 rfl rfl (by decide) ck_12 rfl (Nat.le_of_ble_eq_true rfl) ⟨(Nat.le_of_ble_eq_true rfl), (Nat.le_of_ble_eq_true rfl)⟩ hph hph (show 0 + 0 = 0 from rfl) (by decide) (fun rh1 Lh1 clh1 lnh1 ivh1 rvh1 h1 => ?_)
            obtain ⟨f1, rfl, rfl, rfl, rfl, rfl, fl1, W1, rgf1, exf1, kp11f1, kp12f1, kp13f1, kp14f1, kp15f1, kp16f1⟩ := h1
            refine hv5 (show 1 ≤ ivb1 a0 12 ∧ ivb1 a0 12 ≤ 50 from Wb1.int t_a0 12) (show (-2147483648) ≤ ivb1 a0 13 ∧ ivb1 a0 13 ≤ 2147483647 from Wb1.int t_a0 13) (show (-2147483648) ≤ ivb1 a0 14 ∧ ivb1 a0 14 ≤ 2147483647 from Wb1.int t_a0 14) (show (-2147483648) ≤ ivb1 a0 15 ∧ ivb1 a0 15 ≤ 2147483647 from Wb1.int t_a0 15) (Fb1.call hX0 fl1 rfl) (fun ri6 ri7 ri8 ri9 F1 => ?_)
            refine c_st (st2 := [.int (iI f1)]) rfl ?_
            refine hv13 (show ivh1 a0 11 = ivb1 a0 11 from kp11f1) (show ivh1 a0 12 = ivb1 a0 12 from kp12f1) (show ivh1 a0 13 = ivb1 a0 13 from kp13f1) (show ivh1 a0 14 = ivb1 a0 14 from kp14f1) (show ivh1 a0 15 = ivb1 a0 15 from kp15f1) (show ivh1 a0 16 = ivb1 a0 16 from kp16f1) (show f1 = s1 from exf1) (show 1 ≤ ivh1 a0 11 ∧ ivh1 a0 11 ≤ 100 from W1.int t_a0 11) (show 1 ≤ ivh1 a0 12 ∧ ivh1 a0 12 ≤ 50 from W1.int t_a0 12) (show (-2147483648) ≤ ivh1 a0 13 ∧ ivh1 a0 13 ≤ 2147483647 from W1.int t_a0 13) (show (-2147483648) ≤ ivh1 a0 14 ∧ ivh1 a0 14 ≤ 2147483647 from W1.int t_a0 14) (show (-2147483648) ≤ ivh1 a0 15 ∧ ivh1 a0 15 ≤ 2147483647 from W1.int t_a0 15) (show (-2147483648) ≤ ivh1 a0 16 ∧ ivh1 a0 16 ≤ 2147483647 from W1.int t_a0 16) (fun gk11f1 gk12f1 gk13f1 gk14f1 gk15f1 gk16f1 gf1 ri10 ri11 ri12 ri13 ri14 ri15 => ?_)
            exact c_iret C dX11_emboss_126 rfl (by decide) (rom0 hph hph (by decide)) ⟨f1, rfl, rfl, rfl, rfl, rfl, F1, W1, ⟨by omega, by omega⟩, trivial, (gk11f1.trans hkp11), (gk12f1.trans hkp12), (gk13f1.trans hkp13), (gk14f1.trans hkp14), (gk15f1.trans hkp15), (EPX.ok hE (by omega) ⟨by omega, by omega⟩ (by omega) (by rw [show ivh1 a0 16 = ivb1 a0 16 by omega]; exact h16))⟩
          · refine c_aload_n (j := 2) (x := a0) C dX11_emboss_35 rfl ?_
            refine c_dup C dX11_emboss_36 rfl ?_
            refine c_get (k := 16) C ck_12 dX11_emboss_37 w2_60 (by decide) t_a0 rfl rfl (by decide) rfl ?_
            refine c_iconst C dX11_emboss_40 ?_
            refine c_iadd C dX11_emboss_41 ?_
            obtain ⟨zz1, hzz1, ezz1⟩ := iI_of (iI ((ivb1 a0 16) + 1))
            refine c_st (st2 := [.int (iI zz1), .ref a0]) (by rw [ezz1]) ?_
            refine c_put (z := zz1) (k := 16) C ck_12 dX11_emboss_42 w2_60 (by decide) rfl t_a0 rfl rfl (by decide) rfl (by rfl) (by rfl) (fun iv1 pq1 => ?_)
            refine hv2 (Wb1.puti pq1 t_a0 (show (-2147483648) ≤ zz1 ∧ zz1 ≤ 2147483647 by omega) rfl) (Fb1.puti hX0 pq1 t_a0 rfl) (fun W2 F2 => ?_)
            refine c_aload_n (j := 2) (x := a0) C dX11_emboss_45 rfl ?_
            refine c_getr (k := 9) C ck_12 dX11_emboss_46 w2_53 (by decide) t_a0 rfl rfl (by decide) rfl hsA ?_
            refine c_st (st2 := [.ref sA]) rfl ?_
            refine c_iload_n (j := 3) C dX11_emboss_49 rfl ?_
            refine c_iload (j := 1) C dX11_emboss_50 rfl ?_
            refine c_iadd C dX11_emboss_52 ?_
            obtain ⟨zz2, hzz2, ezz2⟩ := iI_of (iI (i + k))
            refine c_st (st2 := [.int (iI zz2), .ref sA]) (by rw [ezz2]) ?_
            refine hv3 (show 0 ≤ iv1 sA 1 ∧ iv1 sA 1 ≤ 200 from W2.int tsA 1) (show iv1 sA 1 = ivb1 sA 1 from by rw [pq1]; exact up2_k (ne_ty tsA t_a0 (by decide))) (show ivb1 sA 1 = iv sA 1 from Fb1.i tsA rfl 1) (fun ri16 ie13 ie14 => ?_)
            refine d_callV (As := [.int (iI zz2)]) (rest := []) C hM (G_sat (a0 := sA) (i := zz2) W2 hS tsA (by omega) ) dX11_emboss_53 kV_X11_308 rfl tsA rfl rfl (by decide) ck_8 rfl (Nat.le_of_ble_eq_true rfl) ⟨(Nat.le_of_ble_eq_true rfl), (Nat.le_of_ble_eq_true rfl)⟩ hph hph (show 0 + 0 = 0 from rfl) (by decide) (fun rh2 Lh2 clh2 lnh2 ivh2 rvh2 h2 => ?_)
            obtain ⟨f2, rfl, rfl, rfl, rfl, rfl, rfl, rgf2, exf2⟩ := h2
            refine c_st (st2 := [(va_rf f2)]) rfl ?_
            have gf2 : SATX iv1 rv sA zz2 f2 := exf2
            have gaf2 := SATX.up (iv := iv) (SATX.wr gf2 (wr_add (x := i + k) hzz2 ⟨by omega, by omega⟩ ezz2) (by omega)) (by omega)
            refine c_astorer (r := f2) (lv2 := [(5, (va_rf f2)), (3, .int (iI s1)), (4, .int (iI k)), (0, .ref a0), (1, .int (iI i)), (2, .int (iI n))]) C dX11_emboss_56 (by decide) rfl ?_
            refine c_aloadr (j := 0) (r := f2) C dX11_emboss_58 rfl ?_
            refine c_ifnonnull (r := f2) (tgt := 69) C dX11_emboss_60 (by decide) (fun ob1 oq1 => ?_) (fun oq1 => ?_)
            · subst oq1
              have tob1 := rgf2 ob1 rfl
              refine c_lv (lv2 := [(5, .ref ob1), (3, .int (iI s1)), (4, .int (iI k)), (0, .ref a0), (1, .int (iI i)), (2, .int (iI n))]) [0, 1, 2, 3, 4, 5] rfl ?_
              refine c_st (st2 := []) rfl ?_
              refine hv8 (show 0 ≤ iv1 ob1 1 ∧ iv1 ob1 1 ≤ 200 from W2.int tob1 1) (show iv1 ob1 1 = ivb1 ob1 1 from by rw [pq1]; exact up2_k (ne_ty tob1 t_a0 (by decide))) (show ivb1 ob1 1 = iv ob1 1 from Fb1.i tob1 rfl 1) (show 0 ≤ iv1 ob1 2 ∧ iv1 ob1 2 ≤ 1 from W2.int tob1 2) (show iv1 ob1 2 = ivb1 ob1 2 from by rw [pq1]; exact up2_k (ne_ty tob1 t_a0 (by decide))) (show ivb1 ob1 2 = iv ob1 2 from Fb1.i tob1 rfl 2) (show 1 ≤ iv1 a0 11 ∧ iv1 a0 11 ≤ 100 from W2.int t_a0 11) (show iv1 a0 11 = ivb1 a0 11 from by rw [pq1]; exact up2_j (by decide)) (fun ri17 ie15 ie16 ri18 ie17 ie18 ri19 ie19 => ?_)
              refine c_aload (j := 0) (x := ob1) C dX11_emboss_69 rfl ?_
              refine c_get (k := 2) C ck_3 dX11_emboss_71 w4_56 (by decide) tob1 rfl rfl (by decide) rfl ?_
              refine c_if_ne (tgt := 95) C (r32_c (lo := 0) (hi := 1) ri18.1 ri18.2 (by decide) (by decide)) dX11_emboss_74 (by decide) (fun c4 => ?_) (fun c4 => ?_)
              · refine c_iload_n (j := 1) C dX11_emboss_95 rfl ?_
                refine c_aload (j := 0) (x := ob1) C dX11_emboss_96 rfl ?_
                refine c_get (k := 2) C ck_3 dX11_emboss_98 w4_56 (by decide) tob1 rfl rfl (by decide) rfl ?_
                refine c_if_eq (tgt := 108) C (r32_c (lo := 0) (hi := 1) ri18.1 ri18.2 (by decide) (by decide)) dX11_emboss_101 (by decide) (fun z => absurd z (by omega)) (fun _ => ?_)
                refine c_iconst C dX11_emboss_104 ?_
                refine c_goto (tgt := 113) C dX11_emboss_105 (by decide) ?_
                refine c_iadd C dX11_emboss_113 ?_
                obtain ⟨zz3, hzz3, ezz3⟩ := iI_of (iI (s1 + 0))
                refine c_st (st2 := [.int (iI zz3)]) (by rw [ezz3]) ?_
                refine c_istore_n (lv2 := [(3, .int (iI zz3)), (5, .ref ob1), (4, .int (iI k)), (0, .ref a0), (1, .int (iI i)), (2, .int (iI n))]) C dX11_emboss_114 (by decide) rfl ?_
                refine c_iinc (z := k) (j := 2) (lv2 := [(4, .int (iI (k + 1))), (3, .int (iI zz3)), (5, .ref ob1), (0, .ref a0), (1, .int (iI i)), (2, .int (iI n))]) C dX11_emboss_115 rfl (by decide) rfl ?_
                refine c_goto (tgt := 29) C dX11_emboss_118 (by decide) ?_
                refine hv10 (show (-2147483648) ≤ iv1 a0 16 ∧ iv1 a0 16 ≤ 2147483647 from W2.int t_a0 16) (show iv1 a0 16 = zz1 from by rw [pq1]; exact up2_s) (show 1 ≤ iv1 a0 12 ∧ iv1 a0 12 ≤ 50 from W2.int t_a0 12) (show iv1 a0 12 = ivb1 a0 12 from by rw [pq1]; exact up2_j (by decide)) (show (-2147483648) ≤ iv1 a0 13 ∧ iv1 a0 13 ≤ 2147483647 from W2.int t_a0 13) (show iv1 a0 13 = ivb1 a0 13 from by rw [pq1]; exact up2_j (by decide)) (show (-2147483648) ≤ iv1 a0 14 ∧ iv1 a0 14 ≤ 2147483647 from W2.int t_a0 14) (show iv1 a0 14 = ivb1 a0 14 from by rw [pq1]; exact up2_j (by decide)) (show (-2147483648) ≤ iv1 a0 15 ∧ iv1 a0 15 ≤ 2147483647 from W2.int t_a0 15) (show iv1 a0 15 = ivb1 a0 15 from by rw [pq1]; exact up2_j (by decide)) (fun ri20 ie20 ri21 ie21 ri22 ie23 ri23 ie25 ri24 ie27 => ?_)
                refine c_lv (lv2 := [(3, .int (iI zz3)), (4, .int (iI (k + 1))), (0, .ref a0), (1, .int (iI i)), (2, .int (iI n))]) [1, 0, 3, 4, 5] rfl ?_
                exact ih1  zz3 (k + 1) _ (by omega) W2 F2  (by omega) (by omega) (cnt_s h16 ezz1 (by omega)) (EP1.lck hE hsA gaf2 (by omega) (by omega) (by rw [← ezz3, Int.add_zero])) (ie19.trans hkp11) (ie21.trans hkp12) (ie23.trans hkp13) (ie25.trans hkp14) (ie27.trans hkp15)
              · refine c_aload (j := 0) (x := ob1) C dX11_emboss_77 rfl ?_
                refine c_get (k := 1) C ck_3 dX11_emboss_79 w4_53 (by decide) tob1 rfl rfl (by decide) rfl ?_
                refine c_aload_n (j := 3) (x := a0) C dX11_emboss_82 rfl ?_
                refine c_get (k := 11) C ck_12 dX11_emboss_83 w2_55 (by decide) t_a0 rfl rfl (by decide) rfl ?_
                refine c_icmp_le (tgt := 95) C (r32_c (lo := 0) (hi := 200) ri17.1 ri17.2 (by decide) (by decide)) (r32_c (lo := 1) (hi := 100) ri19.1 ri19.2 (by decide) (by decide)) dX11_emboss_86 (by decide) (fun c5 => ?_) (fun c5 => ?_)
                · refine c_iload_n (j := 1) C dX11_emboss_95 rfl ?_
                  refine c_aload (j := 0) (x := ob1) C dX11_emboss_96 rfl ?_
                  refine c_get (k := 2) C ck_3 dX11_emboss_98 w4_56 (by decide) tob1 rfl rfl (by decide) rfl ?_
                  refine c_if_eq (tgt := 108) C (r32_c (lo := 0) (hi := 1) ri18.1 ri18.2 (by decide) (by decide)) dX11_emboss_101 (by decide) (fun _ => ?_) (fun z => absurd z (by omega))
                  refine c_aload (j := 0) (x := ob1) C dX11_emboss_108 rfl ?_
                  refine d_callV (As := []) (rest := [.int (iI s1)]) C hM (G_dots (a0 := ob1) W2 hS tob1  ) dX11_emboss_110 kV_X11_326 rfl tob1 rfl rfl (by decide) ck_3 rfl (Nat.le_of_ble_eq_true rfl) ⟨(Nat.le_of_ble_eq_true rfl), (Nat.le_of_ble_eq_true rfl)⟩ hph hph (show 0 + 0 = 0 from rfl) (by decide) (fun rh3 Lh3 clh3 lnh3 ivh3 rvh3 h3 => ?_)
                  obtain ⟨f3, rfl, rfl, rfl, rfl, rfl, rfl, rgf3, exf3⟩ := h3
                  refine c_st (st2 := [.int (iI f3), .int (iI s1)]) rfl ?_
                  have gf3 : DTX iv1 rv ob1 f3 := exf3
                  refine c_iadd C dX11_emboss_113 ?_
                  obtain ⟨zz4, hzz4, ezz4⟩ := iI_of (iI (s1 + f3))
                  refine c_st (st2 := [.int (iI zz4)]) (by rw [ezz4]) ?_
                  refine c_istore_n (lv2 := [(3, .int (iI zz4)), (5, .ref ob1), (4, .int (iI k)), (0, .ref a0), (1, .int (iI i)), (2, .int (iI n))]) C dX11_emboss_114 (by decide) rfl ?_
                  refine c_iinc (z := k) (j := 2) (lv2 := [(4, .int (iI (k + 1))), (3, .int (iI zz4)), (5, .ref ob1), (0, .ref a0), (1, .int (iI i)), (2, .int (iI n))]) C dX11_emboss_115 rfl (by decide) rfl ?_
                  refine c_goto (tgt := 29) C dX11_emboss_118 (by decide) ?_
                  refine hv10 (show (-2147483648) ≤ iv1 a0 16 ∧ iv1 a0 16 ≤ 2147483647 from W2.int t_a0 16) (show iv1 a0 16 = zz1 from by rw [pq1]; exact up2_s) (show 1 ≤ iv1 a0 12 ∧ iv1 a0 12 ≤ 50 from W2.int t_a0 12) (show iv1 a0 12 = ivb1 a0 12 from by rw [pq1]; exact up2_j (by decide)) (show (-2147483648) ≤ iv1 a0 13 ∧ iv1 a0 13 ≤ 2147483647 from W2.int t_a0 13) (show iv1 a0 13 = ivb1 a0 13 from by rw [pq1]; exact up2_j (by decide)) (show (-2147483648) ≤ iv1 a0 14 ∧ iv1 a0 14 ≤ 2147483647 from W2.int t_a0 14) (show iv1 a0 14 = ivb1 a0 14 from by rw [pq1]; exact up2_j (by decide)) (show (-2147483648) ≤ iv1 a0 15 ∧ iv1 a0 15 ≤ 2147483647 from W2.int t_a0 15) (show iv1 a0 15 = ivb1 a0 15 from by rw [pq1]; exact up2_j (by decide)) (fun ri25 ie29 ri26 ie30 ri27 ie32 ri28 ie34 ri29 ie36 => ?_)
                  refine c_lv (lv2 := [(3, .int (iI zz4)), (4, .int (iI (k + 1))), (0, .ref a0), (1, .int (iI i)), (2, .int (iI n))]) [1, 0, 3, 4, 5] rfl ?_
                  exact ih1  zz4 (k + 1) _ (by omega) W2 F2  (by omega) (by omega) (cnt_s h16 ezz1 (by omega)) (EP1.dts hE hsA gaf2 (by omega) (by omega) (by omega) (fun xs hx => gf3 xs (LNE.fr hx (funext fun j => F2.i tob1 rfl j) rfl (fun cb hc => funext fun j => F2.i (li64 hW tob1 hc) rfl j))) ezz4) (ie19.trans hkp11) (ie30.trans hkp12) (ie32.trans hkp13) (ie34.trans hkp14) (ie36.trans hkp15)
                · refine c_aload_n (j := 3) (x := a0) C dX11_emboss_89 rfl ?_
                  refine c_iload_n (j := 1) C dX11_emboss_90 rfl ?_
                  refine d_callV (As := [.int (iI s1)]) (rest := []) C hM (C_done (a0 := a0) (x := s1) W2 hS t_a0 (by omega) ) dX11_emboss_91 kV_X11_109 rfl t_a0 rfl rfl (by decide) ck_12 rfl (Nat.le_of_ble_eq_true rfl) ⟨(Nat.le_of_ble_eq_true rfl), (Nat.le_of_ble_eq_true rfl)⟩ hph hph (show 0 + 0 = 0 from rfl) (by decide) (fun rh4 Lh4 clh4 lnh4 ivh4 rvh4 h4 => ?_)
                  obtain ⟨f4, rfl, rfl, rfl, rfl, rfl, fl4, W5, rgf4, exf4, kp11f4, kp12f4, kp13f4, kp14f4, kp15f4, kp16f4⟩ := h4
                  refine hv11 (show 1 ≤ iv1 a0 12 ∧ iv1 a0 12 ≤ 50 from W2.int t_a0 12) (show iv1 a0 12 = ivb1 a0 12 from by rw [pq1]; exact up2_j (by decide)) (show (-2147483648) ≤ iv1 a0 13 ∧ iv1 a0 13 ≤ 2147483647 from W2.int t_a0 13) (show iv1 a0 13 = ivb1 a0 13 from by rw [pq1]; exact up2_j (by decide)) (show (-2147483648) ≤ iv1 a0 14 ∧ iv1 a0 14 ≤ 2147483647 from W2.int t_a0 14) (show iv1 a0 14 = ivb1 a0 14 from by rw [pq1]; exact up2_j (by decide)) (show (-2147483648) ≤ iv1 a0 15 ∧ iv1 a0 15 ≤ 2147483647 from W2.int t_a0 15) (show iv1 a0 15 = ivb1 a0 15 from by rw [pq1]; exact up2_j (by decide)) (show (-2147483648) ≤ iv1 a0 16 ∧ iv1 a0 16 ≤ 2147483647 from W2.int t_a0 16) (show iv1 a0 16 = zz1 from by rw [pq1]; exact up2_s) (F2.call hX0 fl4 rfl) (fun ri30 ie38 ri31 ie40 ri32 ie42 ri33 ie44 ri34 ie46 F3 => ?_)
                  refine c_st (st2 := [.int (iI f4)]) rfl ?_
                  refine hv17 (show ivh4 a0 11 = iv1 a0 11 from kp11f4) (show ivh4 a0 12 = iv1 a0 12 from kp12f4) (show ivh4 a0 13 = iv1 a0 13 from kp13f4) (show ivh4 a0 14 = iv1 a0 14 from kp14f4) (show ivh4 a0 15 = iv1 a0 15 from kp15f4) (show ivh4 a0 16 = iv1 a0 16 from kp16f4) (show f4 = s1 from exf4) (show 1 ≤ ivh4 a0 11 ∧ ivh4 a0 11 ≤ 100 from W5.int t_a0 11) (show 1 ≤ ivh4 a0 12 ∧ ivh4 a0 12 ≤ 50 from W5.int t_a0 12) (show (-2147483648) ≤ ivh4 a0 13 ∧ ivh4 a0 13 ≤ 2147483647 from W5.int t_a0 13) (show (-2147483648) ≤ ivh4 a0 14 ∧ ivh4 a0 14 ≤ 2147483647 from W5.int t_a0 14) (show (-2147483648) ≤ ivh4 a0 15 ∧ ivh4 a0 15 ≤ 2147483647 from W5.int t_a0 15) (show (-2147483648) ≤ ivh4 a0 16 ∧ ivh4 a0 16 ≤ 2147483647 from W5.int t_a0 16) (show 0 ≤ ivh4 ob1 1 ∧ ivh4 ob1 1 ≤ 200 from W5.int tob1 1) (show ivh4 ob1 1 = iv1 ob1 1 from fl4.i tob1 rfl 1) (show 0 ≤ ivh4 ob1 2 ∧ ivh4 ob1 2 ≤ 1 from W5.int tob1 2) (show ivh4 ob1 2 = iv1 ob1 2 from fl4.i tob1 rfl 2) (fun gk11f4 gk12f4 gk13f4 gk14f4 gk15f4 gk16f4 gf4 ri35 ri36 ri37 ri38 ri39 ri40 ri41 ie53 ri42 ie54 => ?_)
                  exact c_iret C dX11_emboss_94 rfl (by decide) (rom0 hph hph (by decide)) ⟨f4, rfl, rfl, rfl, rfl, rfl, F3, W5, ⟨by omega, by omega⟩, trivial, (gk11f4.trans (ie19.trans hkp11)), (gk12f4.trans (ie38.trans hkp12)), (gk13f4.trans (ie40.trans hkp13)), (gk14f4.trans (ie42.trans hkp14)), (gk15f4.trans (ie44.trans hkp15)), (EPX.big hE hsA ⟨by omega, by omega⟩ (by omega) (cnt_s h16 ezz1 (by omega)) gaf2 (by omega) (by omega) (by omega))⟩
            · subst oq1
              refine c_lv (lv2 := [(5, .null), (3, .int (iI s1)), (4, .int (iI k)), (0, .ref a0), (1, .int (iI i)), (2, .int (iI n))]) [0, 1, 2, 3, 4, 5] rfl ?_
              refine c_st (st2 := []) rfl ?_
              refine c_aload_n (j := 3) (x := a0) C dX11_emboss_63 rfl ?_
              refine c_iconst C dX11_emboss_64 ?_
              refine d_callV (As := [.int (iI 2)]) (rest := []) C hM (C_refuse (a0 := a0) (x := 2) W2 hS t_a0 ⟨by decide, by decide⟩ ) dX11_emboss_65 kV_X11_102 rfl t_a0 rfl rfl (by decide) ck_12 rfl (Nat.le_of_ble_eq_true rfl) ⟨(Nat.le_of_ble_eq_true rfl), (Nat.le_of_ble_eq_true rfl)⟩ hph hph (show 0 + 0 = 0 from rfl) (by decide) (fun rh5 Lh5 clh5 lnh5 ivh5 rvh5 h5 => ?_)
              obtain ⟨f5, rfl, rfl, rfl, rfl, rfl, fl5, W6, rgf5, exf5, kp11f5, kp12f5, kp13f5, kp14f5, kp15f5, kp16f5⟩ := h5
              refine hv13 (show 1 ≤ iv1 a0 11 ∧ iv1 a0 11 ≤ 100 from W2.int t_a0 11) (show iv1 a0 11 = ivb1 a0 11 from by rw [pq1]; exact up2_j (by decide)) (show 1 ≤ iv1 a0 12 ∧ iv1 a0 12 ≤ 50 from W2.int t_a0 12) (show iv1 a0 12 = ivb1 a0 12 from by rw [pq1]; exact up2_j (by decide)) (show (-2147483648) ≤ iv1 a0 13 ∧ iv1 a0 13 ≤ 2147483647 from W2.int t_a0 13) (show iv1 a0 13 = ivb1 a0 13 from by rw [pq1]; exact up2_j (by decide)) (show (-2147483648) ≤ iv1 a0 14 ∧ iv1 a0 14 ≤ 2147483647 from W2.int t_a0 14) (show iv1 a0 14 = ivb1 a0 14 from by rw [pq1]; exact up2_j (by decide)) (show (-2147483648) ≤ iv1 a0 15 ∧ iv1 a0 15 ≤ 2147483647 from W2.int t_a0 15) (show iv1 a0 15 = ivb1 a0 15 from by rw [pq1]; exact up2_j (by decide)) (show (-2147483648) ≤ iv1 a0 16 ∧ iv1 a0 16 ≤ 2147483647 from W2.int t_a0 16) (show iv1 a0 16 = zz1 from by rw [pq1]; exact up2_s) (F2.call hX0 fl5 rfl) (fun ri43 ie55 ri44 ie56 ri45 ie58 ri46 ie60 ri47 ie62 ri48 ie64 F4 => ?_)
              refine c_st (st2 := [.int (iI f5)]) rfl ?_
              refine hv13 (show ivh5 a0 11 = iv1 a0 11 from kp11f5) (show ivh5 a0 12 = iv1 a0 12 from kp12f5) (show ivh5 a0 13 = iv1 a0 13 from kp13f5) (show ivh5 a0 14 = iv1 a0 14 from kp14f5) (show ivh5 a0 15 = iv1 a0 15 from kp15f5) (show ivh5 a0 16 = iv1 a0 16 from kp16f5) (show f5 = -1 from exf5) (show 1 ≤ ivh5 a0 11 ∧ ivh5 a0 11 ≤ 100 from W6.int t_a0 11) (show 1 ≤ ivh5 a0 12 ∧ ivh5 a0 12 ≤ 50 from W6.int t_a0 12) (show (-2147483648) ≤ ivh5 a0 13 ∧ ivh5 a0 13 ≤ 2147483647 from W6.int t_a0 13) (show (-2147483648) ≤ ivh5 a0 14 ∧ ivh5 a0 14 ≤ 2147483647 from W6.int t_a0 14) (show (-2147483648) ≤ ivh5 a0 15 ∧ ivh5 a0 15 ≤ 2147483647 from W6.int t_a0 15) (show (-2147483648) ≤ ivh5 a0 16 ∧ ivh5 a0 16 ≤ 2147483647 from W6.int t_a0 16) (fun gk11f5 gk12f5 gk13f5 gk14f5 gk15f5 gk16f5 gf5 ri49 ri50 ri51 ri52 ri53 ri54 => ?_)
              exact c_iret C dX11_emboss_68 rfl (by decide) (rom0 hph hph (by decide)) ⟨f5, rfl, rfl, rfl, rfl, rfl, F4, W6, ⟨by omega, by omega⟩, trivial, (gk11f5.trans (ie55.trans hkp11)), (gk12f5.trans (ie56.trans hkp12)), (gk13f5.trans (ie58.trans hkp13)), (gk14f5.trans (ie60.trans hkp14)), (gk15f5.trans (ie62.trans hkp15)), (EPX.nul hE hsA ⟨by omega, by omega⟩ (by omega) (cnt_s h16 ezz1 (by omega)) gaf2 (by omega))⟩
      refine hv4 (show 1 ≤ iv a0 12 ∧ iv a0 12 ≤ 50 from hW.int t_a0 12) (show (-2147483648) ≤ iv a0 13 ∧ iv a0 13 ≤ 2147483647 from hW.int t_a0 13) (show (-2147483648) ≤ iv a0 14 ∧ iv a0 14 ≤ 2147483647 from hW.int t_a0 14) (show (-2147483648) ≤ iv a0 15 ∧ iv a0 15 ≤ 2147483647 from hW.int t_a0 15) (fun ri55 ri56 ri57 ri58 => ?_)
      refine c_lv (lv2 := [(3, .int (iI 0)), (4, .int (iI 0)), (0, .ref a0), (1, .int (iI i)), (2, .int (iI n))]) [1, 0, 2, 3, 4] rfl ?_
      exact Lp1 203 0 0 _ (by omega) hW hF0  (by omega) (by omega) (cnt_0 rfl) (EP1.zero rfl rfl) rfl rfl rfl rfl rfl
    · refine c_aload_n (j := 0) (x := a0) C dX11_emboss_18 rfl ?_
      refine c_iconst C dX11_emboss_19 ?_
      refine d_callV (As := [.int (iI 5)]) (rest := []) C hM (C_refuse (a0 := a0) (x := 5) hW hS t_a0 ⟨by decide, by decide⟩ ) dX11_emboss_20 kV_X11_102 rfl t_a0 rfl rfl (by decide) ck_12 rfl (Nat.le_of_ble_eq_true rfl) ⟨(Nat.le_of_ble_eq_true rfl), (Nat.le_of_ble_eq_true rfl)⟩ hph hph (show 0 + 0 = 0 from rfl) (by decide) (fun rh6 Lh6 clh6 lnh6 ivh6 rvh6 h6 => ?_)
      obtain ⟨f6, rfl, rfl, rfl, rfl, rfl, fl6, W7, rgf6, exf6, kp11f6, kp12f6, kp13f6, kp14f6, kp15f6, kp16f6⟩ := h6
      refine hv5 (show 1 ≤ iv a0 12 ∧ iv a0 12 ≤ 50 from hW.int t_a0 12) (show (-2147483648) ≤ iv a0 13 ∧ iv a0 13 ≤ 2147483647 from hW.int t_a0 13) (show (-2147483648) ≤ iv a0 14 ∧ iv a0 14 ≤ 2147483647 from hW.int t_a0 14) (show (-2147483648) ≤ iv a0 15 ∧ iv a0 15 ≤ 2147483647 from hW.int t_a0 15) (hF0.call hX0 fl6 rfl) (fun ri59 ri60 ri61 ri62 F5 => ?_)
      refine c_st (st2 := [.int (iI f6)]) rfl ?_
      refine hv13 (show ivh6 a0 11 = iv a0 11 from kp11f6) (show ivh6 a0 12 = iv a0 12 from kp12f6) (show ivh6 a0 13 = iv a0 13 from kp13f6) (show ivh6 a0 14 = iv a0 14 from kp14f6) (show ivh6 a0 15 = iv a0 15 from kp15f6) (show ivh6 a0 16 = iv a0 16 from kp16f6) (show f6 = -1 from exf6) (show 1 ≤ ivh6 a0 11 ∧ ivh6 a0 11 ≤ 100 from W7.int t_a0 11) (show 1 ≤ ivh6 a0 12 ∧ ivh6 a0 12 ≤ 50 from W7.int t_a0 12) (show (-2147483648) ≤ ivh6 a0 13 ∧ ivh6 a0 13 ≤ 2147483647 from W7.int t_a0 13) (show (-2147483648) ≤ ivh6 a0 14 ∧ ivh6 a0 14 ≤ 2147483647 from W7.int t_a0 14) (show (-2147483648) ≤ ivh6 a0 15 ∧ ivh6 a0 15 ≤ 2147483647 from W7.int t_a0 15) (show (-2147483648) ≤ ivh6 a0 16 ∧ ivh6 a0 16 ≤ 2147483647 from W7.int t_a0 16) (fun gk11f6 gk12f6 gk13f6 gk14f6 gk15f6 gk16f6 gf6 ri63 ri64 ri65 ri66 ri67 ri68 => ?_)
      exact c_iret C dX11_emboss_23 rfl (by decide) (rom0 hph hph (by decide)) ⟨f6, rfl, rfl, rfl, rfl, rfl, F5, W7, ⟨by omega, by omega⟩, trivial, gk11f6, gk12f6, gk13f6, gk14f6, gk15f6, (EPX.bad (by omega) (by omega) (by omega))⟩
  · refine c_aload_n (j := 0) (x := a0) C dX11_emboss_7 rfl ?_
    refine c_bipush (z := 6) C dX11_emboss_8 (by decide) ?_
    refine d_callV (As := [.int (iI 6)]) (rest := []) C hM (C_refuse (a0 := a0) (x := 6) hW hS t_a0 ⟨by decide, by decide⟩ ) dX11_emboss_10 kV_X11_102 rfl t_a0 rfl rfl (by decide) ck_12 rfl (Nat.le_of_ble_eq_true rfl) ⟨(Nat.le_of_ble_eq_true rfl), (Nat.le_of_ble_eq_true rfl)⟩ hph hph (show 0 + 0 = 0 from rfl) (by decide) (fun rh7 Lh7 clh7 lnh7 ivh7 rvh7 h7 => ?_)
    obtain ⟨f7, rfl, rfl, rfl, rfl, rfl, fl7, W8, rgf7, exf7, kp11f7, kp12f7, kp13f7, kp14f7, kp15f7, kp16f7⟩ := h7
    refine hv5 (show 1 ≤ iv a0 12 ∧ iv a0 12 ≤ 50 from hW.int t_a0 12) (show (-2147483648) ≤ iv a0 13 ∧ iv a0 13 ≤ 2147483647 from hW.int t_a0 13) (show (-2147483648) ≤ iv a0 14 ∧ iv a0 14 ≤ 2147483647 from hW.int t_a0 14) (show (-2147483648) ≤ iv a0 15 ∧ iv a0 15 ≤ 2147483647 from hW.int t_a0 15) (hF0.call hX0 fl7 rfl) (fun ri69 ri70 ri71 ri72 F6 => ?_)
    refine c_st (st2 := [.int (iI f7)]) rfl ?_
    refine hv13 (show ivh7 a0 11 = iv a0 11 from kp11f7) (show ivh7 a0 12 = iv a0 12 from kp12f7) (show ivh7 a0 13 = iv a0 13 from kp13f7) (show ivh7 a0 14 = iv a0 14 from kp14f7) (show ivh7 a0 15 = iv a0 15 from kp15f7) (show ivh7 a0 16 = iv a0 16 from kp16f7) (show f7 = -1 from exf7) (show 1 ≤ ivh7 a0 11 ∧ ivh7 a0 11 ≤ 100 from W8.int t_a0 11) (show 1 ≤ ivh7 a0 12 ∧ ivh7 a0 12 ≤ 50 from W8.int t_a0 12) (show (-2147483648) ≤ ivh7 a0 13 ∧ ivh7 a0 13 ≤ 2147483647 from W8.int t_a0 13) (show (-2147483648) ≤ ivh7 a0 14 ∧ ivh7 a0 14 ≤ 2147483647 from W8.int t_a0 14) (show (-2147483648) ≤ ivh7 a0 15 ∧ ivh7 a0 15 ≤ 2147483647 from W8.int t_a0 15) (show (-2147483648) ≤ ivh7 a0 16 ∧ ivh7 a0 16 ≤ 2147483647 from W8.int t_a0 16) (fun gk11f7 gk12f7 gk13f7 gk14f7 gk15f7 gk16f7 gf7 ri73 ri74 ri75 ri76 ri77 ri78 => ?_)
    exact c_iret C dX11_emboss_13 rfl (by decide) (rom0 hph hph (by decide)) ⟨f7, rfl, rfl, rfl, rfl, rfl, F6, W8, ⟨by omega, by omega⟩, trivial, gk11f7, gk12f7, gk13f7, gk14f7, gk15f7, (EPX.bad (by omega) (by omega) (by omega))⟩
end
section
theorem PO2_lose {l : Launch} {G : GT} {mi h0 : Nat} {i : Int} (h_i : -2147483648 ≤ i ∧ i ≤ 2147483647) : PressOp l G mi yX11_lose cX11_lose 3 (some .int) 1 [.int (iI i)] h0 (fun sk L cl ln iv rv L2 cl2 ln2 iv2 rv2 f => ((TCH iv rv iv2 h0 (fun E E2 => LOSX E i f E2) ∧ rv2 = rv) ∧ (KSQ h0 iv rv iv2 rv2 ∧ True ∧ iv2 h0 15 = iv h0 15 ∧ iv2 h0 16 = iv h0 16 ∧ (iv2 (sk 5) 2 = iv (sk 5) 2 ∧ ∀ ss, CT iv rv (sk 5) ss → CT iv2 rv2 (sk 5) ss) ∧ (iv2 (sk 4) 2 = iv (sk 4) 2 ∧ ∀ ss, CT iv rv (sk 4) ss → CT iv2 rv2 (sk 4) ss) ∧ FKP sk iv rv iv2 rv2)) ∧ (iv2 h0 14 = iv h0 14 ∧ iv2 h0 11 = iv h0 11 ∧ iv2 h0 12 = iv h0 12 ∧ iv2 h0 13 = iv h0 13) ∧ (iv2 (sk 2) 2 = iv (sk 2) 2 ∧ (∀ ss, CT iv rv (sk 2) ss → CT iv2 rv2 (sk 2) ss)) ∧ (iv2 (sk 3) 2 = iv (sk 3) 2 ∧ (∀ tt, CT iv rv (sk 3) tt → CT iv2 rv2 (sk 3) tt)) ∧ PSAME sk iv rv iv2 rv2 ∧ (∃ g, WT g sk L cl ln iv rv ∧ WT g sk L2 cl2 ln2 iv2 rv2) ∧ SKL sk L cl ∧ XT L cl ln L2 cl2 ln2 ∧ (KP L cl (fun _ => False) (fun _ => False) (fun _ => False) (fun _ => False) (fun _ _ => False) iv rv iv2 rv2)) := by
  intro n L cl ln iv rv sk hn hp
  obtain ⟨hW, hS, hm, h23, ht⟩ := hp
  refine hv3 (show ty L cl (sk 23) 23 from ⟨(hS 23 rfl).1, by rw [(hS 23 rfl).2]; rfl⟩) (show ty L cl (sk 2) 2 from ⟨(hS 2 rfl).1, by rw [(hS 2 rfl).2]; rfl⟩) (show ty L cl (sk 3) 3 from ⟨(hS 3 rfl).1, by rw [(hS 3 rfl).2]; rfl⟩) (fun t23 t2 t3 => ?_)
  refine ⟨0, _, by decide, G_lose hW hS ht h_i , fun v L2 cl2 ln2 iv2 rv2 h => ?_⟩
  obtain ⟨f, rfl, rfl, rfl, rfl, rfl, hF, hW2, rg, ex, kp11, kp12, kp13, kp14, kp15, kp16, lsp⟩ := h
  exact ⟨f, rfl, by omega, XT.refl, hW2, (MRK.call hm hW hS XT.refl hF rfl rfl), (by have q := hF.i t23 rfl 2; omega), ⟨⟨⟨lsp, rfl⟩, ⟨(KSQ.ni hW ht hF rfl), trivial, kp15, kp16, ⟨hF.i (tysq (t := 5) hS rfl rfl) rfl 2, fun ss hs => CT.fr hs hW (tysq (t := 5) hS rfl rfl) hF rfl rfl rfl rfl rfl⟩, ⟨hF.i (tysq (t := 4) hS rfl rfl) rfl 2, fun ss hs => CT.fr hs hW (tysq (t := 4) hS rfl rfl) hF rfl rfl rfl rfl rfl⟩, (FKP.fr hW hS hF rfl rfl rfl rfl)⟩⟩, ⟨kp14, kp11, kp12, kp13⟩, ⟨hF.i t2 rfl 2, fun ss hs => CT.fr hs hW t2 hF rfl rfl rfl rfl rfl⟩, ⟨hF.i t3 rfl 2, fun tt ht => CT.fr ht hW t3 hF rfl rfl rfl rfl rfl⟩, (PSAME.fr hW hS hF rfl rfl rfl rfl rfl rfl rfl), ⟨⟨_, hW, hW2⟩, hS, XT.refl, (KP.fr hW hF rfl)⟩⟩⟩
theorem PO2_cut {l : Launch} {G : GT} {mi h0 : Nat} {i : Int} {n : Int} (h_i : -2147483648 ≤ i ∧ i ≤ 2147483647) (h_n : -2147483648 ≤ n ∧ n ≤ 2147483647) : PressOp l G mi yX11_cut cX11_cut 4 (some .int) 2 [.int (iI i), .int (iI n)] h0 (fun sk L cl ln iv rv L2 cl2 ln2 iv2 rv2 f => ((TCH iv rv iv2 h0 (fun E E2 => CUTX E i n f E2) ∧ rv2 = rv) ∧ (KSQ h0 iv rv iv2 rv2 ∧ True ∧ iv2 h0 15 = iv h0 15 ∧ iv2 h0 16 = iv h0 16 ∧ (iv2 (sk 5) 2 = iv (sk 5) 2 ∧ ∀ ss, CT iv rv (sk 5) ss → CT iv2 rv2 (sk 5) ss) ∧ (iv2 (sk 4) 2 = iv (sk 4) 2 ∧ ∀ ss, CT iv rv (sk 4) ss → CT iv2 rv2 (sk 4) ss) ∧ FKP sk iv rv iv2 rv2)) ∧ (iv2 h0 14 = iv h0 14 ∧ iv2 h0 11 = iv h0 11 ∧ iv2 h0 12 = iv h0 12 ∧ iv2 h0 13 = iv h0 13) ∧ (iv2 (sk 2) 2 = iv (sk 2) 2 ∧ (∀ ss, CT iv rv (sk 2) ss → CT iv2 rv2 (sk 2) ss)) ∧ (iv2 (sk 3) 2 = iv (sk 3) 2 ∧ (∀ tt, CT iv rv (sk 3) tt → CT iv2 rv2 (sk 3) tt)) ∧ PSAME sk iv rv iv2 rv2 ∧ (∃ g, WT g sk L cl ln iv rv ∧ WT g sk L2 cl2 ln2 iv2 rv2) ∧ SKL sk L cl ∧ XT L cl ln L2 cl2 ln2 ∧ (KP L cl (fun _ => False) (fun _ => False) (fun _ => False) (fun _ => False) (fun _ _ => False) iv rv iv2 rv2)) := by
  intro n L cl ln iv rv sk hn hp
  obtain ⟨hW, hS, hm, h23, ht⟩ := hp
  refine hv3 (show ty L cl (sk 23) 23 from ⟨(hS 23 rfl).1, by rw [(hS 23 rfl).2]; rfl⟩) (show ty L cl (sk 2) 2 from ⟨(hS 2 rfl).1, by rw [(hS 2 rfl).2]; rfl⟩) (show ty L cl (sk 3) 3 from ⟨(hS 3 rfl).1, by rw [(hS 3 rfl).2]; rfl⟩) (fun t23 t2 t3 => ?_)
  refine ⟨0, _, by decide, G_cut hW hS ht h_i h_n , fun v L2 cl2 ln2 iv2 rv2 h => ?_⟩
  obtain ⟨f, rfl, rfl, rfl, rfl, rfl, hF, hW2, rg, ex, kp11, kp12, kp13, kp14, kp15, kp16, ctp⟩ := h
  exact ⟨f, rfl, by omega, XT.refl, hW2, (MRK.call hm hW hS XT.refl hF rfl rfl), (by have q := hF.i t23 rfl 2; omega), ⟨⟨⟨ctp, rfl⟩, ⟨(KSQ.ni hW ht hF rfl), trivial, kp15, kp16, ⟨hF.i (tysq (t := 5) hS rfl rfl) rfl 2, fun ss hs => CT.fr hs hW (tysq (t := 5) hS rfl rfl) hF rfl rfl rfl rfl rfl⟩, ⟨hF.i (tysq (t := 4) hS rfl rfl) rfl 2, fun ss hs => CT.fr hs hW (tysq (t := 4) hS rfl rfl) hF rfl rfl rfl rfl rfl⟩, (FKP.fr hW hS hF rfl rfl rfl rfl)⟩⟩, ⟨kp14, kp11, kp12, kp13⟩, ⟨hF.i t2 rfl 2, fun ss hs => CT.fr hs hW t2 hF rfl rfl rfl rfl rfl⟩, ⟨hF.i t3 rfl 2, fun tt ht => CT.fr ht hW t3 hF rfl rfl rfl rfl rfl⟩, (PSAME.fr hW hS hF rfl rfl rfl rfl rfl rfl rfl), ⟨⟨_, hW, hW2⟩, hS, XT.refl, (KP.fr hW hF rfl)⟩⟩⟩
theorem PO2_copyRow {l : Launch} {G : GT} {mi h0 : Nat} {i : Int} {i2 : Int} {j : Int} {j2 : Int} {n : Int} (h_i : -2147483648 ≤ i ∧ i ≤ 2147483647) (h_i2 : -2147483648 ≤ i2 ∧ i2 ≤ 2147483647) (h_j : -2147483648 ≤ j ∧ j ≤ 2147483647) (h_j2 : -2147483648 ≤ j2 ∧ j2 ≤ 2147483647) (h_n : -2147483648 ≤ n ∧ n ≤ 2147483647) : PressOp l G mi yX11_copyRow cX11_copyRow 8 (some .int) 1 [.int (iI i), .int (iI i2), .int (iI j), .int (iI j2), .int (iI n)] h0 (fun sk L cl ln iv rv L2 cl2 ln2 iv2 rv2 f => ((TCH iv rv iv2 h0 (fun E E2 => CPRX E i i2 j j2 n f E2) ∧ rv2 = rv) ∧ (KSQ h0 iv rv iv2 rv2 ∧ True ∧ iv2 h0 15 = iv h0 15 ∧ iv2 h0 16 = iv h0 16 ∧ (iv2 (sk 5) 2 = iv (sk 5) 2 ∧ ∀ ss, CT iv rv (sk 5) ss → CT iv2 rv2 (sk 5) ss) ∧ (iv2 (sk 4) 2 = iv (sk 4) 2 ∧ ∀ ss, CT iv rv (sk 4) ss → CT iv2 rv2 (sk 4) ss) ∧ FKP sk iv rv iv2 rv2)) ∧ (iv2 h0 14 = iv h0 14 ∧ iv2 h0 11 = iv h0 11 ∧ iv2 h0 12 = iv h0 12 ∧ iv2 h0 13 = iv h0 13) ∧ (iv2 (sk 2) 2 = iv (sk 2) 2 ∧ (∀ ss, CT iv rv (sk 2) ss → CT iv2 rv2 (sk 2) ss)) ∧ (iv2 (sk 3) 2 = iv (sk 3) 2 ∧ (∀ tt, CT iv rv (sk 3) tt → CT iv2 rv2 (sk 3) tt)) ∧ PSAME sk iv rv iv2 rv2 ∧ (∃ g, WT g sk L cl ln iv rv ∧ WT g sk L2 cl2 ln2 iv2 rv2) ∧ SKL sk L cl ∧ XT L cl ln L2 cl2 ln2 ∧ (KP L cl (fun _ => False) (fun _ => False) (fun _ => False) (fun _ => False) (fun _ _ => False) iv rv iv2 rv2)) := by
  intro n L cl ln iv rv sk hn hp
  obtain ⟨hW, hS, hm, h23, ht⟩ := hp
  refine hv3 (show ty L cl (sk 23) 23 from ⟨(hS 23 rfl).1, by rw [(hS 23 rfl).2]; rfl⟩) (show ty L cl (sk 2) 2 from ⟨(hS 2 rfl).1, by rw [(hS 2 rfl).2]; rfl⟩) (show ty L cl (sk 3) 3 from ⟨(hS 3 rfl).1, by rw [(hS 3 rfl).2]; rfl⟩) (fun t23 t2 t3 => ?_)
  refine ⟨0, _, by decide, G_copyRow hW hS ht h_i h_i2 h_j h_j2 h_n , fun v L2 cl2 ln2 iv2 rv2 h => ?_⟩
  obtain ⟨f, rfl, rfl, rfl, rfl, rfl, hF, hW2, rg, ex, kp11, kp12, kp13, kp14, kp15, kp16, crp⟩ := h
  exact ⟨f, rfl, by omega, XT.refl, hW2, (MRK.call hm hW hS XT.refl hF rfl rfl), (by have q := hF.i t23 rfl 2; omega), ⟨⟨⟨crp, rfl⟩, ⟨(KSQ.ni hW ht hF rfl), trivial, kp15, kp16, ⟨hF.i (tysq (t := 5) hS rfl rfl) rfl 2, fun ss hs => CT.fr hs hW (tysq (t := 5) hS rfl rfl) hF rfl rfl rfl rfl rfl⟩, ⟨hF.i (tysq (t := 4) hS rfl rfl) rfl 2, fun ss hs => CT.fr hs hW (tysq (t := 4) hS rfl rfl) hF rfl rfl rfl rfl rfl⟩, (FKP.fr hW hS hF rfl rfl rfl rfl)⟩⟩, ⟨kp14, kp11, kp12, kp13⟩, ⟨hF.i t2 rfl 2, fun ss hs => CT.fr hs hW t2 hF rfl rfl rfl rfl rfl⟩, ⟨hF.i t3 rfl 2, fun tt ht => CT.fr ht hW t3 hF rfl rfl rfl rfl rfl⟩, (PSAME.fr hW hS hF rfl rfl rfl rfl rfl rfl rfl), ⟨⟨_, hW, hW2⟩, hS, XT.refl, (KP.fr hW hF rfl)⟩⟩⟩
theorem PO2_copyLines {l : Launch} {G : GT} {mi h0 : Nat} {i : Int} {j : Int} {n : Int} (h_i : -2147483648 ≤ i ∧ i ≤ 2147483647) (h_j : -2147483648 ≤ j ∧ j ≤ 2147483647) (h_n : -2147483648 ≤ n ∧ n ≤ 2147483647) : PressOp l G mi yX11_copyLines cX11_copyLines 7 (some .int) 2 [.int (iI i), .int (iI j), .int (iI n)] h0 (fun sk L cl ln iv rv L2 cl2 ln2 iv2 rv2 f => ((TCH iv rv iv2 h0 (fun E E2 => CPLX E i j n (iv h0 15) f E2 (iv2 h0 15)) ∧ rv2 = rv) ∧ (KSQ h0 iv rv iv2 rv2 ∧ True ∧ True ∧ iv2 h0 16 = iv h0 16 ∧ (iv2 (sk 5) 2 = iv (sk 5) 2 ∧ ∀ ss, CT iv rv (sk 5) ss → CT iv2 rv2 (sk 5) ss) ∧ (iv2 (sk 4) 2 = iv (sk 4) 2 ∧ ∀ ss, CT iv rv (sk 4) ss → CT iv2 rv2 (sk 4) ss) ∧ FKP sk iv rv iv2 rv2)) ∧ (iv2 h0 14 = iv h0 14 ∧ iv2 h0 11 = iv h0 11 ∧ iv2 h0 12 = iv h0 12 ∧ iv2 h0 13 = iv h0 13) ∧ (iv2 (sk 2) 2 = iv (sk 2) 2 ∧ (∀ ss, CT iv rv (sk 2) ss → CT iv2 rv2 (sk 2) ss)) ∧ (iv2 (sk 3) 2 = iv (sk 3) 2 ∧ (∀ tt, CT iv rv (sk 3) tt → CT iv2 rv2 (sk 3) tt)) ∧ PSAME sk iv rv iv2 rv2 ∧ (∃ g, WT g sk L cl ln iv rv ∧ WT g sk L2 cl2 ln2 iv2 rv2) ∧ SKL sk L cl ∧ XT L cl ln L2 cl2 ln2 ∧ (KP L cl (fun _ => False) (fun _ => False) (fun _ => False) (fun _ => False) (fun _ _ => False) iv rv iv2 rv2)) := by
  intro n L cl ln iv rv sk hn hp
  obtain ⟨hW, hS, hm, h23, ht⟩ := hp
  refine hv3 (show ty L cl (sk 23) 23 from ⟨(hS 23 rfl).1, by rw [(hS 23 rfl).2]; rfl⟩) (show ty L cl (sk 2) 2 from ⟨(hS 2 rfl).1, by rw [(hS 2 rfl).2]; rfl⟩) (show ty L cl (sk 3) 3 from ⟨(hS 3 rfl).1, by rw [(hS 3 rfl).2]; rfl⟩) (fun t23 t2 t3 => ?_)
  refine ⟨0, _, by decide, G_copyLines hW hS ht h_i h_j h_n , fun v L2 cl2 ln2 iv2 rv2 h => ?_⟩
  obtain ⟨f, rfl, rfl, rfl, rfl, rfl, hF, hW2, rg, ex, kp11, kp12, kp13, kp14, kp16, cpl⟩ := h
  exact ⟨f, rfl, by omega, XT.refl, hW2, (MRK.call hm hW hS XT.refl hF rfl rfl), (by have q := hF.i t23 rfl 2; omega), ⟨⟨⟨cpl, rfl⟩, ⟨(KSQ.ni hW ht hF rfl), trivial, trivial, kp16, ⟨hF.i (tysq (t := 5) hS rfl rfl) rfl 2, fun ss hs => CT.fr hs hW (tysq (t := 5) hS rfl rfl) hF rfl rfl rfl rfl rfl⟩, ⟨hF.i (tysq (t := 4) hS rfl rfl) rfl 2, fun ss hs => CT.fr hs hW (tysq (t := 4) hS rfl rfl) hF rfl rfl rfl rfl rfl⟩, (FKP.fr hW hS hF rfl rfl rfl rfl)⟩⟩, ⟨kp14, kp11, kp12, kp13⟩, ⟨hF.i t2 rfl 2, fun ss hs => CT.fr hs hW t2 hF rfl rfl rfl rfl rfl⟩, ⟨hF.i t3 rfl 2, fun tt ht => CT.fr ht hW t3 hF rfl rfl rfl rfl rfl⟩, (PSAME.fr hW hS hF rfl rfl rfl rfl rfl rfl rfl), ⟨⟨_, hW, hW2⟩, hS, XT.refl, (KP.fr hW hF rfl)⟩⟩⟩
theorem PO2_emboss {l : Launch} {G : GT} {mi h0 : Nat} {i : Int} {n : Int} (h_i : -2147483648 ≤ i ∧ i ≤ 2147483647) (h_n : -2147483648 ≤ n ∧ n ≤ 2147483647) : PressOp l G mi yX11_emboss cX11_emboss 6 (some .int) 2 [.int (iI i), .int (iI n)] h0 (fun sk L cl ln iv rv L2 cl2 ln2 iv2 rv2 f => ((EPX iv rv iv2 h0 i n (iv h0 11) f) ∧ (KSQ h0 iv rv iv2 rv2 ∧ KSC h0 iv rv iv2 rv2 ∧ iv2 h0 15 = iv h0 15 ∧ True ∧ (iv2 (sk 5) 2 = iv (sk 5) 2 ∧ ∀ ss, CT iv rv (sk 5) ss → CT iv2 rv2 (sk 5) ss) ∧ (iv2 (sk 4) 2 = iv (sk 4) 2 ∧ ∀ ss, CT iv rv (sk 4) ss → CT iv2 rv2 (sk 4) ss) ∧ FKP sk iv rv iv2 rv2)) ∧ (iv2 h0 14 = iv h0 14 ∧ iv2 h0 11 = iv h0 11 ∧ iv2 h0 12 = iv h0 12 ∧ iv2 h0 13 = iv h0 13) ∧ (iv2 (sk 2) 2 = iv (sk 2) 2 ∧ (∀ ss, CT iv rv (sk 2) ss → CT iv2 rv2 (sk 2) ss)) ∧ (iv2 (sk 3) 2 = iv (sk 3) 2 ∧ (∀ tt, CT iv rv (sk 3) tt → CT iv2 rv2 (sk 3) tt)) ∧ PSAME sk iv rv iv2 rv2 ∧ (∃ g, WT g sk L cl ln iv rv ∧ WT g sk L2 cl2 ln2 iv2 rv2) ∧ SKL sk L cl ∧ XT L cl ln L2 cl2 ln2 ∧ (KP L cl (fun _ => False) (fun _ => False) (fun _ => False) (fun _ => False) (fun _ _ => False) iv rv iv2 rv2)) := by
  intro n L cl ln iv rv sk hn hp
  obtain ⟨hW, hS, hm, h23, ht⟩ := hp
  refine hv3 (show ty L cl (sk 23) 23 from ⟨(hS 23 rfl).1, by rw [(hS 23 rfl).2]; rfl⟩) (show ty L cl (sk 2) 2 from ⟨(hS 2 rfl).1, by rw [(hS 2 rfl).2]; rfl⟩) (show ty L cl (sk 3) 3 from ⟨(hS 3 rfl).1, by rw [(hS 3 rfl).2]; rfl⟩) (fun t23 t2 t3 => ?_)
  refine ⟨0, _, by decide, G_emboss hW hS ht h_i h_n , fun v L2 cl2 ln2 iv2 rv2 h => ?_⟩
  obtain ⟨f, rfl, rfl, rfl, rfl, rfl, hF, hW2, rg, ex, kp11, kp12, kp13, kp14, kp15, epx⟩ := h
  exact ⟨f, rfl, by omega, XT.refl, hW2, (MRK.call hm hW hS XT.refl hF rfl rfl), (by have q := hF.i t23 rfl 2; omega), ⟨⟨epx, ⟨(KSQ.ni hW ht hF rfl), (KSC.fr hW ht hF rfl rfl rfl rfl rfl rfl), kp15, trivial, ⟨hF.i (tysq (t := 5) hS rfl rfl) rfl 2, fun ss hs => CT.fr hs hW (tysq (t := 5) hS rfl rfl) hF rfl rfl rfl rfl rfl⟩, ⟨hF.i (tysq (t := 4) hS rfl rfl) rfl 2, fun ss hs => CT.fr hs hW (tysq (t := 4) hS rfl rfl) hF rfl rfl rfl rfl rfl⟩, (FKP.fr hW hS hF rfl rfl rfl rfl)⟩⟩, ⟨kp14, kp11, kp12, kp13⟩, ⟨hF.i t2 rfl 2, fun ss hs => CT.fr hs hW t2 hF rfl rfl rfl rfl rfl⟩, ⟨hF.i t3 rfl 2, fun tt ht => CT.fr ht hW t3 hF rfl rfl rfl rfl rfl⟩, (PSAME.fr hW hS hF rfl rfl rfl rfl rfl rfl rfl), ⟨⟨_, hW, hW2⟩, hS, XT.refl, (KP.fr hW hF rfl)⟩⟩⟩
theorem MO2_lose {l : Launch} {G : GT} {mm : Nat} {x1 : Int} (h_x1 : -2147483648 ≤ x1 ∧ x1 ≤ 2147483647) : ModelOp l G yX12_lose cX12_lose 2 (some .int) 2 [.int (iI x1)] mm 0 0 (fun v a v2 a2 f => ((LSA v a v2 a2 x1 f) ∧ (v2 36 = v 36 ∧ True ∧ v2 42 = v 42 ∧ v2 43 = v 43 ∧ (v2 41 = v 41 ∧ a2 40 = a 40) ∧ (v2 52 = v 52 ∧ a2 51 = a 51) ∧ (v2 60 = v 60 ∧ v2 61 = v 61 ∧ a2 58 = a 58 ∧ a2 59 = a 59))) ∧ (v2 56 = v 56 ∧ v2 31 = v 31 ∧ v2 32 = v 32 ∧ v2 33 = v 33) ∧ (v2 3 = v 3 ∧ a2 2 = a 2) ∧ (v2 30 = v 30 ∧ a2 29 = a 29) ∧ TSAME v a v2 a2) := by
  intro n ad ln v a L E hn hV hI
  obtain ⟨hB, hT, hS, hR, h19⟩ := hV
  refine ⟨_, N2_lose (l0 := x1) hB h_x1 L E hI, fun r L2 E2 h => ?_⟩
  obtain ⟨v2, a2, hI2, f, rfl, hf, hB2, hx⟩ := h
  exact ⟨f, ad, ln, v2, a2, rfl, hI2, ⟨hB2, (hT.fr hf rfl rfl), (hS.fr hf rfl rfl), (hR.fr hf rfl), (by have q := hf.1 19 rfl; push_cast; omega)⟩, ⟨⟨hx, ⟨hf.1 36 rfl, trivial, hf.1 42 rfl, hf.1 43 rfl, ⟨hf.1 41 rfl, hf.2 40 rfl⟩, ⟨hf.1 52 rfl, hf.2 51 rfl⟩, ⟨hf.1 60 rfl, hf.1 61 rfl, hf.2 58 rfl, hf.2 59 rfl⟩⟩⟩, ⟨hf.1 56 rfl, hf.1 31 rfl, hf.1 32 rfl, hf.1 33 rfl⟩, ⟨hf.1 3 rfl, hf.2 2 rfl⟩, ⟨hf.1 30 rfl, hf.2 29 rfl⟩, ⟨hf.1 4 rfl, hf.2 5 rfl, hf.2 6 rfl, hf.2 7 rfl, hf.2 10 rfl, hf.1 19 rfl, hf.2 18 rfl, hf.2 11 rfl, hf.2 8 rfl, hf.2 9 rfl, hf.2 12 rfl, hf.2 13 rfl, hf.2 14 rfl, hf.2 15 rfl, hf.2 16 rfl, hf.2 17 rfl⟩⟩⟩
theorem MO2_cut {l : Launch} {G : GT} {mm : Nat} {x1 x2 : Int} (h_x1 : -2147483648 ≤ x1 ∧ x1 ≤ 2147483647) (h_x2 : -2147483648 ≤ x2 ∧ x2 ≤ 2147483647) : ModelOp l G yX12_cut cX12_cut 4 (some .int) 2 [.int (iI x1), .int (iI x2)] mm 0 0 (fun v a v2 a2 f => ((CTA v a v2 a2 x1 x2 f) ∧ (v2 36 = v 36 ∧ True ∧ v2 42 = v 42 ∧ v2 43 = v 43 ∧ (v2 41 = v 41 ∧ a2 40 = a 40) ∧ (v2 52 = v 52 ∧ a2 51 = a 51) ∧ (v2 60 = v 60 ∧ v2 61 = v 61 ∧ a2 58 = a 58 ∧ a2 59 = a 59))) ∧ (v2 56 = v 56 ∧ v2 31 = v 31 ∧ v2 32 = v 32 ∧ v2 33 = v 33) ∧ (v2 3 = v 3 ∧ a2 2 = a 2) ∧ (v2 30 = v 30 ∧ a2 29 = a 29) ∧ TSAME v a v2 a2) := by
  intro n ad ln v a L E hn hV hI
  obtain ⟨hB, hT, hS, hR, h19⟩ := hV
  refine ⟨_, N2_cut (l0 := x1) (n1 := x2) hB h_x1 h_x2 L E hI, fun r L2 E2 h => ?_⟩
  obtain ⟨v2, a2, hI2, f, rfl, hf, hB2, hx⟩ := h
  exact ⟨f, ad, ln, v2, a2, rfl, hI2, ⟨hB2, (hT.fr hf rfl rfl), (hS.fr hf rfl rfl), (hR.fr hf rfl), (by have q := hf.1 19 rfl; push_cast; omega)⟩, ⟨⟨hx, ⟨hf.1 36 rfl, trivial, hf.1 42 rfl, hf.1 43 rfl, ⟨hf.1 41 rfl, hf.2 40 rfl⟩, ⟨hf.1 52 rfl, hf.2 51 rfl⟩, ⟨hf.1 60 rfl, hf.1 61 rfl, hf.2 58 rfl, hf.2 59 rfl⟩⟩⟩, ⟨hf.1 56 rfl, hf.1 31 rfl, hf.1 32 rfl, hf.1 33 rfl⟩, ⟨hf.1 3 rfl, hf.2 2 rfl⟩, ⟨hf.1 30 rfl, hf.2 29 rfl⟩, ⟨hf.1 4 rfl, hf.2 5 rfl, hf.2 6 rfl, hf.2 7 rfl, hf.2 10 rfl, hf.1 19 rfl, hf.2 18 rfl, hf.2 11 rfl, hf.2 8 rfl, hf.2 9 rfl, hf.2 12 rfl, hf.2 13 rfl, hf.2 14 rfl, hf.2 15 rfl, hf.2 16 rfl, hf.2 17 rfl⟩⟩⟩
theorem MO2_copyRow {l : Launch} {G : GT} {mm : Nat} {x1 x2 x3 x4 x5 : Int} (h_x1 : -2147483648 ≤ x1 ∧ x1 ≤ 2147483647) (h_x2 : -2147483648 ≤ x2 ∧ x2 ≤ 2147483647) (h_x3 : -2147483648 ≤ x3 ∧ x3 ≤ 2147483647) (h_x4 : -2147483648 ≤ x4 ∧ x4 ≤ 2147483647) (h_x5 : -2147483648 ≤ x5 ∧ x5 ≤ 2147483647) : ModelOp l G yX12_copyRow cX12_copyRow 11 (some .int) 1 [.int (iI x1), .int (iI x2), .int (iI x3), .int (iI x4), .int (iI x5)] mm 0 0 (fun v a v2 a2 f => ((CRA v a v2 a2 x1 x2 x3 x4 x5 f) ∧ (v2 36 = v 36 ∧ True ∧ v2 42 = v 42 ∧ v2 43 = v 43 ∧ (v2 41 = v 41 ∧ a2 40 = a 40) ∧ (v2 52 = v 52 ∧ a2 51 = a 51) ∧ (v2 60 = v 60 ∧ v2 61 = v 61 ∧ a2 58 = a 58 ∧ a2 59 = a 59))) ∧ (v2 56 = v 56 ∧ v2 31 = v 31 ∧ v2 32 = v 32 ∧ v2 33 = v 33) ∧ (v2 3 = v 3 ∧ a2 2 = a 2) ∧ (v2 30 = v 30 ∧ a2 29 = a 29) ∧ TSAME v a v2 a2) := by
  intro n ad ln v a L E hn hV hI
  obtain ⟨hB, hT, hS, hR, h19⟩ := hV
  refine ⟨_, N2_copyRow (q := x1) (w1 := x2) (u := x3) (x := x4) (n1 := x5) hB h_x1 h_x2 h_x3 h_x4 h_x5 L E hI, fun r L2 E2 h => ?_⟩
  obtain ⟨v2, a2, hI2, f, rfl, hf, hB2, hx⟩ := h
  exact ⟨f, ad, ln, v2, a2, rfl, hI2, ⟨hB2, (hT.fr hf rfl rfl), (hS.fr hf rfl rfl), (hR.fr hf rfl), (by have q := hf.1 19 rfl; push_cast; omega)⟩, ⟨⟨hx, ⟨hf.1 36 rfl, trivial, hf.1 42 rfl, hf.1 43 rfl, ⟨hf.1 41 rfl, hf.2 40 rfl⟩, ⟨hf.1 52 rfl, hf.2 51 rfl⟩, ⟨hf.1 60 rfl, hf.1 61 rfl, hf.2 58 rfl, hf.2 59 rfl⟩⟩⟩, ⟨hf.1 56 rfl, hf.1 31 rfl, hf.1 32 rfl, hf.1 33 rfl⟩, ⟨hf.1 3 rfl, hf.2 2 rfl⟩, ⟨hf.1 30 rfl, hf.2 29 rfl⟩, ⟨hf.1 4 rfl, hf.2 5 rfl, hf.2 6 rfl, hf.2 7 rfl, hf.2 10 rfl, hf.1 19 rfl, hf.2 18 rfl, hf.2 11 rfl, hf.2 8 rfl, hf.2 9 rfl, hf.2 12 rfl, hf.2 13 rfl, hf.2 14 rfl, hf.2 15 rfl, hf.2 16 rfl, hf.2 17 rfl⟩⟩⟩
theorem MO2_copyLines {l : Launch} {G : GT} {mm : Nat} {x1 x2 x3 : Int} (h_x1 : -2147483648 ≤ x1 ∧ x1 ≤ 2147483647) (h_x2 : -2147483648 ≤ x2 ∧ x2 ≤ 2147483647) (h_x3 : -2147483648 ≤ x3 ∧ x3 ≤ 2147483647) : ModelOp l G yX12_copyLines cX12_copyLines 10 (some .int) 1 [.int (iI x1), .int (iI x2), .int (iI x3)] mm 0 0 (fun v a v2 a2 f => ((CPA v a v2 a2 x1 x2 x3 f) ∧ (v2 36 = v 36 ∧ True ∧ True ∧ v2 43 = v 43 ∧ (v2 41 = v 41 ∧ a2 40 = a 40) ∧ (v2 52 = v 52 ∧ a2 51 = a 51) ∧ (v2 60 = v 60 ∧ v2 61 = v 61 ∧ a2 58 = a 58 ∧ a2 59 = a 59))) ∧ (v2 56 = v 56 ∧ v2 31 = v 31 ∧ v2 32 = v 32 ∧ v2 33 = v 33) ∧ (v2 3 = v 3 ∧ a2 2 = a 2) ∧ (v2 30 = v 30 ∧ a2 29 = a 29) ∧ TSAME v a v2 a2) := by
  intro n ad ln v a L E hn hV hI
  obtain ⟨hB, hT, hS, hR, h19⟩ := hV
  refine ⟨_, N2_copyLines (q := x1) (u := x2) (n1 := x3) hB h_x1 h_x2 h_x3 L E hI, fun r L2 E2 h => ?_⟩
  obtain ⟨v2, a2, hI2, f, rfl, hf, hB2, hx⟩ := h
  exact ⟨f, ad, ln, v2, a2, rfl, hI2, ⟨hB2, (hT.fr hf rfl rfl), (hS.fr hf rfl rfl), (hR.fr hf rfl), (by have q := hf.1 19 rfl; push_cast; omega)⟩, ⟨⟨hx, ⟨hf.1 36 rfl, trivial, trivial, hf.1 43 rfl, ⟨hf.1 41 rfl, hf.2 40 rfl⟩, ⟨hf.1 52 rfl, hf.2 51 rfl⟩, ⟨hf.1 60 rfl, hf.1 61 rfl, hf.2 58 rfl, hf.2 59 rfl⟩⟩⟩, ⟨hf.1 56 rfl, hf.1 31 rfl, hf.1 32 rfl, hf.1 33 rfl⟩, ⟨hf.1 3 rfl, hf.2 2 rfl⟩, ⟨hf.1 30 rfl, hf.2 29 rfl⟩, ⟨hf.1 4 rfl, hf.2 5 rfl, hf.2 6 rfl, hf.2 7 rfl, hf.2 10 rfl, hf.1 19 rfl, hf.2 18 rfl, hf.2 11 rfl, hf.2 8 rfl, hf.2 9 rfl, hf.2 12 rfl, hf.2 13 rfl, hf.2 14 rfl, hf.2 15 rfl, hf.2 16 rfl, hf.2 17 rfl⟩⟩⟩
theorem MO2_emboss {l : Launch} {G : GT} {mm : Nat} {x1 x2 : Int} (h_x1 : -2147483648 ≤ x1 ∧ x1 ≤ 2147483647) (h_x2 : -2147483648 ≤ x2 ∧ x2 ≤ 2147483647) : ModelOp l G yX12_emboss cX12_emboss 9 (some .int) 1 [.int (iI x1), .int (iI x2)] mm 0 0 (fun v a v2 a2 f => ((EMA v a v2 x1 x2 f) ∧ (v2 36 = v 36 ∧ KSA v a v2 a2 ∧ v2 42 = v 42 ∧ True ∧ (v2 41 = v 41 ∧ a2 40 = a 40) ∧ (v2 52 = v 52 ∧ a2 51 = a 51) ∧ (v2 60 = v 60 ∧ v2 61 = v 61 ∧ a2 58 = a 58 ∧ a2 59 = a 59))) ∧ (v2 56 = v 56 ∧ v2 31 = v 31 ∧ v2 32 = v 32 ∧ v2 33 = v 33) ∧ (v2 3 = v 3 ∧ a2 2 = a 2) ∧ (v2 30 = v 30 ∧ a2 29 = a 29) ∧ TSAME v a v2 a2) := by
  intro n ad ln v a L E hn hV hI
  obtain ⟨hB, hT, hS, hR, h19⟩ := hV
  refine ⟨_, N2_emboss (q := x1) (n1 := x2) hB h_x1 h_x2 L E hI, fun r L2 E2 h => ?_⟩
  obtain ⟨v2, a2, hI2, f, rfl, hf, hB2, hx⟩ := h
  exact ⟨f, ad, ln, v2, a2, rfl, hI2, ⟨hB2, (hT.fr hf rfl rfl), (hS.fr hf rfl rfl), (hR.fr hf rfl), (by have q := hf.1 19 rfl; push_cast; omega)⟩, ⟨⟨hx, ⟨hf.1 36 rfl, ⟨hf.1 36 rfl, hf.2 34 rfl, hf.2 35 rfl⟩, hf.1 42 rfl, trivial, ⟨hf.1 41 rfl, hf.2 40 rfl⟩, ⟨hf.1 52 rfl, hf.2 51 rfl⟩, ⟨hf.1 60 rfl, hf.1 61 rfl, hf.2 58 rfl, hf.2 59 rfl⟩⟩⟩, ⟨hf.1 56 rfl, hf.1 31 rfl, hf.1 32 rfl, hf.1 33 rfl⟩, ⟨hf.1 3 rfl, hf.2 2 rfl⟩, ⟨hf.1 30 rfl, hf.2 29 rfl⟩, ⟨hf.1 4 rfl, hf.2 5 rfl, hf.2 6 rfl, hf.2 7 rfl, hf.2 10 rfl, hf.1 19 rfl, hf.2 18 rfl, hf.2 11 rfl, hf.2 8 rfl, hf.2 9 rfl, hf.2 12 rfl, hf.2 13 rfl, hf.2 14 rfl, hf.2 15 rfl, hf.2 16 rfl, hf.2 17 rfl⟩⟩⟩
end
section
section UBAC
variable {h : Nat} {sk : Nat → Nat} {L L1 L3 : List Nat} {cl ln cl1 ln1 cl3 ln3 : Nat → Nat} {iv iv1 iv2 iv3 iv4 : Nat → Nat → Int} {rv rv1 rv2 rv3 rv4 : Nat → Nat → Option Nat} {a : Nat → Nat → Int} {s cb : Nat} {k x f f1 f2 q u : Int} {l0 l1 : List Int} {R W : Nat → Int} {ls : List Nat}
theorem LTW.fx (hl : LTW iv rv s W q u) (hW : WT h sk L cl ln iv rv) (ts : ty L cl s 15) (hF : fT ls L cl iv rv iv1 rv1) (c1 : ls.contains 15 = false) (c2 : ls.contains 50 = false) : LTW iv1 rv1 s W q u := fun lb hb j h1 h2 => by
  rw [hF.r ts c1 0] at hb
  obtain ⟨b', w1, tb⟩ := hW.ref ts 0 rfl rfl rfl
  rw [hb] at w1
  cases w1
  rw [hF.i tb c2]
  exact hl lb hb j h1 h2
end UBAC
end
section
theorem bit8 {i : Nat} (h : ¬ i < 8) : (255#32 : BitVec 32).getLsbD i = false := by
  rw [show (255#32 : BitVec 32) = BitVec.setWidth 32 (255#8) from by decide, BitVec.getLsbD_setWidth, BitVec.getLsbD_of_ge (255#8) i (by omega), Bool.and_false]
theorem shr8 (x : BitVec 32) (n : Nat) (h : n ≤ 24) : (x >>> n) &&& 255#32 = (x.sshiftRight n) &&& 255#32 := by
  apply BitVec.eq_of_getLsbD_eq
  intro i hi
  rw [BitVec.getLsbD_and, BitVec.getLsbD_and]
  by_cases h8 : i < 8
  · rw [BitVec.getLsbD_ushiftRight, BitVec.getLsbD_sshiftRight]
    have h1 : ¬ (32 ≤ i) := by omega
    have h2 : n + i < 32 := by omega
    simp [h1, h2]
  · rw [bit8 h8, Bool.and_false, Bool.and_false]
theorem byx_k (x : Int) (n : Nat) (hn : n ≤ 24) (s1 : UInt32) (e1 : s1.toBitVec = BitVec.ofNat 32 n) (s2 : Int32) (e2 : s2.toBitVec = BitVec.ofNat 32 n) : ((iI x).toUInt32 >>> s1).toInt32 &&& iI 255 = (iI x >>> s2) &&& iI 255 := by
  refine hv2 (show ∀ m : Nat, m ≤ 24 → (BitVec.ofNat 32 m % 32#32).toNat = m from by decide +kernel) (show ∀ m : Nat, m ≤ 24 → ((BitVec.ofNat 32 m).smod 32#32).toNat = m from by decide +kernel) (fun h1 h2 => ?_)
  have b1 : ((iI x).toUInt32 >>> s1).toInt32.toBitVec = (iI x).toBitVec >>> n := by
    show (iI x).toBitVec >>> (s1.toBitVec % 32#32).toNat = _
    rw [e1, h1 n hn]
  have b2 : (iI x >>> s2).toBitVec = (iI x).toBitVec.sshiftRight n := by
    show (iI x).toBitVec.sshiftRight (s2.toBitVec.smod 32#32).toNat = _
    rw [e2, h2 n hn]
  apply Int32.toBitVec_inj.mp
  rw [Int32.toBitVec_and, Int32.toBitVec_and, b1, b2]
  exact shr8 _ n hn
theorem byx_r (x : Int) : byx x 0 = rby x 0 ∧ byx x 1 = rby x 1 ∧ byx x 2 = rby x 2 ∧ byx x 3 = rby x 3 := by
  refine ⟨?_, ?_, ?_, ?_⟩
  · unfold byx rby; exact congrArg Int32.toInt (byx_k x 24 (by decide) _ (by decide +kernel) _ (by decide +kernel))
  · unfold byx rby; exact congrArg Int32.toInt (byx_k x 16 (by decide) _ (by decide +kernel) _ (by decide +kernel))
  · unfold byx rby; exact congrArg Int32.toInt (byx_k x 8 (by decide) _ (by decide +kernel) _ (by decide +kernel))
  · unfold byx rby; exact congrArg Int32.toInt (byx_k x 0 (by decide) _ (by decide +kernel) _ (by decide +kernel))
theorem rby_4 (x : Int) : (rby x 4 = rby x 0 ∧ rby x 8 = rby x 0 ∧ rby x 12 = rby x 0 ∧ rby x 16 = rby x 0) ∧ (rby x 5 = rby x 1 ∧ rby x 9 = rby x 1 ∧ rby x 13 = rby x 1 ∧ rby x 17 = rby x 1) ∧ (rby x 6 = rby x 2 ∧ rby x 10 = rby x 2 ∧ rby x 14 = rby x 2 ∧ rby x 18 = rby x 2) ∧ (rby x 7 = rby x 3 ∧ rby x 11 = rby x 3 ∧ rby x 15 = rby x 3 ∧ rby x 19 = rby x 3) := by
  have k : ∀ i j : Int, (iI i &&& iI 3) = (iI j &&& iI 3) → rby x i = rby x j := fun i j h => by unfold rby; rw [h]
  exact ⟨⟨k _ _ (by decide), k _ _ (by decide), k _ _ (by decide), k _ _ (by decide)⟩, ⟨k _ _ (by decide), k _ _ (by decide), k _ _ (by decide), k _ _ (by decide)⟩, ⟨k _ _ (by decide), k _ _ (by decide), k _ _ (by decide), k _ _ (by decide)⟩, ⟨k _ _ (by decide), k _ _ (by decide), k _ _ (by decide), k _ _ (by decide)⟩⟩
theorem fd_rfd (ss : Nat → Int) (n : Nat) (x1 x2 x3 x4 x5 : Int) : fd5 ss n x1 x2 x3 x4 x5 = rfd ss n x1 x2 x3 x4 x5 20 := by
  have s0 : bsel ((0 : Nat) : Int) x1 x2 x3 x4 x5 = x1 := by unfold bsel; rw [if_pos (by decide)]
  have r1 : rfd ss n x1 x2 x3 x4 x5 1 = (va_up ss (n + 0) (rby x1 0)) := by
    show va_up (rfd ss n x1 x2 x3 x4 x5 0) (n + 0) (rby (bsel ((0 : Nat) : Int) x1 x2 x3 x4 x5) ((0 : Nat) : Int)) = _
    (rw [s0]) <;> rfl
  have s1 : bsel ((1 : Nat) : Int) x1 x2 x3 x4 x5 = x1 := by unfold bsel; rw [if_pos (by decide)]
  have r2 : rfd ss n x1 x2 x3 x4 x5 2 = (va_up (va_up ss (n + 0) (rby x1 0)) (n + 1) (rby x1 1)) := by
    show va_up (rfd ss n x1 x2 x3 x4 x5 1) (n + 1) (rby (bsel ((1 : Nat) : Int) x1 x2 x3 x4 x5) ((1 : Nat) : Int)) = _
    (rw [s1, r1]) <;> rfl
  have s2 : bsel ((2 : Nat) : Int) x1 x2 x3 x4 x5 = x1 := by unfold bsel; rw [if_pos (by decide)]
  have r3 : rfd ss n x1 x2 x3 x4 x5 3 = (va_up (va_up (va_up ss (n + 0) (rby x1 0)) (n + 1) (rby x1 1)) (n + 2) (rby x1 2)) := by
    show va_up (rfd ss n x1 x2 x3 x4 x5 2) (n + 2) (rby (bsel ((2 : Nat) : Int) x1 x2 x3 x4 x5) ((2 : Nat) : Int)) = _
    (rw [s2, r2]) <;> rfl
  have s3 : bsel ((3 : Nat) : Int) x1 x2 x3 x4 x5 = x1 := by unfold bsel; rw [if_pos (by decide)]
  have r4 : rfd ss n x1 x2 x3 x4 x5 4 = (va_up (va_up (va_up (va_up ss (n + 0) (rby x1 0)) (n + 1) (rby x1 1)) (n + 2) (rby x1 2)) (n + 3) (rby x1 3)) := by
    show va_up (rfd ss n x1 x2 x3 x4 x5 3) (n + 3) (rby (bsel ((3 : Nat) : Int) x1 x2 x3 x4 x5) ((3 : Nat) : Int)) = _
    (rw [s3, r3]) <;> rfl
  have s4 : bsel ((4 : Nat) : Int) x1 x2 x3 x4 x5 = x2 := by unfold bsel; rw [if_neg (by decide), if_pos (by decide)]
  have r5 : rfd ss n x1 x2 x3 x4 x5 5 = (va_up (va_up (va_up (va_up (va_up ss (n + 0) (rby x1 0)) (n + 1) (rby x1 1)) (n + 2) (rby x1 2)) (n + 3) (rby x1 3)) (n + 4) (rby x2 4)) := by
    show va_up (rfd ss n x1 x2 x3 x4 x5 4) (n + 4) (rby (bsel ((4 : Nat) : Int) x1 x2 x3 x4 x5) ((4 : Nat) : Int)) = _
    (rw [s4, r4]) <;> rfl
  have s5 : bsel ((5 : Nat) : Int) x1 x2 x3 x4 x5 = x2 := by unfold bsel; rw [if_neg (by decide), if_pos (by decide)]
  have r6 : rfd ss n x1 x2 x3 x4 x5 6 = (va_up (va_up (va_up (va_up (va_up (va_up ss (n + 0) (rby x1 0)) (n + 1) (rby x1 1)) (n + 2) (rby x1 2)) (n + 3) (rby x1 3)) (n + 4) (rby x2 4)) (n + 5) (rby x2 5)) := by
    show va_up (rfd ss n x1 x2 x3 x4 x5 5) (n + 5) (rby (bsel ((5 : Nat) : Int) x1 x2 x3 x4 x5) ((5 : Nat) : Int)) = _
    (rw [s5, r5]) <;> rfl
  have s6 : bsel ((6 : Nat) : Int) x1 x2 x3 x4 x5 = x2 := by unfold bsel; rw [if_neg (by decide), if_pos (by decide)]
  have r7 : rfd ss n x1 x2 x3 x4 x5 7 = (va_up (va_up (va_up (va_up (va_up (va_up (va_up ss (n + 0) (rby x1 0)) (n + 1) (rby x1 1)) (n + 2) (rby x1 2)) (n + 3) (rby x1 3)) (n + 4) (rby x2 4)) (n + 5) (rby x2 5)) (n + 6) (rby x2 6)) := by
    show va_up (rfd ss n x1 x2 x3 x4 x5 6) (n + 6) (rby (bsel ((6 : Nat) : Int) x1 x2 x3 x4 x5) ((6 : Nat) : Int)) = _
    (rw [s6, r6]) <;> rfl
  have s7 : bsel ((7 : Nat) : Int) x1 x2 x3 x4 x5 = x2 := by unfold bsel; rw [if_neg (by decide), if_pos (by decide)]
  have r8 : rfd ss n x1 x2 x3 x4 x5 8 = (va_up (va_up (va_up (va_up (va_up (va_up (va_up (va_up ss (n + 0) (rby x1 0)) (n + 1) (rby x1 1)) (n + 2) (rby x1 2)) (n + 3) (rby x1 3)) (n + 4) (rby x2 4)) (n + 5) (rby x2 5)) (n + 6) (rby x2 6)) (n + 7) (rby x2 7)) := by
    show va_up (rfd ss n x1 x2 x3 x4 x5 7) (n + 7) (rby (bsel ((7 : Nat) : Int) x1 x2 x3 x4 x5) ((7 : Nat) : Int)) = _
    (rw [s7, r7]) <;> rfl
  have s8 : bsel ((8 : Nat) : Int) x1 x2 x3 x4 x5 = x3 := by unfold bsel; rw [if_neg (by decide), if_neg (by decide), if_pos (by decide)]
  have r9 : rfd ss n x1 x2 x3 x4 x5 9 = (va_up (va_up (va_up (va_up (va_up (va_up (va_up (va_up (va_up ss (n + 0) (rby x1 0)) (n + 1) (rby x1 1)) (n + 2) (rby x1 2)) (n + 3) (rby x1 3)) (n + 4) (rby x2 4)) (n + 5) (rby x2 5)) (n + 6) (rby x2 6)) (n + 7) (rby x2 7)) (n + 8) (rby x3 8)) := by
    show va_up (rfd ss n x1 x2 x3 x4 x5 8) (n + 8) (rby (bsel ((8 : Nat) : Int) x1 x2 x3 x4 x5) ((8 : Nat) : Int)) = _
    (rw [s8, r8]) <;> rfl
  have s9 : bsel ((9 : Nat) : Int) x1 x2 x3 x4 x5 = x3 := by unfold bsel; rw [if_neg (by decide), if_neg (by decide), if_pos (by decide)]
  have r10 : rfd ss n x1 x2 x3 x4 x5 10 = (va_up (va_up (va_up (va_up (va_up (va_up (va_up (va_up (va_up (va_up ss (n + 0) (rby x1 0)) (n + 1) (rby x1 1)) (n + 2) (rby x1 2)) (n + 3) (rby x1 3)) (n + 4) (rby x2 4)) (n + 5) (rby x2 5)) (n + 6) (rby x2 6)) (n + 7) (rby x2 7)) (n + 8) (rby x3 8)) (n + 9) (rby x3 9)) := by
    show va_up (rfd ss n x1 x2 x3 x4 x5 9) (n + 9) (rby (bsel ((9 : Nat) : Int) x1 x2 x3 x4 x5) ((9 : Nat) : Int)) = _
    (rw [s9, r9]) <;> rfl
  have s10 : bsel ((10 : Nat) : Int) x1 x2 x3 x4 x5 = x3 := by unfold bsel; rw [if_neg (by decide), if_neg (by decide), if_pos (by decide)]
  have r11 : rfd ss n x1 x2 x3 x4 x5 11 = (va_up (va_up (va_up (va_up (va_up (va_up (va_up (va_up (va_up (va_up (va_up ss (n + 0) (rby x1 0)) (n + 1) (rby x1 1)) (n + 2) (rby x1 2)) (n + 3) (rby x1 3)) (n + 4) (rby x2 4)) (n + 5) (rby x2 5)) (n + 6) (rby x2 6)) (n + 7) (rby x2 7)) (n + 8) (rby x3 8)) (n + 9) (rby x3 9)) (n + 10) (rby x3 10)) := by
    show va_up (rfd ss n x1 x2 x3 x4 x5 10) (n + 10) (rby (bsel ((10 : Nat) : Int) x1 x2 x3 x4 x5) ((10 : Nat) : Int)) = _
    (rw [s10, r10]) <;> rfl
  have s11 : bsel ((11 : Nat) : Int) x1 x2 x3 x4 x5 = x3 := by unfold bsel; rw [if_neg (by decide), if_neg (by decide), if_pos (by decide)]
  have r12 : rfd ss n x1 x2 x3 x4 x5 12 = (va_up (va_up (va_up (va_up (va_up (va_up (va_up (va_up (va_up (va_up (va_up (va_up ss (n + 0) (rby x1 0)) (n + 1) (rby x1 1)) (n + 2) (rby x1 2)) (n + 3) (rby x1 3)) (n + 4) (rby x2 4)) (n + 5) (rby x2 5)) (n + 6) (rby x2 6)) (n + 7) (rby x2 7)) (n + 8) (rby x3 8)) (n + 9) (rby x3 9)) (n + 10) (rby x3 10)) (n + 11) (rby x3 11)) := by
    show va_up (rfd ss n x1 x2 x3 x4 x5 11) (n + 11) (rby (bsel ((11 : Nat) : Int) x1 x2 x3 x4 x5) ((11 : Nat) : Int)) = _
    (rw [s11, r11]) <;> rfl
  have s12 : bsel ((12 : Nat) : Int) x1 x2 x3 x4 x5 = x4 := by unfold bsel; rw [if_neg (by decide), if_neg (by decide), if_neg (by decide), if_pos (by decide)]
  have r13 : rfd ss n x1 x2 x3 x4 x5 13 = (va_up (va_up (va_up (va_up (va_up (va_up (va_up (va_up (va_up (va_up (va_up (va_up (va_up ss (n + 0) (rby x1 0)) (n + 1) (rby x1 1)) (n + 2) (rby x1 2)) (n + 3) (rby x1 3)) (n + 4) (rby x2 4)) (n + 5) (rby x2 5)) (n + 6) (rby x2 6)) (n + 7) (rby x2 7)) (n + 8) (rby x3 8)) (n + 9) (rby x3 9)) (n + 10) (rby x3 10)) (n + 11) (rby x3 11)) (n + 12) (rby x4 12)) := by
    show va_up (rfd ss n x1 x2 x3 x4 x5 12) (n + 12) (rby (bsel ((12 : Nat) : Int) x1 x2 x3 x4 x5) ((12 : Nat) : Int)) = _
    (rw [s12, r12]) <;> rfl
  have s13 : bsel ((13 : Nat) : Int) x1 x2 x3 x4 x5 = x4 := by unfold bsel; rw [if_neg (by decide), if_neg (by decide), if_neg (by decide), if_pos (by decide)]
  have r14 : rfd ss n x1 x2 x3 x4 x5 14 = (va_up (va_up (va_up (va_up (va_up (va_up (va_up (va_up (va_up (va_up (va_up (va_up (va_up (va_up ss (n + 0) (rby x1 0)) (n + 1) (rby x1 1)) (n + 2) (rby x1 2)) (n + 3) (rby x1 3)) (n + 4) (rby x2 4)) (n + 5) (rby x2 5)) (n + 6) (rby x2 6)) (n + 7) (rby x2 7)) (n + 8) (rby x3 8)) (n + 9) (rby x3 9)) (n + 10) (rby x3 10)) (n + 11) (rby x3 11)) (n + 12) (rby x4 12)) (n + 13) (rby x4 13)) := by
    show va_up (rfd ss n x1 x2 x3 x4 x5 13) (n + 13) (rby (bsel ((13 : Nat) : Int) x1 x2 x3 x4 x5) ((13 : Nat) : Int)) = _
    (rw [s13, r13]) <;> rfl
  have s14 : bsel ((14 : Nat) : Int) x1 x2 x3 x4 x5 = x4 := by unfold bsel; rw [if_neg (by decide), if_neg (by decide), if_neg (by decide), if_pos (by decide)]
  have r15 : rfd ss n x1 x2 x3 x4 x5 15 = (va_up (va_up (va_up (va_up (va_up (va_up (va_up (va_up (va_up (va_up (va_up (va_up (va_up (va_up (va_up ss (n + 0) (rby x1 0)) (n + 1) (rby x1 1)) (n + 2) (rby x1 2)) (n + 3) (rby x1 3)) (n + 4) (rby x2 4)) (n + 5) (rby x2 5)) (n + 6) (rby x2 6)) (n + 7) (rby x2 7)) (n + 8) (rby x3 8)) (n + 9) (rby x3 9)) (n + 10) (rby x3 10)) (n + 11) (rby x3 11)) (n + 12) (rby x4 12)) (n + 13) (rby x4 13)) (n + 14) (rby x4 14)) := by
    show va_up (rfd ss n x1 x2 x3 x4 x5 14) (n + 14) (rby (bsel ((14 : Nat) : Int) x1 x2 x3 x4 x5) ((14 : Nat) : Int)) = _
    (rw [s14, r14]) <;> rfl
  have s15 : bsel ((15 : Nat) : Int) x1 x2 x3 x4 x5 = x4 := by unfold bsel; rw [if_neg (by decide), if_neg (by decide), if_neg (by decide), if_pos (by decide)]
  have r16 : rfd ss n x1 x2 x3 x4 x5 16 = (va_up (va_up (va_up (va_up (va_up (va_up (va_up (va_up (va_up (va_up (va_up (va_up (va_up (va_up (va_up (va_up ss (n + 0) (rby x1 0)) (n + 1) (rby x1 1)) (n + 2) (rby x1 2)) (n + 3) (rby x1 3)) (n + 4) (rby x2 4)) (n + 5) (rby x2 5)) (n + 6) (rby x2 6)) (n + 7) (rby x2 7)) (n + 8) (rby x3 8)) (n + 9) (rby x3 9)) (n + 10) (rby x3 10)) (n + 11) (rby x3 11)) (n + 12) (rby x4 12)) (n + 13) (rby x4 13)) (n + 14) (rby x4 14)) (n + 15) (rby x4 15)) := by
    show va_up (rfd ss n x1 x2 x3 x4 x5 15) (n + 15) (rby (bsel ((15 : Nat) : Int) x1 x2 x3 x4 x5) ((15 : Nat) : Int)) = _
    (rw [s15, r15]) <;> rfl
  have s16 : bsel ((16 : Nat) : Int) x1 x2 x3 x4 x5 = x5 := by unfold bsel; rw [if_neg (by decide), if_neg (by decide), if_neg (by decide), if_neg (by decide)]
  have r17 : rfd ss n x1 x2 x3 x4 x5 17 = (va_up (va_up (va_up (va_up (va_up (va_up (va_up (va_up (va_up (va_up (va_up (va_up (va_up (va_up (va_up (va_up (va_up ss (n + 0) (rby x1 0)) (n + 1) (rby x1 1)) (n + 2) (rby x1 2)) (n + 3) (rby x1 3)) (n + 4) (rby x2 4)) (n + 5) (rby x2 5)) (n + 6) (rby x2 6)) (n + 7) (rby x2 7)) (n + 8) (rby x3 8)) (n + 9) (rby x3 9)) (n + 10) (rby x3 10)) (n + 11) (rby x3 11)) (n + 12) (rby x4 12)) (n + 13) (rby x4 13)) (n + 14) (rby x4 14)) (n + 15) (rby x4 15)) (n + 16) (rby x5 16)) := by
    show va_up (rfd ss n x1 x2 x3 x4 x5 16) (n + 16) (rby (bsel ((16 : Nat) : Int) x1 x2 x3 x4 x5) ((16 : Nat) : Int)) = _
    (rw [s16, r16]) <;> rfl
  have s17 : bsel ((17 : Nat) : Int) x1 x2 x3 x4 x5 = x5 := by unfold bsel; rw [if_neg (by decide), if_neg (by decide), if_neg (by decide), if_neg (by decide)]
  have r18 : rfd ss n x1 x2 x3 x4 x5 18 = (va_up (va_up (va_up (va_up (va_up (va_up (va_up (va_up (va_up (va_up (va_up (va_up (va_up (va_up (va_up (va_up (va_up (va_up ss (n + 0) (rby x1 0)) (n + 1) (rby x1 1)) (n + 2) (rby x1 2)) (n + 3) (rby x1 3)) (n + 4) (rby x2 4)) (n + 5) (rby x2 5)) (n + 6) (rby x2 6)) (n + 7) (rby x2 7)) (n + 8) (rby x3 8)) (n + 9) (rby x3 9)) (n + 10) (rby x3 10)) (n + 11) (rby x3 11)) (n + 12) (rby x4 12)) (n + 13) (rby x4 13)) (n + 14) (rby x4 14)) (n + 15) (rby x4 15)) (n + 16) (rby x5 16)) (n + 17) (rby x5 17)) := by
    show va_up (rfd ss n x1 x2 x3 x4 x5 17) (n + 17) (rby (bsel ((17 : Nat) : Int) x1 x2 x3 x4 x5) ((17 : Nat) : Int)) = _
    (rw [s17, r17]) <;> rfl
  have s18 : bsel ((18 : Nat) : Int) x1 x2 x3 x4 x5 = x5 := by unfold bsel; rw [if_neg (by decide), if_neg (by decide), if_neg (by decide), if_neg (by decide)]
  have r19 : rfd ss n x1 x2 x3 x4 x5 19 = (va_up (va_up (va_up (va_up (va_up (va_up (va_up (va_up (va_up (va_up (va_up (va_up (va_up (va_up (va_up (va_up (va_up (va_up (va_up ss (n + 0) (rby x1 0)) (n + 1) (rby x1 1)) (n + 2) (rby x1 2)) (n + 3) (rby x1 3)) (n + 4) (rby x2 4)) (n + 5) (rby x2 5)) (n + 6) (rby x2 6)) (n + 7) (rby x2 7)) (n + 8) (rby x3 8)) (n + 9) (rby x3 9)) (n + 10) (rby x3 10)) (n + 11) (rby x3 11)) (n + 12) (rby x4 12)) (n + 13) (rby x4 13)) (n + 14) (rby x4 14)) (n + 15) (rby x4 15)) (n + 16) (rby x5 16)) (n + 17) (rby x5 17)) (n + 18) (rby x5 18)) := by
    show va_up (rfd ss n x1 x2 x3 x4 x5 18) (n + 18) (rby (bsel ((18 : Nat) : Int) x1 x2 x3 x4 x5) ((18 : Nat) : Int)) = _
    (rw [s18, r18]) <;> rfl
  have s19 : bsel ((19 : Nat) : Int) x1 x2 x3 x4 x5 = x5 := by unfold bsel; rw [if_neg (by decide), if_neg (by decide), if_neg (by decide), if_neg (by decide)]
  have r20 : rfd ss n x1 x2 x3 x4 x5 20 = (va_up (va_up (va_up (va_up (va_up (va_up (va_up (va_up (va_up (va_up (va_up (va_up (va_up (va_up (va_up (va_up (va_up (va_up (va_up (va_up ss (n + 0) (rby x1 0)) (n + 1) (rby x1 1)) (n + 2) (rby x1 2)) (n + 3) (rby x1 3)) (n + 4) (rby x2 4)) (n + 5) (rby x2 5)) (n + 6) (rby x2 6)) (n + 7) (rby x2 7)) (n + 8) (rby x3 8)) (n + 9) (rby x3 9)) (n + 10) (rby x3 10)) (n + 11) (rby x3 11)) (n + 12) (rby x4 12)) (n + 13) (rby x4 13)) (n + 14) (rby x4 14)) (n + 15) (rby x4 15)) (n + 16) (rby x5 16)) (n + 17) (rby x5 17)) (n + 18) (rby x5 18)) (n + 19) (rby x5 19)) := by
    show va_up (rfd ss n x1 x2 x3 x4 x5 19) (n + 19) (rby (bsel ((19 : Nat) : Int) x1 x2 x3 x4 x5) ((19 : Nat) : Int)) = _
    (rw [s19, r19]) <;> rfl
  obtain ⟨y10, y11, y12, y13⟩ := byx_r x1
  obtain ⟨y20, y21, y22, y23⟩ := byx_r x2
  obtain ⟨y30, y31, y32, y33⟩ := byx_r x3
  obtain ⟨y40, y41, y42, y43⟩ := byx_r x4
  obtain ⟨y50, y51, y52, y53⟩ := byx_r x5
  obtain ⟨⟨f4, _, _, _⟩, ⟨f5, _, _, _⟩, ⟨f6, _, _, _⟩, ⟨f7, _, _, _⟩⟩ := rby_4 x2
  obtain ⟨⟨_, f8, _, _⟩, ⟨_, f9, _, _⟩, ⟨_, f10, _, _⟩, ⟨_, f11, _, _⟩⟩ := rby_4 x3
  obtain ⟨⟨_, _, f12, _⟩, ⟨_, _, f13, _⟩, ⟨_, _, f14, _⟩, ⟨_, _, f15, _⟩⟩ := rby_4 x4
  obtain ⟨⟨_, _, _, f16⟩, ⟨_, _, _, f17⟩, ⟨_, _, _, f18⟩, ⟨_, _, _, f19⟩⟩ := rby_4 x5
  have lh : fd5 ss n x1 x2 x3 x4 x5 = (va_up (va_up (va_up (va_up (va_up (va_up (va_up (va_up (va_up (va_up (va_up (va_up (va_up (va_up (va_up (va_up (va_up (va_up (va_up (va_up ss (n + 0) (byx x1 0)) (n + 1) (byx x1 1)) (n + 2) (byx x1 2)) (n + 3) (byx x1 3)) (n + 4) (byx x2 0)) (n + 5) (byx x2 1)) (n + 6) (byx x2 2)) (n + 7) (byx x2 3)) (n + 8) (byx x3 0)) (n + 9) (byx x3 1)) (n + 10) (byx x3 2)) (n + 11) (byx x3 3)) (n + 12) (byx x4 0)) (n + 13) (byx x4 1)) (n + 14) (byx x4 2)) (n + 15) (byx x4 3)) (n + 16) (byx x5 0)) (n + 17) (byx x5 1)) (n + 18) (byx x5 2)) (n + 19) (byx x5 3)) := rfl
  rw [lh, r20, f4, f5, f6, f7, f8, f9, f10, f11, f12, f13, f14, f15, f16, f17, f18, f19, y10, y11, y12, y13, y20, y21, y22, y23, y30, y31, y32, y33, y40, y41, y42, y43, y50, y51, y52, y53]
def REL (h0 : Nat) (sk : Nat → Nat) (_L : List Nat) (_cl ln : Nat → Nat) (iv : Nat → Nat → Int) (rv : Nat → Nat → Option Nat) (v : Nat → Int) (a : Nat → Nat → Int) : Prop := (iI (iv h0 14) = iI (v 56) ∧ iv h0 11 = v 31 ∧ iv h0 12 = v 32 ∧ iv h0 13 = v 33) ∧ (iv (sk 2) 2 = v 3 ∧ CT iv rv (sk 2) (a 2)) ∧ (iv (sk 3) 2 = v 30 ∧ CT iv rv (sk 3) (a 29)) ∧ TABR sk iv rv v a ∧ (∃ o, RP2 o sk ln iv rv v a) ∧ SEC v a
theorem sec_keep {v v2 : Nat → Int} {a a2 : Nat → Nat → Int} (h : SEC v a) (h4 : v2 4 ≤ v 4) (h6 : a2 6 = a 6) (h9 : a2 9 = a 9) : SEC v2 a2 := fun i hi => by rw [h6, h9]; exact h i (by omega)
theorem sec_same {v v2 : Nat → Int} {a a2 : Nat → Nat → Int} (h : SEC v a) (hq : TSAME v a v2 a2) : SEC v2 a2 := by
  obtain ⟨q4, q5, q6, q7, q10, q19, q18, q11, q8, q9, -⟩ := hq
  exact sec_keep h (Int.le_of_eq q4) q6 q9
theorem sec_new {k s : Int} {v v2 : Nat → Int} {a a2 : Nat → Nat → Int} (h : SEC v a) (h0 : 0 ≤ v 4) (q1 : v2 4 = v 4 + 1) (q3 : a2 6 = va_up (a 6) (v 4).toNat k) (q9 : a2 9 = va_up (a 9) (v 4).toNat s) (hs : k ≠ 5 → s = -1) : SEC v2 a2 := by
  intro i hi
  rw [q3, q9]
  by_cases e : i = (v 4).toNat
  · rw [e, va_up_self, va_up_self]; exact hs
  · rw [va_up_ne _ _ e, va_up_ne _ _ e]; exact h i (by omega)
theorem tbl_sec {x y i : Int} {f2 : Int} {v v2 : Nat → Int} {a a2 : Nat → Nat → Int} (h : SEC v a) (h0 : 0 ≤ v 4) (hq : ((f2 = -1 ∧ TSAME v a v2 a2 ∧ ¬ (0 ≤ x ∧ x ≤ 4 ∧ (y = 6 ∨ y = 8) ∧ v 4 ≠ 30 ∧ (x < 1 ∨ 3 < x ∨ (0 ≤ i ∧ i < v 4 ∧ a 5 i.toNat = 1 ∧ a 6 i.toNat ≤ 3)))) ∨ (f2 = v 4 ∧ (0 ≤ x ∧ x ≤ 4 ∧ (y = 6 ∨ y = 8) ∧ v 4 ≠ 30 ∧ (x < 1 ∨ 3 < x ∨ (0 ≤ i ∧ i < v 4 ∧ a 5 i.toNat = 1 ∧ a 6 i.toNat ≤ 3))) ∧ TNEW x y (if x < 1 ∨ 3 < x then -1 else i) (-1) v a v2 a2))) : SEC v2 a2 := by
  rcases hq with ⟨-, q, -⟩ | ⟨-, -, ⟨q1, q2, q3, q4, q5, q6, q7, q8, q9, -⟩⟩
  · exact sec_same h q
  · exact sec_new h h0 q1 q3 q9 (fun _ => rfl)
theorem joi_sec {i j : Int} {f2 : Int} {v v2 : Nat → Int} {a a2 : Nat → Nat → Int} (h : SEC v a) (h0 : 0 ≤ v 4) (hq : ((f2 = -1 ∧ TSAME v a v2 a2 ∧ ¬ (0 ≤ i ∧ i < v 4 ∧ a 5 i.toNat = 1 ∧ a 6 i.toNat ≤ 3 ∧ 0 ≤ j ∧ j < v 4 ∧ a 5 j.toNat = 1 ∧ a 6 j.toNat ≤ 3 ∧ v 4 ≠ 30)) ∨ (f2 = v 4 ∧ (0 ≤ i ∧ i < v 4 ∧ a 5 i.toNat = 1 ∧ a 6 i.toNat ≤ 3 ∧ 0 ≤ j ∧ j < v 4 ∧ a 5 j.toNat = 1 ∧ a 6 j.toNat ≤ 3 ∧ v 4 ≠ 30) ∧ TNEW 5 (max (a 7 i.toNat) (a 7 j.toNat)) i j v a v2 a2))) : SEC v2 a2 := by
  rcases hq with ⟨-, q, -⟩ | ⟨-, -, ⟨q1, q2, q3, q4, q5, q6, q7, q8, q9, -⟩⟩
  · exact sec_same h q
  · exact sec_new h h0 q1 q3 q9 (fun e => absurd rfl e)
theorem drp_sec {i : Int} {f2 : Int} {v v2 : Nat → Int} {a a2 : Nat → Nat → Int} (h : SEC v a) (h0 : 0 ≤ v 4) (hq : ((f2 = -1 ∧ TSAME v a v2 a2 ∧ ¬ (0 ≤ i ∧ i < v 4 ∧ a 5 i.toNat = 1)) ∨ (f2 = 1 ∧ (0 ≤ i ∧ i < v 4 ∧ a 5 i.toNat = 1) ∧ TDRP i v a v2 a2))) : SEC v2 a2 := by
  rcases hq with ⟨-, q, -⟩ | ⟨-, -, ⟨q4, q5, q6, q7, q10, qs, q11, q8, q9, -⟩⟩
  · exact sec_same h q
  · exact sec_keep h (Int.le_of_eq q4) q6 q9
theorem rul_sec {i x n : Int} {f2 : Int} {v v2 : Nat → Int} {a a2 : Nat → Nat → Int} (h : SEC v a) (h0 : 0 ≤ v 4) (hq : ((f2 = -1 ∧ TSAME v a v2 a2 ∧ ¬ ((0 ≤ i ∧ i < v 4 ∧ a 5 i.toNat = 1 ∧ a 6 i.toNat ≠ 5 ∧ 0 ≤ x ∧ x ≤ 5 ∧ 1 ≤ n ∧ n ≤ 8 ∧ 1 ≤ v 3 - n ∧ v 3 - n ≤ 4 ∧ a 10 i.toNat ≠ 200) ∧ ACL (a 2) n (v 3 - n) (DC (a 7 i.toNat)) ∧ LTK (a 2) n)) ∨ (f2 = a 10 i.toNat ∧ ((0 ≤ i ∧ i < v 4 ∧ a 5 i.toNat = 1 ∧ a 6 i.toNat ≠ 5 ∧ 0 ≤ x ∧ x ≤ 5 ∧ 1 ≤ n ∧ n ≤ 8 ∧ 1 ≤ v 3 - n ∧ v 3 - n ≤ 4 ∧ a 10 i.toNat ≠ 200) ∧ ACL (a 2) n (v 3 - n) (DC (a 7 i.toNat)) ∧ LTK (a 2) n) ∧ TRUL i x n v a v2 a2))) : SEC v2 a2 := by
  rcases hq with ⟨-, q, -⟩ | ⟨-, -, ⟨q4, q5, q6, q7, q10, qs, q11, q8, q9, -⟩⟩
  · exact sec_same h q
  · exact sec_keep h (Int.le_of_eq q4) q6 q9
theorem ind_sec {i x : Int} {f2 : Int} {v v2 : Nat → Int} {a a2 : Nat → Nat → Int} (h : SEC v a) (h0 : 0 ≤ v 4) (hq : ((f2 = -1 ∧ TSAME v a v2 a2 ∧ ¬ ((0 ≤ x ∧ x ≤ 3 ∧ 0 ≤ i ∧ i < v 4 ∧ a 5 i.toNat = 1 ∧ ((x = 0 ∧ a 6 i.toNat ≤ 2) ∨ (x = 1 ∧ a 6 i.toNat = 2) ∨ (x ≠ 0 ∧ x ≠ 1 ∧ a 6 i.toNat = 5)) ∧ v 3 ≤ 4) ∧ ACL (a 2) 0 (v 3) (DC (a 7 i.toNat)) ∧ True)) ∨ (f2 = v 3 ∧ ((0 ≤ x ∧ x ≤ 3 ∧ 0 ≤ i ∧ i < v 4 ∧ a 5 i.toNat = 1 ∧ ((x = 0 ∧ a 6 i.toNat ≤ 2) ∨ (x = 1 ∧ a 6 i.toNat = 2) ∨ (x ≠ 0 ∧ x ≠ 1 ∧ a 6 i.toNat = 5)) ∧ v 3 ≤ 4) ∧ ACL (a 2) 0 (v 3) (DC (a 7 i.toNat)) ∧ True) ∧ TIND i x v a v2 a2))) : SEC v2 a2 := by
  rcases hq with ⟨-, q, -⟩ | ⟨-, -, ⟨⟨q4, q5, q6, -⟩, q11, q8, q9, -⟩⟩
  · exact sec_same h q
  · exact sec_keep h (Int.le_of_eq q4) q6 q9
theorem und_sec  {f2 : Int} {v v2 : Nat → Int} {a a2 : Nat → Nat → Int} (h : SEC v a) (h0 : 0 ≤ v 4) (hq : (∃ ln, STK ln v a) ∧ (∃ ln, STK ln v2 a2) ∧ ((v 19 = 0 ∧ f2 = 0 ∧ TSAME v a v2 a2) ∨ (v 19 ≠ 0 ∧ f2 = 1 ∧ TUND v a v2 a2))) : SEC v2 a2 := by
  rcases hq.2.2 with ⟨-, -, q⟩ | ⟨-, -, ⟨q19, q18, q6, q7, ⟨q8, q9, -⟩, q5⟩⟩
  · exact sec_same h q
  · exact sec_keep h (by rcases q5 with q | q | q | q | q <;> omega) q6 q9
theorem cnd_sec {i r x : Int} {f2 : Int} {v v2 : Nat → Int} {a a2 : Nat → Nat → Int} (h : SEC v a) (h0 : 0 ≤ v 4) (hq : ((f2 = -1 ∧ TSAME v a v2 a2 ∧ ¬ (0 ≤ i ∧ i < v 4 ∧ a 5 i.toNat = 1 ∧ a 6 i.toNat ≠ 5 ∧ 0 ≤ r ∧ r < a 10 i.toNat ∧ 0 ≤ x ∧ x ≤ 5)) ∨ (f2 = a 11 (200 * i + r).toNat ∧ (0 ≤ i ∧ i < v 4 ∧ a 5 i.toNat = 1 ∧ a 6 i.toNat ≠ 5 ∧ 0 ≤ r ∧ r < a 10 i.toNat ∧ 0 ≤ x ∧ x ≤ 5) ∧ TCND i r x v a v2 a2))) : SEC v2 a2 := by
  rcases hq with ⟨-, q, -⟩ | ⟨-, -, ⟨⟨q4, q5, q6, -⟩, q11, q8, q9, -⟩⟩
  · exact sec_same h q
  · exact sec_keep h (Int.le_of_eq q4) q6 q9
section RELS
variable {h0 : Nat} {L L2 : List Nat} {cl ln cl2 ln2 sk : Nat → Nat} {iv iv2 : Nat → Nat → Int} {rv rv2 : Nat → Nat → Option Nat} {v v2 : Nat → Int} {a a2 : Nat → Nat → Int}
theorem fd_keep (hr : iI (iv h0 14) = iI (v 56) ∧ iv h0 11 = v 31 ∧ iv h0 12 = v 32 ∧ iv h0 13 = v 33) (hp : iv2 h0 14 = iv h0 14 ∧ iv2 h0 11 = iv h0 11 ∧ iv2 h0 12 = iv h0 12 ∧ iv2 h0 13 = iv h0 13) (hq : v2 56 = v 56 ∧ v2 31 = v 31 ∧ v2 32 = v 32 ∧ v2 33 = v 33) : iI (iv2 h0 14) = iI (v2 56) ∧ iv2 h0 11 = v2 31 ∧ iv2 h0 12 = v2 32 ∧ iv2 h0 13 = v2 33 := ⟨by rw [hp.1, hq.1]; exact hr.1, by have h1 := hr.2; have h2 := hp.2; have h3 := hq.2; omega⟩
theorem tx_keep (hr : iv (sk 3) 2 = v 30 ∧ CT iv rv (sk 3) (a 29)) (hp : iv2 (sk 3) 2 = iv (sk 3) 2 ∧ (∀ tt, CT iv rv (sk 3) tt → CT iv2 rv2 (sk 3) tt)) (hq : v2 30 = v 30 ∧ a2 29 = a 29) : iv2 (sk 3) 2 = v2 30 ∧ CT iv2 rv2 (sk 3) (a2 29) := ⟨by have h1 := hr.1; have h2 := hp.1; have h3 := hq.1; omega, by rw [hq.2]; exact hp.2 _ hr.2⟩
theorem tp_keep (hr : iv (sk 2) 2 = v 3 ∧ CT iv rv (sk 2) (a 2)) (hp : (iv2 (sk 2) 2 = iv (sk 2) 2 ∧ (∀ ss, CT iv rv (sk 2) ss → CT iv2 rv2 (sk 2) ss))) (hq : (v2 3 = v 3 ∧ a2 2 = a 2)) : iv2 (sk 2) 2 = v2 3 ∧ CT iv2 rv2 (sk 2) (a2 2) := ⟨by omega, by rw [hq.2]; exact hp.2 _ hr.2⟩
theorem rel_keep {P1 P2 : Prop} (hr : REL h0 sk L cl ln iv rv v a) (hp : P1 ∧ (iv2 h0 14 = iv h0 14 ∧ iv2 h0 11 = iv h0 11 ∧ iv2 h0 12 = iv h0 12 ∧ iv2 h0 13 = iv h0 13) ∧ ((iv2 (sk 2) 2 = iv (sk 2) 2 ∧ (∀ ss, CT iv rv (sk 2) ss → CT iv2 rv2 (sk 2) ss))) ∧ (iv2 (sk 3) 2 = iv (sk 3) 2 ∧ (∀ tt, CT iv rv (sk 3) tt → CT iv2 rv2 (sk 3) tt)) ∧ (PSAME sk iv rv iv2 rv2) ∧ (∃ g, WT g sk L cl ln iv rv ∧ WT g sk L2 cl2 ln2 iv2 rv2) ∧ SKL sk L cl ∧ XT L cl ln L2 cl2 ln2 ∧ (KP L cl (fun _ => False) (fun _ => False) (fun _ => False) (fun _ => False) (fun _ _ => False) iv rv iv2 rv2)) (hq : P2 ∧ (v2 56 = v 56 ∧ v2 31 = v 31 ∧ v2 32 = v 32 ∧ v2 33 = v 33) ∧ ((v2 3 = v 3 ∧ a2 2 = a 2)) ∧ (v2 30 = v 30 ∧ a2 29 = a 29) ∧ (TSAME v a v2 a2)) : REL h0 sk L2 cl2 ln2 iv2 rv2 v2 a2 := ⟨fd_keep hr.1 hp.2.1 hq.2.1, tp_keep hr.2.1 hp.2.2.1 hq.2.2.1, tx_keep hr.2.2.1 hp.2.2.2.1 hq.2.2.2.1, tab_same hr.2.2.2.1 hp.2.2.2.2.1 hq.2.2.2.2, rps_same ⟨hr.2.2.2.1, hr.2.2.2.2.1⟩ hp.2.2.2.2 hq.2.2.2.2, sec_same hr.2.2.2.2.2 hq.2.2.2.2⟩
theorem rel_zero {P1 P2 : Prop} (hr : REL h0 sk L cl ln iv rv v a) (hp : P1 ∧ (iv2 h0 14 = iv h0 14 ∧ iv2 h0 11 = iv h0 11 ∧ iv2 h0 12 = iv h0 12 ∧ iv2 h0 13 = iv h0 13) ∧ (iv2 (sk 2) 2 = 0) ∧ (iv2 (sk 3) 2 = iv (sk 3) 2 ∧ (∀ tt, CT iv rv (sk 3) tt → CT iv2 rv2 (sk 3) tt)) ∧ (PSAME sk iv rv iv2 rv2) ∧ (∃ g, WT g sk L cl ln iv rv ∧ WT g sk L2 cl2 ln2 iv2 rv2) ∧ SKL sk L cl ∧ XT L cl ln L2 cl2 ln2 ∧ (KP L cl (fun _ => False) (fun _ => False) (fun _ => False) (fun _ => False) (fun _ _ => False) iv rv iv2 rv2)) (hq : P2 ∧ (v2 56 = v 56 ∧ v2 31 = v 31 ∧ v2 32 = v 32 ∧ v2 33 = v 33) ∧ (v2 3 = 0) ∧ (v2 30 = v 30 ∧ a2 29 = a 29) ∧ (TSAME v a v2 a2)) : REL h0 sk L2 cl2 ln2 iv2 rv2 v2 a2 := ⟨fd_keep hr.1 hp.2.1 hq.2.1, ⟨by have h2 := hp.2.2.1; have h3 := hq.2.2.1; omega, CT.zero hp.2.2.1⟩, tx_keep hr.2.2.1 hp.2.2.2.1 hq.2.2.2.1, tab_same hr.2.2.2.1 hp.2.2.2.2.1 hq.2.2.2.2, rps_same ⟨hr.2.2.2.1, hr.2.2.2.2.1⟩ hp.2.2.2.2 hq.2.2.2.2, sec_same hr.2.2.2.2.2 hq.2.2.2.2⟩
theorem rel_feed {P1 P2 : Prop} {x1 x2 x3 x4 x5 f1 f2 : Int} (hr : REL h0 sk L cl ln iv rv v a) (hp : P1 ∧ (iv2 h0 14 = iv h0 14 ∧ iv2 h0 11 = iv h0 11 ∧ iv2 h0 12 = iv h0 12 ∧ iv2 h0 13 = iv h0 13) ∧ (((f1 = -1 ∧ 3000 < iv (sk 2) 2 + 20 ∧ iv2 (sk 2) 2 = iv (sk 2) 2) ∨ (f1 = iv2 (sk 2) 2 ∧ iv2 (sk 2) 2 = iv (sk 2) 2 + 20 ∧ iv (sk 2) 2 ≤ 2980)) ∧ ∀ ss, CT iv rv (sk 2) ss → (iv (sk 2) 2 ≤ 2980 → CT iv2 rv2 (sk 2) (fd5 ss (iv (sk 2) 2).toNat x1 x2 x3 x4 x5)) ∧ (2980 < iv (sk 2) 2 → CT iv2 rv2 (sk 2) ss)) ∧ (iv2 (sk 3) 2 = iv (sk 3) 2 ∧ (∀ tt, CT iv rv (sk 3) tt → CT iv2 rv2 (sk 3) tt)) ∧ (PSAME sk iv rv iv2 rv2) ∧ (∃ g, WT g sk L cl ln iv rv ∧ WT g sk L2 cl2 ln2 iv2 rv2) ∧ SKL sk L cl ∧ XT L cl ln L2 cl2 ln2 ∧ (KP L cl (fun _ => False) (fun _ => False) (fun _ => False) (fun _ => False) (fun _ _ => False) iv rv iv2 rv2)) (hq : P2 ∧ (v2 56 = v 56 ∧ v2 31 = v 31 ∧ v2 32 = v 32 ∧ v2 33 = v 33) ∧ ((f2 = -1 ∧ v2 3 = v 3 ∧ 2980 < v 3 ∧ a2 2 = a 2) ∨ (f2 = v 3 + 20 ∧ v2 3 = v 3 + 20 ∧ v 3 ≤ 2980 ∧ a2 2 = rfd (a 2) (v 3).toNat x1 x2 x3 x4 x5 20)) ∧ (v2 30 = v 30 ∧ a2 29 = a 29) ∧ (TSAME v a v2 a2)) : REL h0 sk L2 cl2 ln2 iv2 rv2 v2 a2 := by
  refine ⟨fd_keep hr.1 hp.2.1 hq.2.1, ?_, tx_keep hr.2.2.1 hp.2.2.2.1 hq.2.2.2.1, tab_same hr.2.2.2.1 hp.2.2.2.2.1 hq.2.2.2.2, rps_same ⟨hr.2.2.2.1, hr.2.2.2.2.1⟩ hp.2.2.2.2 hq.2.2.2.2, sec_same hr.2.2.2.2.2 hq.2.2.2.2⟩
  have h1 := hr.2.1.1; have h2 := hp.2.2.1.1; have h4 := hp.2.2.1.2 _ hr.2.1.2
  rcases hq.2.2.1 with ⟨g1, g2, g3, g4⟩ | ⟨g1, g2, g3, g4⟩
  · exact ⟨by omega, by rw [g4]; exact h4.2 (by omega)⟩
  · refine ⟨by omega, ?_⟩
    have h5 := h4.1 (by omega)
    rw [h1, fd_rfd] at h5
    rw [g4]; exact h5
theorem rel_end {n : Int} {P1 P2 : Prop} {f1 f2 : Int} (hr : REL h0 sk L cl ln iv rv v a) (hp : P1 ∧ (iv2 h0 14 = iv h0 14 ∧ iv2 h0 11 = iv h0 11 ∧ iv2 h0 12 = iv h0 12 ∧ iv2 h0 13 = iv h0 13) ∧ (((f1 = -1 ∧ iv2 (sk 2) 2 = iv (sk 2) 2 ∧ (n < 0 ∨ iv (sk 2) 2 < n)) ∨ (f1 = n ∧ iv2 (sk 2) 2 = n ∧ 0 ≤ n ∧ n ≤ iv (sk 2) 2)) ∧ (∀ ss, CT iv rv (sk 2) ss → CT iv2 rv2 (sk 2) ss)) ∧ (iv2 (sk 3) 2 = iv (sk 3) 2 ∧ (∀ tt, CT iv rv (sk 3) tt → CT iv2 rv2 (sk 3) tt)) ∧ (PSAME sk iv rv iv2 rv2) ∧ (∃ g, WT g sk L cl ln iv rv ∧ WT g sk L2 cl2 ln2 iv2 rv2) ∧ SKL sk L cl ∧ XT L cl ln L2 cl2 ln2 ∧ (KP L cl (fun _ => False) (fun _ => False) (fun _ => False) (fun _ => False) (fun _ _ => False) iv rv iv2 rv2)) (hq : P2 ∧ (v2 56 = v 56 ∧ v2 31 = v 31 ∧ v2 32 = v 32 ∧ v2 33 = v 33) ∧ (((f2 = -1 ∧ v2 3 = v 3 ∧ (n < 0 ∨ v 3 < n)) ∨ (f2 = n ∧ v2 3 = n ∧ 0 ≤ n ∧ n ≤ v 3)) ∧ a2 2 = a 2) ∧ (v2 30 = v 30 ∧ a2 29 = a 29) ∧ (TSAME v a v2 a2)) : REL h0 sk L2 cl2 ln2 iv2 rv2 v2 a2 := ⟨fd_keep hr.1 hp.2.1 hq.2.1, ⟨by have h1 := hr.2.1.1; have h2 := hp.2.2.1.1; have h3 := hq.2.2.1.1; omega, by rw [hq.2.2.1.2]; exact hp.2.2.1.2 _ hr.2.1.2⟩, tx_keep hr.2.2.1 hp.2.2.2.1 hq.2.2.2.1, tab_same hr.2.2.2.1 hp.2.2.2.2.1 hq.2.2.2.2, rps_same ⟨hr.2.2.2.1, hr.2.2.2.2.1⟩ hp.2.2.2.2 hq.2.2.2.2, sec_same hr.2.2.2.2.2 hq.2.2.2.2⟩
theorem tx_both {f1 f2 : Int} (hr : REL h0 sk L cl ln iv rv v a) (hp : (∀ ss, CT iv rv (sk 2) ss → ((f1 = -1 ∧ iv2 (sk 3) 2 = iv (sk 3) 2 ∧ ¬ (TOK ss (iv (sk 2) 2) ∧ iv (sk 3) 2 + iv (sk 2) 2 ≤ 500)) ∨ (f1 = iv2 (sk 3) 2 ∧ TOK ss (iv (sk 2) 2) ∧ iv (sk 3) 2 + iv (sk 2) 2 ≤ 500 ∧ ((iv (sk 2) 2 = 0 ∧ iv2 (sk 3) 2 = 0) ∨ (iv (sk 2) 2 ≠ 0 ∧ iv2 (sk 3) 2 = iv (sk 3) 2 + iv (sk 2) 2))))) ∧ (∀ ss tt, CT iv rv (sk 2) ss → CT iv rv (sk 3) tt → (f1 = -1 → CT iv2 rv2 (sk 3) tt) ∧ (f1 ≠ -1 → CT iv2 rv2 (sk 3) (apd tt (iv (sk 3) 2).toNat ss)))) (hq : (((f2 = -1 ∧ v2 30 = v 30 ∧ ¬ (TOK (a 2) (v 3) ∧ v 30 + v 3 ≤ 500)) ∨ (f2 = v2 30 ∧ TOK (a 2) (v 3) ∧ v 30 + v 3 ≤ 500 ∧ ((v 3 = 0 ∧ v2 30 = 0) ∨ (v 3 ≠ 0 ∧ v2 30 = v 30 + v 3))))) ∧ TXR v a v2 a2 f2) : f1 = f2 ∧ iv2 (sk 3) 2 = v2 30 ∧ CT iv2 rv2 (sk 3) (a2 29) := by
  have h1 := hr.2.1.1; have h2 := hr.2.2.1.1
  have k1 := hp.2 _ _ hr.2.1.2 hr.2.2.1.2
  rw [h2] at k1
  rcases hp.1 _ hr.2.1.2 with ⟨p1, p2, p3⟩ | ⟨p1, p2, p3, p4⟩ <;> rcases hq.1 with ⟨q1, q2, q3⟩ | ⟨q1, q2, q3, q4⟩
  · exact ⟨by omega, by omega, by rw [hq.2.1 q1]; exact k1.1 p1⟩
  · rw [h1, h2] at p3; exact absurd ⟨q2, q3⟩ p3
  · rw [h1, h2] at p3; rw [h1] at p2; exact absurd ⟨p2, p3⟩ q3
  · have e : iv2 (sk 3) 2 = v2 30 := by omega
    refine ⟨by omega, e, fun b hb j hj => ?_⟩
    by_cases c : f1 = -1
    · omega
    · by_cases c2 : f2 = -1
      · omega
      · rw [k1.2 c b hb j hj, hq.2.2 c2 j (by omega)]
theorem rel_text {P1 P2 : Prop} {f1 f2 : Int} (hr : REL h0 sk L cl ln iv rv v a) (hp : P1 ∧ (iv2 h0 14 = iv h0 14 ∧ iv2 h0 11 = iv h0 11 ∧ iv2 h0 12 = iv h0 12 ∧ iv2 h0 13 = iv h0 13) ∧ (iv2 (sk 2) 2 = 0) ∧ ((∀ ss, CT iv rv (sk 2) ss → ((f1 = -1 ∧ iv2 (sk 3) 2 = iv (sk 3) 2 ∧ ¬ (TOK ss (iv (sk 2) 2) ∧ iv (sk 3) 2 + iv (sk 2) 2 ≤ 500)) ∨ (f1 = iv2 (sk 3) 2 ∧ TOK ss (iv (sk 2) 2) ∧ iv (sk 3) 2 + iv (sk 2) 2 ≤ 500 ∧ ((iv (sk 2) 2 = 0 ∧ iv2 (sk 3) 2 = 0) ∨ (iv (sk 2) 2 ≠ 0 ∧ iv2 (sk 3) 2 = iv (sk 3) 2 + iv (sk 2) 2))))) ∧ (∀ ss tt, CT iv rv (sk 2) ss → CT iv rv (sk 3) tt → (f1 = -1 → CT iv2 rv2 (sk 3) tt) ∧ (f1 ≠ -1 → CT iv2 rv2 (sk 3) (apd tt (iv (sk 3) 2).toNat ss)))) ∧ (PSAME sk iv rv iv2 rv2) ∧ (∃ g, WT g sk L cl ln iv rv ∧ WT g sk L2 cl2 ln2 iv2 rv2) ∧ SKL sk L cl ∧ XT L cl ln L2 cl2 ln2 ∧ (KP L cl (fun _ => False) (fun _ => False) (fun _ => False) (fun _ => False) (fun _ _ => False) iv rv iv2 rv2)) (hq : P2 ∧ (v2 56 = v 56 ∧ v2 31 = v 31 ∧ v2 32 = v 32 ∧ v2 33 = v 33) ∧ (v2 3 = 0) ∧ ((((f2 = -1 ∧ v2 30 = v 30 ∧ ¬ (TOK (a 2) (v 3) ∧ v 30 + v 3 ≤ 500)) ∨ (f2 = v2 30 ∧ TOK (a 2) (v 3) ∧ v 30 + v 3 ≤ 500 ∧ ((v 3 = 0 ∧ v2 30 = 0) ∨ (v 3 ≠ 0 ∧ v2 30 = v 30 + v 3))))) ∧ TXR v a v2 a2 f2) ∧ (TSAME v a v2 a2)) : REL h0 sk L2 cl2 ln2 iv2 rv2 v2 a2 := ⟨fd_keep hr.1 hp.2.1 hq.2.1, ⟨by have h2 := hp.2.2.1; have h3 := hq.2.2.1; omega, CT.zero hp.2.2.1⟩, (tx_both hr hp.2.2.2.1 hq.2.2.2.1).2, tab_same hr.2.2.2.1 hp.2.2.2.2.1 hq.2.2.2.2, rps_same ⟨hr.2.2.2.1, hr.2.2.2.2.1⟩ hp.2.2.2.2 hq.2.2.2.2, sec_same hr.2.2.2.2.2 hq.2.2.2.2⟩
theorem rel_failed {i x : Int} {P1 P2 : Prop} {f1 f2 : Int} (hr : REL h0 sk L cl ln iv rv v a) (hp : P1 ∧ ((((i < 0 ∨ 7 < i) ∧ f1 = -1 ∧ iv2 h0 14 = iv h0 14) ∨ (0 ≤ i ∧ i ≤ 7 ∧ iI (iv2 h0 14) = fdv (iI (iv h0 14)) i x ∧ iI f1 = bcn (iI (iv2 h0 14)))) ∧ iv2 h0 11 = iv h0 11 ∧ iv2 h0 12 = iv h0 12 ∧ iv2 h0 13 = iv h0 13) ∧ ((iv2 (sk 2) 2 = iv (sk 2) 2 ∧ (∀ ss, CT iv rv (sk 2) ss → CT iv2 rv2 (sk 2) ss))) ∧ (iv2 (sk 3) 2 = iv (sk 3) 2 ∧ (∀ tt, CT iv rv (sk 3) tt → CT iv2 rv2 (sk 3) tt)) ∧ (PSAME sk iv rv iv2 rv2) ∧ (∃ g, WT g sk L cl ln iv rv ∧ WT g sk L2 cl2 ln2 iv2 rv2) ∧ SKL sk L cl ∧ XT L cl ln L2 cl2 ln2 ∧ (KP L cl (fun _ => False) (fun _ => False) (fun _ => False) (fun _ => False) (fun _ _ => False) iv rv iv2 rv2)) (hq : P2 ∧ ((((i < 0 ∨ 7 < i) ∧ f2 = -1 ∧ v2 56 = v 56) ∨ (0 ≤ i ∧ i ≤ 7 ∧ iI (v2 56) = fdv (iI (v 56)) i x ∧ iI f2 = bcn (iI (v2 56)))) ∧ v2 31 = v 31 ∧ v2 32 = v 32 ∧ v2 33 = v 33) ∧ ((v2 3 = v 3 ∧ a2 2 = a 2)) ∧ (v2 30 = v 30 ∧ a2 29 = a 29) ∧ (TSAME v a v2 a2)) : REL h0 sk L2 cl2 ln2 iv2 rv2 v2 a2 := by
  refine ⟨⟨?_, by have h1 := hr.1.2; have h2 := hp.2.1.2; have h3 := hq.2.1.2; omega⟩, tp_keep hr.2.1 hp.2.2.1 hq.2.2.1, tx_keep hr.2.2.1 hp.2.2.2.1 hq.2.2.2.1, tab_same hr.2.2.2.1 hp.2.2.2.2.1 hq.2.2.2.2, rps_same ⟨hr.2.2.2.1, hr.2.2.2.2.1⟩ hp.2.2.2.2 hq.2.2.2.2, sec_same hr.2.2.2.2.2 hq.2.2.2.2⟩
  have r1 := hr.1.1
  rcases hp.2.1.1 with ⟨p1, p2, p3⟩ | ⟨p1, p2, p3, p4⟩ <;> rcases hq.2.1.1 with ⟨q1, q2, q3⟩ | ⟨q1, q2, q3, q4⟩
  · rw [p3, q3]; exact r1
  · exact absurd p1 (by omega)
  · exact absurd q1 (by omega)
  · rw [p3, q3, r1]
theorem rel_measure {x y h : Int} {f1 f2 : Int} (hr : REL h0 sk L cl ln iv rv v a) (hp : ((f1 = 1 ∧ 1 ≤ x ∧ x ≤ 100 ∧ 1 ≤ y ∧ y ≤ 50 ∧ 1 ≤ h ∧ h ≤ 255) ∨ (f1 = -1 ∧ ¬ (1 ≤ x ∧ x ≤ 100 ∧ 1 ≤ y ∧ y ≤ 50 ∧ 1 ≤ h ∧ h ≤ 255))) ∧ (iv2 h0 14 = iv h0 14 ∧ ((f1 = 1 ∧ iv2 h0 11 = x ∧ iv2 h0 12 = y ∧ iv2 h0 13 = h) ∨ (f1 = -1 ∧ iv2 h0 11 = iv h0 11 ∧ iv2 h0 12 = iv h0 12 ∧ iv2 h0 13 = iv h0 13))) ∧ (iv2 (sk 2) 2 = iv (sk 2) 2 ∧ (∀ ss, CT iv rv (sk 2) ss → CT iv2 rv2 (sk 2) ss)) ∧ (iv2 (sk 3) 2 = iv (sk 3) 2 ∧ (∀ tt, CT iv rv (sk 3) tt → CT iv2 rv2 (sk 3) tt)) ∧ (PSAME sk iv rv iv2 rv2) ∧ (∃ g, WT g sk L cl ln iv rv ∧ WT g sk L2 cl2 ln2 iv2 rv2) ∧ SKL sk L cl ∧ XT L cl ln L2 cl2 ln2 ∧ (KP L cl (fun _ => False) (fun _ => False) (fun _ => False) (fun _ => False) (fun _ _ => False) iv rv iv2 rv2)) (hq : ((f2 = 1 ∧ 1 ≤ x ∧ x ≤ 100 ∧ 1 ≤ y ∧ y ≤ 50 ∧ 1 ≤ h ∧ h ≤ 255) ∨ (f2 = -1 ∧ ¬ (1 ≤ x ∧ x ≤ 100 ∧ 1 ≤ y ∧ y ≤ 50 ∧ 1 ≤ h ∧ h ≤ 255))) ∧ (v2 56 = v 56 ∧ ((f2 = 1 ∧ v2 31 = x ∧ v2 32 = y ∧ v2 33 = h) ∨ (f2 = -1 ∧ v2 31 = v 31 ∧ v2 32 = v 32 ∧ v2 33 = v 33))) ∧ (v2 3 = v 3 ∧ a2 2 = a 2) ∧ (v2 30 = v 30 ∧ a2 29 = a 29) ∧ (TSAME v a v2 a2)) : REL h0 sk L2 cl2 ln2 iv2 rv2 v2 a2 := by
  refine ⟨⟨by rw [hp.2.1.1, hq.2.1.1]; exact hr.1.1, ?_⟩, tp_keep hr.2.1 hp.2.2.1 hq.2.2.1, tx_keep hr.2.2.1 hp.2.2.2.1 hq.2.2.2.1, tab_same hr.2.2.2.1 hp.2.2.2.2.1 hq.2.2.2.2, rps_same ⟨hr.2.2.2.1, hr.2.2.2.2.1⟩ hp.2.2.2.2 hq.2.2.2.2, sec_same hr.2.2.2.2.2 hq.2.2.2.2⟩
  have h1 := hp.1; have h2 := hq.1; have h3 := hp.2.1.2; have h4 := hq.2.1.2; have h5 := hr.1.2
  clear hr hp hq
  omega
theorem rel_table {x y i : Int} {P1 P2 : Prop} {f1 f2 : Int} (hr : REL h0 sk L cl ln iv rv v a) (hp : P1 ∧ (iv2 h0 14 = iv h0 14 ∧ iv2 h0 11 = iv h0 11 ∧ iv2 h0 12 = iv h0 12 ∧ iv2 h0 13 = iv h0 13) ∧ ((iv2 (sk 2) 2 = iv (sk 2) 2 ∧ (∀ ss, CT iv rv (sk 2) ss → CT iv2 rv2 (sk 2) ss))) ∧ (iv2 (sk 3) 2 = iv (sk 3) 2 ∧ (∀ tt, CT iv rv (sk 3) tt → CT iv2 rv2 (sk 3) tt)) ∧ (PTBL x y i f1 sk iv rv iv2 rv2) ∧ (∃ g, WT g sk L cl ln iv rv ∧ WT g sk L2 cl2 ln2 iv2 rv2) ∧ SKL sk L cl ∧ XT L cl ln L2 cl2 ln2 ∧ ((f1 = -1 ∧ KP L cl (fun _ => False) (fun _ => False) (fun _ => False) (fun _ => False) (fun _ _ => False) iv rv iv2 rv2) ∨ (f1 ≠ -1 ∧ KP L cl (fun _ => False) (fun _ => False) (fun _ => False) (fun _ => False) (fun _ _ => False) iv rv iv2 rv2 ∧ ∃ b, (((x < 1 ∨ 3 < x) ∧ b = none) ∨ ((1 ≤ x ∧ x ≤ 3) ∧ ∃ t, ALV sk iv rv i t ∧ b = some t)) ∧ KNW L sk b none iv iv2 rv2))) (hq : P2 ∧ (v2 56 = v 56 ∧ v2 31 = v 31 ∧ v2 32 = v 32 ∧ v2 33 = v 33) ∧ ((v2 3 = v 3 ∧ a2 2 = a 2)) ∧ (v2 30 = v 30 ∧ a2 29 = a 29) ∧ (((f2 = -1 ∧ TSAME v a v2 a2 ∧ ¬ (0 ≤ x ∧ x ≤ 4 ∧ (y = 6 ∨ y = 8) ∧ v 4 ≠ 30 ∧ (x < 1 ∨ 3 < x ∨ (0 ≤ i ∧ i < v 4 ∧ a 5 i.toNat = 1 ∧ a 6 i.toNat ≤ 3)))) ∨ (f2 = v 4 ∧ (0 ≤ x ∧ x ≤ 4 ∧ (y = 6 ∨ y = 8) ∧ v 4 ≠ 30 ∧ (x < 1 ∨ 3 < x ∨ (0 ≤ i ∧ i < v 4 ∧ a 5 i.toNat = 1 ∧ a 6 i.toNat ≤ 3))) ∧ TNEW x y (if x < 1 ∨ 3 < x then -1 else i) (-1) v a v2 a2)))) : REL h0 sk L2 cl2 ln2 iv2 rv2 v2 a2 := ⟨fd_keep hr.1 hp.2.1 hq.2.1, tp_keep hr.2.1 hp.2.2.1 hq.2.2.1, tx_keep hr.2.2.1 hp.2.2.2.1 hq.2.2.2.1, (tbl_both hr.2.2.2.1 hp.2.2.2.2.1 hq.2.2.2.2).2, tbl_rp hr.2.2.2.1 hr.2.2.2.2.1 hp.2.2.2.2.1 hp.2.2.2.2.2 hq.2.2.2.2, tbl_sec hr.2.2.2.2.2 hr.2.2.2.1.2.2.2.2.2.1.1 hq.2.2.2.2⟩
theorem rel_join {i j : Int} {P1 P2 : Prop} {f1 f2 : Int} (hr : REL h0 sk L cl ln iv rv v a) (hp : P1 ∧ (iv2 h0 14 = iv h0 14 ∧ iv2 h0 11 = iv h0 11 ∧ iv2 h0 12 = iv h0 12 ∧ iv2 h0 13 = iv h0 13) ∧ ((iv2 (sk 2) 2 = iv (sk 2) 2 ∧ (∀ ss, CT iv rv (sk 2) ss → CT iv2 rv2 (sk 2) ss))) ∧ (iv2 (sk 3) 2 = iv (sk 3) 2 ∧ (∀ tt, CT iv rv (sk 3) tt → CT iv2 rv2 (sk 3) tt)) ∧ (PJOI i j f1 sk iv rv iv2 rv2) ∧ (∃ g, WT g sk L cl ln iv rv ∧ WT g sk L2 cl2 ln2 iv2 rv2) ∧ SKL sk L cl ∧ XT L cl ln L2 cl2 ln2 ∧ ((f1 = -1 ∧ KP L cl (fun _ => False) (fun _ => False) (fun _ => False) (fun _ => False) (fun _ _ => False) iv rv iv2 rv2) ∨ (f1 ≠ -1 ∧ KP L cl (fun _ => False) (fun _ => False) (fun _ => False) (fun _ => False) (fun _ _ => False) iv rv iv2 rv2 ∧ ∃ t u, ALV sk iv rv i t ∧ ALV sk iv rv j u ∧ KNW L sk (some t) (some u) iv iv2 rv2))) (hq : P2 ∧ (v2 56 = v 56 ∧ v2 31 = v 31 ∧ v2 32 = v 32 ∧ v2 33 = v 33) ∧ ((v2 3 = v 3 ∧ a2 2 = a 2)) ∧ (v2 30 = v 30 ∧ a2 29 = a 29) ∧ (((f2 = -1 ∧ TSAME v a v2 a2 ∧ ¬ (0 ≤ i ∧ i < v 4 ∧ a 5 i.toNat = 1 ∧ a 6 i.toNat ≤ 3 ∧ 0 ≤ j ∧ j < v 4 ∧ a 5 j.toNat = 1 ∧ a 6 j.toNat ≤ 3 ∧ v 4 ≠ 30)) ∨ (f2 = v 4 ∧ (0 ≤ i ∧ i < v 4 ∧ a 5 i.toNat = 1 ∧ a 6 i.toNat ≤ 3 ∧ 0 ≤ j ∧ j < v 4 ∧ a 5 j.toNat = 1 ∧ a 6 j.toNat ≤ 3 ∧ v 4 ≠ 30) ∧ TNEW 5 (max (a 7 i.toNat) (a 7 j.toNat)) i j v a v2 a2)))) : REL h0 sk L2 cl2 ln2 iv2 rv2 v2 a2 := ⟨fd_keep hr.1 hp.2.1 hq.2.1, tp_keep hr.2.1 hp.2.2.1 hq.2.2.1, tx_keep hr.2.2.1 hp.2.2.2.1 hq.2.2.2.1, (joi_both hr.2.2.2.1 hp.2.2.2.2.1 hq.2.2.2.2).2, joi_rp hr.2.2.2.1 hr.2.2.2.2.1 hp.2.2.2.2.1 hp.2.2.2.2.2 hq.2.2.2.2, joi_sec hr.2.2.2.2.2 hr.2.2.2.1.2.2.2.2.2.1.1 hq.2.2.2.2⟩
theorem rel_drop {i : Int} {P1 P2 : Prop} {f1 f2 : Int} (hr : REL h0 sk L cl ln iv rv v a) (hp : P1 ∧ (iv2 h0 14 = iv h0 14 ∧ iv2 h0 11 = iv h0 11 ∧ iv2 h0 12 = iv h0 12 ∧ iv2 h0 13 = iv h0 13) ∧ ((iv2 (sk 2) 2 = iv (sk 2) 2 ∧ (∀ ss, CT iv rv (sk 2) ss → CT iv2 rv2 (sk 2) ss))) ∧ (iv2 (sk 3) 2 = iv (sk 3) 2 ∧ (∀ tt, CT iv rv (sk 3) tt → CT iv2 rv2 (sk 3) tt)) ∧ (PDRP i f1 sk iv rv iv2 rv2) ∧ (∃ g, WT g sk L cl ln iv rv ∧ WT g sk L2 cl2 ln2 iv2 rv2) ∧ SKL sk L cl ∧ XT L cl ln L2 cl2 ln2 ∧ (KP L cl (fun _ => False) (fun _ => False) (fun _ => False) (fun _ => False) (fun _ _ => False) iv rv iv2 rv2)) (hq : P2 ∧ (v2 56 = v 56 ∧ v2 31 = v 31 ∧ v2 32 = v 32 ∧ v2 33 = v 33) ∧ ((v2 3 = v 3 ∧ a2 2 = a 2)) ∧ (v2 30 = v 30 ∧ a2 29 = a 29) ∧ (((f2 = -1 ∧ TSAME v a v2 a2 ∧ ¬ (0 ≤ i ∧ i < v 4 ∧ a 5 i.toNat = 1)) ∨ (f2 = 1 ∧ (0 ≤ i ∧ i < v 4 ∧ a 5 i.toNat = 1) ∧ TDRP i v a v2 a2)))) : REL h0 sk L2 cl2 ln2 iv2 rv2 v2 a2 := ⟨fd_keep hr.1 hp.2.1 hq.2.1, tp_keep hr.2.1 hp.2.2.1 hq.2.2.1, tx_keep hr.2.2.1 hp.2.2.2.1 hq.2.2.2.1, (drp_both hr.2.2.2.1 hp.2.2.2.2.1 hq.2.2.2.2).2, drp_rp hr.2.2.2.1 hr.2.2.2.2.1 hp.2.2.2.2.1 hp.2.2.2.2.2 hq.2.2.2.2, drp_sec hr.2.2.2.2.2 hr.2.2.2.1.2.2.2.2.2.1.1 hq.2.2.2.2⟩
theorem rel_rule {i x n : Int} {P1 P2 : Prop} {f1 f2 : Int} (hr : REL h0 sk L cl ln iv rv v a) (hp : P1 ∧ (iv2 h0 14 = iv h0 14 ∧ iv2 h0 11 = iv h0 11 ∧ iv2 h0 12 = iv h0 12 ∧ iv2 h0 13 = iv h0 13) ∧ (iv2 (sk 2) 2 = 0) ∧ (iv2 (sk 3) 2 = iv (sk 3) 2 ∧ (∀ tt, CT iv rv (sk 3) tt → CT iv2 rv2 (sk 3) tt)) ∧ (PRUL i x n f1 sk iv rv iv2 rv2) ∧ (∃ g, WT g sk L cl ln iv rv ∧ WT g sk L2 cl2 ln2 iv2 rv2) ∧ SKL sk L cl ∧ XT L cl ln L2 cl2 ln2 ∧ (KRU L cl sk iv rv L2 cl2 ln2 iv2 rv2 i x n f1)) (hq : P2 ∧ (v2 56 = v 56 ∧ v2 31 = v 31 ∧ v2 32 = v 32 ∧ v2 33 = v 33) ∧ (v2 3 = 0) ∧ (v2 30 = v 30 ∧ a2 29 = a 29) ∧ (((f2 = -1 ∧ TSAME v a v2 a2 ∧ ¬ ((0 ≤ i ∧ i < v 4 ∧ a 5 i.toNat = 1 ∧ a 6 i.toNat ≠ 5 ∧ 0 ≤ x ∧ x ≤ 5 ∧ 1 ≤ n ∧ n ≤ 8 ∧ 1 ≤ v 3 - n ∧ v 3 - n ≤ 4 ∧ a 10 i.toNat ≠ 200) ∧ ACL (a 2) n (v 3 - n) (DC (a 7 i.toNat)) ∧ LTK (a 2) n)) ∨ (f2 = a 10 i.toNat ∧ ((0 ≤ i ∧ i < v 4 ∧ a 5 i.toNat = 1 ∧ a 6 i.toNat ≠ 5 ∧ 0 ≤ x ∧ x ≤ 5 ∧ 1 ≤ n ∧ n ≤ 8 ∧ 1 ≤ v 3 - n ∧ v 3 - n ≤ 4 ∧ a 10 i.toNat ≠ 200) ∧ ACL (a 2) n (v 3 - n) (DC (a 7 i.toNat)) ∧ LTK (a 2) n) ∧ TRUL i x n v a v2 a2)))) : REL h0 sk L2 cl2 ln2 iv2 rv2 v2 a2 := ⟨fd_keep hr.1 hp.2.1 hq.2.1, ⟨by have h2 := hp.2.2.1; have h3 := hq.2.2.1; omega, CT.zero hp.2.2.1⟩, tx_keep hr.2.2.1 hp.2.2.2.1 hq.2.2.2.1, (rul_both hr.2.2.2.1 hr.2.1.1 hr.2.1.2 hp.2.2.2.2.1 hq.2.2.2.2).2, rul_rp hr.2.2.2.1 hr.2.2.2.2.1 hr.2.1.1 hr.2.1.2 hp.2.2.2.2.1 hp.2.2.2.2.2 hq.2.2.2.2, rul_sec hr.2.2.2.2.2 hr.2.2.2.1.2.2.2.2.2.1.1 hq.2.2.2.2⟩
theorem rel_indicator {i x : Int} {P1 P2 : Prop} {f1 f2 : Int} (hr : REL h0 sk L cl ln iv rv v a) (hp : P1 ∧ (iv2 h0 14 = iv h0 14 ∧ iv2 h0 11 = iv h0 11 ∧ iv2 h0 12 = iv h0 12 ∧ iv2 h0 13 = iv h0 13) ∧ (iv2 (sk 2) 2 = 0) ∧ (iv2 (sk 3) 2 = iv (sk 3) 2 ∧ (∀ tt, CT iv rv (sk 3) tt → CT iv2 rv2 (sk 3) tt)) ∧ (PIND i x f1 sk iv rv iv2 rv2) ∧ (∃ g, WT g sk L cl ln iv rv ∧ WT g sk L2 cl2 ln2 iv2 rv2) ∧ SKL sk L cl ∧ XT L cl ln L2 cl2 ln2 ∧ (KIN L cl sk iv rv L2 cl2 ln2 iv2 rv2 i x f1)) (hq : P2 ∧ (v2 56 = v 56 ∧ v2 31 = v 31 ∧ v2 32 = v 32 ∧ v2 33 = v 33) ∧ (v2 3 = 0) ∧ (v2 30 = v 30 ∧ a2 29 = a 29) ∧ (((f2 = -1 ∧ TSAME v a v2 a2 ∧ ¬ ((0 ≤ x ∧ x ≤ 3 ∧ 0 ≤ i ∧ i < v 4 ∧ a 5 i.toNat = 1 ∧ ((x = 0 ∧ a 6 i.toNat ≤ 2) ∨ (x = 1 ∧ a 6 i.toNat = 2) ∨ (x ≠ 0 ∧ x ≠ 1 ∧ a 6 i.toNat = 5)) ∧ v 3 ≤ 4) ∧ ACL (a 2) 0 (v 3) (DC (a 7 i.toNat)) ∧ True)) ∨ (f2 = v 3 ∧ ((0 ≤ x ∧ x ≤ 3 ∧ 0 ≤ i ∧ i < v 4 ∧ a 5 i.toNat = 1 ∧ ((x = 0 ∧ a 6 i.toNat ≤ 2) ∨ (x = 1 ∧ a 6 i.toNat = 2) ∨ (x ≠ 0 ∧ x ≠ 1 ∧ a 6 i.toNat = 5)) ∧ v 3 ≤ 4) ∧ ACL (a 2) 0 (v 3) (DC (a 7 i.toNat)) ∧ True) ∧ TIND i x v a v2 a2)))) : REL h0 sk L2 cl2 ln2 iv2 rv2 v2 a2 := ⟨fd_keep hr.1 hp.2.1 hq.2.1, ⟨by have h2 := hp.2.2.1; have h3 := hq.2.2.1; omega, CT.zero hp.2.2.1⟩, tx_keep hr.2.2.1 hp.2.2.2.1 hq.2.2.2.1, (ind_both hr.2.2.2.1 hr.2.1.1 hr.2.1.2 hp.2.2.2.2.1 hq.2.2.2.2).2, ind_rp hr.2.2.2.1 hr.2.2.2.2.1 hr.2.1.1 hr.2.1.2 hp.2.2.2.2.1 hp.2.2.2.2.2 hq.2.2.2.2, ind_sec hr.2.2.2.2.2 hr.2.2.2.1.2.2.2.2.2.1.1 hq.2.2.2.2⟩
theorem rel_undo  {P1 P2 : Prop} {f1 f2 : Int} (hr : REL h0 sk L cl ln iv rv v a) (hp : P1 ∧ (iv2 h0 14 = iv h0 14 ∧ iv2 h0 11 = iv h0 11 ∧ iv2 h0 12 = iv h0 12 ∧ iv2 h0 13 = iv h0 13) ∧ ((iv2 (sk 2) 2 = iv (sk 2) 2 ∧ (∀ ss, CT iv rv (sk 2) ss → CT iv2 rv2 (sk 2) ss))) ∧ (iv2 (sk 3) 2 = iv (sk 3) 2 ∧ (∀ tt, CT iv rv (sk 3) tt → CT iv2 rv2 (sk 3) tt)) ∧ (PUNX f1 sk iv rv iv2 rv2) ∧ (∃ g, WT g sk L cl ln iv rv ∧ WT g sk L2 cl2 ln2 iv2 rv2) ∧ SKL sk L cl ∧ XT L cl ln L2 cl2 ln2 ∧ ((f1 = 0 ∧ KP L cl (fun _ => False) (fun _ => False) (fun _ => False) (fun _ => False) (fun _ _ => False) iv rv iv2 rv2) ∨ (f1 = 1 ∧ ∃ ch, el rv (sk 23) (iv (sk 23) 2 - 1).toNat = some ch ∧ UKP L cl ch iv rv iv2 rv2))) (hq : P2 ∧ (v2 56 = v 56 ∧ v2 31 = v 31 ∧ v2 32 = v 32 ∧ v2 33 = v 33) ∧ ((v2 3 = v 3 ∧ a2 2 = a 2)) ∧ (v2 30 = v 30 ∧ a2 29 = a 29) ∧ ((∃ ln, STK ln v a) ∧ (∃ ln, STK ln v2 a2) ∧ ((v 19 = 0 ∧ f2 = 0 ∧ TSAME v a v2 a2) ∨ (v 19 ≠ 0 ∧ f2 = 1 ∧ TUND v a v2 a2)))) : REL h0 sk L2 cl2 ln2 iv2 rv2 v2 a2 := ⟨fd_keep hr.1 hp.2.1 hq.2.1, tp_keep hr.2.1 hp.2.2.1 hq.2.2.1, tx_keep hr.2.2.1 hp.2.2.2.1 hq.2.2.2.1, (und_both hr.2.2.2.1 hp.2.2.2.2.1 hq.2.2.2.2).2, und_rp hr.2.2.2.1 hr.2.2.2.2.1 hp.2.2.2.2.1 hp.2.2.2.2.2 hq.2.2.2.2, und_sec hr.2.2.2.2.2 hr.2.2.2.1.2.2.2.2.2.1.1 hq.2.2.2.2⟩
theorem rel_condition {i r x : Int} {P1 P2 : Prop} {f1 f2 : Int} (hr : REL h0 sk L cl ln iv rv v a) (hp : P1 ∧ (iv2 h0 14 = iv h0 14 ∧ iv2 h0 11 = iv h0 11 ∧ iv2 h0 12 = iv h0 12 ∧ iv2 h0 13 = iv h0 13) ∧ ((iv2 (sk 2) 2 = iv (sk 2) 2 ∧ (∀ ss, CT iv rv (sk 2) ss → CT iv2 rv2 (sk 2) ss))) ∧ (iv2 (sk 3) 2 = iv (sk 3) 2 ∧ (∀ tt, CT iv rv (sk 3) tt → CT iv2 rv2 (sk 3) tt)) ∧ (PCND i r x f1 sk iv rv iv2 rv2) ∧ (∃ g, WT g sk L cl ln iv rv ∧ WT g sk L2 cl2 ln2 iv2 rv2) ∧ SKL sk L cl ∧ XT L cl ln L2 cl2 ln2 ∧ (KCN L cl sk iv rv iv2 rv2 i r x f1)) (hq : P2 ∧ (v2 56 = v 56 ∧ v2 31 = v 31 ∧ v2 32 = v 32 ∧ v2 33 = v 33) ∧ ((v2 3 = v 3 ∧ a2 2 = a 2)) ∧ (v2 30 = v 30 ∧ a2 29 = a 29) ∧ (((f2 = -1 ∧ TSAME v a v2 a2 ∧ ¬ (0 ≤ i ∧ i < v 4 ∧ a 5 i.toNat = 1 ∧ a 6 i.toNat ≠ 5 ∧ 0 ≤ r ∧ r < a 10 i.toNat ∧ 0 ≤ x ∧ x ≤ 5)) ∨ (f2 = a 11 (200 * i + r).toNat ∧ (0 ≤ i ∧ i < v 4 ∧ a 5 i.toNat = 1 ∧ a 6 i.toNat ≠ 5 ∧ 0 ≤ r ∧ r < a 10 i.toNat ∧ 0 ≤ x ∧ x ≤ 5) ∧ TCND i r x v a v2 a2)))) : REL h0 sk L2 cl2 ln2 iv2 rv2 v2 a2 := ⟨fd_keep hr.1 hp.2.1 hq.2.1, tp_keep hr.2.1 hp.2.2.1 hq.2.2.1, tx_keep hr.2.2.1 hp.2.2.2.1 hq.2.2.2.1, cnd_both hr.2.2.2.1 hp.2.2.2.2.1 hq.2.2.2.2, (cnd_rp hr.2.2.2.1 hr.2.2.2.2.1 hp.2.2.2.2.1 hp.2.2.2.2.2 hq.2.2.2.2).2, cnd_sec hr.2.2.2.2.2 hr.2.2.2.1.2.2.2.2.2.1.1 hq.2.2.2.2⟩
end RELS
section RLSS
variable {h0 : Nat} {L L2 : List Nat} {cl ln cl2 ln2 sk : Nat → Nat} {iv iv2 : Nat → Nat → Int} {rv rv2 : Nat → Nat → Option Nat} {v v2 : Nat → Int} {a a2 : Nat → Nat → Int}
end RLSS
def SHB (h0 : Nat) (iv : Nat → Nat → Int) (rv : Nat → Nat → Option Nat) (v : Nat → Int) (a : Nat → Nat → Int) : Prop := ∃ sA sB E, rv h0 9 = some sA ∧ rv h0 10 = some sB ∧ LNK rv sB sA ∧ SHT iv rv sA E ∧ SHA v a E
def RLC (h0 : Nat) (sk : Nat → Nat) (L : List Nat) (cl ln : Nat → Nat) (iv : Nat → Nat → Int) (rv : Nat → Nat → Option Nat) (v : Nat → Int) (a : Nat → Nat → Int) : Prop := REL h0 sk L cl ln iv rv v a ∧ (iv h0 15 = v 42 ∧ iI (iv h0 16) = iI (v 43)) ∧ SHB h0 iv rv v a
section RLCS
variable {h0 : Nat} {L L2 : List Nat} {cl ln cl2 ln2 sk : Nat → Nat} {iv iv2 : Nat → Nat → Int} {rv rv2 : Nat → Nat → Option Nat} {v v2 : Nat → Int} {a a2 : Nat → Nat → Int}
theorem shb_keep (hr : SHB h0 iv rv v a) (hp : KSC h0 iv rv iv2 rv2) (hq : KSA v a v2 a2) : SHB h0 iv2 rv2 v2 a2 := by
  obtain ⟨sA, sB, E, q1, q2, q3, q4, q5⟩ := hr
  obtain ⟨p1, p2, p3, p4⟩ := hp sA sB q1 q2 q3
  exact ⟨sA, sB, E, p1, p2, p3, q4.sam p4, q5.cg hq⟩
theorem tch_both {A : Int → List (Option (List Int)) → List (Option (List Int)) → Prop} {f1 f2 : Int} (hu : ∀ f g E E1 E2, A f E E1 → A g E E2 → f = g ∧ E1 = E2) (hr : SHB h0 iv rv v a) (hp : TCH iv rv iv2 h0 (A f1) ∧ rv2 = rv) (hq : ∀ E, SHA v a E → ∃ E2, A f2 E E2 ∧ SHA v2 a2 E2) : f1 = f2 ∧ SHB h0 iv2 rv2 v2 a2 := by
  obtain ⟨sA, sB, E, q1, q2, q3, q4, q5⟩ := hr
  obtain ⟨E1, p1, p2⟩ := hp.1 sA sB q1 q2 q3 E q4
  obtain ⟨E2, r1, r2⟩ := hq E q5
  obtain ⟨e1, e2⟩ := hu f1 f2 E E1 E2 p1 r1
  subst e2
  rw [hp.2]
  exact ⟨e1, sA, sB, E1, q1, q2, q3, p2, r2⟩
theorem lose_both {i f1 f2 : Int} (hr : SHB h0 iv rv v a) (hp : TCH iv rv iv2 h0 (fun E E2 => LOSX E i f1 E2) ∧ rv2 = rv) (hq : LSA v a v2 a2 i f2) : f1 = f2 ∧ SHB h0 iv2 rv2 v2 a2 := tch_both (A := fun f E E2 => LOSX E i f E2) (fun _ _ _ _ _ g1 g2 => LOSX.uni g1 g2) hr hp hq
theorem cut_both {i n f1 f2 : Int} (hr : SHB h0 iv rv v a) (hp : TCH iv rv iv2 h0 (fun E E2 => CUTX E i n f1 E2) ∧ rv2 = rv) (hq : CTA v a v2 a2 i n f2) : f1 = f2 ∧ SHB h0 iv2 rv2 v2 a2 := tch_both (A := fun f E E2 => CUTX E i n f E2) (fun _ _ _ _ _ g1 g2 => CUTX.uni g1 g2) hr hp hq
theorem copyRow_both {q w u x n f1 f2 : Int} (hr : SHB h0 iv rv v a) (hp : TCH iv rv iv2 h0 (fun E E2 => CPRX E q w u x n f1 E2) ∧ rv2 = rv) (hq : CRA v a v2 a2 q w u x n f2) : f1 = f2 ∧ SHB h0 iv2 rv2 v2 a2 := tch_both (A := fun f E E2 => CPRX E q w u x n f E2) (fun _ _ _ _ _ g1 g2 => CPRX.uni g1 g2) hr hp hq
theorem copyLines_both {q u n f1 f2 : Int} (h15 : iv h0 15 = v 42) (hr : SHB h0 iv rv v a) (hp : TCH iv rv iv2 h0 (fun E E2 => CPLX E q u n (iv h0 15) f1 E2 (iv2 h0 15)) ∧ rv2 = rv) (hq : CPA v a v2 a2 q u n f2) : f1 = f2 ∧ iv2 h0 15 = v2 42 ∧ SHB h0 iv2 rv2 v2 a2 := by
  obtain ⟨sA, sB, E, q1, q2, q3, q4, q5⟩ := hr
  obtain ⟨E1, p1, p2⟩ := hp.1 sA sB q1 q2 q3 E q4
  obtain ⟨E2, r1, r2⟩ := hq E q5
  have p3 : CPLX E q u n (iv h0 15) f1 E1 (iv2 h0 15) := p1
  rw [h15] at p3
  obtain ⟨e1, e2, e3⟩ := CPLX.uni p3 r1
  subst e2
  rw [hp.2]
  exact ⟨e1, e3, sA, sB, E1, q1, q2, q3, p2, r2⟩
theorem setc_both {i f1 f2 : Int} (hr : RLC h0 sk L cl ln iv rv v a) (hp : PSX sk ln iv rv iv2 rv2 h0 (iv h0 11) (iv h0 13) i f1) (hq : SETX v a v2 a2 i f2 ∧ TBL v a ∧ ∀ j, a 10 j ≤ 200) : f1 = f2 ∧ SHB h0 iv2 rv2 v2 a2 := by
  obtain ⟨hr, _, sA, sB, E, q1, q2, q3, q4, q5⟩ := hr
  obtain ⟨hX, hT, h10⟩ := hq
  have ph : PHY sk ln iv rv sA sB (iv h0 11) (iv h0 13) v a := ⟨⟨hr.2.2.2.1, hr.2.2.2.2.1, hT, hr.2.2.2.2.2⟩, h10, hr.2.2.1, ⟨hr.1.2.1, hr.1.2.2.2⟩, q3⟩
  rcases hp sA sB q1 q2 v a ph with ⟨n1, n2, n3, n4⟩ | ⟨D, d1, d2, d3, d4, d5⟩ <;> rcases hX with ⟨m1, m2⟩ | ⟨D2, e1, e2⟩
  · exact ⟨n1.1.trans m1.1.symm, sA, sB, E, n2, n3, n4.1, q4.sam n4.2.1, q5.cg m2⟩
  · exact (SETN.no n1 e1).elim
  · exact (SETN.no m1 d1).elim
  · obtain ⟨u1, u2⟩ := SETD.uni hT d1 e1
    subst u2
    have gm : ∀ (l : Nat) (x : Option (List Int)), (D.map some)[l]? = some x → ∃ xs, x = some xs ∧ D[l]? = some xs := fun l x e => by
      rw [List.getElem?_map] at e
      cases hd : D[l]? with
      | none => rw [hd] at e; cases e
      | some xs => rw [hd] at e; cases e; exact ⟨xs, rfl, rfl⟩
    refine ⟨u1, sB, sA, D.map some, d2, d3, d4, ⟨by rw [List.length_map]; exact d5.1, fun l x e => ?_⟩, by rw [List.length_map]; exact e2.1, fun l x e => ?_⟩
    · obtain ⟨xs, g1, g2⟩ := gm l x e
      obtain ⟨rb, r, k1, k2, k3, k4⟩ := d5.2 l xs g2
      exact ⟨rb, r, k1, k2, Or.inr ⟨xs, g1, k3, k4⟩⟩
    · obtain ⟨xs, g1, g2⟩ := gm l x e
      obtain ⟨k1, k2⟩ := e2.2 l xs g2
      exact Or.inr ⟨xs, g1, k1, k2⟩
theorem emboss_both {i n f1 f2 : Int} (h16 : iI (iv h0 16) = iI (v 43)) (h11 : iv h0 11 = v 31) (hr : SHB h0 iv rv v a) (hp : EPX iv rv iv2 h0 i n (iv h0 11) f1) (hq : EMA v a v2 i n f2) : iI f1 = iI f2 ∧ iI (iv2 h0 16) = iI (v2 43) := by
  obtain ⟨sA, sB, E, q1, q2, q3, q4, q5⟩ := hr
  have p := hp sA q1 E q4
  rw [h16, h11] at p
  exact EMBX.uni p (hq E q5)
theorem shb_zero (hz : SHZ h0 iv rv) (h36 : v 36 = 0) : SHB h0 iv rv v a := by
  obtain ⟨sA, sB, q1, q2, q3, q4⟩ := hz.mk h36
  exact ⟨sA, sB, [], q1, q2, q3, ⟨by rw [q4, h36]; rfl, fun l x e => by simp at e⟩, by rw [h36]; rfl, fun l x e => by simp at e⟩
end RLCS
section RLHS
variable {h0 : Nat} {L L2 : List Nat} {cl ln cl2 ln2 sk : Nat → Nat} {iv iv2 : Nat → Nat → Int} {rv rv2 : Nat → Nat → Option Nat} {v v2 : Nat → Int} {a a2 : Nat → Nat → Int}
end RLHS
section RLBS
variable {h0 : Nat} {L L2 : List Nat} {cl ln cl2 ln2 sk : Nat → Nat} {iv iv2 : Nat → Nat → Int} {rv rv2 : Nat → Nat → Option Nat} {v v2 : Nat → Int} {a a2 : Nat → Nat → Int}
end RLBS
section RLFS
variable {h0 : Nat} {L L2 : List Nat} {cl ln cl2 ln2 sk : Nat → Nat} {iv iv2 : Nat → Nat → Int} {rv rv2 : Nat → Nat → Option Nat} {v v2 : Nat → Int} {a a2 : Nat → Nat → Int}
end RLFS
end
