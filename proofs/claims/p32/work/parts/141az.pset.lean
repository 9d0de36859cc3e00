section
set_option maxHeartbeats 4000000 in
set_option maxRecDepth 100000 in
theorem G_sclear {l : Launch} {G : GT} {mi : Nat} {sk : Nat → Nat} {L : List Nat} {cl ln : Nat → Nat} {iv : Nat → Nat → Int} {rv : Nat → Nat → Option Nat}  {a0 : Nat} (hW : WT (g0 G) sk L cl ln iv rv) (hS : SKL sk L cl) (t_a0 : ty L cl a0 18)  : Mc l G mi (Phi (g0 G) sk) PHM yX7_clear cX7_clear 1 none 0 [.ref a0] L cl ln iv rv 0 (fun v L2 cl2 ln2 iv2 rv2 => v = none ∧ L = L2 ∧ cl = cl2 ∧ ln = ln2 ∧ rv = rv2 ∧ fT [18] L cl iv rv iv2 rv2 ∧ WT (g0 G) sk L2 cl2 ln2 iv2 rv2 ∧ (iv2 = up2 iv a0 1 0)) := by
  refine Mc.mk (by decide) (Nat.le_of_ble_eq_true rfl) ?_
  intro p e s m args below meth c A C hM
  refine hv3 (Phi.le hW hS) (show XT L cl ln L cl ln from XT.refl) (show fT [18] L cl iv rv iv rv from fT.refl) (fun hph hX0 hF0 => ?_)
  refine c_aload_n (j := 0) (x := a0) C dX7_clear_0 rfl ?_
  refine c_iconst C dX7_clear_1 ?_
  refine c_put (z := 0) (k := 1) C ck_8 dX7_clear_2 w2_34 (by decide) rfl t_a0 rfl rfl (by decide) rfl (by rfl) (by rfl) (fun iv1 pq1 => ?_)
  refine hv2 (hW.puti pq1 t_a0 ⟨by decide, by decide⟩ rfl) (hF0.puti hX0 pq1 t_a0 rfl) (fun W1 F1 => ?_)
  exact c_vret C dX7_clear_5 rfl (by decide) (rom0 hph hph (by decide)) ⟨rfl, rfl, rfl, rfl, rfl, F1, W1, pq1⟩
set_option maxHeartbeats 4000000 in
set_option maxRecDepth 100000 in
theorem G_publish {l : Launch} {G : GT} {mi : Nat} {sk : Nat → Nat} {L : List Nat} {cl ln : Nat → Nat} {iv : Nat → Nat → Int} {rv : Nat → Nat → Option Nat}  {a0 : Nat} (hW : WT (g0 G) sk L cl ln iv rv) (hS : SKL sk L cl) (t_a0 : ty L cl a0 1)  : Mc l G mi (Phi (g0 G) sk) PHM yX11_publish cX11_publish 2 (some .int) 1 [.ref a0] L cl ln iv rv 0 (fun v L2 cl2 ln2 iv2 rv2 => ∃ f : Int, v = some (.int (iI f)) ∧ L = L2 ∧ cl = cl2 ∧ ln = ln2 ∧ fT [1] L cl iv rv iv2 rv2 ∧ WT (g0 G) sk L2 cl2 ln2 iv2 rv2 ∧ (-2147483648 ≤ f ∧ f ≤ 2147483647) ∧ (PBX iv rv rv2 a0 f) ∧ iv2 a0 11 = iv a0 11 ∧ iv2 a0 12 = iv a0 12 ∧ iv2 a0 13 = iv a0 13 ∧ iv2 a0 14 = iv a0 14 ∧ iv2 a0 15 = iv a0 15 ∧ iv2 a0 16 = iv a0 16) := by
  refine Mc.mk (by decide) (Nat.le_of_ble_eq_true rfl) ?_
  intro p e s m args below meth c A C hM
  refine hv3 (Phi.le hW hS) (show XT L cl ln L cl ln from XT.refl) (show fT [1] L cl iv rv iv rv from fT.refl) (fun hph hX0 hF0 => ?_)
  obtain ⟨sA, hsA, tsA⟩ := hW.ref t_a0 9 rfl rfl rfl
  obtain ⟨sB, hsB, tsB⟩ := hW.ref t_a0 10 rfl rfl rfl
  refine c_aload_n (j := 0) (x := a0) C dX11_publish_0 rfl ?_
  refine c_getr (k := 9) C ck_12 dX11_publish_1 w2_53 (by decide) t_a0 rfl rfl (by decide) rfl hsA ?_
  refine c_st (st2 := [.ref sA]) rfl ?_
  refine c_astore_n (lv2 := [(1, .ref sA), (0, .ref a0)]) C dX11_publish_4 (by decide) rfl ?_
  refine c_aload_n (j := 1) (x := a0) C dX11_publish_5 rfl ?_
  refine c_aload_n (j := 1) (x := a0) C dX11_publish_6 rfl ?_
  refine c_getr (k := 10) C ck_12 dX11_publish_7 w2_54 (by decide) t_a0 rfl rfl (by decide) rfl hsB ?_
  refine c_st (st2 := [.ref sB, .ref a0]) rfl ?_
  refine c_putr (x := (some sB)) (k := 9) C ck_12 dX11_publish_10 w2_53 (by decide) rfl t_a0 rfl rfl (by decide) rfl (by rfl) (by rfl) (fun rv1 pq1 => ⟨0, (by rw [Phi.putr hS pq1 t_a0 rfl]; exact Nat.le_refl _), ?_⟩)
  refine hv2 (hW.putr pq1 t_a0 (rok_some t_a0 tsB rfl (by decide) rfl) rfl (by decide)) (hF0.putr hX0 pq1 t_a0 rfl) (fun W1 F1 => ?_)
  refine c_aload_n (j := 1) (x := a0) C dX11_publish_13 rfl ?_
  refine c_aload_n (j := 0) (x := sA) C dX11_publish_14 rfl ?_
  refine c_putr (x := (some sA)) (k := 10) C ck_12 dX11_publish_15 w2_54 (by decide) rfl t_a0 rfl rfl (by decide) rfl (by rfl) (by rfl) (fun rv2 pq2 => ⟨0, (by rw [Phi.putr hS pq2 t_a0 rfl]; exact Nat.le_refl _), ?_⟩)
  refine hv2 (W1.putr pq2 t_a0 (rok_some t_a0 tsA rfl (by decide) rfl) rfl (by decide)) (F1.putr hX0 pq2 t_a0 rfl) (fun W2 F2 => ?_)
  refine c_aload_n (j := 1) (x := a0) C dX11_publish_18 rfl ?_
  refine c_aload_n (j := 1) (x := a0) C dX11_publish_19 rfl ?_
  refine hv2 (show rv1 a0 9 = (some sB) from by rw [pq1]; exact upr_s) (show rv2 a0 9 = rv1 a0 9 from (by rw [pq2]; exact upr_j (by decide))) (fun rp1 re1 => ?_)
  rw [rp1] at re1
  refine c_getr (k := 9) C ck_12 dX11_publish_20 w2_53 (by decide) t_a0 rfl rfl (by decide) rfl re1 ?_
  refine c_st (st2 := [.ref sB, .ref a0]) rfl ?_
  have ri1 : 0 ≤ iv sB 1 ∧ iv sB 1 ≤ 200 := W2.int tsB 1
  refine c_get (k := 1) C ck_8 dX11_publish_23 w2_35 (by decide) tsB rfl rfl (by decide) rfl ?_
  have pl1 := Phi.le W2 hS
  refine d_callV (As := [.int (iI (iv sB 1))]) (rest := []) C hM (C_done (a0 := a0) (x := iv sB 1) W2 hS t_a0 (by omega) ) dX11_publish_26 kV_X11_109 rfl t_a0 rfl rfl (by decide) ck_12 rfl (Nat.le_of_ble_eq_true rfl) ⟨(Nat.le_of_ble_eq_true rfl), (Nat.le_of_ble_eq_true rfl)⟩ hph pl1 (show 0 + 0 = 0 from rfl) (by decide) (fun rh1 Lh1 clh1 lnh1 ivh1 rvh1 h1 => ?_)
  obtain ⟨f1, rfl, rfl, rfl, rfl, rfl, fl1, W3, rgf1, exf1, kp11f1, kp12f1, kp13f1, kp14f1, kp15f1, kp16f1⟩ := h1
  refine hv7 (show 1 ≤ iv a0 11 ∧ iv a0 11 ≤ 100 from W2.int t_a0 11) (show 1 ≤ iv a0 12 ∧ iv a0 12 ≤ 50 from W2.int t_a0 12) (show (-2147483648) ≤ iv a0 13 ∧ iv a0 13 ≤ 2147483647 from W2.int t_a0 13) (show (-2147483648) ≤ iv a0 14 ∧ iv a0 14 ≤ 2147483647 from W2.int t_a0 14) (show (-2147483648) ≤ iv a0 15 ∧ iv a0 15 ≤ 2147483647 from W2.int t_a0 15) (show (-2147483648) ≤ iv a0 16 ∧ iv a0 16 ≤ 2147483647 from W2.int t_a0 16) (F2.call hX0 fl1 rfl) (fun ri2 ri3 ri4 ri5 ri6 ri7 F3 => ?_)
  refine c_st (st2 := [.int (iI f1)]) rfl ?_
  refine hv16 (show ivh1 a0 11 = iv a0 11 from kp11f1) (show ivh1 a0 12 = iv a0 12 from kp12f1) (show ivh1 a0 13 = iv a0 13 from kp13f1) (show ivh1 a0 14 = iv a0 14 from kp14f1) (show ivh1 a0 15 = iv a0 15 from kp15f1) (show ivh1 a0 16 = iv a0 16 from kp16f1) (show f1 = (iv sB 1) from exf1) (show 1 ≤ ivh1 a0 11 ∧ ivh1 a0 11 ≤ 100 from W3.int t_a0 11) (show 1 ≤ ivh1 a0 12 ∧ ivh1 a0 12 ≤ 50 from W3.int t_a0 12) (show (-2147483648) ≤ ivh1 a0 13 ∧ ivh1 a0 13 ≤ 2147483647 from W3.int t_a0 13) (show (-2147483648) ≤ ivh1 a0 14 ∧ ivh1 a0 14 ≤ 2147483647 from W3.int t_a0 14) (show (-2147483648) ≤ ivh1 a0 15 ∧ ivh1 a0 15 ≤ 2147483647 from W3.int t_a0 15) (show (-2147483648) ≤ ivh1 a0 16 ∧ ivh1 a0 16 ≤ 2147483647 from W3.int t_a0 16) (show 0 ≤ ivh1 sB 1 ∧ ivh1 sB 1 ≤ 200 from W3.int tsB 1) (show ivh1 sB 1 = iv sB 1 from fl1.i tsB rfl 1) (show rv2 a0 10 = (some sA) from by rw [pq2]; exact upr_s) (fun gk11f1 gk12f1 gk13f1 gk14f1 gk15f1 gk16f1 gf1 ri8 ri9 ri10 ri11 ri12 ri13 ri14 ie7 rp2 => ?_)
  exact c_iret C dX11_publish_29 rfl (by decide) (rom0 hph pl1 (by decide)) ⟨f1, rfl, rfl, rfl, rfl, F3, W3, ⟨by omega, by omega⟩, (fun sA' sB' e1 e2 => by
      rw [hsA] at e1; cases e1
      rw [hsB] at e2; cases e2
      exact ⟨re1, rp2, (by omega)⟩), gk11f1, gk12f1, gk13f1, gk14f1, gk15f1, gk16f1⟩
set_option maxHeartbeats 4000000 in
set_option maxRecDepth 100000 in
theorem G_set {l : Launch} {G : GT} {mi : Nat} {sk : Nat → Nat} {L : List Nat} {cl ln : Nat → Nat} {iv : Nat → Nat → Int} {rv : Nat → Nat → Option Nat}  {a0 : Nat} {i : Int} (hW : WT (g0 G) sk L cl ln iv rv) (hS : SKL sk L cl) (t_a0 : ty L cl a0 1) (h_i : -2147483648 ≤ i ∧ i ≤ 2147483647) (hmr : MRK sk cl iv rv) : Mc l G mi (Phi (g0 G) sk) PHM yX11_set cX11_set 7 (some .int) 8 [.ref a0, .int (iI i)] L cl ln iv rv 0 (fun v L2 cl2 ln2 iv2 rv2 => ∃ f : Int, v = some (.int (iI f)) ∧ XT L cl ln L2 cl2 ln2 ∧ fT [1, 14, 15, 50, 51, 52, 53, 54, 55, 18, 19, 64, 67, 203] L cl iv rv iv2 rv2 ∧ WT (g0 G) sk L2 cl2 ln2 iv2 rv2 ∧ (-2147483648 ≤ f ∧ f ≤ 2147483647) ∧ (True) ∧ iv2 a0 11 = iv a0 11 ∧ iv2 a0 12 = iv a0 12 ∧ iv2 a0 13 = iv a0 13 ∧ iv2 a0 14 = iv a0 14 ∧ iv2 a0 15 = iv a0 15 ∧ iv2 a0 16 = iv a0 16 ∧ (PSX sk ln iv rv iv2 rv2 a0 (iv a0 11) (iv a0 13) i f)) := by
  refine Mc.mk (by decide) (Nat.le_of_ble_eq_true rfl) ?_
  intro p e s m args below meth c A C hM
  refine hv14 (Phi.le hW hS) (show ty L cl (sk 2) 2 from ⟨(hS 2 rfl).1, by rw [(hS 2 rfl).2]; rfl⟩) (show ty L cl (sk 3) 3 from ⟨(hS 3 rfl).1, by rw [(hS 3 rfl).2]; rfl⟩) (show ty L cl (sk 4) 4 from ⟨(hS 4 rfl).1, by rw [(hS 4 rfl).2]; rfl⟩) (show ty L cl (sk 5) 5 from ⟨(hS 5 rfl).1, by rw [(hS 5 rfl).2]; rfl⟩) (show ty L cl (sk 13) 13 from ⟨(hS 13 rfl).1, by rw [(hS 13 rfl).2]; rfl⟩) (show ty L cl (sk 14) 14 from ⟨(hS 14 rfl).1, by rw [(hS 14 rfl).2]; rfl⟩) (show ty L cl (sk 15) 15 from ⟨(hS 15 rfl).1, by rw [(hS 15 rfl).2]; rfl⟩) (show ty L cl (sk 16) 16 from ⟨(hS 16 rfl).1, by rw [(hS 16 rfl).2]; rfl⟩) (show ty L cl (sk 17) 17 from ⟨(hS 17 rfl).1, by rw [(hS 17 rfl).2]; rfl⟩) (show ty L cl (sk 22) 22 from ⟨(hS 22 rfl).1, by rw [(hS 22 rfl).2]; rfl⟩) (show ty L cl (sk 23) 23 from ⟨(hS 23 rfl).1, by rw [(hS 23 rfl).2]; rfl⟩) (show XT L cl ln L cl ln from XT.refl) (show fT [1, 14, 15, 50, 51, 52, 53, 54, 55, 18, 19, 64, 67, 203] L cl iv rv iv rv from fT.refl) (fun hph tsk2 tsk3 tsk4 tsk5 tsk13 tsk14 tsk15 tsk16 tsk17 tsk22 tsk23 hX0 hF0 => ?_)
  obtain ⟨sA, hsA, tsA⟩ := hW.ref t_a0 9 rfl rfl rfl
  obtain ⟨sB, hsB, tsB⟩ := hW.ref t_a0 10 rfl rfl rfl
  refine hv5 (show (-2147483648) ≤ iv (sk 14) 0 ∧ iv (sk 14) 0 ≤ 2147483647 from hW.int tsk14 0) (show 0 ≤ iv (sk 14) 1 ∧ iv (sk 14) 1 ≤ 1 from hW.int tsk14 1) (show 0 ≤ iv (sk 14) 2 ∧ iv (sk 14) 2 ≤ 1 from hW.int tsk14 2) (show 1 ≤ iv a0 11 ∧ iv a0 11 ≤ 100 from hW.int t_a0 11) (show (-2147483648) ≤ iv a0 13 ∧ iv a0 13 ≤ 2147483647 from hW.int t_a0 13) (fun ri1 ri2 ri3 ri4 ri5 => ?_)
  refine c_aload_n (j := 0) (x := a0) C dX11_set_0 rfl ?_
  obtain ⟨rb1, rq1, trb1⟩ := hW.ref t_a0 4 rfl rfl rfl
  have erb1 := hW.sk trb1 (by decide) rfl
  subst erb1
  refine c_getr (k := 4) C ck_12 dX11_set_1 w2_48 (by decide) t_a0 rfl rfl (by decide) rfl rq1 ?_
  refine c_st (st2 := [.ref (sk 13)]) rfl ?_
  refine c_iload_n (j := 1) C dX11_set_4 rfl ?_
  refine d_callV (As := [.int (iI i)]) (rest := []) C hM (G_whole (a0 := (sk 13)) (i := i) hW hS tsk13 (by omega) hmr) dX11_set_5 kV_X11_231 rfl tsk13 rfl rfl (by decide) ck_11 rfl (Nat.le_of_ble_eq_true rfl) ⟨(Nat.le_of_ble_eq_true rfl), (Nat.le_of_ble_eq_true rfl)⟩ hph hph (show 0 + 0 = 0 from rfl) (by decide) (fun rh1 Lh1 clh1 lnh1 ivh1 rvh1 h1 => ?_)
  obtain ⟨f1, rfl, rfl, rfl, rfl, rfl, rfl, rgf1, exf1⟩ := h1
  refine c_st (st2 := [(va_rf f1)]) rfl ?_
  have gf1 : WOX sk ln iv rv i f1 := exf1
  refine c_astorer_n (r := f1) (lv2 := [(2, (va_rf f1)), (0, .ref a0), (1, .int (iI i))]) C dX11_set_8 (by decide) rfl ?_
  refine c_aloadr_n (j := 0) (r := f1) C dX11_set_9 rfl ?_
  refine c_ifnonnull (r := f1) (tgt := 19) C dX11_set_10 (by decide) (fun ob1 oq1 => ?_) (fun oq1 => ?_)
  · subst oq1
    refine hv2 (rgf1 ob1 rfl) (gf1) (fun tob1 wkob1 => ?_)
    refine c_lv (lv2 := [(2, .ref ob1), (0, .ref a0), (1, .int (iI i))]) [0, 1, 2] rfl ?_
    refine c_st (st2 := []) rfl ?_
    refine c_aload_n (j := 1) (x := a0) C dX11_set_19 rfl ?_
    refine c_getr (k := 10) C ck_12 dX11_set_20 w2_54 (by decide) t_a0 rfl rfl (by decide) rfl hsB ?_
    refine c_st (st2 := [.ref sB]) rfl ?_
    have ri6 : 0 ≤ iv sB 1 ∧ iv sB 1 ≤ 200 := hW.int tsB 1
    refine d_callV (As := []) (rest := []) C hM (G_sclear (a0 := sB) hW hS tsB  ) dX11_set_23 kV_X11_234 rfl tsB rfl rfl (by decide) ck_8 rfl (Nat.le_of_ble_eq_true rfl) ⟨(Nat.le_of_ble_eq_true rfl), (Nat.le_of_ble_eq_true rfl)⟩ hph hph (show 0 + 0 = 0 from rfl) (by decide) (fun rh2 Lh2 clh2 lnh2 ivh2 rvh2 h2 => ?_)
    obtain ⟨rfl, rfl, rfl, rfl, rfl, fl2, W2, exf2⟩ := h2
    refine hv2 (hF0.call hX0 fl2 rfl) (MRK.call hmr hW hS XT.refl fl2 rfl rfl) (fun F1 mr1 => ?_)
    refine c_st (st2 := []) rfl ?_
    refine c_aload_n (j := 1) (x := a0) C dX11_set_26 rfl ?_
    obtain ⟨rb2, rq2, trb2⟩ := W2.ref t_a0 5 rfl rfl rfl
    have erb2 := W2.sk trb2 (by decide) rfl
    subst erb2
    refine c_getr (k := 5) C ck_12 dX11_set_27 w2_49 (by decide) t_a0 rfl rfl (by decide) rfl rq2 ?_
    refine c_st (st2 := [.ref (sk 14)]) rfl ?_
    refine d_callV (As := []) (rest := []) C hM (C_restart (a0 := (sk 14)) W2 hS tsk14  ) dX11_set_30 kV_X11_235 rfl tsk14 rfl rfl (by decide) ck_9 rfl (Nat.le_of_ble_eq_true rfl) ⟨(Nat.le_of_ble_eq_true rfl), (Nat.le_of_ble_eq_true rfl)⟩ hph hph (show 0 + 0 = 0 from rfl) (by decide) (fun rh3 Lh3 clh3 lnh3 ivh3 rvh3 h3 => ?_)
    obtain ⟨rfl, rfl, rfl, rfl, rfl, fl3, W3, exf3⟩ := h3
    refine hv2 (F1.call hX0 fl3 rfl) (MRK.call mr1 W2 hS XT.refl fl3 rfl rfl) (fun F2 mr2 => ?_)
    refine c_st (st2 := []) rfl ?_
    refine hv4 (show (-2147483648) ≤ ivh3 (sk 14) 0 ∧ ivh3 (sk 14) 0 ≤ 2147483647 from W3.int tsk14 0) (show 0 ≤ ivh3 (sk 14) 1 ∧ ivh3 (sk 14) 1 ≤ 1 from W3.int tsk14 1) (show ivh3 (sk 14) 0 = 0 ∧ ivh3 (sk 14) 1 = 0 from exf3) (show 0 ≤ ivh3 (sk 14) 2 ∧ ivh3 (sk 14) 2 ≤ 1 from W3.int tsk14 2) (fun ri7 ri8 gf3 ri9 => ?_)
    refine c_iconst C dX11_set_33 ?_
    refine c_istore_n (lv2 := [(3, .int (iI 0)), (2, .ref ob1), (0, .ref a0), (1, .int (iI i))]) C dX11_set_34 (by decide) rfl ?_
    refine c_aload_n (j := 2) (x := a0) C dX11_set_35 rfl ?_
    refine c_getr (k := 5) C ck_12 dX11_set_36 w2_49 (by decide) t_a0 rfl rfl (by decide) rfl rq2 ?_
    refine c_st (st2 := [.ref (sk 14)]) rfl ?_
    refine c_aload_n (j := 2) (x := a0) C dX11_set_39 rfl ?_
    obtain ⟨rb3, rq3, trb3⟩ := W3.ref t_a0 1 rfl rfl rfl
    have erb3 := W3.sk trb3 (by decide) rfl
    subst erb3
    refine c_getr (k := 1) C ck_12 dX11_set_40 w2_45 (by decide) t_a0 rfl rfl (by decide) rfl rq3 ?_
    refine c_st (st2 := [.ref (sk 3), .ref (sk 14)]) rfl ?_
    refine c_aload_n (j := 2) (x := a0) C dX11_set_43 rfl ?_
    obtain ⟨rb4, rq4, trb4⟩ := W3.ref t_a0 6 rfl rfl rfl
    have erb4 := W3.sk trb4 (by decide) rfl
    subst erb4
    refine c_getr (k := 6) C ck_12 dX11_set_44 w2_50 (by decide) t_a0 rfl rfl (by decide) rfl rq4 ?_
    refine c_st (st2 := [.ref (sk 15), .ref (sk 3), .ref (sk 14)]) rfl ?_
    refine d_callV (As := [.ref (sk 3), .ref (sk 15)]) (rest := []) C hM (G_step (a0 := (sk 14)) (a1 := (sk 3)) (a2 := (sk 15)) W3 hS tsk14 tsk3 tsk15  (by show 0 ≤ ivh3 (sk 14) 0 ∧ ivh3 (sk 14) 0 ≤ 501 ∧ (ivh3 (sk 14) 1 = 0 ∨ ivh3 (sk 14) 0 ≤ 500); omega)) dX11_set_47 kV_X11_238 rfl tsk14 rfl rfl (by decide) ck_9 rfl (Nat.le_of_ble_eq_true rfl) ⟨(Nat.le_of_ble_eq_true rfl), (Nat.le_of_ble_eq_true rfl)⟩ hph hph (show 0 + 0 = 0 from rfl) (by decide) (fun rh4 Lh4 clh4 lnh4 ivh4 rvh4 h4 => ?_)
    obtain ⟨f4, rfl, rfl, rfl, rfl, rfl, fl4, W4, rgf4, exf4⟩ := h4
    refine hv2 (F2.call hX0 fl4 rfl) (MRK.call mr2 W3 hS XT.refl fl4 rfl rfl) (fun F3 mr3 => ?_)
    refine c_st (st2 := [.int (iI f4)]) rfl ?_
    refine hv4 (show (-2147483648) ≤ ivh4 (sk 14) 0 ∧ ivh4 (sk 14) 0 ≤ 2147483647 from W4.int tsk14 0) (show 0 ≤ ivh4 (sk 14) 1 ∧ ivh4 (sk 14) 1 ≤ 1 from W4.int tsk14 1) (show ((0 ≤ f4 ∧ f4 ≤ 3) ∧ 0 ≤ ivh4 (sk 14) 0 ∧ ivh4 (sk 14) 0 ≤ 501 ∧ (ivh4 (sk 14) 1 = 0 ∨ ivh4 (sk 14) 0 ≤ 500) ∧ (f4 = 0 ∨ 2 * ivh3 (sk 14) 0 + ivh3 (sk 14) 1 < 2 * ivh4 (sk 14) 0 + ivh4 (sk 14) 1)) ∧ STP ivh3 rv ivh4 (sk 3) (sk 14) (sk 15) f4 from exf4) (show 0 ≤ ivh4 (sk 14) 2 ∧ ivh4 (sk 14) 2 ≤ 1 from W4.int tsk14 2) (fun ri10 ri11 gf4 ri12 => ?_)
    refine c_istore (lv2 := [(4, .int (iI f4)), (3, .int (iI 0)), (2, .ref ob1), (0, .ref a0), (1, .int (iI i))]) C dX11_set_50 (by decide) rfl ?_
    refine c_iconst C dX11_set_52 ?_
    refine c_istore (lv2 := [(5, .int (iI 0)), (4, .int (iI f4)), (3, .int (iI 0)), (2, .ref ob1), (0, .ref a0), (1, .int (iI i))]) C dX11_set_53 (by decide) rfl ?_
    have Lp1 : ∀ (nn : Nat) (wy cm k : Int) (Lb1 : List Nat) (clb1 lnb1 : Nat → Nat) (ivb1 : Nat → Nat → Int) (rvb1 : Nat → Nat → Option Nat) , 1101 - k < (nn : Int) → XT L cl ln Lb1 clb1 lnb1 → WT (g0 G) sk Lb1 clb1 lnb1 ivb1 rvb1 → fT [1, 14, 15, 50, 51, 52, 53, 54, 55, 18, 19, 64, 67, 203] L cl iv rv ivb1 rvb1 → (0 ≤ wy ∧ wy ≤ 9) → (0 ≤ cm ∧ cm ≤ 3) → (0 ≤ k ∧ k ≤ 1100) → (0 ≤ ivb1 (sk 14) 0 ∧ ivb1 (sk 14) 0 ≤ 501 ∧ (ivb1 (sk 14) 1 = 0 ∨ ivb1 (sk 14) 0 ≤ 500)) → (cm = 0 ∨ wy ≠ 0 ∨ k < 2 * ivb1 (sk 14) 0 + ivb1 (sk 14) 1) → (rvb1 a0 9 = some sA) → (rvb1 a0 10 = some sB) → (PSL sk ln iv rv ivb1 rvb1 sA sB (iv a0 11) (iv a0 13) i wy cm) → (ivb1 a0 11 = iv a0 11) → (ivb1 a0 12 = iv a0 12) → (ivb1 a0 13 = iv a0 13) → (ivb1 a0 14 = iv a0 14) → (ivb1 a0 15 = iv a0 15) → (ivb1 a0 16 = iv a0 16) → cw p l e 8 ((PHM) + 0 - ((Phi (g0 G) sk) ln rv)) s m args below meth c G A 7 (MQ below (Qu G A (Qp G (Phi (g0 G) sk) ((Phi (g0 G) sk) ln rv) 0 (fun v L2 cl2 ln2 iv2 rv2 => ∃ f : Int, v = some (.int (iI f)) ∧ XT L cl ln L2 cl2 ln2 ∧ fT [1, 14, 15, 50, 51, 52, 53, 54, 55, 18, 19, 64, 67, 203] L cl iv rv iv2 rv2 ∧ WT (g0 G) sk L2 cl2 ln2 iv2 rv2 ∧ (-2147483648 ≤ f ∧ f ≤ 2147483647) ∧ (True) ∧ iv2 a0 11 = iv a0 11 ∧ iv2 a0 12 = iv a0 12 ∧ iv2 a0 13 = iv a0 13 ∧ iv2 a0 14 = iv a0 14 ∧ iv2 a0 15 = iv a0 15 ∧ iv2 a0 16 = iv a0 16 ∧ (PSX sk ln iv rv iv2 rv2 a0 (iv a0 11) (iv a0 13) i f)))) args s (((PHM) + 0 - ((Phi (g0 G) sk) ln rv)) / 16) ((PHM) + 0 - ((Phi (g0 G) sk) ln rv)) A) (Phi (g0 G) sk) ((Phi (g0 G) sk) ln rv) Lb1 clb1 lnb1 ivb1 rvb1 0 55 [(3, .int (iI wy)), (4, .int (iI cm)), (5, .int (iI k)), (2, .ref ob1), (0, .ref a0), (1, .int (iI i))] [] := by
      intro nn
      induction nn with
      | zero =>
        intro  wy cm k Lb1 clb1 lnb1 ivb1 rvb1 hm Xb1 Wb1 Fb1  hwy hcm hk hsr hkn h9 h10 hP hkp11 hkp12 hkp13 hkp14 hkp15 hkp16
        have skb1 := Xb1.skl hS
        exact absurd hm (by omega)
      | succ nn ih1 =>
        intro  wy cm k Lb1 clb1 lnb1 ivb1 rvb1 hm Xb1 Wb1 Fb1  hwy hcm hk hsr hkn h9 h10 hP hkp11 hkp12 hkp13 hkp14 hkp15 hkp16
        refine hv2 (Xb1.skl hS) (MRK.call hmr hW hS Xb1 Fb1 rfl rfl) (fun skb1 mrb1 => ?_)
        refine c_iload_n (j := 0) C dX11_set_55 rfl ?_
        refine c_if_ne (tgt := 203) C (r32_c (lo := 0) (hi := 9) hwy.1 hwy.2 (by decide) (by decide)) dX11_set_56 (by decide) (fun c1 => ?_) (fun c1 => ?_)
        · refine c_iload_n (j := 0) C dX11_set_203 rfl ?_
          refine c_if_ne (tgt := 214) C (r32_c (lo := 0) (hi := 9) hwy.1 hwy.2 (by decide) (by decide)) dX11_set_204 (by decide) (fun _ => ?_) (fun z => absurd z (by omega))
          refine c_aload_n (j := 4) (x := a0) C dX11_set_214 rfl ?_
          refine c_iload_n (j := 0) C dX11_set_215 rfl ?_
          refine c_aload_n (j := 4) (x := a0) C dX11_set_216 rfl ?_
          have ty1 := Xb1.ty t_a0
          obtain ⟨rb5, rq5, trb5⟩ := Wb1.ref ty1 6 rfl rfl rfl
          have erb5 := Wb1.sk trb5 (by decide) rfl
          subst erb5
          refine c_getr (k := 6) C ck_12 dX11_set_217 w2_50 (by decide) ty1 rfl rfl (by decide) rfl rq5 ?_
          refine c_st (st2 := [.ref (sk 15), .int (iI wy), .ref a0]) rfl ?_
          refine hv2 (Xb1.ty tsk15) (Phi.le Wb1 skb1) (fun ty2 pl1 => ?_)
          refine d_callV (As := []) (rest := [.int (iI wy), .ref a0]) C hM (C_placeOfUnknown (a0 := (sk 15)) Wb1 skb1 ty2  ) dX11_set_220 kV_X11_263 rfl ty2 rfl rfl (by decide) ck_7 rfl (Nat.le_of_ble_eq_true rfl) ⟨(Nat.le_of_ble_eq_true rfl), (Nat.le_of_ble_eq_true rfl)⟩ hph pl1 (show 0 + 0 = 0 from rfl) (by decide) (fun rh5 Lh5 clh5 lnh5 ivh5 rvh5 h5 => ?_)
          obtain ⟨f5, rfl, rfl, rfl, rfl, rfl, rfl, rgf5, exf5⟩ := h5
          refine c_st (st2 := [.int (iI f5), .int (iI wy), .ref a0]) rfl ?_
          refine hv2 (Xb1.ty tsB) (Xb1.ty tsA) (fun ty3 ty4 => ?_)
          refine d_callV (As := [.int (iI wy), .int (iI f5)]) (rest := []) C hM (C_refuseAt (a0 := a0) (x := wy) (y := f5) Wb1 skb1 ty1 (by omega) (by omega) ) dX11_set_223 kV_X11_266 rfl ty1 rfl rfl (by decide) ck_12 rfl (Nat.le_of_ble_eq_true rfl) ⟨(Nat.le_of_ble_eq_true rfl), (Nat.le_of_ble_eq_true rfl)⟩ hph pl1 (show 0 + 0 = 0 from rfl) (by decide) (fun rh6 Lh6 clh6 lnh6 ivh6 rvh6 h6 => ?_)
          obtain ⟨f6, rfl, rfl, rfl, rfl, rfl, fl6, W6, rgf6, exf6, kp11f6, kp12f6, kp13f6, kp14f6, kp15f6, kp16f6⟩ := h6
          refine hv8 (show 1 ≤ ivb1 a0 11 ∧ ivb1 a0 11 ≤ 100 from Wb1.int ty1 11) (show 1 ≤ ivb1 a0 12 ∧ ivb1 a0 12 ≤ 50 from Wb1.int ty1 12) (show (-2147483648) ≤ ivb1 a0 13 ∧ ivb1 a0 13 ≤ 2147483647 from Wb1.int ty1 13) (show (-2147483648) ≤ ivb1 a0 14 ∧ ivb1 a0 14 ≤ 2147483647 from Wb1.int ty1 14) (show (-2147483648) ≤ ivb1 a0 15 ∧ ivb1 a0 15 ≤ 2147483647 from Wb1.int ty1 15) (show (-2147483648) ≤ ivb1 a0 16 ∧ ivb1 a0 16 ≤ 2147483647 from Wb1.int ty1 16) (Fb1.call Xb1 fl6 rfl) (MRK.call mrb1 Wb1 skb1 XT.refl fl6 rfl rfl) (fun ri13 ri14 ri15 ri16 ri17 ri18 F4 mr4 => ?_)
          refine c_st (st2 := [.int (iI f6)]) rfl ?_
          refine hv13 (show ivh6 a0 11 = ivb1 a0 11 from kp11f6) (show ivh6 a0 12 = ivb1 a0 12 from kp12f6) (show ivh6 a0 13 = ivb1 a0 13 from kp13f6) (show ivh6 a0 14 = ivb1 a0 14 from kp14f6) (show ivh6 a0 15 = ivb1 a0 15 from kp15f6) (show ivh6 a0 16 = ivb1 a0 16 from kp16f6) (show f6 = -1 from exf6) (show 1 ≤ ivh6 a0 11 ∧ ivh6 a0 11 ≤ 100 from W6.int ty1 11) (show 1 ≤ ivh6 a0 12 ∧ ivh6 a0 12 ≤ 50 from W6.int ty1 12) (show (-2147483648) ≤ ivh6 a0 13 ∧ ivh6 a0 13 ≤ 2147483647 from W6.int ty1 13) (show (-2147483648) ≤ ivh6 a0 14 ∧ ivh6 a0 14 ≤ 2147483647 from W6.int ty1 14) (show (-2147483648) ≤ ivh6 a0 15 ∧ ivh6 a0 15 ≤ 2147483647 from W6.int ty1 15) (show (-2147483648) ≤ ivh6 a0 16 ∧ ivh6 a0 16 ≤ 2147483647 from W6.int ty1 16) (fun gk11f6 gk12f6 gk13f6 gk14f6 gk15f6 gk16f6 gf6 ri19 ri20 ri21 ri22 ri23 ri24 => ?_)
          exact c_iret C dX11_set_226 rfl (by decide) (rom0 hph pl1 (by decide)) ⟨f6, rfl, Xb1, F4, W6, ⟨by omega, by omega⟩, trivial, (gk11f6.trans hkp11), (gk12f6.trans hkp12), (gk13f6.trans hkp13), (gk14f6.trans hkp14), (gk15f6.trans hkp15), (gk16f6.trans hkp16), (PSX.n2 hP (by omega) wkob1 hsA hsB h9 h10 Wb1 ty3 ty4 fl6 rfl rfl rfl rfl (by omega))⟩
        · refine c_iload (j := 1) C dX11_set_59 rfl ?_
          refine c_if_eq (tgt := 203) C (r32_c (lo := 0) (hi := 3) hcm.1 hcm.2 (by decide) (by decide)) dX11_set_61 (by decide) (fun c2 => ?_) (fun c2 => ?_)
          · clear hkn
            refine c_iload_n (j := 0) C dX11_set_203 rfl ?_
            refine c_if_ne (tgt := 214) C (r32_c (lo := 0) (hi := 9) hwy.1 hwy.2 (by decide) (by decide)) dX11_set_204 (by decide) (fun z => absurd z (by omega)) (fun _ => ?_)
            refine c_aload_n (j := 4) (x := a0) C dX11_set_207 rfl ?_
            refine hv4 (Xb1.ty tsB) (Xb1.ty tsA) (Xb1.ty t_a0) (Phi.le Wb1 skb1) (fun ty5 ty6 ty7 pl2 => ?_)
            refine d_callV (As := []) (rest := []) C hM (G_publish (a0 := a0) Wb1 skb1 ty7  ) dX11_set_208 kV_X11_260 rfl ty7 rfl rfl (by decide) ck_12 rfl (Nat.le_of_ble_eq_true rfl) ⟨(Nat.le_of_ble_eq_true rfl), (Nat.le_of_ble_eq_true rfl)⟩ hph pl2 (show 0 + 0 = 0 from rfl) (by decide) (fun rh7 Lh7 clh7 lnh7 ivh7 rvh7 h7 => ?_)
            obtain ⟨f7, rfl, rfl, rfl, rfl, fl7, W7, rgf7, exf7, kp11f7, kp12f7, kp13f7, kp14f7, kp15f7, kp16f7⟩ := h7
            refine hv8 (show 1 ≤ ivb1 a0 11 ∧ ivb1 a0 11 ≤ 100 from Wb1.int ty7 11) (show 1 ≤ ivb1 a0 12 ∧ ivb1 a0 12 ≤ 50 from Wb1.int ty7 12) (show (-2147483648) ≤ ivb1 a0 13 ∧ ivb1 a0 13 ≤ 2147483647 from Wb1.int ty7 13) (show (-2147483648) ≤ ivb1 a0 14 ∧ ivb1 a0 14 ≤ 2147483647 from Wb1.int ty7 14) (show (-2147483648) ≤ ivb1 a0 15 ∧ ivb1 a0 15 ≤ 2147483647 from Wb1.int ty7 15) (show (-2147483648) ≤ ivb1 a0 16 ∧ ivb1 a0 16 ≤ 2147483647 from Wb1.int ty7 16) (Fb1.call Xb1 fl7 rfl) (MRK.call mrb1 Wb1 skb1 XT.refl fl7 rfl rfl) (fun ri25 ri26 ri27 ri28 ri29 ri30 F5 mr5 => ?_)
            refine c_st (st2 := [.int (iI f7)]) rfl ?_
            refine hv7 (show ivh7 a0 11 = ivb1 a0 11 from kp11f7) (show ivh7 a0 12 = ivb1 a0 12 from kp12f7) (show ivh7 a0 13 = ivb1 a0 13 from kp13f7) (show ivh7 a0 14 = ivb1 a0 14 from kp14f7) (show ivh7 a0 15 = ivb1 a0 15 from kp15f7) (show ivh7 a0 16 = ivb1 a0 16 from kp16f7) (show PBX ivb1 rvb1 rvh7 a0 f7 from exf7) (fun gk11f7 gk12f7 gk13f7 gk14f7 gk15f7 gk16f7 gf7 => ?_)
            refine c_goto (tgt := 226) C dX11_set_211 (by decide) ?_
            refine hv7 (show 1 ≤ ivh7 a0 11 ∧ ivh7 a0 11 ≤ 100 from W7.int ty7 11) (show 1 ≤ ivh7 a0 12 ∧ ivh7 a0 12 ≤ 50 from W7.int ty7 12) (show (-2147483648) ≤ ivh7 a0 13 ∧ ivh7 a0 13 ≤ 2147483647 from W7.int ty7 13) (show (-2147483648) ≤ ivh7 a0 14 ∧ ivh7 a0 14 ≤ 2147483647 from W7.int ty7 14) (show (-2147483648) ≤ ivh7 a0 15 ∧ ivh7 a0 15 ≤ 2147483647 from W7.int ty7 15) (show (-2147483648) ≤ ivh7 a0 16 ∧ ivh7 a0 16 ≤ 2147483647 from W7.int ty7 16) (Phi.le W7 skb1) (fun ri31 ri32 ri33 ri34 ri35 ri36 pl3 => ?_)
            exact c_iret C dX11_set_226 rfl (by decide) (rom0 hph pl3 (by decide)) ⟨f7, rfl, Xb1, F5, W7, ⟨by omega, by omega⟩, trivial, (gk11f7.trans hkp11), (gk12f7.trans hkp12), (gk13f7.trans hkp13), (gk14f7.trans hkp14), (gk15f7.trans hkp15), (gk16f7.trans hkp16), (PSX.yes hP (by omega) (by omega) wkob1 hsA hsB (gf7 sA sB h9 h10).1 (gf7 sA sB h9 h10).2.1 Wb1 ty5 ty6 fl7 rfl rfl rfl rfl (gf7 sA sB h9 h10).2.2)⟩
          · replace hkn := (hkn.resolve_left c2)
            refine c_iload (j := 2) C dX11_set_64 rfl ?_
            refine c_ldc (z := 1000000) C dX11_set_66 w4_30 rfl ?_
            refine c_icmp_ge (tgt := 203) C (r32_c (lo := 0) (hi := 1100) hk.1 hk.2 (by decide) (by decide)) ⟨by decide, by decide⟩ dX11_set_68 (by decide) (fun c3 => ?_) (fun c3 => ?_)
            · refine c_iload_n (j := 0) C dX11_set_203 rfl ?_
              refine c_if_ne (tgt := 214) C (r32_c (lo := 0) (hi := 9) hwy.1 hwy.2 (by decide) (by decide)) dX11_set_204 (by decide) (fun z => absurd z (by omega)) (fun _ => ?_)
              refine c_aload_n (j := 4) (x := a0) C dX11_set_207 rfl ?_
              refine hv4 (Xb1.ty tsB) (Xb1.ty tsA) (Xb1.ty t_a0) (Phi.le Wb1 skb1) (fun ty8 ty9 ty10 pl4 => ?_)
              refine d_callV (As := []) (rest := []) C hM (G_publish (a0 := a0) Wb1 skb1 ty10  ) dX11_set_208 kV_X11_260 rfl ty10 rfl rfl (by decide) ck_12 rfl (Nat.le_of_ble_eq_true rfl) ⟨(Nat.le_of_ble_eq_true rfl), (Nat.le_of_ble_eq_true rfl)⟩ hph pl4 (show 0 + 0 = 0 from rfl) (by decide) (fun rh8 Lh8 clh8 lnh8 ivh8 rvh8 h8 => ?_)
              obtain ⟨f8, rfl, rfl, rfl, rfl, fl8, W8, rgf8, exf8, kp11f8, kp12f8, kp13f8, kp14f8, kp15f8, kp16f8⟩ := h8
              refine hv8 (show 1 ≤ ivb1 a0 11 ∧ ivb1 a0 11 ≤ 100 from Wb1.int ty10 11) (show 1 ≤ ivb1 a0 12 ∧ ivb1 a0 12 ≤ 50 from Wb1.int ty10 12) (show (-2147483648) ≤ ivb1 a0 13 ∧ ivb1 a0 13 ≤ 2147483647 from Wb1.int ty10 13) (show (-2147483648) ≤ ivb1 a0 14 ∧ ivb1 a0 14 ≤ 2147483647 from Wb1.int ty10 14) (show (-2147483648) ≤ ivb1 a0 15 ∧ ivb1 a0 15 ≤ 2147483647 from Wb1.int ty10 15) (show (-2147483648) ≤ ivb1 a0 16 ∧ ivb1 a0 16 ≤ 2147483647 from Wb1.int ty10 16) (Fb1.call Xb1 fl8 rfl) (MRK.call mrb1 Wb1 skb1 XT.refl fl8 rfl rfl) (fun ri37 ri38 ri39 ri40 ri41 ri42 F6 mr6 => ?_)
              refine c_st (st2 := [.int (iI f8)]) rfl ?_
              refine hv7 (show ivh8 a0 11 = ivb1 a0 11 from kp11f8) (show ivh8 a0 12 = ivb1 a0 12 from kp12f8) (show ivh8 a0 13 = ivb1 a0 13 from kp13f8) (show ivh8 a0 14 = ivb1 a0 14 from kp14f8) (show ivh8 a0 15 = ivb1 a0 15 from kp15f8) (show ivh8 a0 16 = ivb1 a0 16 from kp16f8) (show PBX ivb1 rvb1 rvh8 a0 f8 from exf8) (fun gk11f8 gk12f8 gk13f8 gk14f8 gk15f8 gk16f8 gf8 => ?_)
              refine c_goto (tgt := 226) C dX11_set_211 (by decide) ?_
              refine hv7 (show 1 ≤ ivh8 a0 11 ∧ ivh8 a0 11 ≤ 100 from W8.int ty10 11) (show 1 ≤ ivh8 a0 12 ∧ ivh8 a0 12 ≤ 50 from W8.int ty10 12) (show (-2147483648) ≤ ivh8 a0 13 ∧ ivh8 a0 13 ≤ 2147483647 from W8.int ty10 13) (show (-2147483648) ≤ ivh8 a0 14 ∧ ivh8 a0 14 ≤ 2147483647 from W8.int ty10 14) (show (-2147483648) ≤ ivh8 a0 15 ∧ ivh8 a0 15 ≤ 2147483647 from W8.int ty10 15) (show (-2147483648) ≤ ivh8 a0 16 ∧ ivh8 a0 16 ≤ 2147483647 from W8.int ty10 16) (Phi.le W8 skb1) (fun ri43 ri44 ri45 ri46 ri47 ri48 pl5 => ?_)
              exact c_iret C dX11_set_226 rfl (by decide) (rom0 hph pl5 (by decide)) ⟨f8, rfl, Xb1, F6, W8, ⟨by omega, by omega⟩, trivial, (gk11f8.trans hkp11), (gk12f8.trans hkp12), (gk13f8.trans hkp13), (gk14f8.trans hkp14), (gk15f8.trans hkp15), (gk16f8.trans hkp16), (PSX.yes hP (by omega) (by omega) wkob1 hsA hsB (gf8 sA sB h9 h10).1 (gf8 sA sB h9 h10).2.1 Wb1 ty8 ty9 fl8 rfl rfl rfl rfl (gf8 sA sB h9 h10).2.2)⟩
            · have J1 : ∀ (wy2 ok : Int) (Lb2 : List Nat) (clb2 lnb2 : Nat → Nat) (ivb2 : Nat → Nat → Int) (rvb2 : Nat → Nat → Option Nat) , XT L cl ln Lb2 clb2 lnb2 → WT (g0 G) sk Lb2 clb2 lnb2 ivb2 rvb2 → fT [1, 14, 15, 50, 51, 52, 53, 54, 55, 18, 19, 64, 67, 203] L cl iv rv ivb2 rvb2 → (0 ≤ wy2 ∧ wy2 ≤ 9) → (ok = 0 ∨ ok = 1) → (0 ≤ ivb2 (sk 14) 0 ∧ ivb2 (sk 14) 0 ≤ 501 ∧ (ivb2 (sk 14) 1 = 0 ∨ ivb2 (sk 14) 0 ≤ 500)) → (k < 2 * ivb2 (sk 14) 0 + ivb2 (sk 14) 1) → (rvb2 a0 9 = some sA) → (rvb2 a0 10 = some sB) → (PSQ sk ln iv rv ivb2 rvb2 sA sB (iv a0 11) (iv a0 13) i wy2 ok) → (ivb2 a0 11 = iv a0 11) → (ivb2 a0 12 = iv a0 12) → (ivb2 a0 13 = iv a0 13) → (ivb2 a0 14 = iv a0 14) → (ivb2 a0 15 = iv a0 15) → (ivb2 a0 16 = iv a0 16) → cw p l e 8 ((PHM) + 0 - ((Phi (g0 G) sk) ln rv)) s m args below meth c G A 7 (MQ below (Qu G A (Qp G (Phi (g0 G) sk) ((Phi (g0 G) sk) ln rv) 0 (fun v L2 cl2 ln2 iv2 rv2 => ∃ f : Int, v = some (.int (iI f)) ∧ XT L cl ln L2 cl2 ln2 ∧ fT [1, 14, 15, 50, 51, 52, 53, 54, 55, 18, 19, 64, 67, 203] L cl iv rv iv2 rv2 ∧ WT (g0 G) sk L2 cl2 ln2 iv2 rv2 ∧ (-2147483648 ≤ f ∧ f ≤ 2147483647) ∧ (True) ∧ iv2 a0 11 = iv a0 11 ∧ iv2 a0 12 = iv a0 12 ∧ iv2 a0 13 = iv a0 13 ∧ iv2 a0 14 = iv a0 14 ∧ iv2 a0 15 = iv a0 15 ∧ iv2 a0 16 = iv a0 16 ∧ (PSX sk ln iv rv iv2 rv2 a0 (iv a0 11) (iv a0 13) i f)))) args s (((PHM) + 0 - ((Phi (g0 G) sk) ln rv)) / 16) ((PHM) + 0 - ((Phi (g0 G) sk) ln rv)) A) (Phi (g0 G) sk) ((Phi (g0 G) sk) ln rv) Lb2 clb2 lnb2 ivb2 rvb2 0 165 [(3, .int (iI wy2)), (6, .int (iI ok)), (4, .int (iI cm)), (5, .int (iI k)), (2, .ref ob1), (0, .ref a0), (1, .int (iI i))] [] := by
                intro  wy2 ok Lb2 clb2 lnb2 ivb2 rvb2 Xb2 Wb2 Fb2  hwy2 hok hsr2 hkn2 h9b h10b hQ hkp11 hkp12 hkp13 hkp14 hkp15 hkp16
                refine hv2 (Xb2.skl hS) (MRK.call hmr hW hS Xb2 Fb2 rfl rfl) (fun skb2 mrb2 => ?_)
                refine c_iload (j := 1) C dX11_set_165 rfl ?_
                refine c_if_ne (tgt := 176) C (r32_01 hok) dX11_set_167 (by decide) (fun c4 => ?_) (fun c4 => ?_)
                · replace hok := (hok.resolve_left c4)
                  refine c_iload_n (j := 0) C dX11_set_176 rfl ?_
                  refine c_if_ne (tgt := 197) C (r32_c (lo := 0) (hi := 9) hwy2.1 hwy2.2 (by decide) (by decide)) dX11_set_177 (by decide) (fun c5 => ?_) (fun c5 => ?_)
                  · refine c_iinc (z := k) (j := 3) (lv2 := [(5, .int (iI (k + 1))), (3, .int (iI wy2)), (6, .int (iI ok)), (4, .int (iI cm)), (2, .ref ob1), (0, .ref a0), (1, .int (iI i))]) C dX11_set_197 rfl (by decide) rfl ?_
                    refine c_goto (tgt := 55) C dX11_set_200 (by decide) ?_
                    refine hv2 (Xb2.ty tsk14) (Xb2.ty t_a0) (fun ty11 ty12 => ?_)
                    refine hv9 (show (-2147483648) ≤ ivb2 (sk 14) 0 ∧ ivb2 (sk 14) 0 ≤ 2147483647 from Wb2.int ty11 0) (show 0 ≤ ivb2 (sk 14) 1 ∧ ivb2 (sk 14) 1 ≤ 1 from Wb2.int ty11 1) (show 1 ≤ ivb2 a0 11 ∧ ivb2 a0 11 ≤ 100 from Wb2.int ty12 11) (show 1 ≤ ivb2 a0 12 ∧ ivb2 a0 12 ≤ 50 from Wb2.int ty12 12) (show (-2147483648) ≤ ivb2 a0 13 ∧ ivb2 a0 13 ≤ 2147483647 from Wb2.int ty12 13) (show (-2147483648) ≤ ivb2 a0 14 ∧ ivb2 a0 14 ≤ 2147483647 from Wb2.int ty12 14) (show (-2147483648) ≤ ivb2 a0 15 ∧ ivb2 a0 15 ≤ 2147483647 from Wb2.int ty12 15) (show (-2147483648) ≤ ivb2 a0 16 ∧ ivb2 a0 16 ≤ 2147483647 from Wb2.int ty12 16) (show 0 ≤ ivb2 (sk 14) 2 ∧ ivb2 (sk 14) 2 ≤ 1 from Wb2.int ty11 2) (fun ri49 ri50 ri51 ri52 ri53 ri54 ri55 ri56 ri57 => ?_)
                    refine c_lv (lv2 := [(3, .int (iI wy2)), (4, .int (iI cm)), (5, .int (iI (k + 1))), (2, .ref ob1), (0, .ref a0), (1, .int (iI i))]) [1, 3, 0, 4, 5, 6] rfl ?_
                    exact ih1  wy2 cm (k + 1) _ _ _ _ _ (by omega) Xb2 Wb2 Fb2  (by omega) (by omega) (by omega) (by show 0 ≤ ivb2 (sk 14) 0 ∧ ivb2 (sk 14) 0 ≤ 501 ∧ (ivb2 (sk 14) 1 = 0 ∨ ivb2 (sk 14) 0 ≤ 500); omega) (by omega) h9b h10b (hQ.stop (by omega)) hkp11 hkp12 hkp13 hkp14 hkp15 hkp16
                  · refine c_aload_n (j := 5) (x := a0) C dX11_set_180 rfl ?_
                    have ty13 := Xb2.ty t_a0
                    obtain ⟨rb6, rq6, trb6⟩ := Wb2.ref ty13 5 rfl rfl rfl
                    have erb6 := Wb2.sk trb6 (by decide) rfl
                    subst erb6
                    refine c_getr (k := 5) C ck_12 dX11_set_181 w2_49 (by decide) ty13 rfl rfl (by decide) rfl rq6 ?_
                    refine c_st (st2 := [.ref (sk 14)]) rfl ?_
                    refine c_aload_n (j := 5) (x := a0) C dX11_set_184 rfl ?_
                    obtain ⟨rb7, rq7, trb7⟩ := Wb2.ref ty13 1 rfl rfl rfl
                    have erb7 := Wb2.sk trb7 (by decide) rfl
                    subst erb7
                    refine c_getr (k := 1) C ck_12 dX11_set_185 w2_45 (by decide) ty13 rfl rfl (by decide) rfl rq7 ?_
                    refine c_st (st2 := [.ref (sk 3), .ref (sk 14)]) rfl ?_
                    refine c_aload_n (j := 5) (x := a0) C dX11_set_188 rfl ?_
                    obtain ⟨rb8, rq8, trb8⟩ := Wb2.ref ty13 6 rfl rfl rfl
                    have erb8 := Wb2.sk trb8 (by decide) rfl
                    subst erb8
                    refine c_getr (k := 6) C ck_12 dX11_set_189 w2_50 (by decide) ty13 rfl rfl (by decide) rfl rq8 ?_
                    refine c_st (st2 := [.ref (sk 15), .ref (sk 3), .ref (sk 14)]) rfl ?_
                    refine hv6 (Xb2.ty tsB) (Xb2.ty tsA) (Xb2.ty tsk14) (Xb2.ty tsk3) (Xb2.ty tsk15) (Phi.le Wb2 skb2) (fun ty14 ty15 ty16 ty17 ty18 pl6 => ?_)
                    refine hv3 (show (-2147483648) ≤ ivb2 (sk 14) 0 ∧ ivb2 (sk 14) 0 ≤ 2147483647 from Wb2.int ty16 0) (show 0 ≤ ivb2 (sk 14) 1 ∧ ivb2 (sk 14) 1 ≤ 1 from Wb2.int ty16 1) (show 0 ≤ ivb2 (sk 14) 2 ∧ ivb2 (sk 14) 2 ≤ 1 from Wb2.int ty16 2) (fun ri58 ri59 ri60 => ?_)
                    refine d_callV (As := [.ref (sk 3), .ref (sk 15)]) (rest := []) C hM (G_step (a0 := (sk 14)) (a1 := (sk 3)) (a2 := (sk 15)) Wb2 skb2 ty16 ty17 ty18  (by show 0 ≤ ivb2 (sk 14) 0 ∧ ivb2 (sk 14) 0 ≤ 501 ∧ (ivb2 (sk 14) 1 = 0 ∨ ivb2 (sk 14) 0 ≤ 500); omega)) dX11_set_192 kV_X11_238 rfl ty16 rfl rfl (by decide) ck_9 rfl (Nat.le_of_ble_eq_true rfl) ⟨(Nat.le_of_ble_eq_true rfl), (Nat.le_of_ble_eq_true rfl)⟩ hph pl6 (show 0 + 0 = 0 from rfl) (by decide) (fun rh11 Lh11 clh11 lnh11 ivh11 rvh11 h11 => ?_)
                    obtain ⟨f9, rfl, rfl, rfl, rfl, rfl, fl9, W9, rgf9, exf9⟩ := h11
                    refine hv2 (Fb2.call Xb2 fl9 rfl) (MRK.call mrb2 Wb2 skb2 XT.refl fl9 rfl rfl) (fun F7 mr7 => ?_)
                    refine c_st (st2 := [.int (iI f9)]) rfl ?_
                    refine hv4 (show (-2147483648) ≤ ivh11 (sk 14) 0 ∧ ivh11 (sk 14) 0 ≤ 2147483647 from W9.int ty16 0) (show 0 ≤ ivh11 (sk 14) 1 ∧ ivh11 (sk 14) 1 ≤ 1 from W9.int ty16 1) (show ((0 ≤ f9 ∧ f9 ≤ 3) ∧ 0 ≤ ivh11 (sk 14) 0 ∧ ivh11 (sk 14) 0 ≤ 501 ∧ (ivh11 (sk 14) 1 = 0 ∨ ivh11 (sk 14) 0 ≤ 500) ∧ (f9 = 0 ∨ 2 * ivb2 (sk 14) 0 + ivb2 (sk 14) 1 < 2 * ivh11 (sk 14) 0 + ivh11 (sk 14) 1)) ∧ STP ivb2 rvb2 ivh11 (sk 3) (sk 14) (sk 15) f9 from exf9) (show 0 ≤ ivh11 (sk 14) 2 ∧ ivh11 (sk 14) 2 ≤ 1 from W9.int ty16 2) (fun ri61 ri62 gf9 ri63 => ?_)
                    refine c_istore (lv2 := [(4, .int (iI f9)), (3, .int (iI wy2)), (6, .int (iI ok)), (5, .int (iI k)), (2, .ref ob1), (0, .ref a0), (1, .int (iI i))]) C dX11_set_195 (by decide) rfl ?_
                    refine c_iinc (z := k) (j := 3) (lv2 := [(5, .int (iI (k + 1))), (4, .int (iI f9)), (3, .int (iI wy2)), (6, .int (iI ok)), (2, .ref ob1), (0, .ref a0), (1, .int (iI i))]) C dX11_set_197 rfl (by decide) rfl ?_
                    refine c_goto (tgt := 55) C dX11_set_200 (by decide) ?_
                    refine hv12 (show 1 ≤ ivh11 a0 11 ∧ ivh11 a0 11 ≤ 100 from W9.int ty13 11) (show ivh11 a0 11 = ivb2 a0 11 from fl9.i ty13 rfl 11) (show 1 ≤ ivh11 a0 12 ∧ ivh11 a0 12 ≤ 50 from W9.int ty13 12) (show ivh11 a0 12 = ivb2 a0 12 from fl9.i ty13 rfl 12) (show (-2147483648) ≤ ivh11 a0 13 ∧ ivh11 a0 13 ≤ 2147483647 from W9.int ty13 13) (show ivh11 a0 13 = ivb2 a0 13 from fl9.i ty13 rfl 13) (show (-2147483648) ≤ ivh11 a0 14 ∧ ivh11 a0 14 ≤ 2147483647 from W9.int ty13 14) (show ivh11 a0 14 = ivb2 a0 14 from fl9.i ty13 rfl 14) (show (-2147483648) ≤ ivh11 a0 15 ∧ ivh11 a0 15 ≤ 2147483647 from W9.int ty13 15) (show ivh11 a0 15 = ivb2 a0 15 from fl9.i ty13 rfl 15) (show (-2147483648) ≤ ivh11 a0 16 ∧ ivh11 a0 16 ≤ 2147483647 from W9.int ty13 16) (show ivh11 a0 16 = ivb2 a0 16 from fl9.i ty13 rfl 16) (fun ri64 ie58 ri65 ie60 ri66 ie62 ri67 ie64 ri68 ie66 ri69 ie68 => ?_)
                    refine c_lv (lv2 := [(3, .int (iI wy2)), (4, .int (iI f9)), (5, .int (iI (k + 1))), (2, .ref ob1), (0, .ref a0), (1, .int (iI i))]) [2, 1, 0, 4, 5, 6] rfl ?_
                    exact ih1  wy2 f9 (k + 1) _ _ _ _ _ (by omega) Xb2 W9 F7  (by omega) (by omega) (by omega) (by show 0 ≤ ivh11 (sk 14) 0 ∧ ivh11 (sk 14) 0 ≤ 501 ∧ (ivh11 (sk 14) 1 = 0 ∨ ivh11 (sk 14) 0 ≤ 500); omega) (by omega) h9b h10b (hQ.next (by omega) (by omega) hW Xb2 Fb2 rfl rfl tsk3 Wb2 ty14 ty15 fl9 gf9.2) (ie58.trans hkp11) (ie60.trans hkp12) (ie62.trans hkp13) (ie64.trans hkp14) (ie66.trans hkp15) (ie68.trans hkp16)
                · clear hok
                  refine c_bipush (z := 6) C dX11_set_170 (by decide) ?_
                  refine c_istore_n (lv2 := [(3, .int (iI 6)), (6, .int (iI ok)), (4, .int (iI cm)), (5, .int (iI k)), (2, .ref ob1), (0, .ref a0), (1, .int (iI i))]) C dX11_set_172 (by decide) rfl ?_
                  refine c_goto (tgt := 197) C dX11_set_173 (by decide) ?_
                  refine c_iinc (z := k) (j := 3) (lv2 := [(5, .int (iI (k + 1))), (3, .int (iI 6)), (6, .int (iI ok)), (4, .int (iI cm)), (2, .ref ob1), (0, .ref a0), (1, .int (iI i))]) C dX11_set_197 rfl (by decide) rfl ?_
                  refine c_goto (tgt := 55) C dX11_set_200 (by decide) ?_
                  refine hv2 (Xb2.ty tsk14) (Xb2.ty t_a0) (fun ty19 ty20 => ?_)
                  refine hv9 (show (-2147483648) ≤ ivb2 (sk 14) 0 ∧ ivb2 (sk 14) 0 ≤ 2147483647 from Wb2.int ty19 0) (show 0 ≤ ivb2 (sk 14) 1 ∧ ivb2 (sk 14) 1 ≤ 1 from Wb2.int ty19 1) (show 1 ≤ ivb2 a0 11 ∧ ivb2 a0 11 ≤ 100 from Wb2.int ty20 11) (show 1 ≤ ivb2 a0 12 ∧ ivb2 a0 12 ≤ 50 from Wb2.int ty20 12) (show (-2147483648) ≤ ivb2 a0 13 ∧ ivb2 a0 13 ≤ 2147483647 from Wb2.int ty20 13) (show (-2147483648) ≤ ivb2 a0 14 ∧ ivb2 a0 14 ≤ 2147483647 from Wb2.int ty20 14) (show (-2147483648) ≤ ivb2 a0 15 ∧ ivb2 a0 15 ≤ 2147483647 from Wb2.int ty20 15) (show (-2147483648) ≤ ivb2 a0 16 ∧ ivb2 a0 16 ≤ 2147483647 from Wb2.int ty20 16) (show 0 ≤ ivb2 (sk 14) 2 ∧ ivb2 (sk 14) 2 ≤ 1 from Wb2.int ty19 2) (fun ri70 ri71 ri72 ri73 ri74 ri75 ri76 ri77 ri78 => ?_)
                  refine c_lv (lv2 := [(3, .int (iI 6)), (4, .int (iI cm)), (5, .int (iI (k + 1))), (2, .ref ob1), (0, .ref a0), (1, .int (iI i))]) [1, 3, 0, 4, 5, 6] rfl ?_
                  exact ih1  6 cm (k + 1) _ _ _ _ _ (by omega) Xb2 Wb2 Fb2  (by omega) (by omega) (by omega) (by show 0 ≤ ivb2 (sk 14) 0 ∧ ivb2 (sk 14) 0 ≤ 501 ∧ (ivb2 (sk 14) 1 = 0 ∨ ivb2 (sk 14) 0 ≤ 500); omega) (by omega) h9b h10b (hQ.nor (by omega) (by decide)) hkp11 hkp12 hkp13 hkp14 hkp15 hkp16
              refine c_iconst C dX11_set_71 ?_
              refine c_istore (lv2 := [(6, .int (iI 1)), (3, .int (iI wy)), (4, .int (iI cm)), (5, .int (iI k)), (2, .ref ob1), (0, .ref a0), (1, .int (iI i))]) C dX11_set_72 (by decide) rfl ?_
              refine c_iload (j := 2) C dX11_set_74 rfl ?_
              refine c_iconst C dX11_set_76 ?_
              refine c_icmp_ne (tgt := 92) C (r32_c (lo := 0) (hi := 3) hcm.1 hcm.2 (by decide) (by decide)) ⟨by decide, by decide⟩ dX11_set_77 (by decide) (fun c6 => ?_) (fun c6 => ?_)
              · refine c_iload (j := 2) C dX11_set_92 rfl ?_
                refine c_iconst C dX11_set_94 ?_
                refine c_icmp_ne (tgt := 119) C (r32_c (lo := 0) (hi := 3) hcm.1 hcm.2 (by decide) (by decide)) ⟨by decide, by decide⟩ dX11_set_95 (by decide) (fun c7 => ?_) (fun c7 => ?_)
                · refine c_aload_n (j := 5) (x := a0) C dX11_set_119 rfl ?_
                  have ty21 := Xb1.ty t_a0
                  obtain ⟨rb9, rq9, trb9⟩ := Wb1.ref ty21 6 rfl rfl rfl
                  have erb9 := Wb1.sk trb9 (by decide) rfl
                  subst erb9
                  refine c_getr (k := 6) C ck_12 dX11_set_120 w2_50 (by decide) ty21 rfl rfl (by decide) rfl rq9 ?_
                  refine c_st (st2 := [.ref (sk 15)]) rfl ?_
                  refine c_aload_n (j := 4) (x := ob1) C dX11_set_123 rfl ?_
                  refine hv7 (Xb1.ty tsk15) (Xb1.ty tsB) (Xb1.ty tsA) (Xb1.ty tsk14) (Xb1.ty tob1) (show ivb1 ob1 0 = iv ob1 0 from Fb1.i tob1 rfl 0) (Phi.le Wb1 skb1) (fun ty22 ty23 ty24 ty25 ty26 ie83 pl7 => ?_)
                  refine hv5 (show (-2147483648) ≤ ivb1 (sk 14) 0 ∧ ivb1 (sk 14) 0 ≤ 2147483647 from Wb1.int ty25 0) (show 0 ≤ ivb1 (sk 14) 1 ∧ ivb1 (sk 14) 1 ≤ 1 from Wb1.int ty25 1) (show 0 ≤ ivb1 (sk 14) 2 ∧ ivb1 (sk 14) 2 ≤ 1 from Wb1.int ty25 2) (show 0 ≤ ivb1 (sk 15) 4 ∧ ivb1 (sk 15) 4 ≤ 500 from Wb1.int ty22 4) (show (-2147483648) ≤ ivb1 ob1 0 ∧ ivb1 ob1 0 ≤ 2147483647 from Wb1.int ty26 0) (fun ri79 ri80 ri81 ri82 ri83 => ?_)
                  refine d_callV (As := [.ref ob1]) (rest := []) C hM (G_setBy (a0 := (sk 15)) (a1 := ob1) Wb1 skb1 ty22 ty26  ) dX11_set_124 kV_X11_253 rfl ty22 rfl rfl (by decide) ck_7 rfl (Nat.le_of_ble_eq_true rfl) ⟨(Nat.le_of_ble_eq_true rfl), (Nat.le_of_ble_eq_true rfl)⟩ hph pl7 (show 0 + 0 = 0 from rfl) (by decide) (fun rh12 Lh12 clh12 lnh12 ivh12 rvh12 h12 => ?_)
                  obtain ⟨f10, rfl, rfl, rfl, rfl, rfl, fl10, W10, rgf10, exf10⟩ := h12
                  refine hv2 (Fb1.call Xb1 fl10 rfl) (MRK.call mrb1 Wb1 skb1 XT.refl fl10 rfl rfl) (fun F8 mr8 => ?_)
                  refine c_st (st2 := [.int (iI f10)]) rfl ?_
                  refine hv11 (show 0 ≤ ivh12 (sk 15) 4 ∧ ivh12 (sk 15) 4 ≤ 500 from W10.int ty22 4) (show 0 ≤ ivh12 (sk 15) 7 ∧ ivh12 (sk 15) 7 ≤ 100000 from W10.int ty22 7) (show ((f10 = 0 ∨ f10 = 6 ∨ f10 = 7) ∧ ivh12 (sk 15) 4 = ivb1 (sk 15) 4 ∧ (f10 = 0 → ivh12 (sk 15) 7 ≤ 200)) ∧ SBX sk lnb1 ivb1 rvb1 ivh12 (sk 15) ob1 f10 from exf10) (show (-2147483648) ≤ ivh12 (sk 14) 0 ∧ ivh12 (sk 14) 0 ≤ 2147483647 from W10.int ty25 0) (show ivh12 (sk 14) 0 = ivb1 (sk 14) 0 from fl10.i ty25 rfl 0) (show 0 ≤ ivh12 (sk 14) 1 ∧ ivh12 (sk 14) 1 ≤ 1 from W10.int ty25 1) (show ivh12 (sk 14) 1 = ivb1 (sk 14) 1 from fl10.i ty25 rfl 1) (show 0 ≤ ivh12 (sk 14) 2 ∧ ivh12 (sk 14) 2 ≤ 1 from W10.int ty25 2) (show ivh12 (sk 14) 2 = ivb1 (sk 14) 2 from fl10.i ty25 rfl 2) (show (-2147483648) ≤ ivh12 ob1 0 ∧ ivh12 ob1 0 ≤ 2147483647 from W10.int ty26 0) (show ivh12 ob1 0 = ivb1 ob1 0 from fl10.i ty26 rfl 0) (fun ri84 ri85 gf10 ri86 ie86 ri87 ie87 ri88 ie88 ri89 ie89 => ?_)
                  refine c_istore_n (lv2 := [(3, .int (iI f10)), (6, .int (iI 1)), (4, .int (iI cm)), (5, .int (iI k)), (2, .ref ob1), (0, .ref a0), (1, .int (iI i))]) C dX11_set_127 (by decide) rfl ?_
                  refine c_iload_n (j := 0) C dX11_set_128 rfl ?_
                  refine c_if_ne (tgt := 158) C (r32_067 gf10.1.1) dX11_set_129 (by decide) (fun c8 => ?_) (fun c8 => ?_)
                  · replace gf10 := (And.intro (And.intro (gf10.1.1.resolve_left c8) (And.intro gf10.1.2.1 trivial)) gf10.2)
                    refine c_iconst C dX11_set_158 ?_
                    refine c_goto (tgt := 163) C dX11_set_159 (by decide) ?_
                    refine c_istore (lv2 := [(6, .int (iI 1)), (3, .int (iI f10)), (4, .int (iI cm)), (5, .int (iI k)), (2, .ref ob1), (0, .ref a0), (1, .int (iI i))]) C dX11_set_163 (by decide) rfl ?_
                    refine hv12 (show 1 ≤ ivh12 a0 11 ∧ ivh12 a0 11 ≤ 100 from W10.int ty21 11) (show ivh12 a0 11 = ivb1 a0 11 from fl10.i ty21 rfl 11) (show 1 ≤ ivh12 a0 12 ∧ ivh12 a0 12 ≤ 50 from W10.int ty21 12) (show ivh12 a0 12 = ivb1 a0 12 from fl10.i ty21 rfl 12) (show (-2147483648) ≤ ivh12 a0 13 ∧ ivh12 a0 13 ≤ 2147483647 from W10.int ty21 13) (show ivh12 a0 13 = ivb1 a0 13 from fl10.i ty21 rfl 13) (show (-2147483648) ≤ ivh12 a0 14 ∧ ivh12 a0 14 ≤ 2147483647 from W10.int ty21 14) (show ivh12 a0 14 = ivb1 a0 14 from fl10.i ty21 rfl 14) (show (-2147483648) ≤ ivh12 a0 15 ∧ ivh12 a0 15 ≤ 2147483647 from W10.int ty21 15) (show ivh12 a0 15 = ivb1 a0 15 from fl10.i ty21 rfl 15) (show (-2147483648) ≤ ivh12 a0 16 ∧ ivh12 a0 16 ≤ 2147483647 from W10.int ty21 16) (show ivh12 a0 16 = ivb1 a0 16 from fl10.i ty21 rfl 16) (fun ri90 ie90 ri91 ie92 ri92 ie94 ri93 ie96 ri94 ie98 ri95 ie100 => ?_)
                    refine c_lv (lv2 := [(3, .int (iI f10)), (6, .int (iI 1)), (4, .int (iI cm)), (5, .int (iI k)), (2, .ref ob1), (0, .ref a0), (1, .int (iI i))]) [1, 0, 2, 3, 4, 5, 6] rfl ?_
                    exact J1  f10 1 _ _ _ _ _  Xb1 W10 F8  (by omega) (by omega) (by show 0 ≤ ivh12 (sk 14) 0 ∧ ivh12 (sk 14) 0 ≤ 501 ∧ (ivh12 (sk 14) 1 = 0 ∨ ivh12 (sk 14) 0 ≤ 500); omega) (by show k < 2 * ivh12 (sk 14) 0 + ivh12 (sk 14) 1; omega) h9 h10 (hP.bad (by omega) (by omega) (QT.of hW hS Xb1 Fb1 rfl rfl rfl rfl rfl) wkob1 Wb1 ty22 ty23 ty24 gf10.2 (by omega) fl10) (ie90.trans hkp11) (ie92.trans hkp12) (ie94.trans hkp13) (ie96.trans hkp14) (ie98.trans hkp15) (ie100.trans hkp16)
                  · replace gf10 := (And.intro (And.intro c8 (And.intro gf10.1.2.1 (gf10.1.2.2 c8))) gf10.2)
                    refine c_aload_n (j := 5) (x := a0) C dX11_set_132 rfl ?_
                    refine c_getr (k := 10) C ck_12 dX11_set_133 w2_54 (by decide) ty21 rfl rfl (by decide) rfl h10 ?_
                    refine c_st (st2 := [.ref sB]) rfl ?_
                    refine c_aload_n (j := 5) (x := a0) C dX11_set_136 rfl ?_
                    refine c_getr (k := 6) C ck_12 dX11_set_137 w2_50 (by decide) ty21 rfl rfl (by decide) rfl rq9 ?_
                    refine c_st (st2 := [.ref (sk 15), .ref sB]) rfl ?_
                    refine c_aload_n (j := 4) (x := ob1) C dX11_set_140 rfl ?_
                    refine c_get (k := 0) C ck_10 dX11_set_141 w2_176 (by decide) ty26 rfl rfl (by decide) rfl ?_
                    refine c_aload_n (j := 5) (x := a0) C dX11_set_144 rfl ?_
                    refine hv2 (show 1 ≤ ivh12 a0 11 ∧ ivh12 a0 11 ≤ 100 from W10.int ty21 11) (show ivh12 a0 11 = ivb1 a0 11 from fl10.i ty21 rfl 11) (fun ri96 ie102 => ?_)
                    refine c_get (k := 11) C ck_12 dX11_set_145 w2_55 (by decide) ty21 rfl rfl (by decide) rfl ?_
                    refine c_aload_n (j := 5) (x := a0) C dX11_set_148 rfl ?_
                    refine hv2 (show (-2147483648) ≤ ivh12 a0 13 ∧ ivh12 a0 13 ≤ 2147483647 from W10.int ty21 13) (show ivh12 a0 13 = ivb1 a0 13 from fl10.i ty21 rfl 13) (fun ri97 ie104 => ?_)
                    refine c_get (k := 13) C ck_12 dX11_set_149 w2_57 (by decide) ty21 rfl rfl (by decide) rfl ?_
                    refine hv2 (show (-2147483648) ≤ ivh12 sB 2 ∧ ivh12 sB 2 ≤ 2147483647 from W10.int ty23 2) (show ivh12 sB 2 = ivb1 sB 2 from fl10.i ty23 rfl 2) (fun ri98 ie106 => ?_)
                    refine d_callV (As := [.ref (sk 15), .int (iI (ivh12 ob1 0)), .int (iI (ivh12 a0 11)), .int (iI (ivh12 a0 13))]) (rest := []) C hM (G_take (a0 := sB) (a1 := (sk 15)) (x := ivh12 ob1 0) (w1 := ivh12 a0 11) (h1 := ivh12 a0 13) W10 skb1 ty23 ty22 (by omega) (by omega) (by omega) (by show 1 ≤ (ivh12 a0 11) ∧ (ivh12 a0 11) ≤ 100; omega)) dX11_set_152 kV_X11_256 rfl ty23 rfl rfl (by decide) ck_8 rfl (Nat.le_of_ble_eq_true rfl) ⟨(Nat.le_of_ble_eq_true rfl), (Nat.le_of_ble_eq_true rfl)⟩ hph pl7 (show 0 + 0 = 0 from rfl) (by decide) (fun rh13 Lh13 clh13 lnh13 ivh13 rvh13 h13 => ?_)
                    obtain ⟨f11, rfl, xl11, fl11, W11, rgf11, exf11⟩ := h13
                    refine hv13 (F8.call Xb1 fl11 rfl) (MRK.call mr8 W10 skb1 xl11 fl11 rfl rfl) (Xb1.ty tsk2) (Xb1.ty tsk3) (Xb1.ty tsk4) (Xb1.ty tsk5) (Xb1.ty tsk13) (Xb1.ty tsk16) (Xb1.ty tsk17) (Xb1.ty tsk22) (Xb1.ty tsk23) (Xb1.trans xl11) (xl11.skl skb1) (fun F9 mr9 ty27 ty28 ty29 ty30 ty31 ty32 ty33 ty34 ty35 X1 sk1 => ?_)
                    refine c_st (st2 := [.int (iI f11)]) rfl ?_
                    refine hv6 (xl11.ty ty23) (show ivh13 sB 2 = ivh12 sB 2 ∧ TKE Lb1 clb1 ivh12 rvb1 ivh13 rvh13 sB (sk 15) (ivh12 ob1 0) (ivh12 a0 11) (ivh12 a0 13) f11 from exf11) (xl11.ty ty25) (show ivh13 (sk 14) 0 = ivh12 (sk 14) 0 from fl11.i ty25 rfl 0) (show ivh13 (sk 14) 1 = ivh12 (sk 14) 1 from fl11.i ty25 rfl 1) (show ivh13 (sk 14) 2 = ivh12 (sk 14) 2 from fl11.i ty25 rfl 2) (fun ty36 gf11 ty37 ie109 ie110 ie111 => ?_)
                    refine hv4 (show (-2147483648) ≤ ivh13 sB 2 ∧ ivh13 sB 2 ≤ 2147483647 from W11.int ty36 2) (show (-2147483648) ≤ ivh13 (sk 14) 0 ∧ ivh13 (sk 14) 0 ≤ 2147483647 from W11.int ty37 0) (show 0 ≤ ivh13 (sk 14) 1 ∧ ivh13 (sk 14) 1 ≤ 1 from W11.int ty37 1) (show 0 ≤ ivh13 (sk 14) 2 ∧ ivh13 (sk 14) 2 ≤ 1 from W11.int ty37 2) (fun ri99 ri100 ri101 ri102 => ?_)
                    refine c_if_eq (tgt := 162) C ⟨by omega, by omega⟩ dX11_set_155 (by decide) (fun c9 => ?_) (fun c9 => ?_)
                    · refine c_iconst C dX11_set_162 ?_
                      refine c_istore (lv2 := [(6, .int (iI 0)), (3, .int (iI f10)), (4, .int (iI cm)), (5, .int (iI k)), (2, .ref ob1), (0, .ref a0), (1, .int (iI i))]) C dX11_set_163 (by decide) rfl ?_
                      refine hv12 (xl11.ty ty21) (show ivh13 a0 11 = ivh12 a0 11 from fl11.i ty21 rfl 11) (show ivh13 a0 12 = ivh12 a0 12 from fl11.i ty21 rfl 12) (show ivh12 a0 12 = ivb1 a0 12 from fl10.i ty21 rfl 12) (show ivh13 a0 13 = ivh12 a0 13 from fl11.i ty21 rfl 13) (show ivh13 a0 14 = ivh12 a0 14 from fl11.i ty21 rfl 14) (show ivh12 a0 14 = ivb1 a0 14 from fl10.i ty21 rfl 14) (show ivh13 a0 15 = ivh12 a0 15 from fl11.i ty21 rfl 15) (show ivh12 a0 15 = ivb1 a0 15 from fl10.i ty21 rfl 15) (show ivh13 a0 16 = ivh12 a0 16 from fl11.i ty21 rfl 16) (show ivh12 a0 16 = ivb1 a0 16 from fl10.i ty21 rfl 16) (show rvh13 a0 9 = rvb1 a0 9 from (fl11.r ty21 rfl 9)) (fun ty38 ie112 ie113 ie114 ie116 ie117 ie118 ie120 ie121 ie123 ie124 re1 => ?_)
                      refine hv6 (show 1 ≤ ivh13 a0 11 ∧ ivh13 a0 11 ≤ 100 from W11.int ty38 11) (show 1 ≤ ivh13 a0 12 ∧ ivh13 a0 12 ≤ 50 from W11.int ty38 12) (show (-2147483648) ≤ ivh13 a0 13 ∧ ivh13 a0 13 ≤ 2147483647 from W11.int ty38 13) (show (-2147483648) ≤ ivh13 a0 14 ∧ ivh13 a0 14 ≤ 2147483647 from W11.int ty38 14) (show (-2147483648) ≤ ivh13 a0 15 ∧ ivh13 a0 15 ≤ 2147483647 from W11.int ty38 15) (show (-2147483648) ≤ ivh13 a0 16 ∧ ivh13 a0 16 ≤ 2147483647 from W11.int ty38 16) (fun ri103 ri104 ri105 ri106 ri107 ri108 => ?_)
                      rw [h9] at re1
                      have re2 : rvh13 a0 10 = rvb1 a0 10 := (fl11.r ty21 rfl 10)
                      rw [h10] at re2
                      refine c_lv (lv2 := [(3, .int (iI f10)), (6, .int (iI 0)), (4, .int (iI cm)), (5, .int (iI k)), (2, .ref ob1), (0, .ref a0), (1, .int (iI i))]) [1, 0, 2, 3, 4, 5, 6] rfl ?_
                      exact J1  f10 0 _ _ _ _ _  X1 W11 F9  (by omega) (by omega) (by show 0 ≤ ivh13 (sk 14) 0 ∧ ivh13 (sk 14) 0 ≤ 501 ∧ (ivh13 (sk 14) 1 = 0 ∨ ivh13 (sk 14) 0 ≤ 500); omega) (by show k < 2 * ivh13 (sk 14) 0 + ivh13 (sk 14) 1; omega) re1 re2 (hP.word (by omega) (by omega) (QT.of hW hS Xb1 Fb1 rfl rfl rfl rfl rfl) wkob1 Wb1 W10 ty22 ty23 ty24 gf10.2 (by omega) fl10 (by omega) (by omega) (by have q := gf11.2; rw [show ivh12 a0 11 = iv a0 11 by omega, show ivh12 a0 13 = iv a0 13 by omega] at q; exact q) gf11.1 (by omega) (by omega) (by omega) (by omega)) (ie112.trans (ie102.trans hkp11)) (ie113.trans (ie114.trans hkp12)) (ie116.trans (ie104.trans hkp13)) (ie117.trans (ie118.trans hkp14)) (ie120.trans (ie121.trans hkp15)) (ie123.trans (ie124.trans hkp16))
                    · refine c_iconst C dX11_set_158 ?_
                      refine c_goto (tgt := 163) C dX11_set_159 (by decide) ?_
                      refine c_istore (lv2 := [(6, .int (iI 1)), (3, .int (iI f10)), (4, .int (iI cm)), (5, .int (iI k)), (2, .ref ob1), (0, .ref a0), (1, .int (iI i))]) C dX11_set_163 (by decide) rfl ?_
                      refine hv12 (xl11.ty ty21) (show ivh13 a0 11 = ivh12 a0 11 from fl11.i ty21 rfl 11) (show ivh13 a0 12 = ivh12 a0 12 from fl11.i ty21 rfl 12) (show ivh12 a0 12 = ivb1 a0 12 from fl10.i ty21 rfl 12) (show ivh13 a0 13 = ivh12 a0 13 from fl11.i ty21 rfl 13) (show ivh13 a0 14 = ivh12 a0 14 from fl11.i ty21 rfl 14) (show ivh12 a0 14 = ivb1 a0 14 from fl10.i ty21 rfl 14) (show ivh13 a0 15 = ivh12 a0 15 from fl11.i ty21 rfl 15) (show ivh12 a0 15 = ivb1 a0 15 from fl10.i ty21 rfl 15) (show ivh13 a0 16 = ivh12 a0 16 from fl11.i ty21 rfl 16) (show ivh12 a0 16 = ivb1 a0 16 from fl10.i ty21 rfl 16) (show rvh13 a0 9 = rvb1 a0 9 from (fl11.r ty21 rfl 9)) (fun ty39 ie126 ie127 ie128 ie130 ie131 ie132 ie134 ie135 ie137 ie138 re3 => ?_)
                      refine hv6 (show 1 ≤ ivh13 a0 11 ∧ ivh13 a0 11 ≤ 100 from W11.int ty39 11) (show 1 ≤ ivh13 a0 12 ∧ ivh13 a0 12 ≤ 50 from W11.int ty39 12) (show (-2147483648) ≤ ivh13 a0 13 ∧ ivh13 a0 13 ≤ 2147483647 from W11.int ty39 13) (show (-2147483648) ≤ ivh13 a0 14 ∧ ivh13 a0 14 ≤ 2147483647 from W11.int ty39 14) (show (-2147483648) ≤ ivh13 a0 15 ∧ ivh13 a0 15 ≤ 2147483647 from W11.int ty39 15) (show (-2147483648) ≤ ivh13 a0 16 ∧ ivh13 a0 16 ≤ 2147483647 from W11.int ty39 16) (fun ri109 ri110 ri111 ri112 ri113 ri114 => ?_)
                      rw [h9] at re3
                      have re4 : rvh13 a0 10 = rvb1 a0 10 := (fl11.r ty21 rfl 10)
                      rw [h10] at re4
                      refine c_lv (lv2 := [(3, .int (iI f10)), (6, .int (iI 1)), (4, .int (iI cm)), (5, .int (iI k)), (2, .ref ob1), (0, .ref a0), (1, .int (iI i))]) [1, 0, 2, 3, 4, 5, 6] rfl ?_
                      exact J1  f10 1 _ _ _ _ _  X1 W11 F9  (by omega) (by omega) (by show 0 ≤ ivh13 (sk 14) 0 ∧ ivh13 (sk 14) 0 ≤ 501 ∧ (ivh13 (sk 14) 1 = 0 ∨ ivh13 (sk 14) 0 ≤ 500); omega) (by show k < 2 * ivh13 (sk 14) 0 + ivh13 (sk 14) 1; omega) re3 re4 (hP.word (by omega) (by omega) (QT.of hW hS Xb1 Fb1 rfl rfl rfl rfl rfl) wkob1 Wb1 W10 ty22 ty23 ty24 gf10.2 (by omega) fl10 (by omega) (by omega) (by have q := gf11.2; rw [show ivh12 a0 11 = iv a0 11 by omega, show ivh12 a0 13 = iv a0 13 by omega] at q; exact q) gf11.1 (by omega) (by omega) (by omega) (by omega)) (ie126.trans (ie102.trans hkp11)) (ie127.trans (ie128.trans hkp12)) (ie130.trans (ie104.trans hkp13)) (ie131.trans (ie132.trans hkp14)) (ie134.trans (ie135.trans hkp15)) (ie137.trans (ie138.trans hkp16))
                · refine c_aload_n (j := 5) (x := a0) C dX11_set_98 rfl ?_
                  have ty40 := Xb1.ty t_a0
                  refine c_getr (k := 10) C ck_12 dX11_set_99 w2_54 (by decide) ty40 rfl rfl (by decide) rfl h10 ?_
                  refine c_st (st2 := [.ref sB]) rfl ?_
                  refine c_aload_n (j := 5) (x := a0) C dX11_set_102 rfl ?_
                  obtain ⟨rb10, rq10, trb10⟩ := Wb1.ref ty40 5 rfl rfl rfl
                  have erb10 := Wb1.sk trb10 (by decide) rfl
                  subst erb10
                  refine c_getr (k := 5) C ck_12 dX11_set_103 w2_49 (by decide) ty40 rfl rfl (by decide) rfl rq10 ?_
                  refine c_st (st2 := [.ref (sk 14), .ref sB]) rfl ?_
                  have ty41 := Xb1.ty tsk14
                  have ri115 : 0 ≤ ivb1 (sk 14) 2 ∧ ivb1 (sk 14) 2 ≤ 1 := Wb1.int ty41 2
                  refine c_get (k := 2) C ck_9 dX11_set_106 w1_106 (by decide) ty41 rfl rfl (by decide) rfl ?_
                  refine c_aload_n (j := 5) (x := a0) C dX11_set_109 rfl ?_
                  have ri116 : 1 ≤ ivb1 a0 11 ∧ ivb1 a0 11 ≤ 100 := Wb1.int ty40 11
                  refine c_get (k := 11) C ck_12 dX11_set_110 w2_55 (by decide) ty40 rfl rfl (by decide) rfl ?_
                  refine hv5 (Xb1.ty tsA) (show (-2147483648) ≤ ivb1 (sk 14) 0 ∧ ivb1 (sk 14) 0 ≤ 2147483647 from Wb1.int ty41 0) (show 0 ≤ ivb1 (sk 14) 1 ∧ ivb1 (sk 14) 1 ≤ 1 from Wb1.int ty41 1) (Xb1.ty tsB) (Phi.le Wb1 skb1) (fun ty42 ri117 ri118 ty43 pl8 => ?_)
                  refine d_callV (As := [.int (iI (ivb1 (sk 14) 2)), .int (iI (ivb1 a0 11))]) (rest := []) C hM (G_endText (a0 := sB) (g := ivb1 (sk 14) 2) (w1 := ivb1 a0 11) Wb1 skb1 ty43 (by omega) (by omega) (by show 1 ≤ (ivb1 a0 11) ∧ (ivb1 a0 11) ≤ 100; omega)) dX11_set_113 kV_X11_249 rfl ty43 rfl rfl (by decide) ck_8 rfl (Nat.le_of_ble_eq_true rfl) ⟨(Nat.le_of_ble_eq_true rfl), (Nat.le_of_ble_eq_true rfl)⟩ hph pl8 (show 0 + 0 = 0 from rfl) (by decide) (fun rh14 Lh14 clh14 lnh14 ivh14 rvh14 h14 => ?_)
                  obtain ⟨rfl, rfl, rfl, rfl, rfl, fl12, W12, exf12⟩ := h14
                  refine hv2 (Fb1.call Xb1 fl12 rfl) (MRK.call mrb1 Wb1 skb1 XT.refl fl12 rfl rfl) (fun F10 mr10 => ?_)
                  refine c_st (st2 := []) rfl ?_
                  refine hv7 (show ENX Lb1 clb1 ivb1 rvb1 ivh14 sB (ivb1 (sk 14) 2) (ivb1 a0 11) from exf12) (show (-2147483648) ≤ ivh14 (sk 14) 0 ∧ ivh14 (sk 14) 0 ≤ 2147483647 from W12.int ty41 0) (show ivh14 (sk 14) 0 = ivb1 (sk 14) 0 from fl12.i ty41 rfl 0) (show 0 ≤ ivh14 (sk 14) 1 ∧ ivh14 (sk 14) 1 ≤ 1 from W12.int ty41 1) (show ivh14 (sk 14) 1 = ivb1 (sk 14) 1 from fl12.i ty41 rfl 1) (show 0 ≤ ivh14 (sk 14) 2 ∧ ivh14 (sk 14) 2 ≤ 1 from W12.int ty41 2) (show ivh14 (sk 14) 2 = ivb1 (sk 14) 2 from fl12.i ty41 rfl 2) (fun gf12 ri119 ie144 ri120 ie145 ri121 ie146 => ?_)
                  refine c_goto (tgt := 165) C dX11_set_116 (by decide) ?_
                  refine hv12 (show 1 ≤ ivh14 a0 11 ∧ ivh14 a0 11 ≤ 100 from W12.int ty40 11) (show ivh14 a0 11 = ivb1 a0 11 from fl12.i ty40 rfl 11) (show 1 ≤ ivh14 a0 12 ∧ ivh14 a0 12 ≤ 50 from W12.int ty40 12) (show ivh14 a0 12 = ivb1 a0 12 from fl12.i ty40 rfl 12) (show (-2147483648) ≤ ivh14 a0 13 ∧ ivh14 a0 13 ≤ 2147483647 from W12.int ty40 13) (show ivh14 a0 13 = ivb1 a0 13 from fl12.i ty40 rfl 13) (show (-2147483648) ≤ ivh14 a0 14 ∧ ivh14 a0 14 ≤ 2147483647 from W12.int ty40 14) (show ivh14 a0 14 = ivb1 a0 14 from fl12.i ty40 rfl 14) (show (-2147483648) ≤ ivh14 a0 15 ∧ ivh14 a0 15 ≤ 2147483647 from W12.int ty40 15) (show ivh14 a0 15 = ivb1 a0 15 from fl12.i ty40 rfl 15) (show (-2147483648) ≤ ivh14 a0 16 ∧ ivh14 a0 16 ≤ 2147483647 from W12.int ty40 16) (show ivh14 a0 16 = ivb1 a0 16 from fl12.i ty40 rfl 16) (fun ri122 ie147 ri123 ie148 ri124 ie150 ri125 ie152 ri126 ie154 ri127 ie156 => ?_)
                  refine c_lv (lv2 := [(3, .int (iI wy)), (6, .int (iI 1)), (4, .int (iI cm)), (5, .int (iI k)), (2, .ref ob1), (0, .ref a0), (1, .int (iI i))]) [1, 0, 2, 3, 4, 5, 6] rfl ?_
                  exact J1  wy 1 _ _ _ _ _  Xb1 W12 F10  (by omega) (by omega) (by show 0 ≤ ivh14 (sk 14) 0 ∧ ivh14 (sk 14) 0 ≤ 501 ∧ (ivh14 (sk 14) 1 = 0 ∨ ivh14 (sk 14) 0 ≤ 500); omega) (by show k < 2 * ivh14 (sk 14) 0 + ivh14 (sk 14) 1; omega) h9 h10 (hP.end_ (x := ivb1 (sk 14) 2) (by omega) (by omega) ty42 (by have q := gf12; rw [show ivb1 a0 11 = iv a0 11 by omega] at q; exact q) rfl (by omega) (by omega) rfl) (ie147.trans hkp11) (ie148.trans hkp12) (ie150.trans hkp13) (ie152.trans hkp14) (ie154.trans hkp15) (ie156.trans hkp16)
              · refine c_aload_n (j := 5) (x := a0) C dX11_set_80 rfl ?_
                have ty44 := Xb1.ty t_a0
                refine c_getr (k := 10) C ck_12 dX11_set_81 w2_54 (by decide) ty44 rfl rfl (by decide) rfl h10 ?_
                refine c_st (st2 := [.ref sB]) rfl ?_
                refine hv4 (Xb1.ty tsA) (Xb1.ty tsk14) (Xb1.ty tsB) (Phi.le Wb1 skb1) (fun ty45 ty46 ty47 pl9 => ?_)
                refine hv3 (show (-2147483648) ≤ ivb1 (sk 14) 0 ∧ ivb1 (sk 14) 0 ≤ 2147483647 from Wb1.int ty46 0) (show 0 ≤ ivb1 (sk 14) 1 ∧ ivb1 (sk 14) 1 ≤ 1 from Wb1.int ty46 1) (show 0 ≤ ivb1 (sk 14) 2 ∧ ivb1 (sk 14) 2 ≤ 1 from Wb1.int ty46 2) (fun ri128 ri129 ri130 => ?_)
                refine d_callV (As := []) (rest := []) C hM (G_beginText (a0 := sB) Wb1 skb1 ty47  ) dX11_set_84 kV_X11_243 rfl ty47 rfl rfl (by decide) ck_8 rfl (Nat.le_of_ble_eq_true rfl) ⟨(Nat.le_of_ble_eq_true rfl), (Nat.le_of_ble_eq_true rfl)⟩ hph pl9 (show 0 + 0 = 0 from rfl) (by decide) (fun rh15 Lh15 clh15 lnh15 ivh15 rvh15 h15 => ?_)
                obtain ⟨f13, rfl, xl13, fl13, W13, rgf13, exf13⟩ := h15
                refine hv15 (Fb1.call Xb1 fl13 rfl) (MRK.call mrb1 Wb1 skb1 xl13 fl13 rfl rfl) (Xb1.ty tsk2) (Xb1.ty tsk3) (Xb1.ty tsk4) (Xb1.ty tsk5) (Xb1.ty tsk13) (Xb1.ty tsk15) (Xb1.ty tsk16) (Xb1.ty tsk17) (Xb1.ty tsk22) (Xb1.ty tsk23) (Xb1.ty tob1) (Xb1.trans xl13) (xl13.skl skb1) (fun F11 mr11 ty48 ty49 ty50 ty51 ty52 ty53 ty54 ty55 ty56 ty57 ty58 X2 sk2 => ?_)
                refine c_st (st2 := [.int (iI f13)]) rfl ?_
                refine hv5 (show BTX Lb1 clb1 ivb1 rvb1 ivh15 rvh15 sB f13 from exf13) (xl13.ty ty46) (show ivh15 (sk 14) 0 = ivb1 (sk 14) 0 from fl13.i ty46 rfl 0) (show ivh15 (sk 14) 1 = ivb1 (sk 14) 1 from fl13.i ty46 rfl 1) (show ivh15 (sk 14) 2 = ivb1 (sk 14) 2 from fl13.i ty46 rfl 2) (fun gf13 ty59 ie161 ie162 ie163 => ?_)
                refine hv3 (show (-2147483648) ≤ ivh15 (sk 14) 0 ∧ ivh15 (sk 14) 0 ≤ 2147483647 from W13.int ty59 0) (show 0 ≤ ivh15 (sk 14) 1 ∧ ivh15 (sk 14) 1 ≤ 1 from W13.int ty59 1) (show 0 ≤ ivh15 (sk 14) 2 ∧ ivh15 (sk 14) 2 ≤ 1 from W13.int ty59 2) (fun ri131 ri132 ri133 => ?_)
                refine c_istore (lv2 := [(6, .int (iI f13)), (3, .int (iI wy)), (4, .int (iI cm)), (5, .int (iI k)), (2, .ref ob1), (0, .ref a0), (1, .int (iI i))]) C dX11_set_87 (by decide) rfl ?_
                refine c_goto (tgt := 165) C dX11_set_89 (by decide) ?_
                refine hv8 (xl13.ty ty44) (show ivh15 a0 11 = ivb1 a0 11 from fl13.i ty44 rfl 11) (show ivh15 a0 12 = ivb1 a0 12 from fl13.i ty44 rfl 12) (show ivh15 a0 13 = ivb1 a0 13 from fl13.i ty44 rfl 13) (show ivh15 a0 14 = ivb1 a0 14 from fl13.i ty44 rfl 14) (show ivh15 a0 15 = ivb1 a0 15 from fl13.i ty44 rfl 15) (show ivh15 a0 16 = ivb1 a0 16 from fl13.i ty44 rfl 16) (show rvh15 a0 9 = rvb1 a0 9 from (fl13.r ty44 rfl 9)) (fun ty60 ie164 ie166 ie168 ie170 ie172 ie174 re5 => ?_)
                refine hv6 (show 1 ≤ ivh15 a0 11 ∧ ivh15 a0 11 ≤ 100 from W13.int ty60 11) (show 1 ≤ ivh15 a0 12 ∧ ivh15 a0 12 ≤ 50 from W13.int ty60 12) (show (-2147483648) ≤ ivh15 a0 13 ∧ ivh15 a0 13 ≤ 2147483647 from W13.int ty60 13) (show (-2147483648) ≤ ivh15 a0 14 ∧ ivh15 a0 14 ≤ 2147483647 from W13.int ty60 14) (show (-2147483648) ≤ ivh15 a0 15 ∧ ivh15 a0 15 ≤ 2147483647 from W13.int ty60 15) (show (-2147483648) ≤ ivh15 a0 16 ∧ ivh15 a0 16 ≤ 2147483647 from W13.int ty60 16) (fun ri134 ri135 ri136 ri137 ri138 ri139 => ?_)
                rw [h9] at re5
                have re6 : rvh15 a0 10 = rvb1 a0 10 := (fl13.r ty44 rfl 10)
                rw [h10] at re6
                refine c_lv (lv2 := [(3, .int (iI wy)), (6, .int (iI f13)), (4, .int (iI cm)), (5, .int (iI k)), (2, .ref ob1), (0, .ref a0), (1, .int (iI i))]) [1, 0, 2, 3, 4, 5, 6] rfl ?_
                exact J1  wy f13 _ _ _ _ _  X2 W13 F11  (by omega) (by omega) (by show 0 ≤ ivh15 (sk 14) 0 ∧ ivh15 (sk 14) 0 ≤ 501 ∧ (ivh15 (sk 14) 1 = 0 ∨ ivh15 (sk 14) 0 ≤ 500); omega) (by show k < 2 * ivh15 (sk 14) 0 + ivh15 (sk 14) 1; omega) re5 re6 (hP.beg (by omega) (by omega) wkob1 ty45 gf13 (by omega) (by omega) (by omega) (by omega)) (ie164.trans hkp11) (ie166.trans hkp12) (ie168.trans hkp13) (ie170.trans hkp14) (ie172.trans hkp15) (ie174.trans hkp16)
    refine hv24 (show 1 ≤ ivh4 a0 11 ∧ ivh4 a0 11 ≤ 100 from W4.int t_a0 11) (show ivh4 a0 11 = ivh3 a0 11 from fl4.i t_a0 rfl 11) (show ivh3 a0 11 = ivh2 a0 11 from fl3.i t_a0 rfl 11) (show ivh2 a0 11 = iv a0 11 from fl2.i t_a0 rfl 11) (show 1 ≤ ivh4 a0 12 ∧ ivh4 a0 12 ≤ 50 from W4.int t_a0 12) (show ivh4 a0 12 = ivh3 a0 12 from fl4.i t_a0 rfl 12) (show ivh3 a0 12 = ivh2 a0 12 from fl3.i t_a0 rfl 12) (show ivh2 a0 12 = iv a0 12 from fl2.i t_a0 rfl 12) (show (-2147483648) ≤ ivh4 a0 13 ∧ ivh4 a0 13 ≤ 2147483647 from W4.int t_a0 13) (show ivh4 a0 13 = ivh3 a0 13 from fl4.i t_a0 rfl 13) (show ivh3 a0 13 = ivh2 a0 13 from fl3.i t_a0 rfl 13) (show ivh2 a0 13 = iv a0 13 from fl2.i t_a0 rfl 13) (show (-2147483648) ≤ ivh4 a0 14 ∧ ivh4 a0 14 ≤ 2147483647 from W4.int t_a0 14) (show ivh4 a0 14 = ivh3 a0 14 from fl4.i t_a0 rfl 14) (show ivh3 a0 14 = ivh2 a0 14 from fl3.i t_a0 rfl 14) (show ivh2 a0 14 = iv a0 14 from fl2.i t_a0 rfl 14) (show (-2147483648) ≤ ivh4 a0 15 ∧ ivh4 a0 15 ≤ 2147483647 from W4.int t_a0 15) (show ivh4 a0 15 = ivh3 a0 15 from fl4.i t_a0 rfl 15) (show ivh3 a0 15 = ivh2 a0 15 from fl3.i t_a0 rfl 15) (show ivh2 a0 15 = iv a0 15 from fl2.i t_a0 rfl 15) (show (-2147483648) ≤ ivh4 a0 16 ∧ ivh4 a0 16 ≤ 2147483647 from W4.int t_a0 16) (show ivh4 a0 16 = ivh3 a0 16 from fl4.i t_a0 rfl 16) (show ivh3 a0 16 = ivh2 a0 16 from fl3.i t_a0 rfl 16) (show ivh2 a0 16 = iv a0 16 from fl2.i t_a0 rfl 16) (fun ri140 ie176 ie177 ie178 ri141 ie179 ie180 ie181 ri142 ie182 ie183 ie184 ri143 ie185 ie186 ie187 ri144 ie188 ie189 ie190 ri145 ie191 ie192 ie193 => ?_)
    refine c_lv (lv2 := [(3, .int (iI 0)), (4, .int (iI f4)), (5, .int (iI 0)), (2, .ref ob1), (0, .ref a0), (1, .int (iI i))]) [2, 1, 0, 3, 4, 5] rfl ?_
    exact Lp1 1103 0 f4 0 _ _ _ _ _ (by omega) hX0 W4 F3  (by omega) (by omega) (by omega) (by show 0 ≤ ivh4 (sk 14) 0 ∧ ivh4 (sk 14) 0 ≤ 501 ∧ (ivh4 (sk 14) 1 = 0 ∨ ivh4 (sk 14) 0 ≤ 500); omega) (by omega) hsA hsB (PSL.init hW tsB tsA exf2 W2 fl3 W3 (by omega) (by omega) fl4 F2 rfl rfl tsk3 gf4.2 rfl) (ie176.trans (ie177.trans ie178)) (ie179.trans (ie180.trans ie181)) (ie182.trans (ie183.trans ie184)) (ie185.trans (ie186.trans ie187)) (ie188.trans (ie189.trans ie190)) (ie191.trans (ie192.trans ie193))
  · subst oq1
    refine c_lv (lv2 := [(2, .null), (0, .ref a0), (1, .int (iI i))]) [0, 1, 2] rfl ?_
    refine c_st (st2 := []) rfl ?_
    refine c_aload_n (j := 1) (x := a0) C dX11_set_13 rfl ?_
    refine c_iconst C dX11_set_14 ?_
    refine d_callV (As := [.int (iI 3)]) (rest := []) C hM (C_refuse (a0 := a0) (x := 3) hW hS t_a0 ⟨by decide, by decide⟩ ) dX11_set_15 kV_X11_102 rfl t_a0 rfl rfl (by decide) ck_12 rfl (Nat.le_of_ble_eq_true rfl) ⟨(Nat.le_of_ble_eq_true rfl), (Nat.le_of_ble_eq_true rfl)⟩ hph hph (show 0 + 0 = 0 from rfl) (by decide) (fun rh16 Lh16 clh16 lnh16 ivh16 rvh16 h16 => ?_)
    obtain ⟨f14, rfl, rfl, rfl, rfl, rfl, fl14, W14, rgf14, exf14, kp11f14, kp12f14, kp13f14, kp14f14, kp15f14, kp16f14⟩ := h16
    refine hv6 (show 1 ≤ iv a0 12 ∧ iv a0 12 ≤ 50 from hW.int t_a0 12) (show (-2147483648) ≤ iv a0 14 ∧ iv a0 14 ≤ 2147483647 from hW.int t_a0 14) (show (-2147483648) ≤ iv a0 15 ∧ iv a0 15 ≤ 2147483647 from hW.int t_a0 15) (show (-2147483648) ≤ iv a0 16 ∧ iv a0 16 ≤ 2147483647 from hW.int t_a0 16) (hF0.call hX0 fl14 rfl) (MRK.call hmr hW hS XT.refl fl14 rfl rfl) (fun ri146 ri147 ri148 ri149 F12 mr12 => ?_)
    refine c_st (st2 := [.int (iI f14)]) rfl ?_
    refine hv13 (show ivh16 a0 11 = iv a0 11 from kp11f14) (show ivh16 a0 12 = iv a0 12 from kp12f14) (show ivh16 a0 13 = iv a0 13 from kp13f14) (show ivh16 a0 14 = iv a0 14 from kp14f14) (show ivh16 a0 15 = iv a0 15 from kp15f14) (show ivh16 a0 16 = iv a0 16 from kp16f14) (show f14 = -1 from exf14) (show 1 ≤ ivh16 a0 11 ∧ ivh16 a0 11 ≤ 100 from W14.int t_a0 11) (show 1 ≤ ivh16 a0 12 ∧ ivh16 a0 12 ≤ 50 from W14.int t_a0 12) (show (-2147483648) ≤ ivh16 a0 13 ∧ ivh16 a0 13 ≤ 2147483647 from W14.int t_a0 13) (show (-2147483648) ≤ ivh16 a0 14 ∧ ivh16 a0 14 ≤ 2147483647 from W14.int t_a0 14) (show (-2147483648) ≤ ivh16 a0 15 ∧ ivh16 a0 15 ≤ 2147483647 from W14.int t_a0 15) (show (-2147483648) ≤ ivh16 a0 16 ∧ ivh16 a0 16 ≤ 2147483647 from W14.int t_a0 16) (fun gk11f14 gk12f14 gk13f14 gk14f14 gk15f14 gk16f14 gf14 ri150 ri151 ri152 ri153 ri154 ri155 => ?_)
    exact c_iret C dX11_set_18 rfl (by decide) (rom0 hph hph (by decide)) ⟨f14, rfl, hX0, F12, W14, ⟨by omega, by omega⟩, trivial, gk11f14, gk12f14, gk13f14, gk14f14, gk15f14, gk16f14, (PSX.n1 gf1 hW tsB tsA hsA hsB fl14 rfl rfl rfl rfl (by omega))⟩
end
section
theorem PO2_set {l : Launch} {G : GT} {mi h0 : Nat} {i : Int} (h_i : -2147483648 ≤ i ∧ i ≤ 2147483647) : PressOp l G mi yX11_set cX11_set 7 (some .int) 8 [.int (iI i)] h0 (fun sk L cl ln iv rv L2 cl2 ln2 iv2 rv2 f => ((PSX sk ln iv rv iv2 rv2 h0 (iv h0 11) (iv h0 13) i f) ∧ (True ∧ True ∧ iv2 h0 15 = iv h0 15 ∧ iv2 h0 16 = iv h0 16 ∧ (iv2 (sk 5) 2 = iv (sk 5) 2 ∧ ∀ ss, CT iv rv (sk 5) ss → CT iv2 rv2 (sk 5) ss) ∧ (iv2 (sk 4) 2 = iv (sk 4) 2 ∧ ∀ ss, CT iv rv (sk 4) ss → CT iv2 rv2 (sk 4) ss) ∧ FKP sk iv rv iv2 rv2)) ∧ (iv2 h0 14 = iv h0 14 ∧ iv2 h0 11 = iv h0 11 ∧ iv2 h0 12 = iv h0 12 ∧ iv2 h0 13 = iv h0 13) ∧ (iv2 (sk 2) 2 = iv (sk 2) 2 ∧ (∀ ss, CT iv rv (sk 2) ss → CT iv2 rv2 (sk 2) ss)) ∧ (iv2 (sk 3) 2 = iv (sk 3) 2 ∧ (∀ tt, CT iv rv (sk 3) tt → CT iv2 rv2 (sk 3) tt)) ∧ PSAME sk iv rv iv2 rv2 ∧ (∃ g, WT g sk L cl ln iv rv ∧ WT g sk L2 cl2 ln2 iv2 rv2) ∧ SKL sk L cl ∧ XT L cl ln L2 cl2 ln2 ∧ (KP L cl (fun _ => False) (fun _ => False) (fun _ => False) (fun _ => False) (fun _ _ => False) iv rv iv2 rv2)) := by
  intro n L cl ln iv rv sk hn hp
  obtain ⟨hW, hS, hm, h23, ht⟩ := hp
  refine hv3 (show ty L cl (sk 23) 23 from ⟨(hS 23 rfl).1, by rw [(hS 23 rfl).2]; rfl⟩) (show ty L cl (sk 2) 2 from ⟨(hS 2 rfl).1, by rw [(hS 2 rfl).2]; rfl⟩) (show ty L cl (sk 3) 3 from ⟨(hS 3 rfl).1, by rw [(hS 3 rfl).2]; rfl⟩) (fun t23 t2 t3 => ?_)
  refine ⟨0, _, by decide, G_set hW hS ht h_i hm, fun v L2 cl2 ln2 iv2 rv2 h => ?_⟩
  obtain ⟨f, rfl, hX, hF, hW2, rg, ex, kp11, kp12, kp13, kp14, kp15, kp16, psx⟩ := h
  exact ⟨f, rfl, by omega, hX, hW2, (MRK.call hm hW hS hX hF rfl rfl), (by have q := hF.i t23 rfl 2; omega), ⟨⟨psx, ⟨trivial, trivial, kp15, kp16, ⟨hF.i (tysq (t := 5) hS rfl rfl) rfl 2, fun ss hs => CT.fr hs hW (tysq (t := 5) hS rfl rfl) hF rfl rfl rfl rfl rfl⟩, ⟨hF.i (tysq (t := 4) hS rfl rfl) rfl 2, fun ss hs => CT.fr hs hW (tysq (t := 4) hS rfl rfl) hF rfl rfl rfl rfl rfl⟩, (FKP.fr hW hS hF rfl rfl rfl rfl)⟩⟩, ⟨kp14, kp11, kp12, kp13⟩, ⟨hF.i t2 rfl 2, fun ss hs => CT.fr hs hW t2 hF rfl rfl rfl rfl rfl⟩, ⟨hF.i t3 rfl 2, fun tt ht => CT.fr ht hW t3 hF rfl rfl rfl rfl rfl⟩, (PSAME.fr hW hS hF rfl rfl rfl rfl rfl rfl rfl), ⟨⟨_, hW, hW2⟩, hS, hX, (KP.fr hW hF rfl)⟩⟩⟩
theorem MO2_set {l : Launch} {G : GT} {mm : Nat} {x1 : Int} (h_x1 : -2147483648 ≤ x1 ∧ x1 ≤ 2147483647) : ModelOp l G yX12_set cX12_set 7 (some .int) 66 [.int (iI x1)] mm 0 0 (fun v a v2 a2 f => ((SETX v a v2 a2 x1 f ∧ TBL v a ∧ ∀ j, a 10 j ≤ 200) ∧ (True ∧ True ∧ v2 42 = v 42 ∧ v2 43 = v 43 ∧ (v2 41 = v 41 ∧ a2 40 = a 40) ∧ (v2 52 = v 52 ∧ a2 51 = a 51) ∧ (v2 60 = v 60 ∧ v2 61 = v 61 ∧ a2 58 = a 58 ∧ a2 59 = a 59))) ∧ (v2 56 = v 56 ∧ v2 31 = v 31 ∧ v2 32 = v 32 ∧ v2 33 = v 33) ∧ (v2 3 = v 3 ∧ a2 2 = a 2) ∧ (v2 30 = v 30 ∧ a2 29 = a 29) ∧ TSAME v a v2 a2) := by
  intro n ad ln v a L E hn hV hI
  obtain ⟨hB, hT, hS, hR, h19⟩ := hV
  refine ⟨_, N2_set (t := x1) hB hT h_x1 L E hI, fun r L2 E2 h => ?_⟩
  obtain ⟨v2, a2, hI2, f, rfl, hf, hB2, hx⟩ := h
  exact ⟨f, ad, ln, v2, a2, rfl, hI2, ⟨hB2, (hT.fr hf rfl rfl), (hS.fr hf rfl rfl), (hR.fr hf rfl), (by have q := hf.1 19 rfl; push_cast; omega)⟩, ⟨⟨⟨hx, hT, fun j => (hB.2 10 j).2⟩, ⟨trivial, trivial, hf.1 42 rfl, hf.1 43 rfl, ⟨hf.1 41 rfl, hf.2 40 rfl⟩, ⟨hf.1 52 rfl, hf.2 51 rfl⟩, ⟨hf.1 60 rfl, hf.1 61 rfl, hf.2 58 rfl, hf.2 59 rfl⟩⟩⟩, ⟨hf.1 56 rfl, hf.1 31 rfl, hf.1 32 rfl, hf.1 33 rfl⟩, ⟨hf.1 3 rfl, hf.2 2 rfl⟩, ⟨hf.1 30 rfl, hf.2 29 rfl⟩, ⟨hf.1 4 rfl, hf.2 5 rfl, hf.2 6 rfl, hf.2 7 rfl, hf.2 10 rfl, hf.1 19 rfl, hf.2 18 rfl, hf.2 11 rfl, hf.2 8 rfl, hf.2 9 rfl, hf.2 12 rfl, hf.2 13 rfl, hf.2 14 rfl, hf.2 15 rfl, hf.2 16 rfl, hf.2 17 rfl⟩⟩⟩
end
section
def LNO (iv : Nat → Nat → Int) (rv : Nat → Nat → Option Nat) (r : Nat) (x : Option (List Int)) : Prop := (x = none ∧ iv r 2 ≠ 0) ∨ ∃ xs, x = some xs ∧ iv r 2 = 0 ∧ LNE iv rv r xs
def SHT (iv : Nat → Nat → Int) (rv : Nat → Nat → Option Nat) (s : Nat) (E : List (Option (List Int))) : Prop := iv s 1 = ((E.length : Nat) : Int) ∧ ∀ (l : Nat) (x : Option (List Int)), E[l]? = some x → ∃ rb r, rv s 0 = some rb ∧ rv rb l = some r ∧ LNO iv rv r x
def PRX (iv : Nat → Nat → Int) (rv : Nat → Nat → Option Nat) (s : Nat) (i : Int) (f : Option Nat) : Prop := (∃ r, f = some r ∧ SATX iv rv s i (some r) ∧ iv r 2 = 0) ∨ (f = none ∧ (SATX iv rv s i none ∨ ∃ r, SATX iv rv s i (some r) ∧ iv r 2 ≠ 0))
def TCH (iv : Nat → Nat → Int) (rv : Nat → Nat → Option Nat) (iv2 : Nat → Nat → Int) (h0 : Nat) (P : List (Option (List Int)) → List (Option (List Int)) → Prop) : Prop := ∀ sA sB, rv h0 9 = some sA → rv h0 10 = some sB → LNK rv sB sA → ∀ E, SHT iv rv sA E → ∃ E2, P E E2 ∧ SHT iv2 rv sA E2
def RSK (iv : Nat → Nat → Int) (rv : Nat → Nat → Option Nat) (iv1 : Nat → Nat → Int) (r : Nat) (k : Int) : Prop := ∀ xs, LNE iv rv r xs → LNE iv1 rv r (mpr k.toNat (gd0 xs))
def BCX (iv : Nat → Nat → Int) (rv : Nat → Nat → Option Nat) (iv2 : Nat → Nat → Int) (r r2 : Nat) : Prop := iv2 r 2 = iv r2 2 ∧ ∀ xs, LNE iv rv r2 xs → LNE iv2 rv r xs
def DTK (iv : Nat → Nat → Int) (rv : Nat → Nat → Option Nat) (r : Nat) (k z : Int) : Prop := ∀ xs, LNE iv rv r xs → k ≤ ((xs.length : Nat) : Int) → iI z = bcs 0 (mpr k.toNat (gd0 xs))
def DTX (iv : Nat → Nat → Int) (rv : Nat → Nat → Option Nat) (r : Nat) (z : Int) : Prop := ∀ xs, LNE iv rv r xs → iI z = bcs 0 xs
def EP1 (iv : Nat → Nat → Int) (rv : Nat → Nat → Option Nat) (h0 : Nat) (q w k z : Int) : Prop := ∀ sA, rv h0 9 = some sA → ∀ E, SHT iv rv sA E → emb E q w k.toNat (iI z)
def EPX (iv : Nat → Nat → Int) (rv : Nat → Nat → Option Nat) (iv2 : Nat → Nat → Int) (h0 : Nat) (q n w f : Int) : Prop := ∀ sA, rv h0 9 = some sA → ∀ E, SHT iv rv sA E → EMBX E q n w (iI (iv h0 16)) f (iI (iv2 h0 16))
section CROW
variable {h : Nat} {sk : Nat → Nat} {L : List Nat} {cl ln : Nat → Nat} {iv iv1 iv2 iv3 iv4 : Nat → Nat → Int} {rv rv2 : Nat → Nat → Option Nat} {s s2 r r2 rb cb ca h0 sA : Nat} {l i n f k w x q u z : Int} {E E2 : List (Option (List Int))} {y : Option (List Int)} {xs ys : List Int} {ls : List Nat} {P : List (Option (List Int)) → List (Option (List Int)) → Prop}
theorem mpr_s {n : Nat} {F : Nat → Int} : mpr (n + 1) F = mpr n F ++ [F n] := by
  unfold mpr
  rw [List.range_succ, List.map_append]
  rfl
theorem LNE.gd (hx : LNE iv rv r xs) (h0 : rv r 0 = some cb) {j : Nat} (hj : j < xs.length) : iv cb j = gd0 xs j := hx.2 cb h0 j _ (gd0_lt hj)
theorem LNO.fr (hx : LNO iv rv r y) (h1 : iv2 r = iv r) (h2 : rv2 r = rv r) (h3 : ∀ cb, rv r 0 = some cb → iv2 cb = iv cb) : LNO iv2 rv2 r y := by
  rcases hx with ⟨e1, e2⟩ | ⟨xs, e1, e2, e3⟩
  · exact Or.inl ⟨e1, by rw [h1]; exact e2⟩
  · exact Or.inr ⟨xs, e1, by rw [h1]; exact e2, e3.fr h1 h2 h3⟩
theorem SHT.sam (hE : SHT iv rv s E) (hS : SAM iv rv iv2 rv2 s) : SHT iv2 rv2 s E := by
  obtain ⟨s1, s2, s3⟩ := hS
  refine ⟨by rw [s1]; exact hE.1, fun l x e => ?_⟩
  obtain ⟨rb, r, q0, q1, q2⟩ := hE.2 l x e
  obtain ⟨p1, p2⟩ := s3 rb q0
  obtain ⟨k1, k2, k3⟩ := p2 l r q1
  exact ⟨rb, r, by rw [s2]; exact q0, by rw [p1]; exact q1, q2.fr k1 k2 k3⟩
theorem SHT.nul (hE : SHT iv rv s E) (hx : SATX iv rv s i none) : rwe E i = none := by
  rcases hx with ⟨⟨c1, c2⟩, rb, h0, e⟩ | ⟨c, _⟩
  · obtain ⟨y, _, y2⟩ := rwl_in (E := E) c1 (by have q := hE.1; omega)
    obtain ⟨rb2, r, q0, q1, _⟩ := hE.2 _ _ y2
    rw [h0] at q0; cases q0
    rw [← e] at q1
    cases q1
  · exact rwl_out (by have q := hE.1; omega)
theorem SHT.smt (hE : SHT iv rv s E) (hx : SATX iv rv s i (some r)) : ∃ y, rwe E i = some y ∧ LNO iv rv r y := by
  rcases hx with ⟨⟨c1, c2⟩, rb, h0, e⟩ | ⟨_, e⟩
  · obtain ⟨y, y1, y2⟩ := rwl_in (E := E) c1 (by have q := hE.1; omega)
    obtain ⟨rb2, r2, q0, q1, q2⟩ := hE.2 _ _ y2
    rw [h0] at q0; cases q0
    rw [← e] at q1
    cases q1
    exact ⟨y, y1, q2⟩
  · cases e
theorem SHT.lck (hE : SHT iv rv s E) (hx : SATX iv rv s i (some r)) (hn : iv r 2 ≠ 0) : rwe E i = some none := by
  obtain ⟨y, y1, y2⟩ := hE.smt hx
  rcases y2 with ⟨e, _⟩ | ⟨xs, _, e, _⟩
  · rw [y1, e]
  · exact absurd e hn
theorem SHT.prs (hE : SHT iv rv s E) (hx : SATX iv rv s i (some r)) (hn : iv r 2 = 0) : ∃ xs, rwe E i = some (some xs) ∧ LNE iv rv r xs := by
  obtain ⟨y, y1, y2⟩ := hE.smt hx
  rcases y2 with ⟨_, e⟩ | ⟨xs, e1, _, e2⟩
  · exact absurd hn e
  · exact ⟨xs, by rw [y1, e1], e2⟩
theorem PRX.non (hx : PRX iv rv s i none) (hE : SHT iv rv s E) : ¬ ∃ xs, rwe E i = some (some xs) := fun g => by
  obtain ⟨xs, g⟩ := g
  rcases hx with ⟨r, e, _⟩ | ⟨_, e | ⟨r, e1, e2⟩⟩
  · cases e
  · rw [hE.nul e] at g
    cases g
  · rw [hE.lck e1 e2] at g
    cases g
theorem PRX.smt (hx : PRX iv rv s i (some r)) : SATX iv rv s i (some r) ∧ iv r 2 = 0 := by
  rcases hx with ⟨r2, e, e1, e2⟩ | ⟨e, _⟩
  · cases e
    exact ⟨e1, e2⟩
  · cases e
theorem SHT.set (hE : SHT iv rv s E) (hK : LNK rv s2 s) (hW : WT h sk L cl ln iv rv) (ts : ty L cl s 18) (hx : SATX iv rv s i (some r)) (hL : LFR L cl iv rv iv2 r) (h1 : iv2 s 1 = iv s 1) (hn : LNO iv2 rv r y) : SHT iv2 rv s (E.set i.toNat y) := by
  obtain ⟨rb, r0, r1⟩ := hx.row
  have tr := ro19 hW (sh67 hW ts r0) r1
  refine ⟨by rw [List.length_set, h1]; exact hE.1, fun j x e => ?_⟩
  rw [List.getElem?_set] at e
  by_cases c : i.toNat = j
  · rw [if_pos c] at e
    split at e
    · cases e
      exact ⟨rb, r, r0, by rw [← c]; exact r1, hn⟩
    · cases e
  · rw [if_neg c] at e
    obtain ⟨rb2, r2, q0, q1, q2⟩ := hE.2 j x e
    obtain ⟨n1, n2⟩ := hK.sym.ne hW (Or.inl rfl) (Or.inl rfl) tr r0 r1 q0 q1 (fun g => c g.2)
    have t2 := ro19 hW (sh67 hW ts q0) q1
    exact ⟨rb2, r2, q0, q1, q2.fr (hL.1 r2 t2 n1) rfl (fun cb hc => hL.2 cb (li64 hW t2 hc) (n2 cb hc))⟩
theorem TCH.same (hA : rv h0 9 = some sA) (hW : WT h sk L cl ln iv rv) (tA : ty L cl sA 18) (hF : fT ls L cl iv rv iv2 rv) (a18 : ls.contains 18 = false) (a19 : ls.contains 19 = false) (a64 : ls.contains 64 = false) (a67 : ls.contains 67 = false) (hP : ∀ E, SHT iv rv sA E → P E E) : TCH iv rv iv2 h0 P := fun sA' sB e _ _ E hE => by
  rw [hA] at e; cases e
  exact ⟨E, hP E hE, hE.sam (SAM.frm hW tA hF a18 a19 a64 a67)⟩
theorem TCH.row (hA : rv h0 9 = some sA) (hW : WT h sk L cl ln iv rv) (tA : ty L cl sA 18) (hx : SATX iv rv sA i (some r)) (hL : LFR L cl iv rv iv1 r) (h1 : iv1 sA 1 = iv sA 1) (hW1 : WT h sk L cl ln iv1 rv) (hF : fT ls L cl iv1 rv iv2 rv) (a18 : ls.contains 18 = false) (a19 : ls.contains 19 = false) (a64 : ls.contains 64 = false) (a67 : ls.contains 67 = false) (hP : ∀ E, SHT iv rv sA E → ∃ y, LNO iv1 rv r y ∧ P E (E.set i.toNat y)) : TCH iv rv iv2 h0 P := fun sA' sB e _ hK E hE => by
  rw [hA] at e; cases e
  obtain ⟨y, y1, y2⟩ := hP E hE
  exact ⟨_, y2, (hE.set hK hW tA hx hL h1 y1).sam (SAM.frm hW1 tA hF a18 a19 a64 a67)⟩
theorem LSP.no (hx : SATX iv rv s l none) (hf : f = -1) (hE : SHT iv rv s E) : LOSX E l f E := Or.inr ⟨hE.nul hx, rfl, hf⟩
theorem LSP.ok (hx : SATX iv rv s l (some r)) (e : iv1 = up2 iv r 2 1) (hf : f = 1) (hE : SHT iv rv s E) : ∃ y, LNO iv1 rv r y ∧ LOSX E l f (E.set l.toNat y) := by
  obtain ⟨y, y1, _⟩ := hE.smt hx
  exact ⟨none, Or.inl ⟨rfl, by rw [e, up2_s]; decide⟩, Or.inl ⟨⟨y, y1⟩, rfl, hf⟩⟩
theorem CTP.no (hx : (n < 0 ∨ 200 < n) ∨ PRX iv rv s l none) (hf : f = -1) (hE : SHT iv rv s E) : CUTX E l n f E := by
  refine Or.inr ⟨fun ⟨c, g⟩ => ?_, rfl, hf⟩
  rcases hx with e | e
  · omega
  · exact e.non hE g
theorem CTP.ok (hx : PRX iv rv s l (some r)) (hn : 0 ≤ n ∧ n ≤ 200) (hr : RSK iv rv iv1 r n) (h2 : iv1 r 2 = iv r 2) (hf : f = n) (hE : SHT iv rv s E) : ∃ y, LNO iv1 rv r y ∧ CUTX E l n f (E.set l.toNat y) := by
  obtain ⟨x1, x2⟩ := hx.smt
  obtain ⟨xs, e1, e2⟩ := hE.prs x1 x2
  exact ⟨some (mpr n.toNat (gd0 xs)), Or.inr ⟨_, rfl, h2.trans x2, hr xs e2⟩, Or.inl ⟨hn, xs, e1, rfl, hf⟩⟩
theorem RSK.init (e : iv1 = up2 iv r 1 k) (hk : 0 ≤ k ∧ k ≤ iv r 1) (hne : ∀ cb, rv r 0 = some cb → cb ≠ r) : RSK iv rv iv1 r k := fun xs hx => by
  refine ⟨by rw [e, up2_s, mpr_len]; omega, fun cb hc j y ey => ?_⟩
  obtain ⟨m1, m2⟩ := mpr_at ey
  have q := hx.1
  rw [e, up2_k (hne cb hc), m2]
  exact hx.gd hc (by omega)
theorem RSK.step (hr : RSK iv rv iv1 r k) (hx : LAX iv1 rv iv2 r 0) (hk : 0 ≤ k ∧ iv r 1 ≤ k ∧ k < 200) : RSK iv rv iv2 r (k + 1) := fun xs hl => by
  have q := hl.1
  have g := hx _ (hr xs hl) (by rw [mpr_len]; omega)
  rw [show (k + 1).toNat = k.toNat + 1 by omega, mpr_s, gd0_out (by omega)]
  exact g
theorem CRP.no (hx : SATX iv rv s q none ∨ SATX iv rv s u none) (hf : f = -1) (hE : SHT iv rv s E) : CPRX E q w u x n f E := by
  refine Or.inr ⟨fun ⟨xs, ys, g⟩ => ?_, rfl, hf⟩
  rcases hx with e | e
  · have g1 := g.1
    rw [hE.nul e] at g1
    cases g1
  · have g1 := g.2.1
    rw [hE.nul e] at g1
    cases g1
theorem CRP.lck (hq : SATX iv rv s q (some r)) (hu : SATX iv rv s u (some r2)) (hx : iv r 2 ≠ 0 ∨ iv r2 2 ≠ 0) (hf : f = -1) (hE : SHT iv rv s E) : CPRX E q w u x n f E := by
  refine Or.inr ⟨fun ⟨xs, ys, g⟩ => ?_, rfl, hf⟩
  rcases hx with e | e
  · have g1 := g.1
    rw [hE.lck hq e] at g1
    cases g1
  · have g1 := g.2.1
    rw [hE.lck hu e] at g1
    cases g1
theorem CRP.out (hq : SATX iv rv s q (some r)) (hu : SATX iv rv s u (some r2)) (h1 : iv r 2 = 0) (h2 : iv r2 2 = 0) (hx : ¬ (0 ≤ n ∧ 0 ≤ w ∧ 0 ≤ x ∧ w + n ≤ iv r 1 ∧ x + n ≤ iv r2 1)) (hf : f = -1) (hE : SHT iv rv s E) : CPRX E q w u x n f E := by
  obtain ⟨xs, e1, e2⟩ := hE.prs hq h1
  obtain ⟨ys, d1, d2⟩ := hE.prs hu h2
  refine Or.inr ⟨fun ⟨zs, us, g1, g2, g3, g4, g5, g6, g7⟩ => hx ?_, rfl, hf⟩
  rw [e1] at g1
  rw [d1] at g2
  cases g1
  cases g2
  refine hv2 (e2.1) (d2.1) (fun a1 a2 => ?_)
  exact ⟨g3, g4, g5, by omega, by omega⟩
theorem CRP.ok (hq : SATX iv rv s q (some r)) (hu : SATX iv rv s u (some r2)) (h1 : iv r 2 = 0) (h2 : iv r2 2 = 0) (hx : 0 ≤ n ∧ 0 ≤ w ∧ 0 ≤ x ∧ w + n ≤ iv r 1 ∧ x + n ≤ iv r2 1) (ha : rv r 0 = some ca) (hb : rv r2 0 = some cb) (e : iv1 = fun a b => if a = cb then (if x.toNat ≤ b ∧ b < x.toNat + n.toNat then iv ca (w.toNat + (b - x.toNat)) else iv cb b) else iv a b) (hne : r2 ≠ cb) (hf : f = n) (hE : SHT iv rv s E) : ∃ y, LNO iv1 rv r2 y ∧ CPRX E q w u x n f (E.set u.toNat y) := by
  obtain ⟨xs, e1, e2⟩ := hE.prs hq h1
  obtain ⟨ys, d1, d2⟩ := hE.prs hu h2
  refine hv2 (e2.1) (d2.1) (fun a1 a2 => ?_)
  have er : ∀ m, iv1 r2 m = iv r2 m := fun m => by
    rw [e]
    show (if r2 = cb then _ else iv r2 m) = iv r2 m
    rw [if_neg hne]
  refine ⟨some (cpx xs ys w.toNat x.toNat n.toNat), Or.inr ⟨_, rfl, (er 2).trans h2, ?_, fun c hc j y ey => ?_⟩, Or.inl ⟨xs, ys, ⟨e1, d1, hx.1, hx.2.1, hx.2.2.1, by omega, by omega⟩, rfl, hf⟩⟩
  · unfold cpx
    rw [er, mpr_len]
    exact a2
  · unfold cpx at ey
    obtain ⟨m1, m2⟩ := mpr_at ey
    rw [hb] at hc; cases hc
    have ec : iv1 cb j = if x.toNat ≤ j ∧ j < x.toNat + n.toNat then iv ca (w.toNat + (j - x.toNat)) else iv cb j := by
      rw [e]
      show (if cb = cb then _ else _) = _
      rw [if_pos rfl]
    rw [ec, m2]
    by_cases c0 : x.toNat ≤ j ∧ j < x.toNat + n.toNat
    · rw [if_pos c0, if_pos c0]
      exact e2.gd ha (by omega)
    · rw [if_neg c0, if_neg c0]
      exact d2.gd hb m1
theorem BCX.mk {m : Int} (ha : rv r2 0 = some ca) (hb : rv r 0 = some cb) (e1 : iv1 = fun a b => if a = cb then (if (0 : Int).toNat ≤ b ∧ b < (0 : Int).toNat + m.toNat then iv ca ((0 : Int).toNat + (b - (0 : Int).toNat)) else iv cb b) else iv a b) (hm : m = iv r2 1) (e2 : iv2 = up2 iv1 r 1 k) (hk : k = iv r2 1) (e3 : iv3 = up2 iv2 r 2 z) (hz : z = iv2 r2 2) (hne : cb ≠ r) (hne2 : r2 ≠ cb) : BCX iv rv iv3 r r2 := by
  have z2 : iv2 r2 2 = iv r2 2 := by
    rw [e2, up2_j (by decide), e1]
    show (if r2 = cb then _ else iv r2 2) = iv r2 2
    rw [if_neg hne2]
  refine ⟨by rw [e3, up2_s]; exact hz.trans z2, fun xs hx => ⟨by rw [e3, up2_j (by decide), e2, up2_s]; exact hk.trans hx.1, fun c hc j y ey => ?_⟩⟩
  rw [hb] at hc; cases hc
  refine hv2 (hx.1) (gl3 ey) (fun q lt => ?_)
  have ec : iv1 cb j = if (0 : Int).toNat ≤ j ∧ j < (0 : Int).toNat + m.toNat then iv ca ((0 : Int).toNat + (j - (0 : Int).toNat)) else iv cb j := by
    rw [e1]
    show (if cb = cb then _ else _) = _
    rw [if_pos rfl]
  rw [e3, up2_k hne, e2, up2_k hne, ec, if_pos (by omega), show (0 : Int).toNat + (j - (0 : Int).toNat) = j by omega]
  exact hx.2 ca ha j y ey
theorem wr_add {x z : Int} (hz : R32 z) (hx : -2147483648 ≤ x ∧ x ≤ 2147484000) (e : iI x = iI z) : (x < 2147483648 ∧ z = x) ∨ (2147483648 ≤ x ∧ z < 0) := by
  have g := congrArg Int32.toInt e
  rw [iI_int hz] at g
  by_cases c : x < 2147483648
  · rw [iI_int ⟨hx.1, c⟩] at g
    exact Or.inl ⟨c, g.symm⟩
  · have h2 : (iI x).toInt = x.bmod 4294967296 := Int32.toInt_ofInt
    rw [h2, Int.bmod_def] at g
    refine Or.inr ⟨by omega, ?_⟩
    split at g <;> omega
theorem SATX.wr {fo : Option Nat} (hx : SATX iv rv s z fo) (hw : (x < 2147483648 ∧ z = x) ∨ (2147483648 ≤ x ∧ z < 0)) (hc : iv s 1 ≤ 200) : SATX iv rv s x fo := by
  rcases hw with ⟨_, e⟩ | ⟨e1, e2⟩
  · rw [← e]
    exact hx
  · rcases hx with ⟨c, _⟩ | ⟨_, c⟩
    · omega
    · exact Or.inr ⟨by omega, c⟩
theorem CPP.zero (hA : rv h0 9 = some sA) (hW : WT h sk L cl ln iv rv) (tA : ty L cl sA 18) (th : ty L cl h0 1) (e : iv1 = up2 iv h0 15 z) (hk : k = 0) : TCH iv rv iv1 h0 (fun E E1 => cpn E q u k.toNat E1) := by
  have hF : fT [1] L cl iv rv iv1 rv := fT.refl.puti (ln := ln) (ln2 := ln) XT.refl e th rfl
  refine TCH.same hA hW tA hF rfl rfl rfl rfl (fun E hE => ?_)
  rw [hk]
  exact rfl
theorem CPP.step (hT : TCH iv rv iv1 h0 (fun E E1 => cpn E q u k.toNat E1)) (hA : rv h0 9 = some sA) (hW1 : WT h sk L cl ln iv1 rv) (tA : ty L cl sA 18) (th : ty L cl h0 1) (g1 : SATX iv1 rv sA (q + k) (some r)) (g2 : SATX iv1 rv sA (u + k) (some r2)) (hl : iv1 r 2 = 0) (hL : LFR L cl iv1 rv iv2 r2) (hB : BCX iv1 rv iv2 r2 r) (h1 : iv2 sA 1 = iv1 sA 1) (hW2 : WT h sk L cl ln iv2 rv) (e : iv3 = up2 iv2 h0 15 z) (hk : 0 ≤ k) : TCH iv rv iv3 h0 (fun E E1 => cpn E q u (k + 1).toNat E1) := fun sA' sB e1 e2 hK E hE => by
  rw [hA] at e1; cases e1
  have hF : fT [1] L cl iv2 rv iv3 rv := fT.refl.puti (ln := ln) (ln2 := ln) XT.refl e th rfl
  obtain ⟨E1, p1, p2⟩ := hT sA sB hA e2 hK E hE
  obtain ⟨xs, d1, d2⟩ := p2.prs g1 hl
  obtain ⟨y, y1, _⟩ := p2.smt g2
  refine ⟨E1.set (u + k).toNat (some xs), ?_, (p2.set hK hW1 tA g2 hL h1 (Or.inr ⟨xs, rfl, hB.1.trans hl, hB.2 xs d2⟩)).sam (SAM.frm hW2 tA hF rfl rfl rfl rfl)⟩
  show cpn E q u (k + 1).toNat (E1.set (u + k).toNat (some xs))
  rw [show (k + 1).toNat = k.toNat + 1 by omega]
  refine ⟨E1, p1, xs, y, ?_, ?_, ?_⟩
  · rw [show q + ((k.toNat : Nat) : Int) = q + k by omega]
    exact d1
  · rw [show u + ((k.toNat : Nat) : Int) = u + k by omega]
    exact y1
  · rw [show u + ((k.toNat : Nat) : Int) = u + k by omega]
theorem CPP.bad (hA : rv h0 9 = some sA) (hW : WT h sk L cl ln iv rv) (tA : ty L cl sA 18) (hF : fT [1] L cl iv rv iv2 rv) {c c2 : Int} (hn : n < 0 ∨ 10 < n) (hf : f = -1) (hc : c2 = c) : TCH iv rv iv2 h0 (fun E E2 => CPLX E q u n c f E2 c2) := TCH.same hA hW tA hF rfl rfl rfl rfl (fun E hE => Or.inl ⟨hn, rfl, hf, hc⟩)
theorem CPP.ok (hT : TCH iv rv iv1 h0 (fun E E1 => cpn E q u k.toNat E1)) (hA : rv h0 9 = some sA) (hW1 : WT h sk L cl ln iv1 rv) (tA : ty L cl sA 18) (hF : fT [1] L cl iv1 rv iv2 rv) {c c2 : Int} (hk : k = n) (hn : 0 ≤ n ∧ n ≤ 10) (hf : f = n) (hc : c2 = n) : TCH iv rv iv2 h0 (fun E E2 => CPLX E q u n c f E2 c2) := fun sA' sB e1 e2 hK E hE => by
  rw [hA] at e1; cases e1
  obtain ⟨E1, p1, p2⟩ := hT sA sB hA e2 hK E hE
  have p3 : cpn E q u k.toNat E1 := p1
  rw [hk] at p3
  exact ⟨E1, Or.inr ⟨hn, Or.inl ⟨p3, hf, hc⟩⟩, p2.sam (SAM.frm hW1 tA hF rfl rfl rfl rfl)⟩
theorem CPP.stop (hT : TCH iv rv iv1 h0 (fun E E1 => cpn E q u k.toNat E1)) (hA : rv h0 9 = some sA) (hW1 : WT h sk L cl ln iv1 rv) (tA : ty L cl sA 18) (hF : fT [1] L cl iv1 rv iv2 rv) {c c2 : Int} (hk : 0 ≤ k ∧ k < n) (hn : n ≤ 10) (hf : f = -1) (hc : c2 = k) (hx : SATX iv1 rv sA (q + k) none ∨ SATX iv1 rv sA (u + k) none ∨ ∃ r, SATX iv1 rv sA (q + k) (some r) ∧ iv1 r 2 ≠ 0) : TCH iv rv iv2 h0 (fun E E2 => CPLX E q u n c f E2 c2) := fun sA' sB e1 e2 hK E hE => by
  rw [hA] at e1; cases e1
  obtain ⟨E1, p1, p2⟩ := hT sA sB hA e2 hK E hE
  refine ⟨E1, Or.inr ⟨⟨by omega, hn⟩, Or.inr ⟨k.toNat, by omega, p1, fun ⟨E3, xs, y, d1, d2, _⟩ => ?_, hf, by omega⟩⟩, p2.sam (SAM.frm hW1 tA hF rfl rfl rfl rfl)⟩
  rw [show q + ((k.toNat : Nat) : Int) = q + k by omega] at d1
  rw [show u + ((k.toNat : Nat) : Int) = u + k by omega] at d2
  rcases hx with e | e | ⟨r, e1, e3⟩
  · rw [p2.nul e] at d1
    cases d1
  · rw [p2.nul e] at d2
    cases d2
  · rw [p2.lck e1 e3] at d1
    cases d1
theorem DTK.zero (hk : k = 0) (hz : z = 0) : DTK iv rv r k z := fun xs hx hl => by
  rw [hk, hz]
  rfl
theorem DTK.step (hd : DTK iv rv r k z) (hc : rv r 0 = some cb) (hk : 0 ≤ k) (e1 : bcn (iI (iv cb k.toNat)) = iI w) (e2 : iI (z + w) = iI x) : DTK iv rv r (k + 1) x := fun xs hx hl => by
  refine hv2 (hd xs hx (by omega)) (show iI (z + w) = iI z + iI w from Int32.ofInt_add z w) (fun g ea => ?_)
  have ec := hx.gd hc (j := k.toNat) (by omega)
  rw [show (k + 1).toNat = k.toNat + 1 by omega, mpr_s, bcs_snoc, ← g, ← e2, ea, ← e1, ec]
theorem mpr_all {n : Nat} (hn : n = xs.length) : mpr n (gd0 xs) = xs := by
  refine List.ext_getElem? (fun j => ?_)
  by_cases cj : j < xs.length
  · have lt : j < (mpr n (gd0 xs)).length := by rw [mpr_len]; omega
    have g := List.getElem?_eq_getElem lt
    rw [gd0_lt cj, g]
    obtain ⟨_, m2⟩ := mpr_at g
    rw [m2]
  · have l1 : (mpr n (gd0 xs)).length ≤ j := by
      rw [mpr_len]
      omega
    rw [List.getElem?_eq_none l1, List.getElem?_eq_none (show xs.length ≤ j by omega)]
theorem DTX.fin (hd : DTK iv rv r k z) (hk : k = iv r 1) : DTX iv rv r z := fun xs hx => by
  have e := hx.1
  have g := hd xs hx (by omega)
  rw [mpr_all (by omega)] at g
  exact g
theorem SATX.up {fo : Option Nat} (hx : SATX iv1 rv s x fo) (h1 : iv1 s 1 = iv s 1) : SATX iv rv s x fo := by
  unfold SATX at hx ⊢
  rw [h1] at hx
  exact hx
theorem EP1.zero (hk : k = 0) (hz : z = 0) : EP1 iv rv h0 q w k z := fun sA _ E _ => by
  rw [hk, hz]
  rfl
theorem EP1.lck (hp : EP1 iv rv h0 q w k z) (hA : rv h0 9 = some sA) (hx : SATX iv rv sA (q + k) (some r)) (hn : iv r 2 ≠ 0) (hk : 0 ≤ k) (hz : iI x = iI z) : EP1 iv rv h0 q w (k + 1) x := fun sA' e E hE => by
  have g := hp sA' e E hE
  rw [hA] at e; cases e
  rw [show (k + 1).toNat = k.toNat + 1 by omega]
  refine ⟨_, g, Or.inl ⟨?_, hz⟩⟩
  rw [show q + ((k.toNat : Nat) : Int) = q + k by omega]
  exact hE.lck hx hn
theorem EP1.dts (hp : EP1 iv rv h0 q w k z) (hA : rv h0 9 = some sA) (hx : SATX iv rv sA (q + k) (some r)) (hn : iv r 2 = 0) (hw : iv r 1 ≤ w) (hk : 0 ≤ k) (hd : DTX iv rv r u) (hz : iI (z + u) = iI x) : EP1 iv rv h0 q w (k + 1) x := fun sA' e E hE => by
  have g := hp sA' e E hE
  rw [hA] at e; cases e
  obtain ⟨xs, e1, e2⟩ := hE.prs hx hn
  refine hv2 (e2.1) (show iI (z + u) = iI z + iI u from Int32.ofInt_add z u) (fun l1 ea => ?_)
  rw [show (k + 1).toNat = k.toNat + 1 by omega]
  refine ⟨_, g, Or.inr ⟨xs, ?_, by omega, ?_⟩⟩
  · rw [show q + ((k.toNat : Nat) : Int) = q + k by omega]
    exact e1
  · rw [← hz, ea, hd xs e2, bcs_add xs (iI z)]
theorem EPX.bad (hn : n < 0 ∨ 200 < n) (hf : f = -1) (h16 : iv2 h0 16 = iv h0 16) : EPX iv rv iv2 h0 q n w f := fun sA _ E _ => Or.inl ⟨hn, hf, by rw [h16]⟩
theorem EPX.ok (hp : EP1 iv rv h0 q w k z) (hk : k = n) (hn : 0 ≤ n ∧ n ≤ 200) (hf : f = z) (hc : iI (iv2 h0 16) = iI (iv h0 16) + iI k) : EPX iv rv iv2 h0 q n w f := fun sA e E hE => by
  have g := hp sA e E hE
  rw [hk, ← hf] at g
  rw [hk] at hc
  exact Or.inr ⟨hn, Or.inl ⟨g, hc⟩⟩
theorem EPX.nul (hp : EP1 iv rv h0 q w k z) (hA : rv h0 9 = some sA) (hk : 0 ≤ k ∧ k < n) (hn : n ≤ 200) (hc : iI (iv2 h0 16) = iI (iv h0 16) + iI (k + 1)) (hx : SATX iv rv sA (q + k) none) (hf : f = -1) : EPX iv rv iv2 h0 q n w f := fun sA' e E hE => by
  have g := hp sA' e E hE
  rw [hA] at e; cases e
  refine Or.inr ⟨⟨by omega, hn⟩, Or.inr ⟨k.toNat, iI z, by omega, g, Or.inl ⟨?_, hf⟩, by rw [hc, show ((k.toNat : Nat) : Int) = k by omega]⟩⟩
  rw [show q + ((k.toNat : Nat) : Int) = q + k by omega]
  exact hE.nul hx
theorem EPX.big (hp : EP1 iv rv h0 q w k z) (hA : rv h0 9 = some sA) (hk : 0 ≤ k ∧ k < n) (hn : n ≤ 200) (hc : iI (iv2 h0 16) = iI (iv h0 16) + iI (k + 1)) (hx : SATX iv rv sA (q + k) (some r)) (hl : iv r 2 = 0) (hw : w < iv r 1) (hf : f = z) : EPX iv rv iv2 h0 q n w f := fun sA' e E hE => by
  have g := hp sA' e E hE
  rw [hA] at e; cases e
  obtain ⟨xs, e1, e2⟩ := hE.prs hx hl
  have l1 := e2.1
  refine Or.inr ⟨⟨by omega, hn⟩, Or.inr ⟨k.toNat, iI z, by omega, g, Or.inr ⟨xs, ?_, by omega, by rw [hf]⟩, by rw [hc, show ((k.toNat : Nat) : Int) = k by omega]⟩⟩
  rw [show q + ((k.toNat : Nat) : Int) = q + k by omega]
  exact e1
end CROW
end
section
set_option maxHeartbeats 4000000 in
set_option maxRecDepth 100000 in
theorem G_present {l : Launch} {G : GT} {mi : Nat} {sk : Nat → Nat} {L : List Nat} {cl ln : Nat → Nat} {iv : Nat → Nat → Int} {rv : Nat → Nat → Option Nat}  {a0 : Nat} {i : Int} (hW : WT (g0 G) sk L cl ln iv rv) (hS : SKL sk L cl) (t_a0 : ty L cl a0 18) (h_i : -2147483648 ≤ i ∧ i ≤ 2147483647)  : Mc l G mi (Phi (g0 G) sk) PHM yX7_present cX7_present 3 (some (.object "DotPress$Line")) 1 [.ref a0, .int (iI i)] L cl ln iv rv 0 (fun v L2 cl2 ln2 iv2 rv2 => ∃ f : Option Nat, v = some ((va_rf f)) ∧ L = L2 ∧ cl = cl2 ∧ ln = ln2 ∧ iv = iv2 ∧ rv = rv2 ∧ (∀ b, f = some b → ty L2 cl2 b 19) ∧ (PRX iv rv a0 i f)) := by
  refine Mc.mk (by decide) (Nat.le_of_ble_eq_true rfl) ?_
  intro p e s m args below meth c A C hM
  refine hv3 (Phi.le hW hS) (show XT L cl ln L cl ln from XT.refl) (show fT [] L cl iv rv iv rv from fT.refl) (fun hph hX0 hF0 => ?_)
  refine c_aload_n (j := 0) (x := a0) C dX7_present_0 rfl ?_
  refine c_iload_n (j := 1) C dX7_present_1 rfl ?_
  refine d_callV (As := [.int (iI i)]) (rest := []) C hM (G_sat (a0 := a0) (i := i) hW hS t_a0 (by omega) ) dX7_present_2 kV_X7_24 rfl t_a0 rfl rfl (by decide) ck_8 rfl (Nat.le_of_ble_eq_true rfl) ⟨(Nat.le_of_ble_eq_true rfl), (Nat.le_of_ble_eq_true rfl)⟩ hph hph (show 0 + 0 = 0 from rfl) (by decide) (fun rh1 Lh1 clh1 lnh1 ivh1 rvh1 h1 => ?_)
  obtain ⟨f1, rfl, rfl, rfl, rfl, rfl, rfl, rgf1, exf1⟩ := h1
  refine c_st (st2 := [(va_rf f1)]) rfl ?_
  have gf1 : SATX iv rv a0 i f1 := exf1
  refine c_astorer_n (r := f1) (lv2 := [(2, (va_rf f1)), (0, .ref a0), (1, .int (iI i))]) C dX7_present_5 (by decide) rfl ?_
  refine c_aloadr_n (j := 0) (r := f1) C dX7_present_6 rfl ?_
  refine c_ifnull (r := f1) (tgt := 17) C dX7_present_7 (by decide) (fun oq1 => ?_) (fun ob1 oq1 => ?_)
  · subst oq1
    refine c_lv (lv2 := [(2, .null), (0, .ref a0), (1, .int (iI i))]) [0, 1, 2] rfl ?_
    refine c_st (st2 := []) rfl ?_
    refine c_null C dX7_present_17 ?_
    refine c_goto (tgt := 22) C dX7_present_18 (by decide) ?_
    exact c_aret (x := none) C dX7_present_22 rfl (Or.inl ⟨_, rfl⟩) (by decide) (rom0 hph hph (by decide)) ⟨none, rfl, rfl, rfl, rfl, rfl, rfl, (fun _ q => by cases q), (Or.inr ⟨rfl, Or.inl gf1⟩)⟩
  · subst oq1
    have tob1 := rgf1 ob1 rfl
    refine c_lv (lv2 := [(2, .ref ob1), (0, .ref a0), (1, .int (iI i))]) [0, 1, 2] rfl ?_
    refine c_st (st2 := []) rfl ?_
    refine c_aload_n (j := 0) (x := ob1) C dX7_present_10 rfl ?_
    have ri1 : 0 ≤ iv ob1 2 ∧ iv ob1 2 ≤ 1 := hW.int tob1 2
    refine c_get (k := 2) C ck_3 dX7_present_11 w4_55 (by decide) tob1 rfl rfl (by decide) rfl ?_
    refine c_if_eq (tgt := 21) C (r32_c (lo := 0) (hi := 1) ri1.1 ri1.2 (by decide) (by decide)) dX7_present_14 (by decide) (fun c1 => ?_) (fun c1 => ?_)
    · refine c_aload_n (j := 0) (x := ob1) C dX7_present_21 rfl ?_
      exact c_aret (x := some ob1) C dX7_present_22 rfl (Or.inl ⟨_, rfl⟩) (by decide) (rom0 hph hph (by decide)) ⟨(some ob1), rfl, rfl, rfl, rfl, rfl, rfl, (fun _ q => by cases q; exact tob1), (Or.inl ⟨_, rfl, gf1, by omega⟩)⟩
    · refine c_null C dX7_present_17 ?_
      refine c_goto (tgt := 22) C dX7_present_18 (by decide) ?_
      exact c_aret (x := none) C dX7_present_22 rfl (Or.inl ⟨_, rfl⟩) (by decide) (rom0 hph hph (by decide)) ⟨none, rfl, rfl, rfl, rfl, rfl, rfl, (fun _ q => by cases q), (Or.inr ⟨rfl, Or.inr ⟨_, gf1, by omega⟩⟩)⟩
set_option maxHeartbeats 4000000 in
set_option maxRecDepth 100000 in
theorem G_lose {l : Launch} {G : GT} {mi : Nat} {sk : Nat → Nat} {L : List Nat} {cl ln : Nat → Nat} {iv : Nat → Nat → Int} {rv : Nat → Nat → Option Nat}  {a0 : Nat} {i : Int} (hW : WT (g0 G) sk L cl ln iv rv) (hS : SKL sk L cl) (t_a0 : ty L cl a0 1) (h_i : -2147483648 ≤ i ∧ i ≤ 2147483647)  : Mc l G mi (Phi (g0 G) sk) PHM yX11_lose cX11_lose 3 (some .int) 1 [.ref a0, .int (iI i)] L cl ln iv rv 0 (fun v L2 cl2 ln2 iv2 rv2 => ∃ f : Int, v = some (.int (iI f)) ∧ L = L2 ∧ cl = cl2 ∧ ln = ln2 ∧ rv = rv2 ∧ fT [1, 19] L cl iv rv iv2 rv2 ∧ WT (g0 G) sk L2 cl2 ln2 iv2 rv2 ∧ (-2147483648 ≤ f ∧ f ≤ 2147483647) ∧ (True) ∧ iv2 a0 11 = iv a0 11 ∧ iv2 a0 12 = iv a0 12 ∧ iv2 a0 13 = iv a0 13 ∧ iv2 a0 14 = iv a0 14 ∧ iv2 a0 15 = iv a0 15 ∧ iv2 a0 16 = iv a0 16 ∧ (TCH iv rv iv2 a0 (fun E E2 => LOSX E i f E2))) := by
  refine Mc.mk (by decide) (Nat.le_of_ble_eq_true rfl) ?_
  intro p e s m args below meth c A C hM
  refine hv3 (Phi.le hW hS) (show XT L cl ln L cl ln from XT.refl) (show fT [1, 19] L cl iv rv iv rv from fT.refl) (fun hph hX0 hF0 => ?_)
  obtain ⟨sA, hsA, tsA⟩ := hW.ref t_a0 9 rfl rfl rfl
  have ri1 : 0 ≤ iv sA 1 ∧ iv sA 1 ≤ 200 := hW.int tsA 1
  refine c_aload_n (j := 0) (x := a0) C dX11_lose_0 rfl ?_
  refine c_getr (k := 9) C ck_12 dX11_lose_1 w2_53 (by decide) t_a0 rfl rfl (by decide) rfl hsA ?_
  refine c_st (st2 := [.ref sA]) rfl ?_
  refine c_iload_n (j := 1) C dX11_lose_4 rfl ?_
  refine d_callV (As := [.int (iI i)]) (rest := []) C hM (G_sat (a0 := sA) (i := i) hW hS tsA (by omega) ) dX11_lose_5 kV_X11_308 rfl tsA rfl rfl (by decide) ck_8 rfl (Nat.le_of_ble_eq_true rfl) ⟨(Nat.le_of_ble_eq_true rfl), (Nat.le_of_ble_eq_true rfl)⟩ hph hph (show 0 + 0 = 0 from rfl) (by decide) (fun rh1 Lh1 clh1 lnh1 ivh1 rvh1 h1 => ?_)
  obtain ⟨f1, rfl, rfl, rfl, rfl, rfl, rfl, rgf1, exf1⟩ := h1
  refine c_st (st2 := [(va_rf f1)]) rfl ?_
  have gf1 : SATX iv rv sA i f1 := exf1
  refine c_astorer_n (r := f1) (lv2 := [(2, (va_rf f1)), (0, .ref a0), (1, .int (iI i))]) C dX11_lose_8 (by decide) rfl ?_
  refine c_aloadr_n (j := 0) (r := f1) C dX11_lose_9 rfl ?_
  refine c_ifnonnull (r := f1) (tgt := 19) C dX11_lose_10 (by decide) (fun ob1 oq1 => ?_) (fun oq1 => ?_)
  · subst oq1
    have tob1 := rgf1 ob1 rfl
    refine c_lv (lv2 := [(2, .ref ob1), (0, .ref a0), (1, .int (iI i))]) [0, 1, 2] rfl ?_
    refine c_st (st2 := []) rfl ?_
    refine c_aload_n (j := 0) (x := ob1) C dX11_lose_19 rfl ?_
    refine c_iconst C dX11_lose_20 ?_
    refine c_put (z := 1) (k := 2) C ck_3 dX11_lose_21 w4_56 (by decide) rfl tob1 rfl rfl (by decide) rfl (by decide) (by decide) (fun iv1 pq1 => ?_)
    refine hv3 (hW.puti pq1 tob1 ⟨by decide, by decide⟩ rfl) (hF0.puti hX0 pq1 tob1 rfl) (show iv1 sA 1 = iv sA 1 from by rw [pq1]; exact up2_k (ne_ty tsA tob1 (by decide))) (fun W2 F1 ie1 => ?_)
    have ri2 : 0 ≤ iv1 sA 1 ∧ iv1 sA 1 ≤ 200 := W2.int tsA 1
    refine c_aload_n (j := 1) (x := a0) C dX11_lose_24 rfl ?_
    refine c_iconst C dX11_lose_25 ?_
    refine d_callV (As := [.int (iI 1)]) (rest := []) C hM (C_done (a0 := a0) (x := 1) W2 hS t_a0 ⟨by decide, by decide⟩ ) dX11_lose_26 kV_X11_109 rfl t_a0 rfl rfl (by decide) ck_12 rfl (Nat.le_of_ble_eq_true rfl) ⟨(Nat.le_of_ble_eq_true rfl), (Nat.le_of_ble_eq_true rfl)⟩ hph hph (show 0 + 0 = 0 from rfl) (by decide) (fun rh2 Lh2 clh2 lnh2 ivh2 rvh2 h2 => ?_)
    obtain ⟨f2, rfl, rfl, rfl, rfl, rfl, fl2, W3, rgf2, exf2, kp11f2, kp12f2, kp13f2, kp14f2, kp15f2, kp16f2⟩ := h2
    refine hv13 (show 1 ≤ iv1 a0 11 ∧ iv1 a0 11 ≤ 100 from W2.int t_a0 11) (show iv1 a0 11 = iv a0 11 from by rw [pq1]; exact up2_k (ne_ty t_a0 tob1 (by decide))) (show 1 ≤ iv1 a0 12 ∧ iv1 a0 12 ≤ 50 from W2.int t_a0 12) (show iv1 a0 12 = iv a0 12 from by rw [pq1]; exact up2_k (ne_ty t_a0 tob1 (by decide))) (show (-2147483648) ≤ iv1 a0 13 ∧ iv1 a0 13 ≤ 2147483647 from W2.int t_a0 13) (show iv1 a0 13 = iv a0 13 from by rw [pq1]; exact up2_k (ne_ty t_a0 tob1 (by decide))) (show (-2147483648) ≤ iv1 a0 14 ∧ iv1 a0 14 ≤ 2147483647 from W2.int t_a0 14) (show iv1 a0 14 = iv a0 14 from by rw [pq1]; exact up2_k (ne_ty t_a0 tob1 (by decide))) (show (-2147483648) ≤ iv1 a0 15 ∧ iv1 a0 15 ≤ 2147483647 from W2.int t_a0 15) (show iv1 a0 15 = iv a0 15 from by rw [pq1]; exact up2_k (ne_ty t_a0 tob1 (by decide))) (show (-2147483648) ≤ iv1 a0 16 ∧ iv1 a0 16 ≤ 2147483647 from W2.int t_a0 16) (show iv1 a0 16 = iv a0 16 from by rw [pq1]; exact up2_k (ne_ty t_a0 tob1 (by decide))) (F1.call hX0 fl2 rfl) (fun ri3 ie2 ri4 ie3 ri5 ie4 ri6 ie5 ri7 ie6 ri8 ie7 F2 => ?_)
    refine c_st (st2 := [.int (iI f2)]) rfl ?_
    refine hv15 (show ivh2 a0 11 = iv1 a0 11 from kp11f2) (show ivh2 a0 12 = iv1 a0 12 from kp12f2) (show ivh2 a0 13 = iv1 a0 13 from kp13f2) (show ivh2 a0 14 = iv1 a0 14 from kp14f2) (show ivh2 a0 15 = iv1 a0 15 from kp15f2) (show ivh2 a0 16 = iv1 a0 16 from kp16f2) (show f2 = (1 : Int) from exf2) (show 1 ≤ ivh2 a0 11 ∧ ivh2 a0 11 ≤ 100 from W3.int t_a0 11) (show 1 ≤ ivh2 a0 12 ∧ ivh2 a0 12 ≤ 50 from W3.int t_a0 12) (show (-2147483648) ≤ ivh2 a0 13 ∧ ivh2 a0 13 ≤ 2147483647 from W3.int t_a0 13) (show (-2147483648) ≤ ivh2 a0 14 ∧ ivh2 a0 14 ≤ 2147483647 from W3.int t_a0 14) (show (-2147483648) ≤ ivh2 a0 15 ∧ ivh2 a0 15 ≤ 2147483647 from W3.int t_a0 15) (show (-2147483648) ≤ ivh2 a0 16 ∧ ivh2 a0 16 ≤ 2147483647 from W3.int t_a0 16) (show 0 ≤ ivh2 sA 1 ∧ ivh2 sA 1 ≤ 200 from W3.int tsA 1) (show ivh2 sA 1 = iv1 sA 1 from fl2.i tsA rfl 1) (fun gk11f2 gk12f2 gk13f2 gk14f2 gk15f2 gk16f2 gf2 ri9 ri10 ri11 ri12 ri13 ri14 ri15 ie14 => ?_)
    exact c_iret C dX11_lose_29 rfl (by decide) (rom0 hph hph (by decide)) ⟨f2, rfl, rfl, rfl, rfl, rfl, F2, W3, ⟨by omega, by omega⟩, trivial, (gk11f2.trans ie2), (gk12f2.trans ie3), (gk13f2.trans ie4), (gk14f2.trans ie5), (gk15f2.trans ie6), (gk16f2.trans ie7), (TCH.row hsA hW tsA gf1 (LFR.refl.self tob1 pq1) (by omega) W2 fl2 rfl rfl rfl rfl (fun E hE => LSP.ok gf1 pq1 (by omega) hE))⟩
  · subst oq1
    refine c_lv (lv2 := [(2, .null), (0, .ref a0), (1, .int (iI i))]) [0, 1, 2] rfl ?_
    refine c_st (st2 := []) rfl ?_
    refine c_aload_n (j := 1) (x := a0) C dX11_lose_13 rfl ?_
    refine c_iconst C dX11_lose_14 ?_
    refine d_callV (As := [.int (iI 2)]) (rest := []) C hM (C_refuse (a0 := a0) (x := 2) hW hS t_a0 ⟨by decide, by decide⟩ ) dX11_lose_15 kV_X11_102 rfl t_a0 rfl rfl (by decide) ck_12 rfl (Nat.le_of_ble_eq_true rfl) ⟨(Nat.le_of_ble_eq_true rfl), (Nat.le_of_ble_eq_true rfl)⟩ hph hph (show 0 + 0 = 0 from rfl) (by decide) (fun rh3 Lh3 clh3 lnh3 ivh3 rvh3 h3 => ?_)
    obtain ⟨f3, rfl, rfl, rfl, rfl, rfl, fl3, W4, rgf3, exf3, kp11f3, kp12f3, kp13f3, kp14f3, kp15f3, kp16f3⟩ := h3
    refine hv7 (show 1 ≤ iv a0 11 ∧ iv a0 11 ≤ 100 from hW.int t_a0 11) (show 1 ≤ iv a0 12 ∧ iv a0 12 ≤ 50 from hW.int t_a0 12) (show (-2147483648) ≤ iv a0 13 ∧ iv a0 13 ≤ 2147483647 from hW.int t_a0 13) (show (-2147483648) ≤ iv a0 14 ∧ iv a0 14 ≤ 2147483647 from hW.int t_a0 14) (show (-2147483648) ≤ iv a0 15 ∧ iv a0 15 ≤ 2147483647 from hW.int t_a0 15) (show (-2147483648) ≤ iv a0 16 ∧ iv a0 16 ≤ 2147483647 from hW.int t_a0 16) (hF0.call hX0 fl3 rfl) (fun ri16 ri17 ri18 ri19 ri20 ri21 F3 => ?_)
    refine c_st (st2 := [.int (iI f3)]) rfl ?_
    refine hv13 (show ivh3 a0 11 = iv a0 11 from kp11f3) (show ivh3 a0 12 = iv a0 12 from kp12f3) (show ivh3 a0 13 = iv a0 13 from kp13f3) (show ivh3 a0 14 = iv a0 14 from kp14f3) (show ivh3 a0 15 = iv a0 15 from kp15f3) (show ivh3 a0 16 = iv a0 16 from kp16f3) (show f3 = -1 from exf3) (show 1 ≤ ivh3 a0 11 ∧ ivh3 a0 11 ≤ 100 from W4.int t_a0 11) (show 1 ≤ ivh3 a0 12 ∧ ivh3 a0 12 ≤ 50 from W4.int t_a0 12) (show (-2147483648) ≤ ivh3 a0 13 ∧ ivh3 a0 13 ≤ 2147483647 from W4.int t_a0 13) (show (-2147483648) ≤ ivh3 a0 14 ∧ ivh3 a0 14 ≤ 2147483647 from W4.int t_a0 14) (show (-2147483648) ≤ ivh3 a0 15 ∧ ivh3 a0 15 ≤ 2147483647 from W4.int t_a0 15) (show (-2147483648) ≤ ivh3 a0 16 ∧ ivh3 a0 16 ≤ 2147483647 from W4.int t_a0 16) (fun gk11f3 gk12f3 gk13f3 gk14f3 gk15f3 gk16f3 gf3 ri22 ri23 ri24 ri25 ri26 ri27 => ?_)
    exact c_iret C dX11_lose_18 rfl (by decide) (rom0 hph hph (by decide)) ⟨f3, rfl, rfl, rfl, rfl, rfl, F3, W4, ⟨by omega, by omega⟩, trivial, gk11f3, gk12f3, gk13f3, gk14f3, gk15f3, gk16f3, (TCH.same hsA hW tsA fl3 rfl rfl rfl rfl (fun E hE => LSP.no gf1 (by omega) hE))⟩
set_option maxHeartbeats 4000000 in
set_option maxRecDepth 100000 in
theorem G_resize {l : Launch} {G : GT} {mi : Nat} {sk : Nat → Nat} {L : List Nat} {cl ln : Nat → Nat} {iv : Nat → Nat → Int} {rv : Nat → Nat → Option Nat}  {a0 : Nat} {n : Int} (hW : WT (g0 G) sk L cl ln iv rv) (hS : SKL sk L cl) (t_a0 : ty L cl a0 19) (h_n : -2147483648 ≤ n ∧ n ≤ 2147483647) (hn : 0 ≤ n ∧ n ≤ 200) : Mc l G mi (Phi (g0 G) sk) PHM yX2_resize cX2_resize 3 none 1 [.ref a0, .int (iI n)] L cl ln iv rv 0 (fun v L2 cl2 ln2 iv2 rv2 => v = none ∧ L = L2 ∧ cl = cl2 ∧ ln = ln2 ∧ rv = rv2 ∧ fT [19, 64] L cl iv rv iv2 rv2 ∧ WT (g0 G) sk L2 cl2 ln2 iv2 rv2 ∧ ((LFR L cl iv rv iv2 a0 ∧ iv2 a0 2 = iv a0 2) ∧ RSK iv rv iv2 a0 n)) := by
  refine Mc.mk (by decide) (Nat.le_of_ble_eq_true rfl) ?_
  intro p e s m args below meth c A C hM
  refine hv5 (Phi.le hW hS) (show XT L cl ln L cl ln from XT.refl) (show fT [19, 64] L cl iv rv iv rv from fT.refl) (show 0 ≤ iv a0 1 ∧ iv a0 1 ≤ 200 from hW.int t_a0 1) (show 0 ≤ iv a0 2 ∧ iv a0 2 ≤ 1 from hW.int t_a0 2) (fun hph hX0 hF0 ri1 ri2 => ?_)
  refine c_aload_n (j := 0) (x := a0) C dX2_resize_0 rfl ?_
  refine c_aload_n (j := 0) (x := a0) C dX2_resize_1 rfl ?_
  refine c_get (k := 1) C ck_3 dX2_resize_2 w4_49 (by decide) t_a0 rfl rfl (by decide) rfl ?_
  refine c_iload_n (j := 1) C dX2_resize_5 rfl ?_
  obtain ⟨mn1, hmn1, emn1⟩ := mmin_c (x := iv a0 1) (y := n) (r32_c (lo := 0) (hi := 200) ri1.1 ri1.2 (by decide) (by decide)) ⟨by omega, by omega⟩
  refine c_mmin (w := iI mn1) C dX2_resize_6 w4_219 w2_129 w1_14 w2_130 (by decide) (rom0 hph hph (by decide)) (Nat.le_of_ble_eq_true rfl) emn1 ?_
  refine c_put (z := mn1) (k := 1) C ck_3 dX2_resize_9 w4_49 (by decide) rfl t_a0 rfl rfl (by decide) rfl (by rfl) (by rfl) (fun iv1 pq1 => ?_)
  refine hv2 (hW.puti pq1 t_a0 (show 0 ≤ mn1 ∧ mn1 ≤ 200 by omega) rfl) (hF0.puti hX0 pq1 t_a0 rfl) (fun W1 F1 => ?_)
  refine c_aload_n (j := 0) (x := a0) C dX2_resize_12 rfl ?_
  refine hv2 (show 0 ≤ iv1 a0 1 ∧ iv1 a0 1 ≤ 200 from W1.int t_a0 1) (show iv1 a0 1 = mn1 from by rw [pq1]; exact up2_s) (fun ri3 ie1 => ?_)
  refine c_get (k := 1) C ck_3 dX2_resize_13 w4_49 (by decide) t_a0 rfl rfl (by decide) rfl ?_
  refine c_istore_n (lv2 := [(2, .int (iI (iv1 a0 1))), (0, .ref a0), (1, .int (iI n))]) C dX2_resize_16 (by decide) rfl ?_
  have Lp1 : ∀ (nn : Nat) (k : Int) (ivb1 : Nat → Nat → Int) , 201 - k < (nn : Int) → WT (g0 G) sk L cl ln ivb1 rv → fT [19, 64] L cl iv rv ivb1 rv → (0 ≤ k ∧ k ≤ 200) → (k ≤ n ∧ (iv a0 1 ≤ k ∨ k = n)) → (LFR L cl iv rv ivb1 a0) → (ivb1 a0 2 = iv a0 2) → (RSK iv rv ivb1 a0 k) → cw p l e 1 ((PHM) + 0 - ((Phi (g0 G) sk) ln rv)) s m args below meth c G A 3 (MQ below (Qu G A (Qp G (Phi (g0 G) sk) ((Phi (g0 G) sk) ln rv) 0 (fun v L2 cl2 ln2 iv2 rv2 => v = none ∧ L = L2 ∧ cl = cl2 ∧ ln = ln2 ∧ rv = rv2 ∧ fT [19, 64] L cl iv rv iv2 rv2 ∧ WT (g0 G) sk L2 cl2 ln2 iv2 rv2 ∧ ((LFR L cl iv rv iv2 a0 ∧ iv2 a0 2 = iv a0 2) ∧ RSK iv rv iv2 a0 n)))) args s (((PHM) + 0 - ((Phi (g0 G) sk) ln rv)) / 16) ((PHM) + 0 - ((Phi (g0 G) sk) ln rv)) A) (Phi (g0 G) sk) ((Phi (g0 G) sk) ln rv) L cl ln ivb1 rv 0 17 [(2, .int (iI k)), (0, .ref a0), (1, .int (iI n))] [] := by
    intro nn
    induction nn with
    | zero =>
      intro  k ivb1 hm Wb1 Fb1  hk hkn hLF h2e hRS
      exact absurd hm (by omega)
    | succ nn ih1 =>
      intro  k ivb1 hm Wb1 Fb1  hk hkn hLF h2e hRS
      refine c_iload_n (j := 0) C dX2_resize_17 rfl ?_
      refine c_iload_n (j := 2) C dX2_resize_18 rfl ?_
      refine c_icmp_ge (tgt := 33) C (r32_c (lo := 0) (hi := 200) hk.1 hk.2 (by decide) (by decide)) ⟨by omega, by omega⟩ dX2_resize_19 (by decide) (fun c1 => ?_) (fun c1 => ?_)
      · have ri4 : 0 ≤ ivb1 a0 1 ∧ ivb1 a0 1 ≤ 200 := Wb1.int t_a0 1
        have ri5 : 0 ≤ ivb1 a0 2 ∧ ivb1 a0 2 ≤ 1 := Wb1.int t_a0 2
        exact c_vret C dX2_resize_33 rfl (by decide) (rom0 hph hph (by decide)) ⟨rfl, rfl, rfl, rfl, rfl, Fb1, Wb1, ⟨⟨hLF, by omega⟩, (by rw [show n = k by omega]; exact hRS)⟩⟩
      · refine c_aload_n (j := 1) (x := a0) C dX2_resize_22 rfl ?_
        refine c_iconst C dX2_resize_23 ?_
        refine hv2 (show 0 ≤ ivb1 a0 1 ∧ ivb1 a0 1 ≤ 200 from Wb1.int t_a0 1) (show 0 ≤ ivb1 a0 2 ∧ ivb1 a0 2 ≤ 1 from Wb1.int t_a0 2) (fun ri6 ri7 => ?_)
        refine d_callV (As := [.int (iI 0)]) (rest := []) C hM (G_ladd (a0 := a0) (x := 0) Wb1 hS t_a0 ⟨by decide, by decide⟩ ) dX2_resize_24 kV_X2_23 rfl t_a0 rfl rfl (by decide) ck_3 rfl (Nat.le_of_ble_eq_true rfl) ⟨(Nat.le_of_ble_eq_true rfl), (Nat.le_of_ble_eq_true rfl)⟩ hph hph (show 0 + 0 = 0 from rfl) (by decide) (fun rh1 Lh1 clh1 lnh1 ivh1 rvh1 h1 => ?_)
        obtain ⟨rfl, rfl, rfl, rfl, rfl, fl1, W2, exf1⟩ := h1
        have F2 := Fb1.call hX0 fl1 rfl
        refine c_st (st2 := []) rfl ?_
        refine hv3 (show 0 ≤ ivh1 a0 1 ∧ ivh1 a0 1 ≤ 200 from W2.int t_a0 1) (show 0 ≤ ivh1 a0 2 ∧ ivh1 a0 2 ≤ 1 from W2.int t_a0 2) (show ((ivh1 a0 1 = ivb1 a0 1 ∧ ivb1 a0 1 = 200) ∨ ivh1 a0 1 = ivb1 a0 1 + 1) ∧ (LFR L cl ivb1 rv ivh1 a0 ∧ ivh1 a0 2 = ivb1 a0 2) ∧ LAX ivb1 rv ivh1 a0 (0 : Int) from exf1) (fun ri8 ri9 gf1 => ?_)
        refine c_iinc (z := k) (j := 0) (lv2 := [(2, .int (iI (k + 1))), (0, .ref a0), (1, .int (iI n))]) C dX2_resize_27 rfl (by decide) rfl ?_
        refine c_goto (tgt := 17) C dX2_resize_30 (by decide) ?_
        refine c_lv (lv2 := [(2, .int (iI (k + 1))), (0, .ref a0), (1, .int (iI n))]) [0, 1, 2] rfl ?_
        exact ih1  (k + 1) _ (by omega) W2 F2  (by omega) (by omega) (hLF.trans gf1.2.1.1) (gf1.2.1.2.trans h2e) (hRS.step gf1.2.2 ⟨by omega, by omega, by omega⟩)
  refine hv2 (show 0 ≤ iv1 a0 2 ∧ iv1 a0 2 ≤ 1 from W1.int t_a0 2) (show iv1 a0 2 = iv a0 2 from by rw [pq1]; exact up2_j (by decide)) (fun ri10 ie8 => ?_)
  refine c_lv (lv2 := [(2, .int (iI (iv1 a0 1))), (0, .ref a0), (1, .int (iI n))]) [0, 1, 2] rfl ?_
  exact Lp1 203 (iv1 a0 1) _ (by omega) W1 F1  (by omega) (by omega) (LFR.refl.self t_a0 pq1) ie8 (by rw [show iv1 a0 1 = mn1 by omega]; exact RSK.init pq1 ⟨by omega, by omega⟩ (fun cb hc => ne_ty (li64 hW t_a0 hc) t_a0 (by decide)))
set_option maxHeartbeats 4000000 in
set_option maxRecDepth 100000 in
theorem G_cut {l : Launch} {G : GT} {mi : Nat} {sk : Nat → Nat} {L : List Nat} {cl ln : Nat → Nat} {iv : Nat → Nat → Int} {rv : Nat → Nat → Option Nat}  {a0 : Nat} {i : Int} {n : Int} (hW : WT (g0 G) sk L cl ln iv rv) (hS : SKL sk L cl) (t_a0 : ty L cl a0 1) (h_i : -2147483648 ≤ i ∧ i ≤ 2147483647) (h_n : -2147483648 ≤ n ∧ n ≤ 2147483647)  : Mc l G mi (Phi (g0 G) sk) PHM yX11_cut cX11_cut 4 (some .int) 2 [.ref a0, .int (iI i), .int (iI n)] L cl ln iv rv 0 (fun v L2 cl2 ln2 iv2 rv2 => ∃ f : Int, v = some (.int (iI f)) ∧ L = L2 ∧ cl = cl2 ∧ ln = ln2 ∧ rv = rv2 ∧ fT [1, 19, 64] L cl iv rv iv2 rv2 ∧ WT (g0 G) sk L2 cl2 ln2 iv2 rv2 ∧ (-2147483648 ≤ f ∧ f ≤ 2147483647) ∧ (True) ∧ iv2 a0 11 = iv a0 11 ∧ iv2 a0 12 = iv a0 12 ∧ iv2 a0 13 = iv a0 13 ∧ iv2 a0 14 = iv a0 14 ∧ iv2 a0 15 = iv a0 15 ∧ iv2 a0 16 = iv a0 16 ∧ (TCH iv rv iv2 a0 (fun E E2 => CUTX E i n f E2))) := by
  refine Mc.mk (by decide) (Nat.le_of_ble_eq_true rfl) ?_
  intro p e s m args below meth c A C hM
  refine hv3 (Phi.le hW hS) (show XT L cl ln L cl ln from XT.refl) (show fT [1, 19, 64] L cl iv rv iv rv from fT.refl) (fun hph hX0 hF0 => ?_)
  obtain ⟨sA, hsA, tsA⟩ := hW.ref t_a0 9 rfl rfl rfl
  have ri1 : 0 ≤ iv sA 1 ∧ iv sA 1 ≤ 200 := hW.int tsA 1
  refine c_iload_n (j := 2) C dX11_cut_0 rfl ?_
  refine c_sipush (z := 200) C dX11_cut_1 (by decide) ?_
  refine c_icmp_le (tgt := 14) C ⟨by omega, by omega⟩ ⟨by decide, by decide⟩ dX11_cut_4 (by decide) (fun c1 => ?_) (fun c1 => ?_)
  · refine c_iload_n (j := 2) C dX11_cut_14 rfl ?_
    refine c_if_ge (tgt := 24) C ⟨by omega, by omega⟩ dX11_cut_15 (by decide) (fun c2 => ?_) (fun c2 => ?_)
    · refine c_aload_n (j := 0) (x := a0) C dX11_cut_24 rfl ?_
      refine c_getr (k := 9) C ck_12 dX11_cut_25 w2_53 (by decide) t_a0 rfl rfl (by decide) rfl hsA ?_
      refine c_st (st2 := [.ref sA]) rfl ?_
      refine c_iload_n (j := 1) C dX11_cut_28 rfl ?_
      refine d_callV (As := [.int (iI i)]) (rest := []) C hM (G_present (a0 := sA) (i := i) hW hS tsA (by omega) ) dX11_cut_29 kV_X11_288 rfl tsA rfl rfl (by decide) ck_8 rfl (Nat.le_of_ble_eq_true rfl) ⟨(Nat.le_of_ble_eq_true rfl), (Nat.le_of_ble_eq_true rfl)⟩ hph hph (show 0 + 0 = 0 from rfl) (by decide) (fun rh1 Lh1 clh1 lnh1 ivh1 rvh1 h1 => ?_)
      obtain ⟨f1, rfl, rfl, rfl, rfl, rfl, rfl, rgf1, exf1⟩ := h1
      refine c_st (st2 := [(va_rf f1)]) rfl ?_
      have gf1 : PRX iv rv sA i f1 := exf1
      refine c_astorer_n (r := f1) (lv2 := [(3, (va_rf f1)), (0, .ref a0), (1, .int (iI i)), (2, .int (iI n))]) C dX11_cut_32 (by decide) rfl ?_
      refine c_aloadr_n (j := 0) (r := f1) C dX11_cut_33 rfl ?_
      refine c_ifnonnull (r := f1) (tgt := 50) C dX11_cut_34 (by decide) (fun ob1 oq1 => ?_) (fun oq1 => ?_)
      · subst oq1
        have tob1 := rgf1 ob1 rfl
        refine c_lv (lv2 := [(3, .ref ob1), (0, .ref a0), (1, .int (iI i)), (2, .int (iI n))]) [0, 1, 2, 3] rfl ?_
        refine c_st (st2 := []) rfl ?_
        refine c_aload_n (j := 0) (x := ob1) C dX11_cut_50 rfl ?_
        refine c_iload_n (j := 3) C dX11_cut_51 rfl ?_
        have ri2 : 0 ≤ iv ob1 2 ∧ iv ob1 2 ≤ 1 := hW.int tob1 2
        refine d_callV (As := [.int (iI n)]) (rest := []) C hM (G_resize (a0 := ob1) (n := n) hW hS tob1 (by omega) (by show 0 ≤ n ∧ n ≤ 200; omega)) dX11_cut_52 kV_X11_305 rfl tob1 rfl rfl (by decide) ck_3 rfl (Nat.le_of_ble_eq_true rfl) ⟨(Nat.le_of_ble_eq_true rfl), (Nat.le_of_ble_eq_true rfl)⟩ hph hph (show 0 + 0 = 0 from rfl) (by decide) (fun rh2 Lh2 clh2 lnh2 ivh2 rvh2 h2 => ?_)
        obtain ⟨rfl, rfl, rfl, rfl, rfl, fl2, W2, exf2⟩ := h2
        have F1 := hF0.call hX0 fl2 rfl
        refine c_st (st2 := []) rfl ?_
        refine hv4 (show 0 ≤ ivh2 ob1 2 ∧ ivh2 ob1 2 ≤ 1 from W2.int tob1 2) (show (LFR L cl iv rv ivh2 ob1 ∧ ivh2 ob1 2 = iv ob1 2) ∧ RSK iv rv ivh2 ob1 n from exf2) (show 0 ≤ ivh2 sA 1 ∧ ivh2 sA 1 ≤ 200 from W2.int tsA 1) (show ivh2 sA 1 = iv sA 1 from fl2.i tsA rfl 1) (fun ri3 gf2 ri4 ie2 => ?_)
        refine c_aload_n (j := 1) (x := a0) C dX11_cut_55 rfl ?_
        refine c_iload_n (j := 3) C dX11_cut_56 rfl ?_
        refine d_callV (As := [.int (iI n)]) (rest := []) C hM (C_done (a0 := a0) (x := n) W2 hS t_a0 (by omega) ) dX11_cut_57 kV_X11_109 rfl t_a0 rfl rfl (by decide) ck_12 rfl (Nat.le_of_ble_eq_true rfl) ⟨(Nat.le_of_ble_eq_true rfl), (Nat.le_of_ble_eq_true rfl)⟩ hph hph (show 0 + 0 = 0 from rfl) (by decide) (fun rh3 Lh3 clh3 lnh3 ivh3 rvh3 h3 => ?_)
        obtain ⟨f3, rfl, rfl, rfl, rfl, rfl, fl3, W3, rgf3, exf3, kp11f3, kp12f3, kp13f3, kp14f3, kp15f3, kp16f3⟩ := h3
        refine hv13 (show 1 ≤ ivh2 a0 11 ∧ ivh2 a0 11 ≤ 100 from W2.int t_a0 11) (show ivh2 a0 11 = iv a0 11 from fl2.i t_a0 rfl 11) (show 1 ≤ ivh2 a0 12 ∧ ivh2 a0 12 ≤ 50 from W2.int t_a0 12) (show ivh2 a0 12 = iv a0 12 from fl2.i t_a0 rfl 12) (show (-2147483648) ≤ ivh2 a0 13 ∧ ivh2 a0 13 ≤ 2147483647 from W2.int t_a0 13) (show ivh2 a0 13 = iv a0 13 from fl2.i t_a0 rfl 13) (show (-2147483648) ≤ ivh2 a0 14 ∧ ivh2 a0 14 ≤ 2147483647 from W2.int t_a0 14) (show ivh2 a0 14 = iv a0 14 from fl2.i t_a0 rfl 14) (show (-2147483648) ≤ ivh2 a0 15 ∧ ivh2 a0 15 ≤ 2147483647 from W2.int t_a0 15) (show ivh2 a0 15 = iv a0 15 from fl2.i t_a0 rfl 15) (show (-2147483648) ≤ ivh2 a0 16 ∧ ivh2 a0 16 ≤ 2147483647 from W2.int t_a0 16) (show ivh2 a0 16 = iv a0 16 from fl2.i t_a0 rfl 16) (F1.call hX0 fl3 rfl) (fun ri5 ie3 ri6 ie4 ri7 ie5 ri8 ie6 ri9 ie7 ri10 ie8 F2 => ?_)
        refine c_st (st2 := [.int (iI f3)]) rfl ?_
        refine hv13 (show ivh3 a0 11 = ivh2 a0 11 from kp11f3) (show ivh3 a0 12 = ivh2 a0 12 from kp12f3) (show ivh3 a0 13 = ivh2 a0 13 from kp13f3) (show ivh3 a0 14 = ivh2 a0 14 from kp14f3) (show ivh3 a0 15 = ivh2 a0 15 from kp15f3) (show ivh3 a0 16 = ivh2 a0 16 from kp16f3) (show f3 = n from exf3) (show 1 ≤ ivh3 a0 11 ∧ ivh3 a0 11 ≤ 100 from W3.int t_a0 11) (show 1 ≤ ivh3 a0 12 ∧ ivh3 a0 12 ≤ 50 from W3.int t_a0 12) (show (-2147483648) ≤ ivh3 a0 13 ∧ ivh3 a0 13 ≤ 2147483647 from W3.int t_a0 13) (show (-2147483648) ≤ ivh3 a0 14 ∧ ivh3 a0 14 ≤ 2147483647 from W3.int t_a0 14) (show (-2147483648) ≤ ivh3 a0 15 ∧ ivh3 a0 15 ≤ 2147483647 from W3.int t_a0 15) (show (-2147483648) ≤ ivh3 a0 16 ∧ ivh3 a0 16 ≤ 2147483647 from W3.int t_a0 16) (fun gk11f3 gk12f3 gk13f3 gk14f3 gk15f3 gk16f3 gf3 ri11 ri12 ri13 ri14 ri15 ri16 => ?_)
        exact c_iret C dX11_cut_60 rfl (by decide) (rom0 hph hph (by decide)) ⟨f3, rfl, rfl, rfl, rfl, rfl, F2, W3, ⟨by omega, by omega⟩, trivial, (gk11f3.trans ie3), (gk12f3.trans ie4), (gk13f3.trans ie5), (gk14f3.trans ie6), (gk15f3.trans ie7), (gk16f3.trans ie8), (TCH.row hsA hW tsA (PRX.smt gf1).1 gf2.1.1 (by omega) W2 fl3 rfl rfl rfl rfl (fun E hE => CTP.ok gf1 ⟨by omega, by omega⟩ gf2.2 gf2.1.2 (by omega) hE))⟩
      · subst oq1
        refine c_lv (lv2 := [(3, .null), (0, .ref a0), (1, .int (iI i)), (2, .int (iI n))]) [0, 1, 2, 3] rfl ?_
        refine c_st (st2 := []) rfl ?_
        refine c_aload_n (j := 1) (x := a0) C dX11_cut_37 rfl ?_
        refine c_aload_n (j := 1) (x := a0) C dX11_cut_38 rfl ?_
        refine c_getr (k := 9) C ck_12 dX11_cut_39 w2_53 (by decide) t_a0 rfl rfl (by decide) rfl hsA ?_
        refine c_st (st2 := [.ref sA, .ref a0]) rfl ?_
        refine c_iload_n (j := 2) C dX11_cut_42 rfl ?_
        refine d_callV (As := [.int (iI i)]) (rest := [.ref a0]) C hM (C_whyNone (a0 := sA) (i := i) hW hS tsA (by omega) ) dX11_cut_43 kV_X11_292 rfl tsA rfl rfl (by decide) ck_8 rfl (Nat.le_of_ble_eq_true rfl) ⟨(Nat.le_of_ble_eq_true rfl), (Nat.le_of_ble_eq_true rfl)⟩ hph hph (show 0 + 0 = 0 from rfl) (by decide) (fun rh4 Lh4 clh4 lnh4 ivh4 rvh4 h4 => ?_)
        obtain ⟨f4, rfl, rfl, rfl, rfl, rfl, rfl, rgf4, exf4⟩ := h4
        refine c_st (st2 := [.int (iI f4), .ref a0]) rfl ?_
        have gf4 : f4 = 1 ∨ f4 = 2 := exf4
        refine d_callV (As := [.int (iI f4)]) (rest := []) C hM (C_refuse (a0 := a0) (x := f4) hW hS t_a0 (by omega) ) dX11_cut_46 kV_X11_102 rfl t_a0 rfl rfl (by decide) ck_12 rfl (Nat.le_of_ble_eq_true rfl) ⟨(Nat.le_of_ble_eq_true rfl), (Nat.le_of_ble_eq_true rfl)⟩ hph hph (show 0 + 0 = 0 from rfl) (by decide) (fun rh5 Lh5 clh5 lnh5 ivh5 rvh5 h5 => ?_)
        obtain ⟨f5, rfl, rfl, rfl, rfl, rfl, fl5, W5, rgf5, exf5, kp11f5, kp12f5, kp13f5, kp14f5, kp15f5, kp16f5⟩ := h5
        refine hv7 (show 1 ≤ iv a0 11 ∧ iv a0 11 ≤ 100 from hW.int t_a0 11) (show 1 ≤ iv a0 12 ∧ iv a0 12 ≤ 50 from hW.int t_a0 12) (show (-2147483648) ≤ iv a0 13 ∧ iv a0 13 ≤ 2147483647 from hW.int t_a0 13) (show (-2147483648) ≤ iv a0 14 ∧ iv a0 14 ≤ 2147483647 from hW.int t_a0 14) (show (-2147483648) ≤ iv a0 15 ∧ iv a0 15 ≤ 2147483647 from hW.int t_a0 15) (show (-2147483648) ≤ iv a0 16 ∧ iv a0 16 ≤ 2147483647 from hW.int t_a0 16) (hF0.call hX0 fl5 rfl) (fun ri17 ri18 ri19 ri20 ri21 ri22 F3 => ?_)
        refine c_st (st2 := [.int (iI f5)]) rfl ?_
        refine hv13 (show ivh5 a0 11 = iv a0 11 from kp11f5) (show ivh5 a0 12 = iv a0 12 from kp12f5) (show ivh5 a0 13 = iv a0 13 from kp13f5) (show ivh5 a0 14 = iv a0 14 from kp14f5) (show ivh5 a0 15 = iv a0 15 from kp15f5) (show ivh5 a0 16 = iv a0 16 from kp16f5) (show f5 = -1 from exf5) (show 1 ≤ ivh5 a0 11 ∧ ivh5 a0 11 ≤ 100 from W5.int t_a0 11) (show 1 ≤ ivh5 a0 12 ∧ ivh5 a0 12 ≤ 50 from W5.int t_a0 12) (show (-2147483648) ≤ ivh5 a0 13 ∧ ivh5 a0 13 ≤ 2147483647 from W5.int t_a0 13) (show (-2147483648) ≤ ivh5 a0 14 ∧ ivh5 a0 14 ≤ 2147483647 from W5.int t_a0 14) (show (-2147483648) ≤ ivh5 a0 15 ∧ ivh5 a0 15 ≤ 2147483647 from W5.int t_a0 15) (show (-2147483648) ≤ ivh5 a0 16 ∧ ivh5 a0 16 ≤ 2147483647 from W5.int t_a0 16) (fun gk11f5 gk12f5 gk13f5 gk14f5 gk15f5 gk16f5 gf5 ri23 ri24 ri25 ri26 ri27 ri28 => ?_)
        exact c_iret C dX11_cut_49 rfl (by decide) (rom0 hph hph (by decide)) ⟨f5, rfl, rfl, rfl, rfl, rfl, F3, W5, ⟨by omega, by omega⟩, trivial, gk11f5, gk12f5, gk13f5, gk14f5, gk15f5, gk16f5, (TCH.same hsA hW tsA fl5 rfl rfl rfl rfl (fun E hE => CTP.no (Or.inr gf1) (by omega) hE))⟩
    · refine c_aload_n (j := 0) (x := a0) C dX11_cut_18 rfl ?_
      refine c_iconst C dX11_cut_19 ?_
      refine d_callV (As := [.int (iI 5)]) (rest := []) C hM (C_refuse (a0 := a0) (x := 5) hW hS t_a0 ⟨by decide, by decide⟩ ) dX11_cut_20 kV_X11_102 rfl t_a0 rfl rfl (by decide) ck_12 rfl (Nat.le_of_ble_eq_true rfl) ⟨(Nat.le_of_ble_eq_true rfl), (Nat.le_of_ble_eq_true rfl)⟩ hph hph (show 0 + 0 = 0 from rfl) (by decide) (fun rh6 Lh6 clh6 lnh6 ivh6 rvh6 h6 => ?_)
      obtain ⟨f6, rfl, rfl, rfl, rfl, rfl, fl6, W6, rgf6, exf6, kp11f6, kp12f6, kp13f6, kp14f6, kp15f6, kp16f6⟩ := h6
      refine hv7 (show 1 ≤ iv a0 11 ∧ iv a0 11 ≤ 100 from hW.int t_a0 11) (show 1 ≤ iv a0 12 ∧ iv a0 12 ≤ 50 from hW.int t_a0 12) (show (-2147483648) ≤ iv a0 13 ∧ iv a0 13 ≤ 2147483647 from hW.int t_a0 13) (show (-2147483648) ≤ iv a0 14 ∧ iv a0 14 ≤ 2147483647 from hW.int t_a0 14) (show (-2147483648) ≤ iv a0 15 ∧ iv a0 15 ≤ 2147483647 from hW.int t_a0 15) (show (-2147483648) ≤ iv a0 16 ∧ iv a0 16 ≤ 2147483647 from hW.int t_a0 16) (hF0.call hX0 fl6 rfl) (fun ri29 ri30 ri31 ri32 ri33 ri34 F4 => ?_)
      refine c_st (st2 := [.int (iI f6)]) rfl ?_
      refine hv13 (show ivh6 a0 11 = iv a0 11 from kp11f6) (show ivh6 a0 12 = iv a0 12 from kp12f6) (show ivh6 a0 13 = iv a0 13 from kp13f6) (show ivh6 a0 14 = iv a0 14 from kp14f6) (show ivh6 a0 15 = iv a0 15 from kp15f6) (show ivh6 a0 16 = iv a0 16 from kp16f6) (show f6 = -1 from exf6) (show 1 ≤ ivh6 a0 11 ∧ ivh6 a0 11 ≤ 100 from W6.int t_a0 11) (show 1 ≤ ivh6 a0 12 ∧ ivh6 a0 12 ≤ 50 from W6.int t_a0 12) (show (-2147483648) ≤ ivh6 a0 13 ∧ ivh6 a0 13 ≤ 2147483647 from W6.int t_a0 13) (show (-2147483648) ≤ ivh6 a0 14 ∧ ivh6 a0 14 ≤ 2147483647 from W6.int t_a0 14) (show (-2147483648) ≤ ivh6 a0 15 ∧ ivh6 a0 15 ≤ 2147483647 from W6.int t_a0 15) (show (-2147483648) ≤ ivh6 a0 16 ∧ ivh6 a0 16 ≤ 2147483647 from W6.int t_a0 16) (fun gk11f6 gk12f6 gk13f6 gk14f6 gk15f6 gk16f6 gf6 ri35 ri36 ri37 ri38 ri39 ri40 => ?_)
      exact c_iret C dX11_cut_23 rfl (by decide) (rom0 hph hph (by decide)) ⟨f6, rfl, rfl, rfl, rfl, rfl, F4, W6, ⟨by omega, by omega⟩, trivial, gk11f6, gk12f6, gk13f6, gk14f6, gk15f6, gk16f6, (TCH.same hsA hW tsA fl6 rfl rfl rfl rfl (fun E hE => CTP.no (Or.inl (by omega)) (by omega) hE))⟩
  · refine c_aload_n (j := 0) (x := a0) C dX11_cut_7 rfl ?_
    refine c_bipush (z := 6) C dX11_cut_8 (by decide) ?_
    refine d_callV (As := [.int (iI 6)]) (rest := []) C hM (C_refuse (a0 := a0) (x := 6) hW hS t_a0 ⟨by decide, by decide⟩ ) dX11_cut_10 kV_X11_102 rfl t_a0 rfl rfl (by decide) ck_12 rfl (Nat.le_of_ble_eq_true rfl) ⟨(Nat.le_of_ble_eq_true rfl), (Nat.le_of_ble_eq_true rfl)⟩ hph hph (show 0 + 0 = 0 from rfl) (by decide) (fun rh7 Lh7 clh7 lnh7 ivh7 rvh7 h7 => ?_)
    obtain ⟨f7, rfl, rfl, rfl, rfl, rfl, fl7, W7, rgf7, exf7, kp11f7, kp12f7, kp13f7, kp14f7, kp15f7, kp16f7⟩ := h7
    refine hv7 (show 1 ≤ iv a0 11 ∧ iv a0 11 ≤ 100 from hW.int t_a0 11) (show 1 ≤ iv a0 12 ∧ iv a0 12 ≤ 50 from hW.int t_a0 12) (show (-2147483648) ≤ iv a0 13 ∧ iv a0 13 ≤ 2147483647 from hW.int t_a0 13) (show (-2147483648) ≤ iv a0 14 ∧ iv a0 14 ≤ 2147483647 from hW.int t_a0 14) (show (-2147483648) ≤ iv a0 15 ∧ iv a0 15 ≤ 2147483647 from hW.int t_a0 15) (show (-2147483648) ≤ iv a0 16 ∧ iv a0 16 ≤ 2147483647 from hW.int t_a0 16) (hF0.call hX0 fl7 rfl) (fun ri41 ri42 ri43 ri44 ri45 ri46 F5 => ?_)
    refine c_st (st2 := [.int (iI f7)]) rfl ?_
    refine hv13 (show ivh7 a0 11 = iv a0 11 from kp11f7) (show ivh7 a0 12 = iv a0 12 from kp12f7) (show ivh7 a0 13 = iv a0 13 from kp13f7) (show ivh7 a0 14 = iv a0 14 from kp14f7) (show ivh7 a0 15 = iv a0 15 from kp15f7) (show ivh7 a0 16 = iv a0 16 from kp16f7) (show f7 = -1 from exf7) (show 1 ≤ ivh7 a0 11 ∧ ivh7 a0 11 ≤ 100 from W7.int t_a0 11) (show 1 ≤ ivh7 a0 12 ∧ ivh7 a0 12 ≤ 50 from W7.int t_a0 12) (show (-2147483648) ≤ ivh7 a0 13 ∧ ivh7 a0 13 ≤ 2147483647 from W7.int t_a0 13) (show (-2147483648) ≤ ivh7 a0 14 ∧ ivh7 a0 14 ≤ 2147483647 from W7.int t_a0 14) (show (-2147483648) ≤ ivh7 a0 15 ∧ ivh7 a0 15 ≤ 2147483647 from W7.int t_a0 15) (show (-2147483648) ≤ ivh7 a0 16 ∧ ivh7 a0 16 ≤ 2147483647 from W7.int t_a0 16) (fun gk11f7 gk12f7 gk13f7 gk14f7 gk15f7 gk16f7 gf7 ri47 ri48 ri49 ri50 ri51 ri52 => ?_)
    exact c_iret C dX11_cut_13 rfl (by decide) (rom0 hph hph (by decide)) ⟨f7, rfl, rfl, rfl, rfl, rfl, F5, W7, ⟨by omega, by omega⟩, trivial, gk11f7, gk12f7, gk13f7, gk14f7, gk15f7, gk16f7, (TCH.same hsA hW tsA fl7 rfl rfl rfl rfl (fun E hE => CTP.no (Or.inl (by omega)) (by omega) hE))⟩
set_option maxHeartbeats 4000000 in
set_option maxRecDepth 100000 in
theorem G_hasCells {l : Launch} {G : GT} {mi : Nat} {sk : Nat → Nat} {L : List Nat} {cl ln : Nat → Nat} {iv : Nat → Nat → Int} {rv : Nat → Nat → Option Nat}  {a0 : Nat} {i : Int} {n : Int} (hW : WT (g0 G) sk L cl ln iv rv) (hS : SKL sk L cl) (t_a0 : ty L cl a0 19) (h_i : -2147483648 ≤ i ∧ i ≤ 2147483647) (h_n : -2147483648 ≤ n ∧ n ≤ 2147483647)  : Mc l G mi (Phi (g0 G) sk) PHM yX2_hasCells cX2_hasCells 3 (some .boolean) 0 [.ref a0, .int (iI i), .int (iI n)] L cl ln iv rv 0 (fun v L2 cl2 ln2 iv2 rv2 => ∃ f : Int, v = some (.int (iI f)) ∧ L = L2 ∧ cl = cl2 ∧ ln = ln2 ∧ iv = iv2 ∧ rv = rv2 ∧ (f = 0 ∨ f = 1) ∧ ((f = 1 ∧ 0 ≤ n ∧ 0 ≤ i ∧ i + n ≤ iv a0 1) ∨ (f = 0 ∧ ¬ (0 ≤ n ∧ 0 ≤ i ∧ i + n ≤ iv a0 1)))) := by
  refine Mc.mk (by decide) (Nat.le_of_ble_eq_true rfl) ?_
  intro p e s m args below meth c A C hM
  refine hv3 (Phi.le hW hS) (show XT L cl ln L cl ln from XT.refl) (show fT [] L cl iv rv iv rv from fT.refl) (fun hph hX0 hF0 => ?_)
  refine c_iload_n (j := 2) C dX2_hasCells_0 rfl ?_
  refine c_if_lt (tgt := 30) C ⟨by omega, by omega⟩ dX2_hasCells_1 (by decide) (fun c1 => ?_) (fun c1 => ?_)
  · refine c_iconst C dX2_hasCells_30 ?_
    have ri1 : 0 ≤ iv a0 1 ∧ iv a0 1 ≤ 200 := hW.int t_a0 1
    exact c_zret C dX2_hasCells_31 rfl (Or.inl rfl) (by decide) (rom0 hph hph (by decide)) ⟨0, rfl, rfl, rfl, rfl, rfl, rfl, (Or.inl rfl), (by omega)⟩
  · refine c_iload_n (j := 1) C dX2_hasCells_4 rfl ?_
    refine c_if_lt (tgt := 30) C ⟨by omega, by omega⟩ dX2_hasCells_5 (by decide) (fun c2 => ?_) (fun c2 => ?_)
    · refine c_iconst C dX2_hasCells_30 ?_
      have ri2 : 0 ≤ iv a0 1 ∧ iv a0 1 ≤ 200 := hW.int t_a0 1
      exact c_zret C dX2_hasCells_31 rfl (Or.inl rfl) (by decide) (rom0 hph hph (by decide)) ⟨0, rfl, rfl, rfl, rfl, rfl, rfl, (Or.inl rfl), (by omega)⟩
    · refine c_iload_n (j := 1) C dX2_hasCells_8 rfl ?_
      refine c_aload_n (j := 0) (x := a0) C dX2_hasCells_9 rfl ?_
      have ri3 : 0 ≤ iv a0 1 ∧ iv a0 1 ≤ 200 := hW.int t_a0 1
      refine c_get (k := 1) C ck_3 dX2_hasCells_10 w4_49 (by decide) t_a0 rfl rfl (by decide) rfl ?_
      refine c_icmp_gt (tgt := 30) C ⟨by omega, by omega⟩ (r32_c (lo := 0) (hi := 200) ri3.1 ri3.2 (by decide) (by decide)) dX2_hasCells_13 (by decide) (fun c3 => ?_) (fun c3 => ?_)
      · refine c_iconst C dX2_hasCells_30 ?_
        exact c_zret C dX2_hasCells_31 rfl (Or.inl rfl) (by decide) (rom0 hph hph (by decide)) ⟨0, rfl, rfl, rfl, rfl, rfl, rfl, (Or.inl rfl), (by omega)⟩
      · refine c_iload_n (j := 2) C dX2_hasCells_16 rfl ?_
        refine c_aload_n (j := 0) (x := a0) C dX2_hasCells_17 rfl ?_
        refine c_get (k := 1) C ck_3 dX2_hasCells_18 w4_49 (by decide) t_a0 rfl rfl (by decide) rfl ?_
        refine c_iload_n (j := 1) C dX2_hasCells_21 rfl ?_
        refine c_isub C dX2_hasCells_22 ?_
        refine c_icmp_gt (tgt := 30) C ⟨by omega, by omega⟩ ⟨by omega, by omega⟩ dX2_hasCells_23 (by decide) (fun c4 => ?_) (fun c4 => ?_)
        · refine c_iconst C dX2_hasCells_30 ?_
          exact c_zret C dX2_hasCells_31 rfl (Or.inl rfl) (by decide) (rom0 hph hph (by decide)) ⟨0, rfl, rfl, rfl, rfl, rfl, rfl, (Or.inl rfl), (by omega)⟩
        · refine c_iconst C dX2_hasCells_26 ?_
          refine c_goto (tgt := 31) C dX2_hasCells_27 (by decide) ?_
          exact c_zret C dX2_hasCells_31 rfl (Or.inr rfl) (by decide) (rom0 hph hph (by decide)) ⟨1, rfl, rfl, rfl, rfl, rfl, rfl, (Or.inr rfl), (by omega)⟩
set_option maxHeartbeats 4000000 in
set_option maxRecDepth 100000 in
theorem G_copyRow {l : Launch} {G : GT} {mi : Nat} {sk : Nat → Nat} {L : List Nat} {cl ln : Nat → Nat} {iv : Nat → Nat → Int} {rv : Nat → Nat → Option Nat}  {a0 : Nat} {i : Int} {i2 : Int} {j : Int} {j2 : Int} {n : Int} (hW : WT (g0 G) sk L cl ln iv rv) (hS : SKL sk L cl) (t_a0 : ty L cl a0 1) (h_i : -2147483648 ≤ i ∧ i ≤ 2147483647) (h_i2 : -2147483648 ≤ i2 ∧ i2 ≤ 2147483647) (h_j : -2147483648 ≤ j ∧ j ≤ 2147483647) (h_j2 : -2147483648 ≤ j2 ∧ j2 ≤ 2147483647) (h_n : -2147483648 ≤ n ∧ n ≤ 2147483647)  : Mc l G mi (Phi (g0 G) sk) PHM yX11_copyRow cX11_copyRow 8 (some .int) 1 [.ref a0, .int (iI i), .int (iI i2), .int (iI j), .int (iI j2), .int (iI n)] L cl ln iv rv 0 (fun v L2 cl2 ln2 iv2 rv2 => ∃ f : Int, v = some (.int (iI f)) ∧ L = L2 ∧ cl = cl2 ∧ ln = ln2 ∧ rv = rv2 ∧ fT [1, 64] L cl iv rv iv2 rv2 ∧ WT (g0 G) sk L2 cl2 ln2 iv2 rv2 ∧ (-2147483648 ≤ f ∧ f ≤ 2147483647) ∧ (True) ∧ iv2 a0 11 = iv a0 11 ∧ iv2 a0 12 = iv a0 12 ∧ iv2 a0 13 = iv a0 13 ∧ iv2 a0 14 = iv a0 14 ∧ iv2 a0 15 = iv a0 15 ∧ iv2 a0 16 = iv a0 16 ∧ (TCH iv rv iv2 a0 (fun E E2 => CPRX E i i2 j j2 n f E2))) := by
  refine Mc.mk (by decide) (Nat.le_of_ble_eq_true rfl) ?_
  intro p e s m args below meth c A C hM
  refine hv3 (Phi.le hW hS) (show XT L cl ln L cl ln from XT.refl) (show fT [1, 64] L cl iv rv iv rv from fT.refl) (fun hph hX0 hF0 => ?_)
  obtain ⟨sA, hsA, tsA⟩ := hW.ref t_a0 9 rfl rfl rfl
  have ri1 : 0 ≤ iv sA 1 ∧ iv sA 1 ≤ 200 := hW.int tsA 1
  refine c_aload_n (j := 0) (x := a0) C dX11_copyRow_0 rfl ?_
  refine c_getr (k := 9) C ck_12 dX11_copyRow_1 w2_53 (by decide) t_a0 rfl rfl (by decide) rfl hsA ?_
  refine c_st (st2 := [.ref sA]) rfl ?_
  refine c_iload_n (j := 1) C dX11_copyRow_4 rfl ?_
  refine d_callV (As := [.int (iI i)]) (rest := []) C hM (G_sat (a0 := sA) (i := i) hW hS tsA (by omega) ) dX11_copyRow_5 kV_X11_308 rfl tsA rfl rfl (by decide) ck_8 rfl (Nat.le_of_ble_eq_true rfl) ⟨(Nat.le_of_ble_eq_true rfl), (Nat.le_of_ble_eq_true rfl)⟩ hph hph (show 0 + 0 = 0 from rfl) (by decide) (fun rh1 Lh1 clh1 lnh1 ivh1 rvh1 h1 => ?_)
  obtain ⟨f1, rfl, rfl, rfl, rfl, rfl, rfl, rgf1, exf1⟩ := h1
  refine c_st (st2 := [(va_rf f1)]) rfl ?_
  have gf1 : SATX iv rv sA i f1 := exf1
  refine c_astorer (r := f1) (lv2 := [(6, (va_rf f1)), (0, .ref a0), (1, .int (iI i)), (2, .int (iI i2)), (3, .int (iI j)), (4, .int (iI j2)), (5, .int (iI n))]) C dX11_copyRow_8 (by decide) rfl ?_
  refine c_aload_n (j := 1) (x := a0) C dX11_copyRow_10 rfl ?_
  refine c_getr (k := 9) C ck_12 dX11_copyRow_11 w2_53 (by decide) t_a0 rfl rfl (by decide) rfl hsA ?_
  refine c_st (st2 := [.ref sA]) rfl ?_
  refine c_iload_n (j := 4) C dX11_copyRow_14 rfl ?_
  refine d_callV (As := [.int (iI j)]) (rest := []) C hM (G_sat (a0 := sA) (i := j) hW hS tsA (by omega) ) dX11_copyRow_15 kV_X11_308 rfl tsA rfl rfl (by decide) ck_8 rfl (Nat.le_of_ble_eq_true rfl) ⟨(Nat.le_of_ble_eq_true rfl), (Nat.le_of_ble_eq_true rfl)⟩ hph hph (show 0 + 0 = 0 from rfl) (by decide) (fun rh2 Lh2 clh2 lnh2 ivh2 rvh2 h2 => ?_)
  obtain ⟨f2, rfl, rfl, rfl, rfl, rfl, rfl, rgf2, exf2⟩ := h2
  refine c_st (st2 := [(va_rf f2)]) rfl ?_
  have gf2 : SATX iv rv sA j f2 := exf2
  refine c_astorer (r := f2) (lv2 := [(7, (va_rf f2)), (6, (va_rf f1)), (0, .ref a0), (1, .int (iI i)), (2, .int (iI i2)), (3, .int (iI j)), (4, .int (iI j2)), (5, .int (iI n))]) C dX11_copyRow_18 (by decide) (by cases f1 <;> rfl) ?_
  refine c_aloadr (j := 1) (r := f1) C dX11_copyRow_20 rfl ?_
  refine c_ifnull (r := f1) (tgt := 30) C dX11_copyRow_22 (by decide) (fun oq1 => ?_) (fun ob1 oq1 => ?_)
  · subst oq1
    refine c_lv (lv2 := [(7, (va_rf f2)), (6, .null), (0, .ref a0), (1, .int (iI i)), (2, .int (iI i2)), (3, .int (iI j)), (4, .int (iI j2)), (5, .int (iI n))]) [0, 1, 2, 3, 4, 5, 6, 7] rfl ?_
    refine c_st (st2 := []) rfl ?_
    refine c_aload_n (j := 2) (x := a0) C dX11_copyRow_30 rfl ?_
    refine c_iconst C dX11_copyRow_31 ?_
    refine d_callV (As := [.int (iI 2)]) (rest := []) C hM (C_refuse (a0 := a0) (x := 2) hW hS t_a0 ⟨by decide, by decide⟩ ) dX11_copyRow_32 kV_X11_102 rfl t_a0 rfl rfl (by decide) ck_12 rfl (Nat.le_of_ble_eq_true rfl) ⟨(Nat.le_of_ble_eq_true rfl), (Nat.le_of_ble_eq_true rfl)⟩ hph hph (show 0 + 0 = 0 from rfl) (by decide) (fun rh3 Lh3 clh3 lnh3 ivh3 rvh3 h3 => ?_)
    obtain ⟨f3, rfl, rfl, rfl, rfl, rfl, fl3, W3, rgf3, exf3, kp11f3, kp12f3, kp13f3, kp14f3, kp15f3, kp16f3⟩ := h3
    refine hv7 (show 1 ≤ iv a0 11 ∧ iv a0 11 ≤ 100 from hW.int t_a0 11) (show 1 ≤ iv a0 12 ∧ iv a0 12 ≤ 50 from hW.int t_a0 12) (show (-2147483648) ≤ iv a0 13 ∧ iv a0 13 ≤ 2147483647 from hW.int t_a0 13) (show (-2147483648) ≤ iv a0 14 ∧ iv a0 14 ≤ 2147483647 from hW.int t_a0 14) (show (-2147483648) ≤ iv a0 15 ∧ iv a0 15 ≤ 2147483647 from hW.int t_a0 15) (show (-2147483648) ≤ iv a0 16 ∧ iv a0 16 ≤ 2147483647 from hW.int t_a0 16) (hF0.call hX0 fl3 rfl) (fun ri2 ri3 ri4 ri5 ri6 ri7 F1 => ?_)
    refine c_st (st2 := [.int (iI f3)]) rfl ?_
    refine hv13 (show ivh3 a0 11 = iv a0 11 from kp11f3) (show ivh3 a0 12 = iv a0 12 from kp12f3) (show ivh3 a0 13 = iv a0 13 from kp13f3) (show ivh3 a0 14 = iv a0 14 from kp14f3) (show ivh3 a0 15 = iv a0 15 from kp15f3) (show ivh3 a0 16 = iv a0 16 from kp16f3) (show f3 = -1 from exf3) (show 1 ≤ ivh3 a0 11 ∧ ivh3 a0 11 ≤ 100 from W3.int t_a0 11) (show 1 ≤ ivh3 a0 12 ∧ ivh3 a0 12 ≤ 50 from W3.int t_a0 12) (show (-2147483648) ≤ ivh3 a0 13 ∧ ivh3 a0 13 ≤ 2147483647 from W3.int t_a0 13) (show (-2147483648) ≤ ivh3 a0 14 ∧ ivh3 a0 14 ≤ 2147483647 from W3.int t_a0 14) (show (-2147483648) ≤ ivh3 a0 15 ∧ ivh3 a0 15 ≤ 2147483647 from W3.int t_a0 15) (show (-2147483648) ≤ ivh3 a0 16 ∧ ivh3 a0 16 ≤ 2147483647 from W3.int t_a0 16) (fun gk11f3 gk12f3 gk13f3 gk14f3 gk15f3 gk16f3 gf3 ri8 ri9 ri10 ri11 ri12 ri13 => ?_)
    exact c_iret C dX11_copyRow_35 rfl (by decide) (rom0 hph hph (by decide)) ⟨f3, rfl, rfl, rfl, rfl, rfl, F1, W3, ⟨by omega, by omega⟩, trivial, gk11f3, gk12f3, gk13f3, gk14f3, gk15f3, gk16f3, (TCH.same hsA hW tsA fl3 rfl rfl rfl rfl (fun E hE => CRP.no (Or.inl gf1) (by omega) hE))⟩
  · subst oq1
    have tob1 := rgf1 ob1 rfl
    refine c_lv (lv2 := [(7, (va_rf f2)), (6, .ref ob1), (0, .ref a0), (1, .int (iI i)), (2, .int (iI i2)), (3, .int (iI j)), (4, .int (iI j2)), (5, .int (iI n))]) [0, 1, 2, 3, 4, 5, 6, 7] rfl ?_
    refine c_st (st2 := []) rfl ?_
    refine c_aloadr (j := 0) (r := f2) C dX11_copyRow_25 rfl ?_
    refine c_ifnonnull (r := f2) (tgt := 36) C dX11_copyRow_27 (by decide) (fun ob2 oq2 => ?_) (fun oq2 => ?_)
    · subst oq2
      have tob2 := rgf2 ob2 rfl
      refine c_lv (lv2 := [(7, .ref ob2), (6, .ref ob1), (0, .ref a0), (1, .int (iI i)), (2, .int (iI i2)), (3, .int (iI j)), (4, .int (iI j2)), (5, .int (iI n))]) [0, 1, 2, 3, 4, 5, 6, 7] rfl ?_
      refine c_st (st2 := []) rfl ?_
      refine hv4 (show 0 ≤ iv ob1 1 ∧ iv ob1 1 ≤ 200 from hW.int tob1 1) (show 0 ≤ iv ob1 2 ∧ iv ob1 2 ≤ 1 from hW.int tob1 2) (show 0 ≤ iv ob2 1 ∧ iv ob2 1 ≤ 200 from hW.int tob2 1) (show 0 ≤ iv ob2 2 ∧ iv ob2 2 ≤ 1 from hW.int tob2 2) (fun ri14 ri15 ri16 ri17 => ?_)
      refine c_aload (j := 1) (x := ob1) C dX11_copyRow_36 rfl ?_
      refine c_get (k := 2) C ck_3 dX11_copyRow_38 w4_56 (by decide) tob1 rfl rfl (by decide) rfl ?_
      refine c_if_ne (tgt := 52) C (r32_c (lo := 0) (hi := 1) ri15.1 ri15.2 (by decide) (by decide)) dX11_copyRow_41 (by decide) (fun c1 => ?_) (fun c1 => ?_)
      · refine c_aload_n (j := 2) (x := a0) C dX11_copyRow_52 rfl ?_
        refine c_iconst C dX11_copyRow_53 ?_
        refine d_callV (As := [.int (iI 1)]) (rest := []) C hM (C_refuse (a0 := a0) (x := 1) hW hS t_a0 ⟨by decide, by decide⟩ ) dX11_copyRow_54 kV_X11_102 rfl t_a0 rfl rfl (by decide) ck_12 rfl (Nat.le_of_ble_eq_true rfl) ⟨(Nat.le_of_ble_eq_true rfl), (Nat.le_of_ble_eq_true rfl)⟩ hph hph (show 0 + 0 = 0 from rfl) (by decide) (fun rh4 Lh4 clh4 lnh4 ivh4 rvh4 h4 => ?_)
        obtain ⟨f4, rfl, rfl, rfl, rfl, rfl, fl4, W4, rgf4, exf4, kp11f4, kp12f4, kp13f4, kp14f4, kp15f4, kp16f4⟩ := h4
        refine hv7 (show 1 ≤ iv a0 11 ∧ iv a0 11 ≤ 100 from hW.int t_a0 11) (show 1 ≤ iv a0 12 ∧ iv a0 12 ≤ 50 from hW.int t_a0 12) (show (-2147483648) ≤ iv a0 13 ∧ iv a0 13 ≤ 2147483647 from hW.int t_a0 13) (show (-2147483648) ≤ iv a0 14 ∧ iv a0 14 ≤ 2147483647 from hW.int t_a0 14) (show (-2147483648) ≤ iv a0 15 ∧ iv a0 15 ≤ 2147483647 from hW.int t_a0 15) (show (-2147483648) ≤ iv a0 16 ∧ iv a0 16 ≤ 2147483647 from hW.int t_a0 16) (hF0.call hX0 fl4 rfl) (fun ri18 ri19 ri20 ri21 ri22 ri23 F2 => ?_)
        refine c_st (st2 := [.int (iI f4)]) rfl ?_
        refine hv13 (show ivh4 a0 11 = iv a0 11 from kp11f4) (show ivh4 a0 12 = iv a0 12 from kp12f4) (show ivh4 a0 13 = iv a0 13 from kp13f4) (show ivh4 a0 14 = iv a0 14 from kp14f4) (show ivh4 a0 15 = iv a0 15 from kp15f4) (show ivh4 a0 16 = iv a0 16 from kp16f4) (show f4 = -1 from exf4) (show 1 ≤ ivh4 a0 11 ∧ ivh4 a0 11 ≤ 100 from W4.int t_a0 11) (show 1 ≤ ivh4 a0 12 ∧ ivh4 a0 12 ≤ 50 from W4.int t_a0 12) (show (-2147483648) ≤ ivh4 a0 13 ∧ ivh4 a0 13 ≤ 2147483647 from W4.int t_a0 13) (show (-2147483648) ≤ ivh4 a0 14 ∧ ivh4 a0 14 ≤ 2147483647 from W4.int t_a0 14) (show (-2147483648) ≤ ivh4 a0 15 ∧ ivh4 a0 15 ≤ 2147483647 from W4.int t_a0 15) (show (-2147483648) ≤ ivh4 a0 16 ∧ ivh4 a0 16 ≤ 2147483647 from W4.int t_a0 16) (fun gk11f4 gk12f4 gk13f4 gk14f4 gk15f4 gk16f4 gf4 ri24 ri25 ri26 ri27 ri28 ri29 => ?_)
        exact c_iret C dX11_copyRow_57 rfl (by decide) (rom0 hph hph (by decide)) ⟨f4, rfl, rfl, rfl, rfl, rfl, F2, W4, ⟨by omega, by omega⟩, trivial, gk11f4, gk12f4, gk13f4, gk14f4, gk15f4, gk16f4, (TCH.same hsA hW tsA fl4 rfl rfl rfl rfl (fun E hE => CRP.lck gf1 gf2 (by omega) (by omega) hE))⟩
      · refine c_aload (j := 0) (x := ob2) C dX11_copyRow_44 rfl ?_
        refine c_get (k := 2) C ck_3 dX11_copyRow_46 w4_56 (by decide) tob2 rfl rfl (by decide) rfl ?_
        refine c_if_eq (tgt := 58) C (r32_c (lo := 0) (hi := 1) ri17.1 ri17.2 (by decide) (by decide)) dX11_copyRow_49 (by decide) (fun c2 => ?_) (fun c2 => ?_)
        · refine c_aload (j := 1) (x := ob1) C dX11_copyRow_58 rfl ?_
          refine c_iload_n (j := 4) C dX11_copyRow_60 rfl ?_
          refine c_iload (j := 7) C dX11_copyRow_61 rfl ?_
          refine d_callV (As := [.int (iI i2), .int (iI n)]) (rest := []) C hM (G_hasCells (a0 := ob1) (i := i2) (n := n) hW hS tob1 (by omega) (by omega) ) dX11_copyRow_63 kV_X11_313 rfl tob1 rfl rfl (by decide) ck_3 rfl (Nat.le_of_ble_eq_true rfl) ⟨(Nat.le_of_ble_eq_true rfl), (Nat.le_of_ble_eq_true rfl)⟩ hph hph (show 0 + 0 = 0 from rfl) (by decide) (fun rh5 Lh5 clh5 lnh5 ivh5 rvh5 h5 => ?_)
          obtain ⟨f5, rfl, rfl, rfl, rfl, rfl, rfl, rgf5, exf5⟩ := h5
          refine c_st (st2 := [.int (iI f5)]) rfl ?_
          have gf5 : (f5 = 1 ∧ 0 ≤ n ∧ 0 ≤ i2 ∧ i2 + n ≤ iv ob1 1) ∨ (f5 = 0 ∧ ¬ (0 ≤ n ∧ 0 ≤ i2 ∧ i2 + n ≤ iv ob1 1)) := exf5
          refine c_if_eq (tgt := 81) C (r32_qp gf5) dX11_copyRow_66 (by decide) (fun c3 => ?_) (fun c3 => ?_)
          · replace gf5 := (gf5.resolve_left (fun q => absurd (q.1.symm.trans c3) (by decide)))
            refine c_aload_n (j := 2) (x := a0) C dX11_copyRow_81 rfl ?_
            refine c_iconst C dX11_copyRow_82 ?_
            refine d_callV (As := [.int (iI 2)]) (rest := []) C hM (C_refuse (a0 := a0) (x := 2) hW hS t_a0 ⟨by decide, by decide⟩ ) dX11_copyRow_83 kV_X11_102 rfl t_a0 rfl rfl (by decide) ck_12 rfl (Nat.le_of_ble_eq_true rfl) ⟨(Nat.le_of_ble_eq_true rfl), (Nat.le_of_ble_eq_true rfl)⟩ hph hph (show 0 + 0 = 0 from rfl) (by decide) (fun rh6 Lh6 clh6 lnh6 ivh6 rvh6 h6 => ?_)
            obtain ⟨f6, rfl, rfl, rfl, rfl, rfl, fl6, W6, rgf6, exf6, kp11f6, kp12f6, kp13f6, kp14f6, kp15f6, kp16f6⟩ := h6
            refine hv7 (show 1 ≤ iv a0 11 ∧ iv a0 11 ≤ 100 from hW.int t_a0 11) (show 1 ≤ iv a0 12 ∧ iv a0 12 ≤ 50 from hW.int t_a0 12) (show (-2147483648) ≤ iv a0 13 ∧ iv a0 13 ≤ 2147483647 from hW.int t_a0 13) (show (-2147483648) ≤ iv a0 14 ∧ iv a0 14 ≤ 2147483647 from hW.int t_a0 14) (show (-2147483648) ≤ iv a0 15 ∧ iv a0 15 ≤ 2147483647 from hW.int t_a0 15) (show (-2147483648) ≤ iv a0 16 ∧ iv a0 16 ≤ 2147483647 from hW.int t_a0 16) (hF0.call hX0 fl6 rfl) (fun ri30 ri31 ri32 ri33 ri34 ri35 F3 => ?_)
            refine c_st (st2 := [.int (iI f6)]) rfl ?_
            refine hv13 (show ivh6 a0 11 = iv a0 11 from kp11f6) (show ivh6 a0 12 = iv a0 12 from kp12f6) (show ivh6 a0 13 = iv a0 13 from kp13f6) (show ivh6 a0 14 = iv a0 14 from kp14f6) (show ivh6 a0 15 = iv a0 15 from kp15f6) (show ivh6 a0 16 = iv a0 16 from kp16f6) (show f6 = -1 from exf6) (show 1 ≤ ivh6 a0 11 ∧ ivh6 a0 11 ≤ 100 from W6.int t_a0 11) (show 1 ≤ ivh6 a0 12 ∧ ivh6 a0 12 ≤ 50 from W6.int t_a0 12) (show (-2147483648) ≤ ivh6 a0 13 ∧ ivh6 a0 13 ≤ 2147483647 from W6.int t_a0 13) (show (-2147483648) ≤ ivh6 a0 14 ∧ ivh6 a0 14 ≤ 2147483647 from W6.int t_a0 14) (show (-2147483648) ≤ ivh6 a0 15 ∧ ivh6 a0 15 ≤ 2147483647 from W6.int t_a0 15) (show (-2147483648) ≤ ivh6 a0 16 ∧ ivh6 a0 16 ≤ 2147483647 from W6.int t_a0 16) (fun gk11f6 gk12f6 gk13f6 gk14f6 gk15f6 gk16f6 gf6 ri36 ri37 ri38 ri39 ri40 ri41 => ?_)
            exact c_iret C dX11_copyRow_86 rfl (by decide) (rom0 hph hph (by decide)) ⟨f6, rfl, rfl, rfl, rfl, rfl, F3, W6, ⟨by omega, by omega⟩, trivial, gk11f6, gk12f6, gk13f6, gk14f6, gk15f6, gk16f6, (TCH.same hsA hW tsA fl6 rfl rfl rfl rfl (fun E hE => CRP.out gf1 gf2 (by omega) (by omega) (by omega) (by omega) hE))⟩
          · replace gf5 := (gf5.resolve_right (fun q => c3 q.1))
            refine c_aload (j := 0) (x := ob2) C dX11_copyRow_69 rfl ?_
            refine c_iload (j := 6) C dX11_copyRow_71 rfl ?_
            refine c_iload (j := 7) C dX11_copyRow_73 rfl ?_
            refine d_callV (As := [.int (iI j2), .int (iI n)]) (rest := []) C hM (G_hasCells (a0 := ob2) (i := j2) (n := n) hW hS tob2 (by omega) (by omega) ) dX11_copyRow_75 kV_X11_313 rfl tob2 rfl rfl (by decide) ck_3 rfl (Nat.le_of_ble_eq_true rfl) ⟨(Nat.le_of_ble_eq_true rfl), (Nat.le_of_ble_eq_true rfl)⟩ hph hph (show 0 + 0 = 0 from rfl) (by decide) (fun rh7 Lh7 clh7 lnh7 ivh7 rvh7 h7 => ?_)
            obtain ⟨f7, rfl, rfl, rfl, rfl, rfl, rfl, rgf7, exf7⟩ := h7
            refine c_st (st2 := [.int (iI f7)]) rfl ?_
            have gf7 : (f7 = 1 ∧ 0 ≤ n ∧ 0 ≤ j2 ∧ j2 + n ≤ iv ob2 1) ∨ (f7 = 0 ∧ ¬ (0 ≤ n ∧ 0 ≤ j2 ∧ j2 + n ≤ iv ob2 1)) := exf7
            refine c_if_ne (tgt := 87) C (r32_qp gf7) dX11_copyRow_78 (by decide) (fun c4 => ?_) (fun c4 => ?_)
            · replace gf7 := (gf7.resolve_right (fun q => c4 q.1))
              refine c_aload (j := 1) (x := ob1) C dX11_copyRow_87 rfl ?_
              obtain ⟨rb1, rq1, trb1⟩ := hW.ref tob1 0 rfl rfl rfl
              have lnrb1 : 200 ≤ ln rb1 ∧ ln rb1 ≤ 200 := hW.len trb1 rfl
              refine c_getr (k := 0) C ck_3 dX11_copyRow_89 w4_48 (by decide) tob1 rfl rfl (by decide) rfl rq1 ?_
              refine c_st (st2 := [.ref rb1]) rfl ?_
              refine c_iload_n (j := 4) C dX11_copyRow_92 rfl ?_
              refine c_aload (j := 0) (x := ob2) C dX11_copyRow_93 rfl ?_
              obtain ⟨rb2, rq2, trb2⟩ := hW.ref tob2 0 rfl rfl rfl
              have lnrb2 : 200 ≤ ln rb2 ∧ ln rb2 ≤ 200 := hW.len trb2 rfl
              refine c_getr (k := 0) C ck_3 dX11_copyRow_95 w4_48 (by decide) tob2 rfl rfl (by decide) rfl rq2 ?_
              refine c_st (st2 := [.ref rb2, .int (iI i2), .ref rb1]) rfl ?_
              refine c_iload (j := 6) C dX11_copyRow_98 rfl ?_
              refine c_iload (j := 7) C dX11_copyRow_100 rfl ?_
              refine hv2 (show 200 ≤ ln rb1 ∧ ln rb1 ≤ 200 from hW.len trb1 rfl) (show 200 ≤ ln rb2 ∧ ln rb2 ≤ 200 from hW.len trb2 rfl) (fun ll1 ll2 => ?_)
              refine c_copyi (sp := i2) (dp := j2) (n := n) C dX11_copyRow_102 w4_233 w2_133 w2_132 w1_15 trb1 rfl trb2 rfl (by omega) (by omega) (by omega) (by omega) (by omega) (by omega) (by omega) (by decide) (Nat.le_of_ble_eq_true rfl) (fun iv1 pq1 => ?_)
              refine hv3 (hW.copy pq1 trb2 trb1 (fun _ => rfl) (fun _ => rfl) (fun _ => rfl) (fun _ => rfl) rfl) (hF0.copy hX0 pq1 trb2 rfl) (show iv1 sA 1 = iv sA 1 from by rw [pq1]; exact if_neg (ne_ty tsA trb2 (by decide))) (fun W8 F4 ie19 => ?_)
              have ri42 : 0 ≤ iv1 sA 1 ∧ iv1 sA 1 ≤ 200 := W8.int tsA 1
              refine c_aload_n (j := 2) (x := a0) C dX11_copyRow_105 rfl ?_
              refine c_iload (j := 7) C dX11_copyRow_106 rfl ?_
              refine d_callV (As := [.int (iI n)]) (rest := []) C hM (C_done (a0 := a0) (x := n) W8 hS t_a0 (by omega) ) dX11_copyRow_108 kV_X11_109 rfl t_a0 rfl rfl (by decide) ck_12 rfl (Nat.le_of_ble_eq_true rfl) ⟨(Nat.le_of_ble_eq_true rfl), (Nat.le_of_ble_eq_true rfl)⟩ hph hph (show 0 + 0 = 0 from rfl) (by decide) (fun rh8 Lh8 clh8 lnh8 ivh8 rvh8 h8 => ?_)
              obtain ⟨f8, rfl, rfl, rfl, rfl, rfl, fl8, W9, rgf8, exf8, kp11f8, kp12f8, kp13f8, kp14f8, kp15f8, kp16f8⟩ := h8
              refine hv13 (show 1 ≤ iv1 a0 11 ∧ iv1 a0 11 ≤ 100 from W8.int t_a0 11) (show iv1 a0 11 = iv a0 11 from by rw [pq1]; exact if_neg (ne_ty t_a0 trb2 (by decide))) (show 1 ≤ iv1 a0 12 ∧ iv1 a0 12 ≤ 50 from W8.int t_a0 12) (show iv1 a0 12 = iv a0 12 from by rw [pq1]; exact if_neg (ne_ty t_a0 trb2 (by decide))) (show (-2147483648) ≤ iv1 a0 13 ∧ iv1 a0 13 ≤ 2147483647 from W8.int t_a0 13) (show iv1 a0 13 = iv a0 13 from by rw [pq1]; exact if_neg (ne_ty t_a0 trb2 (by decide))) (show (-2147483648) ≤ iv1 a0 14 ∧ iv1 a0 14 ≤ 2147483647 from W8.int t_a0 14) (show iv1 a0 14 = iv a0 14 from by rw [pq1]; exact if_neg (ne_ty t_a0 trb2 (by decide))) (show (-2147483648) ≤ iv1 a0 15 ∧ iv1 a0 15 ≤ 2147483647 from W8.int t_a0 15) (show iv1 a0 15 = iv a0 15 from by rw [pq1]; exact if_neg (ne_ty t_a0 trb2 (by decide))) (show (-2147483648) ≤ iv1 a0 16 ∧ iv1 a0 16 ≤ 2147483647 from W8.int t_a0 16) (show iv1 a0 16 = iv a0 16 from by rw [pq1]; exact if_neg (ne_ty t_a0 trb2 (by decide))) (F4.call hX0 fl8 rfl) (fun ri43 ie20 ri44 ie21 ri45 ie22 ri46 ie23 ri47 ie24 ri48 ie25 F5 => ?_)
              refine c_st (st2 := [.int (iI f8)]) rfl ?_
              refine hv13 (show ivh8 a0 11 = iv1 a0 11 from kp11f8) (show ivh8 a0 12 = iv1 a0 12 from kp12f8) (show ivh8 a0 13 = iv1 a0 13 from kp13f8) (show ivh8 a0 14 = iv1 a0 14 from kp14f8) (show ivh8 a0 15 = iv1 a0 15 from kp15f8) (show ivh8 a0 16 = iv1 a0 16 from kp16f8) (show f8 = n from exf8) (show 1 ≤ ivh8 a0 11 ∧ ivh8 a0 11 ≤ 100 from W9.int t_a0 11) (show 1 ≤ ivh8 a0 12 ∧ ivh8 a0 12 ≤ 50 from W9.int t_a0 12) (show (-2147483648) ≤ ivh8 a0 13 ∧ ivh8 a0 13 ≤ 2147483647 from W9.int t_a0 13) (show (-2147483648) ≤ ivh8 a0 14 ∧ ivh8 a0 14 ≤ 2147483647 from W9.int t_a0 14) (show (-2147483648) ≤ ivh8 a0 15 ∧ ivh8 a0 15 ≤ 2147483647 from W9.int t_a0 15) (show (-2147483648) ≤ ivh8 a0 16 ∧ ivh8 a0 16 ≤ 2147483647 from W9.int t_a0 16) (fun gk11f8 gk12f8 gk13f8 gk14f8 gk15f8 gk16f8 gf8 ri49 ri50 ri51 ri52 ri53 ri54 => ?_)
              exact c_iret C dX11_copyRow_111 rfl (by decide) (rom0 hph hph (by decide)) ⟨f8, rfl, rfl, rfl, rfl, rfl, F5, W9, ⟨by omega, by omega⟩, trivial, (gk11f8.trans ie20), (gk12f8.trans ie21), (gk13f8.trans ie22), (gk14f8.trans ie23), (gk15f8.trans ie24), (gk16f8.trans ie25), (TCH.row hsA hW tsA gf2 (LFR.refl.copy rq2 trb2 pq1) (by omega) W8 fl8 rfl rfl rfl rfl (fun E hE => CRP.ok gf1 gf2 (by omega) (by omega) ⟨by omega, by omega, by omega, by omega, by omega⟩ rq1 rq2 pq1 (ne_ty tob2 trb2 (by decide)) (by omega) hE))⟩
            · replace gf7 := (gf7.resolve_left (fun q => absurd (q.1.symm.trans c4) (by decide)))
              refine c_aload_n (j := 2) (x := a0) C dX11_copyRow_81 rfl ?_
              refine c_iconst C dX11_copyRow_82 ?_
              refine d_callV (As := [.int (iI 2)]) (rest := []) C hM (C_refuse (a0 := a0) (x := 2) hW hS t_a0 ⟨by decide, by decide⟩ ) dX11_copyRow_83 kV_X11_102 rfl t_a0 rfl rfl (by decide) ck_12 rfl (Nat.le_of_ble_eq_true rfl) ⟨(Nat.le_of_ble_eq_true rfl), (Nat.le_of_ble_eq_true rfl)⟩ hph hph (show 0 + 0 = 0 from rfl) (by decide) (fun rh9 Lh9 clh9 lnh9 ivh9 rvh9 h9 => ?_)
              obtain ⟨f9, rfl, rfl, rfl, rfl, rfl, fl9, W10, rgf9, exf9, kp11f9, kp12f9, kp13f9, kp14f9, kp15f9, kp16f9⟩ := h9
              refine hv7 (show 1 ≤ iv a0 11 ∧ iv a0 11 ≤ 100 from hW.int t_a0 11) (show 1 ≤ iv a0 12 ∧ iv a0 12 ≤ 50 from hW.int t_a0 12) (show (-2147483648) ≤ iv a0 13 ∧ iv a0 13 ≤ 2147483647 from hW.int t_a0 13) (show (-2147483648) ≤ iv a0 14 ∧ iv a0 14 ≤ 2147483647 from hW.int t_a0 14) (show (-2147483648) ≤ iv a0 15 ∧ iv a0 15 ≤ 2147483647 from hW.int t_a0 15) (show (-2147483648) ≤ iv a0 16 ∧ iv a0 16 ≤ 2147483647 from hW.int t_a0 16) (hF0.call hX0 fl9 rfl) (fun ri55 ri56 ri57 ri58 ri59 ri60 F6 => ?_)
              refine c_st (st2 := [.int (iI f9)]) rfl ?_
              refine hv13 (show ivh9 a0 11 = iv a0 11 from kp11f9) (show ivh9 a0 12 = iv a0 12 from kp12f9) (show ivh9 a0 13 = iv a0 13 from kp13f9) (show ivh9 a0 14 = iv a0 14 from kp14f9) (show ivh9 a0 15 = iv a0 15 from kp15f9) (show ivh9 a0 16 = iv a0 16 from kp16f9) (show f9 = -1 from exf9) (show 1 ≤ ivh9 a0 11 ∧ ivh9 a0 11 ≤ 100 from W10.int t_a0 11) (show 1 ≤ ivh9 a0 12 ∧ ivh9 a0 12 ≤ 50 from W10.int t_a0 12) (show (-2147483648) ≤ ivh9 a0 13 ∧ ivh9 a0 13 ≤ 2147483647 from W10.int t_a0 13) (show (-2147483648) ≤ ivh9 a0 14 ∧ ivh9 a0 14 ≤ 2147483647 from W10.int t_a0 14) (show (-2147483648) ≤ ivh9 a0 15 ∧ ivh9 a0 15 ≤ 2147483647 from W10.int t_a0 15) (show (-2147483648) ≤ ivh9 a0 16 ∧ ivh9 a0 16 ≤ 2147483647 from W10.int t_a0 16) (fun gk11f9 gk12f9 gk13f9 gk14f9 gk15f9 gk16f9 gf9 ri61 ri62 ri63 ri64 ri65 ri66 => ?_)
              exact c_iret C dX11_copyRow_86 rfl (by decide) (rom0 hph hph (by decide)) ⟨f9, rfl, rfl, rfl, rfl, rfl, F6, W10, ⟨by omega, by omega⟩, trivial, gk11f9, gk12f9, gk13f9, gk14f9, gk15f9, gk16f9, (TCH.same hsA hW tsA fl9 rfl rfl rfl rfl (fun E hE => CRP.out gf1 gf2 (by omega) (by omega) (by omega) (by omega) hE))⟩
        · refine c_aload_n (j := 2) (x := a0) C dX11_copyRow_52 rfl ?_
          refine c_iconst C dX11_copyRow_53 ?_
          refine d_callV (As := [.int (iI 1)]) (rest := []) C hM (C_refuse (a0 := a0) (x := 1) hW hS t_a0 ⟨by decide, by decide⟩ ) dX11_copyRow_54 kV_X11_102 rfl t_a0 rfl rfl (by decide) ck_12 rfl (Nat.le_of_ble_eq_true rfl) ⟨(Nat.le_of_ble_eq_true rfl), (Nat.le_of_ble_eq_true rfl)⟩ hph hph (show 0 + 0 = 0 from rfl) (by decide) (fun rh10 Lh10 clh10 lnh10 ivh10 rvh10 h10 => ?_)
          obtain ⟨f10, rfl, rfl, rfl, rfl, rfl, fl10, W11, rgf10, exf10, kp11f10, kp12f10, kp13f10, kp14f10, kp15f10, kp16f10⟩ := h10
          refine hv7 (show 1 ≤ iv a0 11 ∧ iv a0 11 ≤ 100 from hW.int t_a0 11) (show 1 ≤ iv a0 12 ∧ iv a0 12 ≤ 50 from hW.int t_a0 12) (show (-2147483648) ≤ iv a0 13 ∧ iv a0 13 ≤ 2147483647 from hW.int t_a0 13) (show (-2147483648) ≤ iv a0 14 ∧ iv a0 14 ≤ 2147483647 from hW.int t_a0 14) (show (-2147483648) ≤ iv a0 15 ∧ iv a0 15 ≤ 2147483647 from hW.int t_a0 15) (show (-2147483648) ≤ iv a0 16 ∧ iv a0 16 ≤ 2147483647 from hW.int t_a0 16) (hF0.call hX0 fl10 rfl) (fun ri67 ri68 ri69 ri70 ri71 ri72 F7 => ?_)
          refine c_st (st2 := [.int (iI f10)]) rfl ?_
          refine hv13 (show ivh10 a0 11 = iv a0 11 from kp11f10) (show ivh10 a0 12 = iv a0 12 from kp12f10) (show ivh10 a0 13 = iv a0 13 from kp13f10) (show ivh10 a0 14 = iv a0 14 from kp14f10) (show ivh10 a0 15 = iv a0 15 from kp15f10) (show ivh10 a0 16 = iv a0 16 from kp16f10) (show f10 = -1 from exf10) (show 1 ≤ ivh10 a0 11 ∧ ivh10 a0 11 ≤ 100 from W11.int t_a0 11) (show 1 ≤ ivh10 a0 12 ∧ ivh10 a0 12 ≤ 50 from W11.int t_a0 12) (show (-2147483648) ≤ ivh10 a0 13 ∧ ivh10 a0 13 ≤ 2147483647 from W11.int t_a0 13) (show (-2147483648) ≤ ivh10 a0 14 ∧ ivh10 a0 14 ≤ 2147483647 from W11.int t_a0 14) (show (-2147483648) ≤ ivh10 a0 15 ∧ ivh10 a0 15 ≤ 2147483647 from W11.int t_a0 15) (show (-2147483648) ≤ ivh10 a0 16 ∧ ivh10 a0 16 ≤ 2147483647 from W11.int t_a0 16) (fun gk11f10 gk12f10 gk13f10 gk14f10 gk15f10 gk16f10 gf10 ri73 ri74 ri75 ri76 ri77 ri78 => ?_)
          exact c_iret C dX11_copyRow_57 rfl (by decide) (rom0 hph hph (by decide)) ⟨f10, rfl, rfl, rfl, rfl, rfl, F7, W11, ⟨by omega, by omega⟩, trivial, gk11f10, gk12f10, gk13f10, gk14f10, gk15f10, gk16f10, (TCH.same hsA hW tsA fl10 rfl rfl rfl rfl (fun E hE => CRP.lck gf1 gf2 (by omega) (by omega) hE))⟩
    · subst oq2
      refine c_lv (lv2 := [(7, .null), (6, .ref ob1), (0, .ref a0), (1, .int (iI i)), (2, .int (iI i2)), (3, .int (iI j)), (4, .int (iI j2)), (5, .int (iI n))]) [0, 1, 2, 3, 4, 5, 6, 7] rfl ?_
      refine c_st (st2 := []) rfl ?_
      refine c_aload_n (j := 2) (x := a0) C dX11_copyRow_30 rfl ?_
      refine c_iconst C dX11_copyRow_31 ?_
      refine d_callV (As := [.int (iI 2)]) (rest := []) C hM (C_refuse (a0 := a0) (x := 2) hW hS t_a0 ⟨by decide, by decide⟩ ) dX11_copyRow_32 kV_X11_102 rfl t_a0 rfl rfl (by decide) ck_12 rfl (Nat.le_of_ble_eq_true rfl) ⟨(Nat.le_of_ble_eq_true rfl), (Nat.le_of_ble_eq_true rfl)⟩ hph hph (show 0 + 0 = 0 from rfl) (by decide) (fun rh11 Lh11 clh11 lnh11 ivh11 rvh11 h11 => ?_)
      obtain ⟨f11, rfl, rfl, rfl, rfl, rfl, fl11, W12, rgf11, exf11, kp11f11, kp12f11, kp13f11, kp14f11, kp15f11, kp16f11⟩ := h11
      refine hv7 (show 1 ≤ iv a0 11 ∧ iv a0 11 ≤ 100 from hW.int t_a0 11) (show 1 ≤ iv a0 12 ∧ iv a0 12 ≤ 50 from hW.int t_a0 12) (show (-2147483648) ≤ iv a0 13 ∧ iv a0 13 ≤ 2147483647 from hW.int t_a0 13) (show (-2147483648) ≤ iv a0 14 ∧ iv a0 14 ≤ 2147483647 from hW.int t_a0 14) (show (-2147483648) ≤ iv a0 15 ∧ iv a0 15 ≤ 2147483647 from hW.int t_a0 15) (show (-2147483648) ≤ iv a0 16 ∧ iv a0 16 ≤ 2147483647 from hW.int t_a0 16) (hF0.call hX0 fl11 rfl) (fun ri79 ri80 ri81 ri82 ri83 ri84 F8 => ?_)
      refine c_st (st2 := [.int (iI f11)]) rfl ?_
      refine hv13 (show ivh11 a0 11 = iv a0 11 from kp11f11) (show ivh11 a0 12 = iv a0 12 from kp12f11) (show ivh11 a0 13 = iv a0 13 from kp13f11) (show ivh11 a0 14 = iv a0 14 from kp14f11) (show ivh11 a0 15 = iv a0 15 from kp15f11) (show ivh11 a0 16 = iv a0 16 from kp16f11) (show f11 = -1 from exf11) (show 1 ≤ ivh11 a0 11 ∧ ivh11 a0 11 ≤ 100 from W12.int t_a0 11) (show 1 ≤ ivh11 a0 12 ∧ ivh11 a0 12 ≤ 50 from W12.int t_a0 12) (show (-2147483648) ≤ ivh11 a0 13 ∧ ivh11 a0 13 ≤ 2147483647 from W12.int t_a0 13) (show (-2147483648) ≤ ivh11 a0 14 ∧ ivh11 a0 14 ≤ 2147483647 from W12.int t_a0 14) (show (-2147483648) ≤ ivh11 a0 15 ∧ ivh11 a0 15 ≤ 2147483647 from W12.int t_a0 15) (show (-2147483648) ≤ ivh11 a0 16 ∧ ivh11 a0 16 ≤ 2147483647 from W12.int t_a0 16) (fun gk11f11 gk12f11 gk13f11 gk14f11 gk15f11 gk16f11 gf11 ri85 ri86 ri87 ri88 ri89 ri90 => ?_)
      exact c_iret C dX11_copyRow_35 rfl (by decide) (rom0 hph hph (by decide)) ⟨f11, rfl, rfl, rfl, rfl, rfl, F8, W12, ⟨by omega, by omega⟩, trivial, gk11f11, gk12f11, gk13f11, gk14f11, gk15f11, gk16f11, (TCH.same hsA hW tsA fl11 rfl rfl rfl rfl (fun E hE => CRP.no (Or.inr gf2) (by omega) hE))⟩
set_option maxHeartbeats 4000000 in
set_option maxRecDepth 100000 in
theorem G_become {l : Launch} {G : GT} {mi : Nat} {sk : Nat → Nat} {L : List Nat} {cl ln : Nat → Nat} {iv : Nat → Nat → Int} {rv : Nat → Nat → Option Nat}  {a0 : Nat} {a1 : Nat} (hW : WT (g0 G) sk L cl ln iv rv) (hS : SKL sk L cl) (t_a0 : ty L cl a0 19) (t_a1 : ty L cl a1 19)  : Mc l G mi (Phi (g0 G) sk) PHM yX2_become cX2_become 2 none 1 [.ref a0, .ref a1] L cl ln iv rv 0 (fun v L2 cl2 ln2 iv2 rv2 => v = none ∧ L = L2 ∧ cl = cl2 ∧ ln = ln2 ∧ rv = rv2 ∧ fT [19, 64] L cl iv rv iv2 rv2 ∧ WT (g0 G) sk L2 cl2 ln2 iv2 rv2 ∧ (LFR L cl iv rv iv2 a0 ∧ BCX iv rv iv2 a0 a1)) := by
  refine Mc.mk (by decide) (Nat.le_of_ble_eq_true rfl) ?_
  intro p e s m args below meth c A C hM
  refine hv5 (Phi.le hW hS) (show XT L cl ln L cl ln from XT.refl) (show fT [19, 64] L cl iv rv iv rv from fT.refl) (show 0 ≤ iv a1 1 ∧ iv a1 1 ≤ 200 from hW.int t_a1 1) (show 0 ≤ iv a1 2 ∧ iv a1 2 ≤ 1 from hW.int t_a1 2) (fun hph hX0 hF0 ri1 ri2 => ?_)
  refine c_aload_n (j := 1) (x := a1) C dX2_become_0 rfl ?_
  obtain ⟨rb1, rq1, trb1⟩ := hW.ref t_a1 0 rfl rfl rfl
  have lnrb1 : 200 ≤ ln rb1 ∧ ln rb1 ≤ 200 := hW.len trb1 rfl
  refine c_getr (k := 0) C ck_3 dX2_become_1 w4_44 (by decide) t_a1 rfl rfl (by decide) rfl rq1 ?_
  refine c_st (st2 := [.ref rb1]) rfl ?_
  refine c_iconst C dX2_become_4 ?_
  refine c_aload_n (j := 0) (x := a0) C dX2_become_5 rfl ?_
  obtain ⟨rb2, rq2, trb2⟩ := hW.ref t_a0 0 rfl rfl rfl
  have lnrb2 : 200 ≤ ln rb2 ∧ ln rb2 ≤ 200 := hW.len trb2 rfl
  refine c_getr (k := 0) C ck_3 dX2_become_6 w4_44 (by decide) t_a0 rfl rfl (by decide) rfl rq2 ?_
  refine c_st (st2 := [.ref rb2, .int (iI 0), .ref rb1]) rfl ?_
  refine c_iconst C dX2_become_9 ?_
  refine c_aload_n (j := 1) (x := a1) C dX2_become_10 rfl ?_
  refine c_get (k := 1) C ck_3 dX2_become_11 w4_49 (by decide) t_a1 rfl rfl (by decide) rfl ?_
  refine hv2 (show 200 ≤ ln rb1 ∧ ln rb1 ≤ 200 from hW.len trb1 rfl) (show 200 ≤ ln rb2 ∧ ln rb2 ≤ 200 from hW.len trb2 rfl) (fun ll1 ll2 => ?_)
  refine c_copyi (sp := 0) (dp := 0) (n := iv a1 1) C dX2_become_14 w4_80 w2_133 w2_132 w1_15 trb1 rfl trb2 rfl (by omega) (by omega) (by omega) (by omega) (by omega) (by omega) (by omega) (by decide) (Nat.le_of_ble_eq_true rfl) (fun iv1 pq1 => ?_)
  refine hv2 (hW.copy pq1 trb2 trb1 (fun _ => rfl) (fun _ => rfl) (fun _ => rfl) (fun _ => rfl) rfl) (hF0.copy hX0 pq1 trb2 rfl) (fun W1 F1 => ?_)
  refine c_aload_n (j := 0) (x := a0) C dX2_become_17 rfl ?_
  refine c_aload_n (j := 1) (x := a1) C dX2_become_18 rfl ?_
  refine hv2 (show 0 ≤ iv1 a1 1 ∧ iv1 a1 1 ≤ 200 from W1.int t_a1 1) (show iv1 a1 1 = iv a1 1 from by rw [pq1]; exact if_neg (ne_ty t_a1 trb2 (by decide))) (fun ri3 ie1 => ?_)
  refine c_get (k := 1) C ck_3 dX2_become_19 w4_49 (by decide) t_a1 rfl rfl (by decide) rfl ?_
  refine c_put (z := iv1 a1 1) (k := 1) C ck_3 dX2_become_22 w4_49 (by decide) rfl t_a0 rfl rfl (by decide) rfl (by rfl) (by rfl) (fun iv2 pq2 => ?_)
  refine hv2 (W1.puti pq2 t_a0 (show 0 ≤ (iv1 a1 1) ∧ (iv1 a1 1) ≤ 200 by omega) rfl) (F1.puti hX0 pq2 t_a0 rfl) (fun W2 F2 => ?_)
  refine c_aload_n (j := 0) (x := a0) C dX2_become_25 rfl ?_
  refine c_aload_n (j := 1) (x := a1) C dX2_become_26 rfl ?_
  have ri4 : 0 ≤ iv2 a1 2 ∧ iv2 a1 2 ≤ 1 := W2.int t_a1 2
  refine c_get (k := 2) C ck_3 dX2_become_27 w4_54 (by decide) t_a1 rfl rfl (by decide) rfl ?_
  refine c_put (z := iv2 a1 2) (k := 2) C ck_3 dX2_become_30 w4_54 (by decide) rfl t_a0 rfl rfl (by decide) rfl (nar2 (z := iv2 a1 2) (by omega)).1 (nar2 (z := iv2 a1 2) (by omega)).2 (fun iv3 pq3 => ?_)
  refine hv5 (W2.puti pq3 t_a0 (show 0 ≤ (iv2 a1 2) ∧ (iv2 a1 2) ≤ 1 by omega) rfl) (F2.puti hX0 pq3 t_a0 rfl) (show iv3 a0 1 = iv2 a0 1 from by rw [pq3]; exact up2_j (by decide)) (show iv2 a0 1 = iv1 a1 1 from by rw [pq2]; exact up2_s) (show iv3 a0 2 = iv2 a1 2 from by rw [pq3]; exact up2_s) (fun W3 F3 ie3 ie4 ie5 => ?_)
  refine hv2 (show 0 ≤ iv3 a0 1 ∧ iv3 a0 1 ≤ 200 from W3.int t_a0 1) (show 0 ≤ iv3 a0 2 ∧ iv3 a0 2 ≤ 1 from W3.int t_a0 2) (fun ri5 ri6 => ?_)
  exact c_vret C dX2_become_33 rfl (by decide) (rom0 hph hph (by decide)) ⟨rfl, rfl, rfl, rfl, rfl, F3, W3, ⟨((LFR.refl.copy rq2 trb2 pq1).self t_a0 pq2).self t_a0 pq3, BCX.mk rq1 rq2 pq1 rfl pq2 (by omega) pq3 rfl (ne_ty trb2 t_a0 (by decide)) (ne_ty t_a1 trb2 (by decide))⟩⟩
set_option maxHeartbeats 4000000 in
set_option maxRecDepth 100000 in
theorem G_copyLines {l : Launch} {G : GT} {mi : Nat} {sk : Nat → Nat} {L : List Nat} {cl ln : Nat → Nat} {iv : Nat → Nat → Int} {rv : Nat → Nat → Option Nat}  {a0 : Nat} {i : Int} {j : Int} {n : Int} (hW : WT (g0 G) sk L cl ln iv rv) (hS : SKL sk L cl) (t_a0 : ty L cl a0 1) (h_i : -2147483648 ≤ i ∧ i ≤ 2147483647) (h_j : -2147483648 ≤ j ∧ j ≤ 2147483647) (h_n : -2147483648 ≤ n ∧ n ≤ 2147483647)  : Mc l G mi (Phi (g0 G) sk) PHM yX11_copyLines cX11_copyLines 7 (some .int) 2 [.ref a0, .int (iI i), .int (iI j), .int (iI n)] L cl ln iv rv 0 (fun v L2 cl2 ln2 iv2 rv2 => ∃ f : Int, v = some (.int (iI f)) ∧ L = L2 ∧ cl = cl2 ∧ ln = ln2 ∧ rv = rv2 ∧ fT [1, 19, 64] L cl iv rv iv2 rv2 ∧ WT (g0 G) sk L2 cl2 ln2 iv2 rv2 ∧ (-2147483648 ≤ f ∧ f ≤ 2147483647) ∧ (True) ∧ iv2 a0 11 = iv a0 11 ∧ iv2 a0 12 = iv a0 12 ∧ iv2 a0 13 = iv a0 13 ∧ iv2 a0 14 = iv a0 14 ∧ iv2 a0 16 = iv a0 16 ∧ (TCH iv rv iv2 a0 (fun E E2 => CPLX E i j n (iv a0 15) f E2 (iv2 a0 15)))) := by
  refine Mc.mk (by decide) (Nat.le_of_ble_eq_true rfl) ?_
  intro p e s m args below meth c A C hM
  refine hv3 (Phi.le hW hS) (show XT L cl ln L cl ln from XT.refl) (show fT [1, 19, 64] L cl iv rv iv rv from fT.refl) (fun hph hX0 hF0 => ?_)
  obtain ⟨sA, hsA, tsA⟩ := hW.ref t_a0 9 rfl rfl rfl
  refine hv2 (show 0 ≤ iv sA 1 ∧ iv sA 1 ≤ 200 from hW.int tsA 1) (show (-2147483648) ≤ iv a0 15 ∧ iv a0 15 ≤ 2147483647 from hW.int t_a0 15) (fun ri1 ri2 => ?_)
  refine c_iload_n (j := 3) C dX11_copyLines_0 rfl ?_
  refine c_bipush (z := 10) C dX11_copyLines_1 (by decide) ?_
  refine c_icmp_le (tgt := 13) C ⟨by omega, by omega⟩ ⟨by decide, by decide⟩ dX11_copyLines_3 (by decide) (fun c1 => ?_) (fun c1 => ?_)
  · refine c_iload_n (j := 3) C dX11_copyLines_13 rfl ?_
    refine c_if_ge (tgt := 23) C ⟨by omega, by omega⟩ dX11_copyLines_14 (by decide) (fun c2 => ?_) (fun c2 => ?_)
    · refine c_aload_n (j := 0) (x := a0) C dX11_copyLines_23 rfl ?_
      refine c_iconst C dX11_copyLines_24 ?_
      refine c_put (z := 0) (k := 15) C ck_12 dX11_copyLines_25 w2_59 (by decide) rfl t_a0 rfl rfl (by decide) rfl (by rfl) (by rfl) (fun iv1 pq1 => ?_)
      refine hv2 (hW.puti pq1 t_a0 ⟨by decide, by decide⟩ rfl) (hF0.puti hX0 pq1 t_a0 rfl) (fun W1 F1 => ?_)
      refine c_iconst C dX11_copyLines_28 ?_
      refine c_istore (lv2 := [(4, .int (iI 0)), (0, .ref a0), (1, .int (iI i)), (2, .int (iI j)), (3, .int (iI n))]) C dX11_copyLines_29 (by decide) rfl ?_
      have Lp1 : ∀ (nn : Nat) (k : Int) (ivb1 : Nat → Nat → Int) , 201 - k < (nn : Int) → WT (g0 G) sk L cl ln ivb1 rv → fT [1, 19, 64] L cl iv rv ivb1 rv → (0 ≤ k ∧ k ≤ n ∧ n ≤ 10) → (ivb1 a0 15 = k) → (TCH iv rv ivb1 a0 (fun E E1 => cpn E i j k.toNat E1)) → (ivb1 a0 11 = iv a0 11) → (ivb1 a0 12 = iv a0 12) → (ivb1 a0 13 = iv a0 13) → (ivb1 a0 14 = iv a0 14) → (ivb1 a0 16 = iv a0 16) → cw p l e 2 ((PHM) + 0 - ((Phi (g0 G) sk) ln rv)) s m args below meth c G A 7 (MQ below (Qu G A (Qp G (Phi (g0 G) sk) ((Phi (g0 G) sk) ln rv) 0 (fun v L2 cl2 ln2 iv2 rv2 => ∃ f : Int, v = some (.int (iI f)) ∧ L = L2 ∧ cl = cl2 ∧ ln = ln2 ∧ rv = rv2 ∧ fT [1, 19, 64] L cl iv rv iv2 rv2 ∧ WT (g0 G) sk L2 cl2 ln2 iv2 rv2 ∧ (-2147483648 ≤ f ∧ f ≤ 2147483647) ∧ (True) ∧ iv2 a0 11 = iv a0 11 ∧ iv2 a0 12 = iv a0 12 ∧ iv2 a0 13 = iv a0 13 ∧ iv2 a0 14 = iv a0 14 ∧ iv2 a0 16 = iv a0 16 ∧ (TCH iv rv iv2 a0 (fun E E2 => CPLX E i j n (iv a0 15) f E2 (iv2 a0 15)))))) args s (((PHM) + 0 - ((Phi (g0 G) sk) ln rv)) / 16) ((PHM) + 0 - ((Phi (g0 G) sk) ln rv)) A) (Phi (g0 G) sk) ((Phi (g0 G) sk) ln rv) L cl ln ivb1 rv 0 31 [(4, .int (iI k)), (0, .ref a0), (1, .int (iI i)), (2, .int (iI j)), (3, .int (iI n))] [] := by
        intro nn
        induction nn with
        | zero =>
          intro  k ivb1 hm Wb1 Fb1  hk h15 hT hkp11 hkp12 hkp13 hkp14 hkp16
          exact absurd hm (by omega)
        | succ nn ih1 =>
          intro  k ivb1 hm Wb1 Fb1  hk h15 hT hkp11 hkp12 hkp13 hkp14 hkp16
          refine c_iload (j := 0) C dX11_copyLines_31 rfl ?_
          refine c_iload_n (j := 4) C dX11_copyLines_33 rfl ?_
          refine c_icmp_ge (tgt := 116) C ⟨by omega, by omega⟩ ⟨by omega, by omega⟩ dX11_copyLines_34 (by decide) (fun c3 => ?_) (fun c3 => ?_)
          · refine c_aload_n (j := 1) (x := a0) C dX11_copyLines_116 rfl ?_
            refine c_iload_n (j := 4) C dX11_copyLines_117 rfl ?_
            refine d_callV (As := [.int (iI n)]) (rest := []) C hM (C_done (a0 := a0) (x := n) Wb1 hS t_a0 (by omega) ) dX11_copyLines_118 kV_X11_109 rfl t_a0 rfl rfl (by decide) ck_12 rfl (Nat.le_of_ble_eq_true rfl) ⟨(Nat.le_of_ble_eq_true rfl), (Nat.le_of_ble_eq_true rfl)⟩ hph hph (show 0 + 0 = 0 from rfl) (by decide) (fun rh1 Lh1 clh1 lnh1 ivh1 rvh1 h1 => ?_)
            obtain ⟨f1, rfl, rfl, rfl, rfl, rfl, fl1, W2, rgf1, exf1, kp11f1, kp12f1, kp13f1, kp14f1, kp15f1, kp16f1⟩ := h1
            refine hv7 (show 1 ≤ ivb1 a0 11 ∧ ivb1 a0 11 ≤ 100 from Wb1.int t_a0 11) (show 1 ≤ ivb1 a0 12 ∧ ivb1 a0 12 ≤ 50 from Wb1.int t_a0 12) (show (-2147483648) ≤ ivb1 a0 13 ∧ ivb1 a0 13 ≤ 2147483647 from Wb1.int t_a0 13) (show (-2147483648) ≤ ivb1 a0 14 ∧ ivb1 a0 14 ≤ 2147483647 from Wb1.int t_a0 14) (show (-2147483648) ≤ ivb1 a0 15 ∧ ivb1 a0 15 ≤ 2147483647 from Wb1.int t_a0 15) (show (-2147483648) ≤ ivb1 a0 16 ∧ ivb1 a0 16 ≤ 2147483647 from Wb1.int t_a0 16) (Fb1.call hX0 fl1 rfl) (fun ri3 ri4 ri5 ri6 ri7 ri8 F2 => ?_)
            refine c_st (st2 := [.int (iI f1)]) rfl ?_
            refine hv13 (show ivh1 a0 11 = ivb1 a0 11 from kp11f1) (show ivh1 a0 12 = ivb1 a0 12 from kp12f1) (show ivh1 a0 13 = ivb1 a0 13 from kp13f1) (show ivh1 a0 14 = ivb1 a0 14 from kp14f1) (show ivh1 a0 15 = ivb1 a0 15 from kp15f1) (show ivh1 a0 16 = ivb1 a0 16 from kp16f1) (show f1 = n from exf1) (show 1 ≤ ivh1 a0 11 ∧ ivh1 a0 11 ≤ 100 from W2.int t_a0 11) (show 1 ≤ ivh1 a0 12 ∧ ivh1 a0 12 ≤ 50 from W2.int t_a0 12) (show (-2147483648) ≤ ivh1 a0 13 ∧ ivh1 a0 13 ≤ 2147483647 from W2.int t_a0 13) (show (-2147483648) ≤ ivh1 a0 14 ∧ ivh1 a0 14 ≤ 2147483647 from W2.int t_a0 14) (show (-2147483648) ≤ ivh1 a0 16 ∧ ivh1 a0 16 ≤ 2147483647 from W2.int t_a0 16) (show (-2147483648) ≤ ivh1 a0 15 ∧ ivh1 a0 15 ≤ 2147483647 from W2.int t_a0 15) (fun gk11f1 gk12f1 gk13f1 gk14f1 gk15f1 gk16f1 gf1 ri9 ri10 ri11 ri12 ri13 ri14 => ?_)
            exact c_iret C dX11_copyLines_121 rfl (by decide) (rom0 hph hph (by decide)) ⟨f1, rfl, rfl, rfl, rfl, rfl, F2, W2, ⟨by omega, by omega⟩, trivial, (gk11f1.trans hkp11), (gk12f1.trans hkp12), (gk13f1.trans hkp13), (gk14f1.trans hkp14), (gk16f1.trans hkp16), (CPP.ok hT hsA Wb1 tsA fl1 (by omega) ⟨by omega, by omega⟩ (by omega) (by omega))⟩
          · refine c_aload_n (j := 1) (x := a0) C dX11_copyLines_37 rfl ?_
            refine c_getr (k := 9) C ck_12 dX11_copyLines_38 w2_53 (by decide) t_a0 rfl rfl (by decide) rfl hsA ?_
            refine c_st (st2 := [.ref sA]) rfl ?_
            refine c_iload_n (j := 2) C dX11_copyLines_41 rfl ?_
            refine c_iload (j := 0) C dX11_copyLines_42 rfl ?_
            refine c_iadd C dX11_copyLines_44 ?_
            obtain ⟨zz1, hzz1, ezz1⟩ := iI_of (iI (i + k))
            refine c_st (st2 := [.int (iI zz1), .ref sA]) (by rw [ezz1]) ?_
            refine hv2 (show 0 ≤ ivb1 sA 1 ∧ ivb1 sA 1 ≤ 200 from Wb1.int tsA 1) (show ivb1 sA 1 = iv sA 1 from Fb1.i tsA rfl 1) (fun ri15 ie13 => ?_)
            refine d_callV (As := [.int (iI zz1)]) (rest := []) C hM (G_sat (a0 := sA) (i := zz1) Wb1 hS tsA (by omega) ) dX11_copyLines_45 kV_X11_308 rfl tsA rfl rfl (by decide) ck_8 rfl (Nat.le_of_ble_eq_true rfl) ⟨(Nat.le_of_ble_eq_true rfl), (Nat.le_of_ble_eq_true rfl)⟩ hph hph (show 0 + 0 = 0 from rfl) (by decide) (fun rh2 Lh2 clh2 lnh2 ivh2 rvh2 h2 => ?_)
            obtain ⟨f2, rfl, rfl, rfl, rfl, rfl, rfl, rgf2, exf2⟩ := h2
            refine c_st (st2 := [(va_rf f2)]) rfl ?_
            have gf2 : SATX ivb1 rv sA zz1 f2 := exf2
            have gaf2 := SATX.wr gf2 (wr_add (x := i + k) hzz1 ⟨by omega, by omega⟩ ezz1) (by omega)
            refine c_astorer (r := f2) (lv2 := [(5, (va_rf f2)), (4, .int (iI k)), (0, .ref a0), (1, .int (iI i)), (2, .int (iI j)), (3, .int (iI n))]) C dX11_copyLines_48 (by decide) rfl ?_
            refine c_aload_n (j := 2) (x := a0) C dX11_copyLines_50 rfl ?_
            refine c_getr (k := 9) C ck_12 dX11_copyLines_51 w2_53 (by decide) t_a0 rfl rfl (by decide) rfl hsA ?_
            refine c_st (st2 := [.ref sA]) rfl ?_
            refine c_iload_n (j := 4) C dX11_copyLines_54 rfl ?_
            refine c_iload (j := 1) C dX11_copyLines_55 rfl ?_
            refine c_iadd C dX11_copyLines_57 ?_
            obtain ⟨zz2, hzz2, ezz2⟩ := iI_of (iI (j + k))
            refine c_st (st2 := [.int (iI zz2), .ref sA]) (by rw [ezz2]) ?_
            refine d_callV (As := [.int (iI zz2)]) (rest := []) C hM (G_sat (a0 := sA) (i := zz2) Wb1 hS tsA (by omega) ) dX11_copyLines_58 kV_X11_308 rfl tsA rfl rfl (by decide) ck_8 rfl (Nat.le_of_ble_eq_true rfl) ⟨(Nat.le_of_ble_eq_true rfl), (Nat.le_of_ble_eq_true rfl)⟩ hph hph (show 0 + 0 = 0 from rfl) (by decide) (fun rh3 Lh3 clh3 lnh3 ivh3 rvh3 h3 => ?_)
            obtain ⟨f3, rfl, rfl, rfl, rfl, rfl, rfl, rgf3, exf3⟩ := h3
            refine c_st (st2 := [(va_rf f3)]) rfl ?_
            have gf3 : SATX ivb1 rv sA zz2 f3 := exf3
            have gaf3 := SATX.wr gf3 (wr_add (x := j + k) hzz2 ⟨by omega, by omega⟩ ezz2) (by omega)
            refine c_astorer (r := f3) (lv2 := [(6, (va_rf f3)), (5, (va_rf f2)), (4, .int (iI k)), (0, .ref a0), (1, .int (iI i)), (2, .int (iI j)), (3, .int (iI n))]) C dX11_copyLines_61 (by decide) (by cases f2 <;> rfl) ?_
            refine c_aloadr (j := 1) (r := f2) C dX11_copyLines_63 rfl ?_
            refine c_ifnull (r := f2) (tgt := 73) C dX11_copyLines_65 (by decide) (fun oq1 => ?_) (fun ob1 oq1 => ?_)
            · subst oq1
              refine c_lv (lv2 := [(6, (va_rf f3)), (5, .null), (4, .int (iI k)), (0, .ref a0), (1, .int (iI i)), (2, .int (iI j)), (3, .int (iI n))]) [0, 1, 2, 3, 4, 5, 6] rfl ?_
              refine c_st (st2 := []) rfl ?_
              refine c_aload_n (j := 3) (x := a0) C dX11_copyLines_73 rfl ?_
              refine c_iconst C dX11_copyLines_74 ?_
              refine d_callV (As := [.int (iI 2)]) (rest := []) C hM (C_refuse (a0 := a0) (x := 2) Wb1 hS t_a0 ⟨by decide, by decide⟩ ) dX11_copyLines_75 kV_X11_102 rfl t_a0 rfl rfl (by decide) ck_12 rfl (Nat.le_of_ble_eq_true rfl) ⟨(Nat.le_of_ble_eq_true rfl), (Nat.le_of_ble_eq_true rfl)⟩ hph hph (show 0 + 0 = 0 from rfl) (by decide) (fun rh4 Lh4 clh4 lnh4 ivh4 rvh4 h4 => ?_)
              obtain ⟨f4, rfl, rfl, rfl, rfl, rfl, fl4, W5, rgf4, exf4, kp11f4, kp12f4, kp13f4, kp14f4, kp15f4, kp16f4⟩ := h4
              refine hv7 (show 1 ≤ ivb1 a0 11 ∧ ivb1 a0 11 ≤ 100 from Wb1.int t_a0 11) (show 1 ≤ ivb1 a0 12 ∧ ivb1 a0 12 ≤ 50 from Wb1.int t_a0 12) (show (-2147483648) ≤ ivb1 a0 13 ∧ ivb1 a0 13 ≤ 2147483647 from Wb1.int t_a0 13) (show (-2147483648) ≤ ivb1 a0 14 ∧ ivb1 a0 14 ≤ 2147483647 from Wb1.int t_a0 14) (show (-2147483648) ≤ ivb1 a0 15 ∧ ivb1 a0 15 ≤ 2147483647 from Wb1.int t_a0 15) (show (-2147483648) ≤ ivb1 a0 16 ∧ ivb1 a0 16 ≤ 2147483647 from Wb1.int t_a0 16) (Fb1.call hX0 fl4 rfl) (fun ri16 ri17 ri18 ri19 ri20 ri21 F3 => ?_)
              refine c_st (st2 := [.int (iI f4)]) rfl ?_
              refine hv13 (show ivh4 a0 11 = ivb1 a0 11 from kp11f4) (show ivh4 a0 12 = ivb1 a0 12 from kp12f4) (show ivh4 a0 13 = ivb1 a0 13 from kp13f4) (show ivh4 a0 14 = ivb1 a0 14 from kp14f4) (show ivh4 a0 15 = ivb1 a0 15 from kp15f4) (show ivh4 a0 16 = ivb1 a0 16 from kp16f4) (show f4 = -1 from exf4) (show 1 ≤ ivh4 a0 11 ∧ ivh4 a0 11 ≤ 100 from W5.int t_a0 11) (show 1 ≤ ivh4 a0 12 ∧ ivh4 a0 12 ≤ 50 from W5.int t_a0 12) (show (-2147483648) ≤ ivh4 a0 13 ∧ ivh4 a0 13 ≤ 2147483647 from W5.int t_a0 13) (show (-2147483648) ≤ ivh4 a0 14 ∧ ivh4 a0 14 ≤ 2147483647 from W5.int t_a0 14) (show (-2147483648) ≤ ivh4 a0 16 ∧ ivh4 a0 16 ≤ 2147483647 from W5.int t_a0 16) (show (-2147483648) ≤ ivh4 a0 15 ∧ ivh4 a0 15 ≤ 2147483647 from W5.int t_a0 15) (fun gk11f4 gk12f4 gk13f4 gk14f4 gk15f4 gk16f4 gf4 ri22 ri23 ri24 ri25 ri26 ri27 => ?_)
              exact c_iret C dX11_copyLines_78 rfl (by decide) (rom0 hph hph (by decide)) ⟨f4, rfl, rfl, rfl, rfl, rfl, F3, W5, ⟨by omega, by omega⟩, trivial, (gk11f4.trans hkp11), (gk12f4.trans hkp12), (gk13f4.trans hkp13), (gk14f4.trans hkp14), (gk16f4.trans hkp16), (CPP.stop hT hsA Wb1 tsA fl4 ⟨by omega, by omega⟩ (by omega) (by omega) (by omega) (Or.inl gaf2))⟩
            · subst oq1
              have tob1 := rgf2 ob1 rfl
              refine c_lv (lv2 := [(6, (va_rf f3)), (5, .ref ob1), (4, .int (iI k)), (0, .ref a0), (1, .int (iI i)), (2, .int (iI j)), (3, .int (iI n))]) [0, 1, 2, 3, 4, 5, 6] rfl ?_
              refine c_st (st2 := []) rfl ?_
              refine c_aloadr (j := 0) (r := f3) C dX11_copyLines_68 rfl ?_
              refine c_ifnonnull (r := f3) (tgt := 79) C dX11_copyLines_70 (by decide) (fun ob2 oq2 => ?_) (fun oq2 => ?_)
              · subst oq2
                have tob2 := rgf3 ob2 rfl
                refine c_lv (lv2 := [(6, .ref ob2), (5, .ref ob1), (4, .int (iI k)), (0, .ref a0), (1, .int (iI i)), (2, .int (iI j)), (3, .int (iI n))]) [0, 1, 2, 3, 4, 5, 6] rfl ?_
                refine c_st (st2 := []) rfl ?_
                have ri28 : 0 ≤ ivb1 ob1 2 ∧ ivb1 ob1 2 ≤ 1 := Wb1.int tob1 2
                refine c_aload (j := 1) (x := ob1) C dX11_copyLines_79 rfl ?_
                refine c_get (k := 2) C ck_3 dX11_copyLines_81 w4_56 (by decide) tob1 rfl rfl (by decide) rfl ?_
                refine c_if_eq (tgt := 93) C (r32_c (lo := 0) (hi := 1) ri28.1 ri28.2 (by decide) (by decide)) dX11_copyLines_84 (by decide) (fun c4 => ?_) (fun c4 => ?_)
                · refine c_aload (j := 0) (x := ob2) C dX11_copyLines_93 rfl ?_
                  refine c_aload (j := 1) (x := ob1) C dX11_copyLines_95 rfl ?_
                  refine d_callV (As := [.ref ob1]) (rest := []) C hM (G_become (a0 := ob2) (a1 := ob1) Wb1 hS tob2 tob1  ) dX11_copyLines_97 kV_X11_322 rfl tob2 rfl rfl (by decide) ck_3 rfl (Nat.le_of_ble_eq_true rfl) ⟨(Nat.le_of_ble_eq_true rfl), (Nat.le_of_ble_eq_true rfl)⟩ hph hph (show 0 + 0 = 0 from rfl) (by decide) (fun rh5 Lh5 clh5 lnh5 ivh5 rvh5 h5 => ?_)
                  obtain ⟨rfl, rfl, rfl, rfl, rfl, fl5, W6, exf5⟩ := h5
                  have F4 := Fb1.call hX0 fl5 rfl
                  refine c_st (st2 := []) rfl ?_
                  refine hv3 (show LFR L cl ivb1 rv ivh5 ob2 ∧ BCX ivb1 rv ivh5 ob2 ob1 from exf5) (show 0 ≤ ivh5 sA 1 ∧ ivh5 sA 1 ≤ 200 from W6.int tsA 1) (show ivh5 sA 1 = ivb1 sA 1 from fl5.i tsA rfl 1) (fun gf5 ri29 ie27 => ?_)
                  refine c_aload_n (j := 3) (x := a0) C dX11_copyLines_100 rfl ?_
                  refine c_dup C dX11_copyLines_101 rfl ?_
                  refine hv2 (show (-2147483648) ≤ ivh5 a0 15 ∧ ivh5 a0 15 ≤ 2147483647 from W6.int t_a0 15) (show ivh5 a0 15 = ivb1 a0 15 from fl5.i t_a0 rfl 15) (fun ri30 ie28 => ?_)
                  refine c_get (k := 15) C ck_12 dX11_copyLines_102 w2_59 (by decide) t_a0 rfl rfl (by decide) rfl ?_
                  refine c_iconst C dX11_copyLines_105 ?_
                  refine c_iadd C dX11_copyLines_106 ?_
                  refine c_put (z := (ivh5 a0 15) + 1) (k := 15) C ck_12 dX11_copyLines_107 w2_59 (by decide) rfl t_a0 rfl rfl (by decide) rfl (by rfl) (by rfl) (fun iv2 pq2 => ?_)
                  refine hv2 (W6.puti pq2 t_a0 (show (-2147483648) ≤ ((ivh5 a0 15) + 1) ∧ ((ivh5 a0 15) + 1) ≤ 2147483647 by omega) rfl) (F4.puti hX0 pq2 t_a0 rfl) (fun W7 F5 => ?_)
                  refine c_iinc (z := k) (j := 2) (lv2 := [(4, .int (iI (k + 1))), (6, .ref ob2), (5, .ref ob1), (0, .ref a0), (1, .int (iI i)), (2, .int (iI j)), (3, .int (iI n))]) C dX11_copyLines_110 rfl (by decide) rfl ?_
                  refine c_goto (tgt := 31) C dX11_copyLines_113 (by decide) ?_
                  refine hv19 (show (-2147483648) ≤ iv2 a0 15 ∧ iv2 a0 15 ≤ 2147483647 from W7.int t_a0 15) (show iv2 a0 15 = (ivh5 a0 15) + 1 from by rw [pq2]; exact up2_s) (show 1 ≤ iv2 a0 11 ∧ iv2 a0 11 ≤ 100 from W7.int t_a0 11) (show iv2 a0 11 = ivh5 a0 11 from by rw [pq2]; exact up2_j (by decide)) (show ivh5 a0 11 = ivb1 a0 11 from fl5.i t_a0 rfl 11) (show 1 ≤ iv2 a0 12 ∧ iv2 a0 12 ≤ 50 from W7.int t_a0 12) (show iv2 a0 12 = ivh5 a0 12 from by rw [pq2]; exact up2_j (by decide)) (show ivh5 a0 12 = ivb1 a0 12 from fl5.i t_a0 rfl 12) (show (-2147483648) ≤ iv2 a0 13 ∧ iv2 a0 13 ≤ 2147483647 from W7.int t_a0 13) (show iv2 a0 13 = ivh5 a0 13 from by rw [pq2]; exact up2_j (by decide)) (show ivh5 a0 13 = ivb1 a0 13 from fl5.i t_a0 rfl 13) (show (-2147483648) ≤ iv2 a0 14 ∧ iv2 a0 14 ≤ 2147483647 from W7.int t_a0 14) (show iv2 a0 14 = ivh5 a0 14 from by rw [pq2]; exact up2_j (by decide)) (show ivh5 a0 14 = ivb1 a0 14 from fl5.i t_a0 rfl 14) (show (-2147483648) ≤ iv2 a0 16 ∧ iv2 a0 16 ≤ 2147483647 from W7.int t_a0 16) (show iv2 a0 16 = ivh5 a0 16 from by rw [pq2]; exact up2_j (by decide)) (show ivh5 a0 16 = ivb1 a0 16 from fl5.i t_a0 rfl 16) (show 0 ≤ iv2 ob1 2 ∧ iv2 ob1 2 ≤ 1 from W7.int tob1 2) (show iv2 ob1 2 = ivh5 ob1 2 from by rw [pq2]; exact up2_k (ne_ty tob1 t_a0 (by decide))) (fun ri31 ie30 ri32 ie31 ie32 ri33 ie34 ie35 ri34 ie37 ie38 ri35 ie40 ie41 ri36 ie43 ie44 ri37 ie46 => ?_)
                  refine c_lv (lv2 := [(4, .int (iI (k + 1))), (0, .ref a0), (1, .int (iI i)), (2, .int (iI j)), (3, .int (iI n))]) [0, 3, 4, 5, 6] rfl ?_
                  exact ih1  (k + 1) _ (by omega) W7 F5  (by omega) (by show iv2 a0 15 = (k + 1); omega) (CPP.step hT hsA Wb1 tsA t_a0 gaf2 gaf3 (by omega) gf5.1 gf5.2 (by omega) W6 pq2 (by omega)) (ie31.trans (ie32.trans hkp11)) (ie34.trans (ie35.trans hkp12)) (ie37.trans (ie38.trans hkp13)) (ie40.trans (ie41.trans hkp14)) (ie43.trans (ie44.trans hkp16))
                · refine c_aload_n (j := 3) (x := a0) C dX11_copyLines_87 rfl ?_
                  refine c_iconst C dX11_copyLines_88 ?_
                  refine d_callV (As := [.int (iI 1)]) (rest := []) C hM (C_refuse (a0 := a0) (x := 1) Wb1 hS t_a0 ⟨by decide, by decide⟩ ) dX11_copyLines_89 kV_X11_102 rfl t_a0 rfl rfl (by decide) ck_12 rfl (Nat.le_of_ble_eq_true rfl) ⟨(Nat.le_of_ble_eq_true rfl), (Nat.le_of_ble_eq_true rfl)⟩ hph hph (show 0 + 0 = 0 from rfl) (by decide) (fun rh6 Lh6 clh6 lnh6 ivh6 rvh6 h6 => ?_)
                  obtain ⟨f6, rfl, rfl, rfl, rfl, rfl, fl6, W8, rgf6, exf6, kp11f6, kp12f6, kp13f6, kp14f6, kp15f6, kp16f6⟩ := h6
                  refine hv7 (show 1 ≤ ivb1 a0 11 ∧ ivb1 a0 11 ≤ 100 from Wb1.int t_a0 11) (show 1 ≤ ivb1 a0 12 ∧ ivb1 a0 12 ≤ 50 from Wb1.int t_a0 12) (show (-2147483648) ≤ ivb1 a0 13 ∧ ivb1 a0 13 ≤ 2147483647 from Wb1.int t_a0 13) (show (-2147483648) ≤ ivb1 a0 14 ∧ ivb1 a0 14 ≤ 2147483647 from Wb1.int t_a0 14) (show (-2147483648) ≤ ivb1 a0 15 ∧ ivb1 a0 15 ≤ 2147483647 from Wb1.int t_a0 15) (show (-2147483648) ≤ ivb1 a0 16 ∧ ivb1 a0 16 ≤ 2147483647 from Wb1.int t_a0 16) (Fb1.call hX0 fl6 rfl) (fun ri38 ri39 ri40 ri41 ri42 ri43 F6 => ?_)
                  refine c_st (st2 := [.int (iI f6)]) rfl ?_
                  refine hv13 (show ivh6 a0 11 = ivb1 a0 11 from kp11f6) (show ivh6 a0 12 = ivb1 a0 12 from kp12f6) (show ivh6 a0 13 = ivb1 a0 13 from kp13f6) (show ivh6 a0 14 = ivb1 a0 14 from kp14f6) (show ivh6 a0 15 = ivb1 a0 15 from kp15f6) (show ivh6 a0 16 = ivb1 a0 16 from kp16f6) (show f6 = -1 from exf6) (show 1 ≤ ivh6 a0 11 ∧ ivh6 a0 11 ≤ 100 from W8.int t_a0 11) (show 1 ≤ ivh6 a0 12 ∧ ivh6 a0 12 ≤ 50 from W8.int t_a0 12) (show (-2147483648) ≤ ivh6 a0 13 ∧ ivh6 a0 13 ≤ 2147483647 from W8.int t_a0 13) (show (-2147483648) ≤ ivh6 a0 14 ∧ ivh6 a0 14 ≤ 2147483647 from W8.int t_a0 14) (show (-2147483648) ≤ ivh6 a0 16 ∧ ivh6 a0 16 ≤ 2147483647 from W8.int t_a0 16) (show (-2147483648) ≤ ivh6 a0 15 ∧ ivh6 a0 15 ≤ 2147483647 from W8.int t_a0 15) (fun gk11f6 gk12f6 gk13f6 gk14f6 gk15f6 gk16f6 gf6 ri44 ri45 ri46 ri47 ri48 ri49 => ?_)
                  exact c_iret C dX11_copyLines_92 rfl (by decide) (rom0 hph hph (by decide)) ⟨f6, rfl, rfl, rfl, rfl, rfl, F6, W8, ⟨by omega, by omega⟩, trivial, (gk11f6.trans hkp11), (gk12f6.trans hkp12), (gk13f6.trans hkp13), (gk14f6.trans hkp14), (gk16f6.trans hkp16), (CPP.stop hT hsA Wb1 tsA fl6 ⟨by omega, by omega⟩ (by omega) (by omega) (by omega) (Or.inr (Or.inr ⟨_, gaf2, by omega⟩)))⟩
              · subst oq2
                refine c_lv (lv2 := [(6, .null), (5, .ref ob1), (4, .int (iI k)), (0, .ref a0), (1, .int (iI i)), (2, .int (iI j)), (3, .int (iI n))]) [0, 1, 2, 3, 4, 5, 6] rfl ?_
                refine c_st (st2 := []) rfl ?_
                refine c_aload_n (j := 3) (x := a0) C dX11_copyLines_73 rfl ?_
                refine c_iconst C dX11_copyLines_74 ?_
                refine d_callV (As := [.int (iI 2)]) (rest := []) C hM (C_refuse (a0 := a0) (x := 2) Wb1 hS t_a0 ⟨by decide, by decide⟩ ) dX11_copyLines_75 kV_X11_102 rfl t_a0 rfl rfl (by decide) ck_12 rfl (Nat.le_of_ble_eq_true rfl) ⟨(Nat.le_of_ble_eq_true rfl), (Nat.le_of_ble_eq_true rfl)⟩ hph hph (show 0 + 0 = 0 from rfl) (by decide) (fun rh7 Lh7 clh7 lnh7 ivh7 rvh7 h7 => ?_)
                obtain ⟨f7, rfl, rfl, rfl, rfl, rfl, fl7, W9, rgf7, exf7, kp11f7, kp12f7, kp13f7, kp14f7, kp15f7, kp16f7⟩ := h7
                refine hv7 (show 1 ≤ ivb1 a0 11 ∧ ivb1 a0 11 ≤ 100 from Wb1.int t_a0 11) (show 1 ≤ ivb1 a0 12 ∧ ivb1 a0 12 ≤ 50 from Wb1.int t_a0 12) (show (-2147483648) ≤ ivb1 a0 13 ∧ ivb1 a0 13 ≤ 2147483647 from Wb1.int t_a0 13) (show (-2147483648) ≤ ivb1 a0 14 ∧ ivb1 a0 14 ≤ 2147483647 from Wb1.int t_a0 14) (show (-2147483648) ≤ ivb1 a0 15 ∧ ivb1 a0 15 ≤ 2147483647 from Wb1.int t_a0 15) (show (-2147483648) ≤ ivb1 a0 16 ∧ ivb1 a0 16 ≤ 2147483647 from Wb1.int t_a0 16) (Fb1.call hX0 fl7 rfl) (fun ri50 ri51 ri52 ri53 ri54 ri55 F7 => ?_)
                refine c_st (st2 := [.int (iI f7)]) rfl ?_
                refine hv13 (show ivh7 a0 11 = ivb1 a0 11 from kp11f7) (show ivh7 a0 12 = ivb1 a0 12 from kp12f7) (show ivh7 a0 13 = ivb1 a0 13 from kp13f7) (show ivh7 a0 14 = ivb1 a0 14 from kp14f7) (show ivh7 a0 15 = ivb1 a0 15 from kp15f7) (show ivh7 a0 16 = ivb1 a0 16 from kp16f7) (show f7 = -1 from exf7) (show 1 ≤ ivh7 a0 11 ∧ ivh7 a0 11 ≤ 100 from W9.int t_a0 11) (show 1 ≤ ivh7 a0 12 ∧ ivh7 a0 12 ≤ 50 from W9.int t_a0 12) (show (-2147483648) ≤ ivh7 a0 13 ∧ ivh7 a0 13 ≤ 2147483647 from W9.int t_a0 13) (show (-2147483648) ≤ ivh7 a0 14 ∧ ivh7 a0 14 ≤ 2147483647 from W9.int t_a0 14) (show (-2147483648) ≤ ivh7 a0 16 ∧ ivh7 a0 16 ≤ 2147483647 from W9.int t_a0 16) (show (-2147483648) ≤ ivh7 a0 15 ∧ ivh7 a0 15 ≤ 2147483647 from W9.int t_a0 15) (fun gk11f7 gk12f7 gk13f7 gk14f7 gk15f7 gk16f7 gf7 ri56 ri57 ri58 ri59 ri60 ri61 => ?_)
                exact c_iret C dX11_copyLines_78 rfl (by decide) (rom0 hph hph (by decide)) ⟨f7, rfl, rfl, rfl, rfl, rfl, F7, W9, ⟨by omega, by omega⟩, trivial, (gk11f7.trans hkp11), (gk12f7.trans hkp12), (gk13f7.trans hkp13), (gk14f7.trans hkp14), (gk16f7.trans hkp16), (CPP.stop hT hsA Wb1 tsA fl7 ⟨by omega, by omega⟩ (by omega) (by omega) (by omega) (Or.inr (Or.inl gaf3)))⟩
      refine hv12 (show (-2147483648) ≤ iv1 a0 15 ∧ iv1 a0 15 ≤ 2147483647 from W1.int t_a0 15) (show iv1 a0 15 = 0 from by rw [pq1]; exact up2_s) (show 1 ≤ iv1 a0 11 ∧ iv1 a0 11 ≤ 100 from W1.int t_a0 11) (show iv1 a0 11 = iv a0 11 from by rw [pq1]; exact up2_j (by decide)) (show 1 ≤ iv1 a0 12 ∧ iv1 a0 12 ≤ 50 from W1.int t_a0 12) (show iv1 a0 12 = iv a0 12 from by rw [pq1]; exact up2_j (by decide)) (show (-2147483648) ≤ iv1 a0 13 ∧ iv1 a0 13 ≤ 2147483647 from W1.int t_a0 13) (show iv1 a0 13 = iv a0 13 from by rw [pq1]; exact up2_j (by decide)) (show (-2147483648) ≤ iv1 a0 14 ∧ iv1 a0 14 ≤ 2147483647 from W1.int t_a0 14) (show iv1 a0 14 = iv a0 14 from by rw [pq1]; exact up2_j (by decide)) (show (-2147483648) ≤ iv1 a0 16 ∧ iv1 a0 16 ≤ 2147483647 from W1.int t_a0 16) (show iv1 a0 16 = iv a0 16 from by rw [pq1]; exact up2_j (by decide)) (fun ri62 ie72 ri63 ie73 ri64 ie74 ri65 ie75 ri66 ie76 ri67 ie77 => ?_)
      refine c_lv (lv2 := [(4, .int (iI 0)), (0, .ref a0), (1, .int (iI i)), (2, .int (iI j)), (3, .int (iI n))]) [0, 1, 2, 3, 4] rfl ?_
      exact Lp1 203 0 _ (by omega) W1 F1  (by omega) ie72 (CPP.zero hsA hW tsA t_a0 pq1 rfl) ie73 ie74 ie75 ie76 ie77
    · refine c_aload_n (j := 0) (x := a0) C dX11_copyLines_17 rfl ?_
      refine c_iconst C dX11_copyLines_18 ?_
      refine d_callV (As := [.int (iI 5)]) (rest := []) C hM (C_refuse (a0 := a0) (x := 5) hW hS t_a0 ⟨by decide, by decide⟩ ) dX11_copyLines_19 kV_X11_102 rfl t_a0 rfl rfl (by decide) ck_12 rfl (Nat.le_of_ble_eq_true rfl) ⟨(Nat.le_of_ble_eq_true rfl), (Nat.le_of_ble_eq_true rfl)⟩ hph hph (show 0 + 0 = 0 from rfl) (by decide) (fun rh8 Lh8 clh8 lnh8 ivh8 rvh8 h8 => ?_)
      obtain ⟨f8, rfl, rfl, rfl, rfl, rfl, fl8, W10, rgf8, exf8, kp11f8, kp12f8, kp13f8, kp14f8, kp15f8, kp16f8⟩ := h8
      refine hv6 (show 1 ≤ iv a0 11 ∧ iv a0 11 ≤ 100 from hW.int t_a0 11) (show 1 ≤ iv a0 12 ∧ iv a0 12 ≤ 50 from hW.int t_a0 12) (show (-2147483648) ≤ iv a0 13 ∧ iv a0 13 ≤ 2147483647 from hW.int t_a0 13) (show (-2147483648) ≤ iv a0 14 ∧ iv a0 14 ≤ 2147483647 from hW.int t_a0 14) (show (-2147483648) ≤ iv a0 16 ∧ iv a0 16 ≤ 2147483647 from hW.int t_a0 16) (hF0.call hX0 fl8 rfl) (fun ri68 ri69 ri70 ri71 ri72 F8 => ?_)
      refine c_st (st2 := [.int (iI f8)]) rfl ?_
      refine hv13 (show ivh8 a0 11 = iv a0 11 from kp11f8) (show ivh8 a0 12 = iv a0 12 from kp12f8) (show ivh8 a0 13 = iv a0 13 from kp13f8) (show ivh8 a0 14 = iv a0 14 from kp14f8) (show ivh8 a0 15 = iv a0 15 from kp15f8) (show ivh8 a0 16 = iv a0 16 from kp16f8) (show f8 = -1 from exf8) (show 1 ≤ ivh8 a0 11 ∧ ivh8 a0 11 ≤ 100 from W10.int t_a0 11) (show 1 ≤ ivh8 a0 12 ∧ ivh8 a0 12 ≤ 50 from W10.int t_a0 12) (show (-2147483648) ≤ ivh8 a0 13 ∧ ivh8 a0 13 ≤ 2147483647 from W10.int t_a0 13) (show (-2147483648) ≤ ivh8 a0 14 ∧ ivh8 a0 14 ≤ 2147483647 from W10.int t_a0 14) (show (-2147483648) ≤ ivh8 a0 16 ∧ ivh8 a0 16 ≤ 2147483647 from W10.int t_a0 16) (show (-2147483648) ≤ ivh8 a0 15 ∧ ivh8 a0 15 ≤ 2147483647 from W10.int t_a0 15) (fun gk11f8 gk12f8 gk13f8 gk14f8 gk15f8 gk16f8 gf8 ri73 ri74 ri75 ri76 ri77 ri78 => ?_)
      exact c_iret C dX11_copyLines_22 rfl (by decide) (rom0 hph hph (by decide)) ⟨f8, rfl, rfl, rfl, rfl, rfl, F8, W10, ⟨by omega, by omega⟩, trivial, gk11f8, gk12f8, gk13f8, gk14f8, gk16f8, (CPP.bad hsA hW tsA fl8 (by omega) (by omega) (by omega))⟩
  · refine c_aload_n (j := 0) (x := a0) C dX11_copyLines_6 rfl ?_
    refine c_bipush (z := 6) C dX11_copyLines_7 (by decide) ?_
    refine d_callV (As := [.int (iI 6)]) (rest := []) C hM (C_refuse (a0 := a0) (x := 6) hW hS t_a0 ⟨by decide, by decide⟩ ) dX11_copyLines_9 kV_X11_102 rfl t_a0 rfl rfl (by decide) ck_12 rfl (Nat.le_of_ble_eq_true rfl) ⟨(Nat.le_of_ble_eq_true rfl), (Nat.le_of_ble_eq_true rfl)⟩ hph hph (show 0 + 0 = 0 from rfl) (by decide) (fun rh9 Lh9 clh9 lnh9 ivh9 rvh9 h9 => ?_)
    obtain ⟨f9, rfl, rfl, rfl, rfl, rfl, fl9, W11, rgf9, exf9, kp11f9, kp12f9, kp13f9, kp14f9, kp15f9, kp16f9⟩ := h9
    refine hv6 (show 1 ≤ iv a0 11 ∧ iv a0 11 ≤ 100 from hW.int t_a0 11) (show 1 ≤ iv a0 12 ∧ iv a0 12 ≤ 50 from hW.int t_a0 12) (show (-2147483648) ≤ iv a0 13 ∧ iv a0 13 ≤ 2147483647 from hW.int t_a0 13) (show (-2147483648) ≤ iv a0 14 ∧ iv a0 14 ≤ 2147483647 from hW.int t_a0 14) (show (-2147483648) ≤ iv a0 16 ∧ iv a0 16 ≤ 2147483647 from hW.int t_a0 16) (hF0.call hX0 fl9 rfl) (fun ri79 ri80 ri81 ri82 ri83 F9 => ?_)
    refine c_st (st2 := [.int (iI f9)]) rfl ?_
    refine hv13 (show ivh9 a0 11 = iv a0 11 from kp11f9) (show ivh9 a0 12 = iv a0 12 from kp12f9) (show ivh9 a0 13 = iv a0 13 from kp13f9) (show ivh9 a0 14 = iv a0 14 from kp14f9) (show ivh9 a0 15 = iv a0 15 from kp15f9) (show ivh9 a0 16 = iv a0 16 from kp16f9) (show f9 = -1 from exf9) (show 1 ≤ ivh9 a0 11 ∧ ivh9 a0 11 ≤ 100 from W11.int t_a0 11) (show 1 ≤ ivh9 a0 12 ∧ ivh9 a0 12 ≤ 50 from W11.int t_a0 12) (show (-2147483648) ≤ ivh9 a0 13 ∧ ivh9 a0 13 ≤ 2147483647 from W11.int t_a0 13) (show (-2147483648) ≤ ivh9 a0 14 ∧ ivh9 a0 14 ≤ 2147483647 from W11.int t_a0 14) (show (-2147483648) ≤ ivh9 a0 16 ∧ ivh9 a0 16 ≤ 2147483647 from W11.int t_a0 16) (show (-2147483648) ≤ ivh9 a0 15 ∧ ivh9 a0 15 ≤ 2147483647 from W11.int t_a0 15) (fun gk11f9 gk12f9 gk13f9 gk14f9 gk15f9 gk16f9 gf9 ri84 ri85 ri86 ri87 ri88 ri89 => ?_)
    exact c_iret C dX11_copyLines_12 rfl (by decide) (rom0 hph hph (by decide)) ⟨f9, rfl, rfl, rfl, rfl, rfl, F9, W11, ⟨by omega, by omega⟩, trivial, gk11f9, gk12f9, gk13f9, gk14f9, gk16f9, (CPP.bad hsA hW tsA fl9 (by omega) (by omega) (by omega))⟩
set_option maxHeartbeats 4000000 in
set_option maxRecDepth 100000 in
theorem G_dots {l : Launch} {G : GT} {mi : Nat} {sk : Nat → Nat} {L : List Nat} {cl ln : Nat → Nat} {iv : Nat → Nat → Int} {rv : Nat → Nat → Option Nat}  {a0 : Nat} (hW : WT (g0 G) sk L cl ln iv rv) (hS : SKL sk L cl) (t_a0 : ty L cl a0 19)  : Mc l G mi (Phi (g0 G) sk) PHM yX2_dots cX2_dots 3 (some .int) 1 [.ref a0] L cl ln iv rv 0 (fun v L2 cl2 ln2 iv2 rv2 => ∃ f : Int, v = some (.int (iI f)) ∧ L = L2 ∧ cl = cl2 ∧ ln = ln2 ∧ iv = iv2 ∧ rv = rv2 ∧ (-2147483648 ≤ f ∧ f ≤ 2147483647) ∧ (DTX iv rv a0 f)) := by
  refine Mc.mk (by decide) (Nat.le_of_ble_eq_true rfl) ?_
  intro p e s m args below meth c A C hM
  refine hv4 (Phi.le hW hS) (show XT L cl ln L cl ln from XT.refl) (show fT [] L cl iv rv iv rv from fT.refl) (show 0 ≤ iv a0 1 ∧ iv a0 1 ≤ 200 from hW.int t_a0 1) (fun hph hX0 hF0 ri1 => ?_)
  refine c_iconst C dX2_dots_0 ?_
  refine c_istore_n (lv2 := [(1, .int (iI 0)), (0, .ref a0)]) C dX2_dots_1 (by decide) rfl ?_
  refine c_iconst C dX2_dots_2 ?_
  refine c_istore_n (lv2 := [(2, .int (iI 0)), (1, .int (iI 0)), (0, .ref a0)]) C dX2_dots_3 (by decide) rfl ?_
  have Lp1 : ∀ (nn : Nat) (s1 k : Int) , 201 - k < (nn : Int) → (-2147483648 ≤ s1 ∧ s1 ≤ 2147483647) → (0 ≤ k ∧ k ≤ iv a0 1) → (DTK iv rv a0 k s1) → cw p l e 1 ((PHM) + 0 - ((Phi (g0 G) sk) ln rv)) s m args below meth c G A 3 (MQ below (Qu G A (Qp G (Phi (g0 G) sk) ((Phi (g0 G) sk) ln rv) 0 (fun v L2 cl2 ln2 iv2 rv2 => ∃ f : Int, v = some (.int (iI f)) ∧ L = L2 ∧ cl = cl2 ∧ ln = ln2 ∧ iv = iv2 ∧ rv = rv2 ∧ (-2147483648 ≤ f ∧ f ≤ 2147483647) ∧ (DTX iv rv a0 f)))) args s (((PHM) + 0 - ((Phi (g0 G) sk) ln rv)) / 16) ((PHM) + 0 - ((Phi (g0 G) sk) ln rv)) A) (Phi (g0 G) sk) ((Phi (g0 G) sk) ln rv) L cl ln iv rv 0 4 [(2, .int (iI k)), (1, .int (iI s1)), (0, .ref a0)] [] := by
    intro nn
    induction nn with
    | zero =>
      intro  s1 k  hm   hs hk hD
      exact absurd hm (by omega)
    | succ nn ih1 =>
      intro  s1 k  hm   hs hk hD
      refine c_iload_n (j := 0) C dX2_dots_4 rfl ?_
      refine c_aload_n (j := 2) (x := a0) C dX2_dots_5 rfl ?_
      refine c_get (k := 1) C ck_3 dX2_dots_6 w4_49 (by decide) t_a0 rfl rfl (by decide) rfl ?_
      refine c_icmp_ge (tgt := 30) C ⟨by omega, by omega⟩ (r32_c (lo := 0) (hi := 200) ri1.1 ri1.2 (by decide) (by decide)) dX2_dots_9 (by decide) (fun c1 => ?_) (fun c1 => ?_)
      · refine c_iload_n (j := 1) C dX2_dots_30 rfl ?_
        exact c_iret C dX2_dots_31 rfl (by decide) (rom0 hph hph (by decide)) ⟨s1, rfl, rfl, rfl, rfl, rfl, rfl, ⟨by omega, by omega⟩, (DTX.fin hD (by omega))⟩
      · refine c_iload_n (j := 1) C dX2_dots_12 rfl ?_
        refine c_aload_n (j := 2) (x := a0) C dX2_dots_13 rfl ?_
        obtain ⟨rb1, rq1, trb1⟩ := hW.ref t_a0 0 rfl rfl rfl
        have lnrb1 : 200 ≤ ln rb1 ∧ ln rb1 ≤ 200 := hW.len trb1 rfl
        refine c_getr (k := 0) C ck_3 dX2_dots_14 w4_44 (by decide) t_a0 rfl rfl (by decide) rfl rq1 ?_
        refine c_st (st2 := [.ref rb1, .int (iI s1)]) rfl ?_
        refine c_iload_n (j := 0) C dX2_dots_17 rfl ?_
        have ll1 : 200 ≤ ln rb1 ∧ ln rb1 ≤ 200 := hW.len trb1 rfl
        refine c_iald C dX2_dots_18 trb1 rfl (by omega) (by omega) (by omega) ?_
        have ri2 : (-2147483648) ≤ iv rb1 k.toNat ∧ iv rb1 k.toNat ≤ 2147483647 := hW.int trb1 k.toNat
        refine c_callS0 (As := [.int (iI (iv rb1 k.toNat))]) (rest := [.int (iI s1)]) C (fun L E => s_bitCount (iI (iv rb1 k.toNat))) dX2_dots_19 kS_X2_42 rfl rfl (Nat.le_of_ble_eq_true rfl) ⟨(Nat.le_of_ble_eq_true rfl), (Nat.le_of_ble_eq_true rfl)⟩ (rom0 hph hph (by decide)) ?_
        obtain ⟨zz1, hzz1, ezz1⟩ := iI_of (bcn (iI (iv rb1 k.toNat)))
        refine c_st (st2 := [.int (iI zz1), .int (iI s1)]) (by rw [ezz1]) ?_
        refine c_iadd C dX2_dots_22 ?_
        obtain ⟨zz2, hzz2, ezz2⟩ := iI_of (iI (s1 + zz1))
        refine c_st (st2 := [.int (iI zz2)]) (by rw [ezz2]) ?_
        refine c_istore_n (lv2 := [(1, .int (iI zz2)), (2, .int (iI k)), (0, .ref a0)]) C dX2_dots_23 (by decide) rfl ?_
        refine c_iinc (z := k) (j := 1) (lv2 := [(2, .int (iI (k + 1))), (1, .int (iI zz2)), (0, .ref a0)]) C dX2_dots_24 rfl (by decide) rfl ?_
        refine c_goto (tgt := 4) C dX2_dots_27 (by decide) ?_
        refine c_lv (lv2 := [(2, .int (iI (k + 1))), (1, .int (iI zz2)), (0, .ref a0)]) [0, 1, 2] rfl ?_
        exact ih1  zz2 (k + 1)  (by omega)   (by omega) (by omega) (hD.step rq1 (by omega) ezz1 ezz2)
  refine c_lv (lv2 := [(2, .int (iI 0)), (1, .int (iI 0)), (0, .ref a0)]) [0, 1, 2] rfl ?_
  exact Lp1 203 0 0  (by omega)   (by omega) (by omega) (DTK.zero rfl rfl)
set_option maxHeartbeats 4000000 in
set_option maxRecDepth 100000 in
theorem G_emboss {l : Launch} {G : GT} {mi : Nat} {sk : Nat → Nat} {L : List Nat} {cl ln : Nat → Nat} {iv : Nat → Nat → Int} {rv : Nat → Nat → Option Nat}  {a0 : Nat} {i : Int} {n : Int} (hW : WT (g0 G) sk L cl ln iv rv) (hS : SKL sk L cl) (t_a0 : ty L cl a0 1) (h_i : -2147483648 ≤ i ∧ i ≤ 2147483647) (h_n : -2147483648 ≤ n ∧ n ≤ 2147483647)  : Mc l G mi (Phi (g0 G) sk) PHM yX11_emboss cX11_emboss 6 (some .int) 2 [.ref a0, .int (iI i), .int (iI n)] L cl ln iv rv 0 (fun v L2 cl2 ln2 iv2 rv2 => ∃ f : Int, v = some (.int (iI f)) ∧ L = L2 ∧ cl = cl2 ∧ ln = ln2 ∧ rv = rv2 ∧ fT [1] L cl iv rv iv2 rv2 ∧ WT (g0 G) sk L2 cl2 ln2 iv2 rv2 ∧ (-2147483648 ≤ f ∧ f ≤ 2147483647) ∧ (True) ∧ iv2 a0 11 = iv a0 11 ∧ iv2 a0 12 = iv a0 12 ∧ iv2 a0 13 = iv a0 13 ∧ iv2 a0 14 = iv a0 14 ∧ iv2 a0 15 = iv a0 15 ∧ (EPX iv rv iv2 a0 i n (iv a0 11) f)) := by
  refine Mc.mk (by decide) (Nat.le_of_ble_eq_true rfl) ?_
  intro p e s m args below meth c A C hM
  refine hv3 (Phi.le hW hS) (show XT L cl ln L cl ln from XT.refl) (show fT [1] L cl iv rv iv rv from fT.refl) (fun hph hX0 hF0 => ?_)
  obtain ⟨sA, hsA, tsA⟩ := hW.ref t_a0 9 rfl rfl rfl
  refine hv3 (show 0 ≤ iv sA 1 ∧ iv sA 1 ≤ 200 from hW.int tsA 1) (show (-2147483648) ≤ iv a0 16 ∧ iv a0 16 ≤ 2147483647 from hW.int t_a0 16) (show 1 ≤ iv a0 11 ∧ iv a0 11 ≤ 100 from hW.int t_a0 11) (fun ri1 ri2 ri3 => ?_)
  refine c_iload_n (j := 2) C dX11_emboss_0 rfl ?_
  refine c_sipush (z := 200) C dX11_emboss_1 (by decide) ?_
  refine c_icmp_le (tgt := 14) C ⟨by omega, by omega⟩ ⟨by decide, by decide⟩ dX11_emboss_4 (by decide) (fun c1 => ?_) (fun c1 => ?_)
  · refine c_iload_n (j := 2) C dX11_emboss_14 rfl ?_
    refine c_if_ge (tgt := 24) C ⟨by omega, by omega⟩ dX11_emboss_15 (by decide) (fun c2 => ?_) (fun c2 => ?_)
    · refine c_iconst C dX11_emboss_24 ?_
      refine c_istore_n (lv2 := [(3, .int (iI 0)), (0, .ref a0), (1, .int (iI i)), (2, .int (iI n))]) C dX11_emboss_25 (by decide) rfl ?_
      refine c_iconst C dX11_emboss_26 ?_
      refine c_istore (lv2 := [(4, .int (iI 0)), (3, .int (iI 0)), (0, .ref a0), (1, .int (iI i)), (2, .int (iI n))]) C dX11_emboss_27 (by decide) rfl ?_
      have Lp1 : ∀ (nn : Nat) (s1 k : Int) (ivb1 : Nat → Nat → Int) , 201 - k < (nn : Int) → WT (g0 G) sk L cl ln ivb1 rv → fT [1] L cl iv rv ivb1 rv → (-2147483648 ≤ s1 ∧ s1 ≤ 2147483647) → (0 ≤ k ∧ k ≤ n ∧ n ≤ 200) → (iI (ivb1 a0 16) = iI (iv a0 16) + iI k) → (EP1 iv rv a0 i (iv a0 11) k s1) → (ivb1 a0 11 = iv a0 11) → (ivb1 a0 12 = iv a0 12) → (ivb1 a0 13 = iv a0 13) → (ivb1 a0 14 = iv a0 14) → (ivb1 a0 15 = iv a0 15) → cw p l e 2 ((PHM) + 0 - ((Phi (g0 G) sk) ln rv)) s m args below meth c G A 6 (MQ below (Qu G A (Qp G (Phi (g0 G) sk) ((Phi (g0 G) sk) ln rv) 0 (fun v L2 cl2 ln2 iv2 rv2 => ∃ f : Int, v = some (.int (iI f)) ∧ L = L2 ∧ cl = cl2 ∧ ln = ln2 ∧ rv = rv2 ∧ fT [1] L cl iv rv iv2 rv2 ∧ WT (g0 G) sk L2 cl2 ln2 iv2 rv2 ∧ (-2147483648 ≤ f ∧ f ≤ 2147483647) ∧ (True) ∧ iv2 a0 11 = iv a0 11 ∧ iv2 a0 12 = iv a0 12 ∧ iv2 a0 13 = iv a0 13 ∧ iv2 a0 14 = iv a0 14 ∧ iv2 a0 15 = iv a0 15 ∧ (EPX iv rv iv2 a0 i n (iv a0 11) f)))) args s (((PHM) + 0 - ((Phi (g0 G) sk) ln rv)) / 16) ((PHM) + 0 - ((Phi (g0 G) sk) ln rv)) A) (Phi (g0 G) sk) ((Phi (g0 G) sk) ln rv) L cl ln ivb1 rv 0 29 [(3, .int (iI s1)), (4, .int (iI k)), (0, .ref a0), (1, .int (iI i)), (2, .int (iI n))] [] := by
        intro nn
        induction nn with
        | zero =>
          intro  s1 k ivb1 hm Wb1 Fb1  hs hk h16 hE hkp11 hkp12 hkp13 hkp14 hkp15
          exact absurd hm (by omega)
        | succ nn ih1 =>
          intro  s1 k ivb1 hm Wb1 Fb1  hs hk h16 hE hkp11 hkp12 hkp13 hkp14 hkp15
          refine hv2 (show (-2147483648) ≤ ivb1 a0 16 ∧ ivb1 a0 16 ≤ 2147483647 from Wb1.int t_a0 16) (show 1 ≤ ivb1 a0 11 ∧ ivb1 a0 11 ≤ 100 from Wb1.int t_a0 11) (fun ri4 ri5 => ?_)
          refine c_iload (j := 1) C dX11_emboss_29 rfl ?_
          refine c_iload_n (j := 4) C dX11_emboss_31 rfl ?_
          refine c_icmp_ge (tgt := 121) C ⟨by omega, by omega⟩ ⟨by omega, by omega⟩ dX11_emboss_32 (by decide) (fun c3 => ?_) (fun c3 => ?_)
          · refine c_aload_n (j := 2) (x := a0) C dX11_emboss_121 rfl ?_
            refine c_iload_n (j := 0) C dX11_emboss_122 rfl ?_
            refine d_callV (As := [.int (iI s1)]) (rest := []) C hM (C_done (a0 := a0) (x := s1) Wb1 hS t_a0 (by omega) ) dX11_emboss_123 kV_X11_109 rfl t_a0 rfl rfl (by decide) ck_12 rfl (Nat.le_of_ble_eq_true rfl) ⟨(Nat.le_of_ble_eq_true rfl), (Nat.le_of_ble_eq_true rfl)⟩ hph hph (show 0 + 0 = 0 from rfl) (by decide) (fun rh1 Lh1 clh1 lnh1 ivh1 rvh1 h1 => ?_)
            obtain ⟨f1, rfl, rfl, rfl, rfl, rfl, fl1, W1, rgf1, exf1, kp11f1, kp12f1, kp13f1, kp14f1, kp15f1, kp16f1⟩ := h1
            refine hv5 (show 1 ≤ ivb1 a0 12 ∧ ivb1 a0 12 ≤ 50 from Wb1.int t_a0 12) (show (-2147483648) ≤ ivb1 a0 13 ∧ ivb1 a0 13 ≤ 2147483647 from Wb1.int t_a0 13) (show (-2147483648) ≤ ivb1 a0 14 ∧ ivb1 a0 14 ≤ 2147483647 from Wb1.int t_a0 14) (show (-2147483648) ≤ ivb1 a0 15 ∧ ivb1 a0 15 ≤ 2147483647 from Wb1.int t_a0 15) (Fb1.call hX0 fl1 rfl) (fun ri6 ri7 ri8 ri9 F1 => ?_)
            refine c_st (st2 := [.int (iI f1)]) rfl ?_
            refine hv13 (show ivh1 a0 11 = ivb1 a0 11 from kp11f1) (show ivh1 a0 12 = ivb1 a0 12 from kp12f1) (show ivh1 a0 13 = ivb1 a0 13 from kp13f1) (show ivh1 a0 14 = ivb1 a0 14 from kp14f1) (show ivh1 a0 15 = ivb1 a0 15 from kp15f1) (show ivh1 a0 16 = ivb1 a0 16 from kp16f1) (show f1 = s1 from exf1) (show 1 ≤ ivh1 a0 11 ∧ ivh1 a0 11 ≤ 100 from W1.int t_a0 11) (show 1 ≤ ivh1 a0 12 ∧ ivh1 a0 12 ≤ 50 from W1.int t_a0 12) (show (-2147483648) ≤ ivh1 a0 13 ∧ ivh1 a0 13 ≤ 2147483647 from W1.int t_a0 13) (show (-2147483648) ≤ ivh1 a0 14 ∧ ivh1 a0 14 ≤ 2147483647 from W1.int t_a0 14) (show (-2147483648) ≤ ivh1 a0 15 ∧ ivh1 a0 15 ≤ 2147483647 from W1.int t_a0 15) (show (-2147483648) ≤ ivh1 a0 16 ∧ ivh1 a0 16 ≤ 2147483647 from W1.int t_a0 16) (fun gk11f1 gk12f1 gk13f1 gk14f1 gk15f1 gk16f1 gf1 ri10 ri11 ri12 ri13 ri14 ri15 => ?_)
            exact c_iret C dX11_emboss_126 rfl (by decide) (rom0 hph hph (by decide)) ⟨f1, rfl, rfl, rfl, rfl, rfl, F1, W1, ⟨by omega, by omega⟩, trivial, (gk11f1.trans hkp11), (gk12f1.trans hkp12), (gk13f1.trans hkp13), (gk14f1.trans hkp14), (gk15f1.trans hkp15), (EPX.ok hE (by omega) ⟨by omega, by omega⟩ (by omega) (by rw [show ivh1 a0 16 = ivb1 a0 16 by omega]; exact h16))⟩
          · refine c_aload_n (j := 2) (x := a0) C dX11_emboss_35 rfl ?_
            refine c_dup C dX11_emboss_36 rfl ?_
            refine c_get (k := 16) C ck_12 dX11_emboss_37 w2_60 (by decide) t_a0 rfl rfl (by decide) rfl ?_
            refine c_iconst C dX11_emboss_40 ?_
            refine c_iadd C dX11_emboss_41 ?_
            obtain ⟨zz1, hzz1, ezz1⟩ := iI_of (iI ((ivb1 a0 16) + 1))
            refine c_st (st2 := [.int (iI zz1), .ref a0]) (by rw [ezz1]) ?_
            refine c_put (z := zz1) (k := 16) C ck_12 dX11_emboss_42 w2_60 (by decide) rfl t_a0 rfl rfl (by decide) rfl (by rfl) (by rfl) (fun iv1 pq1 => ?_)
            refine hv2 (Wb1.puti pq1 t_a0 (show (-2147483648) ≤ zz1 ∧ zz1 ≤ 2147483647 by omega) rfl) (Fb1.puti hX0 pq1 t_a0 rfl) (fun W2 F2 => ?_)
            refine c_aload_n (j := 2) (x := a0) C dX11_emboss_45 rfl ?_
            refine c_getr (k := 9) C ck_12 dX11_emboss_46 w2_53 (by decide) t_a0 rfl rfl (by decide) rfl hsA ?_
            refine c_st (st2 := [.ref sA]) rfl ?_
            refine c_iload_n (j := 3) C dX11_emboss_49 rfl ?_
            refine c_iload (j := 1) C dX11_emboss_50 rfl ?_
            refine c_iadd C dX11_emboss_52 ?_
            obtain ⟨zz2, hzz2, ezz2⟩ := iI_of (iI (i + k))
            refine c_st (st2 := [.int (iI zz2), .ref sA]) (by rw [ezz2]) ?_
            refine hv3 (show 0 ≤ iv1 sA 1 ∧ iv1 sA 1 ≤ 200 from W2.int tsA 1) (show iv1 sA 1 = ivb1 sA 1 from by rw [pq1]; exact up2_k (ne_ty tsA t_a0 (by decide))) (show ivb1 sA 1 = iv sA 1 from Fb1.i tsA rfl 1) (fun ri16 ie13 ie14 => ?_)
            refine d_callV (As := [.int (iI zz2)]) (rest := []) C hM (G_sat (a0 := sA) (i := zz2) W2 hS tsA (by omega) ) dX11_emboss_53 kV_X11_308 rfl tsA rfl rfl (by decide) ck_8 rfl (Nat.le_of_ble_eq_true rfl) ⟨(Nat.le_of_ble_eq_true rfl), (Nat.le_of_ble_eq_true rfl)⟩ hph hph (show 0 + 0 = 0 from rfl) (by decide) (fun rh2 Lh2 clh2 lnh2 ivh2 rvh2 h2 => ?_)
            obtain ⟨f2, rfl, rfl, rfl, rfl, rfl, rfl, rgf2, exf2⟩ := h2
            refine c_st (st2 := [(va_rf f2)]) rfl ?_
            have gf2 : SATX iv1 rv sA zz2 f2 := exf2
            have gaf2 := SATX.up (iv := iv) (SATX.wr gf2 (wr_add (x := i + k) hzz2 ⟨by omega, by omega⟩ ezz2) (by omega)) (by omega)
            refine c_astorer (r := f2) (lv2 := [(5, (va_rf f2)), (3, .int (iI s1)), (4, .int (iI k)), (0, .ref a0), (1, .int (iI i)), (2, .int (iI n))]) C dX11_emboss_56 (by decide) rfl ?_
            refine c_aloadr (j := 0) (r := f2) C dX11_emboss_58 rfl ?_
            refine c_ifnonnull (r := f2) (tgt := 69) C dX11_emboss_60 (by decide) (fun ob1 oq1 => ?_) (fun oq1 => ?_)
            · subst oq1
              have tob1 := rgf2 ob1 rfl
              refine c_lv (lv2 := [(5, .ref ob1), (3, .int (iI s1)), (4, .int (iI k)), (0, .ref a0), (1, .int (iI i)), (2, .int (iI n))]) [0, 1, 2, 3, 4, 5] rfl ?_
              refine c_st (st2 := []) rfl ?_
              refine hv8 (show 0 ≤ iv1 ob1 1 ∧ iv1 ob1 1 ≤ 200 from W2.int tob1 1) (show iv1 ob1 1 = ivb1 ob1 1 from by rw [pq1]; exact up2_k (ne_ty tob1 t_a0 (by decide))) (show ivb1 ob1 1 = iv ob1 1 from Fb1.i tob1 rfl 1) (show 0 ≤ iv1 ob1 2 ∧ iv1 ob1 2 ≤ 1 from W2.int tob1 2) (show iv1 ob1 2 = ivb1 ob1 2 from by rw [pq1]; exact up2_k (ne_ty tob1 t_a0 (by decide))) (show ivb1 ob1 2 = iv ob1 2 from Fb1.i tob1 rfl 2) (show 1 ≤ iv1 a0 11 ∧ iv1 a0 11 ≤ 100 from W2.int t_a0 11) (show iv1 a0 11 = ivb1 a0 11 from by rw [pq1]; exact up2_j (by decide)) (fun ri17 ie15 ie16 ri18 ie17 ie18 ri19 ie19 => ?_)
              refine c_aload (j := 0) (x := ob1) C dX11_emboss_69 rfl ?_
              refine c_get (k := 2) C ck_3 dX11_emboss_71 w4_56 (by decide) tob1 rfl rfl (by decide) rfl ?_
              refine c_if_ne (tgt := 95) C (r32_c (lo := 0) (hi := 1) ri18.1 ri18.2 (by decide) (by decide)) dX11_emboss_74 (by decide) (fun c4 => ?_) (fun c4 => ?_)
              · refine c_iload_n (j := 1) C dX11_emboss_95 rfl ?_
                refine c_aload (j := 0) (x := ob1) C dX11_emboss_96 rfl ?_
                refine c_get (k := 2) C ck_3 dX11_emboss_98 w4_56 (by decide) tob1 rfl rfl (by decide) rfl ?_
                refine c_if_eq (tgt := 108) C (r32_c (lo := 0) (hi := 1) ri18.1 ri18.2 (by decide) (by decide)) dX11_emboss_101 (by decide) (fun z => absurd z (by omega)) (fun _ => ?_)
                refine c_iconst C dX11_emboss_104 ?_
                refine c_goto (tgt := 113) C dX11_emboss_105 (by decide) ?_
                refine c_iadd C dX11_emboss_113 ?_
                obtain ⟨zz3, hzz3, ezz3⟩ := iI_of (iI (s1 + 0))
                refine c_st (st2 := [.int (iI zz3)]) (by rw [ezz3]) ?_
                refine c_istore_n (lv2 := [(3, .int (iI zz3)), (5, .ref ob1), (4, .int (iI k)), (0, .ref a0), (1, .int (iI i)), (2, .int (iI n))]) C dX11_emboss_114 (by decide) rfl ?_
                refine c_iinc (z := k) (j := 2) (lv2 := [(4, .int (iI (k + 1))), (3, .int (iI zz3)), (5, .ref ob1), (0, .ref a0), (1, .int (iI i)), (2, .int (iI n))]) C dX11_emboss_115 rfl (by decide) rfl ?_
                refine c_goto (tgt := 29) C dX11_emboss_118 (by decide) ?_
                refine hv10 (show (-2147483648) ≤ iv1 a0 16 ∧ iv1 a0 16 ≤ 2147483647 from W2.int t_a0 16) (show iv1 a0 16 = zz1 from by rw [pq1]; exact up2_s) (show 1 ≤ iv1 a0 12 ∧ iv1 a0 12 ≤ 50 from W2.int t_a0 12) (show iv1 a0 12 = ivb1 a0 12 from by rw [pq1]; exact up2_j (by decide)) (show (-2147483648) ≤ iv1 a0 13 ∧ iv1 a0 13 ≤ 2147483647 from W2.int t_a0 13) (show iv1 a0 13 = ivb1 a0 13 from by rw [pq1]; exact up2_j (by decide)) (show (-2147483648) ≤ iv1 a0 14 ∧ iv1 a0 14 ≤ 2147483647 from W2.int t_a0 14) (show iv1 a0 14 = ivb1 a0 14 from by rw [pq1]; exact up2_j (by decide)) (show (-2147483648) ≤ iv1 a0 15 ∧ iv1 a0 15 ≤ 2147483647 from W2.int t_a0 15) (show iv1 a0 15 = ivb1 a0 15 from by rw [pq1]; exact up2_j (by decide)) (fun ri20 ie20 ri21 ie21 ri22 ie23 ri23 ie25 ri24 ie27 => ?_)
                refine c_lv (lv2 := [(3, .int (iI zz3)), (4, .int (iI (k + 1))), (0, .ref a0), (1, .int (iI i)), (2, .int (iI n))]) [1, 0, 3, 4, 5] rfl ?_
                exact ih1  zz3 (k + 1) _ (by omega) W2 F2  (by omega) (by omega) (cnt_s h16 ezz1 (by omega)) (EP1.lck hE hsA gaf2 (by omega) (by omega) (by rw [← ezz3, Int.add_zero])) (ie19.trans hkp11) (ie21.trans hkp12) (ie23.trans hkp13) (ie25.trans hkp14) (ie27.trans hkp15)
              · refine c_aload (j := 0) (x := ob1) C dX11_emboss_77 rfl ?_
                refine c_get (k := 1) C ck_3 dX11_emboss_79 w4_53 (by decide) tob1 rfl rfl (by decide) rfl ?_
                refine c_aload_n (j := 3) (x := a0) C dX11_emboss_82 rfl ?_
                refine c_get (k := 11) C ck_12 dX11_emboss_83 w2_55 (by decide) t_a0 rfl rfl (by decide) rfl ?_
                refine c_icmp_le (tgt := 95) C (r32_c (lo := 0) (hi := 200) ri17.1 ri17.2 (by decide) (by decide)) (r32_c (lo := 1) (hi := 100) ri19.1 ri19.2 (by decide) (by decide)) dX11_emboss_86 (by decide) (fun c5 => ?_) (fun c5 => ?_)
                · refine c_iload_n (j := 1) C dX11_emboss_95 rfl ?_
                  refine c_aload (j := 0) (x := ob1) C dX11_emboss_96 rfl ?_
                  refine c_get (k := 2) C ck_3 dX11_emboss_98 w4_56 (by decide) tob1 rfl rfl (by decide) rfl ?_
                  refine c_if_eq (tgt := 108) C (r32_c (lo := 0) (hi := 1) ri18.1 ri18.2 (by decide) (by decide)) dX11_emboss_101 (by decide) (fun _ => ?_) (fun z => absurd z (by omega))
                  refine c_aload (j := 0) (x := ob1) C dX11_emboss_108 rfl ?_
                  refine d_callV (As := []) (rest := [.int (iI s1)]) C hM (G_dots (a0 := ob1) W2 hS tob1  ) dX11_emboss_110 kV_X11_326 rfl tob1 rfl rfl (by decide) ck_3 rfl (Nat.le_of_ble_eq_true rfl) ⟨(Nat.le_of_ble_eq_true rfl), (Nat.le_of_ble_eq_true rfl)⟩ hph hph (show 0 + 0 = 0 from rfl) (by decide) (fun rh3 Lh3 clh3 lnh3 ivh3 rvh3 h3 => ?_)
                  obtain ⟨f3, rfl, rfl, rfl, rfl, rfl, rfl, rgf3, exf3⟩ := h3
                  refine c_st (st2 := [.int (iI f3), .int (iI s1)]) rfl ?_
                  have gf3 : DTX iv1 rv ob1 f3 := exf3
                  refine c_iadd C dX11_emboss_113 ?_
                  obtain ⟨zz4, hzz4, ezz4⟩ := iI_of (iI (s1 + f3))
                  refine c_st (st2 := [.int (iI zz4)]) (by rw [ezz4]) ?_
                  refine c_istore_n (lv2 := [(3, .int (iI zz4)), (5, .ref ob1), (4, .int (iI k)), (0, .ref a0), (1, .int (iI i)), (2, .int (iI n))]) C dX11_emboss_114 (by decide) rfl ?_
                  refine c_iinc (z := k) (j := 2) (lv2 := [(4, .int (iI (k + 1))), (3, .int (iI zz4)), (5, .ref ob1), (0, .ref a0), (1, .int (iI i)), (2, .int (iI n))]) C dX11_emboss_115 rfl (by decide) rfl ?_
                  refine c_goto (tgt := 29) C dX11_emboss_118 (by decide) ?_
                  refine hv10 (show (-2147483648) ≤ iv1 a0 16 ∧ iv1 a0 16 ≤ 2147483647 from W2.int t_a0 16) (show iv1 a0 16 = zz1 from by rw [pq1]; exact up2_s) (show 1 ≤ iv1 a0 12 ∧ iv1 a0 12 ≤ 50 from W2.int t_a0 12) (show iv1 a0 12 = ivb1 a0 12 from by rw [pq1]; exact up2_j (by decide)) (show (-2147483648) ≤ iv1 a0 13 ∧ iv1 a0 13 ≤ 2147483647 from W2.int t_a0 13) (show iv1 a0 13 = ivb1 a0 13 from by rw [pq1]; exact up2_j (by decide)) (show (-2147483648) ≤ iv1 a0 14 ∧ iv1 a0 14 ≤ 2147483647 from W2.int t_a0 14) (show iv1 a0 14 = ivb1 a0 14 from by rw [pq1]; exact up2_j (by decide)) (show (-2147483648) ≤ iv1 a0 15 ∧ iv1 a0 15 ≤ 2147483647 from W2.int t_a0 15) (show iv1 a0 15 = ivb1 a0 15 from by rw [pq1]; exact up2_j (by decide)) (fun ri25 ie29 ri26 ie30 ri27 ie32 ri28 ie34 ri29 ie36 => ?_)
                  refine c_lv (lv2 := [(3, .int (iI zz4)), (4, .int (iI (k + 1))), (0, .ref a0), (1, .int (iI i)), (2, .int (iI n))]) [1, 0, 3, 4, 5] rfl ?_
                  exact ih1  zz4 (k + 1) _ (by omega) W2 F2  (by omega) (by omega) (cnt_s h16 ezz1 (by omega)) (EP1.dts hE hsA gaf2 (by omega) (by omega) (by omega) (fun xs hx => gf3 xs (LNE.fr hx (funext fun j => F2.i tob1 rfl j) rfl (fun cb hc => funext fun j => F2.i (li64 hW tob1 hc) rfl j))) ezz4) (ie19.trans hkp11) (ie30.trans hkp12) (ie32.trans hkp13) (ie34.trans hkp14) (ie36.trans hkp15)
                · refine c_aload_n (j := 3) (x := a0) C dX11_emboss_89 rfl ?_
                  refine c_iload_n (j := 1) C dX11_emboss_90 rfl ?_
                  refine d_callV (As := [.int (iI s1)]) (rest := []) C hM (C_done (a0 := a0) (x := s1) W2 hS t_a0 (by omega) ) dX11_emboss_91 kV_X11_109 rfl t_a0 rfl rfl (by decide) ck_12 rfl (Nat.le_of_ble_eq_true rfl) ⟨(Nat.le_of_ble_eq_true rfl), (Nat.le_of_ble_eq_true rfl)⟩ hph hph (show 0 + 0 = 0 from rfl) (by decide) (fun rh4 Lh4 clh4 lnh4 ivh4 rvh4 h4 => ?_)
                  obtain ⟨f4, rfl, rfl, rfl, rfl, rfl, fl4, W5, rgf4, exf4, kp11f4, kp12f4, kp13f4, kp14f4, kp15f4, kp16f4⟩ := h4
                  refine hv11 (show 1 ≤ iv1 a0 12 ∧ iv1 a0 12 ≤ 50 from W2.int t_a0 12) (show iv1 a0 12 = ivb1 a0 12 from by rw [pq1]; exact up2_j (by decide)) (show (-2147483648) ≤ iv1 a0 13 ∧ iv1 a0 13 ≤ 2147483647 from W2.int t_a0 13) (show iv1 a0 13 = ivb1 a0 13 from by rw [pq1]; exact up2_j (by decide)) (show (-2147483648) ≤ iv1 a0 14 ∧ iv1 a0 14 ≤ 2147483647 from W2.int t_a0 14) (show iv1 a0 14 = ivb1 a0 14 from by rw [pq1]; exact up2_j (by decide)) (show (-2147483648) ≤ iv1 a0 15 ∧ iv1 a0 15 ≤ 2147483647 from W2.int t_a0 15) (show iv1 a0 15 = ivb1 a0 15 from by rw [pq1]; exact up2_j (by decide)) (show (-2147483648) ≤ iv1 a0 16 ∧ iv1 a0 16 ≤ 2147483647 from W2.int t_a0 16) (show iv1 a0 16 = zz1 from by rw [pq1]; exact up2_s) (F2.call hX0 fl4 rfl) (fun ri30 ie38 ri31 ie40 ri32 ie42 ri33 ie44 ri34 ie46 F3 => ?_)
                  refine c_st (st2 := [.int (iI f4)]) rfl ?_
                  refine hv17 (show ivh4 a0 11 = iv1 a0 11 from kp11f4) (show ivh4 a0 12 = iv1 a0 12 from kp12f4) (show ivh4 a0 13 = iv1 a0 13 from kp13f4) (show ivh4 a0 14 = iv1 a0 14 from kp14f4) (show ivh4 a0 15 = iv1 a0 15 from kp15f4) (show ivh4 a0 16 = iv1 a0 16 from kp16f4) (show f4 = s1 from exf4) (show 1 ≤ ivh4 a0 11 ∧ ivh4 a0 11 ≤ 100 from W5.int t_a0 11) (show 1 ≤ ivh4 a0 12 ∧ ivh4 a0 12 ≤ 50 from W5.int t_a0 12) (show (-2147483648) ≤ ivh4 a0 13 ∧ ivh4 a0 13 ≤ 2147483647 from W5.int t_a0 13) (show (-2147483648) ≤ ivh4 a0 14 ∧ ivh4 a0 14 ≤ 2147483647 from W5.int t_a0 14) (show (-2147483648) ≤ ivh4 a0 15 ∧ ivh4 a0 15 ≤ 2147483647 from W5.int t_a0 15) (show (-2147483648) ≤ ivh4 a0 16 ∧ ivh4 a0 16 ≤ 2147483647 from W5.int t_a0 16) (show 0 ≤ ivh4 ob1 1 ∧ ivh4 ob1 1 ≤ 200 from W5.int tob1 1) (show ivh4 ob1 1 = iv1 ob1 1 from fl4.i tob1 rfl 1) (show 0 ≤ ivh4 ob1 2 ∧ ivh4 ob1 2 ≤ 1 from W5.int tob1 2) (show ivh4 ob1 2 = iv1 ob1 2 from fl4.i tob1 rfl 2) (fun gk11f4 gk12f4 gk13f4 gk14f4 gk15f4 gk16f4 gf4 ri35 ri36 ri37 ri38 ri39 ri40 ri41 ie53 ri42 ie54 => ?_)
                  exact c_iret C dX11_emboss_94 rfl (by decide) (rom0 hph hph (by decide)) ⟨f4, rfl, rfl, rfl, rfl, rfl, F3, W5, ⟨by omega, by omega⟩, trivial, (gk11f4.trans (ie19.trans hkp11)), (gk12f4.trans (ie38.trans hkp12)), (gk13f4.trans (ie40.trans hkp13)), (gk14f4.trans (ie42.trans hkp14)), (gk15f4.trans (ie44.trans hkp15)), (EPX.big hE hsA ⟨by omega, by omega⟩ (by omega) (cnt_s h16 ezz1 (by omega)) gaf2 (by omega) (by omega) (by omega))⟩
            · subst oq1
              refine c_lv (lv2 := [(5, .null), (3, .int (iI s1)), (4, .int (iI k)), (0, .ref a0), (1, .int (iI i)), (2, .int (iI n))]) [0, 1, 2, 3, 4, 5] rfl ?_
              refine c_st (st2 := []) rfl ?_
              refine c_aload_n (j := 3) (x := a0) C dX11_emboss_63 rfl ?_
              refine c_iconst C dX11_emboss_64 ?_
              refine d_callV (As := [.int (iI 2)]) (rest := []) C hM (C_refuse (a0 := a0) (x := 2) W2 hS t_a0 ⟨by decide, by decide⟩ ) dX11_emboss_65 kV_X11_102 rfl t_a0 rfl rfl (by decide) ck_12 rfl (Nat.le_of_ble_eq_true rfl) ⟨(Nat.le_of_ble_eq_true rfl), (Nat.le_of_ble_eq_true rfl)⟩ hph hph (show 0 + 0 = 0 from rfl) (by decide) (fun rh5 Lh5 clh5 lnh5 ivh5 rvh5 h5 => ?_)
              obtain ⟨f5, rfl, rfl, rfl, rfl, rfl, fl5, W6, rgf5, exf5, kp11f5, kp12f5, kp13f5, kp14f5, kp15f5, kp16f5⟩ := h5
              refine hv13 (show 1 ≤ iv1 a0 11 ∧ iv1 a0 11 ≤ 100 from W2.int t_a0 11) (show iv1 a0 11 = ivb1 a0 11 from by rw [pq1]; exact up2_j (by decide)) (show 1 ≤ iv1 a0 12 ∧ iv1 a0 12 ≤ 50 from W2.int t_a0 12) (show iv1 a0 12 = ivb1 a0 12 from by rw [pq1]; exact up2_j (by decide)) (show (-2147483648) ≤ iv1 a0 13 ∧ iv1 a0 13 ≤ 2147483647 from W2.int t_a0 13) (show iv1 a0 13 = ivb1 a0 13 from by rw [pq1]; exact up2_j (by decide)) (show (-2147483648) ≤ iv1 a0 14 ∧ iv1 a0 14 ≤ 2147483647 from W2.int t_a0 14) (show iv1 a0 14 = ivb1 a0 14 from by rw [pq1]; exact up2_j (by decide)) (show (-2147483648) ≤ iv1 a0 15 ∧ iv1 a0 15 ≤ 2147483647 from W2.int t_a0 15) (show iv1 a0 15 = ivb1 a0 15 from by rw [pq1]; exact up2_j (by decide)) (show (-2147483648) ≤ iv1 a0 16 ∧ iv1 a0 16 ≤ 2147483647 from W2.int t_a0 16) (show iv1 a0 16 = zz1 from by rw [pq1]; exact up2_s) (F2.call hX0 fl5 rfl) (fun ri43 ie55 ri44 ie56 ri45 ie58 ri46 ie60 ri47 ie62 ri48 ie64 F4 => ?_)
              refine c_st (st2 := [.int (iI f5)]) rfl ?_
              refine hv13 (show ivh5 a0 11 = iv1 a0 11 from kp11f5) (show ivh5 a0 12 = iv1 a0 12 from kp12f5) (show ivh5 a0 13 = iv1 a0 13 from kp13f5) (show ivh5 a0 14 = iv1 a0 14 from kp14f5) (show ivh5 a0 15 = iv1 a0 15 from kp15f5) (show ivh5 a0 16 = iv1 a0 16 from kp16f5) (show f5 = -1 from exf5) (show 1 ≤ ivh5 a0 11 ∧ ivh5 a0 11 ≤ 100 from W6.int t_a0 11) (show 1 ≤ ivh5 a0 12 ∧ ivh5 a0 12 ≤ 50 from W6.int t_a0 12) (show (-2147483648) ≤ ivh5 a0 13 ∧ ivh5 a0 13 ≤ 2147483647 from W6.int t_a0 13) (show (-2147483648) ≤ ivh5 a0 14 ∧ ivh5 a0 14 ≤ 2147483647 from W6.int t_a0 14) (show (-2147483648) ≤ ivh5 a0 15 ∧ ivh5 a0 15 ≤ 2147483647 from W6.int t_a0 15) (show (-2147483648) ≤ ivh5 a0 16 ∧ ivh5 a0 16 ≤ 2147483647 from W6.int t_a0 16) (fun gk11f5 gk12f5 gk13f5 gk14f5 gk15f5 gk16f5 gf5 ri49 ri50 ri51 ri52 ri53 ri54 => ?_)
              exact c_iret C dX11_emboss_68 rfl (by decide) (rom0 hph hph (by decide)) ⟨f5, rfl, rfl, rfl, rfl, rfl, F4, W6, ⟨by omega, by omega⟩, trivial, (gk11f5.trans (ie55.trans hkp11)), (gk12f5.trans (ie56.trans hkp12)), (gk13f5.trans (ie58.trans hkp13)), (gk14f5.trans (ie60.trans hkp14)), (gk15f5.trans (ie62.trans hkp15)), (EPX.nul hE hsA ⟨by omega, by omega⟩ (by omega) (cnt_s h16 ezz1 (by omega)) gaf2 (by omega))⟩
      refine hv4 (show 1 ≤ iv a0 12 ∧ iv a0 12 ≤ 50 from hW.int t_a0 12) (show (-2147483648) ≤ iv a0 13 ∧ iv a0 13 ≤ 2147483647 from hW.int t_a0 13) (show (-2147483648) ≤ iv a0 14 ∧ iv a0 14 ≤ 2147483647 from hW.int t_a0 14) (show (-2147483648) ≤ iv a0 15 ∧ iv a0 15 ≤ 2147483647 from hW.int t_a0 15) (fun ri55 ri56 ri57 ri58 => ?_)
      refine c_lv (lv2 := [(3, .int (iI 0)), (4, .int (iI 0)), (0, .ref a0), (1, .int (iI i)), (2, .int (iI n))]) [1, 0, 2, 3, 4] rfl ?_
      exact Lp1 203 0 0 _ (by omega) hW hF0  (by omega) (by omega) (cnt_0 rfl) (EP1.zero rfl rfl) rfl rfl rfl rfl rfl
    · refine c_aload_n (j := 0) (x := a0) C dX11_emboss_18 rfl ?_
      refine c_iconst C dX11_emboss_19 ?_
      refine d_callV (As := [.int (iI 5)]) (rest := []) C hM (C_refuse (a0 := a0) (x := 5) hW hS t_a0 ⟨by decide, by decide⟩ ) dX11_emboss_20 kV_X11_102 rfl t_a0 rfl rfl (by decide) ck_12 rfl (Nat.le_of_ble_eq_true rfl) ⟨(Nat.le_of_ble_eq_true rfl), (Nat.le_of_ble_eq_true rfl)⟩ hph hph (show 0 + 0 = 0 from rfl) (by decide) (fun rh6 Lh6 clh6 lnh6 ivh6 rvh6 h6 => ?_)
      obtain ⟨f6, rfl, rfl, rfl, rfl, rfl, fl6, W7, rgf6, exf6, kp11f6, kp12f6, kp13f6, kp14f6, kp15f6, kp16f6⟩ := h6
      refine hv5 (show 1 ≤ iv a0 12 ∧ iv a0 12 ≤ 50 from hW.int t_a0 12) (show (-2147483648) ≤ iv a0 13 ∧ iv a0 13 ≤ 2147483647 from hW.int t_a0 13) (show (-2147483648) ≤ iv a0 14 ∧ iv a0 14 ≤ 2147483647 from hW.int t_a0 14) (show (-2147483648) ≤ iv a0 15 ∧ iv a0 15 ≤ 2147483647 from hW.int t_a0 15) (hF0.call hX0 fl6 rfl) (fun ri59 ri60 ri61 ri62 F5 => ?_)
      refine c_st (st2 := [.int (iI f6)]) rfl ?_
      refine hv13 (show ivh6 a0 11 = iv a0 11 from kp11f6) (show ivh6 a0 12 = iv a0 12 from kp12f6) (show ivh6 a0 13 = iv a0 13 from kp13f6) (show ivh6 a0 14 = iv a0 14 from kp14f6) (show ivh6 a0 15 = iv a0 15 from kp15f6) (show ivh6 a0 16 = iv a0 16 from kp16f6) (show f6 = -1 from exf6) (show 1 ≤ ivh6 a0 11 ∧ ivh6 a0 11 ≤ 100 from W7.int t_a0 11) (show 1 ≤ ivh6 a0 12 ∧ ivh6 a0 12 ≤ 50 from W7.int t_a0 12) (show (-2147483648) ≤ ivh6 a0 13 ∧ ivh6 a0 13 ≤ 2147483647 from W7.int t_a0 13) (show (-2147483648) ≤ ivh6 a0 14 ∧ ivh6 a0 14 ≤ 2147483647 from W7.int t_a0 14) (show (-2147483648) ≤ ivh6 a0 15 ∧ ivh6 a0 15 ≤ 2147483647 from W7.int t_a0 15) (show (-2147483648) ≤ ivh6 a0 16 ∧ ivh6 a0 16 ≤ 2147483647 from W7.int t_a0 16) (fun gk11f6 gk12f6 gk13f6 gk14f6 gk15f6 gk16f6 gf6 ri63 ri64 ri65 ri66 ri67 ri68 => ?_)
      exact c_iret C dX11_emboss_23 rfl (by decide) (rom0 hph hph (by decide)) ⟨f6, rfl, rfl, rfl, rfl, rfl, F5, W7, ⟨by omega, by omega⟩, trivial, gk11f6, gk12f6, gk13f6, gk14f6, gk15f6, (EPX.bad (by omega) (by omega) (by omega))⟩
  · refine c_aload_n (j := 0) (x := a0) C dX11_emboss_7 rfl ?_
    refine c_bipush (z := 6) C dX11_emboss_8 (by decide) ?_
    refine d_callV (As := [.int (iI 6)]) (rest := []) C hM (C_refuse (a0 := a0) (x := 6) hW hS t_a0 ⟨by decide, by decide⟩ ) dX11_emboss_10 kV_X11_102 rfl t_a0 rfl rfl (by decide) ck_12 rfl (Nat.le_of_ble_eq_true rfl) ⟨(Nat.le_of_ble_eq_true rfl), (Nat.le_of_ble_eq_true rfl)⟩ hph hph (show 0 + 0 = 0 from rfl) (by decide) (fun rh7 Lh7 clh7 lnh7 ivh7 rvh7 h7 => ?_)
    obtain ⟨f7, rfl, rfl, rfl, rfl, rfl, fl7, W8, rgf7, exf7, kp11f7, kp12f7, kp13f7, kp14f7, kp15f7, kp16f7⟩ := h7
    refine hv5 (show 1 ≤ iv a0 12 ∧ iv a0 12 ≤ 50 from hW.int t_a0 12) (show (-2147483648) ≤ iv a0 13 ∧ iv a0 13 ≤ 2147483647 from hW.int t_a0 13) (show (-2147483648) ≤ iv a0 14 ∧ iv a0 14 ≤ 2147483647 from hW.int t_a0 14) (show (-2147483648) ≤ iv a0 15 ∧ iv a0 15 ≤ 2147483647 from hW.int t_a0 15) (hF0.call hX0 fl7 rfl) (fun ri69 ri70 ri71 ri72 F6 => ?_)
    refine c_st (st2 := [.int (iI f7)]) rfl ?_
    refine hv13 (show ivh7 a0 11 = iv a0 11 from kp11f7) (show ivh7 a0 12 = iv a0 12 from kp12f7) (show ivh7 a0 13 = iv a0 13 from kp13f7) (show ivh7 a0 14 = iv a0 14 from kp14f7) (show ivh7 a0 15 = iv a0 15 from kp15f7) (show ivh7 a0 16 = iv a0 16 from kp16f7) (show f7 = -1 from exf7) (show 1 ≤ ivh7 a0 11 ∧ ivh7 a0 11 ≤ 100 from W8.int t_a0 11) (show 1 ≤ ivh7 a0 12 ∧ ivh7 a0 12 ≤ 50 from W8.int t_a0 12) (show (-2147483648) ≤ ivh7 a0 13 ∧ ivh7 a0 13 ≤ 2147483647 from W8.int t_a0 13) (show (-2147483648) ≤ ivh7 a0 14 ∧ ivh7 a0 14 ≤ 2147483647 from W8.int t_a0 14) (show (-2147483648) ≤ ivh7 a0 15 ∧ ivh7 a0 15 ≤ 2147483647 from W8.int t_a0 15) (show (-2147483648) ≤ ivh7 a0 16 ∧ ivh7 a0 16 ≤ 2147483647 from W8.int t_a0 16) (fun gk11f7 gk12f7 gk13f7 gk14f7 gk15f7 gk16f7 gf7 ri73 ri74 ri75 ri76 ri77 ri78 => ?_)
    exact c_iret C dX11_emboss_13 rfl (by decide) (rom0 hph hph (by decide)) ⟨f7, rfl, rfl, rfl, rfl, rfl, F6, W8, ⟨by omega, by omega⟩, trivial, gk11f7, gk12f7, gk13f7, gk14f7, gk15f7, (EPX.bad (by omega) (by omega) (by omega))⟩
end
section
theorem PO2_lose {l : Launch} {G : GT} {mi h0 : Nat} {i : Int} (h_i : -2147483648 ≤ i ∧ i ≤ 2147483647) : PressOp l G mi yX11_lose cX11_lose 3 (some .int) 1 [.int (iI i)] h0 (fun sk L cl ln iv rv L2 cl2 ln2 iv2 rv2 f => ((TCH iv rv iv2 h0 (fun E E2 => LOSX E i f E2) ∧ rv2 = rv) ∧ (KSQ h0 iv rv iv2 rv2 ∧ True ∧ iv2 h0 15 = iv h0 15 ∧ iv2 h0 16 = iv h0 16 ∧ (iv2 (sk 5) 2 = iv (sk 5) 2 ∧ ∀ ss, CT iv rv (sk 5) ss → CT iv2 rv2 (sk 5) ss) ∧ (iv2 (sk 4) 2 = iv (sk 4) 2 ∧ ∀ ss, CT iv rv (sk 4) ss → CT iv2 rv2 (sk 4) ss) ∧ FKP sk iv rv iv2 rv2)) ∧ (iv2 h0 14 = iv h0 14 ∧ iv2 h0 11 = iv h0 11 ∧ iv2 h0 12 = iv h0 12 ∧ iv2 h0 13 = iv h0 13) ∧ (iv2 (sk 2) 2 = iv (sk 2) 2 ∧ (∀ ss, CT iv rv (sk 2) ss → CT iv2 rv2 (sk 2) ss)) ∧ (iv2 (sk 3) 2 = iv (sk 3) 2 ∧ (∀ tt, CT iv rv (sk 3) tt → CT iv2 rv2 (sk 3) tt)) ∧ PSAME sk iv rv iv2 rv2 ∧ (∃ g, WT g sk L cl ln iv rv ∧ WT g sk L2 cl2 ln2 iv2 rv2) ∧ SKL sk L cl ∧ XT L cl ln L2 cl2 ln2 ∧ (KP L cl (fun _ => False) (fun _ => False) (fun _ => False) (fun _ => False) (fun _ _ => False) iv rv iv2 rv2)) := by
  intro n L cl ln iv rv sk hn hp
  obtain ⟨hW, hS, hm, h23, ht⟩ := hp
  refine hv3 (show ty L cl (sk 23) 23 from ⟨(hS 23 rfl).1, by rw [(hS 23 rfl).2]; rfl⟩) (show ty L cl (sk 2) 2 from ⟨(hS 2 rfl).1, by rw [(hS 2 rfl).2]; rfl⟩) (show ty L cl (sk 3) 3 from ⟨(hS 3 rfl).1, by rw [(hS 3 rfl).2]; rfl⟩) (fun t23 t2 t3 => ?_)
  refine ⟨0, _, by decide, G_lose hW hS ht h_i , fun v L2 cl2 ln2 iv2 rv2 h => ?_⟩
  obtain ⟨f, rfl, rfl, rfl, rfl, rfl, hF, hW2, rg, ex, kp11, kp12, kp13, kp14, kp15, kp16, lsp⟩ := h
  exact ⟨f, rfl, by omega, XT.refl, hW2, (MRK.call hm hW hS XT.refl hF rfl rfl), (by have q := hF.i t23 rfl 2; omega), ⟨⟨⟨lsp, rfl⟩, ⟨(KSQ.ni hW ht hF rfl), trivial, kp15, kp16, ⟨hF.i (tysq (t := 5) hS rfl rfl) rfl 2, fun ss hs => CT.fr hs hW (tysq (t := 5) hS rfl rfl) hF rfl rfl rfl rfl rfl⟩, ⟨hF.i (tysq (t := 4) hS rfl rfl) rfl 2, fun ss hs => CT.fr hs hW (tysq (t := 4) hS rfl rfl) hF rfl rfl rfl rfl rfl⟩, (FKP.fr hW hS hF rfl rfl rfl rfl)⟩⟩, ⟨kp14, kp11, kp12, kp13⟩, ⟨hF.i t2 rfl 2, fun ss hs => CT.fr hs hW t2 hF rfl rfl rfl rfl rfl⟩, ⟨hF.i t3 rfl 2, fun tt ht => CT.fr ht hW t3 hF rfl rfl rfl rfl rfl⟩, (PSAME.fr hW hS hF rfl rfl rfl rfl rfl rfl rfl), ⟨⟨_, hW, hW2⟩, hS, XT.refl, (KP.fr hW hF rfl)⟩⟩⟩
theorem PO2_cut {l : Launch} {G : GT} {mi h0 : Nat} {i : Int} {n : Int} (h_i : -2147483648 ≤ i ∧ i ≤ 2147483647) (h_n : -2147483648 ≤ n ∧ n ≤ 2147483647) : PressOp l G mi yX11_cut cX11_cut 4 (some .int) 2 [.int (iI i), .int (iI n)] h0 (fun sk L cl ln iv rv L2 cl2 ln2 iv2 rv2 f => ((TCH iv rv iv2 h0 (fun E E2 => CUTX E i n f E2) ∧ rv2 = rv) ∧ (KSQ h0 iv rv iv2 rv2 ∧ True ∧ iv2 h0 15 = iv h0 15 ∧ iv2 h0 16 = iv h0 16 ∧ (iv2 (sk 5) 2 = iv (sk 5) 2 ∧ ∀ ss, CT iv rv (sk 5) ss → CT iv2 rv2 (sk 5) ss) ∧ (iv2 (sk 4) 2 = iv (sk 4) 2 ∧ ∀ ss, CT iv rv (sk 4) ss → CT iv2 rv2 (sk 4) ss) ∧ FKP sk iv rv iv2 rv2)) ∧ (iv2 h0 14 = iv h0 14 ∧ iv2 h0 11 = iv h0 11 ∧ iv2 h0 12 = iv h0 12 ∧ iv2 h0 13 = iv h0 13) ∧ (iv2 (sk 2) 2 = iv (sk 2) 2 ∧ (∀ ss, CT iv rv (sk 2) ss → CT iv2 rv2 (sk 2) ss)) ∧ (iv2 (sk 3) 2 = iv (sk 3) 2 ∧ (∀ tt, CT iv rv (sk 3) tt → CT iv2 rv2 (sk 3) tt)) ∧ PSAME sk iv rv iv2 rv2 ∧ (∃ g, WT g sk L cl ln iv rv ∧ WT g sk L2 cl2 ln2 iv2 rv2) ∧ SKL sk L cl ∧ XT L cl ln L2 cl2 ln2 ∧ (KP L cl (fun _ => False) (fun _ => False) (fun _ => False) (fun _ => False) (fun _ _ => False) iv rv iv2 rv2)) := by
  intro n L cl ln iv rv sk hn hp
  obtain ⟨hW, hS, hm, h23, ht⟩ := hp
  refine hv3 (show ty L cl (sk 23) 23 from ⟨(hS 23 rfl).1, by rw [(hS 23 rfl).2]; rfl⟩) (show ty L cl (sk 2) 2 from ⟨(hS 2 rfl).1, by rw [(hS 2 rfl).2]; rfl⟩) (show ty L cl (sk 3) 3 from ⟨(hS 3 rfl).1, by rw [(hS 3 rfl).2]; rfl⟩) (fun t23 t2 t3 => ?_)
  refine ⟨0, _, by decide, G_cut hW hS ht h_i h_n , fun v L2 cl2 ln2 iv2 rv2 h => ?_⟩
  obtain ⟨f, rfl, rfl, rfl, rfl, rfl, hF, hW2, rg, ex, kp11, kp12, kp13, kp14, kp15, kp16, ctp⟩ := h
  exact ⟨f, rfl, by omega, XT.refl, hW2, (MRK.call hm hW hS XT.refl hF rfl rfl), (by have q := hF.i t23 rfl 2; omega), ⟨⟨⟨ctp, rfl⟩, ⟨(KSQ.ni hW ht hF rfl), trivial, kp15, kp16, ⟨hF.i (tysq (t := 5) hS rfl rfl) rfl 2, fun ss hs => CT.fr hs hW (tysq (t := 5) hS rfl rfl) hF rfl rfl rfl rfl rfl⟩, ⟨hF.i (tysq (t := 4) hS rfl rfl) rfl 2, fun ss hs => CT.fr hs hW (tysq (t := 4) hS rfl rfl) hF rfl rfl rfl rfl rfl⟩, (FKP.fr hW hS hF rfl rfl rfl rfl)⟩⟩, ⟨kp14, kp11, kp12, kp13⟩, ⟨hF.i t2 rfl 2, fun ss hs => CT.fr hs hW t2 hF rfl rfl rfl rfl rfl⟩, ⟨hF.i t3 rfl 2, fun tt ht => CT.fr ht hW t3 hF rfl rfl rfl rfl rfl⟩, (PSAME.fr hW hS hF rfl rfl rfl rfl rfl rfl rfl), ⟨⟨_, hW, hW2⟩, hS, XT.refl, (KP.fr hW hF rfl)⟩⟩⟩
theorem PO2_copyRow {l : Launch} {G : GT} {mi h0 : Nat} {i : Int} {i2 : Int} {j : Int} {j2 : Int} {n : Int} (h_i : -2147483648 ≤ i ∧ i ≤ 2147483647) (h_i2 : -2147483648 ≤ i2 ∧ i2 ≤ 2147483647) (h_j : -2147483648 ≤ j ∧ j ≤ 2147483647) (h_j2 : -2147483648 ≤ j2 ∧ j2 ≤ 2147483647) (h_n : -2147483648 ≤ n ∧ n ≤ 2147483647) : PressOp l G mi yX11_copyRow cX11_copyRow 8 (some .int) 1 [.int (iI i), .int (iI i2), .int (iI j), .int (iI j2), .int (iI n)] h0 (fun sk L cl ln iv rv L2 cl2 ln2 iv2 rv2 f => ((TCH iv rv iv2 h0 (fun E E2 => CPRX E i i2 j j2 n f E2) ∧ rv2 = rv) ∧ (KSQ h0 iv rv iv2 rv2 ∧ True ∧ iv2 h0 15 = iv h0 15 ∧ iv2 h0 16 = iv h0 16 ∧ (iv2 (sk 5) 2 = iv (sk 5) 2 ∧ ∀ ss, CT iv rv (sk 5) ss → CT iv2 rv2 (sk 5) ss) ∧ (iv2 (sk 4) 2 = iv (sk 4) 2 ∧ ∀ ss, CT iv rv (sk 4) ss → CT iv2 rv2 (sk 4) ss) ∧ FKP sk iv rv iv2 rv2)) ∧ (iv2 h0 14 = iv h0 14 ∧ iv2 h0 11 = iv h0 11 ∧ iv2 h0 12 = iv h0 12 ∧ iv2 h0 13 = iv h0 13) ∧ (iv2 (sk 2) 2 = iv (sk 2) 2 ∧ (∀ ss, CT iv rv (sk 2) ss → CT iv2 rv2 (sk 2) ss)) ∧ (iv2 (sk 3) 2 = iv (sk 3) 2 ∧ (∀ tt, CT iv rv (sk 3) tt → CT iv2 rv2 (sk 3) tt)) ∧ PSAME sk iv rv iv2 rv2 ∧ (∃ g, WT g sk L cl ln iv rv ∧ WT g sk L2 cl2 ln2 iv2 rv2) ∧ SKL sk L cl ∧ XT L cl ln L2 cl2 ln2 ∧ (KP L cl (fun _ => False) (fun _ => False) (fun _ => False) (fun _ => False) (fun _ _ => False) iv rv iv2 rv2)) := by
  intro n L cl ln iv rv sk hn hp
  obtain ⟨hW, hS, hm, h23, ht⟩ := hp
  refine hv3 (show ty L cl (sk 23) 23 from ⟨(hS 23 rfl).1, by rw [(hS 23 rfl).2]; rfl⟩) (show ty L cl (sk 2) 2 from ⟨(hS 2 rfl).1, by rw [(hS 2 rfl).2]; rfl⟩) (show ty L cl (sk 3) 3 from ⟨(hS 3 rfl).1, by rw [(hS 3 rfl).2]; rfl⟩) (fun t23 t2 t3 => ?_)
  refine ⟨0, _, by decide, G_copyRow hW hS ht h_i h_i2 h_j h_j2 h_n , fun v L2 cl2 ln2 iv2 rv2 h => ?_⟩
  obtain ⟨f, rfl, rfl, rfl, rfl, rfl, hF, hW2, rg, ex, kp11, kp12, kp13, kp14, kp15, kp16, crp⟩ := h
  exact ⟨f, rfl, by omega, XT.refl, hW2, (MRK.call hm hW hS XT.refl hF rfl rfl), (by have q := hF.i t23 rfl 2; omega), ⟨⟨⟨crp, rfl⟩, ⟨(KSQ.ni hW ht hF rfl), trivial, kp15, kp16, ⟨hF.i (tysq (t := 5) hS rfl rfl) rfl 2, fun ss hs => CT.fr hs hW (tysq (t := 5) hS rfl rfl) hF rfl rfl rfl rfl rfl⟩, ⟨hF.i (tysq (t := 4) hS rfl rfl) rfl 2, fun ss hs => CT.fr hs hW (tysq (t := 4) hS rfl rfl) hF rfl rfl rfl rfl rfl⟩, (FKP.fr hW hS hF rfl rfl rfl rfl)⟩⟩, ⟨kp14, kp11, kp12, kp13⟩, ⟨hF.i t2 rfl 2, fun ss hs => CT.fr hs hW t2 hF rfl rfl rfl rfl rfl⟩, ⟨hF.i t3 rfl 2, fun tt ht => CT.fr ht hW t3 hF rfl rfl rfl rfl rfl⟩, (PSAME.fr hW hS hF rfl rfl rfl rfl rfl rfl rfl), ⟨⟨_, hW, hW2⟩, hS, XT.refl, (KP.fr hW hF rfl)⟩⟩⟩
theorem PO2_copyLines {l : Launch} {G : GT} {mi h0 : Nat} {i : Int} {j : Int} {n : Int} (h_i : -2147483648 ≤ i ∧ i ≤ 2147483647) (h_j : -2147483648 ≤ j ∧ j ≤ 2147483647) (h_n : -2147483648 ≤ n ∧ n ≤ 2147483647) : PressOp l G mi yX11_copyLines cX11_copyLines 7 (some .int) 2 [.int (iI i), .int (iI j), .int (iI n)] h0 (fun sk L cl ln iv rv L2 cl2 ln2 iv2 rv2 f => ((TCH iv rv iv2 h0 (fun E E2 => CPLX E i j n (iv h0 15) f E2 (iv2 h0 15)) ∧ rv2 = rv) ∧ (KSQ h0 iv rv iv2 rv2 ∧ True ∧ True ∧ iv2 h0 16 = iv h0 16 ∧ (iv2 (sk 5) 2 = iv (sk 5) 2 ∧ ∀ ss, CT iv rv (sk 5) ss → CT iv2 rv2 (sk 5) ss) ∧ (iv2 (sk 4) 2 = iv (sk 4) 2 ∧ ∀ ss, CT iv rv (sk 4) ss → CT iv2 rv2 (sk 4) ss) ∧ FKP sk iv rv iv2 rv2)) ∧ (iv2 h0 14 = iv h0 14 ∧ iv2 h0 11 = iv h0 11 ∧ iv2 h0 12 = iv h0 12 ∧ iv2 h0 13 = iv h0 13) ∧ (iv2 (sk 2) 2 = iv (sk 2) 2 ∧ (∀ ss, CT iv rv (sk 2) ss → CT iv2 rv2 (sk 2) ss)) ∧ (iv2 (sk 3) 2 = iv (sk 3) 2 ∧ (∀ tt, CT iv rv (sk 3) tt → CT iv2 rv2 (sk 3) tt)) ∧ PSAME sk iv rv iv2 rv2 ∧ (∃ g, WT g sk L cl ln iv rv ∧ WT g sk L2 cl2 ln2 iv2 rv2) ∧ SKL sk L cl ∧ XT L cl ln L2 cl2 ln2 ∧ (KP L cl (fun _ => False) (fun _ => False) (fun _ => False) (fun _ => False) (fun _ _ => False) iv rv iv2 rv2)) := by
  intro n L cl ln iv rv sk hn hp
  obtain ⟨hW, hS, hm, h23, ht⟩ := hp
  refine hv3 (show ty L cl (sk 23) 23 from ⟨(hS 23 rfl).1, by rw [(hS 23 rfl).2]; rfl⟩) (show ty L cl (sk 2) 2 from ⟨(hS 2 rfl).1, by rw [(hS 2 rfl).2]; rfl⟩) (show ty L cl (sk 3) 3 from ⟨(hS 3 rfl).1, by rw [(hS 3 rfl).2]; rfl⟩) (fun t23 t2 t3 => ?_)
  refine ⟨0, _, by decide, G_copyLines hW hS ht h_i h_j h_n , fun v L2 cl2 ln2 iv2 rv2 h => ?_⟩
  obtain ⟨f, rfl, rfl, rfl, rfl, rfl, hF, hW2, rg, ex, kp11, kp12, kp13, kp14, kp16, cpl⟩ := h
  exact ⟨f, rfl, by omega, XT.refl, hW2, (MRK.call hm hW hS XT.refl hF rfl rfl), (by have q := hF.i t23 rfl 2; omega), ⟨⟨⟨cpl, rfl⟩, ⟨(KSQ.ni hW ht hF rfl), trivial, trivial, kp16, ⟨hF.i (tysq (t := 5) hS rfl rfl) rfl 2, fun ss hs => CT.fr hs hW (tysq (t := 5) hS rfl rfl) hF rfl rfl rfl rfl rfl⟩, ⟨hF.i (tysq (t := 4) hS rfl rfl) rfl 2, fun ss hs => CT.fr hs hW (tysq (t := 4) hS rfl rfl) hF rfl rfl rfl rfl rfl⟩, (FKP.fr hW hS hF rfl rfl rfl rfl)⟩⟩, ⟨kp14, kp11, kp12, kp13⟩, ⟨hF.i t2 rfl 2, fun ss hs => CT.fr hs hW t2 hF rfl rfl rfl rfl rfl⟩, ⟨hF.i t3 rfl 2, fun tt ht => CT.fr ht hW t3 hF rfl rfl rfl rfl rfl⟩, (PSAME.fr hW hS hF rfl rfl rfl rfl rfl rfl rfl), ⟨⟨_, hW, hW2⟩, hS, XT.refl, (KP.fr hW hF rfl)⟩⟩⟩
theorem PO2_emboss {l : Launch} {G : GT} {mi h0 : Nat} {i : Int} {n : Int} (h_i : -2147483648 ≤ i ∧ i ≤ 2147483647) (h_n : -2147483648 ≤ n ∧ n ≤ 2147483647) : PressOp l G mi yX11_emboss cX11_emboss 6 (some .int) 2 [.int (iI i), .int (iI n)] h0 (fun sk L cl ln iv rv L2 cl2 ln2 iv2 rv2 f => ((EPX iv rv iv2 h0 i n (iv h0 11) f) ∧ (KSQ h0 iv rv iv2 rv2 ∧ KSC h0 iv rv iv2 rv2 ∧ iv2 h0 15 = iv h0 15 ∧ True ∧ (iv2 (sk 5) 2 = iv (sk 5) 2 ∧ ∀ ss, CT iv rv (sk 5) ss → CT iv2 rv2 (sk 5) ss) ∧ (iv2 (sk 4) 2 = iv (sk 4) 2 ∧ ∀ ss, CT iv rv (sk 4) ss → CT iv2 rv2 (sk 4) ss) ∧ FKP sk iv rv iv2 rv2)) ∧ (iv2 h0 14 = iv h0 14 ∧ iv2 h0 11 = iv h0 11 ∧ iv2 h0 12 = iv h0 12 ∧ iv2 h0 13 = iv h0 13) ∧ (iv2 (sk 2) 2 = iv (sk 2) 2 ∧ (∀ ss, CT iv rv (sk 2) ss → CT iv2 rv2 (sk 2) ss)) ∧ (iv2 (sk 3) 2 = iv (sk 3) 2 ∧ (∀ tt, CT iv rv (sk 3) tt → CT iv2 rv2 (sk 3) tt)) ∧ PSAME sk iv rv iv2 rv2 ∧ (∃ g, WT g sk L cl ln iv rv ∧ WT g sk L2 cl2 ln2 iv2 rv2) ∧ SKL sk L cl ∧ XT L cl ln L2 cl2 ln2 ∧ (KP L cl (fun _ => False) (fun _ => False) (fun _ => False) (fun _ => False) (fun _ _ => False) iv rv iv2 rv2)) := by
  intro n L cl ln iv rv sk hn hp
  obtain ⟨hW, hS, hm, h23, ht⟩ := hp
  refine hv3 (show ty L cl (sk 23) 23 from ⟨(hS 23 rfl).1, by rw [(hS 23 rfl).2]; rfl⟩) (show ty L cl (sk 2) 2 from ⟨(hS 2 rfl).1, by rw [(hS 2 rfl).2]; rfl⟩) (show ty L cl (sk 3) 3 from ⟨(hS 3 rfl).1, by rw [(hS 3 rfl).2]; rfl⟩) (fun t23 t2 t3 => ?_)
  refine ⟨0, _, by decide, G_emboss hW hS ht h_i h_n , fun v L2 cl2 ln2 iv2 rv2 h => ?_⟩
  obtain ⟨f, rfl, rfl, rfl, rfl, rfl, hF, hW2, rg, ex, kp11, kp12, kp13, kp14, kp15, epx⟩ := h
  exact ⟨f, rfl, by omega, XT.refl, hW2, (MRK.call hm hW hS XT.refl hF rfl rfl), (by have q := hF.i t23 rfl 2; omega), ⟨⟨epx, ⟨(KSQ.ni hW ht hF rfl), (KSC.fr hW ht hF rfl rfl rfl rfl rfl rfl), kp15, trivial, ⟨hF.i (tysq (t := 5) hS rfl rfl) rfl 2, fun ss hs => CT.fr hs hW (tysq (t := 5) hS rfl rfl) hF rfl rfl rfl rfl rfl⟩, ⟨hF.i (tysq (t := 4) hS rfl rfl) rfl 2, fun ss hs => CT.fr hs hW (tysq (t := 4) hS rfl rfl) hF rfl rfl rfl rfl rfl⟩, (FKP.fr hW hS hF rfl rfl rfl rfl)⟩⟩, ⟨kp14, kp11, kp12, kp13⟩, ⟨hF.i t2 rfl 2, fun ss hs => CT.fr hs hW t2 hF rfl rfl rfl rfl rfl⟩, ⟨hF.i t3 rfl 2, fun tt ht => CT.fr ht hW t3 hF rfl rfl rfl rfl rfl⟩, (PSAME.fr hW hS hF rfl rfl rfl rfl rfl rfl rfl), ⟨⟨_, hW, hW2⟩, hS, XT.refl, (KP.fr hW hF rfl)⟩⟩⟩
theorem MO2_lose {l : Launch} {G : GT} {mm : Nat} {x1 : Int} (h_x1 : -2147483648 ≤ x1 ∧ x1 ≤ 2147483647) : ModelOp l G yX12_lose cX12_lose 2 (some .int) 2 [.int (iI x1)] mm 0 0 (fun v a v2 a2 f => ((LSA v a v2 a2 x1 f) ∧ (v2 36 = v 36 ∧ True ∧ v2 42 = v 42 ∧ v2 43 = v 43 ∧ (v2 41 = v 41 ∧ a2 40 = a 40) ∧ (v2 52 = v 52 ∧ a2 51 = a 51) ∧ (v2 60 = v 60 ∧ v2 61 = v 61 ∧ a2 58 = a 58 ∧ a2 59 = a 59))) ∧ (v2 56 = v 56 ∧ v2 31 = v 31 ∧ v2 32 = v 32 ∧ v2 33 = v 33) ∧ (v2 3 = v 3 ∧ a2 2 = a 2) ∧ (v2 30 = v 30 ∧ a2 29 = a 29) ∧ TSAME v a v2 a2) := by
  intro n ad ln v a L E hn hV hI
  obtain ⟨hB, hT, hS, hR, h19⟩ := hV
  refine ⟨_, N2_lose (l0 := x1) hB h_x1 L E hI, fun r L2 E2 h => ?_⟩
  obtain ⟨v2, a2, hI2, f, rfl, hf, hB2, hx⟩ := h
  exact ⟨f, ad, ln, v2, a2, rfl, hI2, ⟨hB2, (hT.fr hf rfl rfl), (hS.fr hf rfl rfl), (hR.fr hf rfl), (by have q := hf.1 19 rfl; push_cast; omega)⟩, ⟨⟨hx, ⟨hf.1 36 rfl, trivial, hf.1 42 rfl, hf.1 43 rfl, ⟨hf.1 41 rfl, hf.2 40 rfl⟩, ⟨hf.1 52 rfl, hf.2 51 rfl⟩, ⟨hf.1 60 rfl, hf.1 61 rfl, hf.2 58 rfl, hf.2 59 rfl⟩⟩⟩, ⟨hf.1 56 rfl, hf.1 31 rfl, hf.1 32 rfl, hf.1 33 rfl⟩, ⟨hf.1 3 rfl, hf.2 2 rfl⟩, ⟨hf.1 30 rfl, hf.2 29 rfl⟩, ⟨hf.1 4 rfl, hf.2 5 rfl, hf.2 6 rfl, hf.2 7 rfl, hf.2 10 rfl, hf.1 19 rfl, hf.2 18 rfl, hf.2 11 rfl, hf.2 8 rfl, hf.2 9 rfl, hf.2 12 rfl, hf.2 13 rfl, hf.2 14 rfl, hf.2 15 rfl, hf.2 16 rfl, hf.2 17 rfl⟩⟩⟩
theorem MO2_cut {l : Launch} {G : GT} {mm : Nat} {x1 x2 : Int} (h_x1 : -2147483648 ≤ x1 ∧ x1 ≤ 2147483647) (h_x2 : -2147483648 ≤ x2 ∧ x2 ≤ 2147483647) : ModelOp l G yX12_cut cX12_cut 4 (some .int) 2 [.int (iI x1), .int (iI x2)] mm 0 0 (fun v a v2 a2 f => ((CTA v a v2 a2 x1 x2 f) ∧ (v2 36 = v 36 ∧ True ∧ v2 42 = v 42 ∧ v2 43 = v 43 ∧ (v2 41 = v 41 ∧ a2 40 = a 40) ∧ (v2 52 = v 52 ∧ a2 51 = a 51) ∧ (v2 60 = v 60 ∧ v2 61 = v 61 ∧ a2 58 = a 58 ∧ a2 59 = a 59))) ∧ (v2 56 = v 56 ∧ v2 31 = v 31 ∧ v2 32 = v 32 ∧ v2 33 = v 33) ∧ (v2 3 = v 3 ∧ a2 2 = a 2) ∧ (v2 30 = v 30 ∧ a2 29 = a 29) ∧ TSAME v a v2 a2) := by
  intro n ad ln v a L E hn hV hI
  obtain ⟨hB, hT, hS, hR, h19⟩ := hV
  refine ⟨_, N2_cut (l0 := x1) (n1 := x2) hB h_x1 h_x2 L E hI, fun r L2 E2 h => ?_⟩
  obtain ⟨v2, a2, hI2, f, rfl, hf, hB2, hx⟩ := h
  exact ⟨f, ad, ln, v2, a2, rfl, hI2, ⟨hB2, (hT.fr hf rfl rfl), (hS.fr hf rfl rfl), (hR.fr hf rfl), (by have q := hf.1 19 rfl; push_cast; omega)⟩, ⟨⟨hx, ⟨hf.1 36 rfl, trivial, hf.1 42 rfl, hf.1 43 rfl, ⟨hf.1 41 rfl, hf.2 40 rfl⟩, ⟨hf.1 52 rfl, hf.2 51 rfl⟩, ⟨hf.1 60 rfl, hf.1 61 rfl, hf.2 58 rfl, hf.2 59 rfl⟩⟩⟩, ⟨hf.1 56 rfl, hf.1 31 rfl, hf.1 32 rfl, hf.1 33 rfl⟩, ⟨hf.1 3 rfl, hf.2 2 rfl⟩, ⟨hf.1 30 rfl, hf.2 29 rfl⟩, ⟨hf.1 4 rfl, hf.2 5 rfl, hf.2 6 rfl, hf.2 7 rfl, hf.2 10 rfl, hf.1 19 rfl, hf.2 18 rfl, hf.2 11 rfl, hf.2 8 rfl, hf.2 9 rfl, hf.2 12 rfl, hf.2 13 rfl, hf.2 14 rfl, hf.2 15 rfl, hf.2 16 rfl, hf.2 17 rfl⟩⟩⟩
theorem MO2_copyRow {l : Launch} {G : GT} {mm : Nat} {x1 x2 x3 x4 x5 : Int} (h_x1 : -2147483648 ≤ x1 ∧ x1 ≤ 2147483647) (h_x2 : -2147483648 ≤ x2 ∧ x2 ≤ 2147483647) (h_x3 : -2147483648 ≤ x3 ∧ x3 ≤ 2147483647) (h_x4 : -2147483648 ≤ x4 ∧ x4 ≤ 2147483647) (h_x5 : -2147483648 ≤ x5 ∧ x5 ≤ 2147483647) : ModelOp l G yX12_copyRow cX12_copyRow 11 (some .int) 1 [.int (iI x1), .int (iI x2), .int (iI x3), .int (iI x4), .int (iI x5)] mm 0 0 (fun v a v2 a2 f => ((CRA v a v2 a2 x1 x2 x3 x4 x5 f) ∧ (v2 36 = v 36 ∧ True ∧ v2 42 = v 42 ∧ v2 43 = v 43 ∧ (v2 41 = v 41 ∧ a2 40 = a 40) ∧ (v2 52 = v 52 ∧ a2 51 = a 51) ∧ (v2 60 = v 60 ∧ v2 61 = v 61 ∧ a2 58 = a 58 ∧ a2 59 = a 59))) ∧ (v2 56 = v 56 ∧ v2 31 = v 31 ∧ v2 32 = v 32 ∧ v2 33 = v 33) ∧ (v2 3 = v 3 ∧ a2 2 = a 2) ∧ (v2 30 = v 30 ∧ a2 29 = a 29) ∧ TSAME v a v2 a2) := by
  intro n ad ln v a L E hn hV hI
  obtain ⟨hB, hT, hS, hR, h19⟩ := hV
  refine ⟨_, N2_copyRow (q := x1) (w1 := x2) (u := x3) (x := x4) (n1 := x5) hB h_x1 h_x2 h_x3 h_x4 h_x5 L E hI, fun r L2 E2 h => ?_⟩
  obtain ⟨v2, a2, hI2, f, rfl, hf, hB2, hx⟩ := h
  exact ⟨f, ad, ln, v2, a2, rfl, hI2, ⟨hB2, (hT.fr hf rfl rfl), (hS.fr hf rfl rfl), (hR.fr hf rfl), (by have q := hf.1 19 rfl; push_cast; omega)⟩, ⟨⟨hx, ⟨hf.1 36 rfl, trivial, hf.1 42 rfl, hf.1 43 rfl, ⟨hf.1 41 rfl, hf.2 40 rfl⟩, ⟨hf.1 52 rfl, hf.2 51 rfl⟩, ⟨hf.1 60 rfl, hf.1 61 rfl, hf.2 58 rfl, hf.2 59 rfl⟩⟩⟩, ⟨hf.1 56 rfl, hf.1 31 rfl, hf.1 32 rfl, hf.1 33 rfl⟩, ⟨hf.1 3 rfl, hf.2 2 rfl⟩, ⟨hf.1 30 rfl, hf.2 29 rfl⟩, ⟨hf.1 4 rfl, hf.2 5 rfl, hf.2 6 rfl, hf.2 7 rfl, hf.2 10 rfl, hf.1 19 rfl, hf.2 18 rfl, hf.2 11 rfl, hf.2 8 rfl, hf.2 9 rfl, hf.2 12 rfl, hf.2 13 rfl, hf.2 14 rfl, hf.2 15 rfl, hf.2 16 rfl, hf.2 17 rfl⟩⟩⟩
theorem MO2_copyLines {l : Launch} {G : GT} {mm : Nat} {x1 x2 x3 : Int} (h_x1 : -2147483648 ≤ x1 ∧ x1 ≤ 2147483647) (h_x2 : -2147483648 ≤ x2 ∧ x2 ≤ 2147483647) (h_x3 : -2147483648 ≤ x3 ∧ x3 ≤ 2147483647) : ModelOp l G yX12_copyLines cX12_copyLines 10 (some .int) 1 [.int (iI x1), .int (iI x2), .int (iI x3)] mm 0 0 (fun v a v2 a2 f => ((CPA v a v2 a2 x1 x2 x3 f) ∧ (v2 36 = v 36 ∧ True ∧ True ∧ v2 43 = v 43 ∧ (v2 41 = v 41 ∧ a2 40 = a 40) ∧ (v2 52 = v 52 ∧ a2 51 = a 51) ∧ (v2 60 = v 60 ∧ v2 61 = v 61 ∧ a2 58 = a 58 ∧ a2 59 = a 59))) ∧ (v2 56 = v 56 ∧ v2 31 = v 31 ∧ v2 32 = v 32 ∧ v2 33 = v 33) ∧ (v2 3 = v 3 ∧ a2 2 = a 2) ∧ (v2 30 = v 30 ∧ a2 29 = a 29) ∧ TSAME v a v2 a2) := by
  intro n ad ln v a L E hn hV hI
  obtain ⟨hB, hT, hS, hR, h19⟩ := hV
  refine ⟨_, N2_copyLines (q := x1) (u := x2) (n1 := x3) hB h_x1 h_x2 h_x3 L E hI, fun r L2 E2 h => ?_⟩
  obtain ⟨v2, a2, hI2, f, rfl, hf, hB2, hx⟩ := h
  exact ⟨f, ad, ln, v2, a2, rfl, hI2, ⟨hB2, (hT.fr hf rfl rfl), (hS.fr hf rfl rfl), (hR.fr hf rfl), (by have q := hf.1 19 rfl; push_cast; omega)⟩, ⟨⟨hx, ⟨hf.1 36 rfl, trivial, trivial, hf.1 43 rfl, ⟨hf.1 41 rfl, hf.2 40 rfl⟩, ⟨hf.1 52 rfl, hf.2 51 rfl⟩, ⟨hf.1 60 rfl, hf.1 61 rfl, hf.2 58 rfl, hf.2 59 rfl⟩⟩⟩, ⟨hf.1 56 rfl, hf.1 31 rfl, hf.1 32 rfl, hf.1 33 rfl⟩, ⟨hf.1 3 rfl, hf.2 2 rfl⟩, ⟨hf.1 30 rfl, hf.2 29 rfl⟩, ⟨hf.1 4 rfl, hf.2 5 rfl, hf.2 6 rfl, hf.2 7 rfl, hf.2 10 rfl, hf.1 19 rfl, hf.2 18 rfl, hf.2 11 rfl, hf.2 8 rfl, hf.2 9 rfl, hf.2 12 rfl, hf.2 13 rfl, hf.2 14 rfl, hf.2 15 rfl, hf.2 16 rfl, hf.2 17 rfl⟩⟩⟩
theorem MO2_emboss {l : Launch} {G : GT} {mm : Nat} {x1 x2 : Int} (h_x1 : -2147483648 ≤ x1 ∧ x1 ≤ 2147483647) (h_x2 : -2147483648 ≤ x2 ∧ x2 ≤ 2147483647) : ModelOp l G yX12_emboss cX12_emboss 9 (some .int) 1 [.int (iI x1), .int (iI x2)] mm 0 0 (fun v a v2 a2 f => ((EMA v a v2 x1 x2 f) ∧ (v2 36 = v 36 ∧ KSA v a v2 a2 ∧ v2 42 = v 42 ∧ True ∧ (v2 41 = v 41 ∧ a2 40 = a 40) ∧ (v2 52 = v 52 ∧ a2 51 = a 51) ∧ (v2 60 = v 60 ∧ v2 61 = v 61 ∧ a2 58 = a 58 ∧ a2 59 = a 59))) ∧ (v2 56 = v 56 ∧ v2 31 = v 31 ∧ v2 32 = v 32 ∧ v2 33 = v 33) ∧ (v2 3 = v 3 ∧ a2 2 = a 2) ∧ (v2 30 = v 30 ∧ a2 29 = a 29) ∧ TSAME v a v2 a2) := by
  intro n ad ln v a L E hn hV hI
  obtain ⟨hB, hT, hS, hR, h19⟩ := hV
  refine ⟨_, N2_emboss (q := x1) (n1 := x2) hB h_x1 h_x2 L E hI, fun r L2 E2 h => ?_⟩
  obtain ⟨v2, a2, hI2, f, rfl, hf, hB2, hx⟩ := h
  exact ⟨f, ad, ln, v2, a2, rfl, hI2, ⟨hB2, (hT.fr hf rfl rfl), (hS.fr hf rfl rfl), (hR.fr hf rfl), (by have q := hf.1 19 rfl; push_cast; omega)⟩, ⟨⟨hx, ⟨hf.1 36 rfl, ⟨hf.1 36 rfl, hf.2 34 rfl, hf.2 35 rfl⟩, hf.1 42 rfl, trivial, ⟨hf.1 41 rfl, hf.2 40 rfl⟩, ⟨hf.1 52 rfl, hf.2 51 rfl⟩, ⟨hf.1 60 rfl, hf.1 61 rfl, hf.2 58 rfl, hf.2 59 rfl⟩⟩⟩, ⟨hf.1 56 rfl, hf.1 31 rfl, hf.1 32 rfl, hf.1 33 rfl⟩, ⟨hf.1 3 rfl, hf.2 2 rfl⟩, ⟨hf.1 30 rfl, hf.2 29 rfl⟩, ⟨hf.1 4 rfl, hf.2 5 rfl, hf.2 6 rfl, hf.2 7 rfl, hf.2 10 rfl, hf.1 19 rfl, hf.2 18 rfl, hf.2 11 rfl, hf.2 8 rfl, hf.2 9 rfl, hf.2 12 rfl, hf.2 13 rfl, hf.2 14 rfl, hf.2 15 rfl, hf.2 16 rfl, hf.2 17 rfl⟩⟩⟩
end
section
def BGL (iv : Nat → Nat → Int) (rv : Nat → Nat → Option Nat) (a : Nat → Nat → Int) (q b : Nat) (l : List Int) : Prop := iv b 2 = iv q 2 ∧ ∃ ss, CT iv rv b ss ∧ ∀ (r : Nat) (d : Int), l[r]? = some d → ss r = dcl a d 0
section RDRW
variable {h : Nat} {sk : Nat → Nat} {L : List Nat} {cl ln : Nat → Nat} {iv : Nat → Nat → Int} {rv : Nat → Nat → Option Nat} {a : Nat → Nat → Int} {q b u w c cb x0 T : Nat} {i k lg f d z y : Int} {r : Option Nat} {l : List Int} {R : Nat → Int}
end RDRW
end
section
section BYTS
variable {h : Nat} {sk : Nat → Nat} {L : List Nat} {cl ln : Nat → Nat} {iv iv1 iv2 : Nat → Nat → Int} {rv rv1 rv2 : Nat → Nat → Option Nat} {a : Nat → Nat → Int} {q w b lb T : Nat} {x k g d f : Int} {bs : List Int} {ls : List Nat}
theorem iI_ij {x y : Int} (e : iI x = iI y) (hx : -2147483648 ≤ x ∧ x ≤ 2147483647) (hy : -2147483648 ≤ y ∧ y ≤ 2147483647) : x = y := by
  have e2 := congrArg Int32.toInt e
  rw [iI_int ⟨by omega, by omega⟩, iI_int ⟨by omega, by omega⟩] at e2
  exact e2
end BYTS
end
section
def LTP (a : Nat → Nat → Int) (l : List Int) : Prop := ∀ (j : Nat) (d : Int), l[j]? = some d → 0 ≤ d → 1 ≤ a 12 d.toNat
section WROW
variable {h : Nat} {sk : Nat → Nat} {L L1 : List Nat} {cl ln cl1 ln1 : Nat → Nat} {iv iv1 iv2 iv3 : Nat → Nat → Int} {rv rv1 rv2 rv3 : Nat → Nat → Option Nat} {a : Nat → Nat → Int} {q w b c : Nat} {i x g gr f d z y k f1 : Int} {r : Option Nat} {l l0 l1 bs : List Int} {R : Nat → Int} {ls : List Nat}
theorem RWD.sml (hw : RWD ln iv rv a w d) (hf : f = 1 ↔ BSw ln iv rv w) (h12 : 0 ≤ d → 1 ≤ a 12 d.toNat) (hl : ∃ b, rv w 1 = some b) : f = 1 ↔ SMR a d := by
  rw [hf]
  by_cases hd : 0 ≤ d
  · obtain ⟨_, r4, l', c', q1, _, q3, _, q5, _⟩ := hw.1 hd
    have n1 := h12 hd
    have q6 := (q5 0 (by omega)).1
    rw [show 8 * d.toNat + 0 = (8 * d).toNat by omega] at q6
    refine ⟨fun e => ?_, fun e b hb => ?_⟩
    · have e2 := e l' q1
      exact ⟨hd, by omega, by omega⟩
    · rw [q1] at hb; cases hb
      obtain ⟨_, e1, e2⟩ := e
      exact ⟨r4, by omega, by omega, by omega⟩
  · obtain ⟨⟨r0, _⟩, _⟩ := hw.2 (by omega)
    obtain ⟨b, hb⟩ := hl
    refine ⟨fun e => ?_, fun e => absurd e.1 hd⟩
    have e2 := (e b hb).1
    omega
theorem RWD.rl0 (hw : RWD ln iv rv a w d) : iv w 0 = rol d := by
  unfold rol
  by_cases hd : 0 ≤ d
  · rw [if_pos hd]
    exact (hw.1 hd).2.1
  · rw [if_neg hd]
    exact (hw.2 (by omega)).1.1
theorem BGL.fr (hb : BGL iv rv a q b l) (hW : WT h sk L cl ln iv rv) {T t : Nat} (tq : ty L cl q T) (tb : ty L cl b t) (hF : fT ls L cl iv rv iv1 rv1) (h1 : ls.contains T = false) (h2 : ls.contains t = false) (h3 : ls.contains (tgt t 1) = false) (r1 : raw t = false) (r2 : (lst t && 1 == 1) = false) (r3 : nul t 1 = false) : BGL iv1 rv1 a q b l := by
  obtain ⟨g1, ss, g2, g3⟩ := hb
  exact ⟨by rw [hF.i tb h2 2, hF.i tq h1 2]; exact g1, ss, CT.fr g2 hW tb hF h2 h3 r1 r2 r3, g3⟩
theorem rout_ind (hd : ¬ 0 ≤ d) (hr : rol d ≠ 2 ∧ rol d ≠ 3) : rout a d gr = [] := by
  unfold rout
  rw [if_neg hd, if_neg hr.1, if_neg hr.2]
end WROW
end
section
def CEL (iv : Nat → Nat → Int) (rv : Nat → Nat → Option Nat) (q : Nat) (xs : List Int) : Prop := iv q 2 = ((xs.length : Nat) : Int) ∧ ∀ b, rv q 1 = some b → ∀ (j : Nat) (x : Int), xs[j]? = some x → iv b j = x
section CHAI
variable {h : Nat} {sk : Nat → Nat} {L : List Nat} {cl ln : Nat → Nat} {iv iv1 iv2 : Nat → Nat → Int} {rv rv1 rv2 : Nat → Nat → Option Nat} {q r cb b : Nat} {x y f k hy la n : Int} {xs ys : List Int} {ls : List Nat}
theorem CEL.nil (h0 : iv q 2 = 0) : CEL iv rv q [] := ⟨h0, fun b _ j x e => by simp at e⟩
theorem CEL.ct (hc : CEL iv rv q xs) : CT iv rv q (fun j => (xs[j]?).getD 0) := fun b hq j hj => by
  have e := hc.1
  have lt : j < xs.length := by omega
  have e2 := List.getElem?_eq_getElem lt
  show iv b j = (xs[j]?).getD 0
  rw [e2, hc.2 b hq j _ e2]
  rfl
theorem CEL.snoc (hc : CEL iv rv q xs) (hl : xs.length < 40200) (g : ((iv2 q 2 = iv q 2 ∧ iv q 2 = 40200) ∨ (iv2 q 2 = iv q 2 + 1 ∧ iv q 2 < 40200)) ∧ (∀ ss, CT iv rv q ss → iv q 2 < 40200 → CT iv2 rv2 q (va_up ss (iv q 2).toNat x)) ∧ (iv q 2 = 40200 → ∀ ss, CT iv rv q ss → CT iv2 rv2 q ss)) : CEL iv2 rv2 q (xs ++ [x]) := by
  obtain ⟨g1, g2, g3⟩ := g
  have e := hc.1
  have w := g2 _ hc.ct (by omega)
  refine ⟨by rw [len1]; omega, fun b hq j y ej => ?_⟩
  rw [w b hq j (by rcases ap1 ej with ⟨c, _⟩ | ⟨c, _⟩ <;> omega)]
  rcases ap1 ej with ⟨c, ej⟩ | ⟨c, ej⟩
  · rw [va_up_ne _ _ (by omega)]
    show (xs[j]?).getD 0 = y
    rw [ej]
    rfl
  · rw [show j = (iv q 2).toNat by omega, va_up_self]
    exact ej
theorem CEL.fr (hc : CEL iv rv q xs) (hW : WT h sk L cl ln iv rv) (tq : ty L cl q 8) (hF : fT ls L cl iv rv iv2 rv2) (h1 : ls.contains 8 = false) (h2 : ls.contains 38 = false) : CEL iv2 rv2 q xs := by
  refine ⟨(hF.i tq h1 2).trans hc.1, fun b hq j x e => ?_⟩
  rw [hF.r tq h1 1] at hq
  obtain ⟨b', w1, tb⟩ := hW.ref tq 1 rfl rfl rfl
  rw [hq] at w1; cases w1
  rw [hF.i tb h2 j]
  exact hc.2 b hq j x e
end CHAI
end
section
set_option maxHeartbeats 4000000 in
set_option maxRecDepth 100000 in
theorem G_copyOf_6 {l : Launch} {G : GT} {mi : Nat} {sk : Nat → Nat} {L : List Nat} {cl ln : Nat → Nat} {iv : Nat → Nat → Int} {rv : Nat → Nat → Option Nat}  {a0 : Nat} {n : Int} (hW : WT (g0 G) sk L cl ln iv rv) (hS : SKL sk L cl) (t_a0 : ty L cl a0 36) (h_n : -2147483648 ≤ n ∧ n ≤ 2147483647) (hn : ((ln a0 : Nat) : Int) < n ∧ 16 ≤ n ∧ n ≤ 12006) : Mc l G mi zPf 0 yJ7_copyOf_59c91 cJ7_copyOf_59c91 3 (some (.array .int)) 1 [.ref a0, .int (iI n)] L cl ln iv rv (16 + n.toNat) (fun v L2 cl2 ln2 iv2 rv2 => ∃ f : Nat, v = some (.ref f) ∧ XT L cl ln L2 cl2 ln2 ∧ fT [36] L cl iv rv iv2 rv2 ∧ WT (g0 G) sk L2 cl2 ln2 iv2 rv2 ∧ ty L2 cl2 f 36 ∧ (ln2 f = n.toNat ∧ ∀ j : Nat, j < ln a0 → iv2 f j = iv a0 j)) := by
  refine Mc.mk (by decide) (Nat.le_of_ble_eq_true rfl) ?_
  intro p e s m args below meth c A C hM
  refine hv3 ((show zPf ln rv ≤ 0 from Nat.le_refl 0)) (show XT L cl ln L cl ln from XT.refl) (show fT [36] L cl iv rv iv rv from fT.refl) (fun hph hX0 hF0 => ?_)
  refine c_iload_n (j := 1) C dJ7_copyOf_59c91_0 rfl ?_
  refine c_aload_n (j := 0) (x := a0) C dJ7_copyOf_59c91_1 rfl ?_
  have ll1 : 16 ≤ ln a0 ∧ ln a0 ≤ 12006 := hW.len t_a0 rfl
  refine c_alenI C dJ7_copyOf_59c91_2 t_a0 rfl ?_
  refine c_icmp_ne (tgt := 14) C ⟨by omega, by omega⟩ ⟨by omega, by omega⟩ dJ7_copyOf_59c91_3 (by decide) (fun _ => ?_) (fun z => absurd z (by omega))
  refine c_iload_n (j := 1) C dJ7_copyOf_59c91_14 rfl ?_
  refine c_newaI (z := n) (N := n.toNat) C 36 dJ7_copyOf_59c91_15 w1_57 rfl (by omega) (by omega) (rom2 hph hph (by omega)) (fun qn1 cln1 lnn1 ivn1 rvn1 hqn1 hcn1 hln1 hin1 hrn1 => ⟨(0 + (16 + n.toNat)), (z_in (by omega)), ?_⟩)
  refine c_g0 C (fun hg1 => ?_)
  refine hv5 (show ∀ b, b ≠ qn1 → lnn1 b = ln b from (fun b hb => by rw [hln1]; exact va_up_ne _ _ hb)) (show lnn1 qn1 = n.toNat from by rw [hln1]; exact va_up_self _ _ _) (hF0.new hX0 hqn1 hin1 hrn1) (show ty (L ++ [qn1]) cln1 qn1 36 from ty_new hcn1) (show qn1 ∉ L from fun h => hqn1 ((hX0 qn1 h).1)) (fun hxn1 lqn1 F1 tqn1 h0qn1 => ?_)
  refine hv2 (hW.new (ln2 := lnn1) hqn1 (hg1 qn1 (List.mem_append_right _ List.mem_cons_self)) hcn1 hxn1 hin1 hrn1 (fun _ => ⟨(show (-2147483648 : Int) ≤ 0 by decide), (show (0 : Int) ≤ 2147483647 by decide)⟩) (Or.inr (fun _ => rfl)) (fun _ => by show 16 ≤ lnn1 qn1 ∧ lnn1 qn1 ≤ 12006; omega) rfl rfl) (XT.new hqn1 hcn1 hxn1) (fun W1 xl1 => ?_)
  refine hv2 (hX0.trans xl1) (xl1.skl hS) (fun X1 sk1 => ?_)
  refine c_astore_n (lv2 := [(2, .ref qn1), (0, .ref a0), (1, .int (iI n))]) C dJ7_copyOf_59c91_17 (by decide) rfl ?_
  refine c_aload_n (j := 1) (x := a0) C dJ7_copyOf_59c91_18 rfl ?_
  refine c_iconst C dJ7_copyOf_59c91_19 ?_
  refine c_aload_n (j := 0) (x := qn1) C dJ7_copyOf_59c91_20 rfl ?_
  refine c_iconst C dJ7_copyOf_59c91_21 ?_
  refine c_aload_n (j := 1) (x := a0) C dJ7_copyOf_59c91_22 rfl ?_
  have ty1 := xl1.ty t_a0
  have ll2 : 16 ≤ lnn1 a0 ∧ lnn1 a0 ≤ 12006 := W1.len ty1 rfl
  refine c_alenI C dJ7_copyOf_59c91_23 ty1 rfl ?_
  refine c_iload_n (j := 2) C dJ7_copyOf_59c91_24 rfl ?_
  obtain ⟨mn1, hmn1, emn1⟩ := mmin_c (x := ((lnn1 a0 : Nat) : Int)) (y := n) ⟨by omega, by omega⟩ ⟨by omega, by omega⟩
  refine c_mmin (w := iI mn1) C dJ7_copyOf_59c91_25 w2_128 w2_129 w1_14 w2_130 (by decide) (rom0 hph (Nat.le_refl 0) (by omega)) (Nat.le_of_ble_eq_true rfl) emn1 ?_
  have ll3 : 16 ≤ lnn1 qn1 ∧ lnn1 qn1 ≤ 12006 := W1.len tqn1 rfl
  refine c_copyi (sp := 0) (dp := 0) (n := mn1) C dJ7_copyOf_59c91_28 w2_131 w2_133 w2_132 w1_15 ty1 rfl tqn1 rfl (by omega) (by omega) (by omega) (by omega) (by omega) (by omega) (by omega) (by decide) (Nat.le_of_ble_eq_true rfl) (fun iv1 pq1 => ?_)
  refine hv2 (W1.copy pq1 tqn1 ty1 (fun _ => rfl) (fun _ => rfl) (fun _ => rfl) (fun _ => rfl) rfl) (F1.copy X1 pq1 tqn1 rfl) (fun W2 F2 => ?_)
  refine c_aload_n (j := 0) (x := qn1) C dJ7_copyOf_59c91_31 rfl ?_
  have le1 : lnn1 a0 = ln a0 := (xl1 a0 t_a0.1).2.2
  exact c_aret (x := some qn1) C dJ7_copyOf_59c91_32 rfl (Or.inr ⟨_, rfl⟩) (by omega) (rom0 hph (Nat.le_refl 0) (by omega)) ⟨qn1, rfl, X1, F2, W2, tqn1, ⟨lqn1, fun j hj => by
      rw [pq1]
      show (if qn1 = qn1 then (if (0 : Int).toNat ≤ j ∧ j < (0 : Int).toNat + mn1.toNat then ivn1 a0 ((0 : Int).toNat + (j - (0 : Int).toNat)) else ivn1 qn1 j) else ivn1 qn1 j) = _
      rw [if_pos rfl, if_pos ⟨by omega, by omega⟩, hin1, congrFun (up0_a (ne_in t_a0.1 hqn1)) _]
      exact congrArg (iv a0) (by omega)⟩⟩
set_option maxHeartbeats 4000000 in
set_option maxRecDepth 100000 in
theorem G_add_6 {l : Launch} {G : GT} {mi : Nat} {sk : Nat → Nat} {L : List Nat} {cl ln : Nat → Nat} {iv : Nat → Nat → Int} {rv : Nat → Nat → Option Nat}  {a0 : Nat} {x : Int} (hW : WT (g0 G) sk L cl ln iv rv) (hS : SKL sk L cl) (t_a0 : ty L cl a0 6) (h_x : -2147483648 ≤ x ∧ x ≤ 2147483647)  : Mc l G mi (Phi (g0 G) sk) PHM yX1_add cX1_add 2 none 2 [.ref a0, .int (iI x)] L cl ln iv rv 0 (fun v L2 cl2 ln2 iv2 rv2 => v = none ∧ XT L cl ln L2 cl2 ln2 ∧ fT [6, 36] L cl iv rv iv2 rv2 ∧ WT (g0 G) sk L2 cl2 ln2 iv2 rv2 ∧ (((iv2 a0 2 = iv a0 2 ∧ iv a0 2 = 6003) ∨ (iv2 a0 2 = iv a0 2 + 1 ∧ iv a0 2 < 6003)) ∧ (∀ ss, CT iv rv a0 ss → iv a0 2 < 6003 → CT iv2 rv2 a0 (va_up ss (iv a0 2).toNat x)) ∧ (iv a0 2 = 6003 → ∀ ss, CT iv rv a0 ss → CT iv2 rv2 a0 ss))) := by
  refine Mc.mk (by decide) (Nat.le_of_ble_eq_true rfl) ?_
  intro p e s m args below meth c A C hM
  refine hv3 (Phi.le hW hS) (show XT L cl ln L cl ln from XT.refl) (show fT [6, 36] L cl iv rv iv rv from fT.refl) (fun hph hX0 hF0 => ?_)
  refine c_aload_n (j := 0) (x := a0) C dX1_add_0 rfl ?_
  have ri1 : 0 ≤ iv a0 2 ∧ iv a0 2 ≤ 6003 := hW.int t_a0 2
  refine c_get (k := 2) C ck_2 dX1_add_1 w1_43 (by decide) t_a0 rfl rfl (by decide) rfl ?_
  refine c_aload_n (j := 0) (x := a0) C dX1_add_4 rfl ?_
  have ri2 : 6003 ≤ iv a0 0 ∧ iv a0 0 ≤ 6003 := hW.int t_a0 0
  refine c_get (k := 0) C ck_2 dX1_add_5 w1_38 (by decide) t_a0 rfl rfl (by decide) rfl ?_
  refine c_icmp_lt (tgt := 12) C (r32_c (lo := 0) (hi := 6003) ri1.1 ri1.2 (by decide) (by decide)) (r32_c (lo := 6003) (hi := 6003) ri2.1 ri2.2 (by decide) (by decide)) dX1_add_8 (by decide) (fun c1 => ?_) (fun c1 => ?_)
  · refine c_aload_n (j := 0) (x := a0) C dX1_add_12 rfl ?_
    refine c_get (k := 2) C ck_2 dX1_add_13 w1_43 (by decide) t_a0 rfl rfl (by decide) rfl ?_
    refine c_aload_n (j := 0) (x := a0) C dX1_add_16 rfl ?_
    obtain ⟨rb1, rq1, trb1⟩ := hW.ref t_a0 1 rfl rfl rfl
    refine hv2 (show 16 ≤ ln rb1 ∧ ln rb1 ≤ 12006 from hW.len trb1 rfl) (hW.isz t_a0 rfl rfl rq1) (fun lnrb1 szrb1 => ?_)
    refine c_getr (k := 1) C ck_2 dX1_add_17 w1_39 (by decide) t_a0 rfl rfl (by decide) rfl rq1 ?_
    refine c_st (st2 := [.ref rb1, .int (iI (iv a0 2))]) rfl ?_
    have ll1 : 16 ≤ ln rb1 ∧ ln rb1 ≤ 12006 := hW.len trb1 rfl
    refine c_alenI C dX1_add_20 trb1 rfl ?_
    refine c_icmp_lt (tgt := 42) C (r32_c (lo := 0) (hi := 6003) ri1.1 ri1.2 (by decide) (by decide)) ⟨by omega, by omega⟩ dX1_add_21 (by decide) (fun c2 => ?_) (fun c2 => ?_)
    · refine c_aload_n (j := 0) (x := a0) C dX1_add_42 rfl ?_
      refine c_getr (k := 1) C ck_2 dX1_add_43 w1_39 (by decide) t_a0 rfl rfl (by decide) rfl rq1 ?_
      refine c_st (st2 := [.ref rb1]) rfl ?_
      refine c_aload_n (j := 0) (x := a0) C dX1_add_46 rfl ?_
      refine c_get (k := 2) C ck_2 dX1_add_47 w1_43 (by decide) t_a0 rfl rfl (by decide) rfl ?_
      refine c_iload_n (j := 1) C dX1_add_50 rfl ?_
      refine c_iast (x := x) C dX1_add_51 trb1 rfl (by omega) (by omega) (by omega) (fun iv1 pq1 => ?_)
      refine hv2 (hW.puti pq1 trb1 (show (-2147483648) ≤ x ∧ x ≤ 2147483647 by omega) rfl) (hF0.puti hX0 pq1 trb1 rfl) (fun W1 F1 => ?_)
      refine c_aload_n (j := 0) (x := a0) C dX1_add_52 rfl ?_
      refine c_dup C dX1_add_53 rfl ?_
      refine hv2 (show 0 ≤ iv1 a0 2 ∧ iv1 a0 2 ≤ 6003 from W1.int t_a0 2) (show iv1 a0 2 = iv a0 2 from by rw [pq1]; exact up2_k (ne_ty t_a0 trb1 (by decide))) (fun ri3 ie1 => ?_)
      refine c_get (k := 2) C ck_2 dX1_add_54 w1_43 (by decide) t_a0 rfl rfl (by decide) rfl ?_
      refine c_iconst C dX1_add_57 ?_
      refine c_iadd C dX1_add_58 ?_
      refine c_put (z := (iv1 a0 2) + 1) (k := 2) C ck_2 dX1_add_59 w1_43 (by decide) rfl t_a0 rfl rfl (by decide) rfl (by rfl) (by rfl) (fun iv2 pq2 => ?_)
      refine hv3 (W1.isz_put pq2 t_a0 (show 0 ≤ ((iv1 a0 2) + 1) ∧ ((iv1 a0 2) + 1) ≤ 6003 by omega) rfl rfl rq1 (show ((iv1 a0 2) + 1) ≤ ((ln rb1 : Nat) : Int) by omega)) (F1.puti hX0 pq2 t_a0 rfl) (show iv2 a0 2 = (iv1 a0 2) + 1 from by rw [pq2]; exact up2_s) (fun W2 F2 ie2 => ?_)
      have ri4 : 0 ≤ iv2 a0 2 ∧ iv2 a0 2 ≤ 6003 := W2.int t_a0 2
      exact c_vret C dX1_add_62 rfl (by decide) (rom0 hph hph (by decide)) ⟨rfl, hX0, F2, W2, ⟨by omega, (fun ss hs hq b2 hb j hj => by
          rw [rq1] at hb
          cases hb
          rw [pq2, up2_k (ne_ty trb1 t_a0 (by decide)), pq1]
          by_cases e : j = (iv a0 2).toNat
          · subst e; rw [up2_s, va_up_self]
          · rw [up2_j e, va_up_ne _ _ e]; exact hs _ rq1 j (by omega)), (fun e => absurd e (by omega))⟩⟩
    · refine c_aload_n (j := 0) (x := a0) C dX1_add_24 rfl ?_
      refine c_aload_n (j := 0) (x := a0) C dX1_add_25 rfl ?_
      refine c_getr (k := 1) C ck_2 dX1_add_26 w1_39 (by decide) t_a0 rfl rfl (by decide) rfl rq1 ?_
      refine c_st (st2 := [.ref rb1, .ref a0]) rfl ?_
      refine c_aload_n (j := 0) (x := a0) C dX1_add_29 rfl ?_
      refine c_getr (k := 1) C ck_2 dX1_add_30 w1_39 (by decide) t_a0 rfl rfl (by decide) rfl rq1 ?_
      refine c_st (st2 := [.ref rb1, .ref rb1, .ref a0]) rfl ?_
      refine c_alenI C dX1_add_33 trb1 rfl ?_
      refine c_iconst C dX1_add_34 ?_
      refine c_imul C dX1_add_35 ?_
      refine c_g0 C (fun hg0 => ?_)
      refine hv2 (hW.sk t_a0 (by decide) rfl) (cap_of (ln := ln) rq1 (hg0 rb1 trb1.1)) (fun ask0 cp0 => ?_)
      have sl0 := Phi.slack (t := 6) (n := ln rb1) hW hS ⟨by decide, by decide⟩ (by rw [← ask0]; exact cp0) (by show ln rb1 ≤ 6003; omega)
      refine c_callS (As := [.ref rb1, .int (iI (((ln rb1 : Nat) : Int) * 2))]) (rest := [.ref a0]) C hM (G_copyOf_6 (a0 := rb1) (n := ((ln rb1 : Nat) : Int) * 2) hW hS trb1 (by omega) (by show ((ln rb1 : Nat) : Int) < (((ln rb1 : Nat) : Int) * 2) ∧ 16 ≤ (((ln rb1 : Nat) : Int) * 2) ∧ (((ln rb1 : Nat) : Int) * 2) ≤ 12006; omega)) dX1_add_36 kS_X1_20 rfl rfl (Nat.le_of_ble_eq_true rfl) ⟨(Nat.le_of_ble_eq_true rfl), (Nat.le_of_ble_eq_true rfl)⟩ (by unfold zPf; omega) (fun rh1 Lh1 clh1 lnh1 ivh1 rvh1 h1 => ⟨(0 + (16 + (((ln rb1 : Nat) : Int) * 2).toNat)), (zk1 (by obtain ⟨_, _, xlh1x, flh1x, Wh1x, _⟩ := h1; exact Phi.fr hW hS xlh1x flh1x rfl)), ?_⟩)
      obtain ⟨f1, rfl, xl1, fl1, W3, rgf1, exf1⟩ := h1
      refine hv3 (hF0.call hX0 fl1 rfl) (hX0.trans xl1) (xl1.skl hS) (fun F3 X1 sk1 => ?_)
      refine c_st (st2 := [.ref f1, .ref a0]) rfl ?_
      refine hv3 (show lnh1 f1 = (((ln rb1 : Nat) : Int) * 2).toNat ∧ ∀ j : Nat, j < ln rb1 → ivh1 f1 j = iv rb1 j from exf1) (xl1.ty t_a0) (show rvh1 a0 1 = rv a0 1 from (fl1.r t_a0 rfl 1)) (fun gf1 ty1 re1 => ?_)
      rw [rq1] at re1
      refine hv4 (show 0 ≤ ivh1 a0 2 ∧ ivh1 a0 2 ≤ 6003 from W3.int ty1 2) (show ivh1 a0 2 = iv a0 2 from fl1.i t_a0 rfl 2) (xl1.ty trb1) (show lnh1 rb1 = ln rb1 from (xl1 rb1 trb1.1).2.2) (fun ri5 ie3 ty2 le1 => ?_)
      refine c_g0 C (fun hg1 => ?_)
      refine hv2 (W3.sk ty1 (by decide) rfl) (cap_of (ln := lnh1) re1 (hg1 rb1 ty2.1)) (fun ask cpo => ?_)
      refine c_putr (x := (some f1)) (k := 1) C ck_2 dX1_add_39 w1_39 (by decide) rfl ty1 rfl rfl (by decide) rfl (by rfl) (by rfl) (fun rv1 pq3 => ⟨0, (by have gr := Phi.grow (g := g0 G) (rv2 := rv1) (rv := rvh1) (b := f1) (ln := lnh1) (t := 6) sk1 (by rw [← ask]; exact pq3) (hg1 f1 rgf1.1) (Or.inl ⟨by decide, by decide⟩); rw [← ask] at gr; have gr2 : Phi (g0 G) sk lnh1 rv1 + 3 * cap (g0 G) lnh1 rvh1 a0 = Phi (g0 G) sk lnh1 rvh1 + 3 * lnh1 f1 := gr; omega), ?_⟩)
      refine hv2 (W3.putit pq3 ty1 rfl rfl rgf1 (by omega)) (F3.putr X1 pq3 ty1 rfl) (fun W4 F4 => ?_)
      refine c_aload_n (j := 0) (x := a0) C dX1_add_42 rfl ?_
      have rp1 : rv1 a0 1 = (some f1) := by rw [pq3]; exact upr_s
      refine c_getr (k := 1) C ck_2 dX1_add_43 w1_39 (by decide) ty1 rfl rfl (by decide) rfl rp1 ?_
      refine c_st (st2 := [.ref f1]) rfl ?_
      refine c_aload_n (j := 0) (x := a0) C dX1_add_46 rfl ?_
      refine c_get (k := 2) C ck_2 dX1_add_47 w1_43 (by decide) ty1 rfl rfl (by decide) rfl ?_
      refine c_iload_n (j := 1) C dX1_add_50 rfl ?_
      have ll2 : 16 ≤ lnh1 f1 ∧ lnh1 f1 ≤ 12006 := W4.len rgf1 rfl
      refine c_iast (x := x) C dX1_add_51 rgf1 rfl (by omega) (by omega) (by omega) (fun iv3 pq4 => ?_)
      refine hv2 (W4.puti pq4 rgf1 (show (-2147483648) ≤ x ∧ x ≤ 2147483647 by omega) rfl) (F4.puti X1 pq4 rgf1 rfl) (fun W5 F5 => ?_)
      refine c_aload_n (j := 0) (x := a0) C dX1_add_52 rfl ?_
      refine c_dup C dX1_add_53 rfl ?_
      refine hv2 (show 0 ≤ iv3 a0 2 ∧ iv3 a0 2 ≤ 6003 from W5.int ty1 2) (show iv3 a0 2 = ivh1 a0 2 from by rw [pq4]; exact up2_k (ne_ty ty1 rgf1 (by decide))) (fun ri6 ie4 => ?_)
      refine c_get (k := 2) C ck_2 dX1_add_54 w1_43 (by decide) ty1 rfl rfl (by decide) rfl ?_
      refine c_iconst C dX1_add_57 ?_
      refine c_iadd C dX1_add_58 ?_
      refine c_put (z := (iv3 a0 2) + 1) (k := 2) C ck_2 dX1_add_59 w1_43 (by decide) rfl ty1 rfl rfl (by decide) rfl (by rfl) (by rfl) (fun iv4 pq5 => ?_)
      refine hv3 (W5.isz_put pq5 ty1 (show 0 ≤ ((iv3 a0 2) + 1) ∧ ((iv3 a0 2) + 1) ≤ 6003 by omega) rfl rfl rp1 (show ((iv3 a0 2) + 1) ≤ ((lnh1 f1 : Nat) : Int) by omega)) (F5.puti X1 pq5 ty1 rfl) (show iv4 a0 2 = (iv3 a0 2) + 1 from by rw [pq5]; exact up2_s) (fun W6 F6 ie5 => ?_)
      refine hv2 (show 0 ≤ iv4 a0 2 ∧ iv4 a0 2 ≤ 6003 from W6.int ty1 2) (Phi.le W6 sk1) (fun ri7 pl1 => ?_)
      exact c_vret C dX1_add_62 rfl (by decide) (rom0 hph pl1 (by decide)) ⟨rfl, X1, F6, W6, ⟨by omega, (fun ss hs hq b2 hb j hj => by
          rw [rp1] at hb
          cases hb
          rw [pq5, up2_k (ne_ty rgf1 ty1 (by decide)), pq4]
          by_cases e : j = (iv a0 2).toNat
          · subst e; rw [show (iv a0 2).toNat = (ivh1 a0 2).toNat from congrArg Int.toNat (by omega), up2_s, va_up_self]
          · rw [up2_j (fun e2 => e (e2.trans (congrArg Int.toNat (by omega)))), va_up_ne _ _ e, gf1.2 j (by omega)]; exact hs _ rq1 j (by omega)), (fun e => absurd e (by omega))⟩⟩
  · exact c_vret C dX1_add_11 rfl (by decide) (rom0 hph hph (by decide)) ⟨rfl, hX0, hF0, hW, ⟨by omega, (fun ss hs hq => absurd hq (by omega)), fun _ ss hs => hs⟩⟩
set_option maxHeartbeats 4000000 in
set_option maxRecDepth 100000 in
theorem G_copyOf_7 {l : Launch} {G : GT} {mi : Nat} {sk : Nat → Nat} {L : List Nat} {cl ln : Nat → Nat} {iv : Nat → Nat → Int} {rv : Nat → Nat → Option Nat}  {a0 : Nat} {n : Int} (hW : WT (g0 G) sk L cl ln iv rv) (hS : SKL sk L cl) (t_a0 : ty L cl a0 37) (h_n : -2147483648 ≤ n ∧ n ≤ 2147483647) (hn : ((ln a0 : Nat) : Int) < n ∧ 16 ≤ n ∧ n ≤ 12006) : Mc l G mi zPf 0 yJ7_copyOf_59c91 cJ7_copyOf_59c91 3 (some (.array .int)) 1 [.ref a0, .int (iI n)] L cl ln iv rv (16 + n.toNat) (fun v L2 cl2 ln2 iv2 rv2 => ∃ f : Nat, v = some (.ref f) ∧ XT L cl ln L2 cl2 ln2 ∧ fT [37] L cl iv rv iv2 rv2 ∧ WT (g0 G) sk L2 cl2 ln2 iv2 rv2 ∧ ty L2 cl2 f 37 ∧ (ln2 f = n.toNat ∧ ∀ j : Nat, j < ln a0 → iv2 f j = iv a0 j)) := by
  refine Mc.mk (by decide) (Nat.le_of_ble_eq_true rfl) ?_
  intro p e s m args below meth c A C hM
  refine hv3 ((show zPf ln rv ≤ 0 from Nat.le_refl 0)) (show XT L cl ln L cl ln from XT.refl) (show fT [37] L cl iv rv iv rv from fT.refl) (fun hph hX0 hF0 => ?_)
  refine c_iload_n (j := 1) C dJ7_copyOf_59c91_0 rfl ?_
  refine c_aload_n (j := 0) (x := a0) C dJ7_copyOf_59c91_1 rfl ?_
  have ll1 : 16 ≤ ln a0 ∧ ln a0 ≤ 12006 := hW.len t_a0 rfl
  refine c_alenI C dJ7_copyOf_59c91_2 t_a0 rfl ?_
  refine c_icmp_ne (tgt := 14) C ⟨by omega, by omega⟩ ⟨by omega, by omega⟩ dJ7_copyOf_59c91_3 (by decide) (fun _ => ?_) (fun z => absurd z (by omega))
  refine c_iload_n (j := 1) C dJ7_copyOf_59c91_14 rfl ?_
  refine c_newaI (z := n) (N := n.toNat) C 37 dJ7_copyOf_59c91_15 w1_57 rfl (by omega) (by omega) (rom2 hph hph (by omega)) (fun qn1 cln1 lnn1 ivn1 rvn1 hqn1 hcn1 hln1 hin1 hrn1 => ⟨(0 + (16 + n.toNat)), (z_in (by omega)), ?_⟩)
  refine c_g0 C (fun hg1 => ?_)
  refine hv5 (show ∀ b, b ≠ qn1 → lnn1 b = ln b from (fun b hb => by rw [hln1]; exact va_up_ne _ _ hb)) (show lnn1 qn1 = n.toNat from by rw [hln1]; exact va_up_self _ _ _) (hF0.new hX0 hqn1 hin1 hrn1) (show ty (L ++ [qn1]) cln1 qn1 37 from ty_new hcn1) (show qn1 ∉ L from fun h => hqn1 ((hX0 qn1 h).1)) (fun hxn1 lqn1 F1 tqn1 h0qn1 => ?_)
  refine hv2 (hW.new (ln2 := lnn1) hqn1 (hg1 qn1 (List.mem_append_right _ List.mem_cons_self)) hcn1 hxn1 hin1 hrn1 (fun _ => ⟨(show (-2147483648 : Int) ≤ 0 by decide), (show (0 : Int) ≤ 2147483647 by decide)⟩) (Or.inr (fun _ => rfl)) (fun _ => by show 16 ≤ lnn1 qn1 ∧ lnn1 qn1 ≤ 12006; omega) rfl rfl) (XT.new hqn1 hcn1 hxn1) (fun W1 xl1 => ?_)
  refine hv2 (hX0.trans xl1) (xl1.skl hS) (fun X1 sk1 => ?_)
  refine c_astore_n (lv2 := [(2, .ref qn1), (0, .ref a0), (1, .int (iI n))]) C dJ7_copyOf_59c91_17 (by decide) rfl ?_
  refine c_aload_n (j := 1) (x := a0) C dJ7_copyOf_59c91_18 rfl ?_
  refine c_iconst C dJ7_copyOf_59c91_19 ?_
  refine c_aload_n (j := 0) (x := qn1) C dJ7_copyOf_59c91_20 rfl ?_
  refine c_iconst C dJ7_copyOf_59c91_21 ?_
  refine c_aload_n (j := 1) (x := a0) C dJ7_copyOf_59c91_22 rfl ?_
  have ty1 := xl1.ty t_a0
  have ll2 : 16 ≤ lnn1 a0 ∧ lnn1 a0 ≤ 12006 := W1.len ty1 rfl
  refine c_alenI C dJ7_copyOf_59c91_23 ty1 rfl ?_
  refine c_iload_n (j := 2) C dJ7_copyOf_59c91_24 rfl ?_
  obtain ⟨mn1, hmn1, emn1⟩ := mmin_c (x := ((lnn1 a0 : Nat) : Int)) (y := n) ⟨by omega, by omega⟩ ⟨by omega, by omega⟩
  refine c_mmin (w := iI mn1) C dJ7_copyOf_59c91_25 w2_128 w2_129 w1_14 w2_130 (by decide) (rom0 hph (Nat.le_refl 0) (by omega)) (Nat.le_of_ble_eq_true rfl) emn1 ?_
  have ll3 : 16 ≤ lnn1 qn1 ∧ lnn1 qn1 ≤ 12006 := W1.len tqn1 rfl
  refine c_copyi (sp := 0) (dp := 0) (n := mn1) C dJ7_copyOf_59c91_28 w2_131 w2_133 w2_132 w1_15 ty1 rfl tqn1 rfl (by omega) (by omega) (by omega) (by omega) (by omega) (by omega) (by omega) (by decide) (Nat.le_of_ble_eq_true rfl) (fun iv1 pq1 => ?_)
  refine hv2 (W1.copy pq1 tqn1 ty1 (fun _ => rfl) (fun _ => rfl) (fun _ => rfl) (fun _ => rfl) rfl) (F1.copy X1 pq1 tqn1 rfl) (fun W2 F2 => ?_)
  refine c_aload_n (j := 0) (x := qn1) C dJ7_copyOf_59c91_31 rfl ?_
  have le1 : lnn1 a0 = ln a0 := (xl1 a0 t_a0.1).2.2
  exact c_aret (x := some qn1) C dJ7_copyOf_59c91_32 rfl (Or.inr ⟨_, rfl⟩) (by omega) (rom0 hph (Nat.le_refl 0) (by omega)) ⟨qn1, rfl, X1, F2, W2, tqn1, ⟨lqn1, fun j hj => by
      rw [pq1]
      show (if qn1 = qn1 then (if (0 : Int).toNat ≤ j ∧ j < (0 : Int).toNat + mn1.toNat then ivn1 a0 ((0 : Int).toNat + (j - (0 : Int).toNat)) else ivn1 qn1 j) else ivn1 qn1 j) = _
      rw [if_pos rfl, if_pos ⟨by omega, by omega⟩, hin1, congrFun (up0_a (ne_in t_a0.1 hqn1)) _]
      exact congrArg (iv a0) (by omega)⟩⟩
set_option maxHeartbeats 4000000 in
set_option maxRecDepth 100000 in
theorem G_add_7 {l : Launch} {G : GT} {mi : Nat} {sk : Nat → Nat} {L : List Nat} {cl ln : Nat → Nat} {iv : Nat → Nat → Int} {rv : Nat → Nat → Option Nat}  {a0 : Nat} {x : Int} (hW : WT (g0 G) sk L cl ln iv rv) (hS : SKL sk L cl) (t_a0 : ty L cl a0 7) (h_x : -2147483648 ≤ x ∧ x ≤ 2147483647)  : Mc l G mi (Phi (g0 G) sk) PHM yX1_add cX1_add 2 none 2 [.ref a0, .int (iI x)] L cl ln iv rv 0 (fun v L2 cl2 ln2 iv2 rv2 => v = none ∧ XT L cl ln L2 cl2 ln2 ∧ fT [7, 37] L cl iv rv iv2 rv2 ∧ WT (g0 G) sk L2 cl2 ln2 iv2 rv2 ∧ (((iv2 a0 2 = iv a0 2 ∧ iv a0 2 = 6003) ∨ (iv2 a0 2 = iv a0 2 + 1 ∧ iv a0 2 < 6003)) ∧ (∀ ss, CT iv rv a0 ss → iv a0 2 < 6003 → CT iv2 rv2 a0 (va_up ss (iv a0 2).toNat x)) ∧ (iv a0 2 = 6003 → ∀ ss, CT iv rv a0 ss → CT iv2 rv2 a0 ss))) := by
  refine Mc.mk (by decide) (Nat.le_of_ble_eq_true rfl) ?_
  intro p e s m args below meth c A C hM
  refine hv3 (Phi.le hW hS) (show XT L cl ln L cl ln from XT.refl) (show fT [7, 37] L cl iv rv iv rv from fT.refl) (fun hph hX0 hF0 => ?_)
  refine c_aload_n (j := 0) (x := a0) C dX1_add_0 rfl ?_
  have ri1 : 0 ≤ iv a0 2 ∧ iv a0 2 ≤ 6003 := hW.int t_a0 2
  refine c_get (k := 2) C ck_2 dX1_add_1 w1_43 (by decide) t_a0 rfl rfl (by decide) rfl ?_
  refine c_aload_n (j := 0) (x := a0) C dX1_add_4 rfl ?_
  have ri2 : 6003 ≤ iv a0 0 ∧ iv a0 0 ≤ 6003 := hW.int t_a0 0
  refine c_get (k := 0) C ck_2 dX1_add_5 w1_38 (by decide) t_a0 rfl rfl (by decide) rfl ?_
  refine c_icmp_lt (tgt := 12) C (r32_c (lo := 0) (hi := 6003) ri1.1 ri1.2 (by decide) (by decide)) (r32_c (lo := 6003) (hi := 6003) ri2.1 ri2.2 (by decide) (by decide)) dX1_add_8 (by decide) (fun c1 => ?_) (fun c1 => ?_)
  · refine c_aload_n (j := 0) (x := a0) C dX1_add_12 rfl ?_
    refine c_get (k := 2) C ck_2 dX1_add_13 w1_43 (by decide) t_a0 rfl rfl (by decide) rfl ?_
    refine c_aload_n (j := 0) (x := a0) C dX1_add_16 rfl ?_
    obtain ⟨rb1, rq1, trb1⟩ := hW.ref t_a0 1 rfl rfl rfl
    refine hv2 (show 16 ≤ ln rb1 ∧ ln rb1 ≤ 12006 from hW.len trb1 rfl) (hW.isz t_a0 rfl rfl rq1) (fun lnrb1 szrb1 => ?_)
    refine c_getr (k := 1) C ck_2 dX1_add_17 w1_39 (by decide) t_a0 rfl rfl (by decide) rfl rq1 ?_
    refine c_st (st2 := [.ref rb1, .int (iI (iv a0 2))]) rfl ?_
    have ll1 : 16 ≤ ln rb1 ∧ ln rb1 ≤ 12006 := hW.len trb1 rfl
    refine c_alenI C dX1_add_20 trb1 rfl ?_
    refine c_icmp_lt (tgt := 42) C (r32_c (lo := 0) (hi := 6003) ri1.1 ri1.2 (by decide) (by decide)) ⟨by omega, by omega⟩ dX1_add_21 (by decide) (fun c2 => ?_) (fun c2 => ?_)
    · refine c_aload_n (j := 0) (x := a0) C dX1_add_42 rfl ?_
      refine c_getr (k := 1) C ck_2 dX1_add_43 w1_39 (by decide) t_a0 rfl rfl (by decide) rfl rq1 ?_
      refine c_st (st2 := [.ref rb1]) rfl ?_
      refine c_aload_n (j := 0) (x := a0) C dX1_add_46 rfl ?_
      refine c_get (k := 2) C ck_2 dX1_add_47 w1_43 (by decide) t_a0 rfl rfl (by decide) rfl ?_
      refine c_iload_n (j := 1) C dX1_add_50 rfl ?_
      refine c_iast (x := x) C dX1_add_51 trb1 rfl (by omega) (by omega) (by omega) (fun iv1 pq1 => ?_)
      refine hv2 (hW.puti pq1 trb1 (show (-2147483648) ≤ x ∧ x ≤ 2147483647 by omega) rfl) (hF0.puti hX0 pq1 trb1 rfl) (fun W1 F1 => ?_)
      refine c_aload_n (j := 0) (x := a0) C dX1_add_52 rfl ?_
      refine c_dup C dX1_add_53 rfl ?_
      refine hv2 (show 0 ≤ iv1 a0 2 ∧ iv1 a0 2 ≤ 6003 from W1.int t_a0 2) (show iv1 a0 2 = iv a0 2 from by rw [pq1]; exact up2_k (ne_ty t_a0 trb1 (by decide))) (fun ri3 ie1 => ?_)
      refine c_get (k := 2) C ck_2 dX1_add_54 w1_43 (by decide) t_a0 rfl rfl (by decide) rfl ?_
      refine c_iconst C dX1_add_57 ?_
      refine c_iadd C dX1_add_58 ?_
      refine c_put (z := (iv1 a0 2) + 1) (k := 2) C ck_2 dX1_add_59 w1_43 (by decide) rfl t_a0 rfl rfl (by decide) rfl (by rfl) (by rfl) (fun iv2 pq2 => ?_)
      refine hv3 (W1.isz_put pq2 t_a0 (show 0 ≤ ((iv1 a0 2) + 1) ∧ ((iv1 a0 2) + 1) ≤ 6003 by omega) rfl rfl rq1 (show ((iv1 a0 2) + 1) ≤ ((ln rb1 : Nat) : Int) by omega)) (F1.puti hX0 pq2 t_a0 rfl) (show iv2 a0 2 = (iv1 a0 2) + 1 from by rw [pq2]; exact up2_s) (fun W2 F2 ie2 => ?_)
      have ri4 : 0 ≤ iv2 a0 2 ∧ iv2 a0 2 ≤ 6003 := W2.int t_a0 2
      exact c_vret C dX1_add_62 rfl (by decide) (rom0 hph hph (by decide)) ⟨rfl, hX0, F2, W2, ⟨by omega, (fun ss hs hq b2 hb j hj => by
          rw [rq1] at hb
          cases hb
          rw [pq2, up2_k (ne_ty trb1 t_a0 (by decide)), pq1]
          by_cases e : j = (iv a0 2).toNat
          · subst e; rw [up2_s, va_up_self]
          · rw [up2_j e, va_up_ne _ _ e]; exact hs _ rq1 j (by omega)), (fun e => absurd e (by omega))⟩⟩
    · refine c_aload_n (j := 0) (x := a0) C dX1_add_24 rfl ?_
      refine c_aload_n (j := 0) (x := a0) C dX1_add_25 rfl ?_
      refine c_getr (k := 1) C ck_2 dX1_add_26 w1_39 (by decide) t_a0 rfl rfl (by decide) rfl rq1 ?_
      refine c_st (st2 := [.ref rb1, .ref a0]) rfl ?_
      refine c_aload_n (j := 0) (x := a0) C dX1_add_29 rfl ?_
      refine c_getr (k := 1) C ck_2 dX1_add_30 w1_39 (by decide) t_a0 rfl rfl (by decide) rfl rq1 ?_
      refine c_st (st2 := [.ref rb1, .ref rb1, .ref a0]) rfl ?_
      refine c_alenI C dX1_add_33 trb1 rfl ?_
      refine c_iconst C dX1_add_34 ?_
      refine c_imul C dX1_add_35 ?_
      refine c_g0 C (fun hg0 => ?_)
      refine hv2 (hW.sk t_a0 (by decide) rfl) (cap_of (ln := ln) rq1 (hg0 rb1 trb1.1)) (fun ask0 cp0 => ?_)
      have sl0 := Phi.slack (t := 7) (n := ln rb1) hW hS ⟨by decide, by decide⟩ (by rw [← ask0]; exact cp0) (by show ln rb1 ≤ 6003; omega)
      refine c_callS (As := [.ref rb1, .int (iI (((ln rb1 : Nat) : Int) * 2))]) (rest := [.ref a0]) C hM (G_copyOf_7 (a0 := rb1) (n := ((ln rb1 : Nat) : Int) * 2) hW hS trb1 (by omega) (by show ((ln rb1 : Nat) : Int) < (((ln rb1 : Nat) : Int) * 2) ∧ 16 ≤ (((ln rb1 : Nat) : Int) * 2) ∧ (((ln rb1 : Nat) : Int) * 2) ≤ 12006; omega)) dX1_add_36 kS_X1_20 rfl rfl (Nat.le_of_ble_eq_true rfl) ⟨(Nat.le_of_ble_eq_true rfl), (Nat.le_of_ble_eq_true rfl)⟩ (by unfold zPf; omega) (fun rh1 Lh1 clh1 lnh1 ivh1 rvh1 h1 => ⟨(0 + (16 + (((ln rb1 : Nat) : Int) * 2).toNat)), (zk1 (by obtain ⟨_, _, xlh1x, flh1x, Wh1x, _⟩ := h1; exact Phi.fr hW hS xlh1x flh1x rfl)), ?_⟩)
      obtain ⟨f1, rfl, xl1, fl1, W3, rgf1, exf1⟩ := h1
      refine hv3 (hF0.call hX0 fl1 rfl) (hX0.trans xl1) (xl1.skl hS) (fun F3 X1 sk1 => ?_)
      refine c_st (st2 := [.ref f1, .ref a0]) rfl ?_
      refine hv3 (show lnh1 f1 = (((ln rb1 : Nat) : Int) * 2).toNat ∧ ∀ j : Nat, j < ln rb1 → ivh1 f1 j = iv rb1 j from exf1) (xl1.ty t_a0) (show rvh1 a0 1 = rv a0 1 from (fl1.r t_a0 rfl 1)) (fun gf1 ty1 re1 => ?_)
      rw [rq1] at re1
      refine hv4 (show 0 ≤ ivh1 a0 2 ∧ ivh1 a0 2 ≤ 6003 from W3.int ty1 2) (show ivh1 a0 2 = iv a0 2 from fl1.i t_a0 rfl 2) (xl1.ty trb1) (show lnh1 rb1 = ln rb1 from (xl1 rb1 trb1.1).2.2) (fun ri5 ie3 ty2 le1 => ?_)
      refine c_g0 C (fun hg1 => ?_)
      refine hv2 (W3.sk ty1 (by decide) rfl) (cap_of (ln := lnh1) re1 (hg1 rb1 ty2.1)) (fun ask cpo => ?_)
      refine c_putr (x := (some f1)) (k := 1) C ck_2 dX1_add_39 w1_39 (by decide) rfl ty1 rfl rfl (by decide) rfl (by rfl) (by rfl) (fun rv1 pq3 => ⟨0, (by have gr := Phi.grow (g := g0 G) (rv2 := rv1) (rv := rvh1) (b := f1) (ln := lnh1) (t := 7) sk1 (by rw [← ask]; exact pq3) (hg1 f1 rgf1.1) (Or.inl ⟨by decide, by decide⟩); rw [← ask] at gr; have gr2 : Phi (g0 G) sk lnh1 rv1 + 3 * cap (g0 G) lnh1 rvh1 a0 = Phi (g0 G) sk lnh1 rvh1 + 3 * lnh1 f1 := gr; omega), ?_⟩)
      refine hv2 (W3.putit pq3 ty1 rfl rfl rgf1 (by omega)) (F3.putr X1 pq3 ty1 rfl) (fun W4 F4 => ?_)
      refine c_aload_n (j := 0) (x := a0) C dX1_add_42 rfl ?_
      have rp1 : rv1 a0 1 = (some f1) := by rw [pq3]; exact upr_s
      refine c_getr (k := 1) C ck_2 dX1_add_43 w1_39 (by decide) ty1 rfl rfl (by decide) rfl rp1 ?_
      refine c_st (st2 := [.ref f1]) rfl ?_
      refine c_aload_n (j := 0) (x := a0) C dX1_add_46 rfl ?_
      refine c_get (k := 2) C ck_2 dX1_add_47 w1_43 (by decide) ty1 rfl rfl (by decide) rfl ?_
      refine c_iload_n (j := 1) C dX1_add_50 rfl ?_
      have ll2 : 16 ≤ lnh1 f1 ∧ lnh1 f1 ≤ 12006 := W4.len rgf1 rfl
      refine c_iast (x := x) C dX1_add_51 rgf1 rfl (by omega) (by omega) (by omega) (fun iv3 pq4 => ?_)
      refine hv2 (W4.puti pq4 rgf1 (show (-2147483648) ≤ x ∧ x ≤ 2147483647 by omega) rfl) (F4.puti X1 pq4 rgf1 rfl) (fun W5 F5 => ?_)
      refine c_aload_n (j := 0) (x := a0) C dX1_add_52 rfl ?_
      refine c_dup C dX1_add_53 rfl ?_
      refine hv2 (show 0 ≤ iv3 a0 2 ∧ iv3 a0 2 ≤ 6003 from W5.int ty1 2) (show iv3 a0 2 = ivh1 a0 2 from by rw [pq4]; exact up2_k (ne_ty ty1 rgf1 (by decide))) (fun ri6 ie4 => ?_)
      refine c_get (k := 2) C ck_2 dX1_add_54 w1_43 (by decide) ty1 rfl rfl (by decide) rfl ?_
      refine c_iconst C dX1_add_57 ?_
      refine c_iadd C dX1_add_58 ?_
      refine c_put (z := (iv3 a0 2) + 1) (k := 2) C ck_2 dX1_add_59 w1_43 (by decide) rfl ty1 rfl rfl (by decide) rfl (by rfl) (by rfl) (fun iv4 pq5 => ?_)
      refine hv3 (W5.isz_put pq5 ty1 (show 0 ≤ ((iv3 a0 2) + 1) ∧ ((iv3 a0 2) + 1) ≤ 6003 by omega) rfl rfl rp1 (show ((iv3 a0 2) + 1) ≤ ((lnh1 f1 : Nat) : Int) by omega)) (F5.puti X1 pq5 ty1 rfl) (show iv4 a0 2 = (iv3 a0 2) + 1 from by rw [pq5]; exact up2_s) (fun W6 F6 ie5 => ?_)
      refine hv2 (show 0 ≤ iv4 a0 2 ∧ iv4 a0 2 ≤ 6003 from W6.int ty1 2) (Phi.le W6 sk1) (fun ri7 pl1 => ?_)
      exact c_vret C dX1_add_62 rfl (by decide) (rom0 hph pl1 (by decide)) ⟨rfl, X1, F6, W6, ⟨by omega, (fun ss hs hq b2 hb j hj => by
          rw [rp1] at hb
          cases hb
          rw [pq5, up2_k (ne_ty rgf1 ty1 (by decide)), pq4]
          by_cases e : j = (iv a0 2).toNat
          · subst e; rw [show (iv a0 2).toNat = (ivh1 a0 2).toNat from congrArg Int.toNat (by omega), up2_s, va_up_self]
          · rw [up2_j (fun e2 => e (e2.trans (congrArg Int.toNat (by omega)))), va_up_ne _ _ e, gf1.2 j (by omega)]; exact hs _ rq1 j (by omega)), (fun e => absurd e (by omega))⟩⟩
  · exact c_vret C dX1_add_11 rfl (by decide) (rom0 hph hph (by decide)) ⟨rfl, hX0, hF0, hW, ⟨by omega, (fun ss hs hq => absurd hq (by omega)), fun _ ss hs => hs⟩⟩
def MBI (L : List Nat) (cl ln : Nat → Nat) (iv : Nat → Nat → Int) (rv : Nat → Nat → Option Nat) (q : Nat) (iv1 : Nat → Nat → Int) (rv1 : Nat → Nat → Option Nat) (b : Nat) (k : Int) : Prop := ∀ a l, HL L cl ln iv rv a q l → NZL a l → ∃ ss, CT iv1 rv1 b ss ∧ ∀ (r : Nat) (d : Int), ((r : Nat) : Int) < k → l[r]? = some d → ss r = dcl a d 0
def MBX (L : List Nat) (cl ln : Nat → Nat) (iv : Nat → Nat → Int) (rv : Nat → Nat → Option Nat) (q : Nat) (iv2 : Nat → Nat → Int) (rv2 : Nat → Nat → Option Nat) (b : Nat) : Prop := ∀ a l, HL L cl ln iv rv a q l → NZL a l → ∃ ss, CT iv2 rv2 b ss ∧ ∀ (r : Nat) (d : Int), l[r]? = some d → ss r = dcl a d 0
def GBQ (sk ln : Nat → Nat) (iv : Nat → Nat → Int) (rv : Nat → Nat → Option Nat) (b : Nat) (iv2 : Nat → Nat → Int) (rv2 : Nat → Nat → Option Nat) (q u : Nat) (P : (Nat → Nat → Int) → Int → List Int) : Prop := ∀ v a, TRL sk ln iv rv v a → ∀ i : Nat, (i : Int) < v 4 → el rv (sk 22) i = some b → NZL a (P a i) → BGL iv2 rv2 a q u (P a i)
section BEGS
variable {h : Nat} {sk : Nat → Nat} {L L1 : List Nat} {cl ln cl1 ln1 : Nat → Nat} {iv iv1 iv2 iv3 : Nat → Nat → Int} {rv rv1 rv2 rv3 : Nat → Nat → Option Nat} {a : Nat → Nat → Int} {q w b c u T t : Nat} {x k : Int} {ls : List Nat} {P : (Nat → Nat → Int) → Int → List Int}
theorem MBI.init (h0 : iv1 b 2 = 0) : MBI L cl ln iv rv q iv1 rv1 b 0 := fun a l _ _ => ⟨fun _ => 0, CT.zero h0, fun r d hr => absurd hr (by omega)⟩
theorem MBI.step (hM : MBI L cl ln iv rv q iv1 rv1 b k) (hW : WT h sk L cl ln iv rv) (tq : ty L cl q T) (hl : lst T = true) (hn : nul T 1 = false) (hF : fT ls L cl iv rv iv1 rv1) (hX : XT L cl ln L1 cl1 ln1) (c1 : ls.contains T = false) (c2 : ls.contains (1000 + (T - 22)) = false) (c3 : ls.contains 20 = false) (c4 : ls.contains 66 = false) (g : ∀ ss, CT iv1 rv1 b ss → iv1 b 2 < 6003 → CT iv2 rv2 b (va_up ss (iv1 b 2).toNat x)) (hs : iv1 b 2 = k) (hk : 0 ≤ k ∧ k < 6003 ∧ k < iv q 2) (he : el rv1 q k.toNat = some w) (hc : rv1 w 2 = some c) (hx : 0 < ln1 c → x = iv1 c 0) : MBI L cl ln iv rv q iv2 rv2 b (k + 1) := fun a l hH hz => by
  obtain ⟨ss, s1, s2⟩ := hM a l hH hz
  have e0 := hH.1
  have lt : k.toNat < l.length := by omega
  have e := List.getElem?_eq_getElem lt
  obtain ⟨w', p1, p2, p3⟩ := hH.2 _ _ e
  have ee := el_fr hW tq hl hn hF c1 c2 (i := k.toNat) (by omega)
  rw [he, p1] at ee
  cases ee
  obtain ⟨c', d1, d2, d3⟩ := p3.c
  have e2 := hF.r p2 c3 2
  rw [hc, d1] at e2
  cases e2
  obtain ⟨b', w1, tc⟩ := hW.ref p2 2 rfl rfl rfl
  rw [d1] at w1
  cases w1
  refine hv2 ((hz _ _ e).1) (show ln1 c = ln c from (hX c tc.1).2.2) (fun nz lnc => ?_)
  have w := g ss s1 (by omega)
  rw [hs] at w
  refine ⟨_, w, fun r d hr hd => ?_⟩
  by_cases c0 : ((r : Nat) : Int) < k
  · rw [va_up_ne _ _ (by omega)]
    exact s2 r d c0 hd
  · rw [show r = k.toNat by omega, e] at hd
    cases hd
    rw [show r = k.toNat by omega, va_up_self, hx (by omega), hF.i tc c4 0]
    exact d3 0 (by omega)
theorem MBI.fin (hM : MBI L cl ln iv rv q iv1 rv1 b k) (hk : iv q 2 ≤ k) : MBX L cl ln iv rv q iv1 rv1 b := fun a l hH hz => by
  obtain ⟨ss, s1, s2⟩ := hM a l hH hz
  have e0 := hH.1
  exact ⟨ss, s1, fun r d hd => s2 r d (by have := gl_lt hd; omega) hd⟩
theorem GBQ.mk (hg : GLQ sk ln iv rv b L1 cl1 ln1 iv1 rv1 q P) (hm : MBX L1 cl1 ln1 iv1 rv1 q iv2 rv2 u) (hz : iv2 u 2 = iv1 q 2) (hq : iv2 q 2 = iv1 q 2) : GBQ sk ln iv rv b iv2 rv2 q u P := fun v a hR i hi ht nz => by
  obtain ⟨ss, s1, s2⟩ := hm a _ (hg v a hR i hi ht) nz
  exact ⟨hz.trans hq.symm, ss, s1, s2⟩
theorem GBQ.fr (hg : GBQ sk ln iv rv b iv1 rv1 q u P) (hW : WT h sk L1 cl1 ln1 iv1 rv1) (tq : ty L1 cl1 q T) (tb : ty L1 cl1 u t) (hF : fT ls L1 cl1 iv1 rv1 iv2 rv2) (h1 : ls.contains T = false) (h2 : ls.contains t = false) (h3 : ls.contains (tgt t 1) = false) (r1 : raw t = false) (r2 : (lst t && 1 == 1) = false) (r3 : nul t 1 = false) : GBQ sk ln iv rv b iv2 rv2 q u P := fun v a hR i hi ht nz => (hg v a hR i hi ht nz).fr hW tq tb hF h1 h2 h3 r1 r2 r3
end BEGS
set_option maxHeartbeats 4000000 in
set_option maxRecDepth 100000 in
theorem G_markBegins_24 {l : Launch} {G : GT} {mi : Nat} {sk : Nat → Nat} {L : List Nat} {cl ln : Nat → Nat} {iv : Nat → Nat → Int} {rv : Nat → Nat → Option Nat}  {a0 : Nat} {a1 : Nat} (hW : WT (g0 G) sk L cl ln iv rv) (hS : SKL sk L cl) (t_a0 : ty L cl a0 24) (t_a1 : ty L cl a1 6)  : Mc l G mi (Phi (g0 G) sk) PHM yX3_markBegins cX3_markBegins 5 none 3 [.ref a0, .ref a1] L cl ln iv rv 0 (fun v L2 cl2 ln2 iv2 rv2 => v = none ∧ XT L cl ln L2 cl2 ln2 ∧ fT [6, 36] L cl iv rv iv2 rv2 ∧ WT (g0 G) sk L2 cl2 ln2 iv2 rv2 ∧ (iv2 a1 2 = iv a0 2 ∧ MBX L cl ln iv rv a0 iv2 rv2 a1)) := by
  refine Mc.mk (by decide) (Nat.le_of_ble_eq_true rfl) ?_
  intro p e s m args below meth c A C hM
  refine hv5 (Phi.le hW hS) (show XT L cl ln L cl ln from XT.refl) (show fT [6, 36] L cl iv rv iv rv from fT.refl) (show 0 ≤ iv a1 2 ∧ iv a1 2 ≤ 6003 from hW.int t_a1 2) (show 0 ≤ iv a0 2 ∧ iv a0 2 ≤ 6003 from hW.int t_a0 2) (fun hph hX0 hF0 ri1 ri2 => ?_)
  refine c_aload_n (j := 1) (x := a1) C dX3_markBegins_0 rfl ?_
  refine d_callV (As := []) (rest := []) C hM (C_clear_6 (a0 := a1) hW hS t_a1  ) dX3_markBegins_1 kV_X3_77 rfl t_a1 rfl rfl (by decide) ck_2 rfl (Nat.le_of_ble_eq_true rfl) ⟨(Nat.le_of_ble_eq_true rfl), (Nat.le_of_ble_eq_true rfl)⟩ hph hph (show 0 + 0 = 0 from rfl) (by decide) (fun rh1 Lh1 clh1 lnh1 ivh1 rvh1 h1 => ?_)
  obtain ⟨rfl, rfl, rfl, rfl, rfl, fl1, W1, exf1⟩ := h1
  have F1 := hF0.call hX0 fl1 rfl
  refine c_st (st2 := []) rfl ?_
  refine hv2 (show 0 ≤ ivh1 a1 2 ∧ ivh1 a1 2 ≤ 6003 from W1.int t_a1 2) (show ivh1 a1 2 = 0 from exf1) (fun ri3 gf1 => ?_)
  refine c_aload_n (j := 0) (x := a0) C dX3_markBegins_4 rfl ?_
  refine hv2 (show 0 ≤ ivh1 a0 2 ∧ ivh1 a0 2 ≤ 6003 from W1.int t_a0 2) (show ivh1 a0 2 = iv a0 2 from fl1.i t_a0 rfl 2) (fun ri4 ie2 => ?_)
  refine d_callV (As := []) (rest := []) C hM (C_size_24 (a0 := a0) W1 hS t_a0  ) dX3_markBegins_5 kV_X3_78 rfl t_a0 rfl rfl (by decide) ck_0 rfl (Nat.le_of_ble_eq_true rfl) ⟨(Nat.le_of_ble_eq_true rfl), (Nat.le_of_ble_eq_true rfl)⟩ hph hph (show 0 + 0 = 0 from rfl) (by decide) (fun rh2 Lh2 clh2 lnh2 ivh2 rvh2 h2 => ?_)
  obtain ⟨f2, rfl, rfl, rfl, rfl, rfl, rfl, rgf2, exf2⟩ := h2
  refine c_st (st2 := [.int (iI f2)]) rfl ?_
  have gf2 : f2 = ivh1 a0 2 := exf2
  refine c_istore_n (lv2 := [(2, .int (iI f2)), (0, .ref a0), (1, .ref a1)]) C dX3_markBegins_8 (by decide) rfl ?_
  refine c_iconst C dX3_markBegins_9 ?_
  refine c_istore_n (lv2 := [(3, .int (iI 0)), (2, .int (iI f2)), (0, .ref a0), (1, .ref a1)]) C dX3_markBegins_10 (by decide) rfl ?_
  have Lp1 : ∀ (nn : Nat) (k : Int) (Lb1 : List Nat) (clb1 lnb1 : Nat → Nat) (ivb1 : Nat → Nat → Int) (rvb1 : Nat → Nat → Option Nat) , 6004 - k < (nn : Int) → XT L cl ln Lb1 clb1 lnb1 → WT (g0 G) sk Lb1 clb1 lnb1 ivb1 rvb1 → fT [6, 36] L cl iv rv ivb1 rvb1 → (0 ≤ k ∧ k ≤ 6003) → (k ≤ iv a0 2) → (ivb1 a1 2 = k) → (MBI L cl ln iv rv a0 ivb1 rvb1 a1 k) → cw p l e 3 ((PHM) + 0 - ((Phi (g0 G) sk) ln rv)) s m args below meth c G A 5 (MQ below (Qu G A (Qp G (Phi (g0 G) sk) ((Phi (g0 G) sk) ln rv) 0 (fun v L2 cl2 ln2 iv2 rv2 => v = none ∧ XT L cl ln L2 cl2 ln2 ∧ fT [6, 36] L cl iv rv iv2 rv2 ∧ WT (g0 G) sk L2 cl2 ln2 iv2 rv2 ∧ (iv2 a1 2 = iv a0 2 ∧ MBX L cl ln iv rv a0 iv2 rv2 a1)))) args s (((PHM) + 0 - ((Phi (g0 G) sk) ln rv)) / 16) ((PHM) + 0 - ((Phi (g0 G) sk) ln rv)) A) (Phi (g0 G) sk) ((Phi (g0 G) sk) ln rv) Lb1 clb1 lnb1 ivb1 rvb1 0 11 [(3, .int (iI k)), (2, .int (iI f2)), (0, .ref a0), (1, .ref a1)] [] := by
    intro nn
    induction nn with
    | zero =>
      intro  k Lb1 clb1 lnb1 ivb1 rvb1 hm Xb1 Wb1 Fb1  hk hkn hsz hM9
      have skb1 := Xb1.skl hS
      exact absurd hm (by omega)
    | succ nn ih1 =>
      intro  k Lb1 clb1 lnb1 ivb1 rvb1 hm Xb1 Wb1 Fb1  hk hkn hsz hM9
      have skb1 := Xb1.skl hS
      refine c_iload_n (j := 0) C dX3_markBegins_11 rfl ?_
      refine c_iload_n (j := 1) C dX3_markBegins_12 rfl ?_
      refine c_icmp_ge (tgt := 56) C (r32_c (lo := 0) (hi := 6003) hk.1 hk.2 (by decide) (by decide)) ⟨by omega, by omega⟩ dX3_markBegins_13 (by decide) (fun c1 => ?_) (fun c1 => ?_)
      · have ty1 := Xb1.ty t_a1
        refine hv4 (show 0 ≤ ivb1 a1 2 ∧ ivb1 a1 2 ≤ 6003 from Wb1.int ty1 2) (Xb1.ty t_a0) (show ivb1 a0 2 = iv a0 2 from Fb1.i t_a0 rfl 2) (Phi.le Wb1 skb1) (fun ri5 ty2 ie4 pl1 => ?_)
        have ri6 : 0 ≤ ivb1 a0 2 ∧ ivb1 a0 2 ≤ 6003 := Wb1.int ty2 2
        exact c_vret C dX3_markBegins_56 rfl (by decide) (rom0 hph pl1 (by decide)) ⟨rfl, Xb1, Fb1, Wb1, ⟨by omega, MBI.fin hM9 (by omega)⟩⟩
      · refine c_aload_n (j := 2) (x := a0) C dX3_markBegins_16 rfl ?_
        refine c_iload_n (j := 0) C dX3_markBegins_17 rfl ?_
        refine hv3 (Xb1.ty t_a0) (show ivb1 a0 2 = iv a0 2 from Fb1.i t_a0 rfl 2) (Phi.le Wb1 skb1) (fun ty3 ie5 pl2 => ?_)
        have ri7 : 0 ≤ ivb1 a0 2 ∧ ivb1 a0 2 ≤ 6003 := Wb1.int ty3 2
        refine d_callV (As := [.int (iI k)]) (rest := []) C hM (C_get_24 (a0 := a0) (i := k) Wb1 skb1 ty3 (by omega) (by show 0 ≤ k ∧ k < ivb1 a0 2; omega)) dX3_markBegins_18 kV_X3_82 rfl ty3 rfl rfl (by decide) ck_0 rfl (Nat.le_of_ble_eq_true rfl) ⟨(Nat.le_of_ble_eq_true rfl), (Nat.le_of_ble_eq_true rfl)⟩ hph pl2 (show 0 + 0 = 0 from rfl) (by decide) (fun rh3 Lh3 clh3 lnh3 ivh3 rvh3 h3 => ?_)
        obtain ⟨f3, rfl, rfl, rfl, rfl, rfl, rfl, rgf3, exf3⟩ := h3
        refine c_st (st2 := [.ref f3]) rfl ?_
        have gf3 : el rvb1 a0 k.toNat = some f3 := exf3
        refine c_cast C ck_6 dX3_markBegins_21 w5_63 w8_169t rgf3 rfl rfl (by decide) ?_
        refine c_astore (lv2 := [(4, .ref f3), (3, .int (iI k)), (2, .int (iI f2)), (0, .ref a0), (1, .ref a1)]) C dX3_markBegins_24 (by decide) rfl ?_
        refine c_aload_n (j := 4) (x := a1) C dX3_markBegins_26 rfl ?_
        refine c_aload (j := 0) (x := f3) C dX3_markBegins_27 rfl ?_
        obtain ⟨rb1, rq1, trb1⟩ := Wb1.ref rgf3 2 rfl rfl rfl
        have lnrb1 : 1 ≤ lnb1 rb1 ∧ lnb1 rb1 ≤ 4 := Wb1.len trb1 rfl
        refine c_getr (k := 2) C ck_6 dX3_markBegins_29 w3_143 (by decide) rgf3 rfl rfl (by decide) rfl rq1 ?_
        refine c_st (st2 := [.ref rb1, .ref a1]) rfl ?_
        have ll1 : 1 ≤ lnb1 rb1 ∧ lnb1 rb1 ≤ 4 := Wb1.len trb1 rfl
        refine c_alenI C dX3_markBegins_32 trb1 rfl ?_
        refine c_if_le (tgt := 46) C ⟨by omega, by omega⟩ dX3_markBegins_33 (by decide) (fun c2 => ?_) (fun c2 => ?_)
        · refine c_iconst C dX3_markBegins_46 ?_
          have ty4 := Xb1.ty t_a1
          have ri8 : 0 ≤ ivb1 a1 2 ∧ ivb1 a1 2 ≤ 6003 := Wb1.int ty4 2
          refine d_callV (As := [.int (iI 0)]) (rest := []) C hM (G_add_6 (a0 := a1) (x := 0) Wb1 skb1 ty4 ⟨by decide, by decide⟩ ) dX3_markBegins_47 kV_X3_91 rfl ty4 rfl rfl (by decide) ck_2 rfl (Nat.le_of_ble_eq_true rfl) ⟨(Nat.le_of_ble_eq_true rfl), (Nat.le_of_ble_eq_true rfl)⟩ hph pl2 (show 0 + 0 = 0 from rfl) (by decide) (fun rh4 Lh4 clh4 lnh4 ivh4 rvh4 h4 => ?_)
          obtain ⟨rfl, xl4, fl4, W4, exf4⟩ := h4
          refine hv3 (Fb1.call Xb1 fl4 rfl) (Xb1.trans xl4) (xl4.skl skb1) (fun F2 X1 sk1 => ?_)
          refine c_st (st2 := []) rfl ?_
          refine hv2 (xl4.ty ty4) (show ((ivh4 a1 2 = ivb1 a1 2 ∧ ivb1 a1 2 = 6003) ∨ (ivh4 a1 2 = ivb1 a1 2 + 1 ∧ ivb1 a1 2 < 6003)) ∧ (∀ ss, CT ivb1 rvb1 a1 ss → ivb1 a1 2 < 6003 → CT ivh4 rvh4 a1 (va_up ss (ivb1 a1 2).toNat (0 : Int))) ∧ (ivb1 a1 2 = 6003 → ∀ ss, CT ivb1 rvb1 a1 ss → CT ivh4 rvh4 a1 ss) from exf4) (fun ty5 gf4 => ?_)
          have ri9 : 0 ≤ ivh4 a1 2 ∧ ivh4 a1 2 ≤ 6003 := W4.int ty5 2
          refine c_iinc (z := k) (j := 1) (lv2 := [(3, .int (iI (k + 1))), (4, .ref f3), (2, .int (iI f2)), (0, .ref a0), (1, .ref a1)]) C dX3_markBegins_50 rfl (by decide) rfl ?_
          refine c_goto (tgt := 11) C dX3_markBegins_53 (by decide) ?_
          refine hv2 (xl4.ty ty3) (show ivh4 a0 2 = ivb1 a0 2 from fl4.i ty3 rfl 2) (fun ty6 ie8 => ?_)
          have ri10 : 0 ≤ ivh4 a0 2 ∧ ivh4 a0 2 ≤ 6003 := W4.int ty6 2
          refine c_lv (lv2 := [(3, .int (iI (k + 1))), (2, .int (iI f2)), (0, .ref a0), (1, .ref a1)]) [0, 2, 3, 4] rfl ?_
          exact ih1  (k + 1) _ _ _ _ _ (by omega) X1 W4 F2  (by omega) (by omega) (by show ivh4 a1 2 = (k + 1); omega) (hM9.step hW t_a0 rfl rfl Fb1 Xb1 rfl rfl rfl rfl gf4.2.1 (by omega) ⟨by omega, by omega, by omega⟩ exf3 rq1 (fun q => absurd q (by omega)))
        · refine c_aload (j := 0) (x := f3) C dX3_markBegins_36 rfl ?_
          refine c_getr (k := 2) C ck_6 dX3_markBegins_38 w3_143 (by decide) rgf3 rfl rfl (by decide) rfl rq1 ?_
          refine c_st (st2 := [.ref rb1, .ref a1]) rfl ?_
          refine c_iconst C dX3_markBegins_41 ?_
          refine c_iald C dX3_markBegins_42 trb1 rfl (by omega) (by omega) (by omega) ?_
          have ri11 : (-2147483648) ≤ ivb1 rb1 ((0 : Int).toNat) ∧ ivb1 rb1 ((0 : Int).toNat) ≤ 2147483647 := Wb1.int trb1 ((0 : Int).toNat)
          refine c_goto (tgt := 47) C dX3_markBegins_43 (by decide) ?_
          have ty7 := Xb1.ty t_a1
          have ri12 : 0 ≤ ivb1 a1 2 ∧ ivb1 a1 2 ≤ 6003 := Wb1.int ty7 2
          refine d_callV (As := [.int (iI (ivb1 rb1 (0 : Int).toNat))]) (rest := []) C hM (G_add_6 (a0 := a1) (x := ivb1 rb1 (0 : Int).toNat) Wb1 skb1 ty7 (by omega) ) dX3_markBegins_47 kV_X3_91 rfl ty7 rfl rfl (by decide) ck_2 rfl (Nat.le_of_ble_eq_true rfl) ⟨(Nat.le_of_ble_eq_true rfl), (Nat.le_of_ble_eq_true rfl)⟩ hph pl2 (show 0 + 0 = 0 from rfl) (by decide) (fun rh5 Lh5 clh5 lnh5 ivh5 rvh5 h5 => ?_)
          obtain ⟨rfl, xl5, fl5, W5, exf5⟩ := h5
          refine hv3 (Fb1.call Xb1 fl5 rfl) (Xb1.trans xl5) (xl5.skl skb1) (fun F3 X2 sk2 => ?_)
          refine c_st (st2 := []) rfl ?_
          refine hv2 (xl5.ty ty7) (show ((ivh5 a1 2 = ivb1 a1 2 ∧ ivb1 a1 2 = 6003) ∨ (ivh5 a1 2 = ivb1 a1 2 + 1 ∧ ivb1 a1 2 < 6003)) ∧ (∀ ss, CT ivb1 rvb1 a1 ss → ivb1 a1 2 < 6003 → CT ivh5 rvh5 a1 (va_up ss (ivb1 a1 2).toNat (ivb1 rb1 (0 : Int).toNat))) ∧ (ivb1 a1 2 = 6003 → ∀ ss, CT ivb1 rvb1 a1 ss → CT ivh5 rvh5 a1 ss) from exf5) (fun ty8 gf5 => ?_)
          have ri13 : 0 ≤ ivh5 a1 2 ∧ ivh5 a1 2 ≤ 6003 := W5.int ty8 2
          refine c_iinc (z := k) (j := 1) (lv2 := [(3, .int (iI (k + 1))), (4, .ref f3), (2, .int (iI f2)), (0, .ref a0), (1, .ref a1)]) C dX3_markBegins_50 rfl (by decide) rfl ?_
          refine c_goto (tgt := 11) C dX3_markBegins_53 (by decide) ?_
          refine hv2 (xl5.ty ty3) (show ivh5 a0 2 = ivb1 a0 2 from fl5.i ty3 rfl 2) (fun ty9 ie12 => ?_)
          have ri14 : 0 ≤ ivh5 a0 2 ∧ ivh5 a0 2 ≤ 6003 := W5.int ty9 2
          refine c_lv (lv2 := [(3, .int (iI (k + 1))), (2, .int (iI f2)), (0, .ref a0), (1, .ref a1)]) [0, 2, 3, 4] rfl ?_
          exact ih1  (k + 1) _ _ _ _ _ (by omega) X2 W5 F3  (by omega) (by omega) (by show ivh5 a1 2 = (k + 1); omega) (hM9.step hW t_a0 rfl rfl Fb1 Xb1 rfl rfl rfl rfl gf5.2.1 (by omega) ⟨by omega, by omega, by omega⟩ exf3 rq1 (fun _ => rfl))
  refine c_lv (lv2 := [(3, .int (iI 0)), (2, .int (iI f2)), (0, .ref a0), (1, .ref a1)]) [0, 1, 2, 3] rfl ?_
  exact Lp1 6006 0 _ _ _ _ _ (by omega) hX0 W1 F1  (by omega) (by omega) gf1 (MBI.init (by omega))
set_option maxHeartbeats 4000000 in
set_option maxRecDepth 100000 in
theorem G_markBegins_25 {l : Launch} {G : GT} {mi : Nat} {sk : Nat → Nat} {L : List Nat} {cl ln : Nat → Nat} {iv : Nat → Nat → Int} {rv : Nat → Nat → Option Nat}  {a0 : Nat} {a1 : Nat} (hW : WT (g0 G) sk L cl ln iv rv) (hS : SKL sk L cl) (t_a0 : ty L cl a0 25) (t_a1 : ty L cl a1 7)  : Mc l G mi (Phi (g0 G) sk) PHM yX3_markBegins cX3_markBegins 5 none 3 [.ref a0, .ref a1] L cl ln iv rv 0 (fun v L2 cl2 ln2 iv2 rv2 => v = none ∧ XT L cl ln L2 cl2 ln2 ∧ fT [7, 37] L cl iv rv iv2 rv2 ∧ WT (g0 G) sk L2 cl2 ln2 iv2 rv2 ∧ (iv2 a1 2 = iv a0 2 ∧ MBX L cl ln iv rv a0 iv2 rv2 a1)) := by
  refine Mc.mk (by decide) (Nat.le_of_ble_eq_true rfl) ?_
  intro p e s m args below meth c A C hM
  refine hv5 (Phi.le hW hS) (show XT L cl ln L cl ln from XT.refl) (show fT [7, 37] L cl iv rv iv rv from fT.refl) (show 0 ≤ iv a1 2 ∧ iv a1 2 ≤ 6003 from hW.int t_a1 2) (show 0 ≤ iv a0 2 ∧ iv a0 2 ≤ 6003 from hW.int t_a0 2) (fun hph hX0 hF0 ri1 ri2 => ?_)
  refine c_aload_n (j := 1) (x := a1) C dX3_markBegins_0 rfl ?_
  refine d_callV (As := []) (rest := []) C hM (C_clear_7 (a0 := a1) hW hS t_a1  ) dX3_markBegins_1 kV_X3_77 rfl t_a1 rfl rfl (by decide) ck_2 rfl (Nat.le_of_ble_eq_true rfl) ⟨(Nat.le_of_ble_eq_true rfl), (Nat.le_of_ble_eq_true rfl)⟩ hph hph (show 0 + 0 = 0 from rfl) (by decide) (fun rh1 Lh1 clh1 lnh1 ivh1 rvh1 h1 => ?_)
  obtain ⟨rfl, rfl, rfl, rfl, rfl, fl1, W1, exf1⟩ := h1
  have F1 := hF0.call hX0 fl1 rfl
  refine c_st (st2 := []) rfl ?_
  refine hv2 (show 0 ≤ ivh1 a1 2 ∧ ivh1 a1 2 ≤ 6003 from W1.int t_a1 2) (show ivh1 a1 2 = 0 from exf1) (fun ri3 gf1 => ?_)
  refine c_aload_n (j := 0) (x := a0) C dX3_markBegins_4 rfl ?_
  refine hv2 (show 0 ≤ ivh1 a0 2 ∧ ivh1 a0 2 ≤ 6003 from W1.int t_a0 2) (show ivh1 a0 2 = iv a0 2 from fl1.i t_a0 rfl 2) (fun ri4 ie2 => ?_)
  refine d_callV (As := []) (rest := []) C hM (C_size_25 (a0 := a0) W1 hS t_a0  ) dX3_markBegins_5 kV_X3_78 rfl t_a0 rfl rfl (by decide) ck_0 rfl (Nat.le_of_ble_eq_true rfl) ⟨(Nat.le_of_ble_eq_true rfl), (Nat.le_of_ble_eq_true rfl)⟩ hph hph (show 0 + 0 = 0 from rfl) (by decide) (fun rh2 Lh2 clh2 lnh2 ivh2 rvh2 h2 => ?_)
  obtain ⟨f2, rfl, rfl, rfl, rfl, rfl, rfl, rgf2, exf2⟩ := h2
  refine c_st (st2 := [.int (iI f2)]) rfl ?_
  have gf2 : f2 = ivh1 a0 2 := exf2
  refine c_istore_n (lv2 := [(2, .int (iI f2)), (0, .ref a0), (1, .ref a1)]) C dX3_markBegins_8 (by decide) rfl ?_
  refine c_iconst C dX3_markBegins_9 ?_
  refine c_istore_n (lv2 := [(3, .int (iI 0)), (2, .int (iI f2)), (0, .ref a0), (1, .ref a1)]) C dX3_markBegins_10 (by decide) rfl ?_
  have Lp1 : ∀ (nn : Nat) (k : Int) (Lb1 : List Nat) (clb1 lnb1 : Nat → Nat) (ivb1 : Nat → Nat → Int) (rvb1 : Nat → Nat → Option Nat) , 6004 - k < (nn : Int) → XT L cl ln Lb1 clb1 lnb1 → WT (g0 G) sk Lb1 clb1 lnb1 ivb1 rvb1 → fT [7, 37] L cl iv rv ivb1 rvb1 → (0 ≤ k ∧ k ≤ 6003) → (k ≤ iv a0 2) → (ivb1 a1 2 = k) → (MBI L cl ln iv rv a0 ivb1 rvb1 a1 k) → cw p l e 3 ((PHM) + 0 - ((Phi (g0 G) sk) ln rv)) s m args below meth c G A 5 (MQ below (Qu G A (Qp G (Phi (g0 G) sk) ((Phi (g0 G) sk) ln rv) 0 (fun v L2 cl2 ln2 iv2 rv2 => v = none ∧ XT L cl ln L2 cl2 ln2 ∧ fT [7, 37] L cl iv rv iv2 rv2 ∧ WT (g0 G) sk L2 cl2 ln2 iv2 rv2 ∧ (iv2 a1 2 = iv a0 2 ∧ MBX L cl ln iv rv a0 iv2 rv2 a1)))) args s (((PHM) + 0 - ((Phi (g0 G) sk) ln rv)) / 16) ((PHM) + 0 - ((Phi (g0 G) sk) ln rv)) A) (Phi (g0 G) sk) ((Phi (g0 G) sk) ln rv) Lb1 clb1 lnb1 ivb1 rvb1 0 11 [(3, .int (iI k)), (2, .int (iI f2)), (0, .ref a0), (1, .ref a1)] [] := by
    intro nn
    induction nn with
    | zero =>
      intro  k Lb1 clb1 lnb1 ivb1 rvb1 hm Xb1 Wb1 Fb1  hk hkn hsz hM9
      have skb1 := Xb1.skl hS
      exact absurd hm (by omega)
    | succ nn ih1 =>
      intro  k Lb1 clb1 lnb1 ivb1 rvb1 hm Xb1 Wb1 Fb1  hk hkn hsz hM9
      have skb1 := Xb1.skl hS
      refine c_iload_n (j := 0) C dX3_markBegins_11 rfl ?_
      refine c_iload_n (j := 1) C dX3_markBegins_12 rfl ?_
      refine c_icmp_ge (tgt := 56) C (r32_c (lo := 0) (hi := 6003) hk.1 hk.2 (by decide) (by decide)) ⟨by omega, by omega⟩ dX3_markBegins_13 (by decide) (fun c1 => ?_) (fun c1 => ?_)
      · have ty1 := Xb1.ty t_a1
        refine hv4 (show 0 ≤ ivb1 a1 2 ∧ ivb1 a1 2 ≤ 6003 from Wb1.int ty1 2) (Xb1.ty t_a0) (show ivb1 a0 2 = iv a0 2 from Fb1.i t_a0 rfl 2) (Phi.le Wb1 skb1) (fun ri5 ty2 ie4 pl1 => ?_)
        have ri6 : 0 ≤ ivb1 a0 2 ∧ ivb1 a0 2 ≤ 6003 := Wb1.int ty2 2
        exact c_vret C dX3_markBegins_56 rfl (by decide) (rom0 hph pl1 (by decide)) ⟨rfl, Xb1, Fb1, Wb1, ⟨by omega, MBI.fin hM9 (by omega)⟩⟩
      · refine c_aload_n (j := 2) (x := a0) C dX3_markBegins_16 rfl ?_
        refine c_iload_n (j := 0) C dX3_markBegins_17 rfl ?_
        refine hv3 (Xb1.ty t_a0) (show ivb1 a0 2 = iv a0 2 from Fb1.i t_a0 rfl 2) (Phi.le Wb1 skb1) (fun ty3 ie5 pl2 => ?_)
        have ri7 : 0 ≤ ivb1 a0 2 ∧ ivb1 a0 2 ≤ 6003 := Wb1.int ty3 2
        refine d_callV (As := [.int (iI k)]) (rest := []) C hM (C_get_25 (a0 := a0) (i := k) Wb1 skb1 ty3 (by omega) (by show 0 ≤ k ∧ k < ivb1 a0 2; omega)) dX3_markBegins_18 kV_X3_82 rfl ty3 rfl rfl (by decide) ck_0 rfl (Nat.le_of_ble_eq_true rfl) ⟨(Nat.le_of_ble_eq_true rfl), (Nat.le_of_ble_eq_true rfl)⟩ hph pl2 (show 0 + 0 = 0 from rfl) (by decide) (fun rh3 Lh3 clh3 lnh3 ivh3 rvh3 h3 => ?_)
        obtain ⟨f3, rfl, rfl, rfl, rfl, rfl, rfl, rgf3, exf3⟩ := h3
        refine c_st (st2 := [.ref f3]) rfl ?_
        have gf3 : el rvb1 a0 k.toNat = some f3 := exf3
        refine c_cast C ck_6 dX3_markBegins_21 w5_63 w8_169t rgf3 rfl rfl (by decide) ?_
        refine c_astore (lv2 := [(4, .ref f3), (3, .int (iI k)), (2, .int (iI f2)), (0, .ref a0), (1, .ref a1)]) C dX3_markBegins_24 (by decide) rfl ?_
        refine c_aload_n (j := 4) (x := a1) C dX3_markBegins_26 rfl ?_
        refine c_aload (j := 0) (x := f3) C dX3_markBegins_27 rfl ?_
        obtain ⟨rb1, rq1, trb1⟩ := Wb1.ref rgf3 2 rfl rfl rfl
        have lnrb1 : 1 ≤ lnb1 rb1 ∧ lnb1 rb1 ≤ 4 := Wb1.len trb1 rfl
        refine c_getr (k := 2) C ck_6 dX3_markBegins_29 w3_143 (by decide) rgf3 rfl rfl (by decide) rfl rq1 ?_
        refine c_st (st2 := [.ref rb1, .ref a1]) rfl ?_
        have ll1 : 1 ≤ lnb1 rb1 ∧ lnb1 rb1 ≤ 4 := Wb1.len trb1 rfl
        refine c_alenI C dX3_markBegins_32 trb1 rfl ?_
        refine c_if_le (tgt := 46) C ⟨by omega, by omega⟩ dX3_markBegins_33 (by decide) (fun c2 => ?_) (fun c2 => ?_)
        · refine c_iconst C dX3_markBegins_46 ?_
          have ty4 := Xb1.ty t_a1
          have ri8 : 0 ≤ ivb1 a1 2 ∧ ivb1 a1 2 ≤ 6003 := Wb1.int ty4 2
          refine d_callV (As := [.int (iI 0)]) (rest := []) C hM (G_add_7 (a0 := a1) (x := 0) Wb1 skb1 ty4 ⟨by decide, by decide⟩ ) dX3_markBegins_47 kV_X3_91 rfl ty4 rfl rfl (by decide) ck_2 rfl (Nat.le_of_ble_eq_true rfl) ⟨(Nat.le_of_ble_eq_true rfl), (Nat.le_of_ble_eq_true rfl)⟩ hph pl2 (show 0 + 0 = 0 from rfl) (by decide) (fun rh4 Lh4 clh4 lnh4 ivh4 rvh4 h4 => ?_)
          obtain ⟨rfl, xl4, fl4, W4, exf4⟩ := h4
          refine hv3 (Fb1.call Xb1 fl4 rfl) (Xb1.trans xl4) (xl4.skl skb1) (fun F2 X1 sk1 => ?_)
          refine c_st (st2 := []) rfl ?_
          refine hv2 (xl4.ty ty4) (show ((ivh4 a1 2 = ivb1 a1 2 ∧ ivb1 a1 2 = 6003) ∨ (ivh4 a1 2 = ivb1 a1 2 + 1 ∧ ivb1 a1 2 < 6003)) ∧ (∀ ss, CT ivb1 rvb1 a1 ss → ivb1 a1 2 < 6003 → CT ivh4 rvh4 a1 (va_up ss (ivb1 a1 2).toNat (0 : Int))) ∧ (ivb1 a1 2 = 6003 → ∀ ss, CT ivb1 rvb1 a1 ss → CT ivh4 rvh4 a1 ss) from exf4) (fun ty5 gf4 => ?_)
          have ri9 : 0 ≤ ivh4 a1 2 ∧ ivh4 a1 2 ≤ 6003 := W4.int ty5 2
          refine c_iinc (z := k) (j := 1) (lv2 := [(3, .int (iI (k + 1))), (4, .ref f3), (2, .int (iI f2)), (0, .ref a0), (1, .ref a1)]) C dX3_markBegins_50 rfl (by decide) rfl ?_
          refine c_goto (tgt := 11) C dX3_markBegins_53 (by decide) ?_
          refine hv2 (xl4.ty ty3) (show ivh4 a0 2 = ivb1 a0 2 from fl4.i ty3 rfl 2) (fun ty6 ie8 => ?_)
          have ri10 : 0 ≤ ivh4 a0 2 ∧ ivh4 a0 2 ≤ 6003 := W4.int ty6 2
          refine c_lv (lv2 := [(3, .int (iI (k + 1))), (2, .int (iI f2)), (0, .ref a0), (1, .ref a1)]) [0, 2, 3, 4] rfl ?_
          exact ih1  (k + 1) _ _ _ _ _ (by omega) X1 W4 F2  (by omega) (by omega) (by show ivh4 a1 2 = (k + 1); omega) (hM9.step hW t_a0 rfl rfl Fb1 Xb1 rfl rfl rfl rfl gf4.2.1 (by omega) ⟨by omega, by omega, by omega⟩ exf3 rq1 (fun q => absurd q (by omega)))
        · refine c_aload (j := 0) (x := f3) C dX3_markBegins_36 rfl ?_
          refine c_getr (k := 2) C ck_6 dX3_markBegins_38 w3_143 (by decide) rgf3 rfl rfl (by decide) rfl rq1 ?_
          refine c_st (st2 := [.ref rb1, .ref a1]) rfl ?_
          refine c_iconst C dX3_markBegins_41 ?_
          refine c_iald C dX3_markBegins_42 trb1 rfl (by omega) (by omega) (by omega) ?_
          have ri11 : (-2147483648) ≤ ivb1 rb1 ((0 : Int).toNat) ∧ ivb1 rb1 ((0 : Int).toNat) ≤ 2147483647 := Wb1.int trb1 ((0 : Int).toNat)
          refine c_goto (tgt := 47) C dX3_markBegins_43 (by decide) ?_
          have ty7 := Xb1.ty t_a1
          have ri12 : 0 ≤ ivb1 a1 2 ∧ ivb1 a1 2 ≤ 6003 := Wb1.int ty7 2
          refine d_callV (As := [.int (iI (ivb1 rb1 (0 : Int).toNat))]) (rest := []) C hM (G_add_7 (a0 := a1) (x := ivb1 rb1 (0 : Int).toNat) Wb1 skb1 ty7 (by omega) ) dX3_markBegins_47 kV_X3_91 rfl ty7 rfl rfl (by decide) ck_2 rfl (Nat.le_of_ble_eq_true rfl) ⟨(Nat.le_of_ble_eq_true rfl), (Nat.le_of_ble_eq_true rfl)⟩ hph pl2 (show 0 + 0 = 0 from rfl) (by decide) (fun rh5 Lh5 clh5 lnh5 ivh5 rvh5 h5 => ?_)
          obtain ⟨rfl, xl5, fl5, W5, exf5⟩ := h5
          refine hv3 (Fb1.call Xb1 fl5 rfl) (Xb1.trans xl5) (xl5.skl skb1) (fun F3 X2 sk2 => ?_)
          refine c_st (st2 := []) rfl ?_
          refine hv2 (xl5.ty ty7) (show ((ivh5 a1 2 = ivb1 a1 2 ∧ ivb1 a1 2 = 6003) ∨ (ivh5 a1 2 = ivb1 a1 2 + 1 ∧ ivb1 a1 2 < 6003)) ∧ (∀ ss, CT ivb1 rvb1 a1 ss → ivb1 a1 2 < 6003 → CT ivh5 rvh5 a1 (va_up ss (ivb1 a1 2).toNat (ivb1 rb1 (0 : Int).toNat))) ∧ (ivb1 a1 2 = 6003 → ∀ ss, CT ivb1 rvb1 a1 ss → CT ivh5 rvh5 a1 ss) from exf5) (fun ty8 gf5 => ?_)
          have ri13 : 0 ≤ ivh5 a1 2 ∧ ivh5 a1 2 ≤ 6003 := W5.int ty8 2
          refine c_iinc (z := k) (j := 1) (lv2 := [(3, .int (iI (k + 1))), (4, .ref f3), (2, .int (iI f2)), (0, .ref a0), (1, .ref a1)]) C dX3_markBegins_50 rfl (by decide) rfl ?_
          refine c_goto (tgt := 11) C dX3_markBegins_53 (by decide) ?_
          refine hv2 (xl5.ty ty3) (show ivh5 a0 2 = ivb1 a0 2 from fl5.i ty3 rfl 2) (fun ty9 ie12 => ?_)
          have ri14 : 0 ≤ ivh5 a0 2 ∧ ivh5 a0 2 ≤ 6003 := W5.int ty9 2
          refine c_lv (lv2 := [(3, .int (iI (k + 1))), (2, .int (iI f2)), (0, .ref a0), (1, .ref a1)]) [0, 2, 3, 4] rfl ?_
          exact ih1  (k + 1) _ _ _ _ _ (by omega) X2 W5 F3  (by omega) (by omega) (by show ivh5 a1 2 = (k + 1); omega) (hM9.step hW t_a0 rfl rfl Fb1 Xb1 rfl rfl rfl rfl gf5.2.1 (by omega) ⟨by omega, by omega, by omega⟩ exf3 rq1 (fun _ => rfl))
  refine c_lv (lv2 := [(3, .int (iI 0)), (2, .int (iI f2)), (0, .ref a0), (1, .ref a1)]) [0, 1, 2, 3] rfl ?_
  exact Lp1 6006 0 _ _ _ _ _ (by omega) hX0 W1 F1  (by omega) (by omega) gf1 (MBI.init (by omega))
set_option maxHeartbeats 4000000 in
set_option maxRecDepth 100000 in
theorem G_gather2 {l : Launch} {G : GT} {mi : Nat} {sk : Nat → Nat} {L : List Nat} {cl ln : Nat → Nat} {iv : Nat → Nat → Int} {rv : Nat → Nat → Option Nat}  {a0 : Nat} {a1 : Nat} (hW : WT (g0 G) sk L cl ln iv rv) (hS : SKL sk L cl) (t_a0 : ty L cl a0 16) (t_a1 : ty L cl a1 100)  : Mc l G mi (Phi (g0 G) sk) PHM yX3_gather cX3_gather 2 none 9 [.ref a0, .ref a1] L cl ln iv rv 0 (fun v L2 cl2 ln2 iv2 rv2 => v = none ∧ XT L cl ln L2 cl2 ln2 ∧ fT [24, 1002, 25, 1003, 6, 36, 7, 37] L cl iv rv iv2 rv2 ∧ WT (g0 G) sk L2 cl2 ln2 iv2 rv2 ∧ (True) ∧ (GLQ sk ln iv rv a1 L2 cl2 ln2 iv2 rv2 (sk 24) gat0 ∧ GLQ sk ln iv rv a1 L2 cl2 ln2 iv2 rv2 (sk 25) gat1) ∧ (GBQ sk ln iv rv a1 iv2 rv2 (sk 24) (sk 6) gat0 ∧ GBQ sk ln iv rv a1 iv2 rv2 (sk 25) (sk 7) gat1)) := by
  refine Mc.mk (by decide) (Nat.le_of_ble_eq_true rfl) ?_
  intro p e s m args below meth c A C hM
  refine hv11 (Phi.le hW hS) (show ty L cl (sk 6) 6 from ⟨(hS 6 rfl).1, by rw [(hS 6 rfl).2]; rfl⟩) (show ty L cl (sk 7) 7 from ⟨(hS 7 rfl).1, by rw [(hS 7 rfl).2]; rfl⟩) (show ty L cl (sk 8) 8 from ⟨(hS 8 rfl).1, by rw [(hS 8 rfl).2]; rfl⟩) (show ty L cl (sk 9) 9 from ⟨(hS 9 rfl).1, by rw [(hS 9 rfl).2]; rfl⟩) (show ty L cl (sk 10) 10 from ⟨(hS 10 rfl).1, by rw [(hS 10 rfl).2]; rfl⟩) (show ty L cl (sk 24) 24 from ⟨(hS 24 rfl).1, by rw [(hS 24 rfl).2]; rfl⟩) (show ty L cl (sk 25) 25 from ⟨(hS 25 rfl).1, by rw [(hS 25 rfl).2]; rfl⟩) (show XT L cl ln L cl ln from XT.refl) (show fT [24, 1002, 25, 1003, 6, 36, 7, 37] L cl iv rv iv rv from fT.refl) (show (-2147483648) ≤ iv a1 0 ∧ iv a1 0 ≤ 2147483647 from hW.int t_a1 0) (fun hph tsk6 tsk7 tsk8 tsk9 tsk10 tsk24 tsk25 hX0 hF0 ri1 => ?_)
  refine c_aload_n (j := 0) (x := a0) C dX3_gather_0 rfl ?_
  obtain ⟨rb1, rq1, trb1⟩ := hW.ref t_a0 0 rfl rfl rfl
  have erb1 := hW.sk trb1 (by decide) rfl
  subst erb1
  refine c_getr (k := 0) C ck_4 dX3_gather_1 w1_190 (by decide) t_a0 rfl rfl (by decide) rfl rq1 ?_
  refine c_st (st2 := [.ref (sk 24)]) rfl ?_
  refine d_callV (As := []) (rest := []) C hM (C_lclear_24 (a0 := (sk 24)) hW hS tsk24  ) dX3_gather_4 kV_X3_47 rfl tsk24 rfl rfl (by decide) ck_0 rfl (Nat.le_of_ble_eq_true rfl) ⟨(Nat.le_of_ble_eq_true rfl), (Nat.le_of_ble_eq_true rfl)⟩ hph hph (show 0 + 0 = 0 from rfl) (by decide) (fun rh1 Lh1 clh1 lnh1 ivh1 rvh1 h1 => ?_)
  obtain ⟨rfl, rfl, rfl, rfl, fl1, W1, exf1⟩ := h1
  have F1 := hF0.call hX0 fl1 rfl
  refine c_st (st2 := []) rfl ?_
  refine hv2 (show 0 ≤ ivh1 (sk 24) 2 ∧ ivh1 (sk 24) 2 ≤ 6003 from W1.int tsk24 2) (show ivh1 (sk 24) 2 = 0 from exf1) (fun ri2 gf1 => ?_)
  have gl1 : GLQ sk ln iv rv a1 L cl ln ivh1 rvh1 (sk 24) (fun _ _ => []) := (GLQ.nil (by omega))
  refine c_aload_n (j := 0) (x := a0) C dX3_gather_7 rfl ?_
  obtain ⟨rb2, rq2, trb2⟩ := W1.ref t_a0 1 rfl rfl rfl
  have erb2 := W1.sk trb2 (by decide) rfl
  subst erb2
  refine c_getr (k := 1) C ck_4 dX3_gather_8 w1_193 (by decide) t_a0 rfl rfl (by decide) rfl rq2 ?_
  refine c_st (st2 := [.ref (sk 25)]) rfl ?_
  have pl1 := Phi.le W1 hS
  refine d_callV (As := []) (rest := []) C hM (C_lclear_25 (a0 := (sk 25)) W1 hS tsk25  ) dX3_gather_11 kV_X3_47 rfl tsk25 rfl rfl (by decide) ck_0 rfl (Nat.le_of_ble_eq_true rfl) ⟨(Nat.le_of_ble_eq_true rfl), (Nat.le_of_ble_eq_true rfl)⟩ hph pl1 (show 0 + 0 = 0 from rfl) (by decide) (fun rh2 Lh2 clh2 lnh2 ivh2 rvh2 h2 => ?_)
  obtain ⟨rfl, rfl, rfl, rfl, fl2, W2, exf2⟩ := h2
  have F2 := F1.call hX0 fl2 rfl
  refine c_st (st2 := []) rfl ?_
  refine hv3 (show 0 ≤ ivh2 (sk 25) 2 ∧ ivh2 (sk 25) 2 ≤ 6003 from W2.int tsk25 2) (show ivh2 (sk 25) 2 = 0 from exf2) (show GLQ sk ln iv rv a1 L cl ln ivh2 rvh2 (sk 24) (fun _ _ => []) from (gl1.mv (QT.of W1 hS XT.refl fl2 rfl rfl rfl rfl rfl) (el24.fr W1 hS fl2 rfl rfl).1 (el24.fr W1 hS fl2 rfl rfl).2)) (fun ri3 gf2 gl2 => ?_)
  have gl3 : GLQ sk ln iv rv a1 L cl ln ivh2 rvh2 (sk 25) (fun _ _ => []) := (GLQ.nil (by omega))
  refine c_aload_n (j := 1) (x := a1) C dX3_gather_14 rfl ?_
  refine hv3 (show (-2147483648) ≤ ivh2 a1 0 ∧ ivh2 a1 0 ≤ 2147483647 from W2.int t_a1 0) (show ivh2 a1 0 = ivh1 a1 0 from fl2.i t_a1 rfl 0) (show ivh1 a1 0 = iv a1 0 from fl1.i t_a1 rfl 0) (fun ri4 ie3 ie4 => ?_)
  refine c_get (k := 0) C ck_10 dX3_gather_15 w2_175 (by decide) t_a1 rfl rfl (by decide) rfl ?_
  refine c_iconst C dX3_gather_18 ?_
  refine c_icmp_ne (tgt := 73) C (r32_c (lo := (-2147483648)) (hi := 2147483647) ri4.1 ri4.2 (by decide) (by decide)) ⟨by decide, by decide⟩ dX3_gather_19 (by decide) (fun c1 => ?_) (fun c1 => ?_)
  · refine c_aload_n (j := 0) (x := a0) C dX3_gather_73 rfl ?_
    have re1 : rvh1 a0 0 = rv a0 0 := (fl1.r t_a0 rfl 0)
    rw [rq1] at re1
    have re2 : rvh2 a0 0 = rvh1 a0 0 := (fl2.r t_a0 rfl 0)
    rw [re1] at re2
    refine c_getr (k := 0) C ck_4 dX3_gather_74 w1_190 (by decide) t_a0 rfl rfl (by decide) rfl re2 ?_
    refine c_st (st2 := [.ref (sk 24)]) rfl ?_
    refine c_aload_n (j := 1) (x := a1) C dX3_gather_77 rfl ?_
    refine hv3 (show 0 ≤ ivh2 (sk 24) 2 ∧ ivh2 (sk 24) 2 ≤ 6003 from W2.int tsk24 2) (show ivh2 (sk 24) 2 = ivh1 (sk 24) 2 from fl2.i tsk24 rfl 2) (Phi.le W2 hS) (fun ri5 ie5 pl2 => ?_)
    refine d_callS (As := [.ref (sk 24), .ref a1]) (rest := []) C hM (G_gatherPart_24 (a0 := (sk 24)) (a1 := a1) W2 hS tsk24 t_a1  (by show ivh2 (sk 24) 2 = 0; omega)) dX3_gather_78 kS_X3_59 rfl rfl (Nat.le_of_ble_eq_true rfl) ⟨(Nat.le_of_ble_eq_true rfl), (Nat.le_of_ble_eq_true rfl)⟩ hph pl2 (show 0 + 0 = 0 from rfl) (by decide) (fun rh3 Lh3 clh3 lnh3 ivh3 rvh3 h3 => ?_)
    obtain ⟨rfl, xl3, fl3, W3, exf3, gpxf3⟩ := h3
    refine hv3 (F2.call hX0 fl3 rfl) (hX0.trans xl3) (xl3.skl hS) (fun F3 X1 sk1 => ?_)
    refine c_st (st2 := []) rfl ?_
    refine hv6 (xl3.ty tsk24) (show ivh3 (sk 24) 2 ≤ 6002 from exf3) (show GLQ sk ln iv rv a1 Lh3 clh3 lnh3 ivh3 rvh3 (sk 24) rws1 from (GLQ.slf gpxf3 (QT.of hW hS hX0 F2 rfl rfl rfl rfl rfl))) (show GLQ sk ln iv rv a1 Lh3 clh3 lnh3 ivh3 rvh3 (sk 25) (fun _ _ => []) from (gl3.mv (QT.of W2 hS xl3 fl3 rfl rfl rfl rfl rfl) (el25.fr W2 hS fl3 rfl rfl).1 (el25.fr W2 hS fl3 rfl rfl).2)) (xl3.ty t_a1) (show ivh3 a1 0 = ivh2 a1 0 from fl3.i t_a1 rfl 0) (fun ty1 gf3 gl4 gl5 ty2 ie7 => ?_)
    refine hv2 (show 0 ≤ ivh3 (sk 24) 2 ∧ ivh3 (sk 24) 2 ≤ 6003 from W3.int ty1 2) (show (-2147483648) ≤ ivh3 a1 0 ∧ ivh3 a1 0 ≤ 2147483647 from W3.int ty2 0) (fun ri6 ri7 => ?_)
    have gl6 : GLQ sk ln iv rv a1 Lh3 clh3 lnh3 ivh3 rvh3 (sk 24) gat0 := (gl4.n0 (by omega))
    have gl7 : GLQ sk ln iv rv a1 Lh3 clh3 lnh3 ivh3 rvh3 (sk 25) gat1 := (gl5.n1 (by omega))
    refine c_aload_n (j := 0) (x := a0) C dX3_gather_81 rfl ?_
    refine hv2 (xl3.ty t_a0) (show rvh3 a0 0 = rvh2 a0 0 from (fl3.r t_a0 rfl 0)) (fun ty3 re3 => ?_)
    rw [re2] at re3
    refine c_getr (k := 0) C ck_4 dX3_gather_82 w1_190 (by decide) ty3 rfl rfl (by decide) rfl re3 ?_
    refine c_st (st2 := [.ref (sk 24)]) rfl ?_
    refine c_aload_n (j := 0) (x := a0) C dX3_gather_85 rfl ?_
    obtain ⟨rb3, rq3, trb3⟩ := W3.ref ty3 2 rfl rfl rfl
    have erb3 := W3.sk trb3 (by decide) rfl
    subst erb3
    refine c_getr (k := 2) C ck_4 dX3_gather_86 w1_196 (by decide) ty3 rfl rfl (by decide) rfl rq3 ?_
    refine c_st (st2 := [.ref (sk 6), .ref (sk 24)]) rfl ?_
    refine hv2 (xl3.ty tsk6) (Phi.le W3 sk1) (fun ty4 pl3 => ?_)
    refine d_callS (As := [.ref (sk 24), .ref (sk 6)]) (rest := []) C hM (G_markBegins_24 (a0 := (sk 24)) (a1 := (sk 6)) W3 sk1 ty1 ty4  ) dX3_gather_89 kS_X3_73 rfl rfl (Nat.le_of_ble_eq_true rfl) ⟨(Nat.le_of_ble_eq_true rfl), (Nat.le_of_ble_eq_true rfl)⟩ hph pl3 (show 0 + 0 = 0 from rfl) (by decide) (fun rh4 Lh4 clh4 lnh4 ivh4 rvh4 h4 => ?_)
    obtain ⟨rfl, xl4, fl4, W4, exf4⟩ := h4
    refine hv8 (F3.call X1 fl4 rfl) (xl3.ty tsk7) (xl3.ty tsk8) (xl3.ty tsk9) (xl3.ty tsk10) (xl3.ty tsk25) (X1.trans xl4) (xl4.skl sk1) (fun F4 ty5 ty6 ty7 ty8 ty9 X2 sk2 => ?_)
    refine c_st (st2 := []) rfl ?_
    refine hv6 (xl4.ty ty4) (show ivh4 (sk 6) 2 = ivh3 (sk 24) 2 ∧ MBX Lh3 clh3 lnh3 ivh3 rvh3 (sk 24) ivh4 rvh4 (sk 6) from exf4) (show GLQ sk ln iv rv a1 Lh4 clh4 lnh4 ivh4 rvh4 (sk 24) gat0 from (gl6.mv (QT.of W3 sk1 xl4 fl4 rfl rfl rfl rfl rfl) (el24.fr W3 sk1 fl4 rfl rfl).1 (el24.fr W3 sk1 fl4 rfl rfl).2)) (show GLQ sk ln iv rv a1 Lh4 clh4 lnh4 ivh4 rvh4 (sk 25) gat1 from (gl7.mv (QT.of W3 sk1 xl4 fl4 rfl rfl rfl rfl rfl) (el25.fr W3 sk1 fl4 rfl rfl).1 (el25.fr W3 sk1 fl4 rfl rfl).2)) (xl4.ty ty1) (show ivh4 (sk 24) 2 = ivh3 (sk 24) 2 from fl4.i ty1 rfl 2) (fun ty10 gf4 gl8 gl9 ty11 ie9 => ?_)
    refine hv2 (show 0 ≤ ivh4 (sk 6) 2 ∧ ivh4 (sk 6) 2 ≤ 6003 from W4.int ty10 2) (show 0 ≤ ivh4 (sk 24) 2 ∧ ivh4 (sk 24) 2 ≤ 6003 from W4.int ty11 2) (fun ri8 ri9 => ?_)
    have gb1 := GBQ.mk gl6 gf4.2 (by omega) (by omega)
    refine c_aload_n (j := 0) (x := a0) C dX3_gather_92 rfl ?_
    refine hv2 (xl4.ty ty3) (show rvh2 a0 1 = rvh1 a0 1 from (fl2.r t_a0 rfl 1)) (fun ty12 re4 => ?_)
    rw [rq2] at re4
    have re5 : rvh3 a0 1 = rvh2 a0 1 := (fl3.r t_a0 rfl 1)
    rw [re4] at re5
    have re6 : rvh4 a0 1 = rvh3 a0 1 := (fl4.r ty3 rfl 1)
    rw [re5] at re6
    refine c_getr (k := 1) C ck_4 dX3_gather_93 w1_193 (by decide) ty12 rfl rfl (by decide) rfl re6 ?_
    refine c_st (st2 := [.ref (sk 25)]) rfl ?_
    refine c_aload_n (j := 0) (x := a0) C dX3_gather_96 rfl ?_
    obtain ⟨rb4, rq4, trb4⟩ := W4.ref ty12 3 rfl rfl rfl
    have erb4 := W4.sk trb4 (by decide) rfl
    subst erb4
    refine c_getr (k := 3) C ck_4 dX3_gather_97 w1_197 (by decide) ty12 rfl rfl (by decide) rfl rq4 ?_
    refine c_st (st2 := [.ref (sk 7), .ref (sk 25)]) rfl ?_
    refine hv5 (xl4.ty ty9) (show ivh4 (sk 25) 2 = ivh3 (sk 25) 2 from fl4.i ty9 rfl 2) (show ivh3 (sk 25) 2 = ivh2 (sk 25) 2 from fl3.i tsk25 rfl 2) (xl4.ty ty5) (Phi.le W4 sk2) (fun ty13 ie10 ie11 ty14 pl4 => ?_)
    have ri10 : 0 ≤ ivh4 (sk 25) 2 ∧ ivh4 (sk 25) 2 ≤ 6003 := W4.int ty13 2
    refine d_callS (As := [.ref (sk 25), .ref (sk 7)]) (rest := []) C hM (G_markBegins_25 (a0 := (sk 25)) (a1 := (sk 7)) W4 sk2 ty13 ty14  ) dX3_gather_100 kS_X3_73 rfl rfl (Nat.le_of_ble_eq_true rfl) ⟨(Nat.le_of_ble_eq_true rfl), (Nat.le_of_ble_eq_true rfl)⟩ hph pl4 (show 0 + 0 = 0 from rfl) (by decide) (fun rh5 Lh5 clh5 lnh5 ivh5 rvh5 h5 => ?_)
    obtain ⟨rfl, xl5, fl5, W5, exf5⟩ := h5
    refine hv7 (F4.call X2 fl5 rfl) (xl4.ty ty2) (xl4.ty ty6) (xl4.ty ty7) (xl4.ty ty8) (X2.trans xl5) (xl5.skl sk2) (fun F5 ty15 ty16 ty17 ty18 X3 sk3 => ?_)
    refine c_st (st2 := []) rfl ?_
    refine hv8 (xl5.ty ty14) (show ivh5 (sk 7) 2 = ivh4 (sk 25) 2 ∧ MBX Lh4 clh4 lnh4 ivh4 rvh4 (sk 25) ivh5 rvh5 (sk 7) from exf5) (show GLQ sk ln iv rv a1 Lh5 clh5 lnh5 ivh5 rvh5 (sk 24) gat0 from (gl8.mv (QT.of W4 sk2 xl5 fl5 rfl rfl rfl rfl rfl) (el24.fr W4 sk2 fl5 rfl rfl).1 (el24.fr W4 sk2 fl5 rfl rfl).2)) (show GLQ sk ln iv rv a1 Lh5 clh5 lnh5 ivh5 rvh5 (sk 25) gat1 from (gl9.mv (QT.of W4 sk2 xl5 fl5 rfl rfl rfl rfl rfl) (el25.fr W4 sk2 fl5 rfl rfl).1 (el25.fr W4 sk2 fl5 rfl rfl).2)) (xl5.ty ty13) (show ivh5 (sk 25) 2 = ivh4 (sk 25) 2 from fl5.i ty13 rfl 2) (gb1.fr W4 ty11 ty10 fl5 rfl rfl rfl rfl rfl rfl) (Phi.le W5 sk3) (fun ty19 gf5 gl10 gl11 ty20 ie13 gb3 pl5 => ?_)
    refine hv2 (show 0 ≤ ivh5 (sk 7) 2 ∧ ivh5 (sk 7) 2 ≤ 6003 from W5.int ty19 2) (show 0 ≤ ivh5 (sk 25) 2 ∧ ivh5 (sk 25) 2 ≤ 6003 from W5.int ty20 2) (fun ri11 ri12 => ?_)
    have gb2 := GBQ.mk gl9 gf5.2 (by omega) (by omega)
    exact c_vret C dX3_gather_103 rfl (by decide) (rom0 hph pl5 (by decide)) ⟨rfl, X3, F5, W5, trivial, ⟨gl10, gl11⟩, ⟨gb3, gb2⟩⟩
  · refine c_aload_n (j := 0) (x := a0) C dX3_gather_22 rfl ?_
    have re7 : rvh1 a0 0 = rv a0 0 := (fl1.r t_a0 rfl 0)
    rw [rq1] at re7
    have re8 : rvh2 a0 0 = rvh1 a0 0 := (fl2.r t_a0 rfl 0)
    rw [re7] at re8
    refine c_getr (k := 0) C ck_4 dX3_gather_23 w1_190 (by decide) t_a0 rfl rfl (by decide) rfl re8 ?_
    refine c_st (st2 := [.ref (sk 24)]) rfl ?_
    refine c_aload_n (j := 1) (x := a1) C dX3_gather_26 rfl ?_
    rcases W2.opt t_a1 2 rfl rfl with ⟨nq1, _⟩ | ⟨nb1, nq1, tnb1⟩
    · refine c_getr (k := 2) C ck_10 dX3_gather_27 w2_181 (by decide) t_a1 rfl rfl (by decide) rfl nq1 ?_
      refine c_st (st2 := [.null, .ref (sk 24)]) rfl ?_
      refine hv3 (show 0 ≤ ivh2 (sk 24) 2 ∧ ivh2 (sk 24) 2 ≤ 6003 from W2.int tsk24 2) (show ivh2 (sk 24) 2 = ivh1 (sk 24) 2 from fl2.i tsk24 rfl 2) (Phi.le W2 hS) (fun ri13 ie14 pl6 => ?_)
      refine d_callS (As := [.ref (sk 24), .null]) (rest := []) C hM (C_gatherPart_24 (a0 := (sk 24)) (r := none) W2 hS tsk24 (fun _ q => by cases q)  (by show ivh2 (sk 24) 2 = 0; omega)) dX3_gather_30 kS_X3_59 rfl rfl (Nat.le_of_ble_eq_true rfl) ⟨(Nat.le_of_ble_eq_true rfl), (Nat.le_of_ble_eq_true rfl)⟩ hph pl6 (show 0 + 0 = 0 from rfl) (by decide) (fun rh6 Lh6 clh6 lnh6 ivh6 rvh6 h6 => ?_)
      obtain ⟨rfl, xl6, fl6, W6, exf6⟩ := h6
      refine hv3 (F2.call hX0 fl6 rfl) (hX0.trans xl6) (xl6.skl hS) (fun F6 X4 sk4 => ?_)
      refine c_st (st2 := []) rfl ?_
      refine hv3 (xl6.ty tsk24) (show ivh6 (sk 24) 2 ≤ 6002 from exf6) (show GLQ sk ln iv rv a1 Lh6 clh6 lnh6 ivh6 rvh6 (sk 25) (fun _ _ => []) from (gl3.mv (QT.of W2 hS xl6 fl6 rfl rfl rfl rfl rfl) (el25.fr W2 hS fl6 rfl rfl).1 (el25.fr W2 hS fl6 rfl rfl).2)) (fun ty21 gf6 gl13 => ?_)
      have ri14 : 0 ≤ ivh6 (sk 24) 2 ∧ ivh6 (sk 24) 2 ≤ 6003 := W6.int ty21 2
      have gl12 : GLQ sk ln iv rv a1 Lh6 clh6 lnh6 ivh6 rvh6 (sk 24) (fun a i => rws1 a (a 8 i.toNat)) := (GLQ.no2 (QT.of hW hS hX0 F2 rfl rfl rfl rfl rfl) (by omega) nq1)
      refine c_aload_n (j := 0) (x := a0) C dX3_gather_33 rfl ?_
      refine hv2 (xl6.ty t_a0) (show rvh6 a0 0 = rvh2 a0 0 from (fl6.r t_a0 rfl 0)) (fun ty22 re9 => ?_)
      rw [re8] at re9
      refine c_getr (k := 0) C ck_4 dX3_gather_34 w1_190 (by decide) ty22 rfl rfl (by decide) rfl re9 ?_
      refine c_st (st2 := [.ref (sk 24)]) rfl ?_
      refine c_aload_n (j := 1) (x := a1) C dX3_gather_37 rfl ?_
      have ty23 := xl6.ty t_a1
      obtain ⟨rb5, rq5, trb5⟩ := W6.ref ty23 6 rfl rfl rfl
      have lnrb5 : 4 ≤ lnh6 rb5 ∧ lnh6 rb5 ≤ 4 := W6.len trb5 rfl
      refine c_getr (k := 6) C ck_10 dX3_gather_38 w2_193 (by decide) ty23 rfl rfl (by decide) rfl rq5 ?_
      refine c_st (st2 := [.ref rb5, .ref (sk 24)]) rfl ?_
      refine c_iconst C dX3_gather_41 ?_
      have ll1 : 4 ≤ lnh6 rb5 ∧ lnh6 rb5 ≤ 4 := W6.len trb5 rfl
      rcases W6.opt trb5 ((2 : Int).toNat) rfl rfl with ⟨nq2, _⟩ | ⟨nb2, nq2, tnb2⟩
      · refine c_aaldR C dX3_gather_42 trb5 rfl (by omega) (by omega) (by omega) nq2 ?_
        refine c_st (st2 := [.null, .ref (sk 24)]) rfl ?_
        have pl7 := Phi.le W6 sk4
        refine d_callS (As := [.ref (sk 24), .null]) (rest := []) C hM (G_addInd_24 (a0 := (sk 24)) (r := none) W6 sk4 ty21 (fun _ q => by cases q)  (by show ivh6 (sk 24) 2 < 6003; omega)) dX3_gather_43 kS_X3_67 rfl rfl (Nat.le_of_ble_eq_true rfl) ⟨(Nat.le_of_ble_eq_true rfl), (Nat.le_of_ble_eq_true rfl)⟩ hph pl7 (show 0 + 0 = 0 from rfl) (by decide) (fun rh7 Lh7 clh7 lnh7 ivh7 rvh7 h7 => ?_)
        obtain ⟨rfl, xl7, fl7, W7, exf7, ladf7⟩ := h7
        refine hv9 (F6.call X4 fl7 rfl) (xl6.ty tsk6) (xl6.ty tsk7) (xl6.ty tsk8) (xl6.ty tsk9) (xl6.ty tsk10) (xl6.ty tsk25) (X4.trans xl7) (xl7.skl sk4) (fun F7 ty24 ty25 ty26 ty27 ty28 ty29 X5 sk5 => ?_)
        refine c_st (st2 := []) rfl ?_
        refine hv4 (xl7.ty ty21) (show ivh6 (sk 24) 2 ≤ ivh7 (sk 24) 2 ∧ ivh7 (sk 24) 2 ≤ ivh6 (sk 24) 2 + 1 from exf7) (show GLQ sk ln iv rv a1 Lh7 clh7 lnh7 ivh7 rvh7 (sk 24) (fun a i => rws1 a (a 8 i.toNat) ++ indl a (4 * i + ((2 : Nat) : Int))) from (gl12.ind (j := 2) (QT.of hW hS X4 F6 rfl rfl rfl rfl rfl) (QT.of W6 sk4 xl7 fl7 rfl rfl rfl rfl rfl) trb5 rq5 nq2 ladf7 (by decide))) (show GLQ sk ln iv rv a1 Lh7 clh7 lnh7 ivh7 rvh7 (sk 25) (fun _ _ => []) from (gl13.mv (QT.of W6 sk4 xl7 fl7 rfl rfl rfl rfl rfl) (el25.fr W6 sk4 fl7 rfl rfl).1 (el25.fr W6 sk4 fl7 rfl rfl).2)) (fun ty30 gf7 gl14 gl15 => ?_)
        have ri15 : 0 ≤ ivh7 (sk 24) 2 ∧ ivh7 (sk 24) 2 ≤ 6003 := W7.int ty30 2
        refine c_aload_n (j := 0) (x := a0) C dX3_gather_46 rfl ?_
        refine hv2 (xl7.ty ty22) (show rvh2 a0 1 = rvh1 a0 1 from (fl2.r t_a0 rfl 1)) (fun ty31 re10 => ?_)
        rw [rq2] at re10
        have re11 : rvh6 a0 1 = rvh2 a0 1 := (fl6.r t_a0 rfl 1)
        rw [re10] at re11
        have re12 : rvh7 a0 1 = rvh6 a0 1 := (fl7.r ty22 rfl 1)
        rw [re11] at re12
        refine c_getr (k := 1) C ck_4 dX3_gather_47 w1_193 (by decide) ty31 rfl rfl (by decide) rfl re12 ?_
        refine c_st (st2 := [.ref (sk 25)]) rfl ?_
        refine c_aload_n (j := 1) (x := a1) C dX3_gather_50 rfl ?_
        have ty32 := xl7.ty ty23
        rcases W7.opt ty32 3 rfl rfl with ⟨nq3, _⟩ | ⟨nb3, nq3, tnb3⟩
        · refine c_getr (k := 3) C ck_10 dX3_gather_51 w2_184 (by decide) ty32 rfl rfl (by decide) rfl nq3 ?_
          refine c_st (st2 := [.null, .ref (sk 25)]) rfl ?_
          refine hv7 (show (-2147483648) ≤ ivh7 a1 0 ∧ ivh7 a1 0 ≤ 2147483647 from W7.int ty32 0) (show ivh7 a1 0 = ivh6 a1 0 from fl7.i ty23 rfl 0) (show ivh6 a1 0 = ivh2 a1 0 from fl6.i t_a1 rfl 0) (xl7.ty ty29) (show ivh7 (sk 25) 2 = ivh6 (sk 25) 2 from fl7.i ty29 rfl 2) (show ivh6 (sk 25) 2 = ivh2 (sk 25) 2 from fl6.i tsk25 rfl 2) (Phi.le W7 sk5) (fun ri16 ie17 ie18 ty33 ie19 ie20 pl8 => ?_)
          have ri17 : 0 ≤ ivh7 (sk 25) 2 ∧ ivh7 (sk 25) 2 ≤ 6003 := W7.int ty33 2
          refine d_callS (As := [.ref (sk 25), .null]) (rest := []) C hM (C_gatherPart_25 (a0 := (sk 25)) (r := none) W7 sk5 ty33 (fun _ q => by cases q)  (by show ivh7 (sk 25) 2 = 0; omega)) dX3_gather_54 kS_X3_59 rfl rfl (Nat.le_of_ble_eq_true rfl) ⟨(Nat.le_of_ble_eq_true rfl), (Nat.le_of_ble_eq_true rfl)⟩ hph pl8 (show 0 + 0 = 0 from rfl) (by decide) (fun rh8 Lh8 clh8 lnh8 ivh8 rvh8 h8 => ?_)
          obtain ⟨rfl, xl8, fl8, W8, exf8⟩ := h8
          refine hv9 (F7.call X5 fl8 rfl) (xl7.ty ty24) (xl7.ty ty25) (xl7.ty ty26) (xl7.ty ty27) (xl7.ty ty28) (xl7.ty trb5) (X5.trans xl8) (xl8.skl sk5) (fun F8 ty34 ty35 ty36 ty37 ty38 ty39 X6 sk6 => ?_)
          refine c_st (st2 := []) rfl ?_
          refine hv3 (xl8.ty ty33) (show ivh8 (sk 25) 2 ≤ 6002 from exf8) (show GLQ sk ln iv rv a1 Lh8 clh8 lnh8 ivh8 rvh8 (sk 24) (fun a i => rws1 a (a 8 i.toNat) ++ indl a (4 * i + ((2 : Nat) : Int))) from (gl14.mv (QT.of W7 sk5 xl8 fl8 rfl rfl rfl rfl rfl) (el24.fr W7 sk5 fl8 rfl rfl).1 (el24.fr W7 sk5 fl8 rfl rfl).2)) (fun ty40 gf8 gl17 => ?_)
          have ri18 : 0 ≤ ivh8 (sk 25) 2 ∧ ivh8 (sk 25) 2 ≤ 6003 := W8.int ty40 2
          have gl16 : GLQ sk ln iv rv a1 Lh8 clh8 lnh8 ivh8 rvh8 (sk 25) (fun a i => rws1 a (a 9 i.toNat)) := (GLQ.no3 (QT.of hW hS X5 F7 rfl rfl rfl rfl rfl) (by omega) nq3)
          refine c_aload_n (j := 0) (x := a0) C dX3_gather_57 rfl ?_
          refine hv2 (xl8.ty ty31) (show rvh8 a0 1 = rvh7 a0 1 from (fl8.r ty31 rfl 1)) (fun ty41 re13 => ?_)
          rw [re12] at re13
          refine c_getr (k := 1) C ck_4 dX3_gather_58 w1_193 (by decide) ty41 rfl rfl (by decide) rfl re13 ?_
          refine c_st (st2 := [.ref (sk 25)]) rfl ?_
          refine c_aload_n (j := 1) (x := a1) C dX3_gather_61 rfl ?_
          refine hv2 (xl8.ty ty32) (show rvh7 a1 6 = rvh6 a1 6 from (fl7.r ty23 rfl 6)) (fun ty42 re14 => ?_)
          rw [rq5] at re14
          have re15 : rvh8 a1 6 = rvh7 a1 6 := (fl8.r ty32 rfl 6)
          rw [re14] at re15
          refine c_getr (k := 6) C ck_10 dX3_gather_62 w2_193 (by decide) ty42 rfl rfl (by decide) rfl re15 ?_
          refine c_st (st2 := [.ref rb5, .ref (sk 25)]) rfl ?_
          refine c_iconst C dX3_gather_65 ?_
          have ty43 := xl8.ty ty39
          have ll2 : 4 ≤ lnh8 rb5 ∧ lnh8 rb5 ≤ 4 := W8.len ty43 rfl
          rcases W8.opt ty43 ((3 : Int).toNat) rfl rfl with ⟨nq4, _⟩ | ⟨nb4, nq4, tnb4⟩
          · refine c_aaldR C dX3_gather_66 ty43 rfl (by omega) (by omega) (by omega) nq4 ?_
            refine c_st (st2 := [.null, .ref (sk 25)]) rfl ?_
            have pl9 := Phi.le W8 sk6
            refine d_callS (As := [.ref (sk 25), .null]) (rest := []) C hM (G_addInd_25 (a0 := (sk 25)) (r := none) W8 sk6 ty40 (fun _ q => by cases q)  (by show ivh8 (sk 25) 2 < 6003; omega)) dX3_gather_67 kS_X3_67 rfl rfl (Nat.le_of_ble_eq_true rfl) ⟨(Nat.le_of_ble_eq_true rfl), (Nat.le_of_ble_eq_true rfl)⟩ hph pl9 (show 0 + 0 = 0 from rfl) (by decide) (fun rh9 Lh9 clh9 lnh9 ivh9 rvh9 h9 => ?_)
            obtain ⟨rfl, xl9, fl9, W9, exf9, ladf9⟩ := h9
            refine hv9 (F8.call X6 fl9 rfl) (xl8.ty ty34) (xl8.ty ty35) (xl8.ty ty36) (xl8.ty ty37) (xl8.ty ty38) (xl8.ty ty30) (X6.trans xl9) (xl9.skl sk6) (fun F9 ty44 ty45 ty46 ty47 ty48 ty49 X7 sk7 => ?_)
            refine c_st (st2 := []) rfl ?_
            refine hv4 (xl9.ty ty40) (show ivh8 (sk 25) 2 ≤ ivh9 (sk 25) 2 ∧ ivh9 (sk 25) 2 ≤ ivh8 (sk 25) 2 + 1 from exf9) (show GLQ sk ln iv rv a1 Lh9 clh9 lnh9 ivh9 rvh9 (sk 25) (fun a i => rws1 a (a 9 i.toNat) ++ indl a (4 * i + ((3 : Nat) : Int))) from (gl16.ind (j := 3) (QT.of hW hS X6 F8 rfl rfl rfl rfl rfl) (QT.of W8 sk6 xl9 fl9 rfl rfl rfl rfl rfl) ty43 re15 nq4 ladf9 (by decide))) (show GLQ sk ln iv rv a1 Lh9 clh9 lnh9 ivh9 rvh9 (sk 24) (fun a i => rws1 a (a 8 i.toNat) ++ indl a (4 * i + ((2 : Nat) : Int))) from (gl17.mv (QT.of W8 sk6 xl9 fl9 rfl rfl rfl rfl rfl) (el24.fr W8 sk6 fl9 rfl rfl).1 (el24.fr W8 sk6 fl9 rfl rfl).2)) (fun ty50 gf9 gl18 gl19 => ?_)
            have ri19 : 0 ≤ ivh9 (sk 25) 2 ∧ ivh9 (sk 25) 2 ≤ 6003 := W9.int ty50 2
            refine c_goto (tgt := 81) C dX3_gather_70 (by decide) ?_
            refine hv3 (xl9.ty ty42) (show ivh9 a1 0 = ivh8 a1 0 from fl9.i ty42 rfl 0) (show ivh8 a1 0 = ivh7 a1 0 from fl8.i ty32 rfl 0) (fun ty51 ie23 ie24 => ?_)
            have ri20 : (-2147483648) ≤ ivh9 a1 0 ∧ ivh9 a1 0 ≤ 2147483647 := W9.int ty51 0
            have gl20 : GLQ sk ln iv rv a1 Lh9 clh9 lnh9 ivh9 rvh9 (sk 24) gat0 := (gl19.g0 (by omega))
            have gl21 : GLQ sk ln iv rv a1 Lh9 clh9 lnh9 ivh9 rvh9 (sk 25) gat1 := (gl18.g1 (by omega))
            refine c_aload_n (j := 0) (x := a0) C dX3_gather_81 rfl ?_
            refine hv2 (xl9.ty ty41) (show rvh7 a0 0 = rvh6 a0 0 from (fl7.r ty22 rfl 0)) (fun ty52 re16 => ?_)
            rw [re9] at re16
            have re17 : rvh8 a0 0 = rvh7 a0 0 := (fl8.r ty31 rfl 0)
            rw [re16] at re17
            have re18 : rvh9 a0 0 = rvh8 a0 0 := (fl9.r ty41 rfl 0)
            rw [re17] at re18
            refine c_getr (k := 0) C ck_4 dX3_gather_82 w1_190 (by decide) ty52 rfl rfl (by decide) rfl re18 ?_
            refine c_st (st2 := [.ref (sk 24)]) rfl ?_
            refine c_aload_n (j := 0) (x := a0) C dX3_gather_85 rfl ?_
            obtain ⟨rb6, rq6, trb6⟩ := W9.ref ty52 2 rfl rfl rfl
            have erb6 := W9.sk trb6 (by decide) rfl
            subst erb6
            refine c_getr (k := 2) C ck_4 dX3_gather_86 w1_196 (by decide) ty52 rfl rfl (by decide) rfl rq6 ?_
            refine c_st (st2 := [.ref (sk 6), .ref (sk 24)]) rfl ?_
            refine hv5 (xl9.ty ty49) (show ivh9 (sk 24) 2 = ivh8 (sk 24) 2 from fl9.i ty49 rfl 2) (show ivh8 (sk 24) 2 = ivh7 (sk 24) 2 from fl8.i ty30 rfl 2) (xl9.ty ty44) (Phi.le W9 sk7) (fun ty53 ie25 ie26 ty54 pl10 => ?_)
            have ri21 : 0 ≤ ivh9 (sk 24) 2 ∧ ivh9 (sk 24) 2 ≤ 6003 := W9.int ty53 2
            refine d_callS (As := [.ref (sk 24), .ref (sk 6)]) (rest := []) C hM (G_markBegins_24 (a0 := (sk 24)) (a1 := (sk 6)) W9 sk7 ty53 ty54  ) dX3_gather_89 kS_X3_73 rfl rfl (Nat.le_of_ble_eq_true rfl) ⟨(Nat.le_of_ble_eq_true rfl), (Nat.le_of_ble_eq_true rfl)⟩ hph pl10 (show 0 + 0 = 0 from rfl) (by decide) (fun rh10 Lh10 clh10 lnh10 ivh10 rvh10 h10 => ?_)
            obtain ⟨rfl, xl10, fl10, W10, exf10⟩ := h10
            refine hv8 (F9.call X7 fl10 rfl) (xl9.ty ty45) (xl9.ty ty46) (xl9.ty ty47) (xl9.ty ty48) (xl9.ty ty43) (X7.trans xl10) (xl10.skl sk7) (fun F10 ty55 ty56 ty57 ty58 ty59 X8 sk8 => ?_)
            refine c_st (st2 := []) rfl ?_
            refine hv6 (xl10.ty ty54) (show ivh10 (sk 6) 2 = ivh9 (sk 24) 2 ∧ MBX Lh9 clh9 lnh9 ivh9 rvh9 (sk 24) ivh10 rvh10 (sk 6) from exf10) (show GLQ sk ln iv rv a1 Lh10 clh10 lnh10 ivh10 rvh10 (sk 24) gat0 from (gl20.mv (QT.of W9 sk7 xl10 fl10 rfl rfl rfl rfl rfl) (el24.fr W9 sk7 fl10 rfl rfl).1 (el24.fr W9 sk7 fl10 rfl rfl).2)) (show GLQ sk ln iv rv a1 Lh10 clh10 lnh10 ivh10 rvh10 (sk 25) gat1 from (gl21.mv (QT.of W9 sk7 xl10 fl10 rfl rfl rfl rfl rfl) (el25.fr W9 sk7 fl10 rfl rfl).1 (el25.fr W9 sk7 fl10 rfl rfl).2)) (xl10.ty ty53) (show ivh10 (sk 24) 2 = ivh9 (sk 24) 2 from fl10.i ty53 rfl 2) (fun ty60 gf10 gl22 gl23 ty61 ie28 => ?_)
            refine hv2 (show 0 ≤ ivh10 (sk 6) 2 ∧ ivh10 (sk 6) 2 ≤ 6003 from W10.int ty60 2) (show 0 ≤ ivh10 (sk 24) 2 ∧ ivh10 (sk 24) 2 ≤ 6003 from W10.int ty61 2) (fun ri22 ri23 => ?_)
            have gb4 := GBQ.mk gl20 gf10.2 (by omega) (by omega)
            refine c_aload_n (j := 0) (x := a0) C dX3_gather_92 rfl ?_
            refine hv2 (xl10.ty ty52) (show rvh9 a0 1 = rvh8 a0 1 from (fl9.r ty41 rfl 1)) (fun ty62 re19 => ?_)
            rw [re13] at re19
            have re20 : rvh10 a0 1 = rvh9 a0 1 := (fl10.r ty52 rfl 1)
            rw [re19] at re20
            refine c_getr (k := 1) C ck_4 dX3_gather_93 w1_193 (by decide) ty62 rfl rfl (by decide) rfl re20 ?_
            refine c_st (st2 := [.ref (sk 25)]) rfl ?_
            refine c_aload_n (j := 0) (x := a0) C dX3_gather_96 rfl ?_
            obtain ⟨rb7, rq7, trb7⟩ := W10.ref ty62 3 rfl rfl rfl
            have erb7 := W10.sk trb7 (by decide) rfl
            subst erb7
            refine c_getr (k := 3) C ck_4 dX3_gather_97 w1_197 (by decide) ty62 rfl rfl (by decide) rfl rq7 ?_
            refine c_st (st2 := [.ref (sk 7), .ref (sk 25)]) rfl ?_
            refine hv4 (xl10.ty ty50) (show ivh10 (sk 25) 2 = ivh9 (sk 25) 2 from fl10.i ty50 rfl 2) (xl10.ty ty55) (Phi.le W10 sk8) (fun ty63 ie29 ty64 pl11 => ?_)
            have ri24 : 0 ≤ ivh10 (sk 25) 2 ∧ ivh10 (sk 25) 2 ≤ 6003 := W10.int ty63 2
            refine d_callS (As := [.ref (sk 25), .ref (sk 7)]) (rest := []) C hM (G_markBegins_25 (a0 := (sk 25)) (a1 := (sk 7)) W10 sk8 ty63 ty64  ) dX3_gather_100 kS_X3_73 rfl rfl (Nat.le_of_ble_eq_true rfl) ⟨(Nat.le_of_ble_eq_true rfl), (Nat.le_of_ble_eq_true rfl)⟩ hph pl11 (show 0 + 0 = 0 from rfl) (by decide) (fun rh11 Lh11 clh11 lnh11 ivh11 rvh11 h11 => ?_)
            obtain ⟨rfl, xl11, fl11, W11, exf11⟩ := h11
            refine hv8 (F10.call X8 fl11 rfl) (xl10.ty ty51) (xl10.ty ty56) (xl10.ty ty57) (xl10.ty ty58) (xl10.ty ty59) (X8.trans xl11) (xl11.skl sk8) (fun F11 ty65 ty66 ty67 ty68 ty69 X9 sk9 => ?_)
            refine c_st (st2 := []) rfl ?_
            refine hv8 (xl11.ty ty64) (show ivh11 (sk 7) 2 = ivh10 (sk 25) 2 ∧ MBX Lh10 clh10 lnh10 ivh10 rvh10 (sk 25) ivh11 rvh11 (sk 7) from exf11) (show GLQ sk ln iv rv a1 Lh11 clh11 lnh11 ivh11 rvh11 (sk 24) gat0 from (gl22.mv (QT.of W10 sk8 xl11 fl11 rfl rfl rfl rfl rfl) (el24.fr W10 sk8 fl11 rfl rfl).1 (el24.fr W10 sk8 fl11 rfl rfl).2)) (show GLQ sk ln iv rv a1 Lh11 clh11 lnh11 ivh11 rvh11 (sk 25) gat1 from (gl23.mv (QT.of W10 sk8 xl11 fl11 rfl rfl rfl rfl rfl) (el25.fr W10 sk8 fl11 rfl rfl).1 (el25.fr W10 sk8 fl11 rfl rfl).2)) (xl11.ty ty63) (show ivh11 (sk 25) 2 = ivh10 (sk 25) 2 from fl11.i ty63 rfl 2) (gb4.fr W10 ty61 ty60 fl11 rfl rfl rfl rfl rfl rfl) (Phi.le W11 sk9) (fun ty70 gf11 gl24 gl25 ty71 ie31 gb6 pl12 => ?_)
            refine hv2 (show 0 ≤ ivh11 (sk 7) 2 ∧ ivh11 (sk 7) 2 ≤ 6003 from W11.int ty70 2) (show 0 ≤ ivh11 (sk 25) 2 ∧ ivh11 (sk 25) 2 ≤ 6003 from W11.int ty71 2) (fun ri25 ri26 => ?_)
            have gb5 := GBQ.mk gl23 gf11.2 (by omega) (by omega)
            exact c_vret C dX3_gather_103 rfl (by decide) (rom0 hph pl12 (by decide)) ⟨rfl, X9, F11, W11, trivial, ⟨gl24, gl25⟩, ⟨gb6, gb5⟩⟩
          · have tnb4 : ty Lh8 clh8 nb4 20 := tnb4
            refine c_aaldR C dX3_gather_66 ty43 rfl (by omega) (by omega) (by omega) nq4 ?_
            refine c_st (st2 := [.ref nb4, .ref (sk 25)]) rfl ?_
            have pl13 := Phi.le W8 sk6
            refine d_callS (As := [.ref (sk 25), .ref nb4]) (rest := []) C hM (G_addInd_25 (a0 := (sk 25)) (r := (some nb4)) W8 sk6 ty40 (fun _ q => by cases q; exact tnb4)  (by show ivh8 (sk 25) 2 < 6003; omega)) dX3_gather_67 kS_X3_67 rfl rfl (Nat.le_of_ble_eq_true rfl) ⟨(Nat.le_of_ble_eq_true rfl), (Nat.le_of_ble_eq_true rfl)⟩ hph pl13 (show 0 + 0 = 0 from rfl) (by decide) (fun rh12 Lh12 clh12 lnh12 ivh12 rvh12 h12 => ?_)
            obtain ⟨rfl, xl12, fl12, W12, exf12, ladf12⟩ := h12
            refine hv9 (F8.call X6 fl12 rfl) (xl8.ty ty34) (xl8.ty ty35) (xl8.ty ty36) (xl8.ty ty37) (xl8.ty ty38) (xl8.ty ty30) (X6.trans xl12) (xl12.skl sk6) (fun F12 ty72 ty73 ty74 ty75 ty76 ty77 X10 sk10 => ?_)
            refine c_st (st2 := []) rfl ?_
            refine hv4 (xl12.ty ty40) (show ivh8 (sk 25) 2 ≤ ivh12 (sk 25) 2 ∧ ivh12 (sk 25) 2 ≤ ivh8 (sk 25) 2 + 1 from exf12) (show GLQ sk ln iv rv a1 Lh12 clh12 lnh12 ivh12 rvh12 (sk 25) (fun a i => rws1 a (a 9 i.toNat) ++ indl a (4 * i + ((3 : Nat) : Int))) from (gl16.ind (j := 3) (QT.of hW hS X6 F8 rfl rfl rfl rfl rfl) (QT.of W8 sk6 xl12 fl12 rfl rfl rfl rfl rfl) ty43 re15 nq4 ladf12 (by decide))) (show GLQ sk ln iv rv a1 Lh12 clh12 lnh12 ivh12 rvh12 (sk 24) (fun a i => rws1 a (a 8 i.toNat) ++ indl a (4 * i + ((2 : Nat) : Int))) from (gl17.mv (QT.of W8 sk6 xl12 fl12 rfl rfl rfl rfl rfl) (el24.fr W8 sk6 fl12 rfl rfl).1 (el24.fr W8 sk6 fl12 rfl rfl).2)) (fun ty78 gf12 gl26 gl27 => ?_)
            have ri27 : 0 ≤ ivh12 (sk 25) 2 ∧ ivh12 (sk 25) 2 ≤ 6003 := W12.int ty78 2
            refine c_goto (tgt := 81) C dX3_gather_70 (by decide) ?_
            refine hv3 (xl12.ty ty42) (show ivh12 a1 0 = ivh8 a1 0 from fl12.i ty42 rfl 0) (show ivh8 a1 0 = ivh7 a1 0 from fl8.i ty32 rfl 0) (fun ty79 ie33 ie34 => ?_)
            have ri28 : (-2147483648) ≤ ivh12 a1 0 ∧ ivh12 a1 0 ≤ 2147483647 := W12.int ty79 0
            have gl28 : GLQ sk ln iv rv a1 Lh12 clh12 lnh12 ivh12 rvh12 (sk 24) gat0 := (gl27.g0 (by omega))
            have gl29 : GLQ sk ln iv rv a1 Lh12 clh12 lnh12 ivh12 rvh12 (sk 25) gat1 := (gl26.g1 (by omega))
            refine c_aload_n (j := 0) (x := a0) C dX3_gather_81 rfl ?_
            refine hv2 (xl12.ty ty41) (show rvh7 a0 0 = rvh6 a0 0 from (fl7.r ty22 rfl 0)) (fun ty80 re21 => ?_)
            rw [re9] at re21
            have re22 : rvh8 a0 0 = rvh7 a0 0 := (fl8.r ty31 rfl 0)
            rw [re21] at re22
            have re23 : rvh12 a0 0 = rvh8 a0 0 := (fl12.r ty41 rfl 0)
            rw [re22] at re23
            refine c_getr (k := 0) C ck_4 dX3_gather_82 w1_190 (by decide) ty80 rfl rfl (by decide) rfl re23 ?_
            refine c_st (st2 := [.ref (sk 24)]) rfl ?_
            refine c_aload_n (j := 0) (x := a0) C dX3_gather_85 rfl ?_
            obtain ⟨rb8, rq8, trb8⟩ := W12.ref ty80 2 rfl rfl rfl
            have erb8 := W12.sk trb8 (by decide) rfl
            subst erb8
            refine c_getr (k := 2) C ck_4 dX3_gather_86 w1_196 (by decide) ty80 rfl rfl (by decide) rfl rq8 ?_
            refine c_st (st2 := [.ref (sk 6), .ref (sk 24)]) rfl ?_
            refine hv5 (xl12.ty ty77) (show ivh12 (sk 24) 2 = ivh8 (sk 24) 2 from fl12.i ty77 rfl 2) (show ivh8 (sk 24) 2 = ivh7 (sk 24) 2 from fl8.i ty30 rfl 2) (xl12.ty ty72) (Phi.le W12 sk10) (fun ty81 ie35 ie36 ty82 pl14 => ?_)
            have ri29 : 0 ≤ ivh12 (sk 24) 2 ∧ ivh12 (sk 24) 2 ≤ 6003 := W12.int ty81 2
            refine d_callS (As := [.ref (sk 24), .ref (sk 6)]) (rest := []) C hM (G_markBegins_24 (a0 := (sk 24)) (a1 := (sk 6)) W12 sk10 ty81 ty82  ) dX3_gather_89 kS_X3_73 rfl rfl (Nat.le_of_ble_eq_true rfl) ⟨(Nat.le_of_ble_eq_true rfl), (Nat.le_of_ble_eq_true rfl)⟩ hph pl14 (show 0 + 0 = 0 from rfl) (by decide) (fun rh13 Lh13 clh13 lnh13 ivh13 rvh13 h13 => ?_)
            obtain ⟨rfl, xl13, fl13, W13, exf13⟩ := h13
            refine hv9 (F12.call X10 fl13 rfl) (xl12.ty ty73) (xl12.ty ty74) (xl12.ty ty75) (xl12.ty ty76) (xl12.ty ty43) (xl12.ty tnb4) (X10.trans xl13) (xl13.skl sk10) (fun F13 ty83 ty84 ty85 ty86 ty87 ty88 X11 sk11 => ?_)
            refine c_st (st2 := []) rfl ?_
            refine hv6 (xl13.ty ty82) (show ivh13 (sk 6) 2 = ivh12 (sk 24) 2 ∧ MBX Lh12 clh12 lnh12 ivh12 rvh12 (sk 24) ivh13 rvh13 (sk 6) from exf13) (show GLQ sk ln iv rv a1 Lh13 clh13 lnh13 ivh13 rvh13 (sk 24) gat0 from (gl28.mv (QT.of W12 sk10 xl13 fl13 rfl rfl rfl rfl rfl) (el24.fr W12 sk10 fl13 rfl rfl).1 (el24.fr W12 sk10 fl13 rfl rfl).2)) (show GLQ sk ln iv rv a1 Lh13 clh13 lnh13 ivh13 rvh13 (sk 25) gat1 from (gl29.mv (QT.of W12 sk10 xl13 fl13 rfl rfl rfl rfl rfl) (el25.fr W12 sk10 fl13 rfl rfl).1 (el25.fr W12 sk10 fl13 rfl rfl).2)) (xl13.ty ty81) (show ivh13 (sk 24) 2 = ivh12 (sk 24) 2 from fl13.i ty81 rfl 2) (fun ty89 gf13 gl30 gl31 ty90 ie38 => ?_)
            refine hv2 (show 0 ≤ ivh13 (sk 6) 2 ∧ ivh13 (sk 6) 2 ≤ 6003 from W13.int ty89 2) (show 0 ≤ ivh13 (sk 24) 2 ∧ ivh13 (sk 24) 2 ≤ 6003 from W13.int ty90 2) (fun ri30 ri31 => ?_)
            have gb7 := GBQ.mk gl28 gf13.2 (by omega) (by omega)
            refine c_aload_n (j := 0) (x := a0) C dX3_gather_92 rfl ?_
            refine hv2 (xl13.ty ty80) (show rvh12 a0 1 = rvh8 a0 1 from (fl12.r ty41 rfl 1)) (fun ty91 re24 => ?_)
            rw [re13] at re24
            have re25 : rvh13 a0 1 = rvh12 a0 1 := (fl13.r ty80 rfl 1)
            rw [re24] at re25
            refine c_getr (k := 1) C ck_4 dX3_gather_93 w1_193 (by decide) ty91 rfl rfl (by decide) rfl re25 ?_
            refine c_st (st2 := [.ref (sk 25)]) rfl ?_
            refine c_aload_n (j := 0) (x := a0) C dX3_gather_96 rfl ?_
            obtain ⟨rb9, rq9, trb9⟩ := W13.ref ty91 3 rfl rfl rfl
            have erb9 := W13.sk trb9 (by decide) rfl
            subst erb9
            refine c_getr (k := 3) C ck_4 dX3_gather_97 w1_197 (by decide) ty91 rfl rfl (by decide) rfl rq9 ?_
            refine c_st (st2 := [.ref (sk 7), .ref (sk 25)]) rfl ?_
            refine hv4 (xl13.ty ty78) (show ivh13 (sk 25) 2 = ivh12 (sk 25) 2 from fl13.i ty78 rfl 2) (xl13.ty ty83) (Phi.le W13 sk11) (fun ty92 ie39 ty93 pl15 => ?_)
            have ri32 : 0 ≤ ivh13 (sk 25) 2 ∧ ivh13 (sk 25) 2 ≤ 6003 := W13.int ty92 2
            refine d_callS (As := [.ref (sk 25), .ref (sk 7)]) (rest := []) C hM (G_markBegins_25 (a0 := (sk 25)) (a1 := (sk 7)) W13 sk11 ty92 ty93  ) dX3_gather_100 kS_X3_73 rfl rfl (Nat.le_of_ble_eq_true rfl) ⟨(Nat.le_of_ble_eq_true rfl), (Nat.le_of_ble_eq_true rfl)⟩ hph pl15 (show 0 + 0 = 0 from rfl) (by decide) (fun rh14 Lh14 clh14 lnh14 ivh14 rvh14 h14 => ?_)
            obtain ⟨rfl, xl14, fl14, W14, exf14⟩ := h14
            refine hv9 (F13.call X11 fl14 rfl) (xl13.ty ty79) (xl13.ty ty84) (xl13.ty ty85) (xl13.ty ty86) (xl13.ty ty87) (xl13.ty ty88) (X11.trans xl14) (xl14.skl sk11) (fun F14 ty94 ty95 ty96 ty97 ty98 ty99 X12 sk12 => ?_)
            refine c_st (st2 := []) rfl ?_
            refine hv8 (xl14.ty ty93) (show ivh14 (sk 7) 2 = ivh13 (sk 25) 2 ∧ MBX Lh13 clh13 lnh13 ivh13 rvh13 (sk 25) ivh14 rvh14 (sk 7) from exf14) (show GLQ sk ln iv rv a1 Lh14 clh14 lnh14 ivh14 rvh14 (sk 24) gat0 from (gl30.mv (QT.of W13 sk11 xl14 fl14 rfl rfl rfl rfl rfl) (el24.fr W13 sk11 fl14 rfl rfl).1 (el24.fr W13 sk11 fl14 rfl rfl).2)) (show GLQ sk ln iv rv a1 Lh14 clh14 lnh14 ivh14 rvh14 (sk 25) gat1 from (gl31.mv (QT.of W13 sk11 xl14 fl14 rfl rfl rfl rfl rfl) (el25.fr W13 sk11 fl14 rfl rfl).1 (el25.fr W13 sk11 fl14 rfl rfl).2)) (xl14.ty ty92) (show ivh14 (sk 25) 2 = ivh13 (sk 25) 2 from fl14.i ty92 rfl 2) (gb7.fr W13 ty90 ty89 fl14 rfl rfl rfl rfl rfl rfl) (Phi.le W14 sk12) (fun ty100 gf14 gl32 gl33 ty101 ie41 gb9 pl16 => ?_)
            refine hv2 (show 0 ≤ ivh14 (sk 7) 2 ∧ ivh14 (sk 7) 2 ≤ 6003 from W14.int ty100 2) (show 0 ≤ ivh14 (sk 25) 2 ∧ ivh14 (sk 25) 2 ≤ 6003 from W14.int ty101 2) (fun ri33 ri34 => ?_)
            have gb8 := GBQ.mk gl31 gf14.2 (by omega) (by omega)
            exact c_vret C dX3_gather_103 rfl (by decide) (rom0 hph pl16 (by decide)) ⟨rfl, X12, F14, W14, trivial, ⟨gl32, gl33⟩, ⟨gb9, gb8⟩⟩
        · have rknb3 := W7.rank ty32 (k := 3) (by decide) nq3
          refine c_getr (k := 3) C ck_10 dX3_gather_51 w2_184 (by decide) ty32 rfl rfl (by decide) rfl nq3 ?_
          refine c_st (st2 := [.ref nb3, .ref (sk 25)]) rfl ?_
          refine hv4 (xl7.ty ty29) (show ivh7 (sk 25) 2 = ivh6 (sk 25) 2 from fl7.i ty29 rfl 2) (show ivh6 (sk 25) 2 = ivh2 (sk 25) 2 from fl6.i tsk25 rfl 2) (Phi.le W7 sk5) (fun ty102 ie42 ie43 pl17 => ?_)
          have ri35 : 0 ≤ ivh7 (sk 25) 2 ∧ ivh7 (sk 25) 2 ≤ 6003 := W7.int ty102 2
          refine d_callS (As := [.ref (sk 25), .ref nb3]) (rest := []) C hM (G_gatherPart_25 (a0 := (sk 25)) (a1 := nb3) W7 sk5 ty102 tnb3  (by show ivh7 (sk 25) 2 = 0; omega)) dX3_gather_54 kS_X3_59 rfl rfl (Nat.le_of_ble_eq_true rfl) ⟨(Nat.le_of_ble_eq_true rfl), (Nat.le_of_ble_eq_true rfl)⟩ hph pl17 (show 0 + 0 = 0 from rfl) (by decide) (fun rh15 Lh15 clh15 lnh15 ivh15 rvh15 h15 => ?_)
          obtain ⟨rfl, xl15, fl15, W15, exf15, gpxf15⟩ := h15
          refine hv9 (F7.call X5 fl15 rfl) (xl7.ty ty24) (xl7.ty ty25) (xl7.ty ty26) (xl7.ty ty27) (xl7.ty ty28) (xl7.ty trb5) (X5.trans xl15) (xl15.skl sk5) (fun F15 ty103 ty104 ty105 ty106 ty107 ty108 X13 sk13 => ?_)
          refine c_st (st2 := []) rfl ?_
          refine hv4 (xl15.ty ty102) (show ivh15 (sk 25) 2 ≤ 6002 from exf15) (show GLQ sk ln iv rv a1 Lh15 clh15 lnh15 ivh15 rvh15 (sk 25) (fun a i => rws1 a (a 9 i.toNat)) from (GLQ.sub3 gpxf15 (QT.of hW hS X5 F7 rfl rfl rfl rfl rfl) nq3)) (show GLQ sk ln iv rv a1 Lh15 clh15 lnh15 ivh15 rvh15 (sk 24) (fun a i => rws1 a (a 8 i.toNat) ++ indl a (4 * i + ((2 : Nat) : Int))) from (gl14.mv (QT.of W7 sk5 xl15 fl15 rfl rfl rfl rfl rfl) (el24.fr W7 sk5 fl15 rfl rfl).1 (el24.fr W7 sk5 fl15 rfl rfl).2)) (fun ty109 gf15 gl34 gl35 => ?_)
          have ri36 : 0 ≤ ivh15 (sk 25) 2 ∧ ivh15 (sk 25) 2 ≤ 6003 := W15.int ty109 2
          refine c_aload_n (j := 0) (x := a0) C dX3_gather_57 rfl ?_
          refine hv2 (xl15.ty ty31) (show rvh15 a0 1 = rvh7 a0 1 from (fl15.r ty31 rfl 1)) (fun ty110 re26 => ?_)
          rw [re12] at re26
          refine c_getr (k := 1) C ck_4 dX3_gather_58 w1_193 (by decide) ty110 rfl rfl (by decide) rfl re26 ?_
          refine c_st (st2 := [.ref (sk 25)]) rfl ?_
          refine c_aload_n (j := 1) (x := a1) C dX3_gather_61 rfl ?_
          refine hv2 (xl15.ty ty32) (show rvh7 a1 6 = rvh6 a1 6 from (fl7.r ty23 rfl 6)) (fun ty111 re27 => ?_)
          rw [rq5] at re27
          have re28 : rvh15 a1 6 = rvh7 a1 6 := (fl15.r ty32 rfl 6)
          rw [re27] at re28
          refine c_getr (k := 6) C ck_10 dX3_gather_62 w2_193 (by decide) ty111 rfl rfl (by decide) rfl re28 ?_
          refine c_st (st2 := [.ref rb5, .ref (sk 25)]) rfl ?_
          refine c_iconst C dX3_gather_65 ?_
          have ty112 := xl15.ty ty108
          have ll3 : 4 ≤ lnh15 rb5 ∧ lnh15 rb5 ≤ 4 := W15.len ty112 rfl
          rcases W15.opt ty112 ((3 : Int).toNat) rfl rfl with ⟨nq5, _⟩ | ⟨nb5, nq5, tnb5⟩
          · refine c_aaldR C dX3_gather_66 ty112 rfl (by omega) (by omega) (by omega) nq5 ?_
            refine c_st (st2 := [.null, .ref (sk 25)]) rfl ?_
            have pl18 := Phi.le W15 sk13
            refine d_callS (As := [.ref (sk 25), .null]) (rest := []) C hM (G_addInd_25 (a0 := (sk 25)) (r := none) W15 sk13 ty109 (fun _ q => by cases q)  (by show ivh15 (sk 25) 2 < 6003; omega)) dX3_gather_67 kS_X3_67 rfl rfl (Nat.le_of_ble_eq_true rfl) ⟨(Nat.le_of_ble_eq_true rfl), (Nat.le_of_ble_eq_true rfl)⟩ hph pl18 (show 0 + 0 = 0 from rfl) (by decide) (fun rh16 Lh16 clh16 lnh16 ivh16 rvh16 h16 => ?_)
            obtain ⟨rfl, xl16, fl16, W16, exf16, ladf16⟩ := h16
            refine hv10 (F15.call X13 fl16 rfl) (xl15.ty ty103) (xl15.ty ty104) (xl15.ty ty105) (xl15.ty ty106) (xl15.ty ty107) (xl15.ty ty30) (xl15.ty tnb3) (X13.trans xl16) (xl16.skl sk13) (fun F16 ty113 ty114 ty115 ty116 ty117 ty118 ty119 X14 sk14 => ?_)
            refine c_st (st2 := []) rfl ?_
            refine hv4 (xl16.ty ty109) (show ivh15 (sk 25) 2 ≤ ivh16 (sk 25) 2 ∧ ivh16 (sk 25) 2 ≤ ivh15 (sk 25) 2 + 1 from exf16) (show GLQ sk ln iv rv a1 Lh16 clh16 lnh16 ivh16 rvh16 (sk 25) (fun a i => rws1 a (a 9 i.toNat) ++ indl a (4 * i + ((3 : Nat) : Int))) from (gl34.ind (j := 3) (QT.of hW hS X13 F15 rfl rfl rfl rfl rfl) (QT.of W15 sk13 xl16 fl16 rfl rfl rfl rfl rfl) ty112 re28 nq5 ladf16 (by decide))) (show GLQ sk ln iv rv a1 Lh16 clh16 lnh16 ivh16 rvh16 (sk 24) (fun a i => rws1 a (a 8 i.toNat) ++ indl a (4 * i + ((2 : Nat) : Int))) from (gl35.mv (QT.of W15 sk13 xl16 fl16 rfl rfl rfl rfl rfl) (el24.fr W15 sk13 fl16 rfl rfl).1 (el24.fr W15 sk13 fl16 rfl rfl).2)) (fun ty120 gf16 gl36 gl37 => ?_)
            have ri37 : 0 ≤ ivh16 (sk 25) 2 ∧ ivh16 (sk 25) 2 ≤ 6003 := W16.int ty120 2
            refine c_goto (tgt := 81) C dX3_gather_70 (by decide) ?_
            refine hv5 (xl16.ty ty111) (show ivh16 a1 0 = ivh15 a1 0 from fl16.i ty111 rfl 0) (show ivh15 a1 0 = ivh7 a1 0 from fl15.i ty32 rfl 0) (show ivh7 a1 0 = ivh6 a1 0 from fl7.i ty23 rfl 0) (show ivh6 a1 0 = ivh2 a1 0 from fl6.i t_a1 rfl 0) (fun ty121 ie46 ie47 ie48 ie49 => ?_)
            have ri38 : (-2147483648) ≤ ivh16 a1 0 ∧ ivh16 a1 0 ≤ 2147483647 := W16.int ty121 0
            have gl38 : GLQ sk ln iv rv a1 Lh16 clh16 lnh16 ivh16 rvh16 (sk 24) gat0 := (gl37.g0 (by omega))
            have gl39 : GLQ sk ln iv rv a1 Lh16 clh16 lnh16 ivh16 rvh16 (sk 25) gat1 := (gl36.g1 (by omega))
            refine c_aload_n (j := 0) (x := a0) C dX3_gather_81 rfl ?_
            refine hv2 (xl16.ty ty110) (show rvh7 a0 0 = rvh6 a0 0 from (fl7.r ty22 rfl 0)) (fun ty122 re29 => ?_)
            rw [re9] at re29
            have re30 : rvh15 a0 0 = rvh7 a0 0 := (fl15.r ty31 rfl 0)
            rw [re29] at re30
            have re31 : rvh16 a0 0 = rvh15 a0 0 := (fl16.r ty110 rfl 0)
            rw [re30] at re31
            refine c_getr (k := 0) C ck_4 dX3_gather_82 w1_190 (by decide) ty122 rfl rfl (by decide) rfl re31 ?_
            refine c_st (st2 := [.ref (sk 24)]) rfl ?_
            refine c_aload_n (j := 0) (x := a0) C dX3_gather_85 rfl ?_
            obtain ⟨rb10, rq10, trb10⟩ := W16.ref ty122 2 rfl rfl rfl
            have erb10 := W16.sk trb10 (by decide) rfl
            subst erb10
            refine c_getr (k := 2) C ck_4 dX3_gather_86 w1_196 (by decide) ty122 rfl rfl (by decide) rfl rq10 ?_
            refine c_st (st2 := [.ref (sk 6), .ref (sk 24)]) rfl ?_
            refine hv5 (xl16.ty ty118) (show ivh16 (sk 24) 2 = ivh15 (sk 24) 2 from fl16.i ty118 rfl 2) (show ivh15 (sk 24) 2 = ivh7 (sk 24) 2 from fl15.i ty30 rfl 2) (xl16.ty ty113) (Phi.le W16 sk14) (fun ty123 ie50 ie51 ty124 pl19 => ?_)
            have ri39 : 0 ≤ ivh16 (sk 24) 2 ∧ ivh16 (sk 24) 2 ≤ 6003 := W16.int ty123 2
            refine d_callS (As := [.ref (sk 24), .ref (sk 6)]) (rest := []) C hM (G_markBegins_24 (a0 := (sk 24)) (a1 := (sk 6)) W16 sk14 ty123 ty124  ) dX3_gather_89 kS_X3_73 rfl rfl (Nat.le_of_ble_eq_true rfl) ⟨(Nat.le_of_ble_eq_true rfl), (Nat.le_of_ble_eq_true rfl)⟩ hph pl19 (show 0 + 0 = 0 from rfl) (by decide) (fun rh17 Lh17 clh17 lnh17 ivh17 rvh17 h17 => ?_)
            obtain ⟨rfl, xl17, fl17, W17, exf17⟩ := h17
            refine hv9 (F16.call X14 fl17 rfl) (xl16.ty ty114) (xl16.ty ty115) (xl16.ty ty116) (xl16.ty ty117) (xl16.ty ty112) (xl16.ty ty119) (X14.trans xl17) (xl17.skl sk14) (fun F17 ty125 ty126 ty127 ty128 ty129 ty130 X15 sk15 => ?_)
            refine c_st (st2 := []) rfl ?_
            refine hv6 (xl17.ty ty124) (show ivh17 (sk 6) 2 = ivh16 (sk 24) 2 ∧ MBX Lh16 clh16 lnh16 ivh16 rvh16 (sk 24) ivh17 rvh17 (sk 6) from exf17) (show GLQ sk ln iv rv a1 Lh17 clh17 lnh17 ivh17 rvh17 (sk 24) gat0 from (gl38.mv (QT.of W16 sk14 xl17 fl17 rfl rfl rfl rfl rfl) (el24.fr W16 sk14 fl17 rfl rfl).1 (el24.fr W16 sk14 fl17 rfl rfl).2)) (show GLQ sk ln iv rv a1 Lh17 clh17 lnh17 ivh17 rvh17 (sk 25) gat1 from (gl39.mv (QT.of W16 sk14 xl17 fl17 rfl rfl rfl rfl rfl) (el25.fr W16 sk14 fl17 rfl rfl).1 (el25.fr W16 sk14 fl17 rfl rfl).2)) (xl17.ty ty123) (show ivh17 (sk 24) 2 = ivh16 (sk 24) 2 from fl17.i ty123 rfl 2) (fun ty131 gf17 gl40 gl41 ty132 ie53 => ?_)
            refine hv2 (show 0 ≤ ivh17 (sk 6) 2 ∧ ivh17 (sk 6) 2 ≤ 6003 from W17.int ty131 2) (show 0 ≤ ivh17 (sk 24) 2 ∧ ivh17 (sk 24) 2 ≤ 6003 from W17.int ty132 2) (fun ri40 ri41 => ?_)
            have gb10 := GBQ.mk gl38 gf17.2 (by omega) (by omega)
            refine c_aload_n (j := 0) (x := a0) C dX3_gather_92 rfl ?_
            refine hv2 (xl17.ty ty122) (show rvh16 a0 1 = rvh15 a0 1 from (fl16.r ty110 rfl 1)) (fun ty133 re32 => ?_)
            rw [re26] at re32
            have re33 : rvh17 a0 1 = rvh16 a0 1 := (fl17.r ty122 rfl 1)
            rw [re32] at re33
            refine c_getr (k := 1) C ck_4 dX3_gather_93 w1_193 (by decide) ty133 rfl rfl (by decide) rfl re33 ?_
            refine c_st (st2 := [.ref (sk 25)]) rfl ?_
            refine c_aload_n (j := 0) (x := a0) C dX3_gather_96 rfl ?_
            obtain ⟨rb11, rq11, trb11⟩ := W17.ref ty133 3 rfl rfl rfl
            have erb11 := W17.sk trb11 (by decide) rfl
            subst erb11
            refine c_getr (k := 3) C ck_4 dX3_gather_97 w1_197 (by decide) ty133 rfl rfl (by decide) rfl rq11 ?_
            refine c_st (st2 := [.ref (sk 7), .ref (sk 25)]) rfl ?_
            refine hv4 (xl17.ty ty120) (show ivh17 (sk 25) 2 = ivh16 (sk 25) 2 from fl17.i ty120 rfl 2) (xl17.ty ty125) (Phi.le W17 sk15) (fun ty134 ie54 ty135 pl20 => ?_)
            have ri42 : 0 ≤ ivh17 (sk 25) 2 ∧ ivh17 (sk 25) 2 ≤ 6003 := W17.int ty134 2
            refine d_callS (As := [.ref (sk 25), .ref (sk 7)]) (rest := []) C hM (G_markBegins_25 (a0 := (sk 25)) (a1 := (sk 7)) W17 sk15 ty134 ty135  ) dX3_gather_100 kS_X3_73 rfl rfl (Nat.le_of_ble_eq_true rfl) ⟨(Nat.le_of_ble_eq_true rfl), (Nat.le_of_ble_eq_true rfl)⟩ hph pl20 (show 0 + 0 = 0 from rfl) (by decide) (fun rh18 Lh18 clh18 lnh18 ivh18 rvh18 h18 => ?_)
            obtain ⟨rfl, xl18, fl18, W18, exf18⟩ := h18
            refine hv9 (F17.call X15 fl18 rfl) (xl17.ty ty121) (xl17.ty ty126) (xl17.ty ty127) (xl17.ty ty128) (xl17.ty ty129) (xl17.ty ty130) (X15.trans xl18) (xl18.skl sk15) (fun F18 ty136 ty137 ty138 ty139 ty140 ty141 X16 sk16 => ?_)
            refine c_st (st2 := []) rfl ?_
            refine hv8 (xl18.ty ty135) (show ivh18 (sk 7) 2 = ivh17 (sk 25) 2 ∧ MBX Lh17 clh17 lnh17 ivh17 rvh17 (sk 25) ivh18 rvh18 (sk 7) from exf18) (show GLQ sk ln iv rv a1 Lh18 clh18 lnh18 ivh18 rvh18 (sk 24) gat0 from (gl40.mv (QT.of W17 sk15 xl18 fl18 rfl rfl rfl rfl rfl) (el24.fr W17 sk15 fl18 rfl rfl).1 (el24.fr W17 sk15 fl18 rfl rfl).2)) (show GLQ sk ln iv rv a1 Lh18 clh18 lnh18 ivh18 rvh18 (sk 25) gat1 from (gl41.mv (QT.of W17 sk15 xl18 fl18 rfl rfl rfl rfl rfl) (el25.fr W17 sk15 fl18 rfl rfl).1 (el25.fr W17 sk15 fl18 rfl rfl).2)) (xl18.ty ty134) (show ivh18 (sk 25) 2 = ivh17 (sk 25) 2 from fl18.i ty134 rfl 2) (gb10.fr W17 ty132 ty131 fl18 rfl rfl rfl rfl rfl rfl) (Phi.le W18 sk16) (fun ty142 gf18 gl42 gl43 ty143 ie56 gb12 pl21 => ?_)
            refine hv2 (show 0 ≤ ivh18 (sk 7) 2 ∧ ivh18 (sk 7) 2 ≤ 6003 from W18.int ty142 2) (show 0 ≤ ivh18 (sk 25) 2 ∧ ivh18 (sk 25) 2 ≤ 6003 from W18.int ty143 2) (fun ri43 ri44 => ?_)
            have gb11 := GBQ.mk gl41 gf18.2 (by omega) (by omega)
            exact c_vret C dX3_gather_103 rfl (by decide) (rom0 hph pl21 (by decide)) ⟨rfl, X16, F18, W18, trivial, ⟨gl42, gl43⟩, ⟨gb12, gb11⟩⟩
          · have tnb5 : ty Lh15 clh15 nb5 20 := tnb5
            refine c_aaldR C dX3_gather_66 ty112 rfl (by omega) (by omega) (by omega) nq5 ?_
            refine c_st (st2 := [.ref nb5, .ref (sk 25)]) rfl ?_
            have pl22 := Phi.le W15 sk13
            refine d_callS (As := [.ref (sk 25), .ref nb5]) (rest := []) C hM (G_addInd_25 (a0 := (sk 25)) (r := (some nb5)) W15 sk13 ty109 (fun _ q => by cases q; exact tnb5)  (by show ivh15 (sk 25) 2 < 6003; omega)) dX3_gather_67 kS_X3_67 rfl rfl (Nat.le_of_ble_eq_true rfl) ⟨(Nat.le_of_ble_eq_true rfl), (Nat.le_of_ble_eq_true rfl)⟩ hph pl22 (show 0 + 0 = 0 from rfl) (by decide) (fun rh19 Lh19 clh19 lnh19 ivh19 rvh19 h19 => ?_)
            obtain ⟨rfl, xl19, fl19, W19, exf19, ladf19⟩ := h19
            refine hv10 (F15.call X13 fl19 rfl) (xl15.ty ty103) (xl15.ty ty104) (xl15.ty ty105) (xl15.ty ty106) (xl15.ty ty107) (xl15.ty ty30) (xl15.ty tnb3) (X13.trans xl19) (xl19.skl sk13) (fun F19 ty144 ty145 ty146 ty147 ty148 ty149 ty150 X17 sk17 => ?_)
            refine c_st (st2 := []) rfl ?_
            refine hv4 (xl19.ty ty109) (show ivh15 (sk 25) 2 ≤ ivh19 (sk 25) 2 ∧ ivh19 (sk 25) 2 ≤ ivh15 (sk 25) 2 + 1 from exf19) (show GLQ sk ln iv rv a1 Lh19 clh19 lnh19 ivh19 rvh19 (sk 25) (fun a i => rws1 a (a 9 i.toNat) ++ indl a (4 * i + ((3 : Nat) : Int))) from (gl34.ind (j := 3) (QT.of hW hS X13 F15 rfl rfl rfl rfl rfl) (QT.of W15 sk13 xl19 fl19 rfl rfl rfl rfl rfl) ty112 re28 nq5 ladf19 (by decide))) (show GLQ sk ln iv rv a1 Lh19 clh19 lnh19 ivh19 rvh19 (sk 24) (fun a i => rws1 a (a 8 i.toNat) ++ indl a (4 * i + ((2 : Nat) : Int))) from (gl35.mv (QT.of W15 sk13 xl19 fl19 rfl rfl rfl rfl rfl) (el24.fr W15 sk13 fl19 rfl rfl).1 (el24.fr W15 sk13 fl19 rfl rfl).2)) (fun ty151 gf19 gl44 gl45 => ?_)
            have ri45 : 0 ≤ ivh19 (sk 25) 2 ∧ ivh19 (sk 25) 2 ≤ 6003 := W19.int ty151 2
            refine c_goto (tgt := 81) C dX3_gather_70 (by decide) ?_
            refine hv5 (xl19.ty ty111) (show ivh19 a1 0 = ivh15 a1 0 from fl19.i ty111 rfl 0) (show ivh15 a1 0 = ivh7 a1 0 from fl15.i ty32 rfl 0) (show ivh7 a1 0 = ivh6 a1 0 from fl7.i ty23 rfl 0) (show ivh6 a1 0 = ivh2 a1 0 from fl6.i t_a1 rfl 0) (fun ty152 ie58 ie59 ie60 ie61 => ?_)
            have ri46 : (-2147483648) ≤ ivh19 a1 0 ∧ ivh19 a1 0 ≤ 2147483647 := W19.int ty152 0
            have gl46 : GLQ sk ln iv rv a1 Lh19 clh19 lnh19 ivh19 rvh19 (sk 24) gat0 := (gl45.g0 (by omega))
            have gl47 : GLQ sk ln iv rv a1 Lh19 clh19 lnh19 ivh19 rvh19 (sk 25) gat1 := (gl44.g1 (by omega))
            refine c_aload_n (j := 0) (x := a0) C dX3_gather_81 rfl ?_
            refine hv2 (xl19.ty ty110) (show rvh7 a0 0 = rvh6 a0 0 from (fl7.r ty22 rfl 0)) (fun ty153 re34 => ?_)
            rw [re9] at re34
            have re35 : rvh15 a0 0 = rvh7 a0 0 := (fl15.r ty31 rfl 0)
            rw [re34] at re35
            have re36 : rvh19 a0 0 = rvh15 a0 0 := (fl19.r ty110 rfl 0)
            rw [re35] at re36
            refine c_getr (k := 0) C ck_4 dX3_gather_82 w1_190 (by decide) ty153 rfl rfl (by decide) rfl re36 ?_
            refine c_st (st2 := [.ref (sk 24)]) rfl ?_
            refine c_aload_n (j := 0) (x := a0) C dX3_gather_85 rfl ?_
            obtain ⟨rb12, rq12, trb12⟩ := W19.ref ty153 2 rfl rfl rfl
            have erb12 := W19.sk trb12 (by decide) rfl
            subst erb12
            refine c_getr (k := 2) C ck_4 dX3_gather_86 w1_196 (by decide) ty153 rfl rfl (by decide) rfl rq12 ?_
            refine c_st (st2 := [.ref (sk 6), .ref (sk 24)]) rfl ?_
            refine hv5 (xl19.ty ty149) (show ivh19 (sk 24) 2 = ivh15 (sk 24) 2 from fl19.i ty149 rfl 2) (show ivh15 (sk 24) 2 = ivh7 (sk 24) 2 from fl15.i ty30 rfl 2) (xl19.ty ty144) (Phi.le W19 sk17) (fun ty154 ie62 ie63 ty155 pl23 => ?_)
            have ri47 : 0 ≤ ivh19 (sk 24) 2 ∧ ivh19 (sk 24) 2 ≤ 6003 := W19.int ty154 2
            refine d_callS (As := [.ref (sk 24), .ref (sk 6)]) (rest := []) C hM (G_markBegins_24 (a0 := (sk 24)) (a1 := (sk 6)) W19 sk17 ty154 ty155  ) dX3_gather_89 kS_X3_73 rfl rfl (Nat.le_of_ble_eq_true rfl) ⟨(Nat.le_of_ble_eq_true rfl), (Nat.le_of_ble_eq_true rfl)⟩ hph pl23 (show 0 + 0 = 0 from rfl) (by decide) (fun rh20 Lh20 clh20 lnh20 ivh20 rvh20 h20 => ?_)
            obtain ⟨rfl, xl20, fl20, W20, exf20⟩ := h20
            refine hv10 (F19.call X17 fl20 rfl) (xl19.ty ty145) (xl19.ty ty146) (xl19.ty ty147) (xl19.ty ty148) (xl19.ty ty112) (xl19.ty ty150) (xl19.ty tnb5) (X17.trans xl20) (xl20.skl sk17) (fun F20 ty156 ty157 ty158 ty159 ty160 ty161 ty162 X18 sk18 => ?_)
            refine c_st (st2 := []) rfl ?_
            refine hv6 (xl20.ty ty155) (show ivh20 (sk 6) 2 = ivh19 (sk 24) 2 ∧ MBX Lh19 clh19 lnh19 ivh19 rvh19 (sk 24) ivh20 rvh20 (sk 6) from exf20) (show GLQ sk ln iv rv a1 Lh20 clh20 lnh20 ivh20 rvh20 (sk 24) gat0 from (gl46.mv (QT.of W19 sk17 xl20 fl20 rfl rfl rfl rfl rfl) (el24.fr W19 sk17 fl20 rfl rfl).1 (el24.fr W19 sk17 fl20 rfl rfl).2)) (show GLQ sk ln iv rv a1 Lh20 clh20 lnh20 ivh20 rvh20 (sk 25) gat1 from (gl47.mv (QT.of W19 sk17 xl20 fl20 rfl rfl rfl rfl rfl) (el25.fr W19 sk17 fl20 rfl rfl).1 (el25.fr W19 sk17 fl20 rfl rfl).2)) (xl20.ty ty154) (show ivh20 (sk 24) 2 = ivh19 (sk 24) 2 from fl20.i ty154 rfl 2) (fun ty163 gf20 gl48 gl49 ty164 ie65 => ?_)
            refine hv2 (show 0 ≤ ivh20 (sk 6) 2 ∧ ivh20 (sk 6) 2 ≤ 6003 from W20.int ty163 2) (show 0 ≤ ivh20 (sk 24) 2 ∧ ivh20 (sk 24) 2 ≤ 6003 from W20.int ty164 2) (fun ri48 ri49 => ?_)
            have gb13 := GBQ.mk gl46 gf20.2 (by omega) (by omega)
            refine c_aload_n (j := 0) (x := a0) C dX3_gather_92 rfl ?_
            refine hv2 (xl20.ty ty153) (show rvh19 a0 1 = rvh15 a0 1 from (fl19.r ty110 rfl 1)) (fun ty165 re37 => ?_)
            rw [re26] at re37
            have re38 : rvh20 a0 1 = rvh19 a0 1 := (fl20.r ty153 rfl 1)
            rw [re37] at re38
            refine c_getr (k := 1) C ck_4 dX3_gather_93 w1_193 (by decide) ty165 rfl rfl (by decide) rfl re38 ?_
            refine c_st (st2 := [.ref (sk 25)]) rfl ?_
            refine c_aload_n (j := 0) (x := a0) C dX3_gather_96 rfl ?_
            obtain ⟨rb13, rq13, trb13⟩ := W20.ref ty165 3 rfl rfl rfl
            have erb13 := W20.sk trb13 (by decide) rfl
            subst erb13
            refine c_getr (k := 3) C ck_4 dX3_gather_97 w1_197 (by decide) ty165 rfl rfl (by decide) rfl rq13 ?_
            refine c_st (st2 := [.ref (sk 7), .ref (sk 25)]) rfl ?_
            refine hv4 (xl20.ty ty151) (show ivh20 (sk 25) 2 = ivh19 (sk 25) 2 from fl20.i ty151 rfl 2) (xl20.ty ty156) (Phi.le W20 sk18) (fun ty166 ie66 ty167 pl24 => ?_)
            have ri50 : 0 ≤ ivh20 (sk 25) 2 ∧ ivh20 (sk 25) 2 ≤ 6003 := W20.int ty166 2
            refine d_callS (As := [.ref (sk 25), .ref (sk 7)]) (rest := []) C hM (G_markBegins_25 (a0 := (sk 25)) (a1 := (sk 7)) W20 sk18 ty166 ty167  ) dX3_gather_100 kS_X3_73 rfl rfl (Nat.le_of_ble_eq_true rfl) ⟨(Nat.le_of_ble_eq_true rfl), (Nat.le_of_ble_eq_true rfl)⟩ hph pl24 (show 0 + 0 = 0 from rfl) (by decide) (fun rh21 Lh21 clh21 lnh21 ivh21 rvh21 h21 => ?_)
            obtain ⟨rfl, xl21, fl21, W21, exf21⟩ := h21
            refine hv10 (F20.call X18 fl21 rfl) (xl20.ty ty152) (xl20.ty ty157) (xl20.ty ty158) (xl20.ty ty159) (xl20.ty ty160) (xl20.ty ty161) (xl20.ty ty162) (X18.trans xl21) (xl21.skl sk18) (fun F21 ty168 ty169 ty170 ty171 ty172 ty173 ty174 X19 sk19 => ?_)
            refine c_st (st2 := []) rfl ?_
            refine hv8 (xl21.ty ty167) (show ivh21 (sk 7) 2 = ivh20 (sk 25) 2 ∧ MBX Lh20 clh20 lnh20 ivh20 rvh20 (sk 25) ivh21 rvh21 (sk 7) from exf21) (show GLQ sk ln iv rv a1 Lh21 clh21 lnh21 ivh21 rvh21 (sk 24) gat0 from (gl48.mv (QT.of W20 sk18 xl21 fl21 rfl rfl rfl rfl rfl) (el24.fr W20 sk18 fl21 rfl rfl).1 (el24.fr W20 sk18 fl21 rfl rfl).2)) (show GLQ sk ln iv rv a1 Lh21 clh21 lnh21 ivh21 rvh21 (sk 25) gat1 from (gl49.mv (QT.of W20 sk18 xl21 fl21 rfl rfl rfl rfl rfl) (el25.fr W20 sk18 fl21 rfl rfl).1 (el25.fr W20 sk18 fl21 rfl rfl).2)) (xl21.ty ty166) (show ivh21 (sk 25) 2 = ivh20 (sk 25) 2 from fl21.i ty166 rfl 2) (gb13.fr W20 ty164 ty163 fl21 rfl rfl rfl rfl rfl rfl) (Phi.le W21 sk19) (fun ty175 gf21 gl50 gl51 ty176 ie68 gb15 pl25 => ?_)
            refine hv2 (show 0 ≤ ivh21 (sk 7) 2 ∧ ivh21 (sk 7) 2 ≤ 6003 from W21.int ty175 2) (show 0 ≤ ivh21 (sk 25) 2 ∧ ivh21 (sk 25) 2 ≤ 6003 from W21.int ty176 2) (fun ri51 ri52 => ?_)
            have gb14 := GBQ.mk gl49 gf21.2 (by omega) (by omega)
            exact c_vret C dX3_gather_103 rfl (by decide) (rom0 hph pl25 (by decide)) ⟨rfl, X19, F21, W21, trivial, ⟨gl50, gl51⟩, ⟨gb15, gb14⟩⟩
      · have tnb2 : ty Lh6 clh6 nb2 20 := tnb2
        refine c_aaldR C dX3_gather_42 trb5 rfl (by omega) (by omega) (by omega) nq2 ?_
        refine c_st (st2 := [.ref nb2, .ref (sk 24)]) rfl ?_
        have pl26 := Phi.le W6 sk4
        refine d_callS (As := [.ref (sk 24), .ref nb2]) (rest := []) C hM (G_addInd_24 (a0 := (sk 24)) (r := (some nb2)) W6 sk4 ty21 (fun _ q => by cases q; exact tnb2)  (by show ivh6 (sk 24) 2 < 6003; omega)) dX3_gather_43 kS_X3_67 rfl rfl (Nat.le_of_ble_eq_true rfl) ⟨(Nat.le_of_ble_eq_true rfl), (Nat.le_of_ble_eq_true rfl)⟩ hph pl26 (show 0 + 0 = 0 from rfl) (by decide) (fun rh22 Lh22 clh22 lnh22 ivh22 rvh22 h22 => ?_)
        obtain ⟨rfl, xl22, fl22, W22, exf22, ladf22⟩ := h22
        refine hv9 (F6.call X4 fl22 rfl) (xl6.ty tsk6) (xl6.ty tsk7) (xl6.ty tsk8) (xl6.ty tsk9) (xl6.ty tsk10) (xl6.ty tsk25) (X4.trans xl22) (xl22.skl sk4) (fun F22 ty177 ty178 ty179 ty180 ty181 ty182 X20 sk20 => ?_)
        refine c_st (st2 := []) rfl ?_
        refine hv4 (xl22.ty ty21) (show ivh6 (sk 24) 2 ≤ ivh22 (sk 24) 2 ∧ ivh22 (sk 24) 2 ≤ ivh6 (sk 24) 2 + 1 from exf22) (show GLQ sk ln iv rv a1 Lh22 clh22 lnh22 ivh22 rvh22 (sk 24) (fun a i => rws1 a (a 8 i.toNat) ++ indl a (4 * i + ((2 : Nat) : Int))) from (gl12.ind (j := 2) (QT.of hW hS X4 F6 rfl rfl rfl rfl rfl) (QT.of W6 sk4 xl22 fl22 rfl rfl rfl rfl rfl) trb5 rq5 nq2 ladf22 (by decide))) (show GLQ sk ln iv rv a1 Lh22 clh22 lnh22 ivh22 rvh22 (sk 25) (fun _ _ => []) from (gl13.mv (QT.of W6 sk4 xl22 fl22 rfl rfl rfl rfl rfl) (el25.fr W6 sk4 fl22 rfl rfl).1 (el25.fr W6 sk4 fl22 rfl rfl).2)) (fun ty183 gf22 gl52 gl53 => ?_)
        have ri53 : 0 ≤ ivh22 (sk 24) 2 ∧ ivh22 (sk 24) 2 ≤ 6003 := W22.int ty183 2
        refine c_aload_n (j := 0) (x := a0) C dX3_gather_46 rfl ?_
        refine hv2 (xl22.ty ty22) (show rvh2 a0 1 = rvh1 a0 1 from (fl2.r t_a0 rfl 1)) (fun ty184 re39 => ?_)
        rw [rq2] at re39
        have re40 : rvh6 a0 1 = rvh2 a0 1 := (fl6.r t_a0 rfl 1)
        rw [re39] at re40
        have re41 : rvh22 a0 1 = rvh6 a0 1 := (fl22.r ty22 rfl 1)
        rw [re40] at re41
        refine c_getr (k := 1) C ck_4 dX3_gather_47 w1_193 (by decide) ty184 rfl rfl (by decide) rfl re41 ?_
        refine c_st (st2 := [.ref (sk 25)]) rfl ?_
        refine c_aload_n (j := 1) (x := a1) C dX3_gather_50 rfl ?_
        have ty185 := xl22.ty ty23
        rcases W22.opt ty185 3 rfl rfl with ⟨nq6, _⟩ | ⟨nb6, nq6, tnb6⟩
        · refine c_getr (k := 3) C ck_10 dX3_gather_51 w2_184 (by decide) ty185 rfl rfl (by decide) rfl nq6 ?_
          refine c_st (st2 := [.null, .ref (sk 25)]) rfl ?_
          refine hv7 (show (-2147483648) ≤ ivh22 a1 0 ∧ ivh22 a1 0 ≤ 2147483647 from W22.int ty185 0) (show ivh22 a1 0 = ivh6 a1 0 from fl22.i ty23 rfl 0) (show ivh6 a1 0 = ivh2 a1 0 from fl6.i t_a1 rfl 0) (xl22.ty ty182) (show ivh22 (sk 25) 2 = ivh6 (sk 25) 2 from fl22.i ty182 rfl 2) (show ivh6 (sk 25) 2 = ivh2 (sk 25) 2 from fl6.i tsk25 rfl 2) (Phi.le W22 sk20) (fun ri54 ie70 ie71 ty186 ie72 ie73 pl27 => ?_)
          have ri55 : 0 ≤ ivh22 (sk 25) 2 ∧ ivh22 (sk 25) 2 ≤ 6003 := W22.int ty186 2
          refine d_callS (As := [.ref (sk 25), .null]) (rest := []) C hM (C_gatherPart_25 (a0 := (sk 25)) (r := none) W22 sk20 ty186 (fun _ q => by cases q)  (by show ivh22 (sk 25) 2 = 0; omega)) dX3_gather_54 kS_X3_59 rfl rfl (Nat.le_of_ble_eq_true rfl) ⟨(Nat.le_of_ble_eq_true rfl), (Nat.le_of_ble_eq_true rfl)⟩ hph pl27 (show 0 + 0 = 0 from rfl) (by decide) (fun rh23 Lh23 clh23 lnh23 ivh23 rvh23 h23 => ?_)
          obtain ⟨rfl, xl23, fl23, W23, exf23⟩ := h23
          refine hv10 (F22.call X20 fl23 rfl) (xl22.ty ty177) (xl22.ty ty178) (xl22.ty ty179) (xl22.ty ty180) (xl22.ty ty181) (xl22.ty trb5) (xl22.ty tnb2) (X20.trans xl23) (xl23.skl sk20) (fun F23 ty187 ty188 ty189 ty190 ty191 ty192 ty193 X21 sk21 => ?_)
          refine c_st (st2 := []) rfl ?_
          refine hv3 (xl23.ty ty186) (show ivh23 (sk 25) 2 ≤ 6002 from exf23) (show GLQ sk ln iv rv a1 Lh23 clh23 lnh23 ivh23 rvh23 (sk 24) (fun a i => rws1 a (a 8 i.toNat) ++ indl a (4 * i + ((2 : Nat) : Int))) from (gl52.mv (QT.of W22 sk20 xl23 fl23 rfl rfl rfl rfl rfl) (el24.fr W22 sk20 fl23 rfl rfl).1 (el24.fr W22 sk20 fl23 rfl rfl).2)) (fun ty194 gf23 gl55 => ?_)
          have ri56 : 0 ≤ ivh23 (sk 25) 2 ∧ ivh23 (sk 25) 2 ≤ 6003 := W23.int ty194 2
          have gl54 : GLQ sk ln iv rv a1 Lh23 clh23 lnh23 ivh23 rvh23 (sk 25) (fun a i => rws1 a (a 9 i.toNat)) := (GLQ.no3 (QT.of hW hS X20 F22 rfl rfl rfl rfl rfl) (by omega) nq6)
          refine c_aload_n (j := 0) (x := a0) C dX3_gather_57 rfl ?_
          refine hv2 (xl23.ty ty184) (show rvh23 a0 1 = rvh22 a0 1 from (fl23.r ty184 rfl 1)) (fun ty195 re42 => ?_)
          rw [re41] at re42
          refine c_getr (k := 1) C ck_4 dX3_gather_58 w1_193 (by decide) ty195 rfl rfl (by decide) rfl re42 ?_
          refine c_st (st2 := [.ref (sk 25)]) rfl ?_
          refine c_aload_n (j := 1) (x := a1) C dX3_gather_61 rfl ?_
          refine hv2 (xl23.ty ty185) (show rvh22 a1 6 = rvh6 a1 6 from (fl22.r ty23 rfl 6)) (fun ty196 re43 => ?_)
          rw [rq5] at re43
          have re44 : rvh23 a1 6 = rvh22 a1 6 := (fl23.r ty185 rfl 6)
          rw [re43] at re44
          refine c_getr (k := 6) C ck_10 dX3_gather_62 w2_193 (by decide) ty196 rfl rfl (by decide) rfl re44 ?_
          refine c_st (st2 := [.ref rb5, .ref (sk 25)]) rfl ?_
          refine c_iconst C dX3_gather_65 ?_
          have ty197 := xl23.ty ty192
          have ll4 : 4 ≤ lnh23 rb5 ∧ lnh23 rb5 ≤ 4 := W23.len ty197 rfl
          rcases W23.opt ty197 ((3 : Int).toNat) rfl rfl with ⟨nq7, _⟩ | ⟨nb7, nq7, tnb7⟩
          · refine c_aaldR C dX3_gather_66 ty197 rfl (by omega) (by omega) (by omega) nq7 ?_
            refine c_st (st2 := [.null, .ref (sk 25)]) rfl ?_
            have pl28 := Phi.le W23 sk21
            refine d_callS (As := [.ref (sk 25), .null]) (rest := []) C hM (G_addInd_25 (a0 := (sk 25)) (r := none) W23 sk21 ty194 (fun _ q => by cases q)  (by show ivh23 (sk 25) 2 < 6003; omega)) dX3_gather_67 kS_X3_67 rfl rfl (Nat.le_of_ble_eq_true rfl) ⟨(Nat.le_of_ble_eq_true rfl), (Nat.le_of_ble_eq_true rfl)⟩ hph pl28 (show 0 + 0 = 0 from rfl) (by decide) (fun rh24 Lh24 clh24 lnh24 ivh24 rvh24 h24 => ?_)
            obtain ⟨rfl, xl24, fl24, W24, exf24, ladf24⟩ := h24
            refine hv10 (F23.call X21 fl24 rfl) (xl23.ty ty187) (xl23.ty ty188) (xl23.ty ty189) (xl23.ty ty190) (xl23.ty ty191) (xl23.ty ty183) (xl23.ty ty193) (X21.trans xl24) (xl24.skl sk21) (fun F24 ty198 ty199 ty200 ty201 ty202 ty203 ty204 X22 sk22 => ?_)
            refine c_st (st2 := []) rfl ?_
            refine hv4 (xl24.ty ty194) (show ivh23 (sk 25) 2 ≤ ivh24 (sk 25) 2 ∧ ivh24 (sk 25) 2 ≤ ivh23 (sk 25) 2 + 1 from exf24) (show GLQ sk ln iv rv a1 Lh24 clh24 lnh24 ivh24 rvh24 (sk 25) (fun a i => rws1 a (a 9 i.toNat) ++ indl a (4 * i + ((3 : Nat) : Int))) from (gl54.ind (j := 3) (QT.of hW hS X21 F23 rfl rfl rfl rfl rfl) (QT.of W23 sk21 xl24 fl24 rfl rfl rfl rfl rfl) ty197 re44 nq7 ladf24 (by decide))) (show GLQ sk ln iv rv a1 Lh24 clh24 lnh24 ivh24 rvh24 (sk 24) (fun a i => rws1 a (a 8 i.toNat) ++ indl a (4 * i + ((2 : Nat) : Int))) from (gl55.mv (QT.of W23 sk21 xl24 fl24 rfl rfl rfl rfl rfl) (el24.fr W23 sk21 fl24 rfl rfl).1 (el24.fr W23 sk21 fl24 rfl rfl).2)) (fun ty205 gf24 gl56 gl57 => ?_)
            have ri57 : 0 ≤ ivh24 (sk 25) 2 ∧ ivh24 (sk 25) 2 ≤ 6003 := W24.int ty205 2
            refine c_goto (tgt := 81) C dX3_gather_70 (by decide) ?_
            refine hv3 (xl24.ty ty196) (show ivh24 a1 0 = ivh23 a1 0 from fl24.i ty196 rfl 0) (show ivh23 a1 0 = ivh22 a1 0 from fl23.i ty185 rfl 0) (fun ty206 ie76 ie77 => ?_)
            have ri58 : (-2147483648) ≤ ivh24 a1 0 ∧ ivh24 a1 0 ≤ 2147483647 := W24.int ty206 0
            have gl58 : GLQ sk ln iv rv a1 Lh24 clh24 lnh24 ivh24 rvh24 (sk 24) gat0 := (gl57.g0 (by omega))
            have gl59 : GLQ sk ln iv rv a1 Lh24 clh24 lnh24 ivh24 rvh24 (sk 25) gat1 := (gl56.g1 (by omega))
            refine c_aload_n (j := 0) (x := a0) C dX3_gather_81 rfl ?_
            refine hv2 (xl24.ty ty195) (show rvh22 a0 0 = rvh6 a0 0 from (fl22.r ty22 rfl 0)) (fun ty207 re45 => ?_)
            rw [re9] at re45
            have re46 : rvh23 a0 0 = rvh22 a0 0 := (fl23.r ty184 rfl 0)
            rw [re45] at re46
            have re47 : rvh24 a0 0 = rvh23 a0 0 := (fl24.r ty195 rfl 0)
            rw [re46] at re47
            refine c_getr (k := 0) C ck_4 dX3_gather_82 w1_190 (by decide) ty207 rfl rfl (by decide) rfl re47 ?_
            refine c_st (st2 := [.ref (sk 24)]) rfl ?_
            refine c_aload_n (j := 0) (x := a0) C dX3_gather_85 rfl ?_
            obtain ⟨rb14, rq14, trb14⟩ := W24.ref ty207 2 rfl rfl rfl
            have erb14 := W24.sk trb14 (by decide) rfl
            subst erb14
            refine c_getr (k := 2) C ck_4 dX3_gather_86 w1_196 (by decide) ty207 rfl rfl (by decide) rfl rq14 ?_
            refine c_st (st2 := [.ref (sk 6), .ref (sk 24)]) rfl ?_
            refine hv5 (xl24.ty ty203) (show ivh24 (sk 24) 2 = ivh23 (sk 24) 2 from fl24.i ty203 rfl 2) (show ivh23 (sk 24) 2 = ivh22 (sk 24) 2 from fl23.i ty183 rfl 2) (xl24.ty ty198) (Phi.le W24 sk22) (fun ty208 ie78 ie79 ty209 pl29 => ?_)
            have ri59 : 0 ≤ ivh24 (sk 24) 2 ∧ ivh24 (sk 24) 2 ≤ 6003 := W24.int ty208 2
            refine d_callS (As := [.ref (sk 24), .ref (sk 6)]) (rest := []) C hM (G_markBegins_24 (a0 := (sk 24)) (a1 := (sk 6)) W24 sk22 ty208 ty209  ) dX3_gather_89 kS_X3_73 rfl rfl (Nat.le_of_ble_eq_true rfl) ⟨(Nat.le_of_ble_eq_true rfl), (Nat.le_of_ble_eq_true rfl)⟩ hph pl29 (show 0 + 0 = 0 from rfl) (by decide) (fun rh25 Lh25 clh25 lnh25 ivh25 rvh25 h25 => ?_)
            obtain ⟨rfl, xl25, fl25, W25, exf25⟩ := h25
            refine hv9 (F24.call X22 fl25 rfl) (xl24.ty ty199) (xl24.ty ty200) (xl24.ty ty201) (xl24.ty ty202) (xl24.ty ty197) (xl24.ty ty204) (X22.trans xl25) (xl25.skl sk22) (fun F25 ty210 ty211 ty212 ty213 ty214 ty215 X23 sk23 => ?_)
            refine c_st (st2 := []) rfl ?_
            refine hv6 (xl25.ty ty209) (show ivh25 (sk 6) 2 = ivh24 (sk 24) 2 ∧ MBX Lh24 clh24 lnh24 ivh24 rvh24 (sk 24) ivh25 rvh25 (sk 6) from exf25) (show GLQ sk ln iv rv a1 Lh25 clh25 lnh25 ivh25 rvh25 (sk 24) gat0 from (gl58.mv (QT.of W24 sk22 xl25 fl25 rfl rfl rfl rfl rfl) (el24.fr W24 sk22 fl25 rfl rfl).1 (el24.fr W24 sk22 fl25 rfl rfl).2)) (show GLQ sk ln iv rv a1 Lh25 clh25 lnh25 ivh25 rvh25 (sk 25) gat1 from (gl59.mv (QT.of W24 sk22 xl25 fl25 rfl rfl rfl rfl rfl) (el25.fr W24 sk22 fl25 rfl rfl).1 (el25.fr W24 sk22 fl25 rfl rfl).2)) (xl25.ty ty208) (show ivh25 (sk 24) 2 = ivh24 (sk 24) 2 from fl25.i ty208 rfl 2) (fun ty216 gf25 gl60 gl61 ty217 ie81 => ?_)
            refine hv2 (show 0 ≤ ivh25 (sk 6) 2 ∧ ivh25 (sk 6) 2 ≤ 6003 from W25.int ty216 2) (show 0 ≤ ivh25 (sk 24) 2 ∧ ivh25 (sk 24) 2 ≤ 6003 from W25.int ty217 2) (fun ri60 ri61 => ?_)
            have gb16 := GBQ.mk gl58 gf25.2 (by omega) (by omega)
            refine c_aload_n (j := 0) (x := a0) C dX3_gather_92 rfl ?_
            refine hv2 (xl25.ty ty207) (show rvh24 a0 1 = rvh23 a0 1 from (fl24.r ty195 rfl 1)) (fun ty218 re48 => ?_)
            rw [re42] at re48
            have re49 : rvh25 a0 1 = rvh24 a0 1 := (fl25.r ty207 rfl 1)
            rw [re48] at re49
            refine c_getr (k := 1) C ck_4 dX3_gather_93 w1_193 (by decide) ty218 rfl rfl (by decide) rfl re49 ?_
            refine c_st (st2 := [.ref (sk 25)]) rfl ?_
            refine c_aload_n (j := 0) (x := a0) C dX3_gather_96 rfl ?_
            obtain ⟨rb15, rq15, trb15⟩ := W25.ref ty218 3 rfl rfl rfl
            have erb15 := W25.sk trb15 (by decide) rfl
            subst erb15
            refine c_getr (k := 3) C ck_4 dX3_gather_97 w1_197 (by decide) ty218 rfl rfl (by decide) rfl rq15 ?_
            refine c_st (st2 := [.ref (sk 7), .ref (sk 25)]) rfl ?_
            refine hv4 (xl25.ty ty205) (show ivh25 (sk 25) 2 = ivh24 (sk 25) 2 from fl25.i ty205 rfl 2) (xl25.ty ty210) (Phi.le W25 sk23) (fun ty219 ie82 ty220 pl30 => ?_)
            have ri62 : 0 ≤ ivh25 (sk 25) 2 ∧ ivh25 (sk 25) 2 ≤ 6003 := W25.int ty219 2
            refine d_callS (As := [.ref (sk 25), .ref (sk 7)]) (rest := []) C hM (G_markBegins_25 (a0 := (sk 25)) (a1 := (sk 7)) W25 sk23 ty219 ty220  ) dX3_gather_100 kS_X3_73 rfl rfl (Nat.le_of_ble_eq_true rfl) ⟨(Nat.le_of_ble_eq_true rfl), (Nat.le_of_ble_eq_true rfl)⟩ hph pl30 (show 0 + 0 = 0 from rfl) (by decide) (fun rh26 Lh26 clh26 lnh26 ivh26 rvh26 h26 => ?_)
            obtain ⟨rfl, xl26, fl26, W26, exf26⟩ := h26
            refine hv9 (F25.call X23 fl26 rfl) (xl25.ty ty206) (xl25.ty ty211) (xl25.ty ty212) (xl25.ty ty213) (xl25.ty ty214) (xl25.ty ty215) (X23.trans xl26) (xl26.skl sk23) (fun F26 ty221 ty222 ty223 ty224 ty225 ty226 X24 sk24 => ?_)
            refine c_st (st2 := []) rfl ?_
            refine hv8 (xl26.ty ty220) (show ivh26 (sk 7) 2 = ivh25 (sk 25) 2 ∧ MBX Lh25 clh25 lnh25 ivh25 rvh25 (sk 25) ivh26 rvh26 (sk 7) from exf26) (show GLQ sk ln iv rv a1 Lh26 clh26 lnh26 ivh26 rvh26 (sk 24) gat0 from (gl60.mv (QT.of W25 sk23 xl26 fl26 rfl rfl rfl rfl rfl) (el24.fr W25 sk23 fl26 rfl rfl).1 (el24.fr W25 sk23 fl26 rfl rfl).2)) (show GLQ sk ln iv rv a1 Lh26 clh26 lnh26 ivh26 rvh26 (sk 25) gat1 from (gl61.mv (QT.of W25 sk23 xl26 fl26 rfl rfl rfl rfl rfl) (el25.fr W25 sk23 fl26 rfl rfl).1 (el25.fr W25 sk23 fl26 rfl rfl).2)) (xl26.ty ty219) (show ivh26 (sk 25) 2 = ivh25 (sk 25) 2 from fl26.i ty219 rfl 2) (gb16.fr W25 ty217 ty216 fl26 rfl rfl rfl rfl rfl rfl) (Phi.le W26 sk24) (fun ty227 gf26 gl62 gl63 ty228 ie84 gb18 pl31 => ?_)
            refine hv2 (show 0 ≤ ivh26 (sk 7) 2 ∧ ivh26 (sk 7) 2 ≤ 6003 from W26.int ty227 2) (show 0 ≤ ivh26 (sk 25) 2 ∧ ivh26 (sk 25) 2 ≤ 6003 from W26.int ty228 2) (fun ri63 ri64 => ?_)
            have gb17 := GBQ.mk gl61 gf26.2 (by omega) (by omega)
            exact c_vret C dX3_gather_103 rfl (by decide) (rom0 hph pl31 (by decide)) ⟨rfl, X24, F26, W26, trivial, ⟨gl62, gl63⟩, ⟨gb18, gb17⟩⟩
          · have tnb7 : ty Lh23 clh23 nb7 20 := tnb7
            refine c_aaldR C dX3_gather_66 ty197 rfl (by omega) (by omega) (by omega) nq7 ?_
            refine c_st (st2 := [.ref nb7, .ref (sk 25)]) rfl ?_
            have pl32 := Phi.le W23 sk21
            refine d_callS (As := [.ref (sk 25), .ref nb7]) (rest := []) C hM (G_addInd_25 (a0 := (sk 25)) (r := (some nb7)) W23 sk21 ty194 (fun _ q => by cases q; exact tnb7)  (by show ivh23 (sk 25) 2 < 6003; omega)) dX3_gather_67 kS_X3_67 rfl rfl (Nat.le_of_ble_eq_true rfl) ⟨(Nat.le_of_ble_eq_true rfl), (Nat.le_of_ble_eq_true rfl)⟩ hph pl32 (show 0 + 0 = 0 from rfl) (by decide) (fun rh27 Lh27 clh27 lnh27 ivh27 rvh27 h27 => ?_)
            obtain ⟨rfl, xl27, fl27, W27, exf27, ladf27⟩ := h27
            refine hv10 (F23.call X21 fl27 rfl) (xl23.ty ty187) (xl23.ty ty188) (xl23.ty ty189) (xl23.ty ty190) (xl23.ty ty191) (xl23.ty ty183) (xl23.ty ty193) (X21.trans xl27) (xl27.skl sk21) (fun F27 ty229 ty230 ty231 ty232 ty233 ty234 ty235 X25 sk25 => ?_)
            refine c_st (st2 := []) rfl ?_
            refine hv4 (xl27.ty ty194) (show ivh23 (sk 25) 2 ≤ ivh27 (sk 25) 2 ∧ ivh27 (sk 25) 2 ≤ ivh23 (sk 25) 2 + 1 from exf27) (show GLQ sk ln iv rv a1 Lh27 clh27 lnh27 ivh27 rvh27 (sk 25) (fun a i => rws1 a (a 9 i.toNat) ++ indl a (4 * i + ((3 : Nat) : Int))) from (gl54.ind (j := 3) (QT.of hW hS X21 F23 rfl rfl rfl rfl rfl) (QT.of W23 sk21 xl27 fl27 rfl rfl rfl rfl rfl) ty197 re44 nq7 ladf27 (by decide))) (show GLQ sk ln iv rv a1 Lh27 clh27 lnh27 ivh27 rvh27 (sk 24) (fun a i => rws1 a (a 8 i.toNat) ++ indl a (4 * i + ((2 : Nat) : Int))) from (gl55.mv (QT.of W23 sk21 xl27 fl27 rfl rfl rfl rfl rfl) (el24.fr W23 sk21 fl27 rfl rfl).1 (el24.fr W23 sk21 fl27 rfl rfl).2)) (fun ty236 gf27 gl64 gl65 => ?_)
            have ri65 : 0 ≤ ivh27 (sk 25) 2 ∧ ivh27 (sk 25) 2 ≤ 6003 := W27.int ty236 2
            refine c_goto (tgt := 81) C dX3_gather_70 (by decide) ?_
            refine hv3 (xl27.ty ty196) (show ivh27 a1 0 = ivh23 a1 0 from fl27.i ty196 rfl 0) (show ivh23 a1 0 = ivh22 a1 0 from fl23.i ty185 rfl 0) (fun ty237 ie86 ie87 => ?_)
            have ri66 : (-2147483648) ≤ ivh27 a1 0 ∧ ivh27 a1 0 ≤ 2147483647 := W27.int ty237 0
            have gl66 : GLQ sk ln iv rv a1 Lh27 clh27 lnh27 ivh27 rvh27 (sk 24) gat0 := (gl65.g0 (by omega))
            have gl67 : GLQ sk ln iv rv a1 Lh27 clh27 lnh27 ivh27 rvh27 (sk 25) gat1 := (gl64.g1 (by omega))
            refine c_aload_n (j := 0) (x := a0) C dX3_gather_81 rfl ?_
            refine hv2 (xl27.ty ty195) (show rvh22 a0 0 = rvh6 a0 0 from (fl22.r ty22 rfl 0)) (fun ty238 re50 => ?_)
            rw [re9] at re50
            have re51 : rvh23 a0 0 = rvh22 a0 0 := (fl23.r ty184 rfl 0)
            rw [re50] at re51
            have re52 : rvh27 a0 0 = rvh23 a0 0 := (fl27.r ty195 rfl 0)
            rw [re51] at re52
            refine c_getr (k := 0) C ck_4 dX3_gather_82 w1_190 (by decide) ty238 rfl rfl (by decide) rfl re52 ?_
            refine c_st (st2 := [.ref (sk 24)]) rfl ?_
            refine c_aload_n (j := 0) (x := a0) C dX3_gather_85 rfl ?_
            obtain ⟨rb16, rq16, trb16⟩ := W27.ref ty238 2 rfl rfl rfl
            have erb16 := W27.sk trb16 (by decide) rfl
            subst erb16
            refine c_getr (k := 2) C ck_4 dX3_gather_86 w1_196 (by decide) ty238 rfl rfl (by decide) rfl rq16 ?_
            refine c_st (st2 := [.ref (sk 6), .ref (sk 24)]) rfl ?_
            refine hv5 (xl27.ty ty234) (show ivh27 (sk 24) 2 = ivh23 (sk 24) 2 from fl27.i ty234 rfl 2) (show ivh23 (sk 24) 2 = ivh22 (sk 24) 2 from fl23.i ty183 rfl 2) (xl27.ty ty229) (Phi.le W27 sk25) (fun ty239 ie88 ie89 ty240 pl33 => ?_)
            have ri67 : 0 ≤ ivh27 (sk 24) 2 ∧ ivh27 (sk 24) 2 ≤ 6003 := W27.int ty239 2
            refine d_callS (As := [.ref (sk 24), .ref (sk 6)]) (rest := []) C hM (G_markBegins_24 (a0 := (sk 24)) (a1 := (sk 6)) W27 sk25 ty239 ty240  ) dX3_gather_89 kS_X3_73 rfl rfl (Nat.le_of_ble_eq_true rfl) ⟨(Nat.le_of_ble_eq_true rfl), (Nat.le_of_ble_eq_true rfl)⟩ hph pl33 (show 0 + 0 = 0 from rfl) (by decide) (fun rh28 Lh28 clh28 lnh28 ivh28 rvh28 h28 => ?_)
            obtain ⟨rfl, xl28, fl28, W28, exf28⟩ := h28
            refine hv10 (F27.call X25 fl28 rfl) (xl27.ty ty230) (xl27.ty ty231) (xl27.ty ty232) (xl27.ty ty233) (xl27.ty ty197) (xl27.ty ty235) (xl27.ty tnb7) (X25.trans xl28) (xl28.skl sk25) (fun F28 ty241 ty242 ty243 ty244 ty245 ty246 ty247 X26 sk26 => ?_)
            refine c_st (st2 := []) rfl ?_
            refine hv6 (xl28.ty ty240) (show ivh28 (sk 6) 2 = ivh27 (sk 24) 2 ∧ MBX Lh27 clh27 lnh27 ivh27 rvh27 (sk 24) ivh28 rvh28 (sk 6) from exf28) (show GLQ sk ln iv rv a1 Lh28 clh28 lnh28 ivh28 rvh28 (sk 24) gat0 from (gl66.mv (QT.of W27 sk25 xl28 fl28 rfl rfl rfl rfl rfl) (el24.fr W27 sk25 fl28 rfl rfl).1 (el24.fr W27 sk25 fl28 rfl rfl).2)) (show GLQ sk ln iv rv a1 Lh28 clh28 lnh28 ivh28 rvh28 (sk 25) gat1 from (gl67.mv (QT.of W27 sk25 xl28 fl28 rfl rfl rfl rfl rfl) (el25.fr W27 sk25 fl28 rfl rfl).1 (el25.fr W27 sk25 fl28 rfl rfl).2)) (xl28.ty ty239) (show ivh28 (sk 24) 2 = ivh27 (sk 24) 2 from fl28.i ty239 rfl 2) (fun ty248 gf28 gl68 gl69 ty249 ie91 => ?_)
            refine hv2 (show 0 ≤ ivh28 (sk 6) 2 ∧ ivh28 (sk 6) 2 ≤ 6003 from W28.int ty248 2) (show 0 ≤ ivh28 (sk 24) 2 ∧ ivh28 (sk 24) 2 ≤ 6003 from W28.int ty249 2) (fun ri68 ri69 => ?_)
            have gb19 := GBQ.mk gl66 gf28.2 (by omega) (by omega)
            refine c_aload_n (j := 0) (x := a0) C dX3_gather_92 rfl ?_
            refine hv2 (xl28.ty ty238) (show rvh27 a0 1 = rvh23 a0 1 from (fl27.r ty195 rfl 1)) (fun ty250 re53 => ?_)
            rw [re42] at re53
            have re54 : rvh28 a0 1 = rvh27 a0 1 := (fl28.r ty238 rfl 1)
            rw [re53] at re54
            refine c_getr (k := 1) C ck_4 dX3_gather_93 w1_193 (by decide) ty250 rfl rfl (by decide) rfl re54 ?_
            refine c_st (st2 := [.ref (sk 25)]) rfl ?_
            refine c_aload_n (j := 0) (x := a0) C dX3_gather_96 rfl ?_
            obtain ⟨rb17, rq17, trb17⟩ := W28.ref ty250 3 rfl rfl rfl
            have erb17 := W28.sk trb17 (by decide) rfl
            subst erb17
            refine c_getr (k := 3) C ck_4 dX3_gather_97 w1_197 (by decide) ty250 rfl rfl (by decide) rfl rq17 ?_
            refine c_st (st2 := [.ref (sk 7), .ref (sk 25)]) rfl ?_
            refine hv4 (xl28.ty ty236) (show ivh28 (sk 25) 2 = ivh27 (sk 25) 2 from fl28.i ty236 rfl 2) (xl28.ty ty241) (Phi.le W28 sk26) (fun ty251 ie92 ty252 pl34 => ?_)
            have ri70 : 0 ≤ ivh28 (sk 25) 2 ∧ ivh28 (sk 25) 2 ≤ 6003 := W28.int ty251 2
            refine d_callS (As := [.ref (sk 25), .ref (sk 7)]) (rest := []) C hM (G_markBegins_25 (a0 := (sk 25)) (a1 := (sk 7)) W28 sk26 ty251 ty252  ) dX3_gather_100 kS_X3_73 rfl rfl (Nat.le_of_ble_eq_true rfl) ⟨(Nat.le_of_ble_eq_true rfl), (Nat.le_of_ble_eq_true rfl)⟩ hph pl34 (show 0 + 0 = 0 from rfl) (by decide) (fun rh29 Lh29 clh29 lnh29 ivh29 rvh29 h29 => ?_)
            obtain ⟨rfl, xl29, fl29, W29, exf29⟩ := h29
            refine hv10 (F28.call X26 fl29 rfl) (xl28.ty ty237) (xl28.ty ty242) (xl28.ty ty243) (xl28.ty ty244) (xl28.ty ty245) (xl28.ty ty246) (xl28.ty ty247) (X26.trans xl29) (xl29.skl sk26) (fun F29 ty253 ty254 ty255 ty256 ty257 ty258 ty259 X27 sk27 => ?_)
            refine c_st (st2 := []) rfl ?_
            refine hv8 (xl29.ty ty252) (show ivh29 (sk 7) 2 = ivh28 (sk 25) 2 ∧ MBX Lh28 clh28 lnh28 ivh28 rvh28 (sk 25) ivh29 rvh29 (sk 7) from exf29) (show GLQ sk ln iv rv a1 Lh29 clh29 lnh29 ivh29 rvh29 (sk 24) gat0 from (gl68.mv (QT.of W28 sk26 xl29 fl29 rfl rfl rfl rfl rfl) (el24.fr W28 sk26 fl29 rfl rfl).1 (el24.fr W28 sk26 fl29 rfl rfl).2)) (show GLQ sk ln iv rv a1 Lh29 clh29 lnh29 ivh29 rvh29 (sk 25) gat1 from (gl69.mv (QT.of W28 sk26 xl29 fl29 rfl rfl rfl rfl rfl) (el25.fr W28 sk26 fl29 rfl rfl).1 (el25.fr W28 sk26 fl29 rfl rfl).2)) (xl29.ty ty251) (show ivh29 (sk 25) 2 = ivh28 (sk 25) 2 from fl29.i ty251 rfl 2) (gb19.fr W28 ty249 ty248 fl29 rfl rfl rfl rfl rfl rfl) (Phi.le W29 sk27) (fun ty260 gf29 gl70 gl71 ty261 ie94 gb21 pl35 => ?_)
            refine hv2 (show 0 ≤ ivh29 (sk 7) 2 ∧ ivh29 (sk 7) 2 ≤ 6003 from W29.int ty260 2) (show 0 ≤ ivh29 (sk 25) 2 ∧ ivh29 (sk 25) 2 ≤ 6003 from W29.int ty261 2) (fun ri71 ri72 => ?_)
            have gb20 := GBQ.mk gl69 gf29.2 (by omega) (by omega)
            exact c_vret C dX3_gather_103 rfl (by decide) (rom0 hph pl35 (by decide)) ⟨rfl, X27, F29, W29, trivial, ⟨gl70, gl71⟩, ⟨gb21, gb20⟩⟩
        · have rknb6 := W22.rank ty185 (k := 3) (by decide) nq6
          refine c_getr (k := 3) C ck_10 dX3_gather_51 w2_184 (by decide) ty185 rfl rfl (by decide) rfl nq6 ?_
          refine c_st (st2 := [.ref nb6, .ref (sk 25)]) rfl ?_
          refine hv4 (xl22.ty ty182) (show ivh22 (sk 25) 2 = ivh6 (sk 25) 2 from fl22.i ty182 rfl 2) (show ivh6 (sk 25) 2 = ivh2 (sk 25) 2 from fl6.i tsk25 rfl 2) (Phi.le W22 sk20) (fun ty262 ie95 ie96 pl36 => ?_)
          have ri73 : 0 ≤ ivh22 (sk 25) 2 ∧ ivh22 (sk 25) 2 ≤ 6003 := W22.int ty262 2
          refine d_callS (As := [.ref (sk 25), .ref nb6]) (rest := []) C hM (G_gatherPart_25 (a0 := (sk 25)) (a1 := nb6) W22 sk20 ty262 tnb6  (by show ivh22 (sk 25) 2 = 0; omega)) dX3_gather_54 kS_X3_59 rfl rfl (Nat.le_of_ble_eq_true rfl) ⟨(Nat.le_of_ble_eq_true rfl), (Nat.le_of_ble_eq_true rfl)⟩ hph pl36 (show 0 + 0 = 0 from rfl) (by decide) (fun rh30 Lh30 clh30 lnh30 ivh30 rvh30 h30 => ?_)
          obtain ⟨rfl, xl30, fl30, W30, exf30, gpxf30⟩ := h30
          refine hv10 (F22.call X20 fl30 rfl) (xl22.ty ty177) (xl22.ty ty178) (xl22.ty ty179) (xl22.ty ty180) (xl22.ty ty181) (xl22.ty trb5) (xl22.ty tnb2) (X20.trans xl30) (xl30.skl sk20) (fun F30 ty263 ty264 ty265 ty266 ty267 ty268 ty269 X28 sk28 => ?_)
          refine c_st (st2 := []) rfl ?_
          refine hv4 (xl30.ty ty262) (show ivh30 (sk 25) 2 ≤ 6002 from exf30) (show GLQ sk ln iv rv a1 Lh30 clh30 lnh30 ivh30 rvh30 (sk 25) (fun a i => rws1 a (a 9 i.toNat)) from (GLQ.sub3 gpxf30 (QT.of hW hS X20 F22 rfl rfl rfl rfl rfl) nq6)) (show GLQ sk ln iv rv a1 Lh30 clh30 lnh30 ivh30 rvh30 (sk 24) (fun a i => rws1 a (a 8 i.toNat) ++ indl a (4 * i + ((2 : Nat) : Int))) from (gl52.mv (QT.of W22 sk20 xl30 fl30 rfl rfl rfl rfl rfl) (el24.fr W22 sk20 fl30 rfl rfl).1 (el24.fr W22 sk20 fl30 rfl rfl).2)) (fun ty270 gf30 gl72 gl73 => ?_)
          have ri74 : 0 ≤ ivh30 (sk 25) 2 ∧ ivh30 (sk 25) 2 ≤ 6003 := W30.int ty270 2
          refine c_aload_n (j := 0) (x := a0) C dX3_gather_57 rfl ?_
          refine hv2 (xl30.ty ty184) (show rvh30 a0 1 = rvh22 a0 1 from (fl30.r ty184 rfl 1)) (fun ty271 re55 => ?_)
          rw [re41] at re55
          refine c_getr (k := 1) C ck_4 dX3_gather_58 w1_193 (by decide) ty271 rfl rfl (by decide) rfl re55 ?_
          refine c_st (st2 := [.ref (sk 25)]) rfl ?_
          refine c_aload_n (j := 1) (x := a1) C dX3_gather_61 rfl ?_
          refine hv2 (xl30.ty ty185) (show rvh22 a1 6 = rvh6 a1 6 from (fl22.r ty23 rfl 6)) (fun ty272 re56 => ?_)
          rw [rq5] at re56
          have re57 : rvh30 a1 6 = rvh22 a1 6 := (fl30.r ty185 rfl 6)
          rw [re56] at re57
          refine c_getr (k := 6) C ck_10 dX3_gather_62 w2_193 (by decide) ty272 rfl rfl (by decide) rfl re57 ?_
          refine c_st (st2 := [.ref rb5, .ref (sk 25)]) rfl ?_
          refine c_iconst C dX3_gather_65 ?_
          have ty273 := xl30.ty ty268
          have ll5 : 4 ≤ lnh30 rb5 ∧ lnh30 rb5 ≤ 4 := W30.len ty273 rfl
          rcases W30.opt ty273 ((3 : Int).toNat) rfl rfl with ⟨nq8, _⟩ | ⟨nb8, nq8, tnb8⟩
          · refine c_aaldR C dX3_gather_66 ty273 rfl (by omega) (by omega) (by omega) nq8 ?_
            refine c_st (st2 := [.null, .ref (sk 25)]) rfl ?_
            have pl37 := Phi.le W30 sk28
            refine d_callS (As := [.ref (sk 25), .null]) (rest := []) C hM (G_addInd_25 (a0 := (sk 25)) (r := none) W30 sk28 ty270 (fun _ q => by cases q)  (by show ivh30 (sk 25) 2 < 6003; omega)) dX3_gather_67 kS_X3_67 rfl rfl (Nat.le_of_ble_eq_true rfl) ⟨(Nat.le_of_ble_eq_true rfl), (Nat.le_of_ble_eq_true rfl)⟩ hph pl37 (show 0 + 0 = 0 from rfl) (by decide) (fun rh31 Lh31 clh31 lnh31 ivh31 rvh31 h31 => ?_)
            obtain ⟨rfl, xl31, fl31, W31, exf31, ladf31⟩ := h31
            refine hv11 (F30.call X28 fl31 rfl) (xl30.ty ty263) (xl30.ty ty264) (xl30.ty ty265) (xl30.ty ty266) (xl30.ty ty267) (xl30.ty ty183) (xl30.ty ty269) (xl30.ty tnb6) (X28.trans xl31) (xl31.skl sk28) (fun F31 ty274 ty275 ty276 ty277 ty278 ty279 ty280 ty281 X29 sk29 => ?_)
            refine c_st (st2 := []) rfl ?_
            refine hv4 (xl31.ty ty270) (show ivh30 (sk 25) 2 ≤ ivh31 (sk 25) 2 ∧ ivh31 (sk 25) 2 ≤ ivh30 (sk 25) 2 + 1 from exf31) (show GLQ sk ln iv rv a1 Lh31 clh31 lnh31 ivh31 rvh31 (sk 25) (fun a i => rws1 a (a 9 i.toNat) ++ indl a (4 * i + ((3 : Nat) : Int))) from (gl72.ind (j := 3) (QT.of hW hS X28 F30 rfl rfl rfl rfl rfl) (QT.of W30 sk28 xl31 fl31 rfl rfl rfl rfl rfl) ty273 re57 nq8 ladf31 (by decide))) (show GLQ sk ln iv rv a1 Lh31 clh31 lnh31 ivh31 rvh31 (sk 24) (fun a i => rws1 a (a 8 i.toNat) ++ indl a (4 * i + ((2 : Nat) : Int))) from (gl73.mv (QT.of W30 sk28 xl31 fl31 rfl rfl rfl rfl rfl) (el24.fr W30 sk28 fl31 rfl rfl).1 (el24.fr W30 sk28 fl31 rfl rfl).2)) (fun ty282 gf31 gl74 gl75 => ?_)
            have ri75 : 0 ≤ ivh31 (sk 25) 2 ∧ ivh31 (sk 25) 2 ≤ 6003 := W31.int ty282 2
            refine c_goto (tgt := 81) C dX3_gather_70 (by decide) ?_
            refine hv5 (xl31.ty ty272) (show ivh31 a1 0 = ivh30 a1 0 from fl31.i ty272 rfl 0) (show ivh30 a1 0 = ivh22 a1 0 from fl30.i ty185 rfl 0) (show ivh22 a1 0 = ivh6 a1 0 from fl22.i ty23 rfl 0) (show ivh6 a1 0 = ivh2 a1 0 from fl6.i t_a1 rfl 0) (fun ty283 ie99 ie100 ie101 ie102 => ?_)
            have ri76 : (-2147483648) ≤ ivh31 a1 0 ∧ ivh31 a1 0 ≤ 2147483647 := W31.int ty283 0
            have gl76 : GLQ sk ln iv rv a1 Lh31 clh31 lnh31 ivh31 rvh31 (sk 24) gat0 := (gl75.g0 (by omega))
            have gl77 : GLQ sk ln iv rv a1 Lh31 clh31 lnh31 ivh31 rvh31 (sk 25) gat1 := (gl74.g1 (by omega))
            refine c_aload_n (j := 0) (x := a0) C dX3_gather_81 rfl ?_
            refine hv2 (xl31.ty ty271) (show rvh22 a0 0 = rvh6 a0 0 from (fl22.r ty22 rfl 0)) (fun ty284 re58 => ?_)
            rw [re9] at re58
            have re59 : rvh30 a0 0 = rvh22 a0 0 := (fl30.r ty184 rfl 0)
            rw [re58] at re59
            have re60 : rvh31 a0 0 = rvh30 a0 0 := (fl31.r ty271 rfl 0)
            rw [re59] at re60
            refine c_getr (k := 0) C ck_4 dX3_gather_82 w1_190 (by decide) ty284 rfl rfl (by decide) rfl re60 ?_
            refine c_st (st2 := [.ref (sk 24)]) rfl ?_
            refine c_aload_n (j := 0) (x := a0) C dX3_gather_85 rfl ?_
            obtain ⟨rb18, rq18, trb18⟩ := W31.ref ty284 2 rfl rfl rfl
            have erb18 := W31.sk trb18 (by decide) rfl
            subst erb18
            refine c_getr (k := 2) C ck_4 dX3_gather_86 w1_196 (by decide) ty284 rfl rfl (by decide) rfl rq18 ?_
            refine c_st (st2 := [.ref (sk 6), .ref (sk 24)]) rfl ?_
            refine hv5 (xl31.ty ty279) (show ivh31 (sk 24) 2 = ivh30 (sk 24) 2 from fl31.i ty279 rfl 2) (show ivh30 (sk 24) 2 = ivh22 (sk 24) 2 from fl30.i ty183 rfl 2) (xl31.ty ty274) (Phi.le W31 sk29) (fun ty285 ie103 ie104 ty286 pl38 => ?_)
            have ri77 : 0 ≤ ivh31 (sk 24) 2 ∧ ivh31 (sk 24) 2 ≤ 6003 := W31.int ty285 2
            refine d_callS (As := [.ref (sk 24), .ref (sk 6)]) (rest := []) C hM (G_markBegins_24 (a0 := (sk 24)) (a1 := (sk 6)) W31 sk29 ty285 ty286  ) dX3_gather_89 kS_X3_73 rfl rfl (Nat.le_of_ble_eq_true rfl) ⟨(Nat.le_of_ble_eq_true rfl), (Nat.le_of_ble_eq_true rfl)⟩ hph pl38 (show 0 + 0 = 0 from rfl) (by decide) (fun rh32 Lh32 clh32 lnh32 ivh32 rvh32 h32 => ?_)
            obtain ⟨rfl, xl32, fl32, W32, exf32⟩ := h32
            refine hv10 (F31.call X29 fl32 rfl) (xl31.ty ty275) (xl31.ty ty276) (xl31.ty ty277) (xl31.ty ty278) (xl31.ty ty273) (xl31.ty ty280) (xl31.ty ty281) (X29.trans xl32) (xl32.skl sk29) (fun F32 ty287 ty288 ty289 ty290 ty291 ty292 ty293 X30 sk30 => ?_)
            refine c_st (st2 := []) rfl ?_
            refine hv6 (xl32.ty ty286) (show ivh32 (sk 6) 2 = ivh31 (sk 24) 2 ∧ MBX Lh31 clh31 lnh31 ivh31 rvh31 (sk 24) ivh32 rvh32 (sk 6) from exf32) (show GLQ sk ln iv rv a1 Lh32 clh32 lnh32 ivh32 rvh32 (sk 24) gat0 from (gl76.mv (QT.of W31 sk29 xl32 fl32 rfl rfl rfl rfl rfl) (el24.fr W31 sk29 fl32 rfl rfl).1 (el24.fr W31 sk29 fl32 rfl rfl).2)) (show GLQ sk ln iv rv a1 Lh32 clh32 lnh32 ivh32 rvh32 (sk 25) gat1 from (gl77.mv (QT.of W31 sk29 xl32 fl32 rfl rfl rfl rfl rfl) (el25.fr W31 sk29 fl32 rfl rfl).1 (el25.fr W31 sk29 fl32 rfl rfl).2)) (xl32.ty ty285) (show ivh32 (sk 24) 2 = ivh31 (sk 24) 2 from fl32.i ty285 rfl 2) (fun ty294 gf32 gl78 gl79 ty295 ie106 => ?_)
            refine hv2 (show 0 ≤ ivh32 (sk 6) 2 ∧ ivh32 (sk 6) 2 ≤ 6003 from W32.int ty294 2) (show 0 ≤ ivh32 (sk 24) 2 ∧ ivh32 (sk 24) 2 ≤ 6003 from W32.int ty295 2) (fun ri78 ri79 => ?_)
            have gb22 := GBQ.mk gl76 gf32.2 (by omega) (by omega)
            refine c_aload_n (j := 0) (x := a0) C dX3_gather_92 rfl ?_
            refine hv2 (xl32.ty ty284) (show rvh31 a0 1 = rvh30 a0 1 from (fl31.r ty271 rfl 1)) (fun ty296 re61 => ?_)
            rw [re55] at re61
            have re62 : rvh32 a0 1 = rvh31 a0 1 := (fl32.r ty284 rfl 1)
            rw [re61] at re62
            refine c_getr (k := 1) C ck_4 dX3_gather_93 w1_193 (by decide) ty296 rfl rfl (by decide) rfl re62 ?_
            refine c_st (st2 := [.ref (sk 25)]) rfl ?_
            refine c_aload_n (j := 0) (x := a0) C dX3_gather_96 rfl ?_
            obtain ⟨rb19, rq19, trb19⟩ := W32.ref ty296 3 rfl rfl rfl
            have erb19 := W32.sk trb19 (by decide) rfl
            subst erb19
            refine c_getr (k := 3) C ck_4 dX3_gather_97 w1_197 (by decide) ty296 rfl rfl (by decide) rfl rq19 ?_
            refine c_st (st2 := [.ref (sk 7), .ref (sk 25)]) rfl ?_
            refine hv4 (xl32.ty ty282) (show ivh32 (sk 25) 2 = ivh31 (sk 25) 2 from fl32.i ty282 rfl 2) (xl32.ty ty287) (Phi.le W32 sk30) (fun ty297 ie107 ty298 pl39 => ?_)
            have ri80 : 0 ≤ ivh32 (sk 25) 2 ∧ ivh32 (sk 25) 2 ≤ 6003 := W32.int ty297 2
            refine d_callS (As := [.ref (sk 25), .ref (sk 7)]) (rest := []) C hM (G_markBegins_25 (a0 := (sk 25)) (a1 := (sk 7)) W32 sk30 ty297 ty298  ) dX3_gather_100 kS_X3_73 rfl rfl (Nat.le_of_ble_eq_true rfl) ⟨(Nat.le_of_ble_eq_true rfl), (Nat.le_of_ble_eq_true rfl)⟩ hph pl39 (show 0 + 0 = 0 from rfl) (by decide) (fun rh33 Lh33 clh33 lnh33 ivh33 rvh33 h33 => ?_)
            obtain ⟨rfl, xl33, fl33, W33, exf33⟩ := h33
            refine hv10 (F32.call X30 fl33 rfl) (xl32.ty ty283) (xl32.ty ty288) (xl32.ty ty289) (xl32.ty ty290) (xl32.ty ty291) (xl32.ty ty292) (xl32.ty ty293) (X30.trans xl33) (xl33.skl sk30) (fun F33 ty299 ty300 ty301 ty302 ty303 ty304 ty305 X31 sk31 => ?_)
            refine c_st (st2 := []) rfl ?_
            refine hv8 (xl33.ty ty298) (show ivh33 (sk 7) 2 = ivh32 (sk 25) 2 ∧ MBX Lh32 clh32 lnh32 ivh32 rvh32 (sk 25) ivh33 rvh33 (sk 7) from exf33) (show GLQ sk ln iv rv a1 Lh33 clh33 lnh33 ivh33 rvh33 (sk 24) gat0 from (gl78.mv (QT.of W32 sk30 xl33 fl33 rfl rfl rfl rfl rfl) (el24.fr W32 sk30 fl33 rfl rfl).1 (el24.fr W32 sk30 fl33 rfl rfl).2)) (show GLQ sk ln iv rv a1 Lh33 clh33 lnh33 ivh33 rvh33 (sk 25) gat1 from (gl79.mv (QT.of W32 sk30 xl33 fl33 rfl rfl rfl rfl rfl) (el25.fr W32 sk30 fl33 rfl rfl).1 (el25.fr W32 sk30 fl33 rfl rfl).2)) (xl33.ty ty297) (show ivh33 (sk 25) 2 = ivh32 (sk 25) 2 from fl33.i ty297 rfl 2) (gb22.fr W32 ty295 ty294 fl33 rfl rfl rfl rfl rfl rfl) (Phi.le W33 sk31) (fun ty306 gf33 gl80 gl81 ty307 ie109 gb24 pl40 => ?_)
            refine hv2 (show 0 ≤ ivh33 (sk 7) 2 ∧ ivh33 (sk 7) 2 ≤ 6003 from W33.int ty306 2) (show 0 ≤ ivh33 (sk 25) 2 ∧ ivh33 (sk 25) 2 ≤ 6003 from W33.int ty307 2) (fun ri81 ri82 => ?_)
            have gb23 := GBQ.mk gl79 gf33.2 (by omega) (by omega)
            exact c_vret C dX3_gather_103 rfl (by decide) (rom0 hph pl40 (by decide)) ⟨rfl, X31, F33, W33, trivial, ⟨gl80, gl81⟩, ⟨gb24, gb23⟩⟩
          · have tnb8 : ty Lh30 clh30 nb8 20 := tnb8
            refine c_aaldR C dX3_gather_66 ty273 rfl (by omega) (by omega) (by omega) nq8 ?_
            refine c_st (st2 := [.ref nb8, .ref (sk 25)]) rfl ?_
            have pl41 := Phi.le W30 sk28
            refine d_callS (As := [.ref (sk 25), .ref nb8]) (rest := []) C hM (G_addInd_25 (a0 := (sk 25)) (r := (some nb8)) W30 sk28 ty270 (fun _ q => by cases q; exact tnb8)  (by show ivh30 (sk 25) 2 < 6003; omega)) dX3_gather_67 kS_X3_67 rfl rfl (Nat.le_of_ble_eq_true rfl) ⟨(Nat.le_of_ble_eq_true rfl), (Nat.le_of_ble_eq_true rfl)⟩ hph pl41 (show 0 + 0 = 0 from rfl) (by decide) (fun rh34 Lh34 clh34 lnh34 ivh34 rvh34 h34 => ?_)
            obtain ⟨rfl, xl34, fl34, W34, exf34, ladf34⟩ := h34
            refine hv11 (F30.call X28 fl34 rfl) (xl30.ty ty263) (xl30.ty ty264) (xl30.ty ty265) (xl30.ty ty266) (xl30.ty ty267) (xl30.ty ty183) (xl30.ty ty269) (xl30.ty tnb6) (X28.trans xl34) (xl34.skl sk28) (fun F34 ty308 ty309 ty310 ty311 ty312 ty313 ty314 ty315 X32 sk32 => ?_)
            refine c_st (st2 := []) rfl ?_
            refine hv4 (xl34.ty ty270) (show ivh30 (sk 25) 2 ≤ ivh34 (sk 25) 2 ∧ ivh34 (sk 25) 2 ≤ ivh30 (sk 25) 2 + 1 from exf34) (show GLQ sk ln iv rv a1 Lh34 clh34 lnh34 ivh34 rvh34 (sk 25) (fun a i => rws1 a (a 9 i.toNat) ++ indl a (4 * i + ((3 : Nat) : Int))) from (gl72.ind (j := 3) (QT.of hW hS X28 F30 rfl rfl rfl rfl rfl) (QT.of W30 sk28 xl34 fl34 rfl rfl rfl rfl rfl) ty273 re57 nq8 ladf34 (by decide))) (show GLQ sk ln iv rv a1 Lh34 clh34 lnh34 ivh34 rvh34 (sk 24) (fun a i => rws1 a (a 8 i.toNat) ++ indl a (4 * i + ((2 : Nat) : Int))) from (gl73.mv (QT.of W30 sk28 xl34 fl34 rfl rfl rfl rfl rfl) (el24.fr W30 sk28 fl34 rfl rfl).1 (el24.fr W30 sk28 fl34 rfl rfl).2)) (fun ty316 gf34 gl82 gl83 => ?_)
            have ri83 : 0 ≤ ivh34 (sk 25) 2 ∧ ivh34 (sk 25) 2 ≤ 6003 := W34.int ty316 2
            refine c_goto (tgt := 81) C dX3_gather_70 (by decide) ?_
            refine hv5 (xl34.ty ty272) (show ivh34 a1 0 = ivh30 a1 0 from fl34.i ty272 rfl 0) (show ivh30 a1 0 = ivh22 a1 0 from fl30.i ty185 rfl 0) (show ivh22 a1 0 = ivh6 a1 0 from fl22.i ty23 rfl 0) (show ivh6 a1 0 = ivh2 a1 0 from fl6.i t_a1 rfl 0) (fun ty317 ie111 ie112 ie113 ie114 => ?_)
            have ri84 : (-2147483648) ≤ ivh34 a1 0 ∧ ivh34 a1 0 ≤ 2147483647 := W34.int ty317 0
            have gl84 : GLQ sk ln iv rv a1 Lh34 clh34 lnh34 ivh34 rvh34 (sk 24) gat0 := (gl83.g0 (by omega))
            have gl85 : GLQ sk ln iv rv a1 Lh34 clh34 lnh34 ivh34 rvh34 (sk 25) gat1 := (gl82.g1 (by omega))
            refine c_aload_n (j := 0) (x := a0) C dX3_gather_81 rfl ?_
            refine hv2 (xl34.ty ty271) (show rvh22 a0 0 = rvh6 a0 0 from (fl22.r ty22 rfl 0)) (fun ty318 re63 => ?_)
            rw [re9] at re63
            have re64 : rvh30 a0 0 = rvh22 a0 0 := (fl30.r ty184 rfl 0)
            rw [re63] at re64
            have re65 : rvh34 a0 0 = rvh30 a0 0 := (fl34.r ty271 rfl 0)
            rw [re64] at re65
            refine c_getr (k := 0) C ck_4 dX3_gather_82 w1_190 (by decide) ty318 rfl rfl (by decide) rfl re65 ?_
            refine c_st (st2 := [.ref (sk 24)]) rfl ?_
            refine c_aload_n (j := 0) (x := a0) C dX3_gather_85 rfl ?_
            obtain ⟨rb20, rq20, trb20⟩ := W34.ref ty318 2 rfl rfl rfl
            have erb20 := W34.sk trb20 (by decide) rfl
            subst erb20
            refine c_getr (k := 2) C ck_4 dX3_gather_86 w1_196 (by decide) ty318 rfl rfl (by decide) rfl rq20 ?_
            refine c_st (st2 := [.ref (sk 6), .ref (sk 24)]) rfl ?_
            refine hv5 (xl34.ty ty313) (show ivh34 (sk 24) 2 = ivh30 (sk 24) 2 from fl34.i ty313 rfl 2) (show ivh30 (sk 24) 2 = ivh22 (sk 24) 2 from fl30.i ty183 rfl 2) (xl34.ty ty308) (Phi.le W34 sk32) (fun ty319 ie115 ie116 ty320 pl42 => ?_)
            have ri85 : 0 ≤ ivh34 (sk 24) 2 ∧ ivh34 (sk 24) 2 ≤ 6003 := W34.int ty319 2
            refine d_callS (As := [.ref (sk 24), .ref (sk 6)]) (rest := []) C hM (G_markBegins_24 (a0 := (sk 24)) (a1 := (sk 6)) W34 sk32 ty319 ty320  ) dX3_gather_89 kS_X3_73 rfl rfl (Nat.le_of_ble_eq_true rfl) ⟨(Nat.le_of_ble_eq_true rfl), (Nat.le_of_ble_eq_true rfl)⟩ hph pl42 (show 0 + 0 = 0 from rfl) (by decide) (fun rh35 Lh35 clh35 lnh35 ivh35 rvh35 h35 => ?_)
            obtain ⟨rfl, xl35, fl35, W35, exf35⟩ := h35
            refine hv11 (F34.call X32 fl35 rfl) (xl34.ty ty309) (xl34.ty ty310) (xl34.ty ty311) (xl34.ty ty312) (xl34.ty ty273) (xl34.ty ty314) (xl34.ty ty315) (xl34.ty tnb8) (X32.trans xl35) (xl35.skl sk32) (fun F35 ty321 ty322 ty323 ty324 ty325 ty326 ty327 ty328 X33 sk33 => ?_)
            refine c_st (st2 := []) rfl ?_
            refine hv6 (xl35.ty ty320) (show ivh35 (sk 6) 2 = ivh34 (sk 24) 2 ∧ MBX Lh34 clh34 lnh34 ivh34 rvh34 (sk 24) ivh35 rvh35 (sk 6) from exf35) (show GLQ sk ln iv rv a1 Lh35 clh35 lnh35 ivh35 rvh35 (sk 24) gat0 from (gl84.mv (QT.of W34 sk32 xl35 fl35 rfl rfl rfl rfl rfl) (el24.fr W34 sk32 fl35 rfl rfl).1 (el24.fr W34 sk32 fl35 rfl rfl).2)) (show GLQ sk ln iv rv a1 Lh35 clh35 lnh35 ivh35 rvh35 (sk 25) gat1 from (gl85.mv (QT.of W34 sk32 xl35 fl35 rfl rfl rfl rfl rfl) (el25.fr W34 sk32 fl35 rfl rfl).1 (el25.fr W34 sk32 fl35 rfl rfl).2)) (xl35.ty ty319) (show ivh35 (sk 24) 2 = ivh34 (sk 24) 2 from fl35.i ty319 rfl 2) (fun ty329 gf35 gl86 gl87 ty330 ie118 => ?_)
            refine hv2 (show 0 ≤ ivh35 (sk 6) 2 ∧ ivh35 (sk 6) 2 ≤ 6003 from W35.int ty329 2) (show 0 ≤ ivh35 (sk 24) 2 ∧ ivh35 (sk 24) 2 ≤ 6003 from W35.int ty330 2) (fun ri86 ri87 => ?_)
            have gb25 := GBQ.mk gl84 gf35.2 (by omega) (by omega)
            refine c_aload_n (j := 0) (x := a0) C dX3_gather_92 rfl ?_
            refine hv2 (xl35.ty ty318) (show rvh34 a0 1 = rvh30 a0 1 from (fl34.r ty271 rfl 1)) (fun ty331 re66 => ?_)
            rw [re55] at re66
            have re67 : rvh35 a0 1 = rvh34 a0 1 := (fl35.r ty318 rfl 1)
            rw [re66] at re67
            refine c_getr (k := 1) C ck_4 dX3_gather_93 w1_193 (by decide) ty331 rfl rfl (by decide) rfl re67 ?_
            refine c_st (st2 := [.ref (sk 25)]) rfl ?_
            refine c_aload_n (j := 0) (x := a0) C dX3_gather_96 rfl ?_
            obtain ⟨rb21, rq21, trb21⟩ := W35.ref ty331 3 rfl rfl rfl
            have erb21 := W35.sk trb21 (by decide) rfl
            subst erb21
            refine c_getr (k := 3) C ck_4 dX3_gather_97 w1_197 (by decide) ty331 rfl rfl (by decide) rfl rq21 ?_
            refine c_st (st2 := [.ref (sk 7), .ref (sk 25)]) rfl ?_
            refine hv4 (xl35.ty ty316) (show ivh35 (sk 25) 2 = ivh34 (sk 25) 2 from fl35.i ty316 rfl 2) (xl35.ty ty321) (Phi.le W35 sk33) (fun ty332 ie119 ty333 pl43 => ?_)
            have ri88 : 0 ≤ ivh35 (sk 25) 2 ∧ ivh35 (sk 25) 2 ≤ 6003 := W35.int ty332 2
            refine d_callS (As := [.ref (sk 25), .ref (sk 7)]) (rest := []) C hM (G_markBegins_25 (a0 := (sk 25)) (a1 := (sk 7)) W35 sk33 ty332 ty333  ) dX3_gather_100 kS_X3_73 rfl rfl (Nat.le_of_ble_eq_true rfl) ⟨(Nat.le_of_ble_eq_true rfl), (Nat.le_of_ble_eq_true rfl)⟩ hph pl43 (show 0 + 0 = 0 from rfl) (by decide) (fun rh36 Lh36 clh36 lnh36 ivh36 rvh36 h36 => ?_)
            obtain ⟨rfl, xl36, fl36, W36, exf36⟩ := h36
            refine hv11 (F35.call X33 fl36 rfl) (xl35.ty ty317) (xl35.ty ty322) (xl35.ty ty323) (xl35.ty ty324) (xl35.ty ty325) (xl35.ty ty326) (xl35.ty ty327) (xl35.ty ty328) (X33.trans xl36) (xl36.skl sk33) (fun F36 ty334 ty335 ty336 ty337 ty338 ty339 ty340 ty341 X34 sk34 => ?_)
            refine c_st (st2 := []) rfl ?_
            refine hv8 (xl36.ty ty333) (show ivh36 (sk 7) 2 = ivh35 (sk 25) 2 ∧ MBX Lh35 clh35 lnh35 ivh35 rvh35 (sk 25) ivh36 rvh36 (sk 7) from exf36) (show GLQ sk ln iv rv a1 Lh36 clh36 lnh36 ivh36 rvh36 (sk 24) gat0 from (gl86.mv (QT.of W35 sk33 xl36 fl36 rfl rfl rfl rfl rfl) (el24.fr W35 sk33 fl36 rfl rfl).1 (el24.fr W35 sk33 fl36 rfl rfl).2)) (show GLQ sk ln iv rv a1 Lh36 clh36 lnh36 ivh36 rvh36 (sk 25) gat1 from (gl87.mv (QT.of W35 sk33 xl36 fl36 rfl rfl rfl rfl rfl) (el25.fr W35 sk33 fl36 rfl rfl).1 (el25.fr W35 sk33 fl36 rfl rfl).2)) (xl36.ty ty332) (show ivh36 (sk 25) 2 = ivh35 (sk 25) 2 from fl36.i ty332 rfl 2) (gb25.fr W35 ty330 ty329 fl36 rfl rfl rfl rfl rfl rfl) (Phi.le W36 sk34) (fun ty342 gf36 gl88 gl89 ty343 ie121 gb27 pl44 => ?_)
            refine hv2 (show 0 ≤ ivh36 (sk 7) 2 ∧ ivh36 (sk 7) 2 ≤ 6003 from W36.int ty342 2) (show 0 ≤ ivh36 (sk 25) 2 ∧ ivh36 (sk 25) 2 ≤ 6003 from W36.int ty343 2) (fun ri89 ri90 => ?_)
            have gb26 := GBQ.mk gl87 gf36.2 (by omega) (by omega)
            exact c_vret C dX3_gather_103 rfl (by decide) (rom0 hph pl44 (by decide)) ⟨rfl, X34, F36, W36, trivial, ⟨gl88, gl89⟩, ⟨gb27, gb26⟩⟩
    · have rknb1 := W2.rank t_a1 (k := 2) (by decide) nq1
      refine c_getr (k := 2) C ck_10 dX3_gather_27 w2_181 (by decide) t_a1 rfl rfl (by decide) rfl nq1 ?_
      refine c_st (st2 := [.ref nb1, .ref (sk 24)]) rfl ?_
      refine hv3 (show 0 ≤ ivh2 (sk 24) 2 ∧ ivh2 (sk 24) 2 ≤ 6003 from W2.int tsk24 2) (show ivh2 (sk 24) 2 = ivh1 (sk 24) 2 from fl2.i tsk24 rfl 2) (Phi.le W2 hS) (fun ri91 ie122 pl45 => ?_)
      refine d_callS (As := [.ref (sk 24), .ref nb1]) (rest := []) C hM (G_gatherPart_24 (a0 := (sk 24)) (a1 := nb1) W2 hS tsk24 tnb1  (by show ivh2 (sk 24) 2 = 0; omega)) dX3_gather_30 kS_X3_59 rfl rfl (Nat.le_of_ble_eq_true rfl) ⟨(Nat.le_of_ble_eq_true rfl), (Nat.le_of_ble_eq_true rfl)⟩ hph pl45 (show 0 + 0 = 0 from rfl) (by decide) (fun rh37 Lh37 clh37 lnh37 ivh37 rvh37 h37 => ?_)
      obtain ⟨rfl, xl37, fl37, W37, exf37, gpxf37⟩ := h37
      refine hv3 (F2.call hX0 fl37 rfl) (hX0.trans xl37) (xl37.skl hS) (fun F37 X35 sk35 => ?_)
      refine c_st (st2 := []) rfl ?_
      refine hv4 (xl37.ty tsk24) (show ivh37 (sk 24) 2 ≤ 6002 from exf37) (show GLQ sk ln iv rv a1 Lh37 clh37 lnh37 ivh37 rvh37 (sk 24) (fun a i => rws1 a (a 8 i.toNat)) from (GLQ.sub gpxf37 (QT.of hW hS hX0 F2 rfl rfl rfl rfl rfl) nq1)) (show GLQ sk ln iv rv a1 Lh37 clh37 lnh37 ivh37 rvh37 (sk 25) (fun _ _ => []) from (gl3.mv (QT.of W2 hS xl37 fl37 rfl rfl rfl rfl rfl) (el25.fr W2 hS fl37 rfl rfl).1 (el25.fr W2 hS fl37 rfl rfl).2)) (fun ty344 gf37 gl90 gl91 => ?_)
      have ri92 : 0 ≤ ivh37 (sk 24) 2 ∧ ivh37 (sk 24) 2 ≤ 6003 := W37.int ty344 2
      refine c_aload_n (j := 0) (x := a0) C dX3_gather_33 rfl ?_
      refine hv2 (xl37.ty t_a0) (show rvh37 a0 0 = rvh2 a0 0 from (fl37.r t_a0 rfl 0)) (fun ty345 re68 => ?_)
      rw [re8] at re68
      refine c_getr (k := 0) C ck_4 dX3_gather_34 w1_190 (by decide) ty345 rfl rfl (by decide) rfl re68 ?_
      refine c_st (st2 := [.ref (sk 24)]) rfl ?_
      refine c_aload_n (j := 1) (x := a1) C dX3_gather_37 rfl ?_
      have ty346 := xl37.ty t_a1
      obtain ⟨rb22, rq22, trb22⟩ := W37.ref ty346 6 rfl rfl rfl
      have lnrb22 : 4 ≤ lnh37 rb22 ∧ lnh37 rb22 ≤ 4 := W37.len trb22 rfl
      refine c_getr (k := 6) C ck_10 dX3_gather_38 w2_193 (by decide) ty346 rfl rfl (by decide) rfl rq22 ?_
      refine c_st (st2 := [.ref rb22, .ref (sk 24)]) rfl ?_
      refine c_iconst C dX3_gather_41 ?_
      have ll6 : 4 ≤ lnh37 rb22 ∧ lnh37 rb22 ≤ 4 := W37.len trb22 rfl
      rcases W37.opt trb22 ((2 : Int).toNat) rfl rfl with ⟨nq9, _⟩ | ⟨nb9, nq9, tnb9⟩
      · refine c_aaldR C dX3_gather_42 trb22 rfl (by omega) (by omega) (by omega) nq9 ?_
        refine c_st (st2 := [.null, .ref (sk 24)]) rfl ?_
        have pl46 := Phi.le W37 sk35
        refine d_callS (As := [.ref (sk 24), .null]) (rest := []) C hM (G_addInd_24 (a0 := (sk 24)) (r := none) W37 sk35 ty344 (fun _ q => by cases q)  (by show ivh37 (sk 24) 2 < 6003; omega)) dX3_gather_43 kS_X3_67 rfl rfl (Nat.le_of_ble_eq_true rfl) ⟨(Nat.le_of_ble_eq_true rfl), (Nat.le_of_ble_eq_true rfl)⟩ hph pl46 (show 0 + 0 = 0 from rfl) (by decide) (fun rh38 Lh38 clh38 lnh38 ivh38 rvh38 h38 => ?_)
        obtain ⟨rfl, xl38, fl38, W38, exf38, ladf38⟩ := h38
        refine hv10 (F37.call X35 fl38 rfl) (xl37.ty tsk6) (xl37.ty tsk7) (xl37.ty tsk8) (xl37.ty tsk9) (xl37.ty tsk10) (xl37.ty tsk25) (xl37.ty tnb1) (X35.trans xl38) (xl38.skl sk35) (fun F38 ty347 ty348 ty349 ty350 ty351 ty352 ty353 X36 sk36 => ?_)
        refine c_st (st2 := []) rfl ?_
        refine hv4 (xl38.ty ty344) (show ivh37 (sk 24) 2 ≤ ivh38 (sk 24) 2 ∧ ivh38 (sk 24) 2 ≤ ivh37 (sk 24) 2 + 1 from exf38) (show GLQ sk ln iv rv a1 Lh38 clh38 lnh38 ivh38 rvh38 (sk 24) (fun a i => rws1 a (a 8 i.toNat) ++ indl a (4 * i + ((2 : Nat) : Int))) from (gl90.ind (j := 2) (QT.of hW hS X35 F37 rfl rfl rfl rfl rfl) (QT.of W37 sk35 xl38 fl38 rfl rfl rfl rfl rfl) trb22 rq22 nq9 ladf38 (by decide))) (show GLQ sk ln iv rv a1 Lh38 clh38 lnh38 ivh38 rvh38 (sk 25) (fun _ _ => []) from (gl91.mv (QT.of W37 sk35 xl38 fl38 rfl rfl rfl rfl rfl) (el25.fr W37 sk35 fl38 rfl rfl).1 (el25.fr W37 sk35 fl38 rfl rfl).2)) (fun ty354 gf38 gl92 gl93 => ?_)
        have ri93 : 0 ≤ ivh38 (sk 24) 2 ∧ ivh38 (sk 24) 2 ≤ 6003 := W38.int ty354 2
        refine c_aload_n (j := 0) (x := a0) C dX3_gather_46 rfl ?_
        refine hv2 (xl38.ty ty345) (show rvh2 a0 1 = rvh1 a0 1 from (fl2.r t_a0 rfl 1)) (fun ty355 re69 => ?_)
        rw [rq2] at re69
        have re70 : rvh37 a0 1 = rvh2 a0 1 := (fl37.r t_a0 rfl 1)
        rw [re69] at re70
        have re71 : rvh38 a0 1 = rvh37 a0 1 := (fl38.r ty345 rfl 1)
        rw [re70] at re71
        refine c_getr (k := 1) C ck_4 dX3_gather_47 w1_193 (by decide) ty355 rfl rfl (by decide) rfl re71 ?_
        refine c_st (st2 := [.ref (sk 25)]) rfl ?_
        refine c_aload_n (j := 1) (x := a1) C dX3_gather_50 rfl ?_
        have ty356 := xl38.ty ty346
        rcases W38.opt ty356 3 rfl rfl with ⟨nq10, _⟩ | ⟨nb10, nq10, tnb10⟩
        · refine c_getr (k := 3) C ck_10 dX3_gather_51 w2_184 (by decide) ty356 rfl rfl (by decide) rfl nq10 ?_
          refine c_st (st2 := [.null, .ref (sk 25)]) rfl ?_
          refine hv7 (show (-2147483648) ≤ ivh38 a1 0 ∧ ivh38 a1 0 ≤ 2147483647 from W38.int ty356 0) (show ivh38 a1 0 = ivh37 a1 0 from fl38.i ty346 rfl 0) (show ivh37 a1 0 = ivh2 a1 0 from fl37.i t_a1 rfl 0) (xl38.ty ty352) (show ivh38 (sk 25) 2 = ivh37 (sk 25) 2 from fl38.i ty352 rfl 2) (show ivh37 (sk 25) 2 = ivh2 (sk 25) 2 from fl37.i tsk25 rfl 2) (Phi.le W38 sk36) (fun ri94 ie125 ie126 ty357 ie127 ie128 pl47 => ?_)
          have ri95 : 0 ≤ ivh38 (sk 25) 2 ∧ ivh38 (sk 25) 2 ≤ 6003 := W38.int ty357 2
          refine d_callS (As := [.ref (sk 25), .null]) (rest := []) C hM (C_gatherPart_25 (a0 := (sk 25)) (r := none) W38 sk36 ty357 (fun _ q => by cases q)  (by show ivh38 (sk 25) 2 = 0; omega)) dX3_gather_54 kS_X3_59 rfl rfl (Nat.le_of_ble_eq_true rfl) ⟨(Nat.le_of_ble_eq_true rfl), (Nat.le_of_ble_eq_true rfl)⟩ hph pl47 (show 0 + 0 = 0 from rfl) (by decide) (fun rh39 Lh39 clh39 lnh39 ivh39 rvh39 h39 => ?_)
          obtain ⟨rfl, xl39, fl39, W39, exf39⟩ := h39
          refine hv10 (F38.call X36 fl39 rfl) (xl38.ty ty347) (xl38.ty ty348) (xl38.ty ty349) (xl38.ty ty350) (xl38.ty ty351) (xl38.ty ty353) (xl38.ty trb22) (X36.trans xl39) (xl39.skl sk36) (fun F39 ty358 ty359 ty360 ty361 ty362 ty363 ty364 X37 sk37 => ?_)
          refine c_st (st2 := []) rfl ?_
          refine hv3 (xl39.ty ty357) (show ivh39 (sk 25) 2 ≤ 6002 from exf39) (show GLQ sk ln iv rv a1 Lh39 clh39 lnh39 ivh39 rvh39 (sk 24) (fun a i => rws1 a (a 8 i.toNat) ++ indl a (4 * i + ((2 : Nat) : Int))) from (gl92.mv (QT.of W38 sk36 xl39 fl39 rfl rfl rfl rfl rfl) (el24.fr W38 sk36 fl39 rfl rfl).1 (el24.fr W38 sk36 fl39 rfl rfl).2)) (fun ty365 gf39 gl95 => ?_)
          have ri96 : 0 ≤ ivh39 (sk 25) 2 ∧ ivh39 (sk 25) 2 ≤ 6003 := W39.int ty365 2
          have gl94 : GLQ sk ln iv rv a1 Lh39 clh39 lnh39 ivh39 rvh39 (sk 25) (fun a i => rws1 a (a 9 i.toNat)) := (GLQ.no3 (QT.of hW hS X36 F38 rfl rfl rfl rfl rfl) (by omega) nq10)
          refine c_aload_n (j := 0) (x := a0) C dX3_gather_57 rfl ?_
          refine hv2 (xl39.ty ty355) (show rvh39 a0 1 = rvh38 a0 1 from (fl39.r ty355 rfl 1)) (fun ty366 re72 => ?_)
          rw [re71] at re72
          refine c_getr (k := 1) C ck_4 dX3_gather_58 w1_193 (by decide) ty366 rfl rfl (by decide) rfl re72 ?_
          refine c_st (st2 := [.ref (sk 25)]) rfl ?_
          refine c_aload_n (j := 1) (x := a1) C dX3_gather_61 rfl ?_
          refine hv2 (xl39.ty ty356) (show rvh38 a1 6 = rvh37 a1 6 from (fl38.r ty346 rfl 6)) (fun ty367 re73 => ?_)
          rw [rq22] at re73
          have re74 : rvh39 a1 6 = rvh38 a1 6 := (fl39.r ty356 rfl 6)
          rw [re73] at re74
          refine c_getr (k := 6) C ck_10 dX3_gather_62 w2_193 (by decide) ty367 rfl rfl (by decide) rfl re74 ?_
          refine c_st (st2 := [.ref rb22, .ref (sk 25)]) rfl ?_
          refine c_iconst C dX3_gather_65 ?_
          have ty368 := xl39.ty ty364
          have ll7 : 4 ≤ lnh39 rb22 ∧ lnh39 rb22 ≤ 4 := W39.len ty368 rfl
          rcases W39.opt ty368 ((3 : Int).toNat) rfl rfl with ⟨nq11, _⟩ | ⟨nb11, nq11, tnb11⟩
          · refine c_aaldR C dX3_gather_66 ty368 rfl (by omega) (by omega) (by omega) nq11 ?_
            refine c_st (st2 := [.null, .ref (sk 25)]) rfl ?_
            have pl48 := Phi.le W39 sk37
            refine d_callS (As := [.ref (sk 25), .null]) (rest := []) C hM (G_addInd_25 (a0 := (sk 25)) (r := none) W39 sk37 ty365 (fun _ q => by cases q)  (by show ivh39 (sk 25) 2 < 6003; omega)) dX3_gather_67 kS_X3_67 rfl rfl (Nat.le_of_ble_eq_true rfl) ⟨(Nat.le_of_ble_eq_true rfl), (Nat.le_of_ble_eq_true rfl)⟩ hph pl48 (show 0 + 0 = 0 from rfl) (by decide) (fun rh40 Lh40 clh40 lnh40 ivh40 rvh40 h40 => ?_)
            obtain ⟨rfl, xl40, fl40, W40, exf40, ladf40⟩ := h40
            refine hv10 (F39.call X37 fl40 rfl) (xl39.ty ty358) (xl39.ty ty359) (xl39.ty ty360) (xl39.ty ty361) (xl39.ty ty362) (xl39.ty ty354) (xl39.ty ty363) (X37.trans xl40) (xl40.skl sk37) (fun F40 ty369 ty370 ty371 ty372 ty373 ty374 ty375 X38 sk38 => ?_)
            refine c_st (st2 := []) rfl ?_
            refine hv4 (xl40.ty ty365) (show ivh39 (sk 25) 2 ≤ ivh40 (sk 25) 2 ∧ ivh40 (sk 25) 2 ≤ ivh39 (sk 25) 2 + 1 from exf40) (show GLQ sk ln iv rv a1 Lh40 clh40 lnh40 ivh40 rvh40 (sk 25) (fun a i => rws1 a (a 9 i.toNat) ++ indl a (4 * i + ((3 : Nat) : Int))) from (gl94.ind (j := 3) (QT.of hW hS X37 F39 rfl rfl rfl rfl rfl) (QT.of W39 sk37 xl40 fl40 rfl rfl rfl rfl rfl) ty368 re74 nq11 ladf40 (by decide))) (show GLQ sk ln iv rv a1 Lh40 clh40 lnh40 ivh40 rvh40 (sk 24) (fun a i => rws1 a (a 8 i.toNat) ++ indl a (4 * i + ((2 : Nat) : Int))) from (gl95.mv (QT.of W39 sk37 xl40 fl40 rfl rfl rfl rfl rfl) (el24.fr W39 sk37 fl40 rfl rfl).1 (el24.fr W39 sk37 fl40 rfl rfl).2)) (fun ty376 gf40 gl96 gl97 => ?_)
            have ri97 : 0 ≤ ivh40 (sk 25) 2 ∧ ivh40 (sk 25) 2 ≤ 6003 := W40.int ty376 2
            refine c_goto (tgt := 81) C dX3_gather_70 (by decide) ?_
            refine hv3 (xl40.ty ty367) (show ivh40 a1 0 = ivh39 a1 0 from fl40.i ty367 rfl 0) (show ivh39 a1 0 = ivh38 a1 0 from fl39.i ty356 rfl 0) (fun ty377 ie131 ie132 => ?_)
            have ri98 : (-2147483648) ≤ ivh40 a1 0 ∧ ivh40 a1 0 ≤ 2147483647 := W40.int ty377 0
            have gl98 : GLQ sk ln iv rv a1 Lh40 clh40 lnh40 ivh40 rvh40 (sk 24) gat0 := (gl97.g0 (by omega))
            have gl99 : GLQ sk ln iv rv a1 Lh40 clh40 lnh40 ivh40 rvh40 (sk 25) gat1 := (gl96.g1 (by omega))
            refine c_aload_n (j := 0) (x := a0) C dX3_gather_81 rfl ?_
            refine hv2 (xl40.ty ty366) (show rvh38 a0 0 = rvh37 a0 0 from (fl38.r ty345 rfl 0)) (fun ty378 re75 => ?_)
            rw [re68] at re75
            have re76 : rvh39 a0 0 = rvh38 a0 0 := (fl39.r ty355 rfl 0)
            rw [re75] at re76
            have re77 : rvh40 a0 0 = rvh39 a0 0 := (fl40.r ty366 rfl 0)
            rw [re76] at re77
            refine c_getr (k := 0) C ck_4 dX3_gather_82 w1_190 (by decide) ty378 rfl rfl (by decide) rfl re77 ?_
            refine c_st (st2 := [.ref (sk 24)]) rfl ?_
            refine c_aload_n (j := 0) (x := a0) C dX3_gather_85 rfl ?_
            obtain ⟨rb23, rq23, trb23⟩ := W40.ref ty378 2 rfl rfl rfl
            have erb23 := W40.sk trb23 (by decide) rfl
            subst erb23
            refine c_getr (k := 2) C ck_4 dX3_gather_86 w1_196 (by decide) ty378 rfl rfl (by decide) rfl rq23 ?_
            refine c_st (st2 := [.ref (sk 6), .ref (sk 24)]) rfl ?_
            refine hv5 (xl40.ty ty374) (show ivh40 (sk 24) 2 = ivh39 (sk 24) 2 from fl40.i ty374 rfl 2) (show ivh39 (sk 24) 2 = ivh38 (sk 24) 2 from fl39.i ty354 rfl 2) (xl40.ty ty369) (Phi.le W40 sk38) (fun ty379 ie133 ie134 ty380 pl49 => ?_)
            have ri99 : 0 ≤ ivh40 (sk 24) 2 ∧ ivh40 (sk 24) 2 ≤ 6003 := W40.int ty379 2
            refine d_callS (As := [.ref (sk 24), .ref (sk 6)]) (rest := []) C hM (G_markBegins_24 (a0 := (sk 24)) (a1 := (sk 6)) W40 sk38 ty379 ty380  ) dX3_gather_89 kS_X3_73 rfl rfl (Nat.le_of_ble_eq_true rfl) ⟨(Nat.le_of_ble_eq_true rfl), (Nat.le_of_ble_eq_true rfl)⟩ hph pl49 (show 0 + 0 = 0 from rfl) (by decide) (fun rh41 Lh41 clh41 lnh41 ivh41 rvh41 h41 => ?_)
            obtain ⟨rfl, xl41, fl41, W41, exf41⟩ := h41
            refine hv9 (F40.call X38 fl41 rfl) (xl40.ty ty370) (xl40.ty ty371) (xl40.ty ty372) (xl40.ty ty373) (xl40.ty ty375) (xl40.ty ty368) (X38.trans xl41) (xl41.skl sk38) (fun F41 ty381 ty382 ty383 ty384 ty385 ty386 X39 sk39 => ?_)
            refine c_st (st2 := []) rfl ?_
            refine hv6 (xl41.ty ty380) (show ivh41 (sk 6) 2 = ivh40 (sk 24) 2 ∧ MBX Lh40 clh40 lnh40 ivh40 rvh40 (sk 24) ivh41 rvh41 (sk 6) from exf41) (show GLQ sk ln iv rv a1 Lh41 clh41 lnh41 ivh41 rvh41 (sk 24) gat0 from (gl98.mv (QT.of W40 sk38 xl41 fl41 rfl rfl rfl rfl rfl) (el24.fr W40 sk38 fl41 rfl rfl).1 (el24.fr W40 sk38 fl41 rfl rfl).2)) (show GLQ sk ln iv rv a1 Lh41 clh41 lnh41 ivh41 rvh41 (sk 25) gat1 from (gl99.mv (QT.of W40 sk38 xl41 fl41 rfl rfl rfl rfl rfl) (el25.fr W40 sk38 fl41 rfl rfl).1 (el25.fr W40 sk38 fl41 rfl rfl).2)) (xl41.ty ty379) (show ivh41 (sk 24) 2 = ivh40 (sk 24) 2 from fl41.i ty379 rfl 2) (fun ty387 gf41 gl100 gl101 ty388 ie136 => ?_)
            refine hv2 (show 0 ≤ ivh41 (sk 6) 2 ∧ ivh41 (sk 6) 2 ≤ 6003 from W41.int ty387 2) (show 0 ≤ ivh41 (sk 24) 2 ∧ ivh41 (sk 24) 2 ≤ 6003 from W41.int ty388 2) (fun ri100 ri101 => ?_)
            have gb28 := GBQ.mk gl98 gf41.2 (by omega) (by omega)
            refine c_aload_n (j := 0) (x := a0) C dX3_gather_92 rfl ?_
            refine hv2 (xl41.ty ty378) (show rvh40 a0 1 = rvh39 a0 1 from (fl40.r ty366 rfl 1)) (fun ty389 re78 => ?_)
            rw [re72] at re78
            have re79 : rvh41 a0 1 = rvh40 a0 1 := (fl41.r ty378 rfl 1)
            rw [re78] at re79
            refine c_getr (k := 1) C ck_4 dX3_gather_93 w1_193 (by decide) ty389 rfl rfl (by decide) rfl re79 ?_
            refine c_st (st2 := [.ref (sk 25)]) rfl ?_
            refine c_aload_n (j := 0) (x := a0) C dX3_gather_96 rfl ?_
            obtain ⟨rb24, rq24, trb24⟩ := W41.ref ty389 3 rfl rfl rfl
            have erb24 := W41.sk trb24 (by decide) rfl
            subst erb24
            refine c_getr (k := 3) C ck_4 dX3_gather_97 w1_197 (by decide) ty389 rfl rfl (by decide) rfl rq24 ?_
            refine c_st (st2 := [.ref (sk 7), .ref (sk 25)]) rfl ?_
            refine hv4 (xl41.ty ty376) (show ivh41 (sk 25) 2 = ivh40 (sk 25) 2 from fl41.i ty376 rfl 2) (xl41.ty ty381) (Phi.le W41 sk39) (fun ty390 ie137 ty391 pl50 => ?_)
            have ri102 : 0 ≤ ivh41 (sk 25) 2 ∧ ivh41 (sk 25) 2 ≤ 6003 := W41.int ty390 2
            refine d_callS (As := [.ref (sk 25), .ref (sk 7)]) (rest := []) C hM (G_markBegins_25 (a0 := (sk 25)) (a1 := (sk 7)) W41 sk39 ty390 ty391  ) dX3_gather_100 kS_X3_73 rfl rfl (Nat.le_of_ble_eq_true rfl) ⟨(Nat.le_of_ble_eq_true rfl), (Nat.le_of_ble_eq_true rfl)⟩ hph pl50 (show 0 + 0 = 0 from rfl) (by decide) (fun rh42 Lh42 clh42 lnh42 ivh42 rvh42 h42 => ?_)
            obtain ⟨rfl, xl42, fl42, W42, exf42⟩ := h42
            refine hv9 (F41.call X39 fl42 rfl) (xl41.ty ty377) (xl41.ty ty382) (xl41.ty ty383) (xl41.ty ty384) (xl41.ty ty385) (xl41.ty ty386) (X39.trans xl42) (xl42.skl sk39) (fun F42 ty392 ty393 ty394 ty395 ty396 ty397 X40 sk40 => ?_)
            refine c_st (st2 := []) rfl ?_
            refine hv8 (xl42.ty ty391) (show ivh42 (sk 7) 2 = ivh41 (sk 25) 2 ∧ MBX Lh41 clh41 lnh41 ivh41 rvh41 (sk 25) ivh42 rvh42 (sk 7) from exf42) (show GLQ sk ln iv rv a1 Lh42 clh42 lnh42 ivh42 rvh42 (sk 24) gat0 from (gl100.mv (QT.of W41 sk39 xl42 fl42 rfl rfl rfl rfl rfl) (el24.fr W41 sk39 fl42 rfl rfl).1 (el24.fr W41 sk39 fl42 rfl rfl).2)) (show GLQ sk ln iv rv a1 Lh42 clh42 lnh42 ivh42 rvh42 (sk 25) gat1 from (gl101.mv (QT.of W41 sk39 xl42 fl42 rfl rfl rfl rfl rfl) (el25.fr W41 sk39 fl42 rfl rfl).1 (el25.fr W41 sk39 fl42 rfl rfl).2)) (xl42.ty ty390) (show ivh42 (sk 25) 2 = ivh41 (sk 25) 2 from fl42.i ty390 rfl 2) (gb28.fr W41 ty388 ty387 fl42 rfl rfl rfl rfl rfl rfl) (Phi.le W42 sk40) (fun ty398 gf42 gl102 gl103 ty399 ie139 gb30 pl51 => ?_)
            refine hv2 (show 0 ≤ ivh42 (sk 7) 2 ∧ ivh42 (sk 7) 2 ≤ 6003 from W42.int ty398 2) (show 0 ≤ ivh42 (sk 25) 2 ∧ ivh42 (sk 25) 2 ≤ 6003 from W42.int ty399 2) (fun ri103 ri104 => ?_)
            have gb29 := GBQ.mk gl101 gf42.2 (by omega) (by omega)
            exact c_vret C dX3_gather_103 rfl (by decide) (rom0 hph pl51 (by decide)) ⟨rfl, X40, F42, W42, trivial, ⟨gl102, gl103⟩, ⟨gb30, gb29⟩⟩
          · have tnb11 : ty Lh39 clh39 nb11 20 := tnb11
            refine c_aaldR C dX3_gather_66 ty368 rfl (by omega) (by omega) (by omega) nq11 ?_
            refine c_st (st2 := [.ref nb11, .ref (sk 25)]) rfl ?_
            have pl52 := Phi.le W39 sk37
            refine d_callS (As := [.ref (sk 25), .ref nb11]) (rest := []) C hM (G_addInd_25 (a0 := (sk 25)) (r := (some nb11)) W39 sk37 ty365 (fun _ q => by cases q; exact tnb11)  (by show ivh39 (sk 25) 2 < 6003; omega)) dX3_gather_67 kS_X3_67 rfl rfl (Nat.le_of_ble_eq_true rfl) ⟨(Nat.le_of_ble_eq_true rfl), (Nat.le_of_ble_eq_true rfl)⟩ hph pl52 (show 0 + 0 = 0 from rfl) (by decide) (fun rh43 Lh43 clh43 lnh43 ivh43 rvh43 h43 => ?_)
            obtain ⟨rfl, xl43, fl43, W43, exf43, ladf43⟩ := h43
            refine hv10 (F39.call X37 fl43 rfl) (xl39.ty ty358) (xl39.ty ty359) (xl39.ty ty360) (xl39.ty ty361) (xl39.ty ty362) (xl39.ty ty354) (xl39.ty ty363) (X37.trans xl43) (xl43.skl sk37) (fun F43 ty400 ty401 ty402 ty403 ty404 ty405 ty406 X41 sk41 => ?_)
            refine c_st (st2 := []) rfl ?_
            refine hv4 (xl43.ty ty365) (show ivh39 (sk 25) 2 ≤ ivh43 (sk 25) 2 ∧ ivh43 (sk 25) 2 ≤ ivh39 (sk 25) 2 + 1 from exf43) (show GLQ sk ln iv rv a1 Lh43 clh43 lnh43 ivh43 rvh43 (sk 25) (fun a i => rws1 a (a 9 i.toNat) ++ indl a (4 * i + ((3 : Nat) : Int))) from (gl94.ind (j := 3) (QT.of hW hS X37 F39 rfl rfl rfl rfl rfl) (QT.of W39 sk37 xl43 fl43 rfl rfl rfl rfl rfl) ty368 re74 nq11 ladf43 (by decide))) (show GLQ sk ln iv rv a1 Lh43 clh43 lnh43 ivh43 rvh43 (sk 24) (fun a i => rws1 a (a 8 i.toNat) ++ indl a (4 * i + ((2 : Nat) : Int))) from (gl95.mv (QT.of W39 sk37 xl43 fl43 rfl rfl rfl rfl rfl) (el24.fr W39 sk37 fl43 rfl rfl).1 (el24.fr W39 sk37 fl43 rfl rfl).2)) (fun ty407 gf43 gl104 gl105 => ?_)
            have ri105 : 0 ≤ ivh43 (sk 25) 2 ∧ ivh43 (sk 25) 2 ≤ 6003 := W43.int ty407 2
            refine c_goto (tgt := 81) C dX3_gather_70 (by decide) ?_
            refine hv3 (xl43.ty ty367) (show ivh43 a1 0 = ivh39 a1 0 from fl43.i ty367 rfl 0) (show ivh39 a1 0 = ivh38 a1 0 from fl39.i ty356 rfl 0) (fun ty408 ie141 ie142 => ?_)
            have ri106 : (-2147483648) ≤ ivh43 a1 0 ∧ ivh43 a1 0 ≤ 2147483647 := W43.int ty408 0
            have gl106 : GLQ sk ln iv rv a1 Lh43 clh43 lnh43 ivh43 rvh43 (sk 24) gat0 := (gl105.g0 (by omega))
            have gl107 : GLQ sk ln iv rv a1 Lh43 clh43 lnh43 ivh43 rvh43 (sk 25) gat1 := (gl104.g1 (by omega))
            refine c_aload_n (j := 0) (x := a0) C dX3_gather_81 rfl ?_
            refine hv2 (xl43.ty ty366) (show rvh38 a0 0 = rvh37 a0 0 from (fl38.r ty345 rfl 0)) (fun ty409 re80 => ?_)
            rw [re68] at re80
            have re81 : rvh39 a0 0 = rvh38 a0 0 := (fl39.r ty355 rfl 0)
            rw [re80] at re81
            have re82 : rvh43 a0 0 = rvh39 a0 0 := (fl43.r ty366 rfl 0)
            rw [re81] at re82
            refine c_getr (k := 0) C ck_4 dX3_gather_82 w1_190 (by decide) ty409 rfl rfl (by decide) rfl re82 ?_
            refine c_st (st2 := [.ref (sk 24)]) rfl ?_
            refine c_aload_n (j := 0) (x := a0) C dX3_gather_85 rfl ?_
            obtain ⟨rb25, rq25, trb25⟩ := W43.ref ty409 2 rfl rfl rfl
            have erb25 := W43.sk trb25 (by decide) rfl
            subst erb25
            refine c_getr (k := 2) C ck_4 dX3_gather_86 w1_196 (by decide) ty409 rfl rfl (by decide) rfl rq25 ?_
            refine c_st (st2 := [.ref (sk 6), .ref (sk 24)]) rfl ?_
            refine hv5 (xl43.ty ty405) (show ivh43 (sk 24) 2 = ivh39 (sk 24) 2 from fl43.i ty405 rfl 2) (show ivh39 (sk 24) 2 = ivh38 (sk 24) 2 from fl39.i ty354 rfl 2) (xl43.ty ty400) (Phi.le W43 sk41) (fun ty410 ie143 ie144 ty411 pl53 => ?_)
            have ri107 : 0 ≤ ivh43 (sk 24) 2 ∧ ivh43 (sk 24) 2 ≤ 6003 := W43.int ty410 2
            refine d_callS (As := [.ref (sk 24), .ref (sk 6)]) (rest := []) C hM (G_markBegins_24 (a0 := (sk 24)) (a1 := (sk 6)) W43 sk41 ty410 ty411  ) dX3_gather_89 kS_X3_73 rfl rfl (Nat.le_of_ble_eq_true rfl) ⟨(Nat.le_of_ble_eq_true rfl), (Nat.le_of_ble_eq_true rfl)⟩ hph pl53 (show 0 + 0 = 0 from rfl) (by decide) (fun rh44 Lh44 clh44 lnh44 ivh44 rvh44 h44 => ?_)
            obtain ⟨rfl, xl44, fl44, W44, exf44⟩ := h44
            refine hv10 (F43.call X41 fl44 rfl) (xl43.ty ty401) (xl43.ty ty402) (xl43.ty ty403) (xl43.ty ty404) (xl43.ty ty406) (xl43.ty ty368) (xl43.ty tnb11) (X41.trans xl44) (xl44.skl sk41) (fun F44 ty412 ty413 ty414 ty415 ty416 ty417 ty418 X42 sk42 => ?_)
            refine c_st (st2 := []) rfl ?_
            refine hv6 (xl44.ty ty411) (show ivh44 (sk 6) 2 = ivh43 (sk 24) 2 ∧ MBX Lh43 clh43 lnh43 ivh43 rvh43 (sk 24) ivh44 rvh44 (sk 6) from exf44) (show GLQ sk ln iv rv a1 Lh44 clh44 lnh44 ivh44 rvh44 (sk 24) gat0 from (gl106.mv (QT.of W43 sk41 xl44 fl44 rfl rfl rfl rfl rfl) (el24.fr W43 sk41 fl44 rfl rfl).1 (el24.fr W43 sk41 fl44 rfl rfl).2)) (show GLQ sk ln iv rv a1 Lh44 clh44 lnh44 ivh44 rvh44 (sk 25) gat1 from (gl107.mv (QT.of W43 sk41 xl44 fl44 rfl rfl rfl rfl rfl) (el25.fr W43 sk41 fl44 rfl rfl).1 (el25.fr W43 sk41 fl44 rfl rfl).2)) (xl44.ty ty410) (show ivh44 (sk 24) 2 = ivh43 (sk 24) 2 from fl44.i ty410 rfl 2) (fun ty419 gf44 gl108 gl109 ty420 ie146 => ?_)
            refine hv2 (show 0 ≤ ivh44 (sk 6) 2 ∧ ivh44 (sk 6) 2 ≤ 6003 from W44.int ty419 2) (show 0 ≤ ivh44 (sk 24) 2 ∧ ivh44 (sk 24) 2 ≤ 6003 from W44.int ty420 2) (fun ri108 ri109 => ?_)
            have gb31 := GBQ.mk gl106 gf44.2 (by omega) (by omega)
            refine c_aload_n (j := 0) (x := a0) C dX3_gather_92 rfl ?_
            refine hv2 (xl44.ty ty409) (show rvh43 a0 1 = rvh39 a0 1 from (fl43.r ty366 rfl 1)) (fun ty421 re83 => ?_)
            rw [re72] at re83
            have re84 : rvh44 a0 1 = rvh43 a0 1 := (fl44.r ty409 rfl 1)
            rw [re83] at re84
            refine c_getr (k := 1) C ck_4 dX3_gather_93 w1_193 (by decide) ty421 rfl rfl (by decide) rfl re84 ?_
            refine c_st (st2 := [.ref (sk 25)]) rfl ?_
            refine c_aload_n (j := 0) (x := a0) C dX3_gather_96 rfl ?_
            obtain ⟨rb26, rq26, trb26⟩ := W44.ref ty421 3 rfl rfl rfl
            have erb26 := W44.sk trb26 (by decide) rfl
            subst erb26
            refine c_getr (k := 3) C ck_4 dX3_gather_97 w1_197 (by decide) ty421 rfl rfl (by decide) rfl rq26 ?_
            refine c_st (st2 := [.ref (sk 7), .ref (sk 25)]) rfl ?_
            refine hv4 (xl44.ty ty407) (show ivh44 (sk 25) 2 = ivh43 (sk 25) 2 from fl44.i ty407 rfl 2) (xl44.ty ty412) (Phi.le W44 sk42) (fun ty422 ie147 ty423 pl54 => ?_)
            have ri110 : 0 ≤ ivh44 (sk 25) 2 ∧ ivh44 (sk 25) 2 ≤ 6003 := W44.int ty422 2
            refine d_callS (As := [.ref (sk 25), .ref (sk 7)]) (rest := []) C hM (G_markBegins_25 (a0 := (sk 25)) (a1 := (sk 7)) W44 sk42 ty422 ty423  ) dX3_gather_100 kS_X3_73 rfl rfl (Nat.le_of_ble_eq_true rfl) ⟨(Nat.le_of_ble_eq_true rfl), (Nat.le_of_ble_eq_true rfl)⟩ hph pl54 (show 0 + 0 = 0 from rfl) (by decide) (fun rh45 Lh45 clh45 lnh45 ivh45 rvh45 h45 => ?_)
            obtain ⟨rfl, xl45, fl45, W45, exf45⟩ := h45
            refine hv10 (F44.call X42 fl45 rfl) (xl44.ty ty408) (xl44.ty ty413) (xl44.ty ty414) (xl44.ty ty415) (xl44.ty ty416) (xl44.ty ty417) (xl44.ty ty418) (X42.trans xl45) (xl45.skl sk42) (fun F45 ty424 ty425 ty426 ty427 ty428 ty429 ty430 X43 sk43 => ?_)
            refine c_st (st2 := []) rfl ?_
            refine hv8 (xl45.ty ty423) (show ivh45 (sk 7) 2 = ivh44 (sk 25) 2 ∧ MBX Lh44 clh44 lnh44 ivh44 rvh44 (sk 25) ivh45 rvh45 (sk 7) from exf45) (show GLQ sk ln iv rv a1 Lh45 clh45 lnh45 ivh45 rvh45 (sk 24) gat0 from (gl108.mv (QT.of W44 sk42 xl45 fl45 rfl rfl rfl rfl rfl) (el24.fr W44 sk42 fl45 rfl rfl).1 (el24.fr W44 sk42 fl45 rfl rfl).2)) (show GLQ sk ln iv rv a1 Lh45 clh45 lnh45 ivh45 rvh45 (sk 25) gat1 from (gl109.mv (QT.of W44 sk42 xl45 fl45 rfl rfl rfl rfl rfl) (el25.fr W44 sk42 fl45 rfl rfl).1 (el25.fr W44 sk42 fl45 rfl rfl).2)) (xl45.ty ty422) (show ivh45 (sk 25) 2 = ivh44 (sk 25) 2 from fl45.i ty422 rfl 2) (gb31.fr W44 ty420 ty419 fl45 rfl rfl rfl rfl rfl rfl) (Phi.le W45 sk43) (fun ty431 gf45 gl110 gl111 ty432 ie149 gb33 pl55 => ?_)
            refine hv2 (show 0 ≤ ivh45 (sk 7) 2 ∧ ivh45 (sk 7) 2 ≤ 6003 from W45.int ty431 2) (show 0 ≤ ivh45 (sk 25) 2 ∧ ivh45 (sk 25) 2 ≤ 6003 from W45.int ty432 2) (fun ri111 ri112 => ?_)
            have gb32 := GBQ.mk gl109 gf45.2 (by omega) (by omega)
            exact c_vret C dX3_gather_103 rfl (by decide) (rom0 hph pl55 (by decide)) ⟨rfl, X43, F45, W45, trivial, ⟨gl110, gl111⟩, ⟨gb33, gb32⟩⟩
        · have rknb10 := W38.rank ty356 (k := 3) (by decide) nq10
          refine c_getr (k := 3) C ck_10 dX3_gather_51 w2_184 (by decide) ty356 rfl rfl (by decide) rfl nq10 ?_
          refine c_st (st2 := [.ref nb10, .ref (sk 25)]) rfl ?_
          refine hv4 (xl38.ty ty352) (show ivh38 (sk 25) 2 = ivh37 (sk 25) 2 from fl38.i ty352 rfl 2) (show ivh37 (sk 25) 2 = ivh2 (sk 25) 2 from fl37.i tsk25 rfl 2) (Phi.le W38 sk36) (fun ty433 ie150 ie151 pl56 => ?_)
          have ri113 : 0 ≤ ivh38 (sk 25) 2 ∧ ivh38 (sk 25) 2 ≤ 6003 := W38.int ty433 2
          refine d_callS (As := [.ref (sk 25), .ref nb10]) (rest := []) C hM (G_gatherPart_25 (a0 := (sk 25)) (a1 := nb10) W38 sk36 ty433 tnb10  (by show ivh38 (sk 25) 2 = 0; omega)) dX3_gather_54 kS_X3_59 rfl rfl (Nat.le_of_ble_eq_true rfl) ⟨(Nat.le_of_ble_eq_true rfl), (Nat.le_of_ble_eq_true rfl)⟩ hph pl56 (show 0 + 0 = 0 from rfl) (by decide) (fun rh46 Lh46 clh46 lnh46 ivh46 rvh46 h46 => ?_)
          obtain ⟨rfl, xl46, fl46, W46, exf46, gpxf46⟩ := h46
          refine hv10 (F38.call X36 fl46 rfl) (xl38.ty ty347) (xl38.ty ty348) (xl38.ty ty349) (xl38.ty ty350) (xl38.ty ty351) (xl38.ty ty353) (xl38.ty trb22) (X36.trans xl46) (xl46.skl sk36) (fun F46 ty434 ty435 ty436 ty437 ty438 ty439 ty440 X44 sk44 => ?_)
          refine c_st (st2 := []) rfl ?_
          refine hv4 (xl46.ty ty433) (show ivh46 (sk 25) 2 ≤ 6002 from exf46) (show GLQ sk ln iv rv a1 Lh46 clh46 lnh46 ivh46 rvh46 (sk 25) (fun a i => rws1 a (a 9 i.toNat)) from (GLQ.sub3 gpxf46 (QT.of hW hS X36 F38 rfl rfl rfl rfl rfl) nq10)) (show GLQ sk ln iv rv a1 Lh46 clh46 lnh46 ivh46 rvh46 (sk 24) (fun a i => rws1 a (a 8 i.toNat) ++ indl a (4 * i + ((2 : Nat) : Int))) from (gl92.mv (QT.of W38 sk36 xl46 fl46 rfl rfl rfl rfl rfl) (el24.fr W38 sk36 fl46 rfl rfl).1 (el24.fr W38 sk36 fl46 rfl rfl).2)) (fun ty441 gf46 gl112 gl113 => ?_)
          have ri114 : 0 ≤ ivh46 (sk 25) 2 ∧ ivh46 (sk 25) 2 ≤ 6003 := W46.int ty441 2
          refine c_aload_n (j := 0) (x := a0) C dX3_gather_57 rfl ?_
          refine hv2 (xl46.ty ty355) (show rvh46 a0 1 = rvh38 a0 1 from (fl46.r ty355 rfl 1)) (fun ty442 re85 => ?_)
          rw [re71] at re85
          refine c_getr (k := 1) C ck_4 dX3_gather_58 w1_193 (by decide) ty442 rfl rfl (by decide) rfl re85 ?_
          refine c_st (st2 := [.ref (sk 25)]) rfl ?_
          refine c_aload_n (j := 1) (x := a1) C dX3_gather_61 rfl ?_
          refine hv2 (xl46.ty ty356) (show rvh38 a1 6 = rvh37 a1 6 from (fl38.r ty346 rfl 6)) (fun ty443 re86 => ?_)
          rw [rq22] at re86
          have re87 : rvh46 a1 6 = rvh38 a1 6 := (fl46.r ty356 rfl 6)
          rw [re86] at re87
          refine c_getr (k := 6) C ck_10 dX3_gather_62 w2_193 (by decide) ty443 rfl rfl (by decide) rfl re87 ?_
          refine c_st (st2 := [.ref rb22, .ref (sk 25)]) rfl ?_
          refine c_iconst C dX3_gather_65 ?_
          have ty444 := xl46.ty ty440
          have ll8 : 4 ≤ lnh46 rb22 ∧ lnh46 rb22 ≤ 4 := W46.len ty444 rfl
          rcases W46.opt ty444 ((3 : Int).toNat) rfl rfl with ⟨nq12, _⟩ | ⟨nb12, nq12, tnb12⟩
          · refine c_aaldR C dX3_gather_66 ty444 rfl (by omega) (by omega) (by omega) nq12 ?_
            refine c_st (st2 := [.null, .ref (sk 25)]) rfl ?_
            have pl57 := Phi.le W46 sk44
            refine d_callS (As := [.ref (sk 25), .null]) (rest := []) C hM (G_addInd_25 (a0 := (sk 25)) (r := none) W46 sk44 ty441 (fun _ q => by cases q)  (by show ivh46 (sk 25) 2 < 6003; omega)) dX3_gather_67 kS_X3_67 rfl rfl (Nat.le_of_ble_eq_true rfl) ⟨(Nat.le_of_ble_eq_true rfl), (Nat.le_of_ble_eq_true rfl)⟩ hph pl57 (show 0 + 0 = 0 from rfl) (by decide) (fun rh47 Lh47 clh47 lnh47 ivh47 rvh47 h47 => ?_)
            obtain ⟨rfl, xl47, fl47, W47, exf47, ladf47⟩ := h47
            refine hv11 (F46.call X44 fl47 rfl) (xl46.ty ty434) (xl46.ty ty435) (xl46.ty ty436) (xl46.ty ty437) (xl46.ty ty438) (xl46.ty ty354) (xl46.ty ty439) (xl46.ty tnb10) (X44.trans xl47) (xl47.skl sk44) (fun F47 ty445 ty446 ty447 ty448 ty449 ty450 ty451 ty452 X45 sk45 => ?_)
            refine c_st (st2 := []) rfl ?_
            refine hv4 (xl47.ty ty441) (show ivh46 (sk 25) 2 ≤ ivh47 (sk 25) 2 ∧ ivh47 (sk 25) 2 ≤ ivh46 (sk 25) 2 + 1 from exf47) (show GLQ sk ln iv rv a1 Lh47 clh47 lnh47 ivh47 rvh47 (sk 25) (fun a i => rws1 a (a 9 i.toNat) ++ indl a (4 * i + ((3 : Nat) : Int))) from (gl112.ind (j := 3) (QT.of hW hS X44 F46 rfl rfl rfl rfl rfl) (QT.of W46 sk44 xl47 fl47 rfl rfl rfl rfl rfl) ty444 re87 nq12 ladf47 (by decide))) (show GLQ sk ln iv rv a1 Lh47 clh47 lnh47 ivh47 rvh47 (sk 24) (fun a i => rws1 a (a 8 i.toNat) ++ indl a (4 * i + ((2 : Nat) : Int))) from (gl113.mv (QT.of W46 sk44 xl47 fl47 rfl rfl rfl rfl rfl) (el24.fr W46 sk44 fl47 rfl rfl).1 (el24.fr W46 sk44 fl47 rfl rfl).2)) (fun ty453 gf47 gl114 gl115 => ?_)
            have ri115 : 0 ≤ ivh47 (sk 25) 2 ∧ ivh47 (sk 25) 2 ≤ 6003 := W47.int ty453 2
            refine c_goto (tgt := 81) C dX3_gather_70 (by decide) ?_
            refine hv5 (xl47.ty ty443) (show ivh47 a1 0 = ivh46 a1 0 from fl47.i ty443 rfl 0) (show ivh46 a1 0 = ivh38 a1 0 from fl46.i ty356 rfl 0) (show ivh38 a1 0 = ivh37 a1 0 from fl38.i ty346 rfl 0) (show ivh37 a1 0 = ivh2 a1 0 from fl37.i t_a1 rfl 0) (fun ty454 ie154 ie155 ie156 ie157 => ?_)
            have ri116 : (-2147483648) ≤ ivh47 a1 0 ∧ ivh47 a1 0 ≤ 2147483647 := W47.int ty454 0
            have gl116 : GLQ sk ln iv rv a1 Lh47 clh47 lnh47 ivh47 rvh47 (sk 24) gat0 := (gl115.g0 (by omega))
            have gl117 : GLQ sk ln iv rv a1 Lh47 clh47 lnh47 ivh47 rvh47 (sk 25) gat1 := (gl114.g1 (by omega))
            refine c_aload_n (j := 0) (x := a0) C dX3_gather_81 rfl ?_
            refine hv2 (xl47.ty ty442) (show rvh38 a0 0 = rvh37 a0 0 from (fl38.r ty345 rfl 0)) (fun ty455 re88 => ?_)
            rw [re68] at re88
            have re89 : rvh46 a0 0 = rvh38 a0 0 := (fl46.r ty355 rfl 0)
            rw [re88] at re89
            have re90 : rvh47 a0 0 = rvh46 a0 0 := (fl47.r ty442 rfl 0)
            rw [re89] at re90
            refine c_getr (k := 0) C ck_4 dX3_gather_82 w1_190 (by decide) ty455 rfl rfl (by decide) rfl re90 ?_
            refine c_st (st2 := [.ref (sk 24)]) rfl ?_
            refine c_aload_n (j := 0) (x := a0) C dX3_gather_85 rfl ?_
            obtain ⟨rb27, rq27, trb27⟩ := W47.ref ty455 2 rfl rfl rfl
            have erb27 := W47.sk trb27 (by decide) rfl
            subst erb27
            refine c_getr (k := 2) C ck_4 dX3_gather_86 w1_196 (by decide) ty455 rfl rfl (by decide) rfl rq27 ?_
            refine c_st (st2 := [.ref (sk 6), .ref (sk 24)]) rfl ?_
            refine hv5 (xl47.ty ty450) (show ivh47 (sk 24) 2 = ivh46 (sk 24) 2 from fl47.i ty450 rfl 2) (show ivh46 (sk 24) 2 = ivh38 (sk 24) 2 from fl46.i ty354 rfl 2) (xl47.ty ty445) (Phi.le W47 sk45) (fun ty456 ie158 ie159 ty457 pl58 => ?_)
            have ri117 : 0 ≤ ivh47 (sk 24) 2 ∧ ivh47 (sk 24) 2 ≤ 6003 := W47.int ty456 2
            refine d_callS (As := [.ref (sk 24), .ref (sk 6)]) (rest := []) C hM (G_markBegins_24 (a0 := (sk 24)) (a1 := (sk 6)) W47 sk45 ty456 ty457  ) dX3_gather_89 kS_X3_73 rfl rfl (Nat.le_of_ble_eq_true rfl) ⟨(Nat.le_of_ble_eq_true rfl), (Nat.le_of_ble_eq_true rfl)⟩ hph pl58 (show 0 + 0 = 0 from rfl) (by decide) (fun rh48 Lh48 clh48 lnh48 ivh48 rvh48 h48 => ?_)
            obtain ⟨rfl, xl48, fl48, W48, exf48⟩ := h48
            refine hv10 (F47.call X45 fl48 rfl) (xl47.ty ty446) (xl47.ty ty447) (xl47.ty ty448) (xl47.ty ty449) (xl47.ty ty451) (xl47.ty ty444) (xl47.ty ty452) (X45.trans xl48) (xl48.skl sk45) (fun F48 ty458 ty459 ty460 ty461 ty462 ty463 ty464 X46 sk46 => ?_)
            refine c_st (st2 := []) rfl ?_
            refine hv6 (xl48.ty ty457) (show ivh48 (sk 6) 2 = ivh47 (sk 24) 2 ∧ MBX Lh47 clh47 lnh47 ivh47 rvh47 (sk 24) ivh48 rvh48 (sk 6) from exf48) (show GLQ sk ln iv rv a1 Lh48 clh48 lnh48 ivh48 rvh48 (sk 24) gat0 from (gl116.mv (QT.of W47 sk45 xl48 fl48 rfl rfl rfl rfl rfl) (el24.fr W47 sk45 fl48 rfl rfl).1 (el24.fr W47 sk45 fl48 rfl rfl).2)) (show GLQ sk ln iv rv a1 Lh48 clh48 lnh48 ivh48 rvh48 (sk 25) gat1 from (gl117.mv (QT.of W47 sk45 xl48 fl48 rfl rfl rfl rfl rfl) (el25.fr W47 sk45 fl48 rfl rfl).1 (el25.fr W47 sk45 fl48 rfl rfl).2)) (xl48.ty ty456) (show ivh48 (sk 24) 2 = ivh47 (sk 24) 2 from fl48.i ty456 rfl 2) (fun ty465 gf48 gl118 gl119 ty466 ie161 => ?_)
            refine hv2 (show 0 ≤ ivh48 (sk 6) 2 ∧ ivh48 (sk 6) 2 ≤ 6003 from W48.int ty465 2) (show 0 ≤ ivh48 (sk 24) 2 ∧ ivh48 (sk 24) 2 ≤ 6003 from W48.int ty466 2) (fun ri118 ri119 => ?_)
            have gb34 := GBQ.mk gl116 gf48.2 (by omega) (by omega)
            refine c_aload_n (j := 0) (x := a0) C dX3_gather_92 rfl ?_
            refine hv2 (xl48.ty ty455) (show rvh47 a0 1 = rvh46 a0 1 from (fl47.r ty442 rfl 1)) (fun ty467 re91 => ?_)
            rw [re85] at re91
            have re92 : rvh48 a0 1 = rvh47 a0 1 := (fl48.r ty455 rfl 1)
            rw [re91] at re92
            refine c_getr (k := 1) C ck_4 dX3_gather_93 w1_193 (by decide) ty467 rfl rfl (by decide) rfl re92 ?_
            refine c_st (st2 := [.ref (sk 25)]) rfl ?_
            refine c_aload_n (j := 0) (x := a0) C dX3_gather_96 rfl ?_
            obtain ⟨rb28, rq28, trb28⟩ := W48.ref ty467 3 rfl rfl rfl
            have erb28 := W48.sk trb28 (by decide) rfl
            subst erb28
            refine c_getr (k := 3) C ck_4 dX3_gather_97 w1_197 (by decide) ty467 rfl rfl (by decide) rfl rq28 ?_
            refine c_st (st2 := [.ref (sk 7), .ref (sk 25)]) rfl ?_
            refine hv4 (xl48.ty ty453) (show ivh48 (sk 25) 2 = ivh47 (sk 25) 2 from fl48.i ty453 rfl 2) (xl48.ty ty458) (Phi.le W48 sk46) (fun ty468 ie162 ty469 pl59 => ?_)
            have ri120 : 0 ≤ ivh48 (sk 25) 2 ∧ ivh48 (sk 25) 2 ≤ 6003 := W48.int ty468 2
            refine d_callS (As := [.ref (sk 25), .ref (sk 7)]) (rest := []) C hM (G_markBegins_25 (a0 := (sk 25)) (a1 := (sk 7)) W48 sk46 ty468 ty469  ) dX3_gather_100 kS_X3_73 rfl rfl (Nat.le_of_ble_eq_true rfl) ⟨(Nat.le_of_ble_eq_true rfl), (Nat.le_of_ble_eq_true rfl)⟩ hph pl59 (show 0 + 0 = 0 from rfl) (by decide) (fun rh49 Lh49 clh49 lnh49 ivh49 rvh49 h49 => ?_)
            obtain ⟨rfl, xl49, fl49, W49, exf49⟩ := h49
            refine hv10 (F48.call X46 fl49 rfl) (xl48.ty ty454) (xl48.ty ty459) (xl48.ty ty460) (xl48.ty ty461) (xl48.ty ty462) (xl48.ty ty463) (xl48.ty ty464) (X46.trans xl49) (xl49.skl sk46) (fun F49 ty470 ty471 ty472 ty473 ty474 ty475 ty476 X47 sk47 => ?_)
            refine c_st (st2 := []) rfl ?_
            refine hv8 (xl49.ty ty469) (show ivh49 (sk 7) 2 = ivh48 (sk 25) 2 ∧ MBX Lh48 clh48 lnh48 ivh48 rvh48 (sk 25) ivh49 rvh49 (sk 7) from exf49) (show GLQ sk ln iv rv a1 Lh49 clh49 lnh49 ivh49 rvh49 (sk 24) gat0 from (gl118.mv (QT.of W48 sk46 xl49 fl49 rfl rfl rfl rfl rfl) (el24.fr W48 sk46 fl49 rfl rfl).1 (el24.fr W48 sk46 fl49 rfl rfl).2)) (show GLQ sk ln iv rv a1 Lh49 clh49 lnh49 ivh49 rvh49 (sk 25) gat1 from (gl119.mv (QT.of W48 sk46 xl49 fl49 rfl rfl rfl rfl rfl) (el25.fr W48 sk46 fl49 rfl rfl).1 (el25.fr W48 sk46 fl49 rfl rfl).2)) (xl49.ty ty468) (show ivh49 (sk 25) 2 = ivh48 (sk 25) 2 from fl49.i ty468 rfl 2) (gb34.fr W48 ty466 ty465 fl49 rfl rfl rfl rfl rfl rfl) (Phi.le W49 sk47) (fun ty477 gf49 gl120 gl121 ty478 ie164 gb36 pl60 => ?_)
            refine hv2 (show 0 ≤ ivh49 (sk 7) 2 ∧ ivh49 (sk 7) 2 ≤ 6003 from W49.int ty477 2) (show 0 ≤ ivh49 (sk 25) 2 ∧ ivh49 (sk 25) 2 ≤ 6003 from W49.int ty478 2) (fun ri121 ri122 => ?_)
            have gb35 := GBQ.mk gl119 gf49.2 (by omega) (by omega)
            exact c_vret C dX3_gather_103 rfl (by decide) (rom0 hph pl60 (by decide)) ⟨rfl, X47, F49, W49, trivial, ⟨gl120, gl121⟩, ⟨gb36, gb35⟩⟩
          · have tnb12 : ty Lh46 clh46 nb12 20 := tnb12
            refine c_aaldR C dX3_gather_66 ty444 rfl (by omega) (by omega) (by omega) nq12 ?_
            refine c_st (st2 := [.ref nb12, .ref (sk 25)]) rfl ?_
            have pl61 := Phi.le W46 sk44
            refine d_callS (As := [.ref (sk 25), .ref nb12]) (rest := []) C hM (G_addInd_25 (a0 := (sk 25)) (r := (some nb12)) W46 sk44 ty441 (fun _ q => by cases q; exact tnb12)  (by show ivh46 (sk 25) 2 < 6003; omega)) dX3_gather_67 kS_X3_67 rfl rfl (Nat.le_of_ble_eq_true rfl) ⟨(Nat.le_of_ble_eq_true rfl), (Nat.le_of_ble_eq_true rfl)⟩ hph pl61 (show 0 + 0 = 0 from rfl) (by decide) (fun rh50 Lh50 clh50 lnh50 ivh50 rvh50 h50 => ?_)
            obtain ⟨rfl, xl50, fl50, W50, exf50, ladf50⟩ := h50
            refine hv11 (F46.call X44 fl50 rfl) (xl46.ty ty434) (xl46.ty ty435) (xl46.ty ty436) (xl46.ty ty437) (xl46.ty ty438) (xl46.ty ty354) (xl46.ty ty439) (xl46.ty tnb10) (X44.trans xl50) (xl50.skl sk44) (fun F50 ty479 ty480 ty481 ty482 ty483 ty484 ty485 ty486 X48 sk48 => ?_)
            refine c_st (st2 := []) rfl ?_
            refine hv4 (xl50.ty ty441) (show ivh46 (sk 25) 2 ≤ ivh50 (sk 25) 2 ∧ ivh50 (sk 25) 2 ≤ ivh46 (sk 25) 2 + 1 from exf50) (show GLQ sk ln iv rv a1 Lh50 clh50 lnh50 ivh50 rvh50 (sk 25) (fun a i => rws1 a (a 9 i.toNat) ++ indl a (4 * i + ((3 : Nat) : Int))) from (gl112.ind (j := 3) (QT.of hW hS X44 F46 rfl rfl rfl rfl rfl) (QT.of W46 sk44 xl50 fl50 rfl rfl rfl rfl rfl) ty444 re87 nq12 ladf50 (by decide))) (show GLQ sk ln iv rv a1 Lh50 clh50 lnh50 ivh50 rvh50 (sk 24) (fun a i => rws1 a (a 8 i.toNat) ++ indl a (4 * i + ((2 : Nat) : Int))) from (gl113.mv (QT.of W46 sk44 xl50 fl50 rfl rfl rfl rfl rfl) (el24.fr W46 sk44 fl50 rfl rfl).1 (el24.fr W46 sk44 fl50 rfl rfl).2)) (fun ty487 gf50 gl122 gl123 => ?_)
            have ri123 : 0 ≤ ivh50 (sk 25) 2 ∧ ivh50 (sk 25) 2 ≤ 6003 := W50.int ty487 2
            refine c_goto (tgt := 81) C dX3_gather_70 (by decide) ?_
            refine hv5 (xl50.ty ty443) (show ivh50 a1 0 = ivh46 a1 0 from fl50.i ty443 rfl 0) (show ivh46 a1 0 = ivh38 a1 0 from fl46.i ty356 rfl 0) (show ivh38 a1 0 = ivh37 a1 0 from fl38.i ty346 rfl 0) (show ivh37 a1 0 = ivh2 a1 0 from fl37.i t_a1 rfl 0) (fun ty488 ie166 ie167 ie168 ie169 => ?_)
            have ri124 : (-2147483648) ≤ ivh50 a1 0 ∧ ivh50 a1 0 ≤ 2147483647 := W50.int ty488 0
            have gl124 : GLQ sk ln iv rv a1 Lh50 clh50 lnh50 ivh50 rvh50 (sk 24) gat0 := (gl123.g0 (by omega))
            have gl125 : GLQ sk ln iv rv a1 Lh50 clh50 lnh50 ivh50 rvh50 (sk 25) gat1 := (gl122.g1 (by omega))
            refine c_aload_n (j := 0) (x := a0) C dX3_gather_81 rfl ?_
            refine hv2 (xl50.ty ty442) (show rvh38 a0 0 = rvh37 a0 0 from (fl38.r ty345 rfl 0)) (fun ty489 re93 => ?_)
            rw [re68] at re93
            have re94 : rvh46 a0 0 = rvh38 a0 0 := (fl46.r ty355 rfl 0)
            rw [re93] at re94
            have re95 : rvh50 a0 0 = rvh46 a0 0 := (fl50.r ty442 rfl 0)
            rw [re94] at re95
            refine c_getr (k := 0) C ck_4 dX3_gather_82 w1_190 (by decide) ty489 rfl rfl (by decide) rfl re95 ?_
            refine c_st (st2 := [.ref (sk 24)]) rfl ?_
            refine c_aload_n (j := 0) (x := a0) C dX3_gather_85 rfl ?_
            obtain ⟨rb29, rq29, trb29⟩ := W50.ref ty489 2 rfl rfl rfl
            have erb29 := W50.sk trb29 (by decide) rfl
            subst erb29
            refine c_getr (k := 2) C ck_4 dX3_gather_86 w1_196 (by decide) ty489 rfl rfl (by decide) rfl rq29 ?_
            refine c_st (st2 := [.ref (sk 6), .ref (sk 24)]) rfl ?_
            refine hv5 (xl50.ty ty484) (show ivh50 (sk 24) 2 = ivh46 (sk 24) 2 from fl50.i ty484 rfl 2) (show ivh46 (sk 24) 2 = ivh38 (sk 24) 2 from fl46.i ty354 rfl 2) (xl50.ty ty479) (Phi.le W50 sk48) (fun ty490 ie170 ie171 ty491 pl62 => ?_)
            have ri125 : 0 ≤ ivh50 (sk 24) 2 ∧ ivh50 (sk 24) 2 ≤ 6003 := W50.int ty490 2
            refine d_callS (As := [.ref (sk 24), .ref (sk 6)]) (rest := []) C hM (G_markBegins_24 (a0 := (sk 24)) (a1 := (sk 6)) W50 sk48 ty490 ty491  ) dX3_gather_89 kS_X3_73 rfl rfl (Nat.le_of_ble_eq_true rfl) ⟨(Nat.le_of_ble_eq_true rfl), (Nat.le_of_ble_eq_true rfl)⟩ hph pl62 (show 0 + 0 = 0 from rfl) (by decide) (fun rh51 Lh51 clh51 lnh51 ivh51 rvh51 h51 => ?_)
            obtain ⟨rfl, xl51, fl51, W51, exf51⟩ := h51
            refine hv11 (F50.call X48 fl51 rfl) (xl50.ty ty480) (xl50.ty ty481) (xl50.ty ty482) (xl50.ty ty483) (xl50.ty ty485) (xl50.ty ty444) (xl50.ty ty486) (xl50.ty tnb12) (X48.trans xl51) (xl51.skl sk48) (fun F51 ty492 ty493 ty494 ty495 ty496 ty497 ty498 ty499 X49 sk49 => ?_)
            refine c_st (st2 := []) rfl ?_
            refine hv6 (xl51.ty ty491) (show ivh51 (sk 6) 2 = ivh50 (sk 24) 2 ∧ MBX Lh50 clh50 lnh50 ivh50 rvh50 (sk 24) ivh51 rvh51 (sk 6) from exf51) (show GLQ sk ln iv rv a1 Lh51 clh51 lnh51 ivh51 rvh51 (sk 24) gat0 from (gl124.mv (QT.of W50 sk48 xl51 fl51 rfl rfl rfl rfl rfl) (el24.fr W50 sk48 fl51 rfl rfl).1 (el24.fr W50 sk48 fl51 rfl rfl).2)) (show GLQ sk ln iv rv a1 Lh51 clh51 lnh51 ivh51 rvh51 (sk 25) gat1 from (gl125.mv (QT.of W50 sk48 xl51 fl51 rfl rfl rfl rfl rfl) (el25.fr W50 sk48 fl51 rfl rfl).1 (el25.fr W50 sk48 fl51 rfl rfl).2)) (xl51.ty ty490) (show ivh51 (sk 24) 2 = ivh50 (sk 24) 2 from fl51.i ty490 rfl 2) (fun ty500 gf51 gl126 gl127 ty501 ie173 => ?_)
            refine hv2 (show 0 ≤ ivh51 (sk 6) 2 ∧ ivh51 (sk 6) 2 ≤ 6003 from W51.int ty500 2) (show 0 ≤ ivh51 (sk 24) 2 ∧ ivh51 (sk 24) 2 ≤ 6003 from W51.int ty501 2) (fun ri126 ri127 => ?_)
            have gb37 := GBQ.mk gl124 gf51.2 (by omega) (by omega)
            refine c_aload_n (j := 0) (x := a0) C dX3_gather_92 rfl ?_
            refine hv2 (xl51.ty ty489) (show rvh50 a0 1 = rvh46 a0 1 from (fl50.r ty442 rfl 1)) (fun ty502 re96 => ?_)
            rw [re85] at re96
            have re97 : rvh51 a0 1 = rvh50 a0 1 := (fl51.r ty489 rfl 1)
            rw [re96] at re97
            refine c_getr (k := 1) C ck_4 dX3_gather_93 w1_193 (by decide) ty502 rfl rfl (by decide) rfl re97 ?_
            refine c_st (st2 := [.ref (sk 25)]) rfl ?_
            refine c_aload_n (j := 0) (x := a0) C dX3_gather_96 rfl ?_
            obtain ⟨rb30, rq30, trb30⟩ := W51.ref ty502 3 rfl rfl rfl
            have erb30 := W51.sk trb30 (by decide) rfl
            subst erb30
            refine c_getr (k := 3) C ck_4 dX3_gather_97 w1_197 (by decide) ty502 rfl rfl (by decide) rfl rq30 ?_
            refine c_st (st2 := [.ref (sk 7), .ref (sk 25)]) rfl ?_
            refine hv4 (xl51.ty ty487) (show ivh51 (sk 25) 2 = ivh50 (sk 25) 2 from fl51.i ty487 rfl 2) (xl51.ty ty492) (Phi.le W51 sk49) (fun ty503 ie174 ty504 pl63 => ?_)
            have ri128 : 0 ≤ ivh51 (sk 25) 2 ∧ ivh51 (sk 25) 2 ≤ 6003 := W51.int ty503 2
            refine d_callS (As := [.ref (sk 25), .ref (sk 7)]) (rest := []) C hM (G_markBegins_25 (a0 := (sk 25)) (a1 := (sk 7)) W51 sk49 ty503 ty504  ) dX3_gather_100 kS_X3_73 rfl rfl (Nat.le_of_ble_eq_true rfl) ⟨(Nat.le_of_ble_eq_true rfl), (Nat.le_of_ble_eq_true rfl)⟩ hph pl63 (show 0 + 0 = 0 from rfl) (by decide) (fun rh52 Lh52 clh52 lnh52 ivh52 rvh52 h52 => ?_)
            obtain ⟨rfl, xl52, fl52, W52, exf52⟩ := h52
            refine hv11 (F51.call X49 fl52 rfl) (xl51.ty ty488) (xl51.ty ty493) (xl51.ty ty494) (xl51.ty ty495) (xl51.ty ty496) (xl51.ty ty497) (xl51.ty ty498) (xl51.ty ty499) (X49.trans xl52) (xl52.skl sk49) (fun F52 ty505 ty506 ty507 ty508 ty509 ty510 ty511 ty512 X50 sk50 => ?_)
            refine c_st (st2 := []) rfl ?_
            refine hv8 (xl52.ty ty504) (show ivh52 (sk 7) 2 = ivh51 (sk 25) 2 ∧ MBX Lh51 clh51 lnh51 ivh51 rvh51 (sk 25) ivh52 rvh52 (sk 7) from exf52) (show GLQ sk ln iv rv a1 Lh52 clh52 lnh52 ivh52 rvh52 (sk 24) gat0 from (gl126.mv (QT.of W51 sk49 xl52 fl52 rfl rfl rfl rfl rfl) (el24.fr W51 sk49 fl52 rfl rfl).1 (el24.fr W51 sk49 fl52 rfl rfl).2)) (show GLQ sk ln iv rv a1 Lh52 clh52 lnh52 ivh52 rvh52 (sk 25) gat1 from (gl127.mv (QT.of W51 sk49 xl52 fl52 rfl rfl rfl rfl rfl) (el25.fr W51 sk49 fl52 rfl rfl).1 (el25.fr W51 sk49 fl52 rfl rfl).2)) (xl52.ty ty503) (show ivh52 (sk 25) 2 = ivh51 (sk 25) 2 from fl52.i ty503 rfl 2) (gb37.fr W51 ty501 ty500 fl52 rfl rfl rfl rfl rfl rfl) (Phi.le W52 sk50) (fun ty513 gf52 gl128 gl129 ty514 ie176 gb39 pl64 => ?_)
            refine hv2 (show 0 ≤ ivh52 (sk 7) 2 ∧ ivh52 (sk 7) 2 ≤ 6003 from W52.int ty513 2) (show 0 ≤ ivh52 (sk 25) 2 ∧ ivh52 (sk 25) 2 ≤ 6003 from W52.int ty514 2) (fun ri129 ri130 => ?_)
            have gb38 := GBQ.mk gl127 gf52.2 (by omega) (by omega)
            exact c_vret C dX3_gather_103 rfl (by decide) (rom0 hph pl64 (by decide)) ⟨rfl, X50, F52, W52, trivial, ⟨gl128, gl129⟩, ⟨gb39, gb38⟩⟩
      · have tnb9 : ty Lh37 clh37 nb9 20 := tnb9
        refine c_aaldR C dX3_gather_42 trb22 rfl (by omega) (by omega) (by omega) nq9 ?_
        refine c_st (st2 := [.ref nb9, .ref (sk 24)]) rfl ?_
        have pl65 := Phi.le W37 sk35
        refine d_callS (As := [.ref (sk 24), .ref nb9]) (rest := []) C hM (G_addInd_24 (a0 := (sk 24)) (r := (some nb9)) W37 sk35 ty344 (fun _ q => by cases q; exact tnb9)  (by show ivh37 (sk 24) 2 < 6003; omega)) dX3_gather_43 kS_X3_67 rfl rfl (Nat.le_of_ble_eq_true rfl) ⟨(Nat.le_of_ble_eq_true rfl), (Nat.le_of_ble_eq_true rfl)⟩ hph pl65 (show 0 + 0 = 0 from rfl) (by decide) (fun rh53 Lh53 clh53 lnh53 ivh53 rvh53 h53 => ?_)
        obtain ⟨rfl, xl53, fl53, W53, exf53, ladf53⟩ := h53
        refine hv10 (F37.call X35 fl53 rfl) (xl37.ty tsk6) (xl37.ty tsk7) (xl37.ty tsk8) (xl37.ty tsk9) (xl37.ty tsk10) (xl37.ty tsk25) (xl37.ty tnb1) (X35.trans xl53) (xl53.skl sk35) (fun F53 ty515 ty516 ty517 ty518 ty519 ty520 ty521 X51 sk51 => ?_)
        refine c_st (st2 := []) rfl ?_
        refine hv4 (xl53.ty ty344) (show ivh37 (sk 24) 2 ≤ ivh53 (sk 24) 2 ∧ ivh53 (sk 24) 2 ≤ ivh37 (sk 24) 2 + 1 from exf53) (show GLQ sk ln iv rv a1 Lh53 clh53 lnh53 ivh53 rvh53 (sk 24) (fun a i => rws1 a (a 8 i.toNat) ++ indl a (4 * i + ((2 : Nat) : Int))) from (gl90.ind (j := 2) (QT.of hW hS X35 F37 rfl rfl rfl rfl rfl) (QT.of W37 sk35 xl53 fl53 rfl rfl rfl rfl rfl) trb22 rq22 nq9 ladf53 (by decide))) (show GLQ sk ln iv rv a1 Lh53 clh53 lnh53 ivh53 rvh53 (sk 25) (fun _ _ => []) from (gl91.mv (QT.of W37 sk35 xl53 fl53 rfl rfl rfl rfl rfl) (el25.fr W37 sk35 fl53 rfl rfl).1 (el25.fr W37 sk35 fl53 rfl rfl).2)) (fun ty522 gf53 gl130 gl131 => ?_)
        have ri131 : 0 ≤ ivh53 (sk 24) 2 ∧ ivh53 (sk 24) 2 ≤ 6003 := W53.int ty522 2
        refine c_aload_n (j := 0) (x := a0) C dX3_gather_46 rfl ?_
        refine hv2 (xl53.ty ty345) (show rvh2 a0 1 = rvh1 a0 1 from (fl2.r t_a0 rfl 1)) (fun ty523 re98 => ?_)
        rw [rq2] at re98
        have re99 : rvh37 a0 1 = rvh2 a0 1 := (fl37.r t_a0 rfl 1)
        rw [re98] at re99
        have re100 : rvh53 a0 1 = rvh37 a0 1 := (fl53.r ty345 rfl 1)
        rw [re99] at re100
        refine c_getr (k := 1) C ck_4 dX3_gather_47 w1_193 (by decide) ty523 rfl rfl (by decide) rfl re100 ?_
        refine c_st (st2 := [.ref (sk 25)]) rfl ?_
        refine c_aload_n (j := 1) (x := a1) C dX3_gather_50 rfl ?_
        have ty524 := xl53.ty ty346
        rcases W53.opt ty524 3 rfl rfl with ⟨nq13, _⟩ | ⟨nb13, nq13, tnb13⟩
        · refine c_getr (k := 3) C ck_10 dX3_gather_51 w2_184 (by decide) ty524 rfl rfl (by decide) rfl nq13 ?_
          refine c_st (st2 := [.null, .ref (sk 25)]) rfl ?_
          refine hv7 (show (-2147483648) ≤ ivh53 a1 0 ∧ ivh53 a1 0 ≤ 2147483647 from W53.int ty524 0) (show ivh53 a1 0 = ivh37 a1 0 from fl53.i ty346 rfl 0) (show ivh37 a1 0 = ivh2 a1 0 from fl37.i t_a1 rfl 0) (xl53.ty ty520) (show ivh53 (sk 25) 2 = ivh37 (sk 25) 2 from fl53.i ty520 rfl 2) (show ivh37 (sk 25) 2 = ivh2 (sk 25) 2 from fl37.i tsk25 rfl 2) (Phi.le W53 sk51) (fun ri132 ie178 ie179 ty525 ie180 ie181 pl66 => ?_)
          have ri133 : 0 ≤ ivh53 (sk 25) 2 ∧ ivh53 (sk 25) 2 ≤ 6003 := W53.int ty525 2
          refine d_callS (As := [.ref (sk 25), .null]) (rest := []) C hM (C_gatherPart_25 (a0 := (sk 25)) (r := none) W53 sk51 ty525 (fun _ q => by cases q)  (by show ivh53 (sk 25) 2 = 0; omega)) dX3_gather_54 kS_X3_59 rfl rfl (Nat.le_of_ble_eq_true rfl) ⟨(Nat.le_of_ble_eq_true rfl), (Nat.le_of_ble_eq_true rfl)⟩ hph pl66 (show 0 + 0 = 0 from rfl) (by decide) (fun rh54 Lh54 clh54 lnh54 ivh54 rvh54 h54 => ?_)
          obtain ⟨rfl, xl54, fl54, W54, exf54⟩ := h54
          refine hv11 (F53.call X51 fl54 rfl) (xl53.ty ty515) (xl53.ty ty516) (xl53.ty ty517) (xl53.ty ty518) (xl53.ty ty519) (xl53.ty ty521) (xl53.ty trb22) (xl53.ty tnb9) (X51.trans xl54) (xl54.skl sk51) (fun F54 ty526 ty527 ty528 ty529 ty530 ty531 ty532 ty533 X52 sk52 => ?_)
          refine c_st (st2 := []) rfl ?_
          refine hv3 (xl54.ty ty525) (show ivh54 (sk 25) 2 ≤ 6002 from exf54) (show GLQ sk ln iv rv a1 Lh54 clh54 lnh54 ivh54 rvh54 (sk 24) (fun a i => rws1 a (a 8 i.toNat) ++ indl a (4 * i + ((2 : Nat) : Int))) from (gl130.mv (QT.of W53 sk51 xl54 fl54 rfl rfl rfl rfl rfl) (el24.fr W53 sk51 fl54 rfl rfl).1 (el24.fr W53 sk51 fl54 rfl rfl).2)) (fun ty534 gf54 gl133 => ?_)
          have ri134 : 0 ≤ ivh54 (sk 25) 2 ∧ ivh54 (sk 25) 2 ≤ 6003 := W54.int ty534 2
          have gl132 : GLQ sk ln iv rv a1 Lh54 clh54 lnh54 ivh54 rvh54 (sk 25) (fun a i => rws1 a (a 9 i.toNat)) := (GLQ.no3 (QT.of hW hS X51 F53 rfl rfl rfl rfl rfl) (by omega) nq13)
          refine c_aload_n (j := 0) (x := a0) C dX3_gather_57 rfl ?_
          refine hv2 (xl54.ty ty523) (show rvh54 a0 1 = rvh53 a0 1 from (fl54.r ty523 rfl 1)) (fun ty535 re101 => ?_)
          rw [re100] at re101
          refine c_getr (k := 1) C ck_4 dX3_gather_58 w1_193 (by decide) ty535 rfl rfl (by decide) rfl re101 ?_
          refine c_st (st2 := [.ref (sk 25)]) rfl ?_
          refine c_aload_n (j := 1) (x := a1) C dX3_gather_61 rfl ?_
          refine hv2 (xl54.ty ty524) (show rvh53 a1 6 = rvh37 a1 6 from (fl53.r ty346 rfl 6)) (fun ty536 re102 => ?_)
          rw [rq22] at re102
          have re103 : rvh54 a1 6 = rvh53 a1 6 := (fl54.r ty524 rfl 6)
          rw [re102] at re103
          refine c_getr (k := 6) C ck_10 dX3_gather_62 w2_193 (by decide) ty536 rfl rfl (by decide) rfl re103 ?_
          refine c_st (st2 := [.ref rb22, .ref (sk 25)]) rfl ?_
          refine c_iconst C dX3_gather_65 ?_
          have ty537 := xl54.ty ty532
          have ll9 : 4 ≤ lnh54 rb22 ∧ lnh54 rb22 ≤ 4 := W54.len ty537 rfl
          rcases W54.opt ty537 ((3 : Int).toNat) rfl rfl with ⟨nq14, _⟩ | ⟨nb14, nq14, tnb14⟩
          · refine c_aaldR C dX3_gather_66 ty537 rfl (by omega) (by omega) (by omega) nq14 ?_
            refine c_st (st2 := [.null, .ref (sk 25)]) rfl ?_
            have pl67 := Phi.le W54 sk52
            refine d_callS (As := [.ref (sk 25), .null]) (rest := []) C hM (G_addInd_25 (a0 := (sk 25)) (r := none) W54 sk52 ty534 (fun _ q => by cases q)  (by show ivh54 (sk 25) 2 < 6003; omega)) dX3_gather_67 kS_X3_67 rfl rfl (Nat.le_of_ble_eq_true rfl) ⟨(Nat.le_of_ble_eq_true rfl), (Nat.le_of_ble_eq_true rfl)⟩ hph pl67 (show 0 + 0 = 0 from rfl) (by decide) (fun rh55 Lh55 clh55 lnh55 ivh55 rvh55 h55 => ?_)
            obtain ⟨rfl, xl55, fl55, W55, exf55, ladf55⟩ := h55
            refine hv11 (F54.call X52 fl55 rfl) (xl54.ty ty526) (xl54.ty ty527) (xl54.ty ty528) (xl54.ty ty529) (xl54.ty ty530) (xl54.ty ty522) (xl54.ty ty531) (xl54.ty ty533) (X52.trans xl55) (xl55.skl sk52) (fun F55 ty538 ty539 ty540 ty541 ty542 ty543 ty544 ty545 X53 sk53 => ?_)
            refine c_st (st2 := []) rfl ?_
            refine hv4 (xl55.ty ty534) (show ivh54 (sk 25) 2 ≤ ivh55 (sk 25) 2 ∧ ivh55 (sk 25) 2 ≤ ivh54 (sk 25) 2 + 1 from exf55) (show GLQ sk ln iv rv a1 Lh55 clh55 lnh55 ivh55 rvh55 (sk 25) (fun a i => rws1 a (a 9 i.toNat) ++ indl a (4 * i + ((3 : Nat) : Int))) from (gl132.ind (j := 3) (QT.of hW hS X52 F54 rfl rfl rfl rfl rfl) (QT.of W54 sk52 xl55 fl55 rfl rfl rfl rfl rfl) ty537 re103 nq14 ladf55 (by decide))) (show GLQ sk ln iv rv a1 Lh55 clh55 lnh55 ivh55 rvh55 (sk 24) (fun a i => rws1 a (a 8 i.toNat) ++ indl a (4 * i + ((2 : Nat) : Int))) from (gl133.mv (QT.of W54 sk52 xl55 fl55 rfl rfl rfl rfl rfl) (el24.fr W54 sk52 fl55 rfl rfl).1 (el24.fr W54 sk52 fl55 rfl rfl).2)) (fun ty546 gf55 gl134 gl135 => ?_)
            have ri135 : 0 ≤ ivh55 (sk 25) 2 ∧ ivh55 (sk 25) 2 ≤ 6003 := W55.int ty546 2
            refine c_goto (tgt := 81) C dX3_gather_70 (by decide) ?_
            refine hv3 (xl55.ty ty536) (show ivh55 a1 0 = ivh54 a1 0 from fl55.i ty536 rfl 0) (show ivh54 a1 0 = ivh53 a1 0 from fl54.i ty524 rfl 0) (fun ty547 ie184 ie185 => ?_)
            have ri136 : (-2147483648) ≤ ivh55 a1 0 ∧ ivh55 a1 0 ≤ 2147483647 := W55.int ty547 0
            have gl136 : GLQ sk ln iv rv a1 Lh55 clh55 lnh55 ivh55 rvh55 (sk 24) gat0 := (gl135.g0 (by omega))
            have gl137 : GLQ sk ln iv rv a1 Lh55 clh55 lnh55 ivh55 rvh55 (sk 25) gat1 := (gl134.g1 (by omega))
            refine c_aload_n (j := 0) (x := a0) C dX3_gather_81 rfl ?_
            refine hv2 (xl55.ty ty535) (show rvh53 a0 0 = rvh37 a0 0 from (fl53.r ty345 rfl 0)) (fun ty548 re104 => ?_)
            rw [re68] at re104
            have re105 : rvh54 a0 0 = rvh53 a0 0 := (fl54.r ty523 rfl 0)
            rw [re104] at re105
            have re106 : rvh55 a0 0 = rvh54 a0 0 := (fl55.r ty535 rfl 0)
            rw [re105] at re106
            refine c_getr (k := 0) C ck_4 dX3_gather_82 w1_190 (by decide) ty548 rfl rfl (by decide) rfl re106 ?_
            refine c_st (st2 := [.ref (sk 24)]) rfl ?_
            refine c_aload_n (j := 0) (x := a0) C dX3_gather_85 rfl ?_
            obtain ⟨rb31, rq31, trb31⟩ := W55.ref ty548 2 rfl rfl rfl
            have erb31 := W55.sk trb31 (by decide) rfl
            subst erb31
            refine c_getr (k := 2) C ck_4 dX3_gather_86 w1_196 (by decide) ty548 rfl rfl (by decide) rfl rq31 ?_
            refine c_st (st2 := [.ref (sk 6), .ref (sk 24)]) rfl ?_
            refine hv5 (xl55.ty ty543) (show ivh55 (sk 24) 2 = ivh54 (sk 24) 2 from fl55.i ty543 rfl 2) (show ivh54 (sk 24) 2 = ivh53 (sk 24) 2 from fl54.i ty522 rfl 2) (xl55.ty ty538) (Phi.le W55 sk53) (fun ty549 ie186 ie187 ty550 pl68 => ?_)
            have ri137 : 0 ≤ ivh55 (sk 24) 2 ∧ ivh55 (sk 24) 2 ≤ 6003 := W55.int ty549 2
            refine d_callS (As := [.ref (sk 24), .ref (sk 6)]) (rest := []) C hM (G_markBegins_24 (a0 := (sk 24)) (a1 := (sk 6)) W55 sk53 ty549 ty550  ) dX3_gather_89 kS_X3_73 rfl rfl (Nat.le_of_ble_eq_true rfl) ⟨(Nat.le_of_ble_eq_true rfl), (Nat.le_of_ble_eq_true rfl)⟩ hph pl68 (show 0 + 0 = 0 from rfl) (by decide) (fun rh56 Lh56 clh56 lnh56 ivh56 rvh56 h56 => ?_)
            obtain ⟨rfl, xl56, fl56, W56, exf56⟩ := h56
            refine hv10 (F55.call X53 fl56 rfl) (xl55.ty ty539) (xl55.ty ty540) (xl55.ty ty541) (xl55.ty ty542) (xl55.ty ty544) (xl55.ty ty537) (xl55.ty ty545) (X53.trans xl56) (xl56.skl sk53) (fun F56 ty551 ty552 ty553 ty554 ty555 ty556 ty557 X54 sk54 => ?_)
            refine c_st (st2 := []) rfl ?_
            refine hv6 (xl56.ty ty550) (show ivh56 (sk 6) 2 = ivh55 (sk 24) 2 ∧ MBX Lh55 clh55 lnh55 ivh55 rvh55 (sk 24) ivh56 rvh56 (sk 6) from exf56) (show GLQ sk ln iv rv a1 Lh56 clh56 lnh56 ivh56 rvh56 (sk 24) gat0 from (gl136.mv (QT.of W55 sk53 xl56 fl56 rfl rfl rfl rfl rfl) (el24.fr W55 sk53 fl56 rfl rfl).1 (el24.fr W55 sk53 fl56 rfl rfl).2)) (show GLQ sk ln iv rv a1 Lh56 clh56 lnh56 ivh56 rvh56 (sk 25) gat1 from (gl137.mv (QT.of W55 sk53 xl56 fl56 rfl rfl rfl rfl rfl) (el25.fr W55 sk53 fl56 rfl rfl).1 (el25.fr W55 sk53 fl56 rfl rfl).2)) (xl56.ty ty549) (show ivh56 (sk 24) 2 = ivh55 (sk 24) 2 from fl56.i ty549 rfl 2) (fun ty558 gf56 gl138 gl139 ty559 ie189 => ?_)
            refine hv2 (show 0 ≤ ivh56 (sk 6) 2 ∧ ivh56 (sk 6) 2 ≤ 6003 from W56.int ty558 2) (show 0 ≤ ivh56 (sk 24) 2 ∧ ivh56 (sk 24) 2 ≤ 6003 from W56.int ty559 2) (fun ri138 ri139 => ?_)
            have gb40 := GBQ.mk gl136 gf56.2 (by omega) (by omega)
            refine c_aload_n (j := 0) (x := a0) C dX3_gather_92 rfl ?_
            refine hv2 (xl56.ty ty548) (show rvh55 a0 1 = rvh54 a0 1 from (fl55.r ty535 rfl 1)) (fun ty560 re107 => ?_)
            rw [re101] at re107
            have re108 : rvh56 a0 1 = rvh55 a0 1 := (fl56.r ty548 rfl 1)
            rw [re107] at re108
            refine c_getr (k := 1) C ck_4 dX3_gather_93 w1_193 (by decide) ty560 rfl rfl (by decide) rfl re108 ?_
            refine c_st (st2 := [.ref (sk 25)]) rfl ?_
            refine c_aload_n (j := 0) (x := a0) C dX3_gather_96 rfl ?_
            obtain ⟨rb32, rq32, trb32⟩ := W56.ref ty560 3 rfl rfl rfl
            have erb32 := W56.sk trb32 (by decide) rfl
            subst erb32
            refine c_getr (k := 3) C ck_4 dX3_gather_97 w1_197 (by decide) ty560 rfl rfl (by decide) rfl rq32 ?_
            refine c_st (st2 := [.ref (sk 7), .ref (sk 25)]) rfl ?_
            refine hv4 (xl56.ty ty546) (show ivh56 (sk 25) 2 = ivh55 (sk 25) 2 from fl56.i ty546 rfl 2) (xl56.ty ty551) (Phi.le W56 sk54) (fun ty561 ie190 ty562 pl69 => ?_)
            have ri140 : 0 ≤ ivh56 (sk 25) 2 ∧ ivh56 (sk 25) 2 ≤ 6003 := W56.int ty561 2
            refine d_callS (As := [.ref (sk 25), .ref (sk 7)]) (rest := []) C hM (G_markBegins_25 (a0 := (sk 25)) (a1 := (sk 7)) W56 sk54 ty561 ty562  ) dX3_gather_100 kS_X3_73 rfl rfl (Nat.le_of_ble_eq_true rfl) ⟨(Nat.le_of_ble_eq_true rfl), (Nat.le_of_ble_eq_true rfl)⟩ hph pl69 (show 0 + 0 = 0 from rfl) (by decide) (fun rh57 Lh57 clh57 lnh57 ivh57 rvh57 h57 => ?_)
            obtain ⟨rfl, xl57, fl57, W57, exf57⟩ := h57
            refine hv10 (F56.call X54 fl57 rfl) (xl56.ty ty547) (xl56.ty ty552) (xl56.ty ty553) (xl56.ty ty554) (xl56.ty ty555) (xl56.ty ty556) (xl56.ty ty557) (X54.trans xl57) (xl57.skl sk54) (fun F57 ty563 ty564 ty565 ty566 ty567 ty568 ty569 X55 sk55 => ?_)
            refine c_st (st2 := []) rfl ?_
            refine hv8 (xl57.ty ty562) (show ivh57 (sk 7) 2 = ivh56 (sk 25) 2 ∧ MBX Lh56 clh56 lnh56 ivh56 rvh56 (sk 25) ivh57 rvh57 (sk 7) from exf57) (show GLQ sk ln iv rv a1 Lh57 clh57 lnh57 ivh57 rvh57 (sk 24) gat0 from (gl138.mv (QT.of W56 sk54 xl57 fl57 rfl rfl rfl rfl rfl) (el24.fr W56 sk54 fl57 rfl rfl).1 (el24.fr W56 sk54 fl57 rfl rfl).2)) (show GLQ sk ln iv rv a1 Lh57 clh57 lnh57 ivh57 rvh57 (sk 25) gat1 from (gl139.mv (QT.of W56 sk54 xl57 fl57 rfl rfl rfl rfl rfl) (el25.fr W56 sk54 fl57 rfl rfl).1 (el25.fr W56 sk54 fl57 rfl rfl).2)) (xl57.ty ty561) (show ivh57 (sk 25) 2 = ivh56 (sk 25) 2 from fl57.i ty561 rfl 2) (gb40.fr W56 ty559 ty558 fl57 rfl rfl rfl rfl rfl rfl) (Phi.le W57 sk55) (fun ty570 gf57 gl140 gl141 ty571 ie192 gb42 pl70 => ?_)
            refine hv2 (show 0 ≤ ivh57 (sk 7) 2 ∧ ivh57 (sk 7) 2 ≤ 6003 from W57.int ty570 2) (show 0 ≤ ivh57 (sk 25) 2 ∧ ivh57 (sk 25) 2 ≤ 6003 from W57.int ty571 2) (fun ri141 ri142 => ?_)
            have gb41 := GBQ.mk gl139 gf57.2 (by omega) (by omega)
            exact c_vret C dX3_gather_103 rfl (by decide) (rom0 hph pl70 (by decide)) ⟨rfl, X55, F57, W57, trivial, ⟨gl140, gl141⟩, ⟨gb42, gb41⟩⟩
          · have tnb14 : ty Lh54 clh54 nb14 20 := tnb14
            refine c_aaldR C dX3_gather_66 ty537 rfl (by omega) (by omega) (by omega) nq14 ?_
            refine c_st (st2 := [.ref nb14, .ref (sk 25)]) rfl ?_
            have pl71 := Phi.le W54 sk52
            refine d_callS (As := [.ref (sk 25), .ref nb14]) (rest := []) C hM (G_addInd_25 (a0 := (sk 25)) (r := (some nb14)) W54 sk52 ty534 (fun _ q => by cases q; exact tnb14)  (by show ivh54 (sk 25) 2 < 6003; omega)) dX3_gather_67 kS_X3_67 rfl rfl (Nat.le_of_ble_eq_true rfl) ⟨(Nat.le_of_ble_eq_true rfl), (Nat.le_of_ble_eq_true rfl)⟩ hph pl71 (show 0 + 0 = 0 from rfl) (by decide) (fun rh58 Lh58 clh58 lnh58 ivh58 rvh58 h58 => ?_)
            obtain ⟨rfl, xl58, fl58, W58, exf58, ladf58⟩ := h58
            refine hv11 (F54.call X52 fl58 rfl) (xl54.ty ty526) (xl54.ty ty527) (xl54.ty ty528) (xl54.ty ty529) (xl54.ty ty530) (xl54.ty ty522) (xl54.ty ty531) (xl54.ty ty533) (X52.trans xl58) (xl58.skl sk52) (fun F58 ty572 ty573 ty574 ty575 ty576 ty577 ty578 ty579 X56 sk56 => ?_)
            refine c_st (st2 := []) rfl ?_
            refine hv4 (xl58.ty ty534) (show ivh54 (sk 25) 2 ≤ ivh58 (sk 25) 2 ∧ ivh58 (sk 25) 2 ≤ ivh54 (sk 25) 2 + 1 from exf58) (show GLQ sk ln iv rv a1 Lh58 clh58 lnh58 ivh58 rvh58 (sk 25) (fun a i => rws1 a (a 9 i.toNat) ++ indl a (4 * i + ((3 : Nat) : Int))) from (gl132.ind (j := 3) (QT.of hW hS X52 F54 rfl rfl rfl rfl rfl) (QT.of W54 sk52 xl58 fl58 rfl rfl rfl rfl rfl) ty537 re103 nq14 ladf58 (by decide))) (show GLQ sk ln iv rv a1 Lh58 clh58 lnh58 ivh58 rvh58 (sk 24) (fun a i => rws1 a (a 8 i.toNat) ++ indl a (4 * i + ((2 : Nat) : Int))) from (gl133.mv (QT.of W54 sk52 xl58 fl58 rfl rfl rfl rfl rfl) (el24.fr W54 sk52 fl58 rfl rfl).1 (el24.fr W54 sk52 fl58 rfl rfl).2)) (fun ty580 gf58 gl142 gl143 => ?_)
            have ri143 : 0 ≤ ivh58 (sk 25) 2 ∧ ivh58 (sk 25) 2 ≤ 6003 := W58.int ty580 2
            refine c_goto (tgt := 81) C dX3_gather_70 (by decide) ?_
            refine hv3 (xl58.ty ty536) (show ivh58 a1 0 = ivh54 a1 0 from fl58.i ty536 rfl 0) (show ivh54 a1 0 = ivh53 a1 0 from fl54.i ty524 rfl 0) (fun ty581 ie194 ie195 => ?_)
            have ri144 : (-2147483648) ≤ ivh58 a1 0 ∧ ivh58 a1 0 ≤ 2147483647 := W58.int ty581 0
            have gl144 : GLQ sk ln iv rv a1 Lh58 clh58 lnh58 ivh58 rvh58 (sk 24) gat0 := (gl143.g0 (by omega))
            have gl145 : GLQ sk ln iv rv a1 Lh58 clh58 lnh58 ivh58 rvh58 (sk 25) gat1 := (gl142.g1 (by omega))
            refine c_aload_n (j := 0) (x := a0) C dX3_gather_81 rfl ?_
            refine hv2 (xl58.ty ty535) (show rvh53 a0 0 = rvh37 a0 0 from (fl53.r ty345 rfl 0)) (fun ty582 re109 => ?_)
            rw [re68] at re109
            have re110 : rvh54 a0 0 = rvh53 a0 0 := (fl54.r ty523 rfl 0)
            rw [re109] at re110
            have re111 : rvh58 a0 0 = rvh54 a0 0 := (fl58.r ty535 rfl 0)
            rw [re110] at re111
            refine c_getr (k := 0) C ck_4 dX3_gather_82 w1_190 (by decide) ty582 rfl rfl (by decide) rfl re111 ?_
            refine c_st (st2 := [.ref (sk 24)]) rfl ?_
            refine c_aload_n (j := 0) (x := a0) C dX3_gather_85 rfl ?_
            obtain ⟨rb33, rq33, trb33⟩ := W58.ref ty582 2 rfl rfl rfl
            have erb33 := W58.sk trb33 (by decide) rfl
            subst erb33
            refine c_getr (k := 2) C ck_4 dX3_gather_86 w1_196 (by decide) ty582 rfl rfl (by decide) rfl rq33 ?_
            refine c_st (st2 := [.ref (sk 6), .ref (sk 24)]) rfl ?_
            refine hv5 (xl58.ty ty577) (show ivh58 (sk 24) 2 = ivh54 (sk 24) 2 from fl58.i ty577 rfl 2) (show ivh54 (sk 24) 2 = ivh53 (sk 24) 2 from fl54.i ty522 rfl 2) (xl58.ty ty572) (Phi.le W58 sk56) (fun ty583 ie196 ie197 ty584 pl72 => ?_)
            have ri145 : 0 ≤ ivh58 (sk 24) 2 ∧ ivh58 (sk 24) 2 ≤ 6003 := W58.int ty583 2
            refine d_callS (As := [.ref (sk 24), .ref (sk 6)]) (rest := []) C hM (G_markBegins_24 (a0 := (sk 24)) (a1 := (sk 6)) W58 sk56 ty583 ty584  ) dX3_gather_89 kS_X3_73 rfl rfl (Nat.le_of_ble_eq_true rfl) ⟨(Nat.le_of_ble_eq_true rfl), (Nat.le_of_ble_eq_true rfl)⟩ hph pl72 (show 0 + 0 = 0 from rfl) (by decide) (fun rh59 Lh59 clh59 lnh59 ivh59 rvh59 h59 => ?_)
            obtain ⟨rfl, xl59, fl59, W59, exf59⟩ := h59
            refine hv11 (F58.call X56 fl59 rfl) (xl58.ty ty573) (xl58.ty ty574) (xl58.ty ty575) (xl58.ty ty576) (xl58.ty ty578) (xl58.ty ty537) (xl58.ty ty579) (xl58.ty tnb14) (X56.trans xl59) (xl59.skl sk56) (fun F59 ty585 ty586 ty587 ty588 ty589 ty590 ty591 ty592 X57 sk57 => ?_)
            refine c_st (st2 := []) rfl ?_
            refine hv6 (xl59.ty ty584) (show ivh59 (sk 6) 2 = ivh58 (sk 24) 2 ∧ MBX Lh58 clh58 lnh58 ivh58 rvh58 (sk 24) ivh59 rvh59 (sk 6) from exf59) (show GLQ sk ln iv rv a1 Lh59 clh59 lnh59 ivh59 rvh59 (sk 24) gat0 from (gl144.mv (QT.of W58 sk56 xl59 fl59 rfl rfl rfl rfl rfl) (el24.fr W58 sk56 fl59 rfl rfl).1 (el24.fr W58 sk56 fl59 rfl rfl).2)) (show GLQ sk ln iv rv a1 Lh59 clh59 lnh59 ivh59 rvh59 (sk 25) gat1 from (gl145.mv (QT.of W58 sk56 xl59 fl59 rfl rfl rfl rfl rfl) (el25.fr W58 sk56 fl59 rfl rfl).1 (el25.fr W58 sk56 fl59 rfl rfl).2)) (xl59.ty ty583) (show ivh59 (sk 24) 2 = ivh58 (sk 24) 2 from fl59.i ty583 rfl 2) (fun ty593 gf59 gl146 gl147 ty594 ie199 => ?_)
            refine hv2 (show 0 ≤ ivh59 (sk 6) 2 ∧ ivh59 (sk 6) 2 ≤ 6003 from W59.int ty593 2) (show 0 ≤ ivh59 (sk 24) 2 ∧ ivh59 (sk 24) 2 ≤ 6003 from W59.int ty594 2) (fun ri146 ri147 => ?_)
            have gb43 := GBQ.mk gl144 gf59.2 (by omega) (by omega)
            refine c_aload_n (j := 0) (x := a0) C dX3_gather_92 rfl ?_
            refine hv2 (xl59.ty ty582) (show rvh58 a0 1 = rvh54 a0 1 from (fl58.r ty535 rfl 1)) (fun ty595 re112 => ?_)
            rw [re101] at re112
            have re113 : rvh59 a0 1 = rvh58 a0 1 := (fl59.r ty582 rfl 1)
            rw [re112] at re113
            refine c_getr (k := 1) C ck_4 dX3_gather_93 w1_193 (by decide) ty595 rfl rfl (by decide) rfl re113 ?_
            refine c_st (st2 := [.ref (sk 25)]) rfl ?_
            refine c_aload_n (j := 0) (x := a0) C dX3_gather_96 rfl ?_
            obtain ⟨rb34, rq34, trb34⟩ := W59.ref ty595 3 rfl rfl rfl
            have erb34 := W59.sk trb34 (by decide) rfl
            subst erb34
            refine c_getr (k := 3) C ck_4 dX3_gather_97 w1_197 (by decide) ty595 rfl rfl (by decide) rfl rq34 ?_
            refine c_st (st2 := [.ref (sk 7), .ref (sk 25)]) rfl ?_
            refine hv4 (xl59.ty ty580) (show ivh59 (sk 25) 2 = ivh58 (sk 25) 2 from fl59.i ty580 rfl 2) (xl59.ty ty585) (Phi.le W59 sk57) (fun ty596 ie200 ty597 pl73 => ?_)
            have ri148 : 0 ≤ ivh59 (sk 25) 2 ∧ ivh59 (sk 25) 2 ≤ 6003 := W59.int ty596 2
            refine d_callS (As := [.ref (sk 25), .ref (sk 7)]) (rest := []) C hM (G_markBegins_25 (a0 := (sk 25)) (a1 := (sk 7)) W59 sk57 ty596 ty597  ) dX3_gather_100 kS_X3_73 rfl rfl (Nat.le_of_ble_eq_true rfl) ⟨(Nat.le_of_ble_eq_true rfl), (Nat.le_of_ble_eq_true rfl)⟩ hph pl73 (show 0 + 0 = 0 from rfl) (by decide) (fun rh60 Lh60 clh60 lnh60 ivh60 rvh60 h60 => ?_)
            obtain ⟨rfl, xl60, fl60, W60, exf60⟩ := h60
            refine hv11 (F59.call X57 fl60 rfl) (xl59.ty ty581) (xl59.ty ty586) (xl59.ty ty587) (xl59.ty ty588) (xl59.ty ty589) (xl59.ty ty590) (xl59.ty ty591) (xl59.ty ty592) (X57.trans xl60) (xl60.skl sk57) (fun F60 ty598 ty599 ty600 ty601 ty602 ty603 ty604 ty605 X58 sk58 => ?_)
            refine c_st (st2 := []) rfl ?_
            refine hv8 (xl60.ty ty597) (show ivh60 (sk 7) 2 = ivh59 (sk 25) 2 ∧ MBX Lh59 clh59 lnh59 ivh59 rvh59 (sk 25) ivh60 rvh60 (sk 7) from exf60) (show GLQ sk ln iv rv a1 Lh60 clh60 lnh60 ivh60 rvh60 (sk 24) gat0 from (gl146.mv (QT.of W59 sk57 xl60 fl60 rfl rfl rfl rfl rfl) (el24.fr W59 sk57 fl60 rfl rfl).1 (el24.fr W59 sk57 fl60 rfl rfl).2)) (show GLQ sk ln iv rv a1 Lh60 clh60 lnh60 ivh60 rvh60 (sk 25) gat1 from (gl147.mv (QT.of W59 sk57 xl60 fl60 rfl rfl rfl rfl rfl) (el25.fr W59 sk57 fl60 rfl rfl).1 (el25.fr W59 sk57 fl60 rfl rfl).2)) (xl60.ty ty596) (show ivh60 (sk 25) 2 = ivh59 (sk 25) 2 from fl60.i ty596 rfl 2) (gb43.fr W59 ty594 ty593 fl60 rfl rfl rfl rfl rfl rfl) (Phi.le W60 sk58) (fun ty606 gf60 gl148 gl149 ty607 ie202 gb45 pl74 => ?_)
            refine hv2 (show 0 ≤ ivh60 (sk 7) 2 ∧ ivh60 (sk 7) 2 ≤ 6003 from W60.int ty606 2) (show 0 ≤ ivh60 (sk 25) 2 ∧ ivh60 (sk 25) 2 ≤ 6003 from W60.int ty607 2) (fun ri149 ri150 => ?_)
            have gb44 := GBQ.mk gl147 gf60.2 (by omega) (by omega)
            exact c_vret C dX3_gather_103 rfl (by decide) (rom0 hph pl74 (by decide)) ⟨rfl, X58, F60, W60, trivial, ⟨gl148, gl149⟩, ⟨gb45, gb44⟩⟩
        · have rknb13 := W53.rank ty524 (k := 3) (by decide) nq13
          refine c_getr (k := 3) C ck_10 dX3_gather_51 w2_184 (by decide) ty524 rfl rfl (by decide) rfl nq13 ?_
          refine c_st (st2 := [.ref nb13, .ref (sk 25)]) rfl ?_
          refine hv4 (xl53.ty ty520) (show ivh53 (sk 25) 2 = ivh37 (sk 25) 2 from fl53.i ty520 rfl 2) (show ivh37 (sk 25) 2 = ivh2 (sk 25) 2 from fl37.i tsk25 rfl 2) (Phi.le W53 sk51) (fun ty608 ie203 ie204 pl75 => ?_)
          have ri151 : 0 ≤ ivh53 (sk 25) 2 ∧ ivh53 (sk 25) 2 ≤ 6003 := W53.int ty608 2
          refine d_callS (As := [.ref (sk 25), .ref nb13]) (rest := []) C hM (G_gatherPart_25 (a0 := (sk 25)) (a1 := nb13) W53 sk51 ty608 tnb13  (by show ivh53 (sk 25) 2 = 0; omega)) dX3_gather_54 kS_X3_59 rfl rfl (Nat.le_of_ble_eq_true rfl) ⟨(Nat.le_of_ble_eq_true rfl), (Nat.le_of_ble_eq_true rfl)⟩ hph pl75 (show 0 + 0 = 0 from rfl) (by decide) (fun rh61 Lh61 clh61 lnh61 ivh61 rvh61 h61 => ?_)
          obtain ⟨rfl, xl61, fl61, W61, exf61, gpxf61⟩ := h61
          refine hv11 (F53.call X51 fl61 rfl) (xl53.ty ty515) (xl53.ty ty516) (xl53.ty ty517) (xl53.ty ty518) (xl53.ty ty519) (xl53.ty ty521) (xl53.ty trb22) (xl53.ty tnb9) (X51.trans xl61) (xl61.skl sk51) (fun F61 ty609 ty610 ty611 ty612 ty613 ty614 ty615 ty616 X59 sk59 => ?_)
          refine c_st (st2 := []) rfl ?_
          refine hv4 (xl61.ty ty608) (show ivh61 (sk 25) 2 ≤ 6002 from exf61) (show GLQ sk ln iv rv a1 Lh61 clh61 lnh61 ivh61 rvh61 (sk 25) (fun a i => rws1 a (a 9 i.toNat)) from (GLQ.sub3 gpxf61 (QT.of hW hS X51 F53 rfl rfl rfl rfl rfl) nq13)) (show GLQ sk ln iv rv a1 Lh61 clh61 lnh61 ivh61 rvh61 (sk 24) (fun a i => rws1 a (a 8 i.toNat) ++ indl a (4 * i + ((2 : Nat) : Int))) from (gl130.mv (QT.of W53 sk51 xl61 fl61 rfl rfl rfl rfl rfl) (el24.fr W53 sk51 fl61 rfl rfl).1 (el24.fr W53 sk51 fl61 rfl rfl).2)) (fun ty617 gf61 gl150 gl151 => ?_)
          have ri152 : 0 ≤ ivh61 (sk 25) 2 ∧ ivh61 (sk 25) 2 ≤ 6003 := W61.int ty617 2
          refine c_aload_n (j := 0) (x := a0) C dX3_gather_57 rfl ?_
          refine hv2 (xl61.ty ty523) (show rvh61 a0 1 = rvh53 a0 1 from (fl61.r ty523 rfl 1)) (fun ty618 re114 => ?_)
          rw [re100] at re114
          refine c_getr (k := 1) C ck_4 dX3_gather_58 w1_193 (by decide) ty618 rfl rfl (by decide) rfl re114 ?_
          refine c_st (st2 := [.ref (sk 25)]) rfl ?_
          refine c_aload_n (j := 1) (x := a1) C dX3_gather_61 rfl ?_
          refine hv2 (xl61.ty ty524) (show rvh53 a1 6 = rvh37 a1 6 from (fl53.r ty346 rfl 6)) (fun ty619 re115 => ?_)
          rw [rq22] at re115
          have re116 : rvh61 a1 6 = rvh53 a1 6 := (fl61.r ty524 rfl 6)
          rw [re115] at re116
          refine c_getr (k := 6) C ck_10 dX3_gather_62 w2_193 (by decide) ty619 rfl rfl (by decide) rfl re116 ?_
          refine c_st (st2 := [.ref rb22, .ref (sk 25)]) rfl ?_
          refine c_iconst C dX3_gather_65 ?_
          have ty620 := xl61.ty ty615
          have ll10 : 4 ≤ lnh61 rb22 ∧ lnh61 rb22 ≤ 4 := W61.len ty620 rfl
          rcases W61.opt ty620 ((3 : Int).toNat) rfl rfl with ⟨nq15, _⟩ | ⟨nb15, nq15, tnb15⟩
          · refine c_aaldR C dX3_gather_66 ty620 rfl (by omega) (by omega) (by omega) nq15 ?_
            refine c_st (st2 := [.null, .ref (sk 25)]) rfl ?_
            have pl76 := Phi.le W61 sk59
            refine d_callS (As := [.ref (sk 25), .null]) (rest := []) C hM (G_addInd_25 (a0 := (sk 25)) (r := none) W61 sk59 ty617 (fun _ q => by cases q)  (by show ivh61 (sk 25) 2 < 6003; omega)) dX3_gather_67 kS_X3_67 rfl rfl (Nat.le_of_ble_eq_true rfl) ⟨(Nat.le_of_ble_eq_true rfl), (Nat.le_of_ble_eq_true rfl)⟩ hph pl76 (show 0 + 0 = 0 from rfl) (by decide) (fun rh62 Lh62 clh62 lnh62 ivh62 rvh62 h62 => ?_)
            obtain ⟨rfl, xl62, fl62, W62, exf62, ladf62⟩ := h62
            refine hv12 (F61.call X59 fl62 rfl) (xl61.ty ty609) (xl61.ty ty610) (xl61.ty ty611) (xl61.ty ty612) (xl61.ty ty613) (xl61.ty ty522) (xl61.ty ty614) (xl61.ty ty616) (xl61.ty tnb13) (X59.trans xl62) (xl62.skl sk59) (fun F62 ty621 ty622 ty623 ty624 ty625 ty626 ty627 ty628 ty629 X60 sk60 => ?_)
            refine c_st (st2 := []) rfl ?_
            refine hv4 (xl62.ty ty617) (show ivh61 (sk 25) 2 ≤ ivh62 (sk 25) 2 ∧ ivh62 (sk 25) 2 ≤ ivh61 (sk 25) 2 + 1 from exf62) (show GLQ sk ln iv rv a1 Lh62 clh62 lnh62 ivh62 rvh62 (sk 25) (fun a i => rws1 a (a 9 i.toNat) ++ indl a (4 * i + ((3 : Nat) : Int))) from (gl150.ind (j := 3) (QT.of hW hS X59 F61 rfl rfl rfl rfl rfl) (QT.of W61 sk59 xl62 fl62 rfl rfl rfl rfl rfl) ty620 re116 nq15 ladf62 (by decide))) (show GLQ sk ln iv rv a1 Lh62 clh62 lnh62 ivh62 rvh62 (sk 24) (fun a i => rws1 a (a 8 i.toNat) ++ indl a (4 * i + ((2 : Nat) : Int))) from (gl151.mv (QT.of W61 sk59 xl62 fl62 rfl rfl rfl rfl rfl) (el24.fr W61 sk59 fl62 rfl rfl).1 (el24.fr W61 sk59 fl62 rfl rfl).2)) (fun ty630 gf62 gl152 gl153 => ?_)
            have ri153 : 0 ≤ ivh62 (sk 25) 2 ∧ ivh62 (sk 25) 2 ≤ 6003 := W62.int ty630 2
            refine c_goto (tgt := 81) C dX3_gather_70 (by decide) ?_
            refine hv5 (xl62.ty ty619) (show ivh62 a1 0 = ivh61 a1 0 from fl62.i ty619 rfl 0) (show ivh61 a1 0 = ivh53 a1 0 from fl61.i ty524 rfl 0) (show ivh53 a1 0 = ivh37 a1 0 from fl53.i ty346 rfl 0) (show ivh37 a1 0 = ivh2 a1 0 from fl37.i t_a1 rfl 0) (fun ty631 ie207 ie208 ie209 ie210 => ?_)
            have ri154 : (-2147483648) ≤ ivh62 a1 0 ∧ ivh62 a1 0 ≤ 2147483647 := W62.int ty631 0
            have gl154 : GLQ sk ln iv rv a1 Lh62 clh62 lnh62 ivh62 rvh62 (sk 24) gat0 := (gl153.g0 (by omega))
            have gl155 : GLQ sk ln iv rv a1 Lh62 clh62 lnh62 ivh62 rvh62 (sk 25) gat1 := (gl152.g1 (by omega))
            refine c_aload_n (j := 0) (x := a0) C dX3_gather_81 rfl ?_
            refine hv2 (xl62.ty ty618) (show rvh53 a0 0 = rvh37 a0 0 from (fl53.r ty345 rfl 0)) (fun ty632 re117 => ?_)
            rw [re68] at re117
            have re118 : rvh61 a0 0 = rvh53 a0 0 := (fl61.r ty523 rfl 0)
            rw [re117] at re118
            have re119 : rvh62 a0 0 = rvh61 a0 0 := (fl62.r ty618 rfl 0)
            rw [re118] at re119
            refine c_getr (k := 0) C ck_4 dX3_gather_82 w1_190 (by decide) ty632 rfl rfl (by decide) rfl re119 ?_
            refine c_st (st2 := [.ref (sk 24)]) rfl ?_
            refine c_aload_n (j := 0) (x := a0) C dX3_gather_85 rfl ?_
            obtain ⟨rb35, rq35, trb35⟩ := W62.ref ty632 2 rfl rfl rfl
            have erb35 := W62.sk trb35 (by decide) rfl
            subst erb35
            refine c_getr (k := 2) C ck_4 dX3_gather_86 w1_196 (by decide) ty632 rfl rfl (by decide) rfl rq35 ?_
            refine c_st (st2 := [.ref (sk 6), .ref (sk 24)]) rfl ?_
            refine hv5 (xl62.ty ty626) (show ivh62 (sk 24) 2 = ivh61 (sk 24) 2 from fl62.i ty626 rfl 2) (show ivh61 (sk 24) 2 = ivh53 (sk 24) 2 from fl61.i ty522 rfl 2) (xl62.ty ty621) (Phi.le W62 sk60) (fun ty633 ie211 ie212 ty634 pl77 => ?_)
            have ri155 : 0 ≤ ivh62 (sk 24) 2 ∧ ivh62 (sk 24) 2 ≤ 6003 := W62.int ty633 2
            refine d_callS (As := [.ref (sk 24), .ref (sk 6)]) (rest := []) C hM (G_markBegins_24 (a0 := (sk 24)) (a1 := (sk 6)) W62 sk60 ty633 ty634  ) dX3_gather_89 kS_X3_73 rfl rfl (Nat.le_of_ble_eq_true rfl) ⟨(Nat.le_of_ble_eq_true rfl), (Nat.le_of_ble_eq_true rfl)⟩ hph pl77 (show 0 + 0 = 0 from rfl) (by decide) (fun rh63 Lh63 clh63 lnh63 ivh63 rvh63 h63 => ?_)
            obtain ⟨rfl, xl63, fl63, W63, exf63⟩ := h63
            refine hv11 (F62.call X60 fl63 rfl) (xl62.ty ty622) (xl62.ty ty623) (xl62.ty ty624) (xl62.ty ty625) (xl62.ty ty627) (xl62.ty ty620) (xl62.ty ty628) (xl62.ty ty629) (X60.trans xl63) (xl63.skl sk60) (fun F63 ty635 ty636 ty637 ty638 ty639 ty640 ty641 ty642 X61 sk61 => ?_)
            refine c_st (st2 := []) rfl ?_
            refine hv6 (xl63.ty ty634) (show ivh63 (sk 6) 2 = ivh62 (sk 24) 2 ∧ MBX Lh62 clh62 lnh62 ivh62 rvh62 (sk 24) ivh63 rvh63 (sk 6) from exf63) (show GLQ sk ln iv rv a1 Lh63 clh63 lnh63 ivh63 rvh63 (sk 24) gat0 from (gl154.mv (QT.of W62 sk60 xl63 fl63 rfl rfl rfl rfl rfl) (el24.fr W62 sk60 fl63 rfl rfl).1 (el24.fr W62 sk60 fl63 rfl rfl).2)) (show GLQ sk ln iv rv a1 Lh63 clh63 lnh63 ivh63 rvh63 (sk 25) gat1 from (gl155.mv (QT.of W62 sk60 xl63 fl63 rfl rfl rfl rfl rfl) (el25.fr W62 sk60 fl63 rfl rfl).1 (el25.fr W62 sk60 fl63 rfl rfl).2)) (xl63.ty ty633) (show ivh63 (sk 24) 2 = ivh62 (sk 24) 2 from fl63.i ty633 rfl 2) (fun ty643 gf63 gl156 gl157 ty644 ie214 => ?_)
            refine hv2 (show 0 ≤ ivh63 (sk 6) 2 ∧ ivh63 (sk 6) 2 ≤ 6003 from W63.int ty643 2) (show 0 ≤ ivh63 (sk 24) 2 ∧ ivh63 (sk 24) 2 ≤ 6003 from W63.int ty644 2) (fun ri156 ri157 => ?_)
            have gb46 := GBQ.mk gl154 gf63.2 (by omega) (by omega)
            refine c_aload_n (j := 0) (x := a0) C dX3_gather_92 rfl ?_
            refine hv2 (xl63.ty ty632) (show rvh62 a0 1 = rvh61 a0 1 from (fl62.r ty618 rfl 1)) (fun ty645 re120 => ?_)
            rw [re114] at re120
            have re121 : rvh63 a0 1 = rvh62 a0 1 := (fl63.r ty632 rfl 1)
            rw [re120] at re121
            refine c_getr (k := 1) C ck_4 dX3_gather_93 w1_193 (by decide) ty645 rfl rfl (by decide) rfl re121 ?_
            refine c_st (st2 := [.ref (sk 25)]) rfl ?_
            refine c_aload_n (j := 0) (x := a0) C dX3_gather_96 rfl ?_
            obtain ⟨rb36, rq36, trb36⟩ := W63.ref ty645 3 rfl rfl rfl
            have erb36 := W63.sk trb36 (by decide) rfl
            subst erb36
            refine c_getr (k := 3) C ck_4 dX3_gather_97 w1_197 (by decide) ty645 rfl rfl (by decide) rfl rq36 ?_
            refine c_st (st2 := [.ref (sk 7), .ref (sk 25)]) rfl ?_
            refine hv4 (xl63.ty ty630) (show ivh63 (sk 25) 2 = ivh62 (sk 25) 2 from fl63.i ty630 rfl 2) (xl63.ty ty635) (Phi.le W63 sk61) (fun ty646 ie215 ty647 pl78 => ?_)
            have ri158 : 0 ≤ ivh63 (sk 25) 2 ∧ ivh63 (sk 25) 2 ≤ 6003 := W63.int ty646 2
            refine d_callS (As := [.ref (sk 25), .ref (sk 7)]) (rest := []) C hM (G_markBegins_25 (a0 := (sk 25)) (a1 := (sk 7)) W63 sk61 ty646 ty647  ) dX3_gather_100 kS_X3_73 rfl rfl (Nat.le_of_ble_eq_true rfl) ⟨(Nat.le_of_ble_eq_true rfl), (Nat.le_of_ble_eq_true rfl)⟩ hph pl78 (show 0 + 0 = 0 from rfl) (by decide) (fun rh64 Lh64 clh64 lnh64 ivh64 rvh64 h64 => ?_)
            obtain ⟨rfl, xl64, fl64, W64, exf64⟩ := h64
            refine hv11 (F63.call X61 fl64 rfl) (xl63.ty ty631) (xl63.ty ty636) (xl63.ty ty637) (xl63.ty ty638) (xl63.ty ty639) (xl63.ty ty640) (xl63.ty ty641) (xl63.ty ty642) (X61.trans xl64) (xl64.skl sk61) (fun F64 ty648 ty649 ty650 ty651 ty652 ty653 ty654 ty655 X62 sk62 => ?_)
            refine c_st (st2 := []) rfl ?_
            refine hv8 (xl64.ty ty647) (show ivh64 (sk 7) 2 = ivh63 (sk 25) 2 ∧ MBX Lh63 clh63 lnh63 ivh63 rvh63 (sk 25) ivh64 rvh64 (sk 7) from exf64) (show GLQ sk ln iv rv a1 Lh64 clh64 lnh64 ivh64 rvh64 (sk 24) gat0 from (gl156.mv (QT.of W63 sk61 xl64 fl64 rfl rfl rfl rfl rfl) (el24.fr W63 sk61 fl64 rfl rfl).1 (el24.fr W63 sk61 fl64 rfl rfl).2)) (show GLQ sk ln iv rv a1 Lh64 clh64 lnh64 ivh64 rvh64 (sk 25) gat1 from (gl157.mv (QT.of W63 sk61 xl64 fl64 rfl rfl rfl rfl rfl) (el25.fr W63 sk61 fl64 rfl rfl).1 (el25.fr W63 sk61 fl64 rfl rfl).2)) (xl64.ty ty646) (show ivh64 (sk 25) 2 = ivh63 (sk 25) 2 from fl64.i ty646 rfl 2) (gb46.fr W63 ty644 ty643 fl64 rfl rfl rfl rfl rfl rfl) (Phi.le W64 sk62) (fun ty656 gf64 gl158 gl159 ty657 ie217 gb48 pl79 => ?_)
            refine hv2 (show 0 ≤ ivh64 (sk 7) 2 ∧ ivh64 (sk 7) 2 ≤ 6003 from W64.int ty656 2) (show 0 ≤ ivh64 (sk 25) 2 ∧ ivh64 (sk 25) 2 ≤ 6003 from W64.int ty657 2) (fun ri159 ri160 => ?_)
            have gb47 := GBQ.mk gl157 gf64.2 (by omega) (by omega)
            exact c_vret C dX3_gather_103 rfl (by decide) (rom0 hph pl79 (by decide)) ⟨rfl, X62, F64, W64, trivial, ⟨gl158, gl159⟩, ⟨gb48, gb47⟩⟩
          · have tnb15 : ty Lh61 clh61 nb15 20 := tnb15
            refine c_aaldR C dX3_gather_66 ty620 rfl (by omega) (by omega) (by omega) nq15 ?_
            refine c_st (st2 := [.ref nb15, .ref (sk 25)]) rfl ?_
            have pl80 := Phi.le W61 sk59
            refine d_callS (As := [.ref (sk 25), .ref nb15]) (rest := []) C hM (G_addInd_25 (a0 := (sk 25)) (r := (some nb15)) W61 sk59 ty617 (fun _ q => by cases q; exact tnb15)  (by show ivh61 (sk 25) 2 < 6003; omega)) dX3_gather_67 kS_X3_67 rfl rfl (Nat.le_of_ble_eq_true rfl) ⟨(Nat.le_of_ble_eq_true rfl), (Nat.le_of_ble_eq_true rfl)⟩ hph pl80 (show 0 + 0 = 0 from rfl) (by decide) (fun rh65 Lh65 clh65 lnh65 ivh65 rvh65 h65 => ?_)
            obtain ⟨rfl, xl65, fl65, W65, exf65, ladf65⟩ := h65
            refine hv12 (F61.call X59 fl65 rfl) (xl61.ty ty609) (xl61.ty ty610) (xl61.ty ty611) (xl61.ty ty612) (xl61.ty ty613) (xl61.ty ty522) (xl61.ty ty614) (xl61.ty ty616) (xl61.ty tnb13) (X59.trans xl65) (xl65.skl sk59) (fun F65 ty658 ty659 ty660 ty661 ty662 ty663 ty664 ty665 ty666 X63 sk63 => ?_)
            refine c_st (st2 := []) rfl ?_
            refine hv4 (xl65.ty ty617) (show ivh61 (sk 25) 2 ≤ ivh65 (sk 25) 2 ∧ ivh65 (sk 25) 2 ≤ ivh61 (sk 25) 2 + 1 from exf65) (show GLQ sk ln iv rv a1 Lh65 clh65 lnh65 ivh65 rvh65 (sk 25) (fun a i => rws1 a (a 9 i.toNat) ++ indl a (4 * i + ((3 : Nat) : Int))) from (gl150.ind (j := 3) (QT.of hW hS X59 F61 rfl rfl rfl rfl rfl) (QT.of W61 sk59 xl65 fl65 rfl rfl rfl rfl rfl) ty620 re116 nq15 ladf65 (by decide))) (show GLQ sk ln iv rv a1 Lh65 clh65 lnh65 ivh65 rvh65 (sk 24) (fun a i => rws1 a (a 8 i.toNat) ++ indl a (4 * i + ((2 : Nat) : Int))) from (gl151.mv (QT.of W61 sk59 xl65 fl65 rfl rfl rfl rfl rfl) (el24.fr W61 sk59 fl65 rfl rfl).1 (el24.fr W61 sk59 fl65 rfl rfl).2)) (fun ty667 gf65 gl160 gl161 => ?_)
            have ri161 : 0 ≤ ivh65 (sk 25) 2 ∧ ivh65 (sk 25) 2 ≤ 6003 := W65.int ty667 2
            refine c_goto (tgt := 81) C dX3_gather_70 (by decide) ?_
            refine hv5 (xl65.ty ty619) (show ivh65 a1 0 = ivh61 a1 0 from fl65.i ty619 rfl 0) (show ivh61 a1 0 = ivh53 a1 0 from fl61.i ty524 rfl 0) (show ivh53 a1 0 = ivh37 a1 0 from fl53.i ty346 rfl 0) (show ivh37 a1 0 = ivh2 a1 0 from fl37.i t_a1 rfl 0) (fun ty668 ie219 ie220 ie221 ie222 => ?_)
            have ri162 : (-2147483648) ≤ ivh65 a1 0 ∧ ivh65 a1 0 ≤ 2147483647 := W65.int ty668 0
            have gl162 : GLQ sk ln iv rv a1 Lh65 clh65 lnh65 ivh65 rvh65 (sk 24) gat0 := (gl161.g0 (by omega))
            have gl163 : GLQ sk ln iv rv a1 Lh65 clh65 lnh65 ivh65 rvh65 (sk 25) gat1 := (gl160.g1 (by omega))
            refine c_aload_n (j := 0) (x := a0) C dX3_gather_81 rfl ?_
            refine hv2 (xl65.ty ty618) (show rvh53 a0 0 = rvh37 a0 0 from (fl53.r ty345 rfl 0)) (fun ty669 re122 => ?_)
            rw [re68] at re122
            have re123 : rvh61 a0 0 = rvh53 a0 0 := (fl61.r ty523 rfl 0)
            rw [re122] at re123
            have re124 : rvh65 a0 0 = rvh61 a0 0 := (fl65.r ty618 rfl 0)
            rw [re123] at re124
            refine c_getr (k := 0) C ck_4 dX3_gather_82 w1_190 (by decide) ty669 rfl rfl (by decide) rfl re124 ?_
            refine c_st (st2 := [.ref (sk 24)]) rfl ?_
            refine c_aload_n (j := 0) (x := a0) C dX3_gather_85 rfl ?_
            obtain ⟨rb37, rq37, trb37⟩ := W65.ref ty669 2 rfl rfl rfl
            have erb37 := W65.sk trb37 (by decide) rfl
            subst erb37
            refine c_getr (k := 2) C ck_4 dX3_gather_86 w1_196 (by decide) ty669 rfl rfl (by decide) rfl rq37 ?_
            refine c_st (st2 := [.ref (sk 6), .ref (sk 24)]) rfl ?_
            refine hv5 (xl65.ty ty663) (show ivh65 (sk 24) 2 = ivh61 (sk 24) 2 from fl65.i ty663 rfl 2) (show ivh61 (sk 24) 2 = ivh53 (sk 24) 2 from fl61.i ty522 rfl 2) (xl65.ty ty658) (Phi.le W65 sk63) (fun ty670 ie223 ie224 ty671 pl81 => ?_)
            have ri163 : 0 ≤ ivh65 (sk 24) 2 ∧ ivh65 (sk 24) 2 ≤ 6003 := W65.int ty670 2
            refine d_callS (As := [.ref (sk 24), .ref (sk 6)]) (rest := []) C hM (G_markBegins_24 (a0 := (sk 24)) (a1 := (sk 6)) W65 sk63 ty670 ty671  ) dX3_gather_89 kS_X3_73 rfl rfl (Nat.le_of_ble_eq_true rfl) ⟨(Nat.le_of_ble_eq_true rfl), (Nat.le_of_ble_eq_true rfl)⟩ hph pl81 (show 0 + 0 = 0 from rfl) (by decide) (fun rh66 Lh66 clh66 lnh66 ivh66 rvh66 h66 => ?_)
            obtain ⟨rfl, xl66, fl66, W66, exf66⟩ := h66
            refine hv12 (F65.call X63 fl66 rfl) (xl65.ty ty659) (xl65.ty ty660) (xl65.ty ty661) (xl65.ty ty662) (xl65.ty ty664) (xl65.ty ty620) (xl65.ty ty665) (xl65.ty ty666) (xl65.ty tnb15) (X63.trans xl66) (xl66.skl sk63) (fun F66 ty672 ty673 ty674 ty675 ty676 ty677 ty678 ty679 ty680 X64 sk64 => ?_)
            refine c_st (st2 := []) rfl ?_
            refine hv6 (xl66.ty ty671) (show ivh66 (sk 6) 2 = ivh65 (sk 24) 2 ∧ MBX Lh65 clh65 lnh65 ivh65 rvh65 (sk 24) ivh66 rvh66 (sk 6) from exf66) (show GLQ sk ln iv rv a1 Lh66 clh66 lnh66 ivh66 rvh66 (sk 24) gat0 from (gl162.mv (QT.of W65 sk63 xl66 fl66 rfl rfl rfl rfl rfl) (el24.fr W65 sk63 fl66 rfl rfl).1 (el24.fr W65 sk63 fl66 rfl rfl).2)) (show GLQ sk ln iv rv a1 Lh66 clh66 lnh66 ivh66 rvh66 (sk 25) gat1 from (gl163.mv (QT.of W65 sk63 xl66 fl66 rfl rfl rfl rfl rfl) (el25.fr W65 sk63 fl66 rfl rfl).1 (el25.fr W65 sk63 fl66 rfl rfl).2)) (xl66.ty ty670) (show ivh66 (sk 24) 2 = ivh65 (sk 24) 2 from fl66.i ty670 rfl 2) (fun ty681 gf66 gl164 gl165 ty682 ie226 => ?_)
            refine hv2 (show 0 ≤ ivh66 (sk 6) 2 ∧ ivh66 (sk 6) 2 ≤ 6003 from W66.int ty681 2) (show 0 ≤ ivh66 (sk 24) 2 ∧ ivh66 (sk 24) 2 ≤ 6003 from W66.int ty682 2) (fun ri164 ri165 => ?_)
            have gb49 := GBQ.mk gl162 gf66.2 (by omega) (by omega)
            refine c_aload_n (j := 0) (x := a0) C dX3_gather_92 rfl ?_
            refine hv2 (xl66.ty ty669) (show rvh65 a0 1 = rvh61 a0 1 from (fl65.r ty618 rfl 1)) (fun ty683 re125 => ?_)
            rw [re114] at re125
            have re126 : rvh66 a0 1 = rvh65 a0 1 := (fl66.r ty669 rfl 1)
            rw [re125] at re126
            refine c_getr (k := 1) C ck_4 dX3_gather_93 w1_193 (by decide) ty683 rfl rfl (by decide) rfl re126 ?_
            refine c_st (st2 := [.ref (sk 25)]) rfl ?_
            refine c_aload_n (j := 0) (x := a0) C dX3_gather_96 rfl ?_
            obtain ⟨rb38, rq38, trb38⟩ := W66.ref ty683 3 rfl rfl rfl
            have erb38 := W66.sk trb38 (by decide) rfl
            subst erb38
            refine c_getr (k := 3) C ck_4 dX3_gather_97 w1_197 (by decide) ty683 rfl rfl (by decide) rfl rq38 ?_
            refine c_st (st2 := [.ref (sk 7), .ref (sk 25)]) rfl ?_
            refine hv4 (xl66.ty ty667) (show ivh66 (sk 25) 2 = ivh65 (sk 25) 2 from fl66.i ty667 rfl 2) (xl66.ty ty672) (Phi.le W66 sk64) (fun ty684 ie227 ty685 pl82 => ?_)
            have ri166 : 0 ≤ ivh66 (sk 25) 2 ∧ ivh66 (sk 25) 2 ≤ 6003 := W66.int ty684 2
            refine d_callS (As := [.ref (sk 25), .ref (sk 7)]) (rest := []) C hM (G_markBegins_25 (a0 := (sk 25)) (a1 := (sk 7)) W66 sk64 ty684 ty685  ) dX3_gather_100 kS_X3_73 rfl rfl (Nat.le_of_ble_eq_true rfl) ⟨(Nat.le_of_ble_eq_true rfl), (Nat.le_of_ble_eq_true rfl)⟩ hph pl82 (show 0 + 0 = 0 from rfl) (by decide) (fun rh67 Lh67 clh67 lnh67 ivh67 rvh67 h67 => ?_)
            obtain ⟨rfl, xl67, fl67, W67, exf67⟩ := h67
            refine hv12 (F66.call X64 fl67 rfl) (xl66.ty ty668) (xl66.ty ty673) (xl66.ty ty674) (xl66.ty ty675) (xl66.ty ty676) (xl66.ty ty677) (xl66.ty ty678) (xl66.ty ty679) (xl66.ty ty680) (X64.trans xl67) (xl67.skl sk64) (fun F67 ty686 ty687 ty688 ty689 ty690 ty691 ty692 ty693 ty694 X65 sk65 => ?_)
            refine c_st (st2 := []) rfl ?_
            refine hv8 (xl67.ty ty685) (show ivh67 (sk 7) 2 = ivh66 (sk 25) 2 ∧ MBX Lh66 clh66 lnh66 ivh66 rvh66 (sk 25) ivh67 rvh67 (sk 7) from exf67) (show GLQ sk ln iv rv a1 Lh67 clh67 lnh67 ivh67 rvh67 (sk 24) gat0 from (gl164.mv (QT.of W66 sk64 xl67 fl67 rfl rfl rfl rfl rfl) (el24.fr W66 sk64 fl67 rfl rfl).1 (el24.fr W66 sk64 fl67 rfl rfl).2)) (show GLQ sk ln iv rv a1 Lh67 clh67 lnh67 ivh67 rvh67 (sk 25) gat1 from (gl165.mv (QT.of W66 sk64 xl67 fl67 rfl rfl rfl rfl rfl) (el25.fr W66 sk64 fl67 rfl rfl).1 (el25.fr W66 sk64 fl67 rfl rfl).2)) (xl67.ty ty684) (show ivh67 (sk 25) 2 = ivh66 (sk 25) 2 from fl67.i ty684 rfl 2) (gb49.fr W66 ty682 ty681 fl67 rfl rfl rfl rfl rfl rfl) (Phi.le W67 sk65) (fun ty695 gf67 gl166 gl167 ty696 ie229 gb51 pl83 => ?_)
            refine hv2 (show 0 ≤ ivh67 (sk 7) 2 ∧ ivh67 (sk 7) 2 ≤ 6003 from W67.int ty695 2) (show 0 ≤ ivh67 (sk 25) 2 ∧ ivh67 (sk 25) 2 ≤ 6003 from W67.int ty696 2) (fun ri167 ri168 => ?_)
            have gb50 := GBQ.mk gl165 gf67.2 (by omega) (by omega)
            exact c_vret C dX3_gather_103 rfl (by decide) (rom0 hph pl83 (by decide)) ⟨rfl, X65, F67, W67, trivial, ⟨gl166, gl167⟩, ⟨gb51, gb50⟩⟩
end
