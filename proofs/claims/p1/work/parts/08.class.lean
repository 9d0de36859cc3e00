def an_end (n : Int32) : Int32 := if n = 0 then 0 else -1
def an_meas (w h y : Int32) : Int32 := if (1 ≤ w ∧ w ≤ 100) ∧ (1 ≤ h ∧ h ≤ 50) ∧ (1 ≤ y ∧ y ≤ 255) then 1 else -1
def an_fail (d z : Int32) : Int32 := if 0 ≤ d ∧ d ≤ 7 then (if z = 0 then bc ((0 : Int32) &&& (((1 : Int32) <<< (d &&& 31)) ^^^ (-1))) else bc ((0 : Int32) ||| ((1 : Int32) <<< (d &&& 31)))) else -1
set_option maxHeartbeats 4000000 in
set_option maxRecDepth 100000 in
theorem x_place {l : Launch} {G : GT} {L : List Nat} {E : Nat → va_E}  {h0 : Nat} {f : Nat → Value} (hL : h0 ∈ L) (hE : E h0 = ob 12 19 f) (f18 : f 18 = .int (-1)) : Mq l G yX11_place cX11_place 1 (some .int) 5 [.ref h0] L E 0 0 (fun v L2 E2 => v = some (.int (-1))) := by
  refine Mq.mk (by decide) (Nat.le_of_ble_eq_true rfl) ?_
  intro p e s m args below meth c A C
  refine q_aload_n (j := 0) C dX11_place_0 rfl ?_
  refine q_get (k := 18) (v := .int (-1)) C ck_12 dX11_place_1 w2_62 (by decide) hL hE f18 ?_
  exact q_iret C dX11_place_4 rfl (Nat.le_of_ble_eq_true rfl) (Nat.le_of_ble_eq_true rfl) rfl
set_option maxHeartbeats 4000000 in
set_option maxRecDepth 100000 in
theorem x_status {l : Launch} {G : GT} {L : List Nat} {E : Nat → va_E}  {h0 : Nat} {f : Nat → Value} (hL : h0 ∈ L) (hE : E h0 = ob 12 19 f) (f17 : f 17 = .int 0) : Mq l G yX11_status cX11_status 1 (some .int) 5 [.ref h0] L E 0 0 (fun v L2 E2 => v = some (.int 0)) := by
  refine Mq.mk (by decide) (Nat.le_of_ble_eq_true rfl) ?_
  intro p e s m args below meth c A C
  refine q_aload_n (j := 0) C dX11_status_0 rfl ?_
  refine q_get (k := 17) (v := .int 0) C ck_12 dX11_status_1 w2_61 (by decide) hL hE f17 ?_
  exact q_iret C dX11_status_4 rfl (Nat.le_of_ble_eq_true rfl) (Nat.le_of_ble_eq_true rfl) rfl
set_option maxHeartbeats 4000000 in
set_option maxRecDepth 100000 in
theorem x_closed {l : Launch} {G : GT} {L : List Nat} {E : Nat → va_E}  {h0 : Nat} {f : Nat → Value} (hL : h0 ∈ L) (hE : E h0 = ob 12 19 f) (f16 : f 16 = .int 0) : Mq l G yX11_closed cX11_closed 1 (some .int) 5 [.ref h0] L E 0 0 (fun v L2 E2 => v = some (.int 0)) := by
  refine Mq.mk (by decide) (Nat.le_of_ble_eq_true rfl) ?_
  intro p e s m args below meth c A C
  refine q_aload_n (j := 0) C dX11_closed_0 rfl ?_
  refine q_get (k := 16) (v := .int 0) C ck_12 dX11_closed_1 w2_60 (by decide) hL hE f16 ?_
  exact q_iret C dX11_closed_4 rfl (Nat.le_of_ble_eq_true rfl) (Nat.le_of_ble_eq_true rfl) rfl
set_option maxHeartbeats 4000000 in
set_option maxRecDepth 100000 in
theorem x_copied {l : Launch} {G : GT} {L : List Nat} {E : Nat → va_E}  {h0 : Nat} {f : Nat → Value} (hL : h0 ∈ L) (hE : E h0 = ob 12 19 f) (f15 : f 15 = .int 0) : Mq l G yX11_copied cX11_copied 1 (some .int) 5 [.ref h0] L E 0 0 (fun v L2 E2 => v = some (.int 0)) := by
  refine Mq.mk (by decide) (Nat.le_of_ble_eq_true rfl) ?_
  intro p e s m args below meth c A C
  refine q_aload_n (j := 0) C dX11_copied_0 rfl ?_
  refine q_get (k := 15) (v := .int 0) C ck_12 dX11_copied_1 w2_59 (by decide) hL hE f15 ?_
  exact q_iret C dX11_copied_4 rfl (Nat.le_of_ble_eq_true rfl) (Nat.le_of_ble_eq_true rfl) rfl
set_option maxHeartbeats 4000000 in
set_option maxRecDepth 100000 in
theorem x_lines {l : Launch} {G : GT} {L : List Nat} {E : Nat → va_E}  {h0 sh : Nat} {f fs : Nat → Value} (hL : h0 ∈ L) (hE : E h0 = ob 12 19 f) (f9 : f 9 = .ref sh) (hLsh : sh ∈ L) (hEsh : E sh = ob 8 3 fs) (fs1 : fs 1 = .int 0) : Mq l G yX11_lines cX11_lines 1 (some .int) 5 [.ref h0] L E 0 0 (fun v L2 E2 => v = some (.int 0)) := by
  refine Mq.mk (by decide) (Nat.le_of_ble_eq_true rfl) ?_
  intro p e s m args below meth c A C
  refine q_aload_n (j := 0) C dX11_lines_0 rfl ?_
  refine q_get (k := 9) (v := .ref sh) C ck_12 dX11_lines_1 w2_53 (by decide) hL hE f9 ?_
  refine q_get (k := 1) (v := .int 0) C ck_8 dX11_lines_4 w2_35 (by decide) hLsh hEsh fs1 ?_
  exact q_iret C dX11_lines_7 rfl (Nat.le_of_ble_eq_true rfl) (Nat.le_of_ble_eq_true rfl) rfl
set_option maxHeartbeats 4000000 in
set_option maxRecDepth 100000 in
theorem x_more {l : Launch} {G : GT} {L : List Nat} {E : Nat → va_E}  {h0 fo : Nat} {f ff : Nat → Value} (hL : h0 ∈ L) (hE : E h0 = ob 12 19 f) (f8 : f 8 = .ref fo) (hLfo : fo ∈ L) (hEfo : E fo = ob 5 11 ff) (ff6 : ff 6 = .int 0) : Mq l G yX11_more cX11_more 1 (some .int) 5 [.ref h0] L E 0 0 (fun v L2 E2 => v = some (.int 0)) := by
  refine Mq.mk (by decide) (Nat.le_of_ble_eq_true rfl) ?_
  intro p e s m args below meth c A C
  refine q_aload_n (j := 0) C dX11_more_0 rfl ?_
  refine q_get (k := 8) (v := .ref fo) C ck_12 dX11_more_1 w2_52 (by decide) hL hE f8 ?_
  refine q_get (k := 6) (v := .int 0) C ck_5 dX11_more_4 w1_237 (by decide) hLfo hEfo ff6 ?_
  refine q_if_eq (tgt := 14) C dX11_more_7 (by decide) (fun _ => ?_) (fun z => absurd (by decide) z)
  refine q_iconst (v := 0) C dX11_more_14 (by decide) ?_
  exact q_iret C dX11_more_15 rfl (Nat.le_of_ble_eq_true rfl) (Nat.le_of_ble_eq_true rfl) rfl
set_option maxHeartbeats 4000000 in
set_option maxRecDepth 100000 in
theorem x_drop {l : Launch} {G : GT} {L : List Nat} {E : Nat → va_E} (t : Int32)  {h0 tb md ch : Nat} {f fT fm fc : Nat → Value} (hL : h0 ∈ L) (hE : E h0 = ob 12 19 f) (f4 : f 4 = .ref tb) (hLtb : tb ∈ L) (hEtb : E tb = ob 11 2 fT) (fT0 : fT 0 = .ref md) (fT1 : fT 1 = .ref ch) (hLmd : md ∈ L) (hEmd : E md = ob 0 3 fm) (fm2 : fm 2 = .int 0) (hLch : ch ∈ L) (hEch : E ch = ob 0 3 fc) (fc2 : fc 2 = .int 0) : Mq l G yX11_drop cX11_drop 3 (some .int) 5 [.ref h0, .int t] L E 0 0 (fun v L2 E2 => v = some (.int (-1))) := by
  refine Mq.mk (by decide) (Nat.le_of_ble_eq_true rfl) ?_
  intro p e s m args below meth c A C
  refine q_aload_n (j := 0) C dX11_drop_0 rfl ?_
  refine q_get (k := 4) (v := .ref tb) C ck_12 dX11_drop_1 w2_48 (by decide) hL hE f4 ?_
  refine q_iload_n (j := 1) C dX11_drop_4 rfl ?_
  refine q_callV (d2 := 1) (mc2 := 0) (ms2 := 0) (As := [.int t]) (rest := []) C (c_alive0 t hLtb hEtb fT0 fT1 hLmd hEmd fm2 hLch hEch fc2) dX11_drop_5 kV_X11_131 rfl hLtb hEtb ck_11 rfl (Nat.le_of_ble_eq_true rfl) ⟨Nat.le_of_ble_eq_true rfl, Nat.le_of_ble_eq_true rfl⟩ ⟨Nat.le_of_ble_eq_true rfl, Nat.le_of_ble_eq_true rfl⟩ (fun vh1 Lh1 Eh1 h1 => ?_)
  obtain ⟨rfl, rfl, rfl⟩ := h1
  refine q_st (st2 := [.null]) rfl ?_
  refine q_astore_nN (lv2 := [(2, .null), (0, .ref h0), (1, .int t)]) C dX11_drop_8 (by decide) rfl ?_
  refine q_aload_nN (j := 0) C dX11_drop_9 rfl ?_
  refine q_ifnonnullN C dX11_drop_10 ?_
  refine q_aload_n (j := 1) C dX11_drop_13 rfl ?_
  refine q_iconst (v := 3) C dX11_drop_14 (by decide) ?_
  refine q_callV (d2 := 0) (mc2 := 0) (ms2 := 0) (As := [.int 3]) (rest := []) C (c_refuse 3 hL hE) dX11_drop_15 kV_X11_102 rfl hL hE ck_12 rfl (Nat.le_of_ble_eq_true rfl) ⟨Nat.le_of_ble_eq_true rfl, Nat.le_of_ble_eq_true rfl⟩ ⟨Nat.le_of_ble_eq_true rfl, Nat.le_of_ble_eq_true rfl⟩ (fun vh2 Lh2 Eh2 h2 => ?_)
  obtain ⟨rfl, rfl, rfl⟩ := h2
  refine q_st (st2 := [.int (-1)]) rfl ?_
  exact q_iret C dX11_drop_18 rfl (Nat.le_of_ble_eq_true rfl) (Nat.le_of_ble_eq_true rfl) rfl
set_option maxHeartbeats 4000000 in
set_option maxRecDepth 100000 in
theorem x_judge {l : Launch} {G : GT} {L : List Nat} {E : Nat → va_E} (t : Int32)  {h0 tb md ch : Nat} {f fT fm fc : Nat → Value} (hL : h0 ∈ L) (hE : E h0 = ob 12 19 f) (f4 : f 4 = .ref tb) (hLtb : tb ∈ L) (hEtb : E tb = ob 11 2 fT) (fT0 : fT 0 = .ref md) (fT1 : fT 1 = .ref ch) (hLmd : md ∈ L) (hEmd : E md = ob 0 3 fm) (fm2 : fm 2 = .int 0) (hLch : ch ∈ L) (hEch : E ch = ob 0 3 fc) (fc2 : fc 2 = .int 0) : Mq l G yX11_judge cX11_judge 4 (some .int) 5 [.ref h0, .int t] L E 0 0 (fun v L2 E2 => v = some (.int (-1))) := by
  refine Mq.mk (by decide) (Nat.le_of_ble_eq_true rfl) ?_
  intro p e s m args below meth c A C
  refine q_aload_n (j := 0) C dX11_judge_0 rfl ?_
  refine q_get (k := 4) (v := .ref tb) C ck_12 dX11_judge_1 w2_48 (by decide) hL hE f4 ?_
  refine q_iload_n (j := 1) C dX11_judge_4 rfl ?_
  refine q_callV (d2 := 1) (mc2 := 0) (ms2 := 0) (As := [.int t]) (rest := []) C (c_alive0 t hLtb hEtb fT0 fT1 hLmd hEmd fm2 hLch hEch fc2) dX11_judge_5 kV_X11_131 rfl hLtb hEtb ck_11 rfl (Nat.le_of_ble_eq_true rfl) ⟨Nat.le_of_ble_eq_true rfl, Nat.le_of_ble_eq_true rfl⟩ ⟨Nat.le_of_ble_eq_true rfl, Nat.le_of_ble_eq_true rfl⟩ (fun vh1 Lh1 Eh1 h1 => ?_)
  obtain ⟨rfl, rfl, rfl⟩ := h1
  refine q_st (st2 := [.null]) rfl ?_
  refine q_astore_nN (lv2 := [(2, .null), (0, .ref h0), (1, .int t)]) C dX11_judge_8 (by decide) rfl ?_
  refine q_aload_nN (j := 0) C dX11_judge_9 rfl ?_
  refine q_ifnonnullN C dX11_judge_10 ?_
  refine q_aload_n (j := 1) C dX11_judge_13 rfl ?_
  refine q_iconst (v := 3) C dX11_judge_14 (by decide) ?_
  refine q_callV (d2 := 0) (mc2 := 0) (ms2 := 0) (As := [.int 3]) (rest := []) C (c_refuse 3 hL hE) dX11_judge_15 kV_X11_102 rfl hL hE ck_12 rfl (Nat.le_of_ble_eq_true rfl) ⟨Nat.le_of_ble_eq_true rfl, Nat.le_of_ble_eq_true rfl⟩ ⟨Nat.le_of_ble_eq_true rfl, Nat.le_of_ble_eq_true rfl⟩ (fun vh2 Lh2 Eh2 h2 => ?_)
  obtain ⟨rfl, rfl, rfl⟩ := h2
  refine q_st (st2 := [.int (-1)]) rfl ?_
  exact q_iret C dX11_judge_18 rfl (Nat.le_of_ble_eq_true rfl) (Nat.le_of_ble_eq_true rfl) rfl
set_option maxHeartbeats 4000000 in
set_option maxRecDepth 100000 in
theorem x_set {l : Launch} {G : GT} {L : List Nat} {E : Nat → va_E} (t : Int32)  {h0 tb md ch : Nat} {f fT fm fc : Nat → Value} (hL : h0 ∈ L) (hE : E h0 = ob 12 19 f) (f4 : f 4 = .ref tb) (hLtb : tb ∈ L) (hEtb : E tb = ob 11 2 fT) (fT0 : fT 0 = .ref md) (fT1 : fT 1 = .ref ch) (hLmd : md ∈ L) (hEmd : E md = ob 0 3 fm) (fm2 : fm 2 = .int 0) (hLch : ch ∈ L) (hEch : E ch = ob 0 3 fc) (fc2 : fc 2 = .int 0) : Mq l G yX11_set cX11_set 7 (some .int) 5 [.ref h0, .int t] L E 0 0 (fun v L2 E2 => v = some (.int (-1))) := by
  refine Mq.mk (by decide) (Nat.le_of_ble_eq_true rfl) ?_
  intro p e s m args below meth c A C
  refine q_aload_n (j := 0) C dX11_set_0 rfl ?_
  refine q_get (k := 4) (v := .ref tb) C ck_12 dX11_set_1 w2_48 (by decide) hL hE f4 ?_
  refine q_iload_n (j := 1) C dX11_set_4 rfl ?_
  refine q_callV (d2 := 2) (mc2 := 0) (ms2 := 0) (As := [.int t]) (rest := []) C (c_whole0 t hLtb hEtb fT0 fT1 hLmd hEmd fm2 hLch hEch fc2) dX11_set_5 kV_X11_231 rfl hLtb hEtb ck_11 rfl (Nat.le_of_ble_eq_true rfl) ⟨Nat.le_of_ble_eq_true rfl, Nat.le_of_ble_eq_true rfl⟩ ⟨Nat.le_of_ble_eq_true rfl, Nat.le_of_ble_eq_true rfl⟩ (fun vh1 Lh1 Eh1 h1 => ?_)
  obtain ⟨rfl, rfl, rfl⟩ := h1
  refine q_st (st2 := [.null]) rfl ?_
  refine q_astore_nN (lv2 := [(2, .null), (0, .ref h0), (1, .int t)]) C dX11_set_8 (by decide) rfl ?_
  refine q_aload_nN (j := 0) C dX11_set_9 rfl ?_
  refine q_ifnonnullN C dX11_set_10 ?_
  refine q_aload_n (j := 1) C dX11_set_13 rfl ?_
  refine q_iconst (v := 3) C dX11_set_14 (by decide) ?_
  refine q_callV (d2 := 0) (mc2 := 0) (ms2 := 0) (As := [.int 3]) (rest := []) C (c_refuse 3 hL hE) dX11_set_15 kV_X11_102 rfl hL hE ck_12 rfl (Nat.le_of_ble_eq_true rfl) ⟨Nat.le_of_ble_eq_true rfl, Nat.le_of_ble_eq_true rfl⟩ ⟨Nat.le_of_ble_eq_true rfl, Nat.le_of_ble_eq_true rfl⟩ (fun vh2 Lh2 Eh2 h2 => ?_)
  obtain ⟨rfl, rfl, rfl⟩ := h2
  refine q_st (st2 := [.int (-1)]) rfl ?_
  exact q_iret C dX11_set_18 rfl (Nat.le_of_ble_eq_true rfl) (Nat.le_of_ble_eq_true rfl) rfl
set_option maxHeartbeats 4000000 in
set_option maxRecDepth 100000 in
theorem x_join {l : Launch} {G : GT} {L : List Nat} {E : Nat → va_E} (a b : Int32)  {h0 tb md ch : Nat} {f fT fm fc : Nat → Value} (hL : h0 ∈ L) (hE : E h0 = ob 12 19 f) (f4 : f 4 = .ref tb) (hLtb : tb ∈ L) (hEtb : E tb = ob 11 2 fT) (fT0 : fT 0 = .ref md) (fT1 : fT 1 = .ref ch) (hLmd : md ∈ L) (hEmd : E md = ob 0 3 fm) (fm2 : fm 2 = .int 0) (hLch : ch ∈ L) (hEch : E ch = ob 0 3 fc) (fc2 : fc 2 = .int 0) : Mq l G yX11_join cX11_join 5 (some .int) 5 [.ref h0, .int a, .int b] L E 0 0 (fun v L2 E2 => v = some (.int (-1))) := by
  refine Mq.mk (by decide) (Nat.le_of_ble_eq_true rfl) ?_
  intro p e s m args below meth c A C
  refine q_aload_n (j := 0) C dX11_join_0 rfl ?_
  refine q_get (k := 4) (v := .ref tb) C ck_12 dX11_join_1 w2_48 (by decide) hL hE f4 ?_
  refine q_iload_n (j := 1) C dX11_join_4 rfl ?_
  refine q_callV (d2 := 1) (mc2 := 0) (ms2 := 0) (As := [.int a]) (rest := []) C (c_alive0 a hLtb hEtb fT0 fT1 hLmd hEmd fm2 hLch hEch fc2) dX11_join_5 kV_X11_131 rfl hLtb hEtb ck_11 rfl (Nat.le_of_ble_eq_true rfl) ⟨Nat.le_of_ble_eq_true rfl, Nat.le_of_ble_eq_true rfl⟩ ⟨Nat.le_of_ble_eq_true rfl, Nat.le_of_ble_eq_true rfl⟩ (fun vh1 Lh1 Eh1 h1 => ?_)
  obtain ⟨rfl, rfl, rfl⟩ := h1
  refine q_st (st2 := [.null]) rfl ?_
  refine q_astore_nN (lv2 := [(3, .null), (0, .ref h0), (1, .int a), (2, .int b)]) C dX11_join_8 (by decide) rfl ?_
  refine q_aload_nN (j := 0) C dX11_join_9 rfl ?_
  refine q_ifnullN (tgt := 21) C dX11_join_10 (by decide) ?_
  refine q_aload_n (j := 1) C dX11_join_21 rfl ?_
  refine q_aload_nN (j := 0) C dX11_join_22 rfl ?_
  refine q_ifnonnullN C dX11_join_23 ?_
  refine q_iconst (v := 3) C dX11_join_26 (by decide) ?_
  refine q_goto (tgt := 31) C dX11_join_27 (by decide) ?_
  refine q_callV (d2 := 0) (mc2 := 0) (ms2 := 0) (As := [.int 3]) (rest := []) C (c_refuse 3 hL hE) dX11_join_31 kV_X11_102 rfl hL hE ck_12 rfl (Nat.le_of_ble_eq_true rfl) ⟨Nat.le_of_ble_eq_true rfl, Nat.le_of_ble_eq_true rfl⟩ ⟨Nat.le_of_ble_eq_true rfl, Nat.le_of_ble_eq_true rfl⟩ (fun vh2 Lh2 Eh2 h2 => ?_)
  obtain ⟨rfl, rfl, rfl⟩ := h2
  refine q_st (st2 := [.int (-1)]) rfl ?_
  exact q_iret C dX11_join_34 rfl (Nat.le_of_ble_eq_true rfl) (Nat.le_of_ble_eq_true rfl) rfl
set_option maxHeartbeats 4000000 in
set_option maxRecDepth 100000 in
theorem x_condition {l : Launch} {G : GT} {L : List Nat} {E : Nat → va_E} (t r k : Int32)  {h0 tb md ch : Nat} {f fT fm fc : Nat → Value} (hL : h0 ∈ L) (hE : E h0 = ob 12 19 f) (f4 : f 4 = .ref tb) (hLtb : tb ∈ L) (hEtb : E tb = ob 11 2 fT) (fT0 : fT 0 = .ref md) (fT1 : fT 1 = .ref ch) (hLmd : md ∈ L) (hEmd : E md = ob 0 3 fm) (fm2 : fm 2 = .int 0) (hLch : ch ∈ L) (hEch : E ch = ob 0 3 fc) (fc2 : fc 2 = .int 0) : Mq l G yX11_condition cX11_condition 7 (some .int) 5 [.ref h0, .int t, .int r, .int k] L E 0 0 (fun v L2 E2 => v = some (.int (-1))) := by
  refine Mq.mk (by decide) (Nat.le_of_ble_eq_true rfl) ?_
  intro p e s m args below meth c A C
  refine q_aload_n (j := 0) C dX11_condition_0 rfl ?_
  refine q_get (k := 4) (v := .ref tb) C ck_12 dX11_condition_1 w2_48 (by decide) hL hE f4 ?_
  refine q_iload_n (j := 1) C dX11_condition_4 rfl ?_
  refine q_callV (d2 := 1) (mc2 := 0) (ms2 := 0) (As := [.int t]) (rest := []) C (c_alive0 t hLtb hEtb fT0 fT1 hLmd hEmd fm2 hLch hEch fc2) dX11_condition_5 kV_X11_131 rfl hLtb hEtb ck_11 rfl (Nat.le_of_ble_eq_true rfl) ⟨Nat.le_of_ble_eq_true rfl, Nat.le_of_ble_eq_true rfl⟩ ⟨Nat.le_of_ble_eq_true rfl, Nat.le_of_ble_eq_true rfl⟩ (fun vh1 Lh1 Eh1 h1 => ?_)
  obtain ⟨rfl, rfl, rfl⟩ := h1
  refine q_st (st2 := [.null]) rfl ?_
  refine q_astoreN (lv2 := [(4, .null), (0, .ref h0), (1, .int t), (2, .int r), (3, .int k)]) C dX11_condition_8 (by decide) rfl ?_
  refine q_aloadN (j := 0) C dX11_condition_10 rfl ?_
  refine q_ifnonnullN C dX11_condition_12 ?_
  refine q_aload_n (j := 1) C dX11_condition_15 rfl ?_
  refine q_iconst (v := 3) C dX11_condition_16 (by decide) ?_
  refine q_callV (d2 := 0) (mc2 := 0) (ms2 := 0) (As := [.int 3]) (rest := []) C (c_refuse 3 hL hE) dX11_condition_17 kV_X11_102 rfl hL hE ck_12 rfl (Nat.le_of_ble_eq_true rfl) ⟨Nat.le_of_ble_eq_true rfl, Nat.le_of_ble_eq_true rfl⟩ ⟨Nat.le_of_ble_eq_true rfl, Nat.le_of_ble_eq_true rfl⟩ (fun vh2 Lh2 Eh2 h2 => ?_)
  obtain ⟨rfl, rfl, rfl⟩ := h2
  refine q_st (st2 := [.int (-1)]) rfl ?_
  exact q_iret C dX11_condition_20 rfl (Nat.le_of_ble_eq_true rfl) (Nat.le_of_ble_eq_true rfl) rfl
set_option maxHeartbeats 4000000 in
set_option maxRecDepth 100000 in
theorem x_parts {l : Launch} {G : GT} {L : List Nat} {E : Nat → va_E} (t a b : Int32)  {h0 tb md ch : Nat} {f fT fm fc : Nat → Value} (hL : h0 ∈ L) (hE : E h0 = ob 12 19 f) (f4 : f 4 = .ref tb) (hLtb : tb ∈ L) (hEtb : E tb = ob 11 2 fT) (fT0 : fT 0 = .ref md) (fT1 : fT 1 = .ref ch) (hLmd : md ∈ L) (hEmd : E md = ob 0 3 fm) (fm2 : fm 2 = .int 0) (hLch : ch ∈ L) (hEch : E ch = ob 0 3 fc) (fc2 : fc 2 = .int 0) : Mq l G yX11_parts cX11_parts 10 (some .int) 5 [.ref h0, .int t, .int a, .int b] L E 0 0 (fun v L2 E2 => v = some (.int (-1))) := by
  refine Mq.mk (by decide) (Nat.le_of_ble_eq_true rfl) ?_
  intro p e s m args below meth c A C
  refine q_aload_n (j := 0) C dX11_parts_0 rfl ?_
  refine q_get (k := 4) (v := .ref tb) C ck_12 dX11_parts_1 w2_48 (by decide) hL hE f4 ?_
  refine q_iload_n (j := 1) C dX11_parts_4 rfl ?_
  refine q_callV (d2 := 2) (mc2 := 0) (ms2 := 0) (As := [.int t]) (rest := []) C (c_whole0 t hLtb hEtb fT0 fT1 hLmd hEmd fm2 hLch hEch fc2) dX11_parts_5 kV_X11_231 rfl hLtb hEtb ck_11 rfl (Nat.le_of_ble_eq_true rfl) ⟨Nat.le_of_ble_eq_true rfl, Nat.le_of_ble_eq_true rfl⟩ ⟨Nat.le_of_ble_eq_true rfl, Nat.le_of_ble_eq_true rfl⟩ (fun vh1 Lh1 Eh1 h1 => ?_)
  obtain ⟨rfl, rfl, rfl⟩ := h1
  refine q_st (st2 := [.null]) rfl ?_
  refine q_astoreN (lv2 := [(4, .null), (0, .ref h0), (1, .int t), (2, .int a), (3, .int b)]) C dX11_parts_8 (by decide) rfl ?_
  refine q_aloadN (j := 0) C dX11_parts_10 rfl ?_
  refine q_ifnonnullN C dX11_parts_12 ?_
  refine q_aload_n (j := 1) C dX11_parts_15 rfl ?_
  refine q_iconst (v := 3) C dX11_parts_16 (by decide) ?_
  refine q_callV (d2 := 0) (mc2 := 0) (ms2 := 0) (As := [.int 3]) (rest := []) C (c_refuse 3 hL hE) dX11_parts_17 kV_X11_102 rfl hL hE ck_12 rfl (Nat.le_of_ble_eq_true rfl) ⟨Nat.le_of_ble_eq_true rfl, Nat.le_of_ble_eq_true rfl⟩ ⟨Nat.le_of_ble_eq_true rfl, Nat.le_of_ble_eq_true rfl⟩ (fun vh2 Lh2 Eh2 h2 => ?_)
  obtain ⟨rfl, rfl, rfl⟩ := h2
  refine q_st (st2 := [.int (-1)]) rfl ?_
  exact q_iret C dX11_parts_20 rfl (Nat.le_of_ble_eq_true rfl) (Nat.le_of_ble_eq_true rfl) rfl
set_option maxHeartbeats 4000000 in
set_option maxRecDepth 100000 in
theorem x_read {l : Launch} {G : GT} {L : List Nat} {E : Nat → va_E} (t a n : Int32)  {h0 tb md ch : Nat} {f fT fm fc : Nat → Value} (hL : h0 ∈ L) (hE : E h0 = ob 12 19 f) (f4 : f 4 = .ref tb) (hLtb : tb ∈ L) (hEtb : E tb = ob 11 2 fT) (fT0 : fT 0 = .ref md) (fT1 : fT 1 = .ref ch) (hLmd : md ∈ L) (hEmd : E md = ob 0 3 fm) (fm2 : fm 2 = .int 0) (hLch : ch ∈ L) (hEch : E ch = ob 0 3 fc) (fc2 : fc 2 = .int 0) : Mq l G yX11_read cX11_read 6 (some .int) 5 [.ref h0, .int t, .int a, .int n] L E 0 0 (fun v L2 E2 => v = some (.int (-1))) := by
  refine Mq.mk (by decide) (Nat.le_of_ble_eq_true rfl) ?_
  intro p e s m args below meth c A C
  refine q_aload_n (j := 0) C dX11_read_0 rfl ?_
  refine q_get (k := 4) (v := .ref tb) C ck_12 dX11_read_1 w2_48 (by decide) hL hE f4 ?_
  refine q_iload_n (j := 1) C dX11_read_4 rfl ?_
  refine q_callV (d2 := 2) (mc2 := 0) (ms2 := 0) (As := [.int t]) (rest := []) C (c_whole0 t hLtb hEtb fT0 fT1 hLmd hEmd fm2 hLch hEch fc2) dX11_read_5 kV_X11_231 rfl hLtb hEtb ck_11 rfl (Nat.le_of_ble_eq_true rfl) ⟨Nat.le_of_ble_eq_true rfl, Nat.le_of_ble_eq_true rfl⟩ ⟨Nat.le_of_ble_eq_true rfl, Nat.le_of_ble_eq_true rfl⟩ (fun vh1 Lh1 Eh1 h1 => ?_)
  obtain ⟨rfl, rfl, rfl⟩ := h1
  refine q_st (st2 := [.null]) rfl ?_
  refine q_astoreN (lv2 := [(4, .null), (0, .ref h0), (1, .int t), (2, .int a), (3, .int n)]) C dX11_read_8 (by decide) rfl ?_
  refine q_aloadN (j := 0) C dX11_read_10 rfl ?_
  refine q_ifnonnullN C dX11_read_12 ?_
  refine q_aload_n (j := 1) C dX11_read_15 rfl ?_
  refine q_iconst (v := 3) C dX11_read_16 (by decide) ?_
  refine q_callV (d2 := 0) (mc2 := 0) (ms2 := 0) (As := [.int 3]) (rest := []) C (c_refuse 3 hL hE) dX11_read_17 kV_X11_102 rfl hL hE ck_12 rfl (Nat.le_of_ble_eq_true rfl) ⟨Nat.le_of_ble_eq_true rfl, Nat.le_of_ble_eq_true rfl⟩ ⟨Nat.le_of_ble_eq_true rfl, Nat.le_of_ble_eq_true rfl⟩ (fun vh2 Lh2 Eh2 h2 => ?_)
  obtain ⟨rfl, rfl, rfl⟩ := h2
  refine q_st (st2 := [.int (-1)]) rfl ?_
  exact q_iret C dX11_read_20 rfl (Nat.le_of_ble_eq_true rfl) (Nat.le_of_ble_eq_true rfl) rfl
set_option maxHeartbeats 4000000 in
set_option maxRecDepth 100000 in
theorem x_saved {l : Launch} {G : GT} {L : List Nat} {E : Nat → va_E} (a b : Int32)  {h0 tb md ch : Nat} {f fT fm fc : Nat → Value} (hL : h0 ∈ L) (hE : E h0 = ob 12 19 f) (f4 : f 4 = .ref tb) (hLtb : tb ∈ L) (hEtb : E tb = ob 11 2 fT) (fT0 : fT 0 = .ref md) (fT1 : fT 1 = .ref ch) (hLmd : md ∈ L) (hEmd : E md = ob 0 3 fm) (fm2 : fm 2 = .int 0) (hLch : ch ∈ L) (hEch : E ch = ob 0 3 fc) (fc2 : fc 2 = .int 0) : Mq l G yX11_saved cX11_saved 10 (some .int) 5 [.ref h0, .int a, .int b] L E 0 0 (fun v L2 E2 => v = some (.int (-1))) := by
  refine Mq.mk (by decide) (Nat.le_of_ble_eq_true rfl) ?_
  intro p e s m args below meth c A C
  refine q_aload_n (j := 0) C dX11_saved_0 rfl ?_
  refine q_get (k := 4) (v := .ref tb) C ck_12 dX11_saved_1 w2_48 (by decide) hL hE f4 ?_
  refine q_iload_n (j := 1) C dX11_saved_4 rfl ?_
  refine q_callV (d2 := 2) (mc2 := 0) (ms2 := 0) (As := [.int a]) (rest := []) C (c_whole0 a hLtb hEtb fT0 fT1 hLmd hEmd fm2 hLch hEch fc2) dX11_saved_5 kV_X11_231 rfl hLtb hEtb ck_11 rfl (Nat.le_of_ble_eq_true rfl) ⟨Nat.le_of_ble_eq_true rfl, Nat.le_of_ble_eq_true rfl⟩ ⟨Nat.le_of_ble_eq_true rfl, Nat.le_of_ble_eq_true rfl⟩ (fun vh1 Lh1 Eh1 h1 => ?_)
  obtain ⟨rfl, rfl, rfl⟩ := h1
  refine q_st (st2 := [.null]) rfl ?_
  refine q_astore_nN (lv2 := [(3, .null), (0, .ref h0), (1, .int a), (2, .int b)]) C dX11_saved_8 (by decide) rfl ?_
  refine q_aload_n (j := 1) C dX11_saved_9 rfl ?_
  refine q_get (k := 4) (v := .ref tb) C ck_12 dX11_saved_10 w2_48 (by decide) hL hE f4 ?_
  refine q_iload_n (j := 3) C dX11_saved_13 rfl ?_
  refine q_callV (d2 := 2) (mc2 := 0) (ms2 := 0) (As := [.int b]) (rest := []) C (c_whole0 b hLtb hEtb fT0 fT1 hLmd hEmd fm2 hLch hEch fc2) dX11_saved_14 kV_X11_231 rfl hLtb hEtb ck_11 rfl (Nat.le_of_ble_eq_true rfl) ⟨Nat.le_of_ble_eq_true rfl, Nat.le_of_ble_eq_true rfl⟩ ⟨Nat.le_of_ble_eq_true rfl, Nat.le_of_ble_eq_true rfl⟩ (fun vh2 Lh2 Eh2 h2 => ?_)
  obtain ⟨rfl, rfl, rfl⟩ := h2
  refine q_st (st2 := [.null]) rfl ?_
  refine q_astoreN (lv2 := [(4, .null), (3, .null), (0, .ref h0), (1, .int a), (2, .int b)]) C dX11_saved_17 (by decide) rfl ?_
  refine q_aload_nN (j := 1) C dX11_saved_19 rfl ?_
  refine q_ifnullN (tgt := 28) C dX11_saved_20 (by decide) ?_
  refine q_aload_n (j := 2) C dX11_saved_28 rfl ?_
  refine q_iconst (v := 3) C dX11_saved_29 (by decide) ?_
  refine q_callV (d2 := 0) (mc2 := 0) (ms2 := 0) (As := [.int 3]) (rest := []) C (c_refuse 3 hL hE) dX11_saved_30 kV_X11_102 rfl hL hE ck_12 rfl (Nat.le_of_ble_eq_true rfl) ⟨Nat.le_of_ble_eq_true rfl, Nat.le_of_ble_eq_true rfl⟩ ⟨Nat.le_of_ble_eq_true rfl, Nat.le_of_ble_eq_true rfl⟩ (fun vh3 Lh3 Eh3 h3 => ?_)
  obtain ⟨rfl, rfl, rfl⟩ := h3
  refine q_st (st2 := [.int (-1)]) rfl ?_
  exact q_iret C dX11_saved_33 rfl (Nat.le_of_ble_eq_true rfl) (Nat.le_of_ble_eq_true rfl) rfl
set_option maxHeartbeats 4000000 in
set_option maxRecDepth 100000 in
theorem x_undo {l : Launch} {G : GT} {L : List Nat} {E : Nat → va_E}  {h0 tb md ch : Nat} {f fT fm fc : Nat → Value} (hL : h0 ∈ L) (hE : E h0 = ob 12 19 f) (f4 : f 4 = .ref tb) (hLtb : tb ∈ L) (hEtb : E tb = ob 11 2 fT) (fT0 : fT 0 = .ref md) (fT1 : fT 1 = .ref ch) (hLmd : md ∈ L) (hEmd : E md = ob 0 3 fm) (fm2 : fm 2 = .int 0) (hLch : ch ∈ L) (hEch : E ch = ob 0 3 fc) (fc2 : fc 2 = .int 0) : Mq l G yX11_undo cX11_undo 1 (some .int) 5 [.ref h0] L E 0 0 (fun v L2 E2 => v = some (.int 0)) := by
  refine Mq.mk (by decide) (Nat.le_of_ble_eq_true rfl) ?_
  intro p e s m args below meth c A C
  refine q_aload_n (j := 0) C dX11_undo_0 rfl ?_
  refine q_aload_n (j := 0) C dX11_undo_1 rfl ?_
  refine q_get (k := 4) (v := .ref tb) C ck_12 dX11_undo_2 w2_48 (by decide) hL hE f4 ?_
  refine q_callV (d2 := 1) (mc2 := 0) (ms2 := 0) (As := []) (rest := [.ref h0]) C (c_takeBack0  hLtb hEtb fT0 fT1 hLmd hEmd fm2 hLch hEch fc2) dX11_undo_5 kV_X11_218 rfl hLtb hEtb ck_11 rfl (Nat.le_of_ble_eq_true rfl) ⟨Nat.le_of_ble_eq_true rfl, Nat.le_of_ble_eq_true rfl⟩ ⟨Nat.le_of_ble_eq_true rfl, Nat.le_of_ble_eq_true rfl⟩ (fun vh1 Lh1 Eh1 h1 => ?_)
  obtain ⟨rfl, rfl, rfl⟩ := h1
  refine q_st (st2 := [.int 0, .ref h0]) rfl ?_
  refine q_if_eq (tgt := 15) C dX11_undo_8 (by decide) (fun _ => ?_) (fun z => absurd (by decide) z)
  refine q_iconst (v := 0) C dX11_undo_15 (by decide) ?_
  refine q_callV (d2 := 0) (mc2 := 0) (ms2 := 0) (As := [.int 0]) (rest := []) C (c_done 0 hL hE) dX11_undo_16 kV_X11_109 rfl hL hE ck_12 rfl (Nat.le_of_ble_eq_true rfl) ⟨Nat.le_of_ble_eq_true rfl, Nat.le_of_ble_eq_true rfl⟩ ⟨Nat.le_of_ble_eq_true rfl, Nat.le_of_ble_eq_true rfl⟩ (fun vh2 Lh2 Eh2 h2 => ?_)
  obtain ⟨rfl, rfl, rfl⟩ := h2
  refine q_st (st2 := [.int 0]) rfl ?_
  exact q_iret C dX11_undo_19 rfl (Nat.le_of_ble_eq_true rfl) (Nat.le_of_ble_eq_true rfl) rfl
set_option maxHeartbeats 4000000 in
set_option maxRecDepth 100000 in
theorem x_lose {l : Launch} {G : GT} {L : List Nat} {E : Nat → va_E} (l0 : Int32)  {h0 sh : Nat} {f fs : Nat → Value} (hL : h0 ∈ L) (hE : E h0 = ob 12 19 f) (f9 : f 9 = .ref sh) (hLsh : sh ∈ L) (hEsh : E sh = ob 8 3 fs) (fs1 : fs 1 = .int 0) : Mq l G yX11_lose cX11_lose 3 (some .int) 5 [.ref h0, .int l0] L E 0 0 (fun v L2 E2 => v = some (.int (-1))) := by
  refine Mq.mk (by decide) (Nat.le_of_ble_eq_true rfl) ?_
  intro p e s m args below meth c A C
  refine q_aload_n (j := 0) C dX11_lose_0 rfl ?_
  refine q_get (k := 9) (v := .ref sh) C ck_12 dX11_lose_1 w2_53 (by decide) hL hE f9 ?_
  refine q_iload_n (j := 1) C dX11_lose_4 rfl ?_
  refine q_callV (d2 := 0) (mc2 := 0) (ms2 := 0) (As := [.int l0]) (rest := []) C (c_sat0 l0 hLsh hEsh fs1) dX11_lose_5 kV_X11_308 rfl hLsh hEsh ck_8 rfl (Nat.le_of_ble_eq_true rfl) ⟨Nat.le_of_ble_eq_true rfl, Nat.le_of_ble_eq_true rfl⟩ ⟨Nat.le_of_ble_eq_true rfl, Nat.le_of_ble_eq_true rfl⟩ (fun vh1 Lh1 Eh1 h1 => ?_)
  obtain ⟨rfl, rfl, rfl⟩ := h1
  refine q_st (st2 := [.null]) rfl ?_
  refine q_astore_nN (lv2 := [(2, .null), (0, .ref h0), (1, .int l0)]) C dX11_lose_8 (by decide) rfl ?_
  refine q_aload_nN (j := 0) C dX11_lose_9 rfl ?_
  refine q_ifnonnullN C dX11_lose_10 ?_
  refine q_aload_n (j := 1) C dX11_lose_13 rfl ?_
  refine q_iconst (v := 2) C dX11_lose_14 (by decide) ?_
  refine q_callV (d2 := 0) (mc2 := 0) (ms2 := 0) (As := [.int 2]) (rest := []) C (c_refuse 2 hL hE) dX11_lose_15 kV_X11_102 rfl hL hE ck_12 rfl (Nat.le_of_ble_eq_true rfl) ⟨Nat.le_of_ble_eq_true rfl, Nat.le_of_ble_eq_true rfl⟩ ⟨Nat.le_of_ble_eq_true rfl, Nat.le_of_ble_eq_true rfl⟩ (fun vh2 Lh2 Eh2 h2 => ?_)
  obtain ⟨rfl, rfl, rfl⟩ := h2
  refine q_st (st2 := [.int (-1)]) rfl ?_
  exact q_iret C dX11_lose_18 rfl (Nat.le_of_ble_eq_true rfl) (Nat.le_of_ble_eq_true rfl) rfl
set_option maxHeartbeats 4000000 in
set_option maxRecDepth 100000 in
theorem x_length {l : Launch} {G : GT} {L : List Nat} {E : Nat → va_E} (l0 : Int32)  {h0 sh : Nat} {f fs : Nat → Value} (hL : h0 ∈ L) (hE : E h0 = ob 12 19 f) (f9 : f 9 = .ref sh) (hLsh : sh ∈ L) (hEsh : E sh = ob 8 3 fs) (fs1 : fs 1 = .int 0) : Mq l G yX11_length cX11_length 3 (some .int) 5 [.ref h0, .int l0] L E 0 0 (fun v L2 E2 => v = some (.int (-1))) := by
  refine Mq.mk (by decide) (Nat.le_of_ble_eq_true rfl) ?_
  intro p e s m args below meth c A C
  refine q_aload_n (j := 0) C dX11_length_0 rfl ?_
  refine q_get (k := 9) (v := .ref sh) C ck_12 dX11_length_1 w2_53 (by decide) hL hE f9 ?_
  refine q_iload_n (j := 1) C dX11_length_4 rfl ?_
  refine q_callV (d2 := 1) (mc2 := 0) (ms2 := 0) (As := [.int l0]) (rest := []) C (c_present0 l0 hLsh hEsh fs1) dX11_length_5 kV_X11_288 rfl hLsh hEsh ck_8 rfl (Nat.le_of_ble_eq_true rfl) ⟨Nat.le_of_ble_eq_true rfl, Nat.le_of_ble_eq_true rfl⟩ ⟨Nat.le_of_ble_eq_true rfl, Nat.le_of_ble_eq_true rfl⟩ (fun vh1 Lh1 Eh1 h1 => ?_)
  obtain ⟨rfl, rfl, rfl⟩ := h1
  refine q_st (st2 := [.null]) rfl ?_
  refine q_astore_nN (lv2 := [(2, .null), (0, .ref h0), (1, .int l0)]) C dX11_length_8 (by decide) rfl ?_
  refine q_aload_nN (j := 0) C dX11_length_9 rfl ?_
  refine q_ifnonnullN C dX11_length_10 ?_
  refine q_aload_n (j := 1) C dX11_length_13 rfl ?_
  refine q_aload_n (j := 1) C dX11_length_14 rfl ?_
  refine q_get (k := 9) (v := .ref sh) C ck_12 dX11_length_15 w2_53 (by decide) hL hE f9 ?_
  refine q_iload_n (j := 2) C dX11_length_18 rfl ?_
  refine q_callV (d2 := 1) (mc2 := 0) (ms2 := 0) (As := [.int l0]) (rest := [.ref h0]) C (c_whyNone0 l0 hLsh hEsh fs1) dX11_length_19 kV_X11_292 rfl hLsh hEsh ck_8 rfl (Nat.le_of_ble_eq_true rfl) ⟨Nat.le_of_ble_eq_true rfl, Nat.le_of_ble_eq_true rfl⟩ ⟨Nat.le_of_ble_eq_true rfl, Nat.le_of_ble_eq_true rfl⟩ (fun vh2 Lh2 Eh2 h2 => ?_)
  obtain ⟨rfl, rfl, rfl⟩ := h2
  refine q_st (st2 := [.int 2, .ref h0]) rfl ?_
  refine q_callV (d2 := 0) (mc2 := 0) (ms2 := 0) (As := [.int 2]) (rest := []) C (c_refuse 2 hL hE) dX11_length_22 kV_X11_102 rfl hL hE ck_12 rfl (Nat.le_of_ble_eq_true rfl) ⟨Nat.le_of_ble_eq_true rfl, Nat.le_of_ble_eq_true rfl⟩ ⟨Nat.le_of_ble_eq_true rfl, Nat.le_of_ble_eq_true rfl⟩ (fun vh3 Lh3 Eh3 h3 => ?_)
  obtain ⟨rfl, rfl, rfl⟩ := h3
  refine q_st (st2 := [.int (-1)]) rfl ?_
  refine q_goto (tgt := 36) C dX11_length_25 (by decide) ?_
  exact q_iret C dX11_length_36 rfl (Nat.le_of_ble_eq_true rfl) (Nat.le_of_ble_eq_true rfl) rfl
set_option maxHeartbeats 4000000 in
set_option maxRecDepth 100000 in
theorem x_copyRow {l : Launch} {G : GT} {L : List Nat} {E : Nat → va_E} (a b c1 d1 n : Int32)  {h0 sh : Nat} {f fs : Nat → Value} (hL : h0 ∈ L) (hE : E h0 = ob 12 19 f) (f9 : f 9 = .ref sh) (hLsh : sh ∈ L) (hEsh : E sh = ob 8 3 fs) (fs1 : fs 1 = .int 0) : Mq l G yX11_copyRow cX11_copyRow 8 (some .int) 5 [.ref h0, .int a, .int b, .int c1, .int d1, .int n] L E 0 0 (fun v L2 E2 => v = some (.int (-1))) := by
  refine Mq.mk (by decide) (Nat.le_of_ble_eq_true rfl) ?_
  intro p e s m args below meth c A C
  refine q_aload_n (j := 0) C dX11_copyRow_0 rfl ?_
  refine q_get (k := 9) (v := .ref sh) C ck_12 dX11_copyRow_1 w2_53 (by decide) hL hE f9 ?_
  refine q_iload_n (j := 1) C dX11_copyRow_4 rfl ?_
  refine q_callV (d2 := 0) (mc2 := 0) (ms2 := 0) (As := [.int a]) (rest := []) C (c_sat0 a hLsh hEsh fs1) dX11_copyRow_5 kV_X11_308 rfl hLsh hEsh ck_8 rfl (Nat.le_of_ble_eq_true rfl) ⟨Nat.le_of_ble_eq_true rfl, Nat.le_of_ble_eq_true rfl⟩ ⟨Nat.le_of_ble_eq_true rfl, Nat.le_of_ble_eq_true rfl⟩ (fun vh1 Lh1 Eh1 h1 => ?_)
  obtain ⟨rfl, rfl, rfl⟩ := h1
  refine q_st (st2 := [.null]) rfl ?_
  refine q_astoreN (lv2 := [(6, .null), (0, .ref h0), (1, .int a), (2, .int b), (3, .int c1), (4, .int d1), (5, .int n)]) C dX11_copyRow_8 (by decide) rfl ?_
  refine q_aload_n (j := 1) C dX11_copyRow_10 rfl ?_
  refine q_get (k := 9) (v := .ref sh) C ck_12 dX11_copyRow_11 w2_53 (by decide) hL hE f9 ?_
  refine q_iload_n (j := 4) C dX11_copyRow_14 rfl ?_
  refine q_callV (d2 := 0) (mc2 := 0) (ms2 := 0) (As := [.int c1]) (rest := []) C (c_sat0 c1 hLsh hEsh fs1) dX11_copyRow_15 kV_X11_308 rfl hLsh hEsh ck_8 rfl (Nat.le_of_ble_eq_true rfl) ⟨Nat.le_of_ble_eq_true rfl, Nat.le_of_ble_eq_true rfl⟩ ⟨Nat.le_of_ble_eq_true rfl, Nat.le_of_ble_eq_true rfl⟩ (fun vh2 Lh2 Eh2 h2 => ?_)
  obtain ⟨rfl, rfl, rfl⟩ := h2
  refine q_st (st2 := [.null]) rfl ?_
  refine q_astoreN (lv2 := [(7, .null), (6, .null), (0, .ref h0), (1, .int a), (2, .int b), (3, .int c1), (4, .int d1), (5, .int n)]) C dX11_copyRow_18 (by decide) rfl ?_
  refine q_aloadN (j := 1) C dX11_copyRow_20 rfl ?_
  refine q_ifnullN (tgt := 30) C dX11_copyRow_22 (by decide) ?_
  refine q_aload_n (j := 2) C dX11_copyRow_30 rfl ?_
  refine q_iconst (v := 2) C dX11_copyRow_31 (by decide) ?_
  refine q_callV (d2 := 0) (mc2 := 0) (ms2 := 0) (As := [.int 2]) (rest := []) C (c_refuse 2 hL hE) dX11_copyRow_32 kV_X11_102 rfl hL hE ck_12 rfl (Nat.le_of_ble_eq_true rfl) ⟨Nat.le_of_ble_eq_true rfl, Nat.le_of_ble_eq_true rfl⟩ ⟨Nat.le_of_ble_eq_true rfl, Nat.le_of_ble_eq_true rfl⟩ (fun vh3 Lh3 Eh3 h3 => ?_)
  obtain ⟨rfl, rfl, rfl⟩ := h3
  refine q_st (st2 := [.int (-1)]) rfl ?_
  exact q_iret C dX11_copyRow_35 rfl (Nat.le_of_ble_eq_true rfl) (Nat.le_of_ble_eq_true rfl) rfl
set_option maxHeartbeats 4000000 in
set_option maxRecDepth 100000 in
theorem x_reading {l : Launch} {G : GT} {L : List Nat} {E : Nat → va_E} (k i : Int32)  {h0 fo : Nat} {f ff : Nat → Value} (hL : h0 ∈ L) (hE : E h0 = ob 12 19 f) (f8 : f 8 = .ref fo) (hLfo : fo ∈ L) (hEfo : E fo = ob 5 11 ff) (ff5 : ff 5 = .int 0) : Mq l G yX11_reading cX11_reading 4 (some .int) 5 [.ref h0, .int k, .int i] L E 0 0 (fun v L2 E2 => v = some (.int (-1))) := by
  refine Mq.mk (by decide) (Nat.le_of_ble_eq_true rfl) ?_
  intro p e s m args below meth c A C
  refine q_aload_n (j := 0) C dX11_reading_0 rfl ?_
  refine q_get (k := 8) (v := .ref fo) C ck_12 dX11_reading_1 w2_52 (by decide) hL hE f8 ?_
  refine q_iload_n (j := 1) C dX11_reading_4 rfl ?_
  refine q_iload_n (j := 2) C dX11_reading_5 rfl ?_
  refine q_callV (d2 := 0) (mc2 := 0) (ms2 := 0) (As := [.int k, .int i]) (rest := []) C (c_byteOf0 k i hLfo hEfo ff5) dX11_reading_6 kV_X11_364 rfl hLfo hEfo ck_5 rfl (Nat.le_of_ble_eq_true rfl) ⟨Nat.le_of_ble_eq_true rfl, Nat.le_of_ble_eq_true rfl⟩ ⟨Nat.le_of_ble_eq_true rfl, Nat.le_of_ble_eq_true rfl⟩ (fun vh1 Lh1 Eh1 h1 => ?_)
  obtain ⟨rfl, rfl, rfl⟩ := h1
  refine q_st (st2 := [.int (-1)]) rfl ?_
  refine q_istore_n (lv2 := [(3, .int (-1)), (0, .ref h0), (1, .int k), (2, .int i)]) C dX11_reading_9 (by decide) rfl ?_
  refine q_iload_n (j := 0) C dX11_reading_10 rfl ?_
  refine q_if_ge (tgt := 22) C dX11_reading_11 (by decide) (fun z => absurd z (by decide)) (fun _ => ?_)
  refine q_aload_n (j := 1) C dX11_reading_14 rfl ?_
  refine q_iconst (v := 2) C dX11_reading_15 (by decide) ?_
  refine q_callV (d2 := 0) (mc2 := 0) (ms2 := 0) (As := [.int 2]) (rest := []) C (c_refuse 2 hL hE) dX11_reading_16 kV_X11_102 rfl hL hE ck_12 rfl (Nat.le_of_ble_eq_true rfl) ⟨Nat.le_of_ble_eq_true rfl, Nat.le_of_ble_eq_true rfl⟩ ⟨Nat.le_of_ble_eq_true rfl, Nat.le_of_ble_eq_true rfl⟩ (fun vh2 Lh2 Eh2 h2 => ?_)
  obtain ⟨rfl, rfl, rfl⟩ := h2
  refine q_st (st2 := [.int (-1)]) rfl ?_
  refine q_goto (tgt := 27) C dX11_reading_19 (by decide) ?_
  exact q_iret C dX11_reading_27 rfl (Nat.le_of_ble_eq_true rfl) (Nat.le_of_ble_eq_true rfl) rfl
set_option maxHeartbeats 4000000 in
set_option maxRecDepth 100000 in
theorem x_letter {l : Launch} {G : GT} {L : List Nat} {E : Nat → va_E} (i : Int32)  {h0 br : Nat} {f fb : Nat → Value} (hL : h0 ∈ L) (hE : E h0 = ob 12 19 f) (f2 : f 2 = .ref br) (hLbr : br ∈ L) (hEbr : E br = ob 2 3 fb) (fb2 : fb 2 = .int 0) : Mq l G yX11_letter cX11_letter 2 (some .int) 5 [.ref h0, .int i] L E 0 0 (fun v L2 E2 => v = some (.int (-1))) := by
  refine Mq.mk (by decide) (Nat.le_of_ble_eq_true rfl) ?_
  intro p e s m args below meth c A C
  refine q_iload_n (j := 1) C dX11_letter_0 rfl ?_
  refine q_if_lt (tgt := 15) C dX11_letter_1 (by decide) (fun c1 => ?_) (fun c1 => ?_)
  · refine q_aload_n (j := 0) C dX11_letter_15 rfl ?_
    refine q_iconst (v := 2) C dX11_letter_16 (by decide) ?_
    refine q_callV (d2 := 0) (mc2 := 0) (ms2 := 0) (As := [.int 2]) (rest := []) C (c_refuse 2 hL hE) dX11_letter_17 kV_X11_102 rfl hL hE ck_12 rfl (Nat.le_of_ble_eq_true rfl) ⟨Nat.le_of_ble_eq_true rfl, Nat.le_of_ble_eq_true rfl⟩ ⟨Nat.le_of_ble_eq_true rfl, Nat.le_of_ble_eq_true rfl⟩ (fun vh1 Lh1 Eh1 h1 => ?_)
    obtain ⟨rfl, rfl, rfl⟩ := h1
    refine q_st (st2 := [.int (-1)]) rfl ?_
    refine q_goto (tgt := 35) C dX11_letter_20 (by decide) ?_
    exact q_iret C dX11_letter_35 rfl (Nat.le_of_ble_eq_true rfl) (Nat.le_of_ble_eq_true rfl) rfl
  · refine q_iload_n (j := 1) C dX11_letter_4 rfl ?_
    refine q_aload_n (j := 0) C dX11_letter_5 rfl ?_
    refine q_get (k := 2) (v := .ref br) C ck_12 dX11_letter_6 w2_46 (by decide) hL hE f2 ?_
    refine q_get (k := 2) (v := .int 0) C ck_2 dX11_letter_9 w1_44 (by decide) hLbr hEbr fb2 ?_
    refine q_icmp_lt (tgt := 23) C dX11_letter_12 (by decide) (fun z => absurd z (by have hz := c1; simp only [i32_lt, i32_le, i32_eq, inn_f, Decidable.not_not, tn_m1, tn_0, tn_1, tn_2, tn_3, tn_4, tn_5, tn_6, tn_7, tn_8, tn_10, tn_30, tn_31, tn_32, tn_36, tn_40, tn_50, tn_100, tn_126, tn_200, tn_255, tn_500, tn_512, tn_3000, tn_5000] at hz ⊢; omega)) (fun _ => ?_)
    refine q_aload_n (j := 0) C dX11_letter_15 rfl ?_
    refine q_iconst (v := 2) C dX11_letter_16 (by decide) ?_
    refine q_callV (d2 := 0) (mc2 := 0) (ms2 := 0) (As := [.int 2]) (rest := []) C (c_refuse 2 hL hE) dX11_letter_17 kV_X11_102 rfl hL hE ck_12 rfl (Nat.le_of_ble_eq_true rfl) ⟨Nat.le_of_ble_eq_true rfl, Nat.le_of_ble_eq_true rfl⟩ ⟨Nat.le_of_ble_eq_true rfl, Nat.le_of_ble_eq_true rfl⟩ (fun vh2 Lh2 Eh2 h2 => ?_)
    obtain ⟨rfl, rfl, rfl⟩ := h2
    refine q_st (st2 := [.int (-1)]) rfl ?_
    refine q_goto (tgt := 35) C dX11_letter_20 (by decide) ?_
    exact q_iret C dX11_letter_35 rfl (Nat.le_of_ble_eq_true rfl) (Nat.le_of_ble_eq_true rfl) rfl
set_option maxHeartbeats 4000000 in
set_option maxRecDepth 100000 in
theorem x_finds {l : Launch} {G : GT} {L : List Nat} {E : Nat → va_E} (k : Int32)  {h0 wd fi : Nat} {f fd : Nat → Value} (hL : h0 ∈ L) (hE : E h0 = ob 12 19 f) (f6 : f 6 = .ref wd) (hLwd : wd ∈ L) (hEwd : E wd = ob 7 12 fd) (fd8 : fd 8 = .ref fi) (hLfi : fi ∈ L) (hEfi : E fi = aI G 5 (fun _ => 0)) : Mq l G yX11_finds cX11_finds 2 (some .int) 5 [.ref h0, .int k] L E 0 0 (fun v L2 E2 => v = some (.int 0)) := by
  refine Mq.mk (by decide) (Nat.le_of_ble_eq_true rfl) ?_
  intro p e s m args below meth c A C
  refine q_aload_n (j := 0) C dX11_finds_0 rfl ?_
  refine q_get (k := 6) (v := .ref wd) C ck_12 dX11_finds_1 w2_50 (by decide) hL hE f6 ?_
  refine q_iload_n (j := 1) C dX11_finds_4 rfl ?_
  refine q_callV (d2 := 0) (mc2 := 0) (ms2 := 0) (As := [.int k]) (rest := []) C (c_findsOf0 k hLwd hEwd fd8 hLfi hEfi) dX11_finds_5 kV_X11_413 rfl hLwd hEwd ck_7 rfl (Nat.le_of_ble_eq_true rfl) ⟨Nat.le_of_ble_eq_true rfl, Nat.le_of_ble_eq_true rfl⟩ ⟨Nat.le_of_ble_eq_true rfl, Nat.le_of_ble_eq_true rfl⟩ (fun vh1 Lh1 Eh1 h1 => ?_)
  obtain ⟨rfl, rfl, rfl⟩ := h1
  refine q_st (st2 := [.int 0]) rfl ?_
  exact q_iret C dX11_finds_8 rfl (Nat.le_of_ble_eq_true rfl) (Nat.le_of_ble_eq_true rfl) rfl
set_option maxHeartbeats 4000000 in
set_option maxRecDepth 100000 in
theorem x_readings {l : Launch} {G : GT} {L : List Nat} {E : Nat → va_E} (t l0 most : Int32)  {h0 tb md ch : Nat} {f fT fm fc : Nat → Value} (hL : h0 ∈ L) (hE : E h0 = ob 12 19 f) (f4 : f 4 = .ref tb) (hLtb : tb ∈ L) (hEtb : E tb = ob 11 2 fT) (fT0 : fT 0 = .ref md) (fT1 : fT 1 = .ref ch) (hLmd : md ∈ L) (hEmd : E md = ob 0 3 fm) (fm2 : fm 2 = .int 0) (hLch : ch ∈ L) (hEch : E ch = ob 0 3 fc) (fc2 : fc 2 = .int 0) : Mq l G yX11_readings cX11_readings 6 (some .int) 5 [.ref h0, .int t, .int l0, .int most] L E 0 0 (fun v L2 E2 => v = some (.int (-1))) := by
  refine Mq.mk (by decide) (Nat.le_of_ble_eq_true rfl) ?_
  intro p e s m args below meth c A C
  refine q_iload_n (j := 3) C dX11_readings_0 rfl ?_
  refine q_iconst (v := 1) C dX11_readings_1 (by decide) ?_
  refine q_icmp_lt (tgt := 11) C dX11_readings_2 (by decide) (fun c1 => ?_) (fun c1 => ?_)
  · refine q_aload_n (j := 0) C dX11_readings_11 rfl ?_
    refine q_bipush (v := 6) C dX11_readings_12 (by decide) ?_
    refine q_callV (d2 := 0) (mc2 := 0) (ms2 := 0) (As := [.int 6]) (rest := []) C (c_refuse 6 hL hE) dX11_readings_14 kV_X11_102 rfl hL hE ck_12 rfl (Nat.le_of_ble_eq_true rfl) ⟨Nat.le_of_ble_eq_true rfl, Nat.le_of_ble_eq_true rfl⟩ ⟨Nat.le_of_ble_eq_true rfl, Nat.le_of_ble_eq_true rfl⟩ (fun vh1 Lh1 Eh1 h1 => ?_)
    obtain ⟨rfl, rfl, rfl⟩ := h1
    refine q_st (st2 := [.int (-1)]) rfl ?_
    exact q_iret C dX11_readings_17 rfl (Nat.le_of_ble_eq_true rfl) (Nat.le_of_ble_eq_true rfl) rfl
  · refine q_iload_n (j := 3) C dX11_readings_5 rfl ?_
    refine q_bipush (v := 50) C dX11_readings_6 (by decide) ?_
    refine q_icmp_le (tgt := 18) C dX11_readings_8 (by decide) (fun c2 => ?_) (fun c2 => ?_)
    · refine q_aload_n (j := 0) C dX11_readings_18 rfl ?_
      refine q_get (k := 4) (v := .ref tb) C ck_12 dX11_readings_19 w2_48 (by decide) hL hE f4 ?_
      refine q_iload_n (j := 1) C dX11_readings_22 rfl ?_
      refine q_callV (d2 := 2) (mc2 := 0) (ms2 := 0) (As := [.int t]) (rest := []) C (c_whole0 t hLtb hEtb fT0 fT1 hLmd hEmd fm2 hLch hEch fc2) dX11_readings_23 kV_X11_231 rfl hLtb hEtb ck_11 rfl (Nat.le_of_ble_eq_true rfl) ⟨Nat.le_of_ble_eq_true rfl, Nat.le_of_ble_eq_true rfl⟩ ⟨Nat.le_of_ble_eq_true rfl, Nat.le_of_ble_eq_true rfl⟩ (fun vh2 Lh2 Eh2 h2 => ?_)
      obtain ⟨rfl, rfl, rfl⟩ := h2
      refine q_st (st2 := [.null]) rfl ?_
      refine q_astoreN (lv2 := [(4, .null), (0, .ref h0), (1, .int t), (2, .int l0), (3, .int most)]) C dX11_readings_26 (by decide) rfl ?_
      refine q_aloadN (j := 0) C dX11_readings_28 rfl ?_
      refine q_ifnonnullN C dX11_readings_30 ?_
      refine q_aload_n (j := 1) C dX11_readings_33 rfl ?_
      refine q_iconst (v := 3) C dX11_readings_34 (by decide) ?_
      refine q_callV (d2 := 0) (mc2 := 0) (ms2 := 0) (As := [.int 3]) (rest := []) C (c_refuse 3 hL hE) dX11_readings_35 kV_X11_102 rfl hL hE ck_12 rfl (Nat.le_of_ble_eq_true rfl) ⟨Nat.le_of_ble_eq_true rfl, Nat.le_of_ble_eq_true rfl⟩ ⟨Nat.le_of_ble_eq_true rfl, Nat.le_of_ble_eq_true rfl⟩ (fun vh3 Lh3 Eh3 h3 => ?_)
      obtain ⟨rfl, rfl, rfl⟩ := h3
      refine q_st (st2 := [.int (-1)]) rfl ?_
      exact q_iret C dX11_readings_38 rfl (Nat.le_of_ble_eq_true rfl) (Nat.le_of_ble_eq_true rfl) rfl
    · refine q_aload_n (j := 0) C dX11_readings_11 rfl ?_
      refine q_bipush (v := 6) C dX11_readings_12 (by decide) ?_
      refine q_callV (d2 := 0) (mc2 := 0) (ms2 := 0) (As := [.int 6]) (rest := []) C (c_refuse 6 hL hE) dX11_readings_14 kV_X11_102 rfl hL hE ck_12 rfl (Nat.le_of_ble_eq_true rfl) ⟨Nat.le_of_ble_eq_true rfl, Nat.le_of_ble_eq_true rfl⟩ ⟨Nat.le_of_ble_eq_true rfl, Nat.le_of_ble_eq_true rfl⟩ (fun vh4 Lh4 Eh4 h4 => ?_)
      obtain ⟨rfl, rfl, rfl⟩ := h4
      refine q_st (st2 := [.int (-1)]) rfl ?_
      exact q_iret C dX11_readings_17 rfl (Nat.le_of_ble_eq_true rfl) (Nat.le_of_ble_eq_true rfl) rfl
set_option maxHeartbeats 4000000 in
set_option maxRecDepth 100000 in
theorem x_unreadable {l : Launch} {G : GT} {L : List Nat} {E : Nat → va_E} (t n most : Int32)  {h0 tb md ch : Nat} {f fT fm fc : Nat → Value} (hL : h0 ∈ L) (hE : E h0 = ob 12 19 f) (f4 : f 4 = .ref tb) (hLtb : tb ∈ L) (hEtb : E tb = ob 11 2 fT) (fT0 : fT 0 = .ref md) (fT1 : fT 1 = .ref ch) (hLmd : md ∈ L) (hEmd : E md = ob 0 3 fm) (fm2 : fm 2 = .int 0) (hLch : ch ∈ L) (hEch : E ch = ob 0 3 fc) (fc2 : fc 2 = .int 0) : Mq l G yX11_unreadable cX11_unreadable 7 (some .int) 5 [.ref h0, .int t, .int n, .int most] L E 0 0 (fun v L2 E2 => v = some (.int (-1))) := by
  refine Mq.mk (by decide) (Nat.le_of_ble_eq_true rfl) ?_
  intro p e s m args below meth c A C
  refine q_iload_n (j := 2) C dX11_unreadable_0 rfl ?_
  refine q_iconst (v := 1) C dX11_unreadable_1 (by decide) ?_
  refine q_icmp_lt (tgt := 23) C dX11_unreadable_2 (by decide) (fun c1 => ?_) (fun c1 => ?_)
  · refine q_aload_n (j := 0) C dX11_unreadable_23 rfl ?_
    refine q_bipush (v := 6) C dX11_unreadable_24 (by decide) ?_
    refine q_callV (d2 := 0) (mc2 := 0) (ms2 := 0) (As := [.int 6]) (rest := []) C (c_refuse 6 hL hE) dX11_unreadable_26 kV_X11_102 rfl hL hE ck_12 rfl (Nat.le_of_ble_eq_true rfl) ⟨Nat.le_of_ble_eq_true rfl, Nat.le_of_ble_eq_true rfl⟩ ⟨Nat.le_of_ble_eq_true rfl, Nat.le_of_ble_eq_true rfl⟩ (fun vh1 Lh1 Eh1 h1 => ?_)
    obtain ⟨rfl, rfl, rfl⟩ := h1
    refine q_st (st2 := [.int (-1)]) rfl ?_
    exact q_iret C dX11_unreadable_29 rfl (Nat.le_of_ble_eq_true rfl) (Nat.le_of_ble_eq_true rfl) rfl
  · refine q_iload_n (j := 2) C dX11_unreadable_5 rfl ?_
    refine q_bipush (v := 6) C dX11_unreadable_6 (by decide) ?_
    refine q_icmp_gt (tgt := 23) C dX11_unreadable_8 (by decide) (fun c2 => ?_) (fun c2 => ?_)
    · refine q_aload_n (j := 0) C dX11_unreadable_23 rfl ?_
      refine q_bipush (v := 6) C dX11_unreadable_24 (by decide) ?_
      refine q_callV (d2 := 0) (mc2 := 0) (ms2 := 0) (As := [.int 6]) (rest := []) C (c_refuse 6 hL hE) dX11_unreadable_26 kV_X11_102 rfl hL hE ck_12 rfl (Nat.le_of_ble_eq_true rfl) ⟨Nat.le_of_ble_eq_true rfl, Nat.le_of_ble_eq_true rfl⟩ ⟨Nat.le_of_ble_eq_true rfl, Nat.le_of_ble_eq_true rfl⟩ (fun vh2 Lh2 Eh2 h2 => ?_)
      obtain ⟨rfl, rfl, rfl⟩ := h2
      refine q_st (st2 := [.int (-1)]) rfl ?_
      exact q_iret C dX11_unreadable_29 rfl (Nat.le_of_ble_eq_true rfl) (Nat.le_of_ble_eq_true rfl) rfl
    · refine q_iload_n (j := 3) C dX11_unreadable_11 rfl ?_
      refine q_iconst (v := 1) C dX11_unreadable_12 (by decide) ?_
      refine q_icmp_lt (tgt := 23) C dX11_unreadable_13 (by decide) (fun c3 => ?_) (fun c3 => ?_)
      · refine q_aload_n (j := 0) C dX11_unreadable_23 rfl ?_
        refine q_bipush (v := 6) C dX11_unreadable_24 (by decide) ?_
        refine q_callV (d2 := 0) (mc2 := 0) (ms2 := 0) (As := [.int 6]) (rest := []) C (c_refuse 6 hL hE) dX11_unreadable_26 kV_X11_102 rfl hL hE ck_12 rfl (Nat.le_of_ble_eq_true rfl) ⟨Nat.le_of_ble_eq_true rfl, Nat.le_of_ble_eq_true rfl⟩ ⟨Nat.le_of_ble_eq_true rfl, Nat.le_of_ble_eq_true rfl⟩ (fun vh3 Lh3 Eh3 h3 => ?_)
        obtain ⟨rfl, rfl, rfl⟩ := h3
        refine q_st (st2 := [.int (-1)]) rfl ?_
        exact q_iret C dX11_unreadable_29 rfl (Nat.le_of_ble_eq_true rfl) (Nat.le_of_ble_eq_true rfl) rfl
      · refine q_iload_n (j := 3) C dX11_unreadable_16 rfl ?_
        refine q_sipush (v := 5000) C dX11_unreadable_17 (by decide) ?_
        refine q_icmp_le (tgt := 30) C dX11_unreadable_20 (by decide) (fun c4 => ?_) (fun c4 => ?_)
        · refine q_aload_n (j := 0) C dX11_unreadable_30 rfl ?_
          refine q_get (k := 4) (v := .ref tb) C ck_12 dX11_unreadable_31 w2_48 (by decide) hL hE f4 ?_
          refine q_iload_n (j := 1) C dX11_unreadable_34 rfl ?_
          refine q_callV (d2 := 2) (mc2 := 0) (ms2 := 0) (As := [.int t]) (rest := []) C (c_whole0 t hLtb hEtb fT0 fT1 hLmd hEmd fm2 hLch hEch fc2) dX11_unreadable_35 kV_X11_231 rfl hLtb hEtb ck_11 rfl (Nat.le_of_ble_eq_true rfl) ⟨Nat.le_of_ble_eq_true rfl, Nat.le_of_ble_eq_true rfl⟩ ⟨Nat.le_of_ble_eq_true rfl, Nat.le_of_ble_eq_true rfl⟩ (fun vh4 Lh4 Eh4 h4 => ?_)
          obtain ⟨rfl, rfl, rfl⟩ := h4
          refine q_st (st2 := [.null]) rfl ?_
          refine q_astoreN (lv2 := [(4, .null), (0, .ref h0), (1, .int t), (2, .int n), (3, .int most)]) C dX11_unreadable_38 (by decide) rfl ?_
          refine q_aloadN (j := 0) C dX11_unreadable_40 rfl ?_
          refine q_ifnonnullN C dX11_unreadable_42 ?_
          refine q_aload_n (j := 1) C dX11_unreadable_45 rfl ?_
          refine q_iconst (v := 3) C dX11_unreadable_46 (by decide) ?_
          refine q_callV (d2 := 0) (mc2 := 0) (ms2 := 0) (As := [.int 3]) (rest := []) C (c_refuse 3 hL hE) dX11_unreadable_47 kV_X11_102 rfl hL hE ck_12 rfl (Nat.le_of_ble_eq_true rfl) ⟨Nat.le_of_ble_eq_true rfl, Nat.le_of_ble_eq_true rfl⟩ ⟨Nat.le_of_ble_eq_true rfl, Nat.le_of_ble_eq_true rfl⟩ (fun vh5 Lh5 Eh5 h5 => ?_)
          obtain ⟨rfl, rfl, rfl⟩ := h5
          refine q_st (st2 := [.int (-1)]) rfl ?_
          exact q_iret C dX11_unreadable_50 rfl (Nat.le_of_ble_eq_true rfl) (Nat.le_of_ble_eq_true rfl) rfl
        · refine q_aload_n (j := 0) C dX11_unreadable_23 rfl ?_
          refine q_bipush (v := 6) C dX11_unreadable_24 (by decide) ?_
          refine q_callV (d2 := 0) (mc2 := 0) (ms2 := 0) (As := [.int 6]) (rest := []) C (c_refuse 6 hL hE) dX11_unreadable_26 kV_X11_102 rfl hL hE ck_12 rfl (Nat.le_of_ble_eq_true rfl) ⟨Nat.le_of_ble_eq_true rfl, Nat.le_of_ble_eq_true rfl⟩ ⟨Nat.le_of_ble_eq_true rfl, Nat.le_of_ble_eq_true rfl⟩ (fun vh6 Lh6 Eh6 h6 => ?_)
          obtain ⟨rfl, rfl, rfl⟩ := h6
          refine q_st (st2 := [.int (-1)]) rfl ?_
          exact q_iret C dX11_unreadable_29 rfl (Nat.le_of_ble_eq_true rfl) (Nat.le_of_ble_eq_true rfl) rfl
set_option maxHeartbeats 4000000 in
set_option maxRecDepth 100000 in
theorem x_cut {l : Launch} {G : GT} {L : List Nat} {E : Nat → va_E} (l0 n : Int32)  {h0 sh : Nat} {f fs : Nat → Value} (hL : h0 ∈ L) (hE : E h0 = ob 12 19 f) (f9 : f 9 = .ref sh) (hLsh : sh ∈ L) (hEsh : E sh = ob 8 3 fs) (fs1 : fs 1 = .int 0) : Mq l G yX11_cut cX11_cut 4 (some .int) 5 [.ref h0, .int l0, .int n] L E 0 0 (fun v L2 E2 => v = some (.int (-1))) := by
  refine Mq.mk (by decide) (Nat.le_of_ble_eq_true rfl) ?_
  intro p e s m args below meth c A C
  refine q_iload_n (j := 2) C dX11_cut_0 rfl ?_
  refine q_sipush (v := 200) C dX11_cut_1 (by decide) ?_
  refine q_icmp_le (tgt := 14) C dX11_cut_4 (by decide) (fun c1 => ?_) (fun c1 => ?_)
  · refine q_iload_n (j := 2) C dX11_cut_14 rfl ?_
    refine q_if_ge (tgt := 24) C dX11_cut_15 (by decide) (fun c2 => ?_) (fun c2 => ?_)
    · refine q_aload_n (j := 0) C dX11_cut_24 rfl ?_
      refine q_get (k := 9) (v := .ref sh) C ck_12 dX11_cut_25 w2_53 (by decide) hL hE f9 ?_
      refine q_iload_n (j := 1) C dX11_cut_28 rfl ?_
      refine q_callV (d2 := 1) (mc2 := 0) (ms2 := 0) (As := [.int l0]) (rest := []) C (c_present0 l0 hLsh hEsh fs1) dX11_cut_29 kV_X11_288 rfl hLsh hEsh ck_8 rfl (Nat.le_of_ble_eq_true rfl) ⟨Nat.le_of_ble_eq_true rfl, Nat.le_of_ble_eq_true rfl⟩ ⟨Nat.le_of_ble_eq_true rfl, Nat.le_of_ble_eq_true rfl⟩ (fun vh1 Lh1 Eh1 h1 => ?_)
      obtain ⟨rfl, rfl, rfl⟩ := h1
      refine q_st (st2 := [.null]) rfl ?_
      refine q_astore_nN (lv2 := [(3, .null), (0, .ref h0), (1, .int l0), (2, .int n)]) C dX11_cut_32 (by decide) rfl ?_
      refine q_aload_nN (j := 0) C dX11_cut_33 rfl ?_
      refine q_ifnonnullN C dX11_cut_34 ?_
      refine q_aload_n (j := 1) C dX11_cut_37 rfl ?_
      refine q_aload_n (j := 1) C dX11_cut_38 rfl ?_
      refine q_get (k := 9) (v := .ref sh) C ck_12 dX11_cut_39 w2_53 (by decide) hL hE f9 ?_
      refine q_iload_n (j := 2) C dX11_cut_42 rfl ?_
      refine q_callV (d2 := 1) (mc2 := 0) (ms2 := 0) (As := [.int l0]) (rest := [.ref h0]) C (c_whyNone0 l0 hLsh hEsh fs1) dX11_cut_43 kV_X11_292 rfl hLsh hEsh ck_8 rfl (Nat.le_of_ble_eq_true rfl) ⟨Nat.le_of_ble_eq_true rfl, Nat.le_of_ble_eq_true rfl⟩ ⟨Nat.le_of_ble_eq_true rfl, Nat.le_of_ble_eq_true rfl⟩ (fun vh2 Lh2 Eh2 h2 => ?_)
      obtain ⟨rfl, rfl, rfl⟩ := h2
      refine q_st (st2 := [.int 2, .ref h0]) rfl ?_
      refine q_callV (d2 := 0) (mc2 := 0) (ms2 := 0) (As := [.int 2]) (rest := []) C (c_refuse 2 hL hE) dX11_cut_46 kV_X11_102 rfl hL hE ck_12 rfl (Nat.le_of_ble_eq_true rfl) ⟨Nat.le_of_ble_eq_true rfl, Nat.le_of_ble_eq_true rfl⟩ ⟨Nat.le_of_ble_eq_true rfl, Nat.le_of_ble_eq_true rfl⟩ (fun vh3 Lh3 Eh3 h3 => ?_)
      obtain ⟨rfl, rfl, rfl⟩ := h3
      refine q_st (st2 := [.int (-1)]) rfl ?_
      exact q_iret C dX11_cut_49 rfl (Nat.le_of_ble_eq_true rfl) (Nat.le_of_ble_eq_true rfl) rfl
    · refine q_aload_n (j := 0) C dX11_cut_18 rfl ?_
      refine q_iconst (v := 5) C dX11_cut_19 (by decide) ?_
      refine q_callV (d2 := 0) (mc2 := 0) (ms2 := 0) (As := [.int 5]) (rest := []) C (c_refuse 5 hL hE) dX11_cut_20 kV_X11_102 rfl hL hE ck_12 rfl (Nat.le_of_ble_eq_true rfl) ⟨Nat.le_of_ble_eq_true rfl, Nat.le_of_ble_eq_true rfl⟩ ⟨Nat.le_of_ble_eq_true rfl, Nat.le_of_ble_eq_true rfl⟩ (fun vh4 Lh4 Eh4 h4 => ?_)
      obtain ⟨rfl, rfl, rfl⟩ := h4
      refine q_st (st2 := [.int (-1)]) rfl ?_
      exact q_iret C dX11_cut_23 rfl (Nat.le_of_ble_eq_true rfl) (Nat.le_of_ble_eq_true rfl) rfl
  · refine q_aload_n (j := 0) C dX11_cut_7 rfl ?_
    refine q_bipush (v := 6) C dX11_cut_8 (by decide) ?_
    refine q_callV (d2 := 0) (mc2 := 0) (ms2 := 0) (As := [.int 6]) (rest := []) C (c_refuse 6 hL hE) dX11_cut_10 kV_X11_102 rfl hL hE ck_12 rfl (Nat.le_of_ble_eq_true rfl) ⟨Nat.le_of_ble_eq_true rfl, Nat.le_of_ble_eq_true rfl⟩ ⟨Nat.le_of_ble_eq_true rfl, Nat.le_of_ble_eq_true rfl⟩ (fun vh5 Lh5 Eh5 h5 => ?_)
    obtain ⟨rfl, rfl, rfl⟩ := h5
    refine q_st (st2 := [.int (-1)]) rfl ?_
    exact q_iret C dX11_cut_13 rfl (Nat.le_of_ble_eq_true rfl) (Nat.le_of_ble_eq_true rfl) rfl
set_option maxHeartbeats 4000000 in
set_option maxRecDepth 100000 in
theorem x_end {l : Launch} {G : GT} {L : List Nat} {E : Nat → va_E} (n : Int32)  {h0 tp : Nat} {f ft : Nat → Value} (hL : h0 ∈ L) (hE : E h0 = ob 12 19 f) (f0 : f 0 = .ref tp) (hLtp : tp ∈ L) (hEtp : E tp = ob 2 3 ft) (ft2 : ft 2 = .int 0) : Mq l G yX11_end cX11_end 2 (some .int) 5 [.ref h0, .int n] L E 0 0 (fun v L2 E2 => v = some (.int (an_end n))) := by
  refine Mq.mk (by decide) (Nat.le_of_ble_eq_true rfl) ?_
  intro p e s m args below meth c A C
  refine q_iload_n (j := 1) C dX11_end_0 rfl ?_
  refine q_if_ge (tgt := 10) C dX11_end_1 (by decide) (fun c1 => ?_) (fun c1 => ?_)
  · refine q_iload_n (j := 1) C dX11_end_10 rfl ?_
    refine q_aload_n (j := 0) C dX11_end_11 rfl ?_
    refine q_get (k := 0) (v := .ref tp) C ck_12 dX11_end_12 w2_44 (by decide) hL hE f0 ?_
    refine q_get (k := 2) (v := .int 0) C ck_2 dX11_end_15 w1_44 (by decide) hLtp hEtp ft2 ?_
    refine q_icmp_le (tgt := 28) C dX11_end_18 (by decide) (fun c2 => ?_) (fun c2 => ?_)
    · refine q_aload_n (j := 0) C dX11_end_28 rfl ?_
      refine q_get (k := 0) (v := .ref tp) C ck_12 dX11_end_29 w2_44 (by decide) hL hE f0 ?_
      refine q_iload_n (j := 1) C dX11_end_32 rfl ?_
      have hn0 : n = 0 := by simp only [i32_lt, i32_le, i32_eq, inn_f, Decidable.not_not, tn_m1, tn_0, tn_1, tn_2, tn_3, tn_4, tn_5, tn_6, tn_7, tn_8, tn_10, tn_30, tn_31, tn_32, tn_36, tn_40, tn_50, tn_100, tn_126, tn_200, tn_255, tn_500, tn_512, tn_3000, tn_5000] at c1; simp only [i32_lt, i32_le, i32_eq, inn_f, Decidable.not_not, tn_m1, tn_0, tn_1, tn_2, tn_3, tn_4, tn_5, tn_6, tn_7, tn_8, tn_10, tn_30, tn_31, tn_32, tn_36, tn_40, tn_50, tn_100, tn_126, tn_200, tn_255, tn_500, tn_512, tn_3000, tn_5000] at c2; rw [i32_eq]; simp only [i32_lt, i32_le, i32_eq, inn_f, Decidable.not_not, tn_m1, tn_0, tn_1, tn_2, tn_3, tn_4, tn_5, tn_6, tn_7, tn_8, tn_10, tn_30, tn_31, tn_32, tn_36, tn_40, tn_50, tn_100, tn_126, tn_200, tn_255, tn_500, tn_512, tn_3000, tn_5000]; omega
      refine q_callV (d2 := 1) (mc2 := 0) (ms2 := 0) (As := [.int n]) (rest := []) C (c_ikeep0 n hn0 hLtp hEtp ft2) dX11_end_33 kV_X11_115 rfl hLtp hEtp ck_2 rfl (Nat.le_of_ble_eq_true rfl) ⟨Nat.le_of_ble_eq_true rfl, Nat.le_of_ble_eq_true rfl⟩ ⟨Nat.le_of_ble_eq_true rfl, Nat.le_of_ble_eq_true rfl⟩ (fun vh1 Lh1 Eh1 h1 => ?_)
      obtain ⟨rfl, rfl, rfl⟩ := h1
      refine q_st (st2 := []) rfl ?_
      refine q_aload_n (j := 0) C dX11_end_36 rfl ?_
      refine q_iload_n (j := 1) C dX11_end_37 rfl ?_
      refine q_callV (d2 := 0) (mc2 := 0) (ms2 := 0) (As := [.int n]) (rest := []) C (c_done n hL ((va_up_ne _ _ (ne_ob hE hEtp (by decide))).trans hE)) dX11_end_38 kV_X11_109 rfl hL ((va_up_ne _ _ (ne_ob hE hEtp (by decide))).trans hE) ck_12 rfl (Nat.le_of_ble_eq_true rfl) ⟨Nat.le_of_ble_eq_true rfl, Nat.le_of_ble_eq_true rfl⟩ ⟨Nat.le_of_ble_eq_true rfl, Nat.le_of_ble_eq_true rfl⟩ (fun vh2 Lh2 Eh2 h2 => ?_)
      obtain ⟨rfl, rfl, rfl⟩ := h2
      refine q_st (st2 := [.int n]) rfl ?_
      exact q_iret C dX11_end_41 rfl (Nat.le_of_ble_eq_true rfl) (Nat.le_of_ble_eq_true rfl) (by refine congrArg (fun z => some (Value.int z)) ?_; unfold an_end; (try simp only [inn_f, Decidable.not_not] at c1); (try simp only [i32_lt, i32_le, i32_eq, inn_f, Decidable.not_not, tn_m1, tn_0, tn_1, tn_2, tn_3, tn_4, tn_5, tn_6, tn_7, tn_8, tn_10, tn_30, tn_31, tn_32, tn_36, tn_40, tn_50, tn_100, tn_126, tn_200, tn_255, tn_500, tn_512, tn_3000, tn_5000] at c1); (try simp only [inn_f, Decidable.not_not] at c2); (try simp only [i32_lt, i32_le, i32_eq, inn_f, Decidable.not_not, tn_m1, tn_0, tn_1, tn_2, tn_3, tn_4, tn_5, tn_6, tn_7, tn_8, tn_10, tn_30, tn_31, tn_32, tn_36, tn_40, tn_50, tn_100, tn_126, tn_200, tn_255, tn_500, tn_512, tn_3000, tn_5000] at c2); split <;> rename_i hz <;> (try simp only [i32_lt, i32_le, i32_eq, inn_f, Decidable.not_not, tn_m1, tn_0, tn_1, tn_2, tn_3, tn_4, tn_5, tn_6, tn_7, tn_8, tn_10, tn_30, tn_31, tn_32, tn_36, tn_40, tn_50, tn_100, tn_126, tn_200, tn_255, tn_500, tn_512, tn_3000, tn_5000] at hz) <;> first | rfl | (exfalso; omega) | (rw [i32_eq]; simp only [i32_lt, i32_le, i32_eq, inn_f, Decidable.not_not, tn_m1, tn_0, tn_1, tn_2, tn_3, tn_4, tn_5, tn_6, tn_7, tn_8, tn_10, tn_30, tn_31, tn_32, tn_36, tn_40, tn_50, tn_100, tn_126, tn_200, tn_255, tn_500, tn_512, tn_3000, tn_5000]; omega))
    · refine q_aload_n (j := 0) C dX11_end_21 rfl ?_
      refine q_bipush (v := 6) C dX11_end_22 (by decide) ?_
      refine q_callV (d2 := 0) (mc2 := 0) (ms2 := 0) (As := [.int 6]) (rest := []) C (c_refuse 6 hL hE) dX11_end_24 kV_X11_102 rfl hL hE ck_12 rfl (Nat.le_of_ble_eq_true rfl) ⟨Nat.le_of_ble_eq_true rfl, Nat.le_of_ble_eq_true rfl⟩ ⟨Nat.le_of_ble_eq_true rfl, Nat.le_of_ble_eq_true rfl⟩ (fun vh3 Lh3 Eh3 h3 => ?_)
      obtain ⟨rfl, rfl, rfl⟩ := h3
      refine q_st (st2 := [.int (-1)]) rfl ?_
      exact q_iret C dX11_end_27 rfl (Nat.le_of_ble_eq_true rfl) (Nat.le_of_ble_eq_true rfl) (by refine congrArg (fun z => some (Value.int z)) ?_; unfold an_end; (try simp only [inn_f, Decidable.not_not] at c1); (try simp only [i32_lt, i32_le, i32_eq, inn_f, Decidable.not_not, tn_m1, tn_0, tn_1, tn_2, tn_3, tn_4, tn_5, tn_6, tn_7, tn_8, tn_10, tn_30, tn_31, tn_32, tn_36, tn_40, tn_50, tn_100, tn_126, tn_200, tn_255, tn_500, tn_512, tn_3000, tn_5000] at c1); (try simp only [inn_f, Decidable.not_not] at c2); (try simp only [i32_lt, i32_le, i32_eq, inn_f, Decidable.not_not, tn_m1, tn_0, tn_1, tn_2, tn_3, tn_4, tn_5, tn_6, tn_7, tn_8, tn_10, tn_30, tn_31, tn_32, tn_36, tn_40, tn_50, tn_100, tn_126, tn_200, tn_255, tn_500, tn_512, tn_3000, tn_5000] at c2); split <;> rename_i hz <;> (try simp only [i32_lt, i32_le, i32_eq, inn_f, Decidable.not_not, tn_m1, tn_0, tn_1, tn_2, tn_3, tn_4, tn_5, tn_6, tn_7, tn_8, tn_10, tn_30, tn_31, tn_32, tn_36, tn_40, tn_50, tn_100, tn_126, tn_200, tn_255, tn_500, tn_512, tn_3000, tn_5000] at hz) <;> first | rfl | (exfalso; omega) | (rw [i32_eq]; simp only [i32_lt, i32_le, i32_eq, inn_f, Decidable.not_not, tn_m1, tn_0, tn_1, tn_2, tn_3, tn_4, tn_5, tn_6, tn_7, tn_8, tn_10, tn_30, tn_31, tn_32, tn_36, tn_40, tn_50, tn_100, tn_126, tn_200, tn_255, tn_500, tn_512, tn_3000, tn_5000]; omega))
  · refine q_aload_n (j := 0) C dX11_end_4 rfl ?_
    refine q_iconst (v := 5) C dX11_end_5 (by decide) ?_
    refine q_callV (d2 := 0) (mc2 := 0) (ms2 := 0) (As := [.int 5]) (rest := []) C (c_refuse 5 hL hE) dX11_end_6 kV_X11_102 rfl hL hE ck_12 rfl (Nat.le_of_ble_eq_true rfl) ⟨Nat.le_of_ble_eq_true rfl, Nat.le_of_ble_eq_true rfl⟩ ⟨Nat.le_of_ble_eq_true rfl, Nat.le_of_ble_eq_true rfl⟩ (fun vh4 Lh4 Eh4 h4 => ?_)
    obtain ⟨rfl, rfl, rfl⟩ := h4
    refine q_st (st2 := [.int (-1)]) rfl ?_
    exact q_iret C dX11_end_9 rfl (Nat.le_of_ble_eq_true rfl) (Nat.le_of_ble_eq_true rfl) (by refine congrArg (fun z => some (Value.int z)) ?_; unfold an_end; (try simp only [inn_f, Decidable.not_not] at c1); (try simp only [i32_lt, i32_le, i32_eq, inn_f, Decidable.not_not, tn_m1, tn_0, tn_1, tn_2, tn_3, tn_4, tn_5, tn_6, tn_7, tn_8, tn_10, tn_30, tn_31, tn_32, tn_36, tn_40, tn_50, tn_100, tn_126, tn_200, tn_255, tn_500, tn_512, tn_3000, tn_5000] at c1); split <;> rename_i hz <;> (try simp only [i32_lt, i32_le, i32_eq, inn_f, Decidable.not_not, tn_m1, tn_0, tn_1, tn_2, tn_3, tn_4, tn_5, tn_6, tn_7, tn_8, tn_10, tn_30, tn_31, tn_32, tn_36, tn_40, tn_50, tn_100, tn_126, tn_200, tn_255, tn_500, tn_512, tn_3000, tn_5000] at hz) <;> first | rfl | (exfalso; omega) | (rw [i32_eq]; simp only [i32_lt, i32_le, i32_eq, inn_f, Decidable.not_not, tn_m1, tn_0, tn_1, tn_2, tn_3, tn_4, tn_5, tn_6, tn_7, tn_8, tn_10, tn_30, tn_31, tn_32, tn_36, tn_40, tn_50, tn_100, tn_126, tn_200, tn_255, tn_500, tn_512, tn_3000, tn_5000]; omega))
set_option maxHeartbeats 4000000 in
set_option maxRecDepth 100000 in
theorem x_copyLines {l : Launch} {G : GT} {L : List Nat} {E : Nat → va_E} (a b n : Int32)  {h0 sh : Nat} {f fs : Nat → Value} (hL : h0 ∈ L) (hE : E h0 = ob 12 19 f) (f9 : f 9 = .ref sh) (hLsh : sh ∈ L) (hEsh : E sh = ob 8 3 fs) (fs1 : fs 1 = .int 0) : Mq l G yX11_copyLines cX11_copyLines 7 (some .int) 5 [.ref h0, .int a, .int b, .int n] L E 0 0 (fun v L2 E2 => v = some (.int (an_end n))) := by
  refine Mq.mk (by decide) (Nat.le_of_ble_eq_true rfl) ?_
  intro p e s m args below meth c A C
  refine q_iload_n (j := 3) C dX11_copyLines_0 rfl ?_
  refine q_bipush (v := 10) C dX11_copyLines_1 (by decide) ?_
  refine q_icmp_le (tgt := 13) C dX11_copyLines_3 (by decide) (fun c1 => ?_) (fun c1 => ?_)
  · refine q_iload_n (j := 3) C dX11_copyLines_13 rfl ?_
    refine q_if_ge (tgt := 23) C dX11_copyLines_14 (by decide) (fun c2 => ?_) (fun c2 => ?_)
    · refine q_aload_n (j := 0) C dX11_copyLines_23 rfl ?_
      refine q_iconst (v := 0) C dX11_copyLines_24 (by decide) ?_
      refine q_put (k := 15) C ck_12 dX11_copyLines_25 w2_59 (by decide) rfl hL hE rfl rfl ?_
      refine q_iconst (v := 0) C dX11_copyLines_28 (by decide) ?_
      refine q_istore (lv2 := [(4, .int 0), (0, .ref h0), (1, .int a), (2, .int b), (3, .int n)]) C dX11_copyLines_29 (by decide) rfl ?_
      refine q_iload (j := 0) C dX11_copyLines_31 rfl ?_
      refine q_iload_n (j := 4) C dX11_copyLines_33 rfl ?_
      refine q_icmp_ge (tgt := 116) C dX11_copyLines_34 (by decide) (fun c3 => ?_) (fun c3 => ?_)
      · refine q_aload_n (j := 1) C dX11_copyLines_116 rfl ?_
        refine q_iload_n (j := 4) C dX11_copyLines_117 rfl ?_
        refine q_callV (d2 := 0) (mc2 := 0) (ms2 := 0) (As := [.int n]) (rest := []) C (c_done n hL (va_up_self _ _ _)) dX11_copyLines_118 kV_X11_109 rfl hL (va_up_self _ _ _) ck_12 rfl (Nat.le_of_ble_eq_true rfl) ⟨Nat.le_of_ble_eq_true rfl, Nat.le_of_ble_eq_true rfl⟩ ⟨Nat.le_of_ble_eq_true rfl, Nat.le_of_ble_eq_true rfl⟩ (fun vh1 Lh1 Eh1 h1 => ?_)
        obtain ⟨rfl, rfl, rfl⟩ := h1
        refine q_st (st2 := [.int n]) rfl ?_
        exact q_iret C dX11_copyLines_121 rfl (Nat.le_of_ble_eq_true rfl) (Nat.le_of_ble_eq_true rfl) (by refine congrArg (fun z => some (Value.int z)) ?_; unfold an_end; (try simp only [inn_f, Decidable.not_not] at c1); (try simp only [i32_lt, i32_le, i32_eq, inn_f, Decidable.not_not, tn_m1, tn_0, tn_1, tn_2, tn_3, tn_4, tn_5, tn_6, tn_7, tn_8, tn_10, tn_30, tn_31, tn_32, tn_36, tn_40, tn_50, tn_100, tn_126, tn_200, tn_255, tn_500, tn_512, tn_3000, tn_5000] at c1); (try simp only [inn_f, Decidable.not_not] at c2); (try simp only [i32_lt, i32_le, i32_eq, inn_f, Decidable.not_not, tn_m1, tn_0, tn_1, tn_2, tn_3, tn_4, tn_5, tn_6, tn_7, tn_8, tn_10, tn_30, tn_31, tn_32, tn_36, tn_40, tn_50, tn_100, tn_126, tn_200, tn_255, tn_500, tn_512, tn_3000, tn_5000] at c2); (try simp only [inn_f, Decidable.not_not] at c3); (try simp only [i32_lt, i32_le, i32_eq, inn_f, Decidable.not_not, tn_m1, tn_0, tn_1, tn_2, tn_3, tn_4, tn_5, tn_6, tn_7, tn_8, tn_10, tn_30, tn_31, tn_32, tn_36, tn_40, tn_50, tn_100, tn_126, tn_200, tn_255, tn_500, tn_512, tn_3000, tn_5000] at c3); split <;> rename_i hz <;> (try simp only [i32_lt, i32_le, i32_eq, inn_f, Decidable.not_not, tn_m1, tn_0, tn_1, tn_2, tn_3, tn_4, tn_5, tn_6, tn_7, tn_8, tn_10, tn_30, tn_31, tn_32, tn_36, tn_40, tn_50, tn_100, tn_126, tn_200, tn_255, tn_500, tn_512, tn_3000, tn_5000] at hz) <;> first | rfl | (exfalso; omega) | (rw [i32_eq]; simp only [i32_lt, i32_le, i32_eq, inn_f, Decidable.not_not, tn_m1, tn_0, tn_1, tn_2, tn_3, tn_4, tn_5, tn_6, tn_7, tn_8, tn_10, tn_30, tn_31, tn_32, tn_36, tn_40, tn_50, tn_100, tn_126, tn_200, tn_255, tn_500, tn_512, tn_3000, tn_5000]; omega))
      · refine q_aload_n (j := 1) C dX11_copyLines_37 rfl ?_
        refine q_get (k := 9) (v := .ref sh) C ck_12 dX11_copyLines_38 w2_53 (by decide) hL (va_up_self _ _ _) f9 ?_
        refine q_iload_n (j := 2) C dX11_copyLines_41 rfl ?_
        refine q_iload (j := 0) C dX11_copyLines_42 rfl ?_
        refine q_iadd (v := (a + (0 : Int32))) C dX11_copyLines_44 rfl ?_
        refine q_callV (d2 := 0) (mc2 := 0) (ms2 := 0) (As := [.int (a + (0 : Int32))]) (rest := []) C (c_sat0 (a + (0 : Int32)) hLsh ((va_up_ne _ _ (ne_ob hEsh hE (by decide))).trans hEsh) fs1) dX11_copyLines_45 kV_X11_308 rfl hLsh ((va_up_ne _ _ (ne_ob hEsh hE (by decide))).trans hEsh) ck_8 rfl (Nat.le_of_ble_eq_true rfl) ⟨Nat.le_of_ble_eq_true rfl, Nat.le_of_ble_eq_true rfl⟩ ⟨Nat.le_of_ble_eq_true rfl, Nat.le_of_ble_eq_true rfl⟩ (fun vh2 Lh2 Eh2 h2 => ?_)
        obtain ⟨rfl, rfl, rfl⟩ := h2
        refine q_st (st2 := [.null]) rfl ?_
        refine q_astoreN (lv2 := [(5, .null), (4, .int 0), (0, .ref h0), (1, .int a), (2, .int b), (3, .int n)]) C dX11_copyLines_48 (by decide) rfl ?_
        refine q_aload_n (j := 2) C dX11_copyLines_50 rfl ?_
        refine q_get (k := 9) (v := .ref sh) C ck_12 dX11_copyLines_51 w2_53 (by decide) hL (va_up_self _ _ _) f9 ?_
        refine q_iload_n (j := 4) C dX11_copyLines_54 rfl ?_
        refine q_iload (j := 1) C dX11_copyLines_55 rfl ?_
        refine q_iadd (v := (b + (0 : Int32))) C dX11_copyLines_57 rfl ?_
        refine q_callV (d2 := 0) (mc2 := 0) (ms2 := 0) (As := [.int (b + (0 : Int32))]) (rest := []) C (c_sat0 (b + (0 : Int32)) hLsh ((va_up_ne _ _ (ne_ob hEsh hE (by decide))).trans hEsh) fs1) dX11_copyLines_58 kV_X11_308 rfl hLsh ((va_up_ne _ _ (ne_ob hEsh hE (by decide))).trans hEsh) ck_8 rfl (Nat.le_of_ble_eq_true rfl) ⟨Nat.le_of_ble_eq_true rfl, Nat.le_of_ble_eq_true rfl⟩ ⟨Nat.le_of_ble_eq_true rfl, Nat.le_of_ble_eq_true rfl⟩ (fun vh3 Lh3 Eh3 h3 => ?_)
        obtain ⟨rfl, rfl, rfl⟩ := h3
        refine q_st (st2 := [.null]) rfl ?_
        refine q_astoreN (lv2 := [(6, .null), (5, .null), (4, .int 0), (0, .ref h0), (1, .int a), (2, .int b), (3, .int n)]) C dX11_copyLines_61 (by decide) rfl ?_
        refine q_aloadN (j := 1) C dX11_copyLines_63 rfl ?_
        refine q_ifnullN (tgt := 73) C dX11_copyLines_65 (by decide) ?_
        refine q_aload_n (j := 3) C dX11_copyLines_73 rfl ?_
        refine q_iconst (v := 2) C dX11_copyLines_74 (by decide) ?_
        refine q_callV (d2 := 0) (mc2 := 0) (ms2 := 0) (As := [.int 2]) (rest := []) C (c_refuse 2 hL (va_up_self _ _ _)) dX11_copyLines_75 kV_X11_102 rfl hL (va_up_self _ _ _) ck_12 rfl (Nat.le_of_ble_eq_true rfl) ⟨Nat.le_of_ble_eq_true rfl, Nat.le_of_ble_eq_true rfl⟩ ⟨Nat.le_of_ble_eq_true rfl, Nat.le_of_ble_eq_true rfl⟩ (fun vh4 Lh4 Eh4 h4 => ?_)
        obtain ⟨rfl, rfl, rfl⟩ := h4
        refine q_st (st2 := [.int (-1)]) rfl ?_
        exact q_iret C dX11_copyLines_78 rfl (Nat.le_of_ble_eq_true rfl) (Nat.le_of_ble_eq_true rfl) (by refine congrArg (fun z => some (Value.int z)) ?_; unfold an_end; (try simp only [inn_f, Decidable.not_not] at c1); (try simp only [i32_lt, i32_le, i32_eq, inn_f, Decidable.not_not, tn_m1, tn_0, tn_1, tn_2, tn_3, tn_4, tn_5, tn_6, tn_7, tn_8, tn_10, tn_30, tn_31, tn_32, tn_36, tn_40, tn_50, tn_100, tn_126, tn_200, tn_255, tn_500, tn_512, tn_3000, tn_5000] at c1); (try simp only [inn_f, Decidable.not_not] at c2); (try simp only [i32_lt, i32_le, i32_eq, inn_f, Decidable.not_not, tn_m1, tn_0, tn_1, tn_2, tn_3, tn_4, tn_5, tn_6, tn_7, tn_8, tn_10, tn_30, tn_31, tn_32, tn_36, tn_40, tn_50, tn_100, tn_126, tn_200, tn_255, tn_500, tn_512, tn_3000, tn_5000] at c2); (try simp only [inn_f, Decidable.not_not] at c3); (try simp only [i32_lt, i32_le, i32_eq, inn_f, Decidable.not_not, tn_m1, tn_0, tn_1, tn_2, tn_3, tn_4, tn_5, tn_6, tn_7, tn_8, tn_10, tn_30, tn_31, tn_32, tn_36, tn_40, tn_50, tn_100, tn_126, tn_200, tn_255, tn_500, tn_512, tn_3000, tn_5000] at c3); split <;> rename_i hz <;> (try simp only [i32_lt, i32_le, i32_eq, inn_f, Decidable.not_not, tn_m1, tn_0, tn_1, tn_2, tn_3, tn_4, tn_5, tn_6, tn_7, tn_8, tn_10, tn_30, tn_31, tn_32, tn_36, tn_40, tn_50, tn_100, tn_126, tn_200, tn_255, tn_500, tn_512, tn_3000, tn_5000] at hz) <;> first | rfl | (exfalso; omega) | (rw [i32_eq]; simp only [i32_lt, i32_le, i32_eq, inn_f, Decidable.not_not, tn_m1, tn_0, tn_1, tn_2, tn_3, tn_4, tn_5, tn_6, tn_7, tn_8, tn_10, tn_30, tn_31, tn_32, tn_36, tn_40, tn_50, tn_100, tn_126, tn_200, tn_255, tn_500, tn_512, tn_3000, tn_5000]; omega))
    · refine q_aload_n (j := 0) C dX11_copyLines_17 rfl ?_
      refine q_iconst (v := 5) C dX11_copyLines_18 (by decide) ?_
      refine q_callV (d2 := 0) (mc2 := 0) (ms2 := 0) (As := [.int 5]) (rest := []) C (c_refuse 5 hL hE) dX11_copyLines_19 kV_X11_102 rfl hL hE ck_12 rfl (Nat.le_of_ble_eq_true rfl) ⟨Nat.le_of_ble_eq_true rfl, Nat.le_of_ble_eq_true rfl⟩ ⟨Nat.le_of_ble_eq_true rfl, Nat.le_of_ble_eq_true rfl⟩ (fun vh5 Lh5 Eh5 h5 => ?_)
      obtain ⟨rfl, rfl, rfl⟩ := h5
      refine q_st (st2 := [.int (-1)]) rfl ?_
      exact q_iret C dX11_copyLines_22 rfl (Nat.le_of_ble_eq_true rfl) (Nat.le_of_ble_eq_true rfl) (by refine congrArg (fun z => some (Value.int z)) ?_; unfold an_end; (try simp only [inn_f, Decidable.not_not] at c1); (try simp only [i32_lt, i32_le, i32_eq, inn_f, Decidable.not_not, tn_m1, tn_0, tn_1, tn_2, tn_3, tn_4, tn_5, tn_6, tn_7, tn_8, tn_10, tn_30, tn_31, tn_32, tn_36, tn_40, tn_50, tn_100, tn_126, tn_200, tn_255, tn_500, tn_512, tn_3000, tn_5000] at c1); (try simp only [inn_f, Decidable.not_not] at c2); (try simp only [i32_lt, i32_le, i32_eq, inn_f, Decidable.not_not, tn_m1, tn_0, tn_1, tn_2, tn_3, tn_4, tn_5, tn_6, tn_7, tn_8, tn_10, tn_30, tn_31, tn_32, tn_36, tn_40, tn_50, tn_100, tn_126, tn_200, tn_255, tn_500, tn_512, tn_3000, tn_5000] at c2); split <;> rename_i hz <;> (try simp only [i32_lt, i32_le, i32_eq, inn_f, Decidable.not_not, tn_m1, tn_0, tn_1, tn_2, tn_3, tn_4, tn_5, tn_6, tn_7, tn_8, tn_10, tn_30, tn_31, tn_32, tn_36, tn_40, tn_50, tn_100, tn_126, tn_200, tn_255, tn_500, tn_512, tn_3000, tn_5000] at hz) <;> first | rfl | (exfalso; omega) | (rw [i32_eq]; simp only [i32_lt, i32_le, i32_eq, inn_f, Decidable.not_not, tn_m1, tn_0, tn_1, tn_2, tn_3, tn_4, tn_5, tn_6, tn_7, tn_8, tn_10, tn_30, tn_31, tn_32, tn_36, tn_40, tn_50, tn_100, tn_126, tn_200, tn_255, tn_500, tn_512, tn_3000, tn_5000]; omega))
  · refine q_aload_n (j := 0) C dX11_copyLines_6 rfl ?_
    refine q_bipush (v := 6) C dX11_copyLines_7 (by decide) ?_
    refine q_callV (d2 := 0) (mc2 := 0) (ms2 := 0) (As := [.int 6]) (rest := []) C (c_refuse 6 hL hE) dX11_copyLines_9 kV_X11_102 rfl hL hE ck_12 rfl (Nat.le_of_ble_eq_true rfl) ⟨Nat.le_of_ble_eq_true rfl, Nat.le_of_ble_eq_true rfl⟩ ⟨Nat.le_of_ble_eq_true rfl, Nat.le_of_ble_eq_true rfl⟩ (fun vh6 Lh6 Eh6 h6 => ?_)
    obtain ⟨rfl, rfl, rfl⟩ := h6
    refine q_st (st2 := [.int (-1)]) rfl ?_
    exact q_iret C dX11_copyLines_12 rfl (Nat.le_of_ble_eq_true rfl) (Nat.le_of_ble_eq_true rfl) (by refine congrArg (fun z => some (Value.int z)) ?_; unfold an_end; (try simp only [inn_f, Decidable.not_not] at c1); (try simp only [i32_lt, i32_le, i32_eq, inn_f, Decidable.not_not, tn_m1, tn_0, tn_1, tn_2, tn_3, tn_4, tn_5, tn_6, tn_7, tn_8, tn_10, tn_30, tn_31, tn_32, tn_36, tn_40, tn_50, tn_100, tn_126, tn_200, tn_255, tn_500, tn_512, tn_3000, tn_5000] at c1); split <;> rename_i hz <;> (try simp only [i32_lt, i32_le, i32_eq, inn_f, Decidable.not_not, tn_m1, tn_0, tn_1, tn_2, tn_3, tn_4, tn_5, tn_6, tn_7, tn_8, tn_10, tn_30, tn_31, tn_32, tn_36, tn_40, tn_50, tn_100, tn_126, tn_200, tn_255, tn_500, tn_512, tn_3000, tn_5000] at hz) <;> first | rfl | (exfalso; omega) | (rw [i32_eq]; simp only [i32_lt, i32_le, i32_eq, inn_f, Decidable.not_not, tn_m1, tn_0, tn_1, tn_2, tn_3, tn_4, tn_5, tn_6, tn_7, tn_8, tn_10, tn_30, tn_31, tn_32, tn_36, tn_40, tn_50, tn_100, tn_126, tn_200, tn_255, tn_500, tn_512, tn_3000, tn_5000]; omega))
set_option maxHeartbeats 4000000 in
set_option maxRecDepth 100000 in
theorem x_emboss {l : Launch} {G : GT} {L : List Nat} {E : Nat → va_E} (a n : Int32)  {h0 sh : Nat} {f fs : Nat → Value} (hL : h0 ∈ L) (hE : E h0 = ob 12 19 f) (f9 : f 9 = .ref sh) (f16 : f 16 = .int 0) (hLsh : sh ∈ L) (hEsh : E sh = ob 8 3 fs) (fs1 : fs 1 = .int 0) : Mq l G yX11_emboss cX11_emboss 6 (some .int) 5 [.ref h0, .int a, .int n] L E 0 0 (fun v L2 E2 => v = some (.int (an_end n))) := by
  refine Mq.mk (by decide) (Nat.le_of_ble_eq_true rfl) ?_
  intro p e s m args below meth c A C
  refine q_iload_n (j := 2) C dX11_emboss_0 rfl ?_
  refine q_sipush (v := 200) C dX11_emboss_1 (by decide) ?_
  refine q_icmp_le (tgt := 14) C dX11_emboss_4 (by decide) (fun c1 => ?_) (fun c1 => ?_)
  · refine q_iload_n (j := 2) C dX11_emboss_14 rfl ?_
    refine q_if_ge (tgt := 24) C dX11_emboss_15 (by decide) (fun c2 => ?_) (fun c2 => ?_)
    · refine q_iconst (v := 0) C dX11_emboss_24 (by decide) ?_
      refine q_istore_n (lv2 := [(3, .int 0), (0, .ref h0), (1, .int a), (2, .int n)]) C dX11_emboss_25 (by decide) rfl ?_
      refine q_iconst (v := 0) C dX11_emboss_26 (by decide) ?_
      refine q_istore (lv2 := [(4, .int 0), (3, .int 0), (0, .ref h0), (1, .int a), (2, .int n)]) C dX11_emboss_27 (by decide) rfl ?_
      refine q_iload (j := 0) C dX11_emboss_29 rfl ?_
      refine q_iload_n (j := 4) C dX11_emboss_31 rfl ?_
      refine q_icmp_ge (tgt := 121) C dX11_emboss_32 (by decide) (fun c3 => ?_) (fun c3 => ?_)
      · refine q_aload_n (j := 2) C dX11_emboss_121 rfl ?_
        refine q_iload_n (j := 1) C dX11_emboss_122 rfl ?_
        refine q_callV (d2 := 0) (mc2 := 0) (ms2 := 0) (As := [.int 0]) (rest := []) C (c_done 0 hL hE) dX11_emboss_123 kV_X11_109 rfl hL hE ck_12 rfl (Nat.le_of_ble_eq_true rfl) ⟨Nat.le_of_ble_eq_true rfl, Nat.le_of_ble_eq_true rfl⟩ ⟨Nat.le_of_ble_eq_true rfl, Nat.le_of_ble_eq_true rfl⟩ (fun vh1 Lh1 Eh1 h1 => ?_)
        obtain ⟨rfl, rfl, rfl⟩ := h1
        refine q_st (st2 := [.int 0]) rfl ?_
        exact q_iret C dX11_emboss_126 rfl (Nat.le_of_ble_eq_true rfl) (Nat.le_of_ble_eq_true rfl) (by refine congrArg (fun z => some (Value.int z)) ?_; unfold an_end; (try simp only [inn_f, Decidable.not_not] at c1); (try simp only [i32_lt, i32_le, i32_eq, inn_f, Decidable.not_not, tn_m1, tn_0, tn_1, tn_2, tn_3, tn_4, tn_5, tn_6, tn_7, tn_8, tn_10, tn_30, tn_31, tn_32, tn_36, tn_40, tn_50, tn_100, tn_126, tn_200, tn_255, tn_500, tn_512, tn_3000, tn_5000] at c1); (try simp only [inn_f, Decidable.not_not] at c2); (try simp only [i32_lt, i32_le, i32_eq, inn_f, Decidable.not_not, tn_m1, tn_0, tn_1, tn_2, tn_3, tn_4, tn_5, tn_6, tn_7, tn_8, tn_10, tn_30, tn_31, tn_32, tn_36, tn_40, tn_50, tn_100, tn_126, tn_200, tn_255, tn_500, tn_512, tn_3000, tn_5000] at c2); (try simp only [inn_f, Decidable.not_not] at c3); (try simp only [i32_lt, i32_le, i32_eq, inn_f, Decidable.not_not, tn_m1, tn_0, tn_1, tn_2, tn_3, tn_4, tn_5, tn_6, tn_7, tn_8, tn_10, tn_30, tn_31, tn_32, tn_36, tn_40, tn_50, tn_100, tn_126, tn_200, tn_255, tn_500, tn_512, tn_3000, tn_5000] at c3); split <;> rename_i hz <;> (try simp only [i32_lt, i32_le, i32_eq, inn_f, Decidable.not_not, tn_m1, tn_0, tn_1, tn_2, tn_3, tn_4, tn_5, tn_6, tn_7, tn_8, tn_10, tn_30, tn_31, tn_32, tn_36, tn_40, tn_50, tn_100, tn_126, tn_200, tn_255, tn_500, tn_512, tn_3000, tn_5000] at hz) <;> first | rfl | (exfalso; omega) | (rw [i32_eq]; simp only [i32_lt, i32_le, i32_eq, inn_f, Decidable.not_not, tn_m1, tn_0, tn_1, tn_2, tn_3, tn_4, tn_5, tn_6, tn_7, tn_8, tn_10, tn_30, tn_31, tn_32, tn_36, tn_40, tn_50, tn_100, tn_126, tn_200, tn_255, tn_500, tn_512, tn_3000, tn_5000]; omega))
      · refine q_aload_n (j := 2) C dX11_emboss_35 rfl ?_
        refine q_dup C dX11_emboss_36 rfl ?_
        refine q_get (k := 16) (v := .int 0) C ck_12 dX11_emboss_37 w2_60 (by decide) hL hE f16 ?_
        refine q_iconst (v := 1) C dX11_emboss_40 (by decide) ?_
        refine q_iadd (v := 1) C dX11_emboss_41 (by decide) ?_
        refine q_put (k := 16) C ck_12 dX11_emboss_42 w2_60 (by decide) rfl hL hE rfl rfl ?_
        refine q_aload_n (j := 2) C dX11_emboss_45 rfl ?_
        refine q_get (k := 9) (v := .ref sh) C ck_12 dX11_emboss_46 w2_53 (by decide) hL (va_up_self _ _ _) f9 ?_
        refine q_iload_n (j := 3) C dX11_emboss_49 rfl ?_
        refine q_iload (j := 0) C dX11_emboss_50 rfl ?_
        refine q_iadd (v := (a + (0 : Int32))) C dX11_emboss_52 rfl ?_
        refine q_callV (d2 := 0) (mc2 := 0) (ms2 := 0) (As := [.int (a + (0 : Int32))]) (rest := []) C (c_sat0 (a + (0 : Int32)) hLsh ((va_up_ne _ _ (ne_ob hEsh hE (by decide))).trans hEsh) fs1) dX11_emboss_53 kV_X11_308 rfl hLsh ((va_up_ne _ _ (ne_ob hEsh hE (by decide))).trans hEsh) ck_8 rfl (Nat.le_of_ble_eq_true rfl) ⟨Nat.le_of_ble_eq_true rfl, Nat.le_of_ble_eq_true rfl⟩ ⟨Nat.le_of_ble_eq_true rfl, Nat.le_of_ble_eq_true rfl⟩ (fun vh2 Lh2 Eh2 h2 => ?_)
        obtain ⟨rfl, rfl, rfl⟩ := h2
        refine q_st (st2 := [.null]) rfl ?_
        refine q_astoreN (lv2 := [(5, .null), (4, .int 0), (3, .int 0), (0, .ref h0), (1, .int a), (2, .int n)]) C dX11_emboss_56 (by decide) rfl ?_
        refine q_aloadN (j := 0) C dX11_emboss_58 rfl ?_
        refine q_ifnonnullN C dX11_emboss_60 ?_
        refine q_aload_n (j := 3) C dX11_emboss_63 rfl ?_
        refine q_iconst (v := 2) C dX11_emboss_64 (by decide) ?_
        refine q_callV (d2 := 0) (mc2 := 0) (ms2 := 0) (As := [.int 2]) (rest := []) C (c_refuse 2 hL (va_up_self _ _ _)) dX11_emboss_65 kV_X11_102 rfl hL (va_up_self _ _ _) ck_12 rfl (Nat.le_of_ble_eq_true rfl) ⟨Nat.le_of_ble_eq_true rfl, Nat.le_of_ble_eq_true rfl⟩ ⟨Nat.le_of_ble_eq_true rfl, Nat.le_of_ble_eq_true rfl⟩ (fun vh3 Lh3 Eh3 h3 => ?_)
        obtain ⟨rfl, rfl, rfl⟩ := h3
        refine q_st (st2 := [.int (-1)]) rfl ?_
        exact q_iret C dX11_emboss_68 rfl (Nat.le_of_ble_eq_true rfl) (Nat.le_of_ble_eq_true rfl) (by refine congrArg (fun z => some (Value.int z)) ?_; unfold an_end; (try simp only [inn_f, Decidable.not_not] at c1); (try simp only [i32_lt, i32_le, i32_eq, inn_f, Decidable.not_not, tn_m1, tn_0, tn_1, tn_2, tn_3, tn_4, tn_5, tn_6, tn_7, tn_8, tn_10, tn_30, tn_31, tn_32, tn_36, tn_40, tn_50, tn_100, tn_126, tn_200, tn_255, tn_500, tn_512, tn_3000, tn_5000] at c1); (try simp only [inn_f, Decidable.not_not] at c2); (try simp only [i32_lt, i32_le, i32_eq, inn_f, Decidable.not_not, tn_m1, tn_0, tn_1, tn_2, tn_3, tn_4, tn_5, tn_6, tn_7, tn_8, tn_10, tn_30, tn_31, tn_32, tn_36, tn_40, tn_50, tn_100, tn_126, tn_200, tn_255, tn_500, tn_512, tn_3000, tn_5000] at c2); (try simp only [inn_f, Decidable.not_not] at c3); (try simp only [i32_lt, i32_le, i32_eq, inn_f, Decidable.not_not, tn_m1, tn_0, tn_1, tn_2, tn_3, tn_4, tn_5, tn_6, tn_7, tn_8, tn_10, tn_30, tn_31, tn_32, tn_36, tn_40, tn_50, tn_100, tn_126, tn_200, tn_255, tn_500, tn_512, tn_3000, tn_5000] at c3); split <;> rename_i hz <;> (try simp only [i32_lt, i32_le, i32_eq, inn_f, Decidable.not_not, tn_m1, tn_0, tn_1, tn_2, tn_3, tn_4, tn_5, tn_6, tn_7, tn_8, tn_10, tn_30, tn_31, tn_32, tn_36, tn_40, tn_50, tn_100, tn_126, tn_200, tn_255, tn_500, tn_512, tn_3000, tn_5000] at hz) <;> first | rfl | (exfalso; omega) | (rw [i32_eq]; simp only [i32_lt, i32_le, i32_eq, inn_f, Decidable.not_not, tn_m1, tn_0, tn_1, tn_2, tn_3, tn_4, tn_5, tn_6, tn_7, tn_8, tn_10, tn_30, tn_31, tn_32, tn_36, tn_40, tn_50, tn_100, tn_126, tn_200, tn_255, tn_500, tn_512, tn_3000, tn_5000]; omega))
    · refine q_aload_n (j := 0) C dX11_emboss_18 rfl ?_
      refine q_iconst (v := 5) C dX11_emboss_19 (by decide) ?_
      refine q_callV (d2 := 0) (mc2 := 0) (ms2 := 0) (As := [.int 5]) (rest := []) C (c_refuse 5 hL hE) dX11_emboss_20 kV_X11_102 rfl hL hE ck_12 rfl (Nat.le_of_ble_eq_true rfl) ⟨Nat.le_of_ble_eq_true rfl, Nat.le_of_ble_eq_true rfl⟩ ⟨Nat.le_of_ble_eq_true rfl, Nat.le_of_ble_eq_true rfl⟩ (fun vh4 Lh4 Eh4 h4 => ?_)
      obtain ⟨rfl, rfl, rfl⟩ := h4
      refine q_st (st2 := [.int (-1)]) rfl ?_
      exact q_iret C dX11_emboss_23 rfl (Nat.le_of_ble_eq_true rfl) (Nat.le_of_ble_eq_true rfl) (by refine congrArg (fun z => some (Value.int z)) ?_; unfold an_end; (try simp only [inn_f, Decidable.not_not] at c1); (try simp only [i32_lt, i32_le, i32_eq, inn_f, Decidable.not_not, tn_m1, tn_0, tn_1, tn_2, tn_3, tn_4, tn_5, tn_6, tn_7, tn_8, tn_10, tn_30, tn_31, tn_32, tn_36, tn_40, tn_50, tn_100, tn_126, tn_200, tn_255, tn_500, tn_512, tn_3000, tn_5000] at c1); (try simp only [inn_f, Decidable.not_not] at c2); (try simp only [i32_lt, i32_le, i32_eq, inn_f, Decidable.not_not, tn_m1, tn_0, tn_1, tn_2, tn_3, tn_4, tn_5, tn_6, tn_7, tn_8, tn_10, tn_30, tn_31, tn_32, tn_36, tn_40, tn_50, tn_100, tn_126, tn_200, tn_255, tn_500, tn_512, tn_3000, tn_5000] at c2); split <;> rename_i hz <;> (try simp only [i32_lt, i32_le, i32_eq, inn_f, Decidable.not_not, tn_m1, tn_0, tn_1, tn_2, tn_3, tn_4, tn_5, tn_6, tn_7, tn_8, tn_10, tn_30, tn_31, tn_32, tn_36, tn_40, tn_50, tn_100, tn_126, tn_200, tn_255, tn_500, tn_512, tn_3000, tn_5000] at hz) <;> first | rfl | (exfalso; omega) | (rw [i32_eq]; simp only [i32_lt, i32_le, i32_eq, inn_f, Decidable.not_not, tn_m1, tn_0, tn_1, tn_2, tn_3, tn_4, tn_5, tn_6, tn_7, tn_8, tn_10, tn_30, tn_31, tn_32, tn_36, tn_40, tn_50, tn_100, tn_126, tn_200, tn_255, tn_500, tn_512, tn_3000, tn_5000]; omega))
  · refine q_aload_n (j := 0) C dX11_emboss_7 rfl ?_
    refine q_bipush (v := 6) C dX11_emboss_8 (by decide) ?_
    refine q_callV (d2 := 0) (mc2 := 0) (ms2 := 0) (As := [.int 6]) (rest := []) C (c_refuse 6 hL hE) dX11_emboss_10 kV_X11_102 rfl hL hE ck_12 rfl (Nat.le_of_ble_eq_true rfl) ⟨Nat.le_of_ble_eq_true rfl, Nat.le_of_ble_eq_true rfl⟩ ⟨Nat.le_of_ble_eq_true rfl, Nat.le_of_ble_eq_true rfl⟩ (fun vh5 Lh5 Eh5 h5 => ?_)
    obtain ⟨rfl, rfl, rfl⟩ := h5
    refine q_st (st2 := [.int (-1)]) rfl ?_
    exact q_iret C dX11_emboss_13 rfl (Nat.le_of_ble_eq_true rfl) (Nat.le_of_ble_eq_true rfl) (by refine congrArg (fun z => some (Value.int z)) ?_; unfold an_end; (try simp only [inn_f, Decidable.not_not] at c1); (try simp only [i32_lt, i32_le, i32_eq, inn_f, Decidable.not_not, tn_m1, tn_0, tn_1, tn_2, tn_3, tn_4, tn_5, tn_6, tn_7, tn_8, tn_10, tn_30, tn_31, tn_32, tn_36, tn_40, tn_50, tn_100, tn_126, tn_200, tn_255, tn_500, tn_512, tn_3000, tn_5000] at c1); split <;> rename_i hz <;> (try simp only [i32_lt, i32_le, i32_eq, inn_f, Decidable.not_not, tn_m1, tn_0, tn_1, tn_2, tn_3, tn_4, tn_5, tn_6, tn_7, tn_8, tn_10, tn_30, tn_31, tn_32, tn_36, tn_40, tn_50, tn_100, tn_126, tn_200, tn_255, tn_500, tn_512, tn_3000, tn_5000] at hz) <;> first | rfl | (exfalso; omega) | (rw [i32_eq]; simp only [i32_lt, i32_le, i32_eq, inn_f, Decidable.not_not, tn_m1, tn_0, tn_1, tn_2, tn_3, tn_4, tn_5, tn_6, tn_7, tn_8, tn_10, tn_30, tn_31, tn_32, tn_36, tn_40, tn_50, tn_100, tn_126, tn_200, tn_255, tn_500, tn_512, tn_3000, tn_5000]; omega))
set_option maxHeartbeats 4000000 in
set_option maxRecDepth 100000 in
theorem x_measure {l : Launch} {G : GT} {L : List Nat} {E : Nat → va_E} (w h y : Int32)  {h0 : Nat} {f : Nat → Value} (hL : h0 ∈ L) (hE : E h0 = ob 12 19 f) : Mq l G yX11_measure cX11_measure 4 (some .int) 5 [.ref h0, .int w, .int h, .int y] L E 0 0 (fun v L2 E2 => v = some (.int (an_meas w h y))) := by
  refine Mq.mk (by decide) (Nat.le_of_ble_eq_true rfl) ?_
  intro p e s m args below meth c A C
  refine q_iload_n (j := 1) C dX11_measure_0 rfl ?_
  refine q_iconst (v := 1) C dX11_measure_1 (by decide) ?_
  refine q_icmp_lt (tgt := 34) C dX11_measure_2 (by decide) (fun c1 => ?_) (fun c1 => ?_)
  · refine q_aload_n (j := 0) C dX11_measure_34 rfl ?_
    refine q_bipush (v := 6) C dX11_measure_35 (by decide) ?_
    refine q_callV (d2 := 0) (mc2 := 0) (ms2 := 0) (As := [.int 6]) (rest := []) C (c_refuse 6 hL hE) dX11_measure_37 kV_X11_102 rfl hL hE ck_12 rfl (Nat.le_of_ble_eq_true rfl) ⟨Nat.le_of_ble_eq_true rfl, Nat.le_of_ble_eq_true rfl⟩ ⟨Nat.le_of_ble_eq_true rfl, Nat.le_of_ble_eq_true rfl⟩ (fun vh1 Lh1 Eh1 h1 => ?_)
    obtain ⟨rfl, rfl, rfl⟩ := h1
    refine q_st (st2 := [.int (-1)]) rfl ?_
    exact q_iret C dX11_measure_40 rfl (Nat.le_of_ble_eq_true rfl) (Nat.le_of_ble_eq_true rfl) (by refine congrArg (fun z => some (Value.int z)) ?_; unfold an_meas; (try simp only [inn_f, Decidable.not_not] at c1); (try simp only [i32_lt, i32_le, i32_eq, inn_f, Decidable.not_not, tn_m1, tn_0, tn_1, tn_2, tn_3, tn_4, tn_5, tn_6, tn_7, tn_8, tn_10, tn_30, tn_31, tn_32, tn_36, tn_40, tn_50, tn_100, tn_126, tn_200, tn_255, tn_500, tn_512, tn_3000, tn_5000] at c1); split <;> rename_i hz <;> (try simp only [i32_lt, i32_le, i32_eq, inn_f, Decidable.not_not, tn_m1, tn_0, tn_1, tn_2, tn_3, tn_4, tn_5, tn_6, tn_7, tn_8, tn_10, tn_30, tn_31, tn_32, tn_36, tn_40, tn_50, tn_100, tn_126, tn_200, tn_255, tn_500, tn_512, tn_3000, tn_5000] at hz) <;> first | rfl | (exfalso; omega) | (rw [i32_eq]; simp only [i32_lt, i32_le, i32_eq, inn_f, Decidable.not_not, tn_m1, tn_0, tn_1, tn_2, tn_3, tn_4, tn_5, tn_6, tn_7, tn_8, tn_10, tn_30, tn_31, tn_32, tn_36, tn_40, tn_50, tn_100, tn_126, tn_200, tn_255, tn_500, tn_512, tn_3000, tn_5000]; omega))
  · refine q_iload_n (j := 1) C dX11_measure_5 rfl ?_
    refine q_bipush (v := 100) C dX11_measure_6 (by decide) ?_
    refine q_icmp_gt (tgt := 34) C dX11_measure_8 (by decide) (fun c2 => ?_) (fun c2 => ?_)
    · refine q_aload_n (j := 0) C dX11_measure_34 rfl ?_
      refine q_bipush (v := 6) C dX11_measure_35 (by decide) ?_
      refine q_callV (d2 := 0) (mc2 := 0) (ms2 := 0) (As := [.int 6]) (rest := []) C (c_refuse 6 hL hE) dX11_measure_37 kV_X11_102 rfl hL hE ck_12 rfl (Nat.le_of_ble_eq_true rfl) ⟨Nat.le_of_ble_eq_true rfl, Nat.le_of_ble_eq_true rfl⟩ ⟨Nat.le_of_ble_eq_true rfl, Nat.le_of_ble_eq_true rfl⟩ (fun vh2 Lh2 Eh2 h2 => ?_)
      obtain ⟨rfl, rfl, rfl⟩ := h2
      refine q_st (st2 := [.int (-1)]) rfl ?_
      exact q_iret C dX11_measure_40 rfl (Nat.le_of_ble_eq_true rfl) (Nat.le_of_ble_eq_true rfl) (by refine congrArg (fun z => some (Value.int z)) ?_; unfold an_meas; (try simp only [inn_f, Decidable.not_not] at c1); (try simp only [i32_lt, i32_le, i32_eq, inn_f, Decidable.not_not, tn_m1, tn_0, tn_1, tn_2, tn_3, tn_4, tn_5, tn_6, tn_7, tn_8, tn_10, tn_30, tn_31, tn_32, tn_36, tn_40, tn_50, tn_100, tn_126, tn_200, tn_255, tn_500, tn_512, tn_3000, tn_5000] at c1); (try simp only [inn_f, Decidable.not_not] at c2); (try simp only [i32_lt, i32_le, i32_eq, inn_f, Decidable.not_not, tn_m1, tn_0, tn_1, tn_2, tn_3, tn_4, tn_5, tn_6, tn_7, tn_8, tn_10, tn_30, tn_31, tn_32, tn_36, tn_40, tn_50, tn_100, tn_126, tn_200, tn_255, tn_500, tn_512, tn_3000, tn_5000] at c2); split <;> rename_i hz <;> (try simp only [i32_lt, i32_le, i32_eq, inn_f, Decidable.not_not, tn_m1, tn_0, tn_1, tn_2, tn_3, tn_4, tn_5, tn_6, tn_7, tn_8, tn_10, tn_30, tn_31, tn_32, tn_36, tn_40, tn_50, tn_100, tn_126, tn_200, tn_255, tn_500, tn_512, tn_3000, tn_5000] at hz) <;> first | rfl | (exfalso; omega) | (rw [i32_eq]; simp only [i32_lt, i32_le, i32_eq, inn_f, Decidable.not_not, tn_m1, tn_0, tn_1, tn_2, tn_3, tn_4, tn_5, tn_6, tn_7, tn_8, tn_10, tn_30, tn_31, tn_32, tn_36, tn_40, tn_50, tn_100, tn_126, tn_200, tn_255, tn_500, tn_512, tn_3000, tn_5000]; omega))
    · refine q_iload_n (j := 2) C dX11_measure_11 rfl ?_
      refine q_iconst (v := 1) C dX11_measure_12 (by decide) ?_
      refine q_icmp_lt (tgt := 34) C dX11_measure_13 (by decide) (fun c3 => ?_) (fun c3 => ?_)
      · refine q_aload_n (j := 0) C dX11_measure_34 rfl ?_
        refine q_bipush (v := 6) C dX11_measure_35 (by decide) ?_
        refine q_callV (d2 := 0) (mc2 := 0) (ms2 := 0) (As := [.int 6]) (rest := []) C (c_refuse 6 hL hE) dX11_measure_37 kV_X11_102 rfl hL hE ck_12 rfl (Nat.le_of_ble_eq_true rfl) ⟨Nat.le_of_ble_eq_true rfl, Nat.le_of_ble_eq_true rfl⟩ ⟨Nat.le_of_ble_eq_true rfl, Nat.le_of_ble_eq_true rfl⟩ (fun vh3 Lh3 Eh3 h3 => ?_)
        obtain ⟨rfl, rfl, rfl⟩ := h3
        refine q_st (st2 := [.int (-1)]) rfl ?_
        exact q_iret C dX11_measure_40 rfl (Nat.le_of_ble_eq_true rfl) (Nat.le_of_ble_eq_true rfl) (by refine congrArg (fun z => some (Value.int z)) ?_; unfold an_meas; (try simp only [inn_f, Decidable.not_not] at c1); (try simp only [i32_lt, i32_le, i32_eq, inn_f, Decidable.not_not, tn_m1, tn_0, tn_1, tn_2, tn_3, tn_4, tn_5, tn_6, tn_7, tn_8, tn_10, tn_30, tn_31, tn_32, tn_36, tn_40, tn_50, tn_100, tn_126, tn_200, tn_255, tn_500, tn_512, tn_3000, tn_5000] at c1); (try simp only [inn_f, Decidable.not_not] at c2); (try simp only [i32_lt, i32_le, i32_eq, inn_f, Decidable.not_not, tn_m1, tn_0, tn_1, tn_2, tn_3, tn_4, tn_5, tn_6, tn_7, tn_8, tn_10, tn_30, tn_31, tn_32, tn_36, tn_40, tn_50, tn_100, tn_126, tn_200, tn_255, tn_500, tn_512, tn_3000, tn_5000] at c2); (try simp only [inn_f, Decidable.not_not] at c3); (try simp only [i32_lt, i32_le, i32_eq, inn_f, Decidable.not_not, tn_m1, tn_0, tn_1, tn_2, tn_3, tn_4, tn_5, tn_6, tn_7, tn_8, tn_10, tn_30, tn_31, tn_32, tn_36, tn_40, tn_50, tn_100, tn_126, tn_200, tn_255, tn_500, tn_512, tn_3000, tn_5000] at c3); split <;> rename_i hz <;> (try simp only [i32_lt, i32_le, i32_eq, inn_f, Decidable.not_not, tn_m1, tn_0, tn_1, tn_2, tn_3, tn_4, tn_5, tn_6, tn_7, tn_8, tn_10, tn_30, tn_31, tn_32, tn_36, tn_40, tn_50, tn_100, tn_126, tn_200, tn_255, tn_500, tn_512, tn_3000, tn_5000] at hz) <;> first | rfl | (exfalso; omega) | (rw [i32_eq]; simp only [i32_lt, i32_le, i32_eq, inn_f, Decidable.not_not, tn_m1, tn_0, tn_1, tn_2, tn_3, tn_4, tn_5, tn_6, tn_7, tn_8, tn_10, tn_30, tn_31, tn_32, tn_36, tn_40, tn_50, tn_100, tn_126, tn_200, tn_255, tn_500, tn_512, tn_3000, tn_5000]; omega))
      · refine q_iload_n (j := 2) C dX11_measure_16 rfl ?_
        refine q_bipush (v := 50) C dX11_measure_17 (by decide) ?_
        refine q_icmp_gt (tgt := 34) C dX11_measure_19 (by decide) (fun c4 => ?_) (fun c4 => ?_)
        · refine q_aload_n (j := 0) C dX11_measure_34 rfl ?_
          refine q_bipush (v := 6) C dX11_measure_35 (by decide) ?_
          refine q_callV (d2 := 0) (mc2 := 0) (ms2 := 0) (As := [.int 6]) (rest := []) C (c_refuse 6 hL hE) dX11_measure_37 kV_X11_102 rfl hL hE ck_12 rfl (Nat.le_of_ble_eq_true rfl) ⟨Nat.le_of_ble_eq_true rfl, Nat.le_of_ble_eq_true rfl⟩ ⟨Nat.le_of_ble_eq_true rfl, Nat.le_of_ble_eq_true rfl⟩ (fun vh4 Lh4 Eh4 h4 => ?_)
          obtain ⟨rfl, rfl, rfl⟩ := h4
          refine q_st (st2 := [.int (-1)]) rfl ?_
          exact q_iret C dX11_measure_40 rfl (Nat.le_of_ble_eq_true rfl) (Nat.le_of_ble_eq_true rfl) (by refine congrArg (fun z => some (Value.int z)) ?_; unfold an_meas; (try simp only [inn_f, Decidable.not_not] at c1); (try simp only [i32_lt, i32_le, i32_eq, inn_f, Decidable.not_not, tn_m1, tn_0, tn_1, tn_2, tn_3, tn_4, tn_5, tn_6, tn_7, tn_8, tn_10, tn_30, tn_31, tn_32, tn_36, tn_40, tn_50, tn_100, tn_126, tn_200, tn_255, tn_500, tn_512, tn_3000, tn_5000] at c1); (try simp only [inn_f, Decidable.not_not] at c2); (try simp only [i32_lt, i32_le, i32_eq, inn_f, Decidable.not_not, tn_m1, tn_0, tn_1, tn_2, tn_3, tn_4, tn_5, tn_6, tn_7, tn_8, tn_10, tn_30, tn_31, tn_32, tn_36, tn_40, tn_50, tn_100, tn_126, tn_200, tn_255, tn_500, tn_512, tn_3000, tn_5000] at c2); (try simp only [inn_f, Decidable.not_not] at c3); (try simp only [i32_lt, i32_le, i32_eq, inn_f, Decidable.not_not, tn_m1, tn_0, tn_1, tn_2, tn_3, tn_4, tn_5, tn_6, tn_7, tn_8, tn_10, tn_30, tn_31, tn_32, tn_36, tn_40, tn_50, tn_100, tn_126, tn_200, tn_255, tn_500, tn_512, tn_3000, tn_5000] at c3); (try simp only [inn_f, Decidable.not_not] at c4); (try simp only [i32_lt, i32_le, i32_eq, inn_f, Decidable.not_not, tn_m1, tn_0, tn_1, tn_2, tn_3, tn_4, tn_5, tn_6, tn_7, tn_8, tn_10, tn_30, tn_31, tn_32, tn_36, tn_40, tn_50, tn_100, tn_126, tn_200, tn_255, tn_500, tn_512, tn_3000, tn_5000] at c4); split <;> rename_i hz <;> (try simp only [i32_lt, i32_le, i32_eq, inn_f, Decidable.not_not, tn_m1, tn_0, tn_1, tn_2, tn_3, tn_4, tn_5, tn_6, tn_7, tn_8, tn_10, tn_30, tn_31, tn_32, tn_36, tn_40, tn_50, tn_100, tn_126, tn_200, tn_255, tn_500, tn_512, tn_3000, tn_5000] at hz) <;> first | rfl | (exfalso; omega) | (rw [i32_eq]; simp only [i32_lt, i32_le, i32_eq, inn_f, Decidable.not_not, tn_m1, tn_0, tn_1, tn_2, tn_3, tn_4, tn_5, tn_6, tn_7, tn_8, tn_10, tn_30, tn_31, tn_32, tn_36, tn_40, tn_50, tn_100, tn_126, tn_200, tn_255, tn_500, tn_512, tn_3000, tn_5000]; omega))
        · refine q_iload_n (j := 3) C dX11_measure_22 rfl ?_
          refine q_iconst (v := 1) C dX11_measure_23 (by decide) ?_
          refine q_icmp_lt (tgt := 34) C dX11_measure_24 (by decide) (fun c5 => ?_) (fun c5 => ?_)
          · refine q_aload_n (j := 0) C dX11_measure_34 rfl ?_
            refine q_bipush (v := 6) C dX11_measure_35 (by decide) ?_
            refine q_callV (d2 := 0) (mc2 := 0) (ms2 := 0) (As := [.int 6]) (rest := []) C (c_refuse 6 hL hE) dX11_measure_37 kV_X11_102 rfl hL hE ck_12 rfl (Nat.le_of_ble_eq_true rfl) ⟨Nat.le_of_ble_eq_true rfl, Nat.le_of_ble_eq_true rfl⟩ ⟨Nat.le_of_ble_eq_true rfl, Nat.le_of_ble_eq_true rfl⟩ (fun vh5 Lh5 Eh5 h5 => ?_)
            obtain ⟨rfl, rfl, rfl⟩ := h5
            refine q_st (st2 := [.int (-1)]) rfl ?_
            exact q_iret C dX11_measure_40 rfl (Nat.le_of_ble_eq_true rfl) (Nat.le_of_ble_eq_true rfl) (by refine congrArg (fun z => some (Value.int z)) ?_; unfold an_meas; (try simp only [inn_f, Decidable.not_not] at c1); (try simp only [i32_lt, i32_le, i32_eq, inn_f, Decidable.not_not, tn_m1, tn_0, tn_1, tn_2, tn_3, tn_4, tn_5, tn_6, tn_7, tn_8, tn_10, tn_30, tn_31, tn_32, tn_36, tn_40, tn_50, tn_100, tn_126, tn_200, tn_255, tn_500, tn_512, tn_3000, tn_5000] at c1); (try simp only [inn_f, Decidable.not_not] at c2); (try simp only [i32_lt, i32_le, i32_eq, inn_f, Decidable.not_not, tn_m1, tn_0, tn_1, tn_2, tn_3, tn_4, tn_5, tn_6, tn_7, tn_8, tn_10, tn_30, tn_31, tn_32, tn_36, tn_40, tn_50, tn_100, tn_126, tn_200, tn_255, tn_500, tn_512, tn_3000, tn_5000] at c2); (try simp only [inn_f, Decidable.not_not] at c3); (try simp only [i32_lt, i32_le, i32_eq, inn_f, Decidable.not_not, tn_m1, tn_0, tn_1, tn_2, tn_3, tn_4, tn_5, tn_6, tn_7, tn_8, tn_10, tn_30, tn_31, tn_32, tn_36, tn_40, tn_50, tn_100, tn_126, tn_200, tn_255, tn_500, tn_512, tn_3000, tn_5000] at c3); (try simp only [inn_f, Decidable.not_not] at c4); (try simp only [i32_lt, i32_le, i32_eq, inn_f, Decidable.not_not, tn_m1, tn_0, tn_1, tn_2, tn_3, tn_4, tn_5, tn_6, tn_7, tn_8, tn_10, tn_30, tn_31, tn_32, tn_36, tn_40, tn_50, tn_100, tn_126, tn_200, tn_255, tn_500, tn_512, tn_3000, tn_5000] at c4); (try simp only [inn_f, Decidable.not_not] at c5); (try simp only [i32_lt, i32_le, i32_eq, inn_f, Decidable.not_not, tn_m1, tn_0, tn_1, tn_2, tn_3, tn_4, tn_5, tn_6, tn_7, tn_8, tn_10, tn_30, tn_31, tn_32, tn_36, tn_40, tn_50, tn_100, tn_126, tn_200, tn_255, tn_500, tn_512, tn_3000, tn_5000] at c5); split <;> rename_i hz <;> (try simp only [i32_lt, i32_le, i32_eq, inn_f, Decidable.not_not, tn_m1, tn_0, tn_1, tn_2, tn_3, tn_4, tn_5, tn_6, tn_7, tn_8, tn_10, tn_30, tn_31, tn_32, tn_36, tn_40, tn_50, tn_100, tn_126, tn_200, tn_255, tn_500, tn_512, tn_3000, tn_5000] at hz) <;> first | rfl | (exfalso; omega) | (rw [i32_eq]; simp only [i32_lt, i32_le, i32_eq, inn_f, Decidable.not_not, tn_m1, tn_0, tn_1, tn_2, tn_3, tn_4, tn_5, tn_6, tn_7, tn_8, tn_10, tn_30, tn_31, tn_32, tn_36, tn_40, tn_50, tn_100, tn_126, tn_200, tn_255, tn_500, tn_512, tn_3000, tn_5000]; omega))
          · refine q_iload_n (j := 3) C dX11_measure_27 rfl ?_
            refine q_sipush (v := 255) C dX11_measure_28 (by decide) ?_
            refine q_icmp_le (tgt := 41) C dX11_measure_31 (by decide) (fun c6 => ?_) (fun c6 => ?_)
            · refine q_aload_n (j := 0) C dX11_measure_41 rfl ?_
              refine q_iload_n (j := 1) C dX11_measure_42 rfl ?_
              refine q_put (k := 11) C ck_12 dX11_measure_43 w2_55 (by decide) rfl hL hE rfl rfl ?_
              refine q_aload_n (j := 0) C dX11_measure_46 rfl ?_
              refine q_iload_n (j := 2) C dX11_measure_47 rfl ?_
              refine q_put (k := 12) C ck_12 dX11_measure_48 w2_56 (by decide) rfl hL (va_up_self _ _ _) rfl rfl ?_
              refine q_aload_n (j := 0) C dX11_measure_51 rfl ?_
              refine q_iload_n (j := 3) C dX11_measure_52 rfl ?_
              refine q_put (k := 13) C ck_12 dX11_measure_53 w2_57 (by decide) rfl hL (va_up_self _ _ _) rfl rfl ?_
              refine q_aload_n (j := 0) C dX11_measure_56 rfl ?_
              refine q_iconst (v := 1) C dX11_measure_57 (by decide) ?_
              refine q_callV (d2 := 0) (mc2 := 0) (ms2 := 0) (As := [.int 1]) (rest := []) C (c_done 1 hL (va_up_self _ _ _)) dX11_measure_58 kV_X11_109 rfl hL (va_up_self _ _ _) ck_12 rfl (Nat.le_of_ble_eq_true rfl) ⟨Nat.le_of_ble_eq_true rfl, Nat.le_of_ble_eq_true rfl⟩ ⟨Nat.le_of_ble_eq_true rfl, Nat.le_of_ble_eq_true rfl⟩ (fun vh6 Lh6 Eh6 h6 => ?_)
              obtain ⟨rfl, rfl, rfl⟩ := h6
              refine q_st (st2 := [.int 1]) rfl ?_
              exact q_iret C dX11_measure_61 rfl (Nat.le_of_ble_eq_true rfl) (Nat.le_of_ble_eq_true rfl) (by refine congrArg (fun z => some (Value.int z)) ?_; unfold an_meas; (try simp only [inn_f, Decidable.not_not] at c1); (try simp only [i32_lt, i32_le, i32_eq, inn_f, Decidable.not_not, tn_m1, tn_0, tn_1, tn_2, tn_3, tn_4, tn_5, tn_6, tn_7, tn_8, tn_10, tn_30, tn_31, tn_32, tn_36, tn_40, tn_50, tn_100, tn_126, tn_200, tn_255, tn_500, tn_512, tn_3000, tn_5000] at c1); (try simp only [inn_f, Decidable.not_not] at c2); (try simp only [i32_lt, i32_le, i32_eq, inn_f, Decidable.not_not, tn_m1, tn_0, tn_1, tn_2, tn_3, tn_4, tn_5, tn_6, tn_7, tn_8, tn_10, tn_30, tn_31, tn_32, tn_36, tn_40, tn_50, tn_100, tn_126, tn_200, tn_255, tn_500, tn_512, tn_3000, tn_5000] at c2); (try simp only [inn_f, Decidable.not_not] at c3); (try simp only [i32_lt, i32_le, i32_eq, inn_f, Decidable.not_not, tn_m1, tn_0, tn_1, tn_2, tn_3, tn_4, tn_5, tn_6, tn_7, tn_8, tn_10, tn_30, tn_31, tn_32, tn_36, tn_40, tn_50, tn_100, tn_126, tn_200, tn_255, tn_500, tn_512, tn_3000, tn_5000] at c3); (try simp only [inn_f, Decidable.not_not] at c4); (try simp only [i32_lt, i32_le, i32_eq, inn_f, Decidable.not_not, tn_m1, tn_0, tn_1, tn_2, tn_3, tn_4, tn_5, tn_6, tn_7, tn_8, tn_10, tn_30, tn_31, tn_32, tn_36, tn_40, tn_50, tn_100, tn_126, tn_200, tn_255, tn_500, tn_512, tn_3000, tn_5000] at c4); (try simp only [inn_f, Decidable.not_not] at c5); (try simp only [i32_lt, i32_le, i32_eq, inn_f, Decidable.not_not, tn_m1, tn_0, tn_1, tn_2, tn_3, tn_4, tn_5, tn_6, tn_7, tn_8, tn_10, tn_30, tn_31, tn_32, tn_36, tn_40, tn_50, tn_100, tn_126, tn_200, tn_255, tn_500, tn_512, tn_3000, tn_5000] at c5); (try simp only [inn_f, Decidable.not_not] at c6); (try simp only [i32_lt, i32_le, i32_eq, inn_f, Decidable.not_not, tn_m1, tn_0, tn_1, tn_2, tn_3, tn_4, tn_5, tn_6, tn_7, tn_8, tn_10, tn_30, tn_31, tn_32, tn_36, tn_40, tn_50, tn_100, tn_126, tn_200, tn_255, tn_500, tn_512, tn_3000, tn_5000] at c6); split <;> rename_i hz <;> (try simp only [i32_lt, i32_le, i32_eq, inn_f, Decidable.not_not, tn_m1, tn_0, tn_1, tn_2, tn_3, tn_4, tn_5, tn_6, tn_7, tn_8, tn_10, tn_30, tn_31, tn_32, tn_36, tn_40, tn_50, tn_100, tn_126, tn_200, tn_255, tn_500, tn_512, tn_3000, tn_5000] at hz) <;> first | rfl | (exfalso; omega) | (rw [i32_eq]; simp only [i32_lt, i32_le, i32_eq, inn_f, Decidable.not_not, tn_m1, tn_0, tn_1, tn_2, tn_3, tn_4, tn_5, tn_6, tn_7, tn_8, tn_10, tn_30, tn_31, tn_32, tn_36, tn_40, tn_50, tn_100, tn_126, tn_200, tn_255, tn_500, tn_512, tn_3000, tn_5000]; omega))
            · refine q_aload_n (j := 0) C dX11_measure_34 rfl ?_
              refine q_bipush (v := 6) C dX11_measure_35 (by decide) ?_
              refine q_callV (d2 := 0) (mc2 := 0) (ms2 := 0) (As := [.int 6]) (rest := []) C (c_refuse 6 hL hE) dX11_measure_37 kV_X11_102 rfl hL hE ck_12 rfl (Nat.le_of_ble_eq_true rfl) ⟨Nat.le_of_ble_eq_true rfl, Nat.le_of_ble_eq_true rfl⟩ ⟨Nat.le_of_ble_eq_true rfl, Nat.le_of_ble_eq_true rfl⟩ (fun vh7 Lh7 Eh7 h7 => ?_)
              obtain ⟨rfl, rfl, rfl⟩ := h7
              refine q_st (st2 := [.int (-1)]) rfl ?_
              exact q_iret C dX11_measure_40 rfl (Nat.le_of_ble_eq_true rfl) (Nat.le_of_ble_eq_true rfl) (by refine congrArg (fun z => some (Value.int z)) ?_; unfold an_meas; (try simp only [inn_f, Decidable.not_not] at c1); (try simp only [i32_lt, i32_le, i32_eq, inn_f, Decidable.not_not, tn_m1, tn_0, tn_1, tn_2, tn_3, tn_4, tn_5, tn_6, tn_7, tn_8, tn_10, tn_30, tn_31, tn_32, tn_36, tn_40, tn_50, tn_100, tn_126, tn_200, tn_255, tn_500, tn_512, tn_3000, tn_5000] at c1); (try simp only [inn_f, Decidable.not_not] at c2); (try simp only [i32_lt, i32_le, i32_eq, inn_f, Decidable.not_not, tn_m1, tn_0, tn_1, tn_2, tn_3, tn_4, tn_5, tn_6, tn_7, tn_8, tn_10, tn_30, tn_31, tn_32, tn_36, tn_40, tn_50, tn_100, tn_126, tn_200, tn_255, tn_500, tn_512, tn_3000, tn_5000] at c2); (try simp only [inn_f, Decidable.not_not] at c3); (try simp only [i32_lt, i32_le, i32_eq, inn_f, Decidable.not_not, tn_m1, tn_0, tn_1, tn_2, tn_3, tn_4, tn_5, tn_6, tn_7, tn_8, tn_10, tn_30, tn_31, tn_32, tn_36, tn_40, tn_50, tn_100, tn_126, tn_200, tn_255, tn_500, tn_512, tn_3000, tn_5000] at c3); (try simp only [inn_f, Decidable.not_not] at c4); (try simp only [i32_lt, i32_le, i32_eq, inn_f, Decidable.not_not, tn_m1, tn_0, tn_1, tn_2, tn_3, tn_4, tn_5, tn_6, tn_7, tn_8, tn_10, tn_30, tn_31, tn_32, tn_36, tn_40, tn_50, tn_100, tn_126, tn_200, tn_255, tn_500, tn_512, tn_3000, tn_5000] at c4); (try simp only [inn_f, Decidable.not_not] at c5); (try simp only [i32_lt, i32_le, i32_eq, inn_f, Decidable.not_not, tn_m1, tn_0, tn_1, tn_2, tn_3, tn_4, tn_5, tn_6, tn_7, tn_8, tn_10, tn_30, tn_31, tn_32, tn_36, tn_40, tn_50, tn_100, tn_126, tn_200, tn_255, tn_500, tn_512, tn_3000, tn_5000] at c5); (try simp only [inn_f, Decidable.not_not] at c6); (try simp only [i32_lt, i32_le, i32_eq, inn_f, Decidable.not_not, tn_m1, tn_0, tn_1, tn_2, tn_3, tn_4, tn_5, tn_6, tn_7, tn_8, tn_10, tn_30, tn_31, tn_32, tn_36, tn_40, tn_50, tn_100, tn_126, tn_200, tn_255, tn_500, tn_512, tn_3000, tn_5000] at c6); split <;> rename_i hz <;> (try simp only [i32_lt, i32_le, i32_eq, inn_f, Decidable.not_not, tn_m1, tn_0, tn_1, tn_2, tn_3, tn_4, tn_5, tn_6, tn_7, tn_8, tn_10, tn_30, tn_31, tn_32, tn_36, tn_40, tn_50, tn_100, tn_126, tn_200, tn_255, tn_500, tn_512, tn_3000, tn_5000] at hz) <;> first | rfl | (exfalso; omega) | (rw [i32_eq]; simp only [i32_lt, i32_le, i32_eq, inn_f, Decidable.not_not, tn_m1, tn_0, tn_1, tn_2, tn_3, tn_4, tn_5, tn_6, tn_7, tn_8, tn_10, tn_30, tn_31, tn_32, tn_36, tn_40, tn_50, tn_100, tn_126, tn_200, tn_255, tn_500, tn_512, tn_3000, tn_5000]; omega))
set_option maxHeartbeats 4000000 in
set_option maxRecDepth 100000 in
theorem h_pagesHaveHeader {l : Launch} {G : GT} {L : List Nat} {E : Nat → va_E}  {h0 hd : Nat} {f fh : Nat → Value} (hL : h0 ∈ L) (hE : E h0 = ob 12 19 f) (f3 : f 3 = .ref hd) (hLhd : hd ∈ L) (hEhd : E hd = ob 2 3 fh) (fh2 : fh 2 = .int 0) : Mq l G yX11_pagesHaveHeader cX11_pagesHaveHeader 1 (some .boolean) 3 [.ref h0] L E 0 0 (fun v L2 E2 => v = some (.int 0) ∧ L2 = L ∧ E2 = E) := by
  refine Mq.mk (by decide) (Nat.le_of_ble_eq_true rfl) ?_
  intro p e s m args below meth c A C
  refine q_aload_n (j := 0) C dX11_pagesHaveHeader_0 rfl ?_
  refine q_get (k := 3) (v := .ref hd) C ck_12 dX11_pagesHaveHeader_1 w2_47 (by decide) hL hE f3 ?_
  refine q_get (k := 2) (v := .int 0) C ck_2 dX11_pagesHaveHeader_4 w1_44 (by decide) hLhd hEhd fh2 ?_
  refine q_if_le (tgt := 22) C dX11_pagesHaveHeader_7 (by decide) (fun _ => ?_) (fun z => absurd (by decide) z)
  refine q_iconst (v := 0) C dX11_pagesHaveHeader_22 (by decide) ?_
  exact q_zret C dX11_pagesHaveHeader_23 rfl (by decide) (Nat.le_of_ble_eq_true rfl) (Nat.le_of_ble_eq_true rfl) ⟨rfl, rfl, rfl⟩
set_option maxHeartbeats 4000000 in
set_option maxRecDepth 100000 in
theorem h_linesOfPage {l : Launch} {G : GT} {L : List Nat} {E : Nat → va_E}  {h0 hd : Nat} {f fh : Nat → Value} (hL : h0 ∈ L) (hE : E h0 = ob 12 19 f) (f3 : f 3 = .ref hd) (f12 : f 12 = .int 25) (hLhd : hd ∈ L) (hEhd : E hd = ob 2 3 fh) (fh2 : fh 2 = .int 0) : Mq l G yX11_linesOfPage cX11_linesOfPage 1 (some .int) 4 [.ref h0] L E 0 0 (fun v L2 E2 => v = some (.int 25) ∧ L2 = L ∧ E2 = E) := by
  refine Mq.mk (by decide) (Nat.le_of_ble_eq_true rfl) ?_
  intro p e s m args below meth c A C
  refine q_iconst (v := 1) C dX11_linesOfPage_0 (by decide) ?_
  refine q_aload_n (j := 0) C dX11_linesOfPage_1 rfl ?_
  refine q_callV (d2 := 3) (mc2 := 0) (ms2 := 0) (As := []) (rest := [.int 1]) C (h_pagesHaveHeader  hL hE f3 hLhd hEhd fh2) dX11_linesOfPage_2 kV_X11_285 rfl hL hE ck_12 rfl (Nat.le_of_ble_eq_true rfl) ⟨Nat.le_of_ble_eq_true rfl, Nat.le_of_ble_eq_true rfl⟩ ⟨Nat.le_of_ble_eq_true rfl, Nat.le_of_ble_eq_true rfl⟩ (fun vh1 Lh1 Eh1 h1 => ?_)
  obtain ⟨rfl, rfl, rfl⟩ := h1
  refine q_st (st2 := [.int 0, .int 1]) rfl ?_
  refine q_if_eq (tgt := 17) C dX11_linesOfPage_5 (by decide) (fun _ => ?_) (fun z => absurd (by decide) z)
  refine q_aload_n (j := 0) C dX11_linesOfPage_17 rfl ?_
  refine q_get (k := 12) (v := .int 25) C ck_12 dX11_linesOfPage_18 w2_56 (by decide) hL hE f12 ?_
  refine q_mmax (v := 25) C dX11_linesOfPage_21 w3_93 w2_148 w1_14 w2_149 ⟨Nat.le_of_ble_eq_true rfl, Nat.le_of_ble_eq_true rfl⟩ ⟨Nat.le_of_ble_eq_true rfl, Nat.le_of_ble_eq_true rfl⟩ (Nat.le_of_ble_eq_true rfl) (by decide) ?_
  exact q_iret C dX11_linesOfPage_24 rfl (Nat.le_of_ble_eq_true rfl) (Nat.le_of_ble_eq_true rfl) ⟨rfl, rfl, rfl⟩
set_option maxHeartbeats 4000000 in
set_option maxRecDepth 100000 in
theorem h_cellOfLine {l : Launch} {G : GT} {L : List Nat} {E : Nat → va_E} (l0 i : Int32)  {h0 sh : Nat} {f fs : Nat → Value} (hL : h0 ∈ L) (hE : E h0 = ob 12 19 f) (f9 : f 9 = .ref sh) (hLsh : sh ∈ L) (hEsh : E sh = ob 8 3 fs) (fs1 : fs 1 = .int 0) : Mq l G yX11_cellOfLine cX11_cellOfLine 4 (some .int) 3 [.ref h0, .int l0, .int i] L E 0 0 (fun v L2 E2 => v = some (.int (-1)) ∧ L2 = L ∧ (∀ a ∈ L, a ≠ h0 → E2 a = E a) ∧ ∃ g, E2 h0 = ob 12 19 g ∧ g 0 = f 0) := by
  refine Mq.mk (by decide) (Nat.le_of_ble_eq_true rfl) ?_
  intro p e s m args below meth c A C
  refine q_aload_n (j := 0) C dX11_cellOfLine_0 rfl ?_
  refine q_get (k := 9) (v := .ref sh) C ck_12 dX11_cellOfLine_1 w2_53 (by decide) hL hE f9 ?_
  refine q_iload_n (j := 1) C dX11_cellOfLine_4 rfl ?_
  refine q_callV (d2 := 1) (mc2 := 0) (ms2 := 0) (As := [.int l0]) (rest := []) C (c_present0 l0 hLsh hEsh fs1) dX11_cellOfLine_5 kV_X11_288 rfl hLsh hEsh ck_8 rfl (Nat.le_of_ble_eq_true rfl) ⟨Nat.le_of_ble_eq_true rfl, Nat.le_of_ble_eq_true rfl⟩ ⟨Nat.le_of_ble_eq_true rfl, Nat.le_of_ble_eq_true rfl⟩ (fun vh1 Lh1 Eh1 h1 => ?_)
  obtain ⟨rfl, rfl, rfl⟩ := h1
  refine q_st (st2 := [.null]) rfl ?_
  refine q_astore_nN (lv2 := [(3, .null), (0, .ref h0), (1, .int l0), (2, .int i)]) C dX11_cellOfLine_8 (by decide) rfl ?_
  refine q_aload_nN (j := 0) C dX11_cellOfLine_9 rfl ?_
  refine q_ifnonnullN C dX11_cellOfLine_10 ?_
  refine q_aload_n (j := 1) C dX11_cellOfLine_13 rfl ?_
  refine q_aload_n (j := 1) C dX11_cellOfLine_14 rfl ?_
  refine q_get (k := 9) (v := .ref sh) C ck_12 dX11_cellOfLine_15 w2_53 (by decide) hL hE f9 ?_
  refine q_iload_n (j := 2) C dX11_cellOfLine_18 rfl ?_
  refine q_callV (d2 := 1) (mc2 := 0) (ms2 := 0) (As := [.int l0]) (rest := [.ref h0]) C (c_whyNone0 l0 hLsh hEsh fs1) dX11_cellOfLine_19 kV_X11_292 rfl hLsh hEsh ck_8 rfl (Nat.le_of_ble_eq_true rfl) ⟨Nat.le_of_ble_eq_true rfl, Nat.le_of_ble_eq_true rfl⟩ ⟨Nat.le_of_ble_eq_true rfl, Nat.le_of_ble_eq_true rfl⟩ (fun vh2 Lh2 Eh2 h2 => ?_)
  obtain ⟨rfl, rfl, rfl⟩ := h2
  refine q_st (st2 := [.int 2, .ref h0]) rfl ?_
  refine q_callV (d2 := 0) (mc2 := 0) (ms2 := 0) (As := [.int 2]) (rest := []) C (c_refuse 2 hL hE) dX11_cellOfLine_22 kV_X11_102 rfl hL hE ck_12 rfl (Nat.le_of_ble_eq_true rfl) ⟨Nat.le_of_ble_eq_true rfl, Nat.le_of_ble_eq_true rfl⟩ ⟨Nat.le_of_ble_eq_true rfl, Nat.le_of_ble_eq_true rfl⟩ (fun vh3 Lh3 Eh3 h3 => ?_)
  obtain ⟨rfl, rfl, rfl⟩ := h3
  refine q_st (st2 := [.int (-1)]) rfl ?_
  exact q_iret C dX11_cellOfLine_25 rfl (Nat.le_of_ble_eq_true rfl) (Nat.le_of_ble_eq_true rfl) ⟨rfl, rfl, (fun aa haa naa => ((va_up_ne _ _ naa).trans rfl)), _, (va_up_self _ _ _), rfl⟩
set_option maxHeartbeats 4000000 in
set_option maxRecDepth 100000 in
theorem h_addRule {l : Launch} {G : GT} {L : List Nat} {E : Nat → va_E} (t k n : Int32)  {h0 tb md ch : Nat} {f fT fm fc : Nat → Value} (hL : h0 ∈ L) (hE : E h0 = ob 12 19 f) (f4 : f 4 = .ref tb) (hLtb : tb ∈ L) (hEtb : E tb = ob 11 2 fT) (fT0 : fT 0 = .ref md) (fT1 : fT 1 = .ref ch) (hLmd : md ∈ L) (hEmd : E md = ob 0 3 fm) (fm2 : fm 2 = .int 0) (hLch : ch ∈ L) (hEch : E ch = ob 0 3 fc) (fc2 : fc 2 = .int 0) : Mq l G yX11_addRule cX11_addRule 6 (some .int) 3 [.ref h0, .int t, .int k, .int n] L E 0 0 (fun v L2 E2 => v = some (.int (-1)) ∧ L2 = L ∧ (∀ a ∈ L, a ≠ h0 → E2 a = E a) ∧ ∃ g, E2 h0 = ob 12 19 g ∧ g 0 = f 0) := by
  refine Mq.mk (by decide) (Nat.le_of_ble_eq_true rfl) ?_
  intro p e s m args below meth c A C
  refine q_aload_n (j := 0) C dX11_addRule_0 rfl ?_
  refine q_get (k := 4) (v := .ref tb) C ck_12 dX11_addRule_1 w2_48 (by decide) hL hE f4 ?_
  refine q_iload_n (j := 1) C dX11_addRule_4 rfl ?_
  refine q_callV (d2 := 1) (mc2 := 0) (ms2 := 0) (As := [.int t]) (rest := []) C (c_alive0 t hLtb hEtb fT0 fT1 hLmd hEmd fm2 hLch hEch fc2) dX11_addRule_5 kV_X11_131 rfl hLtb hEtb ck_11 rfl (Nat.le_of_ble_eq_true rfl) ⟨Nat.le_of_ble_eq_true rfl, Nat.le_of_ble_eq_true rfl⟩ ⟨Nat.le_of_ble_eq_true rfl, Nat.le_of_ble_eq_true rfl⟩ (fun vh1 Lh1 Eh1 h1 => ?_)
  obtain ⟨rfl, rfl, rfl⟩ := h1
  refine q_st (st2 := [.null]) rfl ?_
  refine q_astoreN (lv2 := [(4, .null), (0, .ref h0), (1, .int t), (2, .int k), (3, .int n)]) C dX11_addRule_8 (by decide) rfl ?_
  refine q_aloadN (j := 0) C dX11_addRule_10 rfl ?_
  refine q_ifnonnullN C dX11_addRule_12 ?_
  refine q_aload_n (j := 1) C dX11_addRule_15 rfl ?_
  refine q_iconst (v := 3) C dX11_addRule_16 (by decide) ?_
  refine q_callV (d2 := 0) (mc2 := 0) (ms2 := 0) (As := [.int 3]) (rest := []) C (c_refuse 3 hL hE) dX11_addRule_17 kV_X11_102 rfl hL hE ck_12 rfl (Nat.le_of_ble_eq_true rfl) ⟨Nat.le_of_ble_eq_true rfl, Nat.le_of_ble_eq_true rfl⟩ ⟨Nat.le_of_ble_eq_true rfl, Nat.le_of_ble_eq_true rfl⟩ (fun vh2 Lh2 Eh2 h2 => ?_)
  obtain ⟨rfl, rfl, rfl⟩ := h2
  refine q_st (st2 := [.int (-1)]) rfl ?_
  exact q_iret C dX11_addRule_20 rfl (Nat.le_of_ble_eq_true rfl) (Nat.le_of_ble_eq_true rfl) ⟨rfl, rfl, (fun aa haa naa => ((va_up_ne _ _ naa).trans rfl)), _, (va_up_self _ _ _), rfl⟩
set_option maxHeartbeats 4000000 in
set_option maxRecDepth 100000 in
theorem h_changeIndicator {l : Launch} {G : GT} {L : List Nat} {E : Nat → va_E} (t k : Int32)  {h0 tb md ch : Nat} {f fT fm fc : Nat → Value} (hL : h0 ∈ L) (hE : E h0 = ob 12 19 f) (f4 : f 4 = .ref tb) (hLtb : tb ∈ L) (hEtb : E tb = ob 11 2 fT) (fT0 : fT 0 = .ref md) (fT1 : fT 1 = .ref ch) (hLmd : md ∈ L) (hEmd : E md = ob 0 3 fm) (fm2 : fm 2 = .int 0) (hLch : ch ∈ L) (hEch : E ch = ob 0 3 fc) (fc2 : fc 2 = .int 0) : Mq l G yX11_changeIndicator cX11_changeIndicator 4 (some .int) 3 [.ref h0, .int t, .int k] L E 0 0 (fun v L2 E2 => v = some (.int (-1)) ∧ L2 = L ∧ (∀ a ∈ L, a ≠ h0 → E2 a = E a) ∧ ∃ g, E2 h0 = ob 12 19 g ∧ g 0 = f 0) := by
  refine Mq.mk (by decide) (Nat.le_of_ble_eq_true rfl) ?_
  intro p e s m args below meth c A C
  refine q_iload_n (j := 2) C dX11_changeIndicator_0 rfl ?_
  refine q_if_lt (tgt := 9) C dX11_changeIndicator_1 (by decide) (fun c1 => ?_) (fun c1 => ?_)
  · refine q_aload_n (j := 0) C dX11_changeIndicator_9 rfl ?_
    refine q_bipush (v := 6) C dX11_changeIndicator_10 (by decide) ?_
    refine q_callV (d2 := 0) (mc2 := 0) (ms2 := 0) (As := [.int 6]) (rest := []) C (c_refuse 6 hL hE) dX11_changeIndicator_12 kV_X11_102 rfl hL hE ck_12 rfl (Nat.le_of_ble_eq_true rfl) ⟨Nat.le_of_ble_eq_true rfl, Nat.le_of_ble_eq_true rfl⟩ ⟨Nat.le_of_ble_eq_true rfl, Nat.le_of_ble_eq_true rfl⟩ (fun vh1 Lh1 Eh1 h1 => ?_)
    obtain ⟨rfl, rfl, rfl⟩ := h1
    refine q_st (st2 := [.int (-1)]) rfl ?_
    exact q_iret C dX11_changeIndicator_15 rfl (Nat.le_of_ble_eq_true rfl) (Nat.le_of_ble_eq_true rfl) ⟨rfl, rfl, (fun aa haa naa => ((va_up_ne _ _ naa).trans rfl)), _, (va_up_self _ _ _), rfl⟩
  · refine q_iload_n (j := 2) C dX11_changeIndicator_4 rfl ?_
    refine q_iconst (v := 3) C dX11_changeIndicator_5 (by decide) ?_
    refine q_icmp_le (tgt := 16) C dX11_changeIndicator_6 (by decide) (fun c2 => ?_) (fun c2 => ?_)
    · refine q_aload_n (j := 0) C dX11_changeIndicator_16 rfl ?_
      refine q_get (k := 4) (v := .ref tb) C ck_12 dX11_changeIndicator_17 w2_48 (by decide) hL hE f4 ?_
      refine q_iload_n (j := 1) C dX11_changeIndicator_20 rfl ?_
      refine q_callV (d2 := 1) (mc2 := 0) (ms2 := 0) (As := [.int t]) (rest := []) C (c_alive0 t hLtb hEtb fT0 fT1 hLmd hEmd fm2 hLch hEch fc2) dX11_changeIndicator_21 kV_X11_131 rfl hLtb hEtb ck_11 rfl (Nat.le_of_ble_eq_true rfl) ⟨Nat.le_of_ble_eq_true rfl, Nat.le_of_ble_eq_true rfl⟩ ⟨Nat.le_of_ble_eq_true rfl, Nat.le_of_ble_eq_true rfl⟩ (fun vh2 Lh2 Eh2 h2 => ?_)
      obtain ⟨rfl, rfl, rfl⟩ := h2
      refine q_st (st2 := [.null]) rfl ?_
      refine q_astore_nN (lv2 := [(3, .null), (0, .ref h0), (1, .int t), (2, .int k)]) C dX11_changeIndicator_24 (by decide) rfl ?_
      refine q_aload_nN (j := 0) C dX11_changeIndicator_25 rfl ?_
      refine q_ifnonnullN C dX11_changeIndicator_26 ?_
      refine q_aload_n (j := 1) C dX11_changeIndicator_29 rfl ?_
      refine q_iconst (v := 3) C dX11_changeIndicator_30 (by decide) ?_
      refine q_callV (d2 := 0) (mc2 := 0) (ms2 := 0) (As := [.int 3]) (rest := []) C (c_refuse 3 hL hE) dX11_changeIndicator_31 kV_X11_102 rfl hL hE ck_12 rfl (Nat.le_of_ble_eq_true rfl) ⟨Nat.le_of_ble_eq_true rfl, Nat.le_of_ble_eq_true rfl⟩ ⟨Nat.le_of_ble_eq_true rfl, Nat.le_of_ble_eq_true rfl⟩ (fun vh3 Lh3 Eh3 h3 => ?_)
      obtain ⟨rfl, rfl, rfl⟩ := h3
      refine q_st (st2 := [.int (-1)]) rfl ?_
      exact q_iret C dX11_changeIndicator_34 rfl (Nat.le_of_ble_eq_true rfl) (Nat.le_of_ble_eq_true rfl) ⟨rfl, rfl, (fun aa haa naa => ((va_up_ne _ _ naa).trans rfl)), _, (va_up_self _ _ _), rfl⟩
    · refine q_aload_n (j := 0) C dX11_changeIndicator_9 rfl ?_
      refine q_bipush (v := 6) C dX11_changeIndicator_10 (by decide) ?_
      refine q_callV (d2 := 0) (mc2 := 0) (ms2 := 0) (As := [.int 6]) (rest := []) C (c_refuse 6 hL hE) dX11_changeIndicator_12 kV_X11_102 rfl hL hE ck_12 rfl (Nat.le_of_ble_eq_true rfl) ⟨Nat.le_of_ble_eq_true rfl, Nat.le_of_ble_eq_true rfl⟩ ⟨Nat.le_of_ble_eq_true rfl, Nat.le_of_ble_eq_true rfl⟩ (fun vh4 Lh4 Eh4 h4 => ?_)
      obtain ⟨rfl, rfl, rfl⟩ := h4
      refine q_st (st2 := [.int (-1)]) rfl ?_
      exact q_iret C dX11_changeIndicator_15 rfl (Nat.le_of_ble_eq_true rfl) (Nat.le_of_ble_eq_true rfl) ⟨rfl, rfl, (fun aa haa naa => ((va_up_ne _ _ naa).trans rfl)), _, (va_up_self _ _ _), rfl⟩
set_option maxHeartbeats 4000000 in
set_option maxRecDepth 100000 in
theorem h_pages {l : Launch} {G : GT} {L : List Nat} {E : Nat → va_E}  {h0 hd sh : Nat} {f fh fs : Nat → Value} (hL : h0 ∈ L) (hE : E h0 = ob 12 19 f) (f3 : f 3 = .ref hd) (f9 : f 9 = .ref sh) (f12 : f 12 = .int 25) (hLhd : hd ∈ L) (hEhd : E hd = ob 2 3 fh) (fh2 : fh 2 = .int 0) (hLsh : sh ∈ L) (hEsh : E sh = ob 8 3 fs) (fs1 : fs 1 = .int 0) : Mq l G yX11_pages cX11_pages 2 (some .int) 5 [.ref h0] L E 0 0 (fun v L2 E2 => v = some (.int 0) ∧ L2 = L ∧ E2 = E) := by
  refine Mq.mk (by decide) (Nat.le_of_ble_eq_true rfl) ?_
  intro p e s m args below meth c A C
  refine q_aload_n (j := 0) C dX11_pages_0 rfl ?_
  refine q_callV (d2 := 4) (mc2 := 0) (ms2 := 0) (As := []) (rest := []) C (h_linesOfPage  hL hE f3 f12 hLhd hEhd fh2) dX11_pages_1 kV_X11_282 rfl hL hE ck_12 rfl (Nat.le_of_ble_eq_true rfl) ⟨Nat.le_of_ble_eq_true rfl, Nat.le_of_ble_eq_true rfl⟩ ⟨Nat.le_of_ble_eq_true rfl, Nat.le_of_ble_eq_true rfl⟩ (fun vh1 Lh1 Eh1 h1 => ?_)
  obtain ⟨rfl, rfl, rfl⟩ := h1
  refine q_st (st2 := [.int 25]) rfl ?_
  refine q_istore_n (lv2 := [(1, .int 25), (0, .ref h0)]) C dX11_pages_4 (by decide) rfl ?_
  refine q_aload_n (j := 1) C dX11_pages_5 rfl ?_
  refine q_get (k := 9) (v := .ref sh) C ck_12 dX11_pages_6 w2_53 (by decide) hL hE f9 ?_
  refine q_get (k := 1) (v := .int 0) C ck_8 dX11_pages_9 w2_35 (by decide) hLsh hEsh fs1 ?_
  refine q_iload_n (j := 0) C dX11_pages_12 rfl ?_
  refine q_iadd (v := 25) C dX11_pages_13 (by decide) ?_
  refine q_iconst (v := 1) C dX11_pages_14 (by decide) ?_
  refine q_isub (v := 24) C dX11_pages_15 (by decide) ?_
  refine q_iload_n (j := 0) C dX11_pages_16 rfl ?_
  refine q_idiv (v := 0) C dX11_pages_17 (by decide) (by decide) ?_
  exact q_iret C dX11_pages_18 rfl (Nat.le_of_ble_eq_true rfl) (Nat.le_of_ble_eq_true rfl) ⟨rfl, rfl, rfl⟩
set_option maxHeartbeats 4000000 in
set_option maxRecDepth 100000 in
theorem x_cell {l : Launch} {G : GT} {L : List Nat} {E : Nat → va_E} (l0 i : Int32)  {h0 sh : Nat} {f fs : Nat → Value} (hL : h0 ∈ L) (hE : E h0 = ob 12 19 f) (f9 : f 9 = .ref sh) (hLsh : sh ∈ L) (hEsh : E sh = ob 8 3 fs) (fs1 : fs 1 = .int 0) : Mq l G yX11_cell cX11_cell 3 (some .int) 6 [.ref h0, .int l0, .int i] L E 0 0 (fun v L2 E2 => v = some (.int (-1))) := by
  refine Mq.mk (by decide) (Nat.le_of_ble_eq_true rfl) ?_
  intro p e s m args below meth c A C
  refine q_aload_n (j := 0) C dX11_cell_0 rfl ?_
  refine q_iload_n (j := 1) C dX11_cell_1 rfl ?_
  refine q_iload_n (j := 2) C dX11_cell_2 rfl ?_
  refine q_callV (d2 := 3) (mc2 := 0) (ms2 := 0) (As := [.int l0, .int i]) (rest := []) C (h_cellOfLine l0 i hL hE f9 hLsh hEsh fs1) dX11_cell_3 kV_X11_298 rfl hL hE ck_12 rfl (Nat.le_of_ble_eq_true rfl) ⟨Nat.le_of_ble_eq_true rfl, Nat.le_of_ble_eq_true rfl⟩ ⟨Nat.le_of_ble_eq_true rfl, Nat.le_of_ble_eq_true rfl⟩ (fun vh1 Lh1 Eh1 h1 => ?_)
  obtain ⟨rfl, rfl, h1b, gh1, h1c, h10⟩ := h1
  refine q_st (st2 := [.int (-1)]) rfl ?_
  exact q_iret C dX11_cell_6 rfl (Nat.le_of_ble_eq_true rfl) (Nat.le_of_ble_eq_true rfl) rfl
set_option maxHeartbeats 4000000 in
set_option maxRecDepth 100000 in
theorem x_rule {l : Launch} {G : GT} {L : List Nat} {E : Nat → va_E} (t k n : Int32)  {h0 tp tb md ch : Nat} {f ft fT fm fc : Nat → Value} (hL : h0 ∈ L) (hE : E h0 = ob 12 19 f) (f0 : f 0 = .ref tp) (f4 : f 4 = .ref tb) (hLtp : tp ∈ L) (hEtp : E tp = ob 2 3 ft) (hLtb : tb ∈ L) (hEtb : E tb = ob 11 2 fT) (fT0 : fT 0 = .ref md) (fT1 : fT 1 = .ref ch) (hLmd : md ∈ L) (hEmd : E md = ob 0 3 fm) (fm2 : fm 2 = .int 0) (hLch : ch ∈ L) (hEch : E ch = ob 0 3 fc) (fc2 : fc 2 = .int 0) : Mq l G yX11_rule cX11_rule 5 (some .int) 6 [.ref h0, .int t, .int k, .int n] L E 0 0 (fun v L2 E2 => v = some (.int (-1))) := by
  refine Mq.mk (by decide) (Nat.le_of_ble_eq_true rfl) ?_
  intro p e s m args below meth c A C
  refine q_aload_n (j := 0) C dX11_rule_0 rfl ?_
  refine q_iload_n (j := 1) C dX11_rule_1 rfl ?_
  refine q_iload_n (j := 2) C dX11_rule_2 rfl ?_
  refine q_iload_n (j := 3) C dX11_rule_3 rfl ?_
  refine q_callV (d2 := 3) (mc2 := 0) (ms2 := 0) (As := [.int t, .int k, .int n]) (rest := []) C (h_addRule t k n hL hE f4 hLtb hEtb fT0 fT1 hLmd hEmd fm2 hLch hEch fc2) dX11_rule_4 kV_X11_160 rfl hL hE ck_12 rfl (Nat.le_of_ble_eq_true rfl) ⟨Nat.le_of_ble_eq_true rfl, Nat.le_of_ble_eq_true rfl⟩ ⟨Nat.le_of_ble_eq_true rfl, Nat.le_of_ble_eq_true rfl⟩ (fun vh1 Lh1 Eh1 h1 => ?_)
  obtain ⟨rfl, rfl, h1b, gh1, h1c, h10⟩ := h1
  refine q_st (st2 := [.int (-1)]) rfl ?_
  refine q_istore (lv2 := [(4, .int (-1)), (0, .ref h0), (1, .int t), (2, .int k), (3, .int n)]) C dX11_rule_7 (by decide) rfl ?_
  refine q_aload_n (j := 1) C dX11_rule_9 rfl ?_
  refine q_get (k := 0) (v := .ref tp) C ck_12 dX11_rule_10 w2_44 (by decide) hL h1c (h10.trans f0) ?_
  refine q_callV (d2 := 0) (mc2 := 0) (ms2 := 0) (As := []) (rest := []) C (c_iclear  hLtp ((h1b _ hLtp (ne_ob hEtp hE (by decide))).trans hEtp)) dX11_rule_13 kV_X11_164 rfl hLtp ((h1b _ hLtp (ne_ob hEtp hE (by decide))).trans hEtp) ck_2 rfl (Nat.le_of_ble_eq_true rfl) ⟨Nat.le_of_ble_eq_true rfl, Nat.le_of_ble_eq_true rfl⟩ ⟨Nat.le_of_ble_eq_true rfl, Nat.le_of_ble_eq_true rfl⟩ (fun vh2 Lh2 Eh2 h2 => ?_)
  obtain ⟨rfl, rfl, rfl⟩ := h2
  refine q_st (st2 := []) rfl ?_
  refine q_iload (j := 0) C dX11_rule_16 rfl ?_
  exact q_iret C dX11_rule_18 rfl (Nat.le_of_ble_eq_true rfl) (Nat.le_of_ble_eq_true rfl) rfl
set_option maxHeartbeats 4000000 in
set_option maxRecDepth 100000 in
theorem x_indicator {l : Launch} {G : GT} {L : List Nat} {E : Nat → va_E} (t k : Int32)  {h0 tp tb md ch : Nat} {f ft fT fm fc : Nat → Value} (hL : h0 ∈ L) (hE : E h0 = ob 12 19 f) (f0 : f 0 = .ref tp) (f4 : f 4 = .ref tb) (hLtp : tp ∈ L) (hEtp : E tp = ob 2 3 ft) (hLtb : tb ∈ L) (hEtb : E tb = ob 11 2 fT) (fT0 : fT 0 = .ref md) (fT1 : fT 1 = .ref ch) (hLmd : md ∈ L) (hEmd : E md = ob 0 3 fm) (fm2 : fm 2 = .int 0) (hLch : ch ∈ L) (hEch : E ch = ob 0 3 fc) (fc2 : fc 2 = .int 0) : Mq l G yX11_indicator cX11_indicator 4 (some .int) 6 [.ref h0, .int t, .int k] L E 0 0 (fun v L2 E2 => v = some (.int (-1))) := by
  refine Mq.mk (by decide) (Nat.le_of_ble_eq_true rfl) ?_
  intro p e s m args below meth c A C
  refine q_aload_n (j := 0) C dX11_indicator_0 rfl ?_
  refine q_iload_n (j := 1) C dX11_indicator_1 rfl ?_
  refine q_iload_n (j := 2) C dX11_indicator_2 rfl ?_
  refine q_callV (d2 := 3) (mc2 := 0) (ms2 := 0) (As := [.int t, .int k]) (rest := []) C (h_changeIndicator t k hL hE f4 hLtb hEtb fT0 fT1 hLmd hEmd fm2 hLch hEch fc2) dX11_indicator_3 kV_X11_208 rfl hL hE ck_12 rfl (Nat.le_of_ble_eq_true rfl) ⟨Nat.le_of_ble_eq_true rfl, Nat.le_of_ble_eq_true rfl⟩ ⟨Nat.le_of_ble_eq_true rfl, Nat.le_of_ble_eq_true rfl⟩ (fun vh1 Lh1 Eh1 h1 => ?_)
  obtain ⟨rfl, rfl, h1b, gh1, h1c, h10⟩ := h1
  refine q_st (st2 := [.int (-1)]) rfl ?_
  refine q_istore_n (lv2 := [(3, .int (-1)), (0, .ref h0), (1, .int t), (2, .int k)]) C dX11_indicator_6 (by decide) rfl ?_
  refine q_aload_n (j := 1) C dX11_indicator_7 rfl ?_
  refine q_get (k := 0) (v := .ref tp) C ck_12 dX11_indicator_8 w2_44 (by decide) hL h1c (h10.trans f0) ?_
  refine q_callV (d2 := 0) (mc2 := 0) (ms2 := 0) (As := []) (rest := []) C (c_iclear  hLtp ((h1b _ hLtp (ne_ob hEtp hE (by decide))).trans hEtp)) dX11_indicator_11 kV_X11_164 rfl hLtp ((h1b _ hLtp (ne_ob hEtp hE (by decide))).trans hEtp) ck_2 rfl (Nat.le_of_ble_eq_true rfl) ⟨Nat.le_of_ble_eq_true rfl, Nat.le_of_ble_eq_true rfl⟩ ⟨Nat.le_of_ble_eq_true rfl, Nat.le_of_ble_eq_true rfl⟩ (fun vh2 Lh2 Eh2 h2 => ?_)
  obtain ⟨rfl, rfl, rfl⟩ := h2
  refine q_st (st2 := []) rfl ?_
  refine q_iload_n (j := 0) C dX11_indicator_14 rfl ?_
  exact q_iret C dX11_indicator_15 rfl (Nat.le_of_ble_eq_true rfl) (Nat.le_of_ble_eq_true rfl) rfl
set_option maxHeartbeats 4000000 in
set_option maxRecDepth 100000 in
theorem x_page {l : Launch} {G : GT} {L : List Nat} {E : Nat → va_E} (p0 l0 i : Int32)  {h0 hd sh : Nat} {f fh fs : Nat → Value} (hL : h0 ∈ L) (hE : E h0 = ob 12 19 f) (f3 : f 3 = .ref hd) (f9 : f 9 = .ref sh) (f12 : f 12 = .int 25) (hLhd : hd ∈ L) (hEhd : E hd = ob 2 3 fh) (fh2 : fh 2 = .int 0) (hLsh : sh ∈ L) (hEsh : E sh = ob 8 3 fs) (fs1 : fs 1 = .int 0) : Mq l G yX11_page cX11_page 5 (some .int) 6 [.ref h0, .int p0, .int l0, .int i] L E 0 0 (fun v L2 E2 => v = some (.int (-1))) := by
  refine Mq.mk (by decide) (Nat.le_of_ble_eq_true rfl) ?_
  intro p e s m args below meth c A C
  refine q_iload_n (j := 1) C dX11_page_0 rfl ?_
  refine q_if_lt (tgt := 24) C dX11_page_1 (by decide) (fun c1 => ?_) (fun c1 => ?_)
  · refine q_aload_n (j := 0) C dX11_page_24 rfl ?_
    refine q_iconst (v := 2) C dX11_page_25 (by decide) ?_
    refine q_callV (d2 := 0) (mc2 := 0) (ms2 := 0) (As := [.int 2]) (rest := []) C (c_refuse 2 hL hE) dX11_page_26 kV_X11_102 rfl hL hE ck_12 rfl (Nat.le_of_ble_eq_true rfl) ⟨Nat.le_of_ble_eq_true rfl, Nat.le_of_ble_eq_true rfl⟩ ⟨Nat.le_of_ble_eq_true rfl, Nat.le_of_ble_eq_true rfl⟩ (fun vh1 Lh1 Eh1 h1 => ?_)
    obtain ⟨rfl, rfl, rfl⟩ := h1
    refine q_st (st2 := [.int (-1)]) rfl ?_
    exact q_iret C dX11_page_29 rfl (Nat.le_of_ble_eq_true rfl) (Nat.le_of_ble_eq_true rfl) rfl
  · refine q_iload_n (j := 1) C dX11_page_4 rfl ?_
    refine q_aload_n (j := 0) C dX11_page_5 rfl ?_
    refine q_callV (d2 := 5) (mc2 := 0) (ms2 := 0) (As := []) (rest := [.int p0]) C (h_pages  hL hE f3 f9 f12 hLhd hEhd fh2 hLsh hEsh fs1) dX11_page_6 kV_X11_302 rfl hL hE ck_12 rfl (Nat.le_of_ble_eq_true rfl) ⟨Nat.le_of_ble_eq_true rfl, Nat.le_of_ble_eq_true rfl⟩ ⟨Nat.le_of_ble_eq_true rfl, Nat.le_of_ble_eq_true rfl⟩ (fun vh2 Lh2 Eh2 h2 => ?_)
    obtain ⟨rfl, rfl, rfl⟩ := h2
    refine q_st (st2 := [.int 0, .int p0]) rfl ?_
    refine q_icmp_ge (tgt := 24) C dX11_page_9 (by decide) (fun _ => ?_) (fun z => absurd (by have hz := c1; simp only [i32_lt, i32_le, i32_eq, inn_f, Decidable.not_not, tn_m1, tn_0, tn_1, tn_2, tn_3, tn_4, tn_5, tn_6, tn_7, tn_8, tn_10, tn_30, tn_31, tn_32, tn_36, tn_40, tn_50, tn_100, tn_126, tn_200, tn_255, tn_500, tn_512, tn_3000, tn_5000] at hz ⊢; omega) z)
    refine q_aload_n (j := 0) C dX11_page_24 rfl ?_
    refine q_iconst (v := 2) C dX11_page_25 (by decide) ?_
    refine q_callV (d2 := 0) (mc2 := 0) (ms2 := 0) (As := [.int 2]) (rest := []) C (c_refuse 2 hL hE) dX11_page_26 kV_X11_102 rfl hL hE ck_12 rfl (Nat.le_of_ble_eq_true rfl) ⟨Nat.le_of_ble_eq_true rfl, Nat.le_of_ble_eq_true rfl⟩ ⟨Nat.le_of_ble_eq_true rfl, Nat.le_of_ble_eq_true rfl⟩ (fun vh3 Lh3 Eh3 h3 => ?_)
    obtain ⟨rfl, rfl, rfl⟩ := h3
    refine q_st (st2 := [.int (-1)]) rfl ?_
    exact q_iret C dX11_page_29 rfl (Nat.le_of_ble_eq_true rfl) (Nat.le_of_ble_eq_true rfl) rfl
set_option maxHeartbeats 4000000 in
set_option maxRecDepth 100000 in
theorem x_head {l : Launch} {G : GT} {L : List Nat} {E : Nat → va_E} (t : Int32)  {h0 tp tb md ch wd : Nat} {f ft fT fm fc fd : Nat → Value} (hL : h0 ∈ L) (hE : E h0 = ob 12 19 f) (f0 : f 0 = .ref tp) (f4 : f 4 = .ref tb) (f6 : f 6 = .ref wd) (hLtp : tp ∈ L) (hEtp : E tp = ob 2 3 ft) (ft2 : ft 2 = .int 0) (hLtb : tb ∈ L) (hEtb : E tb = ob 11 2 fT) (fT0 : fT 0 = .ref md) (fT1 : fT 1 = .ref ch) (hLmd : md ∈ L) (hEmd : E md = ob 0 3 fm) (fm2 : fm 2 = .int 0) (hLch : ch ∈ L) (hEch : E ch = ob 0 3 fc) (fc2 : fc 2 = .int 0) (hLwd : wd ∈ L) (hEwd : E wd = ob 7 12 fd) : Mq l G yX11_head cX11_head 6 (some .int) 6 [.ref h0, .int t] L E 0 0 (fun v L2 E2 => v = some (.int (-1))) := by
  refine Mq.mk (by decide) (Nat.le_of_ble_eq_true rfl) ?_
  intro p e s m args below meth c A C
  refine q_aload_n (j := 0) C dX11_head_0 rfl ?_
  refine q_get (k := 0) (v := .ref tp) C ck_12 dX11_head_1 w2_44 (by decide) hL hE f0 ?_
  refine q_get (k := 2) (v := .int 0) C ck_2 dX11_head_4 w1_44 (by decide) hLtp hEtp ft2 ?_
  refine q_bipush (v := 40) C dX11_head_7 (by decide) ?_
  refine q_icmp_gt (tgt := 38) C dX11_head_9 (by decide) (fun z => absurd z (by decide)) (fun _ => ?_)
  refine q_aload_n (j := 0) C dX11_head_12 rfl ?_
  refine q_get (k := 0) (v := .ref tp) C ck_12 dX11_head_13 w2_44 (by decide) hL hE f0 ?_
  refine q_iconst (v := 0) C dX11_head_16 (by decide) ?_
  refine q_aload_n (j := 0) C dX11_head_17 rfl ?_
  refine q_get (k := 0) (v := .ref tp) C ck_12 dX11_head_18 w2_44 (by decide) hL hE f0 ?_
  refine q_get (k := 2) (v := .int 0) C ck_2 dX11_head_21 w1_44 (by decide) hLtp hEtp ft2 ?_
  refine q_bipush (v := 33) C dX11_head_24 (by decide) ?_
  refine q_bipush (v := 125) C dX11_head_26 (by decide) ?_
  refine q_callV (d2 := 0) (mc2 := 0) (ms2 := 0) (As := [.int 0, .int 0, .int 33, .int 125]) (rest := []) C (c_within0 33 125 hLtp hEtp) dX11_head_28 kV_X11_171 rfl hLtp hEtp ck_2 rfl (Nat.le_of_ble_eq_true rfl) ⟨Nat.le_of_ble_eq_true rfl, Nat.le_of_ble_eq_true rfl⟩ ⟨Nat.le_of_ble_eq_true rfl, Nat.le_of_ble_eq_true rfl⟩ (fun vh1 Lh1 Eh1 h1 => ?_)
  obtain ⟨rfl, rfl, rfl⟩ := h1
  refine q_st (st2 := [.int 1]) rfl ?_
  refine q_if_eq (tgt := 38) C dX11_head_31 (by decide) (fun z => absurd z (by decide)) (fun _ => ?_)
  refine q_iconst (v := 1) C dX11_head_34 (by decide) ?_
  refine q_goto (tgt := 39) C dX11_head_35 (by decide) ?_
  refine q_istore_n (lv2 := [(2, .int 1), (0, .ref h0), (1, .int t)]) C dX11_head_39 (by decide) rfl ?_
  refine q_aload_n (j := 1) C dX11_head_40 rfl ?_
  refine q_get (k := 6) (v := .ref wd) C ck_12 dX11_head_41 w2_50 (by decide) hL hE f6 ?_
  refine q_callV (d2 := 0) (mc2 := 0) (ms2 := 0) (As := []) (rest := []) C (c_sclear  hLwd hEwd) dX11_head_44 kV_X11_272 rfl hLwd hEwd ck_7 rfl (Nat.le_of_ble_eq_true rfl) ⟨Nat.le_of_ble_eq_true rfl, Nat.le_of_ble_eq_true rfl⟩ ⟨Nat.le_of_ble_eq_true rfl, Nat.le_of_ble_eq_true rfl⟩ (fun vh2 Lh2 Eh2 h2 => ?_)
  obtain ⟨rfl, rfl, rfl⟩ := h2
  refine q_st (st2 := []) rfl ?_
  refine q_iconst (v := 0) C dX11_head_47 (by decide) ?_
  refine q_istore_n (lv2 := [(3, .int 0), (2, .int 1), (0, .ref h0), (1, .int t)]) C dX11_head_48 (by decide) rfl ?_
  refine q_iload_n (j := 1) C dX11_head_49 rfl ?_
  refine q_if_eq (tgt := 86) C dX11_head_50 (by decide) (fun z => absurd z (by decide)) (fun _ => ?_)
  refine q_iload_n (j := 0) C dX11_head_53 rfl ?_
  refine q_aload_n (j := 2) C dX11_head_54 rfl ?_
  refine q_get (k := 0) (v := .ref tp) C ck_12 dX11_head_55 w2_44 (by decide) hL ((va_up_ne _ _ (ne_ob hE hEwd (by decide))).trans hE) f0 ?_
  refine q_get (k := 2) (v := .int 0) C ck_2 dX11_head_58 w1_44 (by decide) hLtp ((va_up_ne _ _ (ne_ob hEtp hEwd (by decide))).trans hEtp) ft2 ?_
  refine q_icmp_ge (tgt := 86) C dX11_head_61 (by decide) (fun _ => ?_) (fun z => absurd (by decide) z)
  refine q_aload_n (j := 2) C dX11_head_86 rfl ?_
  refine q_get (k := 0) (v := .ref tp) C ck_12 dX11_head_87 w2_44 (by decide) hL ((va_up_ne _ _ (ne_ob hE hEwd (by decide))).trans hE) f0 ?_
  refine q_callV (d2 := 0) (mc2 := 0) (ms2 := 0) (As := []) (rest := []) C (c_iclear  hLtp ((va_up_ne _ _ (ne_ob hEtp hEwd (by decide))).trans hEtp)) dX11_head_90 kV_X11_164 rfl hLtp ((va_up_ne _ _ (ne_ob hEtp hEwd (by decide))).trans hEtp) ck_2 rfl (Nat.le_of_ble_eq_true rfl) ⟨Nat.le_of_ble_eq_true rfl, Nat.le_of_ble_eq_true rfl⟩ ⟨Nat.le_of_ble_eq_true rfl, Nat.le_of_ble_eq_true rfl⟩ (fun vh3 Lh3 Eh3 h3 => ?_)
  obtain ⟨rfl, rfl, rfl⟩ := h3
  refine q_st (st2 := []) rfl ?_
  refine q_iload_n (j := 1) C dX11_head_93 rfl ?_
  refine q_if_ne (tgt := 104) C dX11_head_94 (by decide) (fun _ => ?_) (fun z => absurd z (by decide))
  refine q_aload_n (j := 2) C dX11_head_104 rfl ?_
  refine q_get (k := 4) (v := .ref tb) C ck_12 dX11_head_105 w2_48 (by decide) hL ((va_up_ne _ _ (ne_ob hE hEtp (by decide))).trans ((va_up_ne _ _ (ne_ob hE hEwd (by decide))).trans hE)) f4 ?_
  refine q_iload_n (j := 3) C dX11_head_108 rfl ?_
  refine q_callV (d2 := 2) (mc2 := 0) (ms2 := 0) (As := [.int t]) (rest := []) C (c_whole0 t hLtb ((va_up_ne _ _ (ne_ob hEtb hEtp (by decide))).trans ((va_up_ne _ _ (ne_ob hEtb hEwd (by decide))).trans hEtb)) fT0 fT1 hLmd ((va_up_ne _ _ (ne_ob hEmd hEtp (by decide))).trans ((va_up_ne _ _ (ne_ob hEmd hEwd (by decide))).trans hEmd)) fm2 hLch ((va_up_ne _ _ (ne_ob hEch hEtp (by decide))).trans ((va_up_ne _ _ (ne_ob hEch hEwd (by decide))).trans hEch)) fc2) dX11_head_109 kV_X11_231 rfl hLtb ((va_up_ne _ _ (ne_ob hEtb hEtp (by decide))).trans ((va_up_ne _ _ (ne_ob hEtb hEwd (by decide))).trans hEtb)) ck_11 rfl (Nat.le_of_ble_eq_true rfl) ⟨Nat.le_of_ble_eq_true rfl, Nat.le_of_ble_eq_true rfl⟩ ⟨Nat.le_of_ble_eq_true rfl, Nat.le_of_ble_eq_true rfl⟩ (fun vh4 Lh4 Eh4 h4 => ?_)
  obtain ⟨rfl, rfl, rfl⟩ := h4
  refine q_st (st2 := [.null]) rfl ?_
  refine q_astore_nN (lv2 := [(3, .null), (2, .int 1), (0, .ref h0), (1, .int t)]) C dX11_head_112 (by decide) rfl ?_
  refine q_aload_nN (j := 0) C dX11_head_113 rfl ?_
  refine q_ifnonnullN C dX11_head_114 ?_
  refine q_aload_n (j := 2) C dX11_head_117 rfl ?_
  refine q_iconst (v := 3) C dX11_head_118 (by decide) ?_
  refine q_callV (d2 := 0) (mc2 := 0) (ms2 := 0) (As := [.int 3]) (rest := []) C (c_refuse 3 hL ((va_up_ne _ _ (ne_ob hE hEtp (by decide))).trans ((va_up_ne _ _ (ne_ob hE hEwd (by decide))).trans hE))) dX11_head_119 kV_X11_102 rfl hL ((va_up_ne _ _ (ne_ob hE hEtp (by decide))).trans ((va_up_ne _ _ (ne_ob hE hEwd (by decide))).trans hE)) ck_12 rfl (Nat.le_of_ble_eq_true rfl) ⟨Nat.le_of_ble_eq_true rfl, Nat.le_of_ble_eq_true rfl⟩ ⟨Nat.le_of_ble_eq_true rfl, Nat.le_of_ble_eq_true rfl⟩ (fun vh5 Lh5 Eh5 h5 => ?_)
  obtain ⟨rfl, rfl, rfl⟩ := h5
  refine q_st (st2 := [.int (-1)]) rfl ?_
  exact q_iret C dX11_head_122 rfl (Nat.le_of_ble_eq_true rfl) (Nat.le_of_ble_eq_true rfl) rfl
set_option maxHeartbeats 4000000 in
set_option maxRecDepth 100000 in
theorem x_digest {l : Launch} {G : GT} {L : List Nat} {E : Nat → va_E}  {h0 br wd fi sh : Nat} {f fb fd fs : Nat → Value} (hL : h0 ∈ L) (hE : E h0 = ob 12 19 f) (f2 : f 2 = .ref br) (f6 : f 6 = .ref wd) (f9 : f 9 = .ref sh) (f15 : f 15 = .int 0) (f16 : f 16 = .int 0) (hLbr : br ∈ L) (hEbr : E br = ob 2 3 fb) (fb2 : fb 2 = .int 0) (hLwd : wd ∈ L) (hEwd : E wd = ob 7 12 fd) (fd8 : fd 8 = .ref fi) (hLfi : fi ∈ L) (hEfi : E fi = aI G 5 (fun _ => 0)) (hLsh : sh ∈ L) (hEsh : E sh = ob 8 3 fs) (fs1 : fs 1 = .int 0) : Mq l G yX11_digest cX11_digest 3 (some .int) 6 [.ref h0] L E 0 0 (fun v L2 E2 => v = some (.int 954237711)) := by
  refine Mq.mk (by decide) (Nat.le_of_ble_eq_true rfl) ?_
  intro p e s m args below meth c A C
  refine q_aload_n (j := 0) C dX11_digest_0 rfl ?_
  refine q_get (k := 9) (v := .ref sh) C ck_12 dX11_digest_1 w2_53 (by decide) hL hE f9 ?_
  refine q_sipush (v := 527) C dX11_digest_4 (by decide) ?_
  refine q_aload_n (j := 0) C dX11_digest_7 rfl ?_
  refine q_get (k := 9) (v := .ref sh) C ck_12 dX11_digest_8 w2_53 (by decide) hL hE f9 ?_
  refine q_get (k := 1) (v := .int 0) C ck_8 dX11_digest_11 w2_35 (by decide) hLsh hEsh fs1 ?_
  refine q_iadd (v := 527) C dX11_digest_14 (by decide) ?_
  refine q_callV (d2 := 0) (mc2 := 0) (ms2 := 0) (As := [.int 527]) (rest := []) C (c_goOver0 527 hLsh hEsh fs1) dX11_digest_15 kV_X11_416 rfl hLsh hEsh ck_8 rfl (Nat.le_of_ble_eq_true rfl) ⟨Nat.le_of_ble_eq_true rfl, Nat.le_of_ble_eq_true rfl⟩ ⟨Nat.le_of_ble_eq_true rfl, Nat.le_of_ble_eq_true rfl⟩ (fun vh1 Lh1 Eh1 h1 => ?_)
  obtain ⟨rfl, rfl, rfl⟩ := h1
  refine q_st (st2 := [.int 527]) rfl ?_
  refine q_istore_n (lv2 := [(1, .int 527), (0, .ref h0)]) C dX11_digest_18 (by decide) rfl ?_
  refine q_iload_n (j := 0) C dX11_digest_19 rfl ?_
  refine q_bipush (v := 31) C dX11_digest_20 (by decide) ?_
  refine q_imul (v := 16337) C dX11_digest_22 (by decide) ?_
  refine q_aload_n (j := 1) C dX11_digest_23 rfl ?_
  refine q_get (k := 2) (v := .ref br) C ck_12 dX11_digest_24 w2_46 (by decide) hL hE f2 ?_
  refine q_get (k := 2) (v := .int 0) C ck_2 dX11_digest_27 w1_44 (by decide) hLbr hEbr fb2 ?_
  refine q_iadd (v := 16337) C dX11_digest_30 (by decide) ?_
  refine q_istore_n (lv2 := [(1, .int 16337), (0, .ref h0)]) C dX11_digest_31 (by decide) rfl ?_
  refine q_iconst (v := 0) C dX11_digest_32 (by decide) ?_
  refine q_istore_n (lv2 := [(2, .int 0), (1, .int 16337), (0, .ref h0)]) C dX11_digest_33 (by decide) rfl ?_
  refine q_iload_n (j := 0) C dX11_digest_34 rfl ?_
  refine q_aload_n (j := 2) C dX11_digest_35 rfl ?_
  refine q_get (k := 2) (v := .ref br) C ck_12 dX11_digest_36 w2_46 (by decide) hL hE f2 ?_
  refine q_get (k := 2) (v := .int 0) C ck_2 dX11_digest_39 w1_44 (by decide) hLbr hEbr fb2 ?_
  refine q_icmp_ge (tgt := 65) C dX11_digest_42 (by decide) (fun _ => ?_) (fun z => absurd (by decide) z)
  refine q_iconst (v := 0) C dX11_digest_65 (by decide) ?_
  refine q_istore_n (lv2 := [(2, .int 0), (1, .int 16337), (0, .ref h0)]) C dX11_digest_66 (by decide) rfl ?_
  refine q_iload_n (j := 0) C dX11_digest_67 rfl ?_
  refine q_iconst (v := 4) C dX11_digest_68 (by decide) ?_
  refine q_icmp_gt (tgt := 92) C dX11_digest_69 (by decide) (fun z => absurd z (by decide)) (fun _ => ?_)
  refine q_iload_n (j := 1) C dX11_digest_72 rfl ?_
  refine q_bipush (v := 31) C dX11_digest_73 (by decide) ?_
  refine q_imul (v := 506447) C dX11_digest_75 (by decide) ?_
  refine q_aload_n (j := 2) C dX11_digest_76 rfl ?_
  refine q_get (k := 6) (v := .ref wd) C ck_12 dX11_digest_77 w2_50 (by decide) hL hE f6 ?_
  refine q_iload_n (j := 0) C dX11_digest_80 rfl ?_
  refine q_callV (d2 := 0) (mc2 := 0) (ms2 := 0) (As := [.int 0]) (rest := [.int 506447]) C (c_findsOf0 0 hLwd hEwd fd8 hLfi hEfi) dX11_digest_81 kV_X11_413 rfl hLwd hEwd ck_7 rfl (Nat.le_of_ble_eq_true rfl) ⟨Nat.le_of_ble_eq_true rfl, Nat.le_of_ble_eq_true rfl⟩ ⟨Nat.le_of_ble_eq_true rfl, Nat.le_of_ble_eq_true rfl⟩ (fun vh2 Lh2 Eh2 h2 => ?_)
  obtain ⟨rfl, rfl, rfl⟩ := h2
  refine q_st (st2 := [.int 0, .int 506447]) rfl ?_
  refine q_iadd (v := 506447) C dX11_digest_84 (by decide) ?_
  refine q_istore_n (lv2 := [(1, .int 506447), (2, .int 0), (0, .ref h0)]) C dX11_digest_85 (by decide) rfl ?_
  refine q_iinc (j := 1) (v := 1) (lv2 := [(2, .int 1), (1, .int 506447), (0, .ref h0)]) C dX11_digest_86 rfl (by decide) (by decide) rfl ?_
  refine q_goto (tgt := 67) C dX11_digest_89 (by decide) ?_
  refine q_iload_n (j := 0) C dX11_digest_67 rfl ?_
  refine q_iconst (v := 4) C dX11_digest_68 (by decide) ?_
  refine q_icmp_gt (tgt := 92) C dX11_digest_69 (by decide) (fun z => absurd z (by decide)) (fun _ => ?_)
  refine q_iload_n (j := 1) C dX11_digest_72 rfl ?_
  refine q_bipush (v := 31) C dX11_digest_73 (by decide) ?_
  refine q_imul (v := 15699857) C dX11_digest_75 (by decide) ?_
  refine q_aload_n (j := 2) C dX11_digest_76 rfl ?_
  refine q_get (k := 6) (v := .ref wd) C ck_12 dX11_digest_77 w2_50 (by decide) hL hE f6 ?_
  refine q_iload_n (j := 0) C dX11_digest_80 rfl ?_
  refine q_callV (d2 := 0) (mc2 := 0) (ms2 := 0) (As := [.int 1]) (rest := [.int 15699857]) C (c_findsOf0 1 hLwd hEwd fd8 hLfi hEfi) dX11_digest_81 kV_X11_413 rfl hLwd hEwd ck_7 rfl (Nat.le_of_ble_eq_true rfl) ⟨Nat.le_of_ble_eq_true rfl, Nat.le_of_ble_eq_true rfl⟩ ⟨Nat.le_of_ble_eq_true rfl, Nat.le_of_ble_eq_true rfl⟩ (fun vh3 Lh3 Eh3 h3 => ?_)
  obtain ⟨rfl, rfl, rfl⟩ := h3
  refine q_st (st2 := [.int 0, .int 15699857]) rfl ?_
  refine q_iadd (v := 15699857) C dX11_digest_84 (by decide) ?_
  refine q_istore_n (lv2 := [(1, .int 15699857), (2, .int 1), (0, .ref h0)]) C dX11_digest_85 (by decide) rfl ?_
  refine q_iinc (j := 1) (v := 2) (lv2 := [(2, .int 2), (1, .int 15699857), (0, .ref h0)]) C dX11_digest_86 rfl (by decide) (by decide) rfl ?_
  refine q_goto (tgt := 67) C dX11_digest_89 (by decide) ?_
  refine q_iload_n (j := 0) C dX11_digest_67 rfl ?_
  refine q_iconst (v := 4) C dX11_digest_68 (by decide) ?_
  refine q_icmp_gt (tgt := 92) C dX11_digest_69 (by decide) (fun z => absurd z (by decide)) (fun _ => ?_)
  refine q_iload_n (j := 1) C dX11_digest_72 rfl ?_
  refine q_bipush (v := 31) C dX11_digest_73 (by decide) ?_
  refine q_imul (v := 486695567) C dX11_digest_75 (by decide) ?_
  refine q_aload_n (j := 2) C dX11_digest_76 rfl ?_
  refine q_get (k := 6) (v := .ref wd) C ck_12 dX11_digest_77 w2_50 (by decide) hL hE f6 ?_
  refine q_iload_n (j := 0) C dX11_digest_80 rfl ?_
  refine q_callV (d2 := 0) (mc2 := 0) (ms2 := 0) (As := [.int 2]) (rest := [.int 486695567]) C (c_findsOf0 2 hLwd hEwd fd8 hLfi hEfi) dX11_digest_81 kV_X11_413 rfl hLwd hEwd ck_7 rfl (Nat.le_of_ble_eq_true rfl) ⟨Nat.le_of_ble_eq_true rfl, Nat.le_of_ble_eq_true rfl⟩ ⟨Nat.le_of_ble_eq_true rfl, Nat.le_of_ble_eq_true rfl⟩ (fun vh4 Lh4 Eh4 h4 => ?_)
  obtain ⟨rfl, rfl, rfl⟩ := h4
  refine q_st (st2 := [.int 0, .int 486695567]) rfl ?_
  refine q_iadd (v := 486695567) C dX11_digest_84 (by decide) ?_
  refine q_istore_n (lv2 := [(1, .int 486695567), (2, .int 2), (0, .ref h0)]) C dX11_digest_85 (by decide) rfl ?_
  refine q_iinc (j := 1) (v := 3) (lv2 := [(2, .int 3), (1, .int 486695567), (0, .ref h0)]) C dX11_digest_86 rfl (by decide) (by decide) rfl ?_
  refine q_goto (tgt := 67) C dX11_digest_89 (by decide) ?_
  refine q_iload_n (j := 0) C dX11_digest_67 rfl ?_
  refine q_iconst (v := 4) C dX11_digest_68 (by decide) ?_
  refine q_icmp_gt (tgt := 92) C dX11_digest_69 (by decide) (fun z => absurd z (by decide)) (fun _ => ?_)
  refine q_iload_n (j := 1) C dX11_digest_72 rfl ?_
  refine q_bipush (v := 31) C dX11_digest_73 (by decide) ?_
  refine q_imul (v := (-2092306607)) C dX11_digest_75 (by decide) ?_
  refine q_aload_n (j := 2) C dX11_digest_76 rfl ?_
  refine q_get (k := 6) (v := .ref wd) C ck_12 dX11_digest_77 w2_50 (by decide) hL hE f6 ?_
  refine q_iload_n (j := 0) C dX11_digest_80 rfl ?_
  refine q_callV (d2 := 0) (mc2 := 0) (ms2 := 0) (As := [.int 3]) (rest := [.int (-2092306607)]) C (c_findsOf0 3 hLwd hEwd fd8 hLfi hEfi) dX11_digest_81 kV_X11_413 rfl hLwd hEwd ck_7 rfl (Nat.le_of_ble_eq_true rfl) ⟨Nat.le_of_ble_eq_true rfl, Nat.le_of_ble_eq_true rfl⟩ ⟨Nat.le_of_ble_eq_true rfl, Nat.le_of_ble_eq_true rfl⟩ (fun vh5 Lh5 Eh5 h5 => ?_)
  obtain ⟨rfl, rfl, rfl⟩ := h5
  refine q_st (st2 := [.int 0, .int (-2092306607)]) rfl ?_
  refine q_iadd (v := (-2092306607)) C dX11_digest_84 (by decide) ?_
  refine q_istore_n (lv2 := [(1, .int (-2092306607)), (2, .int 3), (0, .ref h0)]) C dX11_digest_85 (by decide) rfl ?_
  refine q_iinc (j := 1) (v := 4) (lv2 := [(2, .int 4), (1, .int (-2092306607)), (0, .ref h0)]) C dX11_digest_86 rfl (by decide) (by decide) rfl ?_
  refine q_goto (tgt := 67) C dX11_digest_89 (by decide) ?_
  refine q_iload_n (j := 0) C dX11_digest_67 rfl ?_
  refine q_iconst (v := 4) C dX11_digest_68 (by decide) ?_
  refine q_icmp_gt (tgt := 92) C dX11_digest_69 (by decide) (fun z => absurd z (by decide)) (fun _ => ?_)
  refine q_iload_n (j := 1) C dX11_digest_72 rfl ?_
  refine q_bipush (v := 31) C dX11_digest_73 (by decide) ?_
  refine q_imul (v := (-436995377)) C dX11_digest_75 (by decide) ?_
  refine q_aload_n (j := 2) C dX11_digest_76 rfl ?_
  refine q_get (k := 6) (v := .ref wd) C ck_12 dX11_digest_77 w2_50 (by decide) hL hE f6 ?_
  refine q_iload_n (j := 0) C dX11_digest_80 rfl ?_
  refine q_callV (d2 := 0) (mc2 := 0) (ms2 := 0) (As := [.int 4]) (rest := [.int (-436995377)]) C (c_findsOf0 4 hLwd hEwd fd8 hLfi hEfi) dX11_digest_81 kV_X11_413 rfl hLwd hEwd ck_7 rfl (Nat.le_of_ble_eq_true rfl) ⟨Nat.le_of_ble_eq_true rfl, Nat.le_of_ble_eq_true rfl⟩ ⟨Nat.le_of_ble_eq_true rfl, Nat.le_of_ble_eq_true rfl⟩ (fun vh6 Lh6 Eh6 h6 => ?_)
  obtain ⟨rfl, rfl, rfl⟩ := h6
  refine q_st (st2 := [.int 0, .int (-436995377)]) rfl ?_
  refine q_iadd (v := (-436995377)) C dX11_digest_84 (by decide) ?_
  refine q_istore_n (lv2 := [(1, .int (-436995377)), (2, .int 4), (0, .ref h0)]) C dX11_digest_85 (by decide) rfl ?_
  refine q_iinc (j := 1) (v := 5) (lv2 := [(2, .int 5), (1, .int (-436995377)), (0, .ref h0)]) C dX11_digest_86 rfl (by decide) (by decide) rfl ?_
  refine q_goto (tgt := 67) C dX11_digest_89 (by decide) ?_
  refine q_iload_n (j := 0) C dX11_digest_67 rfl ?_
  refine q_iconst (v := 4) C dX11_digest_68 (by decide) ?_
  refine q_icmp_gt (tgt := 92) C dX11_digest_69 (by decide) (fun _ => ?_) (fun z => absurd (by decide) z)
  refine q_iload_n (j := 1) C dX11_digest_92 rfl ?_
  refine q_bipush (v := 31) C dX11_digest_93 (by decide) ?_
  refine q_imul (v := (-661954799)) C dX11_digest_95 (by decide) ?_
  refine q_aload_n (j := 2) C dX11_digest_96 rfl ?_
  refine q_get (k := 15) (v := .int 0) C ck_12 dX11_digest_97 w2_59 (by decide) hL hE f15 ?_
  refine q_iadd (v := (-661954799)) C dX11_digest_100 (by decide) ?_
  refine q_istore_n (lv2 := [(1, .int (-661954799)), (2, .int 5), (0, .ref h0)]) C dX11_digest_101 (by decide) rfl ?_
  refine q_iload_n (j := 0) C dX11_digest_102 rfl ?_
  refine q_bipush (v := 31) C dX11_digest_103 (by decide) ?_
  refine q_imul (v := 954237711) C dX11_digest_105 (by decide) ?_
  refine q_aload_n (j := 2) C dX11_digest_106 rfl ?_
  refine q_get (k := 16) (v := .int 0) C ck_12 dX11_digest_107 w2_60 (by decide) hL hE f16 ?_
  refine q_iadd (v := 954237711) C dX11_digest_110 (by decide) ?_
  exact q_iret C dX11_digest_111 rfl (Nat.le_of_ble_eq_true rfl) (Nat.le_of_ble_eq_true rfl) rfl
set_option maxHeartbeats 4000000 in
set_option maxRecDepth 100000 in
theorem x_failed {l : Launch} {G : GT} {L : List Nat} {E : Nat → va_E} (d1 z : Int32)  {h0 : Nat} {f : Nat → Value} (hL : h0 ∈ L) (hE : E h0 = ob 12 19 f) (f14 : f 14 = .int 0) : Mq l G yX11_failed cX11_failed 4 (some .int) 6 [.ref h0, .int d1, .int z] L E 0 0 (fun v L2 E2 => v = some (.int (an_fail d1 z))) := by
  refine Mq.mk (by decide) (Nat.le_of_ble_eq_true rfl) ?_
  intro p e s m args below meth c A C
  refine q_iload_n (j := 1) C dX11_failed_0 rfl ?_
  refine q_if_lt (tgt := 10) C dX11_failed_1 (by decide) (fun c1 => ?_) (fun c1 => ?_)
  · refine q_aload_n (j := 0) C dX11_failed_10 rfl ?_
    refine q_bipush (v := 6) C dX11_failed_11 (by decide) ?_
    refine q_callV (d2 := 0) (mc2 := 0) (ms2 := 0) (As := [.int 6]) (rest := []) C (c_refuse 6 hL hE) dX11_failed_13 kV_X11_102 rfl hL hE ck_12 rfl (Nat.le_of_ble_eq_true rfl) ⟨Nat.le_of_ble_eq_true rfl, Nat.le_of_ble_eq_true rfl⟩ ⟨Nat.le_of_ble_eq_true rfl, Nat.le_of_ble_eq_true rfl⟩ (fun vh1 Lh1 Eh1 h1 => ?_)
    obtain ⟨rfl, rfl, rfl⟩ := h1
    refine q_st (st2 := [.int (-1)]) rfl ?_
    exact q_iret C dX11_failed_16 rfl (Nat.le_of_ble_eq_true rfl) (Nat.le_of_ble_eq_true rfl) (by refine congrArg (fun z => some (Value.int z)) ?_; unfold an_fail; (try simp only [inn_f, Decidable.not_not] at c1); (try simp only [i32_lt, i32_le, i32_eq, inn_f, Decidable.not_not, tn_m1, tn_0, tn_1, tn_2, tn_3, tn_4, tn_5, tn_6, tn_7, tn_8, tn_10, tn_30, tn_31, tn_32, tn_36, tn_40, tn_50, tn_100, tn_126, tn_200, tn_255, tn_500, tn_512, tn_3000, tn_5000] at c1); split <;> rename_i hz <;> (try simp only [i32_lt, i32_le, i32_eq, inn_f, Decidable.not_not, tn_m1, tn_0, tn_1, tn_2, tn_3, tn_4, tn_5, tn_6, tn_7, tn_8, tn_10, tn_30, tn_31, tn_32, tn_36, tn_40, tn_50, tn_100, tn_126, tn_200, tn_255, tn_500, tn_512, tn_3000, tn_5000] at hz) <;> first | rfl | (exfalso; omega) | (split <;> rename_i hy <;> (try simp only [i32_lt, i32_le, i32_eq, inn_f, Decidable.not_not, tn_m1, tn_0, tn_1, tn_2, tn_3, tn_4, tn_5, tn_6, tn_7, tn_8, tn_10, tn_30, tn_31, tn_32, tn_36, tn_40, tn_50, tn_100, tn_126, tn_200, tn_255, tn_500, tn_512, tn_3000, tn_5000] at hy) <;> first | rfl | (exfalso; omega)))
  · refine q_iload_n (j := 1) C dX11_failed_4 rfl ?_
    refine q_bipush (v := 7) C dX11_failed_5 (by decide) ?_
    refine q_icmp_le (tgt := 17) C dX11_failed_7 (by decide) (fun c2 => ?_) (fun c2 => ?_)
    · refine q_iconst (v := 1) C dX11_failed_17 (by decide) ?_
      refine q_iload_n (j := 1) C dX11_failed_18 rfl ?_
      refine q_ishl (v := ((1 : Int32) <<< (d1 &&& 31))) C dX11_failed_19 rfl ?_
      refine q_istore_n (lv2 := [(3, .int ((1 : Int32) <<< (d1 &&& 31))), (0, .ref h0), (1, .int d1), (2, .int z)]) C dX11_failed_20 (by decide) rfl ?_
      refine q_aload_n (j := 1) C dX11_failed_21 rfl ?_
      refine q_iload_n (j := 3) C dX11_failed_22 rfl ?_
      refine q_if_eq (tgt := 35) C dX11_failed_23 (by decide) (fun c3 => ?_) (fun c3 => ?_)
      · refine q_aload_n (j := 1) C dX11_failed_35 rfl ?_
        refine q_get (k := 14) (v := .int 0) C ck_12 dX11_failed_36 w2_58 (by decide) hL hE f14 ?_
        refine q_iload_n (j := 0) C dX11_failed_39 rfl ?_
        refine q_iconst (v := (-1)) C dX11_failed_40 (by decide) ?_
        refine q_ixor (v := (((1 : Int32) <<< (d1 &&& 31)) ^^^ ((-1) : Int32))) C dX11_failed_41 rfl ?_
        refine q_iand (v := ((0 : Int32) &&& (((1 : Int32) <<< (d1 &&& 31)) ^^^ ((-1) : Int32)))) C dX11_failed_42 rfl ?_
        refine q_put (k := 14) C ck_12 dX11_failed_43 w2_58 (by decide) rfl hL hE rfl rfl ?_
        refine q_aload_n (j := 1) C dX11_failed_46 rfl ?_
        refine q_aload_n (j := 1) C dX11_failed_47 rfl ?_
        refine q_get (k := 14) (v := .int ((0 : Int32) &&& (((1 : Int32) <<< (d1 &&& 31)) ^^^ ((-1) : Int32)))) C ck_12 dX11_failed_48 w2_58 (by decide) hL (va_up_self _ _ _) rfl ?_
        refine q_callS (d2 := 0) (mc2 := 0) (ms2 := 0) (As := [.int ((0 : Int32) &&& (((1 : Int32) <<< (d1 &&& 31)) ^^^ ((-1) : Int32)))]) (rest := [.ref h0]) C (c_bitCount ((0 : Int32) &&& (((1 : Int32) <<< (d1 &&& 31)) ^^^ ((-1) : Int32)))) dX11_failed_51 kS_X11_351 rfl rfl (Nat.le_of_ble_eq_true rfl) ⟨Nat.le_of_ble_eq_true rfl, Nat.le_of_ble_eq_true rfl⟩ ⟨Nat.le_of_ble_eq_true rfl, Nat.le_of_ble_eq_true rfl⟩ (fun vh2 Lh2 Eh2 h2 => ?_)
        obtain ⟨rfl, rfl, rfl⟩ := h2
        refine q_st (st2 := [.int (bc ((0 : Int32) &&& (((1 : Int32) <<< (d1 &&& 31)) ^^^ ((-1) : Int32)))), .ref h0]) rfl ?_
        refine q_callV (d2 := 0) (mc2 := 0) (ms2 := 0) (As := [.int (bc ((0 : Int32) &&& (((1 : Int32) <<< (d1 &&& 31)) ^^^ ((-1) : Int32))))]) (rest := []) C (c_done (bc ((0 : Int32) &&& (((1 : Int32) <<< (d1 &&& 31)) ^^^ ((-1) : Int32)))) hL (va_up_self _ _ _)) dX11_failed_54 kV_X11_109 rfl hL (va_up_self _ _ _) ck_12 rfl (Nat.le_of_ble_eq_true rfl) ⟨Nat.le_of_ble_eq_true rfl, Nat.le_of_ble_eq_true rfl⟩ ⟨Nat.le_of_ble_eq_true rfl, Nat.le_of_ble_eq_true rfl⟩ (fun vh3 Lh3 Eh3 h3 => ?_)
        obtain ⟨rfl, rfl, rfl⟩ := h3
        refine q_st (st2 := [.int (bc ((0 : Int32) &&& (((1 : Int32) <<< (d1 &&& 31)) ^^^ ((-1) : Int32))))]) rfl ?_
        exact q_iret C dX11_failed_57 rfl (Nat.le_of_ble_eq_true rfl) (Nat.le_of_ble_eq_true rfl) (by refine congrArg (fun z => some (Value.int z)) ?_; unfold an_fail; (try simp only [inn_f, Decidable.not_not] at c1); (try simp only [i32_lt, i32_le, i32_eq, inn_f, Decidable.not_not, tn_m1, tn_0, tn_1, tn_2, tn_3, tn_4, tn_5, tn_6, tn_7, tn_8, tn_10, tn_30, tn_31, tn_32, tn_36, tn_40, tn_50, tn_100, tn_126, tn_200, tn_255, tn_500, tn_512, tn_3000, tn_5000] at c1); (try simp only [inn_f, Decidable.not_not] at c2); (try simp only [i32_lt, i32_le, i32_eq, inn_f, Decidable.not_not, tn_m1, tn_0, tn_1, tn_2, tn_3, tn_4, tn_5, tn_6, tn_7, tn_8, tn_10, tn_30, tn_31, tn_32, tn_36, tn_40, tn_50, tn_100, tn_126, tn_200, tn_255, tn_500, tn_512, tn_3000, tn_5000] at c2); (try simp only [inn_f, Decidable.not_not] at c3); (try simp only [i32_lt, i32_le, i32_eq, inn_f, Decidable.not_not, tn_m1, tn_0, tn_1, tn_2, tn_3, tn_4, tn_5, tn_6, tn_7, tn_8, tn_10, tn_30, tn_31, tn_32, tn_36, tn_40, tn_50, tn_100, tn_126, tn_200, tn_255, tn_500, tn_512, tn_3000, tn_5000] at c3); split <;> rename_i hz <;> (try simp only [i32_lt, i32_le, i32_eq, inn_f, Decidable.not_not, tn_m1, tn_0, tn_1, tn_2, tn_3, tn_4, tn_5, tn_6, tn_7, tn_8, tn_10, tn_30, tn_31, tn_32, tn_36, tn_40, tn_50, tn_100, tn_126, tn_200, tn_255, tn_500, tn_512, tn_3000, tn_5000] at hz) <;> first | rfl | (exfalso; omega) | (split <;> rename_i hy <;> (try simp only [i32_lt, i32_le, i32_eq, inn_f, Decidable.not_not, tn_m1, tn_0, tn_1, tn_2, tn_3, tn_4, tn_5, tn_6, tn_7, tn_8, tn_10, tn_30, tn_31, tn_32, tn_36, tn_40, tn_50, tn_100, tn_126, tn_200, tn_255, tn_500, tn_512, tn_3000, tn_5000] at hy) <;> first | rfl | (exfalso; omega)))
      · refine q_aload_n (j := 1) C dX11_failed_26 rfl ?_
        refine q_get (k := 14) (v := .int 0) C ck_12 dX11_failed_27 w2_58 (by decide) hL hE f14 ?_
        refine q_iload_n (j := 0) C dX11_failed_30 rfl ?_
        refine q_ior (v := ((0 : Int32) ||| ((1 : Int32) <<< (d1 &&& 31)))) C dX11_failed_31 rfl ?_
        refine q_goto (tgt := 43) C dX11_failed_32 (by decide) ?_
        refine q_put (k := 14) C ck_12 dX11_failed_43 w2_58 (by decide) rfl hL hE rfl rfl ?_
        refine q_aload_n (j := 1) C dX11_failed_46 rfl ?_
        refine q_aload_n (j := 1) C dX11_failed_47 rfl ?_
        refine q_get (k := 14) (v := .int ((0 : Int32) ||| ((1 : Int32) <<< (d1 &&& 31)))) C ck_12 dX11_failed_48 w2_58 (by decide) hL (va_up_self _ _ _) rfl ?_
        refine q_callS (d2 := 0) (mc2 := 0) (ms2 := 0) (As := [.int ((0 : Int32) ||| ((1 : Int32) <<< (d1 &&& 31)))]) (rest := [.ref h0]) C (c_bitCount ((0 : Int32) ||| ((1 : Int32) <<< (d1 &&& 31)))) dX11_failed_51 kS_X11_351 rfl rfl (Nat.le_of_ble_eq_true rfl) ⟨Nat.le_of_ble_eq_true rfl, Nat.le_of_ble_eq_true rfl⟩ ⟨Nat.le_of_ble_eq_true rfl, Nat.le_of_ble_eq_true rfl⟩ (fun vh4 Lh4 Eh4 h4 => ?_)
        obtain ⟨rfl, rfl, rfl⟩ := h4
        refine q_st (st2 := [.int (bc ((0 : Int32) ||| ((1 : Int32) <<< (d1 &&& 31)))), .ref h0]) rfl ?_
        refine q_callV (d2 := 0) (mc2 := 0) (ms2 := 0) (As := [.int (bc ((0 : Int32) ||| ((1 : Int32) <<< (d1 &&& 31))))]) (rest := []) C (c_done (bc ((0 : Int32) ||| ((1 : Int32) <<< (d1 &&& 31)))) hL (va_up_self _ _ _)) dX11_failed_54 kV_X11_109 rfl hL (va_up_self _ _ _) ck_12 rfl (Nat.le_of_ble_eq_true rfl) ⟨Nat.le_of_ble_eq_true rfl, Nat.le_of_ble_eq_true rfl⟩ ⟨Nat.le_of_ble_eq_true rfl, Nat.le_of_ble_eq_true rfl⟩ (fun vh5 Lh5 Eh5 h5 => ?_)
        obtain ⟨rfl, rfl, rfl⟩ := h5
        refine q_st (st2 := [.int (bc ((0 : Int32) ||| ((1 : Int32) <<< (d1 &&& 31))))]) rfl ?_
        exact q_iret C dX11_failed_57 rfl (Nat.le_of_ble_eq_true rfl) (Nat.le_of_ble_eq_true rfl) (by refine congrArg (fun z => some (Value.int z)) ?_; unfold an_fail; (try simp only [inn_f, Decidable.not_not] at c1); (try simp only [i32_lt, i32_le, i32_eq, inn_f, Decidable.not_not, tn_m1, tn_0, tn_1, tn_2, tn_3, tn_4, tn_5, tn_6, tn_7, tn_8, tn_10, tn_30, tn_31, tn_32, tn_36, tn_40, tn_50, tn_100, tn_126, tn_200, tn_255, tn_500, tn_512, tn_3000, tn_5000] at c1); (try simp only [inn_f, Decidable.not_not] at c2); (try simp only [i32_lt, i32_le, i32_eq, inn_f, Decidable.not_not, tn_m1, tn_0, tn_1, tn_2, tn_3, tn_4, tn_5, tn_6, tn_7, tn_8, tn_10, tn_30, tn_31, tn_32, tn_36, tn_40, tn_50, tn_100, tn_126, tn_200, tn_255, tn_500, tn_512, tn_3000, tn_5000] at c2); (try simp only [inn_f, Decidable.not_not] at c3); (try simp only [i32_lt, i32_le, i32_eq, inn_f, Decidable.not_not, tn_m1, tn_0, tn_1, tn_2, tn_3, tn_4, tn_5, tn_6, tn_7, tn_8, tn_10, tn_30, tn_31, tn_32, tn_36, tn_40, tn_50, tn_100, tn_126, tn_200, tn_255, tn_500, tn_512, tn_3000, tn_5000] at c3); split <;> rename_i hz <;> (try simp only [i32_lt, i32_le, i32_eq, inn_f, Decidable.not_not, tn_m1, tn_0, tn_1, tn_2, tn_3, tn_4, tn_5, tn_6, tn_7, tn_8, tn_10, tn_30, tn_31, tn_32, tn_36, tn_40, tn_50, tn_100, tn_126, tn_200, tn_255, tn_500, tn_512, tn_3000, tn_5000] at hz) <;> first | rfl | (exfalso; omega) | (split <;> rename_i hy <;> (try simp only [i32_lt, i32_le, i32_eq, inn_f, Decidable.not_not, tn_m1, tn_0, tn_1, tn_2, tn_3, tn_4, tn_5, tn_6, tn_7, tn_8, tn_10, tn_30, tn_31, tn_32, tn_36, tn_40, tn_50, tn_100, tn_126, tn_200, tn_255, tn_500, tn_512, tn_3000, tn_5000] at hy) <;> first | rfl | (exfalso; omega)))
    · refine q_aload_n (j := 0) C dX11_failed_10 rfl ?_
      refine q_bipush (v := 6) C dX11_failed_11 (by decide) ?_
      refine q_callV (d2 := 0) (mc2 := 0) (ms2 := 0) (As := [.int 6]) (rest := []) C (c_refuse 6 hL hE) dX11_failed_13 kV_X11_102 rfl hL hE ck_12 rfl (Nat.le_of_ble_eq_true rfl) ⟨Nat.le_of_ble_eq_true rfl, Nat.le_of_ble_eq_true rfl⟩ ⟨Nat.le_of_ble_eq_true rfl, Nat.le_of_ble_eq_true rfl⟩ (fun vh6 Lh6 Eh6 h6 => ?_)
      obtain ⟨rfl, rfl, rfl⟩ := h6
      refine q_st (st2 := [.int (-1)]) rfl ?_
      exact q_iret C dX11_failed_16 rfl (Nat.le_of_ble_eq_true rfl) (Nat.le_of_ble_eq_true rfl) (by refine congrArg (fun z => some (Value.int z)) ?_; unfold an_fail; (try simp only [inn_f, Decidable.not_not] at c1); (try simp only [i32_lt, i32_le, i32_eq, inn_f, Decidable.not_not, tn_m1, tn_0, tn_1, tn_2, tn_3, tn_4, tn_5, tn_6, tn_7, tn_8, tn_10, tn_30, tn_31, tn_32, tn_36, tn_40, tn_50, tn_100, tn_126, tn_200, tn_255, tn_500, tn_512, tn_3000, tn_5000] at c1); (try simp only [inn_f, Decidable.not_not] at c2); (try simp only [i32_lt, i32_le, i32_eq, inn_f, Decidable.not_not, tn_m1, tn_0, tn_1, tn_2, tn_3, tn_4, tn_5, tn_6, tn_7, tn_8, tn_10, tn_30, tn_31, tn_32, tn_36, tn_40, tn_50, tn_100, tn_126, tn_200, tn_255, tn_500, tn_512, tn_3000, tn_5000] at c2); split <;> rename_i hz <;> (try simp only [i32_lt, i32_le, i32_eq, inn_f, Decidable.not_not, tn_m1, tn_0, tn_1, tn_2, tn_3, tn_4, tn_5, tn_6, tn_7, tn_8, tn_10, tn_30, tn_31, tn_32, tn_36, tn_40, tn_50, tn_100, tn_126, tn_200, tn_255, tn_500, tn_512, tn_3000, tn_5000] at hz) <;> first | rfl | (exfalso; omega) | (split <;> rename_i hy <;> (try simp only [i32_lt, i32_le, i32_eq, inn_f, Decidable.not_not, tn_m1, tn_0, tn_1, tn_2, tn_3, tn_4, tn_5, tn_6, tn_7, tn_8, tn_10, tn_30, tn_31, tn_32, tn_36, tn_40, tn_50, tn_100, tn_126, tn_200, tn_255, tn_500, tn_512, tn_3000, tn_5000] at hy) <;> first | rfl | (exfalso; omega)))
set_option maxHeartbeats 4000000 in
set_option maxRecDepth 100000 in
theorem h_addText {l : Launch} {G : GT} {L : List Nat} {E : Nat → va_E}  {h0 tp wr : Nat} {f ft fw : Nat → Value} (hL : h0 ∈ L) (hE : E h0 = ob 12 19 f) (f0 : f 0 = .ref tp) (f1 : f 1 = .ref wr) (hLtp : tp ∈ L) (hEtp : E tp = ob 2 3 ft) (ft2 : ft 2 = .int 0) (hLwr : wr ∈ L) (hEwr : E wr = ob 2 3 fw) (fw2 : fw 2 = .int 0) (ntw : tp ≠ wr) : Mq l G yX11_addText cX11_addText 3 (some .int) 3 [.ref h0] L E 0 0 (fun v L2 E2 => v = some (.int 0) ∧ L2 = L ∧ (∀ a ∈ L, a ≠ h0 → a ≠ wr → E2 a = E a) ∧ ∃ g, E2 h0 = ob 12 19 g ∧ g 0 = f 0) := by
  refine Mq.mk (by decide) (Nat.le_of_ble_eq_true rfl) ?_
  intro p e s m args below meth c A C
  refine q_iconst (v := 0) C dX11_addText_0 (by decide) ?_
  refine q_istore_n (lv2 := [(1, .int 0), (0, .ref h0)]) C dX11_addText_1 (by decide) rfl ?_
  refine q_iload_n (j := 0) C dX11_addText_2 rfl ?_
  refine q_aload_n (j := 1) C dX11_addText_3 rfl ?_
  refine q_get (k := 0) (v := .ref tp) C ck_12 dX11_addText_4 w2_44 (by decide) hL hE f0 ?_
  refine q_get (k := 2) (v := .int 0) C ck_2 dX11_addText_7 w1_44 (by decide) hLtp hEtp ft2 ?_
  refine q_icmp_ge (tgt := 53) C dX11_addText_10 (by decide) (fun _ => ?_) (fun z => absurd (by decide) z)
  refine q_aload_n (j := 1) C dX11_addText_53 rfl ?_
  refine q_get (k := 1) (v := .ref wr) C ck_12 dX11_addText_54 w2_45 (by decide) hL hE f1 ?_
  refine q_get (k := 2) (v := .int 0) C ck_2 dX11_addText_57 w1_44 (by decide) hLwr hEwr fw2 ?_
  refine q_aload_n (j := 1) C dX11_addText_60 rfl ?_
  refine q_get (k := 0) (v := .ref tp) C ck_12 dX11_addText_61 w2_44 (by decide) hL hE f0 ?_
  refine q_get (k := 2) (v := .int 0) C ck_2 dX11_addText_64 w1_44 (by decide) hLtp hEtp ft2 ?_
  refine q_iadd (v := 0) C dX11_addText_67 (by decide) ?_
  refine q_sipush (v := 500) C dX11_addText_68 (by decide) ?_
  refine q_icmp_le (tgt := 81) C dX11_addText_71 (by decide) (fun _ => ?_) (fun z => absurd (by decide) z)
  refine q_aload_n (j := 1) C dX11_addText_81 rfl ?_
  refine q_get (k := 0) (v := .ref tp) C ck_12 dX11_addText_82 w2_44 (by decide) hL hE f0 ?_
  refine q_get (k := 2) (v := .int 0) C ck_2 dX11_addText_85 w1_44 (by decide) hLtp hEtp ft2 ?_
  refine q_if_ne (tgt := 98) C dX11_addText_88 (by decide) (fun z => absurd (by decide) z) (fun _ => ?_)
  refine q_aload_n (j := 1) C dX11_addText_91 rfl ?_
  refine q_get (k := 1) (v := .ref wr) C ck_12 dX11_addText_92 w2_45 (by decide) hL hE f1 ?_
  refine q_callV (d2 := 0) (mc2 := 0) (ms2 := 0) (As := []) (rest := []) C (c_iclear  hLwr hEwr) dX11_addText_95 kV_X11_164 rfl hLwr hEwr ck_2 rfl (Nat.le_of_ble_eq_true rfl) ⟨Nat.le_of_ble_eq_true rfl, Nat.le_of_ble_eq_true rfl⟩ ⟨Nat.le_of_ble_eq_true rfl, Nat.le_of_ble_eq_true rfl⟩ (fun vh1 Lh1 Eh1 h1 => ?_)
  obtain ⟨rfl, rfl, rfl⟩ := h1
  refine q_st (st2 := []) rfl ?_
  refine q_aload_n (j := 1) C dX11_addText_98 rfl ?_
  refine q_get (k := 1) (v := .ref wr) C ck_12 dX11_addText_99 w2_45 (by decide) hL ((va_up_ne _ _ (ne_ob hE hEwr (by decide))).trans hE) f1 ?_
  refine q_aload_n (j := 1) C dX11_addText_102 rfl ?_
  refine q_get (k := 0) (v := .ref tp) C ck_12 dX11_addText_103 w2_44 (by decide) hL ((va_up_ne _ _ (ne_ob hE hEwr (by decide))).trans hE) f0 ?_
  refine q_callV (d2 := 0) (mc2 := 0) (ms2 := 0) (As := [.ref tp]) (rest := []) C (c_addAll0 hLwr (va_up_self _ _ _) hLtp ((va_up_ne _ _ ntw).trans hEtp) ft2) dX11_addText_106 kV_X11_227 rfl hLwr (va_up_self _ _ _) ck_2 rfl (Nat.le_of_ble_eq_true rfl) ⟨Nat.le_of_ble_eq_true rfl, Nat.le_of_ble_eq_true rfl⟩ ⟨Nat.le_of_ble_eq_true rfl, Nat.le_of_ble_eq_true rfl⟩ (fun vh2 Lh2 Eh2 h2 => ?_)
  obtain ⟨rfl, rfl, rfl⟩ := h2
  refine q_st (st2 := []) rfl ?_
  refine q_aload_n (j := 1) C dX11_addText_109 rfl ?_
  refine q_aload_n (j := 1) C dX11_addText_110 rfl ?_
  refine q_get (k := 1) (v := .ref wr) C ck_12 dX11_addText_111 w2_45 (by decide) hL ((va_up_ne _ _ (ne_ob hE hEwr (by decide))).trans hE) f1 ?_
  refine q_get (k := 2) (v := .int 0) C ck_2 dX11_addText_114 w1_44 (by decide) hLwr (va_up_self _ _ _) rfl ?_
  refine q_callV (d2 := 0) (mc2 := 0) (ms2 := 0) (As := [.int 0]) (rest := []) C (c_done 0 hL ((va_up_ne _ _ (ne_ob hE hEwr (by decide))).trans hE)) dX11_addText_117 kV_X11_109 rfl hL ((va_up_ne _ _ (ne_ob hE hEwr (by decide))).trans hE) ck_12 rfl (Nat.le_of_ble_eq_true rfl) ⟨Nat.le_of_ble_eq_true rfl, Nat.le_of_ble_eq_true rfl⟩ ⟨Nat.le_of_ble_eq_true rfl, Nat.le_of_ble_eq_true rfl⟩ (fun vh3 Lh3 Eh3 h3 => ?_)
  obtain ⟨rfl, rfl, rfl⟩ := h3
  refine q_st (st2 := [.int 0]) rfl ?_
  exact q_iret C dX11_addText_120 rfl (Nat.le_of_ble_eq_true rfl) (Nat.le_of_ble_eq_true rfl) ⟨rfl, rfl, (fun aa haa n1 n2 => ((va_up_ne _ _ n1).trans ((va_up_ne _ _ n2).trans rfl))), _, (va_up_self _ _ _), rfl⟩
set_option maxHeartbeats 4000000 in
set_option maxRecDepth 100000 in
theorem x_text {l : Launch} {G : GT} {L : List Nat} {E : Nat → va_E}  {h0 tp wr : Nat} {f ft fw : Nat → Value} (hL : h0 ∈ L) (hE : E h0 = ob 12 19 f) (f0 : f 0 = .ref tp) (f1 : f 1 = .ref wr) (hLtp : tp ∈ L) (hEtp : E tp = ob 2 3 ft) (ft2 : ft 2 = .int 0) (hLwr : wr ∈ L) (hEwr : E wr = ob 2 3 fw) (fw2 : fw 2 = .int 0) (ntw : tp ≠ wr) : Mq l G yX11_text cX11_text 2 (some .int) 6 [.ref h0] L E 0 0 (fun v L2 E2 => v = some (.int 0)) := by
  refine Mq.mk (by decide) (Nat.le_of_ble_eq_true rfl) ?_
  intro p e s m args below meth c A C
  refine q_aload_n (j := 0) C dX11_text_0 rfl ?_
  refine q_callV (d2 := 3) (mc2 := 0) (ms2 := 0) (As := []) (rest := []) C (h_addText hL hE f0 f1 hLtp hEtp ft2 hLwr hEwr fw2 ntw) dX11_text_1 kV_X11_221 rfl hL hE ck_12 rfl (Nat.le_of_ble_eq_true rfl) ⟨Nat.le_of_ble_eq_true rfl, Nat.le_of_ble_eq_true rfl⟩ ⟨Nat.le_of_ble_eq_true rfl, Nat.le_of_ble_eq_true rfl⟩ (fun vh1 Lh1 Eh1 h1 => ?_)
  obtain ⟨rfl, rfl, h1b, gh1, h1c, h10⟩ := h1
  refine q_st (st2 := [.int 0]) rfl ?_
  refine q_istore_n (lv2 := [(1, .int 0), (0, .ref h0)]) C dX11_text_4 (by decide) rfl ?_
  refine q_aload_n (j := 1) C dX11_text_5 rfl ?_
  refine q_get (k := 0) (v := .ref tp) C ck_12 dX11_text_6 w2_44 (by decide) hL h1c (h10.trans f0) ?_
  refine q_callV (d2 := 0) (mc2 := 0) (ms2 := 0) (As := []) (rest := []) C (c_iclear  hLtp ((h1b _ hLtp (ne_ob hEtp hE (by decide)) ntw).trans hEtp)) dX11_text_9 kV_X11_164 rfl hLtp ((h1b _ hLtp (ne_ob hEtp hE (by decide)) ntw).trans hEtp) ck_2 rfl (Nat.le_of_ble_eq_true rfl) ⟨Nat.le_of_ble_eq_true rfl, Nat.le_of_ble_eq_true rfl⟩ ⟨Nat.le_of_ble_eq_true rfl, Nat.le_of_ble_eq_true rfl⟩ (fun vh2 Lh2 Eh2 h2 => ?_)
  obtain ⟨rfl, rfl, rfl⟩ := h2
  refine q_st (st2 := []) rfl ?_
  refine q_iload_n (j := 0) C dX11_text_12 rfl ?_
  exact q_iret C dX11_text_13 rfl (Nat.le_of_ble_eq_true rfl) (Nat.le_of_ble_eq_true rfl) rfl
set_option maxHeartbeats 4000000 in
set_option maxRecDepth 100000 in
theorem c_copyOf16 {l : Launch} {G : GT} {L : List Nat} {E : Nat → va_E} {q : Nat} {g : Nat → Int32} (hL : q ∈ L) (hE : E q = aI G 16 g) : Mq l G yJ7_copyOf_59c91 cJ7_copyOf_59c91 3 (some (.array .int)) 2 [.ref q, .int 32] L E 1 32 (fun v L2 E2 => ∃ q2, v = some (.ref q2) ∧ q2 ∉ L ∧ L2 = L ++ [q2] ∧ (∀ a ∈ L, E2 a = E a) ∧ ∃ g2, E2 q2 = aI G 32 g2) := by
  refine Mq.mk (by decide) (Nat.le_of_ble_eq_true rfl) ?_
  intro p e s m args below meth c A C
  refine q_iload_n (j := 1) C dJ7_copyOf_59c91_0 rfl ?_
  refine q_aload_n (j := 0) C dJ7_copyOf_59c91_1 rfl ?_
  refine q_alenI (v := 16) C dJ7_copyOf_59c91_2 hL hE rfl ?_
  refine q_icmp_ne (tgt := 14) C dJ7_copyOf_59c91_3 (by decide) (fun _ => ?_) (fun z => absurd z (by decide))
  refine q_iload_n (j := 1) C dJ7_copyOf_59c91_14 rfl ?_
  refine q_newaI (N := 32) C dJ7_copyOf_59c91_15 w1_57 (by decide) (by decide) (by decide) ⟨Nat.le_of_ble_eq_true rfl, Nat.le_of_ble_eq_true rfl⟩ (fun q1 nq1 => ?_)
  have ne_q_q1 : q ≠ q1 := (ne_in hL nq1)
  refine q_astore_n (lv2 := [(2, .ref q1), (0, .ref q), (1, .int 32)]) C dJ7_copyOf_59c91_17 (by decide) rfl ?_
  refine q_aload_n (j := 1) C dJ7_copyOf_59c91_18 rfl ?_
  refine q_iconst (v := 0) C dJ7_copyOf_59c91_19 (by decide) ?_
  refine q_aload_n (j := 0) C dJ7_copyOf_59c91_20 rfl ?_
  refine q_iconst (v := 0) C dJ7_copyOf_59c91_21 (by decide) ?_
  refine q_aload_n (j := 1) C dJ7_copyOf_59c91_22 rfl ?_
  refine q_alenI (v := 16) C dJ7_copyOf_59c91_23 (List.mem_append_left _ hL) ((va_up_ne _ _ ne_q_q1).trans hE) rfl ?_
  refine q_iload_n (j := 2) C dJ7_copyOf_59c91_24 rfl ?_
  refine q_mmin (v := 16) C dJ7_copyOf_59c91_25 w2_128 w2_129 w1_14 w2_130 ⟨Nat.le_of_ble_eq_true rfl, Nat.le_of_ble_eq_true rfl⟩ ⟨Nat.le_of_ble_eq_true rfl, Nat.le_of_ble_eq_true rfl⟩ (Nat.le_of_ble_eq_true rfl) (by decide) ?_
  refine q_copyi C dJ7_copyOf_59c91_28 w2_131 w2_133 w2_132 w1_15 (List.mem_append_left _ hL) ((va_up_ne _ _ ne_q_q1).trans hE) (List.mem_append_right _ (List.mem_singleton.mpr rfl)) (va_up_self _ _ _) (by decide) (by decide) (by decide) (by decide) (by decide) ⟨Nat.le_of_ble_eq_true rfl, Nat.le_of_ble_eq_true rfl⟩ (Nat.le_of_ble_eq_true rfl) ?_
  refine q_aload_n (j := 0) C dJ7_copyOf_59c91_31 rfl ?_
  exact q_aret C dJ7_copyOf_59c91_32 rfl (Or.inr ⟨_, rfl⟩) (Or.inr ⟨_, rfl⟩) (Nat.le_of_ble_eq_true rfl) (Nat.le_of_ble_eq_true rfl) ⟨q1, rfl, nq1, rfl, (fun aa haa => ((va_up_ne _ _ (ne_in haa nq1)).trans ((va_up_ne _ _ (ne_in haa nq1)).trans rfl))), _, (va_up_self _ _ _)⟩
set_option maxHeartbeats 4000000 in
set_option maxRecDepth 100000 in
theorem c_add0 {l : Launch} {G : GT} {L : List Nat} {E : Nat → va_E} (x : Int32) {a q : Nat} {f : Nat → Value} {g : Nat → Int32} (hL : a ∈ L) (hE : E a = ob 2 3 f) (h0 : f 0 = .int 3000) (h1 : f 1 = .ref q) {k n : Nat} (hk : k < n) (hn : n ≤ 3000) (h2 : f 2 = .int (nI k)) (hLq : q ∈ L) (hEq : E q = aI G n g) : Mq l G yX1_add cX1_add 2 none 0 [.ref a, .int x] L E 0 0 (fun v L2 E2 => v = none ∧ L2 = L ∧ ∃ g2, E2 = va_up (va_up E q (aI G n g2)) a (ob 2 3 (va_up f 2 (.int (nI (k + 1)))))) := by
  refine Mq.mk (by decide) (Nat.le_of_ble_eq_true rfl) ?_
  intro p e s m args below meth c A C
  refine q_aload_n (j := 0) C dX1_add_0 rfl ?_
  refine q_get (k := 2) (v := .int (nI k)) C ck_2 dX1_add_1 w1_43 (by decide) hL hE h2 ?_
  refine q_aload_n (j := 0) C dX1_add_4 rfl ?_
  refine q_get (k := 0) (v := .int 3000) C ck_2 dX1_add_5 w1_38 (by decide) hL hE h0 ?_
  refine q_icmp_lt (tgt := 12) C dX1_add_8 (by decide) (fun _ => ?_) (fun z => absurd (nI_lt (b := 3000) (by omega) (by decide)) z)
  refine q_aload_n (j := 0) C dX1_add_12 rfl ?_
  refine q_get (k := 2) (v := .int (nI k)) C ck_2 dX1_add_13 w1_43 (by decide) hL hE h2 ?_
  refine q_aload_n (j := 0) C dX1_add_16 rfl ?_
  refine q_get (k := 1) (v := .ref q) C ck_2 dX1_add_17 w1_39 (by decide) hL hE h1 ?_
  refine q_alenI (v := (nI n)) C dX1_add_20 hLq hEq rfl ?_
  refine q_icmp_lt (tgt := 42) C dX1_add_21 (by decide) (fun _ => ?_) (fun z => absurd (nI_lt hk (by omega)) z)
  refine q_aload_n (j := 0) C dX1_add_42 rfl ?_
  refine q_get (k := 1) (v := .ref q) C ck_2 dX1_add_43 w1_39 (by decide) hL hE h1 ?_
  refine q_aload_n (j := 0) C dX1_add_46 rfl ?_
  refine q_get (k := 2) (v := .int (nI k)) C ck_2 dX1_add_47 w1_43 (by decide) hL hE h2 ?_
  refine q_iload_n (j := 1) C dX1_add_50 rfl ?_
  refine q_iast C dX1_add_51 hLq hEq (vp_in_nI hk (by omega)) ?_
  refine q_aload_n (j := 0) C dX1_add_52 rfl ?_
  refine q_dup C dX1_add_53 rfl ?_
  refine q_get (k := 2) (v := .int (nI k)) C ck_2 dX1_add_54 w1_43 (by decide) hL ((va_up_ne _ _ (ne_oI hE hEq)).trans hE) h2 ?_
  refine q_iconst (v := 1) C dX1_add_57 (by decide) ?_
  refine q_iadd (v := (nI (k + 1))) C dX1_add_58 (nI_1 k) ?_
  refine q_put (k := 2) C ck_2 dX1_add_59 w1_43 (by decide) rfl hL ((va_up_ne _ _ (ne_oI hE hEq)).trans hE) rfl rfl ?_
  exact q_vret C dX1_add_62 rfl (Nat.le_of_ble_eq_true rfl) (Nat.le_of_ble_eq_true rfl) ⟨rfl, rfl, _, rfl⟩
set_option maxHeartbeats 4000000 in
set_option maxRecDepth 100000 in
theorem c_addG {l : Launch} {G : GT} {L : List Nat} {E : Nat → va_E} (x : Int32) {a q : Nat} {f : Nat → Value} {g : Nat → Int32} (hL : a ∈ L) (hE : E a = ob 2 3 f) (h0 : f 0 = .int 3000) (h1 : f 1 = .ref q) (h2 : f 2 = .int 16) (hLq : q ∈ L) (hEq : E q = aI G 16 g) : Mq l G yX1_add cX1_add 2 none 3 [.ref a, .int x] L E 1 32 (fun v L2 E2 => v = none ∧ ∃ q2, q2 ∉ L ∧ L2 = L ++ [q2] ∧ (∀ b ∈ L, b ≠ a → E2 b = E b) ∧ ∃ f2 g2, E2 a = ob 2 3 f2 ∧ f2 0 = .int 3000 ∧ f2 1 = .ref q2 ∧ f2 2 = .int (nI 17) ∧ E2 q2 = aI G 32 g2) := by
  refine Mq.mk (by decide) (Nat.le_of_ble_eq_true rfl) ?_
  intro p e s m args below meth c A C
  refine q_aload_n (j := 0) C dX1_add_0 rfl ?_
  refine q_get (k := 2) (v := .int 16) C ck_2 dX1_add_1 w1_43 (by decide) hL hE h2 ?_
  refine q_aload_n (j := 0) C dX1_add_4 rfl ?_
  refine q_get (k := 0) (v := .int 3000) C ck_2 dX1_add_5 w1_38 (by decide) hL hE h0 ?_
  refine q_icmp_lt (tgt := 12) C dX1_add_8 (by decide) (fun _ => ?_) (fun z => absurd (by decide) z)
  refine q_aload_n (j := 0) C dX1_add_12 rfl ?_
  refine q_get (k := 2) (v := .int 16) C ck_2 dX1_add_13 w1_43 (by decide) hL hE h2 ?_
  refine q_aload_n (j := 0) C dX1_add_16 rfl ?_
  refine q_get (k := 1) (v := .ref q) C ck_2 dX1_add_17 w1_39 (by decide) hL hE h1 ?_
  refine q_alenI (v := 16) C dX1_add_20 hLq hEq rfl ?_
  refine q_icmp_lt (tgt := 42) C dX1_add_21 (by decide) (fun z => absurd z (by decide)) (fun _ => ?_)
  refine q_aload_n (j := 0) C dX1_add_24 rfl ?_
  refine q_aload_n (j := 0) C dX1_add_25 rfl ?_
  refine q_get (k := 1) (v := .ref q) C ck_2 dX1_add_26 w1_39 (by decide) hL hE h1 ?_
  refine q_aload_n (j := 0) C dX1_add_29 rfl ?_
  refine q_get (k := 1) (v := .ref q) C ck_2 dX1_add_30 w1_39 (by decide) hL hE h1 ?_
  refine q_alenI (v := 16) C dX1_add_33 hLq hEq rfl ?_
  refine q_iconst (v := 2) C dX1_add_34 (by decide) ?_
  refine q_imul (v := 32) C dX1_add_35 (by decide) ?_
  refine q_callS (d2 := 2) (mc2 := 1) (ms2 := 32) (As := [.ref q, .int 32]) (rest := [.ref a]) C (c_copyOf16 hLq hEq) dX1_add_36 kS_X1_20 rfl rfl (Nat.le_of_ble_eq_true rfl) ⟨Nat.le_of_ble_eq_true rfl, Nat.le_of_ble_eq_true rfl⟩ ⟨Nat.le_of_ble_eq_true rfl, Nat.le_of_ble_eq_true rfl⟩ (fun vh1 Lh1 Eh1 h1 => ?_)
  obtain ⟨r1, rfl, nr1, rfl, h1b, gr1, h1c⟩ := h1
  refine q_st (st2 := [.ref r1, .ref a]) rfl ?_
  refine q_put (k := 1) C ck_2 dX1_add_39 w1_39 (by decide) rfl (List.mem_append_left _ hL) ((h1b _ hL).trans hE) rfl rfl ?_
  refine q_aload_n (j := 0) C dX1_add_42 rfl ?_
  refine q_get (k := 1) (v := .ref r1) C ck_2 dX1_add_43 w1_39 (by decide) (List.mem_append_left _ hL) (va_up_self _ _ _) rfl ?_
  refine q_aload_n (j := 0) C dX1_add_46 rfl ?_
  refine q_get (k := 2) (v := .int 16) C ck_2 dX1_add_47 w1_43 (by decide) (List.mem_append_left _ hL) (va_up_self _ _ _) h2 ?_
  refine q_iload_n (j := 1) C dX1_add_50 rfl ?_
  refine q_iast C dX1_add_51 (List.mem_append_right _ (List.mem_singleton.mpr rfl)) ((va_up_ne _ _ (Ne.symm (ne_in hL nr1))).trans h1c) (by unfold vp_in; decide) ?_
  refine q_aload_n (j := 0) C dX1_add_52 rfl ?_
  refine q_dup C dX1_add_53 rfl ?_
  refine q_get (k := 2) (v := .int 16) C ck_2 dX1_add_54 w1_43 (by decide) (List.mem_append_left _ hL) ((va_up_ne _ _ (ne_in hL nr1)).trans (va_up_self _ _ _)) h2 ?_
  refine q_iconst (v := 1) C dX1_add_57 (by decide) ?_
  refine q_iadd (v := 17) C dX1_add_58 (by decide) ?_
  refine q_put (k := 2) C ck_2 dX1_add_59 w1_43 (by decide) rfl (List.mem_append_left _ hL) ((va_up_ne _ _ (ne_in hL nr1)).trans (va_up_self _ _ _)) rfl rfl ?_
  exact q_vret C dX1_add_62 rfl (Nat.le_of_ble_eq_true rfl) (Nat.le_of_ble_eq_true rfl) ⟨rfl, r1, nr1, rfl, (fun aa haa naa => ((va_up_ne _ _ naa).trans ((va_up_ne _ _ (ne_in haa nr1)).trans ((va_up_ne _ _ naa).trans ((h1b _ haa).trans rfl))))), _, _, (va_up_self _ _ _), h0, rfl, rfl, ((va_up_ne _ _ (Ne.symm (ne_in hL nr1))).trans (va_up_self _ _ _))⟩
set_option maxHeartbeats 4000000 in
set_option maxRecDepth 100000 in
theorem h_feed4 {l : Launch} {G : GT} {L : List Nat} {E : Nat → va_E} (x : Int32) {h0 tp qt : Nat} {f ft : Nat → Value} {g : Nat → Int32} {k n : Nat} (hk : k + 4 ≤ n) (hn : n ≤ 3000) (hL : h0 ∈ L) (hE : E h0 = ob 12 19 f) (f0 : f 0 = .ref tp) (hLtp : tp ∈ L) (hEtp : E tp = ob 2 3 ft) (ft0 : ft 0 = .int 3000) (ft1 : ft 1 = .ref qt) (ft2 : ft 2 = .int (nI k)) (hLqt : qt ∈ L) (hEqt : E qt = aI G n g) : Mq l G yX11_feedFour cX11_feedFour 3 none 4 [.ref h0, .int x] L E 0 0 (fun v L2 E2 => v = none ∧ L2 = L ∧ (∀ a ∈ L, a ≠ tp → a ≠ qt → E2 a = E a) ∧ ∃ f2 g2, E2 tp = ob 2 3 f2 ∧ f2 0 = .int 3000 ∧ f2 1 = .ref qt ∧ f2 2 = .int (nI (k + 1 + 1 + 1 + 1)) ∧ E2 qt = aI G n g2) := by
  refine Mq.mk (by decide) (Nat.le_of_ble_eq_true rfl) ?_
  intro p e s m args below meth c A C
  refine q_bipush (v := 24) C dX11_feedFour_0 (by decide) ?_
  refine q_istore_n (lv2 := [(2, .int 24), (0, .ref h0), (1, .int x)]) C dX11_feedFour_2 (by decide) rfl ?_
  refine q_iload_n (j := 0) C dX11_feedFour_3 rfl ?_
  refine q_if_lt (tgt := 27) C dX11_feedFour_4 (by decide) (fun z => absurd z (by decide)) (fun _ => ?_)
  refine q_aload_n (j := 1) C dX11_feedFour_7 rfl ?_
  refine q_get (k := 0) (v := .ref tp) C ck_12 dX11_feedFour_8 w2_44 (by decide) hL hE f0 ?_
  refine q_iload_n (j := 2) C dX11_feedFour_11 rfl ?_
  refine q_iload_n (j := 0) C dX11_feedFour_12 rfl ?_
  refine q_iushr (v := ((Int32.toUInt32 x >>> (Int32.toUInt32 (24 : Int32) &&& Int32.toUInt32 31)).toInt32)) C dX11_feedFour_13 rfl ?_
  refine q_sipush (v := 255) C dX11_feedFour_14 (by decide) ?_
  refine q_iand (v := (((Int32.toUInt32 x >>> (Int32.toUInt32 (24 : Int32) &&& Int32.toUInt32 31)).toInt32) &&& (255 : Int32))) C dX11_feedFour_17 rfl ?_
  refine q_callV (d2 := 0) (mc2 := 0) (ms2 := 0) (As := [.int (((Int32.toUInt32 x >>> (Int32.toUInt32 (24 : Int32) &&& Int32.toUInt32 31)).toInt32) &&& (255 : Int32))]) (rest := []) C (c_add0 (f := ft) (k := k) (n := n) (((Int32.toUInt32 x >>> (Int32.toUInt32 (24 : Int32) &&& Int32.toUInt32 31)).toInt32) &&& (255 : Int32)) hLtp hEtp ft0 ft1 (by omega) hn ft2 hLqt hEqt) dX11_feedFour_18 kV_X11_112 rfl hLtp hEtp ck_2 rfl (Nat.le_of_ble_eq_true rfl) ⟨Nat.le_of_ble_eq_true rfl, Nat.le_of_ble_eq_true rfl⟩ ⟨Nat.le_of_ble_eq_true rfl, Nat.le_of_ble_eq_true rfl⟩ (fun vh1 Lh1 Eh1 h1 => ?_)
  obtain ⟨rfl, rfl, gh1, rfl⟩ := h1
  refine q_st (st2 := []) rfl ?_
  refine q_iinc (j := 0) (v := 16) (lv2 := [(2, .int 16), (0, .ref h0), (1, .int x)]) C dX11_feedFour_21 rfl (by decide) (by decide) rfl ?_
  refine q_goto (tgt := 3) C dX11_feedFour_24 (by decide) ?_
  refine q_iload_n (j := 0) C dX11_feedFour_3 rfl ?_
  refine q_if_lt (tgt := 27) C dX11_feedFour_4 (by decide) (fun z => absurd z (by decide)) (fun _ => ?_)
  refine q_aload_n (j := 1) C dX11_feedFour_7 rfl ?_
  refine q_get (k := 0) (v := .ref tp) C ck_12 dX11_feedFour_8 w2_44 (by decide) hL ((va_up_ne _ _ (ne_ob hE hEtp (by decide))).trans ((va_up_ne _ _ (ne_oI hE hEqt)).trans hE)) f0 ?_
  refine q_iload_n (j := 2) C dX11_feedFour_11 rfl ?_
  refine q_iload_n (j := 0) C dX11_feedFour_12 rfl ?_
  refine q_iushr (v := ((Int32.toUInt32 x >>> (Int32.toUInt32 (16 : Int32) &&& Int32.toUInt32 31)).toInt32)) C dX11_feedFour_13 rfl ?_
  refine q_sipush (v := 255) C dX11_feedFour_14 (by decide) ?_
  refine q_iand (v := (((Int32.toUInt32 x >>> (Int32.toUInt32 (16 : Int32) &&& Int32.toUInt32 31)).toInt32) &&& (255 : Int32))) C dX11_feedFour_17 rfl ?_
  refine q_callV (d2 := 0) (mc2 := 0) (ms2 := 0) (As := [.int (((Int32.toUInt32 x >>> (Int32.toUInt32 (16 : Int32) &&& Int32.toUInt32 31)).toInt32) &&& (255 : Int32))]) (rest := []) C (c_add0 (f := (va_up ft 2 (.int (nI (k + 1))))) (k := k + 1) (n := n) (((Int32.toUInt32 x >>> (Int32.toUInt32 (16 : Int32) &&& Int32.toUInt32 31)).toInt32) &&& (255 : Int32)) hLtp (va_up_self _ _ _) ft0 ft1 (by omega) hn rfl hLqt ((va_up_ne _ _ (Ne.symm (ne_oI hEtp hEqt))).trans (va_up_self _ _ _))) dX11_feedFour_18 kV_X11_112 rfl hLtp (va_up_self _ _ _) ck_2 rfl (Nat.le_of_ble_eq_true rfl) ⟨Nat.le_of_ble_eq_true rfl, Nat.le_of_ble_eq_true rfl⟩ ⟨Nat.le_of_ble_eq_true rfl, Nat.le_of_ble_eq_true rfl⟩ (fun vh2 Lh2 Eh2 h2 => ?_)
  obtain ⟨rfl, rfl, gh2, rfl⟩ := h2
  refine q_st (st2 := []) rfl ?_
  refine q_iinc (j := 0) (v := 8) (lv2 := [(2, .int 8), (0, .ref h0), (1, .int x)]) C dX11_feedFour_21 rfl (by decide) (by decide) rfl ?_
  refine q_goto (tgt := 3) C dX11_feedFour_24 (by decide) ?_
  refine q_iload_n (j := 0) C dX11_feedFour_3 rfl ?_
  refine q_if_lt (tgt := 27) C dX11_feedFour_4 (by decide) (fun z => absurd z (by decide)) (fun _ => ?_)
  refine q_aload_n (j := 1) C dX11_feedFour_7 rfl ?_
  refine q_get (k := 0) (v := .ref tp) C ck_12 dX11_feedFour_8 w2_44 (by decide) hL ((va_up_ne _ _ (ne_ob hE hEtp (by decide))).trans ((va_up_ne _ _ (ne_oI hE hEqt)).trans ((va_up_ne _ _ (ne_ob hE hEtp (by decide))).trans ((va_up_ne _ _ (ne_oI hE hEqt)).trans hE)))) f0 ?_
  refine q_iload_n (j := 2) C dX11_feedFour_11 rfl ?_
  refine q_iload_n (j := 0) C dX11_feedFour_12 rfl ?_
  refine q_iushr (v := ((Int32.toUInt32 x >>> (Int32.toUInt32 (8 : Int32) &&& Int32.toUInt32 31)).toInt32)) C dX11_feedFour_13 rfl ?_
  refine q_sipush (v := 255) C dX11_feedFour_14 (by decide) ?_
  refine q_iand (v := (((Int32.toUInt32 x >>> (Int32.toUInt32 (8 : Int32) &&& Int32.toUInt32 31)).toInt32) &&& (255 : Int32))) C dX11_feedFour_17 rfl ?_
  refine q_callV (d2 := 0) (mc2 := 0) (ms2 := 0) (As := [.int (((Int32.toUInt32 x >>> (Int32.toUInt32 (8 : Int32) &&& Int32.toUInt32 31)).toInt32) &&& (255 : Int32))]) (rest := []) C (c_add0 (f := (va_up (va_up ft 2 (.int (nI (k + 1)))) 2 (.int (nI (k + 1 + 1))))) (k := k + 1 + 1) (n := n) (((Int32.toUInt32 x >>> (Int32.toUInt32 (8 : Int32) &&& Int32.toUInt32 31)).toInt32) &&& (255 : Int32)) hLtp (va_up_self _ _ _) ft0 ft1 (by omega) hn rfl hLqt ((va_up_ne _ _ (Ne.symm (ne_oI hEtp hEqt))).trans (va_up_self _ _ _))) dX11_feedFour_18 kV_X11_112 rfl hLtp (va_up_self _ _ _) ck_2 rfl (Nat.le_of_ble_eq_true rfl) ⟨Nat.le_of_ble_eq_true rfl, Nat.le_of_ble_eq_true rfl⟩ ⟨Nat.le_of_ble_eq_true rfl, Nat.le_of_ble_eq_true rfl⟩ (fun vh3 Lh3 Eh3 h3 => ?_)
  obtain ⟨rfl, rfl, gh3, rfl⟩ := h3
  refine q_st (st2 := []) rfl ?_
  refine q_iinc (j := 0) (v := 0) (lv2 := [(2, .int 0), (0, .ref h0), (1, .int x)]) C dX11_feedFour_21 rfl (by decide) (by decide) rfl ?_
  refine q_goto (tgt := 3) C dX11_feedFour_24 (by decide) ?_
  refine q_iload_n (j := 0) C dX11_feedFour_3 rfl ?_
  refine q_if_lt (tgt := 27) C dX11_feedFour_4 (by decide) (fun z => absurd z (by decide)) (fun _ => ?_)
  refine q_aload_n (j := 1) C dX11_feedFour_7 rfl ?_
  refine q_get (k := 0) (v := .ref tp) C ck_12 dX11_feedFour_8 w2_44 (by decide) hL ((va_up_ne _ _ (ne_ob hE hEtp (by decide))).trans ((va_up_ne _ _ (ne_oI hE hEqt)).trans ((va_up_ne _ _ (ne_ob hE hEtp (by decide))).trans ((va_up_ne _ _ (ne_oI hE hEqt)).trans ((va_up_ne _ _ (ne_ob hE hEtp (by decide))).trans ((va_up_ne _ _ (ne_oI hE hEqt)).trans hE)))))) f0 ?_
  refine q_iload_n (j := 2) C dX11_feedFour_11 rfl ?_
  refine q_iload_n (j := 0) C dX11_feedFour_12 rfl ?_
  refine q_iushr (v := ((Int32.toUInt32 x >>> (Int32.toUInt32 (0 : Int32) &&& Int32.toUInt32 31)).toInt32)) C dX11_feedFour_13 rfl ?_
  refine q_sipush (v := 255) C dX11_feedFour_14 (by decide) ?_
  refine q_iand (v := (((Int32.toUInt32 x >>> (Int32.toUInt32 (0 : Int32) &&& Int32.toUInt32 31)).toInt32) &&& (255 : Int32))) C dX11_feedFour_17 rfl ?_
  refine q_callV (d2 := 0) (mc2 := 0) (ms2 := 0) (As := [.int (((Int32.toUInt32 x >>> (Int32.toUInt32 (0 : Int32) &&& Int32.toUInt32 31)).toInt32) &&& (255 : Int32))]) (rest := []) C (c_add0 (f := (va_up (va_up (va_up ft 2 (.int (nI (k + 1)))) 2 (.int (nI (k + 1 + 1)))) 2 (.int (nI (k + 1 + 1 + 1))))) (k := k + 1 + 1 + 1) (n := n) (((Int32.toUInt32 x >>> (Int32.toUInt32 (0 : Int32) &&& Int32.toUInt32 31)).toInt32) &&& (255 : Int32)) hLtp (va_up_self _ _ _) ft0 ft1 (by omega) hn rfl hLqt ((va_up_ne _ _ (Ne.symm (ne_oI hEtp hEqt))).trans (va_up_self _ _ _))) dX11_feedFour_18 kV_X11_112 rfl hLtp (va_up_self _ _ _) ck_2 rfl (Nat.le_of_ble_eq_true rfl) ⟨Nat.le_of_ble_eq_true rfl, Nat.le_of_ble_eq_true rfl⟩ ⟨Nat.le_of_ble_eq_true rfl, Nat.le_of_ble_eq_true rfl⟩ (fun vh4 Lh4 Eh4 h4 => ?_)
  obtain ⟨rfl, rfl, gh4, rfl⟩ := h4
  refine q_st (st2 := []) rfl ?_
  refine q_iinc (j := 0) (v := (-8)) (lv2 := [(2, .int (-8)), (0, .ref h0), (1, .int x)]) C dX11_feedFour_21 rfl (by decide) (by decide) rfl ?_
  refine q_goto (tgt := 3) C dX11_feedFour_24 (by decide) ?_
  refine q_iload_n (j := 0) C dX11_feedFour_3 rfl ?_
  refine q_if_lt (tgt := 27) C dX11_feedFour_4 (by decide) (fun _ => ?_) (fun z => absurd (by decide) z)
  exact q_vret C dX11_feedFour_27 rfl (Nat.le_of_ble_eq_true rfl) (Nat.le_of_ble_eq_true rfl) ⟨rfl, rfl, (fun aa haa n1 n2 => ((va_up_ne _ _ n1).trans ((va_up_ne _ _ n2).trans ((va_up_ne _ _ n1).trans ((va_up_ne _ _ n2).trans ((va_up_ne _ _ n1).trans ((va_up_ne _ _ n2).trans ((va_up_ne _ _ n1).trans ((va_up_ne _ _ n2).trans rfl))))))))), _, _, (va_up_self _ _ _), ft0, ft1, rfl, ((va_up_ne _ _ (Ne.symm (ne_oI hEtp hEqt))).trans (va_up_self _ _ _))⟩
set_option maxHeartbeats 4000000 in
set_option maxRecDepth 100000 in
theorem h_feed4g {l : Launch} {G : GT} {L : List Nat} {E : Nat → va_E} (x : Int32) {h0 tp qt : Nat} {f ft : Nat → Value} {g : Nat → Int32} (hL : h0 ∈ L) (hE : E h0 = ob 12 19 f) (f0 : f 0 = .ref tp) (hLtp : tp ∈ L) (hEtp : E tp = ob 2 3 ft) (ft0 : ft 0 = .int 3000) (ft1 : ft 1 = .ref qt) (ft2 : ft 2 = .int 16) (hLqt : qt ∈ L) (hEqt : E qt = aI G 16 g) : Mq l G yX11_feedFour cX11_feedFour 3 none 4 [.ref h0, .int x] L E 1 32 (fun v L2 E2 => v = none ∧ h0 ∈ L2 ∧ ∃ f3, E2 h0 = ob 12 19 f3 ∧ f3 0 = .ref tp ∧ ∃ f2, E2 tp = ob 2 3 f2 ∧ f2 2 = .int (nI (17 + 1 + 1 + 1)) ∧ tp ∈ L2) := by
  refine Mq.mk (by decide) (Nat.le_of_ble_eq_true rfl) ?_
  intro p e s m args below meth c A C
  refine q_bipush (v := 24) C dX11_feedFour_0 (by decide) ?_
  refine q_istore_n (lv2 := [(2, .int 24), (0, .ref h0), (1, .int x)]) C dX11_feedFour_2 (by decide) rfl ?_
  refine q_iload_n (j := 0) C dX11_feedFour_3 rfl ?_
  refine q_if_lt (tgt := 27) C dX11_feedFour_4 (by decide) (fun z => absurd z (by decide)) (fun _ => ?_)
  refine q_aload_n (j := 1) C dX11_feedFour_7 rfl ?_
  refine q_get (k := 0) (v := .ref tp) C ck_12 dX11_feedFour_8 w2_44 (by decide) hL hE f0 ?_
  refine q_iload_n (j := 2) C dX11_feedFour_11 rfl ?_
  refine q_iload_n (j := 0) C dX11_feedFour_12 rfl ?_
  refine q_iushr (v := ((Int32.toUInt32 x >>> (Int32.toUInt32 (24 : Int32) &&& Int32.toUInt32 31)).toInt32)) C dX11_feedFour_13 rfl ?_
  refine q_sipush (v := 255) C dX11_feedFour_14 (by decide) ?_
  refine q_iand (v := (((Int32.toUInt32 x >>> (Int32.toUInt32 (24 : Int32) &&& Int32.toUInt32 31)).toInt32) &&& (255 : Int32))) C dX11_feedFour_17 rfl ?_
  refine q_callV (d2 := 3) (mc2 := 1) (ms2 := 32) (As := [.int (((Int32.toUInt32 x >>> (Int32.toUInt32 (24 : Int32) &&& Int32.toUInt32 31)).toInt32) &&& (255 : Int32))]) (rest := []) C (c_addG (((Int32.toUInt32 x >>> (Int32.toUInt32 (24 : Int32) &&& Int32.toUInt32 31)).toInt32) &&& (255 : Int32)) hLtp hEtp ft0 ft1 ft2 hLqt hEqt) dX11_feedFour_18 kV_X11_112 rfl hLtp hEtp ck_2 rfl (Nat.le_of_ble_eq_true rfl) ⟨Nat.le_of_ble_eq_true rfl, Nat.le_of_ble_eq_true rfl⟩ ⟨Nat.le_of_ble_eq_true rfl, Nat.le_of_ble_eq_true rfl⟩ (fun vh1 Lh1 Eh1 h1 => ?_)
  obtain ⟨rfl, r1, nr1, rfl, h1b, fh1, gh1, h1c, h10, h11, h12, h1d⟩ := h1
  refine q_st (st2 := []) rfl ?_
  refine q_iinc (j := 0) (v := 16) (lv2 := [(2, .int 16), (0, .ref h0), (1, .int x)]) C dX11_feedFour_21 rfl (by decide) (by decide) rfl ?_
  refine q_goto (tgt := 3) C dX11_feedFour_24 (by decide) ?_
  refine q_iload_n (j := 0) C dX11_feedFour_3 rfl ?_
  refine q_if_lt (tgt := 27) C dX11_feedFour_4 (by decide) (fun z => absurd z (by decide)) (fun _ => ?_)
  refine q_aload_n (j := 1) C dX11_feedFour_7 rfl ?_
  refine q_get (k := 0) (v := .ref tp) C ck_12 dX11_feedFour_8 w2_44 (by decide) (List.mem_append_left _ hL) ((h1b _ hL (ne_ob hE hEtp (by decide))).trans hE) f0 ?_
  refine q_iload_n (j := 2) C dX11_feedFour_11 rfl ?_
  refine q_iload_n (j := 0) C dX11_feedFour_12 rfl ?_
  refine q_iushr (v := ((Int32.toUInt32 x >>> (Int32.toUInt32 (16 : Int32) &&& Int32.toUInt32 31)).toInt32)) C dX11_feedFour_13 rfl ?_
  refine q_sipush (v := 255) C dX11_feedFour_14 (by decide) ?_
  refine q_iand (v := (((Int32.toUInt32 x >>> (Int32.toUInt32 (16 : Int32) &&& Int32.toUInt32 31)).toInt32) &&& (255 : Int32))) C dX11_feedFour_17 rfl ?_
  refine q_callV (d2 := 0) (mc2 := 0) (ms2 := 0) (As := [.int (((Int32.toUInt32 x >>> (Int32.toUInt32 (16 : Int32) &&& Int32.toUInt32 31)).toInt32) &&& (255 : Int32))]) (rest := []) C (c_add0 (f := fh1) (k := 17) (n := 32) (((Int32.toUInt32 x >>> (Int32.toUInt32 (16 : Int32) &&& Int32.toUInt32 31)).toInt32) &&& (255 : Int32)) (List.mem_append_left _ hLtp) h1c h10 h11 (by decide) (by decide) h12 (List.mem_append_right _ (List.mem_singleton.mpr rfl)) h1d) dX11_feedFour_18 kV_X11_112 rfl (List.mem_append_left _ hLtp) h1c ck_2 rfl (Nat.le_of_ble_eq_true rfl) ⟨Nat.le_of_ble_eq_true rfl, Nat.le_of_ble_eq_true rfl⟩ ⟨Nat.le_of_ble_eq_true rfl, Nat.le_of_ble_eq_true rfl⟩ (fun vh2 Lh2 Eh2 h2 => ?_)
  obtain ⟨rfl, rfl, gh2, rfl⟩ := h2
  refine q_st (st2 := []) rfl ?_
  refine q_iinc (j := 0) (v := 8) (lv2 := [(2, .int 8), (0, .ref h0), (1, .int x)]) C dX11_feedFour_21 rfl (by decide) (by decide) rfl ?_
  refine q_goto (tgt := 3) C dX11_feedFour_24 (by decide) ?_
  refine q_iload_n (j := 0) C dX11_feedFour_3 rfl ?_
  refine q_if_lt (tgt := 27) C dX11_feedFour_4 (by decide) (fun z => absurd z (by decide)) (fun _ => ?_)
  refine q_aload_n (j := 1) C dX11_feedFour_7 rfl ?_
  refine q_get (k := 0) (v := .ref tp) C ck_12 dX11_feedFour_8 w2_44 (by decide) (List.mem_append_left _ hL) ((va_up_ne _ _ (ne_ob hE hEtp (by decide))).trans ((va_up_ne _ _ (ne_in hL nr1)).trans ((h1b _ hL (ne_ob hE hEtp (by decide))).trans hE))) f0 ?_
  refine q_iload_n (j := 2) C dX11_feedFour_11 rfl ?_
  refine q_iload_n (j := 0) C dX11_feedFour_12 rfl ?_
  refine q_iushr (v := ((Int32.toUInt32 x >>> (Int32.toUInt32 (8 : Int32) &&& Int32.toUInt32 31)).toInt32)) C dX11_feedFour_13 rfl ?_
  refine q_sipush (v := 255) C dX11_feedFour_14 (by decide) ?_
  refine q_iand (v := (((Int32.toUInt32 x >>> (Int32.toUInt32 (8 : Int32) &&& Int32.toUInt32 31)).toInt32) &&& (255 : Int32))) C dX11_feedFour_17 rfl ?_
  refine q_callV (d2 := 0) (mc2 := 0) (ms2 := 0) (As := [.int (((Int32.toUInt32 x >>> (Int32.toUInt32 (8 : Int32) &&& Int32.toUInt32 31)).toInt32) &&& (255 : Int32))]) (rest := []) C (c_add0 (f := (va_up fh1 2 (.int (nI (17 + 1))))) (k := 17 + 1) (n := 32) (((Int32.toUInt32 x >>> (Int32.toUInt32 (8 : Int32) &&& Int32.toUInt32 31)).toInt32) &&& (255 : Int32)) (List.mem_append_left _ hLtp) (va_up_self _ _ _) h10 h11 (by decide) (by decide) rfl (List.mem_append_right _ (List.mem_singleton.mpr rfl)) ((va_up_ne _ _ (Ne.symm (ne_in hLtp nr1))).trans (va_up_self _ _ _))) dX11_feedFour_18 kV_X11_112 rfl (List.mem_append_left _ hLtp) (va_up_self _ _ _) ck_2 rfl (Nat.le_of_ble_eq_true rfl) ⟨Nat.le_of_ble_eq_true rfl, Nat.le_of_ble_eq_true rfl⟩ ⟨Nat.le_of_ble_eq_true rfl, Nat.le_of_ble_eq_true rfl⟩ (fun vh3 Lh3 Eh3 h3 => ?_)
  obtain ⟨rfl, rfl, gh3, rfl⟩ := h3
  refine q_st (st2 := []) rfl ?_
  refine q_iinc (j := 0) (v := 0) (lv2 := [(2, .int 0), (0, .ref h0), (1, .int x)]) C dX11_feedFour_21 rfl (by decide) (by decide) rfl ?_
  refine q_goto (tgt := 3) C dX11_feedFour_24 (by decide) ?_
  refine q_iload_n (j := 0) C dX11_feedFour_3 rfl ?_
  refine q_if_lt (tgt := 27) C dX11_feedFour_4 (by decide) (fun z => absurd z (by decide)) (fun _ => ?_)
  refine q_aload_n (j := 1) C dX11_feedFour_7 rfl ?_
  refine q_get (k := 0) (v := .ref tp) C ck_12 dX11_feedFour_8 w2_44 (by decide) (List.mem_append_left _ hL) ((va_up_ne _ _ (ne_ob hE hEtp (by decide))).trans ((va_up_ne _ _ (ne_in hL nr1)).trans ((va_up_ne _ _ (ne_ob hE hEtp (by decide))).trans ((va_up_ne _ _ (ne_in hL nr1)).trans ((h1b _ hL (ne_ob hE hEtp (by decide))).trans hE))))) f0 ?_
  refine q_iload_n (j := 2) C dX11_feedFour_11 rfl ?_
  refine q_iload_n (j := 0) C dX11_feedFour_12 rfl ?_
  refine q_iushr (v := ((Int32.toUInt32 x >>> (Int32.toUInt32 (0 : Int32) &&& Int32.toUInt32 31)).toInt32)) C dX11_feedFour_13 rfl ?_
  refine q_sipush (v := 255) C dX11_feedFour_14 (by decide) ?_
  refine q_iand (v := (((Int32.toUInt32 x >>> (Int32.toUInt32 (0 : Int32) &&& Int32.toUInt32 31)).toInt32) &&& (255 : Int32))) C dX11_feedFour_17 rfl ?_
  refine q_callV (d2 := 0) (mc2 := 0) (ms2 := 0) (As := [.int (((Int32.toUInt32 x >>> (Int32.toUInt32 (0 : Int32) &&& Int32.toUInt32 31)).toInt32) &&& (255 : Int32))]) (rest := []) C (c_add0 (f := (va_up (va_up fh1 2 (.int (nI (17 + 1)))) 2 (.int (nI (17 + 1 + 1))))) (k := 17 + 1 + 1) (n := 32) (((Int32.toUInt32 x >>> (Int32.toUInt32 (0 : Int32) &&& Int32.toUInt32 31)).toInt32) &&& (255 : Int32)) (List.mem_append_left _ hLtp) (va_up_self _ _ _) h10 h11 (by decide) (by decide) rfl (List.mem_append_right _ (List.mem_singleton.mpr rfl)) ((va_up_ne _ _ (Ne.symm (ne_in hLtp nr1))).trans (va_up_self _ _ _))) dX11_feedFour_18 kV_X11_112 rfl (List.mem_append_left _ hLtp) (va_up_self _ _ _) ck_2 rfl (Nat.le_of_ble_eq_true rfl) ⟨Nat.le_of_ble_eq_true rfl, Nat.le_of_ble_eq_true rfl⟩ ⟨Nat.le_of_ble_eq_true rfl, Nat.le_of_ble_eq_true rfl⟩ (fun vh4 Lh4 Eh4 h4 => ?_)
  obtain ⟨rfl, rfl, gh4, rfl⟩ := h4
  refine q_st (st2 := []) rfl ?_
  refine q_iinc (j := 0) (v := (-8)) (lv2 := [(2, .int (-8)), (0, .ref h0), (1, .int x)]) C dX11_feedFour_21 rfl (by decide) (by decide) rfl ?_
  refine q_goto (tgt := 3) C dX11_feedFour_24 (by decide) ?_
  refine q_iload_n (j := 0) C dX11_feedFour_3 rfl ?_
  refine q_if_lt (tgt := 27) C dX11_feedFour_4 (by decide) (fun _ => ?_) (fun z => absurd (by decide) z)
  exact q_vret C dX11_feedFour_27 rfl (Nat.le_of_ble_eq_true rfl) (Nat.le_of_ble_eq_true rfl) ⟨rfl, (List.mem_append_left _ hL), _, ((va_up_ne _ _ (ne_ob hE hEtp (by decide))).trans ((va_up_ne _ _ (ne_in hL nr1)).trans ((va_up_ne _ _ (ne_ob hE hEtp (by decide))).trans ((va_up_ne _ _ (ne_in hL nr1)).trans ((va_up_ne _ _ (ne_ob hE hEtp (by decide))).trans ((va_up_ne _ _ (ne_in hL nr1)).trans ((h1b _ hL (ne_ob hE hEtp (by decide))).trans hE))))))), f0, _, (va_up_self _ _ _), rfl, (List.mem_append_left _ hLtp)⟩
set_option maxHeartbeats 4000000 in
set_option maxRecDepth 100000 in
theorem x_feed {l : Launch} {G : GT} {L : List Nat} {E : Nat → va_E} (a b c1 d1 e1 : Int32)  {h0 tp qt : Nat} {f ft fh : Nat → Value} (hL : h0 ∈ L) (hE : E h0 = ob 12 19 f) (f0 : f 0 = .ref tp) (hLtp : tp ∈ L) (hEtp : E tp = ob 2 3 ft) (ft0 : ft 0 = .int 3000) (ft1 : ft 1 = .ref qt) (ft2 : ft 2 = .int 0) (hLqt : qt ∈ L) (hEqt : E qt = aI G 16 (fun _ => 0)) (fh2 : fh 2 = .int 0) : Mq l G yX11_feed cX11_feed 6 (some .int) 6 [.ref h0, .int a, .int b, .int c1, .int d1, .int e1] L E 1 32 (fun v L2 E2 => v = some (.int 20)) := by
  refine Mq.mk (by decide) (Nat.le_of_ble_eq_true rfl) ?_
  intro p e s m args below meth c A C
  refine q_aload_n (j := 0) C dX11_feed_0 rfl ?_
  refine q_get (k := 0) (v := .ref tp) C ck_12 dX11_feed_1 w2_44 (by decide) hL hE f0 ?_
  refine q_get (k := 2) (v := .int 0) C ck_2 dX11_feed_4 w1_44 (by decide) hLtp hEtp ft2 ?_
  refine q_bipush (v := 20) C dX11_feed_7 (by decide) ?_
  refine q_iadd (v := 20) C dX11_feed_9 (by decide) ?_
  refine q_sipush (v := 3000) C dX11_feed_10 (by decide) ?_
  refine q_icmp_le (tgt := 23) C dX11_feed_13 (by decide) (fun _ => ?_) (fun z => absurd (by decide) z)
  refine q_aload_n (j := 0) C dX11_feed_23 rfl ?_
  refine q_iload_n (j := 1) C dX11_feed_24 rfl ?_
  refine q_callV (d2 := 4) (mc2 := 0) (ms2 := 0) (As := [.int a]) (rest := []) C (h_feed4 a (k := 0) (n := 16) (by decide) (by decide) hL hE f0 hLtp hEtp ft0 ft1 ft2 hLqt hEqt) dX11_feed_25 kV_X11_106 rfl hL hE ck_12 rfl (Nat.le_of_ble_eq_true rfl) ⟨Nat.le_of_ble_eq_true rfl, Nat.le_of_ble_eq_true rfl⟩ ⟨Nat.le_of_ble_eq_true rfl, Nat.le_of_ble_eq_true rfl⟩ (fun vh1 Lh1 Eh1 h1 => ?_)
  obtain ⟨rfl, rfl, h1b, fh1, gh1, h1c, h10, h11, h12, h1d⟩ := h1
  refine q_st (st2 := []) rfl ?_
  refine q_aload_n (j := 0) C dX11_feed_28 rfl ?_
  refine q_iload_n (j := 2) C dX11_feed_29 rfl ?_
  refine q_callV (d2 := 4) (mc2 := 0) (ms2 := 0) (As := [.int b]) (rest := []) C (h_feed4 b (k := 4) (n := 16) (by decide) (by decide) hL ((h1b _ hL (ne_ob hE hEtp (by decide)) (ne_oI hE hEqt)).trans hE) f0 hLtp h1c h10 h11 h12 hLqt h1d) dX11_feed_30 kV_X11_106 rfl hL ((h1b _ hL (ne_ob hE hEtp (by decide)) (ne_oI hE hEqt)).trans hE) ck_12 rfl (Nat.le_of_ble_eq_true rfl) ⟨Nat.le_of_ble_eq_true rfl, Nat.le_of_ble_eq_true rfl⟩ ⟨Nat.le_of_ble_eq_true rfl, Nat.le_of_ble_eq_true rfl⟩ (fun vh2 Lh2 Eh2 h2 => ?_)
  obtain ⟨rfl, rfl, h2b, fh2, gh2, h2c, h20, h21, h22, h2d⟩ := h2
  refine q_st (st2 := []) rfl ?_
  refine q_aload_n (j := 0) C dX11_feed_33 rfl ?_
  refine q_iload_n (j := 3) C dX11_feed_34 rfl ?_
  refine q_callV (d2 := 4) (mc2 := 0) (ms2 := 0) (As := [.int c1]) (rest := []) C (h_feed4 c1 (k := 8) (n := 16) (by decide) (by decide) hL ((h2b _ hL (ne_ob hE hEtp (by decide)) (ne_oI hE hEqt)).trans ((h1b _ hL (ne_ob hE hEtp (by decide)) (ne_oI hE hEqt)).trans hE)) f0 hLtp h2c h20 h21 h22 hLqt h2d) dX11_feed_35 kV_X11_106 rfl hL ((h2b _ hL (ne_ob hE hEtp (by decide)) (ne_oI hE hEqt)).trans ((h1b _ hL (ne_ob hE hEtp (by decide)) (ne_oI hE hEqt)).trans hE)) ck_12 rfl (Nat.le_of_ble_eq_true rfl) ⟨Nat.le_of_ble_eq_true rfl, Nat.le_of_ble_eq_true rfl⟩ ⟨Nat.le_of_ble_eq_true rfl, Nat.le_of_ble_eq_true rfl⟩ (fun vh3 Lh3 Eh3 h3 => ?_)
  obtain ⟨rfl, rfl, h3b, fh3, gh3, h3c, h30, h31, h32, h3d⟩ := h3
  refine q_st (st2 := []) rfl ?_
  refine q_aload_n (j := 0) C dX11_feed_38 rfl ?_
  refine q_iload (j := 4) C dX11_feed_39 rfl ?_
  refine q_callV (d2 := 4) (mc2 := 0) (ms2 := 0) (As := [.int d1]) (rest := []) C (h_feed4 d1 (k := 12) (n := 16) (by decide) (by decide) hL ((h3b _ hL (ne_ob hE hEtp (by decide)) (ne_oI hE hEqt)).trans ((h2b _ hL (ne_ob hE hEtp (by decide)) (ne_oI hE hEqt)).trans ((h1b _ hL (ne_ob hE hEtp (by decide)) (ne_oI hE hEqt)).trans hE))) f0 hLtp h3c h30 h31 h32 hLqt h3d) dX11_feed_41 kV_X11_106 rfl hL ((h3b _ hL (ne_ob hE hEtp (by decide)) (ne_oI hE hEqt)).trans ((h2b _ hL (ne_ob hE hEtp (by decide)) (ne_oI hE hEqt)).trans ((h1b _ hL (ne_ob hE hEtp (by decide)) (ne_oI hE hEqt)).trans hE))) ck_12 rfl (Nat.le_of_ble_eq_true rfl) ⟨Nat.le_of_ble_eq_true rfl, Nat.le_of_ble_eq_true rfl⟩ ⟨Nat.le_of_ble_eq_true rfl, Nat.le_of_ble_eq_true rfl⟩ (fun vh4 Lh4 Eh4 h4 => ?_)
  obtain ⟨rfl, rfl, h4b, fh4, gh4, h4c, h40, h41, h42, h4d⟩ := h4
  refine q_st (st2 := []) rfl ?_
  refine q_aload_n (j := 0) C dX11_feed_44 rfl ?_
  refine q_iload (j := 5) C dX11_feed_45 rfl ?_
  refine q_callV (d2 := 4) (mc2 := 1) (ms2 := 32) (As := [.int e1]) (rest := []) C (h_feed4g e1 hL ((h4b _ hL (ne_ob hE hEtp (by decide)) (ne_oI hE hEqt)).trans ((h3b _ hL (ne_ob hE hEtp (by decide)) (ne_oI hE hEqt)).trans ((h2b _ hL (ne_ob hE hEtp (by decide)) (ne_oI hE hEqt)).trans ((h1b _ hL (ne_ob hE hEtp (by decide)) (ne_oI hE hEqt)).trans hE)))) f0 hLtp h4c h40 h41 h42 hLqt h4d) dX11_feed_47 kV_X11_106 rfl hL ((h4b _ hL (ne_ob hE hEtp (by decide)) (ne_oI hE hEqt)).trans ((h3b _ hL (ne_ob hE hEtp (by decide)) (ne_oI hE hEqt)).trans ((h2b _ hL (ne_ob hE hEtp (by decide)) (ne_oI hE hEqt)).trans ((h1b _ hL (ne_ob hE hEtp (by decide)) (ne_oI hE hEqt)).trans hE)))) ck_12 rfl (Nat.le_of_ble_eq_true rfl) ⟨Nat.le_of_ble_eq_true rfl, Nat.le_of_ble_eq_true rfl⟩ ⟨Nat.le_of_ble_eq_true rfl, Nat.le_of_ble_eq_true rfl⟩ (fun vh5 Lh5 Eh5 h5 => ?_)
  obtain ⟨rfl, lh5, fh5, h5c, h50, kh5, h5d, h52, mh5⟩ := h5
  refine q_st (st2 := []) rfl ?_
  refine q_aload_n (j := 0) C dX11_feed_50 rfl ?_
  refine q_aload_n (j := 0) C dX11_feed_51 rfl ?_
  refine q_get (k := 0) (v := .ref tp) C ck_12 dX11_feed_52 w2_44 (by decide) lh5 h5c h50 ?_
  refine q_get (k := 2) (v := .int (nI 20)) C ck_2 dX11_feed_55 w1_44 (by decide) mh5 h5d h52 ?_
  refine q_callV (d2 := 0) (mc2 := 0) (ms2 := 0) (As := [.int (nI 20)]) (rest := []) C (c_done (nI 20) lh5 h5c) dX11_feed_58 kV_X11_109 rfl lh5 h5c ck_12 rfl (Nat.le_of_ble_eq_true rfl) ⟨Nat.le_of_ble_eq_true rfl, Nat.le_of_ble_eq_true rfl⟩ ⟨Nat.le_of_ble_eq_true rfl, Nat.le_of_ble_eq_true rfl⟩ (fun vh6 Lh6 Eh6 h6 => ?_)
  obtain ⟨rfl, rfl, rfl⟩ := h6
  refine q_st (st2 := [.int (nI 20)]) rfl ?_
  exact q_iret C dX11_feed_61 rfl (Nat.le_of_ble_eq_true rfl) (Nat.le_of_ble_eq_true rfl) rfl
set_option maxHeartbeats 4000000 in
set_option maxRecDepth 100000 in
theorem c_grow1 {l : Launch} {G : GT} {L : List Nat} {E : Nat → va_E} {a : Nat} {f : Nat → Value} {m0 : Int32} (hL : a ∈ L) (hE : E a = ob 0 3 f) (h0 : f 0 = .int m0) (h1 : f 1 = .ref (g0 G)) (h2 : f 2 = .int 0) : Mq l G yJx4a65c_grow_92f84 cJx4a65c_grow_92f84 4 (some (.array (.object "java/lang/Object"))) 1 [.ref a, .int 1] L E 1 10 (fun v L2 E2 => ∃ q2, v = some (.ref q2) ∧ q2 ∉ L ∧ L2 = L ++ [q2] ∧ (∀ b ∈ L, b ≠ a → E2 b = E b) ∧ E2 q2 = aO G 10 (fun _ => none) ∧ E2 a = ob 0 3 (va_up f 1 (.ref q2))) := by
  refine Mq.mk (by decide) (Nat.le_of_ble_eq_true rfl) ?_
  intro p e s m args below meth c A C
  refine q_aload_n (j := 0) C dJx4a65c_grow_92f84_0 rfl ?_
  refine q_get (k := 1) (v := .ref (g0 G)) C ck_0 dJx4a65c_grow_92f84_1 w1_78 (by decide) hL hE h1 ?_
  refine q_tlen C dJx4a65c_grow_92f84_4 ?_
  refine q_istore_n (lv2 := [(2, .int 0), (0, .ref a), (1, .int 1)]) C dJx4a65c_grow_92f84_5 (by decide) rfl ?_
  refine q_iload_n (j := 0) C dJx4a65c_grow_92f84_6 rfl ?_
  refine q_if_gt (tgt := 20) C dJx4a65c_grow_92f84_7 (by decide) (fun z => absurd z (by decide)) (fun _ => ?_)
  refine q_aload_n (j := 1) C dJx4a65c_grow_92f84_10 rfl ?_
  refine q_get (k := 1) (v := .ref (g0 G)) C ck_0 dJx4a65c_grow_92f84_11 w1_78 (by decide) hL hE h1 ?_
  refine q_gets C dJx4a65c_grow_92f84_14 w1_76 ?_
  refine q_acmp_eq (rx := (some (g0 G))) (ry := (some (g0 G))) (tgt := 45) C dJx4a65c_grow_92f84_17 (by decide) (fun _ => ?_) (fun z => absurd rfl z)
  refine q_aload_n (j := 1) C dJx4a65c_grow_92f84_45 rfl ?_
  refine q_bipush (v := 10) C dJx4a65c_grow_92f84_46 (by decide) ?_
  refine q_iload_n (j := 2) C dJx4a65c_grow_92f84_48 rfl ?_
  refine q_mmax (v := 10) C dJx4a65c_grow_92f84_49 w3_32 w2_148 w1_14 w2_149 ⟨Nat.le_of_ble_eq_true rfl, Nat.le_of_ble_eq_true rfl⟩ ⟨Nat.le_of_ble_eq_true rfl, Nat.le_of_ble_eq_true rfl⟩ (Nat.le_of_ble_eq_true rfl) (by decide) ?_
  refine q_newqO (N := 10) C dJx4a65c_grow_92f84_52 w3_33 w3_30t (by decide) (by decide) (by decide) ⟨Nat.le_of_ble_eq_true rfl, Nat.le_of_ble_eq_true rfl⟩ (fun q1 nq1 => ?_)
  have ne_a_q1 : a ≠ q1 := (ne_in hL nq1)
  refine q_dup_x1 C dJx4a65c_grow_92f84_55 rfl rfl ?_
  refine q_put (k := 1) C ck_0 dJx4a65c_grow_92f84_56 w1_78 (by decide) rfl (List.mem_append_left _ hL) ((va_up_ne _ _ ne_a_q1).trans hE) rfl rfl ?_
  exact q_aret C dJx4a65c_grow_92f84_59 rfl (Or.inr ⟨_, rfl⟩) (Or.inr ⟨_, rfl⟩) (Nat.le_of_ble_eq_true rfl) (Nat.le_of_ble_eq_true rfl) ⟨q1, rfl, nq1, rfl, (fun aa haa naa => ((va_up_ne _ _ naa).trans ((va_up_ne _ _ (ne_in haa nq1)).trans rfl))), ((va_up_ne _ _ (Ne.symm ne_a_q1)).trans (va_up_self _ _ _)), (va_up_self _ _ _)⟩
set_option maxHeartbeats 4000000 in
set_option maxRecDepth 100000 in
theorem c_grow0 {l : Launch} {G : GT} {L : List Nat} {E : Nat → va_E} {a : Nat} {f : Nat → Value} {m0 : Int32} (hL : a ∈ L) (hE : E a = ob 0 3 f) (h0 : f 0 = .int m0) (h1 : f 1 = .ref (g0 G)) (h2 : f 2 = .int 0) : Mq l G yJx4a65c_grow_d5877 cJx4a65c_grow_d5877 1 (some (.array (.object "java/lang/Object"))) 2 [.ref a] L E 1 10 (fun v L2 E2 => ∃ q2, v = some (.ref q2) ∧ q2 ∉ L ∧ L2 = L ++ [q2] ∧ (∀ b ∈ L, b ≠ a → E2 b = E b) ∧ E2 q2 = aO G 10 (fun _ => none) ∧ E2 a = ob 0 3 (va_up f 1 (.ref q2))) := by
  refine Mq.mk (by decide) (Nat.le_of_ble_eq_true rfl) ?_
  intro p e s m args below meth c A C
  refine q_aload_n (j := 0) C dJx4a65c_grow_d5877_0 rfl ?_
  refine q_aload_n (j := 0) C dJx4a65c_grow_d5877_1 rfl ?_
  refine q_get (k := 2) (v := .int 0) C ck_0 dJx4a65c_grow_d5877_2 w1_79 (by decide) hL hE h2 ?_
  refine q_iconst (v := 1) C dJx4a65c_grow_d5877_5 (by decide) ?_
  refine q_iadd (v := 1) C dJx4a65c_grow_d5877_6 (by decide) ?_
  refine q_callV (d2 := 1) (mc2 := 1) (ms2 := 10) (As := [.int 1]) (rest := []) C (c_grow1 (f := f) hL hE h0 h1 h2) dJx4a65c_grow_d5877_7 kV_Jx4a65c_69 rfl hL hE ck_0 rfl (Nat.le_of_ble_eq_true rfl) ⟨Nat.le_of_ble_eq_true rfl, Nat.le_of_ble_eq_true rfl⟩ ⟨Nat.le_of_ble_eq_true rfl, Nat.le_of_ble_eq_true rfl⟩ (fun vh1 Lh1 Eh1 h1 => ?_)
  obtain ⟨r1, rfl, nr1, rfl, h1b, h1c, h1d⟩ := h1
  refine q_st (st2 := [.ref r1]) rfl ?_
  exact q_aret C dJx4a65c_grow_d5877_10 rfl (Or.inr ⟨_, rfl⟩) (Or.inr ⟨_, rfl⟩) (Nat.le_of_ble_eq_true rfl) (Nat.le_of_ble_eq_true rfl) ⟨r1, rfl, nr1, rfl, (fun aa haa naa => ((h1b _ haa naa).trans rfl)), h1c, h1d⟩
set_option maxHeartbeats 4000000 in
set_option maxRecDepth 100000 in
theorem c_al_add3 {l : Launch} {G : GT} {L : List Nat} {E : Nat → va_E} {a : Nat} {f : Nat → Value} {m0 : Int32} (hL : a ∈ L) (hE : E a = ob 0 3 f) (h0 : f 0 = .int m0) (h1 : f 1 = .ref (g0 G)) (h2 : f 2 = .int 0) {b ci N : Nat} {Cn : String} {T : u_T} {ty : Nat → FieldType} {fb : Nat → Value} (ck : Ck ci Cn T N ty) (hc : Cond.castable Cn "java/lang/Object" ∈ lw_tbl) (hLb : b ∈ L) (hEb : E b = ob ci N fb) (hab : b ≠ a) : Mq l G yJx4a65c_add_72be8 cJx4a65c_add_72be8 4 none 3 [.ref a, .ref b, .ref (g0 G), .int 0] L E 1 10 (fun v L2 E2 => v = none ∧ (∀ c ∈ L, c ∈ L2) ∧ (∀ c ∈ L, c ≠ a → E2 c = E c) ∧ ∃ f2, E2 a = ob 0 3 f2 ∧ f2 2 = .int 1) := by
  refine Mq.mk (by decide) (Nat.le_of_ble_eq_true rfl) ?_
  intro p e s m args below meth c A C
  refine q_iload_n (j := 3) C dJx4a65c_add_72be8_0 rfl ?_
  refine q_aload_n (j := 2) C dJx4a65c_add_72be8_1 rfl ?_
  refine q_tlen C dJx4a65c_add_72be8_2 ?_
  refine q_icmp_ne (tgt := 11) C dJx4a65c_add_72be8_3 (by decide) (fun z => absurd (by decide) z) (fun _ => ?_)
  refine q_aload_n (j := 0) C dJx4a65c_add_72be8_6 rfl ?_
  refine q_callV (d2 := 2) (mc2 := 1) (ms2 := 10) (As := []) (rest := []) C (c_grow0 (f := f) hL hE h0 h1 h2) dJx4a65c_add_72be8_7 kV_Jx4a65c_129 rfl hL hE ck_0 rfl (Nat.le_of_ble_eq_true rfl) ⟨Nat.le_of_ble_eq_true rfl, Nat.le_of_ble_eq_true rfl⟩ ⟨Nat.le_of_ble_eq_true rfl, Nat.le_of_ble_eq_true rfl⟩ (fun vh1 Lh1 Eh1 h1 => ?_)
  obtain ⟨r1, rfl, nr1, rfl, h1b, h1c, h1d⟩ := h1
  refine q_st (st2 := [.ref r1]) rfl ?_
  refine q_astore_n (lv2 := [(2, .ref r1), (0, .ref a), (1, .ref b), (3, .int 0)]) C dJx4a65c_add_72be8_10 (by decide) rfl ?_
  refine q_aload_n (j := 0) C dJx4a65c_add_72be8_11 rfl ?_
  refine q_iload_n (j := 3) C dJx4a65c_add_72be8_12 rfl ?_
  refine q_aload_n (j := 2) C dJx4a65c_add_72be8_13 rfl ?_
  refine q_aastO C ck dJx4a65c_add_72be8_14 hc (List.mem_append_right _ (List.mem_singleton.mpr rfl)) h1c (List.mem_append_left _ hLb) ((h1b _ hLb hab).trans hEb) (by unfold vp_in; decide) ?_
  refine q_aload_n (j := 1) C dJx4a65c_add_72be8_15 rfl ?_
  refine q_iload_n (j := 3) C dJx4a65c_add_72be8_16 rfl ?_
  refine q_iconst (v := 1) C dJx4a65c_add_72be8_17 (by decide) ?_
  refine q_iadd (v := 1) C dJx4a65c_add_72be8_18 (by decide) ?_
  refine q_put (k := 2) C ck_0 dJx4a65c_add_72be8_19 w1_79 (by decide) rfl (List.mem_append_left _ hL) ((va_up_ne _ _ (ne_in hL nr1)).trans h1d) rfl rfl ?_
  exact q_vret C dJx4a65c_add_72be8_22 rfl (Nat.le_of_ble_eq_true rfl) (Nat.le_of_ble_eq_true rfl) ⟨rfl, (fun aa haa => (List.mem_append_left _ haa)), (fun aa haa naa => ((va_up_ne _ _ naa).trans ((va_up_ne _ _ (ne_in haa nr1)).trans ((h1b _ haa naa).trans rfl)))), _, (va_up_self _ _ _), rfl⟩
set_option maxHeartbeats 4000000 in
set_option maxRecDepth 100000 in
theorem c_al_add {l : Launch} {G : GT} {L : List Nat} {E : Nat → va_E} {a : Nat} {f : Nat → Value} {m0 : Int32} (hL : a ∈ L) (hE : E a = ob 0 3 f) (h0 : f 0 = .int m0) (h1 : f 1 = .ref (g0 G)) (h2 : f 2 = .int 0) {b ci N : Nat} {Cn : String} {T : u_T} {ty : Nat → FieldType} {fb : Nat → Value} (ck : Ck ci Cn T N ty) (hc : Cond.castable Cn "java/lang/Object" ∈ lw_tbl) (hLb : b ∈ L) (hEb : E b = ob ci N fb) (hab : b ≠ a) : Mq l G yJx4a65c_add_9ea2d cJx4a65c_add_9ea2d 2 (some .boolean) 4 [.ref a, .ref b] L E 1 10 (fun v L2 E2 => v = some (.int 1) ∧ (∀ c ∈ L, c ∈ L2) ∧ (∀ c ∈ L, c ≠ a → E2 c = E c) ∧ ∃ f2, E2 a = ob 0 3 f2 ∧ f2 2 = .int 1) := by
  refine Mq.mk (by decide) (Nat.le_of_ble_eq_true rfl) ?_
  intro p e s m args below meth c A C
  refine q_aload_n (j := 0) C dJx4a65c_add_9ea2d_0 rfl ?_
  refine q_dup C dJx4a65c_add_9ea2d_1 rfl ?_
  refine q_getU (k := 0) (v := .int m0) C ck_0 dJx4a65c_add_9ea2d_2 w1_81 w1_82 (by decide) hL hE h0 ?_
  refine q_iconst (v := 1) C dJx4a65c_add_9ea2d_5 (by decide) ?_
  refine q_iadd (v := (m0 + (1 : Int32))) C dJx4a65c_add_9ea2d_6 rfl ?_
  refine q_putU (k := 0) C ck_0 dJx4a65c_add_9ea2d_7 w1_81 w1_82 (by decide) rfl hL hE rfl rfl ?_
  refine q_aload_n (j := 0) C dJx4a65c_add_9ea2d_10 rfl ?_
  refine q_aload_n (j := 1) C dJx4a65c_add_9ea2d_11 rfl ?_
  refine q_aload_n (j := 0) C dJx4a65c_add_9ea2d_12 rfl ?_
  refine q_get (k := 1) (v := .ref (g0 G)) C ck_0 dJx4a65c_add_9ea2d_13 w1_78 (by decide) hL (va_up_self _ _ _) h1 ?_
  refine q_aload_n (j := 0) C dJx4a65c_add_9ea2d_16 rfl ?_
  refine q_get (k := 2) (v := .int 0) C ck_0 dJx4a65c_add_9ea2d_17 w1_79 (by decide) hL (va_up_self _ _ _) h2 ?_
  refine q_callV (d2 := 3) (mc2 := 1) (ms2 := 10) (As := [.ref b, .ref (g0 G), .int 0]) (rest := []) C (c_al_add3 (f := (va_up f 0 (.int (m0 + (1 : Int32))))) hL (va_up_self _ _ _) rfl h1 h2 ck hc hLb ((va_up_ne _ _ hab).trans hEb) hab) dJx4a65c_add_9ea2d_20 kV_Jx4a65c_131 rfl hL (va_up_self _ _ _) ck_0 rfl (Nat.le_of_ble_eq_true rfl) ⟨Nat.le_of_ble_eq_true rfl, Nat.le_of_ble_eq_true rfl⟩ ⟨Nat.le_of_ble_eq_true rfl, Nat.le_of_ble_eq_true rfl⟩ (fun vh1 Lh1 Eh1 h1 => ?_)
  obtain ⟨rfl, h1a, h1b, fh1, h1c, h12⟩ := h1
  have et1 := (h1b _ hLb hab).trans ((va_up_ne _ _ hab).trans hEb)
  have lt1 := h1a _ hLb
  refine q_st (st2 := []) rfl ?_
  refine q_iconst (v := 1) C dJx4a65c_add_9ea2d_23 (by decide) ?_
  exact q_zret C dJx4a65c_add_9ea2d_24 rfl (by decide) (Nat.le_of_ble_eq_true rfl) (Nat.le_of_ble_eq_true rfl) ⟨rfl, (fun aa haa => (h1a _ haa)), (fun aa haa naa => ((h1b _ haa naa).trans ((va_up_ne _ _ naa).trans rfl))), _, h1c, h12⟩
set_option maxHeartbeats 4000000 in
set_option maxRecDepth 100000 in
theorem c_Table_init {l : Launch} {G : GT} {L : List Nat} {E : Nat → va_E} {h0 : Nat} {f : Nat → Value} (kd ds : Int32) (hL : h0 ∈ L) (hE : E h0 = ob 10 8 f) : Mq l G yX9_init cX9_init 5 none 4 [.ref h0, .int kd, .int ds, .null, .null] L E 4 26 (fun v L2 E2 => v = none ∧ (∀ a ∈ L, a ∈ L2) ∧ (∀ a ∈ L, a ≠ h0 → E2 a = E a) ∧ ∃ g, E2 h0 = ob 10 8 g) := by
  refine Mq.mk (by decide) (Nat.le_of_ble_eq_true rfl) ?_
  intro p e s m args below meth c A C
  refine q_aload_n (j := 0) C dX9_init_0 rfl ?_
  refine q_objInit C dX9_init_1 w2_167 w1_30 w1_31 ⟨Nat.le_of_ble_eq_true rfl, Nat.le_of_ble_eq_true rfl⟩ (Nat.le_of_ble_eq_true rfl) ?_
  refine q_aload_n (j := 0) C dX9_init_4 rfl ?_
  refine q_new C ck_0 dX9_init_5 w2_168 w1_65 w1_6 ⟨Nat.le_of_ble_eq_true rfl, Nat.le_of_ble_eq_true rfl⟩ (fun q1 nq1 => ?_)
  have ne_h0_q1 : h0 ≠ q1 := (ne_in hL nq1)
  refine q_dup C dX9_init_8 rfl ?_
  refine q_callI (d2 := 3) (mc2 := 0) (ms2 := 0) (As := []) (rest := [.ref q1, .ref h0]) C (c_ArrayList_init (List.mem_append_right _ (List.mem_singleton.mpr rfl)) (va_up_self _ _ _)) dX9_init_9 kI_X9_11 rfl rfl (Nat.le_of_ble_eq_true rfl) ⟨Nat.le_of_ble_eq_true rfl, Nat.le_of_ble_eq_true rfl⟩ ⟨Nat.le_of_ble_eq_true rfl, Nat.le_of_ble_eq_true rfl⟩ (fun vh1 Lh1 Eh1 h1 => ?_)
  obtain ⟨rfl, h1a, h1b, h1c⟩ := h1
  have et1 := (h1b _ (List.mem_append_left _ hL) ne_h0_q1).trans ((va_up_ne _ _ ne_h0_q1).trans hE)
  have lt1 := h1a _ (List.mem_append_left _ hL)
  refine q_st (st2 := [.ref q1, .ref h0]) rfl ?_
  refine q_putF (k := 4) C ck_10 dX9_init_12 w2_186 (by decide) rfl rfl rfl lt1 et1 rfl rfl ?_
  refine q_aload_n (j := 0) C dX9_init_15 rfl ?_
  refine q_new C ck_2 dX9_init_16 w2_170 w1_33 w1_2 ⟨Nat.le_of_ble_eq_true rfl, Nat.le_of_ble_eq_true rfl⟩ (fun q2 nq2 => ?_)
  have ne_h0_q2 : h0 ≠ q2 := (ne_in lt1 nq2)
  have ne_q1_q2 : q1 ≠ q2 := (ne_in (h1a _ (List.mem_append_right _ (List.mem_singleton.mpr rfl))) nq2)
  refine q_dup C dX9_init_19 rfl ?_
  refine q_sipush (v := 200) C dX9_init_20 (by decide) ?_
  refine q_callI (d2 := 1) (mc2 := 1) (ms2 := 16) (As := [.int 200]) (rest := [.ref q2, .ref h0]) C (c_Ints_init 200 (List.mem_append_right _ (List.mem_singleton.mpr rfl)) (va_up_self _ _ _)) dX9_init_23 kI_X9_20 rfl rfl (Nat.le_of_ble_eq_true rfl) ⟨Nat.le_of_ble_eq_true rfl, Nat.le_of_ble_eq_true rfl⟩ ⟨Nat.le_of_ble_eq_true rfl, Nat.le_of_ble_eq_true rfl⟩ (fun vh2 Lh2 Eh2 h2 => ?_)
  obtain ⟨rfl, h2a, h2b, r1, gr1, nr1, lr1, h2c, h20, h21, h22, h2d⟩ := h2
  have et2 := (h2b _ (List.mem_append_left _ lt1) ne_h0_q2).trans ((va_up_ne _ _ ne_h0_q2).trans (va_up_self _ _ _))
  have lt2 := h2a _ (List.mem_append_left _ lt1)
  have et3 := (h2b _ (List.mem_append_left _ (h1a _ (List.mem_append_right _ (List.mem_singleton.mpr rfl)))) ne_q1_q2).trans ((va_up_ne _ _ ne_q1_q2).trans ((va_up_ne _ _ (Ne.symm ne_h0_q1)).trans h1c))
  have lt3 := h2a _ (List.mem_append_left _ (h1a _ (List.mem_append_right _ (List.mem_singleton.mpr rfl))))
  refine q_st (st2 := [.ref q2, .ref h0]) rfl ?_
  refine q_putF (k := 5) C ck_10 dX9_init_26 w2_190 (by decide) rfl rfl rfl lt2 et2 rfl rfl ?_
  refine q_aload_n (j := 0) C dX9_init_29 rfl ?_
  refine q_iconst (v := 4) C dX9_init_30 (by decide) ?_
  refine q_newqR (N := 4) C dX9_init_31 w2_172 w2_173t (by decide) (by decide) (by decide) ⟨Nat.le_of_ble_eq_true rfl, Nat.le_of_ble_eq_true rfl⟩ (fun q3 nq3 => ?_)
  have ne_h0_q3 : h0 ≠ q3 := (ne_in lt2 nq3)
  have ne_q1_q3 : q1 ≠ q3 := (ne_in lt3 nq3)
  have ne_q2_q3 : q2 ≠ q3 := (ne_in (h2a _ (List.mem_append_right _ (List.mem_singleton.mpr rfl))) nq3)
  have ne_r1_q3 : r1 ≠ q3 := (ne_in lr1 nq3)
  refine q_putF (k := 6) C ck_10 dX9_init_34 w2_192 (by decide) rfl rfl rfl (List.mem_append_left _ lt2) ((va_up_ne _ _ ne_h0_q3).trans (va_up_self _ _ _)) rfl rfl ?_
  refine q_aload_n (j := 0) C dX9_init_37 rfl ?_
  refine q_iconst (v := 0) C dX9_init_38 (by decide) ?_
  refine q_put (k := 7) C ck_10 dX9_init_39 w2_197 (by decide) rfl (List.mem_append_left _ lt2) (va_up_self _ _ _) (by decide) rfl ?_
  refine q_aload_n (j := 0) C dX9_init_42 rfl ?_
  refine q_iload_n (j := 1) C dX9_init_43 rfl ?_
  refine q_putF (k := 0) C ck_10 dX9_init_44 w2_174 (by decide) rfl rfl rfl (List.mem_append_left _ lt2) (va_up_self _ _ _) rfl rfl ?_
  refine q_aload_n (j := 0) C dX9_init_47 rfl ?_
  refine q_iload_n (j := 2) C dX9_init_48 rfl ?_
  refine q_putF (k := 1) C ck_10 dX9_init_49 w2_178 (by decide) rfl rfl rfl (List.mem_append_left _ lt2) (va_up_self _ _ _) rfl rfl ?_
  refine q_aload_n (j := 0) C dX9_init_52 rfl ?_
  refine q_aload_nN (j := 3) C dX9_init_53 rfl ?_
  refine q_putF (k := 2) C ck_10 dX9_init_54 w2_180 (by decide) rfl rfl rfl (List.mem_append_left _ lt2) (va_up_self _ _ _) rfl rfl ?_
  refine q_aload_n (j := 0) C dX9_init_57 rfl ?_
  refine q_aloadN (j := 4) C dX9_init_58 rfl ?_
  refine q_putF (k := 3) C ck_10 dX9_init_60 w2_183 (by decide) rfl rfl rfl (List.mem_append_left _ lt2) (va_up_self _ _ _) rfl rfl ?_
  exact q_vret C dX9_init_63 rfl (Nat.le_of_ble_eq_true rfl) (Nat.le_of_ble_eq_true rfl) ⟨rfl, (fun aa haa => (List.mem_append_left _ (h2a _ (List.mem_append_left _ (h1a _ (List.mem_append_left _ haa)))))), (fun aa haa naa => ((va_up_ne _ _ naa).trans ((va_up_ne _ _ naa).trans ((va_up_ne _ _ naa).trans ((va_up_ne _ _ naa).trans ((va_up_ne _ _ naa).trans ((va_up_ne _ _ naa).trans ((va_up_ne _ _ (ne_in (h2a _ (List.mem_append_left _ (h1a _ (List.mem_append_left _ haa)))) nq3)).trans ((va_up_ne _ _ naa).trans ((h2b _ (List.mem_append_left _ (h1a _ (List.mem_append_left _ haa))) (ne_in (h1a _ (List.mem_append_left _ haa)) nq2)).trans ((va_up_ne _ _ (ne_in (h1a _ (List.mem_append_left _ haa)) nq2)).trans ((va_up_ne _ _ naa).trans ((h1b _ (List.mem_append_left _ haa) (ne_in haa nq1)).trans ((va_up_ne _ _ (ne_in haa nq1)).trans rfl)))))))))))))), ⟨_, (va_up_self _ _ _)⟩⟩
set_option maxHeartbeats 4000000 in
set_option maxRecDepth 100000 in
theorem c_Change_init {l : Launch} {G : GT} {L : List Nat} {E : Nat → va_E} {h0 : Nat} {f : Nat → Value} (wh nu : Int32) (tb : Nat) (hL : h0 ∈ L) (hE : E h0 = ob 1 4 f) : Mq l G yX0_init cX0_init 5 none 1 [.ref h0, .int wh, .ref tb, .null, .int nu] L E 0 0 (fun v L2 E2 => v = none ∧ (∀ a ∈ L, a ∈ L2) ∧ (∀ a ∈ L, a ≠ h0 → E2 a = E a) ∧ ∃ g, E2 h0 = ob 1 4 g) := by
  refine Mq.mk (by decide) (Nat.le_of_ble_eq_true rfl) ?_
  intro p e s m args below meth c A C
  refine q_aload_n (j := 0) C dX0_init_0 rfl ?_
  refine q_objInit C dX0_init_1 w3_39 w1_30 w1_31 ⟨Nat.le_of_ble_eq_true rfl, Nat.le_of_ble_eq_true rfl⟩ (Nat.le_of_ble_eq_true rfl) ?_
  refine q_aload_n (j := 0) C dX0_init_4 rfl ?_
  refine q_iload_n (j := 1) C dX0_init_5 rfl ?_
  refine q_putF (k := 0) C ck_1 dX0_init_6 w3_40 (by decide) rfl rfl rfl hL hE rfl rfl ?_
  refine q_aload_n (j := 0) C dX0_init_9 rfl ?_
  refine q_aload_n (j := 2) C dX0_init_10 rfl ?_
  refine q_putF (k := 1) C ck_1 dX0_init_11 w3_42 (by decide) rfl rfl rfl hL (va_up_self _ _ _) rfl rfl ?_
  refine q_aload_n (j := 0) C dX0_init_14 rfl ?_
  refine q_aload_nN (j := 3) C dX0_init_15 rfl ?_
  refine q_putF (k := 2) C ck_1 dX0_init_16 w3_44 (by decide) rfl rfl rfl hL (va_up_self _ _ _) rfl rfl ?_
  refine q_aload_n (j := 0) C dX0_init_19 rfl ?_
  refine q_iload (j := 4) C dX0_init_20 rfl ?_
  refine q_putF (k := 3) C ck_1 dX0_init_22 w3_46 (by decide) rfl rfl rfl hL (va_up_self _ _ _) rfl rfl ?_
  exact q_vret C dX0_init_25 rfl (Nat.le_of_ble_eq_true rfl) (Nat.le_of_ble_eq_true rfl) ⟨rfl, (fun aa haa => haa), (fun aa haa naa => ((va_up_ne _ _ naa).trans ((va_up_ne _ _ naa).trans ((va_up_ne _ _ naa).trans ((va_up_ne _ _ naa).trans rfl))))), ⟨_, (va_up_self _ _ _)⟩⟩
set_option maxHeartbeats 4000000 in
set_option maxRecDepth 100000 in
theorem c_remember {l : Launch} {G : GT} {L : List Nat} {E : Nat → va_E} {a ch b : Nat} {f fc fb : Nat → Value} (hL : a ∈ L) (hE : E a = ob 11 2 f) (h1 : f 1 = .ref ch) (hLc : ch ∈ L) (hEc : E ch = ob 0 3 fc) (k0 : fc 0 = .int 0) (k1 : fc 1 = .ref (g0 G)) (k2 : fc 2 = .int 0) (hLb : b ∈ L) (hEb : E b = ob 1 4 fb) : Mq l G yX10_remember cX10_remember 2 none 5 [.ref a, .ref b] L E 1 10 (fun v L2 E2 => v = none ∧ (∀ c ∈ L, c ∈ L2) ∧ (∀ c ∈ L, c ≠ ch → E2 c = E c)) := by
  refine Mq.mk (by decide) (Nat.le_of_ble_eq_true rfl) ?_
  intro p e s m args below meth c A C
  refine q_aload_n (j := 0) C dX10_remember_0 rfl ?_
  refine q_get (k := 1) (v := .ref ch) C ck_11 dX10_remember_1 w1_91 (by decide) hL hE h1 ?_
  refine q_callV (d2 := 0) (mc2 := 0) (ms2 := 0) (As := []) (rest := []) C (c_al_size hLc hEc k2) dX10_remember_4 kV_X10_21 rfl hLc hEc ck_0 rfl (Nat.le_of_ble_eq_true rfl) ⟨Nat.le_of_ble_eq_true rfl, Nat.le_of_ble_eq_true rfl⟩ ⟨Nat.le_of_ble_eq_true rfl, Nat.le_of_ble_eq_true rfl⟩ (fun vh1 Lh1 Eh1 h1 => ?_)
  obtain ⟨rfl, rfl, rfl⟩ := h1
  refine q_st (st2 := [.int 0]) rfl ?_
  refine q_sipush (v := 512) C dX10_remember_7 (by decide) ?_
  refine q_icmp_lt (tgt := 22) C dX10_remember_10 (by decide) (fun _ => ?_) (fun z => absurd (by decide) z)
  refine q_aload_n (j := 0) C dX10_remember_22 rfl ?_
  refine q_get (k := 1) (v := .ref ch) C ck_11 dX10_remember_23 w1_91 (by decide) hL hE h1 ?_
  refine q_aload_n (j := 1) C dX10_remember_26 rfl ?_
  refine q_callV (d2 := 4) (mc2 := 1) (ms2 := 10) (As := [.ref b]) (rest := []) C (c_al_add (f := fc) hLc hEc k0 k1 k2 ck_1 w8_184t hLb hEb (ne_ob hEb hEc (by decide))) dX10_remember_27 kV_X10_43 rfl hLc hEc ck_0 rfl (Nat.le_of_ble_eq_true rfl) ⟨Nat.le_of_ble_eq_true rfl, Nat.le_of_ble_eq_true rfl⟩ ⟨Nat.le_of_ble_eq_true rfl, Nat.le_of_ble_eq_true rfl⟩ (fun vh2 Lh2 Eh2 h2 => ?_)
  obtain ⟨rfl, h2a, h2b, fh2, h2c, h22⟩ := h2
  have et1 := (h2b _ hL (ne_ob hE hEc (by decide))).trans hE
  have lt1 := h2a _ hL
  have et2 := (h2b _ hLb (ne_ob hEb hEc (by decide))).trans hEb
  have lt2 := h2a _ hLb
  refine q_st (st2 := [.int 1]) rfl ?_
  refine q_pop C dX10_remember_30 rfl ?_
  exact q_vret C dX10_remember_31 rfl (Nat.le_of_ble_eq_true rfl) (Nat.le_of_ble_eq_true rfl) ⟨rfl, (fun aa haa => (h2a _ haa)), (fun aa haa naa => ((h2b _ haa naa).trans rfl))⟩
set_option maxHeartbeats 4000000 in
set_option maxRecDepth 100000 in
theorem c_make {l : Launch} {G : GT} {L : List Nat} {E : Nat → va_E} {a md ch b : Nat} {f fm fc fb : Nat → Value} (hL : a ∈ L) (hE : E a = ob 11 2 f) (h0 : f 0 = .ref md) (h1 : f 1 = .ref ch) (hLm : md ∈ L) (hEm : E md = ob 0 3 fm) (m0 : fm 0 = .int 0) (m1 : fm 1 = .ref (g0 G)) (m2 : fm 2 = .int 0) (hLc : ch ∈ L) (hEc : E ch = ob 0 3 fc) (k0 : fc 0 = .int 0) (k1 : fc 1 = .ref (g0 G)) (k2 : fc 2 = .int 0) (hmc : md ≠ ch) (hLb : b ∈ L) (hEb : E b = ob 10 8 fb) : Mq l G yX10_make cX10_make 2 (some .int) 6 [.ref a, .ref b] L E 3 24 (fun v L2 E2 => v = some (.int 0) ∧ (∀ c ∈ L, c ∈ L2) ∧ (∀ c ∈ L, c ≠ md → c ≠ ch → E2 c = E c)) := by
  refine Mq.mk (by decide) (Nat.le_of_ble_eq_true rfl) ?_
  intro p e s m args below meth c A C
  refine q_aload_n (j := 0) C dX10_make_0 rfl ?_
  refine q_get (k := 0) (v := .ref md) C ck_11 dX10_make_1 w1_90 (by decide) hL hE h0 ?_
  refine q_aload_n (j := 1) C dX10_make_4 rfl ?_
  refine q_callV (d2 := 4) (mc2 := 1) (ms2 := 10) (As := [.ref b]) (rest := []) C (c_al_add (f := fm) hLm hEm m0 m1 m2 ck_10 w8_183t hLb hEb (ne_ob hEb hEm (by decide))) dX10_make_5 kV_X10_43 rfl hLm hEm ck_0 rfl (Nat.le_of_ble_eq_true rfl) ⟨Nat.le_of_ble_eq_true rfl, Nat.le_of_ble_eq_true rfl⟩ ⟨Nat.le_of_ble_eq_true rfl, Nat.le_of_ble_eq_true rfl⟩ (fun vh1 Lh1 Eh1 h1 => ?_)
  obtain ⟨rfl, h1a, h1b, fh1, h1c, h12⟩ := h1
  have et1 := (h1b _ hL (ne_ob hE hEm (by decide))).trans hE
  have lt1 := h1a _ hL
  have et2 := (h1b _ hLc (Ne.symm hmc)).trans hEc
  have lt2 := h1a _ hLc
  have et3 := (h1b _ hLb (ne_ob hEb hEm (by decide))).trans hEb
  have lt3 := h1a _ hLb
  refine q_st (st2 := [.int 1]) rfl ?_
  refine q_pop C dX10_make_8 rfl ?_
  refine q_aload_n (j := 0) C dX10_make_9 rfl ?_
  refine q_new C ck_1 dX10_make_10 w3_34 w3_35 w1_18 ⟨Nat.le_of_ble_eq_true rfl, Nat.le_of_ble_eq_true rfl⟩ (fun q1 nq1 => ?_)
  have ne_a_q1 : a ≠ q1 := (ne_in lt1 nq1)
  have ne_md_q1 : md ≠ q1 := (ne_in (h1a _ hLm) nq1)
  have ne_ch_q1 : ch ≠ q1 := (ne_in lt2 nq1)
  have ne_b_q1 : b ≠ q1 := (ne_in lt3 nq1)
  refine q_dup C dX10_make_13 rfl ?_
  refine q_iconst (v := 0) C dX10_make_14 (by decide) ?_
  refine q_aload_n (j := 1) C dX10_make_15 rfl ?_
  refine q_null C dX10_make_16 ?_
  refine q_iconst (v := 0) C dX10_make_17 (by decide) ?_
  refine q_callI (d2 := 1) (mc2 := 0) (ms2 := 0) (As := [.int 0, .ref b, .null, .int 0]) (rest := [.ref q1, .ref a]) C (c_Change_init 0 0 b (List.mem_append_right _ (List.mem_singleton.mpr rfl)) (va_up_self _ _ _)) dX10_make_18 kI_X10_49 rfl rfl (Nat.le_of_ble_eq_true rfl) ⟨Nat.le_of_ble_eq_true rfl, Nat.le_of_ble_eq_true rfl⟩ ⟨Nat.le_of_ble_eq_true rfl, Nat.le_of_ble_eq_true rfl⟩ (fun vh2 Lh2 Eh2 h2 => ?_)
  obtain ⟨rfl, h2a, h2b, gh2, h2c⟩ := h2
  have et4 := (h2b _ (List.mem_append_left _ lt1) ne_a_q1).trans ((va_up_ne _ _ ne_a_q1).trans et1)
  have lt4 := h2a _ (List.mem_append_left _ lt1)
  have et5 := (h2b _ (List.mem_append_left _ (h1a _ hLm)) ne_md_q1).trans ((va_up_ne _ _ ne_md_q1).trans h1c)
  have lt5 := h2a _ (List.mem_append_left _ (h1a _ hLm))
  have et6 := (h2b _ (List.mem_append_left _ lt2) ne_ch_q1).trans ((va_up_ne _ _ ne_ch_q1).trans et2)
  have lt6 := h2a _ (List.mem_append_left _ lt2)
  have et7 := (h2b _ (List.mem_append_left _ lt3) ne_b_q1).trans ((va_up_ne _ _ ne_b_q1).trans et3)
  have lt7 := h2a _ (List.mem_append_left _ lt3)
  refine q_st (st2 := [.ref q1, .ref a]) rfl ?_
  refine q_callV (d2 := 5) (mc2 := 1) (ms2 := 10) (As := [.ref q1]) (rest := []) C (c_remember (f := f) (fc := fc) lt4 et4 h1 lt6 et6 k0 k1 k2 (h2a _ (List.mem_append_right _ (List.mem_singleton.mpr rfl))) h2c) dX10_make_21 kV_X10_52 rfl lt4 et4 ck_11 rfl (Nat.le_of_ble_eq_true rfl) ⟨Nat.le_of_ble_eq_true rfl, Nat.le_of_ble_eq_true rfl⟩ ⟨Nat.le_of_ble_eq_true rfl, Nat.le_of_ble_eq_true rfl⟩ (fun vh3 Lh3 Eh3 h3 => ?_)
  obtain ⟨rfl, h3a, h3b⟩ := h3
  have et8 := (h3b _ lt4 (ne_ob hE hEc (by decide))).trans et4
  have lt8 := h3a _ lt4
  have et9 := (h3b _ lt5 hmc).trans et5
  have lt9 := h3a _ lt5
  have et10 := (h3b _ lt7 (ne_ob hEb hEc (by decide))).trans et7
  have lt10 := h3a _ lt7
  have et11 := (h3b _ (h2a _ (List.mem_append_right _ (List.mem_singleton.mpr rfl))) (Ne.symm ne_ch_q1)).trans h2c
  have lt11 := h3a _ (h2a _ (List.mem_append_right _ (List.mem_singleton.mpr rfl)))
  refine q_st (st2 := []) rfl ?_
  refine q_aload_n (j := 0) C dX10_make_24 rfl ?_
  refine q_get (k := 0) (v := .ref md) C ck_11 dX10_make_25 w1_90 (by decide) lt8 et8 h0 ?_
  refine q_callV (d2 := 0) (mc2 := 0) (ms2 := 0) (As := []) (rest := []) C (c_al_size lt9 et9 h12) dX10_make_28 kV_X10_21 rfl lt9 et9 ck_0 rfl (Nat.le_of_ble_eq_true rfl) ⟨Nat.le_of_ble_eq_true rfl, Nat.le_of_ble_eq_true rfl⟩ ⟨Nat.le_of_ble_eq_true rfl, Nat.le_of_ble_eq_true rfl⟩ (fun vh4 Lh4 Eh4 h4 => ?_)
  obtain ⟨rfl, rfl, rfl⟩ := h4
  refine q_st (st2 := [.int 1]) rfl ?_
  refine q_iconst (v := 1) C dX10_make_31 (by decide) ?_
  refine q_isub (v := 0) C dX10_make_32 (by decide) ?_
  exact q_iret C dX10_make_33 rfl (Nat.le_of_ble_eq_true rfl) (Nat.le_of_ble_eq_true rfl) ⟨rfl, (fun aa haa => (h3a _ (h2a _ (List.mem_append_left _ (h1a _ haa))))), (fun aa haa n1 n2 => ((h3b _ (h2a _ (List.mem_append_left _ (h1a _ haa))) n2).trans ((h2b _ (List.mem_append_left _ (h1a _ haa)) (ne_in (h1a _ haa) nq1)).trans ((va_up_ne _ _ (ne_in (h1a _ haa) nq1)).trans ((h1b _ haa n1).trans rfl)))))⟩
def an_table (k d : Int32) : Int32 := if (k = 0 ∨ k = 4) ∧ (d = 6 ∨ d = 8) then 0 else -1
set_option maxHeartbeats 4000000 in
set_option maxRecDepth 100000 in
theorem x_table {l : Launch} {G : GT} {L : List Nat} {E : Nat → va_E} (k d1 b1 : Int32)  {h0 tp qt wr br hd tb md ch wd fi fo sh : Nat} {f ft fw fb fh fT fm fc fd ff fs : Nat → Value} (hL : h0 ∈ L) (hE : E h0 = ob 12 19 f) (f4 : f 4 = .ref tb) (hLtp : tp ∈ L) (hEtp : E tp = ob 2 3 ft) (hLqt : qt ∈ L) (hEqt : E qt = aI G 16 (fun _ => 0)) (hLwr : wr ∈ L) (hEwr : E wr = ob 2 3 fw) (hLbr : br ∈ L) (hEbr : E br = ob 2 3 fb) (hLhd : hd ∈ L) (hEhd : E hd = ob 2 3 fh) (hLtb : tb ∈ L) (hEtb : E tb = ob 11 2 fT) (fT0 : fT 0 = .ref md) (fT1 : fT 1 = .ref ch) (hLmd : md ∈ L) (hEmd : E md = ob 0 3 fm) (fm0 : fm 0 = .int 0) (fm1 : fm 1 = .ref (g0 G)) (fm2 : fm 2 = .int 0) (hLch : ch ∈ L) (hEch : E ch = ob 0 3 fc) (fc0 : fc 0 = .int 0) (fc1 : fc 1 = .ref (g0 G)) (fc2 : fc 2 = .int 0) (hLwd : wd ∈ L) (hEwd : E wd = ob 7 12 fd) (hLfi : fi ∈ L) (hEfi : E fi = aI G 5 (fun _ => 0)) (hLfo : fo ∈ L) (hEfo : E fo = ob 5 11 ff) (hLsh : sh ∈ L) (hEsh : E sh = ob 8 3 fs) (nmc : md ≠ ch) : Mq l G yX11_table cX11_table 5 (some .int) 7 [.ref h0, .int k, .int d1, .int b1] L E 8 58 (fun v L2 E2 => v = some (.int (an_table k d1))) := by
  refine Mq.mk (by decide) (Nat.le_of_ble_eq_true rfl) ?_
  intro p e s m args below meth c A C
  refine q_iload_n (j := 1) C dX11_table_0 rfl ?_
  refine q_if_lt (tgt := 31) C dX11_table_1 (by decide) (fun c1 => ?_) (fun c1 => ?_)
  · refine q_aload_n (j := 0) C dX11_table_31 rfl ?_
    refine q_bipush (v := 6) C dX11_table_32 (by decide) ?_
    refine q_callV (d2 := 0) (mc2 := 0) (ms2 := 0) (As := [.int 6]) (rest := []) C (c_refuse 6 hL hE) dX11_table_34 kV_X11_102 rfl hL hE ck_12 rfl (Nat.le_of_ble_eq_true rfl) ⟨Nat.le_of_ble_eq_true rfl, Nat.le_of_ble_eq_true rfl⟩ ⟨Nat.le_of_ble_eq_true rfl, Nat.le_of_ble_eq_true rfl⟩ (fun vh1 Lh1 Eh1 h1 => ?_)
    obtain ⟨rfl, rfl, rfl⟩ := h1
    refine q_st (st2 := [.int (-1)]) rfl ?_
    exact q_iret C dX11_table_37 rfl (Nat.le_of_ble_eq_true rfl) (Nat.le_of_ble_eq_true rfl) (by refine congrArg (fun z => some (Value.int z)) ?_; unfold an_table; (try simp only [inn_f, Decidable.not_not] at c1); (try simp only [i32_lt, i32_le, i32_eq, inn_f, Decidable.not_not, tn_m1, tn_0, tn_1, tn_2, tn_3, tn_4, tn_5, tn_6, tn_7, tn_8, tn_10, tn_30, tn_31, tn_32, tn_36, tn_40, tn_50, tn_100, tn_126, tn_200, tn_255, tn_500, tn_512, tn_3000, tn_5000] at c1); split <;> rename_i hz <;> (try simp only [i32_lt, i32_le, i32_eq, inn_f, Decidable.not_not, tn_m1, tn_0, tn_1, tn_2, tn_3, tn_4, tn_5, tn_6, tn_7, tn_8, tn_10, tn_30, tn_31, tn_32, tn_36, tn_40, tn_50, tn_100, tn_126, tn_200, tn_255, tn_500, tn_512, tn_3000, tn_5000] at hz) <;> first | rfl | (exfalso; omega) | (rw [i32_eq]; simp only [i32_lt, i32_le, i32_eq, inn_f, Decidable.not_not, tn_m1, tn_0, tn_1, tn_2, tn_3, tn_4, tn_5, tn_6, tn_7, tn_8, tn_10, tn_30, tn_31, tn_32, tn_36, tn_40, tn_50, tn_100, tn_126, tn_200, tn_255, tn_500, tn_512, tn_3000, tn_5000]; omega))
  · refine q_iload_n (j := 1) C dX11_table_4 rfl ?_
    refine q_iconst (v := 4) C dX11_table_5 (by decide) ?_
    refine q_icmp_gt (tgt := 31) C dX11_table_6 (by decide) (fun c2 => ?_) (fun c2 => ?_)
    · refine q_aload_n (j := 0) C dX11_table_31 rfl ?_
      refine q_bipush (v := 6) C dX11_table_32 (by decide) ?_
      refine q_callV (d2 := 0) (mc2 := 0) (ms2 := 0) (As := [.int 6]) (rest := []) C (c_refuse 6 hL hE) dX11_table_34 kV_X11_102 rfl hL hE ck_12 rfl (Nat.le_of_ble_eq_true rfl) ⟨Nat.le_of_ble_eq_true rfl, Nat.le_of_ble_eq_true rfl⟩ ⟨Nat.le_of_ble_eq_true rfl, Nat.le_of_ble_eq_true rfl⟩ (fun vh2 Lh2 Eh2 h2 => ?_)
      obtain ⟨rfl, rfl, rfl⟩ := h2
      refine q_st (st2 := [.int (-1)]) rfl ?_
      exact q_iret C dX11_table_37 rfl (Nat.le_of_ble_eq_true rfl) (Nat.le_of_ble_eq_true rfl) (by refine congrArg (fun z => some (Value.int z)) ?_; unfold an_table; (try simp only [inn_f, Decidable.not_not] at c1); (try simp only [i32_lt, i32_le, i32_eq, inn_f, Decidable.not_not, tn_m1, tn_0, tn_1, tn_2, tn_3, tn_4, tn_5, tn_6, tn_7, tn_8, tn_10, tn_30, tn_31, tn_32, tn_36, tn_40, tn_50, tn_100, tn_126, tn_200, tn_255, tn_500, tn_512, tn_3000, tn_5000] at c1); (try simp only [inn_f, Decidable.not_not] at c2); (try simp only [i32_lt, i32_le, i32_eq, inn_f, Decidable.not_not, tn_m1, tn_0, tn_1, tn_2, tn_3, tn_4, tn_5, tn_6, tn_7, tn_8, tn_10, tn_30, tn_31, tn_32, tn_36, tn_40, tn_50, tn_100, tn_126, tn_200, tn_255, tn_500, tn_512, tn_3000, tn_5000] at c2); split <;> rename_i hz <;> (try simp only [i32_lt, i32_le, i32_eq, inn_f, Decidable.not_not, tn_m1, tn_0, tn_1, tn_2, tn_3, tn_4, tn_5, tn_6, tn_7, tn_8, tn_10, tn_30, tn_31, tn_32, tn_36, tn_40, tn_50, tn_100, tn_126, tn_200, tn_255, tn_500, tn_512, tn_3000, tn_5000] at hz) <;> first | rfl | (exfalso; omega) | (rw [i32_eq]; simp only [i32_lt, i32_le, i32_eq, inn_f, Decidable.not_not, tn_m1, tn_0, tn_1, tn_2, tn_3, tn_4, tn_5, tn_6, tn_7, tn_8, tn_10, tn_30, tn_31, tn_32, tn_36, tn_40, tn_50, tn_100, tn_126, tn_200, tn_255, tn_500, tn_512, tn_3000, tn_5000]; omega))
    · refine q_iload_n (j := 2) C dX11_table_9 rfl ?_
      refine q_bipush (v := 6) C dX11_table_10 (by decide) ?_
      refine q_icmp_eq (tgt := 21) C dX11_table_12 (by decide) (fun c3 => ?_) (fun c3 => ?_)
      · refine q_aload_n (j := 0) C dX11_table_21 rfl ?_
        refine q_get (k := 4) (v := .ref tb) C ck_12 dX11_table_22 w2_48 (by decide) hL hE f4 ?_
        refine q_callV (d2 := 1) (mc2 := 0) (ms2 := 0) (As := []) (rest := []) C (c_full0  hLtb hEtb fT0 fT1 hLmd hEmd fm2 hLch hEch fc2) dX11_table_25 kV_X11_118 rfl hLtb hEtb ck_11 rfl (Nat.le_of_ble_eq_true rfl) ⟨Nat.le_of_ble_eq_true rfl, Nat.le_of_ble_eq_true rfl⟩ ⟨Nat.le_of_ble_eq_true rfl, Nat.le_of_ble_eq_true rfl⟩ (fun vh3 Lh3 Eh3 h3 => ?_)
        obtain ⟨rfl, rfl, rfl⟩ := h3
        refine q_st (st2 := [.int 0]) rfl ?_
        refine q_if_eq (tgt := 38) C dX11_table_28 (by decide) (fun _ => ?_) (fun z => absurd (by decide) z)
        refine q_iload_n (j := 1) C dX11_table_38 rfl ?_
        refine q_if_eq (tgt := 47) C dX11_table_39 (by decide) (fun c4 => ?_) (fun c4 => ?_)
        · refine q_aload_n (j := 0) C dX11_table_47 rfl ?_
          refine q_aload_n (j := 0) C dX11_table_48 rfl ?_
          refine q_get (k := 4) (v := .ref tb) C ck_12 dX11_table_49 w2_48 (by decide) hL hE f4 ?_
          refine q_new C ck_10 dX11_table_52 w2_162 w2_163 w1_16 ⟨Nat.le_of_ble_eq_true rfl, Nat.le_of_ble_eq_true rfl⟩ (fun q1 nq1 => ?_)
          have ne_h0_q1 : h0 ≠ q1 := (ne_in hL nq1)
          have ne_tp_q1 : tp ≠ q1 := (ne_in hLtp nq1)
          have ne_qt_q1 : qt ≠ q1 := (ne_in hLqt nq1)
          have ne_wr_q1 : wr ≠ q1 := (ne_in hLwr nq1)
          have ne_br_q1 : br ≠ q1 := (ne_in hLbr nq1)
          have ne_hd_q1 : hd ≠ q1 := (ne_in hLhd nq1)
          have ne_tb_q1 : tb ≠ q1 := (ne_in hLtb nq1)
          have ne_md_q1 : md ≠ q1 := (ne_in hLmd nq1)
          have ne_ch_q1 : ch ≠ q1 := (ne_in hLch nq1)
          have ne_wd_q1 : wd ≠ q1 := (ne_in hLwd nq1)
          have ne_fi_q1 : fi ≠ q1 := (ne_in hLfi nq1)
          have ne_fo_q1 : fo ≠ q1 := (ne_in hLfo nq1)
          have ne_sh_q1 : sh ≠ q1 := (ne_in hLsh nq1)
          refine q_dup C dX11_table_55 rfl ?_
          refine q_iload_n (j := 1) C dX11_table_56 rfl ?_
          refine q_iload_n (j := 2) C dX11_table_57 rfl ?_
          refine q_null C dX11_table_58 ?_
          refine q_null C dX11_table_59 ?_
          refine q_callI (d2 := 4) (mc2 := 4) (ms2 := 26) (As := [.int k, .int d1, .null, .null]) (rest := [.ref q1, .ref tb, .ref h0]) C (c_Table_init k d1 (List.mem_append_right _ (List.mem_singleton.mpr rfl)) (va_up_self _ _ _)) dX11_table_60 kI_X11_124 rfl rfl (Nat.le_of_ble_eq_true rfl) ⟨Nat.le_of_ble_eq_true rfl, Nat.le_of_ble_eq_true rfl⟩ ⟨Nat.le_of_ble_eq_true rfl, Nat.le_of_ble_eq_true rfl⟩ (fun vh4 Lh4 Eh4 h4 => ?_)
          obtain ⟨rfl, h4a, h4b, gh4, h4c⟩ := h4
          have et1 := (h4b _ (List.mem_append_left _ hL) ne_h0_q1).trans ((va_up_ne _ _ ne_h0_q1).trans hE)
          have lt1 := h4a _ (List.mem_append_left _ hL)
          have et2 := (h4b _ (List.mem_append_left _ hLtp) ne_tp_q1).trans ((va_up_ne _ _ ne_tp_q1).trans hEtp)
          have lt2 := h4a _ (List.mem_append_left _ hLtp)
          have et3 := (h4b _ (List.mem_append_left _ hLqt) ne_qt_q1).trans ((va_up_ne _ _ ne_qt_q1).trans hEqt)
          have lt3 := h4a _ (List.mem_append_left _ hLqt)
          have et4 := (h4b _ (List.mem_append_left _ hLwr) ne_wr_q1).trans ((va_up_ne _ _ ne_wr_q1).trans hEwr)
          have lt4 := h4a _ (List.mem_append_left _ hLwr)
          have et5 := (h4b _ (List.mem_append_left _ hLbr) ne_br_q1).trans ((va_up_ne _ _ ne_br_q1).trans hEbr)
          have lt5 := h4a _ (List.mem_append_left _ hLbr)
          have et6 := (h4b _ (List.mem_append_left _ hLhd) ne_hd_q1).trans ((va_up_ne _ _ ne_hd_q1).trans hEhd)
          have lt6 := h4a _ (List.mem_append_left _ hLhd)
          have et7 := (h4b _ (List.mem_append_left _ hLtb) ne_tb_q1).trans ((va_up_ne _ _ ne_tb_q1).trans hEtb)
          have lt7 := h4a _ (List.mem_append_left _ hLtb)
          have et8 := (h4b _ (List.mem_append_left _ hLmd) ne_md_q1).trans ((va_up_ne _ _ ne_md_q1).trans hEmd)
          have lt8 := h4a _ (List.mem_append_left _ hLmd)
          have et9 := (h4b _ (List.mem_append_left _ hLch) ne_ch_q1).trans ((va_up_ne _ _ ne_ch_q1).trans hEch)
          have lt9 := h4a _ (List.mem_append_left _ hLch)
          have et10 := (h4b _ (List.mem_append_left _ hLwd) ne_wd_q1).trans ((va_up_ne _ _ ne_wd_q1).trans hEwd)
          have lt10 := h4a _ (List.mem_append_left _ hLwd)
          have et11 := (h4b _ (List.mem_append_left _ hLfi) ne_fi_q1).trans ((va_up_ne _ _ ne_fi_q1).trans hEfi)
          have lt11 := h4a _ (List.mem_append_left _ hLfi)
          have et12 := (h4b _ (List.mem_append_left _ hLfo) ne_fo_q1).trans ((va_up_ne _ _ ne_fo_q1).trans hEfo)
          have lt12 := h4a _ (List.mem_append_left _ hLfo)
          have et13 := (h4b _ (List.mem_append_left _ hLsh) ne_sh_q1).trans ((va_up_ne _ _ ne_sh_q1).trans hEsh)
          have lt13 := h4a _ (List.mem_append_left _ hLsh)
          refine q_st (st2 := [.ref q1, .ref tb, .ref h0]) rfl ?_
          refine q_callV (d2 := 6) (mc2 := 3) (ms2 := 24) (As := [.ref q1]) (rest := [.ref h0]) C (c_make (f := fT) (fm := fm) (fc := fc) lt7 et7 fT0 fT1 lt8 et8 fm0 fm1 fm2 lt9 et9 fc0 fc1 fc2 nmc (h4a _ (List.mem_append_right _ (List.mem_singleton.mpr rfl))) h4c) dX11_table_63 kV_X11_127 rfl lt7 et7 ck_11 rfl (Nat.le_of_ble_eq_true rfl) ⟨Nat.le_of_ble_eq_true rfl, Nat.le_of_ble_eq_true rfl⟩ ⟨Nat.le_of_ble_eq_true rfl, Nat.le_of_ble_eq_true rfl⟩ (fun vh5 Lh5 Eh5 h5 => ?_)
          obtain ⟨rfl, h5a, h5b⟩ := h5
          refine q_st (st2 := [.int 0, .ref h0]) rfl ?_
          refine q_callV (d2 := 0) (mc2 := 0) (ms2 := 0) (As := [.int 0]) (rest := []) C (c_done 0 (h5a _ lt1) ((h5b _ lt1 (ne_ob hE hEmd (by decide)) (ne_ob hE hEch (by decide))).trans et1)) dX11_table_66 kV_X11_109 rfl (h5a _ lt1) ((h5b _ lt1 (ne_ob hE hEmd (by decide)) (ne_ob hE hEch (by decide))).trans et1) ck_12 rfl (Nat.le_of_ble_eq_true rfl) ⟨Nat.le_of_ble_eq_true rfl, Nat.le_of_ble_eq_true rfl⟩ ⟨Nat.le_of_ble_eq_true rfl, Nat.le_of_ble_eq_true rfl⟩ (fun vh6 Lh6 Eh6 h6 => ?_)
          obtain ⟨rfl, rfl, rfl⟩ := h6
          refine q_st (st2 := [.int 0]) rfl ?_
          exact q_iret C dX11_table_69 rfl (Nat.le_of_ble_eq_true rfl) (Nat.le_of_ble_eq_true rfl) (by refine congrArg (fun z => some (Value.int z)) ?_; unfold an_table; (try simp only [inn_f, Decidable.not_not] at c1); (try simp only [i32_lt, i32_le, i32_eq, inn_f, Decidable.not_not, tn_m1, tn_0, tn_1, tn_2, tn_3, tn_4, tn_5, tn_6, tn_7, tn_8, tn_10, tn_30, tn_31, tn_32, tn_36, tn_40, tn_50, tn_100, tn_126, tn_200, tn_255, tn_500, tn_512, tn_3000, tn_5000] at c1); (try simp only [inn_f, Decidable.not_not] at c2); (try simp only [i32_lt, i32_le, i32_eq, inn_f, Decidable.not_not, tn_m1, tn_0, tn_1, tn_2, tn_3, tn_4, tn_5, tn_6, tn_7, tn_8, tn_10, tn_30, tn_31, tn_32, tn_36, tn_40, tn_50, tn_100, tn_126, tn_200, tn_255, tn_500, tn_512, tn_3000, tn_5000] at c2); (try simp only [inn_f, Decidable.not_not] at c3); (try simp only [i32_lt, i32_le, i32_eq, inn_f, Decidable.not_not, tn_m1, tn_0, tn_1, tn_2, tn_3, tn_4, tn_5, tn_6, tn_7, tn_8, tn_10, tn_30, tn_31, tn_32, tn_36, tn_40, tn_50, tn_100, tn_126, tn_200, tn_255, tn_500, tn_512, tn_3000, tn_5000] at c3); (try simp only [inn_f, Decidable.not_not] at c4); (try simp only [i32_lt, i32_le, i32_eq, inn_f, Decidable.not_not, tn_m1, tn_0, tn_1, tn_2, tn_3, tn_4, tn_5, tn_6, tn_7, tn_8, tn_10, tn_30, tn_31, tn_32, tn_36, tn_40, tn_50, tn_100, tn_126, tn_200, tn_255, tn_500, tn_512, tn_3000, tn_5000] at c4); split <;> rename_i hz <;> (try simp only [i32_lt, i32_le, i32_eq, inn_f, Decidable.not_not, tn_m1, tn_0, tn_1, tn_2, tn_3, tn_4, tn_5, tn_6, tn_7, tn_8, tn_10, tn_30, tn_31, tn_32, tn_36, tn_40, tn_50, tn_100, tn_126, tn_200, tn_255, tn_500, tn_512, tn_3000, tn_5000] at hz) <;> first | rfl | (exfalso; omega) | (rw [i32_eq]; simp only [i32_lt, i32_le, i32_eq, inn_f, Decidable.not_not, tn_m1, tn_0, tn_1, tn_2, tn_3, tn_4, tn_5, tn_6, tn_7, tn_8, tn_10, tn_30, tn_31, tn_32, tn_36, tn_40, tn_50, tn_100, tn_126, tn_200, tn_255, tn_500, tn_512, tn_3000, tn_5000]; omega))
        · refine q_iload_n (j := 1) C dX11_table_42 rfl ?_
          refine q_iconst (v := 4) C dX11_table_43 (by decide) ?_
          refine q_icmp_ne (tgt := 70) C dX11_table_44 (by decide) (fun c5 => ?_) (fun c5 => ?_)
          · refine q_aload_n (j := 0) C dX11_table_70 rfl ?_
            refine q_get (k := 4) (v := .ref tb) C ck_12 dX11_table_71 w2_48 (by decide) hL hE f4 ?_
            refine q_iload_n (j := 3) C dX11_table_74 rfl ?_
            refine q_callV (d2 := 1) (mc2 := 0) (ms2 := 0) (As := [.int b1]) (rest := []) C (c_alive0 b1 hLtb hEtb fT0 fT1 hLmd hEmd fm2 hLch hEch fc2) dX11_table_75 kV_X11_131 rfl hLtb hEtb ck_11 rfl (Nat.le_of_ble_eq_true rfl) ⟨Nat.le_of_ble_eq_true rfl, Nat.le_of_ble_eq_true rfl⟩ ⟨Nat.le_of_ble_eq_true rfl, Nat.le_of_ble_eq_true rfl⟩ (fun vh7 Lh7 Eh7 h7 => ?_)
            obtain ⟨rfl, rfl, rfl⟩ := h7
            refine q_st (st2 := [.null]) rfl ?_
            refine q_astoreN (lv2 := [(4, .null), (0, .ref h0), (1, .int k), (2, .int d1), (3, .int b1)]) C dX11_table_78 (by decide) rfl ?_
            refine q_aloadN (j := 0) C dX11_table_80 rfl ?_
            refine q_ifnullN (tgt := 94) C dX11_table_82 (by decide) ?_
            refine q_aload_n (j := 1) C dX11_table_94 rfl ?_
            refine q_aloadN (j := 0) C dX11_table_95 rfl ?_
            refine q_ifnonnullN C dX11_table_97 ?_
            refine q_iconst (v := 3) C dX11_table_100 (by decide) ?_
            refine q_goto (tgt := 105) C dX11_table_101 (by decide) ?_
            refine q_callV (d2 := 0) (mc2 := 0) (ms2 := 0) (As := [.int 3]) (rest := []) C (c_refuse 3 hL hE) dX11_table_105 kV_X11_102 rfl hL hE ck_12 rfl (Nat.le_of_ble_eq_true rfl) ⟨Nat.le_of_ble_eq_true rfl, Nat.le_of_ble_eq_true rfl⟩ ⟨Nat.le_of_ble_eq_true rfl, Nat.le_of_ble_eq_true rfl⟩ (fun vh8 Lh8 Eh8 h8 => ?_)
            obtain ⟨rfl, rfl, rfl⟩ := h8
            refine q_st (st2 := [.int (-1)]) rfl ?_
            exact q_iret C dX11_table_108 rfl (Nat.le_of_ble_eq_true rfl) (Nat.le_of_ble_eq_true rfl) (by refine congrArg (fun z => some (Value.int z)) ?_; unfold an_table; (try simp only [inn_f, Decidable.not_not] at c1); (try simp only [i32_lt, i32_le, i32_eq, inn_f, Decidable.not_not, tn_m1, tn_0, tn_1, tn_2, tn_3, tn_4, tn_5, tn_6, tn_7, tn_8, tn_10, tn_30, tn_31, tn_32, tn_36, tn_40, tn_50, tn_100, tn_126, tn_200, tn_255, tn_500, tn_512, tn_3000, tn_5000] at c1); (try simp only [inn_f, Decidable.not_not] at c2); (try simp only [i32_lt, i32_le, i32_eq, inn_f, Decidable.not_not, tn_m1, tn_0, tn_1, tn_2, tn_3, tn_4, tn_5, tn_6, tn_7, tn_8, tn_10, tn_30, tn_31, tn_32, tn_36, tn_40, tn_50, tn_100, tn_126, tn_200, tn_255, tn_500, tn_512, tn_3000, tn_5000] at c2); (try simp only [inn_f, Decidable.not_not] at c3); (try simp only [i32_lt, i32_le, i32_eq, inn_f, Decidable.not_not, tn_m1, tn_0, tn_1, tn_2, tn_3, tn_4, tn_5, tn_6, tn_7, tn_8, tn_10, tn_30, tn_31, tn_32, tn_36, tn_40, tn_50, tn_100, tn_126, tn_200, tn_255, tn_500, tn_512, tn_3000, tn_5000] at c3); (try simp only [inn_f, Decidable.not_not] at c4); (try simp only [i32_lt, i32_le, i32_eq, inn_f, Decidable.not_not, tn_m1, tn_0, tn_1, tn_2, tn_3, tn_4, tn_5, tn_6, tn_7, tn_8, tn_10, tn_30, tn_31, tn_32, tn_36, tn_40, tn_50, tn_100, tn_126, tn_200, tn_255, tn_500, tn_512, tn_3000, tn_5000] at c4); (try simp only [inn_f, Decidable.not_not] at c5); (try simp only [i32_lt, i32_le, i32_eq, inn_f, Decidable.not_not, tn_m1, tn_0, tn_1, tn_2, tn_3, tn_4, tn_5, tn_6, tn_7, tn_8, tn_10, tn_30, tn_31, tn_32, tn_36, tn_40, tn_50, tn_100, tn_126, tn_200, tn_255, tn_500, tn_512, tn_3000, tn_5000] at c5); split <;> rename_i hz <;> (try simp only [i32_lt, i32_le, i32_eq, inn_f, Decidable.not_not, tn_m1, tn_0, tn_1, tn_2, tn_3, tn_4, tn_5, tn_6, tn_7, tn_8, tn_10, tn_30, tn_31, tn_32, tn_36, tn_40, tn_50, tn_100, tn_126, tn_200, tn_255, tn_500, tn_512, tn_3000, tn_5000] at hz) <;> first | rfl | (exfalso; omega) | (rw [i32_eq]; simp only [i32_lt, i32_le, i32_eq, inn_f, Decidable.not_not, tn_m1, tn_0, tn_1, tn_2, tn_3, tn_4, tn_5, tn_6, tn_7, tn_8, tn_10, tn_30, tn_31, tn_32, tn_36, tn_40, tn_50, tn_100, tn_126, tn_200, tn_255, tn_500, tn_512, tn_3000, tn_5000]; omega))
          · refine q_aload_n (j := 0) C dX11_table_47 rfl ?_
            refine q_aload_n (j := 0) C dX11_table_48 rfl ?_
            refine q_get (k := 4) (v := .ref tb) C ck_12 dX11_table_49 w2_48 (by decide) hL hE f4 ?_
            refine q_new C ck_10 dX11_table_52 w2_162 w2_163 w1_16 ⟨Nat.le_of_ble_eq_true rfl, Nat.le_of_ble_eq_true rfl⟩ (fun q2 nq2 => ?_)
            have ne_h0_q2 : h0 ≠ q2 := (ne_in hL nq2)
            have ne_tp_q2 : tp ≠ q2 := (ne_in hLtp nq2)
            have ne_qt_q2 : qt ≠ q2 := (ne_in hLqt nq2)
            have ne_wr_q2 : wr ≠ q2 := (ne_in hLwr nq2)
            have ne_br_q2 : br ≠ q2 := (ne_in hLbr nq2)
            have ne_hd_q2 : hd ≠ q2 := (ne_in hLhd nq2)
            have ne_tb_q2 : tb ≠ q2 := (ne_in hLtb nq2)
            have ne_md_q2 : md ≠ q2 := (ne_in hLmd nq2)
            have ne_ch_q2 : ch ≠ q2 := (ne_in hLch nq2)
            have ne_wd_q2 : wd ≠ q2 := (ne_in hLwd nq2)
            have ne_fi_q2 : fi ≠ q2 := (ne_in hLfi nq2)
            have ne_fo_q2 : fo ≠ q2 := (ne_in hLfo nq2)
            have ne_sh_q2 : sh ≠ q2 := (ne_in hLsh nq2)
            refine q_dup C dX11_table_55 rfl ?_
            refine q_iload_n (j := 1) C dX11_table_56 rfl ?_
            refine q_iload_n (j := 2) C dX11_table_57 rfl ?_
            refine q_null C dX11_table_58 ?_
            refine q_null C dX11_table_59 ?_
            refine q_callI (d2 := 4) (mc2 := 4) (ms2 := 26) (As := [.int k, .int d1, .null, .null]) (rest := [.ref q2, .ref tb, .ref h0]) C (c_Table_init k d1 (List.mem_append_right _ (List.mem_singleton.mpr rfl)) (va_up_self _ _ _)) dX11_table_60 kI_X11_124 rfl rfl (Nat.le_of_ble_eq_true rfl) ⟨Nat.le_of_ble_eq_true rfl, Nat.le_of_ble_eq_true rfl⟩ ⟨Nat.le_of_ble_eq_true rfl, Nat.le_of_ble_eq_true rfl⟩ (fun vh9 Lh9 Eh9 h9 => ?_)
            obtain ⟨rfl, h9a, h9b, gh9, h9c⟩ := h9
            have et14 := (h9b _ (List.mem_append_left _ hL) ne_h0_q2).trans ((va_up_ne _ _ ne_h0_q2).trans hE)
            have lt14 := h9a _ (List.mem_append_left _ hL)
            have et15 := (h9b _ (List.mem_append_left _ hLtp) ne_tp_q2).trans ((va_up_ne _ _ ne_tp_q2).trans hEtp)
            have lt15 := h9a _ (List.mem_append_left _ hLtp)
            have et16 := (h9b _ (List.mem_append_left _ hLqt) ne_qt_q2).trans ((va_up_ne _ _ ne_qt_q2).trans hEqt)
            have lt16 := h9a _ (List.mem_append_left _ hLqt)
            have et17 := (h9b _ (List.mem_append_left _ hLwr) ne_wr_q2).trans ((va_up_ne _ _ ne_wr_q2).trans hEwr)
            have lt17 := h9a _ (List.mem_append_left _ hLwr)
            have et18 := (h9b _ (List.mem_append_left _ hLbr) ne_br_q2).trans ((va_up_ne _ _ ne_br_q2).trans hEbr)
            have lt18 := h9a _ (List.mem_append_left _ hLbr)
            have et19 := (h9b _ (List.mem_append_left _ hLhd) ne_hd_q2).trans ((va_up_ne _ _ ne_hd_q2).trans hEhd)
            have lt19 := h9a _ (List.mem_append_left _ hLhd)
            have et20 := (h9b _ (List.mem_append_left _ hLtb) ne_tb_q2).trans ((va_up_ne _ _ ne_tb_q2).trans hEtb)
            have lt20 := h9a _ (List.mem_append_left _ hLtb)
            have et21 := (h9b _ (List.mem_append_left _ hLmd) ne_md_q2).trans ((va_up_ne _ _ ne_md_q2).trans hEmd)
            have lt21 := h9a _ (List.mem_append_left _ hLmd)
            have et22 := (h9b _ (List.mem_append_left _ hLch) ne_ch_q2).trans ((va_up_ne _ _ ne_ch_q2).trans hEch)
            have lt22 := h9a _ (List.mem_append_left _ hLch)
            have et23 := (h9b _ (List.mem_append_left _ hLwd) ne_wd_q2).trans ((va_up_ne _ _ ne_wd_q2).trans hEwd)
            have lt23 := h9a _ (List.mem_append_left _ hLwd)
            have et24 := (h9b _ (List.mem_append_left _ hLfi) ne_fi_q2).trans ((va_up_ne _ _ ne_fi_q2).trans hEfi)
            have lt24 := h9a _ (List.mem_append_left _ hLfi)
            have et25 := (h9b _ (List.mem_append_left _ hLfo) ne_fo_q2).trans ((va_up_ne _ _ ne_fo_q2).trans hEfo)
            have lt25 := h9a _ (List.mem_append_left _ hLfo)
            have et26 := (h9b _ (List.mem_append_left _ hLsh) ne_sh_q2).trans ((va_up_ne _ _ ne_sh_q2).trans hEsh)
            have lt26 := h9a _ (List.mem_append_left _ hLsh)
            refine q_st (st2 := [.ref q2, .ref tb, .ref h0]) rfl ?_
            refine q_callV (d2 := 6) (mc2 := 3) (ms2 := 24) (As := [.ref q2]) (rest := [.ref h0]) C (c_make (f := fT) (fm := fm) (fc := fc) lt20 et20 fT0 fT1 lt21 et21 fm0 fm1 fm2 lt22 et22 fc0 fc1 fc2 nmc (h9a _ (List.mem_append_right _ (List.mem_singleton.mpr rfl))) h9c) dX11_table_63 kV_X11_127 rfl lt20 et20 ck_11 rfl (Nat.le_of_ble_eq_true rfl) ⟨Nat.le_of_ble_eq_true rfl, Nat.le_of_ble_eq_true rfl⟩ ⟨Nat.le_of_ble_eq_true rfl, Nat.le_of_ble_eq_true rfl⟩ (fun vh10 Lh10 Eh10 h10 => ?_)
            obtain ⟨rfl, h10a, h10b⟩ := h10
            refine q_st (st2 := [.int 0, .ref h0]) rfl ?_
            refine q_callV (d2 := 0) (mc2 := 0) (ms2 := 0) (As := [.int 0]) (rest := []) C (c_done 0 (h10a _ lt14) ((h10b _ lt14 (ne_ob hE hEmd (by decide)) (ne_ob hE hEch (by decide))).trans et14)) dX11_table_66 kV_X11_109 rfl (h10a _ lt14) ((h10b _ lt14 (ne_ob hE hEmd (by decide)) (ne_ob hE hEch (by decide))).trans et14) ck_12 rfl (Nat.le_of_ble_eq_true rfl) ⟨Nat.le_of_ble_eq_true rfl, Nat.le_of_ble_eq_true rfl⟩ ⟨Nat.le_of_ble_eq_true rfl, Nat.le_of_ble_eq_true rfl⟩ (fun vh11 Lh11 Eh11 h11 => ?_)
            obtain ⟨rfl, rfl, rfl⟩ := h11
            refine q_st (st2 := [.int 0]) rfl ?_
            exact q_iret C dX11_table_69 rfl (Nat.le_of_ble_eq_true rfl) (Nat.le_of_ble_eq_true rfl) (by refine congrArg (fun z => some (Value.int z)) ?_; unfold an_table; (try simp only [inn_f, Decidable.not_not] at c1); (try simp only [i32_lt, i32_le, i32_eq, inn_f, Decidable.not_not, tn_m1, tn_0, tn_1, tn_2, tn_3, tn_4, tn_5, tn_6, tn_7, tn_8, tn_10, tn_30, tn_31, tn_32, tn_36, tn_40, tn_50, tn_100, tn_126, tn_200, tn_255, tn_500, tn_512, tn_3000, tn_5000] at c1); (try simp only [inn_f, Decidable.not_not] at c2); (try simp only [i32_lt, i32_le, i32_eq, inn_f, Decidable.not_not, tn_m1, tn_0, tn_1, tn_2, tn_3, tn_4, tn_5, tn_6, tn_7, tn_8, tn_10, tn_30, tn_31, tn_32, tn_36, tn_40, tn_50, tn_100, tn_126, tn_200, tn_255, tn_500, tn_512, tn_3000, tn_5000] at c2); (try simp only [inn_f, Decidable.not_not] at c3); (try simp only [i32_lt, i32_le, i32_eq, inn_f, Decidable.not_not, tn_m1, tn_0, tn_1, tn_2, tn_3, tn_4, tn_5, tn_6, tn_7, tn_8, tn_10, tn_30, tn_31, tn_32, tn_36, tn_40, tn_50, tn_100, tn_126, tn_200, tn_255, tn_500, tn_512, tn_3000, tn_5000] at c3); (try simp only [inn_f, Decidable.not_not] at c4); (try simp only [i32_lt, i32_le, i32_eq, inn_f, Decidable.not_not, tn_m1, tn_0, tn_1, tn_2, tn_3, tn_4, tn_5, tn_6, tn_7, tn_8, tn_10, tn_30, tn_31, tn_32, tn_36, tn_40, tn_50, tn_100, tn_126, tn_200, tn_255, tn_500, tn_512, tn_3000, tn_5000] at c4); (try simp only [inn_f, Decidable.not_not] at c5); (try simp only [i32_lt, i32_le, i32_eq, inn_f, Decidable.not_not, tn_m1, tn_0, tn_1, tn_2, tn_3, tn_4, tn_5, tn_6, tn_7, tn_8, tn_10, tn_30, tn_31, tn_32, tn_36, tn_40, tn_50, tn_100, tn_126, tn_200, tn_255, tn_500, tn_512, tn_3000, tn_5000] at c5); split <;> rename_i hz <;> (try simp only [i32_lt, i32_le, i32_eq, inn_f, Decidable.not_not, tn_m1, tn_0, tn_1, tn_2, tn_3, tn_4, tn_5, tn_6, tn_7, tn_8, tn_10, tn_30, tn_31, tn_32, tn_36, tn_40, tn_50, tn_100, tn_126, tn_200, tn_255, tn_500, tn_512, tn_3000, tn_5000] at hz) <;> first | rfl | (exfalso; omega) | (rw [i32_eq]; simp only [i32_lt, i32_le, i32_eq, inn_f, Decidable.not_not, tn_m1, tn_0, tn_1, tn_2, tn_3, tn_4, tn_5, tn_6, tn_7, tn_8, tn_10, tn_30, tn_31, tn_32, tn_36, tn_40, tn_50, tn_100, tn_126, tn_200, tn_255, tn_500, tn_512, tn_3000, tn_5000]; omega))
      · refine q_iload_n (j := 2) C dX11_table_15 rfl ?_
        refine q_bipush (v := 8) C dX11_table_16 (by decide) ?_
        refine q_icmp_ne (tgt := 31) C dX11_table_18 (by decide) (fun c6 => ?_) (fun c6 => ?_)
        · refine q_aload_n (j := 0) C dX11_table_31 rfl ?_
          refine q_bipush (v := 6) C dX11_table_32 (by decide) ?_
          refine q_callV (d2 := 0) (mc2 := 0) (ms2 := 0) (As := [.int 6]) (rest := []) C (c_refuse 6 hL hE) dX11_table_34 kV_X11_102 rfl hL hE ck_12 rfl (Nat.le_of_ble_eq_true rfl) ⟨Nat.le_of_ble_eq_true rfl, Nat.le_of_ble_eq_true rfl⟩ ⟨Nat.le_of_ble_eq_true rfl, Nat.le_of_ble_eq_true rfl⟩ (fun vh12 Lh12 Eh12 h12 => ?_)
          obtain ⟨rfl, rfl, rfl⟩ := h12
          refine q_st (st2 := [.int (-1)]) rfl ?_
          exact q_iret C dX11_table_37 rfl (Nat.le_of_ble_eq_true rfl) (Nat.le_of_ble_eq_true rfl) (by refine congrArg (fun z => some (Value.int z)) ?_; unfold an_table; (try simp only [inn_f, Decidable.not_not] at c1); (try simp only [i32_lt, i32_le, i32_eq, inn_f, Decidable.not_not, tn_m1, tn_0, tn_1, tn_2, tn_3, tn_4, tn_5, tn_6, tn_7, tn_8, tn_10, tn_30, tn_31, tn_32, tn_36, tn_40, tn_50, tn_100, tn_126, tn_200, tn_255, tn_500, tn_512, tn_3000, tn_5000] at c1); (try simp only [inn_f, Decidable.not_not] at c2); (try simp only [i32_lt, i32_le, i32_eq, inn_f, Decidable.not_not, tn_m1, tn_0, tn_1, tn_2, tn_3, tn_4, tn_5, tn_6, tn_7, tn_8, tn_10, tn_30, tn_31, tn_32, tn_36, tn_40, tn_50, tn_100, tn_126, tn_200, tn_255, tn_500, tn_512, tn_3000, tn_5000] at c2); (try simp only [inn_f, Decidable.not_not] at c3); (try simp only [i32_lt, i32_le, i32_eq, inn_f, Decidable.not_not, tn_m1, tn_0, tn_1, tn_2, tn_3, tn_4, tn_5, tn_6, tn_7, tn_8, tn_10, tn_30, tn_31, tn_32, tn_36, tn_40, tn_50, tn_100, tn_126, tn_200, tn_255, tn_500, tn_512, tn_3000, tn_5000] at c3); (try simp only [inn_f, Decidable.not_not] at c6); (try simp only [i32_lt, i32_le, i32_eq, inn_f, Decidable.not_not, tn_m1, tn_0, tn_1, tn_2, tn_3, tn_4, tn_5, tn_6, tn_7, tn_8, tn_10, tn_30, tn_31, tn_32, tn_36, tn_40, tn_50, tn_100, tn_126, tn_200, tn_255, tn_500, tn_512, tn_3000, tn_5000] at c6); split <;> rename_i hz <;> (try simp only [i32_lt, i32_le, i32_eq, inn_f, Decidable.not_not, tn_m1, tn_0, tn_1, tn_2, tn_3, tn_4, tn_5, tn_6, tn_7, tn_8, tn_10, tn_30, tn_31, tn_32, tn_36, tn_40, tn_50, tn_100, tn_126, tn_200, tn_255, tn_500, tn_512, tn_3000, tn_5000] at hz) <;> first | rfl | (exfalso; omega) | (rw [i32_eq]; simp only [i32_lt, i32_le, i32_eq, inn_f, Decidable.not_not, tn_m1, tn_0, tn_1, tn_2, tn_3, tn_4, tn_5, tn_6, tn_7, tn_8, tn_10, tn_30, tn_31, tn_32, tn_36, tn_40, tn_50, tn_100, tn_126, tn_200, tn_255, tn_500, tn_512, tn_3000, tn_5000]; omega))
        · refine q_aload_n (j := 0) C dX11_table_21 rfl ?_
          refine q_get (k := 4) (v := .ref tb) C ck_12 dX11_table_22 w2_48 (by decide) hL hE f4 ?_
          refine q_callV (d2 := 1) (mc2 := 0) (ms2 := 0) (As := []) (rest := []) C (c_full0  hLtb hEtb fT0 fT1 hLmd hEmd fm2 hLch hEch fc2) dX11_table_25 kV_X11_118 rfl hLtb hEtb ck_11 rfl (Nat.le_of_ble_eq_true rfl) ⟨Nat.le_of_ble_eq_true rfl, Nat.le_of_ble_eq_true rfl⟩ ⟨Nat.le_of_ble_eq_true rfl, Nat.le_of_ble_eq_true rfl⟩ (fun vh13 Lh13 Eh13 h13 => ?_)
          obtain ⟨rfl, rfl, rfl⟩ := h13
          refine q_st (st2 := [.int 0]) rfl ?_
          refine q_if_eq (tgt := 38) C dX11_table_28 (by decide) (fun _ => ?_) (fun z => absurd (by decide) z)
          refine q_iload_n (j := 1) C dX11_table_38 rfl ?_
          refine q_if_eq (tgt := 47) C dX11_table_39 (by decide) (fun c7 => ?_) (fun c7 => ?_)
          · refine q_aload_n (j := 0) C dX11_table_47 rfl ?_
            refine q_aload_n (j := 0) C dX11_table_48 rfl ?_
            refine q_get (k := 4) (v := .ref tb) C ck_12 dX11_table_49 w2_48 (by decide) hL hE f4 ?_
            refine q_new C ck_10 dX11_table_52 w2_162 w2_163 w1_16 ⟨Nat.le_of_ble_eq_true rfl, Nat.le_of_ble_eq_true rfl⟩ (fun q3 nq3 => ?_)
            have ne_h0_q3 : h0 ≠ q3 := (ne_in hL nq3)
            have ne_tp_q3 : tp ≠ q3 := (ne_in hLtp nq3)
            have ne_qt_q3 : qt ≠ q3 := (ne_in hLqt nq3)
            have ne_wr_q3 : wr ≠ q3 := (ne_in hLwr nq3)
            have ne_br_q3 : br ≠ q3 := (ne_in hLbr nq3)
            have ne_hd_q3 : hd ≠ q3 := (ne_in hLhd nq3)
            have ne_tb_q3 : tb ≠ q3 := (ne_in hLtb nq3)
            have ne_md_q3 : md ≠ q3 := (ne_in hLmd nq3)
            have ne_ch_q3 : ch ≠ q3 := (ne_in hLch nq3)
            have ne_wd_q3 : wd ≠ q3 := (ne_in hLwd nq3)
            have ne_fi_q3 : fi ≠ q3 := (ne_in hLfi nq3)
            have ne_fo_q3 : fo ≠ q3 := (ne_in hLfo nq3)
            have ne_sh_q3 : sh ≠ q3 := (ne_in hLsh nq3)
            refine q_dup C dX11_table_55 rfl ?_
            refine q_iload_n (j := 1) C dX11_table_56 rfl ?_
            refine q_iload_n (j := 2) C dX11_table_57 rfl ?_
            refine q_null C dX11_table_58 ?_
            refine q_null C dX11_table_59 ?_
            refine q_callI (d2 := 4) (mc2 := 4) (ms2 := 26) (As := [.int k, .int d1, .null, .null]) (rest := [.ref q3, .ref tb, .ref h0]) C (c_Table_init k d1 (List.mem_append_right _ (List.mem_singleton.mpr rfl)) (va_up_self _ _ _)) dX11_table_60 kI_X11_124 rfl rfl (Nat.le_of_ble_eq_true rfl) ⟨Nat.le_of_ble_eq_true rfl, Nat.le_of_ble_eq_true rfl⟩ ⟨Nat.le_of_ble_eq_true rfl, Nat.le_of_ble_eq_true rfl⟩ (fun vh14 Lh14 Eh14 h14 => ?_)
            obtain ⟨rfl, h14a, h14b, gh14, h14c⟩ := h14
            have et27 := (h14b _ (List.mem_append_left _ hL) ne_h0_q3).trans ((va_up_ne _ _ ne_h0_q3).trans hE)
            have lt27 := h14a _ (List.mem_append_left _ hL)
            have et28 := (h14b _ (List.mem_append_left _ hLtp) ne_tp_q3).trans ((va_up_ne _ _ ne_tp_q3).trans hEtp)
            have lt28 := h14a _ (List.mem_append_left _ hLtp)
            have et29 := (h14b _ (List.mem_append_left _ hLqt) ne_qt_q3).trans ((va_up_ne _ _ ne_qt_q3).trans hEqt)
            have lt29 := h14a _ (List.mem_append_left _ hLqt)
            have et30 := (h14b _ (List.mem_append_left _ hLwr) ne_wr_q3).trans ((va_up_ne _ _ ne_wr_q3).trans hEwr)
            have lt30 := h14a _ (List.mem_append_left _ hLwr)
            have et31 := (h14b _ (List.mem_append_left _ hLbr) ne_br_q3).trans ((va_up_ne _ _ ne_br_q3).trans hEbr)
            have lt31 := h14a _ (List.mem_append_left _ hLbr)
            have et32 := (h14b _ (List.mem_append_left _ hLhd) ne_hd_q3).trans ((va_up_ne _ _ ne_hd_q3).trans hEhd)
            have lt32 := h14a _ (List.mem_append_left _ hLhd)
            have et33 := (h14b _ (List.mem_append_left _ hLtb) ne_tb_q3).trans ((va_up_ne _ _ ne_tb_q3).trans hEtb)
            have lt33 := h14a _ (List.mem_append_left _ hLtb)
            have et34 := (h14b _ (List.mem_append_left _ hLmd) ne_md_q3).trans ((va_up_ne _ _ ne_md_q3).trans hEmd)
            have lt34 := h14a _ (List.mem_append_left _ hLmd)
            have et35 := (h14b _ (List.mem_append_left _ hLch) ne_ch_q3).trans ((va_up_ne _ _ ne_ch_q3).trans hEch)
            have lt35 := h14a _ (List.mem_append_left _ hLch)
            have et36 := (h14b _ (List.mem_append_left _ hLwd) ne_wd_q3).trans ((va_up_ne _ _ ne_wd_q3).trans hEwd)
            have lt36 := h14a _ (List.mem_append_left _ hLwd)
            have et37 := (h14b _ (List.mem_append_left _ hLfi) ne_fi_q3).trans ((va_up_ne _ _ ne_fi_q3).trans hEfi)
            have lt37 := h14a _ (List.mem_append_left _ hLfi)
            have et38 := (h14b _ (List.mem_append_left _ hLfo) ne_fo_q3).trans ((va_up_ne _ _ ne_fo_q3).trans hEfo)
            have lt38 := h14a _ (List.mem_append_left _ hLfo)
            have et39 := (h14b _ (List.mem_append_left _ hLsh) ne_sh_q3).trans ((va_up_ne _ _ ne_sh_q3).trans hEsh)
            have lt39 := h14a _ (List.mem_append_left _ hLsh)
            refine q_st (st2 := [.ref q3, .ref tb, .ref h0]) rfl ?_
            refine q_callV (d2 := 6) (mc2 := 3) (ms2 := 24) (As := [.ref q3]) (rest := [.ref h0]) C (c_make (f := fT) (fm := fm) (fc := fc) lt33 et33 fT0 fT1 lt34 et34 fm0 fm1 fm2 lt35 et35 fc0 fc1 fc2 nmc (h14a _ (List.mem_append_right _ (List.mem_singleton.mpr rfl))) h14c) dX11_table_63 kV_X11_127 rfl lt33 et33 ck_11 rfl (Nat.le_of_ble_eq_true rfl) ⟨Nat.le_of_ble_eq_true rfl, Nat.le_of_ble_eq_true rfl⟩ ⟨Nat.le_of_ble_eq_true rfl, Nat.le_of_ble_eq_true rfl⟩ (fun vh15 Lh15 Eh15 h15 => ?_)
            obtain ⟨rfl, h15a, h15b⟩ := h15
            refine q_st (st2 := [.int 0, .ref h0]) rfl ?_
            refine q_callV (d2 := 0) (mc2 := 0) (ms2 := 0) (As := [.int 0]) (rest := []) C (c_done 0 (h15a _ lt27) ((h15b _ lt27 (ne_ob hE hEmd (by decide)) (ne_ob hE hEch (by decide))).trans et27)) dX11_table_66 kV_X11_109 rfl (h15a _ lt27) ((h15b _ lt27 (ne_ob hE hEmd (by decide)) (ne_ob hE hEch (by decide))).trans et27) ck_12 rfl (Nat.le_of_ble_eq_true rfl) ⟨Nat.le_of_ble_eq_true rfl, Nat.le_of_ble_eq_true rfl⟩ ⟨Nat.le_of_ble_eq_true rfl, Nat.le_of_ble_eq_true rfl⟩ (fun vh16 Lh16 Eh16 h16 => ?_)
            obtain ⟨rfl, rfl, rfl⟩ := h16
            refine q_st (st2 := [.int 0]) rfl ?_
            exact q_iret C dX11_table_69 rfl (Nat.le_of_ble_eq_true rfl) (Nat.le_of_ble_eq_true rfl) (by refine congrArg (fun z => some (Value.int z)) ?_; unfold an_table; (try simp only [inn_f, Decidable.not_not] at c1); (try simp only [i32_lt, i32_le, i32_eq, inn_f, Decidable.not_not, tn_m1, tn_0, tn_1, tn_2, tn_3, tn_4, tn_5, tn_6, tn_7, tn_8, tn_10, tn_30, tn_31, tn_32, tn_36, tn_40, tn_50, tn_100, tn_126, tn_200, tn_255, tn_500, tn_512, tn_3000, tn_5000] at c1); (try simp only [inn_f, Decidable.not_not] at c2); (try simp only [i32_lt, i32_le, i32_eq, inn_f, Decidable.not_not, tn_m1, tn_0, tn_1, tn_2, tn_3, tn_4, tn_5, tn_6, tn_7, tn_8, tn_10, tn_30, tn_31, tn_32, tn_36, tn_40, tn_50, tn_100, tn_126, tn_200, tn_255, tn_500, tn_512, tn_3000, tn_5000] at c2); (try simp only [inn_f, Decidable.not_not] at c3); (try simp only [i32_lt, i32_le, i32_eq, inn_f, Decidable.not_not, tn_m1, tn_0, tn_1, tn_2, tn_3, tn_4, tn_5, tn_6, tn_7, tn_8, tn_10, tn_30, tn_31, tn_32, tn_36, tn_40, tn_50, tn_100, tn_126, tn_200, tn_255, tn_500, tn_512, tn_3000, tn_5000] at c3); (try simp only [inn_f, Decidable.not_not] at c6); (try simp only [i32_lt, i32_le, i32_eq, inn_f, Decidable.not_not, tn_m1, tn_0, tn_1, tn_2, tn_3, tn_4, tn_5, tn_6, tn_7, tn_8, tn_10, tn_30, tn_31, tn_32, tn_36, tn_40, tn_50, tn_100, tn_126, tn_200, tn_255, tn_500, tn_512, tn_3000, tn_5000] at c6); (try simp only [inn_f, Decidable.not_not] at c7); (try simp only [i32_lt, i32_le, i32_eq, inn_f, Decidable.not_not, tn_m1, tn_0, tn_1, tn_2, tn_3, tn_4, tn_5, tn_6, tn_7, tn_8, tn_10, tn_30, tn_31, tn_32, tn_36, tn_40, tn_50, tn_100, tn_126, tn_200, tn_255, tn_500, tn_512, tn_3000, tn_5000] at c7); split <;> rename_i hz <;> (try simp only [i32_lt, i32_le, i32_eq, inn_f, Decidable.not_not, tn_m1, tn_0, tn_1, tn_2, tn_3, tn_4, tn_5, tn_6, tn_7, tn_8, tn_10, tn_30, tn_31, tn_32, tn_36, tn_40, tn_50, tn_100, tn_126, tn_200, tn_255, tn_500, tn_512, tn_3000, tn_5000] at hz) <;> first | rfl | (exfalso; omega) | (rw [i32_eq]; simp only [i32_lt, i32_le, i32_eq, inn_f, Decidable.not_not, tn_m1, tn_0, tn_1, tn_2, tn_3, tn_4, tn_5, tn_6, tn_7, tn_8, tn_10, tn_30, tn_31, tn_32, tn_36, tn_40, tn_50, tn_100, tn_126, tn_200, tn_255, tn_500, tn_512, tn_3000, tn_5000]; omega))
          · refine q_iload_n (j := 1) C dX11_table_42 rfl ?_
            refine q_iconst (v := 4) C dX11_table_43 (by decide) ?_
            refine q_icmp_ne (tgt := 70) C dX11_table_44 (by decide) (fun c8 => ?_) (fun c8 => ?_)
            · refine q_aload_n (j := 0) C dX11_table_70 rfl ?_
              refine q_get (k := 4) (v := .ref tb) C ck_12 dX11_table_71 w2_48 (by decide) hL hE f4 ?_
              refine q_iload_n (j := 3) C dX11_table_74 rfl ?_
              refine q_callV (d2 := 1) (mc2 := 0) (ms2 := 0) (As := [.int b1]) (rest := []) C (c_alive0 b1 hLtb hEtb fT0 fT1 hLmd hEmd fm2 hLch hEch fc2) dX11_table_75 kV_X11_131 rfl hLtb hEtb ck_11 rfl (Nat.le_of_ble_eq_true rfl) ⟨Nat.le_of_ble_eq_true rfl, Nat.le_of_ble_eq_true rfl⟩ ⟨Nat.le_of_ble_eq_true rfl, Nat.le_of_ble_eq_true rfl⟩ (fun vh17 Lh17 Eh17 h17 => ?_)
              obtain ⟨rfl, rfl, rfl⟩ := h17
              refine q_st (st2 := [.null]) rfl ?_
              refine q_astoreN (lv2 := [(4, .null), (0, .ref h0), (1, .int k), (2, .int d1), (3, .int b1)]) C dX11_table_78 (by decide) rfl ?_
              refine q_aloadN (j := 0) C dX11_table_80 rfl ?_
              refine q_ifnullN (tgt := 94) C dX11_table_82 (by decide) ?_
              refine q_aload_n (j := 1) C dX11_table_94 rfl ?_
              refine q_aloadN (j := 0) C dX11_table_95 rfl ?_
              refine q_ifnonnullN C dX11_table_97 ?_
              refine q_iconst (v := 3) C dX11_table_100 (by decide) ?_
              refine q_goto (tgt := 105) C dX11_table_101 (by decide) ?_
              refine q_callV (d2 := 0) (mc2 := 0) (ms2 := 0) (As := [.int 3]) (rest := []) C (c_refuse 3 hL hE) dX11_table_105 kV_X11_102 rfl hL hE ck_12 rfl (Nat.le_of_ble_eq_true rfl) ⟨Nat.le_of_ble_eq_true rfl, Nat.le_of_ble_eq_true rfl⟩ ⟨Nat.le_of_ble_eq_true rfl, Nat.le_of_ble_eq_true rfl⟩ (fun vh18 Lh18 Eh18 h18 => ?_)
              obtain ⟨rfl, rfl, rfl⟩ := h18
              refine q_st (st2 := [.int (-1)]) rfl ?_
              exact q_iret C dX11_table_108 rfl (Nat.le_of_ble_eq_true rfl) (Nat.le_of_ble_eq_true rfl) (by refine congrArg (fun z => some (Value.int z)) ?_; unfold an_table; (try simp only [inn_f, Decidable.not_not] at c1); (try simp only [i32_lt, i32_le, i32_eq, inn_f, Decidable.not_not, tn_m1, tn_0, tn_1, tn_2, tn_3, tn_4, tn_5, tn_6, tn_7, tn_8, tn_10, tn_30, tn_31, tn_32, tn_36, tn_40, tn_50, tn_100, tn_126, tn_200, tn_255, tn_500, tn_512, tn_3000, tn_5000] at c1); (try simp only [inn_f, Decidable.not_not] at c2); (try simp only [i32_lt, i32_le, i32_eq, inn_f, Decidable.not_not, tn_m1, tn_0, tn_1, tn_2, tn_3, tn_4, tn_5, tn_6, tn_7, tn_8, tn_10, tn_30, tn_31, tn_32, tn_36, tn_40, tn_50, tn_100, tn_126, tn_200, tn_255, tn_500, tn_512, tn_3000, tn_5000] at c2); (try simp only [inn_f, Decidable.not_not] at c3); (try simp only [i32_lt, i32_le, i32_eq, inn_f, Decidable.not_not, tn_m1, tn_0, tn_1, tn_2, tn_3, tn_4, tn_5, tn_6, tn_7, tn_8, tn_10, tn_30, tn_31, tn_32, tn_36, tn_40, tn_50, tn_100, tn_126, tn_200, tn_255, tn_500, tn_512, tn_3000, tn_5000] at c3); (try simp only [inn_f, Decidable.not_not] at c6); (try simp only [i32_lt, i32_le, i32_eq, inn_f, Decidable.not_not, tn_m1, tn_0, tn_1, tn_2, tn_3, tn_4, tn_5, tn_6, tn_7, tn_8, tn_10, tn_30, tn_31, tn_32, tn_36, tn_40, tn_50, tn_100, tn_126, tn_200, tn_255, tn_500, tn_512, tn_3000, tn_5000] at c6); (try simp only [inn_f, Decidable.not_not] at c7); (try simp only [i32_lt, i32_le, i32_eq, inn_f, Decidable.not_not, tn_m1, tn_0, tn_1, tn_2, tn_3, tn_4, tn_5, tn_6, tn_7, tn_8, tn_10, tn_30, tn_31, tn_32, tn_36, tn_40, tn_50, tn_100, tn_126, tn_200, tn_255, tn_500, tn_512, tn_3000, tn_5000] at c7); (try simp only [inn_f, Decidable.not_not] at c8); (try simp only [i32_lt, i32_le, i32_eq, inn_f, Decidable.not_not, tn_m1, tn_0, tn_1, tn_2, tn_3, tn_4, tn_5, tn_6, tn_7, tn_8, tn_10, tn_30, tn_31, tn_32, tn_36, tn_40, tn_50, tn_100, tn_126, tn_200, tn_255, tn_500, tn_512, tn_3000, tn_5000] at c8); split <;> rename_i hz <;> (try simp only [i32_lt, i32_le, i32_eq, inn_f, Decidable.not_not, tn_m1, tn_0, tn_1, tn_2, tn_3, tn_4, tn_5, tn_6, tn_7, tn_8, tn_10, tn_30, tn_31, tn_32, tn_36, tn_40, tn_50, tn_100, tn_126, tn_200, tn_255, tn_500, tn_512, tn_3000, tn_5000] at hz) <;> first | rfl | (exfalso; omega) | (rw [i32_eq]; simp only [i32_lt, i32_le, i32_eq, inn_f, Decidable.not_not, tn_m1, tn_0, tn_1, tn_2, tn_3, tn_4, tn_5, tn_6, tn_7, tn_8, tn_10, tn_30, tn_31, tn_32, tn_36, tn_40, tn_50, tn_100, tn_126, tn_200, tn_255, tn_500, tn_512, tn_3000, tn_5000]; omega))
            · refine q_aload_n (j := 0) C dX11_table_47 rfl ?_
              refine q_aload_n (j := 0) C dX11_table_48 rfl ?_
              refine q_get (k := 4) (v := .ref tb) C ck_12 dX11_table_49 w2_48 (by decide) hL hE f4 ?_
              refine q_new C ck_10 dX11_table_52 w2_162 w2_163 w1_16 ⟨Nat.le_of_ble_eq_true rfl, Nat.le_of_ble_eq_true rfl⟩ (fun q4 nq4 => ?_)
              have ne_h0_q4 : h0 ≠ q4 := (ne_in hL nq4)
              have ne_tp_q4 : tp ≠ q4 := (ne_in hLtp nq4)
              have ne_qt_q4 : qt ≠ q4 := (ne_in hLqt nq4)
              have ne_wr_q4 : wr ≠ q4 := (ne_in hLwr nq4)
              have ne_br_q4 : br ≠ q4 := (ne_in hLbr nq4)
              have ne_hd_q4 : hd ≠ q4 := (ne_in hLhd nq4)
              have ne_tb_q4 : tb ≠ q4 := (ne_in hLtb nq4)
              have ne_md_q4 : md ≠ q4 := (ne_in hLmd nq4)
              have ne_ch_q4 : ch ≠ q4 := (ne_in hLch nq4)
              have ne_wd_q4 : wd ≠ q4 := (ne_in hLwd nq4)
              have ne_fi_q4 : fi ≠ q4 := (ne_in hLfi nq4)
              have ne_fo_q4 : fo ≠ q4 := (ne_in hLfo nq4)
              have ne_sh_q4 : sh ≠ q4 := (ne_in hLsh nq4)
              refine q_dup C dX11_table_55 rfl ?_
              refine q_iload_n (j := 1) C dX11_table_56 rfl ?_
              refine q_iload_n (j := 2) C dX11_table_57 rfl ?_
              refine q_null C dX11_table_58 ?_
              refine q_null C dX11_table_59 ?_
              refine q_callI (d2 := 4) (mc2 := 4) (ms2 := 26) (As := [.int k, .int d1, .null, .null]) (rest := [.ref q4, .ref tb, .ref h0]) C (c_Table_init k d1 (List.mem_append_right _ (List.mem_singleton.mpr rfl)) (va_up_self _ _ _)) dX11_table_60 kI_X11_124 rfl rfl (Nat.le_of_ble_eq_true rfl) ⟨Nat.le_of_ble_eq_true rfl, Nat.le_of_ble_eq_true rfl⟩ ⟨Nat.le_of_ble_eq_true rfl, Nat.le_of_ble_eq_true rfl⟩ (fun vh19 Lh19 Eh19 h19 => ?_)
              obtain ⟨rfl, h19a, h19b, gh19, h19c⟩ := h19
              have et40 := (h19b _ (List.mem_append_left _ hL) ne_h0_q4).trans ((va_up_ne _ _ ne_h0_q4).trans hE)
              have lt40 := h19a _ (List.mem_append_left _ hL)
              have et41 := (h19b _ (List.mem_append_left _ hLtp) ne_tp_q4).trans ((va_up_ne _ _ ne_tp_q4).trans hEtp)
              have lt41 := h19a _ (List.mem_append_left _ hLtp)
              have et42 := (h19b _ (List.mem_append_left _ hLqt) ne_qt_q4).trans ((va_up_ne _ _ ne_qt_q4).trans hEqt)
              have lt42 := h19a _ (List.mem_append_left _ hLqt)
              have et43 := (h19b _ (List.mem_append_left _ hLwr) ne_wr_q4).trans ((va_up_ne _ _ ne_wr_q4).trans hEwr)
              have lt43 := h19a _ (List.mem_append_left _ hLwr)
              have et44 := (h19b _ (List.mem_append_left _ hLbr) ne_br_q4).trans ((va_up_ne _ _ ne_br_q4).trans hEbr)
              have lt44 := h19a _ (List.mem_append_left _ hLbr)
              have et45 := (h19b _ (List.mem_append_left _ hLhd) ne_hd_q4).trans ((va_up_ne _ _ ne_hd_q4).trans hEhd)
              have lt45 := h19a _ (List.mem_append_left _ hLhd)
              have et46 := (h19b _ (List.mem_append_left _ hLtb) ne_tb_q4).trans ((va_up_ne _ _ ne_tb_q4).trans hEtb)
              have lt46 := h19a _ (List.mem_append_left _ hLtb)
              have et47 := (h19b _ (List.mem_append_left _ hLmd) ne_md_q4).trans ((va_up_ne _ _ ne_md_q4).trans hEmd)
              have lt47 := h19a _ (List.mem_append_left _ hLmd)
              have et48 := (h19b _ (List.mem_append_left _ hLch) ne_ch_q4).trans ((va_up_ne _ _ ne_ch_q4).trans hEch)
              have lt48 := h19a _ (List.mem_append_left _ hLch)
              have et49 := (h19b _ (List.mem_append_left _ hLwd) ne_wd_q4).trans ((va_up_ne _ _ ne_wd_q4).trans hEwd)
              have lt49 := h19a _ (List.mem_append_left _ hLwd)
              have et50 := (h19b _ (List.mem_append_left _ hLfi) ne_fi_q4).trans ((va_up_ne _ _ ne_fi_q4).trans hEfi)
              have lt50 := h19a _ (List.mem_append_left _ hLfi)
              have et51 := (h19b _ (List.mem_append_left _ hLfo) ne_fo_q4).trans ((va_up_ne _ _ ne_fo_q4).trans hEfo)
              have lt51 := h19a _ (List.mem_append_left _ hLfo)
              have et52 := (h19b _ (List.mem_append_left _ hLsh) ne_sh_q4).trans ((va_up_ne _ _ ne_sh_q4).trans hEsh)
              have lt52 := h19a _ (List.mem_append_left _ hLsh)
              refine q_st (st2 := [.ref q4, .ref tb, .ref h0]) rfl ?_
              refine q_callV (d2 := 6) (mc2 := 3) (ms2 := 24) (As := [.ref q4]) (rest := [.ref h0]) C (c_make (f := fT) (fm := fm) (fc := fc) lt46 et46 fT0 fT1 lt47 et47 fm0 fm1 fm2 lt48 et48 fc0 fc1 fc2 nmc (h19a _ (List.mem_append_right _ (List.mem_singleton.mpr rfl))) h19c) dX11_table_63 kV_X11_127 rfl lt46 et46 ck_11 rfl (Nat.le_of_ble_eq_true rfl) ⟨Nat.le_of_ble_eq_true rfl, Nat.le_of_ble_eq_true rfl⟩ ⟨Nat.le_of_ble_eq_true rfl, Nat.le_of_ble_eq_true rfl⟩ (fun vh20 Lh20 Eh20 h20 => ?_)
              obtain ⟨rfl, h20a, h20b⟩ := h20
              refine q_st (st2 := [.int 0, .ref h0]) rfl ?_
              refine q_callV (d2 := 0) (mc2 := 0) (ms2 := 0) (As := [.int 0]) (rest := []) C (c_done 0 (h20a _ lt40) ((h20b _ lt40 (ne_ob hE hEmd (by decide)) (ne_ob hE hEch (by decide))).trans et40)) dX11_table_66 kV_X11_109 rfl (h20a _ lt40) ((h20b _ lt40 (ne_ob hE hEmd (by decide)) (ne_ob hE hEch (by decide))).trans et40) ck_12 rfl (Nat.le_of_ble_eq_true rfl) ⟨Nat.le_of_ble_eq_true rfl, Nat.le_of_ble_eq_true rfl⟩ ⟨Nat.le_of_ble_eq_true rfl, Nat.le_of_ble_eq_true rfl⟩ (fun vh21 Lh21 Eh21 h21 => ?_)
              obtain ⟨rfl, rfl, rfl⟩ := h21
              refine q_st (st2 := [.int 0]) rfl ?_
              exact q_iret C dX11_table_69 rfl (Nat.le_of_ble_eq_true rfl) (Nat.le_of_ble_eq_true rfl) (by refine congrArg (fun z => some (Value.int z)) ?_; unfold an_table; (try simp only [inn_f, Decidable.not_not] at c1); (try simp only [i32_lt, i32_le, i32_eq, inn_f, Decidable.not_not, tn_m1, tn_0, tn_1, tn_2, tn_3, tn_4, tn_5, tn_6, tn_7, tn_8, tn_10, tn_30, tn_31, tn_32, tn_36, tn_40, tn_50, tn_100, tn_126, tn_200, tn_255, tn_500, tn_512, tn_3000, tn_5000] at c1); (try simp only [inn_f, Decidable.not_not] at c2); (try simp only [i32_lt, i32_le, i32_eq, inn_f, Decidable.not_not, tn_m1, tn_0, tn_1, tn_2, tn_3, tn_4, tn_5, tn_6, tn_7, tn_8, tn_10, tn_30, tn_31, tn_32, tn_36, tn_40, tn_50, tn_100, tn_126, tn_200, tn_255, tn_500, tn_512, tn_3000, tn_5000] at c2); (try simp only [inn_f, Decidable.not_not] at c3); (try simp only [i32_lt, i32_le, i32_eq, inn_f, Decidable.not_not, tn_m1, tn_0, tn_1, tn_2, tn_3, tn_4, tn_5, tn_6, tn_7, tn_8, tn_10, tn_30, tn_31, tn_32, tn_36, tn_40, tn_50, tn_100, tn_126, tn_200, tn_255, tn_500, tn_512, tn_3000, tn_5000] at c3); (try simp only [inn_f, Decidable.not_not] at c6); (try simp only [i32_lt, i32_le, i32_eq, inn_f, Decidable.not_not, tn_m1, tn_0, tn_1, tn_2, tn_3, tn_4, tn_5, tn_6, tn_7, tn_8, tn_10, tn_30, tn_31, tn_32, tn_36, tn_40, tn_50, tn_100, tn_126, tn_200, tn_255, tn_500, tn_512, tn_3000, tn_5000] at c6); (try simp only [inn_f, Decidable.not_not] at c7); (try simp only [i32_lt, i32_le, i32_eq, inn_f, Decidable.not_not, tn_m1, tn_0, tn_1, tn_2, tn_3, tn_4, tn_5, tn_6, tn_7, tn_8, tn_10, tn_30, tn_31, tn_32, tn_36, tn_40, tn_50, tn_100, tn_126, tn_200, tn_255, tn_500, tn_512, tn_3000, tn_5000] at c7); (try simp only [inn_f, Decidable.not_not] at c8); (try simp only [i32_lt, i32_le, i32_eq, inn_f, Decidable.not_not, tn_m1, tn_0, tn_1, tn_2, tn_3, tn_4, tn_5, tn_6, tn_7, tn_8, tn_10, tn_30, tn_31, tn_32, tn_36, tn_40, tn_50, tn_100, tn_126, tn_200, tn_255, tn_500, tn_512, tn_3000, tn_5000] at c8); split <;> rename_i hz <;> (try simp only [i32_lt, i32_le, i32_eq, inn_f, Decidable.not_not, tn_m1, tn_0, tn_1, tn_2, tn_3, tn_4, tn_5, tn_6, tn_7, tn_8, tn_10, tn_30, tn_31, tn_32, tn_36, tn_40, tn_50, tn_100, tn_126, tn_200, tn_255, tn_500, tn_512, tn_3000, tn_5000] at hz) <;> first | rfl | (exfalso; omega) | (rw [i32_eq]; simp only [i32_lt, i32_le, i32_eq, inn_f, Decidable.not_not, tn_m1, tn_0, tn_1, tn_2, tn_3, tn_4, tn_5, tn_6, tn_7, tn_8, tn_10, tn_30, tn_31, tn_32, tn_36, tn_40, tn_50, tn_100, tn_126, tn_200, tn_255, tn_500, tn_512, tn_3000, tn_5000]; omega))
