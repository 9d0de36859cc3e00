def an_end (n : Int32) : Int32 := if n = 0 then 0 else -1
def an_meas (w h y : Int32) : Int32 := if (1 ≤ w ∧ w ≤ 100) ∧ (1 ≤ h ∧ h ≤ 50) ∧ (1 ≤ y ∧ y ≤ 255) then 1 else -1
def an_fail (d z : Int32) : Int32 := if 0 ≤ d ∧ d ≤ 7 then (if z = 0 then bc ((0 : Int32) &&& (((1 : Int32) <<< (d &&& 31)) ^^^ (-1))) else bc ((0 : Int32) ||| ((1 : Int32) <<< (d &&& 31)))) else -1
set_option maxHeartbeats 4000000 in
set_option maxRecDepth 100000 in
theorem x_place {l : Launch} {G : GT} {L : List Nat} {E : Nat → va_E}  {h0 : Nat} {f : Nat → Value} (hL : h0 ∈ L) (hE : E h0 = ob 12 19 f) (f18 : f 18 = .int (-1)) : Mq l G yX11_place cX11_place 1 (some .int) 5 [.ref h0] L E 0 0 (fun v L2 E2 => v = some (.int (-1))) := by
  refine Mq.mk (by decide) (Nat.le_of_ble_eq_true rfl) ?_
  intro p e s m args below meth c A C
  refine q_aload_n (j := 0) C dX11_place_0 rfl ?_
  refine q_get (k := 18) (v := .int (-1)) C ck_12 dX11_place_1 w2_62 (by decide) hL hE f18 ?_
  exact q_iret C dX11_place_4 rfl (Nat.le_of_ble_eq_true rfl) (Nat.le_of_ble_eq_true rfl) rfl
set_option maxHeartbeats 4000000 in
set_option maxRecDepth 100000 in
theorem x_status {l : Launch} {G : GT} {L : List Nat} {E : Nat → va_E}  {h0 : Nat} {f : Nat → Value} (hL : h0 ∈ L) (hE : E h0 = ob 12 19 f) (f17 : f 17 = .int 0) : Mq l G yX11_status cX11_status 1 (some .int) 5 [.ref h0] L E 0 0 (fun v L2 E2 => v = some (.int 0)) := by
  refine Mq.mk (by decide) (Nat.le_of_ble_eq_true rfl) ?_
  intro p e s m args below meth c A C
  refine q_aload_n (j := 0) C dX11_status_0 rfl ?_
  refine q_get (k := 17) (v := .int 0) C ck_12 dX11_status_1 w2_61 (by decide) hL hE f17 ?_
  exact q_iret C dX11_status_4 rfl (Nat.le_of_ble_eq_true rfl) (Nat.le_of_ble_eq_true rfl) rfl
set_option maxHeartbeats 4000000 in
set_option maxRecDepth 100000 in
theorem x_closed {l : Launch} {G : GT} {L : List Nat} {E : Nat → va_E}  {h0 : Nat} {f : Nat → Value} (hL : h0 ∈ L) (hE : E h0 = ob 12 19 f) (f16 : f 16 = .int 0) : Mq l G yX11_closed cX11_closed 1 (some .int) 5 [.ref h0] L E 0 0 (fun v L2 E2 => v = some (.int 0)) := by
  refine Mq.mk (by decide) (Nat.le_of_ble_eq_true rfl) ?_
  intro p e s m args below meth c A C
  refine q_aload_n (j := 0) C dX11_closed_0 rfl ?_
  refine q_get (k := 16) (v := .int 0) C ck_12 dX11_closed_1 w2_60 (by decide) hL hE f16 ?_
  exact q_iret C dX11_closed_4 rfl (Nat.le_of_ble_eq_true rfl) (Nat.le_of_ble_eq_true rfl) rfl
set_option maxHeartbeats 4000000 in
set_option maxRecDepth 100000 in
theorem x_copied {l : Launch} {G : GT} {L : List Nat} {E : Nat → va_E}  {h0 : Nat} {f : Nat → Value} (hL : h0 ∈ L) (hE : E h0 = ob 12 19 f) (f15 : f 15 = .int 0) : Mq l G yX11_copied cX11_copied 1 (some .int) 5 [.ref h0] L E 0 0 (fun v L2 E2 => v = some (.int 0)) := by
  refine Mq.mk (by decide) (Nat.le_of_ble_eq_true rfl) ?_
  intro p e s m args below meth c A C
  refine q_aload_n (j := 0) C dX11_copied_0 rfl ?_
  refine q_get (k := 15) (v := .int 0) C ck_12 dX11_copied_1 w2_59 (by decide) hL hE f15 ?_
  exact q_iret C dX11_copied_4 rfl (Nat.le_of_ble_eq_true rfl) (Nat.le_of_ble_eq_true rfl) rfl
set_option maxHeartbeats 4000000 in
set_option maxRecDepth 100000 in
theorem x_lines {l : Launch} {G : GT} {L : List Nat} {E : Nat → va_E}  {h0 sh : Nat} {f fs : Nat → Value} (hL : h0 ∈ L) (hE : E h0 = ob 12 19 f) (f9 : f 9 = .ref sh) (hLsh : sh ∈ L) (hEsh : E sh = ob 8 3 fs) (fs1 : fs 1 = .int 0) : Mq l G yX11_lines cX11_lines 1 (some .int) 5 [.ref h0] L E 0 0 (fun v L2 E2 => v = some (.int 0)) := by
  refine Mq.mk (by decide) (Nat.le_of_ble_eq_true rfl) ?_
  intro p e s m args below meth c A C
  refine q_aload_n (j := 0) C dX11_lines_0 rfl ?_
  refine q_get (k := 9) (v := .ref sh) C ck_12 dX11_lines_1 w2_53 (by decide) hL hE f9 ?_
  refine q_get (k := 1) (v := .int 0) C ck_8 dX11_lines_4 w2_35 (by decide) hLsh hEsh fs1 ?_
  exact q_iret C dX11_lines_7 rfl (Nat.le_of_ble_eq_true rfl) (Nat.le_of_ble_eq_true rfl) rfl
set_option maxHeartbeats 4000000 in
set_option maxRecDepth 100000 in
theorem x_more {l : Launch} {G : GT} {L : List Nat} {E : Nat → va_E}  {h0 fo : Nat} {f ff : Nat → Value} (hL : h0 ∈ L) (hE : E h0 = ob 12 19 f) (f8 : f 8 = .ref fo) (hLfo : fo ∈ L) (hEfo : E fo = ob 5 11 ff) (ff6 : ff 6 = .int 0) : Mq l G yX11_more cX11_more 1 (some .int) 5 [.ref h0] L E 0 0 (fun v L2 E2 => v = some (.int 0)) := by
  refine Mq.mk (by decide) (Nat.le_of_ble_eq_true rfl) ?_
  intro p e s m args below meth c A C
  refine q_aload_n (j := 0) C dX11_more_0 rfl ?_
  refine q_get (k := 8) (v := .ref fo) C ck_12 dX11_more_1 w2_52 (by decide) hL hE f8 ?_
  refine q_get (k := 6) (v := .int 0) C ck_5 dX11_more_4 w1_237 (by decide) hLfo hEfo ff6 ?_
  refine q_if_eq (tgt := 14) C dX11_more_7 (by decide) (fun _ => ?_) (fun z => absurd (by decide) z)
  refine q_iconst (v := 0) C dX11_more_14 (by decide) ?_
  exact q_iret C dX11_more_15 rfl (Nat.le_of_ble_eq_true rfl) (Nat.le_of_ble_eq_true rfl) rfl
set_option maxHeartbeats 4000000 in
set_option maxRecDepth 100000 in
theorem x_drop {l : Launch} {G : GT} {L : List Nat} {E : Nat → va_E} (t : Int32)  {h0 tb md ch : Nat} {f fT fm fc : Nat → Value} (hL : h0 ∈ L) (hE : E h0 = ob 12 19 f) (f4 : f 4 = .ref tb) (hLtb : tb ∈ L) (hEtb : E tb = ob 11 2 fT) (fT0 : fT 0 = .ref md) (fT1 : fT 1 = .ref ch) (hLmd : md ∈ L) (hEmd : E md = ob 0 3 fm) (fm2 : fm 2 = .int 0) (hLch : ch ∈ L) (hEch : E ch = ob 0 3 fc) (fc2 : fc 2 = .int 0) : Mq l G yX11_drop cX11_drop 3 (some .int) 5 [.ref h0, .int t] L E 0 0 (fun v L2 E2 => v = some (.int (-1))) := by
  refine Mq.mk (by decide) (Nat.le_of_ble_eq_true rfl) ?_
  intro p e s m args below meth c A C
  refine q_aload_n (j := 0) C dX11_drop_0 rfl ?_
  refine q_get (k := 4) (v := .ref tb) C ck_12 dX11_drop_1 w2_48 (by decide) hL hE f4 ?_
  refine q_iload_n (j := 1) C dX11_drop_4 rfl ?_
  refine q_callV (As := [.int t]) (rest := []) C (c_alive0 t hLtb hEtb fT0 fT1 hLmd hEmd fm2 hLch hEch fc2) dX11_drop_5 kV_X11_131 rfl hLtb hEtb ck_11 rfl (Nat.le_of_ble_eq_true rfl) ⟨Nat.le_of_ble_eq_true rfl, Nat.le_of_ble_eq_true rfl⟩ ⟨Nat.le_of_ble_eq_true rfl, Nat.le_of_ble_eq_true rfl⟩ (fun vh1 Lh1 Eh1 h1 => ?_)
  obtain ⟨rfl, rfl, rfl⟩ := h1
  refine q_st (st2 := [.null]) rfl ?_
  refine q_astore_nN (lv2 := [(2, .null), (0, .ref h0), (1, .int t)]) C dX11_drop_8 (by decide) rfl ?_
  refine q_aload_nN (j := 0) C dX11_drop_9 rfl ?_
  refine q_ifnonnullN C dX11_drop_10 ?_
  refine q_aload_n (j := 1) C dX11_drop_13 rfl ?_
  refine q_iconst (v := 3) C dX11_drop_14 (by decide) ?_
  refine q_callV (As := [.int 3]) (rest := []) C (c_refuse 3 hL hE) dX11_drop_15 kV_X11_102 rfl hL hE ck_12 rfl (Nat.le_of_ble_eq_true rfl) ⟨Nat.le_of_ble_eq_true rfl, Nat.le_of_ble_eq_true rfl⟩ ⟨Nat.le_of_ble_eq_true rfl, Nat.le_of_ble_eq_true rfl⟩ (fun vh2 Lh2 Eh2 h2 => ?_)
  obtain ⟨rfl, rfl, rfl⟩ := h2
  refine q_st (st2 := [.int (-1)]) rfl ?_
  exact q_iret C dX11_drop_18 rfl (Nat.le_of_ble_eq_true rfl) (Nat.le_of_ble_eq_true rfl) rfl
set_option maxHeartbeats 4000000 in
set_option maxRecDepth 100000 in
theorem x_judge {l : Launch} {G : GT} {L : List Nat} {E : Nat → va_E} (t : Int32)  {h0 tb md ch : Nat} {f fT fm fc : Nat → Value} (hL : h0 ∈ L) (hE : E h0 = ob 12 19 f) (f4 : f 4 = .ref tb) (hLtb : tb ∈ L) (hEtb : E tb = ob 11 2 fT) (fT0 : fT 0 = .ref md) (fT1 : fT 1 = .ref ch) (hLmd : md ∈ L) (hEmd : E md = ob 0 3 fm) (fm2 : fm 2 = .int 0) (hLch : ch ∈ L) (hEch : E ch = ob 0 3 fc) (fc2 : fc 2 = .int 0) : Mq l G yX11_judge cX11_judge 4 (some .int) 5 [.ref h0, .int t] L E 0 0 (fun v L2 E2 => v = some (.int (-1))) := by
  refine Mq.mk (by decide) (Nat.le_of_ble_eq_true rfl) ?_
  intro p e s m args below meth c A C
  refine q_aload_n (j := 0) C dX11_judge_0 rfl ?_
  refine q_get (k := 4) (v := .ref tb) C ck_12 dX11_judge_1 w2_48 (by decide) hL hE f4 ?_
  refine q_iload_n (j := 1) C dX11_judge_4 rfl ?_
  refine q_callV (As := [.int t]) (rest := []) C (c_alive0 t hLtb hEtb fT0 fT1 hLmd hEmd fm2 hLch hEch fc2) dX11_judge_5 kV_X11_131 rfl hLtb hEtb ck_11 rfl (Nat.le_of_ble_eq_true rfl) ⟨Nat.le_of_ble_eq_true rfl, Nat.le_of_ble_eq_true rfl⟩ ⟨Nat.le_of_ble_eq_true rfl, Nat.le_of_ble_eq_true rfl⟩ (fun vh1 Lh1 Eh1 h1 => ?_)
  obtain ⟨rfl, rfl, rfl⟩ := h1
  refine q_st (st2 := [.null]) rfl ?_
  refine q_astore_nN (lv2 := [(2, .null), (0, .ref h0), (1, .int t)]) C dX11_judge_8 (by decide) rfl ?_
  refine q_aload_nN (j := 0) C dX11_judge_9 rfl ?_
  refine q_ifnonnullN C dX11_judge_10 ?_
  refine q_aload_n (j := 1) C dX11_judge_13 rfl ?_
  refine q_iconst (v := 3) C dX11_judge_14 (by decide) ?_
  refine q_callV (As := [.int 3]) (rest := []) C (c_refuse 3 hL hE) dX11_judge_15 kV_X11_102 rfl hL hE ck_12 rfl (Nat.le_of_ble_eq_true rfl) ⟨Nat.le_of_ble_eq_true rfl, Nat.le_of_ble_eq_true rfl⟩ ⟨Nat.le_of_ble_eq_true rfl, Nat.le_of_ble_eq_true rfl⟩ (fun vh2 Lh2 Eh2 h2 => ?_)
  obtain ⟨rfl, rfl, rfl⟩ := h2
  refine q_st (st2 := [.int (-1)]) rfl ?_
  exact q_iret C dX11_judge_18 rfl (Nat.le_of_ble_eq_true rfl) (Nat.le_of_ble_eq_true rfl) rfl
set_option maxHeartbeats 4000000 in
set_option maxRecDepth 100000 in
theorem x_set {l : Launch} {G : GT} {L : List Nat} {E : Nat → va_E} (t : Int32)  {h0 tb md ch : Nat} {f fT fm fc : Nat → Value} (hL : h0 ∈ L) (hE : E h0 = ob 12 19 f) (f4 : f 4 = .ref tb) (hLtb : tb ∈ L) (hEtb : E tb = ob 11 2 fT) (fT0 : fT 0 = .ref md) (fT1 : fT 1 = .ref ch) (hLmd : md ∈ L) (hEmd : E md = ob 0 3 fm) (fm2 : fm 2 = .int 0) (hLch : ch ∈ L) (hEch : E ch = ob 0 3 fc) (fc2 : fc 2 = .int 0) : Mq l G yX11_set cX11_set 7 (some .int) 5 [.ref h0, .int t] L E 0 0 (fun v L2 E2 => v = some (.int (-1))) := by
  refine Mq.mk (by decide) (Nat.le_of_ble_eq_true rfl) ?_
  intro p e s m args below meth c A C
  refine q_aload_n (j := 0) C dX11_set_0 rfl ?_
  refine q_get (k := 4) (v := .ref tb) C ck_12 dX11_set_1 w2_48 (by decide) hL hE f4 ?_
  refine q_iload_n (j := 1) C dX11_set_4 rfl ?_
  refine q_callV (As := [.int t]) (rest := []) C (c_whole0 t hLtb hEtb fT0 fT1 hLmd hEmd fm2 hLch hEch fc2) dX11_set_5 kV_X11_231 rfl hLtb hEtb ck_11 rfl (Nat.le_of_ble_eq_true rfl) ⟨Nat.le_of_ble_eq_true rfl, Nat.le_of_ble_eq_true rfl⟩ ⟨Nat.le_of_ble_eq_true rfl, Nat.le_of_ble_eq_true rfl⟩ (fun vh1 Lh1 Eh1 h1 => ?_)
  obtain ⟨rfl, rfl, rfl⟩ := h1
  refine q_st (st2 := [.null]) rfl ?_
  refine q_astore_nN (lv2 := [(2, .null), (0, .ref h0), (1, .int t)]) C dX11_set_8 (by decide) rfl ?_
  refine q_aload_nN (j := 0) C dX11_set_9 rfl ?_
  refine q_ifnonnullN C dX11_set_10 ?_
  refine q_aload_n (j := 1) C dX11_set_13 rfl ?_
  refine q_iconst (v := 3) C dX11_set_14 (by decide) ?_
  refine q_callV (As := [.int 3]) (rest := []) C (c_refuse 3 hL hE) dX11_set_15 kV_X11_102 rfl hL hE ck_12 rfl (Nat.le_of_ble_eq_true rfl) ⟨Nat.le_of_ble_eq_true rfl, Nat.le_of_ble_eq_true rfl⟩ ⟨Nat.le_of_ble_eq_true rfl, Nat.le_of_ble_eq_true rfl⟩ (fun vh2 Lh2 Eh2 h2 => ?_)
  obtain ⟨rfl, rfl, rfl⟩ := h2
  refine q_st (st2 := [.int (-1)]) rfl ?_
  exact q_iret C dX11_set_18 rfl (Nat.le_of_ble_eq_true rfl) (Nat.le_of_ble_eq_true rfl) rfl
set_option maxHeartbeats 4000000 in
set_option maxRecDepth 100000 in
theorem x_join {l : Launch} {G : GT} {L : List Nat} {E : Nat → va_E} (a b : Int32)  {h0 tb md ch : Nat} {f fT fm fc : Nat → Value} (hL : h0 ∈ L) (hE : E h0 = ob 12 19 f) (f4 : f 4 = .ref tb) (hLtb : tb ∈ L) (hEtb : E tb = ob 11 2 fT) (fT0 : fT 0 = .ref md) (fT1 : fT 1 = .ref ch) (hLmd : md ∈ L) (hEmd : E md = ob 0 3 fm) (fm2 : fm 2 = .int 0) (hLch : ch ∈ L) (hEch : E ch = ob 0 3 fc) (fc2 : fc 2 = .int 0) : Mq l G yX11_join cX11_join 5 (some .int) 5 [.ref h0, .int a, .int b] L E 0 0 (fun v L2 E2 => v = some (.int (-1))) := by
  refine Mq.mk (by decide) (Nat.le_of_ble_eq_true rfl) ?_
  intro p e s m args below meth c A C
  refine q_aload_n (j := 0) C dX11_join_0 rfl ?_
  refine q_get (k := 4) (v := .ref tb) C ck_12 dX11_join_1 w2_48 (by decide) hL hE f4 ?_
  refine q_iload_n (j := 1) C dX11_join_4 rfl ?_
  refine q_callV (As := [.int a]) (rest := []) C (c_alive0 a hLtb hEtb fT0 fT1 hLmd hEmd fm2 hLch hEch fc2) dX11_join_5 kV_X11_131 rfl hLtb hEtb ck_11 rfl (Nat.le_of_ble_eq_true rfl) ⟨Nat.le_of_ble_eq_true rfl, Nat.le_of_ble_eq_true rfl⟩ ⟨Nat.le_of_ble_eq_true rfl, Nat.le_of_ble_eq_true rfl⟩ (fun vh1 Lh1 Eh1 h1 => ?_)
  obtain ⟨rfl, rfl, rfl⟩ := h1
  refine q_st (st2 := [.null]) rfl ?_
  refine q_astore_nN (lv2 := [(3, .null), (0, .ref h0), (1, .int a), (2, .int b)]) C dX11_join_8 (by decide) rfl ?_
  refine q_aload_nN (j := 0) C dX11_join_9 rfl ?_
  refine q_ifnullN (tgt := 21) C dX11_join_10 (by decide) ?_
  refine q_aload_n (j := 1) C dX11_join_21 rfl ?_
  refine q_aload_nN (j := 0) C dX11_join_22 rfl ?_
  refine q_ifnonnullN C dX11_join_23 ?_
  refine q_iconst (v := 3) C dX11_join_26 (by decide) ?_
  refine q_goto (tgt := 31) C dX11_join_27 (by decide) ?_
  refine q_callV (As := [.int 3]) (rest := []) C (c_refuse 3 hL hE) dX11_join_31 kV_X11_102 rfl hL hE ck_12 rfl (Nat.le_of_ble_eq_true rfl) ⟨Nat.le_of_ble_eq_true rfl, Nat.le_of_ble_eq_true rfl⟩ ⟨Nat.le_of_ble_eq_true rfl, Nat.le_of_ble_eq_true rfl⟩ (fun vh2 Lh2 Eh2 h2 => ?_)
  obtain ⟨rfl, rfl, rfl⟩ := h2
  refine q_st (st2 := [.int (-1)]) rfl ?_
  exact q_iret C dX11_join_34 rfl (Nat.le_of_ble_eq_true rfl) (Nat.le_of_ble_eq_true rfl) rfl
set_option maxHeartbeats 4000000 in
set_option maxRecDepth 100000 in
theorem x_condition {l : Launch} {G : GT} {L : List Nat} {E : Nat → va_E} (t r k : Int32)  {h0 tb md ch : Nat} {f fT fm fc : Nat → Value} (hL : h0 ∈ L) (hE : E h0 = ob 12 19 f) (f4 : f 4 = .ref tb) (hLtb : tb ∈ L) (hEtb : E tb = ob 11 2 fT) (fT0 : fT 0 = .ref md) (fT1 : fT 1 = .ref ch) (hLmd : md ∈ L) (hEmd : E md = ob 0 3 fm) (fm2 : fm 2 = .int 0) (hLch : ch ∈ L) (hEch : E ch = ob 0 3 fc) (fc2 : fc 2 = .int 0) : Mq l G yX11_condition cX11_condition 7 (some .int) 5 [.ref h0, .int t, .int r, .int k] L E 0 0 (fun v L2 E2 => v = some (.int (-1))) := by
  refine Mq.mk (by decide) (Nat.le_of_ble_eq_true rfl) ?_
  intro p e s m args below meth c A C
  refine q_aload_n (j := 0) C dX11_condition_0 rfl ?_
  refine q_get (k := 4) (v := .ref tb) C ck_12 dX11_condition_1 w2_48 (by decide) hL hE f4 ?_
  refine q_iload_n (j := 1) C dX11_condition_4 rfl ?_
  refine q_callV (As := [.int t]) (rest := []) C (c_alive0 t hLtb hEtb fT0 fT1 hLmd hEmd fm2 hLch hEch fc2) dX11_condition_5 kV_X11_131 rfl hLtb hEtb ck_11 rfl (Nat.le_of_ble_eq_true rfl) ⟨Nat.le_of_ble_eq_true rfl, Nat.le_of_ble_eq_true rfl⟩ ⟨Nat.le_of_ble_eq_true rfl, Nat.le_of_ble_eq_true rfl⟩ (fun vh1 Lh1 Eh1 h1 => ?_)
  obtain ⟨rfl, rfl, rfl⟩ := h1
  refine q_st (st2 := [.null]) rfl ?_
  refine q_astoreN (lv2 := [(4, .null), (0, .ref h0), (1, .int t), (2, .int r), (3, .int k)]) C dX11_condition_8 (by decide) rfl ?_
  refine q_aloadN (j := 0) C dX11_condition_10 rfl ?_
  refine q_ifnonnullN C dX11_condition_12 ?_
  refine q_aload_n (j := 1) C dX11_condition_15 rfl ?_
  refine q_iconst (v := 3) C dX11_condition_16 (by decide) ?_
  refine q_callV (As := [.int 3]) (rest := []) C (c_refuse 3 hL hE) dX11_condition_17 kV_X11_102 rfl hL hE ck_12 rfl (Nat.le_of_ble_eq_true rfl) ⟨Nat.le_of_ble_eq_true rfl, Nat.le_of_ble_eq_true rfl⟩ ⟨Nat.le_of_ble_eq_true rfl, Nat.le_of_ble_eq_true rfl⟩ (fun vh2 Lh2 Eh2 h2 => ?_)
  obtain ⟨rfl, rfl, rfl⟩ := h2
  refine q_st (st2 := [.int (-1)]) rfl ?_
  exact q_iret C dX11_condition_20 rfl (Nat.le_of_ble_eq_true rfl) (Nat.le_of_ble_eq_true rfl) rfl
set_option maxHeartbeats 4000000 in
set_option maxRecDepth 100000 in
theorem x_parts {l : Launch} {G : GT} {L : List Nat} {E : Nat → va_E} (t a b : Int32)  {h0 tb md ch : Nat} {f fT fm fc : Nat → Value} (hL : h0 ∈ L) (hE : E h0 = ob 12 19 f) (f4 : f 4 = .ref tb) (hLtb : tb ∈ L) (hEtb : E tb = ob 11 2 fT) (fT0 : fT 0 = .ref md) (fT1 : fT 1 = .ref ch) (hLmd : md ∈ L) (hEmd : E md = ob 0 3 fm) (fm2 : fm 2 = .int 0) (hLch : ch ∈ L) (hEch : E ch = ob 0 3 fc) (fc2 : fc 2 = .int 0) : Mq l G yX11_parts cX11_parts 10 (some .int) 5 [.ref h0, .int t, .int a, .int b] L E 0 0 (fun v L2 E2 => v = some (.int (-1))) := by
  refine Mq.mk (by decide) (Nat.le_of_ble_eq_true rfl) ?_
  intro p e s m args below meth c A C
  refine q_aload_n (j := 0) C dX11_parts_0 rfl ?_
  refine q_get (k := 4) (v := .ref tb) C ck_12 dX11_parts_1 w2_48 (by decide) hL hE f4 ?_
  refine q_iload_n (j := 1) C dX11_parts_4 rfl ?_
  refine q_callV (As := [.int t]) (rest := []) C (c_whole0 t hLtb hEtb fT0 fT1 hLmd hEmd fm2 hLch hEch fc2) dX11_parts_5 kV_X11_231 rfl hLtb hEtb ck_11 rfl (Nat.le_of_ble_eq_true rfl) ⟨Nat.le_of_ble_eq_true rfl, Nat.le_of_ble_eq_true rfl⟩ ⟨Nat.le_of_ble_eq_true rfl, Nat.le_of_ble_eq_true rfl⟩ (fun vh1 Lh1 Eh1 h1 => ?_)
  obtain ⟨rfl, rfl, rfl⟩ := h1
  refine q_st (st2 := [.null]) rfl ?_
  refine q_astoreN (lv2 := [(4, .null), (0, .ref h0), (1, .int t), (2, .int a), (3, .int b)]) C dX11_parts_8 (by decide) rfl ?_
  refine q_aloadN (j := 0) C dX11_parts_10 rfl ?_
  refine q_ifnonnullN C dX11_parts_12 ?_
  refine q_aload_n (j := 1) C dX11_parts_15 rfl ?_
  refine q_iconst (v := 3) C dX11_parts_16 (by decide) ?_
  refine q_callV (As := [.int 3]) (rest := []) C (c_refuse 3 hL hE) dX11_parts_17 kV_X11_102 rfl hL hE ck_12 rfl (Nat.le_of_ble_eq_true rfl) ⟨Nat.le_of_ble_eq_true rfl, Nat.le_of_ble_eq_true rfl⟩ ⟨Nat.le_of_ble_eq_true rfl, Nat.le_of_ble_eq_true rfl⟩ (fun vh2 Lh2 Eh2 h2 => ?_)
  obtain ⟨rfl, rfl, rfl⟩ := h2
  refine q_st (st2 := [.int (-1)]) rfl ?_
  exact q_iret C dX11_parts_20 rfl (Nat.le_of_ble_eq_true rfl) (Nat.le_of_ble_eq_true rfl) rfl
set_option maxHeartbeats 4000000 in
set_option maxRecDepth 100000 in
theorem x_read {l : Launch} {G : GT} {L : List Nat} {E : Nat → va_E} (t a n : Int32)  {h0 tb md ch : Nat} {f fT fm fc : Nat → Value} (hL : h0 ∈ L) (hE : E h0 = ob 12 19 f) (f4 : f 4 = .ref tb) (hLtb : tb ∈ L) (hEtb : E tb = ob 11 2 fT) (fT0 : fT 0 = .ref md) (fT1 : fT 1 = .ref ch) (hLmd : md ∈ L) (hEmd : E md = ob 0 3 fm) (fm2 : fm 2 = .int 0) (hLch : ch ∈ L) (hEch : E ch = ob 0 3 fc) (fc2 : fc 2 = .int 0) : Mq l G yX11_read cX11_read 6 (some .int) 5 [.ref h0, .int t, .int a, .int n] L E 0 0 (fun v L2 E2 => v = some (.int (-1))) := by
  refine Mq.mk (by decide) (Nat.le_of_ble_eq_true rfl) ?_
  intro p e s m args below meth c A C
  refine q_aload_n (j := 0) C dX11_read_0 rfl ?_
  refine q_get (k := 4) (v := .ref tb) C ck_12 dX11_read_1 w2_48 (by decide) hL hE f4 ?_
  refine q_iload_n (j := 1) C dX11_read_4 rfl ?_
  refine q_callV (As := [.int t]) (rest := []) C (c_whole0 t hLtb hEtb fT0 fT1 hLmd hEmd fm2 hLch hEch fc2) dX11_read_5 kV_X11_231 rfl hLtb hEtb ck_11 rfl (Nat.le_of_ble_eq_true rfl) ⟨Nat.le_of_ble_eq_true rfl, Nat.le_of_ble_eq_true rfl⟩ ⟨Nat.le_of_ble_eq_true rfl, Nat.le_of_ble_eq_true rfl⟩ (fun vh1 Lh1 Eh1 h1 => ?_)
  obtain ⟨rfl, rfl, rfl⟩ := h1
  refine q_st (st2 := [.null]) rfl ?_
  refine q_astoreN (lv2 := [(4, .null), (0, .ref h0), (1, .int t), (2, .int a), (3, .int n)]) C dX11_read_8 (by decide) rfl ?_
  refine q_aloadN (j := 0) C dX11_read_10 rfl ?_
  refine q_ifnonnullN C dX11_read_12 ?_
  refine q_aload_n (j := 1) C dX11_read_15 rfl ?_
  refine q_iconst (v := 3) C dX11_read_16 (by decide) ?_
  refine q_callV (As := [.int 3]) (rest := []) C (c_refuse 3 hL hE) dX11_read_17 kV_X11_102 rfl hL hE ck_12 rfl (Nat.le_of_ble_eq_true rfl) ⟨Nat.le_of_ble_eq_true rfl, Nat.le_of_ble_eq_true rfl⟩ ⟨Nat.le_of_ble_eq_true rfl, Nat.le_of_ble_eq_true rfl⟩ (fun vh2 Lh2 Eh2 h2 => ?_)
  obtain ⟨rfl, rfl, rfl⟩ := h2
  refine q_st (st2 := [.int (-1)]) rfl ?_
  exact q_iret C dX11_read_20 rfl (Nat.le_of_ble_eq_true rfl) (Nat.le_of_ble_eq_true rfl) rfl
set_option maxHeartbeats 4000000 in
set_option maxRecDepth 100000 in
theorem x_saved {l : Launch} {G : GT} {L : List Nat} {E : Nat → va_E} (a b : Int32)  {h0 tb md ch : Nat} {f fT fm fc : Nat → Value} (hL : h0 ∈ L) (hE : E h0 = ob 12 19 f) (f4 : f 4 = .ref tb) (hLtb : tb ∈ L) (hEtb : E tb = ob 11 2 fT) (fT0 : fT 0 = .ref md) (fT1 : fT 1 = .ref ch) (hLmd : md ∈ L) (hEmd : E md = ob 0 3 fm) (fm2 : fm 2 = .int 0) (hLch : ch ∈ L) (hEch : E ch = ob 0 3 fc) (fc2 : fc 2 = .int 0) : Mq l G yX11_saved cX11_saved 10 (some .int) 5 [.ref h0, .int a, .int b] L E 0 0 (fun v L2 E2 => v = some (.int (-1))) := by
  refine Mq.mk (by decide) (Nat.le_of_ble_eq_true rfl) ?_
  intro p e s m args below meth c A C
  refine q_aload_n (j := 0) C dX11_saved_0 rfl ?_
  refine q_get (k := 4) (v := .ref tb) C ck_12 dX11_saved_1 w2_48 (by decide) hL hE f4 ?_
  refine q_iload_n (j := 1) C dX11_saved_4 rfl ?_
  refine q_callV (As := [.int a]) (rest := []) C (c_whole0 a hLtb hEtb fT0 fT1 hLmd hEmd fm2 hLch hEch fc2) dX11_saved_5 kV_X11_231 rfl hLtb hEtb ck_11 rfl (Nat.le_of_ble_eq_true rfl) ⟨Nat.le_of_ble_eq_true rfl, Nat.le_of_ble_eq_true rfl⟩ ⟨Nat.le_of_ble_eq_true rfl, Nat.le_of_ble_eq_true rfl⟩ (fun vh1 Lh1 Eh1 h1 => ?_)
  obtain ⟨rfl, rfl, rfl⟩ := h1
  refine q_st (st2 := [.null]) rfl ?_
  refine q_astore_nN (lv2 := [(3, .null), (0, .ref h0), (1, .int a), (2, .int b)]) C dX11_saved_8 (by decide) rfl ?_
  refine q_aload_n (j := 1) C dX11_saved_9 rfl ?_
  refine q_get (k := 4) (v := .ref tb) C ck_12 dX11_saved_10 w2_48 (by decide) hL hE f4 ?_
  refine q_iload_n (j := 3) C dX11_saved_13 rfl ?_
  refine q_callV (As := [.int b]) (rest := []) C (c_whole0 b hLtb hEtb fT0 fT1 hLmd hEmd fm2 hLch hEch fc2) dX11_saved_14 kV_X11_231 rfl hLtb hEtb ck_11 rfl (Nat.le_of_ble_eq_true rfl) ⟨Nat.le_of_ble_eq_true rfl, Nat.le_of_ble_eq_true rfl⟩ ⟨Nat.le_of_ble_eq_true rfl, Nat.le_of_ble_eq_true rfl⟩ (fun vh2 Lh2 Eh2 h2 => ?_)
  obtain ⟨rfl, rfl, rfl⟩ := h2
  refine q_st (st2 := [.null]) rfl ?_
  refine q_astoreN (lv2 := [(4, .null), (3, .null), (0, .ref h0), (1, .int a), (2, .int b)]) C dX11_saved_17 (by decide) rfl ?_
  refine q_aload_nN (j := 1) C dX11_saved_19 rfl ?_
  refine q_ifnullN (tgt := 28) C dX11_saved_20 (by decide) ?_
  refine q_aload_n (j := 2) C dX11_saved_28 rfl ?_
  refine q_iconst (v := 3) C dX11_saved_29 (by decide) ?_
  refine q_callV (As := [.int 3]) (rest := []) C (c_refuse 3 hL hE) dX11_saved_30 kV_X11_102 rfl hL hE ck_12 rfl (Nat.le_of_ble_eq_true rfl) ⟨Nat.le_of_ble_eq_true rfl, Nat.le_of_ble_eq_true rfl⟩ ⟨Nat.le_of_ble_eq_true rfl, Nat.le_of_ble_eq_true rfl⟩ (fun vh3 Lh3 Eh3 h3 => ?_)
  obtain ⟨rfl, rfl, rfl⟩ := h3
  refine q_st (st2 := [.int (-1)]) rfl ?_
  exact q_iret C dX11_saved_33 rfl (Nat.le_of_ble_eq_true rfl) (Nat.le_of_ble_eq_true rfl) rfl
set_option maxHeartbeats 4000000 in
set_option maxRecDepth 100000 in
theorem x_undo {l : Launch} {G : GT} {L : List Nat} {E : Nat → va_E}  {h0 tb md ch : Nat} {f fT fm fc : Nat → Value} (hL : h0 ∈ L) (hE : E h0 = ob 12 19 f) (f4 : f 4 = .ref tb) (hLtb : tb ∈ L) (hEtb : E tb = ob 11 2 fT) (fT0 : fT 0 = .ref md) (fT1 : fT 1 = .ref ch) (hLmd : md ∈ L) (hEmd : E md = ob 0 3 fm) (fm2 : fm 2 = .int 0) (hLch : ch ∈ L) (hEch : E ch = ob 0 3 fc) (fc2 : fc 2 = .int 0) : Mq l G yX11_undo cX11_undo 1 (some .int) 5 [.ref h0] L E 0 0 (fun v L2 E2 => v = some (.int 0)) := by
  refine Mq.mk (by decide) (Nat.le_of_ble_eq_true rfl) ?_
  intro p e s m args below meth c A C
  refine q_aload_n (j := 0) C dX11_undo_0 rfl ?_
  refine q_aload_n (j := 0) C dX11_undo_1 rfl ?_
  refine q_get (k := 4) (v := .ref tb) C ck_12 dX11_undo_2 w2_48 (by decide) hL hE f4 ?_
  refine q_callV (As := []) (rest := [.ref h0]) C (c_takeBack0  hLtb hEtb fT0 fT1 hLmd hEmd fm2 hLch hEch fc2) dX11_undo_5 kV_X11_218 rfl hLtb hEtb ck_11 rfl (Nat.le_of_ble_eq_true rfl) ⟨Nat.le_of_ble_eq_true rfl, Nat.le_of_ble_eq_true rfl⟩ ⟨Nat.le_of_ble_eq_true rfl, Nat.le_of_ble_eq_true rfl⟩ (fun vh1 Lh1 Eh1 h1 => ?_)
  obtain ⟨rfl, rfl, rfl⟩ := h1
  refine q_st (st2 := [.int 0, .ref h0]) rfl ?_
  refine q_if_eq (tgt := 15) C dX11_undo_8 (by decide) (fun _ => ?_) (fun z => absurd (by decide) z)
  refine q_iconst (v := 0) C dX11_undo_15 (by decide) ?_
  refine q_callV (As := [.int 0]) (rest := []) C (c_done 0 hL hE) dX11_undo_16 kV_X11_109 rfl hL hE ck_12 rfl (Nat.le_of_ble_eq_true rfl) ⟨Nat.le_of_ble_eq_true rfl, Nat.le_of_ble_eq_true rfl⟩ ⟨Nat.le_of_ble_eq_true rfl, Nat.le_of_ble_eq_true rfl⟩ (fun vh2 Lh2 Eh2 h2 => ?_)
  obtain ⟨rfl, rfl, rfl⟩ := h2
  refine q_st (st2 := [.int 0]) rfl ?_
  exact q_iret C dX11_undo_19 rfl (Nat.le_of_ble_eq_true rfl) (Nat.le_of_ble_eq_true rfl) rfl
set_option maxHeartbeats 4000000 in
set_option maxRecDepth 100000 in
theorem x_lose {l : Launch} {G : GT} {L : List Nat} {E : Nat → va_E} (l0 : Int32)  {h0 sh : Nat} {f fs : Nat → Value} (hL : h0 ∈ L) (hE : E h0 = ob 12 19 f) (f9 : f 9 = .ref sh) (hLsh : sh ∈ L) (hEsh : E sh = ob 8 3 fs) (fs1 : fs 1 = .int 0) : Mq l G yX11_lose cX11_lose 3 (some .int) 5 [.ref h0, .int l0] L E 0 0 (fun v L2 E2 => v = some (.int (-1))) := by
  refine Mq.mk (by decide) (Nat.le_of_ble_eq_true rfl) ?_
  intro p e s m args below meth c A C
  refine q_aload_n (j := 0) C dX11_lose_0 rfl ?_
  refine q_get (k := 9) (v := .ref sh) C ck_12 dX11_lose_1 w2_53 (by decide) hL hE f9 ?_
  refine q_iload_n (j := 1) C dX11_lose_4 rfl ?_
  refine q_callV (As := [.int l0]) (rest := []) C (c_sat0 l0 hLsh hEsh fs1) dX11_lose_5 kV_X11_308 rfl hLsh hEsh ck_8 rfl (Nat.le_of_ble_eq_true rfl) ⟨Nat.le_of_ble_eq_true rfl, Nat.le_of_ble_eq_true rfl⟩ ⟨Nat.le_of_ble_eq_true rfl, Nat.le_of_ble_eq_true rfl⟩ (fun vh1 Lh1 Eh1 h1 => ?_)
  obtain ⟨rfl, rfl, rfl⟩ := h1
  refine q_st (st2 := [.null]) rfl ?_
  refine q_astore_nN (lv2 := [(2, .null), (0, .ref h0), (1, .int l0)]) C dX11_lose_8 (by decide) rfl ?_
  refine q_aload_nN (j := 0) C dX11_lose_9 rfl ?_
  refine q_ifnonnullN C dX11_lose_10 ?_
  refine q_aload_n (j := 1) C dX11_lose_13 rfl ?_
  refine q_iconst (v := 2) C dX11_lose_14 (by decide) ?_
  refine q_callV (As := [.int 2]) (rest := []) C (c_refuse 2 hL hE) dX11_lose_15 kV_X11_102 rfl hL hE ck_12 rfl (Nat.le_of_ble_eq_true rfl) ⟨Nat.le_of_ble_eq_true rfl, Nat.le_of_ble_eq_true rfl⟩ ⟨Nat.le_of_ble_eq_true rfl, Nat.le_of_ble_eq_true rfl⟩ (fun vh2 Lh2 Eh2 h2 => ?_)
  obtain ⟨rfl, rfl, rfl⟩ := h2
  refine q_st (st2 := [.int (-1)]) rfl ?_
  exact q_iret C dX11_lose_18 rfl (Nat.le_of_ble_eq_true rfl) (Nat.le_of_ble_eq_true rfl) rfl
set_option maxHeartbeats 4000000 in
set_option maxRecDepth 100000 in
theorem x_length {l : Launch} {G : GT} {L : List Nat} {E : Nat → va_E} (l0 : Int32)  {h0 sh : Nat} {f fs : Nat → Value} (hL : h0 ∈ L) (hE : E h0 = ob 12 19 f) (f9 : f 9 = .ref sh) (hLsh : sh ∈ L) (hEsh : E sh = ob 8 3 fs) (fs1 : fs 1 = .int 0) : Mq l G yX11_length cX11_length 3 (some .int) 5 [.ref h0, .int l0] L E 0 0 (fun v L2 E2 => v = some (.int (-1))) := by
  refine Mq.mk (by decide) (Nat.le_of_ble_eq_true rfl) ?_
  intro p e s m args below meth c A C
  refine q_aload_n (j := 0) C dX11_length_0 rfl ?_
  refine q_get (k := 9) (v := .ref sh) C ck_12 dX11_length_1 w2_53 (by decide) hL hE f9 ?_
  refine q_iload_n (j := 1) C dX11_length_4 rfl ?_
  refine q_callV (As := [.int l0]) (rest := []) C (c_present0 l0 hLsh hEsh fs1) dX11_length_5 kV_X11_288 rfl hLsh hEsh ck_8 rfl (Nat.le_of_ble_eq_true rfl) ⟨Nat.le_of_ble_eq_true rfl, Nat.le_of_ble_eq_true rfl⟩ ⟨Nat.le_of_ble_eq_true rfl, Nat.le_of_ble_eq_true rfl⟩ (fun vh1 Lh1 Eh1 h1 => ?_)
  obtain ⟨rfl, rfl, rfl⟩ := h1
  refine q_st (st2 := [.null]) rfl ?_
  refine q_astore_nN (lv2 := [(2, .null), (0, .ref h0), (1, .int l0)]) C dX11_length_8 (by decide) rfl ?_
  refine q_aload_nN (j := 0) C dX11_length_9 rfl ?_
  refine q_ifnonnullN C dX11_length_10 ?_
  refine q_aload_n (j := 1) C dX11_length_13 rfl ?_
  refine q_aload_n (j := 1) C dX11_length_14 rfl ?_
  refine q_get (k := 9) (v := .ref sh) C ck_12 dX11_length_15 w2_53 (by decide) hL hE f9 ?_
  refine q_iload_n (j := 2) C dX11_length_18 rfl ?_
  refine q_callV (As := [.int l0]) (rest := [.ref h0]) C (c_whyNone0 l0 hLsh hEsh fs1) dX11_length_19 kV_X11_292 rfl hLsh hEsh ck_8 rfl (Nat.le_of_ble_eq_true rfl) ⟨Nat.le_of_ble_eq_true rfl, Nat.le_of_ble_eq_true rfl⟩ ⟨Nat.le_of_ble_eq_true rfl, Nat.le_of_ble_eq_true rfl⟩ (fun vh2 Lh2 Eh2 h2 => ?_)
  obtain ⟨rfl, rfl, rfl⟩ := h2
  refine q_st (st2 := [.int 2, .ref h0]) rfl ?_
  refine q_callV (As := [.int 2]) (rest := []) C (c_refuse 2 hL hE) dX11_length_22 kV_X11_102 rfl hL hE ck_12 rfl (Nat.le_of_ble_eq_true rfl) ⟨Nat.le_of_ble_eq_true rfl, Nat.le_of_ble_eq_true rfl⟩ ⟨Nat.le_of_ble_eq_true rfl, Nat.le_of_ble_eq_true rfl⟩ (fun vh3 Lh3 Eh3 h3 => ?_)
  obtain ⟨rfl, rfl, rfl⟩ := h3
  refine q_st (st2 := [.int (-1)]) rfl ?_
  refine q_goto (tgt := 36) C dX11_length_25 (by decide) ?_
  exact q_iret C dX11_length_36 rfl (Nat.le_of_ble_eq_true rfl) (Nat.le_of_ble_eq_true rfl) rfl
set_option maxHeartbeats 4000000 in
set_option maxRecDepth 100000 in
theorem x_copyRow {l : Launch} {G : GT} {L : List Nat} {E : Nat → va_E} (a b c1 d1 n : Int32)  {h0 sh : Nat} {f fs : Nat → Value} (hL : h0 ∈ L) (hE : E h0 = ob 12 19 f) (f9 : f 9 = .ref sh) (hLsh : sh ∈ L) (hEsh : E sh = ob 8 3 fs) (fs1 : fs 1 = .int 0) : Mq l G yX11_copyRow cX11_copyRow 8 (some .int) 5 [.ref h0, .int a, .int b, .int c1, .int d1, .int n] L E 0 0 (fun v L2 E2 => v = some (.int (-1))) := by
  refine Mq.mk (by decide) (Nat.le_of_ble_eq_true rfl) ?_
  intro p e s m args below meth c A C
  refine q_aload_n (j := 0) C dX11_copyRow_0 rfl ?_
  refine q_get (k := 9) (v := .ref sh) C ck_12 dX11_copyRow_1 w2_53 (by decide) hL hE f9 ?_
  refine q_iload_n (j := 1) C dX11_copyRow_4 rfl ?_
  refine q_callV (As := [.int a]) (rest := []) C (c_sat0 a hLsh hEsh fs1) dX11_copyRow_5 kV_X11_308 rfl hLsh hEsh ck_8 rfl (Nat.le_of_ble_eq_true rfl) ⟨Nat.le_of_ble_eq_true rfl, Nat.le_of_ble_eq_true rfl⟩ ⟨Nat.le_of_ble_eq_true rfl, Nat.le_of_ble_eq_true rfl⟩ (fun vh1 Lh1 Eh1 h1 => ?_)
  obtain ⟨rfl, rfl, rfl⟩ := h1
  refine q_st (st2 := [.null]) rfl ?_
  refine q_astoreN (lv2 := [(6, .null), (0, .ref h0), (1, .int a), (2, .int b), (3, .int c1), (4, .int d1), (5, .int n)]) C dX11_copyRow_8 (by decide) rfl ?_
  refine q_aload_n (j := 1) C dX11_copyRow_10 rfl ?_
  refine q_get (k := 9) (v := .ref sh) C ck_12 dX11_copyRow_11 w2_53 (by decide) hL hE f9 ?_
  refine q_iload_n (j := 4) C dX11_copyRow_14 rfl ?_
  refine q_callV (As := [.int c1]) (rest := []) C (c_sat0 c1 hLsh hEsh fs1) dX11_copyRow_15 kV_X11_308 rfl hLsh hEsh ck_8 rfl (Nat.le_of_ble_eq_true rfl) ⟨Nat.le_of_ble_eq_true rfl, Nat.le_of_ble_eq_true rfl⟩ ⟨Nat.le_of_ble_eq_true rfl, Nat.le_of_ble_eq_true rfl⟩ (fun vh2 Lh2 Eh2 h2 => ?_)
  obtain ⟨rfl, rfl, rfl⟩ := h2
  refine q_st (st2 := [.null]) rfl ?_
  refine q_astoreN (lv2 := [(7, .null), (6, .null), (0, .ref h0), (1, .int a), (2, .int b), (3, .int c1), (4, .int d1), (5, .int n)]) C dX11_copyRow_18 (by decide) rfl ?_
  refine q_aloadN (j := 1) C dX11_copyRow_20 rfl ?_
  refine q_ifnullN (tgt := 30) C dX11_copyRow_22 (by decide) ?_
  refine q_aload_n (j := 2) C dX11_copyRow_30 rfl ?_
  refine q_iconst (v := 2) C dX11_copyRow_31 (by decide) ?_
  refine q_callV (As := [.int 2]) (rest := []) C (c_refuse 2 hL hE) dX11_copyRow_32 kV_X11_102 rfl hL hE ck_12 rfl (Nat.le_of_ble_eq_true rfl) ⟨Nat.le_of_ble_eq_true rfl, Nat.le_of_ble_eq_true rfl⟩ ⟨Nat.le_of_ble_eq_true rfl, Nat.le_of_ble_eq_true rfl⟩ (fun vh3 Lh3 Eh3 h3 => ?_)
  obtain ⟨rfl, rfl, rfl⟩ := h3
  refine q_st (st2 := [.int (-1)]) rfl ?_
  exact q_iret C dX11_copyRow_35 rfl (Nat.le_of_ble_eq_true rfl) (Nat.le_of_ble_eq_true rfl) rfl
set_option maxHeartbeats 4000000 in
set_option maxRecDepth 100000 in
theorem x_reading {l : Launch} {G : GT} {L : List Nat} {E : Nat → va_E} (k i : Int32)  {h0 fo : Nat} {f ff : Nat → Value} (hL : h0 ∈ L) (hE : E h0 = ob 12 19 f) (f8 : f 8 = .ref fo) (hLfo : fo ∈ L) (hEfo : E fo = ob 5 11 ff) (ff5 : ff 5 = .int 0) : Mq l G yX11_reading cX11_reading 4 (some .int) 5 [.ref h0, .int k, .int i] L E 0 0 (fun v L2 E2 => v = some (.int (-1))) := by
  refine Mq.mk (by decide) (Nat.le_of_ble_eq_true rfl) ?_
  intro p e s m args below meth c A C
  refine q_aload_n (j := 0) C dX11_reading_0 rfl ?_
  refine q_get (k := 8) (v := .ref fo) C ck_12 dX11_reading_1 w2_52 (by decide) hL hE f8 ?_
  refine q_iload_n (j := 1) C dX11_reading_4 rfl ?_
  refine q_iload_n (j := 2) C dX11_reading_5 rfl ?_
  refine q_callV (As := [.int k, .int i]) (rest := []) C (c_byteOf0 k i hLfo hEfo ff5) dX11_reading_6 kV_X11_364 rfl hLfo hEfo ck_5 rfl (Nat.le_of_ble_eq_true rfl) ⟨Nat.le_of_ble_eq_true rfl, Nat.le_of_ble_eq_true rfl⟩ ⟨Nat.le_of_ble_eq_true rfl, Nat.le_of_ble_eq_true rfl⟩ (fun vh1 Lh1 Eh1 h1 => ?_)
  obtain ⟨rfl, rfl, rfl⟩ := h1
  refine q_st (st2 := [.int (-1)]) rfl ?_
  refine q_istore_n (lv2 := [(3, .int (-1)), (0, .ref h0), (1, .int k), (2, .int i)]) C dX11_reading_9 (by decide) rfl ?_
  refine q_iload_n (j := 0) C dX11_reading_10 rfl ?_
  refine q_if_ge (tgt := 22) C dX11_reading_11 (by decide) (fun z => absurd z (by decide)) (fun _ => ?_)
  refine q_aload_n (j := 1) C dX11_reading_14 rfl ?_
  refine q_iconst (v := 2) C dX11_reading_15 (by decide) ?_
  refine q_callV (As := [.int 2]) (rest := []) C (c_refuse 2 hL hE) dX11_reading_16 kV_X11_102 rfl hL hE ck_12 rfl (Nat.le_of_ble_eq_true rfl) ⟨Nat.le_of_ble_eq_true rfl, Nat.le_of_ble_eq_true rfl⟩ ⟨Nat.le_of_ble_eq_true rfl, Nat.le_of_ble_eq_true rfl⟩ (fun vh2 Lh2 Eh2 h2 => ?_)
  obtain ⟨rfl, rfl, rfl⟩ := h2
  refine q_st (st2 := [.int (-1)]) rfl ?_
  refine q_goto (tgt := 27) C dX11_reading_19 (by decide) ?_
  exact q_iret C dX11_reading_27 rfl (Nat.le_of_ble_eq_true rfl) (Nat.le_of_ble_eq_true rfl) rfl
set_option maxHeartbeats 4000000 in
set_option maxRecDepth 100000 in
theorem x_letter {l : Launch} {G : GT} {L : List Nat} {E : Nat → va_E} (i : Int32)  {h0 br : Nat} {f fb : Nat → Value} (hL : h0 ∈ L) (hE : E h0 = ob 12 19 f) (f2 : f 2 = .ref br) (hLbr : br ∈ L) (hEbr : E br = ob 2 3 fb) (fb2 : fb 2 = .int 0) : Mq l G yX11_letter cX11_letter 2 (some .int) 5 [.ref h0, .int i] L E 0 0 (fun v L2 E2 => v = some (.int (-1))) := by
  refine Mq.mk (by decide) (Nat.le_of_ble_eq_true rfl) ?_
  intro p e s m args below meth c A C
  refine q_iload_n (j := 1) C dX11_letter_0 rfl ?_
  refine q_if_lt (tgt := 15) C dX11_letter_1 (by decide) (fun c1 => ?_) (fun c1 => ?_)
  · refine q_aload_n (j := 0) C dX11_letter_15 rfl ?_
    refine q_iconst (v := 2) C dX11_letter_16 (by decide) ?_
    refine q_callV (As := [.int 2]) (rest := []) C (c_refuse 2 hL hE) dX11_letter_17 kV_X11_102 rfl hL hE ck_12 rfl (Nat.le_of_ble_eq_true rfl) ⟨Nat.le_of_ble_eq_true rfl, Nat.le_of_ble_eq_true rfl⟩ ⟨Nat.le_of_ble_eq_true rfl, Nat.le_of_ble_eq_true rfl⟩ (fun vh1 Lh1 Eh1 h1 => ?_)
    obtain ⟨rfl, rfl, rfl⟩ := h1
    refine q_st (st2 := [.int (-1)]) rfl ?_
    refine q_goto (tgt := 35) C dX11_letter_20 (by decide) ?_
    exact q_iret C dX11_letter_35 rfl (Nat.le_of_ble_eq_true rfl) (Nat.le_of_ble_eq_true rfl) rfl
  · refine q_iload_n (j := 1) C dX11_letter_4 rfl ?_
    refine q_aload_n (j := 0) C dX11_letter_5 rfl ?_
    refine q_get (k := 2) (v := .ref br) C ck_12 dX11_letter_6 w2_46 (by decide) hL hE f2 ?_
    refine q_get (k := 2) (v := .int 0) C ck_2 dX11_letter_9 w1_44 (by decide) hLbr hEbr fb2 ?_
    refine q_icmp_lt (tgt := 23) C dX11_letter_12 (by decide) (fun z => absurd z (by have hz := c1; simp only [i32_lt, i32_le, i32_eq, inn_f, Decidable.not_not, tn_m1, tn_0, tn_1, tn_2, tn_3, tn_4, tn_5, tn_6, tn_7, tn_8, tn_10, tn_30, tn_31, tn_32, tn_36, tn_40, tn_50, tn_100, tn_126, tn_200, tn_255, tn_500, tn_512, tn_3000, tn_5000] at hz ⊢; omega)) (fun _ => ?_)
    refine q_aload_n (j := 0) C dX11_letter_15 rfl ?_
    refine q_iconst (v := 2) C dX11_letter_16 (by decide) ?_
    refine q_callV (As := [.int 2]) (rest := []) C (c_refuse 2 hL hE) dX11_letter_17 kV_X11_102 rfl hL hE ck_12 rfl (Nat.le_of_ble_eq_true rfl) ⟨Nat.le_of_ble_eq_true rfl, Nat.le_of_ble_eq_true rfl⟩ ⟨Nat.le_of_ble_eq_true rfl, Nat.le_of_ble_eq_true rfl⟩ (fun vh2 Lh2 Eh2 h2 => ?_)
    obtain ⟨rfl, rfl, rfl⟩ := h2
    refine q_st (st2 := [.int (-1)]) rfl ?_
    refine q_goto (tgt := 35) C dX11_letter_20 (by decide) ?_
    exact q_iret C dX11_letter_35 rfl (Nat.le_of_ble_eq_true rfl) (Nat.le_of_ble_eq_true rfl) rfl
set_option maxHeartbeats 4000000 in
set_option maxRecDepth 100000 in
theorem x_finds {l : Launch} {G : GT} {L : List Nat} {E : Nat → va_E} (k : Int32)  {h0 wd fi : Nat} {f fd : Nat → Value} (hL : h0 ∈ L) (hE : E h0 = ob 12 19 f) (f6 : f 6 = .ref wd) (hLwd : wd ∈ L) (hEwd : E wd = ob 7 12 fd) (fd8 : fd 8 = .ref fi) (hLfi : fi ∈ L) (hEfi : E fi = aI G 5 (fun _ => 0)) : Mq l G yX11_finds cX11_finds 2 (some .int) 5 [.ref h0, .int k] L E 0 0 (fun v L2 E2 => v = some (.int 0)) := by
  refine Mq.mk (by decide) (Nat.le_of_ble_eq_true rfl) ?_
  intro p e s m args below meth c A C
  refine q_aload_n (j := 0) C dX11_finds_0 rfl ?_
  refine q_get (k := 6) (v := .ref wd) C ck_12 dX11_finds_1 w2_50 (by decide) hL hE f6 ?_
  refine q_iload_n (j := 1) C dX11_finds_4 rfl ?_
  refine q_callV (As := [.int k]) (rest := []) C (c_findsOf0 k hLwd hEwd fd8 hLfi hEfi) dX11_finds_5 kV_X11_413 rfl hLwd hEwd ck_7 rfl (Nat.le_of_ble_eq_true rfl) ⟨Nat.le_of_ble_eq_true rfl, Nat.le_of_ble_eq_true rfl⟩ ⟨Nat.le_of_ble_eq_true rfl, Nat.le_of_ble_eq_true rfl⟩ (fun vh1 Lh1 Eh1 h1 => ?_)
  obtain ⟨rfl, rfl, rfl⟩ := h1
  refine q_st (st2 := [.int 0]) rfl ?_
  exact q_iret C dX11_finds_8 rfl (Nat.le_of_ble_eq_true rfl) (Nat.le_of_ble_eq_true rfl) rfl
set_option maxHeartbeats 4000000 in
set_option maxRecDepth 100000 in
theorem x_readings {l : Launch} {G : GT} {L : List Nat} {E : Nat → va_E} (t l0 most : Int32)  {h0 tb md ch : Nat} {f fT fm fc : Nat → Value} (hL : h0 ∈ L) (hE : E h0 = ob 12 19 f) (f4 : f 4 = .ref tb) (hLtb : tb ∈ L) (hEtb : E tb = ob 11 2 fT) (fT0 : fT 0 = .ref md) (fT1 : fT 1 = .ref ch) (hLmd : md ∈ L) (hEmd : E md = ob 0 3 fm) (fm2 : fm 2 = .int 0) (hLch : ch ∈ L) (hEch : E ch = ob 0 3 fc) (fc2 : fc 2 = .int 0) : Mq l G yX11_readings cX11_readings 6 (some .int) 5 [.ref h0, .int t, .int l0, .int most] L E 0 0 (fun v L2 E2 => v = some (.int (-1))) := by
  refine Mq.mk (by decide) (Nat.le_of_ble_eq_true rfl) ?_
  intro p e s m args below meth c A C
  refine q_iload_n (j := 3) C dX11_readings_0 rfl ?_
  refine q_iconst (v := 1) C dX11_readings_1 (by decide) ?_
  refine q_icmp_lt (tgt := 11) C dX11_readings_2 (by decide) (fun c1 => ?_) (fun c1 => ?_)
  · refine q_aload_n (j := 0) C dX11_readings_11 rfl ?_
    refine q_bipush (v := 6) C dX11_readings_12 (by decide) ?_
    refine q_callV (As := [.int 6]) (rest := []) C (c_refuse 6 hL hE) dX11_readings_14 kV_X11_102 rfl hL hE ck_12 rfl (Nat.le_of_ble_eq_true rfl) ⟨Nat.le_of_ble_eq_true rfl, Nat.le_of_ble_eq_true rfl⟩ ⟨Nat.le_of_ble_eq_true rfl, Nat.le_of_ble_eq_true rfl⟩ (fun vh1 Lh1 Eh1 h1 => ?_)
    obtain ⟨rfl, rfl, rfl⟩ := h1
    refine q_st (st2 := [.int (-1)]) rfl ?_
    exact q_iret C dX11_readings_17 rfl (Nat.le_of_ble_eq_true rfl) (Nat.le_of_ble_eq_true rfl) rfl
  · refine q_iload_n (j := 3) C dX11_readings_5 rfl ?_
    refine q_bipush (v := 50) C dX11_readings_6 (by decide) ?_
    refine q_icmp_le (tgt := 18) C dX11_readings_8 (by decide) (fun c2 => ?_) (fun c2 => ?_)
    · refine q_aload_n (j := 0) C dX11_readings_18 rfl ?_
      refine q_get (k := 4) (v := .ref tb) C ck_12 dX11_readings_19 w2_48 (by decide) hL hE f4 ?_
      refine q_iload_n (j := 1) C dX11_readings_22 rfl ?_
      refine q_callV (As := [.int t]) (rest := []) C (c_whole0 t hLtb hEtb fT0 fT1 hLmd hEmd fm2 hLch hEch fc2) dX11_readings_23 kV_X11_231 rfl hLtb hEtb ck_11 rfl (Nat.le_of_ble_eq_true rfl) ⟨Nat.le_of_ble_eq_true rfl, Nat.le_of_ble_eq_true rfl⟩ ⟨Nat.le_of_ble_eq_true rfl, Nat.le_of_ble_eq_true rfl⟩ (fun vh2 Lh2 Eh2 h2 => ?_)
      obtain ⟨rfl, rfl, rfl⟩ := h2
      refine q_st (st2 := [.null]) rfl ?_
      refine q_astoreN (lv2 := [(4, .null), (0, .ref h0), (1, .int t), (2, .int l0), (3, .int most)]) C dX11_readings_26 (by decide) rfl ?_
      refine q_aloadN (j := 0) C dX11_readings_28 rfl ?_
      refine q_ifnonnullN C dX11_readings_30 ?_
      refine q_aload_n (j := 1) C dX11_readings_33 rfl ?_
      refine q_iconst (v := 3) C dX11_readings_34 (by decide) ?_
      refine q_callV (As := [.int 3]) (rest := []) C (c_refuse 3 hL hE) dX11_readings_35 kV_X11_102 rfl hL hE ck_12 rfl (Nat.le_of_ble_eq_true rfl) ⟨Nat.le_of_ble_eq_true rfl, Nat.le_of_ble_eq_true rfl⟩ ⟨Nat.le_of_ble_eq_true rfl, Nat.le_of_ble_eq_true rfl⟩ (fun vh3 Lh3 Eh3 h3 => ?_)
      obtain ⟨rfl, rfl, rfl⟩ := h3
      refine q_st (st2 := [.int (-1)]) rfl ?_
      exact q_iret C dX11_readings_38 rfl (Nat.le_of_ble_eq_true rfl) (Nat.le_of_ble_eq_true rfl) rfl
    · refine q_aload_n (j := 0) C dX11_readings_11 rfl ?_
      refine q_bipush (v := 6) C dX11_readings_12 (by decide) ?_
      refine q_callV (As := [.int 6]) (rest := []) C (c_refuse 6 hL hE) dX11_readings_14 kV_X11_102 rfl hL hE ck_12 rfl (Nat.le_of_ble_eq_true rfl) ⟨Nat.le_of_ble_eq_true rfl, Nat.le_of_ble_eq_true rfl⟩ ⟨Nat.le_of_ble_eq_true rfl, Nat.le_of_ble_eq_true rfl⟩ (fun vh4 Lh4 Eh4 h4 => ?_)
      obtain ⟨rfl, rfl, rfl⟩ := h4
      refine q_st (st2 := [.int (-1)]) rfl ?_
      exact q_iret C dX11_readings_17 rfl (Nat.le_of_ble_eq_true rfl) (Nat.le_of_ble_eq_true rfl) rfl
set_option maxHeartbeats 4000000 in
set_option maxRecDepth 100000 in
theorem x_unreadable {l : Launch} {G : GT} {L : List Nat} {E : Nat → va_E} (t n most : Int32)  {h0 tb md ch : Nat} {f fT fm fc : Nat → Value} (hL : h0 ∈ L) (hE : E h0 = ob 12 19 f) (f4 : f 4 = .ref tb) (hLtb : tb ∈ L) (hEtb : E tb = ob 11 2 fT) (fT0 : fT 0 = .ref md) (fT1 : fT 1 = .ref ch) (hLmd : md ∈ L) (hEmd : E md = ob 0 3 fm) (fm2 : fm 2 = .int 0) (hLch : ch ∈ L) (hEch : E ch = ob 0 3 fc) (fc2 : fc 2 = .int 0) : Mq l G yX11_unreadable cX11_unreadable 7 (some .int) 5 [.ref h0, .int t, .int n, .int most] L E 0 0 (fun v L2 E2 => v = some (.int (-1))) := by
  refine Mq.mk (by decide) (Nat.le_of_ble_eq_true rfl) ?_
  intro p e s m args below meth c A C
  refine q_iload_n (j := 2) C dX11_unreadable_0 rfl ?_
  refine q_iconst (v := 1) C dX11_unreadable_1 (by decide) ?_
  refine q_icmp_lt (tgt := 23) C dX11_unreadable_2 (by decide) (fun c1 => ?_) (fun c1 => ?_)
  · refine q_aload_n (j := 0) C dX11_unreadable_23 rfl ?_
    refine q_bipush (v := 6) C dX11_unreadable_24 (by decide) ?_
    refine q_callV (As := [.int 6]) (rest := []) C (c_refuse 6 hL hE) dX11_unreadable_26 kV_X11_102 rfl hL hE ck_12 rfl (Nat.le_of_ble_eq_true rfl) ⟨Nat.le_of_ble_eq_true rfl, Nat.le_of_ble_eq_true rfl⟩ ⟨Nat.le_of_ble_eq_true rfl, Nat.le_of_ble_eq_true rfl⟩ (fun vh1 Lh1 Eh1 h1 => ?_)
    obtain ⟨rfl, rfl, rfl⟩ := h1
    refine q_st (st2 := [.int (-1)]) rfl ?_
    exact q_iret C dX11_unreadable_29 rfl (Nat.le_of_ble_eq_true rfl) (Nat.le_of_ble_eq_true rfl) rfl
  · refine q_iload_n (j := 2) C dX11_unreadable_5 rfl ?_
    refine q_bipush (v := 6) C dX11_unreadable_6 (by decide) ?_
    refine q_icmp_gt (tgt := 23) C dX11_unreadable_8 (by decide) (fun c2 => ?_) (fun c2 => ?_)
    · refine q_aload_n (j := 0) C dX11_unreadable_23 rfl ?_
      refine q_bipush (v := 6) C dX11_unreadable_24 (by decide) ?_
      refine q_callV (As := [.int 6]) (rest := []) C (c_refuse 6 hL hE) dX11_unreadable_26 kV_X11_102 rfl hL hE ck_12 rfl (Nat.le_of_ble_eq_true rfl) ⟨Nat.le_of_ble_eq_true rfl, Nat.le_of_ble_eq_true rfl⟩ ⟨Nat.le_of_ble_eq_true rfl, Nat.le_of_ble_eq_true rfl⟩ (fun vh2 Lh2 Eh2 h2 => ?_)
      obtain ⟨rfl, rfl, rfl⟩ := h2
      refine q_st (st2 := [.int (-1)]) rfl ?_
      exact q_iret C dX11_unreadable_29 rfl (Nat.le_of_ble_eq_true rfl) (Nat.le_of_ble_eq_true rfl) rfl
    · refine q_iload_n (j := 3) C dX11_unreadable_11 rfl ?_
      refine q_iconst (v := 1) C dX11_unreadable_12 (by decide) ?_
      refine q_icmp_lt (tgt := 23) C dX11_unreadable_13 (by decide) (fun c3 => ?_) (fun c3 => ?_)
      · refine q_aload_n (j := 0) C dX11_unreadable_23 rfl ?_
        refine q_bipush (v := 6) C dX11_unreadable_24 (by decide) ?_
        refine q_callV (As := [.int 6]) (rest := []) C (c_refuse 6 hL hE) dX11_unreadable_26 kV_X11_102 rfl hL hE ck_12 rfl (Nat.le_of_ble_eq_true rfl) ⟨Nat.le_of_ble_eq_true rfl, Nat.le_of_ble_eq_true rfl⟩ ⟨Nat.le_of_ble_eq_true rfl, Nat.le_of_ble_eq_true rfl⟩ (fun vh3 Lh3 Eh3 h3 => ?_)
        obtain ⟨rfl, rfl, rfl⟩ := h3
        refine q_st (st2 := [.int (-1)]) rfl ?_
        exact q_iret C dX11_unreadable_29 rfl (Nat.le_of_ble_eq_true rfl) (Nat.le_of_ble_eq_true rfl) rfl
      · refine q_iload_n (j := 3) C dX11_unreadable_16 rfl ?_
        refine q_sipush (v := 5000) C dX11_unreadable_17 (by decide) ?_
        refine q_icmp_le (tgt := 30) C dX11_unreadable_20 (by decide) (fun c4 => ?_) (fun c4 => ?_)
        · refine q_aload_n (j := 0) C dX11_unreadable_30 rfl ?_
          refine q_get (k := 4) (v := .ref tb) C ck_12 dX11_unreadable_31 w2_48 (by decide) hL hE f4 ?_
          refine q_iload_n (j := 1) C dX11_unreadable_34 rfl ?_
          refine q_callV (As := [.int t]) (rest := []) C (c_whole0 t hLtb hEtb fT0 fT1 hLmd hEmd fm2 hLch hEch fc2) dX11_unreadable_35 kV_X11_231 rfl hLtb hEtb ck_11 rfl (Nat.le_of_ble_eq_true rfl) ⟨Nat.le_of_ble_eq_true rfl, Nat.le_of_ble_eq_true rfl⟩ ⟨Nat.le_of_ble_eq_true rfl, Nat.le_of_ble_eq_true rfl⟩ (fun vh4 Lh4 Eh4 h4 => ?_)
          obtain ⟨rfl, rfl, rfl⟩ := h4
          refine q_st (st2 := [.null]) rfl ?_
          refine q_astoreN (lv2 := [(4, .null), (0, .ref h0), (1, .int t), (2, .int n), (3, .int most)]) C dX11_unreadable_38 (by decide) rfl ?_
          refine q_aloadN (j := 0) C dX11_unreadable_40 rfl ?_
          refine q_ifnonnullN C dX11_unreadable_42 ?_
          refine q_aload_n (j := 1) C dX11_unreadable_45 rfl ?_
          refine q_iconst (v := 3) C dX11_unreadable_46 (by decide) ?_
          refine q_callV (As := [.int 3]) (rest := []) C (c_refuse 3 hL hE) dX11_unreadable_47 kV_X11_102 rfl hL hE ck_12 rfl (Nat.le_of_ble_eq_true rfl) ⟨Nat.le_of_ble_eq_true rfl, Nat.le_of_ble_eq_true rfl⟩ ⟨Nat.le_of_ble_eq_true rfl, Nat.le_of_ble_eq_true rfl⟩ (fun vh5 Lh5 Eh5 h5 => ?_)
          obtain ⟨rfl, rfl, rfl⟩ := h5
          refine q_st (st2 := [.int (-1)]) rfl ?_
          exact q_iret C dX11_unreadable_50 rfl (Nat.le_of_ble_eq_true rfl) (Nat.le_of_ble_eq_true rfl) rfl
        · refine q_aload_n (j := 0) C dX11_unreadable_23 rfl ?_
          refine q_bipush (v := 6) C dX11_unreadable_24 (by decide) ?_
          refine q_callV (As := [.int 6]) (rest := []) C (c_refuse 6 hL hE) dX11_unreadable_26 kV_X11_102 rfl hL hE ck_12 rfl (Nat.le_of_ble_eq_true rfl) ⟨Nat.le_of_ble_eq_true rfl, Nat.le_of_ble_eq_true rfl⟩ ⟨Nat.le_of_ble_eq_true rfl, Nat.le_of_ble_eq_true rfl⟩ (fun vh6 Lh6 Eh6 h6 => ?_)
          obtain ⟨rfl, rfl, rfl⟩ := h6
          refine q_st (st2 := [.int (-1)]) rfl ?_
          exact q_iret C dX11_unreadable_29 rfl (Nat.le_of_ble_eq_true rfl) (Nat.le_of_ble_eq_true rfl) rfl
set_option maxHeartbeats 4000000 in
set_option maxRecDepth 100000 in
theorem x_cut {l : Launch} {G : GT} {L : List Nat} {E : Nat → va_E} (l0 n : Int32)  {h0 sh : Nat} {f fs : Nat → Value} (hL : h0 ∈ L) (hE : E h0 = ob 12 19 f) (f9 : f 9 = .ref sh) (hLsh : sh ∈ L) (hEsh : E sh = ob 8 3 fs) (fs1 : fs 1 = .int 0) : Mq l G yX11_cut cX11_cut 4 (some .int) 5 [.ref h0, .int l0, .int n] L E 0 0 (fun v L2 E2 => v = some (.int (-1))) := by
  refine Mq.mk (by decide) (Nat.le_of_ble_eq_true rfl) ?_
  intro p e s m args below meth c A C
  refine q_iload_n (j := 2) C dX11_cut_0 rfl ?_
  refine q_sipush (v := 200) C dX11_cut_1 (by decide) ?_
  refine q_icmp_le (tgt := 14) C dX11_cut_4 (by decide) (fun c1 => ?_) (fun c1 => ?_)
  · refine q_iload_n (j := 2) C dX11_cut_14 rfl ?_
    refine q_if_ge (tgt := 24) C dX11_cut_15 (by decide) (fun c2 => ?_) (fun c2 => ?_)
    · refine q_aload_n (j := 0) C dX11_cut_24 rfl ?_
      refine q_get (k := 9) (v := .ref sh) C ck_12 dX11_cut_25 w2_53 (by decide) hL hE f9 ?_
      refine q_iload_n (j := 1) C dX11_cut_28 rfl ?_
      refine q_callV (As := [.int l0]) (rest := []) C (c_present0 l0 hLsh hEsh fs1) dX11_cut_29 kV_X11_288 rfl hLsh hEsh ck_8 rfl (Nat.le_of_ble_eq_true rfl) ⟨Nat.le_of_ble_eq_true rfl, Nat.le_of_ble_eq_true rfl⟩ ⟨Nat.le_of_ble_eq_true rfl, Nat.le_of_ble_eq_true rfl⟩ (fun vh1 Lh1 Eh1 h1 => ?_)
      obtain ⟨rfl, rfl, rfl⟩ := h1
      refine q_st (st2 := [.null]) rfl ?_
      refine q_astore_nN (lv2 := [(3, .null), (0, .ref h0), (1, .int l0), (2, .int n)]) C dX11_cut_32 (by decide) rfl ?_
      refine q_aload_nN (j := 0) C dX11_cut_33 rfl ?_
      refine q_ifnonnullN C dX11_cut_34 ?_
      refine q_aload_n (j := 1) C dX11_cut_37 rfl ?_
      refine q_aload_n (j := 1) C dX11_cut_38 rfl ?_
      refine q_get (k := 9) (v := .ref sh) C ck_12 dX11_cut_39 w2_53 (by decide) hL hE f9 ?_
      refine q_iload_n (j := 2) C dX11_cut_42 rfl ?_
      refine q_callV (As := [.int l0]) (rest := [.ref h0]) C (c_whyNone0 l0 hLsh hEsh fs1) dX11_cut_43 kV_X11_292 rfl hLsh hEsh ck_8 rfl (Nat.le_of_ble_eq_true rfl) ⟨Nat.le_of_ble_eq_true rfl, Nat.le_of_ble_eq_true rfl⟩ ⟨Nat.le_of_ble_eq_true rfl, Nat.le_of_ble_eq_true rfl⟩ (fun vh2 Lh2 Eh2 h2 => ?_)
      obtain ⟨rfl, rfl, rfl⟩ := h2
      refine q_st (st2 := [.int 2, .ref h0]) rfl ?_
      refine q_callV (As := [.int 2]) (rest := []) C (c_refuse 2 hL hE) dX11_cut_46 kV_X11_102 rfl hL hE ck_12 rfl (Nat.le_of_ble_eq_true rfl) ⟨Nat.le_of_ble_eq_true rfl, Nat.le_of_ble_eq_true rfl⟩ ⟨Nat.le_of_ble_eq_true rfl, Nat.le_of_ble_eq_true rfl⟩ (fun vh3 Lh3 Eh3 h3 => ?_)
      obtain ⟨rfl, rfl, rfl⟩ := h3
      refine q_st (st2 := [.int (-1)]) rfl ?_
      exact q_iret C dX11_cut_49 rfl (Nat.le_of_ble_eq_true rfl) (Nat.le_of_ble_eq_true rfl) rfl
    · refine q_aload_n (j := 0) C dX11_cut_18 rfl ?_
      refine q_iconst (v := 5) C dX11_cut_19 (by decide) ?_
      refine q_callV (As := [.int 5]) (rest := []) C (c_refuse 5 hL hE) dX11_cut_20 kV_X11_102 rfl hL hE ck_12 rfl (Nat.le_of_ble_eq_true rfl) ⟨Nat.le_of_ble_eq_true rfl, Nat.le_of_ble_eq_true rfl⟩ ⟨Nat.le_of_ble_eq_true rfl, Nat.le_of_ble_eq_true rfl⟩ (fun vh4 Lh4 Eh4 h4 => ?_)
      obtain ⟨rfl, rfl, rfl⟩ := h4
      refine q_st (st2 := [.int (-1)]) rfl ?_
      exact q_iret C dX11_cut_23 rfl (Nat.le_of_ble_eq_true rfl) (Nat.le_of_ble_eq_true rfl) rfl
  · refine q_aload_n (j := 0) C dX11_cut_7 rfl ?_
    refine q_bipush (v := 6) C dX11_cut_8 (by decide) ?_
    refine q_callV (As := [.int 6]) (rest := []) C (c_refuse 6 hL hE) dX11_cut_10 kV_X11_102 rfl hL hE ck_12 rfl (Nat.le_of_ble_eq_true rfl) ⟨Nat.le_of_ble_eq_true rfl, Nat.le_of_ble_eq_true rfl⟩ ⟨Nat.le_of_ble_eq_true rfl, Nat.le_of_ble_eq_true rfl⟩ (fun vh5 Lh5 Eh5 h5 => ?_)
    obtain ⟨rfl, rfl, rfl⟩ := h5
    refine q_st (st2 := [.int (-1)]) rfl ?_
    exact q_iret C dX11_cut_13 rfl (Nat.le_of_ble_eq_true rfl) (Nat.le_of_ble_eq_true rfl) rfl
set_option maxHeartbeats 4000000 in
set_option maxRecDepth 100000 in
theorem x_end {l : Launch} {G : GT} {L : List Nat} {E : Nat → va_E} (n : Int32)  {h0 tp : Nat} {f ft : Nat → Value} (hL : h0 ∈ L) (hE : E h0 = ob 12 19 f) (f0 : f 0 = .ref tp) (hLtp : tp ∈ L) (hEtp : E tp = ob 2 3 ft) (ft2 : ft 2 = .int 0) : Mq l G yX11_end cX11_end 2 (some .int) 5 [.ref h0, .int n] L E 0 0 (fun v L2 E2 => v = some (.int (an_end n))) := by
  refine Mq.mk (by decide) (Nat.le_of_ble_eq_true rfl) ?_
  intro p e s m args below meth c A C
  refine q_iload_n (j := 1) C dX11_end_0 rfl ?_
  refine q_if_ge (tgt := 10) C dX11_end_1 (by decide) (fun c1 => ?_) (fun c1 => ?_)
  · refine q_iload_n (j := 1) C dX11_end_10 rfl ?_
    refine q_aload_n (j := 0) C dX11_end_11 rfl ?_
    refine q_get (k := 0) (v := .ref tp) C ck_12 dX11_end_12 w2_44 (by decide) hL hE f0 ?_
    refine q_get (k := 2) (v := .int 0) C ck_2 dX11_end_15 w1_44 (by decide) hLtp hEtp ft2 ?_
    refine q_icmp_le (tgt := 28) C dX11_end_18 (by decide) (fun c2 => ?_) (fun c2 => ?_)
    · refine q_aload_n (j := 0) C dX11_end_28 rfl ?_
      refine q_get (k := 0) (v := .ref tp) C ck_12 dX11_end_29 w2_44 (by decide) hL hE f0 ?_
      refine q_iload_n (j := 1) C dX11_end_32 rfl ?_
      have hn0 : n = 0 := by simp only [i32_lt, i32_le, i32_eq, inn_f, Decidable.not_not, tn_m1, tn_0, tn_1, tn_2, tn_3, tn_4, tn_5, tn_6, tn_7, tn_8, tn_10, tn_30, tn_31, tn_32, tn_36, tn_40, tn_50, tn_100, tn_126, tn_200, tn_255, tn_500, tn_512, tn_3000, tn_5000] at c1; simp only [i32_lt, i32_le, i32_eq, inn_f, Decidable.not_not, tn_m1, tn_0, tn_1, tn_2, tn_3, tn_4, tn_5, tn_6, tn_7, tn_8, tn_10, tn_30, tn_31, tn_32, tn_36, tn_40, tn_50, tn_100, tn_126, tn_200, tn_255, tn_500, tn_512, tn_3000, tn_5000] at c2; rw [i32_eq]; simp only [i32_lt, i32_le, i32_eq, inn_f, Decidable.not_not, tn_m1, tn_0, tn_1, tn_2, tn_3, tn_4, tn_5, tn_6, tn_7, tn_8, tn_10, tn_30, tn_31, tn_32, tn_36, tn_40, tn_50, tn_100, tn_126, tn_200, tn_255, tn_500, tn_512, tn_3000, tn_5000]; omega
      refine q_callV (As := [.int n]) (rest := []) C (c_ikeep0 n hn0 hLtp hEtp ft2) dX11_end_33 kV_X11_115 rfl hLtp hEtp ck_2 rfl (Nat.le_of_ble_eq_true rfl) ⟨Nat.le_of_ble_eq_true rfl, Nat.le_of_ble_eq_true rfl⟩ ⟨Nat.le_of_ble_eq_true rfl, Nat.le_of_ble_eq_true rfl⟩ (fun vh1 Lh1 Eh1 h1 => ?_)
      obtain ⟨rfl, rfl, rfl⟩ := h1
      refine q_st (st2 := []) rfl ?_
      refine q_aload_n (j := 0) C dX11_end_36 rfl ?_
      refine q_iload_n (j := 1) C dX11_end_37 rfl ?_
      refine q_callV (As := [.int n]) (rest := []) C (c_done n hL ((va_up_ne _ _ (ne_ob hE hEtp (by decide))).trans hE)) dX11_end_38 kV_X11_109 rfl hL ((va_up_ne _ _ (ne_ob hE hEtp (by decide))).trans hE) ck_12 rfl (Nat.le_of_ble_eq_true rfl) ⟨Nat.le_of_ble_eq_true rfl, Nat.le_of_ble_eq_true rfl⟩ ⟨Nat.le_of_ble_eq_true rfl, Nat.le_of_ble_eq_true rfl⟩ (fun vh2 Lh2 Eh2 h2 => ?_)
      obtain ⟨rfl, rfl, rfl⟩ := h2
      refine q_st (st2 := [.int n]) rfl ?_
      exact q_iret C dX11_end_41 rfl (Nat.le_of_ble_eq_true rfl) (Nat.le_of_ble_eq_true rfl) (by refine congrArg (fun z => some (Value.int z)) ?_; unfold an_end; (try simp only [i32_lt, i32_le, i32_eq, inn_f, Decidable.not_not, tn_m1, tn_0, tn_1, tn_2, tn_3, tn_4, tn_5, tn_6, tn_7, tn_8, tn_10, tn_30, tn_31, tn_32, tn_36, tn_40, tn_50, tn_100, tn_126, tn_200, tn_255, tn_500, tn_512, tn_3000, tn_5000] at c1); (try simp only [i32_lt, i32_le, i32_eq, inn_f, Decidable.not_not, tn_m1, tn_0, tn_1, tn_2, tn_3, tn_4, tn_5, tn_6, tn_7, tn_8, tn_10, tn_30, tn_31, tn_32, tn_36, tn_40, tn_50, tn_100, tn_126, tn_200, tn_255, tn_500, tn_512, tn_3000, tn_5000] at c2); split <;> rename_i hz <;> (try simp only [i32_lt, i32_le, i32_eq, inn_f, Decidable.not_not, tn_m1, tn_0, tn_1, tn_2, tn_3, tn_4, tn_5, tn_6, tn_7, tn_8, tn_10, tn_30, tn_31, tn_32, tn_36, tn_40, tn_50, tn_100, tn_126, tn_200, tn_255, tn_500, tn_512, tn_3000, tn_5000] at hz) <;> first | rfl | (exfalso; omega) | (rw [i32_eq]; simp only [i32_lt, i32_le, i32_eq, inn_f, Decidable.not_not, tn_m1, tn_0, tn_1, tn_2, tn_3, tn_4, tn_5, tn_6, tn_7, tn_8, tn_10, tn_30, tn_31, tn_32, tn_36, tn_40, tn_50, tn_100, tn_126, tn_200, tn_255, tn_500, tn_512, tn_3000, tn_5000]; omega))
    · refine q_aload_n (j := 0) C dX11_end_21 rfl ?_
      refine q_bipush (v := 6) C dX11_end_22 (by decide) ?_
      refine q_callV (As := [.int 6]) (rest := []) C (c_refuse 6 hL hE) dX11_end_24 kV_X11_102 rfl hL hE ck_12 rfl (Nat.le_of_ble_eq_true rfl) ⟨Nat.le_of_ble_eq_true rfl, Nat.le_of_ble_eq_true rfl⟩ ⟨Nat.le_of_ble_eq_true rfl, Nat.le_of_ble_eq_true rfl⟩ (fun vh3 Lh3 Eh3 h3 => ?_)
      obtain ⟨rfl, rfl, rfl⟩ := h3
      refine q_st (st2 := [.int (-1)]) rfl ?_
      exact q_iret C dX11_end_27 rfl (Nat.le_of_ble_eq_true rfl) (Nat.le_of_ble_eq_true rfl) (by refine congrArg (fun z => some (Value.int z)) ?_; unfold an_end; (try simp only [i32_lt, i32_le, i32_eq, inn_f, Decidable.not_not, tn_m1, tn_0, tn_1, tn_2, tn_3, tn_4, tn_5, tn_6, tn_7, tn_8, tn_10, tn_30, tn_31, tn_32, tn_36, tn_40, tn_50, tn_100, tn_126, tn_200, tn_255, tn_500, tn_512, tn_3000, tn_5000] at c1); (try simp only [i32_lt, i32_le, i32_eq, inn_f, Decidable.not_not, tn_m1, tn_0, tn_1, tn_2, tn_3, tn_4, tn_5, tn_6, tn_7, tn_8, tn_10, tn_30, tn_31, tn_32, tn_36, tn_40, tn_50, tn_100, tn_126, tn_200, tn_255, tn_500, tn_512, tn_3000, tn_5000] at c2); split <;> rename_i hz <;> (try simp only [i32_lt, i32_le, i32_eq, inn_f, Decidable.not_not, tn_m1, tn_0, tn_1, tn_2, tn_3, tn_4, tn_5, tn_6, tn_7, tn_8, tn_10, tn_30, tn_31, tn_32, tn_36, tn_40, tn_50, tn_100, tn_126, tn_200, tn_255, tn_500, tn_512, tn_3000, tn_5000] at hz) <;> first | rfl | (exfalso; omega) | (rw [i32_eq]; simp only [i32_lt, i32_le, i32_eq, inn_f, Decidable.not_not, tn_m1, tn_0, tn_1, tn_2, tn_3, tn_4, tn_5, tn_6, tn_7, tn_8, tn_10, tn_30, tn_31, tn_32, tn_36, tn_40, tn_50, tn_100, tn_126, tn_200, tn_255, tn_500, tn_512, tn_3000, tn_5000]; omega))
  · refine q_aload_n (j := 0) C dX11_end_4 rfl ?_
    refine q_iconst (v := 5) C dX11_end_5 (by decide) ?_
    refine q_callV (As := [.int 5]) (rest := []) C (c_refuse 5 hL hE) dX11_end_6 kV_X11_102 rfl hL hE ck_12 rfl (Nat.le_of_ble_eq_true rfl) ⟨Nat.le_of_ble_eq_true rfl, Nat.le_of_ble_eq_true rfl⟩ ⟨Nat.le_of_ble_eq_true rfl, Nat.le_of_ble_eq_true rfl⟩ (fun vh4 Lh4 Eh4 h4 => ?_)
    obtain ⟨rfl, rfl, rfl⟩ := h4
    refine q_st (st2 := [.int (-1)]) rfl ?_
    exact q_iret C dX11_end_9 rfl (Nat.le_of_ble_eq_true rfl) (Nat.le_of_ble_eq_true rfl) (by refine congrArg (fun z => some (Value.int z)) ?_; unfold an_end; (try simp only [i32_lt, i32_le, i32_eq, inn_f, Decidable.not_not, tn_m1, tn_0, tn_1, tn_2, tn_3, tn_4, tn_5, tn_6, tn_7, tn_8, tn_10, tn_30, tn_31, tn_32, tn_36, tn_40, tn_50, tn_100, tn_126, tn_200, tn_255, tn_500, tn_512, tn_3000, tn_5000] at c1); split <;> rename_i hz <;> (try simp only [i32_lt, i32_le, i32_eq, inn_f, Decidable.not_not, tn_m1, tn_0, tn_1, tn_2, tn_3, tn_4, tn_5, tn_6, tn_7, tn_8, tn_10, tn_30, tn_31, tn_32, tn_36, tn_40, tn_50, tn_100, tn_126, tn_200, tn_255, tn_500, tn_512, tn_3000, tn_5000] at hz) <;> first | rfl | (exfalso; omega) | (rw [i32_eq]; simp only [i32_lt, i32_le, i32_eq, inn_f, Decidable.not_not, tn_m1, tn_0, tn_1, tn_2, tn_3, tn_4, tn_5, tn_6, tn_7, tn_8, tn_10, tn_30, tn_31, tn_32, tn_36, tn_40, tn_50, tn_100, tn_126, tn_200, tn_255, tn_500, tn_512, tn_3000, tn_5000]; omega))
set_option maxHeartbeats 4000000 in
set_option maxRecDepth 100000 in
theorem x_copyLines {l : Launch} {G : GT} {L : List Nat} {E : Nat → va_E} (a b n : Int32)  {h0 sh : Nat} {f fs : Nat → Value} (hL : h0 ∈ L) (hE : E h0 = ob 12 19 f) (f9 : f 9 = .ref sh) (hLsh : sh ∈ L) (hEsh : E sh = ob 8 3 fs) (fs1 : fs 1 = .int 0) : Mq l G yX11_copyLines cX11_copyLines 7 (some .int) 5 [.ref h0, .int a, .int b, .int n] L E 0 0 (fun v L2 E2 => v = some (.int (an_end n))) := by
  refine Mq.mk (by decide) (Nat.le_of_ble_eq_true rfl) ?_
  intro p e s m args below meth c A C
  refine q_iload_n (j := 3) C dX11_copyLines_0 rfl ?_
  refine q_bipush (v := 10) C dX11_copyLines_1 (by decide) ?_
  refine q_icmp_le (tgt := 13) C dX11_copyLines_3 (by decide) (fun c1 => ?_) (fun c1 => ?_)
  · refine q_iload_n (j := 3) C dX11_copyLines_13 rfl ?_
    refine q_if_ge (tgt := 23) C dX11_copyLines_14 (by decide) (fun c2 => ?_) (fun c2 => ?_)
    · refine q_aload_n (j := 0) C dX11_copyLines_23 rfl ?_
      refine q_iconst (v := 0) C dX11_copyLines_24 (by decide) ?_
      refine q_put (k := 15) C ck_12 dX11_copyLines_25 w2_59 (by decide) rfl hL hE rfl rfl ?_
      refine q_iconst (v := 0) C dX11_copyLines_28 (by decide) ?_
      refine q_istore (lv2 := [(4, .int 0), (0, .ref h0), (1, .int a), (2, .int b), (3, .int n)]) C dX11_copyLines_29 (by decide) rfl ?_
      refine q_iload (j := 0) C dX11_copyLines_31 rfl ?_
      refine q_iload_n (j := 4) C dX11_copyLines_33 rfl ?_
      refine q_icmp_ge (tgt := 116) C dX11_copyLines_34 (by decide) (fun c3 => ?_) (fun c3 => ?_)
      · refine q_aload_n (j := 1) C dX11_copyLines_116 rfl ?_
        refine q_iload_n (j := 4) C dX11_copyLines_117 rfl ?_
        refine q_callV (As := [.int n]) (rest := []) C (c_done n hL (va_up_self _ _ _)) dX11_copyLines_118 kV_X11_109 rfl hL (va_up_self _ _ _) ck_12 rfl (Nat.le_of_ble_eq_true rfl) ⟨Nat.le_of_ble_eq_true rfl, Nat.le_of_ble_eq_true rfl⟩ ⟨Nat.le_of_ble_eq_true rfl, Nat.le_of_ble_eq_true rfl⟩ (fun vh1 Lh1 Eh1 h1 => ?_)
        obtain ⟨rfl, rfl, rfl⟩ := h1
        refine q_st (st2 := [.int n]) rfl ?_
        exact q_iret C dX11_copyLines_121 rfl (Nat.le_of_ble_eq_true rfl) (Nat.le_of_ble_eq_true rfl) (by refine congrArg (fun z => some (Value.int z)) ?_; unfold an_end; (try simp only [i32_lt, i32_le, i32_eq, inn_f, Decidable.not_not, tn_m1, tn_0, tn_1, tn_2, tn_3, tn_4, tn_5, tn_6, tn_7, tn_8, tn_10, tn_30, tn_31, tn_32, tn_36, tn_40, tn_50, tn_100, tn_126, tn_200, tn_255, tn_500, tn_512, tn_3000, tn_5000] at c1); (try simp only [i32_lt, i32_le, i32_eq, inn_f, Decidable.not_not, tn_m1, tn_0, tn_1, tn_2, tn_3, tn_4, tn_5, tn_6, tn_7, tn_8, tn_10, tn_30, tn_31, tn_32, tn_36, tn_40, tn_50, tn_100, tn_126, tn_200, tn_255, tn_500, tn_512, tn_3000, tn_5000] at c2); (try simp only [i32_lt, i32_le, i32_eq, inn_f, Decidable.not_not, tn_m1, tn_0, tn_1, tn_2, tn_3, tn_4, tn_5, tn_6, tn_7, tn_8, tn_10, tn_30, tn_31, tn_32, tn_36, tn_40, tn_50, tn_100, tn_126, tn_200, tn_255, tn_500, tn_512, tn_3000, tn_5000] at c3); split <;> rename_i hz <;> (try simp only [i32_lt, i32_le, i32_eq, inn_f, Decidable.not_not, tn_m1, tn_0, tn_1, tn_2, tn_3, tn_4, tn_5, tn_6, tn_7, tn_8, tn_10, tn_30, tn_31, tn_32, tn_36, tn_40, tn_50, tn_100, tn_126, tn_200, tn_255, tn_500, tn_512, tn_3000, tn_5000] at hz) <;> first | rfl | (exfalso; omega) | (rw [i32_eq]; simp only [i32_lt, i32_le, i32_eq, inn_f, Decidable.not_not, tn_m1, tn_0, tn_1, tn_2, tn_3, tn_4, tn_5, tn_6, tn_7, tn_8, tn_10, tn_30, tn_31, tn_32, tn_36, tn_40, tn_50, tn_100, tn_126, tn_200, tn_255, tn_500, tn_512, tn_3000, tn_5000]; omega))
      · refine q_aload_n (j := 1) C dX11_copyLines_37 rfl ?_
        refine q_get (k := 9) (v := .ref sh) C ck_12 dX11_copyLines_38 w2_53 (by decide) hL (va_up_self _ _ _) f9 ?_
        refine q_iload_n (j := 2) C dX11_copyLines_41 rfl ?_
        refine q_iload (j := 0) C dX11_copyLines_42 rfl ?_
        refine q_iadd (v := (a + 0)) C dX11_copyLines_44 rfl ?_
        refine q_callV (As := [.int (a + 0)]) (rest := []) C (c_sat0 (a + 0) hLsh ((va_up_ne _ _ (ne_ob hEsh hE (by decide))).trans hEsh) fs1) dX11_copyLines_45 kV_X11_308 rfl hLsh ((va_up_ne _ _ (ne_ob hEsh hE (by decide))).trans hEsh) ck_8 rfl (Nat.le_of_ble_eq_true rfl) ⟨Nat.le_of_ble_eq_true rfl, Nat.le_of_ble_eq_true rfl⟩ ⟨Nat.le_of_ble_eq_true rfl, Nat.le_of_ble_eq_true rfl⟩ (fun vh2 Lh2 Eh2 h2 => ?_)
        obtain ⟨rfl, rfl, rfl⟩ := h2
        refine q_st (st2 := [.null]) rfl ?_
        refine q_astoreN (lv2 := [(5, .null), (4, .int 0), (0, .ref h0), (1, .int a), (2, .int b), (3, .int n)]) C dX11_copyLines_48 (by decide) rfl ?_
        refine q_aload_n (j := 2) C dX11_copyLines_50 rfl ?_
        refine q_get (k := 9) (v := .ref sh) C ck_12 dX11_copyLines_51 w2_53 (by decide) hL (va_up_self _ _ _) f9 ?_
        refine q_iload_n (j := 4) C dX11_copyLines_54 rfl ?_
        refine q_iload (j := 1) C dX11_copyLines_55 rfl ?_
        refine q_iadd (v := (b + 0)) C dX11_copyLines_57 rfl ?_
        refine q_callV (As := [.int (b + 0)]) (rest := []) C (c_sat0 (b + 0) hLsh ((va_up_ne _ _ (ne_ob hEsh hE (by decide))).trans hEsh) fs1) dX11_copyLines_58 kV_X11_308 rfl hLsh ((va_up_ne _ _ (ne_ob hEsh hE (by decide))).trans hEsh) ck_8 rfl (Nat.le_of_ble_eq_true rfl) ⟨Nat.le_of_ble_eq_true rfl, Nat.le_of_ble_eq_true rfl⟩ ⟨Nat.le_of_ble_eq_true rfl, Nat.le_of_ble_eq_true rfl⟩ (fun vh3 Lh3 Eh3 h3 => ?_)
        obtain ⟨rfl, rfl, rfl⟩ := h3
        refine q_st (st2 := [.null]) rfl ?_
        refine q_astoreN (lv2 := [(6, .null), (5, .null), (4, .int 0), (0, .ref h0), (1, .int a), (2, .int b), (3, .int n)]) C dX11_copyLines_61 (by decide) rfl ?_
        refine q_aloadN (j := 1) C dX11_copyLines_63 rfl ?_
        refine q_ifnullN (tgt := 73) C dX11_copyLines_65 (by decide) ?_
        refine q_aload_n (j := 3) C dX11_copyLines_73 rfl ?_
        refine q_iconst (v := 2) C dX11_copyLines_74 (by decide) ?_
        refine q_callV (As := [.int 2]) (rest := []) C (c_refuse 2 hL (va_up_self _ _ _)) dX11_copyLines_75 kV_X11_102 rfl hL (va_up_self _ _ _) ck_12 rfl (Nat.le_of_ble_eq_true rfl) ⟨Nat.le_of_ble_eq_true rfl, Nat.le_of_ble_eq_true rfl⟩ ⟨Nat.le_of_ble_eq_true rfl, Nat.le_of_ble_eq_true rfl⟩ (fun vh4 Lh4 Eh4 h4 => ?_)
        obtain ⟨rfl, rfl, rfl⟩ := h4
        refine q_st (st2 := [.int (-1)]) rfl ?_
        exact q_iret C dX11_copyLines_78 rfl (Nat.le_of_ble_eq_true rfl) (Nat.le_of_ble_eq_true rfl) (by refine congrArg (fun z => some (Value.int z)) ?_; unfold an_end; (try simp only [i32_lt, i32_le, i32_eq, inn_f, Decidable.not_not, tn_m1, tn_0, tn_1, tn_2, tn_3, tn_4, tn_5, tn_6, tn_7, tn_8, tn_10, tn_30, tn_31, tn_32, tn_36, tn_40, tn_50, tn_100, tn_126, tn_200, tn_255, tn_500, tn_512, tn_3000, tn_5000] at c1); (try simp only [i32_lt, i32_le, i32_eq, inn_f, Decidable.not_not, tn_m1, tn_0, tn_1, tn_2, tn_3, tn_4, tn_5, tn_6, tn_7, tn_8, tn_10, tn_30, tn_31, tn_32, tn_36, tn_40, tn_50, tn_100, tn_126, tn_200, tn_255, tn_500, tn_512, tn_3000, tn_5000] at c2); (try simp only [i32_lt, i32_le, i32_eq, inn_f, Decidable.not_not, tn_m1, tn_0, tn_1, tn_2, tn_3, tn_4, tn_5, tn_6, tn_7, tn_8, tn_10, tn_30, tn_31, tn_32, tn_36, tn_40, tn_50, tn_100, tn_126, tn_200, tn_255, tn_500, tn_512, tn_3000, tn_5000] at c3); split <;> rename_i hz <;> (try simp only [i32_lt, i32_le, i32_eq, inn_f, Decidable.not_not, tn_m1, tn_0, tn_1, tn_2, tn_3, tn_4, tn_5, tn_6, tn_7, tn_8, tn_10, tn_30, tn_31, tn_32, tn_36, tn_40, tn_50, tn_100, tn_126, tn_200, tn_255, tn_500, tn_512, tn_3000, tn_5000] at hz) <;> first | rfl | (exfalso; omega) | (rw [i32_eq]; simp only [i32_lt, i32_le, i32_eq, inn_f, Decidable.not_not, tn_m1, tn_0, tn_1, tn_2, tn_3, tn_4, tn_5, tn_6, tn_7, tn_8, tn_10, tn_30, tn_31, tn_32, tn_36, tn_40, tn_50, tn_100, tn_126, tn_200, tn_255, tn_500, tn_512, tn_3000, tn_5000]; omega))
    · refine q_aload_n (j := 0) C dX11_copyLines_17 rfl ?_
      refine q_iconst (v := 5) C dX11_copyLines_18 (by decide) ?_
      refine q_callV (As := [.int 5]) (rest := []) C (c_refuse 5 hL hE) dX11_copyLines_19 kV_X11_102 rfl hL hE ck_12 rfl (Nat.le_of_ble_eq_true rfl) ⟨Nat.le_of_ble_eq_true rfl, Nat.le_of_ble_eq_true rfl⟩ ⟨Nat.le_of_ble_eq_true rfl, Nat.le_of_ble_eq_true rfl⟩ (fun vh5 Lh5 Eh5 h5 => ?_)
      obtain ⟨rfl, rfl, rfl⟩ := h5
      refine q_st (st2 := [.int (-1)]) rfl ?_
      exact q_iret C dX11_copyLines_22 rfl (Nat.le_of_ble_eq_true rfl) (Nat.le_of_ble_eq_true rfl) (by refine congrArg (fun z => some (Value.int z)) ?_; unfold an_end; (try simp only [i32_lt, i32_le, i32_eq, inn_f, Decidable.not_not, tn_m1, tn_0, tn_1, tn_2, tn_3, tn_4, tn_5, tn_6, tn_7, tn_8, tn_10, tn_30, tn_31, tn_32, tn_36, tn_40, tn_50, tn_100, tn_126, tn_200, tn_255, tn_500, tn_512, tn_3000, tn_5000] at c1); (try simp only [i32_lt, i32_le, i32_eq, inn_f, Decidable.not_not, tn_m1, tn_0, tn_1, tn_2, tn_3, tn_4, tn_5, tn_6, tn_7, tn_8, tn_10, tn_30, tn_31, tn_32, tn_36, tn_40, tn_50, tn_100, tn_126, tn_200, tn_255, tn_500, tn_512, tn_3000, tn_5000] at c2); split <;> rename_i hz <;> (try simp only [i32_lt, i32_le, i32_eq, inn_f, Decidable.not_not, tn_m1, tn_0, tn_1, tn_2, tn_3, tn_4, tn_5, tn_6, tn_7, tn_8, tn_10, tn_30, tn_31, tn_32, tn_36, tn_40, tn_50, tn_100, tn_126, tn_200, tn_255, tn_500, tn_512, tn_3000, tn_5000] at hz) <;> first | rfl | (exfalso; omega) | (rw [i32_eq]; simp only [i32_lt, i32_le, i32_eq, inn_f, Decidable.not_not, tn_m1, tn_0, tn_1, tn_2, tn_3, tn_4, tn_5, tn_6, tn_7, tn_8, tn_10, tn_30, tn_31, tn_32, tn_36, tn_40, tn_50, tn_100, tn_126, tn_200, tn_255, tn_500, tn_512, tn_3000, tn_5000]; omega))
  · refine q_aload_n (j := 0) C dX11_copyLines_6 rfl ?_
    refine q_bipush (v := 6) C dX11_copyLines_7 (by decide) ?_
    refine q_callV (As := [.int 6]) (rest := []) C (c_refuse 6 hL hE) dX11_copyLines_9 kV_X11_102 rfl hL hE ck_12 rfl (Nat.le_of_ble_eq_true rfl) ⟨Nat.le_of_ble_eq_true rfl, Nat.le_of_ble_eq_true rfl⟩ ⟨Nat.le_of_ble_eq_true rfl, Nat.le_of_ble_eq_true rfl⟩ (fun vh6 Lh6 Eh6 h6 => ?_)
    obtain ⟨rfl, rfl, rfl⟩ := h6
    refine q_st (st2 := [.int (-1)]) rfl ?_
    exact q_iret C dX11_copyLines_12 rfl (Nat.le_of_ble_eq_true rfl) (Nat.le_of_ble_eq_true rfl) (by refine congrArg (fun z => some (Value.int z)) ?_; unfold an_end; (try simp only [i32_lt, i32_le, i32_eq, inn_f, Decidable.not_not, tn_m1, tn_0, tn_1, tn_2, tn_3, tn_4, tn_5, tn_6, tn_7, tn_8, tn_10, tn_30, tn_31, tn_32, tn_36, tn_40, tn_50, tn_100, tn_126, tn_200, tn_255, tn_500, tn_512, tn_3000, tn_5000] at c1); split <;> rename_i hz <;> (try simp only [i32_lt, i32_le, i32_eq, inn_f, Decidable.not_not, tn_m1, tn_0, tn_1, tn_2, tn_3, tn_4, tn_5, tn_6, tn_7, tn_8, tn_10, tn_30, tn_31, tn_32, tn_36, tn_40, tn_50, tn_100, tn_126, tn_200, tn_255, tn_500, tn_512, tn_3000, tn_5000] at hz) <;> first | rfl | (exfalso; omega) | (rw [i32_eq]; simp only [i32_lt, i32_le, i32_eq, inn_f, Decidable.not_not, tn_m1, tn_0, tn_1, tn_2, tn_3, tn_4, tn_5, tn_6, tn_7, tn_8, tn_10, tn_30, tn_31, tn_32, tn_36, tn_40, tn_50, tn_100, tn_126, tn_200, tn_255, tn_500, tn_512, tn_3000, tn_5000]; omega))
set_option maxHeartbeats 4000000 in
set_option maxRecDepth 100000 in
theorem x_emboss {l : Launch} {G : GT} {L : List Nat} {E : Nat → va_E} (a n : Int32)  {h0 sh : Nat} {f fs : Nat → Value} (hL : h0 ∈ L) (hE : E h0 = ob 12 19 f) (f9 : f 9 = .ref sh) (f16 : f 16 = .int 0) (hLsh : sh ∈ L) (hEsh : E sh = ob 8 3 fs) (fs1 : fs 1 = .int 0) : Mq l G yX11_emboss cX11_emboss 6 (some .int) 5 [.ref h0, .int a, .int n] L E 0 0 (fun v L2 E2 => v = some (.int (an_end n))) := by
  refine Mq.mk (by decide) (Nat.le_of_ble_eq_true rfl) ?_
  intro p e s m args below meth c A C
  refine q_iload_n (j := 2) C dX11_emboss_0 rfl ?_
  refine q_sipush (v := 200) C dX11_emboss_1 (by decide) ?_
  refine q_icmp_le (tgt := 14) C dX11_emboss_4 (by decide) (fun c1 => ?_) (fun c1 => ?_)
  · refine q_iload_n (j := 2) C dX11_emboss_14 rfl ?_
    refine q_if_ge (tgt := 24) C dX11_emboss_15 (by decide) (fun c2 => ?_) (fun c2 => ?_)
    · refine q_iconst (v := 0) C dX11_emboss_24 (by decide) ?_
      refine q_istore_n (lv2 := [(3, .int 0), (0, .ref h0), (1, .int a), (2, .int n)]) C dX11_emboss_25 (by decide) rfl ?_
      refine q_iconst (v := 0) C dX11_emboss_26 (by decide) ?_
      refine q_istore (lv2 := [(4, .int 0), (3, .int 0), (0, .ref h0), (1, .int a), (2, .int n)]) C dX11_emboss_27 (by decide) rfl ?_
      refine q_iload (j := 0) C dX11_emboss_29 rfl ?_
      refine q_iload_n (j := 4) C dX11_emboss_31 rfl ?_
      refine q_icmp_ge (tgt := 121) C dX11_emboss_32 (by decide) (fun c3 => ?_) (fun c3 => ?_)
      · refine q_aload_n (j := 2) C dX11_emboss_121 rfl ?_
        refine q_iload_n (j := 1) C dX11_emboss_122 rfl ?_
        refine q_callV (As := [.int 0]) (rest := []) C (c_done 0 hL hE) dX11_emboss_123 kV_X11_109 rfl hL hE ck_12 rfl (Nat.le_of_ble_eq_true rfl) ⟨Nat.le_of_ble_eq_true rfl, Nat.le_of_ble_eq_true rfl⟩ ⟨Nat.le_of_ble_eq_true rfl, Nat.le_of_ble_eq_true rfl⟩ (fun vh1 Lh1 Eh1 h1 => ?_)
        obtain ⟨rfl, rfl, rfl⟩ := h1
        refine q_st (st2 := [.int 0]) rfl ?_
        exact q_iret C dX11_emboss_126 rfl (Nat.le_of_ble_eq_true rfl) (Nat.le_of_ble_eq_true rfl) (by refine congrArg (fun z => some (Value.int z)) ?_; unfold an_end; (try simp only [i32_lt, i32_le, i32_eq, inn_f, Decidable.not_not, tn_m1, tn_0, tn_1, tn_2, tn_3, tn_4, tn_5, tn_6, tn_7, tn_8, tn_10, tn_30, tn_31, tn_32, tn_36, tn_40, tn_50, tn_100, tn_126, tn_200, tn_255, tn_500, tn_512, tn_3000, tn_5000] at c1); (try simp only [i32_lt, i32_le, i32_eq, inn_f, Decidable.not_not, tn_m1, tn_0, tn_1, tn_2, tn_3, tn_4, tn_5, tn_6, tn_7, tn_8, tn_10, tn_30, tn_31, tn_32, tn_36, tn_40, tn_50, tn_100, tn_126, tn_200, tn_255, tn_500, tn_512, tn_3000, tn_5000] at c2); (try simp only [i32_lt, i32_le, i32_eq, inn_f, Decidable.not_not, tn_m1, tn_0, tn_1, tn_2, tn_3, tn_4, tn_5, tn_6, tn_7, tn_8, tn_10, tn_30, tn_31, tn_32, tn_36, tn_40, tn_50, tn_100, tn_126, tn_200, tn_255, tn_500, tn_512, tn_3000, tn_5000] at c3); split <;> rename_i hz <;> (try simp only [i32_lt, i32_le, i32_eq, inn_f, Decidable.not_not, tn_m1, tn_0, tn_1, tn_2, tn_3, tn_4, tn_5, tn_6, tn_7, tn_8, tn_10, tn_30, tn_31, tn_32, tn_36, tn_40, tn_50, tn_100, tn_126, tn_200, tn_255, tn_500, tn_512, tn_3000, tn_5000] at hz) <;> first | rfl | (exfalso; omega) | (rw [i32_eq]; simp only [i32_lt, i32_le, i32_eq, inn_f, Decidable.not_not, tn_m1, tn_0, tn_1, tn_2, tn_3, tn_4, tn_5, tn_6, tn_7, tn_8, tn_10, tn_30, tn_31, tn_32, tn_36, tn_40, tn_50, tn_100, tn_126, tn_200, tn_255, tn_500, tn_512, tn_3000, tn_5000]; omega))
      · refine q_aload_n (j := 2) C dX11_emboss_35 rfl ?_
        refine q_dup C dX11_emboss_36 rfl ?_
        refine q_get (k := 16) (v := .int 0) C ck_12 dX11_emboss_37 w2_60 (by decide) hL hE f16 ?_
        refine q_iconst (v := 1) C dX11_emboss_40 (by decide) ?_
        refine q_iadd (v := 1) C dX11_emboss_41 (by decide) ?_
        refine q_put (k := 16) C ck_12 dX11_emboss_42 w2_60 (by decide) rfl hL hE rfl rfl ?_
        refine q_aload_n (j := 2) C dX11_emboss_45 rfl ?_
        refine q_get (k := 9) (v := .ref sh) C ck_12 dX11_emboss_46 w2_53 (by decide) hL (va_up_self _ _ _) f9 ?_
        refine q_iload_n (j := 3) C dX11_emboss_49 rfl ?_
        refine q_iload (j := 0) C dX11_emboss_50 rfl ?_
        refine q_iadd (v := (a + 0)) C dX11_emboss_52 rfl ?_
        refine q_callV (As := [.int (a + 0)]) (rest := []) C (c_sat0 (a + 0) hLsh ((va_up_ne _ _ (ne_ob hEsh hE (by decide))).trans hEsh) fs1) dX11_emboss_53 kV_X11_308 rfl hLsh ((va_up_ne _ _ (ne_ob hEsh hE (by decide))).trans hEsh) ck_8 rfl (Nat.le_of_ble_eq_true rfl) ⟨Nat.le_of_ble_eq_true rfl, Nat.le_of_ble_eq_true rfl⟩ ⟨Nat.le_of_ble_eq_true rfl, Nat.le_of_ble_eq_true rfl⟩ (fun vh2 Lh2 Eh2 h2 => ?_)
        obtain ⟨rfl, rfl, rfl⟩ := h2
        refine q_st (st2 := [.null]) rfl ?_
        refine q_astoreN (lv2 := [(5, .null), (4, .int 0), (3, .int 0), (0, .ref h0), (1, .int a), (2, .int n)]) C dX11_emboss_56 (by decide) rfl ?_
        refine q_aloadN (j := 0) C dX11_emboss_58 rfl ?_
        refine q_ifnonnullN C dX11_emboss_60 ?_
        refine q_aload_n (j := 3) C dX11_emboss_63 rfl ?_
        refine q_iconst (v := 2) C dX11_emboss_64 (by decide) ?_
        refine q_callV (As := [.int 2]) (rest := []) C (c_refuse 2 hL (va_up_self _ _ _)) dX11_emboss_65 kV_X11_102 rfl hL (va_up_self _ _ _) ck_12 rfl (Nat.le_of_ble_eq_true rfl) ⟨Nat.le_of_ble_eq_true rfl, Nat.le_of_ble_eq_true rfl⟩ ⟨Nat.le_of_ble_eq_true rfl, Nat.le_of_ble_eq_true rfl⟩ (fun vh3 Lh3 Eh3 h3 => ?_)
        obtain ⟨rfl, rfl, rfl⟩ := h3
        refine q_st (st2 := [.int (-1)]) rfl ?_
        exact q_iret C dX11_emboss_68 rfl (Nat.le_of_ble_eq_true rfl) (Nat.le_of_ble_eq_true rfl) (by refine congrArg (fun z => some (Value.int z)) ?_; unfold an_end; (try simp only [i32_lt, i32_le, i32_eq, inn_f, Decidable.not_not, tn_m1, tn_0, tn_1, tn_2, tn_3, tn_4, tn_5, tn_6, tn_7, tn_8, tn_10, tn_30, tn_31, tn_32, tn_36, tn_40, tn_50, tn_100, tn_126, tn_200, tn_255, tn_500, tn_512, tn_3000, tn_5000] at c1); (try simp only [i32_lt, i32_le, i32_eq, inn_f, Decidable.not_not, tn_m1, tn_0, tn_1, tn_2, tn_3, tn_4, tn_5, tn_6, tn_7, tn_8, tn_10, tn_30, tn_31, tn_32, tn_36, tn_40, tn_50, tn_100, tn_126, tn_200, tn_255, tn_500, tn_512, tn_3000, tn_5000] at c2); (try simp only [i32_lt, i32_le, i32_eq, inn_f, Decidable.not_not, tn_m1, tn_0, tn_1, tn_2, tn_3, tn_4, tn_5, tn_6, tn_7, tn_8, tn_10, tn_30, tn_31, tn_32, tn_36, tn_40, tn_50, tn_100, tn_126, tn_200, tn_255, tn_500, tn_512, tn_3000, tn_5000] at c3); split <;> rename_i hz <;> (try simp only [i32_lt, i32_le, i32_eq, inn_f, Decidable.not_not, tn_m1, tn_0, tn_1, tn_2, tn_3, tn_4, tn_5, tn_6, tn_7, tn_8, tn_10, tn_30, tn_31, tn_32, tn_36, tn_40, tn_50, tn_100, tn_126, tn_200, tn_255, tn_500, tn_512, tn_3000, tn_5000] at hz) <;> first | rfl | (exfalso; omega) | (rw [i32_eq]; simp only [i32_lt, i32_le, i32_eq, inn_f, Decidable.not_not, tn_m1, tn_0, tn_1, tn_2, tn_3, tn_4, tn_5, tn_6, tn_7, tn_8, tn_10, tn_30, tn_31, tn_32, tn_36, tn_40, tn_50, tn_100, tn_126, tn_200, tn_255, tn_500, tn_512, tn_3000, tn_5000]; omega))
    · refine q_aload_n (j := 0) C dX11_emboss_18 rfl ?_
      refine q_iconst (v := 5) C dX11_emboss_19 (by decide) ?_
      refine q_callV (As := [.int 5]) (rest := []) C (c_refuse 5 hL hE) dX11_emboss_20 kV_X11_102 rfl hL hE ck_12 rfl (Nat.le_of_ble_eq_true rfl) ⟨Nat.le_of_ble_eq_true rfl, Nat.le_of_ble_eq_true rfl⟩ ⟨Nat.le_of_ble_eq_true rfl, Nat.le_of_ble_eq_true rfl⟩ (fun vh4 Lh4 Eh4 h4 => ?_)
      obtain ⟨rfl, rfl, rfl⟩ := h4
      refine q_st (st2 := [.int (-1)]) rfl ?_
      exact q_iret C dX11_emboss_23 rfl (Nat.le_of_ble_eq_true rfl) (Nat.le_of_ble_eq_true rfl) (by refine congrArg (fun z => some (Value.int z)) ?_; unfold an_end; (try simp only [i32_lt, i32_le, i32_eq, inn_f, Decidable.not_not, tn_m1, tn_0, tn_1, tn_2, tn_3, tn_4, tn_5, tn_6, tn_7, tn_8, tn_10, tn_30, tn_31, tn_32, tn_36, tn_40, tn_50, tn_100, tn_126, tn_200, tn_255, tn_500, tn_512, tn_3000, tn_5000] at c1); (try simp only [i32_lt, i32_le, i32_eq, inn_f, Decidable.not_not, tn_m1, tn_0, tn_1, tn_2, tn_3, tn_4, tn_5, tn_6, tn_7, tn_8, tn_10, tn_30, tn_31, tn_32, tn_36, tn_40, tn_50, tn_100, tn_126, tn_200, tn_255, tn_500, tn_512, tn_3000, tn_5000] at c2); split <;> rename_i hz <;> (try simp only [i32_lt, i32_le, i32_eq, inn_f, Decidable.not_not, tn_m1, tn_0, tn_1, tn_2, tn_3, tn_4, tn_5, tn_6, tn_7, tn_8, tn_10, tn_30, tn_31, tn_32, tn_36, tn_40, tn_50, tn_100, tn_126, tn_200, tn_255, tn_500, tn_512, tn_3000, tn_5000] at hz) <;> first | rfl | (exfalso; omega) | (rw [i32_eq]; simp only [i32_lt, i32_le, i32_eq, inn_f, Decidable.not_not, tn_m1, tn_0, tn_1, tn_2, tn_3, tn_4, tn_5, tn_6, tn_7, tn_8, tn_10, tn_30, tn_31, tn_32, tn_36, tn_40, tn_50, tn_100, tn_126, tn_200, tn_255, tn_500, tn_512, tn_3000, tn_5000]; omega))
  · refine q_aload_n (j := 0) C dX11_emboss_7 rfl ?_
    refine q_bipush (v := 6) C dX11_emboss_8 (by decide) ?_
    refine q_callV (As := [.int 6]) (rest := []) C (c_refuse 6 hL hE) dX11_emboss_10 kV_X11_102 rfl hL hE ck_12 rfl (Nat.le_of_ble_eq_true rfl) ⟨Nat.le_of_ble_eq_true rfl, Nat.le_of_ble_eq_true rfl⟩ ⟨Nat.le_of_ble_eq_true rfl, Nat.le_of_ble_eq_true rfl⟩ (fun vh5 Lh5 Eh5 h5 => ?_)
    obtain ⟨rfl, rfl, rfl⟩ := h5
    refine q_st (st2 := [.int (-1)]) rfl ?_
    exact q_iret C dX11_emboss_13 rfl (Nat.le_of_ble_eq_true rfl) (Nat.le_of_ble_eq_true rfl) (by refine congrArg (fun z => some (Value.int z)) ?_; unfold an_end; (try simp only [i32_lt, i32_le, i32_eq, inn_f, Decidable.not_not, tn_m1, tn_0, tn_1, tn_2, tn_3, tn_4, tn_5, tn_6, tn_7, tn_8, tn_10, tn_30, tn_31, tn_32, tn_36, tn_40, tn_50, tn_100, tn_126, tn_200, tn_255, tn_500, tn_512, tn_3000, tn_5000] at c1); split <;> rename_i hz <;> (try simp only [i32_lt, i32_le, i32_eq, inn_f, Decidable.not_not, tn_m1, tn_0, tn_1, tn_2, tn_3, tn_4, tn_5, tn_6, tn_7, tn_8, tn_10, tn_30, tn_31, tn_32, tn_36, tn_40, tn_50, tn_100, tn_126, tn_200, tn_255, tn_500, tn_512, tn_3000, tn_5000] at hz) <;> first | rfl | (exfalso; omega) | (rw [i32_eq]; simp only [i32_lt, i32_le, i32_eq, inn_f, Decidable.not_not, tn_m1, tn_0, tn_1, tn_2, tn_3, tn_4, tn_5, tn_6, tn_7, tn_8, tn_10, tn_30, tn_31, tn_32, tn_36, tn_40, tn_50, tn_100, tn_126, tn_200, tn_255, tn_500, tn_512, tn_3000, tn_5000]; omega))
set_option maxHeartbeats 4000000 in
set_option maxRecDepth 100000 in
theorem x_measure {l : Launch} {G : GT} {L : List Nat} {E : Nat → va_E} (w h y : Int32)  {h0 : Nat} {f : Nat → Value} (hL : h0 ∈ L) (hE : E h0 = ob 12 19 f) : Mq l G yX11_measure cX11_measure 4 (some .int) 5 [.ref h0, .int w, .int h, .int y] L E 0 0 (fun v L2 E2 => v = some (.int (an_meas w h y))) := by
  refine Mq.mk (by decide) (Nat.le_of_ble_eq_true rfl) ?_
  intro p e s m args below meth c A C
  refine q_iload_n (j := 1) C dX11_measure_0 rfl ?_
  refine q_iconst (v := 1) C dX11_measure_1 (by decide) ?_
  refine q_icmp_lt (tgt := 34) C dX11_measure_2 (by decide) (fun c1 => ?_) (fun c1 => ?_)
  · refine q_aload_n (j := 0) C dX11_measure_34 rfl ?_
    refine q_bipush (v := 6) C dX11_measure_35 (by decide) ?_
    refine q_callV (As := [.int 6]) (rest := []) C (c_refuse 6 hL hE) dX11_measure_37 kV_X11_102 rfl hL hE ck_12 rfl (Nat.le_of_ble_eq_true rfl) ⟨Nat.le_of_ble_eq_true rfl, Nat.le_of_ble_eq_true rfl⟩ ⟨Nat.le_of_ble_eq_true rfl, Nat.le_of_ble_eq_true rfl⟩ (fun vh1 Lh1 Eh1 h1 => ?_)
    obtain ⟨rfl, rfl, rfl⟩ := h1
    refine q_st (st2 := [.int (-1)]) rfl ?_
    exact q_iret C dX11_measure_40 rfl (Nat.le_of_ble_eq_true rfl) (Nat.le_of_ble_eq_true rfl) (by refine congrArg (fun z => some (Value.int z)) ?_; unfold an_meas; (try simp only [i32_lt, i32_le, i32_eq, inn_f, Decidable.not_not, tn_m1, tn_0, tn_1, tn_2, tn_3, tn_4, tn_5, tn_6, tn_7, tn_8, tn_10, tn_30, tn_31, tn_32, tn_36, tn_40, tn_50, tn_100, tn_126, tn_200, tn_255, tn_500, tn_512, tn_3000, tn_5000] at c1); split <;> rename_i hz <;> (try simp only [i32_lt, i32_le, i32_eq, inn_f, Decidable.not_not, tn_m1, tn_0, tn_1, tn_2, tn_3, tn_4, tn_5, tn_6, tn_7, tn_8, tn_10, tn_30, tn_31, tn_32, tn_36, tn_40, tn_50, tn_100, tn_126, tn_200, tn_255, tn_500, tn_512, tn_3000, tn_5000] at hz) <;> first | rfl | (exfalso; omega) | (rw [i32_eq]; simp only [i32_lt, i32_le, i32_eq, inn_f, Decidable.not_not, tn_m1, tn_0, tn_1, tn_2, tn_3, tn_4, tn_5, tn_6, tn_7, tn_8, tn_10, tn_30, tn_31, tn_32, tn_36, tn_40, tn_50, tn_100, tn_126, tn_200, tn_255, tn_500, tn_512, tn_3000, tn_5000]; omega))
  · refine q_iload_n (j := 1) C dX11_measure_5 rfl ?_
    refine q_bipush (v := 100) C dX11_measure_6 (by decide) ?_
    refine q_icmp_gt (tgt := 34) C dX11_measure_8 (by decide) (fun c2 => ?_) (fun c2 => ?_)
    · refine q_aload_n (j := 0) C dX11_measure_34 rfl ?_
      refine q_bipush (v := 6) C dX11_measure_35 (by decide) ?_
      refine q_callV (As := [.int 6]) (rest := []) C (c_refuse 6 hL hE) dX11_measure_37 kV_X11_102 rfl hL hE ck_12 rfl (Nat.le_of_ble_eq_true rfl) ⟨Nat.le_of_ble_eq_true rfl, Nat.le_of_ble_eq_true rfl⟩ ⟨Nat.le_of_ble_eq_true rfl, Nat.le_of_ble_eq_true rfl⟩ (fun vh2 Lh2 Eh2 h2 => ?_)
      obtain ⟨rfl, rfl, rfl⟩ := h2
      refine q_st (st2 := [.int (-1)]) rfl ?_
      exact q_iret C dX11_measure_40 rfl (Nat.le_of_ble_eq_true rfl) (Nat.le_of_ble_eq_true rfl) (by refine congrArg (fun z => some (Value.int z)) ?_; unfold an_meas; (try simp only [i32_lt, i32_le, i32_eq, inn_f, Decidable.not_not, tn_m1, tn_0, tn_1, tn_2, tn_3, tn_4, tn_5, tn_6, tn_7, tn_8, tn_10, tn_30, tn_31, tn_32, tn_36, tn_40, tn_50, tn_100, tn_126, tn_200, tn_255, tn_500, tn_512, tn_3000, tn_5000] at c1); (try simp only [i32_lt, i32_le, i32_eq, inn_f, Decidable.not_not, tn_m1, tn_0, tn_1, tn_2, tn_3, tn_4, tn_5, tn_6, tn_7, tn_8, tn_10, tn_30, tn_31, tn_32, tn_36, tn_40, tn_50, tn_100, tn_126, tn_200, tn_255, tn_500, tn_512, tn_3000, tn_5000] at c2); split <;> rename_i hz <;> (try simp only [i32_lt, i32_le, i32_eq, inn_f, Decidable.not_not, tn_m1, tn_0, tn_1, tn_2, tn_3, tn_4, tn_5, tn_6, tn_7, tn_8, tn_10, tn_30, tn_31, tn_32, tn_36, tn_40, tn_50, tn_100, tn_126, tn_200, tn_255, tn_500, tn_512, tn_3000, tn_5000] at hz) <;> first | rfl | (exfalso; omega) | (rw [i32_eq]; simp only [i32_lt, i32_le, i32_eq, inn_f, Decidable.not_not, tn_m1, tn_0, tn_1, tn_2, tn_3, tn_4, tn_5, tn_6, tn_7, tn_8, tn_10, tn_30, tn_31, tn_32, tn_36, tn_40, tn_50, tn_100, tn_126, tn_200, tn_255, tn_500, tn_512, tn_3000, tn_5000]; omega))
    · refine q_iload_n (j := 2) C dX11_measure_11 rfl ?_
      refine q_iconst (v := 1) C dX11_measure_12 (by decide) ?_
      refine q_icmp_lt (tgt := 34) C dX11_measure_13 (by decide) (fun c3 => ?_) (fun c3 => ?_)
      · refine q_aload_n (j := 0) C dX11_measure_34 rfl ?_
        refine q_bipush (v := 6) C dX11_measure_35 (by decide) ?_
        refine q_callV (As := [.int 6]) (rest := []) C (c_refuse 6 hL hE) dX11_measure_37 kV_X11_102 rfl hL hE ck_12 rfl (Nat.le_of_ble_eq_true rfl) ⟨Nat.le_of_ble_eq_true rfl, Nat.le_of_ble_eq_true rfl⟩ ⟨Nat.le_of_ble_eq_true rfl, Nat.le_of_ble_eq_true rfl⟩ (fun vh3 Lh3 Eh3 h3 => ?_)
        obtain ⟨rfl, rfl, rfl⟩ := h3
        refine q_st (st2 := [.int (-1)]) rfl ?_
        exact q_iret C dX11_measure_40 rfl (Nat.le_of_ble_eq_true rfl) (Nat.le_of_ble_eq_true rfl) (by refine congrArg (fun z => some (Value.int z)) ?_; unfold an_meas; (try simp only [i32_lt, i32_le, i32_eq, inn_f, Decidable.not_not, tn_m1, tn_0, tn_1, tn_2, tn_3, tn_4, tn_5, tn_6, tn_7, tn_8, tn_10, tn_30, tn_31, tn_32, tn_36, tn_40, tn_50, tn_100, tn_126, tn_200, tn_255, tn_500, tn_512, tn_3000, tn_5000] at c1); (try simp only [i32_lt, i32_le, i32_eq, inn_f, Decidable.not_not, tn_m1, tn_0, tn_1, tn_2, tn_3, tn_4, tn_5, tn_6, tn_7, tn_8, tn_10, tn_30, tn_31, tn_32, tn_36, tn_40, tn_50, tn_100, tn_126, tn_200, tn_255, tn_500, tn_512, tn_3000, tn_5000] at c2); (try simp only [i32_lt, i32_le, i32_eq, inn_f, Decidable.not_not, tn_m1, tn_0, tn_1, tn_2, tn_3, tn_4, tn_5, tn_6, tn_7, tn_8, tn_10, tn_30, tn_31, tn_32, tn_36, tn_40, tn_50, tn_100, tn_126, tn_200, tn_255, tn_500, tn_512, tn_3000, tn_5000] at c3); split <;> rename_i hz <;> (try simp only [i32_lt, i32_le, i32_eq, inn_f, Decidable.not_not, tn_m1, tn_0, tn_1, tn_2, tn_3, tn_4, tn_5, tn_6, tn_7, tn_8, tn_10, tn_30, tn_31, tn_32, tn_36, tn_40, tn_50, tn_100, tn_126, tn_200, tn_255, tn_500, tn_512, tn_3000, tn_5000] at hz) <;> first | rfl | (exfalso; omega) | (rw [i32_eq]; simp only [i32_lt, i32_le, i32_eq, inn_f, Decidable.not_not, tn_m1, tn_0, tn_1, tn_2, tn_3, tn_4, tn_5, tn_6, tn_7, tn_8, tn_10, tn_30, tn_31, tn_32, tn_36, tn_40, tn_50, tn_100, tn_126, tn_200, tn_255, tn_500, tn_512, tn_3000, tn_5000]; omega))
      · refine q_iload_n (j := 2) C dX11_measure_16 rfl ?_
        refine q_bipush (v := 50) C dX11_measure_17 (by decide) ?_
        refine q_icmp_gt (tgt := 34) C dX11_measure_19 (by decide) (fun c4 => ?_) (fun c4 => ?_)
        · refine q_aload_n (j := 0) C dX11_measure_34 rfl ?_
          refine q_bipush (v := 6) C dX11_measure_35 (by decide) ?_
          refine q_callV (As := [.int 6]) (rest := []) C (c_refuse 6 hL hE) dX11_measure_37 kV_X11_102 rfl hL hE ck_12 rfl (Nat.le_of_ble_eq_true rfl) ⟨Nat.le_of_ble_eq_true rfl, Nat.le_of_ble_eq_true rfl⟩ ⟨Nat.le_of_ble_eq_true rfl, Nat.le_of_ble_eq_true rfl⟩ (fun vh4 Lh4 Eh4 h4 => ?_)
          obtain ⟨rfl, rfl, rfl⟩ := h4
          refine q_st (st2 := [.int (-1)]) rfl ?_
          exact q_iret C dX11_measure_40 rfl (Nat.le_of_ble_eq_true rfl) (Nat.le_of_ble_eq_true rfl) (by refine congrArg (fun z => some (Value.int z)) ?_; unfold an_meas; (try simp only [i32_lt, i32_le, i32_eq, inn_f, Decidable.not_not, tn_m1, tn_0, tn_1, tn_2, tn_3, tn_4, tn_5, tn_6, tn_7, tn_8, tn_10, tn_30, tn_31, tn_32, tn_36, tn_40, tn_50, tn_100, tn_126, tn_200, tn_255, tn_500, tn_512, tn_3000, tn_5000] at c1); (try simp only [i32_lt, i32_le, i32_eq, inn_f, Decidable.not_not, tn_m1, tn_0, tn_1, tn_2, tn_3, tn_4, tn_5, tn_6, tn_7, tn_8, tn_10, tn_30, tn_31, tn_32, tn_36, tn_40, tn_50, tn_100, tn_126, tn_200, tn_255, tn_500, tn_512, tn_3000, tn_5000] at c2); (try simp only [i32_lt, i32_le, i32_eq, inn_f, Decidable.not_not, tn_m1, tn_0, tn_1, tn_2, tn_3, tn_4, tn_5, tn_6, tn_7, tn_8, tn_10, tn_30, tn_31, tn_32, tn_36, tn_40, tn_50, tn_100, tn_126, tn_200, tn_255, tn_500, tn_512, tn_3000, tn_5000] at c3); (try simp only [i32_lt, i32_le, i32_eq, inn_f, Decidable.not_not, tn_m1, tn_0, tn_1, tn_2, tn_3, tn_4, tn_5, tn_6, tn_7, tn_8, tn_10, tn_30, tn_31, tn_32, tn_36, tn_40, tn_50, tn_100, tn_126, tn_200, tn_255, tn_500, tn_512, tn_3000, tn_5000] at c4); split <;> rename_i hz <;> (try simp only [i32_lt, i32_le, i32_eq, inn_f, Decidable.not_not, tn_m1, tn_0, tn_1, tn_2, tn_3, tn_4, tn_5, tn_6, tn_7, tn_8, tn_10, tn_30, tn_31, tn_32, tn_36, tn_40, tn_50, tn_100, tn_126, tn_200, tn_255, tn_500, tn_512, tn_3000, tn_5000] at hz) <;> first | rfl | (exfalso; omega) | (rw [i32_eq]; simp only [i32_lt, i32_le, i32_eq, inn_f, Decidable.not_not, tn_m1, tn_0, tn_1, tn_2, tn_3, tn_4, tn_5, tn_6, tn_7, tn_8, tn_10, tn_30, tn_31, tn_32, tn_36, tn_40, tn_50, tn_100, tn_126, tn_200, tn_255, tn_500, tn_512, tn_3000, tn_5000]; omega))
        · refine q_iload_n (j := 3) C dX11_measure_22 rfl ?_
          refine q_iconst (v := 1) C dX11_measure_23 (by decide) ?_
          refine q_icmp_lt (tgt := 34) C dX11_measure_24 (by decide) (fun c5 => ?_) (fun c5 => ?_)
          · refine q_aload_n (j := 0) C dX11_measure_34 rfl ?_
            refine q_bipush (v := 6) C dX11_measure_35 (by decide) ?_
            refine q_callV (As := [.int 6]) (rest := []) C (c_refuse 6 hL hE) dX11_measure_37 kV_X11_102 rfl hL hE ck_12 rfl (Nat.le_of_ble_eq_true rfl) ⟨Nat.le_of_ble_eq_true rfl, Nat.le_of_ble_eq_true rfl⟩ ⟨Nat.le_of_ble_eq_true rfl, Nat.le_of_ble_eq_true rfl⟩ (fun vh5 Lh5 Eh5 h5 => ?_)
            obtain ⟨rfl, rfl, rfl⟩ := h5
            refine q_st (st2 := [.int (-1)]) rfl ?_
            exact q_iret C dX11_measure_40 rfl (Nat.le_of_ble_eq_true rfl) (Nat.le_of_ble_eq_true rfl) (by refine congrArg (fun z => some (Value.int z)) ?_; unfold an_meas; (try simp only [i32_lt, i32_le, i32_eq, inn_f, Decidable.not_not, tn_m1, tn_0, tn_1, tn_2, tn_3, tn_4, tn_5, tn_6, tn_7, tn_8, tn_10, tn_30, tn_31, tn_32, tn_36, tn_40, tn_50, tn_100, tn_126, tn_200, tn_255, tn_500, tn_512, tn_3000, tn_5000] at c1); (try simp only [i32_lt, i32_le, i32_eq, inn_f, Decidable.not_not, tn_m1, tn_0, tn_1, tn_2, tn_3, tn_4, tn_5, tn_6, tn_7, tn_8, tn_10, tn_30, tn_31, tn_32, tn_36, tn_40, tn_50, tn_100, tn_126, tn_200, tn_255, tn_500, tn_512, tn_3000, tn_5000] at c2); (try simp only [i32_lt, i32_le, i32_eq, inn_f, Decidable.not_not, tn_m1, tn_0, tn_1, tn_2, tn_3, tn_4, tn_5, tn_6, tn_7, tn_8, tn_10, tn_30, tn_31, tn_32, tn_36, tn_40, tn_50, tn_100, tn_126, tn_200, tn_255, tn_500, tn_512, tn_3000, tn_5000] at c3); (try simp only [i32_lt, i32_le, i32_eq, inn_f, Decidable.not_not, tn_m1, tn_0, tn_1, tn_2, tn_3, tn_4, tn_5, tn_6, tn_7, tn_8, tn_10, tn_30, tn_31, tn_32, tn_36, tn_40, tn_50, tn_100, tn_126, tn_200, tn_255, tn_500, tn_512, tn_3000, tn_5000] at c4); (try simp only [i32_lt, i32_le, i32_eq, inn_f, Decidable.not_not, tn_m1, tn_0, tn_1, tn_2, tn_3, tn_4, tn_5, tn_6, tn_7, tn_8, tn_10, tn_30, tn_31, tn_32, tn_36, tn_40, tn_50, tn_100, tn_126, tn_200, tn_255, tn_500, tn_512, tn_3000, tn_5000] at c5); split <;> rename_i hz <;> (try simp only [i32_lt, i32_le, i32_eq, inn_f, Decidable.not_not, tn_m1, tn_0, tn_1, tn_2, tn_3, tn_4, tn_5, tn_6, tn_7, tn_8, tn_10, tn_30, tn_31, tn_32, tn_36, tn_40, tn_50, tn_100, tn_126, tn_200, tn_255, tn_500, tn_512, tn_3000, tn_5000] at hz) <;> first | rfl | (exfalso; omega) | (rw [i32_eq]; simp only [i32_lt, i32_le, i32_eq, inn_f, Decidable.not_not, tn_m1, tn_0, tn_1, tn_2, tn_3, tn_4, tn_5, tn_6, tn_7, tn_8, tn_10, tn_30, tn_31, tn_32, tn_36, tn_40, tn_50, tn_100, tn_126, tn_200, tn_255, tn_500, tn_512, tn_3000, tn_5000]; omega))
          · refine q_iload_n (j := 3) C dX11_measure_27 rfl ?_
            refine q_sipush (v := 255) C dX11_measure_28 (by decide) ?_
            refine q_icmp_le (tgt := 41) C dX11_measure_31 (by decide) (fun c6 => ?_) (fun c6 => ?_)
            · refine q_aload_n (j := 0) C dX11_measure_41 rfl ?_
              refine q_iload_n (j := 1) C dX11_measure_42 rfl ?_
              refine q_put (k := 11) C ck_12 dX11_measure_43 w2_55 (by decide) rfl hL hE rfl rfl ?_
              refine q_aload_n (j := 0) C dX11_measure_46 rfl ?_
              refine q_iload_n (j := 2) C dX11_measure_47 rfl ?_
              refine q_put (k := 12) C ck_12 dX11_measure_48 w2_56 (by decide) rfl hL (va_up_self _ _ _) rfl rfl ?_
              refine q_aload_n (j := 0) C dX11_measure_51 rfl ?_
              refine q_iload_n (j := 3) C dX11_measure_52 rfl ?_
              refine q_put (k := 13) C ck_12 dX11_measure_53 w2_57 (by decide) rfl hL (va_up_self _ _ _) rfl rfl ?_
              refine q_aload_n (j := 0) C dX11_measure_56 rfl ?_
              refine q_iconst (v := 1) C dX11_measure_57 (by decide) ?_
              refine q_callV (As := [.int 1]) (rest := []) C (c_done 1 hL (va_up_self _ _ _)) dX11_measure_58 kV_X11_109 rfl hL (va_up_self _ _ _) ck_12 rfl (Nat.le_of_ble_eq_true rfl) ⟨Nat.le_of_ble_eq_true rfl, Nat.le_of_ble_eq_true rfl⟩ ⟨Nat.le_of_ble_eq_true rfl, Nat.le_of_ble_eq_true rfl⟩ (fun vh6 Lh6 Eh6 h6 => ?_)
              obtain ⟨rfl, rfl, rfl⟩ := h6
              refine q_st (st2 := [.int 1]) rfl ?_
              exact q_iret C dX11_measure_61 rfl (Nat.le_of_ble_eq_true rfl) (Nat.le_of_ble_eq_true rfl) (by refine congrArg (fun z => some (Value.int z)) ?_; unfold an_meas; (try simp only [i32_lt, i32_le, i32_eq, inn_f, Decidable.not_not, tn_m1, tn_0, tn_1, tn_2, tn_3, tn_4, tn_5, tn_6, tn_7, tn_8, tn_10, tn_30, tn_31, tn_32, tn_36, tn_40, tn_50, tn_100, tn_126, tn_200, tn_255, tn_500, tn_512, tn_3000, tn_5000] at c1); (try simp only [i32_lt, i32_le, i32_eq, inn_f, Decidable.not_not, tn_m1, tn_0, tn_1, tn_2, tn_3, tn_4, tn_5, tn_6, tn_7, tn_8, tn_10, tn_30, tn_31, tn_32, tn_36, tn_40, tn_50, tn_100, tn_126, tn_200, tn_255, tn_500, tn_512, tn_3000, tn_5000] at c2); (try simp only [i32_lt, i32_le, i32_eq, inn_f, Decidable.not_not, tn_m1, tn_0, tn_1, tn_2, tn_3, tn_4, tn_5, tn_6, tn_7, tn_8, tn_10, tn_30, tn_31, tn_32, tn_36, tn_40, tn_50, tn_100, tn_126, tn_200, tn_255, tn_500, tn_512, tn_3000, tn_5000] at c3); (try simp only [i32_lt, i32_le, i32_eq, inn_f, Decidable.not_not, tn_m1, tn_0, tn_1, tn_2, tn_3, tn_4, tn_5, tn_6, tn_7, tn_8, tn_10, tn_30, tn_31, tn_32, tn_36, tn_40, tn_50, tn_100, tn_126, tn_200, tn_255, tn_500, tn_512, tn_3000, tn_5000] at c4); (try simp only [i32_lt, i32_le, i32_eq, inn_f, Decidable.not_not, tn_m1, tn_0, tn_1, tn_2, tn_3, tn_4, tn_5, tn_6, tn_7, tn_8, tn_10, tn_30, tn_31, tn_32, tn_36, tn_40, tn_50, tn_100, tn_126, tn_200, tn_255, tn_500, tn_512, tn_3000, tn_5000] at c5); (try simp only [i32_lt, i32_le, i32_eq, inn_f, Decidable.not_not, tn_m1, tn_0, tn_1, tn_2, tn_3, tn_4, tn_5, tn_6, tn_7, tn_8, tn_10, tn_30, tn_31, tn_32, tn_36, tn_40, tn_50, tn_100, tn_126, tn_200, tn_255, tn_500, tn_512, tn_3000, tn_5000] at c6); split <;> rename_i hz <;> (try simp only [i32_lt, i32_le, i32_eq, inn_f, Decidable.not_not, tn_m1, tn_0, tn_1, tn_2, tn_3, tn_4, tn_5, tn_6, tn_7, tn_8, tn_10, tn_30, tn_31, tn_32, tn_36, tn_40, tn_50, tn_100, tn_126, tn_200, tn_255, tn_500, tn_512, tn_3000, tn_5000] at hz) <;> first | rfl | (exfalso; omega) | (rw [i32_eq]; simp only [i32_lt, i32_le, i32_eq, inn_f, Decidable.not_not, tn_m1, tn_0, tn_1, tn_2, tn_3, tn_4, tn_5, tn_6, tn_7, tn_8, tn_10, tn_30, tn_31, tn_32, tn_36, tn_40, tn_50, tn_100, tn_126, tn_200, tn_255, tn_500, tn_512, tn_3000, tn_5000]; omega))
            · refine q_aload_n (j := 0) C dX11_measure_34 rfl ?_
              refine q_bipush (v := 6) C dX11_measure_35 (by decide) ?_
              refine q_callV (As := [.int 6]) (rest := []) C (c_refuse 6 hL hE) dX11_measure_37 kV_X11_102 rfl hL hE ck_12 rfl (Nat.le_of_ble_eq_true rfl) ⟨Nat.le_of_ble_eq_true rfl, Nat.le_of_ble_eq_true rfl⟩ ⟨Nat.le_of_ble_eq_true rfl, Nat.le_of_ble_eq_true rfl⟩ (fun vh7 Lh7 Eh7 h7 => ?_)
              obtain ⟨rfl, rfl, rfl⟩ := h7
              refine q_st (st2 := [.int (-1)]) rfl ?_
              exact q_iret C dX11_measure_40 rfl (Nat.le_of_ble_eq_true rfl) (Nat.le_of_ble_eq_true rfl) (by refine congrArg (fun z => some (Value.int z)) ?_; unfold an_meas; (try simp only [i32_lt, i32_le, i32_eq, inn_f, Decidable.not_not, tn_m1, tn_0, tn_1, tn_2, tn_3, tn_4, tn_5, tn_6, tn_7, tn_8, tn_10, tn_30, tn_31, tn_32, tn_36, tn_40, tn_50, tn_100, tn_126, tn_200, tn_255, tn_500, tn_512, tn_3000, tn_5000] at c1); (try simp only [i32_lt, i32_le, i32_eq, inn_f, Decidable.not_not, tn_m1, tn_0, tn_1, tn_2, tn_3, tn_4, tn_5, tn_6, tn_7, tn_8, tn_10, tn_30, tn_31, tn_32, tn_36, tn_40, tn_50, tn_100, tn_126, tn_200, tn_255, tn_500, tn_512, tn_3000, tn_5000] at c2); (try simp only [i32_lt, i32_le, i32_eq, inn_f, Decidable.not_not, tn_m1, tn_0, tn_1, tn_2, tn_3, tn_4, tn_5, tn_6, tn_7, tn_8, tn_10, tn_30, tn_31, tn_32, tn_36, tn_40, tn_50, tn_100, tn_126, tn_200, tn_255, tn_500, tn_512, tn_3000, tn_5000] at c3); (try simp only [i32_lt, i32_le, i32_eq, inn_f, Decidable.not_not, tn_m1, tn_0, tn_1, tn_2, tn_3, tn_4, tn_5, tn_6, tn_7, tn_8, tn_10, tn_30, tn_31, tn_32, tn_36, tn_40, tn_50, tn_100, tn_126, tn_200, tn_255, tn_500, tn_512, tn_3000, tn_5000] at c4); (try simp only [i32_lt, i32_le, i32_eq, inn_f, Decidable.not_not, tn_m1, tn_0, tn_1, tn_2, tn_3, tn_4, tn_5, tn_6, tn_7, tn_8, tn_10, tn_30, tn_31, tn_32, tn_36, tn_40, tn_50, tn_100, tn_126, tn_200, tn_255, tn_500, tn_512, tn_3000, tn_5000] at c5); (try simp only [i32_lt, i32_le, i32_eq, inn_f, Decidable.not_not, tn_m1, tn_0, tn_1, tn_2, tn_3, tn_4, tn_5, tn_6, tn_7, tn_8, tn_10, tn_30, tn_31, tn_32, tn_36, tn_40, tn_50, tn_100, tn_126, tn_200, tn_255, tn_500, tn_512, tn_3000, tn_5000] at c6); split <;> rename_i hz <;> (try simp only [i32_lt, i32_le, i32_eq, inn_f, Decidable.not_not, tn_m1, tn_0, tn_1, tn_2, tn_3, tn_4, tn_5, tn_6, tn_7, tn_8, tn_10, tn_30, tn_31, tn_32, tn_36, tn_40, tn_50, tn_100, tn_126, tn_200, tn_255, tn_500, tn_512, tn_3000, tn_5000] at hz) <;> first | rfl | (exfalso; omega) | (rw [i32_eq]; simp only [i32_lt, i32_le, i32_eq, inn_f, Decidable.not_not, tn_m1, tn_0, tn_1, tn_2, tn_3, tn_4, tn_5, tn_6, tn_7, tn_8, tn_10, tn_30, tn_31, tn_32, tn_36, tn_40, tn_50, tn_100, tn_126, tn_200, tn_255, tn_500, tn_512, tn_3000, tn_5000]; omega))
