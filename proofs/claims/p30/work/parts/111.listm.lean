def el (rv : Nat → Nat → Option Nat) (a i : Nat) : Option Nat := match rv a 1 with
  | some b => rv b i
  | none => none
theorem el_of {rv : Nat → Nat → Option Nat} {a b i : Nat} (h : rv a 1 = some b) : el rv a i = rv b i := by unfold el; rw [h]
set_option maxHeartbeats 4000000 in
set_option maxRecDepth 100000 in
theorem C_checkIndex3 {l : Launch} {G : GT} {mi : Nat} {sk : Nat → Nat} {L : List Nat} {cl ln : Nat → Nat} {iv : Nat → Nat → Int} {rv : Nat → Nat → Option Nat}  {i : Int} {n : Int} {r : Option Nat} (hW : WT (g0 G) sk L cl ln iv rv) (hS : SKL sk L cl) (t_r : ∀ b, r = some b → ty L cl b 0) (h_i : -2147483648 ≤ i ∧ i ≤ 2147483647) (h_n : -2147483648 ≤ n ∧ n ≤ 2147483647) (hi : 0 ≤ i ∧ i < n) : Mc l G mi (Phi (g0 G) sk) PHM yJ3_checkIndex_8e157 cJ3_checkIndex_8e157 3 (some .int) 0 [.int (iI i), .int (iI n), va_rf r] L cl ln iv rv 0 (fun v L2 cl2 ln2 iv2 rv2 => ∃ f : Int, v = some (.int (iI f)) ∧ L = L2 ∧ cl = cl2 ∧ ln = ln2 ∧ iv = iv2 ∧ rv = rv2 ∧ (-2147483648 ≤ f ∧ f ≤ 2147483647) ∧ (f = i)) := by
  refine Mc.mk (by decide) (by cases r <;> exact Nat.le_of_ble_eq_true rfl) ?_
  intro p e s m args below meth c A C hM
  have hph := Phi.le hW hS
  refine c_lveq (show lv_args 0 [.int (iI i), .int (iI n), va_rf r] = [(0, .int (iI i)), (1, .int (iI n)), (2, (va_rf r))] from by cases r <;> rfl) ?_
  refine hv2 (show XT L cl ln L cl ln from XT.refl) (show fT [] L cl iv rv iv rv from fT.refl) (fun hX0 hF0 => ?_)
  refine c_iload_n (j := 0) C dJ3_checkIndex_8e157_0 rfl ?_
  refine c_if_lt (tgt := 9) C ⟨by omega, by omega⟩ dJ3_checkIndex_8e157_1 (by decide) (fun z => absurd z (by omega)) (fun _ => ?_)
  refine c_iload_n (j := 0) C dJ3_checkIndex_8e157_4 rfl ?_
  refine c_iload_n (j := 1) C dJ3_checkIndex_8e157_5 rfl ?_
  refine c_icmp_lt (tgt := 16) C ⟨by omega, by omega⟩ ⟨by omega, by omega⟩ dJ3_checkIndex_8e157_6 (by decide) (fun _ => ?_) (fun z => absurd z (by omega))
  refine c_iload_n (j := 0) C dJ3_checkIndex_8e157_16 rfl ?_
  exact c_iret C dJ3_checkIndex_8e157_17 rfl (by decide) (rom0 hph hph (by decide)) ⟨i, rfl, rfl, rfl, rfl, rfl, rfl, ⟨by omega, by omega⟩, (by omega)⟩
set_option maxHeartbeats 4000000 in
set_option maxRecDepth 100000 in
theorem C_checkIndex2 {l : Launch} {G : GT} {mi : Nat} {sk : Nat → Nat} {L : List Nat} {cl ln : Nat → Nat} {iv : Nat → Nat → Int} {rv : Nat → Nat → Option Nat}  {i : Int} {n : Int} (hW : WT (g0 G) sk L cl ln iv rv) (hS : SKL sk L cl) (h_i : -2147483648 ≤ i ∧ i ≤ 2147483647) (h_n : -2147483648 ≤ n ∧ n ≤ 2147483647) (hi : 0 ≤ i ∧ i < n) : Mc l G mi (Phi (g0 G) sk) PHM yJ15_checkIndex_7cf53 cJ15_checkIndex_7cf53 2 (some .int) 1 [.int (iI i), .int (iI n)] L cl ln iv rv 0 (fun v L2 cl2 ln2 iv2 rv2 => ∃ f : Int, v = some (.int (iI f)) ∧ L = L2 ∧ cl = cl2 ∧ ln = ln2 ∧ iv = iv2 ∧ rv = rv2 ∧ (-2147483648 ≤ f ∧ f ≤ 2147483647) ∧ (f = i)) := by
  refine Mc.mk (by decide) (Nat.le_of_ble_eq_true rfl) ?_
  intro p e s m args below meth c A C hM
  refine hv3 (Phi.le hW hS) (show XT L cl ln L cl ln from XT.refl) (show fT [] L cl iv rv iv rv from fT.refl) (fun hph hX0 hF0 => ?_)
  refine c_iload_n (j := 0) C dJ15_checkIndex_7cf53_0 rfl ?_
  refine c_iload_n (j := 1) C dJ15_checkIndex_7cf53_1 rfl ?_
  refine c_null C dJ15_checkIndex_7cf53_2 ?_
  refine d_callS (As := [.int (iI i), .int (iI n), .null]) (rest := []) C hM (C_checkIndex3 (i := i) (n := n) (r := none) hW hS (fun _ q => by cases q) (by omega) (by omega) (by show 0 ≤ i ∧ i < n; omega)) dJ15_checkIndex_7cf53_3 kS_J15_105 rfl rfl (Nat.le_of_ble_eq_true rfl) ⟨(Nat.le_of_ble_eq_true rfl), (Nat.le_of_ble_eq_true rfl)⟩ hph hph (show 0 + 0 = 0 from rfl) (by decide) (fun rh1 Lh1 clh1 lnh1 ivh1 rvh1 h1 => ?_)
  obtain ⟨f1, rfl, rfl, rfl, rfl, rfl, rfl, rgf1, exf1⟩ := h1
  refine c_st (st2 := [.int (iI f1)]) rfl ?_
  have gf1 : f1 = i := exf1
  exact c_iret C dJ15_checkIndex_7cf53_6 rfl (by decide) (rom0 hph hph (by decide)) ⟨f1, rfl, rfl, rfl, rfl, rfl, rfl, ⟨by omega, by omega⟩, (by omega)⟩
set_option maxHeartbeats 4000000 in
set_option maxRecDepth 100000 in
theorem C_newLength {l : Launch} {G : GT} {mi : Nat} {sk : Nat → Nat} {L : List Nat} {cl ln : Nat → Nat} {iv : Nat → Nat → Int} {rv : Nat → Nat → Option Nat}  {i : Int} {n : Int} {x : Int} (hW : WT (g0 G) sk L cl ln iv rv) (hS : SKL sk L cl) (h_i : -2147483648 ≤ i ∧ i ≤ 2147483647) (h_n : -2147483648 ≤ n ∧ n ≤ 2147483647) (h_x : -2147483648 ≤ x ∧ x ≤ 2147483647) (hi : 0 ≤ i ∧ i ≤ 100000 ∧ 1 ≤ n ∧ n ≤ 100000 ∧ 0 ≤ x ∧ x ≤ 100000) : Mc l G mi (Phi (g0 G) sk) PHM yJ8_newLength_cabcc cJ8_newLength_cabcc 4 (some .int) 1 [.int (iI i), .int (iI n), .int (iI x)] L cl ln iv rv 0 (fun v L2 cl2 ln2 iv2 rv2 => ∃ f : Int, v = some (.int (iI f)) ∧ L = L2 ∧ cl = cl2 ∧ ln = ln2 ∧ iv = iv2 ∧ rv = rv2 ∧ (-2147483648 ≤ f ∧ f ≤ 2147483647) ∧ ((n ≤ x ∧ f = i + x) ∨ (x < n ∧ f = i + n))) := by
  refine Mc.mk (by decide) (Nat.le_of_ble_eq_true rfl) ?_
  intro p e s m args below meth c A C hM
  refine hv3 (Phi.le hW hS) (show XT L cl ln L cl ln from XT.refl) (show fT [] L cl iv rv iv rv from fT.refl) (fun hph hX0 hF0 => ?_)
  refine c_iload_n (j := 0) C dJ8_newLength_cabcc_0 rfl ?_
  refine c_iload_n (j := 1) C dJ8_newLength_cabcc_1 rfl ?_
  refine c_iload_n (j := 2) C dJ8_newLength_cabcc_2 rfl ?_
  obtain ⟨mn1, hmn1, emn1⟩ := mmax_c (x := n) (y := x) ⟨by omega, by omega⟩ ⟨by omega, by omega⟩
  refine c_mmax (w := iI mn1) C dJ8_newLength_cabcc_3 w3_0 w2_148 w1_14 w2_149 (by decide) (rom0 hph hph (by decide)) (Nat.le_of_ble_eq_true rfl) emn1 ?_
  refine c_iadd C dJ8_newLength_cabcc_6 ?_
  refine c_istore_n (lv2 := [(3, .int (iI (i + mn1))), (0, .int (iI i)), (1, .int (iI n)), (2, .int (iI x))]) C dJ8_newLength_cabcc_7 (by decide) rfl ?_
  refine c_iconst C dJ8_newLength_cabcc_8 ?_
  refine c_iload_n (j := 0) C dJ8_newLength_cabcc_9 rfl ?_
  refine c_icmp_ge (tgt := 21) C ⟨by decide, by decide⟩ ⟨by omega, by omega⟩ dJ8_newLength_cabcc_10 (by decide) (fun z => absurd z (by omega)) (fun _ => ?_)
  refine c_iload_n (j := 0) C dJ8_newLength_cabcc_13 rfl ?_
  refine c_ldc (z := 2147483639) C dJ8_newLength_cabcc_14 w3_1 rfl ?_
  refine c_icmp_gt (tgt := 21) C ⟨by omega, by omega⟩ ⟨by decide, by decide⟩ dJ8_newLength_cabcc_16 (by decide) (fun z => absurd z (by omega)) (fun _ => ?_)
  refine c_iload_n (j := 0) C dJ8_newLength_cabcc_19 rfl ?_
  exact c_iret C dJ8_newLength_cabcc_20 rfl (by decide) (rom0 hph hph (by decide)) ⟨(i + mn1), rfl, rfl, rfl, rfl, rfl, rfl, ⟨by omega, by omega⟩, (by omega)⟩
set_option maxHeartbeats 4000000 in
set_option maxRecDepth 100000 in
theorem C_size_22 {l : Launch} {G : GT} {mi : Nat} {sk : Nat → Nat} {L : List Nat} {cl ln : Nat → Nat} {iv : Nat → Nat → Int} {rv : Nat → Nat → Option Nat}  {a0 : Nat} (hW : WT (g0 G) sk L cl ln iv rv) (hS : SKL sk L cl) (t_a0 : ty L cl a0 22)  : Mc l G mi (Phi (g0 G) sk) PHM yJx4a65c_size_8abf5 cJx4a65c_size_8abf5 1 (some .int) 0 [.ref a0] L cl ln iv rv 0 (fun v L2 cl2 ln2 iv2 rv2 => ∃ f : Int, v = some (.int (iI f)) ∧ L = L2 ∧ cl = cl2 ∧ ln = ln2 ∧ iv = iv2 ∧ rv = rv2 ∧ (-2147483648 ≤ f ∧ f ≤ 2147483647) ∧ (f = iv a0 2)) := by
  refine Mc.mk (by decide) (Nat.le_of_ble_eq_true rfl) ?_
  intro p e s m args below meth c A C hM
  refine hv3 (Phi.le hW hS) (show XT L cl ln L cl ln from XT.refl) (show fT [] L cl iv rv iv rv from fT.refl) (fun hph hX0 hF0 => ?_)
  refine c_aload_n (j := 0) (x := a0) C dJx4a65c_size_8abf5_0 rfl ?_
  have ri1 : 0 ≤ iv a0 2 ∧ iv a0 2 ≤ 30 := hW.int t_a0 2
  refine c_get (k := 2) C ck_0 dJx4a65c_size_8abf5_1 w1_79 (by decide) t_a0 rfl rfl (by decide) rfl ?_
  exact c_iret C dJx4a65c_size_8abf5_4 rfl (by decide) (rom0 hph hph (by decide)) ⟨(iv a0 2), rfl, rfl, rfl, rfl, rfl, rfl, ⟨by omega, by omega⟩, rfl⟩
set_option maxHeartbeats 4000000 in
set_option maxRecDepth 100000 in
theorem C_isEmpty_22 {l : Launch} {G : GT} {mi : Nat} {sk : Nat → Nat} {L : List Nat} {cl ln : Nat → Nat} {iv : Nat → Nat → Int} {rv : Nat → Nat → Option Nat}  {a0 : Nat} (hW : WT (g0 G) sk L cl ln iv rv) (hS : SKL sk L cl) (t_a0 : ty L cl a0 22)  : Mc l G mi (Phi (g0 G) sk) PHM yJx4a65c_isEmpty_aae02 cJx4a65c_isEmpty_aae02 1 (some .boolean) 0 [.ref a0] L cl ln iv rv 0 (fun v L2 cl2 ln2 iv2 rv2 => ∃ f : Int, v = some (.int (iI f)) ∧ L = L2 ∧ cl = cl2 ∧ ln = ln2 ∧ iv = iv2 ∧ rv = rv2 ∧ (f = 0 ∨ f = 1) ∧ ((f = 1 ∧ iv a0 2 = 0) ∨ (f = 0 ∧ iv a0 2 ≠ 0))) := by
  refine Mc.mk (by decide) (Nat.le_of_ble_eq_true rfl) ?_
  intro p e s m args below meth c A C hM
  refine hv3 (Phi.le hW hS) (show XT L cl ln L cl ln from XT.refl) (show fT [] L cl iv rv iv rv from fT.refl) (fun hph hX0 hF0 => ?_)
  refine c_aload_n (j := 0) (x := a0) C dJx4a65c_isEmpty_aae02_0 rfl ?_
  have ri1 : 0 ≤ iv a0 2 ∧ iv a0 2 ≤ 30 := hW.int t_a0 2
  refine c_get (k := 2) C ck_0 dJx4a65c_isEmpty_aae02_1 w1_79 (by decide) t_a0 rfl rfl (by decide) rfl ?_
  refine c_if_ne (tgt := 11) C (r32_c (lo := 0) (hi := 30) ri1.1 ri1.2 (by decide) (by decide)) dJx4a65c_isEmpty_aae02_4 (by decide) (fun c1 => ?_) (fun c1 => ?_)
  · refine c_iconst C dJx4a65c_isEmpty_aae02_11 ?_
    exact c_zret C dJx4a65c_isEmpty_aae02_12 rfl (Or.inl rfl) (by decide) (rom0 hph hph (by decide)) ⟨0, rfl, rfl, rfl, rfl, rfl, rfl, (Or.inl rfl), (by omega)⟩
  · refine c_iconst C dJx4a65c_isEmpty_aae02_7 ?_
    refine c_goto (tgt := 12) C dJx4a65c_isEmpty_aae02_8 (by decide) ?_
    exact c_zret C dJx4a65c_isEmpty_aae02_12 rfl (Or.inr rfl) (by decide) (rom0 hph hph (by decide)) ⟨1, rfl, rfl, rfl, rfl, rfl, rfl, (Or.inr rfl), (by omega)⟩
set_option maxHeartbeats 4000000 in
set_option maxRecDepth 100000 in
theorem C_ed_22 {l : Launch} {G : GT} {mi : Nat} {sk : Nat → Nat} {L : List Nat} {cl ln : Nat → Nat} {iv : Nat → Nat → Int} {rv : Nat → Nat → Option Nat}  {a0 : Nat} {i : Int} (hW : WT (g0 G) sk L cl ln iv rv) (hS : SKL sk L cl) (t_a0 : ty L cl a0 22) (h_i : -2147483648 ≤ i ∧ i ≤ 2147483647) (hi : 0 ≤ i ∧ i < iv a0 2) : Mc l G mi (Phi (g0 G) sk) PHM yJx4a65c_elementData_915e3 cJx4a65c_elementData_915e3 2 (some (.object "java/lang/Object")) 0 [.ref a0, .int (iI i)] L cl ln iv rv 0 (fun v L2 cl2 ln2 iv2 rv2 => ∃ f : Nat, v = some (.ref f) ∧ L = L2 ∧ cl = cl2 ∧ ln = ln2 ∧ iv = iv2 ∧ rv = rv2 ∧ ty L2 cl2 f 100 ∧ (el rv a0 i.toNat = some f)) := by
  refine Mc.mk (by decide) (Nat.le_of_ble_eq_true rfl) ?_
  intro p e s m args below meth c A C hM
  refine hv3 (Phi.le hW hS) (show XT L cl ln L cl ln from XT.refl) (show fT [] L cl iv rv iv rv from fT.refl) (fun hph hX0 hF0 => ?_)
  refine c_aload_n (j := 0) (x := a0) C dJx4a65c_elementData_915e3_0 rfl ?_
  have ri1 : 0 ≤ iv a0 2 ∧ iv a0 2 ≤ 30 := hW.int t_a0 2
  obtain ⟨eb1, eq1, teb1, ceb1, zeb1⟩ := hW.ed2 t_a0 rfl rfl (by omega)
  have lneb1 : 10 ≤ ln eb1 ∧ ln eb1 ≤ 60 := hW.len teb1 rfl
  refine c_getr (k := 1) C ck_0 dJx4a65c_elementData_915e3_1 w1_78 (by decide) t_a0 rfl rfl (by decide) rfl eq1 ?_
  refine c_st (st2 := [.ref eb1]) rfl ?_
  refine c_iload_n (j := 1) C dJx4a65c_elementData_915e3_4 rfl ?_
  have ll1 : 10 ≤ ln eb1 ∧ ln eb1 ≤ 60 := hW.len teb1 rfl
  obtain ⟨nb1, nq1, tnb1⟩ := hW.elem t_a0 rfl eq1 teb1 rfl rfl (i := i.toNat) (by omega)
  have tnb1 : ty L cl nb1 100 := tnb1
  refine c_aaldO C dJx4a65c_elementData_915e3_5 teb1 rfl (by omega) (by omega) (by omega) nq1 ?_
  refine c_st (st2 := [.ref nb1]) rfl ?_
  exact c_aret (x := some nb1) C dJx4a65c_elementData_915e3_6 rfl (Or.inl ⟨_, rfl⟩) (by decide) (rom0 hph hph (by decide)) ⟨nb1, rfl, rfl, rfl, rfl, rfl, rfl, tnb1, (by rw [el_of eq1]; exact nq1)⟩
set_option maxHeartbeats 4000000 in
set_option maxRecDepth 100000 in
theorem C_get_22 {l : Launch} {G : GT} {mi : Nat} {sk : Nat → Nat} {L : List Nat} {cl ln : Nat → Nat} {iv : Nat → Nat → Int} {rv : Nat → Nat → Option Nat}  {a0 : Nat} {i : Int} (hW : WT (g0 G) sk L cl ln iv rv) (hS : SKL sk L cl) (t_a0 : ty L cl a0 22) (h_i : -2147483648 ≤ i ∧ i ≤ 2147483647) (hi : 0 ≤ i ∧ i < iv a0 2) : Mc l G mi (Phi (g0 G) sk) PHM yJx4a65c_get_915e3 cJx4a65c_get_915e3 2 (some (.object "java/lang/Object")) 2 [.ref a0, .int (iI i)] L cl ln iv rv 0 (fun v L2 cl2 ln2 iv2 rv2 => ∃ f : Nat, v = some (.ref f) ∧ L = L2 ∧ cl = cl2 ∧ ln = ln2 ∧ iv = iv2 ∧ rv = rv2 ∧ ty L2 cl2 f 100 ∧ (el rv a0 i.toNat = some f)) := by
  refine Mc.mk (by decide) (Nat.le_of_ble_eq_true rfl) ?_
  intro p e s m args below meth c A C hM
  refine hv3 (Phi.le hW hS) (show XT L cl ln L cl ln from XT.refl) (show fT [] L cl iv rv iv rv from fT.refl) (fun hph hX0 hF0 => ?_)
  refine c_iload_n (j := 1) C dJx4a65c_get_915e3_0 rfl ?_
  refine c_aload_n (j := 0) (x := a0) C dJx4a65c_get_915e3_1 rfl ?_
  have ri1 : 0 ≤ iv a0 2 ∧ iv a0 2 ≤ 30 := hW.int t_a0 2
  refine c_get (k := 2) C ck_0 dJx4a65c_get_915e3_2 w1_79 (by decide) t_a0 rfl rfl (by decide) rfl ?_
  refine d_callS (As := [.int (iI i), .int (iI (iv a0 2))]) (rest := []) C hM (C_checkIndex2 (i := i) (n := iv a0 2) hW hS  (by omega) (by omega) (by show 0 ≤ i ∧ i < (iv a0 2); omega)) dJx4a65c_get_915e3_5 kS_Jx4a65c_118 rfl rfl (Nat.le_of_ble_eq_true rfl) ⟨(Nat.le_of_ble_eq_true rfl), (Nat.le_of_ble_eq_true rfl)⟩ hph hph (show 0 + 0 = 0 from rfl) (by decide) (fun rh1 Lh1 clh1 lnh1 ivh1 rvh1 h1 => ?_)
  obtain ⟨f1, rfl, rfl, rfl, rfl, rfl, rfl, rgf1, exf1⟩ := h1
  refine c_st (st2 := [.int (iI f1)]) rfl ?_
  have gf1 : f1 = i := exf1
  refine c_pop C dJx4a65c_get_915e3_8 rfl ?_
  refine c_aload_n (j := 0) (x := a0) C dJx4a65c_get_915e3_9 rfl ?_
  refine c_iload_n (j := 1) C dJx4a65c_get_915e3_10 rfl ?_
  refine d_callV (As := [.int (iI i)]) (rest := []) C hM (C_ed_22 (a0 := a0) (i := i) hW hS t_a0 (by omega) (by show 0 ≤ i ∧ i < iv a0 2; omega)) dJx4a65c_get_915e3_11 kV_Jx4a65c_123 rfl t_a0 rfl rfl (by decide) ck_0 rfl (Nat.le_of_ble_eq_true rfl) ⟨(Nat.le_of_ble_eq_true rfl), (Nat.le_of_ble_eq_true rfl)⟩ hph hph (show 0 + 0 = 0 from rfl) (by decide) (fun rh2 Lh2 clh2 lnh2 ivh2 rvh2 h2 => ?_)
  obtain ⟨f2, rfl, rfl, rfl, rfl, rfl, rfl, rgf2, exf2⟩ := h2
  refine c_st (st2 := [.ref f2]) rfl ?_
  have gf2 : el rv a0 i.toNat = some f2 := exf2
  exact c_aret (x := some f2) C dJx4a65c_get_915e3_14 rfl (Or.inl ⟨_, rfl⟩) (by decide) (rom0 hph hph (by decide)) ⟨f2, rfl, rfl, rfl, rfl, rfl, rfl, rgf2, exf2⟩
set_option maxHeartbeats 4000000 in
set_option maxRecDepth 100000 in
theorem C_size_23 {l : Launch} {G : GT} {mi : Nat} {sk : Nat → Nat} {L : List Nat} {cl ln : Nat → Nat} {iv : Nat → Nat → Int} {rv : Nat → Nat → Option Nat}  {a0 : Nat} (hW : WT (g0 G) sk L cl ln iv rv) (hS : SKL sk L cl) (t_a0 : ty L cl a0 23)  : Mc l G mi (Phi (g0 G) sk) PHM yJx4a65c_size_8abf5 cJx4a65c_size_8abf5 1 (some .int) 0 [.ref a0] L cl ln iv rv 0 (fun v L2 cl2 ln2 iv2 rv2 => ∃ f : Int, v = some (.int (iI f)) ∧ L = L2 ∧ cl = cl2 ∧ ln = ln2 ∧ iv = iv2 ∧ rv = rv2 ∧ (-2147483648 ≤ f ∧ f ≤ 2147483647) ∧ (f = iv a0 2)) := by
  refine Mc.mk (by decide) (Nat.le_of_ble_eq_true rfl) ?_
  intro p e s m args below meth c A C hM
  refine hv3 (Phi.le hW hS) (show XT L cl ln L cl ln from XT.refl) (show fT [] L cl iv rv iv rv from fT.refl) (fun hph hX0 hF0 => ?_)
  refine c_aload_n (j := 0) (x := a0) C dJx4a65c_size_8abf5_0 rfl ?_
  have ri1 : 0 ≤ iv a0 2 ∧ iv a0 2 ≤ 512 := hW.int t_a0 2
  refine c_get (k := 2) C ck_0 dJx4a65c_size_8abf5_1 w1_79 (by decide) t_a0 rfl rfl (by decide) rfl ?_
  exact c_iret C dJx4a65c_size_8abf5_4 rfl (by decide) (rom0 hph hph (by decide)) ⟨(iv a0 2), rfl, rfl, rfl, rfl, rfl, rfl, ⟨by omega, by omega⟩, rfl⟩
set_option maxHeartbeats 4000000 in
set_option maxRecDepth 100000 in
theorem C_isEmpty_23 {l : Launch} {G : GT} {mi : Nat} {sk : Nat → Nat} {L : List Nat} {cl ln : Nat → Nat} {iv : Nat → Nat → Int} {rv : Nat → Nat → Option Nat}  {a0 : Nat} (hW : WT (g0 G) sk L cl ln iv rv) (hS : SKL sk L cl) (t_a0 : ty L cl a0 23)  : Mc l G mi (Phi (g0 G) sk) PHM yJx4a65c_isEmpty_aae02 cJx4a65c_isEmpty_aae02 1 (some .boolean) 0 [.ref a0] L cl ln iv rv 0 (fun v L2 cl2 ln2 iv2 rv2 => ∃ f : Int, v = some (.int (iI f)) ∧ L = L2 ∧ cl = cl2 ∧ ln = ln2 ∧ iv = iv2 ∧ rv = rv2 ∧ (f = 0 ∨ f = 1) ∧ ((f = 1 ∧ iv a0 2 = 0) ∨ (f = 0 ∧ iv a0 2 ≠ 0))) := by
  refine Mc.mk (by decide) (Nat.le_of_ble_eq_true rfl) ?_
  intro p e s m args below meth c A C hM
  refine hv3 (Phi.le hW hS) (show XT L cl ln L cl ln from XT.refl) (show fT [] L cl iv rv iv rv from fT.refl) (fun hph hX0 hF0 => ?_)
  refine c_aload_n (j := 0) (x := a0) C dJx4a65c_isEmpty_aae02_0 rfl ?_
  have ri1 : 0 ≤ iv a0 2 ∧ iv a0 2 ≤ 512 := hW.int t_a0 2
  refine c_get (k := 2) C ck_0 dJx4a65c_isEmpty_aae02_1 w1_79 (by decide) t_a0 rfl rfl (by decide) rfl ?_
  refine c_if_ne (tgt := 11) C (r32_c (lo := 0) (hi := 512) ri1.1 ri1.2 (by decide) (by decide)) dJx4a65c_isEmpty_aae02_4 (by decide) (fun c1 => ?_) (fun c1 => ?_)
  · refine c_iconst C dJx4a65c_isEmpty_aae02_11 ?_
    exact c_zret C dJx4a65c_isEmpty_aae02_12 rfl (Or.inl rfl) (by decide) (rom0 hph hph (by decide)) ⟨0, rfl, rfl, rfl, rfl, rfl, rfl, (Or.inl rfl), (by omega)⟩
  · refine c_iconst C dJx4a65c_isEmpty_aae02_7 ?_
    refine c_goto (tgt := 12) C dJx4a65c_isEmpty_aae02_8 (by decide) ?_
    exact c_zret C dJx4a65c_isEmpty_aae02_12 rfl (Or.inr rfl) (by decide) (rom0 hph hph (by decide)) ⟨1, rfl, rfl, rfl, rfl, rfl, rfl, (Or.inr rfl), (by omega)⟩
set_option maxHeartbeats 4000000 in
set_option maxRecDepth 100000 in
theorem C_size_24 {l : Launch} {G : GT} {mi : Nat} {sk : Nat → Nat} {L : List Nat} {cl ln : Nat → Nat} {iv : Nat → Nat → Int} {rv : Nat → Nat → Option Nat}  {a0 : Nat} (hW : WT (g0 G) sk L cl ln iv rv) (hS : SKL sk L cl) (t_a0 : ty L cl a0 24)  : Mc l G mi (Phi (g0 G) sk) PHM yJx4a65c_size_8abf5 cJx4a65c_size_8abf5 1 (some .int) 0 [.ref a0] L cl ln iv rv 0 (fun v L2 cl2 ln2 iv2 rv2 => ∃ f : Int, v = some (.int (iI f)) ∧ L = L2 ∧ cl = cl2 ∧ ln = ln2 ∧ iv = iv2 ∧ rv = rv2 ∧ (-2147483648 ≤ f ∧ f ≤ 2147483647) ∧ (f = iv a0 2)) := by
  refine Mc.mk (by decide) (Nat.le_of_ble_eq_true rfl) ?_
  intro p e s m args below meth c A C hM
  refine hv3 (Phi.le hW hS) (show XT L cl ln L cl ln from XT.refl) (show fT [] L cl iv rv iv rv from fT.refl) (fun hph hX0 hF0 => ?_)
  refine c_aload_n (j := 0) (x := a0) C dJx4a65c_size_8abf5_0 rfl ?_
  have ri1 : 0 ≤ iv a0 2 ∧ iv a0 2 ≤ 6003 := hW.int t_a0 2
  refine c_get (k := 2) C ck_0 dJx4a65c_size_8abf5_1 w1_79 (by decide) t_a0 rfl rfl (by decide) rfl ?_
  exact c_iret C dJx4a65c_size_8abf5_4 rfl (by decide) (rom0 hph hph (by decide)) ⟨(iv a0 2), rfl, rfl, rfl, rfl, rfl, rfl, ⟨by omega, by omega⟩, rfl⟩
set_option maxHeartbeats 4000000 in
set_option maxRecDepth 100000 in
theorem C_ed_24 {l : Launch} {G : GT} {mi : Nat} {sk : Nat → Nat} {L : List Nat} {cl ln : Nat → Nat} {iv : Nat → Nat → Int} {rv : Nat → Nat → Option Nat}  {a0 : Nat} {i : Int} (hW : WT (g0 G) sk L cl ln iv rv) (hS : SKL sk L cl) (t_a0 : ty L cl a0 24) (h_i : -2147483648 ≤ i ∧ i ≤ 2147483647) (hi : 0 ≤ i ∧ i < iv a0 2) : Mc l G mi (Phi (g0 G) sk) PHM yJx4a65c_elementData_915e3 cJx4a65c_elementData_915e3 2 (some (.object "java/lang/Object")) 0 [.ref a0, .int (iI i)] L cl ln iv rv 0 (fun v L2 cl2 ln2 iv2 rv2 => ∃ f : Nat, v = some (.ref f) ∧ L = L2 ∧ cl = cl2 ∧ ln = ln2 ∧ iv = iv2 ∧ rv = rv2 ∧ ty L2 cl2 f 20 ∧ (el rv a0 i.toNat = some f)) := by
  refine Mc.mk (by decide) (Nat.le_of_ble_eq_true rfl) ?_
  intro p e s m args below meth c A C hM
  refine hv3 (Phi.le hW hS) (show XT L cl ln L cl ln from XT.refl) (show fT [] L cl iv rv iv rv from fT.refl) (fun hph hX0 hF0 => ?_)
  refine c_aload_n (j := 0) (x := a0) C dJx4a65c_elementData_915e3_0 rfl ?_
  have ri1 : 0 ≤ iv a0 2 ∧ iv a0 2 ≤ 6003 := hW.int t_a0 2
  obtain ⟨eb1, eq1, teb1, ceb1, zeb1⟩ := hW.ed2 t_a0 rfl rfl (by omega)
  have lneb1 : 10 ≤ ln eb1 ∧ ln eb1 ≤ 9100 := hW.len teb1 rfl
  refine c_getr (k := 1) C ck_0 dJx4a65c_elementData_915e3_1 w1_78 (by decide) t_a0 rfl rfl (by decide) rfl eq1 ?_
  refine c_st (st2 := [.ref eb1]) rfl ?_
  refine c_iload_n (j := 1) C dJx4a65c_elementData_915e3_4 rfl ?_
  have ll1 : 10 ≤ ln eb1 ∧ ln eb1 ≤ 9100 := hW.len teb1 rfl
  obtain ⟨nb1, nq1, tnb1⟩ := hW.elem t_a0 rfl eq1 teb1 rfl rfl (i := i.toNat) (by omega)
  have tnb1 : ty L cl nb1 20 := tnb1
  refine c_aaldO C dJx4a65c_elementData_915e3_5 teb1 rfl (by omega) (by omega) (by omega) nq1 ?_
  refine c_st (st2 := [.ref nb1]) rfl ?_
  exact c_aret (x := some nb1) C dJx4a65c_elementData_915e3_6 rfl (Or.inl ⟨_, rfl⟩) (by decide) (rom0 hph hph (by decide)) ⟨nb1, rfl, rfl, rfl, rfl, rfl, rfl, tnb1, (by rw [el_of eq1]; exact nq1)⟩
set_option maxHeartbeats 4000000 in
set_option maxRecDepth 100000 in
theorem C_get_24 {l : Launch} {G : GT} {mi : Nat} {sk : Nat → Nat} {L : List Nat} {cl ln : Nat → Nat} {iv : Nat → Nat → Int} {rv : Nat → Nat → Option Nat}  {a0 : Nat} {i : Int} (hW : WT (g0 G) sk L cl ln iv rv) (hS : SKL sk L cl) (t_a0 : ty L cl a0 24) (h_i : -2147483648 ≤ i ∧ i ≤ 2147483647) (hi : 0 ≤ i ∧ i < iv a0 2) : Mc l G mi (Phi (g0 G) sk) PHM yJx4a65c_get_915e3 cJx4a65c_get_915e3 2 (some (.object "java/lang/Object")) 2 [.ref a0, .int (iI i)] L cl ln iv rv 0 (fun v L2 cl2 ln2 iv2 rv2 => ∃ f : Nat, v = some (.ref f) ∧ L = L2 ∧ cl = cl2 ∧ ln = ln2 ∧ iv = iv2 ∧ rv = rv2 ∧ ty L2 cl2 f 20 ∧ (el rv a0 i.toNat = some f)) := by
  refine Mc.mk (by decide) (Nat.le_of_ble_eq_true rfl) ?_
  intro p e s m args below meth c A C hM
  refine hv3 (Phi.le hW hS) (show XT L cl ln L cl ln from XT.refl) (show fT [] L cl iv rv iv rv from fT.refl) (fun hph hX0 hF0 => ?_)
  refine c_iload_n (j := 1) C dJx4a65c_get_915e3_0 rfl ?_
  refine c_aload_n (j := 0) (x := a0) C dJx4a65c_get_915e3_1 rfl ?_
  have ri1 : 0 ≤ iv a0 2 ∧ iv a0 2 ≤ 6003 := hW.int t_a0 2
  refine c_get (k := 2) C ck_0 dJx4a65c_get_915e3_2 w1_79 (by decide) t_a0 rfl rfl (by decide) rfl ?_
  refine d_callS (As := [.int (iI i), .int (iI (iv a0 2))]) (rest := []) C hM (C_checkIndex2 (i := i) (n := iv a0 2) hW hS  (by omega) (by omega) (by show 0 ≤ i ∧ i < (iv a0 2); omega)) dJx4a65c_get_915e3_5 kS_Jx4a65c_118 rfl rfl (Nat.le_of_ble_eq_true rfl) ⟨(Nat.le_of_ble_eq_true rfl), (Nat.le_of_ble_eq_true rfl)⟩ hph hph (show 0 + 0 = 0 from rfl) (by decide) (fun rh1 Lh1 clh1 lnh1 ivh1 rvh1 h1 => ?_)
  obtain ⟨f1, rfl, rfl, rfl, rfl, rfl, rfl, rgf1, exf1⟩ := h1
  refine c_st (st2 := [.int (iI f1)]) rfl ?_
  have gf1 : f1 = i := exf1
  refine c_pop C dJx4a65c_get_915e3_8 rfl ?_
  refine c_aload_n (j := 0) (x := a0) C dJx4a65c_get_915e3_9 rfl ?_
  refine c_iload_n (j := 1) C dJx4a65c_get_915e3_10 rfl ?_
  refine d_callV (As := [.int (iI i)]) (rest := []) C hM (C_ed_24 (a0 := a0) (i := i) hW hS t_a0 (by omega) (by show 0 ≤ i ∧ i < iv a0 2; omega)) dJx4a65c_get_915e3_11 kV_Jx4a65c_123 rfl t_a0 rfl rfl (by decide) ck_0 rfl (Nat.le_of_ble_eq_true rfl) ⟨(Nat.le_of_ble_eq_true rfl), (Nat.le_of_ble_eq_true rfl)⟩ hph hph (show 0 + 0 = 0 from rfl) (by decide) (fun rh2 Lh2 clh2 lnh2 ivh2 rvh2 h2 => ?_)
  obtain ⟨f2, rfl, rfl, rfl, rfl, rfl, rfl, rgf2, exf2⟩ := h2
  refine c_st (st2 := [.ref f2]) rfl ?_
  have gf2 : el rv a0 i.toNat = some f2 := exf2
  exact c_aret (x := some f2) C dJx4a65c_get_915e3_14 rfl (Or.inl ⟨_, rfl⟩) (by decide) (rom0 hph hph (by decide)) ⟨f2, rfl, rfl, rfl, rfl, rfl, rfl, rgf2, exf2⟩
set_option maxHeartbeats 4000000 in
set_option maxRecDepth 100000 in
theorem C_size_25 {l : Launch} {G : GT} {mi : Nat} {sk : Nat → Nat} {L : List Nat} {cl ln : Nat → Nat} {iv : Nat → Nat → Int} {rv : Nat → Nat → Option Nat}  {a0 : Nat} (hW : WT (g0 G) sk L cl ln iv rv) (hS : SKL sk L cl) (t_a0 : ty L cl a0 25)  : Mc l G mi (Phi (g0 G) sk) PHM yJx4a65c_size_8abf5 cJx4a65c_size_8abf5 1 (some .int) 0 [.ref a0] L cl ln iv rv 0 (fun v L2 cl2 ln2 iv2 rv2 => ∃ f : Int, v = some (.int (iI f)) ∧ L = L2 ∧ cl = cl2 ∧ ln = ln2 ∧ iv = iv2 ∧ rv = rv2 ∧ (-2147483648 ≤ f ∧ f ≤ 2147483647) ∧ (f = iv a0 2)) := by
  refine Mc.mk (by decide) (Nat.le_of_ble_eq_true rfl) ?_
  intro p e s m args below meth c A C hM
  refine hv3 (Phi.le hW hS) (show XT L cl ln L cl ln from XT.refl) (show fT [] L cl iv rv iv rv from fT.refl) (fun hph hX0 hF0 => ?_)
  refine c_aload_n (j := 0) (x := a0) C dJx4a65c_size_8abf5_0 rfl ?_
  have ri1 : 0 ≤ iv a0 2 ∧ iv a0 2 ≤ 6003 := hW.int t_a0 2
  refine c_get (k := 2) C ck_0 dJx4a65c_size_8abf5_1 w1_79 (by decide) t_a0 rfl rfl (by decide) rfl ?_
  exact c_iret C dJx4a65c_size_8abf5_4 rfl (by decide) (rom0 hph hph (by decide)) ⟨(iv a0 2), rfl, rfl, rfl, rfl, rfl, rfl, ⟨by omega, by omega⟩, rfl⟩
set_option maxHeartbeats 4000000 in
set_option maxRecDepth 100000 in
theorem C_ed_25 {l : Launch} {G : GT} {mi : Nat} {sk : Nat → Nat} {L : List Nat} {cl ln : Nat → Nat} {iv : Nat → Nat → Int} {rv : Nat → Nat → Option Nat}  {a0 : Nat} {i : Int} (hW : WT (g0 G) sk L cl ln iv rv) (hS : SKL sk L cl) (t_a0 : ty L cl a0 25) (h_i : -2147483648 ≤ i ∧ i ≤ 2147483647) (hi : 0 ≤ i ∧ i < iv a0 2) : Mc l G mi (Phi (g0 G) sk) PHM yJx4a65c_elementData_915e3 cJx4a65c_elementData_915e3 2 (some (.object "java/lang/Object")) 0 [.ref a0, .int (iI i)] L cl ln iv rv 0 (fun v L2 cl2 ln2 iv2 rv2 => ∃ f : Nat, v = some (.ref f) ∧ L = L2 ∧ cl = cl2 ∧ ln = ln2 ∧ iv = iv2 ∧ rv = rv2 ∧ ty L2 cl2 f 20 ∧ (el rv a0 i.toNat = some f)) := by
  refine Mc.mk (by decide) (Nat.le_of_ble_eq_true rfl) ?_
  intro p e s m args below meth c A C hM
  refine hv3 (Phi.le hW hS) (show XT L cl ln L cl ln from XT.refl) (show fT [] L cl iv rv iv rv from fT.refl) (fun hph hX0 hF0 => ?_)
  refine c_aload_n (j := 0) (x := a0) C dJx4a65c_elementData_915e3_0 rfl ?_
  have ri1 : 0 ≤ iv a0 2 ∧ iv a0 2 ≤ 6003 := hW.int t_a0 2
  obtain ⟨eb1, eq1, teb1, ceb1, zeb1⟩ := hW.ed2 t_a0 rfl rfl (by omega)
  have lneb1 : 10 ≤ ln eb1 ∧ ln eb1 ≤ 9100 := hW.len teb1 rfl
  refine c_getr (k := 1) C ck_0 dJx4a65c_elementData_915e3_1 w1_78 (by decide) t_a0 rfl rfl (by decide) rfl eq1 ?_
  refine c_st (st2 := [.ref eb1]) rfl ?_
  refine c_iload_n (j := 1) C dJx4a65c_elementData_915e3_4 rfl ?_
  have ll1 : 10 ≤ ln eb1 ∧ ln eb1 ≤ 9100 := hW.len teb1 rfl
  obtain ⟨nb1, nq1, tnb1⟩ := hW.elem t_a0 rfl eq1 teb1 rfl rfl (i := i.toNat) (by omega)
  have tnb1 : ty L cl nb1 20 := tnb1
  refine c_aaldO C dJx4a65c_elementData_915e3_5 teb1 rfl (by omega) (by omega) (by omega) nq1 ?_
  refine c_st (st2 := [.ref nb1]) rfl ?_
  exact c_aret (x := some nb1) C dJx4a65c_elementData_915e3_6 rfl (Or.inl ⟨_, rfl⟩) (by decide) (rom0 hph hph (by decide)) ⟨nb1, rfl, rfl, rfl, rfl, rfl, rfl, tnb1, (by rw [el_of eq1]; exact nq1)⟩
set_option maxHeartbeats 4000000 in
set_option maxRecDepth 100000 in
theorem C_get_25 {l : Launch} {G : GT} {mi : Nat} {sk : Nat → Nat} {L : List Nat} {cl ln : Nat → Nat} {iv : Nat → Nat → Int} {rv : Nat → Nat → Option Nat}  {a0 : Nat} {i : Int} (hW : WT (g0 G) sk L cl ln iv rv) (hS : SKL sk L cl) (t_a0 : ty L cl a0 25) (h_i : -2147483648 ≤ i ∧ i ≤ 2147483647) (hi : 0 ≤ i ∧ i < iv a0 2) : Mc l G mi (Phi (g0 G) sk) PHM yJx4a65c_get_915e3 cJx4a65c_get_915e3 2 (some (.object "java/lang/Object")) 2 [.ref a0, .int (iI i)] L cl ln iv rv 0 (fun v L2 cl2 ln2 iv2 rv2 => ∃ f : Nat, v = some (.ref f) ∧ L = L2 ∧ cl = cl2 ∧ ln = ln2 ∧ iv = iv2 ∧ rv = rv2 ∧ ty L2 cl2 f 20 ∧ (el rv a0 i.toNat = some f)) := by
  refine Mc.mk (by decide) (Nat.le_of_ble_eq_true rfl) ?_
  intro p e s m args below meth c A C hM
  refine hv3 (Phi.le hW hS) (show XT L cl ln L cl ln from XT.refl) (show fT [] L cl iv rv iv rv from fT.refl) (fun hph hX0 hF0 => ?_)
  refine c_iload_n (j := 1) C dJx4a65c_get_915e3_0 rfl ?_
  refine c_aload_n (j := 0) (x := a0) C dJx4a65c_get_915e3_1 rfl ?_
  have ri1 : 0 ≤ iv a0 2 ∧ iv a0 2 ≤ 6003 := hW.int t_a0 2
  refine c_get (k := 2) C ck_0 dJx4a65c_get_915e3_2 w1_79 (by decide) t_a0 rfl rfl (by decide) rfl ?_
  refine d_callS (As := [.int (iI i), .int (iI (iv a0 2))]) (rest := []) C hM (C_checkIndex2 (i := i) (n := iv a0 2) hW hS  (by omega) (by omega) (by show 0 ≤ i ∧ i < (iv a0 2); omega)) dJx4a65c_get_915e3_5 kS_Jx4a65c_118 rfl rfl (Nat.le_of_ble_eq_true rfl) ⟨(Nat.le_of_ble_eq_true rfl), (Nat.le_of_ble_eq_true rfl)⟩ hph hph (show 0 + 0 = 0 from rfl) (by decide) (fun rh1 Lh1 clh1 lnh1 ivh1 rvh1 h1 => ?_)
  obtain ⟨f1, rfl, rfl, rfl, rfl, rfl, rfl, rgf1, exf1⟩ := h1
  refine c_st (st2 := [.int (iI f1)]) rfl ?_
  have gf1 : f1 = i := exf1
  refine c_pop C dJx4a65c_get_915e3_8 rfl ?_
  refine c_aload_n (j := 0) (x := a0) C dJx4a65c_get_915e3_9 rfl ?_
  refine c_iload_n (j := 1) C dJx4a65c_get_915e3_10 rfl ?_
  refine d_callV (As := [.int (iI i)]) (rest := []) C hM (C_ed_25 (a0 := a0) (i := i) hW hS t_a0 (by omega) (by show 0 ≤ i ∧ i < iv a0 2; omega)) dJx4a65c_get_915e3_11 kV_Jx4a65c_123 rfl t_a0 rfl rfl (by decide) ck_0 rfl (Nat.le_of_ble_eq_true rfl) ⟨(Nat.le_of_ble_eq_true rfl), (Nat.le_of_ble_eq_true rfl)⟩ hph hph (show 0 + 0 = 0 from rfl) (by decide) (fun rh2 Lh2 clh2 lnh2 ivh2 rvh2 h2 => ?_)
  obtain ⟨f2, rfl, rfl, rfl, rfl, rfl, rfl, rgf2, exf2⟩ := h2
  refine c_st (st2 := [.ref f2]) rfl ?_
  have gf2 : el rv a0 i.toNat = some f2 := exf2
  exact c_aret (x := some f2) C dJx4a65c_get_915e3_14 rfl (Or.inl ⟨_, rfl⟩) (by decide) (rom0 hph hph (by decide)) ⟨f2, rfl, rfl, rfl, rfl, rfl, rfl, rgf2, exf2⟩
set_option maxHeartbeats 4000000 in
set_option maxRecDepth 100000 in
theorem C_size_26 {l : Launch} {G : GT} {mi : Nat} {sk : Nat → Nat} {L : List Nat} {cl ln : Nat → Nat} {iv : Nat → Nat → Int} {rv : Nat → Nat → Option Nat}  {a0 : Nat} (hW : WT (g0 G) sk L cl ln iv rv) (hS : SKL sk L cl) (t_a0 : ty L cl a0 26)  : Mc l G mi (Phi (g0 G) sk) PHM yJx4a65c_size_8abf5 cJx4a65c_size_8abf5 1 (some .int) 0 [.ref a0] L cl ln iv rv 0 (fun v L2 cl2 ln2 iv2 rv2 => ∃ f : Int, v = some (.int (iI f)) ∧ L = L2 ∧ cl = cl2 ∧ ln = ln2 ∧ iv = iv2 ∧ rv = rv2 ∧ (-2147483648 ≤ f ∧ f ≤ 2147483647) ∧ (f = iv a0 2)) := by
  refine Mc.mk (by decide) (Nat.le_of_ble_eq_true rfl) ?_
  intro p e s m args below meth c A C hM
  refine hv3 (Phi.le hW hS) (show XT L cl ln L cl ln from XT.refl) (show fT [] L cl iv rv iv rv from fT.refl) (fun hph hX0 hF0 => ?_)
  refine c_aload_n (j := 0) (x := a0) C dJx4a65c_size_8abf5_0 rfl ?_
  have ri1 : 0 ≤ iv a0 2 ∧ iv a0 2 ≤ 200 := hW.int t_a0 2
  refine c_get (k := 2) C ck_0 dJx4a65c_size_8abf5_1 w1_79 (by decide) t_a0 rfl rfl (by decide) rfl ?_
  exact c_iret C dJx4a65c_size_8abf5_4 rfl (by decide) (rom0 hph hph (by decide)) ⟨(iv a0 2), rfl, rfl, rfl, rfl, rfl, rfl, ⟨by omega, by omega⟩, rfl⟩
set_option maxHeartbeats 4000000 in
set_option maxRecDepth 100000 in
theorem C_isEmpty_26 {l : Launch} {G : GT} {mi : Nat} {sk : Nat → Nat} {L : List Nat} {cl ln : Nat → Nat} {iv : Nat → Nat → Int} {rv : Nat → Nat → Option Nat}  {a0 : Nat} (hW : WT (g0 G) sk L cl ln iv rv) (hS : SKL sk L cl) (t_a0 : ty L cl a0 26)  : Mc l G mi (Phi (g0 G) sk) PHM yJx4a65c_isEmpty_aae02 cJx4a65c_isEmpty_aae02 1 (some .boolean) 0 [.ref a0] L cl ln iv rv 0 (fun v L2 cl2 ln2 iv2 rv2 => ∃ f : Int, v = some (.int (iI f)) ∧ L = L2 ∧ cl = cl2 ∧ ln = ln2 ∧ iv = iv2 ∧ rv = rv2 ∧ (f = 0 ∨ f = 1) ∧ ((f = 1 ∧ iv a0 2 = 0) ∨ (f = 0 ∧ iv a0 2 ≠ 0))) := by
  refine Mc.mk (by decide) (Nat.le_of_ble_eq_true rfl) ?_
  intro p e s m args below meth c A C hM
  refine hv3 (Phi.le hW hS) (show XT L cl ln L cl ln from XT.refl) (show fT [] L cl iv rv iv rv from fT.refl) (fun hph hX0 hF0 => ?_)
  refine c_aload_n (j := 0) (x := a0) C dJx4a65c_isEmpty_aae02_0 rfl ?_
  have ri1 : 0 ≤ iv a0 2 ∧ iv a0 2 ≤ 200 := hW.int t_a0 2
  refine c_get (k := 2) C ck_0 dJx4a65c_isEmpty_aae02_1 w1_79 (by decide) t_a0 rfl rfl (by decide) rfl ?_
  refine c_if_ne (tgt := 11) C (r32_c (lo := 0) (hi := 200) ri1.1 ri1.2 (by decide) (by decide)) dJx4a65c_isEmpty_aae02_4 (by decide) (fun c1 => ?_) (fun c1 => ?_)
  · refine c_iconst C dJx4a65c_isEmpty_aae02_11 ?_
    exact c_zret C dJx4a65c_isEmpty_aae02_12 rfl (Or.inl rfl) (by decide) (rom0 hph hph (by decide)) ⟨0, rfl, rfl, rfl, rfl, rfl, rfl, (Or.inl rfl), (by omega)⟩
  · refine c_iconst C dJx4a65c_isEmpty_aae02_7 ?_
    refine c_goto (tgt := 12) C dJx4a65c_isEmpty_aae02_8 (by decide) ?_
    exact c_zret C dJx4a65c_isEmpty_aae02_12 rfl (Or.inr rfl) (by decide) (rom0 hph hph (by decide)) ⟨1, rfl, rfl, rfl, rfl, rfl, rfl, (Or.inr rfl), (by omega)⟩
set_option maxHeartbeats 4000000 in
set_option maxRecDepth 100000 in
theorem C_ed_26 {l : Launch} {G : GT} {mi : Nat} {sk : Nat → Nat} {L : List Nat} {cl ln : Nat → Nat} {iv : Nat → Nat → Int} {rv : Nat → Nat → Option Nat}  {a0 : Nat} {i : Int} (hW : WT (g0 G) sk L cl ln iv rv) (hS : SKL sk L cl) (t_a0 : ty L cl a0 26) (h_i : -2147483648 ≤ i ∧ i ≤ 2147483647) (hi : 0 ≤ i ∧ i < iv a0 2) : Mc l G mi (Phi (g0 G) sk) PHM yJx4a65c_elementData_915e3 cJx4a65c_elementData_915e3 2 (some (.object "java/lang/Object")) 0 [.ref a0, .int (iI i)] L cl ln iv rv 0 (fun v L2 cl2 ln2 iv2 rv2 => ∃ f : Nat, v = some (.ref f) ∧ L = L2 ∧ cl = cl2 ∧ ln = ln2 ∧ iv = iv2 ∧ rv = rv2 ∧ ty L2 cl2 f 20 ∧ (el rv a0 i.toNat = some f)) := by
  refine Mc.mk (by decide) (Nat.le_of_ble_eq_true rfl) ?_
  intro p e s m args below meth c A C hM
  refine hv3 (Phi.le hW hS) (show XT L cl ln L cl ln from XT.refl) (show fT [] L cl iv rv iv rv from fT.refl) (fun hph hX0 hF0 => ?_)
  refine c_aload_n (j := 0) (x := a0) C dJx4a65c_elementData_915e3_0 rfl ?_
  have ri1 : 0 ≤ iv a0 2 ∧ iv a0 2 ≤ 200 := hW.int t_a0 2
  obtain ⟨eb1, eq1, teb1, ceb1, zeb1⟩ := hW.ed2 t_a0 rfl rfl (by omega)
  have lneb1 : 10 ≤ ln eb1 ∧ ln eb1 ≤ 400 := hW.len teb1 rfl
  refine c_getr (k := 1) C ck_0 dJx4a65c_elementData_915e3_1 w1_78 (by decide) t_a0 rfl rfl (by decide) rfl eq1 ?_
  refine c_st (st2 := [.ref eb1]) rfl ?_
  refine c_iload_n (j := 1) C dJx4a65c_elementData_915e3_4 rfl ?_
  have ll1 : 10 ≤ ln eb1 ∧ ln eb1 ≤ 400 := hW.len teb1 rfl
  obtain ⟨nb1, nq1, tnb1⟩ := hW.elem t_a0 rfl eq1 teb1 rfl rfl (i := i.toNat) (by omega)
  have tnb1 : ty L cl nb1 20 := tnb1
  refine c_aaldO C dJx4a65c_elementData_915e3_5 teb1 rfl (by omega) (by omega) (by omega) nq1 ?_
  refine c_st (st2 := [.ref nb1]) rfl ?_
  exact c_aret (x := some nb1) C dJx4a65c_elementData_915e3_6 rfl (Or.inl ⟨_, rfl⟩) (by decide) (rom0 hph hph (by decide)) ⟨nb1, rfl, rfl, rfl, rfl, rfl, rfl, tnb1, (by rw [el_of eq1]; exact nq1)⟩
set_option maxHeartbeats 4000000 in
set_option maxRecDepth 100000 in
theorem C_get_26 {l : Launch} {G : GT} {mi : Nat} {sk : Nat → Nat} {L : List Nat} {cl ln : Nat → Nat} {iv : Nat → Nat → Int} {rv : Nat → Nat → Option Nat}  {a0 : Nat} {i : Int} (hW : WT (g0 G) sk L cl ln iv rv) (hS : SKL sk L cl) (t_a0 : ty L cl a0 26) (h_i : -2147483648 ≤ i ∧ i ≤ 2147483647) (hi : 0 ≤ i ∧ i < iv a0 2) : Mc l G mi (Phi (g0 G) sk) PHM yJx4a65c_get_915e3 cJx4a65c_get_915e3 2 (some (.object "java/lang/Object")) 2 [.ref a0, .int (iI i)] L cl ln iv rv 0 (fun v L2 cl2 ln2 iv2 rv2 => ∃ f : Nat, v = some (.ref f) ∧ L = L2 ∧ cl = cl2 ∧ ln = ln2 ∧ iv = iv2 ∧ rv = rv2 ∧ ty L2 cl2 f 20 ∧ (el rv a0 i.toNat = some f)) := by
  refine Mc.mk (by decide) (Nat.le_of_ble_eq_true rfl) ?_
  intro p e s m args below meth c A C hM
  refine hv3 (Phi.le hW hS) (show XT L cl ln L cl ln from XT.refl) (show fT [] L cl iv rv iv rv from fT.refl) (fun hph hX0 hF0 => ?_)
  refine c_iload_n (j := 1) C dJx4a65c_get_915e3_0 rfl ?_
  refine c_aload_n (j := 0) (x := a0) C dJx4a65c_get_915e3_1 rfl ?_
  have ri1 : 0 ≤ iv a0 2 ∧ iv a0 2 ≤ 200 := hW.int t_a0 2
  refine c_get (k := 2) C ck_0 dJx4a65c_get_915e3_2 w1_79 (by decide) t_a0 rfl rfl (by decide) rfl ?_
  refine d_callS (As := [.int (iI i), .int (iI (iv a0 2))]) (rest := []) C hM (C_checkIndex2 (i := i) (n := iv a0 2) hW hS  (by omega) (by omega) (by show 0 ≤ i ∧ i < (iv a0 2); omega)) dJx4a65c_get_915e3_5 kS_Jx4a65c_118 rfl rfl (Nat.le_of_ble_eq_true rfl) ⟨(Nat.le_of_ble_eq_true rfl), (Nat.le_of_ble_eq_true rfl)⟩ hph hph (show 0 + 0 = 0 from rfl) (by decide) (fun rh1 Lh1 clh1 lnh1 ivh1 rvh1 h1 => ?_)
  obtain ⟨f1, rfl, rfl, rfl, rfl, rfl, rfl, rgf1, exf1⟩ := h1
  refine c_st (st2 := [.int (iI f1)]) rfl ?_
  have gf1 : f1 = i := exf1
  refine c_pop C dJx4a65c_get_915e3_8 rfl ?_
  refine c_aload_n (j := 0) (x := a0) C dJx4a65c_get_915e3_9 rfl ?_
  refine c_iload_n (j := 1) C dJx4a65c_get_915e3_10 rfl ?_
  refine d_callV (As := [.int (iI i)]) (rest := []) C hM (C_ed_26 (a0 := a0) (i := i) hW hS t_a0 (by omega) (by show 0 ≤ i ∧ i < iv a0 2; omega)) dJx4a65c_get_915e3_11 kV_Jx4a65c_123 rfl t_a0 rfl rfl (by decide) ck_0 rfl (Nat.le_of_ble_eq_true rfl) ⟨(Nat.le_of_ble_eq_true rfl), (Nat.le_of_ble_eq_true rfl)⟩ hph hph (show 0 + 0 = 0 from rfl) (by decide) (fun rh2 Lh2 clh2 lnh2 ivh2 rvh2 h2 => ?_)
  obtain ⟨f2, rfl, rfl, rfl, rfl, rfl, rfl, rgf2, exf2⟩ := h2
  refine c_st (st2 := [.ref f2]) rfl ?_
  have gf2 : el rv a0 i.toNat = some f2 := exf2
  exact c_aret (x := some f2) C dJx4a65c_get_915e3_14 rfl (Or.inl ⟨_, rfl⟩) (by decide) (rom0 hph hph (by decide)) ⟨f2, rfl, rfl, rfl, rfl, rfl, rfl, rgf2, exf2⟩
