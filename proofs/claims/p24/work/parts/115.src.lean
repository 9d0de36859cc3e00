section
theorem rom3 {P K c0 x ph pm : Nat} (h1 : ph ≤ pm) (h2 : P + 3000 ≤ pm) (h3 : K + x ≤ c0 + 3000) : P + K + x ≤ (pm + c0 - ph) + ph := by omega
theorem rz3 {P K c0 c2 ph pm : Nat} {ln : Nat → Nat} {rv : Nat → Nat → Option Nat} (h1 : ph ≤ pm) (h2 : P + 3000 ≤ pm) (h3 : K + c2 ≤ c0 + 3000) : P + K + (0 + c2 - zPf ln rv) ≤ (pm + c0 - ph) + ph := by unfold zPf; omega
theorem ty_rt {L : List Nat} {cl cl2 : Nat → Nat} {a q t T : Nat} (h : ty L cl a T) (hc : cl2 = va_up cl q t) (hne : a ≠ q) : ty L cl2 a T := ⟨h.1, by rw [hc, va_up_ne _ _ hne]; exact h.2⟩
theorem XT.rt {L0 L : List Nat} {cl0 ln0 cl ln cl2 : Nat → Nat} {q t : Nat} (h : XT L0 cl0 ln0 L cl ln) (hc : cl2 = va_up cl q t) (hq : q ∉ L0) : XT L0 cl0 ln0 L cl2 ln := fun a ha => ⟨(h a ha).1, by rw [hc, va_up_ne _ _ (ne_in ha hq)]; exact (h a ha).2.1, (h a ha).2.2⟩
theorem uq_raw {t : Nat} (h : uq t = true) : raw (bt t) = false := by
  unfold uq at h
  have hm := List.contains_iff_mem.mp h
  simp only [List.mem_cons, List.not_mem_nil, or_false] at hm
  rcases hm with rfl | rfl | rfl | rfl | rfl | rfl | rfl | rfl | rfl | rfl | rfl | rfl | rfl | rfl | rfl | rfl | rfl | rfl | rfl | rfl | rfl | rfl | rfl | rfl <;> rfl
theorem SKL.rt {sk : Nat → Nat} {L : List Nat} {cl cl2 : Nat → Nat} {q t : Nat} (h : SKL sk L cl) (hc : cl2 = va_up cl q t) (hr : raw (bt (cl q)) = true) : SKL sk L cl2 := fun u hu => ⟨(h u hu).1, by
  rw [hc, va_up_ne _ _ (fun e => ?_)]
  · exact (h u hu).2
  · rw [← e, (h u hu).2, uq_raw hu] at hr; cases hr⟩
theorem rok_none {L : List Nat} {cl : Nat → Nat} {g a k T : Nat} (ha : ty L cl a T) (hn : nul T k = true) : rok L cl g a k none := fun _ => ⟨fun _ => by rw [ha.2]; exact hn, fun _ q => by cases q⟩
theorem nn_up {f : Nat → Option Nat} {i x : Nat} (hf : f i = none) : ∀ n, nn (va_up f i (some x)) n = nn f n + (if i < n then 1 else 0) := by
  intro n
  induction n with
  | zero => rfl
  | succ n ih =>
    unfold nn
    rw [ih]
    by_cases e : n = i
    · subst e
      rw [va_up_self, hf]
      rw [if_neg (Nat.lt_irrefl n), if_pos (Nat.lt_succ_self n)]
      rfl
    · rw [va_up_ne _ _ e]
      by_cases h2 : i < n
      · have e1 : (if i < n then 1 else 0) = 1 := if_pos h2
        have e2 : (if i < n + 1 then 1 else 0) = 1 := if_pos (by omega)
        rw [e1, e2]; omega
      · have e1 : (if i < n then 1 else 0) = 0 := if_neg h2
        have e2 : (if i < n + 1 then 1 else 0) = 0 := if_neg (by omega)
        rw [e1, e2]; omega
theorem bt_67 {x : Nat} (h : bt x = 67) : x = 67 ∨ x = 69 := by
  unfold bt at h
  split at h
  · split at h
    · omega
    · split at h <;> omega
  · split at h
    · omega
    · split at h <;> omega
theorem cap_o {g : Nat} {ln : Nat → Nat} {rv : Nat → Nat → Option Nat} {a b k : Nat} {x : Option Nat} (h : a ≠ b) : cap g ln (upr rv b k x) a = cap g ln rv a := by unfold cap; rw [upr_a h]
theorem Phi.line {g : Nat} {sk : Nat → Nat} {L : List Nat} {cl ln : Nat → Nat} {iv : Nat → Nat → Int} {rv rv2 : Nat → Nat → Option Nat} {b i x : Nat} (h : WT g sk L cl ln iv rv) (hS : SKL sk L cl) (hb : ty L cl b 67) (he : rv2 = upr rv b i (some x)) (hi : i < 200) (hn : rv b i = none) : Phi g sk ln rv2 = Phi g sk ln rv + 240 := by
  subst he
  have hc : ∀ t, uq t = true → bt t ≠ 67 → cap g ln (upr rv b i (some x)) (sk t) = cap g ln rv (sk t) := by
    intro t ht h67
    refine cap_o (fun e => h67 ?_)
    rw [← hb.2, ← e, (hS t ht).2]
  rcases bt_67 hb.2 with e | e
  · have eb : b = sk 67 := by have q := h.2.2.2.2.2.1 b hb.1 (by rw [e]; rfl); rw [e] at q; exact q
    have hne : sk 69 ≠ b := fun q => by have w := (hS 69 rfl).2; rw [q, e] at w; cases w
    unfold Phi
    rw [hc 2 rfl (by decide), hc 3 rfl (by decide), hc 4 rfl (by decide), hc 5 rfl (by decide), hc 6 rfl (by decide), hc 7 rfl (by decide), hc 8 rfl (by decide), hc 9 rfl (by decide), hc 10 rfl (by decide), hc 11 rfl (by decide), hc 24 rfl (by decide), hc 25 rfl (by decide), upr_a hne, ← eb, upr_up, nn_up hn, if_pos hi]
    omega
  · have eb : b = sk 69 := by have q := h.2.2.2.2.2.1 b hb.1 (by rw [e]; rfl); rw [e] at q; exact q
    have hne : sk 67 ≠ b := fun q => by have w := (hS 67 rfl).2; rw [q, e] at w; cases w
    unfold Phi
    rw [hc 2 rfl (by decide), hc 3 rfl (by decide), hc 4 rfl (by decide), hc 5 rfl (by decide), hc 6 rfl (by decide), hc 7 rfl (by decide), hc 8 rfl (by decide), hc 9 rfl (by decide), hc 10 rfl (by decide), hc 11 rfl (by decide), hc 24 rfl (by decide), hc 25 rfl (by decide), upr_a hne, ← eb, upr_up, nn_up hn, if_pos hi]
    omega
set_option maxHeartbeats 4000000 in
set_option maxRecDepth 100000 in
theorem C_restart {l : Launch} {G : GT} {mi : Nat} {sk : Nat → Nat} {L : List Nat} {cl ln : Nat → Nat} {iv : Nat → Nat → Int} {rv : Nat → Nat → Option Nat}  {a0 : Nat} (hW : WT (g0 G) sk L cl ln iv rv) (hS : SKL sk L cl) (t_a0 : ty L cl a0 14)  : Mc l G mi (Phi (g0 G) sk) PHM yX8_restart cX8_restart 1 none 0 [.ref a0] L cl ln iv rv 0 (fun v L2 cl2 ln2 iv2 rv2 => v = none ∧ L = L2 ∧ cl = cl2 ∧ ln = ln2 ∧ rv = rv2 ∧ fT [14] L cl iv rv iv2 rv2 ∧ WT (g0 G) sk L2 cl2 ln2 iv2 rv2 ∧ (iv2 a0 0 = 0 ∧ iv2 a0 1 = 0)) := by
  refine Mc.mk (by decide) (Nat.le_of_ble_eq_true rfl) ?_
  intro p e s m args below meth c A C hM
  refine hv3 (Phi.le hW hS) (show XT L cl ln L cl ln from XT.refl) (show fT [14] L cl iv rv iv rv from fT.refl) (fun hph hX0 hF0 => ?_)
  refine c_aload_n (j := 0) (x := a0) C dX8_restart_0 rfl ?_
  refine c_iconst C dX8_restart_1 ?_
  refine c_put (z := 0) (k := 0) C ck_9 dX8_restart_2 w1_103 (by decide) rfl t_a0 rfl rfl (by decide) rfl (by rfl) (by rfl) (fun iv1 pq1 => ?_)
  refine hv2 (hW.puti pq1 t_a0 ⟨by decide, by decide⟩ rfl) (hF0.puti hX0 pq1 t_a0 rfl) (fun W1 F1 => ?_)
  refine c_aload_n (j := 0) (x := a0) C dX8_restart_5 rfl ?_
  refine c_iconst C dX8_restart_6 ?_
  refine c_put (z := 0) (k := 1) C ck_9 dX8_restart_7 w1_104 (by decide) rfl t_a0 rfl rfl (by decide) rfl (by decide) (by decide) (fun iv2 pq2 => ?_)
  refine hv5 (W1.puti pq2 t_a0 ⟨by decide, by decide⟩ rfl) (F1.puti hX0 pq2 t_a0 rfl) (show iv2 a0 0 = iv1 a0 0 from by rw [pq2]; exact up2_j (by decide)) (show iv1 a0 0 = 0 from by rw [pq1]; exact up2_s) (show iv2 a0 1 = 0 from by rw [pq2]; exact up2_s) (fun W2 F2 ie1 ie2 ie3 => ?_)
  refine hv2 (show (-2147483648) ≤ iv2 a0 0 ∧ iv2 a0 0 ≤ 2147483647 from W2.int t_a0 0) (show 0 ≤ iv2 a0 1 ∧ iv2 a0 1 ≤ 1 from W2.int t_a0 1) (fun ri1 ri2 => ?_)
  exact c_vret C dX8_restart_10 rfl (by decide) (rom0 hph hph (by decide)) ⟨rfl, rfl, rfl, rfl, rfl, F2, W2, (by omega)⟩
set_option maxHeartbeats 4000000 in
set_option maxRecDepth 100000 in
theorem C_enterLine {l : Launch} {G : GT} {mi : Nat} {sk : Nat → Nat} {L : List Nat} {cl ln : Nat → Nat} {iv : Nat → Nat → Int} {rv : Nat → Nat → Option Nat}  {a0 : Nat} {a1 : Nat} (hW : WT (g0 G) sk L cl ln iv rv) (hS : SKL sk L cl) (t_a0 : ty L cl a0 14) (t_a1 : ty L cl a1 3) (hs : 0 ≤ iv a0 0 ∧ iv a0 0 ≤ 501 ∧ (iv a0 1 = 0 ∨ iv a0 0 ≤ 500)) : Mc l G mi (Phi (g0 G) sk) PHM yX8_enterLine cX8_enterLine 2 (some .int) 1 [.ref a0, .ref a1] L cl ln iv rv 0 (fun v L2 cl2 ln2 iv2 rv2 => ∃ f : Int, v = some (.int (iI f)) ∧ L = L2 ∧ cl = cl2 ∧ ln = ln2 ∧ rv = rv2 ∧ fT [14] L cl iv rv iv2 rv2 ∧ WT (g0 G) sk L2 cl2 ln2 iv2 rv2 ∧ (-2147483648 ≤ f ∧ f ≤ 2147483647) ∧ ((f = 0 ∨ f = 1) ∧ 0 ≤ iv2 a0 0 ∧ iv2 a0 0 ≤ 501 ∧ (iv2 a0 1 = 0 ∨ iv2 a0 0 ≤ 500))) := by
  refine Mc.mk (by decide) (Nat.le_of_ble_eq_true rfl) ?_
  intro p e s m args below meth c A C hM
  refine hv3 (Phi.le hW hS) (show XT L cl ln L cl ln from XT.refl) (show fT [14] L cl iv rv iv rv from fT.refl) (fun hph hX0 hF0 => ?_)
  refine c_aload_n (j := 0) (x := a0) C dX8_enterLine_0 rfl ?_
  have ri1 : (-2147483648) ≤ iv a0 0 ∧ iv a0 0 ≤ 2147483647 := hW.int t_a0 0
  refine c_get (k := 0) C ck_9 dX8_enterLine_1 w1_103 (by decide) t_a0 rfl rfl (by decide) rfl ?_
  refine c_aload_n (j := 1) (x := a1) C dX8_enterLine_4 rfl ?_
  have ri2 : 0 ≤ iv a1 2 ∧ iv a1 2 ≤ 500 := hW.int t_a1 2
  refine c_get (k := 2) C ck_2 dX8_enterLine_5 w1_45 (by decide) t_a1 rfl rfl (by decide) rfl ?_
  refine c_icmp_lt (tgt := 13) C (r32_c (lo := (-2147483648)) (hi := 2147483647) ri1.1 ri1.2 (by decide) (by decide)) (r32_c (lo := 0) (hi := 500) ri2.1 ri2.2 (by decide) (by decide)) dX8_enterLine_8 (by decide) (fun c1 => ?_) (fun c1 => ?_)
  · refine c_aload_n (j := 0) (x := a0) C dX8_enterLine_13 rfl ?_
    refine c_iconst C dX8_enterLine_14 ?_
    refine c_put (z := 1) (k := 1) C ck_9 dX8_enterLine_15 w1_104 (by decide) rfl t_a0 rfl rfl (by decide) rfl (by decide) (by decide) (fun iv1 pq1 => ?_)
    refine hv2 (hW.puti pq1 t_a0 ⟨by decide, by decide⟩ rfl) (hF0.puti hX0 pq1 t_a0 rfl) (fun W1 F1 => ?_)
    refine c_aload_n (j := 0) (x := a0) C dX8_enterLine_18 rfl ?_
    refine c_aload_n (j := 1) (x := a1) C dX8_enterLine_19 rfl ?_
    refine c_aload_n (j := 0) (x := a0) C dX8_enterLine_20 rfl ?_
    refine hv2 (show (-2147483648) ≤ iv1 a0 0 ∧ iv1 a0 0 ≤ 2147483647 from W1.int t_a0 0) (show iv1 a0 0 = iv a0 0 from by rw [pq1]; exact up2_j (by decide)) (fun ri3 ie1 => ?_)
    refine c_get (k := 0) C ck_9 dX8_enterLine_21 w1_103 (by decide) t_a0 rfl rfl (by decide) rfl ?_
    refine hv2 (show 0 ≤ iv1 a1 2 ∧ iv1 a1 2 ≤ 500 from W1.int t_a1 2) (show iv1 a1 2 = iv a1 2 from by rw [pq1]; exact up2_k (ne_ty t_a1 t_a0 (by decide))) (fun ri4 ie2 => ?_)
    refine d_callV (As := [.int (iI (iv1 a0 0))]) (rest := [.ref a0]) C hM (C_at_3 (a0 := a1) (i := iv1 a0 0) W1 hS t_a1 (by omega) ) dX8_enterLine_24 kV_X8_53 rfl t_a1 rfl rfl (by decide) ck_2 rfl (Nat.le_of_ble_eq_true rfl) ⟨(Nat.le_of_ble_eq_true rfl), (Nat.le_of_ble_eq_true rfl)⟩ hph hph (show 0 + 0 = 0 from rfl) (by decide) (fun rh1 Lh1 clh1 lnh1 ivh1 rvh1 h1 => ?_)
    obtain ⟨f1, rfl, rfl, rfl, rfl, rfl, rfl, rgf1, exf1⟩ := h1
    refine c_st (st2 := [.int (iI f1), .ref a0]) rfl ?_
    have gf1 : ((0 ≤ (iv1 a0 0) ∧ (iv1 a0 0) < iv1 a1 2) ∨ f1 = 0) ∧ ∀ ss, CT iv1 rv a1 ss → 0 ≤ (iv1 a0 0) → (iv1 a0 0) < iv1 a1 2 → f1 = ss (iv1 a0 0).toNat := exf1
    refine c_bipush (z := 94) C dX8_enterLine_27 (by decide) ?_
    refine c_icmp_ne (tgt := 36) C ⟨by omega, by omega⟩ ⟨by decide, by decide⟩ dX8_enterLine_29 (by decide) (fun c2 => ?_) (fun c2 => ?_)
    · refine c_iconst C dX8_enterLine_36 ?_
      refine c_put (z := 0) (k := 2) C ck_9 dX8_enterLine_37 w1_105 (by decide) rfl t_a0 rfl rfl (by decide) rfl (by decide) (by decide) (fun iv2 pq2 => ?_)
      refine hv2 (W1.puti pq2 t_a0 ⟨by decide, by decide⟩ rfl) (F1.puti hX0 pq2 t_a0 rfl) (fun W3 F2 => ?_)
      refine c_aload_n (j := 0) (x := a0) C dX8_enterLine_40 rfl ?_
      refine c_dup C dX8_enterLine_41 rfl ?_
      refine hv2 (show (-2147483648) ≤ iv2 a0 0 ∧ iv2 a0 0 ≤ 2147483647 from W3.int t_a0 0) (show iv2 a0 0 = iv1 a0 0 from by rw [pq2]; exact up2_j (by decide)) (fun ri5 ie3 => ?_)
      refine c_get (k := 0) C ck_9 dX8_enterLine_42 w1_103 (by decide) t_a0 rfl rfl (by decide) rfl ?_
      refine c_aload_n (j := 0) (x := a0) C dX8_enterLine_45 rfl ?_
      refine hv2 (show 0 ≤ iv2 a0 2 ∧ iv2 a0 2 ≤ 1 from W3.int t_a0 2) (show iv2 a0 2 = 0 from by rw [pq2]; exact up2_s) (fun ri6 ie4 => ?_)
      refine c_get (k := 2) C ck_9 dX8_enterLine_46 w1_105 (by decide) t_a0 rfl rfl (by decide) rfl ?_
      refine c_if_eq (tgt := 56) C (r32_c (lo := 0) (hi := 1) ri6.1 ri6.2 (by decide) (by decide)) dX8_enterLine_49 (by decide) (fun c3 => ?_) (fun c3 => ?_)
      · refine c_iconst C dX8_enterLine_56 ?_
        refine c_iadd C dX8_enterLine_57 ?_
        refine c_put (z := (iv2 a0 0) + 0) (k := 0) C ck_9 dX8_enterLine_58 w1_103 (by decide) rfl t_a0 rfl rfl (by decide) rfl (by rfl) (by rfl) (fun iv3 pq3 => ?_)
        refine hv2 (W3.puti pq3 t_a0 (show (-2147483648) ≤ ((iv2 a0 0) + 0) ∧ ((iv2 a0 0) + 0) ≤ 2147483647 by omega) rfl) (F2.puti hX0 pq3 t_a0 rfl) (fun W4 F3 => ?_)
        refine c_iconst C dX8_enterLine_61 ?_
        refine hv6 (show (-2147483648) ≤ iv3 a0 0 ∧ iv3 a0 0 ≤ 2147483647 from W4.int t_a0 0) (show iv3 a0 0 = (iv2 a0 0) + 0 from by rw [pq3]; exact up2_s) (show 0 ≤ iv3 a0 1 ∧ iv3 a0 1 ≤ 1 from W4.int t_a0 1) (show iv3 a0 1 = iv2 a0 1 from by rw [pq3]; exact up2_j (by decide)) (show iv2 a0 1 = iv1 a0 1 from by rw [pq2]; exact up2_j (by decide)) (show iv1 a0 1 = 1 from by rw [pq1]; exact up2_s) (fun ri7 ie5 ri8 ie6 ie7 ie8 => ?_)
        exact c_iret C dX8_enterLine_62 rfl (by decide) (rom0 hph hph (by decide)) ⟨1, rfl, rfl, rfl, rfl, rfl, F3, W4, ⟨by decide, by decide⟩, (by omega)⟩
      · refine c_iconst C dX8_enterLine_52 ?_
        refine c_goto (tgt := 57) C dX8_enterLine_53 (by decide) ?_
        refine c_iadd C dX8_enterLine_57 ?_
        refine c_put (z := (iv2 a0 0) + 1) (k := 0) C ck_9 dX8_enterLine_58 w1_103 (by decide) rfl t_a0 rfl rfl (by decide) rfl (by rfl) (by rfl) (fun iv4 pq4 => ?_)
        refine hv2 (W3.puti pq4 t_a0 (show (-2147483648) ≤ ((iv2 a0 0) + 1) ∧ ((iv2 a0 0) + 1) ≤ 2147483647 by omega) rfl) (F2.puti hX0 pq4 t_a0 rfl) (fun W5 F4 => ?_)
        refine c_iconst C dX8_enterLine_61 ?_
        refine hv6 (show (-2147483648) ≤ iv4 a0 0 ∧ iv4 a0 0 ≤ 2147483647 from W5.int t_a0 0) (show iv4 a0 0 = (iv2 a0 0) + 1 from by rw [pq4]; exact up2_s) (show 0 ≤ iv4 a0 1 ∧ iv4 a0 1 ≤ 1 from W5.int t_a0 1) (show iv4 a0 1 = iv2 a0 1 from by rw [pq4]; exact up2_j (by decide)) (show iv2 a0 1 = iv1 a0 1 from by rw [pq2]; exact up2_j (by decide)) (show iv1 a0 1 = 1 from by rw [pq1]; exact up2_s) (fun ri9 ie9 ri10 ie10 ie11 ie12 => ?_)
        exact c_iret C dX8_enterLine_62 rfl (by decide) (rom0 hph hph (by decide)) ⟨1, rfl, rfl, rfl, rfl, rfl, F4, W5, ⟨by decide, by decide⟩, (by omega)⟩
    · refine c_iconst C dX8_enterLine_32 ?_
      refine c_goto (tgt := 37) C dX8_enterLine_33 (by decide) ?_
      refine c_put (z := 1) (k := 2) C ck_9 dX8_enterLine_37 w1_105 (by decide) rfl t_a0 rfl rfl (by decide) rfl (by decide) (by decide) (fun iv5 pq5 => ?_)
      refine hv2 (W1.puti pq5 t_a0 ⟨by decide, by decide⟩ rfl) (F1.puti hX0 pq5 t_a0 rfl) (fun W6 F5 => ?_)
      refine c_aload_n (j := 0) (x := a0) C dX8_enterLine_40 rfl ?_
      refine c_dup C dX8_enterLine_41 rfl ?_
      refine hv2 (show (-2147483648) ≤ iv5 a0 0 ∧ iv5 a0 0 ≤ 2147483647 from W6.int t_a0 0) (show iv5 a0 0 = iv1 a0 0 from by rw [pq5]; exact up2_j (by decide)) (fun ri11 ie13 => ?_)
      refine c_get (k := 0) C ck_9 dX8_enterLine_42 w1_103 (by decide) t_a0 rfl rfl (by decide) rfl ?_
      refine c_aload_n (j := 0) (x := a0) C dX8_enterLine_45 rfl ?_
      refine hv2 (show 0 ≤ iv5 a0 2 ∧ iv5 a0 2 ≤ 1 from W6.int t_a0 2) (show iv5 a0 2 = 1 from by rw [pq5]; exact up2_s) (fun ri12 ie14 => ?_)
      refine c_get (k := 2) C ck_9 dX8_enterLine_46 w1_105 (by decide) t_a0 rfl rfl (by decide) rfl ?_
      refine c_if_eq (tgt := 56) C (r32_c (lo := 0) (hi := 1) ri12.1 ri12.2 (by decide) (by decide)) dX8_enterLine_49 (by decide) (fun c4 => ?_) (fun c4 => ?_)
      · refine c_iconst C dX8_enterLine_56 ?_
        refine c_iadd C dX8_enterLine_57 ?_
        refine c_put (z := (iv5 a0 0) + 0) (k := 0) C ck_9 dX8_enterLine_58 w1_103 (by decide) rfl t_a0 rfl rfl (by decide) rfl (by rfl) (by rfl) (fun iv6 pq6 => ?_)
        refine hv2 (W6.puti pq6 t_a0 (show (-2147483648) ≤ ((iv5 a0 0) + 0) ∧ ((iv5 a0 0) + 0) ≤ 2147483647 by omega) rfl) (F5.puti hX0 pq6 t_a0 rfl) (fun W7 F6 => ?_)
        refine c_iconst C dX8_enterLine_61 ?_
        refine hv6 (show (-2147483648) ≤ iv6 a0 0 ∧ iv6 a0 0 ≤ 2147483647 from W7.int t_a0 0) (show iv6 a0 0 = (iv5 a0 0) + 0 from by rw [pq6]; exact up2_s) (show 0 ≤ iv6 a0 1 ∧ iv6 a0 1 ≤ 1 from W7.int t_a0 1) (show iv6 a0 1 = iv5 a0 1 from by rw [pq6]; exact up2_j (by decide)) (show iv5 a0 1 = iv1 a0 1 from by rw [pq5]; exact up2_j (by decide)) (show iv1 a0 1 = 1 from by rw [pq1]; exact up2_s) (fun ri13 ie15 ri14 ie16 ie17 ie18 => ?_)
        exact c_iret C dX8_enterLine_62 rfl (by decide) (rom0 hph hph (by decide)) ⟨1, rfl, rfl, rfl, rfl, rfl, F6, W7, ⟨by decide, by decide⟩, (by omega)⟩
      · refine c_iconst C dX8_enterLine_52 ?_
        refine c_goto (tgt := 57) C dX8_enterLine_53 (by decide) ?_
        refine c_iadd C dX8_enterLine_57 ?_
        refine c_put (z := (iv5 a0 0) + 1) (k := 0) C ck_9 dX8_enterLine_58 w1_103 (by decide) rfl t_a0 rfl rfl (by decide) rfl (by rfl) (by rfl) (fun iv7 pq7 => ?_)
        refine hv2 (W6.puti pq7 t_a0 (show (-2147483648) ≤ ((iv5 a0 0) + 1) ∧ ((iv5 a0 0) + 1) ≤ 2147483647 by omega) rfl) (F5.puti hX0 pq7 t_a0 rfl) (fun W8 F7 => ?_)
        refine c_iconst C dX8_enterLine_61 ?_
        refine hv6 (show (-2147483648) ≤ iv7 a0 0 ∧ iv7 a0 0 ≤ 2147483647 from W8.int t_a0 0) (show iv7 a0 0 = (iv5 a0 0) + 1 from by rw [pq7]; exact up2_s) (show 0 ≤ iv7 a0 1 ∧ iv7 a0 1 ≤ 1 from W8.int t_a0 1) (show iv7 a0 1 = iv5 a0 1 from by rw [pq7]; exact up2_j (by decide)) (show iv5 a0 1 = iv1 a0 1 from by rw [pq5]; exact up2_j (by decide)) (show iv1 a0 1 = 1 from by rw [pq1]; exact up2_s) (fun ri15 ie19 ri16 ie20 ie21 ie22 => ?_)
        exact c_iret C dX8_enterLine_62 rfl (by decide) (rom0 hph hph (by decide)) ⟨1, rfl, rfl, rfl, rfl, rfl, F7, W8, ⟨by decide, by decide⟩, (by omega)⟩
  · refine c_iconst C dX8_enterLine_11 ?_
    have ri17 : 0 ≤ iv a0 1 ∧ iv a0 1 ≤ 1 := hW.int t_a0 1
    exact c_iret C dX8_enterLine_12 rfl (by decide) (rom0 hph hph (by decide)) ⟨0, rfl, rfl, rfl, rfl, rfl, hF0, hW, ⟨by decide, by decide⟩, (by omega)⟩
set_option maxHeartbeats 4000000 in
set_option maxRecDepth 100000 in
theorem C_sstep {l : Launch} {G : GT} {mi : Nat} {sk : Nat → Nat} {L : List Nat} {cl ln : Nat → Nat} {iv : Nat → Nat → Int} {rv : Nat → Nat → Option Nat}  {a0 : Nat} {a1 : Nat} {a2 : Nat} (hW : WT (g0 G) sk L cl ln iv rv) (hS : SKL sk L cl) (t_a0 : ty L cl a0 14) (t_a1 : ty L cl a1 3) (t_a2 : ty L cl a2 15) (hs : 0 ≤ iv a0 0 ∧ iv a0 0 ≤ 501 ∧ (iv a0 1 = 0 ∨ iv a0 0 ≤ 500)) : Mc l G mi (Phi (g0 G) sk) PHM yX8_step cX8_step 4 (some .int) 2 [.ref a0, .ref a1, .ref a2] L cl ln iv rv 0 (fun v L2 cl2 ln2 iv2 rv2 => ∃ f : Int, v = some (.int (iI f)) ∧ L = L2 ∧ cl = cl2 ∧ ln = ln2 ∧ rv = rv2 ∧ fT [14, 15, 50, 51, 52] L cl iv rv iv2 rv2 ∧ WT (g0 G) sk L2 cl2 ln2 iv2 rv2 ∧ (-2147483648 ≤ f ∧ f ≤ 2147483647) ∧ ((0 ≤ f ∧ f ≤ 3) ∧ 0 ≤ iv2 a0 0 ∧ iv2 a0 0 ≤ 501 ∧ (iv2 a0 1 = 0 ∨ iv2 a0 0 ≤ 500))) := by
  refine Mc.mk (by decide) (Nat.le_of_ble_eq_true rfl) ?_
  intro p e s m args below meth c A C hM
  refine hv3 (Phi.le hW hS) (show XT L cl ln L cl ln from XT.refl) (show fT [14, 15, 50, 51, 52] L cl iv rv iv rv from fT.refl) (fun hph hX0 hF0 => ?_)
  refine c_aload_n (j := 0) (x := a0) C dX8_step_0 rfl ?_
  have ri1 : 0 ≤ iv a0 1 ∧ iv a0 1 ≤ 1 := hW.int t_a0 1
  refine c_get (k := 1) C ck_9 dX8_step_1 w1_104 (by decide) t_a0 rfl rfl (by decide) rfl ?_
  refine c_if_ne (tgt := 13) C (r32_c (lo := 0) (hi := 1) ri1.1 ri1.2 (by decide) (by decide)) dX8_step_4 (by decide) (fun c1 => ?_) (fun c1 => ?_)
  · refine c_aload_n (j := 2) (x := a2) C dX8_step_13 rfl ?_
    refine d_callV (As := []) (rest := []) C hM (C_wclear (a0 := a2) hW hS t_a2  ) dX8_step_14 kV_X8_43 rfl t_a2 rfl rfl (by decide) ck_7 rfl (Nat.le_of_ble_eq_true rfl) ⟨(Nat.le_of_ble_eq_true rfl), (Nat.le_of_ble_eq_true rfl)⟩ hph hph (show 0 + 0 = 0 from rfl) (by decide) (fun rh1 Lh1 clh1 lnh1 ivh1 rvh1 h1 => ?_)
    obtain ⟨rfl, rfl, rfl, rfl, rfl, fl1, W1, exf1⟩ := h1
    have F1 := hF0.call hX0 fl1 rfl
    refine c_st (st2 := []) rfl ?_
    have Lp1 : ∀ (nn : Nat) (ivb1 : Nat → Nat → Int) , 501 - ivb1 a0 0 < (nn : Int) → WT (g0 G) sk L cl ln ivb1 rv → fT [14, 15, 50, 51, 52] L cl iv rv ivb1 rv → (0 ≤ ivb1 a0 0 ∧ ivb1 a0 0 ≤ 500) → (ivb1 a0 1 = iv a0 1) → cw p l e 2 ((PHM) + 0 - ((Phi (g0 G) sk) ln rv)) s m args below meth c G A 4 (MQ below (Qu G A (Qp G (Phi (g0 G) sk) ((Phi (g0 G) sk) ln rv) 0 (fun v L2 cl2 ln2 iv2 rv2 => ∃ f : Int, v = some (.int (iI f)) ∧ L = L2 ∧ cl = cl2 ∧ ln = ln2 ∧ rv = rv2 ∧ fT [14, 15, 50, 51, 52] L cl iv rv iv2 rv2 ∧ WT (g0 G) sk L2 cl2 ln2 iv2 rv2 ∧ (-2147483648 ≤ f ∧ f ≤ 2147483647) ∧ ((0 ≤ f ∧ f ≤ 3) ∧ 0 ≤ iv2 a0 0 ∧ iv2 a0 0 ≤ 501 ∧ (iv2 a0 1 = 0 ∨ iv2 a0 0 ≤ 500))))) args s (((PHM) + 0 - ((Phi (g0 G) sk) ln rv)) / 16) ((PHM) + 0 - ((Phi (g0 G) sk) ln rv)) A) (Phi (g0 G) sk) ((Phi (g0 G) sk) ln rv) L cl ln ivb1 rv 0 17 [(0, .ref a0), (1, .ref a1), (2, .ref a2)] [] := by
      intro nn
      induction nn with
      | zero =>
        intro   ivb1 hm Wb1 Fb1  hat hin
        exact absurd hm (by omega)
      | succ nn ih1 =>
        intro   ivb1 hm Wb1 Fb1  hat hin
        refine c_aload_n (j := 0) (x := a0) C dX8_step_17 rfl ?_
        have ri2 : (-2147483648) ≤ ivb1 a0 0 ∧ ivb1 a0 0 ≤ 2147483647 := Wb1.int t_a0 0
        refine c_get (k := 0) C ck_9 dX8_step_18 w1_103 (by decide) t_a0 rfl rfl (by decide) rfl ?_
        refine c_aload_n (j := 1) (x := a1) C dX8_step_21 rfl ?_
        refine hv2 (show 0 ≤ ivb1 a1 2 ∧ ivb1 a1 2 ≤ 500 from Wb1.int t_a1 2) (show ivb1 a1 2 = iv a1 2 from Fb1.i t_a1 rfl 2) (fun ri3 ie2 => ?_)
        refine c_get (k := 2) C ck_2 dX8_step_22 w1_45 (by decide) t_a1 rfl rfl (by decide) rfl ?_
        refine c_icmp_ge (tgt := 106) C (r32_c (lo := (-2147483648)) (hi := 2147483647) ri2.1 ri2.2 (by decide) (by decide)) (r32_c (lo := 0) (hi := 500) ri3.1 ri3.2 (by decide) (by decide)) dX8_step_25 (by decide) (fun c2 => ?_) (fun c2 => ?_)
        · refine c_aload_n (j := 2) (x := a2) C dX8_step_106 rfl ?_
          have ri4 : 0 ≤ ivb1 a2 4 ∧ ivb1 a2 4 ≤ 500 := Wb1.int t_a2 4
          refine c_get (k := 4) C ck_7 dX8_step_107 w1_141 (by decide) t_a2 rfl rfl (by decide) rfl ?_
          refine c_if_le (tgt := 115) C (r32_c (lo := 0) (hi := 500) ri4.1 ri4.2 (by decide) (by decide)) dX8_step_110 (by decide) (fun c3 => ?_) (fun c3 => ?_)
          · refine c_aload_n (j := 0) (x := a0) C dX8_step_115 rfl ?_
            refine c_iconst C dX8_step_116 ?_
            refine c_put (z := 0) (k := 1) C ck_9 dX8_step_117 w1_104 (by decide) rfl t_a0 rfl rfl (by decide) rfl (by decide) (by decide) (fun iv1 pq1 => ?_)
            refine hv2 (Wb1.puti pq1 t_a0 ⟨by decide, by decide⟩ rfl) (Fb1.puti hX0 pq1 t_a0 rfl) (fun W2 F2 => ?_)
            refine c_aload_n (j := 0) (x := a0) C dX8_step_120 rfl ?_
            refine c_dup C dX8_step_121 rfl ?_
            refine hv2 (show (-2147483648) ≤ iv1 a0 0 ∧ iv1 a0 0 ≤ 2147483647 from W2.int t_a0 0) (show iv1 a0 0 = ivb1 a0 0 from by rw [pq1]; exact up2_j (by decide)) (fun ri5 ie4 => ?_)
            refine c_get (k := 0) C ck_9 dX8_step_122 w1_103 (by decide) t_a0 rfl rfl (by decide) rfl ?_
            refine c_iconst C dX8_step_125 ?_
            refine c_iadd C dX8_step_126 ?_
            refine c_put (z := (iv1 a0 0) + 1) (k := 0) C ck_9 dX8_step_127 w1_103 (by decide) rfl t_a0 rfl rfl (by decide) rfl (by rfl) (by rfl) (fun iv2 pq2 => ?_)
            refine hv2 (W2.puti pq2 t_a0 (show (-2147483648) ≤ ((iv1 a0 0) + 1) ∧ ((iv1 a0 0) + 1) ≤ 2147483647 by omega) rfl) (F2.puti hX0 pq2 t_a0 rfl) (fun W3 F3 => ?_)
            refine c_iconst C dX8_step_130 ?_
            refine hv5 (show (-2147483648) ≤ iv2 a0 0 ∧ iv2 a0 0 ≤ 2147483647 from W3.int t_a0 0) (show iv2 a0 0 = (iv1 a0 0) + 1 from by rw [pq2]; exact up2_s) (show 0 ≤ iv2 a0 1 ∧ iv2 a0 1 ≤ 1 from W3.int t_a0 1) (show iv2 a0 1 = iv1 a0 1 from by rw [pq2]; exact up2_j (by decide)) (show iv1 a0 1 = 0 from by rw [pq1]; exact up2_s) (fun ri6 ie5 ri7 ie6 ie7 => ?_)
            exact c_iret C dX8_step_131 rfl (by decide) (rom0 hph hph (by decide)) ⟨3, rfl, rfl, rfl, rfl, rfl, F3, W3, ⟨by decide, by decide⟩, (by omega)⟩
          · refine c_iconst C dX8_step_113 ?_
            have ri8 : 0 ≤ ivb1 a0 1 ∧ ivb1 a0 1 ≤ 1 := Wb1.int t_a0 1
            exact c_iret C dX8_step_114 rfl (by decide) (rom0 hph hph (by decide)) ⟨2, rfl, rfl, rfl, rfl, rfl, Fb1, Wb1, ⟨by decide, by decide⟩, (by omega)⟩
        · have J1 : ∀ (ivb2 : Nat → Nat → Int) , WT (g0 G) sk L cl ln ivb2 rv → fT [14, 15, 50, 51, 52] L cl iv rv ivb2 rv → (0 ≤ ivb2 a0 0 ∧ ivb2 a0 0 < iv a1 2) → (ivb2 a0 1 = iv a0 1) → (500 - ivb2 a0 0 < (nn : Int)) → cw p l e 2 ((PHM) + 0 - ((Phi (g0 G) sk) ln rv)) s m args below meth c G A 4 (MQ below (Qu G A (Qp G (Phi (g0 G) sk) ((Phi (g0 G) sk) ln rv) 0 (fun v L2 cl2 ln2 iv2 rv2 => ∃ f : Int, v = some (.int (iI f)) ∧ L = L2 ∧ cl = cl2 ∧ ln = ln2 ∧ rv = rv2 ∧ fT [14, 15, 50, 51, 52] L cl iv rv iv2 rv2 ∧ WT (g0 G) sk L2 cl2 ln2 iv2 rv2 ∧ (-2147483648 ≤ f ∧ f ≤ 2147483647) ∧ ((0 ≤ f ∧ f ≤ 3) ∧ 0 ≤ iv2 a0 0 ∧ iv2 a0 0 ≤ 501 ∧ (iv2 a0 1 = 0 ∨ iv2 a0 0 ≤ 500))))) args s (((PHM) + 0 - ((Phi (g0 G) sk) ln rv)) / 16) ((PHM) + 0 - ((Phi (g0 G) sk) ln rv)) A) (Phi (g0 G) sk) ((Phi (g0 G) sk) ln rv) L cl ln ivb2 rv 0 93 [(0, .ref a0), (1, .ref a1), (2, .ref a2)] [] := by
            intro   ivb2 Wb2 Fb2  hb hbi hbm
            refine c_aload_n (j := 0) (x := a0) C dX8_step_93 rfl ?_
            refine c_dup C dX8_step_94 rfl ?_
            have ri9 : (-2147483648) ≤ ivb2 a0 0 ∧ ivb2 a0 0 ≤ 2147483647 := Wb2.int t_a0 0
            refine c_get (k := 0) C ck_9 dX8_step_95 w1_103 (by decide) t_a0 rfl rfl (by decide) rfl ?_
            refine c_iconst C dX8_step_98 ?_
            refine c_iadd C dX8_step_99 ?_
            refine c_put (z := (ivb2 a0 0) + 1) (k := 0) C ck_9 dX8_step_100 w1_103 (by decide) rfl t_a0 rfl rfl (by decide) rfl (by rfl) (by rfl) (fun iv3 pq3 => ?_)
            refine hv2 (Wb2.puti pq3 t_a0 (show (-2147483648) ≤ ((ivb2 a0 0) + 1) ∧ ((ivb2 a0 0) + 1) ≤ 2147483647 by omega) rfl) (Fb2.puti hX0 pq3 t_a0 rfl) (fun W4 F4 => ?_)
            refine c_goto (tgt := 17) C dX8_step_103 (by decide) ?_
            refine hv4 (show (-2147483648) ≤ iv3 a0 0 ∧ iv3 a0 0 ≤ 2147483647 from W4.int t_a0 0) (show iv3 a0 0 = (ivb2 a0 0) + 1 from by rw [pq3]; exact up2_s) (show 0 ≤ iv3 a0 1 ∧ iv3 a0 1 ≤ 1 from W4.int t_a0 1) (show iv3 a0 1 = ivb2 a0 1 from by rw [pq3]; exact up2_j (by decide)) (fun ri10 ie10 ri11 ie11 => ?_)
            refine c_lv (lv2 := [(0, .ref a0), (1, .ref a1), (2, .ref a2)]) [0, 1, 2] rfl ?_
            exact ih1   _ (by omega) W4 F4  (by show 0 ≤ iv3 a0 0 ∧ iv3 a0 0 ≤ 500; omega) (ie11.trans hbi)
          refine c_aload_n (j := 1) (x := a1) C dX8_step_28 rfl ?_
          refine c_aload_n (j := 0) (x := a0) C dX8_step_29 rfl ?_
          refine c_get (k := 0) C ck_9 dX8_step_30 w1_103 (by decide) t_a0 rfl rfl (by decide) rfl ?_
          refine d_callV (As := [.int (iI (ivb1 a0 0))]) (rest := []) C hM (C_at_3 (a0 := a1) (i := ivb1 a0 0) Wb1 hS t_a1 (by omega) ) dX8_step_33 kV_X8_53 rfl t_a1 rfl rfl (by decide) ck_2 rfl (Nat.le_of_ble_eq_true rfl) ⟨(Nat.le_of_ble_eq_true rfl), (Nat.le_of_ble_eq_true rfl)⟩ hph hph (show 0 + 0 = 0 from rfl) (by decide) (fun rh2 Lh2 clh2 lnh2 ivh2 rvh2 h2 => ?_)
          obtain ⟨f2, rfl, rfl, rfl, rfl, rfl, rfl, rgf2, exf2⟩ := h2
          refine c_st (st2 := [.int (iI f2)]) rfl ?_
          have gf2 : ((0 ≤ (ivb1 a0 0) ∧ (ivb1 a0 0) < ivb1 a1 2) ∨ f2 = 0) ∧ ∀ ss, CT ivb1 rv a1 ss → 0 ≤ (ivb1 a0 0) → (ivb1 a0 0) < ivb1 a1 2 → f2 = ss (ivb1 a0 0).toNat := exf2
          refine c_bipush (z := 10) C dX8_step_36 (by decide) ?_
          refine c_icmp_eq (tgt := 106) C ⟨by omega, by omega⟩ ⟨by decide, by decide⟩ dX8_step_38 (by decide) (fun c4 => ?_) (fun c4 => ?_)
          · refine c_aload_n (j := 2) (x := a2) C dX8_step_106 rfl ?_
            have ri12 : 0 ≤ ivb1 a2 4 ∧ ivb1 a2 4 ≤ 500 := Wb1.int t_a2 4
            refine c_get (k := 4) C ck_7 dX8_step_107 w1_141 (by decide) t_a2 rfl rfl (by decide) rfl ?_
            refine c_if_le (tgt := 115) C (r32_c (lo := 0) (hi := 500) ri12.1 ri12.2 (by decide) (by decide)) dX8_step_110 (by decide) (fun c5 => ?_) (fun c5 => ?_)
            · refine c_aload_n (j := 0) (x := a0) C dX8_step_115 rfl ?_
              refine c_iconst C dX8_step_116 ?_
              refine c_put (z := 0) (k := 1) C ck_9 dX8_step_117 w1_104 (by decide) rfl t_a0 rfl rfl (by decide) rfl (by decide) (by decide) (fun iv4 pq4 => ?_)
              refine hv2 (Wb1.puti pq4 t_a0 ⟨by decide, by decide⟩ rfl) (Fb1.puti hX0 pq4 t_a0 rfl) (fun W6 F5 => ?_)
              refine c_aload_n (j := 0) (x := a0) C dX8_step_120 rfl ?_
              refine c_dup C dX8_step_121 rfl ?_
              refine hv2 (show (-2147483648) ≤ iv4 a0 0 ∧ iv4 a0 0 ≤ 2147483647 from W6.int t_a0 0) (show iv4 a0 0 = ivb1 a0 0 from by rw [pq4]; exact up2_j (by decide)) (fun ri13 ie14 => ?_)
              refine c_get (k := 0) C ck_9 dX8_step_122 w1_103 (by decide) t_a0 rfl rfl (by decide) rfl ?_
              refine c_iconst C dX8_step_125 ?_
              refine c_iadd C dX8_step_126 ?_
              refine c_put (z := (iv4 a0 0) + 1) (k := 0) C ck_9 dX8_step_127 w1_103 (by decide) rfl t_a0 rfl rfl (by decide) rfl (by rfl) (by rfl) (fun iv5 pq5 => ?_)
              refine hv2 (W6.puti pq5 t_a0 (show (-2147483648) ≤ ((iv4 a0 0) + 1) ∧ ((iv4 a0 0) + 1) ≤ 2147483647 by omega) rfl) (F5.puti hX0 pq5 t_a0 rfl) (fun W7 F6 => ?_)
              refine c_iconst C dX8_step_130 ?_
              refine hv5 (show (-2147483648) ≤ iv5 a0 0 ∧ iv5 a0 0 ≤ 2147483647 from W7.int t_a0 0) (show iv5 a0 0 = (iv4 a0 0) + 1 from by rw [pq5]; exact up2_s) (show 0 ≤ iv5 a0 1 ∧ iv5 a0 1 ≤ 1 from W7.int t_a0 1) (show iv5 a0 1 = iv4 a0 1 from by rw [pq5]; exact up2_j (by decide)) (show iv4 a0 1 = 0 from by rw [pq4]; exact up2_s) (fun ri14 ie15 ri15 ie16 ie17 => ?_)
              exact c_iret C dX8_step_131 rfl (by decide) (rom0 hph hph (by decide)) ⟨3, rfl, rfl, rfl, rfl, rfl, F6, W7, ⟨by decide, by decide⟩, (by omega)⟩
            · refine c_iconst C dX8_step_113 ?_
              have ri16 : 0 ≤ ivb1 a0 1 ∧ ivb1 a0 1 ≤ 1 := Wb1.int t_a0 1
              exact c_iret C dX8_step_114 rfl (by decide) (rom0 hph hph (by decide)) ⟨2, rfl, rfl, rfl, rfl, rfl, Fb1, Wb1, ⟨by decide, by decide⟩, (by omega)⟩
          · refine c_aload_n (j := 1) (x := a1) C dX8_step_41 rfl ?_
            refine c_aload_n (j := 0) (x := a0) C dX8_step_42 rfl ?_
            refine c_get (k := 0) C ck_9 dX8_step_43 w1_103 (by decide) t_a0 rfl rfl (by decide) rfl ?_
            refine d_callV (As := [.int (iI (ivb1 a0 0))]) (rest := []) C hM (C_at_3 (a0 := a1) (i := ivb1 a0 0) Wb1 hS t_a1 (by omega) ) dX8_step_46 kV_X8_53 rfl t_a1 rfl rfl (by decide) ck_2 rfl (Nat.le_of_ble_eq_true rfl) ⟨(Nat.le_of_ble_eq_true rfl), (Nat.le_of_ble_eq_true rfl)⟩ hph hph (show 0 + 0 = 0 from rfl) (by decide) (fun rh3 Lh3 clh3 lnh3 ivh3 rvh3 h3 => ?_)
            obtain ⟨f3, rfl, rfl, rfl, rfl, rfl, rfl, rgf3, exf3⟩ := h3
            refine c_st (st2 := [.int (iI f3)]) rfl ?_
            have gf3 : ((0 ≤ (ivb1 a0 0) ∧ (ivb1 a0 0) < ivb1 a1 2) ∨ f3 = 0) ∧ ∀ ss, CT ivb1 rv a1 ss → 0 ≤ (ivb1 a0 0) → (ivb1 a0 0) < ivb1 a1 2 → f3 = ss (ivb1 a0 0).toNat := exf3
            refine c_istore_n (lv2 := [(3, .int (iI f3)), (0, .ref a0), (1, .ref a1), (2, .ref a2)]) C dX8_step_49 (by decide) rfl ?_
            refine c_iload_n (j := 0) C dX8_step_50 rfl ?_
            refine c_bipush (z := 32) C dX8_step_51 (by decide) ?_
            refine c_icmp_ne (tgt := 65) C ⟨by omega, by omega⟩ ⟨by decide, by decide⟩ dX8_step_53 (by decide) (fun c6 => ?_) (fun c6 => ?_)
            · refine c_iload_n (j := 0) C dX8_step_65 rfl ?_
              refine c_bipush (z := 126) C dX8_step_66 (by decide) ?_
              refine c_icmp_ne (tgt := 78) C ⟨by omega, by omega⟩ ⟨by decide, by decide⟩ dX8_step_68 (by decide) (fun c7 => ?_) (fun c7 => ?_)
              · refine c_iload_n (j := 0) C dX8_step_78 rfl ?_
                refine c_bipush (z := 32) C dX8_step_79 (by decide) ?_
                refine c_icmp_eq (tgt := 93) C ⟨by omega, by omega⟩ ⟨by decide, by decide⟩ dX8_step_81 (by decide) (fun z => absurd z (by omega)) (fun _ => ?_)
                refine c_aload_n (j := 3) (x := a2) C dX8_step_84 rfl ?_
                refine c_iload_n (j := 0) C dX8_step_85 rfl ?_
                refine c_aload_n (j := 1) (x := a0) C dX8_step_86 rfl ?_
                refine c_get (k := 0) C ck_9 dX8_step_87 w1_103 (by decide) t_a0 rfl rfl (by decide) rfl ?_
                refine d_callV (As := [.int (iI f3), .int (iI (ivb1 a0 0))]) (rest := []) C hM (C_put (a0 := a2) (x := f3) (y := ivb1 a0 0) Wb1 hS t_a2 (by omega) (by omega) ) dX8_step_90 kV_X8_60 rfl t_a2 rfl rfl (by decide) ck_7 rfl (Nat.le_of_ble_eq_true rfl) ⟨(Nat.le_of_ble_eq_true rfl), (Nat.le_of_ble_eq_true rfl)⟩ hph hph (show 0 + 0 = 0 from rfl) (by decide) (fun rh4 Lh4 clh4 lnh4 ivh4 rvh4 h4 => ?_)
                obtain ⟨rfl, rfl, rfl, rfl, rfl, fl4, W9, exf4⟩ := h4
                have F7 := Fb1.call hX0 fl4 rfl
                refine c_st (st2 := []) rfl ?_
                refine hv4 (show (-2147483648) ≤ ivh4 a0 0 ∧ ivh4 a0 0 ≤ 2147483647 from W9.int t_a0 0) (show ivh4 a0 0 = ivb1 a0 0 from fl4.i t_a0 rfl 0) (show 0 ≤ ivh4 a0 1 ∧ ivh4 a0 1 ≤ 1 from W9.int t_a0 1) (show ivh4 a0 1 = ivb1 a0 1 from fl4.i t_a0 rfl 1) (fun ri17 ie19 ri18 ie20 => ?_)
                refine c_lv (lv2 := [(0, .ref a0), (1, .ref a1), (2, .ref a2)]) [1, 2, 3] rfl ?_
                exact J1   _  W9 F7  (by show 0 ≤ ivh4 a0 0 ∧ ivh4 a0 0 < iv a1 2; omega) (ie20.trans hin) (by show 500 - ivh4 a0 0 < (nn : Int); omega)
              · refine c_aload_n (j := 3) (x := a2) C dX8_step_71 rfl ?_
                refine d_callV (As := []) (rest := []) C hM (C_putBreak (a0 := a2) Wb1 hS t_a2  ) dX8_step_72 kV_X8_57 rfl t_a2 rfl rfl (by decide) ck_7 rfl (Nat.le_of_ble_eq_true rfl) ⟨(Nat.le_of_ble_eq_true rfl), (Nat.le_of_ble_eq_true rfl)⟩ hph hph (show 0 + 0 = 0 from rfl) (by decide) (fun rh5 Lh5 clh5 lnh5 ivh5 rvh5 h5 => ?_)
                obtain ⟨rfl, rfl, rfl, rfl, rfl, fl5, W10, exf5⟩ := h5
                have F8 := Fb1.call hX0 fl5 rfl
                refine c_st (st2 := []) rfl ?_
                refine c_goto (tgt := 93) C dX8_step_75 (by decide) ?_
                refine hv4 (show (-2147483648) ≤ ivh5 a0 0 ∧ ivh5 a0 0 ≤ 2147483647 from W10.int t_a0 0) (show ivh5 a0 0 = ivb1 a0 0 from fl5.i t_a0 rfl 0) (show 0 ≤ ivh5 a0 1 ∧ ivh5 a0 1 ≤ 1 from W10.int t_a0 1) (show ivh5 a0 1 = ivb1 a0 1 from fl5.i t_a0 rfl 1) (fun ri19 ie22 ri20 ie23 => ?_)
                refine c_lv (lv2 := [(0, .ref a0), (1, .ref a1), (2, .ref a2)]) [1, 2, 3] rfl ?_
                exact J1   _  W10 F8  (by show 0 ≤ ivh5 a0 0 ∧ ivh5 a0 0 < iv a1 2; omega) (ie23.trans hin) (by show 500 - ivh5 a0 0 < (nn : Int); omega)
            · refine c_aload_n (j := 3) (x := a2) C dX8_step_56 rfl ?_
              have ri21 : 0 ≤ ivb1 a2 4 ∧ ivb1 a2 4 ≤ 500 := Wb1.int t_a2 4
              refine c_get (k := 4) C ck_7 dX8_step_57 w1_141 (by decide) t_a2 rfl rfl (by decide) rfl ?_
              refine c_if_le (tgt := 65) C (r32_c (lo := 0) (hi := 500) ri21.1 ri21.2 (by decide) (by decide)) dX8_step_60 (by decide) (fun c8 => ?_) (fun c8 => ?_)
              · refine c_iload_n (j := 0) C dX8_step_65 rfl ?_
                refine c_bipush (z := 126) C dX8_step_66 (by decide) ?_
                refine c_icmp_ne (tgt := 78) C ⟨by omega, by omega⟩ ⟨by decide, by decide⟩ dX8_step_68 (by decide) (fun c9 => ?_) (fun c9 => ?_)
                · refine c_iload_n (j := 0) C dX8_step_78 rfl ?_
                  refine c_bipush (z := 32) C dX8_step_79 (by decide) ?_
                  refine c_icmp_eq (tgt := 93) C ⟨by omega, by omega⟩ ⟨by decide, by decide⟩ dX8_step_81 (by decide) (fun _ => ?_) (fun z => absurd z (by omega))
                  have ri22 : 0 ≤ ivb1 a0 1 ∧ ivb1 a0 1 ≤ 1 := Wb1.int t_a0 1
                  refine c_lv (lv2 := [(0, .ref a0), (1, .ref a1), (2, .ref a2)]) [1, 2, 3] rfl ?_
                  exact J1   _  Wb1 Fb1  (by show 0 ≤ ivb1 a0 0 ∧ ivb1 a0 0 < iv a1 2; omega) hin (by show 500 - ivb1 a0 0 < (nn : Int); omega)
                · refine c_aload_n (j := 3) (x := a2) C dX8_step_71 rfl ?_
                  refine d_callV (As := []) (rest := []) C hM (C_putBreak (a0 := a2) Wb1 hS t_a2  ) dX8_step_72 kV_X8_57 rfl t_a2 rfl rfl (by decide) ck_7 rfl (Nat.le_of_ble_eq_true rfl) ⟨(Nat.le_of_ble_eq_true rfl), (Nat.le_of_ble_eq_true rfl)⟩ hph hph (show 0 + 0 = 0 from rfl) (by decide) (fun rh6 Lh6 clh6 lnh6 ivh6 rvh6 h6 => ?_)
                  obtain ⟨rfl, rfl, rfl, rfl, rfl, fl6, W11, exf6⟩ := h6
                  have F9 := Fb1.call hX0 fl6 rfl
                  refine c_st (st2 := []) rfl ?_
                  refine c_goto (tgt := 93) C dX8_step_75 (by decide) ?_
                  refine hv4 (show (-2147483648) ≤ ivh6 a0 0 ∧ ivh6 a0 0 ≤ 2147483647 from W11.int t_a0 0) (show ivh6 a0 0 = ivb1 a0 0 from fl6.i t_a0 rfl 0) (show 0 ≤ ivh6 a0 1 ∧ ivh6 a0 1 ≤ 1 from W11.int t_a0 1) (show ivh6 a0 1 = ivb1 a0 1 from fl6.i t_a0 rfl 1) (fun ri23 ie27 ri24 ie28 => ?_)
                  refine c_lv (lv2 := [(0, .ref a0), (1, .ref a1), (2, .ref a2)]) [1, 2, 3] rfl ?_
                  exact J1   _  W11 F9  (by show 0 ≤ ivh6 a0 0 ∧ ivh6 a0 0 < iv a1 2; omega) (ie28.trans hin) (by show 500 - ivh6 a0 0 < (nn : Int); omega)
              · refine c_iconst C dX8_step_63 ?_
                have ri25 : 0 ≤ ivb1 a0 1 ∧ ivb1 a0 1 ≤ 1 := Wb1.int t_a0 1
                exact c_iret C dX8_step_64 rfl (by decide) (rom0 hph hph (by decide)) ⟨2, rfl, rfl, rfl, rfl, rfl, Fb1, Wb1, ⟨by decide, by decide⟩, (by omega)⟩
    refine hv4 (show (-2147483648) ≤ ivh1 a0 0 ∧ ivh1 a0 0 ≤ 2147483647 from W1.int t_a0 0) (show ivh1 a0 0 = iv a0 0 from fl1.i t_a0 rfl 0) (show 0 ≤ ivh1 a0 1 ∧ ivh1 a0 1 ≤ 1 from W1.int t_a0 1) (show ivh1 a0 1 = iv a0 1 from fl1.i t_a0 rfl 1) (fun ri26 ie31 ri27 ie32 => ?_)
    refine c_lv (lv2 := [(0, .ref a0), (1, .ref a1), (2, .ref a2)]) [0, 1, 2] rfl ?_
    exact Lp1 503  _ (by omega) W1 F1  (by show 0 ≤ ivh1 a0 0 ∧ ivh1 a0 0 ≤ 500; omega) ie32
  · refine c_aload_n (j := 0) (x := a0) C dX8_step_7 rfl ?_
    refine c_aload_n (j := 1) (x := a1) C dX8_step_8 rfl ?_
    have ri28 : (-2147483648) ≤ iv a0 0 ∧ iv a0 0 ≤ 2147483647 := hW.int t_a0 0
    refine d_callV (As := [.ref a1]) (rest := []) C hM (C_enterLine (a0 := a0) (a1 := a1) hW hS t_a0 t_a1  (by show 0 ≤ iv a0 0 ∧ iv a0 0 ≤ 501 ∧ (iv a0 1 = 0 ∨ iv a0 0 ≤ 500); omega)) dX8_step_9 kV_X8_39 rfl t_a0 rfl rfl (by decide) ck_9 rfl (Nat.le_of_ble_eq_true rfl) ⟨(Nat.le_of_ble_eq_true rfl), (Nat.le_of_ble_eq_true rfl)⟩ hph hph (show 0 + 0 = 0 from rfl) (by decide) (fun rh7 Lh7 clh7 lnh7 ivh7 rvh7 h7 => ?_)
    obtain ⟨f7, rfl, rfl, rfl, rfl, rfl, fl7, W12, rgf7, exf7⟩ := h7
    have F10 := hF0.call hX0 fl7 rfl
    refine c_st (st2 := [.int (iI f7)]) rfl ?_
    refine hv3 (show (-2147483648) ≤ ivh7 a0 0 ∧ ivh7 a0 0 ≤ 2147483647 from W12.int t_a0 0) (show 0 ≤ ivh7 a0 1 ∧ ivh7 a0 1 ≤ 1 from W12.int t_a0 1) (show (f7 = 0 ∨ f7 = 1) ∧ 0 ≤ ivh7 a0 0 ∧ ivh7 a0 0 ≤ 501 ∧ (ivh7 a0 1 = 0 ∨ ivh7 a0 0 ≤ 500) from exf7) (fun ri29 ri30 gf7 => ?_)
    exact c_iret C dX8_step_12 rfl (by decide) (rom0 hph hph (by decide)) ⟨f7, rfl, rfl, rfl, rfl, rfl, F10, W12, ⟨by omega, by omega⟩, (by omega)⟩
set_option maxHeartbeats 4000000 in
set_option maxRecDepth 100000 in
theorem C_markLetters_24 {l : Launch} {G : GT} {mi : Nat} {sk : Nat → Nat} {L : List Nat} {cl ln : Nat → Nat} {iv : Nat → Nat → Int} {rv : Nat → Nat → Option Nat}  {a0 : Nat} {a1 : Nat} (hW : WT (g0 G) sk L cl ln iv rv) (hS : SKL sk L cl) (t_a0 : ty L cl a0 14) (t_a1 : ty L cl a1 24)  : Mc l G mi (Phi (g0 G) sk) PHM yX8_markLetters cX8_markLetters 5 none 3 [.ref a0, .ref a1] L cl ln iv rv 0 (fun v L2 cl2 ln2 iv2 rv2 => v = none ∧ L = L2 ∧ cl = cl2 ∧ ln = ln2 ∧ rv = rv2 ∧ fT [56] L cl iv rv iv2 rv2 ∧ WT (g0 G) sk L2 cl2 ln2 iv2 rv2 ∧ (True)) := by
  refine Mc.mk (by decide) (Nat.le_of_ble_eq_true rfl) ?_
  intro p e s m args below meth c A C hM
  refine hv3 (Phi.le hW hS) (show XT L cl ln L cl ln from XT.refl) (show fT [56] L cl iv rv iv rv from fT.refl) (fun hph hX0 hF0 => ?_)
  refine c_iconst C dX8_markLetters_0 ?_
  refine c_istore_n (lv2 := [(2, .int (iI 0)), (0, .ref a0), (1, .ref a1)]) C dX8_markLetters_1 (by decide) rfl ?_
  have Lp1 : ∀ (nn : Nat) (k : Int) (ivb1 : Nat → Nat → Int) , 6004 - k < (nn : Int) → WT (g0 G) sk L cl ln ivb1 rv → fT [56] L cl iv rv ivb1 rv → (0 ≤ k ∧ k ≤ 6003) → cw p l e 3 ((PHM) + 0 - ((Phi (g0 G) sk) ln rv)) s m args below meth c G A 5 (MQ below (Qu G A (Qp G (Phi (g0 G) sk) ((Phi (g0 G) sk) ln rv) 0 (fun v L2 cl2 ln2 iv2 rv2 => v = none ∧ L = L2 ∧ cl = cl2 ∧ ln = ln2 ∧ rv = rv2 ∧ fT [56] L cl iv rv iv2 rv2 ∧ WT (g0 G) sk L2 cl2 ln2 iv2 rv2 ∧ (True)))) args s (((PHM) + 0 - ((Phi (g0 G) sk) ln rv)) / 16) ((PHM) + 0 - ((Phi (g0 G) sk) ln rv)) A) (Phi (g0 G) sk) ((Phi (g0 G) sk) ln rv) L cl ln ivb1 rv 0 2 [(2, .int (iI k)), (0, .ref a0), (1, .ref a1)] [] := by
    intro nn
    induction nn with
    | zero =>
      intro  k ivb1 hm Wb1 Fb1  hk
      exact absurd hm (by omega)
    | succ nn ih1 =>
      intro  k ivb1 hm Wb1 Fb1  hk
      refine c_iload_n (j := 0) C dX8_markLetters_2 rfl ?_
      refine c_aload_n (j := 2) (x := a1) C dX8_markLetters_3 rfl ?_
      refine hv2 (show 0 ≤ ivb1 a1 2 ∧ ivb1 a1 2 ≤ 6003 from Wb1.int t_a1 2) (show ivb1 a1 2 = iv a1 2 from Fb1.i t_a1 rfl 2) (fun ri1 ie1 => ?_)
      refine d_callV (As := []) (rest := [.int (iI k)]) C hM (C_size_24 (a0 := a1) Wb1 hS t_a1  ) dX8_markLetters_4 kV_X8_77 rfl t_a1 rfl rfl (by decide) ck_0 rfl (Nat.le_of_ble_eq_true rfl) ⟨(Nat.le_of_ble_eq_true rfl), (Nat.le_of_ble_eq_true rfl)⟩ hph hph (show 0 + 0 = 0 from rfl) (by decide) (fun rh1 Lh1 clh1 lnh1 ivh1 rvh1 h1 => ?_)
      obtain ⟨f1, rfl, rfl, rfl, rfl, rfl, rfl, rgf1, exf1⟩ := h1
      refine c_st (st2 := [.int (iI f1), .int (iI k)]) rfl ?_
      have gf1 : f1 = ivb1 a1 2 := exf1
      refine c_icmp_ge (tgt := 70) C (r32_c (lo := 0) (hi := 6003) hk.1 hk.2 (by decide) (by decide)) ⟨by omega, by omega⟩ dX8_markLetters_7 (by decide) (fun c1 => ?_) (fun c1 => ?_)
      · exact c_vret C dX8_markLetters_70 rfl (by decide) (rom0 hph hph (by decide)) ⟨rfl, rfl, rfl, rfl, rfl, Fb1, Wb1, trivial⟩
      · refine c_aload_n (j := 2) (x := a1) C dX8_markLetters_10 rfl ?_
        refine c_iload_n (j := 0) C dX8_markLetters_11 rfl ?_
        refine d_callV (As := [.int (iI k)]) (rest := []) C hM (C_get_24 (a0 := a1) (i := k) Wb1 hS t_a1 (by omega) (by show 0 ≤ k ∧ k < ivb1 a1 2; omega)) dX8_markLetters_12 kV_X8_82 rfl t_a1 rfl rfl (by decide) ck_0 rfl (Nat.le_of_ble_eq_true rfl) ⟨(Nat.le_of_ble_eq_true rfl), (Nat.le_of_ble_eq_true rfl)⟩ hph hph (show 0 + 0 = 0 from rfl) (by decide) (fun rh2 Lh2 clh2 lnh2 ivh2 rvh2 h2 => ?_)
        obtain ⟨f2, rfl, rfl, rfl, rfl, rfl, rfl, rgf2, exf2⟩ := h2
        refine c_st (st2 := [.ref f2]) rfl ?_
        have gf2 : el rv a1 k.toNat = some f2 := exf2
        refine c_cast C ck_6 dX8_markLetters_15 w5_225 w8_169t rgf2 rfl rfl (by decide) ?_
        obtain ⟨rb1, rq1, trb1⟩ := Wb1.ref rgf2 1 rfl rfl rfl
        have lnrb1 : 0 ≤ ln rb1 ∧ ln rb1 ≤ 8 := Wb1.len trb1 rfl
        refine c_getr (k := 1) C ck_6 dX8_markLetters_18 w3_140 (by decide) rgf2 rfl rfl (by decide) rfl rq1 ?_
        refine c_st (st2 := [.ref rb1]) rfl ?_
        refine c_astore_n (lv2 := [(3, .ref rb1), (2, .int (iI k)), (0, .ref a0), (1, .ref a1)]) C dX8_markLetters_21 (by decide) rfl ?_
        refine c_iconst C dX8_markLetters_22 ?_
        refine c_istore (lv2 := [(4, .int (iI 0)), (3, .ref rb1), (2, .int (iI k)), (0, .ref a0), (1, .ref a1)]) C dX8_markLetters_23 (by decide) rfl ?_
        have Lp2 : ∀ (nn : Nat) (k2 : Int) (ivb2 : Nat → Nat → Int) , 9 - k2 < (nn : Int) → WT (g0 G) sk L cl ln ivb2 rv → fT [56] L cl iv rv ivb2 rv → (0 ≤ k2 ∧ k2 ≤ 8) → cw p l e 3 ((PHM) + 0 - ((Phi (g0 G) sk) ln rv)) s m args below meth c G A 5 (MQ below (Qu G A (Qp G (Phi (g0 G) sk) ((Phi (g0 G) sk) ln rv) 0 (fun v L2 cl2 ln2 iv2 rv2 => v = none ∧ L = L2 ∧ cl = cl2 ∧ ln = ln2 ∧ rv = rv2 ∧ fT [56] L cl iv rv iv2 rv2 ∧ WT (g0 G) sk L2 cl2 ln2 iv2 rv2 ∧ (True)))) args s (((PHM) + 0 - ((Phi (g0 G) sk) ln rv)) / 16) ((PHM) + 0 - ((Phi (g0 G) sk) ln rv)) A) (Phi (g0 G) sk) ((Phi (g0 G) sk) ln rv) L cl ln ivb2 rv 0 25 [(4, .int (iI k2)), (3, .ref rb1), (2, .int (iI k)), (0, .ref a0), (1, .ref a1)] [] := by
          intro nn
          induction nn with
          | zero =>
            intro  k2 ivb2 hm Wb2 Fb2  hk2
            exact absurd hm (by omega)
          | succ nn ih2 =>
            intro  k2 ivb2 hm Wb2 Fb2  hk2
            refine c_iload (j := 0) C dX8_markLetters_25 rfl ?_
            refine c_aload_n (j := 1) (x := rb1) C dX8_markLetters_27 rfl ?_
            have ll1 : 0 ≤ ln rb1 ∧ ln rb1 ≤ 8 := Wb2.len trb1 rfl
            refine c_alenI C dX8_markLetters_28 trb1 rfl ?_
            refine c_icmp_ge (tgt := 64) C (r32_c (lo := 0) (hi := 8) hk2.1 hk2.2 (by decide) (by decide)) ⟨by omega, by omega⟩ dX8_markLetters_29 (by decide) (fun c2 => ?_) (fun c2 => ?_)
            · refine c_iinc (z := k) (j := 2) (lv2 := [(2, .int (iI (k + 1))), (4, .int (iI k2)), (3, .ref rb1), (0, .ref a0), (1, .ref a1)]) C dX8_markLetters_64 rfl (by decide) rfl ?_
              refine c_goto (tgt := 2) C dX8_markLetters_67 (by decide) ?_
              refine c_lv (lv2 := [(2, .int (iI (k + 1))), (0, .ref a0), (1, .ref a1)]) [0, 3, 4] rfl ?_
              exact ih1  (k + 1) _ (by omega) Wb2 Fb2  (by omega)
            · refine c_aload_n (j := 1) (x := rb1) C dX8_markLetters_32 rfl ?_
              refine c_iload (j := 0) C dX8_markLetters_33 rfl ?_
              refine c_iald C dX8_markLetters_35 trb1 rfl (by omega) (by omega) (by omega) ?_
              refine hv2 (show (-2147483648) ≤ ivb2 rb1 k2.toNat ∧ ivb2 rb1 k2.toNat ≤ 2147483647 from Wb2.int trb1 k2.toNat) (show ivb2 rb1 k2.toNat = iv rb1 k2.toNat from Fb2.i trb1 rfl k2.toNat) (fun ri2 ie2 => ?_)
              refine c_if_lt (tgt := 58) C (r32_c (lo := (-2147483648)) (hi := 2147483647) ri2.1 ri2.2 (by decide) (by decide)) dX8_markLetters_36 (by decide) (fun c3 => ?_) (fun c3 => ?_)
              · refine c_iinc (z := k2) (j := 0) (lv2 := [(4, .int (iI (k2 + 1))), (3, .ref rb1), (2, .int (iI k)), (0, .ref a0), (1, .ref a1)]) C dX8_markLetters_58 rfl (by decide) rfl ?_
                refine c_goto (tgt := 25) C dX8_markLetters_61 (by decide) ?_
                refine c_lv (lv2 := [(4, .int (iI (k2 + 1))), (3, .ref rb1), (2, .int (iI k)), (0, .ref a0), (1, .ref a1)]) [0, 1, 2, 3, 4] rfl ?_
                exact ih2  (k2 + 1) _ (by omega) Wb2 Fb2  (by omega)
              · refine c_aload_n (j := 1) (x := rb1) C dX8_markLetters_39 rfl ?_
                refine c_iload (j := 0) C dX8_markLetters_40 rfl ?_
                refine c_iald C dX8_markLetters_42 trb1 rfl (by omega) (by omega) (by omega) ?_
                refine c_bipush (z := 125) C dX8_markLetters_43 (by decide) ?_
                refine c_icmp_gt (tgt := 58) C (r32_c (lo := (-2147483648)) (hi := 2147483647) ri2.1 ri2.2 (by decide) (by decide)) ⟨by decide, by decide⟩ dX8_markLetters_45 (by decide) (fun c4 => ?_) (fun c4 => ?_)
                · refine c_iinc (z := k2) (j := 0) (lv2 := [(4, .int (iI (k2 + 1))), (3, .ref rb1), (2, .int (iI k)), (0, .ref a0), (1, .ref a1)]) C dX8_markLetters_58 rfl (by decide) rfl ?_
                  refine c_goto (tgt := 25) C dX8_markLetters_61 (by decide) ?_
                  refine c_lv (lv2 := [(4, .int (iI (k2 + 1))), (3, .ref rb1), (2, .int (iI k)), (0, .ref a0), (1, .ref a1)]) [0, 1, 2, 3, 4] rfl ?_
                  exact ih2  (k2 + 1) _ (by omega) Wb2 Fb2  (by omega)
                · refine c_aload_n (j := 3) (x := a0) C dX8_markLetters_48 rfl ?_
                  obtain ⟨rb2, rq2, trb2⟩ := Wb2.ref t_a0 3 rfl rfl rfl
                  have lnrb2 : 126 ≤ ln rb2 ∧ ln rb2 ≤ 126 := Wb2.len trb2 rfl
                  refine c_getr (k := 3) C ck_9 dX8_markLetters_49 w1_107 (by decide) t_a0 rfl rfl (by decide) rfl rq2 ?_
                  refine c_st (st2 := [.ref rb2]) rfl ?_
                  refine c_aload_n (j := 1) (x := rb1) C dX8_markLetters_52 rfl ?_
                  refine c_iload (j := 0) C dX8_markLetters_53 rfl ?_
                  refine c_iald C dX8_markLetters_55 trb1 rfl (by omega) (by omega) (by omega) ?_
                  refine c_iconst C dX8_markLetters_56 ?_
                  have ll2 : 126 ≤ ln rb2 ∧ ln rb2 ≤ 126 := Wb2.len trb2 rfl
                  refine c_zast (x := 1) C dX8_markLetters_57 trb2 rfl (by omega) (by omega) (by omega) (by omega) (fun iv1 pq1 => ?_)
                  refine hv2 (Wb2.puti pq1 trb2 (show 0 ≤ 1 ∧ 1 ≤ 1 by omega) rfl) (Fb2.puti hX0 pq1 trb2 rfl) (fun W3 F1 => ?_)
                  refine c_iinc (z := k2) (j := 0) (lv2 := [(4, .int (iI (k2 + 1))), (3, .ref rb1), (2, .int (iI k)), (0, .ref a0), (1, .ref a1)]) C dX8_markLetters_58 rfl (by decide) rfl ?_
                  refine c_goto (tgt := 25) C dX8_markLetters_61 (by decide) ?_
                  refine c_lv (lv2 := [(4, .int (iI (k2 + 1))), (3, .ref rb1), (2, .int (iI k)), (0, .ref a0), (1, .ref a1)]) [0, 1, 2, 3, 4] rfl ?_
                  exact ih2  (k2 + 1) _ (by omega) W3 F1  (by omega)
        refine c_lv (lv2 := [(4, .int (iI 0)), (3, .ref rb1), (2, .int (iI k)), (0, .ref a0), (1, .ref a1)]) [0, 1, 2, 3, 4] rfl ?_
        exact Lp2 10 0 _ (by omega) Wb1 Fb1  (by omega)
  refine c_lv (lv2 := [(2, .int (iI 0)), (0, .ref a0), (1, .ref a1)]) [0, 1, 2] rfl ?_
  exact Lp1 6006 0 _ (by omega) hW hF0  (by omega)
set_option maxHeartbeats 4000000 in
set_option maxRecDepth 100000 in
theorem C_markLetters_25 {l : Launch} {G : GT} {mi : Nat} {sk : Nat → Nat} {L : List Nat} {cl ln : Nat → Nat} {iv : Nat → Nat → Int} {rv : Nat → Nat → Option Nat}  {a0 : Nat} {a1 : Nat} (hW : WT (g0 G) sk L cl ln iv rv) (hS : SKL sk L cl) (t_a0 : ty L cl a0 14) (t_a1 : ty L cl a1 25)  : Mc l G mi (Phi (g0 G) sk) PHM yX8_markLetters cX8_markLetters 5 none 3 [.ref a0, .ref a1] L cl ln iv rv 0 (fun v L2 cl2 ln2 iv2 rv2 => v = none ∧ L = L2 ∧ cl = cl2 ∧ ln = ln2 ∧ rv = rv2 ∧ fT [56] L cl iv rv iv2 rv2 ∧ WT (g0 G) sk L2 cl2 ln2 iv2 rv2 ∧ (True)) := by
  refine Mc.mk (by decide) (Nat.le_of_ble_eq_true rfl) ?_
  intro p e s m args below meth c A C hM
  refine hv3 (Phi.le hW hS) (show XT L cl ln L cl ln from XT.refl) (show fT [56] L cl iv rv iv rv from fT.refl) (fun hph hX0 hF0 => ?_)
  refine c_iconst C dX8_markLetters_0 ?_
  refine c_istore_n (lv2 := [(2, .int (iI 0)), (0, .ref a0), (1, .ref a1)]) C dX8_markLetters_1 (by decide) rfl ?_
  have Lp1 : ∀ (nn : Nat) (k : Int) (ivb1 : Nat → Nat → Int) , 6004 - k < (nn : Int) → WT (g0 G) sk L cl ln ivb1 rv → fT [56] L cl iv rv ivb1 rv → (0 ≤ k ∧ k ≤ 6003) → cw p l e 3 ((PHM) + 0 - ((Phi (g0 G) sk) ln rv)) s m args below meth c G A 5 (MQ below (Qu G A (Qp G (Phi (g0 G) sk) ((Phi (g0 G) sk) ln rv) 0 (fun v L2 cl2 ln2 iv2 rv2 => v = none ∧ L = L2 ∧ cl = cl2 ∧ ln = ln2 ∧ rv = rv2 ∧ fT [56] L cl iv rv iv2 rv2 ∧ WT (g0 G) sk L2 cl2 ln2 iv2 rv2 ∧ (True)))) args s (((PHM) + 0 - ((Phi (g0 G) sk) ln rv)) / 16) ((PHM) + 0 - ((Phi (g0 G) sk) ln rv)) A) (Phi (g0 G) sk) ((Phi (g0 G) sk) ln rv) L cl ln ivb1 rv 0 2 [(2, .int (iI k)), (0, .ref a0), (1, .ref a1)] [] := by
    intro nn
    induction nn with
    | zero =>
      intro  k ivb1 hm Wb1 Fb1  hk
      exact absurd hm (by omega)
    | succ nn ih1 =>
      intro  k ivb1 hm Wb1 Fb1  hk
      refine c_iload_n (j := 0) C dX8_markLetters_2 rfl ?_
      refine c_aload_n (j := 2) (x := a1) C dX8_markLetters_3 rfl ?_
      refine hv2 (show 0 ≤ ivb1 a1 2 ∧ ivb1 a1 2 ≤ 6003 from Wb1.int t_a1 2) (show ivb1 a1 2 = iv a1 2 from Fb1.i t_a1 rfl 2) (fun ri1 ie1 => ?_)
      refine d_callV (As := []) (rest := [.int (iI k)]) C hM (C_size_25 (a0 := a1) Wb1 hS t_a1  ) dX8_markLetters_4 kV_X8_77 rfl t_a1 rfl rfl (by decide) ck_0 rfl (Nat.le_of_ble_eq_true rfl) ⟨(Nat.le_of_ble_eq_true rfl), (Nat.le_of_ble_eq_true rfl)⟩ hph hph (show 0 + 0 = 0 from rfl) (by decide) (fun rh1 Lh1 clh1 lnh1 ivh1 rvh1 h1 => ?_)
      obtain ⟨f1, rfl, rfl, rfl, rfl, rfl, rfl, rgf1, exf1⟩ := h1
      refine c_st (st2 := [.int (iI f1), .int (iI k)]) rfl ?_
      have gf1 : f1 = ivb1 a1 2 := exf1
      refine c_icmp_ge (tgt := 70) C (r32_c (lo := 0) (hi := 6003) hk.1 hk.2 (by decide) (by decide)) ⟨by omega, by omega⟩ dX8_markLetters_7 (by decide) (fun c1 => ?_) (fun c1 => ?_)
      · exact c_vret C dX8_markLetters_70 rfl (by decide) (rom0 hph hph (by decide)) ⟨rfl, rfl, rfl, rfl, rfl, Fb1, Wb1, trivial⟩
      · refine c_aload_n (j := 2) (x := a1) C dX8_markLetters_10 rfl ?_
        refine c_iload_n (j := 0) C dX8_markLetters_11 rfl ?_
        refine d_callV (As := [.int (iI k)]) (rest := []) C hM (C_get_25 (a0 := a1) (i := k) Wb1 hS t_a1 (by omega) (by show 0 ≤ k ∧ k < ivb1 a1 2; omega)) dX8_markLetters_12 kV_X8_82 rfl t_a1 rfl rfl (by decide) ck_0 rfl (Nat.le_of_ble_eq_true rfl) ⟨(Nat.le_of_ble_eq_true rfl), (Nat.le_of_ble_eq_true rfl)⟩ hph hph (show 0 + 0 = 0 from rfl) (by decide) (fun rh2 Lh2 clh2 lnh2 ivh2 rvh2 h2 => ?_)
        obtain ⟨f2, rfl, rfl, rfl, rfl, rfl, rfl, rgf2, exf2⟩ := h2
        refine c_st (st2 := [.ref f2]) rfl ?_
        have gf2 : el rv a1 k.toNat = some f2 := exf2
        refine c_cast C ck_6 dX8_markLetters_15 w5_225 w8_169t rgf2 rfl rfl (by decide) ?_
        obtain ⟨rb1, rq1, trb1⟩ := Wb1.ref rgf2 1 rfl rfl rfl
        have lnrb1 : 0 ≤ ln rb1 ∧ ln rb1 ≤ 8 := Wb1.len trb1 rfl
        refine c_getr (k := 1) C ck_6 dX8_markLetters_18 w3_140 (by decide) rgf2 rfl rfl (by decide) rfl rq1 ?_
        refine c_st (st2 := [.ref rb1]) rfl ?_
        refine c_astore_n (lv2 := [(3, .ref rb1), (2, .int (iI k)), (0, .ref a0), (1, .ref a1)]) C dX8_markLetters_21 (by decide) rfl ?_
        refine c_iconst C dX8_markLetters_22 ?_
        refine c_istore (lv2 := [(4, .int (iI 0)), (3, .ref rb1), (2, .int (iI k)), (0, .ref a0), (1, .ref a1)]) C dX8_markLetters_23 (by decide) rfl ?_
        have Lp2 : ∀ (nn : Nat) (k2 : Int) (ivb2 : Nat → Nat → Int) , 9 - k2 < (nn : Int) → WT (g0 G) sk L cl ln ivb2 rv → fT [56] L cl iv rv ivb2 rv → (0 ≤ k2 ∧ k2 ≤ 8) → cw p l e 3 ((PHM) + 0 - ((Phi (g0 G) sk) ln rv)) s m args below meth c G A 5 (MQ below (Qu G A (Qp G (Phi (g0 G) sk) ((Phi (g0 G) sk) ln rv) 0 (fun v L2 cl2 ln2 iv2 rv2 => v = none ∧ L = L2 ∧ cl = cl2 ∧ ln = ln2 ∧ rv = rv2 ∧ fT [56] L cl iv rv iv2 rv2 ∧ WT (g0 G) sk L2 cl2 ln2 iv2 rv2 ∧ (True)))) args s (((PHM) + 0 - ((Phi (g0 G) sk) ln rv)) / 16) ((PHM) + 0 - ((Phi (g0 G) sk) ln rv)) A) (Phi (g0 G) sk) ((Phi (g0 G) sk) ln rv) L cl ln ivb2 rv 0 25 [(4, .int (iI k2)), (3, .ref rb1), (2, .int (iI k)), (0, .ref a0), (1, .ref a1)] [] := by
          intro nn
          induction nn with
          | zero =>
            intro  k2 ivb2 hm Wb2 Fb2  hk2
            exact absurd hm (by omega)
          | succ nn ih2 =>
            intro  k2 ivb2 hm Wb2 Fb2  hk2
            refine c_iload (j := 0) C dX8_markLetters_25 rfl ?_
            refine c_aload_n (j := 1) (x := rb1) C dX8_markLetters_27 rfl ?_
            have ll1 : 0 ≤ ln rb1 ∧ ln rb1 ≤ 8 := Wb2.len trb1 rfl
            refine c_alenI C dX8_markLetters_28 trb1 rfl ?_
            refine c_icmp_ge (tgt := 64) C (r32_c (lo := 0) (hi := 8) hk2.1 hk2.2 (by decide) (by decide)) ⟨by omega, by omega⟩ dX8_markLetters_29 (by decide) (fun c2 => ?_) (fun c2 => ?_)
            · refine c_iinc (z := k) (j := 2) (lv2 := [(2, .int (iI (k + 1))), (4, .int (iI k2)), (3, .ref rb1), (0, .ref a0), (1, .ref a1)]) C dX8_markLetters_64 rfl (by decide) rfl ?_
              refine c_goto (tgt := 2) C dX8_markLetters_67 (by decide) ?_
              refine c_lv (lv2 := [(2, .int (iI (k + 1))), (0, .ref a0), (1, .ref a1)]) [0, 3, 4] rfl ?_
              exact ih1  (k + 1) _ (by omega) Wb2 Fb2  (by omega)
            · refine c_aload_n (j := 1) (x := rb1) C dX8_markLetters_32 rfl ?_
              refine c_iload (j := 0) C dX8_markLetters_33 rfl ?_
              refine c_iald C dX8_markLetters_35 trb1 rfl (by omega) (by omega) (by omega) ?_
              refine hv2 (show (-2147483648) ≤ ivb2 rb1 k2.toNat ∧ ivb2 rb1 k2.toNat ≤ 2147483647 from Wb2.int trb1 k2.toNat) (show ivb2 rb1 k2.toNat = iv rb1 k2.toNat from Fb2.i trb1 rfl k2.toNat) (fun ri2 ie2 => ?_)
              refine c_if_lt (tgt := 58) C (r32_c (lo := (-2147483648)) (hi := 2147483647) ri2.1 ri2.2 (by decide) (by decide)) dX8_markLetters_36 (by decide) (fun c3 => ?_) (fun c3 => ?_)
              · refine c_iinc (z := k2) (j := 0) (lv2 := [(4, .int (iI (k2 + 1))), (3, .ref rb1), (2, .int (iI k)), (0, .ref a0), (1, .ref a1)]) C dX8_markLetters_58 rfl (by decide) rfl ?_
                refine c_goto (tgt := 25) C dX8_markLetters_61 (by decide) ?_
                refine c_lv (lv2 := [(4, .int (iI (k2 + 1))), (3, .ref rb1), (2, .int (iI k)), (0, .ref a0), (1, .ref a1)]) [0, 1, 2, 3, 4] rfl ?_
                exact ih2  (k2 + 1) _ (by omega) Wb2 Fb2  (by omega)
              · refine c_aload_n (j := 1) (x := rb1) C dX8_markLetters_39 rfl ?_
                refine c_iload (j := 0) C dX8_markLetters_40 rfl ?_
                refine c_iald C dX8_markLetters_42 trb1 rfl (by omega) (by omega) (by omega) ?_
                refine c_bipush (z := 125) C dX8_markLetters_43 (by decide) ?_
                refine c_icmp_gt (tgt := 58) C (r32_c (lo := (-2147483648)) (hi := 2147483647) ri2.1 ri2.2 (by decide) (by decide)) ⟨by decide, by decide⟩ dX8_markLetters_45 (by decide) (fun c4 => ?_) (fun c4 => ?_)
                · refine c_iinc (z := k2) (j := 0) (lv2 := [(4, .int (iI (k2 + 1))), (3, .ref rb1), (2, .int (iI k)), (0, .ref a0), (1, .ref a1)]) C dX8_markLetters_58 rfl (by decide) rfl ?_
                  refine c_goto (tgt := 25) C dX8_markLetters_61 (by decide) ?_
                  refine c_lv (lv2 := [(4, .int (iI (k2 + 1))), (3, .ref rb1), (2, .int (iI k)), (0, .ref a0), (1, .ref a1)]) [0, 1, 2, 3, 4] rfl ?_
                  exact ih2  (k2 + 1) _ (by omega) Wb2 Fb2  (by omega)
                · refine c_aload_n (j := 3) (x := a0) C dX8_markLetters_48 rfl ?_
                  obtain ⟨rb2, rq2, trb2⟩ := Wb2.ref t_a0 3 rfl rfl rfl
                  have lnrb2 : 126 ≤ ln rb2 ∧ ln rb2 ≤ 126 := Wb2.len trb2 rfl
                  refine c_getr (k := 3) C ck_9 dX8_markLetters_49 w1_107 (by decide) t_a0 rfl rfl (by decide) rfl rq2 ?_
                  refine c_st (st2 := [.ref rb2]) rfl ?_
                  refine c_aload_n (j := 1) (x := rb1) C dX8_markLetters_52 rfl ?_
                  refine c_iload (j := 0) C dX8_markLetters_53 rfl ?_
                  refine c_iald C dX8_markLetters_55 trb1 rfl (by omega) (by omega) (by omega) ?_
                  refine c_iconst C dX8_markLetters_56 ?_
                  have ll2 : 126 ≤ ln rb2 ∧ ln rb2 ≤ 126 := Wb2.len trb2 rfl
                  refine c_zast (x := 1) C dX8_markLetters_57 trb2 rfl (by omega) (by omega) (by omega) (by omega) (fun iv1 pq1 => ?_)
                  refine hv2 (Wb2.puti pq1 trb2 (show 0 ≤ 1 ∧ 1 ≤ 1 by omega) rfl) (Fb2.puti hX0 pq1 trb2 rfl) (fun W3 F1 => ?_)
                  refine c_iinc (z := k2) (j := 0) (lv2 := [(4, .int (iI (k2 + 1))), (3, .ref rb1), (2, .int (iI k)), (0, .ref a0), (1, .ref a1)]) C dX8_markLetters_58 rfl (by decide) rfl ?_
                  refine c_goto (tgt := 25) C dX8_markLetters_61 (by decide) ?_
                  refine c_lv (lv2 := [(4, .int (iI (k2 + 1))), (3, .ref rb1), (2, .int (iI k)), (0, .ref a0), (1, .ref a1)]) [0, 1, 2, 3, 4] rfl ?_
                  exact ih2  (k2 + 1) _ (by omega) W3 F1  (by omega)
        refine c_lv (lv2 := [(4, .int (iI 0)), (3, .ref rb1), (2, .int (iI k)), (0, .ref a0), (1, .ref a1)]) [0, 1, 2, 3, 4] rfl ?_
        exact Lp2 10 0 _ (by omega) Wb1 Fb1  (by omega)
  refine c_lv (lv2 := [(2, .int (iI 0)), (0, .ref a0), (1, .ref a1)]) [0, 1, 2] rfl ?_
  exact Lp1 6006 0 _ (by omega) hW hF0  (by omega)
set_option maxHeartbeats 4000000 in
set_option maxRecDepth 100000 in
theorem C_gatherAlphabet {l : Launch} {G : GT} {mi : Nat} {sk : Nat → Nat} {L : List Nat} {cl ln : Nat → Nat} {iv : Nat → Nat → Int} {rv : Nat → Nat → Option Nat}  {a0 : Nat} {a1 : Nat} {g : Int} (hW : WT (g0 G) sk L cl ln iv rv) (hS : SKL sk L cl) (t_a0 : ty L cl a0 14) (t_a1 : ty L cl a1 16) (h_g : -2147483648 ≤ g ∧ g ≤ 2147483647)  : Mc l G mi (Phi (g0 G) sk) PHM yX8_gatherAlphabet cX8_gatherAlphabet 4 none 4 [.ref a0, .ref a1, .int (iI g)] L cl ln iv rv 0 (fun v L2 cl2 ln2 iv2 rv2 => v = none ∧ L = L2 ∧ cl = cl2 ∧ ln = ln2 ∧ rv = rv2 ∧ fT [14, 56, 57] L cl iv rv iv2 rv2 ∧ WT (g0 G) sk L2 cl2 ln2 iv2 rv2 ∧ (iv2 a0 7 = iv a0 7)) := by
  refine Mc.mk (by decide) (Nat.le_of_ble_eq_true rfl) ?_
  intro p e s m args below meth c A C hM
  refine hv3 (Phi.le hW hS) (show XT L cl ln L cl ln from XT.refl) (show fT [14, 56, 57] L cl iv rv iv rv from fT.refl) (fun hph hX0 hF0 => ?_)
  refine c_iconst C dX8_gatherAlphabet_0 ?_
  refine c_istore_n (lv2 := [(3, .int (iI 0)), (0, .ref a0), (1, .ref a1), (2, .int (iI g))]) C dX8_gatherAlphabet_1 (by decide) rfl ?_
  have Lp1 : ∀ (nn : Nat) (k : Int) (ivb1 : Nat → Nat → Int) , 127 - k < (nn : Int) → WT (g0 G) sk L cl ln ivb1 rv → fT [14, 56, 57] L cl iv rv ivb1 rv → (0 ≤ k ∧ k ≤ 126) → (ivb1 a0 7 = iv a0 7) → cw p l e 4 ((PHM) + 0 - ((Phi (g0 G) sk) ln rv)) s m args below meth c G A 4 (MQ below (Qu G A (Qp G (Phi (g0 G) sk) ((Phi (g0 G) sk) ln rv) 0 (fun v L2 cl2 ln2 iv2 rv2 => v = none ∧ L = L2 ∧ cl = cl2 ∧ ln = ln2 ∧ rv = rv2 ∧ fT [14, 56, 57] L cl iv rv iv2 rv2 ∧ WT (g0 G) sk L2 cl2 ln2 iv2 rv2 ∧ (iv2 a0 7 = iv a0 7)))) args s (((PHM) + 0 - ((Phi (g0 G) sk) ln rv)) / 16) ((PHM) + 0 - ((Phi (g0 G) sk) ln rv)) A) (Phi (g0 G) sk) ((Phi (g0 G) sk) ln rv) L cl ln ivb1 rv 0 2 [(3, .int (iI k)), (0, .ref a0), (1, .ref a1), (2, .int (iI g))] [] := by
    intro nn
    induction nn with
    | zero =>
      intro  k ivb1 hm Wb1 Fb1  hk h2
      exact absurd hm (by omega)
    | succ nn ih1 =>
      intro  k ivb1 hm Wb1 Fb1  hk h2
      refine c_iload_n (j := 0) C dX8_gatherAlphabet_2 rfl ?_
      refine c_bipush (z := 125) C dX8_gatherAlphabet_3 (by decide) ?_
      refine c_icmp_gt (tgt := 21) C (r32_c (lo := 0) (hi := 126) hk.1 hk.2 (by decide) (by decide)) ⟨by decide, by decide⟩ dX8_gatherAlphabet_5 (by decide) (fun c1 => ?_) (fun c1 => ?_)
      · refine c_aload_n (j := 1) (x := a0) C dX8_gatherAlphabet_21 rfl ?_
        refine c_aload_n (j := 2) (x := a1) C dX8_gatherAlphabet_22 rfl ?_
        obtain ⟨rb1, rq1, trb1⟩ := Wb1.ref t_a1 0 rfl rfl rfl
        refine c_getr (k := 0) C ck_4 dX8_gatherAlphabet_23 w1_191 (by decide) t_a1 rfl rfl (by decide) rfl rq1 ?_
        refine c_st (st2 := [.ref rb1, .ref a0]) rfl ?_
        refine d_callV (As := [.ref rb1]) (rest := []) C hM (C_markLetters_24 (a0 := a0) (a1 := rb1) Wb1 hS t_a0 trb1  ) dX8_gatherAlphabet_26 kV_X8_70 rfl t_a0 rfl rfl (by decide) ck_9 rfl (Nat.le_of_ble_eq_true rfl) ⟨(Nat.le_of_ble_eq_true rfl), (Nat.le_of_ble_eq_true rfl)⟩ hph hph (show 0 + 0 = 0 from rfl) (by decide) (fun rh1 Lh1 clh1 lnh1 ivh1 rvh1 h1 => ?_)
        obtain ⟨rfl, rfl, rfl, rfl, rfl, fl1, W1, exf1⟩ := h1
        have F1 := Fb1.call hX0 fl1 rfl
        refine c_st (st2 := []) rfl ?_
        refine c_aload_n (j := 1) (x := a0) C dX8_gatherAlphabet_29 rfl ?_
        refine c_aload_n (j := 2) (x := a1) C dX8_gatherAlphabet_30 rfl ?_
        obtain ⟨rb2, rq2, trb2⟩ := W1.ref t_a1 1 rfl rfl rfl
        refine c_getr (k := 1) C ck_4 dX8_gatherAlphabet_31 w1_194 (by decide) t_a1 rfl rfl (by decide) rfl rq2 ?_
        refine c_st (st2 := [.ref rb2, .ref a0]) rfl ?_
        refine d_callV (As := [.ref rb2]) (rest := []) C hM (C_markLetters_25 (a0 := a0) (a1 := rb2) W1 hS t_a0 trb2  ) dX8_gatherAlphabet_34 kV_X8_70 rfl t_a0 rfl rfl (by decide) ck_9 rfl (Nat.le_of_ble_eq_true rfl) ⟨(Nat.le_of_ble_eq_true rfl), (Nat.le_of_ble_eq_true rfl)⟩ hph hph (show 0 + 0 = 0 from rfl) (by decide) (fun rh3 Lh3 clh3 lnh3 ivh3 rvh3 h3 => ?_)
        obtain ⟨rfl, rfl, rfl, rfl, rfl, fl2, W2, exf2⟩ := h3
        have F2 := F1.call hX0 fl2 rfl
        refine c_st (st2 := []) rfl ?_
        have J1 : ∀ (ivb2 : Nat → Nat → Int) , WT (g0 G) sk L cl ln ivb2 rv → fT [14, 56, 57] L cl iv rv ivb2 rv → (ivb2 a0 7 = iv a0 7) → cw p l e 4 ((PHM) + 0 - ((Phi (g0 G) sk) ln rv)) s m args below meth c G A 4 (MQ below (Qu G A (Qp G (Phi (g0 G) sk) ((Phi (g0 G) sk) ln rv) 0 (fun v L2 cl2 ln2 iv2 rv2 => v = none ∧ L = L2 ∧ cl = cl2 ∧ ln = ln2 ∧ rv = rv2 ∧ fT [14, 56, 57] L cl iv rv iv2 rv2 ∧ WT (g0 G) sk L2 cl2 ln2 iv2 rv2 ∧ (iv2 a0 7 = iv a0 7)))) args s (((PHM) + 0 - ((Phi (g0 G) sk) ln rv)) / 16) ((PHM) + 0 - ((Phi (g0 G) sk) ln rv)) A) (Phi (g0 G) sk) ((Phi (g0 G) sk) ln rv) L cl ln ivb2 rv 0 57 [(0, .ref a0), (1, .ref a1), (2, .int (iI g))] [] := by
          intro   ivb2 Wb2 Fb2  h57
          refine c_bipush (z := 97) C dX8_gatherAlphabet_57 (by decide) ?_
          refine c_istore_n (lv2 := [(3, .int (iI 97)), (0, .ref a0), (1, .ref a1), (2, .int (iI g))]) C dX8_gatherAlphabet_59 (by decide) rfl ?_
          have Lp2 : ∀ (nn : Nat) (k1 : Int) (ivb3 : Nat → Nat → Int) , 124 - k1 < (nn : Int) → WT (g0 G) sk L cl ln ivb3 rv → fT [14, 56, 57] L cl iv rv ivb3 rv → (97 ≤ k1 ∧ k1 ≤ 123) → (ivb3 a0 7 = iv a0 7) → cw p l e 4 ((PHM) + 0 - ((Phi (g0 G) sk) ln rv)) s m args below meth c G A 4 (MQ below (Qu G A (Qp G (Phi (g0 G) sk) ((Phi (g0 G) sk) ln rv) 0 (fun v L2 cl2 ln2 iv2 rv2 => v = none ∧ L = L2 ∧ cl = cl2 ∧ ln = ln2 ∧ rv = rv2 ∧ fT [14, 56, 57] L cl iv rv iv2 rv2 ∧ WT (g0 G) sk L2 cl2 ln2 iv2 rv2 ∧ (iv2 a0 7 = iv a0 7)))) args s (((PHM) + 0 - ((Phi (g0 G) sk) ln rv)) / 16) ((PHM) + 0 - ((Phi (g0 G) sk) ln rv)) A) (Phi (g0 G) sk) ((Phi (g0 G) sk) ln rv) L cl ln ivb3 rv 0 60 [(3, .int (iI k1)), (0, .ref a0), (1, .ref a1), (2, .int (iI g))] [] := by
            intro nn
            induction nn with
            | zero =>
              intro  k1 ivb3 hm Wb3 Fb3  hk1 h60
              exact absurd hm (by omega)
            | succ nn ih2 =>
              intro  k1 ivb3 hm Wb3 Fb3  hk1 h60
              refine c_iload_n (j := 0) C dX8_gatherAlphabet_60 rfl ?_
              refine c_bipush (z := 122) C dX8_gatherAlphabet_61 (by decide) ?_
              refine c_icmp_gt (tgt := 107) C (r32_c (lo := 97) (hi := 123) hk1.1 hk1.2 (by decide) (by decide)) ⟨by decide, by decide⟩ dX8_gatherAlphabet_63 (by decide) (fun c2 => ?_) (fun c2 => ?_)
              · refine c_aload_n (j := 1) (x := a0) C dX8_gatherAlphabet_107 rfl ?_
                refine c_iconst C dX8_gatherAlphabet_108 ?_
                refine c_put (z := 0) (k := 5) C ck_9 dX8_gatherAlphabet_109 w1_109 (by decide) rfl t_a0 rfl rfl (by decide) rfl (by rfl) (by rfl) (fun iv1 pq1 => ?_)
                refine hv2 (Wb3.puti pq1 t_a0 ⟨by decide, by decide⟩ rfl) (Fb3.puti hX0 pq1 t_a0 rfl) (fun W3 F3 => ?_)
                refine c_bipush (z := 33) C dX8_gatherAlphabet_112 (by decide) ?_
                refine c_istore_n (lv2 := [(3, .int (iI 33)), (0, .ref a0), (1, .ref a1), (2, .int (iI g))]) C dX8_gatherAlphabet_114 (by decide) rfl ?_
                have Lp3 : ∀ (nn : Nat) (k2 : Int) (ivb4 : Nat → Nat → Int) , 127 - k2 < (nn : Int) → WT (g0 G) sk L cl ln ivb4 rv → fT [14, 56, 57] L cl iv rv ivb4 rv → (33 ≤ k2 ∧ k2 ≤ 126) → (0 ≤ ivb4 a0 5 ∧ ivb4 a0 5 ≤ k2 - 33) → (ivb4 a0 7 = iv a0 7) → cw p l e 4 ((PHM) + 0 - ((Phi (g0 G) sk) ln rv)) s m args below meth c G A 4 (MQ below (Qu G A (Qp G (Phi (g0 G) sk) ((Phi (g0 G) sk) ln rv) 0 (fun v L2 cl2 ln2 iv2 rv2 => v = none ∧ L = L2 ∧ cl = cl2 ∧ ln = ln2 ∧ rv = rv2 ∧ fT [14, 56, 57] L cl iv rv iv2 rv2 ∧ WT (g0 G) sk L2 cl2 ln2 iv2 rv2 ∧ (iv2 a0 7 = iv a0 7)))) args s (((PHM) + 0 - ((Phi (g0 G) sk) ln rv)) / 16) ((PHM) + 0 - ((Phi (g0 G) sk) ln rv)) A) (Phi (g0 G) sk) ((Phi (g0 G) sk) ln rv) L cl ln ivb4 rv 0 115 [(3, .int (iI k2)), (0, .ref a0), (1, .ref a1), (2, .int (iI g))] [] := by
                  intro nn
                  induction nn with
                  | zero =>
                    intro  k2 ivb4 hm Wb4 Fb4  hk2 hz h115
                    exact absurd hm (by omega)
                  | succ nn ih3 =>
                    intro  k2 ivb4 hm Wb4 Fb4  hk2 hz h115
                    refine c_iload_n (j := 0) C dX8_gatherAlphabet_115 rfl ?_
                    refine c_bipush (z := 125) C dX8_gatherAlphabet_116 (by decide) ?_
                    refine c_icmp_gt (tgt := 156) C (r32_c (lo := 33) (hi := 126) hk2.1 hk2.2 (by decide) (by decide)) ⟨by decide, by decide⟩ dX8_gatherAlphabet_118 (by decide) (fun c3 => ?_) (fun c3 => ?_)
                    · have ri1 : 0 ≤ ivb4 a0 7 ∧ ivb4 a0 7 ≤ 6 := Wb4.int t_a0 7
                      exact c_vret C dX8_gatherAlphabet_156 rfl (by decide) (rom0 hph hph (by decide)) ⟨rfl, rfl, rfl, rfl, rfl, Fb4, Wb4, (by omega)⟩
                    · refine c_aload_n (j := 1) (x := a0) C dX8_gatherAlphabet_121 rfl ?_
                      obtain ⟨rb3, rq3, trb3⟩ := Wb4.ref t_a0 3 rfl rfl rfl
                      have lnrb3 : 126 ≤ ln rb3 ∧ ln rb3 ≤ 126 := Wb4.len trb3 rfl
                      refine c_getr (k := 3) C ck_9 dX8_gatherAlphabet_122 w1_107 (by decide) t_a0 rfl rfl (by decide) rfl rq3 ?_
                      refine c_st (st2 := [.ref rb3]) rfl ?_
                      refine c_iload_n (j := 0) C dX8_gatherAlphabet_125 rfl ?_
                      have ll1 : 126 ≤ ln rb3 ∧ ln rb3 ≤ 126 := Wb4.len trb3 rfl
                      refine c_zald C dX8_gatherAlphabet_126 trb3 rfl (by omega) (by omega) (by omega) ?_
                      have ri2 : 0 ≤ ivb4 rb3 k2.toNat ∧ ivb4 rb3 k2.toNat ≤ 1 := Wb4.int trb3 k2.toNat
                      refine c_if_eq (tgt := 150) C (r32_c (lo := 0) (hi := 1) ri2.1 ri2.2 (by decide) (by decide)) dX8_gatherAlphabet_127 (by decide) (fun c4 => ?_) (fun c4 => ?_)
                      · refine c_iinc (z := k2) (j := 0) (lv2 := [(3, .int (iI (k2 + 1))), (0, .ref a0), (1, .ref a1), (2, .int (iI g))]) C dX8_gatherAlphabet_150 rfl (by decide) rfl ?_
                        refine c_goto (tgt := 115) C dX8_gatherAlphabet_153 (by decide) ?_
                        refine hv2 (show 0 ≤ ivb4 a0 5 ∧ ivb4 a0 5 ≤ 126 from Wb4.int t_a0 5) (show 0 ≤ ivb4 a0 7 ∧ ivb4 a0 7 ≤ 6 from Wb4.int t_a0 7) (fun ri3 ri4 => ?_)
                        refine c_lv (lv2 := [(3, .int (iI (k2 + 1))), (0, .ref a0), (1, .ref a1), (2, .int (iI g))]) [0, 1, 2, 3] rfl ?_
                        exact ih3  (k2 + 1) _ (by omega) Wb4 Fb4  (by omega) (by show 0 ≤ ivb4 a0 5 ∧ ivb4 a0 5 ≤ (k2 + 1) - 33; omega) h115
                      · refine c_aload_n (j := 1) (x := a0) C dX8_gatherAlphabet_130 rfl ?_
                        obtain ⟨rb4, rq4, trb4⟩ := Wb4.ref t_a0 4 rfl rfl rfl
                        have lnrb4 : 126 ≤ ln rb4 ∧ ln rb4 ≤ 126 := Wb4.len trb4 rfl
                        refine c_getr (k := 4) C ck_9 dX8_gatherAlphabet_131 w1_108 (by decide) t_a0 rfl rfl (by decide) rfl rq4 ?_
                        refine c_st (st2 := [.ref rb4]) rfl ?_
                        refine c_aload_n (j := 1) (x := a0) C dX8_gatherAlphabet_134 rfl ?_
                        have ri5 : 0 ≤ ivb4 a0 5 ∧ ivb4 a0 5 ≤ 126 := Wb4.int t_a0 5
                        refine c_get (k := 5) C ck_9 dX8_gatherAlphabet_135 w1_109 (by decide) t_a0 rfl rfl (by decide) rfl ?_
                        refine c_iload_n (j := 0) C dX8_gatherAlphabet_138 rfl ?_
                        have ll2 : 126 ≤ ln rb4 ∧ ln rb4 ≤ 126 := Wb4.len trb4 rfl
                        refine c_iast (x := k2) C dX8_gatherAlphabet_139 trb4 rfl (by omega) (by omega) (by omega) (fun iv2 pq2 => ?_)
                        refine hv2 (Wb4.puti pq2 trb4 (show (-2147483648) ≤ k2 ∧ k2 ≤ 2147483647 by omega) rfl) (Fb4.puti hX0 pq2 trb4 rfl) (fun W4 F4 => ?_)
                        refine c_aload_n (j := 1) (x := a0) C dX8_gatherAlphabet_140 rfl ?_
                        refine c_dup C dX8_gatherAlphabet_141 rfl ?_
                        refine hv2 (show 0 ≤ iv2 a0 5 ∧ iv2 a0 5 ≤ 126 from W4.int t_a0 5) (show iv2 a0 5 = ivb4 a0 5 from by rw [pq2]; exact up2_k (ne_ty t_a0 trb4 (by decide))) (fun ri6 ie6 => ?_)
                        refine c_get (k := 5) C ck_9 dX8_gatherAlphabet_142 w1_109 (by decide) t_a0 rfl rfl (by decide) rfl ?_
                        refine c_iconst C dX8_gatherAlphabet_145 ?_
                        refine c_iadd C dX8_gatherAlphabet_146 ?_
                        refine c_put (z := (iv2 a0 5) + 1) (k := 5) C ck_9 dX8_gatherAlphabet_147 w1_109 (by decide) rfl t_a0 rfl rfl (by decide) rfl (by rfl) (by rfl) (fun iv3 pq3 => ?_)
                        refine hv2 (W4.puti pq3 t_a0 (show 0 ≤ ((iv2 a0 5) + 1) ∧ ((iv2 a0 5) + 1) ≤ 126 by omega) rfl) (F4.puti hX0 pq3 t_a0 rfl) (fun W5 F5 => ?_)
                        refine c_iinc (z := k2) (j := 0) (lv2 := [(3, .int (iI (k2 + 1))), (0, .ref a0), (1, .ref a1), (2, .int (iI g))]) C dX8_gatherAlphabet_150 rfl (by decide) rfl ?_
                        refine c_goto (tgt := 115) C dX8_gatherAlphabet_153 (by decide) ?_
                        refine hv5 (show 0 ≤ iv3 a0 5 ∧ iv3 a0 5 ≤ 126 from W5.int t_a0 5) (show iv3 a0 5 = (iv2 a0 5) + 1 from by rw [pq3]; exact up2_s) (show 0 ≤ iv3 a0 7 ∧ iv3 a0 7 ≤ 6 from W5.int t_a0 7) (show iv3 a0 7 = iv2 a0 7 from by rw [pq3]; exact up2_j (by decide)) (show iv2 a0 7 = ivb4 a0 7 from by rw [pq2]; exact up2_k (ne_ty t_a0 trb4 (by decide))) (fun ri7 ie7 ri8 ie8 ie9 => ?_)
                        refine c_lv (lv2 := [(3, .int (iI (k2 + 1))), (0, .ref a0), (1, .ref a1), (2, .int (iI g))]) [0, 1, 2, 3] rfl ?_
                        exact ih3  (k2 + 1) _ (by omega) W5 F5  (by omega) (by show 0 ≤ iv3 a0 5 ∧ iv3 a0 5 ≤ (k2 + 1) - 33; omega) (ie8.trans (ie9.trans h115))
                refine hv4 (show 0 ≤ iv1 a0 5 ∧ iv1 a0 5 ≤ 126 from W3.int t_a0 5) (show iv1 a0 5 = 0 from by rw [pq1]; exact up2_s) (show 0 ≤ iv1 a0 7 ∧ iv1 a0 7 ≤ 6 from W3.int t_a0 7) (show iv1 a0 7 = ivb3 a0 7 from by rw [pq1]; exact up2_j (by decide)) (fun ri9 ie11 ri10 ie12 => ?_)
                refine c_lv (lv2 := [(3, .int (iI 33)), (0, .ref a0), (1, .ref a1), (2, .int (iI g))]) [0, 1, 2, 3] rfl ?_
                exact Lp3 130 33 _ (by omega) W3 F3  (by omega) (by show 0 ≤ iv1 a0 5 ∧ iv1 a0 5 ≤ 33 - 33; omega) (ie12.trans h60)
              · refine c_aload_n (j := 1) (x := a0) C dX8_gatherAlphabet_66 rfl ?_
                obtain ⟨rb5, rq5, trb5⟩ := Wb3.ref t_a0 3 rfl rfl rfl
                have lnrb5 : 126 ≤ ln rb5 ∧ ln rb5 ≤ 126 := Wb3.len trb5 rfl
                refine c_getr (k := 3) C ck_9 dX8_gatherAlphabet_67 w1_107 (by decide) t_a0 rfl rfl (by decide) rfl rq5 ?_
                refine c_st (st2 := [.ref rb5]) rfl ?_
                refine c_iload_n (j := 0) C dX8_gatherAlphabet_70 rfl ?_
                refine c_bipush (z := 32) C dX8_gatherAlphabet_71 (by decide) ?_
                refine c_isub C dX8_gatherAlphabet_73 ?_
                refine c_aload_n (j := 1) (x := a0) C dX8_gatherAlphabet_74 rfl ?_
                refine c_getr (k := 3) C ck_9 dX8_gatherAlphabet_75 w1_107 (by decide) t_a0 rfl rfl (by decide) rfl rq5 ?_
                refine c_st (st2 := [.ref rb5, .int (iI (k1 - 32)), .ref rb5]) rfl ?_
                refine c_iload_n (j := 0) C dX8_gatherAlphabet_78 rfl ?_
                refine c_bipush (z := 32) C dX8_gatherAlphabet_79 (by decide) ?_
                refine c_isub C dX8_gatherAlphabet_81 ?_
                have ll3 : 126 ≤ ln rb5 ∧ ln rb5 ≤ 126 := Wb3.len trb5 rfl
                refine c_zald C dX8_gatherAlphabet_82 trb5 rfl (by omega) (by omega) (by omega) ?_
                have ri11 : 0 ≤ ivb3 rb5 ((k1 - 32).toNat) ∧ ivb3 rb5 ((k1 - 32).toNat) ≤ 1 := Wb3.int trb5 ((k1 - 32).toNat)
                refine c_if_ne (tgt := 95) C ⟨by omega, by omega⟩ dX8_gatherAlphabet_83 (by decide) (fun c5 => ?_) (fun c5 => ?_)
                · refine c_iconst C dX8_gatherAlphabet_95 ?_
                  refine c_goto (tgt := 100) C dX8_gatherAlphabet_96 (by decide) ?_
                  refine c_zast (x := 1) C dX8_gatherAlphabet_100 trb5 rfl (by omega) (by omega) (by omega) (by omega) (fun iv4 pq4 => ?_)
                  refine hv2 (Wb3.puti pq4 trb5 (show 0 ≤ 1 ∧ 1 ≤ 1 by omega) rfl) (Fb3.puti hX0 pq4 trb5 rfl) (fun W6 F6 => ?_)
                  refine c_iinc (z := k1) (j := 0) (lv2 := [(3, .int (iI (k1 + 1))), (0, .ref a0), (1, .ref a1), (2, .int (iI g))]) C dX8_gatherAlphabet_101 rfl (by decide) rfl ?_
                  refine c_goto (tgt := 60) C dX8_gatherAlphabet_104 (by decide) ?_
                  refine hv2 (show 0 ≤ iv4 a0 7 ∧ iv4 a0 7 ≤ 6 from W6.int t_a0 7) (show iv4 a0 7 = ivb3 a0 7 from by rw [pq4]; exact up2_k (ne_ty t_a0 trb5 (by decide))) (fun ri12 ie15 => ?_)
                  refine c_lv (lv2 := [(3, .int (iI (k1 + 1))), (0, .ref a0), (1, .ref a1), (2, .int (iI g))]) [0, 1, 2, 3] rfl ?_
                  exact ih2  (k1 + 1) _ (by omega) W6 F6  (by omega) (ie15.trans h60)
                · refine c_aload_n (j := 1) (x := a0) C dX8_gatherAlphabet_86 rfl ?_
                  refine c_getr (k := 3) C ck_9 dX8_gatherAlphabet_87 w1_107 (by decide) t_a0 rfl rfl (by decide) rfl rq5 ?_
                  refine c_st (st2 := [.ref rb5, .int (iI (k1 - 32)), .ref rb5]) rfl ?_
                  refine c_iload_n (j := 0) C dX8_gatherAlphabet_90 rfl ?_
                  refine c_zald C dX8_gatherAlphabet_91 trb5 rfl (by omega) (by omega) (by omega) ?_
                  have ri13 : 0 ≤ ivb3 rb5 k1.toNat ∧ ivb3 rb5 k1.toNat ≤ 1 := Wb3.int trb5 k1.toNat
                  refine c_if_eq (tgt := 99) C (r32_c (lo := 0) (hi := 1) ri13.1 ri13.2 (by decide) (by decide)) dX8_gatherAlphabet_92 (by decide) (fun c6 => ?_) (fun c6 => ?_)
                  · refine c_iconst C dX8_gatherAlphabet_99 ?_
                    refine c_zast (x := 0) C dX8_gatherAlphabet_100 trb5 rfl (by omega) (by omega) (by omega) (by omega) (fun iv5 pq5 => ?_)
                    refine hv2 (Wb3.puti pq5 trb5 (show 0 ≤ 0 ∧ 0 ≤ 1 by omega) rfl) (Fb3.puti hX0 pq5 trb5 rfl) (fun W7 F7 => ?_)
                    refine c_iinc (z := k1) (j := 0) (lv2 := [(3, .int (iI (k1 + 1))), (0, .ref a0), (1, .ref a1), (2, .int (iI g))]) C dX8_gatherAlphabet_101 rfl (by decide) rfl ?_
                    refine c_goto (tgt := 60) C dX8_gatherAlphabet_104 (by decide) ?_
                    refine hv2 (show 0 ≤ iv5 a0 7 ∧ iv5 a0 7 ≤ 6 from W7.int t_a0 7) (show iv5 a0 7 = ivb3 a0 7 from by rw [pq5]; exact up2_k (ne_ty t_a0 trb5 (by decide))) (fun ri14 ie18 => ?_)
                    refine c_lv (lv2 := [(3, .int (iI (k1 + 1))), (0, .ref a0), (1, .ref a1), (2, .int (iI g))]) [0, 1, 2, 3] rfl ?_
                    exact ih2  (k1 + 1) _ (by omega) W7 F7  (by omega) (ie18.trans h60)
                  · refine c_iconst C dX8_gatherAlphabet_95 ?_
                    refine c_goto (tgt := 100) C dX8_gatherAlphabet_96 (by decide) ?_
                    refine c_zast (x := 1) C dX8_gatherAlphabet_100 trb5 rfl (by omega) (by omega) (by omega) (by omega) (fun iv6 pq6 => ?_)
                    refine hv2 (Wb3.puti pq6 trb5 (show 0 ≤ 1 ∧ 1 ≤ 1 by omega) rfl) (Fb3.puti hX0 pq6 trb5 rfl) (fun W8 F8 => ?_)
                    refine c_iinc (z := k1) (j := 0) (lv2 := [(3, .int (iI (k1 + 1))), (0, .ref a0), (1, .ref a1), (2, .int (iI g))]) C dX8_gatherAlphabet_101 rfl (by decide) rfl ?_
                    refine c_goto (tgt := 60) C dX8_gatherAlphabet_104 (by decide) ?_
                    refine hv2 (show 0 ≤ iv6 a0 7 ∧ iv6 a0 7 ≤ 6 from W8.int t_a0 7) (show iv6 a0 7 = ivb3 a0 7 from by rw [pq6]; exact up2_k (ne_ty t_a0 trb5 (by decide))) (fun ri15 ie20 => ?_)
                    refine c_lv (lv2 := [(3, .int (iI (k1 + 1))), (0, .ref a0), (1, .ref a1), (2, .int (iI g))]) [0, 1, 2, 3] rfl ?_
                    exact ih2  (k1 + 1) _ (by omega) W8 F8  (by omega) (ie20.trans h60)
          have ri16 : 0 ≤ ivb2 a0 7 ∧ ivb2 a0 7 ≤ 6 := Wb2.int t_a0 7
          refine c_lv (lv2 := [(3, .int (iI 97)), (0, .ref a0), (1, .ref a1), (2, .int (iI g))]) [0, 1, 2, 3] rfl ?_
          exact Lp2 130 97 _ (by omega) Wb2 Fb2  (by omega) h57
        refine c_iload_n (j := 3) C dX8_gatherAlphabet_37 rfl ?_
        refine c_if_eq (tgt := 57) C ⟨by omega, by omega⟩ dX8_gatherAlphabet_38 (by decide) (fun c7 => ?_) (fun c7 => ?_)
        · have ri17 : 0 ≤ ivh3 a0 7 ∧ ivh3 a0 7 ≤ 6 := W2.int t_a0 7
          refine hv2 (show ivh3 a0 7 = ivh1 a0 7 from fl2.i t_a0 rfl 7) (show ivh1 a0 7 = ivb1 a0 7 from fl1.i t_a0 rfl 7) (fun ie23 ie24 => ?_)
          refine c_lv (lv2 := [(0, .ref a0), (1, .ref a1), (2, .int (iI g))]) [1, 2, 3] rfl ?_
          exact J1   _  W2 F2  (ie23.trans (ie24.trans h2))
        · refine c_aload_n (j := 1) (x := a0) C dX8_gatherAlphabet_41 rfl ?_
          obtain ⟨rb6, rq6, trb6⟩ := W2.ref t_a0 3 rfl rfl rfl
          have lnrb6 : 126 ≤ ln rb6 ∧ ln rb6 ≤ 126 := W2.len trb6 rfl
          refine c_getr (k := 3) C ck_9 dX8_gatherAlphabet_42 w1_107 (by decide) t_a0 rfl rfl (by decide) rfl rq6 ?_
          refine c_st (st2 := [.ref rb6]) rfl ?_
          refine c_bipush (z := 60) C dX8_gatherAlphabet_45 (by decide) ?_
          refine c_iconst C dX8_gatherAlphabet_47 ?_
          have ll4 : 126 ≤ ln rb6 ∧ ln rb6 ≤ 126 := W2.len trb6 rfl
          refine c_zast (x := 1) C dX8_gatherAlphabet_48 trb6 rfl (by omega) (by omega) (by omega) (by omega) (fun iv7 pq7 => ?_)
          refine hv2 (W2.puti pq7 trb6 (show 0 ≤ 1 ∧ 1 ≤ 1 by omega) rfl) (F2.puti hX0 pq7 trb6 rfl) (fun W9 F9 => ?_)
          refine c_aload_n (j := 1) (x := a0) C dX8_gatherAlphabet_49 rfl ?_
          refine c_getr (k := 3) C ck_9 dX8_gatherAlphabet_50 w1_107 (by decide) t_a0 rfl rfl (by decide) rfl rq6 ?_
          refine c_st (st2 := [.ref rb6]) rfl ?_
          refine c_bipush (z := 62) C dX8_gatherAlphabet_53 (by decide) ?_
          refine c_iconst C dX8_gatherAlphabet_55 ?_
          refine c_zast (x := 1) C dX8_gatherAlphabet_56 trb6 rfl (by omega) (by omega) (by omega) (by omega) (fun iv8 pq8 => ?_)
          refine hv6 (W9.puti pq8 trb6 (show 0 ≤ 1 ∧ 1 ≤ 1 by omega) rfl) (F9.puti hX0 pq8 trb6 rfl) (show iv8 a0 7 = iv7 a0 7 from by rw [pq8]; exact up2_k (ne_ty t_a0 trb6 (by decide))) (show iv7 a0 7 = ivh3 a0 7 from by rw [pq7]; exact up2_k (ne_ty t_a0 trb6 (by decide))) (show ivh3 a0 7 = ivh1 a0 7 from fl2.i t_a0 rfl 7) (show ivh1 a0 7 = ivb1 a0 7 from fl1.i t_a0 rfl 7) (fun W10 F10 ie26 ie27 ie28 ie29 => ?_)
          have ri18 : 0 ≤ iv8 a0 7 ∧ iv8 a0 7 ≤ 6 := W10.int t_a0 7
          refine c_lv (lv2 := [(0, .ref a0), (1, .ref a1), (2, .int (iI g))]) [1, 2, 3] rfl ?_
          exact J1   _  W10 F10  (ie26.trans (ie27.trans (ie28.trans (ie29.trans h2))))
      · refine c_aload_n (j := 1) (x := a0) C dX8_gatherAlphabet_8 rfl ?_
        obtain ⟨rb7, rq7, trb7⟩ := Wb1.ref t_a0 3 rfl rfl rfl
        have lnrb7 : 126 ≤ ln rb7 ∧ ln rb7 ≤ 126 := Wb1.len trb7 rfl
        refine c_getr (k := 3) C ck_9 dX8_gatherAlphabet_9 w1_107 (by decide) t_a0 rfl rfl (by decide) rfl rq7 ?_
        refine c_st (st2 := [.ref rb7]) rfl ?_
        refine c_iload_n (j := 0) C dX8_gatherAlphabet_12 rfl ?_
        refine c_iconst C dX8_gatherAlphabet_13 ?_
        have ll5 : 126 ≤ ln rb7 ∧ ln rb7 ≤ 126 := Wb1.len trb7 rfl
        refine c_zast (x := 0) C dX8_gatherAlphabet_14 trb7 rfl (by omega) (by omega) (by omega) (by omega) (fun iv9 pq9 => ?_)
        refine hv2 (Wb1.puti pq9 trb7 (show 0 ≤ 0 ∧ 0 ≤ 1 by omega) rfl) (Fb1.puti hX0 pq9 trb7 rfl) (fun W11 F11 => ?_)
        refine c_iinc (z := k) (j := 0) (lv2 := [(3, .int (iI (k + 1))), (0, .ref a0), (1, .ref a1), (2, .int (iI g))]) C dX8_gatherAlphabet_15 rfl (by decide) rfl ?_
        refine c_goto (tgt := 2) C dX8_gatherAlphabet_18 (by decide) ?_
        refine hv2 (show 0 ≤ iv9 a0 7 ∧ iv9 a0 7 ≤ 6 from W11.int t_a0 7) (show iv9 a0 7 = ivb1 a0 7 from by rw [pq9]; exact up2_k (ne_ty t_a0 trb7 (by decide))) (fun ri19 ie31 => ?_)
        refine c_lv (lv2 := [(3, .int (iI (k + 1))), (0, .ref a0), (1, .ref a1), (2, .int (iI g))]) [0, 1, 2, 3] rfl ?_
        exact ih1  (k + 1) _ (by omega) W11 F11  (by omega) (ie31.trans h2)
  have ri20 : 0 ≤ iv a0 7 ∧ iv a0 7 ≤ 6 := hW.int t_a0 7
  refine c_lv (lv2 := [(3, .int (iI 0)), (0, .ref a0), (1, .ref a1), (2, .int (iI g))]) [0, 1, 2, 3] rfl ?_
  exact Lp1 130 0 _ (by omega) hW hF0  (by omega) rfl
set_option maxHeartbeats 4000000 in
set_option maxRecDepth 100000 in
theorem C_fill {l : Launch} {G : GT} {mi : Nat} {sk : Nat → Nat} {L : List Nat} {cl ln : Nat → Nat} {iv : Nat → Nat → Int} {rv : Nat → Nat → Option Nat}  {a0 : Nat} {x : Int} (hW : WT (g0 G) sk L cl ln iv rv) (hS : SKL sk L cl) (t_a0 : ty L cl a0 58) (h_x : -2147483648 ≤ x ∧ x ≤ 2147483647) (hx : x = 0) : Mc l G mi (Phi (g0 G) sk) PHM yJ7_fill_53178 cJ7_fill_53178 4 none 0 [.ref a0, .int (iI x)] L cl ln iv rv 0 (fun v L2 cl2 ln2 iv2 rv2 => v = none ∧ L = L2 ∧ cl = cl2 ∧ ln = ln2 ∧ rv = rv2 ∧ fT [58] L cl iv rv iv2 rv2 ∧ WT (g0 G) sk L2 cl2 ln2 iv2 rv2 ∧ (True)) := by
  refine Mc.mk (by decide) (Nat.le_of_ble_eq_true rfl) ?_
  intro p e s m args below meth c A C hM
  refine hv3 (Phi.le hW hS) (show XT L cl ln L cl ln from XT.refl) (show fT [58] L cl iv rv iv rv from fT.refl) (fun hph hX0 hF0 => ?_)
  refine c_iconst C dJ7_fill_53178_0 ?_
  refine c_istore_n (lv2 := [(2, .int (iI 0)), (0, .ref a0), (1, .int (iI x))]) C dJ7_fill_53178_1 (by decide) rfl ?_
  refine c_aload_n (j := 1) (x := a0) C dJ7_fill_53178_2 rfl ?_
  have ll1 : 6 ≤ ln a0 ∧ ln a0 ≤ 6 := hW.len t_a0 rfl
  refine c_alenI C dJ7_fill_53178_3 t_a0 rfl ?_
  refine c_istore_n (lv2 := [(3, .int (iI ((ln a0 : Nat) : Int))), (2, .int (iI 0)), (0, .ref a0), (1, .int (iI x))]) C dJ7_fill_53178_4 (by decide) rfl ?_
  have Lp1 : ∀ (nn : Nat) (k : Int) (ivb1 : Nat → Nat → Int) , 7 - k < (nn : Int) → WT (g0 G) sk L cl ln ivb1 rv → fT [58] L cl iv rv ivb1 rv → (0 ≤ k ∧ k ≤ 6) → cw p l e 0 ((PHM) + 0 - ((Phi (g0 G) sk) ln rv)) s m args below meth c G A 4 (MQ below (Qu G A (Qp G (Phi (g0 G) sk) ((Phi (g0 G) sk) ln rv) 0 (fun v L2 cl2 ln2 iv2 rv2 => v = none ∧ L = L2 ∧ cl = cl2 ∧ ln = ln2 ∧ rv = rv2 ∧ fT [58] L cl iv rv iv2 rv2 ∧ WT (g0 G) sk L2 cl2 ln2 iv2 rv2 ∧ (True)))) args s (((PHM) + 0 - ((Phi (g0 G) sk) ln rv)) / 16) ((PHM) + 0 - ((Phi (g0 G) sk) ln rv)) A) (Phi (g0 G) sk) ((Phi (g0 G) sk) ln rv) L cl ln ivb1 rv 0 5 [(2, .int (iI k)), (3, .int (iI ((ln a0 : Nat) : Int))), (0, .ref a0), (1, .int (iI x))] [] := by
    intro nn
    induction nn with
    | zero =>
      intro  k ivb1 hm Wb1 Fb1  hk
      exact absurd hm (by omega)
    | succ nn ih1 =>
      intro  k ivb1 hm Wb1 Fb1  hk
      refine c_iload_n (j := 0) C dJ7_fill_53178_5 rfl ?_
      refine c_iload_n (j := 1) C dJ7_fill_53178_6 rfl ?_
      refine c_icmp_ge (tgt := 20) C (r32_c (lo := 0) (hi := 6) hk.1 hk.2 (by decide) (by decide)) ⟨by omega, by omega⟩ dJ7_fill_53178_7 (by decide) (fun c1 => ?_) (fun c1 => ?_)
      · exact c_vret C dJ7_fill_53178_20 rfl (by decide) (rom0 hph hph (by decide)) ⟨rfl, rfl, rfl, rfl, rfl, Fb1, Wb1, trivial⟩
      · refine c_aload_n (j := 2) (x := a0) C dJ7_fill_53178_10 rfl ?_
        refine c_iload_n (j := 0) C dJ7_fill_53178_11 rfl ?_
        refine c_iload_n (j := 3) C dJ7_fill_53178_12 rfl ?_
        refine c_iast (x := x) C dJ7_fill_53178_13 t_a0 rfl (by omega) (by omega) (by omega) (fun iv1 pq1 => ?_)
        refine hv2 (Wb1.puti pq1 t_a0 (show 0 ≤ x ∧ x ≤ 125 by omega) rfl) (Fb1.puti hX0 pq1 t_a0 rfl) (fun W1 F1 => ?_)
        refine c_iinc (z := k) (j := 0) (lv2 := [(2, .int (iI (k + 1))), (3, .int (iI ((ln a0 : Nat) : Int))), (0, .ref a0), (1, .int (iI x))]) C dJ7_fill_53178_14 rfl (by decide) rfl ?_
        refine c_goto (tgt := 5) C dJ7_fill_53178_17 (by decide) ?_
        refine c_lv (lv2 := [(2, .int (iI (k + 1))), (3, .int (iI ((ln a0 : Nat) : Int))), (0, .ref a0), (1, .int (iI x))]) [0, 1, 2, 3] rfl ?_
        exact ih1  (k + 1) _ (by omega) W1 F1  (by omega)
  refine c_lv (lv2 := [(2, .int (iI 0)), (3, .int (iI ((ln a0 : Nat) : Int))), (0, .ref a0), (1, .int (iI x))]) [1, 0, 2, 3] rfl ?_
  exact Lp1 8 0 _ (by omega) hW hF0  (by omega)
set_option maxHeartbeats 4000000 in
set_option maxRecDepth 100000 in
theorem C_lengthen {l : Launch} {G : GT} {mi : Nat} {sk : Nat → Nat} {L : List Nat} {cl ln : Nat → Nat} {iv : Nat → Nat → Int} {rv : Nat → Nat → Option Nat}  {a0 : Nat} {n : Int} (hW : WT (g0 G) sk L cl ln iv rv) (hS : SKL sk L cl) (t_a0 : ty L cl a0 14) (h_n : -2147483648 ≤ n ∧ n ≤ 2147483647)  : Mc l G mi (Phi (g0 G) sk) PHM yX8_lengthen cX8_lengthen 2 (some .boolean) 1 [.ref a0, .int (iI n)] L cl ln iv rv 0 (fun v L2 cl2 ln2 iv2 rv2 => ∃ f : Int, v = some (.int (iI f)) ∧ L = L2 ∧ cl = cl2 ∧ ln = ln2 ∧ rv = rv2 ∧ fT [14, 58] L cl iv rv iv2 rv2 ∧ WT (g0 G) sk L2 cl2 ln2 iv2 rv2 ∧ (f = 0 ∨ f = 1) ∧ (iv2 a0 5 = iv a0 5)) := by
  refine Mc.mk (by decide) (Nat.le_of_ble_eq_true rfl) ?_
  intro p e s m args below meth c A C hM
  refine hv3 (Phi.le hW hS) (show XT L cl ln L cl ln from XT.refl) (show fT [14, 58] L cl iv rv iv rv from fT.refl) (fun hph hX0 hF0 => ?_)
  refine c_aload_n (j := 0) (x := a0) C dX8_lengthen_0 rfl ?_
  have ri1 : 0 ≤ iv a0 7 ∧ iv a0 7 ≤ 6 := hW.int t_a0 7
  refine c_get (k := 7) C ck_9 dX8_lengthen_1 w1_111 (by decide) t_a0 rfl rfl (by decide) rfl ?_
  refine c_iload_n (j := 1) C dX8_lengthen_4 rfl ?_
  refine c_icmp_ge (tgt := 17) C (r32_c (lo := 0) (hi := 6) ri1.1 ri1.2 (by decide) (by decide)) ⟨by omega, by omega⟩ dX8_lengthen_5 (by decide) (fun c1 => ?_) (fun c1 => ?_)
  · refine c_iconst C dX8_lengthen_17 ?_
    have ri2 : 0 ≤ iv a0 5 ∧ iv a0 5 ≤ 126 := hW.int t_a0 5
    exact c_zret C dX8_lengthen_18 rfl (Or.inl rfl) (by decide) (rom0 hph hph (by decide)) ⟨0, rfl, rfl, rfl, rfl, rfl, hF0, hW, (Or.inl rfl), (by omega)⟩
  · refine c_aload_n (j := 0) (x := a0) C dX8_lengthen_8 rfl ?_
    refine c_get (k := 7) C ck_9 dX8_lengthen_9 w1_111 (by decide) t_a0 rfl rfl (by decide) rfl ?_
    refine c_bipush (z := 6) C dX8_lengthen_12 (by decide) ?_
    refine c_icmp_lt (tgt := 19) C (r32_c (lo := 0) (hi := 6) ri1.1 ri1.2 (by decide) (by decide)) ⟨by decide, by decide⟩ dX8_lengthen_14 (by decide) (fun c2 => ?_) (fun c2 => ?_)
    · refine c_aload_n (j := 0) (x := a0) C dX8_lengthen_19 rfl ?_
      refine c_dup C dX8_lengthen_20 rfl ?_
      refine c_get (k := 7) C ck_9 dX8_lengthen_21 w1_111 (by decide) t_a0 rfl rfl (by decide) rfl ?_
      refine c_iconst C dX8_lengthen_24 ?_
      refine c_iadd C dX8_lengthen_25 ?_
      refine c_put (z := (iv a0 7) + 1) (k := 7) C ck_9 dX8_lengthen_26 w1_111 (by decide) rfl t_a0 rfl rfl (by decide) rfl (by rfl) (by rfl) (fun iv1 pq1 => ?_)
      refine hv2 (hW.puti pq1 t_a0 (show 0 ≤ ((iv a0 7) + 1) ∧ ((iv a0 7) + 1) ≤ 6 by omega) rfl) (hF0.puti hX0 pq1 t_a0 rfl) (fun W1 F1 => ?_)
      refine c_aload_n (j := 0) (x := a0) C dX8_lengthen_29 rfl ?_
      obtain ⟨rb1, rq1, trb1⟩ := W1.ref t_a0 6 rfl rfl rfl
      have lnrb1 : 6 ≤ ln rb1 ∧ ln rb1 ≤ 6 := W1.len trb1 rfl
      refine c_getr (k := 6) C ck_9 dX8_lengthen_30 w1_110 (by decide) t_a0 rfl rfl (by decide) rfl rq1 ?_
      refine c_st (st2 := [.ref rb1]) rfl ?_
      refine c_iconst C dX8_lengthen_33 ?_
      refine d_callS (As := [.ref rb1, .int (iI 0)]) (rest := []) C hM (C_fill (a0 := rb1) (x := 0) W1 hS trb1 ⟨by decide, by decide⟩ (by show (0 : Int) = 0; omega)) dX8_lengthen_34 kS_X8_95 rfl rfl (Nat.le_of_ble_eq_true rfl) ⟨(Nat.le_of_ble_eq_true rfl), (Nat.le_of_ble_eq_true rfl)⟩ hph hph (show 0 + 0 = 0 from rfl) (by decide) (fun rh1 Lh1 clh1 lnh1 ivh1 rvh1 h1 => ?_)
      obtain ⟨rfl, rfl, rfl, rfl, rfl, fl1, W2, exf1⟩ := h1
      have F2 := F1.call hX0 fl1 rfl
      refine c_st (st2 := []) rfl ?_
      refine c_iconst C dX8_lengthen_37 ?_
      refine hv3 (show 0 ≤ ivh1 a0 5 ∧ ivh1 a0 5 ≤ 126 from W2.int t_a0 5) (show ivh1 a0 5 = iv1 a0 5 from fl1.i t_a0 rfl 5) (show iv1 a0 5 = iv a0 5 from by rw [pq1]; exact up2_j (by decide)) (fun ri3 ie1 ie2 => ?_)
      exact c_zret C dX8_lengthen_38 rfl (Or.inr rfl) (by decide) (rom0 hph hph (by decide)) ⟨1, rfl, rfl, rfl, rfl, rfl, F2, W2, (Or.inr rfl), (by omega)⟩
    · refine c_iconst C dX8_lengthen_17 ?_
      have ri4 : 0 ≤ iv a0 5 ∧ iv a0 5 ≤ 126 := hW.int t_a0 5
      exact c_zret C dX8_lengthen_18 rfl (Or.inl rfl) (by decide) (rom0 hph hph (by decide)) ⟨0, rfl, rfl, rfl, rfl, rfl, hF0, hW, (Or.inl rfl), (by omega)⟩
set_option maxHeartbeats 4000000 in
set_option maxRecDepth 100000 in
theorem C_startSpelling {l : Launch} {G : GT} {mi : Nat} {sk : Nat → Nat} {L : List Nat} {cl ln : Nat → Nat} {iv : Nat → Nat → Int} {rv : Nat → Nat → Option Nat}  {a0 : Nat} {n : Int} (hW : WT (g0 G) sk L cl ln iv rv) (hS : SKL sk L cl) (t_a0 : ty L cl a0 14) (h_n : -2147483648 ≤ n ∧ n ≤ 2147483647)  : Mc l G mi (Phi (g0 G) sk) PHM yX8_startSpelling cX8_startSpelling 2 (some .boolean) 2 [.ref a0, .int (iI n)] L cl ln iv rv 0 (fun v L2 cl2 ln2 iv2 rv2 => ∃ f : Int, v = some (.int (iI f)) ∧ L = L2 ∧ cl = cl2 ∧ ln = ln2 ∧ rv = rv2 ∧ fT [14, 58] L cl iv rv iv2 rv2 ∧ WT (g0 G) sk L2 cl2 ln2 iv2 rv2 ∧ (f = 0 ∨ f = 1) ∧ (True)) := by
  refine Mc.mk (by decide) (Nat.le_of_ble_eq_true rfl) ?_
  intro p e s m args below meth c A C hM
  refine hv3 (Phi.le hW hS) (show XT L cl ln L cl ln from XT.refl) (show fT [14, 58] L cl iv rv iv rv from fT.refl) (fun hph hX0 hF0 => ?_)
  refine c_aload_n (j := 0) (x := a0) C dX8_startSpelling_0 rfl ?_
  refine c_iconst C dX8_startSpelling_1 ?_
  refine c_put (z := 0) (k := 7) C ck_9 dX8_startSpelling_2 w1_111 (by decide) rfl t_a0 rfl rfl (by decide) rfl (by rfl) (by rfl) (fun iv1 pq1 => ?_)
  refine hv2 (hW.puti pq1 t_a0 ⟨by decide, by decide⟩ rfl) (hF0.puti hX0 pq1 t_a0 rfl) (fun W1 F1 => ?_)
  refine c_aload_n (j := 0) (x := a0) C dX8_startSpelling_5 rfl ?_
  refine hv2 (show 0 ≤ iv1 a0 5 ∧ iv1 a0 5 ≤ 126 from W1.int t_a0 5) (show iv1 a0 5 = iv a0 5 from by rw [pq1]; exact up2_j (by decide)) (fun ri1 ie1 => ?_)
  refine c_get (k := 5) C ck_9 dX8_startSpelling_6 w1_109 (by decide) t_a0 rfl rfl (by decide) rfl ?_
  refine c_if_le (tgt := 24) C (r32_c (lo := 0) (hi := 126) ri1.1 ri1.2 (by decide) (by decide)) dX8_startSpelling_9 (by decide) (fun c1 => ?_) (fun c1 => ?_)
  · refine c_iconst C dX8_startSpelling_24 ?_
    exact c_zret C dX8_startSpelling_25 rfl (Or.inl rfl) (by decide) (rom0 hph hph (by decide)) ⟨0, rfl, rfl, rfl, rfl, rfl, F1, W1, (Or.inl rfl), trivial⟩
  · refine c_aload_n (j := 0) (x := a0) C dX8_startSpelling_12 rfl ?_
    refine c_iload_n (j := 1) C dX8_startSpelling_13 rfl ?_
    refine d_callV (As := [.int (iI n)]) (rest := []) C hM (C_lengthen (a0 := a0) (n := n) W1 hS t_a0 (by omega) ) dX8_startSpelling_14 kV_X8_91 rfl t_a0 rfl rfl (by decide) ck_9 rfl (Nat.le_of_ble_eq_true rfl) ⟨(Nat.le_of_ble_eq_true rfl), (Nat.le_of_ble_eq_true rfl)⟩ hph hph (show 0 + 0 = 0 from rfl) (by decide) (fun rh1 Lh1 clh1 lnh1 ivh1 rvh1 h1 => ?_)
    obtain ⟨f1, rfl, rfl, rfl, rfl, rfl, fl1, W2, rgf1, exf1⟩ := h1
    have F2 := F1.call hX0 fl1 rfl
    refine c_st (st2 := [.int (iI f1)]) rfl ?_
    refine hv2 (show 0 ≤ ivh1 a0 5 ∧ ivh1 a0 5 ≤ 126 from W2.int t_a0 5) (show ivh1 a0 5 = iv1 a0 5 from exf1) (fun ri2 gf1 => ?_)
    refine c_if_eq (tgt := 24) C ⟨by omega, by omega⟩ dX8_startSpelling_17 (by decide) (fun c2 => ?_) (fun c2 => ?_)
    · refine c_iconst C dX8_startSpelling_24 ?_
      exact c_zret C dX8_startSpelling_25 rfl (Or.inl rfl) (by decide) (rom0 hph hph (by decide)) ⟨0, rfl, rfl, rfl, rfl, rfl, F2, W2, (Or.inl rfl), trivial⟩
    · refine c_iconst C dX8_startSpelling_20 ?_
      refine c_goto (tgt := 25) C dX8_startSpelling_21 (by decide) ?_
      exact c_zret C dX8_startSpelling_25 rfl (Or.inr rfl) (by decide) (rom0 hph hph (by decide)) ⟨1, rfl, rfl, rfl, rfl, rfl, F2, W2, (Or.inr rfl), trivial⟩
set_option maxHeartbeats 4000000 in
set_option maxRecDepth 100000 in
theorem C_spell {l : Launch} {G : GT} {mi : Nat} {sk : Nat → Nat} {L : List Nat} {cl ln : Nat → Nat} {iv : Nat → Nat → Int} {rv : Nat → Nat → Option Nat}  {a0 : Nat} {a1 : Nat} (hW : WT (g0 G) sk L cl ln iv rv) (hS : SKL sk L cl) (t_a0 : ty L cl a0 14) (t_a1 : ty L cl a1 15)  : Mc l G mi (Phi (g0 G) sk) PHM yX8_spell cX8_spell 3 none 1 [.ref a0, .ref a1] L cl ln iv rv 0 (fun v L2 cl2 ln2 iv2 rv2 => v = none ∧ L = L2 ∧ cl = cl2 ∧ ln = ln2 ∧ rv = rv2 ∧ fT [15, 50, 51, 52] L cl iv rv iv2 rv2 ∧ WT (g0 G) sk L2 cl2 ln2 iv2 rv2 ∧ (True)) := by
  refine Mc.mk (by decide) (Nat.le_of_ble_eq_true rfl) ?_
  intro p e s m args below meth c A C hM
  refine hv3 (Phi.le hW hS) (show XT L cl ln L cl ln from XT.refl) (show fT [15, 50, 51, 52] L cl iv rv iv rv from fT.refl) (fun hph hX0 hF0 => ?_)
  refine c_aload_n (j := 1) (x := a1) C dX8_spell_0 rfl ?_
  refine d_callV (As := []) (rest := []) C hM (C_wclear (a0 := a1) hW hS t_a1  ) dX8_spell_1 kV_X8_43 rfl t_a1 rfl rfl (by decide) ck_7 rfl (Nat.le_of_ble_eq_true rfl) ⟨(Nat.le_of_ble_eq_true rfl), (Nat.le_of_ble_eq_true rfl)⟩ hph hph (show 0 + 0 = 0 from rfl) (by decide) (fun rh1 Lh1 clh1 lnh1 ivh1 rvh1 h1 => ?_)
  obtain ⟨rfl, rfl, rfl, rfl, rfl, fl1, W1, exf1⟩ := h1
  have F1 := hF0.call hX0 fl1 rfl
  refine c_st (st2 := []) rfl ?_
  refine c_iconst C dX8_spell_4 ?_
  refine c_istore_n (lv2 := [(2, .int (iI 0)), (0, .ref a0), (1, .ref a1)]) C dX8_spell_5 (by decide) rfl ?_
  have Lp1 : ∀ (nn : Nat) (k : Int) (ivb1 : Nat → Nat → Int) , 7 - k < (nn : Int) → WT (g0 G) sk L cl ln ivb1 rv → fT [15, 50, 51, 52] L cl iv rv ivb1 rv → (0 ≤ k ∧ k ≤ 6) → cw p l e 1 ((PHM) + 0 - ((Phi (g0 G) sk) ln rv)) s m args below meth c G A 3 (MQ below (Qu G A (Qp G (Phi (g0 G) sk) ((Phi (g0 G) sk) ln rv) 0 (fun v L2 cl2 ln2 iv2 rv2 => v = none ∧ L = L2 ∧ cl = cl2 ∧ ln = ln2 ∧ rv = rv2 ∧ fT [15, 50, 51, 52] L cl iv rv iv2 rv2 ∧ WT (g0 G) sk L2 cl2 ln2 iv2 rv2 ∧ (True)))) args s (((PHM) + 0 - ((Phi (g0 G) sk) ln rv)) / 16) ((PHM) + 0 - ((Phi (g0 G) sk) ln rv)) A) (Phi (g0 G) sk) ((Phi (g0 G) sk) ln rv) L cl ln ivb1 rv 0 6 [(2, .int (iI k)), (0, .ref a0), (1, .ref a1)] [] := by
    intro nn
    induction nn with
    | zero =>
      intro  k ivb1 hm Wb1 Fb1  hk
      exact absurd hm (by omega)
    | succ nn ih1 =>
      intro  k ivb1 hm Wb1 Fb1  hk
      refine c_iload_n (j := 0) C dX8_spell_6 rfl ?_
      refine c_aload_n (j := 1) (x := a0) C dX8_spell_7 rfl ?_
      refine hv2 (show 0 ≤ ivb1 a0 7 ∧ ivb1 a0 7 ≤ 6 from Wb1.int t_a0 7) (show ivb1 a0 7 = iv a0 7 from Fb1.i t_a0 rfl 7) (fun ri1 ie1 => ?_)
      refine c_get (k := 7) C ck_9 dX8_spell_8 w1_111 (by decide) t_a0 rfl rfl (by decide) rfl ?_
      refine c_icmp_ge (tgt := 36) C (r32_c (lo := 0) (hi := 6) hk.1 hk.2 (by decide) (by decide)) (r32_c (lo := 0) (hi := 6) ri1.1 ri1.2 (by decide) (by decide)) dX8_spell_11 (by decide) (fun c1 => ?_) (fun c1 => ?_)
      · exact c_vret C dX8_spell_36 rfl (by decide) (rom0 hph hph (by decide)) ⟨rfl, rfl, rfl, rfl, rfl, Fb1, Wb1, trivial⟩
      · refine c_aload_n (j := 2) (x := a1) C dX8_spell_14 rfl ?_
        refine c_aload_n (j := 1) (x := a0) C dX8_spell_15 rfl ?_
        obtain ⟨rb1, rq1, trb1⟩ := Wb1.ref t_a0 4 rfl rfl rfl
        have lnrb1 : 126 ≤ ln rb1 ∧ ln rb1 ≤ 126 := Wb1.len trb1 rfl
        refine c_getr (k := 4) C ck_9 dX8_spell_16 w1_108 (by decide) t_a0 rfl rfl (by decide) rfl rq1 ?_
        refine c_st (st2 := [.ref rb1, .ref a1]) rfl ?_
        refine c_aload_n (j := 1) (x := a0) C dX8_spell_19 rfl ?_
        obtain ⟨rb2, rq2, trb2⟩ := Wb1.ref t_a0 6 rfl rfl rfl
        have lnrb2 : 6 ≤ ln rb2 ∧ ln rb2 ≤ 6 := Wb1.len trb2 rfl
        refine c_getr (k := 6) C ck_9 dX8_spell_20 w1_110 (by decide) t_a0 rfl rfl (by decide) rfl rq2 ?_
        refine c_st (st2 := [.ref rb2, .ref rb1, .ref a1]) rfl ?_
        refine c_iload_n (j := 0) C dX8_spell_23 rfl ?_
        have ll1 : 6 ≤ ln rb2 ∧ ln rb2 ≤ 6 := Wb1.len trb2 rfl
        refine c_iald C dX8_spell_24 trb2 rfl (by omega) (by omega) (by omega) ?_
        refine hv3 (show 0 ≤ ivb1 rb2 k.toNat ∧ ivb1 rb2 k.toNat ≤ 125 from Wb1.int trb2 k.toNat) (show ivb1 rb2 k.toNat = iv rb2 k.toNat from Fb1.i trb2 rfl k.toNat) (show 126 ≤ ln rb1 ∧ ln rb1 ≤ 126 from Wb1.len trb1 rfl) (fun ri2 ie2 ll2 => ?_)
        refine c_iald C dX8_spell_25 trb1 rfl (by omega) (by omega) (by omega) ?_
        refine hv2 (show (-2147483648) ≤ ivb1 rb1 ((ivb1 rb2 k.toNat).toNat) ∧ ivb1 rb1 ((ivb1 rb2 k.toNat).toNat) ≤ 2147483647 from Wb1.int trb1 ((ivb1 rb2 k.toNat).toNat)) (show ivb1 rb1 ((ivb1 rb2 k.toNat).toNat) = iv rb1 ((ivb1 rb2 k.toNat).toNat) from Fb1.i trb1 rfl ((ivb1 rb2 k.toNat).toNat)) (fun ri3 ie3 => ?_)
        refine c_iload_n (j := 0) C dX8_spell_26 rfl ?_
        refine d_callV (As := [.int (iI (ivb1 rb1 (ivb1 rb2 k.toNat).toNat)), .int (iI k)]) (rest := []) C hM (C_put (a0 := a1) (x := ivb1 rb1 (ivb1 rb2 k.toNat).toNat) (y := k) Wb1 hS t_a1 (by omega) (by omega) ) dX8_spell_27 kV_X8_60 rfl t_a1 rfl rfl (by decide) ck_7 rfl (Nat.le_of_ble_eq_true rfl) ⟨(Nat.le_of_ble_eq_true rfl), (Nat.le_of_ble_eq_true rfl)⟩ hph hph (show 0 + 0 = 0 from rfl) (by decide) (fun rh2 Lh2 clh2 lnh2 ivh2 rvh2 h2 => ?_)
        obtain ⟨rfl, rfl, rfl, rfl, rfl, fl2, W2, exf2⟩ := h2
        have F2 := Fb1.call hX0 fl2 rfl
        refine c_st (st2 := []) rfl ?_
        refine c_iinc (z := k) (j := 0) (lv2 := [(2, .int (iI (k + 1))), (0, .ref a0), (1, .ref a1)]) C dX8_spell_30 rfl (by decide) rfl ?_
        refine c_goto (tgt := 6) C dX8_spell_33 (by decide) ?_
        refine c_lv (lv2 := [(2, .int (iI (k + 1))), (0, .ref a0), (1, .ref a1)]) [0, 1, 2] rfl ?_
        exact ih1  (k + 1) _ (by omega) W2 F2  (by omega)
  refine c_lv (lv2 := [(2, .int (iI 0)), (0, .ref a0), (1, .ref a1)]) [0, 1, 2] rfl ?_
  exact Lp1 8 0 _ (by omega) W1 F1  (by omega)
end
section
theorem rok_lst {L : List Nat} {cl : Nat → Nat} {g a T : Nat} (ha : ty L cl a T) (hl : lst T = true) : rok L cl g a 1 (some g) := fun _ => ⟨(fun q => by cases q), fun b q => by cases q; exact Or.inr ⟨rfl, by rw [ha.2]; exact hl, rfl⟩⟩
theorem bt_tab {m : Nat} (h : m < 30) : bt (100 + m) = 100 := by unfold bt; rw [if_neg (by omega), if_pos (by omega)]
theorem uq_tab {m : Nat} : uq (100 + m) = false := by unfold uq; simp; omega
theorem rok_tab {L : List Nat} {cl : Nat → Nat} {g a k : Nat} {x : Option Nat} (ha : ty L cl a 100) (hk : k = 2 ∨ k = 3) (hx : ∀ b, x = some b → ty L cl b 100 ∧ cl b < cl a) : rok L cl g a k x := by
  intro _
  refine ⟨fun _ => by rw [ha.2]; rcases hk with rfl | rfl <;> rfl, fun b hb => Or.inl ⟨(hx b hb).1.1, ?_, fun _ _ => (hx b hb).2, fun q => ?_⟩⟩
  · rw [(hx b hb).1.2, ha.2]; rcases hk with rfl | rfl <;> rfl
  · rw [ha.2] at q; cases q
theorem rok_ch {L : List Nat} {cl : Nat → Nat} {g a : Nat} {x : Option Nat} (ha : ty L cl a 21) (hx : ∀ b, x = some b → ty L cl b 20) : rok L cl g a 2 x := by
  intro _
  refine ⟨fun _ => by rw [ha.2]; rfl, fun b hb => Or.inl ⟨(hx b hb).1, ?_, ?_, ?_⟩⟩
  · rw [(hx b hb).2, ha.2]; rfl
  · intro q; rw [ha.2] at q; cases q
  · intro q; rw [ha.2] at q; cases q
theorem rok_tb {L : List Nat} {cl : Nat → Nat} {g a k b T2 : Nat} (ha : ty L cl a 100) (hb : ty L cl b T2) (hk : 4 ≤ k) (ht : tgt 100 k = T2) : rok L cl g a k (some b) := by
  intro _
  refine ⟨(fun q => by cases q), fun c hc => ?_⟩
  cases hc
  refine Or.inl ⟨hb.1, by rw [hb.2, ha.2, ht], fun _ q => absurd q (by omega), fun q => ?_⟩
  rw [ha.2] at q; cases q
set_option maxHeartbeats 4000000 in
set_option maxRecDepth 100000 in
theorem Z_acoll {l : Launch} {G : GT} {mi : Nat} {sk : Nat → Nat} {L : List Nat} {cl ln : Nat → Nat} {iv : Nat → Nat → Int} {rv : Nat → Nat → Option Nat}  {a0 : Nat} (hW : WT (g0 G) sk L cl ln iv rv) (hS : SKL sk L cl) (t_a0 : ty L cl a0 200)  : Mc l G mi zPf 0 yJxa1e45_init_da8c8 cJxa1e45_init_da8c8 1 none 1 [.ref a0] L cl ln iv rv 0 (fun v L2 cl2 ln2 iv2 rv2 => v = none ∧ L = L2 ∧ cl = cl2 ∧ ln = ln2 ∧ iv = iv2 ∧ rv = rv2 ∧ (True)) := by
  refine Mc.mk (by decide) (Nat.le_of_ble_eq_true rfl) ?_
  intro p e s m args below meth c A C hM
  refine hv3 ((show zPf ln rv ≤ 0 from Nat.le_refl 0)) (show XT L cl ln L cl ln from XT.refl) (show fT [] L cl iv rv iv rv from fT.refl) (fun hph hX0 hF0 => ?_)
  refine c_aload_n (j := 0) (x := a0) C dJxa1e45_init_da8c8_0 rfl ?_
  refine c_objInit C dJxa1e45_init_da8c8_1 w1_75 w1_30 w1_31 (by decide) (Nat.le_of_ble_eq_true rfl) ?_
  exact c_vret C dJxa1e45_init_da8c8_4 rfl (by decide) (rom0 hph hph (by decide)) ⟨rfl, rfl, rfl, rfl, rfl, rfl, trivial⟩
set_option maxHeartbeats 4000000 in
set_option maxRecDepth 100000 in
theorem Z_alist {l : Launch} {G : GT} {mi : Nat} {sk : Nat → Nat} {L : List Nat} {cl ln : Nat → Nat} {iv : Nat → Nat → Int} {rv : Nat → Nat → Option Nat}  {a0 : Nat} (hW : WT (g0 G) sk L cl ln iv rv) (hS : SKL sk L cl) (t_a0 : ty L cl a0 200)  : Mc l G mi zPf 0 yJxc12de_init_da8c8 cJxc12de_init_da8c8 1 none 2 [.ref a0] L cl ln iv rv 0 (fun v L2 cl2 ln2 iv2 rv2 => v = none ∧ L = L2 ∧ cl = cl2 ∧ ln = ln2 ∧ rv = rv2 ∧ fT [200] L cl iv rv iv2 rv2 ∧ WT (g0 G) sk L2 cl2 ln2 iv2 rv2 ∧ (iv2 a0 2 = iv a0 2)) := by
  refine Mc.mk (by decide) (Nat.le_of_ble_eq_true rfl) ?_
  intro p e s m args below meth c A C hM
  refine hv3 ((show zPf ln rv ≤ 0 from Nat.le_refl 0)) (show XT L cl ln L cl ln from XT.refl) (show fT [200] L cl iv rv iv rv from fT.refl) (fun hph hX0 hF0 => ?_)
  refine c_aload_n (j := 0) (x := a0) C dJxc12de_init_da8c8_0 rfl ?_
  refine c_callI (As := []) (rest := []) C hM (Z_acoll (a0 := a0) hW hS t_a0  ) dJxc12de_init_da8c8_1 kI_Jxc12de_1 rfl rfl (Nat.le_of_ble_eq_true rfl) ⟨(Nat.le_of_ble_eq_true rfl), (Nat.le_of_ble_eq_true rfl)⟩ (rz0 hph (by decide)) (fun rh1 Lh1 clh1 lnh1 ivh1 rvh1 h1 => ⟨0, zk0, ?_⟩)
  obtain ⟨rfl, rfl, rfl, rfl, rfl, rfl, exf1⟩ := h1
  refine c_st (st2 := []) rfl ?_
  refine c_aload_n (j := 0) (x := a0) C dJxc12de_init_da8c8_4 rfl ?_
  refine c_iconst C dJxc12de_init_da8c8_5 ?_
  refine c_put (z := 0) (k := 0) C ck_0 dJxc12de_init_da8c8_6 w1_80 (by decide) rfl t_a0 rfl rfl (by decide) rfl (by rfl) (by rfl) (fun iv1 pq1 => ?_)
  refine hv3 (hW.puti pq1 t_a0 ⟨by decide, by decide⟩ rfl) (hF0.puti hX0 pq1 t_a0 rfl) (show iv1 a0 2 = iv a0 2 from by rw [pq1]; exact up2_j (by decide)) (fun W2 F1 ie1 => ?_)
  have ri1 : (-2147483648) ≤ iv1 a0 2 ∧ iv1 a0 2 ≤ 2147483647 := W2.int t_a0 2
  exact c_vret C dJxc12de_init_da8c8_9 rfl (by decide) (rom0 hph hph (by decide)) ⟨rfl, rfl, rfl, rfl, rfl, F1, W2, (by omega)⟩
set_option maxHeartbeats 4000000 in
set_option maxRecDepth 100000 in
theorem Z_list {l : Launch} {G : GT} {mi : Nat} {sk : Nat → Nat} {L : List Nat} {cl ln : Nat → Nat} {iv : Nat → Nat → Int} {rv : Nat → Nat → Option Nat}  {a0 : Nat} (hW : WT (g0 G) sk L cl ln iv rv) (hS : SKL sk L cl) (t_a0 : ty L cl a0 200)  : Mc l G mi zPf 0 yJx4a65c_init_da8c8 cJx4a65c_init_da8c8 1 none 3 [.ref a0] L cl ln iv rv 0 (fun v L2 cl2 ln2 iv2 rv2 => v = none ∧ L = L2 ∧ cl = cl2 ∧ ln = ln2 ∧ fT [200] L cl iv rv iv2 rv2 ∧ WT (g0 G) sk L2 cl2 ln2 iv2 rv2 ∧ (rv2 a0 1 = some (g0 G) ∧ iv2 a0 2 = iv a0 2 ∧ (∀ k, ([1] : List Nat).contains k = false → rv2 a0 k = rv a0 k))) := by
  refine Mc.mk (by decide) (Nat.le_of_ble_eq_true rfl) ?_
  intro p e s m args below meth c A C hM
  refine hv3 ((show zPf ln rv ≤ 0 from Nat.le_refl 0)) (show XT L cl ln L cl ln from XT.refl) (show fT [200] L cl iv rv iv rv from fT.refl) (fun hph hX0 hF0 => ?_)
  refine c_aload_n (j := 0) (x := a0) C dJx4a65c_init_da8c8_0 rfl ?_
  have ri1 : (-2147483648) ≤ iv a0 2 ∧ iv a0 2 ≤ 2147483647 := hW.int t_a0 2
  refine c_callI (As := []) (rest := []) C hM (Z_alist (a0 := a0) hW hS t_a0  ) dJx4a65c_init_da8c8_1 kI_Jx4a65c_1 rfl rfl (Nat.le_of_ble_eq_true rfl) ⟨(Nat.le_of_ble_eq_true rfl), (Nat.le_of_ble_eq_true rfl)⟩ (rz0 hph (by decide)) (fun rh1 Lh1 clh1 lnh1 ivh1 rvh1 h1 => ⟨0, zk0, ?_⟩)
  obtain ⟨rfl, rfl, rfl, rfl, rfl, fl1, W1, exf1⟩ := h1
  have F1 := hF0.call hX0 fl1 rfl
  refine c_st (st2 := []) rfl ?_
  refine hv2 (show (-2147483648) ≤ ivh1 a0 2 ∧ ivh1 a0 2 ≤ 2147483647 from W1.int t_a0 2) (show ivh1 a0 2 = iv a0 2 from exf1) (fun ri2 gf1 => ?_)
  refine c_aload_n (j := 0) (x := a0) C dJx4a65c_init_da8c8_4 rfl ?_
  refine c_gets C dJx4a65c_init_da8c8_5 w1_76 ?_
  refine c_putr (x := (some (g0 G))) (k := 1) C ck_0 dJx4a65c_init_da8c8_8 w1_78 (by decide) rfl t_a0 rfl rfl (by decide) rfl (by rfl) (by rfl) (fun rv1 pq1 => ⟨0, (zp2 (Nat.le_refl _)), ?_⟩)
  refine hv4 (W1.putr pq1 t_a0 (fun qr => by rw [t_a0.2] at qr; cases qr) rfl (by decide)) (F1.putr hX0 pq1 t_a0 rfl) (show rv1 a0 1 = (some (g0 G)) from by rw [pq1]; exact upr_s) (show ∀ k, ([1] : List Nat).contains k = false → rv1 a0 k = rv a0 k from fun k hk => (show rv1 a0 k = rv a0 k from (by rw [pq1]; exact upr_j (fun e => by subst e; exact absurd hk (by decide))))) (fun W2 F2 rp1 rn1 => ?_)
  exact c_vret C dJx4a65c_init_da8c8_11 rfl (by decide) (rom0 hph (Nat.le_refl 0) (by decide)) ⟨rfl, rfl, rfl, rfl, F2, W2, ⟨rp1, (by omega), rn1⟩⟩
set_option maxHeartbeats 4000000 in
set_option maxRecDepth 100000 in
theorem Z_ints_12 {l : Launch} {G : GT} {mi : Nat} {sk : Nat → Nat} {L : List Nat} {cl ln : Nat → Nat} {iv : Nat → Nat → Int} {rv : Nat → Nat → Option Nat}  {a0 : Nat} {i : Int} (hW : WT (g0 G) sk L cl ln iv rv) (hS : SKL sk L cl) (t_a0 : ty L cl a0 202) (h_i : -2147483648 ≤ i ∧ i ≤ 2147483647)  : Mc l G mi zPf 0 yX1_init cX1_init 2 none 1 [.ref a0, .int (iI i)] L cl ln iv rv 32 (fun v L2 cl2 ln2 iv2 rv2 => v = none ∧ XT L cl ln L2 cl2 ln2 ∧ fT [202] L cl iv rv iv2 rv2 ∧ WT (g0 G) sk L2 cl2 ln2 iv2 rv2 ∧ (∃ b, (∀ k, ([1] : List Nat).contains k = false → rv2 a0 k = rv a0 k) ∧ rv2 a0 1 = some b ∧ ty L2 cl2 b 42 ∧ ln2 b = 16 ∧ iv2 a0 0 = i ∧ iv2 a0 2 = 0 ∧ b ∉ L)) := by
  refine Mc.mk (by decide) (Nat.le_of_ble_eq_true rfl) ?_
  intro p e s m args below meth c A C hM
  refine hv3 ((show zPf ln rv ≤ 0 from Nat.le_refl 0)) (show XT L cl ln L cl ln from XT.refl) (show fT [202] L cl iv rv iv rv from fT.refl) (fun hph hX0 hF0 => ?_)
  refine c_aload_n (j := 0) (x := a0) C dX1_init_0 rfl ?_
  refine c_objInit C dX1_init_1 w1_37 w1_30 w1_31 (by decide) (Nat.le_of_ble_eq_true rfl) ?_
  refine c_aload_n (j := 0) (x := a0) C dX1_init_4 rfl ?_
  refine c_iconst C dX1_init_5 ?_
  refine c_put (z := 0) (k := 2) C ck_2 dX1_init_6 w1_43 (by decide) rfl t_a0 rfl rfl (by decide) rfl (by rfl) (by rfl) (fun iv1 pq1 => ?_)
  refine hv2 (hW.puti pq1 t_a0 ⟨by decide, by decide⟩ rfl) (hF0.puti hX0 pq1 t_a0 rfl) (fun W1 F1 => ?_)
  refine c_aload_n (j := 0) (x := a0) C dX1_init_9 rfl ?_
  refine c_iload_n (j := 1) C dX1_init_10 rfl ?_
  refine c_putF (z := i) (k := 0) C ck_2 dX1_init_11 w1_38 (by decide) rfl rfl rfl t_a0 rfl rfl (by decide) rfl (by rfl) (by rfl) (fun iv2 pq2 => ?_)
  refine hv2 (W1.puti pq2 t_a0 (show (-2147483648) ≤ i ∧ i ≤ 2147483647 by omega) rfl) (F1.puti hX0 pq2 t_a0 rfl) (fun W2 F2 => ?_)
  refine c_aload_n (j := 0) (x := a0) C dX1_init_14 rfl ?_
  refine c_bipush (z := 16) C dX1_init_15 (by decide) ?_
  refine c_newaI (z := 16) (N := 16) C 42 dX1_init_17 w1_57 rfl (by omega) (by omega) (rom2 hph hph (by decide)) (fun qn1 cln1 lnn1 ivn1 rvn1 hqn1 hcn1 hln1 hin1 hrn1 => ⟨32, (z_in (by omega)), ?_⟩)
  refine c_g0 C (fun hg1 => ?_)
  refine hv5 (show ∀ b, b ≠ qn1 → lnn1 b = ln b from (fun b hb => by rw [hln1]; exact va_up_ne _ _ hb)) (show lnn1 qn1 = 16 from by rw [hln1]; exact va_up_self _ _ _) (F2.new hX0 hqn1 hin1 hrn1) (show ty (L ++ [qn1]) cln1 qn1 42 from ty_new hcn1) (show qn1 ∉ L from fun h => hqn1 ((hX0 qn1 h).1)) (fun hxn1 lqn1 F3 tqn1 h0qn1 => ?_)
  refine hv2 (W2.new (ln2 := lnn1) hqn1 (hg1 qn1 (List.mem_append_right _ List.mem_cons_self)) hcn1 hxn1 hin1 hrn1 (fun _ => ⟨(show (-2147483648 : Int) ≤ 0 by decide), (show (0 : Int) ≤ 2147483647 by decide)⟩) (Or.inr (fun _ => rfl)) (fun _ => by show 16 ≤ lnn1 qn1 ∧ lnn1 qn1 ≤ 400; omega) rfl rfl) (XT.new hqn1 hcn1 hxn1) (fun W3 xl1 => ?_)
  refine hv3 (hX0.trans xl1) (xl1.skl hS) (xl1.ty t_a0) (fun X1 sk1 ty1 => ?_)
  refine c_putr (x := (some qn1)) (k := 1) C ck_2 dX1_init_19 w1_39 (by decide) rfl ty1 rfl rfl (by decide) rfl (by rfl) (by rfl) (fun rv1 pq3 => ⟨32, (zp2 (Nat.le_refl _)), ?_⟩)
  refine hv9 (W3.putr pq3 ty1 (fun qr => by rw [ty1.2] at qr; cases qr) rfl (by decide)) (F3.putr X1 pq3 ty1 rfl) (show rv1 a0 1 = (some qn1) from by rw [pq3]; exact upr_s) (show ∀ k, ([1] : List Nat).contains k = false → rv1 a0 k = rv a0 k from fun k hk => (Eq.trans (show rv1 a0 k = rvn1 a0 k from (by rw [pq3]; exact upr_j (fun e => by subst e; exact absurd hk (by decide)))) (show rvn1 a0 k = rv a0 k from (by rw [hrn1]; exact congrFun (up0_a (ne_in t_a0.1 hqn1)) _)))) (show ivn1 a0 0 = iv2 a0 0 from by rw [hin1]; exact congrFun (up0_a (ne_in t_a0.1 hqn1)) _) (show iv2 a0 0 = i from by rw [pq2]; exact up2_s) (show ivn1 a0 2 = iv2 a0 2 from by rw [hin1]; exact congrFun (up0_a (ne_in t_a0.1 hqn1)) _) (show iv2 a0 2 = iv1 a0 2 from by rw [pq2]; exact up2_j (by decide)) (show iv1 a0 2 = 0 from by rw [pq1]; exact up2_s) (fun W4 F4 rp1 rn1 ie1 ie2 ie3 ie4 ie5 => ?_)
  refine hv2 (show (-2147483648) ≤ ivn1 a0 0 ∧ ivn1 a0 0 ≤ 2147483647 from W4.int ty1 0) (show (-2147483648) ≤ ivn1 a0 2 ∧ ivn1 a0 2 ≤ 2147483647 from W4.int ty1 2) (fun ri1 ri2 => ?_)
  exact c_vret C dX1_init_22 rfl (by decide) (rom0 hph (Nat.le_refl 0) (by decide)) ⟨rfl, X1, F4, W4, ⟨qn1, rn1, rp1, tqn1, (by omega), (by omega), (by omega), h0qn1⟩⟩
set_option maxHeartbeats 4000000 in
set_option maxRecDepth 100000 in
theorem Z_row {l : Launch} {G : GT} {mi : Nat} {sk : Nat → Nat} {L : List Nat} {cl ln : Nat → Nat} {iv : Nat → Nat → Int} {rv : Nat → Nat → Option Nat}  {a0 : Nat} {i : Int} {a2 : Nat} {a3 : Nat} (hW : WT (g0 G) sk L cl ln iv rv) (hS : SKL sk L cl) (t_a0 : ty L cl a0 206) (t_a2 : ty L cl a2 65) (t_a3 : ty L cl a3 66) (h_i : -2147483648 ≤ i ∧ i ≤ 2147483647)  : Mc l G mi zPf 0 yX5_init cX5_init 4 none 1 [.ref a0, .int (iI i), .ref a2, .ref a3] L cl ln iv rv 0 (fun v L2 cl2 ln2 iv2 rv2 => v = none ∧ L = L2 ∧ cl = cl2 ∧ ln = ln2 ∧ fT [206] L cl iv rv iv2 rv2 ∧ WT (g0 G) sk L2 cl2 ln2 iv2 rv2 ∧ ((∀ k, ([1, 2] : List Nat).contains k = false → rv2 a0 k = rv a0 k) ∧ rv2 a0 1 = some a2 ∧ rv2 a0 2 = some a3 ∧ iv2 a0 0 = i ∧ iv2 a0 3 = 0)) := by
  refine Mc.mk (by decide) (Nat.le_of_ble_eq_true rfl) ?_
  intro p e s m args below meth c A C hM
  refine hv3 ((show zPf ln rv ≤ 0 from Nat.le_refl 0)) (show XT L cl ln L cl ln from XT.refl) (show fT [206] L cl iv rv iv rv from fT.refl) (fun hph hX0 hF0 => ?_)
  refine c_aload_n (j := 0) (x := a0) C dX5_init_0 rfl ?_
  refine c_objInit C dX5_init_1 w3_134 w1_30 w1_31 (by decide) (Nat.le_of_ble_eq_true rfl) ?_
  refine c_aload_n (j := 0) (x := a0) C dX5_init_4 rfl ?_
  refine c_iconst C dX5_init_5 ?_
  refine c_put (z := 0) (k := 3) C ck_6 dX5_init_6 w3_147 (by decide) rfl t_a0 rfl rfl (by decide) rfl (by rfl) (by rfl) (fun iv1 pq1 => ?_)
  refine hv2 (hW.puti pq1 t_a0 ⟨by decide, by decide⟩ rfl) (hF0.puti hX0 pq1 t_a0 rfl) (fun W1 F1 => ?_)
  refine c_aload_n (j := 0) (x := a0) C dX5_init_9 rfl ?_
  refine c_iload_n (j := 1) C dX5_init_10 rfl ?_
  refine c_putF (z := i) (k := 0) C ck_6 dX5_init_11 w3_135 (by decide) rfl rfl rfl t_a0 rfl rfl (by decide) rfl (by rfl) (by rfl) (fun iv2 pq2 => ?_)
  refine hv2 (W1.puti pq2 t_a0 (show (-2147483648) ≤ i ∧ i ≤ 2147483647 by omega) rfl) (F1.puti hX0 pq2 t_a0 rfl) (fun W2 F2 => ?_)
  refine c_aload_n (j := 0) (x := a0) C dX5_init_14 rfl ?_
  refine c_aload_n (j := 2) (x := a2) C dX5_init_15 rfl ?_
  refine c_putrF (x := (some a2)) (k := 1) C ck_6 dX5_init_16 w3_138 (by decide) rfl rfl rfl t_a0 rfl rfl (by decide) rfl (by rfl) (by rfl) (fun rv1 pq3 => ⟨0, (zp2 (Nat.le_refl _)), ?_⟩)
  refine hv2 (W2.putr pq3 t_a0 (fun qr => by rw [t_a0.2] at qr; cases qr) rfl (by decide)) (F2.putr hX0 pq3 t_a0 rfl) (fun W3 F3 => ?_)
  refine c_aload_n (j := 0) (x := a0) C dX5_init_19 rfl ?_
  refine c_aload_n (j := 3) (x := a3) C dX5_init_20 rfl ?_
  refine c_putrF (x := (some a3)) (k := 2) C ck_6 dX5_init_21 w3_142 (by decide) rfl rfl rfl t_a0 rfl rfl (by decide) rfl (by rfl) (by rfl) (fun rv2 pq4 => ⟨0, (zp2 (Nat.le_refl _)), ?_⟩)
  refine hv5 (W3.putr pq4 t_a0 (fun qr => by rw [t_a0.2] at qr; cases qr) rfl (by decide)) (F3.putr hX0 pq4 t_a0 rfl) (show ∀ k, ([1, 2] : List Nat).contains k = false → rv2 a0 k = rv a0 k from fun k hk => (Eq.trans (show rv2 a0 k = rv1 a0 k from (by rw [pq4]; exact upr_j (fun e => by subst e; exact absurd hk (by decide)))) (show rv1 a0 k = rv a0 k from (by rw [pq3]; exact upr_j (fun e => by subst e; exact absurd hk (by decide)))))) (show rv1 a0 1 = (some a2) from by rw [pq3]; exact upr_s) (show rv2 a0 1 = rv1 a0 1 from (by rw [pq4]; exact upr_j (by decide))) (fun W4 F4 rn1 rp1 re1 => ?_)
  rw [rp1] at re1
  refine hv6 (show rv2 a0 2 = (some a3) from by rw [pq4]; exact upr_s) (show (-2147483648) ≤ iv2 a0 0 ∧ iv2 a0 0 ≤ 2147483647 from W4.int t_a0 0) (show iv2 a0 0 = i from by rw [pq2]; exact up2_s) (show (-2147483648) ≤ iv2 a0 3 ∧ iv2 a0 3 ≤ 2147483647 from W4.int t_a0 3) (show iv2 a0 3 = iv1 a0 3 from by rw [pq2]; exact up2_j (by decide)) (show iv1 a0 3 = 0 from by rw [pq1]; exact up2_s) (fun rp2 ri1 ie1 ri2 ie2 ie3 => ?_)
  exact c_vret C dX5_init_24 rfl (by decide) (rom0 hph (Nat.le_refl 0) (by decide)) ⟨rfl, rfl, rfl, rfl, F4, W4, ⟨rn1, re1, rp2, (by omega), (by omega)⟩⟩
set_option maxHeartbeats 4000000 in
set_option maxRecDepth 100000 in
theorem Z_change {l : Launch} {G : GT} {mi : Nat} {sk : Nat → Nat} {L : List Nat} {cl ln : Nat → Nat} {iv : Nat → Nat → Int} {rv : Nat → Nat → Option Nat}  {a0 : Nat} {i : Int} {a2 : Nat} {r : Option Nat} {n : Int} (hW : WT (g0 G) sk L cl ln iv rv) (hS : SKL sk L cl) (t_a0 : ty L cl a0 201) (t_a2 : ty L cl a2 100) (t_r : ∀ b, r = some b → ty L cl b 20) (h_i : -2147483648 ≤ i ∧ i ≤ 2147483647) (h_n : -2147483648 ≤ n ∧ n ≤ 2147483647)  : Mc l G mi zPf 0 yX0_init cX0_init 5 none 1 [.ref a0, .int (iI i), .ref a2, va_rf r, .int (iI n)] L cl ln iv rv 0 (fun v L2 cl2 ln2 iv2 rv2 => v = none ∧ L = L2 ∧ cl = cl2 ∧ ln = ln2 ∧ fT [201] L cl iv rv iv2 rv2 ∧ WT (g0 G) sk L2 cl2 ln2 iv2 rv2 ∧ ((∀ k, ([1, 2] : List Nat).contains k = false → rv2 a0 k = rv a0 k) ∧ rv2 a0 1 = some a2 ∧ rv2 a0 2 = r ∧ iv2 a0 0 = i ∧ iv2 a0 3 = n)) := by
  refine Mc.mk (by decide) (by cases r <;> exact Nat.le_of_ble_eq_true rfl) ?_
  intro p e s m args below meth c A C hM
  have hph := (show zPf ln rv ≤ 0 from Nat.le_refl 0)
  refine c_lveq (show lv_args 0 [.ref a0, .int (iI i), .ref a2, va_rf r, .int (iI n)] = [(0, .ref a0), (1, .int (iI i)), (2, .ref a2), (3, (va_rf r)), (4, .int (iI n))] from by cases r <;> rfl) ?_
  refine hv2 (show XT L cl ln L cl ln from XT.refl) (show fT [201] L cl iv rv iv rv from fT.refl) (fun hX0 hF0 => ?_)
  refine c_aload_n (j := 0) (x := a0) C dX0_init_0 rfl ?_
  refine c_objInit C dX0_init_1 w3_39 w1_30 w1_31 (by decide) (Nat.le_of_ble_eq_true rfl) ?_
  refine c_aload_n (j := 0) (x := a0) C dX0_init_4 rfl ?_
  refine c_iload_n (j := 1) C dX0_init_5 rfl ?_
  refine c_putF (z := i) (k := 0) C ck_1 dX0_init_6 w3_40 (by decide) rfl rfl rfl t_a0 rfl rfl (by decide) rfl (by rfl) (by rfl) (fun iv1 pq1 => ?_)
  refine hv2 (hW.puti pq1 t_a0 (show (-2147483648) ≤ i ∧ i ≤ 2147483647 by omega) rfl) (hF0.puti hX0 pq1 t_a0 rfl) (fun W1 F1 => ?_)
  refine c_aload_n (j := 0) (x := a0) C dX0_init_9 rfl ?_
  refine c_aload_n (j := 2) (x := a2) C dX0_init_10 rfl ?_
  refine c_putrF (x := (some a2)) (k := 1) C ck_1 dX0_init_11 w3_42 (by decide) rfl rfl rfl t_a0 rfl rfl (by decide) rfl (by rfl) (by rfl) (fun rv1 pq2 => ⟨0, (zp2 (Nat.le_refl _)), ?_⟩)
  refine hv2 (W1.putr pq2 t_a0 (fun qr => by rw [t_a0.2] at qr; cases qr) rfl (by decide)) (F1.putr hX0 pq2 t_a0 rfl) (fun W2 F2 => ?_)
  refine c_aload_n (j := 0) (x := a0) C dX0_init_14 rfl ?_
  refine c_aloadr_n (j := 3) (r := r) C dX0_init_15 rfl ?_
  refine c_putrF (x := r) (k := 2) C ck_1 dX0_init_16 w3_44 (by decide) rfl rfl rfl t_a0 rfl rfl (by decide) rfl (narr r (Or.inl ⟨_, rfl⟩)).1 (narr r (Or.inl ⟨_, rfl⟩)).2 (fun rv2 pq3 => ⟨0, (zp2 (Nat.le_refl _)), ?_⟩)
  refine hv2 (W2.putr pq3 t_a0 (fun qr => by rw [t_a0.2] at qr; cases qr) rfl (by decide)) (F2.putr hX0 pq3 t_a0 rfl) (fun W3 F3 => ?_)
  refine c_aload_n (j := 0) (x := a0) C dX0_init_19 rfl ?_
  refine c_iload (j := 4) C dX0_init_20 rfl ?_
  refine c_putF (z := n) (k := 3) C ck_1 dX0_init_22 w3_46 (by decide) rfl rfl rfl t_a0 rfl rfl (by decide) rfl (by rfl) (by rfl) (fun iv2 pq4 => ?_)
  refine hv5 (W3.puti pq4 t_a0 (show (-2147483648) ≤ n ∧ n ≤ 2147483647 by omega) rfl) (F3.puti hX0 pq4 t_a0 rfl) (show ∀ k, ([1, 2] : List Nat).contains k = false → rv2 a0 k = rv a0 k from fun k hk => (Eq.trans (show rv2 a0 k = rv1 a0 k from (by rw [pq3]; exact upr_j (fun e => by subst e; exact absurd hk (by decide)))) (show rv1 a0 k = rv a0 k from (by rw [pq2]; exact upr_j (fun e => by subst e; exact absurd hk (by decide)))))) (show rv1 a0 1 = (some a2) from by rw [pq2]; exact upr_s) (show rv2 a0 1 = rv1 a0 1 from (by rw [pq3]; exact upr_j (by decide))) (fun W4 F4 rn1 rp1 re1 => ?_)
  rw [rp1] at re1
  refine hv6 (show rv2 a0 2 = r from by rw [pq3]; exact upr_s) (show (-2147483648) ≤ iv2 a0 0 ∧ iv2 a0 0 ≤ 2147483647 from W4.int t_a0 0) (show iv2 a0 0 = iv1 a0 0 from by rw [pq4]; exact up2_j (by decide)) (show iv1 a0 0 = i from by rw [pq1]; exact up2_s) (show (-2147483648) ≤ iv2 a0 3 ∧ iv2 a0 3 ≤ 2147483647 from W4.int t_a0 3) (show iv2 a0 3 = n from by rw [pq4]; exact up2_s) (fun rp2 ri1 ie1 ie2 ri2 ie3 => ?_)
  exact c_vret C dX0_init_25 rfl (by decide) (rom0 hph (Nat.le_refl 0) (by decide)) ⟨rfl, rfl, rfl, rfl, F4, W4, ⟨rn1, re1, rp2, (by omega), (by omega)⟩⟩
end
section
set_option maxHeartbeats 4000000 in
set_option maxRecDepth 100000 in
theorem C_goOver {l : Launch} {G : GT} {mi : Nat} {sk : Nat → Nat} {L : List Nat} {cl ln : Nat → Nat} {iv : Nat → Nat → Int} {rv : Nat → Nat → Option Nat}  {a0 : Nat} {x : Int} (hW : WT (g0 G) sk L cl ln iv rv) (hS : SKL sk L cl) (t_a0 : ty L cl a0 18) (h_x : -2147483648 ≤ x ∧ x ≤ 2147483647)  : Mc l G mi (Phi (g0 G) sk) PHM yX7_goOver cX7_goOver 6 (some .int) 2 [.ref a0, .int (iI x)] L cl ln iv rv 0 (fun v L2 cl2 ln2 iv2 rv2 => ∃ f : Int, v = some (.int (iI f)) ∧ L = L2 ∧ cl = cl2 ∧ ln = ln2 ∧ iv = iv2 ∧ rv = rv2 ∧ (-2147483648 ≤ f ∧ f ≤ 2147483647) ∧ (True)) := by
  refine Mc.mk (by decide) (Nat.le_of_ble_eq_true rfl) ?_
  intro p e s m args below meth c A C hM
  refine hv3 (Phi.le hW hS) (show XT L cl ln L cl ln from XT.refl) (show fT [] L cl iv rv iv rv from fT.refl) (fun hph hX0 hF0 => ?_)
  refine c_iload_n (j := 1) C dX7_goOver_0 rfl ?_
  refine c_istore_n (lv2 := [(2, .int (iI x)), (0, .ref a0), (1, .int (iI x))]) C dX7_goOver_1 (by decide) rfl ?_
  refine c_iconst C dX7_goOver_2 ?_
  refine c_istore_n (lv2 := [(3, .int (iI 0)), (2, .int (iI x)), (0, .ref a0), (1, .int (iI x))]) C dX7_goOver_3 (by decide) rfl ?_
  have Lp1 : ∀ (nn : Nat) (d1 k : Int) , 201 - k < (nn : Int) → (-2147483648 ≤ d1 ∧ d1 ≤ 2147483647) → (0 ≤ k ∧ k ≤ 200) → cw p l e 2 ((PHM) + 0 - ((Phi (g0 G) sk) ln rv)) s m args below meth c G A 6 (MQ below (Qu G A (Qp G (Phi (g0 G) sk) ((Phi (g0 G) sk) ln rv) 0 (fun v L2 cl2 ln2 iv2 rv2 => ∃ f : Int, v = some (.int (iI f)) ∧ L = L2 ∧ cl = cl2 ∧ ln = ln2 ∧ iv = iv2 ∧ rv = rv2 ∧ (-2147483648 ≤ f ∧ f ≤ 2147483647) ∧ (True)))) args s (((PHM) + 0 - ((Phi (g0 G) sk) ln rv)) / 16) ((PHM) + 0 - ((Phi (g0 G) sk) ln rv)) A) (Phi (g0 G) sk) ((Phi (g0 G) sk) ln rv) L cl ln iv rv 0 4 [(2, .int (iI d1)), (3, .int (iI k)), (0, .ref a0), (1, .int (iI x))] [] := by
    intro nn
    induction nn with
    | zero =>
      intro  d1 k  hm   hd1 hk
      exact absurd hm (by omega)
    | succ nn ih1 =>
      intro  d1 k  hm   hd1 hk
      refine c_iload_n (j := 1) C dX7_goOver_4 rfl ?_
      refine c_aload_n (j := 2) (x := a0) C dX7_goOver_5 rfl ?_
      have ri1 : 0 ≤ iv a0 1 ∧ iv a0 1 ≤ 200 := hW.int t_a0 1
      refine c_get (k := 1) C ck_8 dX7_goOver_6 w2_34 (by decide) t_a0 rfl rfl (by decide) rfl ?_
      refine c_icmp_ge (tgt := 83) C (r32_c (lo := 0) (hi := 200) hk.1 hk.2 (by decide) (by decide)) (r32_c (lo := 0) (hi := 200) ri1.1 ri1.2 (by decide) (by decide)) dX7_goOver_9 (by decide) (fun c1 => ?_) (fun c1 => ?_)
      · refine c_iload_n (j := 0) C dX7_goOver_83 rfl ?_
        exact c_iret C dX7_goOver_84 rfl (by decide) (rom0 hph hph (by decide)) ⟨d1, rfl, rfl, rfl, rfl, rfl, rfl, ⟨by omega, by omega⟩, trivial⟩
      · refine c_aload_n (j := 2) (x := a0) C dX7_goOver_12 rfl ?_
        refine c_iload_n (j := 1) C dX7_goOver_13 rfl ?_
        refine d_callV (As := [.int (iI k)]) (rest := []) C hM (C_present (a0 := a0) (i := k) hW hS t_a0 (by omega) ) dX7_goOver_14 kV_X7_61 rfl t_a0 rfl rfl (by decide) ck_8 rfl (Nat.le_of_ble_eq_true rfl) ⟨(Nat.le_of_ble_eq_true rfl), (Nat.le_of_ble_eq_true rfl)⟩ hph hph (show 0 + 0 = 0 from rfl) (by decide) (fun rh1 Lh1 clh1 lnh1 ivh1 rvh1 h1 => ?_)
        obtain ⟨f1, rfl, rfl, rfl, rfl, rfl, rfl, rgf1, exf1⟩ := h1
        refine c_st (st2 := [(va_rf f1)]) rfl ?_
        have gf1 : f1 = none ∨ (0 ≤ k ∧ k < iv a0 1) := exf1
        refine c_astorer (r := f1) (lv2 := [(4, (va_rf f1)), (2, .int (iI d1)), (3, .int (iI k)), (0, .ref a0), (1, .int (iI x))]) C dX7_goOver_17 (by decide) rfl ?_
        refine c_iload_n (j := 1) C dX7_goOver_19 rfl ?_
        refine c_bipush (z := 31) C dX7_goOver_20 (by decide) ?_
        refine c_imul C dX7_goOver_22 ?_
        obtain ⟨zz1, hzz1, ezz1⟩ := iI_of (iI (d1 * 31))
        refine c_st (st2 := [.int (iI zz1)]) (by rw [ezz1]) ?_
        refine c_aloadr (j := 0) (r := f1) C dX7_goOver_23 rfl ?_
        refine c_ifnonnull (r := f1) (tgt := 32) C dX7_goOver_25 (by decide) (fun ob1 oq1 => ?_) (fun oq1 => ?_)
        · subst oq1
          have tob1 := rgf1 ob1 rfl
          refine c_lv (lv2 := [(4, .ref ob1), (2, .int (iI d1)), (3, .int (iI k)), (0, .ref a0), (1, .int (iI x))]) [0, 1, 2, 3, 4] rfl ?_
          refine c_st (st2 := [.int (iI zz1)]) rfl ?_
          refine c_aload (j := 0) (x := ob1) C dX7_goOver_32 rfl ?_
          have ri2 : 0 ≤ iv ob1 1 ∧ iv ob1 1 ≤ 200 := hW.int tob1 1
          refine c_get (k := 1) C ck_3 dX7_goOver_34 w4_51 (by decide) tob1 rfl rfl (by decide) rfl ?_
          refine c_iadd C dX7_goOver_37 ?_
          obtain ⟨zz2, hzz2, ezz2⟩ := iI_of (iI (zz1 + (iv ob1 1)))
          refine c_st (st2 := [.int (iI zz2)]) (by rw [ezz2]) ?_
          refine c_istore_n (lv2 := [(2, .int (iI zz2)), (4, .ref ob1), (3, .int (iI k)), (0, .ref a0), (1, .int (iI x))]) C dX7_goOver_38 (by decide) rfl ?_
          refine c_iconst C dX7_goOver_39 ?_
          refine c_istore (lv2 := [(5, .int (iI 0)), (2, .int (iI zz2)), (4, .ref ob1), (3, .int (iI k)), (0, .ref a0), (1, .int (iI x))]) C dX7_goOver_40 (by decide) rfl ?_
          have Lp2 : ∀ (nn : Nat) (d2 k2 : Int) , 201 - k2 < (nn : Int) → (-2147483648 ≤ d2 ∧ d2 ≤ 2147483647) → (0 ≤ k2 ∧ k2 ≤ 200) → cw p l e 2 ((PHM) + 0 - ((Phi (g0 G) sk) ln rv)) s m args below meth c G A 6 (MQ below (Qu G A (Qp G (Phi (g0 G) sk) ((Phi (g0 G) sk) ln rv) 0 (fun v L2 cl2 ln2 iv2 rv2 => ∃ f : Int, v = some (.int (iI f)) ∧ L = L2 ∧ cl = cl2 ∧ ln = ln2 ∧ iv = iv2 ∧ rv = rv2 ∧ (-2147483648 ≤ f ∧ f ≤ 2147483647) ∧ (True)))) args s (((PHM) + 0 - ((Phi (g0 G) sk) ln rv)) / 16) ((PHM) + 0 - ((Phi (g0 G) sk) ln rv)) A) (Phi (g0 G) sk) ((Phi (g0 G) sk) ln rv) L cl ln iv rv 0 42 [(2, .int (iI d2)), (5, .int (iI k2)), (4, .ref ob1), (3, .int (iI k)), (0, .ref a0), (1, .int (iI x))] [] := by
            intro nn
            induction nn with
            | zero =>
              intro  d2 k2  hm   hd2 hk2
              exact absurd hm (by omega)
            | succ nn ih2 =>
              intro  d2 k2  hm   hd2 hk2
              refine c_aload (j := 2) (x := ob1) C dX7_goOver_42 rfl ?_
              refine c_ifnull (r := (some ob1)) (tgt := 77) C dX7_goOver_44 (by decide) (fun q => by cases q) (fun _ _ => ?_)
              refine c_iload (j := 1) C dX7_goOver_47 rfl ?_
              refine c_aload (j := 2) (x := ob1) C dX7_goOver_49 rfl ?_
              refine c_get (k := 1) C ck_3 dX7_goOver_51 w4_51 (by decide) tob1 rfl rfl (by decide) rfl ?_
              refine c_icmp_ge (tgt := 77) C (r32_c (lo := 0) (hi := 200) hk2.1 hk2.2 (by decide) (by decide)) (r32_c (lo := 0) (hi := 200) ri2.1 ri2.2 (by decide) (by decide)) dX7_goOver_54 (by decide) (fun c2 => ?_) (fun c2 => ?_)
              · refine c_iinc (z := k) (j := 3) (lv2 := [(3, .int (iI (k + 1))), (2, .int (iI d2)), (5, .int (iI k2)), (4, .ref ob1), (0, .ref a0), (1, .int (iI x))]) C dX7_goOver_77 rfl (by decide) rfl ?_
                refine c_goto (tgt := 4) C dX7_goOver_80 (by decide) ?_
                refine c_lv (lv2 := [(2, .int (iI d2)), (3, .int (iI (k + 1))), (0, .ref a0), (1, .int (iI x))]) [1, 0, 4, 5] rfl ?_
                exact ih1  d2 (k + 1)  (by omega)   (by omega) (by omega)
              · refine c_iload_n (j := 0) C dX7_goOver_57 rfl ?_
                refine c_bipush (z := 31) C dX7_goOver_58 (by decide) ?_
                refine c_imul C dX7_goOver_60 ?_
                obtain ⟨zz3, hzz3, ezz3⟩ := iI_of (iI (d2 * 31))
                refine c_st (st2 := [.int (iI zz3)]) (by rw [ezz3]) ?_
                refine c_aload (j := 2) (x := ob1) C dX7_goOver_61 rfl ?_
                obtain ⟨rb1, rq1, trb1⟩ := hW.ref tob1 0 rfl rfl rfl
                have lnrb1 : 200 ≤ ln rb1 ∧ ln rb1 ≤ 200 := hW.len trb1 rfl
                refine c_getr (k := 0) C ck_3 dX7_goOver_63 w4_47 (by decide) tob1 rfl rfl (by decide) rfl rq1 ?_
                refine c_st (st2 := [.ref rb1, .int (iI zz3)]) rfl ?_
                refine c_iload (j := 1) C dX7_goOver_66 rfl ?_
                have ll1 : 200 ≤ ln rb1 ∧ ln rb1 ≤ 200 := hW.len trb1 rfl
                refine c_iald C dX7_goOver_68 trb1 rfl (by omega) (by omega) (by omega) ?_
                have ri3 : (-2147483648) ≤ iv rb1 k2.toNat ∧ iv rb1 k2.toNat ≤ 2147483647 := hW.int trb1 k2.toNat
                refine c_iadd C dX7_goOver_69 ?_
                obtain ⟨zz4, hzz4, ezz4⟩ := iI_of (iI (zz3 + (iv rb1 k2.toNat)))
                refine c_st (st2 := [.int (iI zz4)]) (by rw [ezz4]) ?_
                refine c_istore_n (lv2 := [(2, .int (iI zz4)), (5, .int (iI k2)), (4, .ref ob1), (3, .int (iI k)), (0, .ref a0), (1, .int (iI x))]) C dX7_goOver_70 (by decide) rfl ?_
                refine c_iinc (z := k2) (j := 1) (lv2 := [(5, .int (iI (k2 + 1))), (2, .int (iI zz4)), (4, .ref ob1), (3, .int (iI k)), (0, .ref a0), (1, .int (iI x))]) C dX7_goOver_71 rfl (by decide) rfl ?_
                refine c_goto (tgt := 42) C dX7_goOver_74 (by decide) ?_
                refine c_lv (lv2 := [(2, .int (iI zz4)), (5, .int (iI (k2 + 1))), (4, .ref ob1), (3, .int (iI k)), (0, .ref a0), (1, .int (iI x))]) [1, 0, 2, 3, 4, 5] rfl ?_
                exact ih2  zz4 (k2 + 1)  (by omega)   (by omega) (by omega)
          refine c_lv (lv2 := [(2, .int (iI zz2)), (5, .int (iI 0)), (4, .ref ob1), (3, .int (iI k)), (0, .ref a0), (1, .int (iI x))]) [1, 0, 2, 3, 4, 5] rfl ?_
          exact Lp2 203 zz2 0  (by omega)   (by omega) (by omega)
        · subst oq1
          refine c_lv (lv2 := [(4, .null), (2, .int (iI d1)), (3, .int (iI k)), (0, .ref a0), (1, .int (iI x))]) [0, 1, 2, 3, 4] rfl ?_
          refine c_st (st2 := [.int (iI zz1)]) rfl ?_
          refine c_iconst C dX7_goOver_28 ?_
          refine c_goto (tgt := 37) C dX7_goOver_29 (by decide) ?_
          refine c_iadd C dX7_goOver_37 ?_
          obtain ⟨zz5, hzz5, ezz5⟩ := iI_of (iI (zz1 + (-1)))
          refine c_st (st2 := [.int (iI zz5)]) (by rw [ezz5]) ?_
          refine c_istore_n (lv2 := [(2, .int (iI zz5)), (4, .null), (3, .int (iI k)), (0, .ref a0), (1, .int (iI x))]) C dX7_goOver_38 (by decide) rfl ?_
          refine c_iconst C dX7_goOver_39 ?_
          refine c_istore (lv2 := [(5, .int (iI 0)), (2, .int (iI zz5)), (4, .null), (3, .int (iI k)), (0, .ref a0), (1, .int (iI x))]) C dX7_goOver_40 (by decide) rfl ?_
          have Lp3 : ∀ (nn : Nat) (d2 k2 : Int) , 201 - k2 < (nn : Int) → (-2147483648 ≤ d2 ∧ d2 ≤ 2147483647) → (0 ≤ k2 ∧ k2 ≤ 200) → cw p l e 2 ((PHM) + 0 - ((Phi (g0 G) sk) ln rv)) s m args below meth c G A 6 (MQ below (Qu G A (Qp G (Phi (g0 G) sk) ((Phi (g0 G) sk) ln rv) 0 (fun v L2 cl2 ln2 iv2 rv2 => ∃ f : Int, v = some (.int (iI f)) ∧ L = L2 ∧ cl = cl2 ∧ ln = ln2 ∧ iv = iv2 ∧ rv = rv2 ∧ (-2147483648 ≤ f ∧ f ≤ 2147483647) ∧ (True)))) args s (((PHM) + 0 - ((Phi (g0 G) sk) ln rv)) / 16) ((PHM) + 0 - ((Phi (g0 G) sk) ln rv)) A) (Phi (g0 G) sk) ((Phi (g0 G) sk) ln rv) L cl ln iv rv 0 42 [(2, .int (iI d2)), (5, .int (iI k2)), (4, .null), (3, .int (iI k)), (0, .ref a0), (1, .int (iI x))] [] := by
            intro nn
            induction nn with
            | zero =>
              intro  d2 k2  hm   hd2 hk2
              exact absurd hm (by omega)
            | succ nn ih3 =>
              intro  d2 k2  hm   hd2 hk2
              refine c_aloadr (j := 2) (r := none) C dX7_goOver_42 rfl ?_
              refine c_st (st2 := [.null]) rfl ?_
              refine c_ifnull (r := none) (tgt := 77) C dX7_goOver_44 (by decide) (fun _ => ?_) (fun _ q => by cases q)
              refine c_iinc (z := k) (j := 3) (lv2 := [(3, .int (iI (k + 1))), (2, .int (iI d2)), (5, .int (iI k2)), (4, .null), (0, .ref a0), (1, .int (iI x))]) C dX7_goOver_77 rfl (by decide) rfl ?_
              refine c_goto (tgt := 4) C dX7_goOver_80 (by decide) ?_
              refine c_lv (lv2 := [(2, .int (iI d2)), (3, .int (iI (k + 1))), (0, .ref a0), (1, .int (iI x))]) [1, 0, 4, 5] rfl ?_
              exact ih1  d2 (k + 1)  (by omega)   (by omega) (by omega)
          refine c_lv (lv2 := [(2, .int (iI zz5)), (5, .int (iI 0)), (4, .null), (3, .int (iI k)), (0, .ref a0), (1, .int (iI x))]) [1, 0, 2, 3, 4, 5] rfl ?_
          exact Lp3 203 zz5 0  (by omega)   (by omega) (by omega)
  refine c_lv (lv2 := [(2, .int (iI x)), (3, .int (iI 0)), (0, .ref a0), (1, .int (iI x))]) [1, 0, 2, 3] rfl ?_
  exact Lp1 203 x 0  (by omega)   (by omega) (by omega)
end
