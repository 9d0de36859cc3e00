theorem nn_up {f : Nat → Option Nat} {i x : Nat} (hf : f i = none) : ∀ n, nn (va_up f i (some x)) n = nn f n + (if i < n then 1 else 0) := by
  intro n
  induction n with
  | zero => rfl
  | succ n ih =>
    unfold nn
    rw [ih]
    by_cases e : n = i
    · subst e
      rw [va_up_self, hf]
      rw [if_neg (Nat.lt_irrefl n), if_pos (Nat.lt_succ_self n)]
      rfl
    · rw [va_up_ne _ _ e]
      by_cases h2 : i < n
      · have e1 : (if i < n then 1 else 0) = 1 := if_pos h2
        have e2 : (if i < n + 1 then 1 else 0) = 1 := if_pos (by omega)
        rw [e1, e2]; omega
      · have e1 : (if i < n then 1 else 0) = 0 := if_neg h2
        have e2 : (if i < n + 1 then 1 else 0) = 0 := if_neg (by omega)
        rw [e1, e2]; omega
theorem bt_67 {x : Nat} (h : bt x = 67) : x = 67 ∨ x = 69 := by
  unfold bt at h
  split at h
  · split at h
    · omega
    · split at h <;> omega
  · split at h
    · omega
    · split at h <;> omega
theorem cap_o {g : Nat} {ln : Nat → Nat} {rv : Nat → Nat → Option Nat} {a b k : Nat} {x : Option Nat} (h : a ≠ b) : cap g ln (upr rv b k x) a = cap g ln rv a := by unfold cap; rw [upr_a h]
theorem Phi.line {g : Nat} {sk : Nat → Nat} {L : List Nat} {cl ln : Nat → Nat} {iv : Nat → Nat → Int} {rv rv2 : Nat → Nat → Option Nat} {b i x : Nat} (h : WT g sk L cl ln iv rv) (hS : SKL sk L cl) (hb : ty L cl b 67) (he : rv2 = upr rv b i (some x)) (hi : i < 200) (hn : rv b i = none) : Phi g sk ln rv2 = Phi g sk ln rv + 240 := by
  subst he
  have hc : ∀ t, uq t = true → bt t ≠ 67 → cap g ln (upr rv b i (some x)) (sk t) = cap g ln rv (sk t) := by
    intro t ht h67
    refine cap_o (fun e => h67 ?_)
    rw [← hb.2, ← e, (hS t ht).2]
  rcases bt_67 hb.2 with e | e
  · have eb : b = sk 67 := by have q := h.2.2.2.2.2.1 b hb.1 (by rw [e]; rfl); rw [e] at q; exact q
    have hne : sk 69 ≠ b := fun q => by have w := (hS 69 rfl).2; rw [q, e] at w; cases w
    unfold Phi
    rw [hc 2 rfl (by decide), hc 3 rfl (by decide), hc 4 rfl (by decide), hc 5 rfl (by decide), hc 6 rfl (by decide), hc 7 rfl (by decide), hc 8 rfl (by decide), hc 9 rfl (by decide), hc 10 rfl (by decide), hc 11 rfl (by decide), hc 24 rfl (by decide), hc 25 rfl (by decide), upr_a hne, ← eb, upr_up, nn_up hn, if_pos hi]
    omega
  · have eb : b = sk 69 := by have q := h.2.2.2.2.2.1 b hb.1 (by rw [e]; rfl); rw [e] at q; exact q
    have hne : sk 67 ≠ b := fun q => by have w := (hS 67 rfl).2; rw [q, e] at w; cases w
    unfold Phi
    rw [hc 2 rfl (by decide), hc 3 rfl (by decide), hc 4 rfl (by decide), hc 5 rfl (by decide), hc 6 rfl (by decide), hc 7 rfl (by decide), hc 8 rfl (by decide), hc 9 rfl (by decide), hc 10 rfl (by decide), hc 11 rfl (by decide), hc 24 rfl (by decide), hc 25 rfl (by decide), upr_a hne, ← eb, upr_up, nn_up hn, if_pos hi]
    omega
set_option maxHeartbeats 4000000 in
set_option maxRecDepth 100000 in
theorem C_restart {l : Launch} {G : GT} {mi : Nat} {sk : Nat → Nat} {L : List Nat} {cl ln : Nat → Nat} {iv : Nat → Nat → Int} {rv : Nat → Nat → Option Nat}  {a0 : Nat} (hW : WT (g0 G) sk L cl ln iv rv) (hS : SKL sk L cl) (t_a0 : ty L cl a0 14)  : Mc l G mi (Phi (g0 G) sk) PHM yX8_restart cX8_restart 1 none 0 [.ref a0] L cl ln iv rv 0 (fun v L2 cl2 ln2 iv2 rv2 => v = none ∧ L = L2 ∧ cl = cl2 ∧ ln = ln2 ∧ rv = rv2 ∧ fT [14] L cl iv rv iv2 rv2 ∧ WT (g0 G) sk L2 cl2 ln2 iv2 rv2 ∧ (iv2 a0 0 = 0 ∧ iv2 a0 1 = 0)) := by
  refine Mc.mk (by decide) (Nat.le_of_ble_eq_true rfl) ?_
  intro p e s m args below meth c A C hM
  have hph := Phi.le hW hS
  have hX0 : XT L cl ln L cl ln := XT.refl
  have hF0 : fT [14] L cl iv rv iv rv := fT.refl
  refine c_aload_n (j := 0) (x := a0) C dX8_restart_0 rfl ?_
  refine c_iconst C dX8_restart_1 ?_
  refine c_put (z := 0) (k := 0) C ck_9 dX8_restart_2 w1_103 (by decide) rfl t_a0 rfl rfl (by decide) rfl (by rfl) (by rfl) (fun iv1 pq1 => ?_)
  have W1 := hW.puti pq1 t_a0 ⟨by decide, by decide⟩ rfl
  have F1 := hF0.puti hX0 pq1 t_a0 rfl
  refine c_aload_n (j := 0) (x := a0) C dX8_restart_5 rfl ?_
  refine c_iconst C dX8_restart_6 ?_
  refine c_put (z := 0) (k := 1) C ck_9 dX8_restart_7 w1_104 (by decide) rfl t_a0 rfl rfl (by decide) rfl (by decide) (by decide) (fun iv2 pq2 => ?_)
  have W2 := W1.puti pq2 t_a0 ⟨by decide, by decide⟩ rfl
  have F2 := F1.puti hX0 pq2 t_a0 rfl
  have ri1 : (-2147483648) ≤ iv2 a0 0 ∧ iv2 a0 0 ≤ 2147483647 := W2.int t_a0 0
  have ie1 : iv2 a0 0 = iv1 a0 0 := by rw [pq2]; exact up2_j (by decide)
  have ie2 : iv1 a0 0 = 0 := by rw [pq1]; exact up2_s
  have ri2 : 0 ≤ iv2 a0 1 ∧ iv2 a0 1 ≤ 1 := W2.int t_a0 1
  have ie3 : iv2 a0 1 = 0 := by rw [pq2]; exact up2_s
  exact c_vret C dX8_restart_10 rfl (by decide) (rom0 hph hph (by decide)) ⟨rfl, rfl, rfl, rfl, rfl, F2, W2, (by omega)⟩
