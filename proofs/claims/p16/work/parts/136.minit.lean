def PMI (G : GT) (h0 : Nat) (D : List Nat) (ad : Nat → Nat) (v : Nat → Int) (L : List Nat) (E : Nat → va_E) : Prop := h0 ∈ L ∧ (∃ f, E h0 = ob 13 67 f ∧ (∀ k, D.contains k = true → f k = .ref (ad k)) ∧ (∀ k, k < 67 → mA k = false → f k = .int (iI (v k)))) ∧ (∀ k, D.contains k = true → mA k = true ∧ ad k ∈ L ∧ E (ad k) = mar G (mlen k) k (fun _ => 0) ∧ h0 ≠ ad k) ∧ (∀ i j, D.contains i = true → D.contains j = true → ad i = ad j → i = j)
section PMIS
variable {G : GT} {h0 q k : Nat} {D : List Nat} {ad : Nat → Nat} {v : Nat → Int} {L L2 : List Nat} {E E2 : Nat → va_E} {f : Nat → Value} {z : Int}
theorem mar_I {n : Nat} (h : mZ k = false) (hn : mlen k = n) : aI G n (fun _ => 0) = mar G (mlen k) k (fun _ => 0) := by unfold mar; rw [h, hn]; rfl
theorem mar_Z {n : Nat} (h : mZ k = true) (hn : mlen k = n) : aZ G n (fun _ => 0) = mar G (mlen k) k (fun _ => 0) := by unfold mar; rw [h, hn]; rfl
theorem cns {i : Nat} (h : (k :: D).contains i = true) : i = k ∨ D.contains i = true := by
  rw [List.contains_cons, Bool.or_eq_true, beq_iff_eq] at h; exact h
theorem PMI.arr {X : va_E} (hL : h0 ∈ L) (hE : E h0 = ob 13 67 f) (hf : ∀ k, D.contains k = true → f k = .ref (ad k)) (hg : ∀ k, k < 67 → mA k = false → f k = .int (iI (v k))) (hA : ∀ k, D.contains k = true → mA k = true ∧ ad k ∈ L ∧ E (ad k) = mar G (mlen k) k (fun _ => 0) ∧ h0 ≠ ad k) (hJ : ∀ i j, D.contains i = true → D.contains j = true → ad i = ad j → i = j) (nq : q ∉ L) (hl : L2 = L ++ [q]) (he : E2 = va_up (va_up E q X) h0 (ob 13 67 (va_up f k (.ref q)))) (hX : X = mar G (mlen k) k (fun _ => 0)) (hm : mA k = true) (hk : D.contains k = false) : PMI G h0 (k :: D) (va_up ad k q) v L2 E2 := by
  subst hl; subst he; subst hX
  refine hv2 (show ∀ i, D.contains i = true → i ≠ k from fun i hi e => by rw [e, hk] at hi; cases hi) (show h0 ≠ q from ne_in hL nq) (fun hkk h0q => ?_)
  refine ⟨List.mem_append_left _ hL, ⟨_, va_up_self _ _ _, ?_, ?_⟩, ?_, ?_⟩
  · intro i hi
    rcases cns hi with e | e
    · subst e; rw [va_up_self, va_up_self]
    · rw [va_up_ne _ _ (hkk i e), va_up_ne _ _ (hkk i e)]; exact hf i e
  · intro i hi hn
    rw [va_up_ne _ _ (fun e => by rw [e, hm] at hn; cases hn)]
    exact hg i hi hn
  · intro i hi
    rcases cns hi with e | e
    · subst e
      rw [va_up_self]
      exact ⟨hm, List.mem_append_right _ (List.mem_singleton.mpr rfl), (va_up_ne _ _ (Ne.symm h0q)).trans (va_up_self _ _ _), h0q⟩
    · obtain ⟨a1, a2, a3, a4⟩ := hA i e
      rw [va_up_ne _ _ (hkk i e)]
      exact ⟨a1, List.mem_append_left _ a2, (va_up_ne _ _ (Ne.symm a4)).trans ((va_up_ne _ _ (ne_in a2 nq)).trans a3), a4⟩
  · intro i j hi hj he
    rcases cns hi with e | e <;> rcases cns hj with e2 | e2
    · rw [e, e2]
    · subst e; rw [va_up_self, va_up_ne _ _ (hkk j e2)] at he; exact absurd (he ▸ (hA j e2).2.1) nq
    · subst e2; rw [va_up_self, va_up_ne _ _ (hkk i e)] at he; exact absurd (he ▸ (hA i e).2.1) nq
    · rw [va_up_ne _ _ (hkk i e), va_up_ne _ _ (hkk j e2)] at he; exact hJ i j e e2 he
theorem PMI.int (hL : h0 ∈ L) (hE : E h0 = ob 13 67 f) (hf : ∀ k, D.contains k = true → f k = .ref (ad k)) (hg : ∀ k, k < 67 → mA k = false → f k = .int (iI (v k))) (hA : ∀ k, D.contains k = true → mA k = true ∧ ad k ∈ L ∧ E (ad k) = mar G (mlen k) k (fun _ => 0) ∧ h0 ≠ ad k) (hJ : ∀ i j, D.contains i = true → D.contains j = true → ad i = ad j → i = j) (hl : L2 = L) (he : E2 = va_up E h0 (ob 13 67 (va_up f k (.int (iI z))))) (hm : mA k = false) : PMI G h0 D ad (va_up v k z) L2 E2 := by
  subst hl; subst he
  have hkk : ∀ i, D.contains i = true → i ≠ k := fun i hi e => by rw [e] at hi; rw [(hA k hi).1] at hm; cases hm
  refine ⟨hL, ⟨_, va_up_self _ _ _, ?_, ?_⟩, ?_, hJ⟩
  · intro i hi
    rw [va_up_ne _ _ (hkk i hi)]; exact hf i hi
  · intro i hi hn
    by_cases e : i = k
    · subst e; rw [va_up_self, va_up_self]
    · rw [va_up_ne _ _ e, va_up_ne _ _ e]; exact hg i hi hn
  · intro i hi
    obtain ⟨a1, a2, a3, a4⟩ := hA i hi
    exact ⟨a1, a2, (va_up_ne _ _ (Ne.symm a4)).trans a3, a4⟩
theorem mA_sub (h : mA k = true) : [2, 5, 6, 7, 8, 9, 10, 11, 12, 13, 14, 15, 16, 17, 18, 20, 21, 22, 24, 26, 27, 29, 34, 35, 37, 38, 40, 44, 45, 46, 47, 48, 49, 51, 54, 57, 58, 59, 62, 65].contains k = true := h
theorem PMI.fin (h : PMI G h0 D ad v L E) (hD : ([2, 5, 6, 7, 8, 9, 10, 11, 12, 13, 14, 15, 16, 17, 18, 20, 21, 22, 24, 26, 27, 29, 34, 35, 37, 38, 40, 44, 45, 46, 47, 48, 49, 51, 54, 57, 58, 59, 62, 65] : List Nat).all (fun t => D.contains t) = true) : mI G h0 ad mlen v (fun _ _ => 0) L E := by
  obtain ⟨hL, ⟨f, hE, hf, hg⟩, hA, hJ⟩ := h
  have hc : ∀ k, mA k = true → D.contains k = true := fun k hk => List.all_eq_true.mp hD k (List.contains_iff_mem.mp (mA_sub hk))
  refine ⟨hL, ?_, fun k hk => ⟨(hA k (hc k hk)).2.1, (hA k (hc k hk)).2.2.1⟩, fun k hk => (hA k (hc k hk)).2.2.2, fun i j hi hj => hJ i j (hc i hi) (hc j hj), fun _ _ => rfl, by decide, by decide⟩
  rw [hE]
  unfold ob
  congr 2
  refine List.map_congr_left (fun k hk => ?_)
  cases hm : mA k
  · rw [mfv_i hm]; exact hg k (List.mem_range.mp hk) hm
  · rw [mfv_a hm]; exact hf k (hc k hm)
end PMIS
def mv0 : Nat → Int := (va_up (va_up (va_up (va_up (fun _ => 0) 1 (-1)) 31 32) 32 25) 33 36)
set_option maxHeartbeats 4000000 in
set_option maxRecDepth 100000 in
theorem M_init {l : Launch} {G : GT} {L : List Nat} {E : Nat → va_E} {h0 : Nat} {f : Nat → Value} (hL : h0 ∈ L) (hE : E h0 = ob 13 67 f) (hf : ∀ k, k < 67 → mA k = false → f k = .int (iI 0)) : Mq l G yX12_init cX12_init 1 none 1 [.ref h0] L E 40 349703 (fun v L2 E2 => v = none ∧ ∃ ad, mI G h0 ad mlen mv0 (fun _ _ => 0) L2 E2) := by
  refine Mq.mk (by decide) (Nat.le_of_ble_eq_true rfl) ?_
  intro p e s m args below meth c A C
  have hI0 : PMI G h0 [] (fun _ => 0) (fun _ => 0) L E := ⟨hL, ⟨f, hE, (fun k hk => by cases hk), hf⟩, (fun k hk => by cases hk), (fun i j hi => by cases hi)⟩
  obtain ⟨hL0, ⟨f0, hE0, hf0, hg0⟩, hA0, hJ0⟩ := hI0
  refine q_aload_n (j := 0) C dX12_init_0 rfl ?_
  refine q_objInit C dX12_init_1 w6_54 w1_30 w1_31 ⟨Nat.le_of_ble_eq_true rfl, Nat.le_of_ble_eq_true rfl⟩ (Nat.le_of_ble_eq_true rfl) ?_
  refine q_aload_n (j := 0) C dX12_init_4 rfl ?_
  refine q_iconst (v := iI (-1)) C dX12_init_5 (by decide) ?_
  refine q_put (k := 1) C ck_13 dX12_init_6 w6_60 (by decide) rfl hL0 hE0 rfl rfl ?_
  refine q_cut (fun L1 E1 hl1 he1 => ?_)
  have hI1 := PMI.int (k := 1) (z := (-1)) hL0 hE0 hf0 hg0 hA0 hJ0 hl1 he1 (by decide)
  clear hL0 hE0 hf0 hg0 hA0 hJ0 hl1 he1
  obtain ⟨hL1, ⟨f1, hE1, hf1, hg1⟩, hA1, hJ1⟩ := hI1
  refine q_aload_n (j := 0) C dX12_init_9 rfl ?_
  refine q_sipush (v := iI 3000) C dX12_init_10 (by decide) ?_
  refine q_newaI (N := 3000) C dX12_init_13 w1_57 (by decide) (by decide) (by decide) ⟨Nat.le_of_ble_eq_true rfl, Nat.le_of_ble_eq_true rfl⟩ (fun q1 nq1 => ?_)
  refine q_putF (k := 2) C ck_13 dX12_init_15 w6_61 (by decide) rfl rfl rfl (List.mem_append_left _ hL1) ((va_up_ne _ _ (ne_in hL1 nq1)).trans hE1) rfl rfl ?_
  refine q_cut (fun L2 E2 hl2 he2 => ?_)
  have hI2 := PMI.arr (k := 2) hL1 hE1 hf1 hg1 hA1 hJ1 nq1 hl2 he2 (mar_I (by decide) (by decide)) (by decide) (by decide)
  clear hL1 hE1 hf1 hg1 hA1 hJ1 nq1 hl2 he2
  obtain ⟨hL2, ⟨f2, hE2, hf2, hg2⟩, hA2, hJ2⟩ := hI2
  refine q_aload_n (j := 0) C dX12_init_18 rfl ?_
  refine q_bipush (v := iI 30) C dX12_init_19 (by decide) ?_
  refine q_newaZ (N := 30) C dX12_init_21 w1_129 (by decide) (by decide) (by decide) ⟨Nat.le_of_ble_eq_true rfl, Nat.le_of_ble_eq_true rfl⟩ (fun q2 nq2 => ?_)
  refine q_putF (k := 5) C ck_13 dX12_init_23 w6_64 (by decide) rfl rfl rfl (List.mem_append_left _ hL2) ((va_up_ne _ _ (ne_in hL2 nq2)).trans hE2) rfl rfl ?_
  refine q_cut (fun L3 E3 hl3 he3 => ?_)
  have hI3 := PMI.arr (k := 5) hL2 hE2 hf2 hg2 hA2 hJ2 nq2 hl3 he3 (mar_Z (by decide) (by decide)) (by decide) (by decide)
  clear hL2 hE2 hf2 hg2 hA2 hJ2 nq2 hl3 he3
  obtain ⟨hL3, ⟨f3, hE3, hf3, hg3⟩, hA3, hJ3⟩ := hI3
  refine q_aload_n (j := 0) C dX12_init_26 rfl ?_
  refine q_bipush (v := iI 30) C dX12_init_27 (by decide) ?_
  refine q_newaI (N := 30) C dX12_init_29 w1_57 (by decide) (by decide) (by decide) ⟨Nat.le_of_ble_eq_true rfl, Nat.le_of_ble_eq_true rfl⟩ (fun q3 nq3 => ?_)
  refine q_putF (k := 6) C ck_13 dX12_init_31 w6_65 (by decide) rfl rfl rfl (List.mem_append_left _ hL3) ((va_up_ne _ _ (ne_in hL3 nq3)).trans hE3) rfl rfl ?_
  refine q_cut (fun L4 E4 hl4 he4 => ?_)
  have hI4 := PMI.arr (k := 6) hL3 hE3 hf3 hg3 hA3 hJ3 nq3 hl4 he4 (mar_I (by decide) (by decide)) (by decide) (by decide)
  clear hL3 hE3 hf3 hg3 hA3 hJ3 nq3 hl4 he4
  obtain ⟨hL4, ⟨f4, hE4, hf4, hg4⟩, hA4, hJ4⟩ := hI4
  refine q_aload_n (j := 0) C dX12_init_34 rfl ?_
  refine q_bipush (v := iI 30) C dX12_init_35 (by decide) ?_
  refine q_newaI (N := 30) C dX12_init_37 w1_57 (by decide) (by decide) (by decide) ⟨Nat.le_of_ble_eq_true rfl, Nat.le_of_ble_eq_true rfl⟩ (fun q4 nq4 => ?_)
  refine q_putF (k := 7) C ck_13 dX12_init_39 w6_66 (by decide) rfl rfl rfl (List.mem_append_left _ hL4) ((va_up_ne _ _ (ne_in hL4 nq4)).trans hE4) rfl rfl ?_
  refine q_cut (fun L5 E5 hl5 he5 => ?_)
  have hI5 := PMI.arr (k := 7) hL4 hE4 hf4 hg4 hA4 hJ4 nq4 hl5 he5 (mar_I (by decide) (by decide)) (by decide) (by decide)
  clear hL4 hE4 hf4 hg4 hA4 hJ4 nq4 hl5 he5
  obtain ⟨hL5, ⟨f5, hE5, hf5, hg5⟩, hA5, hJ5⟩ := hI5
  refine q_aload_n (j := 0) C dX12_init_42 rfl ?_
  refine q_bipush (v := iI 30) C dX12_init_43 (by decide) ?_
  refine q_newaI (N := 30) C dX12_init_45 w1_57 (by decide) (by decide) (by decide) ⟨Nat.le_of_ble_eq_true rfl, Nat.le_of_ble_eq_true rfl⟩ (fun q5 nq5 => ?_)
  refine q_putF (k := 8) C ck_13 dX12_init_47 w6_67 (by decide) rfl rfl rfl (List.mem_append_left _ hL5) ((va_up_ne _ _ (ne_in hL5 nq5)).trans hE5) rfl rfl ?_
  refine q_cut (fun L6 E6 hl6 he6 => ?_)
  have hI6 := PMI.arr (k := 8) hL5 hE5 hf5 hg5 hA5 hJ5 nq5 hl6 he6 (mar_I (by decide) (by decide)) (by decide) (by decide)
  clear hL5 hE5 hf5 hg5 hA5 hJ5 nq5 hl6 he6
  obtain ⟨hL6, ⟨f6, hE6, hf6, hg6⟩, hA6, hJ6⟩ := hI6
  refine q_aload_n (j := 0) C dX12_init_50 rfl ?_
  refine q_bipush (v := iI 30) C dX12_init_51 (by decide) ?_
  refine q_newaI (N := 30) C dX12_init_53 w1_57 (by decide) (by decide) (by decide) ⟨Nat.le_of_ble_eq_true rfl, Nat.le_of_ble_eq_true rfl⟩ (fun q6 nq6 => ?_)
  refine q_putF (k := 9) C ck_13 dX12_init_55 w6_68 (by decide) rfl rfl rfl (List.mem_append_left _ hL6) ((va_up_ne _ _ (ne_in hL6 nq6)).trans hE6) rfl rfl ?_
  refine q_cut (fun L7 E7 hl7 he7 => ?_)
  have hI7 := PMI.arr (k := 9) hL6 hE6 hf6 hg6 hA6 hJ6 nq6 hl7 he7 (mar_I (by decide) (by decide)) (by decide) (by decide)
  clear hL6 hE6 hf6 hg6 hA6 hJ6 nq6 hl7 he7
  obtain ⟨hL7, ⟨f7, hE7, hf7, hg7⟩, hA7, hJ7⟩ := hI7
  refine q_aload_n (j := 0) C dX12_init_58 rfl ?_
  refine q_bipush (v := iI 30) C dX12_init_59 (by decide) ?_
  refine q_newaI (N := 30) C dX12_init_61 w1_57 (by decide) (by decide) (by decide) ⟨Nat.le_of_ble_eq_true rfl, Nat.le_of_ble_eq_true rfl⟩ (fun q7 nq7 => ?_)
  refine q_putF (k := 10) C ck_13 dX12_init_63 w6_69 (by decide) rfl rfl rfl (List.mem_append_left _ hL7) ((va_up_ne _ _ (ne_in hL7 nq7)).trans hE7) rfl rfl ?_
  refine q_cut (fun L8 E8 hl8 he8 => ?_)
  have hI8 := PMI.arr (k := 10) hL7 hE7 hf7 hg7 hA7 hJ7 nq7 hl8 he8 (mar_I (by decide) (by decide)) (by decide) (by decide)
  clear hL7 hE7 hf7 hg7 hA7 hJ7 nq7 hl8 he8
  obtain ⟨hL8, ⟨f8, hE8, hf8, hg8⟩, hA8, hJ8⟩ := hI8
  refine q_aload_n (j := 0) C dX12_init_66 rfl ?_
  refine q_sipush (v := iI 6000) C dX12_init_67 (by decide) ?_
  refine q_newaI (N := 6000) C dX12_init_70 w1_57 (by decide) (by decide) (by decide) ⟨Nat.le_of_ble_eq_true rfl, Nat.le_of_ble_eq_true rfl⟩ (fun q8 nq8 => ?_)
  refine q_putF (k := 11) C ck_13 dX12_init_72 w6_70 (by decide) rfl rfl rfl (List.mem_append_left _ hL8) ((va_up_ne _ _ (ne_in hL8 nq8)).trans hE8) rfl rfl ?_
  refine q_cut (fun L9 E9 hl9 he9 => ?_)
  have hI9 := PMI.arr (k := 11) hL8 hE8 hf8 hg8 hA8 hJ8 nq8 hl9 he9 (mar_I (by decide) (by decide)) (by decide) (by decide)
  clear hL8 hE8 hf8 hg8 hA8 hJ8 nq8 hl9 he9
  obtain ⟨hL9, ⟨f9, hE9, hf9, hg9⟩, hA9, hJ9⟩ := hI9
  refine q_aload_n (j := 0) C dX12_init_75 rfl ?_
  refine q_sipush (v := iI 6000) C dX12_init_76 (by decide) ?_
  refine q_newaI (N := 6000) C dX12_init_79 w1_57 (by decide) (by decide) (by decide) ⟨Nat.le_of_ble_eq_true rfl, Nat.le_of_ble_eq_true rfl⟩ (fun q9 nq9 => ?_)
  refine q_putF (k := 12) C ck_13 dX12_init_81 w6_71 (by decide) rfl rfl rfl (List.mem_append_left _ hL9) ((va_up_ne _ _ (ne_in hL9 nq9)).trans hE9) rfl rfl ?_
  refine q_cut (fun L10 E10 hl10 he10 => ?_)
  have hI10 := PMI.arr (k := 12) hL9 hE9 hf9 hg9 hA9 hJ9 nq9 hl10 he10 (mar_I (by decide) (by decide)) (by decide) (by decide)
  clear hL9 hE9 hf9 hg9 hA9 hJ9 nq9 hl10 he10
  obtain ⟨hL10, ⟨f10, hE10, hf10, hg10⟩, hA10, hJ10⟩ := hI10
  refine q_aload_n (j := 0) C dX12_init_84 rfl ?_
  refine q_sipush (v := iI 6000) C dX12_init_85 (by decide) ?_
  refine q_newaI (N := 6000) C dX12_init_88 w1_57 (by decide) (by decide) (by decide) ⟨Nat.le_of_ble_eq_true rfl, Nat.le_of_ble_eq_true rfl⟩ (fun q10 nq10 => ?_)
  refine q_putF (k := 13) C ck_13 dX12_init_90 w6_72 (by decide) rfl rfl rfl (List.mem_append_left _ hL10) ((va_up_ne _ _ (ne_in hL10 nq10)).trans hE10) rfl rfl ?_
  refine q_cut (fun L11 E11 hl11 he11 => ?_)
  have hI11 := PMI.arr (k := 13) hL10 hE10 hf10 hg10 hA10 hJ10 nq10 hl11 he11 (mar_I (by decide) (by decide)) (by decide) (by decide)
  clear hL10 hE10 hf10 hg10 hA10 hJ10 nq10 hl11 he11
  obtain ⟨hL11, ⟨f11, hE11, hf11, hg11⟩, hA11, hJ11⟩ := hI11
  refine q_aload_n (j := 0) C dX12_init_93 rfl ?_
  refine q_ldc (v := iI 48000) C dX12_init_94 w6_55 ?_
  refine q_newaI (N := 48000) C dX12_init_96 w1_57 (by decide) (by decide) (by decide) ⟨Nat.le_of_ble_eq_true rfl, Nat.le_of_ble_eq_true rfl⟩ (fun q11 nq11 => ?_)
  refine q_putF (k := 14) C ck_13 dX12_init_98 w6_73 (by decide) rfl rfl rfl (List.mem_append_left _ hL11) ((va_up_ne _ _ (ne_in hL11 nq11)).trans hE11) rfl rfl ?_
  refine q_cut (fun L12 E12 hl12 he12 => ?_)
  have hI12 := PMI.arr (k := 14) hL11 hE11 hf11 hg11 hA11 hJ11 nq11 hl12 he12 (mar_I (by decide) (by decide)) (by decide) (by decide)
  clear hL11 hE11 hf11 hg11 hA11 hJ11 nq11 hl12 he12
  obtain ⟨hL12, ⟨f12, hE12, hf12, hg12⟩, hA12, hJ12⟩ := hI12
  refine q_aload_n (j := 0) C dX12_init_101 rfl ?_
  refine q_sipush (v := iI 24000) C dX12_init_102 (by decide) ?_
  refine q_newaI (N := 24000) C dX12_init_105 w1_57 (by decide) (by decide) (by decide) ⟨Nat.le_of_ble_eq_true rfl, Nat.le_of_ble_eq_true rfl⟩ (fun q12 nq12 => ?_)
  refine q_putF (k := 15) C ck_13 dX12_init_107 w6_74 (by decide) rfl rfl rfl (List.mem_append_left _ hL12) ((va_up_ne _ _ (ne_in hL12 nq12)).trans hE12) rfl rfl ?_
  refine q_cut (fun L13 E13 hl13 he13 => ?_)
  have hI13 := PMI.arr (k := 15) hL12 hE12 hf12 hg12 hA12 hJ12 nq12 hl13 he13 (mar_I (by decide) (by decide)) (by decide) (by decide)
  clear hL12 hE12 hf12 hg12 hA12 hJ12 nq12 hl13 he13
  obtain ⟨hL13, ⟨f13, hE13, hf13, hg13⟩, hA13, hJ13⟩ := hI13
  refine q_aload_n (j := 0) C dX12_init_110 rfl ?_
  refine q_bipush (v := iI 120) C dX12_init_111 (by decide) ?_
  refine q_newaI (N := 120) C dX12_init_113 w1_57 (by decide) (by decide) (by decide) ⟨Nat.le_of_ble_eq_true rfl, Nat.le_of_ble_eq_true rfl⟩ (fun q13 nq13 => ?_)
  refine q_putF (k := 16) C ck_13 dX12_init_115 w6_75 (by decide) rfl rfl rfl (List.mem_append_left _ hL13) ((va_up_ne _ _ (ne_in hL13 nq13)).trans hE13) rfl rfl ?_
  refine q_cut (fun L14 E14 hl14 he14 => ?_)
  have hI14 := PMI.arr (k := 16) hL13 hE13 hf13 hg13 hA13 hJ13 nq13 hl14 he14 (mar_I (by decide) (by decide)) (by decide) (by decide)
  clear hL13 hE13 hf13 hg13 hA13 hJ13 nq13 hl14 he14
  obtain ⟨hL14, ⟨f14, hE14, hf14, hg14⟩, hA14, hJ14⟩ := hI14
  refine q_aload_n (j := 0) C dX12_init_118 rfl ?_
  refine q_sipush (v := iI 480) C dX12_init_119 (by decide) ?_
  refine q_newaI (N := 480) C dX12_init_122 w1_57 (by decide) (by decide) (by decide) ⟨Nat.le_of_ble_eq_true rfl, Nat.le_of_ble_eq_true rfl⟩ (fun q14 nq14 => ?_)
  refine q_putF (k := 17) C ck_13 dX12_init_124 w6_76 (by decide) rfl rfl rfl (List.mem_append_left _ hL14) ((va_up_ne _ _ (ne_in hL14 nq14)).trans hE14) rfl rfl ?_
  refine q_cut (fun L15 E15 hl15 he15 => ?_)
  have hI15 := PMI.arr (k := 17) hL14 hE14 hf14 hg14 hA14 hJ14 nq14 hl15 he15 (mar_I (by decide) (by decide)) (by decide) (by decide)
  clear hL14 hE14 hf14 hg14 hA14 hJ14 nq14 hl15 he15
  obtain ⟨hL15, ⟨f15, hE15, hf15, hg15⟩, hA15, hJ15⟩ := hI15
  refine q_aload_n (j := 0) C dX12_init_127 rfl ?_
  refine q_bipush (v := iI 64) C dX12_init_128 (by decide) ?_
  refine q_newaI (N := 64) C dX12_init_130 w1_57 (by decide) (by decide) (by decide) ⟨Nat.le_of_ble_eq_true rfl, Nat.le_of_ble_eq_true rfl⟩ (fun q15 nq15 => ?_)
  refine q_put (k := 18) C ck_13 dX12_init_132 w6_77 (by decide) rfl (List.mem_append_left _ hL15) ((va_up_ne _ _ (ne_in hL15 nq15)).trans hE15) rfl rfl ?_
  refine q_cut (fun L16 E16 hl16 he16 => ?_)
  have hI16 := PMI.arr (k := 18) hL15 hE15 hf15 hg15 hA15 hJ15 nq15 hl16 he16 (mar_I (by decide) (by decide)) (by decide) (by decide)
  clear hL15 hE15 hf15 hg15 hA15 hJ15 nq15 hl16 he16
  obtain ⟨hL16, ⟨f16, hE16, hf16, hg16⟩, hA16, hJ16⟩ := hI16
  refine q_aload_n (j := 0) C dX12_init_135 rfl ?_
  refine q_sipush (v := iI 512) C dX12_init_136 (by decide) ?_
  refine q_newaI (N := 512) C dX12_init_139 w1_57 (by decide) (by decide) (by decide) ⟨Nat.le_of_ble_eq_true rfl, Nat.le_of_ble_eq_true rfl⟩ (fun q16 nq16 => ?_)
  refine q_putF (k := 20) C ck_13 dX12_init_141 w6_79 (by decide) rfl rfl rfl (List.mem_append_left _ hL16) ((va_up_ne _ _ (ne_in hL16 nq16)).trans hE16) rfl rfl ?_
  refine q_cut (fun L17 E17 hl17 he17 => ?_)
  have hI17 := PMI.arr (k := 20) hL16 hE16 hf16 hg16 hA16 hJ16 nq16 hl17 he17 (mar_I (by decide) (by decide)) (by decide) (by decide)
  clear hL16 hE16 hf16 hg16 hA16 hJ16 nq16 hl17 he17
  obtain ⟨hL17, ⟨f17, hE17, hf17, hg17⟩, hA17, hJ17⟩ := hI17
  refine q_aload_n (j := 0) C dX12_init_144 rfl ?_
  refine q_sipush (v := iI 512) C dX12_init_145 (by decide) ?_
  refine q_newaI (N := 512) C dX12_init_148 w1_57 (by decide) (by decide) (by decide) ⟨Nat.le_of_ble_eq_true rfl, Nat.le_of_ble_eq_true rfl⟩ (fun q17 nq17 => ?_)
  refine q_putF (k := 21) C ck_13 dX12_init_150 w6_80 (by decide) rfl rfl rfl (List.mem_append_left _ hL17) ((va_up_ne _ _ (ne_in hL17 nq17)).trans hE17) rfl rfl ?_
  refine q_cut (fun L18 E18 hl18 he18 => ?_)
  have hI18 := PMI.arr (k := 21) hL17 hE17 hf17 hg17 hA17 hJ17 nq17 hl18 he18 (mar_I (by decide) (by decide)) (by decide) (by decide)
  clear hL17 hE17 hf17 hg17 hA17 hJ17 nq17 hl18 he18
  obtain ⟨hL18, ⟨f18, hE18, hf18, hg18⟩, hA18, hJ18⟩ := hI18
  refine q_aload_n (j := 0) C dX12_init_153 rfl ?_
  refine q_sipush (v := iI 513) C dX12_init_154 (by decide) ?_
  refine q_newaZ (N := 513) C dX12_init_157 w1_129 (by decide) (by decide) (by decide) ⟨Nat.le_of_ble_eq_true rfl, Nat.le_of_ble_eq_true rfl⟩ (fun q18 nq18 => ?_)
  refine q_putF (k := 22) C ck_13 dX12_init_159 w6_81 (by decide) rfl rfl rfl (List.mem_append_left _ hL18) ((va_up_ne _ _ (ne_in hL18 nq18)).trans hE18) rfl rfl ?_
  refine q_cut (fun L19 E19 hl19 he19 => ?_)
  have hI19 := PMI.arr (k := 22) hL18 hE18 hf18 hg18 hA18 hJ18 nq18 hl19 he19 (mar_Z (by decide) (by decide)) (by decide) (by decide)
  clear hL18 hE18 hf18 hg18 hA18 hJ18 nq18 hl19 he19
  obtain ⟨hL19, ⟨f19, hE19, hf19, hg19⟩, hA19, hJ19⟩ := hI19
  refine q_aload_n (j := 0) C dX12_init_162 rfl ?_
  refine q_sipush (v := iI 6144) C dX12_init_163 (by decide) ?_
  refine q_newaI (N := 6144) C dX12_init_166 w1_57 (by decide) (by decide) (by decide) ⟨Nat.le_of_ble_eq_true rfl, Nat.le_of_ble_eq_true rfl⟩ (fun q19 nq19 => ?_)
  refine q_putF (k := 24) C ck_13 dX12_init_168 w6_83 (by decide) rfl rfl rfl (List.mem_append_left _ hL19) ((va_up_ne _ _ (ne_in hL19 nq19)).trans hE19) rfl rfl ?_
  refine q_cut (fun L20 E20 hl20 he20 => ?_)
  have hI20 := PMI.arr (k := 24) hL19 hE19 hf19 hg19 hA19 hJ19 nq19 hl20 he20 (mar_I (by decide) (by decide)) (by decide) (by decide)
  clear hL19 hE19 hf19 hg19 hA19 hJ19 nq19 hl20 he20
  obtain ⟨hL20, ⟨f20, hE20, hf20, hg20⟩, hA20, hJ20⟩ := hI20
  refine q_aload_n (j := 0) C dX12_init_171 rfl ?_
  refine q_sipush (v := iI 513) C dX12_init_172 (by decide) ?_
  refine q_newaI (N := 513) C dX12_init_175 w1_57 (by decide) (by decide) (by decide) ⟨Nat.le_of_ble_eq_true rfl, Nat.le_of_ble_eq_true rfl⟩ (fun q20 nq20 => ?_)
  refine q_putF (k := 26) C ck_13 dX12_init_177 w6_85 (by decide) rfl rfl rfl (List.mem_append_left _ hL20) ((va_up_ne _ _ (ne_in hL20 nq20)).trans hE20) rfl rfl ?_
  refine q_cut (fun L21 E21 hl21 he21 => ?_)
  have hI21 := PMI.arr (k := 26) hL20 hE20 hf20 hg20 hA20 hJ20 nq20 hl21 he21 (mar_I (by decide) (by decide)) (by decide) (by decide)
  clear hL20 hE20 hf20 hg20 hA20 hJ20 nq20 hl21 he21
  obtain ⟨hL21, ⟨f21, hE21, hf21, hg21⟩, hA21, hJ21⟩ := hI21
  refine q_aload_n (j := 0) C dX12_init_180 rfl ?_
  refine q_iconst (v := iI 5) C dX12_init_181 (by decide) ?_
  refine q_newaI (N := 5) C dX12_init_182 w1_57 (by decide) (by decide) (by decide) ⟨Nat.le_of_ble_eq_true rfl, Nat.le_of_ble_eq_true rfl⟩ (fun q21 nq21 => ?_)
  refine q_putF (k := 27) C ck_13 dX12_init_184 w6_86 (by decide) rfl rfl rfl (List.mem_append_left _ hL21) ((va_up_ne _ _ (ne_in hL21 nq21)).trans hE21) rfl rfl ?_
  refine q_cut (fun L22 E22 hl22 he22 => ?_)
  have hI22 := PMI.arr (k := 27) hL21 hE21 hf21 hg21 hA21 hJ21 nq21 hl22 he22 (mar_I (by decide) (by decide)) (by decide) (by decide)
  clear hL21 hE21 hf21 hg21 hA21 hJ21 nq21 hl22 he22
  obtain ⟨hL22, ⟨f22, hE22, hf22, hg22⟩, hA22, hJ22⟩ := hI22
  refine q_aload_n (j := 0) C dX12_init_187 rfl ?_
  refine q_sipush (v := iI 500) C dX12_init_188 (by decide) ?_
  refine q_newaI (N := 500) C dX12_init_191 w1_57 (by decide) (by decide) (by decide) ⟨Nat.le_of_ble_eq_true rfl, Nat.le_of_ble_eq_true rfl⟩ (fun q22 nq22 => ?_)
  refine q_putF (k := 29) C ck_13 dX12_init_193 w6_88 (by decide) rfl rfl rfl (List.mem_append_left _ hL22) ((va_up_ne _ _ (ne_in hL22 nq22)).trans hE22) rfl rfl ?_
  refine q_cut (fun L23 E23 hl23 he23 => ?_)
  have hI23 := PMI.arr (k := 29) hL22 hE22 hf22 hg22 hA22 hJ22 nq22 hl23 he23 (mar_I (by decide) (by decide)) (by decide) (by decide)
  clear hL22 hE22 hf22 hg22 hA22 hJ22 nq22 hl23 he23
  obtain ⟨hL23, ⟨f23, hE23, hf23, hg23⟩, hA23, hJ23⟩ := hI23
  refine q_aload_n (j := 0) C dX12_init_196 rfl ?_
  refine q_bipush (v := iI 32) C dX12_init_197 (by decide) ?_
  refine q_put (k := 31) C ck_13 dX12_init_199 w6_90 (by decide) rfl hL23 hE23 rfl rfl ?_
  refine q_cut (fun L24 E24 hl24 he24 => ?_)
  have hI24 := PMI.int (k := 31) (z := 32) hL23 hE23 hf23 hg23 hA23 hJ23 hl24 he24 (by decide)
  clear hL23 hE23 hf23 hg23 hA23 hJ23 hl24 he24
  obtain ⟨hL24, ⟨f24, hE24, hf24, hg24⟩, hA24, hJ24⟩ := hI24
  refine q_aload_n (j := 0) C dX12_init_202 rfl ?_
  refine q_bipush (v := iI 25) C dX12_init_203 (by decide) ?_
  refine q_put (k := 32) C ck_13 dX12_init_205 w6_91 (by decide) rfl hL24 hE24 rfl rfl ?_
  refine q_cut (fun L25 E25 hl25 he25 => ?_)
  have hI25 := PMI.int (k := 32) (z := 25) hL24 hE24 hf24 hg24 hA24 hJ24 hl25 he25 (by decide)
  clear hL24 hE24 hf24 hg24 hA24 hJ24 hl25 he25
  obtain ⟨hL25, ⟨f25, hE25, hf25, hg25⟩, hA25, hJ25⟩ := hI25
  refine q_aload_n (j := 0) C dX12_init_208 rfl ?_
  refine q_bipush (v := iI 36) C dX12_init_209 (by decide) ?_
  refine q_put (k := 33) C ck_13 dX12_init_211 w6_92 (by decide) rfl hL25 hE25 rfl rfl ?_
  refine q_cut (fun L26 E26 hl26 he26 => ?_)
  have hI26 := PMI.int (k := 33) (z := 36) hL25 hE25 hf25 hg25 hA25 hJ25 hl26 he26 (by decide)
  clear hL25 hE25 hf25 hg25 hA25 hJ25 hl26 he26
  obtain ⟨hL26, ⟨f26, hE26, hf26, hg26⟩, hA26, hJ26⟩ := hI26
  refine q_aload_n (j := 0) C dX12_init_214 rfl ?_
  refine q_sipush (v := iI 200) C dX12_init_215 (by decide) ?_
  refine q_newaI (N := 200) C dX12_init_218 w1_57 (by decide) (by decide) (by decide) ⟨Nat.le_of_ble_eq_true rfl, Nat.le_of_ble_eq_true rfl⟩ (fun q26 nq26 => ?_)
  refine q_putF (k := 34) C ck_13 dX12_init_220 w6_93 (by decide) rfl rfl rfl (List.mem_append_left _ hL26) ((va_up_ne _ _ (ne_in hL26 nq26)).trans hE26) rfl rfl ?_
  refine q_cut (fun L27 E27 hl27 he27 => ?_)
  have hI27 := PMI.arr (k := 34) hL26 hE26 hf26 hg26 hA26 hJ26 nq26 hl27 he27 (mar_I (by decide) (by decide)) (by decide) (by decide)
  clear hL26 hE26 hf26 hg26 hA26 hJ26 nq26 hl27 he27
  obtain ⟨hL27, ⟨f27, hE27, hf27, hg27⟩, hA27, hJ27⟩ := hI27
  refine q_aload_n (j := 0) C dX12_init_223 rfl ?_
  refine q_ldc (v := iI 40000) C dX12_init_224 w6_56 ?_
  refine q_newaI (N := 40000) C dX12_init_226 w1_57 (by decide) (by decide) (by decide) ⟨Nat.le_of_ble_eq_true rfl, Nat.le_of_ble_eq_true rfl⟩ (fun q27 nq27 => ?_)
  refine q_putF (k := 35) C ck_13 dX12_init_228 w6_94 (by decide) rfl rfl rfl (List.mem_append_left _ hL27) ((va_up_ne _ _ (ne_in hL27 nq27)).trans hE27) rfl rfl ?_
  refine q_cut (fun L28 E28 hl28 he28 => ?_)
  have hI28 := PMI.arr (k := 35) hL27 hE27 hf27 hg27 hA27 hJ27 nq27 hl28 he28 (mar_I (by decide) (by decide)) (by decide) (by decide)
  clear hL27 hE27 hf27 hg27 hA27 hJ27 nq27 hl28 he28
  obtain ⟨hL28, ⟨f28, hE28, hf28, hg28⟩, hA28, hJ28⟩ := hI28
  refine q_aload_n (j := 0) C dX12_init_231 rfl ?_
  refine q_sipush (v := iI 200) C dX12_init_232 (by decide) ?_
  refine q_newaI (N := 200) C dX12_init_235 w1_57 (by decide) (by decide) (by decide) ⟨Nat.le_of_ble_eq_true rfl, Nat.le_of_ble_eq_true rfl⟩ (fun q28 nq28 => ?_)
  refine q_putF (k := 37) C ck_13 dX12_init_237 w6_96 (by decide) rfl rfl rfl (List.mem_append_left _ hL28) ((va_up_ne _ _ (ne_in hL28 nq28)).trans hE28) rfl rfl ?_
  refine q_cut (fun L29 E29 hl29 he29 => ?_)
  have hI29 := PMI.arr (k := 37) hL28 hE28 hf28 hg28 hA28 hJ28 nq28 hl29 he29 (mar_I (by decide) (by decide)) (by decide) (by decide)
  clear hL28 hE28 hf28 hg28 hA28 hJ28 nq28 hl29 he29
  obtain ⟨hL29, ⟨f29, hE29, hf29, hg29⟩, hA29, hJ29⟩ := hI29
  refine q_aload_n (j := 0) C dX12_init_240 rfl ?_
  refine q_ldc (v := iI 40000) C dX12_init_241 w6_56 ?_
  refine q_newaI (N := 40000) C dX12_init_243 w1_57 (by decide) (by decide) (by decide) ⟨Nat.le_of_ble_eq_true rfl, Nat.le_of_ble_eq_true rfl⟩ (fun q29 nq29 => ?_)
  refine q_putF (k := 38) C ck_13 dX12_init_245 w6_97 (by decide) rfl rfl rfl (List.mem_append_left _ hL29) ((va_up_ne _ _ (ne_in hL29 nq29)).trans hE29) rfl rfl ?_
  refine q_cut (fun L30 E30 hl30 he30 => ?_)
  have hI30 := PMI.arr (k := 38) hL29 hE29 hf29 hg29 hA29 hJ29 nq29 hl30 he30 (mar_I (by decide) (by decide)) (by decide) (by decide)
  clear hL29 hE29 hf29 hg29 hA29 hJ29 nq29 hl30 he30
  obtain ⟨hL30, ⟨f30, hE30, hf30, hg30⟩, hA30, hJ30⟩ := hI30
  refine q_aload_n (j := 0) C dX12_init_248 rfl ?_
  refine q_sipush (v := iI 200) C dX12_init_249 (by decide) ?_
  refine q_newaI (N := 200) C dX12_init_252 w1_57 (by decide) (by decide) (by decide) ⟨Nat.le_of_ble_eq_true rfl, Nat.le_of_ble_eq_true rfl⟩ (fun q30 nq30 => ?_)
  refine q_putF (k := 40) C ck_13 dX12_init_254 w6_99 (by decide) rfl rfl rfl (List.mem_append_left _ hL30) ((va_up_ne _ _ (ne_in hL30 nq30)).trans hE30) rfl rfl ?_
  refine q_cut (fun L31 E31 hl31 he31 => ?_)
  have hI31 := PMI.arr (k := 40) hL30 hE30 hf30 hg30 hA30 hJ30 nq30 hl31 he31 (mar_I (by decide) (by decide)) (by decide) (by decide)
  clear hL30 hE30 hf30 hg30 hA30 hJ30 nq30 hl31 he31
  obtain ⟨hL31, ⟨f31, hE31, hf31, hg31⟩, hA31, hJ31⟩ := hI31
  refine q_aload_n (j := 0) C dX12_init_257 rfl ?_
  refine q_sipush (v := iI 12016) C dX12_init_258 (by decide) ?_
  refine q_newaI (N := 12016) C dX12_init_261 w1_57 (by decide) (by decide) (by decide) ⟨Nat.le_of_ble_eq_true rfl, Nat.le_of_ble_eq_true rfl⟩ (fun q31 nq31 => ?_)
  refine q_putF (k := 44) C ck_13 dX12_init_263 w6_103 (by decide) rfl rfl rfl (List.mem_append_left _ hL31) ((va_up_ne _ _ (ne_in hL31 nq31)).trans hE31) rfl rfl ?_
  refine q_cut (fun L32 E32 hl32 he32 => ?_)
  have hI32 := PMI.arr (k := 44) hL31 hE31 hf31 hg31 hA31 hJ31 nq31 hl32 he32 (mar_I (by decide) (by decide)) (by decide) (by decide)
  clear hL31 hE31 hf31 hg31 hA31 hJ31 nq31 hl32 he32
  obtain ⟨hL32, ⟨f32, hE32, hf32, hg32⟩, hA32, hJ32⟩ := hI32
  refine q_aload_n (j := 0) C dX12_init_266 rfl ?_
  refine q_sipush (v := iI 12016) C dX12_init_267 (by decide) ?_
  refine q_newaI (N := 12016) C dX12_init_270 w1_57 (by decide) (by decide) (by decide) ⟨Nat.le_of_ble_eq_true rfl, Nat.le_of_ble_eq_true rfl⟩ (fun q32 nq32 => ?_)
  refine q_putF (k := 45) C ck_13 dX12_init_272 w6_104 (by decide) rfl rfl rfl (List.mem_append_left _ hL32) ((va_up_ne _ _ (ne_in hL32 nq32)).trans hE32) rfl rfl ?_
  refine q_cut (fun L33 E33 hl33 he33 => ?_)
  have hI33 := PMI.arr (k := 45) hL32 hE32 hf32 hg32 hA32 hJ32 nq32 hl33 he33 (mar_I (by decide) (by decide)) (by decide) (by decide)
  clear hL32 hE32 hf32 hg32 hA32 hJ32 nq32 hl33 he33
  obtain ⟨hL33, ⟨f33, hE33, hf33, hg33⟩, hA33, hJ33⟩ := hI33
  refine q_aload_n (j := 0) C dX12_init_275 rfl ?_
  refine q_sipush (v := iI 12016) C dX12_init_276 (by decide) ?_
  refine q_newaI (N := 12016) C dX12_init_279 w1_57 (by decide) (by decide) (by decide) ⟨Nat.le_of_ble_eq_true rfl, Nat.le_of_ble_eq_true rfl⟩ (fun q33 nq33 => ?_)
  refine q_putF (k := 46) C ck_13 dX12_init_281 w6_105 (by decide) rfl rfl rfl (List.mem_append_left _ hL33) ((va_up_ne _ _ (ne_in hL33 nq33)).trans hE33) rfl rfl ?_
  refine q_cut (fun L34 E34 hl34 he34 => ?_)
  have hI34 := PMI.arr (k := 46) hL33 hE33 hf33 hg33 hA33 hJ33 nq33 hl34 he34 (mar_I (by decide) (by decide)) (by decide) (by decide)
  clear hL33 hE33 hf33 hg33 hA33 hJ33 nq33 hl34 he34
  obtain ⟨hL34, ⟨f34, hE34, hf34, hg34⟩, hA34, hJ34⟩ := hI34
  refine q_aload_n (j := 0) C dX12_init_284 rfl ?_
  refine q_iconst (v := iI 2) C dX12_init_285 (by decide) ?_
  refine q_newaI (N := 2) C dX12_init_286 w1_57 (by decide) (by decide) (by decide) ⟨Nat.le_of_ble_eq_true rfl, Nat.le_of_ble_eq_true rfl⟩ (fun q34 nq34 => ?_)
  refine q_putF (k := 47) C ck_13 dX12_init_288 w6_106 (by decide) rfl rfl rfl (List.mem_append_left _ hL34) ((va_up_ne _ _ (ne_in hL34 nq34)).trans hE34) rfl rfl ?_
  refine q_cut (fun L35 E35 hl35 he35 => ?_)
  have hI35 := PMI.arr (k := 47) hL34 hE34 hf34 hg34 hA34 hJ34 nq34 hl35 he35 (mar_I (by decide) (by decide)) (by decide) (by decide)
  clear hL34 hE34 hf34 hg34 hA34 hJ34 nq34 hl35 he35
  obtain ⟨hL35, ⟨f35, hE35, hf35, hg35⟩, hA35, hJ35⟩ := hI35
  refine q_aload_n (j := 0) C dX12_init_291 rfl ?_
  refine q_ldc (v := iI 40200) C dX12_init_292 w6_57 ?_
  refine q_newaI (N := 40200) C dX12_init_294 w1_57 (by decide) (by decide) (by decide) ⟨Nat.le_of_ble_eq_true rfl, Nat.le_of_ble_eq_true rfl⟩ (fun q35 nq35 => ?_)
  refine q_putF (k := 48) C ck_13 dX12_init_296 w6_107 (by decide) rfl rfl rfl (List.mem_append_left _ hL35) ((va_up_ne _ _ (ne_in hL35 nq35)).trans hE35) rfl rfl ?_
  refine q_cut (fun L36 E36 hl36 he36 => ?_)
  have hI36 := PMI.arr (k := 48) hL35 hE35 hf35 hg35 hA35 hJ35 nq35 hl36 he36 (mar_I (by decide) (by decide)) (by decide) (by decide)
  clear hL35 hE35 hf35 hg35 hA35 hJ35 nq35 hl36 he36
  obtain ⟨hL36, ⟨f36, hE36, hf36, hg36⟩, hA36, hJ36⟩ := hI36
  refine q_aload_n (j := 0) C dX12_init_299 rfl ?_
  refine q_ldc (v := iI 40200) C dX12_init_300 w6_57 ?_
  refine q_newaI (N := 40200) C dX12_init_302 w1_57 (by decide) (by decide) (by decide) ⟨Nat.le_of_ble_eq_true rfl, Nat.le_of_ble_eq_true rfl⟩ (fun q36 nq36 => ?_)
  refine q_putF (k := 49) C ck_13 dX12_init_304 w6_108 (by decide) rfl rfl rfl (List.mem_append_left _ hL36) ((va_up_ne _ _ (ne_in hL36 nq36)).trans hE36) rfl rfl ?_
  refine q_cut (fun L37 E37 hl37 he37 => ?_)
  have hI37 := PMI.arr (k := 49) hL36 hE36 hf36 hg36 hA36 hJ36 nq36 hl37 he37 (mar_I (by decide) (by decide)) (by decide) (by decide)
  clear hL36 hE36 hf36 hg36 hA36 hJ36 nq36 hl37 he37
  obtain ⟨hL37, ⟨f37, hE37, hf37, hg37⟩, hA37, hJ37⟩ := hI37
  refine q_aload_n (j := 0) C dX12_init_307 rfl ?_
  refine q_sipush (v := iI 4000) C dX12_init_308 (by decide) ?_
  refine q_newaI (N := 4000) C dX12_init_311 w1_57 (by decide) (by decide) (by decide) ⟨Nat.le_of_ble_eq_true rfl, Nat.le_of_ble_eq_true rfl⟩ (fun q37 nq37 => ?_)
  refine q_putF (k := 51) C ck_13 dX12_init_313 w6_110 (by decide) rfl rfl rfl (List.mem_append_left _ hL37) ((va_up_ne _ _ (ne_in hL37 nq37)).trans hE37) rfl rfl ?_
  refine q_cut (fun L38 E38 hl38 he38 => ?_)
  have hI38 := PMI.arr (k := 51) hL37 hE37 hf37 hg37 hA37 hJ37 nq37 hl38 he38 (mar_I (by decide) (by decide)) (by decide) (by decide)
  clear hL37 hE37 hf37 hg37 hA37 hJ37 nq37 hl38 he38
  obtain ⟨hL38, ⟨f38, hE38, hf38, hg38⟩, hA38, hJ38⟩ := hI38
  refine q_aload_n (j := 0) C dX12_init_316 rfl ?_
  refine q_sipush (v := iI 4000) C dX12_init_317 (by decide) ?_
  refine q_newaI (N := 4000) C dX12_init_320 w1_57 (by decide) (by decide) (by decide) ⟨Nat.le_of_ble_eq_true rfl, Nat.le_of_ble_eq_true rfl⟩ (fun q38 nq38 => ?_)
  refine q_putF (k := 54) C ck_13 dX12_init_322 w6_113 (by decide) rfl rfl rfl (List.mem_append_left _ hL38) ((va_up_ne _ _ (ne_in hL38 nq38)).trans hE38) rfl rfl ?_
  refine q_cut (fun L39 E39 hl39 he39 => ?_)
  have hI39 := PMI.arr (k := 54) hL38 hE38 hf38 hg38 hA38 hJ38 nq38 hl39 he39 (mar_I (by decide) (by decide)) (by decide) (by decide)
  clear hL38 hE38 hf38 hg38 hA38 hJ38 nq38 hl39 he39
  obtain ⟨hL39, ⟨f39, hE39, hf39, hg39⟩, hA39, hJ39⟩ := hI39
  refine q_aload_n (j := 0) C dX12_init_325 rfl ?_
  refine q_sipush (v := iI 404) C dX12_init_326 (by decide) ?_
  refine q_newaZ (N := 404) C dX12_init_329 w1_129 (by decide) (by decide) (by decide) ⟨Nat.le_of_ble_eq_true rfl, Nat.le_of_ble_eq_true rfl⟩ (fun q39 nq39 => ?_)
  refine q_putF (k := 57) C ck_13 dX12_init_331 w6_116 (by decide) rfl rfl rfl (List.mem_append_left _ hL39) ((va_up_ne _ _ (ne_in hL39 nq39)).trans hE39) rfl rfl ?_
  refine q_cut (fun L40 E40 hl40 he40 => ?_)
  have hI40 := PMI.arr (k := 57) hL39 hE39 hf39 hg39 hA39 hJ39 nq39 hl40 he40 (mar_Z (by decide) (by decide)) (by decide) (by decide)
  clear hL39 hE39 hf39 hg39 hA39 hJ39 nq39 hl40 he40
  obtain ⟨hL40, ⟨f40, hE40, hf40, hg40⟩, hA40, hJ40⟩ := hI40
  refine q_aload_n (j := 0) C dX12_init_334 rfl ?_
  refine q_ldc (v := iI 40400) C dX12_init_335 w6_58 ?_
  refine q_newaI (N := 40400) C dX12_init_337 w1_57 (by decide) (by decide) (by decide) ⟨Nat.le_of_ble_eq_true rfl, Nat.le_of_ble_eq_true rfl⟩ (fun q40 nq40 => ?_)
  refine q_putF (k := 58) C ck_13 dX12_init_339 w6_117 (by decide) rfl rfl rfl (List.mem_append_left _ hL40) ((va_up_ne _ _ (ne_in hL40 nq40)).trans hE40) rfl rfl ?_
  refine q_cut (fun L41 E41 hl41 he41 => ?_)
  have hI41 := PMI.arr (k := 58) hL40 hE40 hf40 hg40 hA40 hJ40 nq40 hl41 he41 (mar_I (by decide) (by decide)) (by decide) (by decide)
  clear hL40 hE40 hf40 hg40 hA40 hJ40 nq40 hl41 he41
  obtain ⟨hL41, ⟨f41, hE41, hf41, hg41⟩, hA41, hJ41⟩ := hI41
  refine q_aload_n (j := 0) C dX12_init_342 rfl ?_
  refine q_bipush (v := iI 50) C dX12_init_343 (by decide) ?_
  refine q_newaI (N := 50) C dX12_init_345 w1_57 (by decide) (by decide) (by decide) ⟨Nat.le_of_ble_eq_true rfl, Nat.le_of_ble_eq_true rfl⟩ (fun q41 nq41 => ?_)
  refine q_putF (k := 59) C ck_13 dX12_init_347 w6_118 (by decide) rfl rfl rfl (List.mem_append_left _ hL41) ((va_up_ne _ _ (ne_in hL41 nq41)).trans hE41) rfl rfl ?_
  refine q_cut (fun L42 E42 hl42 he42 => ?_)
  have hI42 := PMI.arr (k := 59) hL41 hE41 hf41 hg41 hA41 hJ41 nq41 hl42 he42 (mar_I (by decide) (by decide)) (by decide) (by decide)
  clear hL41 hE41 hf41 hg41 hA41 hJ41 nq41 hl42 he42
  obtain ⟨hL42, ⟨f42, hE42, hf42, hg42⟩, hA42, hJ42⟩ := hI42
  refine q_aload_n (j := 0) C dX12_init_350 rfl ?_
  refine q_sipush (v := iI 1000) C dX12_init_351 (by decide) ?_
  refine q_newaI (N := 1000) C dX12_init_354 w1_57 (by decide) (by decide) (by decide) ⟨Nat.le_of_ble_eq_true rfl, Nat.le_of_ble_eq_true rfl⟩ (fun q42 nq42 => ?_)
  refine q_putF (k := 62) C ck_13 dX12_init_356 w6_121 (by decide) rfl rfl rfl (List.mem_append_left _ hL42) ((va_up_ne _ _ (ne_in hL42 nq42)).trans hE42) rfl rfl ?_
  refine q_cut (fun L43 E43 hl43 he43 => ?_)
  have hI43 := PMI.arr (k := 62) hL42 hE42 hf42 hg42 hA42 hJ42 nq42 hl43 he43 (mar_I (by decide) (by decide)) (by decide) (by decide)
  clear hL42 hE42 hf42 hg42 hA42 hJ42 nq42 hl43 he43
  obtain ⟨hL43, ⟨f43, hE43, hf43, hg43⟩, hA43, hJ43⟩ := hI43
  refine q_aload_n (j := 0) C dX12_init_359 rfl ?_
  refine q_sipush (v := iI 256) C dX12_init_360 (by decide) ?_
  refine q_newaI (N := 256) C dX12_init_363 w1_57 (by decide) (by decide) (by decide) ⟨Nat.le_of_ble_eq_true rfl, Nat.le_of_ble_eq_true rfl⟩ (fun q43 nq43 => ?_)
  refine q_putF (k := 65) C ck_13 dX12_init_365 w6_124 (by decide) rfl rfl rfl (List.mem_append_left _ hL43) ((va_up_ne _ _ (ne_in hL43 nq43)).trans hE43) rfl rfl ?_
  refine q_cut (fun L44 E44 hl44 he44 => ?_)
  have hI44 := PMI.arr (k := 65) hL43 hE43 hf43 hg43 hA43 hJ43 nq43 hl44 he44 (mar_I (by decide) (by decide)) (by decide) (by decide)
  clear hL43 hE43 hf43 hg43 hA43 hJ43 nq43 hl44 he44
  exact q_vret C dX12_init_368 rfl (Nat.le_of_ble_eq_true rfl) (Nat.le_of_ble_eq_true rfl) ⟨rfl, _, hI44.fin (by decide)⟩
theorem M_init0 : ∀ k, k < 67 → mA k = false → defaultValue (tyX12 k) = .int (iI 0) := by
  intro k hk hm
  rcases (show k = 0 ∨ k = 1 ∨ k = 2 ∨ k = 3 ∨ k = 4 ∨ k = 5 ∨ k = 6 ∨ k = 7 ∨ k = 8 ∨ k = 9 ∨ k = 10 ∨ k = 11 ∨ k = 12 ∨ k = 13 ∨ k = 14 ∨ k = 15 ∨ k = 16 ∨ k = 17 ∨ k = 18 ∨ k = 19 ∨ k = 20 ∨ k = 21 ∨ k = 22 ∨ k = 23 ∨ k = 24 ∨ k = 25 ∨ k = 26 ∨ k = 27 ∨ k = 28 ∨ k = 29 ∨ k = 30 ∨ k = 31 ∨ k = 32 ∨ k = 33 ∨ k = 34 ∨ k = 35 ∨ k = 36 ∨ k = 37 ∨ k = 38 ∨ k = 39 ∨ k = 40 ∨ k = 41 ∨ k = 42 ∨ k = 43 ∨ k = 44 ∨ k = 45 ∨ k = 46 ∨ k = 47 ∨ k = 48 ∨ k = 49 ∨ k = 50 ∨ k = 51 ∨ k = 52 ∨ k = 53 ∨ k = 54 ∨ k = 55 ∨ k = 56 ∨ k = 57 ∨ k = 58 ∨ k = 59 ∨ k = 60 ∨ k = 61 ∨ k = 62 ∨ k = 63 ∨ k = 64 ∨ k = 65 ∨ k = 66 by omega) with rfl | rfl | rfl | rfl | rfl | rfl | rfl | rfl | rfl | rfl | rfl | rfl | rfl | rfl | rfl | rfl | rfl | rfl | rfl | rfl | rfl | rfl | rfl | rfl | rfl | rfl | rfl | rfl | rfl | rfl | rfl | rfl | rfl | rfl | rfl | rfl | rfl | rfl | rfl | rfl | rfl | rfl | rfl | rfl | rfl | rfl | rfl | rfl | rfl | rfl | rfl | rfl | rfl | rfl | rfl | rfl | rfl | rfl | rfl | rfl | rfl | rfl | rfl | rfl | rfl | rfl | rfl <;> first | rfl | (exact absurd hm (by decide))
