set_option maxHeartbeats 4000000 in
set_option maxRecDepth 100000 in
theorem s_isIn {l : Launch} {G : GT} {L : List Nat} {E : Nat → va_E} (x lo hi : Int32) : Mq l G yX12_isIn cX12_isIn 3 (some .boolean) 0 [.int x, .int lo, .int hi] L E 0 0 (fun v L2 E2 => v = some (.int (inn x lo hi)) ∧ L2 = L ∧ E2 = E) := by
  refine Mq.mk (by decide) (Nat.le_of_ble_eq_true rfl) ?_
  intro p e s m args below meth c A C
  refine q_iload_n (j := 0) C dX12_isIn_0 rfl ?_
  refine q_iload_n (j := 1) C dX12_isIn_1 rfl ?_
  refine q_icmp_lt (tgt := 14) C dX12_isIn_2 (by decide) (fun c1 => ?_) (fun c1 => ?_)
  · refine q_iconst (v := 0) C dX12_isIn_14 (by decide) ?_
    exact q_zret C dX12_isIn_15 rfl (by decide) (Nat.le_of_ble_eq_true rfl) (Nat.le_of_ble_eq_true rfl) ⟨(by refine congrArg (fun z => some (Value.int z)) ?_; unfold inn; (try simp only [i32_lt, i32_le, i32_eq, inn_f, Decidable.not_not, tn_m1, tn_0, tn_1, tn_2, tn_3, tn_4, tn_5, tn_6, tn_7, tn_8, tn_10, tn_30, tn_31, tn_32, tn_36, tn_40, tn_50, tn_100, tn_126, tn_200, tn_255, tn_500, tn_512, tn_3000, tn_5000] at c1); split <;> rename_i hz <;> (try simp only [i32_lt, i32_le, i32_eq, inn_f, Decidable.not_not, tn_m1, tn_0, tn_1, tn_2, tn_3, tn_4, tn_5, tn_6, tn_7, tn_8, tn_10, tn_30, tn_31, tn_32, tn_36, tn_40, tn_50, tn_100, tn_126, tn_200, tn_255, tn_500, tn_512, tn_3000, tn_5000] at hz) <;> first | rfl | (exfalso; omega)), rfl, rfl⟩
  · refine q_iload_n (j := 0) C dX12_isIn_5 rfl ?_
    refine q_iload_n (j := 2) C dX12_isIn_6 rfl ?_
    refine q_icmp_gt (tgt := 14) C dX12_isIn_7 (by decide) (fun c2 => ?_) (fun c2 => ?_)
    · refine q_iconst (v := 0) C dX12_isIn_14 (by decide) ?_
      exact q_zret C dX12_isIn_15 rfl (by decide) (Nat.le_of_ble_eq_true rfl) (Nat.le_of_ble_eq_true rfl) ⟨(by refine congrArg (fun z => some (Value.int z)) ?_; unfold inn; (try simp only [i32_lt, i32_le, i32_eq, inn_f, Decidable.not_not, tn_m1, tn_0, tn_1, tn_2, tn_3, tn_4, tn_5, tn_6, tn_7, tn_8, tn_10, tn_30, tn_31, tn_32, tn_36, tn_40, tn_50, tn_100, tn_126, tn_200, tn_255, tn_500, tn_512, tn_3000, tn_5000] at c1); (try simp only [i32_lt, i32_le, i32_eq, inn_f, Decidable.not_not, tn_m1, tn_0, tn_1, tn_2, tn_3, tn_4, tn_5, tn_6, tn_7, tn_8, tn_10, tn_30, tn_31, tn_32, tn_36, tn_40, tn_50, tn_100, tn_126, tn_200, tn_255, tn_500, tn_512, tn_3000, tn_5000] at c2); split <;> rename_i hz <;> (try simp only [i32_lt, i32_le, i32_eq, inn_f, Decidable.not_not, tn_m1, tn_0, tn_1, tn_2, tn_3, tn_4, tn_5, tn_6, tn_7, tn_8, tn_10, tn_30, tn_31, tn_32, tn_36, tn_40, tn_50, tn_100, tn_126, tn_200, tn_255, tn_500, tn_512, tn_3000, tn_5000] at hz) <;> first | rfl | (exfalso; omega)), rfl, rfl⟩
    · refine q_iconst (v := 1) C dX12_isIn_10 (by decide) ?_
      refine q_goto (tgt := 15) C dX12_isIn_11 (by decide) ?_
      exact q_zret C dX12_isIn_15 rfl (by decide) (Nat.le_of_ble_eq_true rfl) (Nat.le_of_ble_eq_true rfl) ⟨(by refine congrArg (fun z => some (Value.int z)) ?_; unfold inn; (try simp only [i32_lt, i32_le, i32_eq, inn_f, Decidable.not_not, tn_m1, tn_0, tn_1, tn_2, tn_3, tn_4, tn_5, tn_6, tn_7, tn_8, tn_10, tn_30, tn_31, tn_32, tn_36, tn_40, tn_50, tn_100, tn_126, tn_200, tn_255, tn_500, tn_512, tn_3000, tn_5000] at c1); (try simp only [i32_lt, i32_le, i32_eq, inn_f, Decidable.not_not, tn_m1, tn_0, tn_1, tn_2, tn_3, tn_4, tn_5, tn_6, tn_7, tn_8, tn_10, tn_30, tn_31, tn_32, tn_36, tn_40, tn_50, tn_100, tn_126, tn_200, tn_255, tn_500, tn_512, tn_3000, tn_5000] at c2); split <;> rename_i hz <;> (try simp only [i32_lt, i32_le, i32_eq, inn_f, Decidable.not_not, tn_m1, tn_0, tn_1, tn_2, tn_3, tn_4, tn_5, tn_6, tn_7, tn_8, tn_10, tn_30, tn_31, tn_32, tn_36, tn_40, tn_50, tn_100, tn_126, tn_200, tn_255, tn_500, tn_512, tn_3000, tn_5000] at hz) <;> first | rfl | (exfalso; omega)), rfl, rfl⟩
theorem inn_c {x lo hi : Int} (hx : R32 x) (h1 : R32 lo) (h2 : R32 hi) : (lo ≤ x ∧ x ≤ hi ∧ inn (iI x) (iI lo) (iI hi) = iI 1) ∨ (¬ (lo ≤ x ∧ x ≤ hi) ∧ inn (iI x) (iI lo) (iI hi) = iI 0) := by
  unfold inn
  by_cases h : lo ≤ x ∧ x ≤ hi
  · exact Or.inl ⟨h.1, h.2, if_pos ⟨(iI_le h1 hx).mpr h.1, (iI_le hx h2).mpr h.2⟩⟩
  · exact Or.inr ⟨h, if_neg (fun q => h ⟨(iI_le h1 hx).mp q.1, (iI_le hx h2).mp q.2⟩)⟩
def RG (v : Nat → Int) (a : Nat → Nat → Int) : Prop := (∀ k, R32 (v k)) ∧ ∀ k j, R32 (a k j)
def Iln (v : Nat → Int) (a : Nat → Nat → Int) : Prop := (0 ≤ v 36 ∧ v 36 ≤ 200) ∧ ∀ j, -1 ≤ a 34 j ∧ a 34 j ≤ 200
theorem RG.put {v : Nat → Int} {a : Nat → Nat → Int} {k : Nat} {z : Int} (h : RG v a) (hz : R32 z) : RG (va_up v k z) a := ⟨fun j => by unfold va_up; split; exact hz; exact h.1 j, h.2⟩
theorem RG.set {v : Nat → Int} {a : Nat → Nat → Int} {k i : Nat} {z : Int} (h : RG v a) (hz : R32 z) : RG v (up2 a k i z) := ⟨h.1, fun k2 j => by unfold up2; split; split; exact hz; exact h.2 _ _; exact h.2 _ _⟩
set_option maxHeartbeats 4000000 in
set_option maxRecDepth 100000 in
theorem M_lineFault {l : Launch} {G : GT} {h0 : Nat} {ad ln : Nat → Nat} {v : Nat → Int} {a : Nat → Nat → Int} {l0 : Int} (hR : RG v a) (hl : R32 l0) (hI : Iln v a) : Mm l G yX12_lineFault cX12_lineFault 2 (some .int) 1 [.int (iI l0)] h0 ad ln v a 0 0 (fun r v2 a2 => ∃ f : Int, r = some (.int (iI f)) ∧ ((f = 2 ∧ ¬ (0 ≤ l0 ∧ l0 < v 36)) ∨ (f = 1 ∧ 0 ≤ l0 ∧ l0 < v 36 ∧ a 34 l0.toNat < 0) ∨ (f = 0 ∧ 0 ≤ l0 ∧ l0 < v 36 ∧ 0 ≤ a 34 l0.toNat)) ∧ v = v2 ∧ a = a2) := by
  refine Mm.mk (by decide) (Nat.le_of_ble_eq_true rfl) ?_
  intro p e s m args below meth c A C
  have hI1 := hI.1
  refine m_iload_n (j := 1) C dX12_lineFault_0 rfl ?_
  refine m_iconst C dX12_lineFault_1 ?_
  refine m_aload_n (j := 0) C dX12_lineFault_2 rfl ?_
  have rv36 := hR.1 36
  refine m_get (k := 36) C dX12_lineFault_3 w6_95 (by decide) rfl ?_
  refine m_iconst C dX12_lineFault_6 ?_
  refine m_isub C dX12_lineFault_7 ?_
  refine m_callS (As := [.int (iI l0), .int (iI 0), .int (iI ((v 36) - 1))]) (rest := []) C (fun L E => s_isIn (iI l0) (iI 0) (iI ((v 36) - 1))) dX12_lineFault_8 kS_X12_174 rfl rfl (Nat.le_of_ble_eq_true rfl) ⟨Nat.le_of_ble_eq_true rfl, Nat.le_of_ble_eq_true rfl⟩ ⟨Nat.le_of_ble_eq_true rfl, Nat.le_of_ble_eq_true rfl⟩ ?_
  rcases inn_c (x := l0) (lo := 0) (hi := (v 36) - 1) ⟨by omega, by omega⟩ ⟨by decide, by decide⟩ ⟨by omega, by omega⟩ with ⟨h1a, h1b, h1e⟩ | ⟨h1a, h1e⟩
  · refine m_st (st2 := [.int (iI 1)]) (by rw [h1e]) ?_
    refine m_if_ne (tgt := 18) C ⟨by decide, by decide⟩ dX12_lineFault_11 (by decide) (fun _ => ?_) (fun z => absurd z (by omega))
    refine m_aload_n (j := 0) C dX12_lineFault_18 rfl ?_
    refine m_geta (k := 34) C dX12_lineFault_19 w6_93 (by decide) rfl ?_
    refine m_iload_n (j := 1) C dX12_lineFault_22 rfl ?_
    refine m_ald (k := 34) C dX12_lineFault_23 rfl rfl (by decide) (by omega) (by show _ < ((_ : Nat) : Int); simp only [mlen]; omega) (by decide) ?_
    have ra1 := hR.2 34 (l0.toNat)
    refine m_if_ge (tgt := 31) C ⟨by omega, by omega⟩ dX12_lineFault_24 (by decide) (fun c1 => ?_) (fun c1 => ?_)
    · refine m_iconst C dX12_lineFault_31 ?_
      exact m_iret C dX12_lineFault_32 rfl (Nat.le_of_ble_eq_true rfl) (Nat.le_of_ble_eq_true rfl) ⟨0, rfl, (by omega), rfl, rfl⟩
    · refine m_iconst C dX12_lineFault_27 ?_
      refine m_goto (tgt := 32) C dX12_lineFault_28 (by decide) ?_
      exact m_iret C dX12_lineFault_32 rfl (Nat.le_of_ble_eq_true rfl) (Nat.le_of_ble_eq_true rfl) ⟨1, rfl, (by omega), rfl, rfl⟩
  · refine m_st (st2 := [.int (iI 0)]) (by rw [h1e]) ?_
    refine m_if_ne (tgt := 18) C ⟨by decide, by decide⟩ dX12_lineFault_11 (by decide) (fun z => absurd z (by omega)) (fun _ => ?_)
    refine m_iconst C dX12_lineFault_14 ?_
    refine m_goto (tgt := 32) C dX12_lineFault_15 (by decide) ?_
    exact m_iret C dX12_lineFault_32 rfl (Nat.le_of_ble_eq_true rfl) (Nat.le_of_ble_eq_true rfl) ⟨2, rfl, (by omega), rfl, rfl⟩
set_option maxHeartbeats 4000000 in
set_option maxRecDepth 100000 in
theorem s_isSmall {l : Launch} {G : GT} {L : List Nat} {E : Nat → va_E} (x : Int32) : Mq l G yX12_isSmall cX12_isSmall 1 (some .boolean) 0 [.int x] L E 0 0 (fun v L2 E2 => v = some (.int (inn x 97 122)) ∧ L2 = L ∧ E2 = E) := by
  refine Mq.mk (by decide) (Nat.le_of_ble_eq_true rfl) ?_
  intro p e s m args below meth c A C
  refine q_iload_n (j := 0) C dX12_isSmall_0 rfl ?_
  refine q_bipush (v := 97) C dX12_isSmall_1 (by decide) ?_
  refine q_icmp_lt (tgt := 16) C dX12_isSmall_3 (by decide) (fun c1 => ?_) (fun c1 => ?_)
  · refine q_iconst (v := 0) C dX12_isSmall_16 (by decide) ?_
    exact q_zret C dX12_isSmall_17 rfl (by decide) (Nat.le_of_ble_eq_true rfl) (Nat.le_of_ble_eq_true rfl) ⟨(by refine congrArg (fun z => some (Value.int z)) ?_; unfold inn; (try simp only [i32_lt, i32_le, i32_eq, inn_f, Decidable.not_not, tn_m1, tn_0, tn_1, tn_2, tn_3, tn_4, tn_5, tn_6, tn_7, tn_8, tn_10, tn_30, tn_31, tn_32, tn_36, tn_40, tn_50, tn_100, tn_126, tn_200, tn_255, tn_500, tn_512, tn_3000, tn_5000] at c1); split <;> rename_i hz <;> (try simp only [i32_lt, i32_le, i32_eq, inn_f, Decidable.not_not, tn_m1, tn_0, tn_1, tn_2, tn_3, tn_4, tn_5, tn_6, tn_7, tn_8, tn_10, tn_30, tn_31, tn_32, tn_36, tn_40, tn_50, tn_100, tn_126, tn_200, tn_255, tn_500, tn_512, tn_3000, tn_5000] at hz) <;> first | rfl | (exfalso; omega)), rfl, rfl⟩
  · refine q_iload_n (j := 0) C dX12_isSmall_6 rfl ?_
    refine q_bipush (v := 122) C dX12_isSmall_7 (by decide) ?_
    refine q_icmp_gt (tgt := 16) C dX12_isSmall_9 (by decide) (fun c2 => ?_) (fun c2 => ?_)
    · refine q_iconst (v := 0) C dX12_isSmall_16 (by decide) ?_
      exact q_zret C dX12_isSmall_17 rfl (by decide) (Nat.le_of_ble_eq_true rfl) (Nat.le_of_ble_eq_true rfl) ⟨(by refine congrArg (fun z => some (Value.int z)) ?_; unfold inn; (try simp only [i32_lt, i32_le, i32_eq, inn_f, Decidable.not_not, tn_m1, tn_0, tn_1, tn_2, tn_3, tn_4, tn_5, tn_6, tn_7, tn_8, tn_10, tn_30, tn_31, tn_32, tn_36, tn_40, tn_50, tn_100, tn_126, tn_200, tn_255, tn_500, tn_512, tn_3000, tn_5000] at c1); (try simp only [i32_lt, i32_le, i32_eq, inn_f, Decidable.not_not, tn_m1, tn_0, tn_1, tn_2, tn_3, tn_4, tn_5, tn_6, tn_7, tn_8, tn_10, tn_30, tn_31, tn_32, tn_36, tn_40, tn_50, tn_100, tn_126, tn_200, tn_255, tn_500, tn_512, tn_3000, tn_5000] at c2); split <;> rename_i hz <;> (try simp only [i32_lt, i32_le, i32_eq, inn_f, Decidable.not_not, tn_m1, tn_0, tn_1, tn_2, tn_3, tn_4, tn_5, tn_6, tn_7, tn_8, tn_10, tn_30, tn_31, tn_32, tn_36, tn_40, tn_50, tn_100, tn_126, tn_200, tn_255, tn_500, tn_512, tn_3000, tn_5000] at hz) <;> first | rfl | (exfalso; omega)), rfl, rfl⟩
    · refine q_iconst (v := 1) C dX12_isSmall_12 (by decide) ?_
      refine q_goto (tgt := 17) C dX12_isSmall_13 (by decide) ?_
      exact q_zret C dX12_isSmall_17 rfl (by decide) (Nat.le_of_ble_eq_true rfl) (Nat.le_of_ble_eq_true rfl) ⟨(by refine congrArg (fun z => some (Value.int z)) ?_; unfold inn; (try simp only [i32_lt, i32_le, i32_eq, inn_f, Decidable.not_not, tn_m1, tn_0, tn_1, tn_2, tn_3, tn_4, tn_5, tn_6, tn_7, tn_8, tn_10, tn_30, tn_31, tn_32, tn_36, tn_40, tn_50, tn_100, tn_126, tn_200, tn_255, tn_500, tn_512, tn_3000, tn_5000] at c1); (try simp only [i32_lt, i32_le, i32_eq, inn_f, Decidable.not_not, tn_m1, tn_0, tn_1, tn_2, tn_3, tn_4, tn_5, tn_6, tn_7, tn_8, tn_10, tn_30, tn_31, tn_32, tn_36, tn_40, tn_50, tn_100, tn_126, tn_200, tn_255, tn_500, tn_512, tn_3000, tn_5000] at c2); split <;> rename_i hz <;> (try simp only [i32_lt, i32_le, i32_eq, inn_f, Decidable.not_not, tn_m1, tn_0, tn_1, tn_2, tn_3, tn_4, tn_5, tn_6, tn_7, tn_8, tn_10, tn_30, tn_31, tn_32, tn_36, tn_40, tn_50, tn_100, tn_126, tn_200, tn_255, tn_500, tn_512, tn_3000, tn_5000] at hz) <;> first | rfl | (exfalso; omega)), rfl, rfl⟩
set_option maxHeartbeats 4000000 in
set_option maxRecDepth 100000 in
theorem s_isDigit {l : Launch} {G : GT} {L : List Nat} {E : Nat → va_E} (x : Int32) : Mq l G yX12_isDigit cX12_isDigit 1 (some .boolean) 0 [.int x] L E 0 0 (fun v L2 E2 => v = some (.int (inn x 48 57)) ∧ L2 = L ∧ E2 = E) := by
  refine Mq.mk (by decide) (Nat.le_of_ble_eq_true rfl) ?_
  intro p e s m args below meth c A C
  refine q_iload_n (j := 0) C dX12_isDigit_0 rfl ?_
  refine q_bipush (v := 48) C dX12_isDigit_1 (by decide) ?_
  refine q_icmp_lt (tgt := 16) C dX12_isDigit_3 (by decide) (fun c1 => ?_) (fun c1 => ?_)
  · refine q_iconst (v := 0) C dX12_isDigit_16 (by decide) ?_
    exact q_zret C dX12_isDigit_17 rfl (by decide) (Nat.le_of_ble_eq_true rfl) (Nat.le_of_ble_eq_true rfl) ⟨(by refine congrArg (fun z => some (Value.int z)) ?_; unfold inn; (try simp only [i32_lt, i32_le, i32_eq, inn_f, Decidable.not_not, tn_m1, tn_0, tn_1, tn_2, tn_3, tn_4, tn_5, tn_6, tn_7, tn_8, tn_10, tn_30, tn_31, tn_32, tn_36, tn_40, tn_50, tn_100, tn_126, tn_200, tn_255, tn_500, tn_512, tn_3000, tn_5000] at c1); split <;> rename_i hz <;> (try simp only [i32_lt, i32_le, i32_eq, inn_f, Decidable.not_not, tn_m1, tn_0, tn_1, tn_2, tn_3, tn_4, tn_5, tn_6, tn_7, tn_8, tn_10, tn_30, tn_31, tn_32, tn_36, tn_40, tn_50, tn_100, tn_126, tn_200, tn_255, tn_500, tn_512, tn_3000, tn_5000] at hz) <;> first | rfl | (exfalso; omega)), rfl, rfl⟩
  · refine q_iload_n (j := 0) C dX12_isDigit_6 rfl ?_
    refine q_bipush (v := 57) C dX12_isDigit_7 (by decide) ?_
    refine q_icmp_gt (tgt := 16) C dX12_isDigit_9 (by decide) (fun c2 => ?_) (fun c2 => ?_)
    · refine q_iconst (v := 0) C dX12_isDigit_16 (by decide) ?_
      exact q_zret C dX12_isDigit_17 rfl (by decide) (Nat.le_of_ble_eq_true rfl) (Nat.le_of_ble_eq_true rfl) ⟨(by refine congrArg (fun z => some (Value.int z)) ?_; unfold inn; (try simp only [i32_lt, i32_le, i32_eq, inn_f, Decidable.not_not, tn_m1, tn_0, tn_1, tn_2, tn_3, tn_4, tn_5, tn_6, tn_7, tn_8, tn_10, tn_30, tn_31, tn_32, tn_36, tn_40, tn_50, tn_100, tn_126, tn_200, tn_255, tn_500, tn_512, tn_3000, tn_5000] at c1); (try simp only [i32_lt, i32_le, i32_eq, inn_f, Decidable.not_not, tn_m1, tn_0, tn_1, tn_2, tn_3, tn_4, tn_5, tn_6, tn_7, tn_8, tn_10, tn_30, tn_31, tn_32, tn_36, tn_40, tn_50, tn_100, tn_126, tn_200, tn_255, tn_500, tn_512, tn_3000, tn_5000] at c2); split <;> rename_i hz <;> (try simp only [i32_lt, i32_le, i32_eq, inn_f, Decidable.not_not, tn_m1, tn_0, tn_1, tn_2, tn_3, tn_4, tn_5, tn_6, tn_7, tn_8, tn_10, tn_30, tn_31, tn_32, tn_36, tn_40, tn_50, tn_100, tn_126, tn_200, tn_255, tn_500, tn_512, tn_3000, tn_5000] at hz) <;> first | rfl | (exfalso; omega)), rfl, rfl⟩
    · refine q_iconst (v := 1) C dX12_isDigit_12 (by decide) ?_
      refine q_goto (tgt := 17) C dX12_isDigit_13 (by decide) ?_
      exact q_zret C dX12_isDigit_17 rfl (by decide) (Nat.le_of_ble_eq_true rfl) (Nat.le_of_ble_eq_true rfl) ⟨(by refine congrArg (fun z => some (Value.int z)) ?_; unfold inn; (try simp only [i32_lt, i32_le, i32_eq, inn_f, Decidable.not_not, tn_m1, tn_0, tn_1, tn_2, tn_3, tn_4, tn_5, tn_6, tn_7, tn_8, tn_10, tn_30, tn_31, tn_32, tn_36, tn_40, tn_50, tn_100, tn_126, tn_200, tn_255, tn_500, tn_512, tn_3000, tn_5000] at c1); (try simp only [i32_lt, i32_le, i32_eq, inn_f, Decidable.not_not, tn_m1, tn_0, tn_1, tn_2, tn_3, tn_4, tn_5, tn_6, tn_7, tn_8, tn_10, tn_30, tn_31, tn_32, tn_36, tn_40, tn_50, tn_100, tn_126, tn_200, tn_255, tn_500, tn_512, tn_3000, tn_5000] at c2); split <;> rename_i hz <;> (try simp only [i32_lt, i32_le, i32_eq, inn_f, Decidable.not_not, tn_m1, tn_0, tn_1, tn_2, tn_3, tn_4, tn_5, tn_6, tn_7, tn_8, tn_10, tn_30, tn_31, tn_32, tn_36, tn_40, tn_50, tn_100, tn_126, tn_200, tn_255, tn_500, tn_512, tn_3000, tn_5000] at hz) <;> first | rfl | (exfalso; omega)), rfl, rfl⟩
set_option maxHeartbeats 4000000 in
set_option maxRecDepth 100000 in
theorem s_isGreat {l : Launch} {G : GT} {L : List Nat} {E : Nat → va_E} (x : Int32) : Mq l G yX12_isGreat cX12_isGreat 1 (some .boolean) 0 [.int x] L E 0 0 (fun v L2 E2 => v = some (.int (inn x 65 90)) ∧ L2 = L ∧ E2 = E) := by
  refine Mq.mk (by decide) (Nat.le_of_ble_eq_true rfl) ?_
  intro p e s m args below meth c A C
  refine q_iload_n (j := 0) C dX12_isGreat_0 rfl ?_
  refine q_bipush (v := 65) C dX12_isGreat_1 (by decide) ?_
  refine q_icmp_lt (tgt := 16) C dX12_isGreat_3 (by decide) (fun c1 => ?_) (fun c1 => ?_)
  · refine q_iconst (v := 0) C dX12_isGreat_16 (by decide) ?_
    exact q_zret C dX12_isGreat_17 rfl (by decide) (Nat.le_of_ble_eq_true rfl) (Nat.le_of_ble_eq_true rfl) ⟨(by refine congrArg (fun z => some (Value.int z)) ?_; unfold inn; (try simp only [i32_lt, i32_le, i32_eq, inn_f, Decidable.not_not, tn_m1, tn_0, tn_1, tn_2, tn_3, tn_4, tn_5, tn_6, tn_7, tn_8, tn_10, tn_30, tn_31, tn_32, tn_36, tn_40, tn_50, tn_100, tn_126, tn_200, tn_255, tn_500, tn_512, tn_3000, tn_5000] at c1); split <;> rename_i hz <;> (try simp only [i32_lt, i32_le, i32_eq, inn_f, Decidable.not_not, tn_m1, tn_0, tn_1, tn_2, tn_3, tn_4, tn_5, tn_6, tn_7, tn_8, tn_10, tn_30, tn_31, tn_32, tn_36, tn_40, tn_50, tn_100, tn_126, tn_200, tn_255, tn_500, tn_512, tn_3000, tn_5000] at hz) <;> first | rfl | (exfalso; omega)), rfl, rfl⟩
  · refine q_iload_n (j := 0) C dX12_isGreat_6 rfl ?_
    refine q_bipush (v := 90) C dX12_isGreat_7 (by decide) ?_
    refine q_icmp_gt (tgt := 16) C dX12_isGreat_9 (by decide) (fun c2 => ?_) (fun c2 => ?_)
    · refine q_iconst (v := 0) C dX12_isGreat_16 (by decide) ?_
      exact q_zret C dX12_isGreat_17 rfl (by decide) (Nat.le_of_ble_eq_true rfl) (Nat.le_of_ble_eq_true rfl) ⟨(by refine congrArg (fun z => some (Value.int z)) ?_; unfold inn; (try simp only [i32_lt, i32_le, i32_eq, inn_f, Decidable.not_not, tn_m1, tn_0, tn_1, tn_2, tn_3, tn_4, tn_5, tn_6, tn_7, tn_8, tn_10, tn_30, tn_31, tn_32, tn_36, tn_40, tn_50, tn_100, tn_126, tn_200, tn_255, tn_500, tn_512, tn_3000, tn_5000] at c1); (try simp only [i32_lt, i32_le, i32_eq, inn_f, Decidable.not_not, tn_m1, tn_0, tn_1, tn_2, tn_3, tn_4, tn_5, tn_6, tn_7, tn_8, tn_10, tn_30, tn_31, tn_32, tn_36, tn_40, tn_50, tn_100, tn_126, tn_200, tn_255, tn_500, tn_512, tn_3000, tn_5000] at c2); split <;> rename_i hz <;> (try simp only [i32_lt, i32_le, i32_eq, inn_f, Decidable.not_not, tn_m1, tn_0, tn_1, tn_2, tn_3, tn_4, tn_5, tn_6, tn_7, tn_8, tn_10, tn_30, tn_31, tn_32, tn_36, tn_40, tn_50, tn_100, tn_126, tn_200, tn_255, tn_500, tn_512, tn_3000, tn_5000] at hz) <;> first | rfl | (exfalso; omega)), rfl, rfl⟩
    · refine q_iconst (v := 1) C dX12_isGreat_12 (by decide) ?_
      refine q_goto (tgt := 17) C dX12_isGreat_13 (by decide) ?_
      exact q_zret C dX12_isGreat_17 rfl (by decide) (Nat.le_of_ble_eq_true rfl) (Nat.le_of_ble_eq_true rfl) ⟨(by refine congrArg (fun z => some (Value.int z)) ?_; unfold inn; (try simp only [i32_lt, i32_le, i32_eq, inn_f, Decidable.not_not, tn_m1, tn_0, tn_1, tn_2, tn_3, tn_4, tn_5, tn_6, tn_7, tn_8, tn_10, tn_30, tn_31, tn_32, tn_36, tn_40, tn_50, tn_100, tn_126, tn_200, tn_255, tn_500, tn_512, tn_3000, tn_5000] at c1); (try simp only [i32_lt, i32_le, i32_eq, inn_f, Decidable.not_not, tn_m1, tn_0, tn_1, tn_2, tn_3, tn_4, tn_5, tn_6, tn_7, tn_8, tn_10, tn_30, tn_31, tn_32, tn_36, tn_40, tn_50, tn_100, tn_126, tn_200, tn_255, tn_500, tn_512, tn_3000, tn_5000] at c2); split <;> rename_i hz <;> (try simp only [i32_lt, i32_le, i32_eq, inn_f, Decidable.not_not, tn_m1, tn_0, tn_1, tn_2, tn_3, tn_4, tn_5, tn_6, tn_7, tn_8, tn_10, tn_30, tn_31, tn_32, tn_36, tn_40, tn_50, tn_100, tn_126, tn_200, tn_255, tn_500, tn_512, tn_3000, tn_5000] at hz) <;> first | rfl | (exfalso; omega)), rfl, rfl⟩
