abbrev lI (z : Int) : Int64 := Int64.ofInt z
theorem ediv_r {x y : Int} (hx : 0 ≤ x) (hy : 0 < y) : 0 ≤ x / y ∧ x / y ≤ x := ⟨Int.ediv_nonneg hx (by omega), Int.ediv_le_self y hx⟩
theorem iI_div {x y : Int} (hx : 0 ≤ x ∧ x ≤ 2147483647) (hy : 0 < y ∧ y ≤ 2147483647) : iI x / iI y = iI (x / y) := by
  have h := ediv_r hx.1 hy.1
  apply Int32.toInt_inj.mp
  rw [Int32.toInt_div, iI_int ⟨by omega, by omega⟩, iI_int ⟨by omega, by omega⟩, iI_int ⟨by omega, by omega⟩, Int.tdiv_eq_ediv_of_nonneg hx.1]
  exact Int.bmod_eq_of_le (by omega) (by omega)
theorem iI_mod {x y : Int} (hx : 0 ≤ x ∧ x ≤ 2147483647) (hy : 0 < y ∧ y ≤ 2147483647) : iI x - iI x / iI y * iI y = iI (x % y) := by
  rw [iI_div hx hy, ← Int32.ofInt_mul, ← Int32.ofInt_sub, Int.emod_def, Int.mul_comm]
theorem iI_ne0 {y : Int} (hy : 0 < y ∧ y ≤ 2147483647) : ¬ iI y = 0 := by
  intro h
  have := congrArg Int32.toInt h
  rw [iI_int ⟨by omega, by omega⟩] at this
  have e : (0:Int32).toInt = 0 := rfl
  omega
theorem lI_int {z : Int} (h : -4000000000000 ≤ z ∧ z ≤ 4000000000000) : (lI z).toInt = z := Int64.toInt_ofInt_of_le (by omega) (by omega)
theorem lI_of {z : Int} (h : R32 z) : (iI z).toInt64 = lI z := by
  apply Int64.toInt_inj.mp
  rw [Int32.toInt_toInt64, iI_int h, lI_int ⟨by have := h.1; omega, by have := h.2; omega⟩]
theorem lI_add (x y : Int) : lI x + lI y = lI (x + y) := (Int64.ofInt_add x y).symm
theorem lI_i (z : Int) : (lI z).toInt32 = iI z := by simp [lI, iI]
theorem lI_lt {x y : Int} (hx : -4000000000000 ≤ x ∧ x ≤ 4000000000000) (hy : -4000000000000 ≤ y ∧ y ≤ 4000000000000) : lI x < lI y ↔ x < y := by rw [Int64.lt_iff_toInt_lt, lI_int hx, lI_int hy]
theorem lI_eq {x y : Int} (hx : -4000000000000 ≤ x ∧ x ≤ 4000000000000) (hy : -4000000000000 ≤ y ∧ y ≤ 4000000000000) : lI x = lI y ↔ x = y := by rw [← Int64.toInt_inj, lI_int hx, lI_int hy]
theorem lcmp_c {x y : Int} (hx : -4000000000000 ≤ x ∧ x ≤ 4000000000000) (hy : -4000000000000 ≤ y ∧ y ≤ 4000000000000) : ∃ w : Int, ((x < y ∧ w = -1) ∨ (x = y ∧ w = 0) ∨ (y < x ∧ w = 1)) ∧ lg_cmp (lI x) (lI y) = iI w := by
  unfold lg_cmp
  by_cases h1 : y < x
  · exact ⟨1, Or.inr (Or.inr ⟨h1, rfl⟩), if_pos ((lI_lt hy hx).mpr h1)⟩
  · rw [if_neg (fun q => h1 ((lI_lt hy hx).mp q))]
    by_cases h2 : x = y
    · exact ⟨0, Or.inr (Or.inl ⟨h2, rfl⟩), if_pos ((lI_eq hx hy).mpr h2)⟩
    · exact ⟨-1, Or.inl ⟨by omega, rfl⟩, if_neg (fun q => h2 ((lI_eq hx hy).mp q))⟩
theorem q_irem {p : Program} {l : Launch} {e : Env} {R : Room} {s : State} {m : MethodId} {args : Array Value} {below : List Frame} {meth : Method} {c : Code} {cc : ByteArray} {y : MethodName} {ret : Option FieldType} {G : GT} {A : Nat → Prop} {nL : Nat} {Q : State → Prop} {L : List Nat} {E : Nat → va_E} {kc ks pc : Nat} {lv : List (Nat × Value)} {st : List Value} (C : Cq p s m args meth c cc y ret G A nL) {x y2 w : Int32} (d : decode cc pc = .ok (.irem, 1)) (hne : ¬ y2 = 0) (hv : x - x / y2 * y2 = w) (k : wq p l e R s m args below meth c G A nL Q L E kc ks (pc + 1) lv (.int w :: st)) : wq p l e R s m args below meth c G A nL Q L E kc ks pc lv (.int y2 :: .int x :: st) := fun H locs ls hP hD hS hl => lv_irem C.1 C.2.1 d hne (hv ▸ k H locs ls hP hD hS hl)
theorem m_irem {p : Program} {l : Launch} {e : Env} {R : Room} {s : State} {m : MethodId} {args : Array Value} {below : List Frame} {meth : Method} {c : Code} {cc : ByteArray} {y : MethodName} {ret : Option FieldType} {G : GT} {A : Nat → Prop} {nL : Nat} {Q : State → Prop} {h0 : Nat} {ad ln : Nat → Nat} {v : Nat → Int} {a : Nat → Nat → Int} {kc ks pc : Nat} {lv : List (Nat × Value)} {st : List Value} (C : Cq p s m args meth c cc y ret G A nL) {x y2 w : Int32} (d : decode cc pc = .ok (.irem, 1)) (hne : ¬ y2 = 0) (hv : x - x / y2 * y2 = w) (k : mw p l e R s m args below meth c G A nL Q h0 ad ln v a kc ks (pc + 1) lv (.int w :: st)) : mw p l e R s m args below meth c G A nL Q h0 ad ln v a kc ks pc lv (.int y2 :: .int x :: st) := fun L E h => q_irem C d hne hv (k L E h)
set_option maxHeartbeats 4000000 in
set_option maxRecDepth 100000 in
theorem B_fine {l : Launch} {G : GT} {h0 : Nat} {ad ln : Nat → Nat} {v : Nat → Int} {a : Nat → Nat → Int}  {x : Int} (hB : BX v a) (hx : -2147483648 ≤ x ∧ x ≤ 2147483647) : Mm l G yX12_fine cX12_fine 2 (some .int) 0 [.int (iI x)] h0 ad ln v a 0 0 (fun r v2 a2 => ∃ f : Int, r = some (.int (iI f)) ∧ fr [0, 1] [] v a v2 a2 ∧ BX v2 a2 ∧ (f = x)) := by
  refine Mm.mk (by decide) (Nat.le_of_ble_eq_true rfl) ?_
  intro p e s m args below meth c A C
  have fp0 : fr [0, 1] [] v a v a := fr.refl
  refine m_aload_n (j := 0) C dX12_fine_0 rfl ?_
  refine m_iconst C dX12_fine_1 ?_
  refine m_put (k := 0) (z := 0) C dX12_fine_2 w6_59 (by decide) rfl rfl rfl ?_
  refine hv2 (show BX (va_up v 0 0) a from hB.put (k := 0) (z := 0) ⟨by decide, by decide⟩) (fp0.put (k := 0) (z := 0) rfl) (fun bq1 fq1 => ?_)
  refine m_aload_n (j := 0) C dX12_fine_5 rfl ?_
  refine m_iconst C dX12_fine_6 ?_
  refine m_put (k := 1) (z := (-1)) C dX12_fine_7 w6_60 (by decide) rfl rfl rfl ?_
  refine hv2 (show BX (va_up (va_up v 0 0) 1 (-1)) a from bq1.put (k := 1) (z := (-1)) ⟨by decide, by decide⟩) (fq1.put (k := 1) (z := (-1)) rfl) (fun bq2 fq2 => ?_)
  refine m_iload_n (j := 1) C dX12_fine_10 rfl ?_
  exact m_iret C dX12_fine_11 rfl (Nat.le_of_ble_eq_true rfl) (Nat.le_of_ble_eq_true rfl) ⟨x, rfl, fq2, bq2, rfl⟩
set_option maxHeartbeats 4000000 in
set_option maxRecDepth 100000 in
theorem B_bad {l : Launch} {G : GT} {h0 : Nat} {ad ln : Nat → Nat} {v : Nat → Int} {a : Nat → Nat → Int}  {x : Int} (hB : BX v a) (hx : -2147483648 ≤ x ∧ x ≤ 2147483647) : Mm l G yX12_bad cX12_bad 2 (some .int) 0 [.int (iI x)] h0 ad ln v a 0 0 (fun r v2 a2 => ∃ f : Int, r = some (.int (iI f)) ∧ fr [0, 1] [] v a v2 a2 ∧ BX v2 a2 ∧ (f = -1)) := by
  refine Mm.mk (by decide) (Nat.le_of_ble_eq_true rfl) ?_
  intro p e s m args below meth c A C
  have fp0 : fr [0, 1] [] v a v a := fr.refl
  refine m_aload_n (j := 0) C dX12_bad_0 rfl ?_
  refine m_iload_n (j := 1) C dX12_bad_1 rfl ?_
  refine m_put (k := 0) (z := x) C dX12_bad_2 w6_59 (by decide) rfl rfl rfl ?_
  refine hv2 (show BX (va_up v 0 x) a from hB.put (k := 0) (z := x) (show (-2147483648) ≤ x ∧ x ≤ 2147483647 by omega)) (fp0.put (k := 0) (z := x) rfl) (fun bq1 fq1 => ?_)
  refine m_aload_n (j := 0) C dX12_bad_5 rfl ?_
  refine m_iconst C dX12_bad_6 ?_
  refine m_put (k := 1) (z := (-1)) C dX12_bad_7 w6_60 (by decide) rfl rfl rfl ?_
  refine hv2 (show BX (va_up (va_up v 0 x) 1 (-1)) a from bq1.put (k := 1) (z := (-1)) ⟨by decide, by decide⟩) (fq1.put (k := 1) (z := (-1)) rfl) (fun bq2 fq2 => ?_)
  refine m_iconst C dX12_bad_10 ?_
  exact m_iret C dX12_bad_11 rfl (Nat.le_of_ble_eq_true rfl) (Nat.le_of_ble_eq_true rfl) ⟨(-1), rfl, fq2, bq2, rfl⟩
set_option maxHeartbeats 4000000 in
set_option maxRecDepth 100000 in
theorem B_badAt {l : Launch} {G : GT} {h0 : Nat} {ad ln : Nat → Nat} {v : Nat → Int} {a : Nat → Nat → Int}  {x y : Int} (hB : BX v a) (hx : -2147483648 ≤ x ∧ x ≤ 2147483647) (hy : -2147483648 ≤ y ∧ y ≤ 2147483647) : Mm l G yX12_badAt cX12_badAt 3 (some .int) 0 [.int (iI x), .int (iI y)] h0 ad ln v a 0 0 (fun r v2 a2 => ∃ f : Int, r = some (.int (iI f)) ∧ fr [0, 1] [] v a v2 a2 ∧ BX v2 a2 ∧ (f = -1)) := by
  refine Mm.mk (by decide) (Nat.le_of_ble_eq_true rfl) ?_
  intro p e s m args below meth c A C
  have fp0 : fr [0, 1] [] v a v a := fr.refl
  refine m_aload_n (j := 0) C dX12_badAt_0 rfl ?_
  refine m_iload_n (j := 1) C dX12_badAt_1 rfl ?_
  refine m_put (k := 0) (z := x) C dX12_badAt_2 w6_59 (by decide) rfl rfl rfl ?_
  refine hv2 (show BX (va_up v 0 x) a from hB.put (k := 0) (z := x) (show (-2147483648) ≤ x ∧ x ≤ 2147483647 by omega)) (fp0.put (k := 0) (z := x) rfl) (fun bq1 fq1 => ?_)
  refine m_aload_n (j := 0) C dX12_badAt_5 rfl ?_
  refine m_iload_n (j := 1) C dX12_badAt_6 rfl ?_
  refine m_bipush (z := 7) C dX12_badAt_7 (by decide) ?_
  refine m_icmp_eq (tgt := 18) C ⟨by omega, by omega⟩ ⟨by decide, by decide⟩ dX12_badAt_9 (by decide) (fun c1 => ?_) (fun c1 => ?_)
  · refine m_iload_n (j := 2) C dX12_badAt_18 rfl ?_
    refine m_goto (tgt := 23) C dX12_badAt_19 (by decide) ?_
    refine m_put (k := 1) (z := y) C dX12_badAt_23 w6_60 (by decide) rfl rfl rfl ?_
    refine hv2 (show BX (va_up (va_up v 0 x) 1 y) a from bq1.put (k := 1) (z := y) (show (-2147483648) ≤ y ∧ y ≤ 2147483647 by omega)) (fq1.put (k := 1) (z := y) rfl) (fun bq2 fq2 => ?_)
    refine m_iconst C dX12_badAt_26 ?_
    exact m_iret C dX12_badAt_27 rfl (Nat.le_of_ble_eq_true rfl) (Nat.le_of_ble_eq_true rfl) ⟨(-1), rfl, fq2, bq2, rfl⟩
  · refine m_iload_n (j := 1) C dX12_badAt_12 rfl ?_
    refine m_bipush (z := 9) C dX12_badAt_13 (by decide) ?_
    refine m_icmp_ne (tgt := 22) C ⟨by omega, by omega⟩ ⟨by decide, by decide⟩ dX12_badAt_15 (by decide) (fun c2 => ?_) (fun c2 => ?_)
    · refine m_iconst C dX12_badAt_22 ?_
      refine m_put (k := 1) (z := (-1)) C dX12_badAt_23 w6_60 (by decide) rfl rfl rfl ?_
      refine hv2 (show BX (va_up (va_up v 0 x) 1 (-1)) a from bq1.put (k := 1) (z := (-1)) ⟨by decide, by decide⟩) (fq1.put (k := 1) (z := (-1)) rfl) (fun bq3 fq3 => ?_)
      refine m_iconst C dX12_badAt_26 ?_
      exact m_iret C dX12_badAt_27 rfl (Nat.le_of_ble_eq_true rfl) (Nat.le_of_ble_eq_true rfl) ⟨(-1), rfl, fq3, bq3, rfl⟩
    · refine m_iload_n (j := 2) C dX12_badAt_18 rfl ?_
      refine m_goto (tgt := 23) C dX12_badAt_19 (by decide) ?_
      refine m_put (k := 1) (z := y) C dX12_badAt_23 w6_60 (by decide) rfl rfl rfl ?_
      refine hv2 (show BX (va_up (va_up v 0 x) 1 y) a from bq1.put (k := 1) (z := y) (show (-2147483648) ≤ y ∧ y ≤ 2147483647 by omega)) (fq1.put (k := 1) (z := y) rfl) (fun bq4 fq4 => ?_)
      refine m_iconst C dX12_badAt_26 ?_
      exact m_iret C dX12_badAt_27 rfl (Nat.le_of_ble_eq_true rfl) (Nat.le_of_ble_eq_true rfl) ⟨(-1), rfl, fq4, bq4, rfl⟩
set_option maxHeartbeats 4000000 in
set_option maxRecDepth 100000 in
theorem B_notSet {l : Launch} {G : GT} {h0 : Nat} {ad ln : Nat → Nat} {v : Nat → Int} {a : Nat → Nat → Int}  (hB : BX v a)  : Mm l G yX12_notSet cX12_notSet 1 (some .int) 1 [] h0 ad ln v a 0 0 (fun r v2 a2 => ∃ f : Int, r = some (.int (iI f)) ∧ fr [0, 1] [] v a v2 a2 ∧ BX v2 a2 ∧ (f = -1)) := by
  refine Mm.mk (by decide) (Nat.le_of_ble_eq_true rfl) ?_
  intro p e s m args below meth c A C
  have fp0 : fr [0, 1] [] v a v a := fr.refl
  refine m_aload_n (j := 0) C dX12_notSet_0 rfl ?_
  have rv1 : (-2147483648) ≤ v 28 ∧ v 28 ≤ 2147483647 := hB.1 28
  refine m_get (k := 28) C dX12_notSet_1 w6_87 (by decide) rfl ?_
  refine m_if_ge (tgt := 16) C (r32_c (lo := (-2147483648)) (hi := 2147483647) rv1.1 rv1.2 (by decide) (by decide)) dX12_notSet_4 (by decide) (fun c1 => ?_) (fun c1 => ?_)
  · refine m_aload_n (j := 0) C dX12_notSet_16 rfl ?_
    refine m_bipush (z := 7) C dX12_notSet_17 (by decide) ?_
    refine m_aload_n (j := 0) C dX12_notSet_19 rfl ?_
    refine m_get (k := 28) C dX12_notSet_20 w6_87 (by decide) rfl ?_
    refine m_call (mc2 := 0) (ms2 := 0) (As := [.int (iI 7), .int (iI (v 28))]) (rest := []) C (B_badAt (x := 7) (y := v 28) hB (by show -2147483648 ≤ (7 : Int) ∧ (7 : Int) ≤ 2147483647; omega) (by show -2147483648 ≤ (v 28) ∧ (v 28) ≤ 2147483647; omega)) dX12_notSet_23 kV_X12_240 rfl ck_13 rfl (Nat.le_of_ble_eq_true rfl) ⟨Nat.le_of_ble_eq_true rfl, Nat.le_of_ble_eq_true rfl⟩ ⟨Nat.le_of_ble_eq_true rfl, Nat.le_of_ble_eq_true rfl⟩ (fun rh1 vh1 ah1 h1 => ?_)
    obtain ⟨f1, rfl, fn1, bn1, ex1⟩ := h1
    refine hv2 (fp0.call fn1 rfl rfl) (show f1 = -1 from ex1) (fun fq1 gf1 => ?_)
    refine m_st (st2 := [.int (iI f1)]) rfl ?_
    exact m_iret C dX12_notSet_26 rfl (Nat.le_of_ble_eq_true rfl) (Nat.le_of_ble_eq_true rfl) ⟨f1, rfl, fq1, bn1, (by omega)⟩
  · refine m_aload_n (j := 0) C dX12_notSet_7 rfl ?_
    refine m_bipush (z := 6) C dX12_notSet_8 (by decide) ?_
    refine m_call (mc2 := 0) (ms2 := 0) (As := [.int (iI 6)]) (rest := []) C (B_bad (x := 6) hB (by show -2147483648 ≤ (6 : Int) ∧ (6 : Int) ≤ 2147483647; omega)) dX12_notSet_10 kV_X12_154 rfl ck_13 rfl (Nat.le_of_ble_eq_true rfl) ⟨Nat.le_of_ble_eq_true rfl, Nat.le_of_ble_eq_true rfl⟩ ⟨Nat.le_of_ble_eq_true rfl, Nat.le_of_ble_eq_true rfl⟩ (fun rh2 vh2 ah2 h2 => ?_)
    obtain ⟨f2, rfl, fn2, bn2, ex2⟩ := h2
    refine hv2 (fp0.call fn2 rfl rfl) (show f2 = -1 from ex2) (fun fq2 gf2 => ?_)
    refine m_st (st2 := [.int (iI f2)]) rfl ?_
    refine m_goto (tgt := 26) C dX12_notSet_13 (by decide) ?_
    exact m_iret C dX12_notSet_26 rfl (Nat.le_of_ble_eq_true rfl) (Nat.le_of_ble_eq_true rfl) ⟨f2, rfl, fq2, bn2, (by omega)⟩
set_option maxHeartbeats 4000000 in
set_option maxRecDepth 100000 in
theorem B_taken {l : Launch} {G : GT} {h0 : Nat} {ad ln : Nat → Nat} {v : Nat → Int} {a : Nat → Nat → Int}  (hB : BX v a)  : Mm l G yX12_taken cX12_taken 2 (some .int) 0 [] h0 ad ln v a 0 0 (fun r v2 a2 => ∃ f : Int, r = some (.int (iI f)) ∧ fr [3] [] v a v2 a2 ∧ BX v2 a2 ∧ (f = v 3 ∧ v2 3 = 0)) := by
  refine Mm.mk (by decide) (Nat.le_of_ble_eq_true rfl) ?_
  intro p e s m args below meth c A C
  have fp0 : fr [3] [] v a v a := fr.refl
  refine m_aload_n (j := 0) C dX12_taken_0 rfl ?_
  have rv1 : 0 ≤ v 3 ∧ v 3 ≤ 3000 := hB.1 3
  refine m_get (k := 3) C dX12_taken_1 w6_62 (by decide) rfl ?_
  refine m_istore_n (lv2 := [(1, .int (iI (v 3))), (0, .ref h0)]) C dX12_taken_4 (by decide) rfl ?_
  refine m_aload_n (j := 1) C dX12_taken_5 rfl ?_
  refine m_iconst C dX12_taken_6 ?_
  refine m_put (k := 3) (z := 0) C dX12_taken_7 w6_62 (by decide) rfl rfl rfl ?_
  refine hv2 (show BX (va_up v 3 0) a from hB.put (k := 3) (z := 0) ⟨by decide, by decide⟩) (fp0.put (k := 3) (z := 0) rfl) (fun bq1 fq1 => ?_)
  refine m_iload_n (j := 0) C dX12_taken_10 rfl ?_
  exact m_iret C dX12_taken_11 rfl (Nat.le_of_ble_eq_true rfl) (Nat.le_of_ble_eq_true rfl) ⟨(v 3), rfl, fq1, bq1, ⟨rfl, rfl⟩⟩
set_option maxHeartbeats 4000000 in
set_option maxRecDepth 100000 in
theorem B_isTable {l : Launch} {G : GT} {h0 : Nat} {ad ln : Nat → Nat} {v : Nat → Int} {a : Nat → Nat → Int}  {t : Int} (hB : BX v a) (ht : -2147483648 ≤ t ∧ t ≤ 2147483647) : Mm l G yX12_isTable cX12_isTable 2 (some .boolean) 0 [.int (iI t)] h0 ad ln v a 0 0 (fun r v2 a2 => ∃ f : Int, r = some (.int (iI f)) ∧ fr [] [] v a v2 a2 ∧ BX v2 a2 ∧ ((f = 0 ∧ (t < 0 ∨ v 4 ≤ t ∨ a 5 t.toNat = 0)) ∨ (f = 1 ∧ 0 ≤ t ∧ t < v 4 ∧ a 5 t.toNat = 1))) := by
  refine Mm.mk (by decide) (Nat.le_of_ble_eq_true rfl) ?_
  intro p e s m args below meth c A C
  refine hv2 (show 0 ≤ v 4 ∧ v 4 ≤ 30 from hB.1 4) (show fr [] [] v a v a from fr.refl) (fun h30 fp0 => ?_)
  refine m_iload_n (j := 1) C dX12_isTable_0 rfl ?_
  refine m_if_lt (tgt := 25) C ⟨by omega, by omega⟩ dX12_isTable_1 (by decide) (fun c1 => ?_) (fun c1 => ?_)
  · refine m_iconst C dX12_isTable_25 ?_
    exact m_zret C dX12_isTable_26 rfl (Or.inl rfl) (Nat.le_of_ble_eq_true rfl) (Nat.le_of_ble_eq_true rfl) ⟨0, rfl, fp0, hB, (by omega)⟩
  · refine m_iload_n (j := 1) C dX12_isTable_4 rfl ?_
    refine m_aload_n (j := 0) C dX12_isTable_5 rfl ?_
    have rv1 : 0 ≤ v 4 ∧ v 4 ≤ 30 := hB.1 4
    refine m_get (k := 4) C dX12_isTable_6 w6_63 (by decide) rfl ?_
    refine m_icmp_ge (tgt := 25) C ⟨by omega, by omega⟩ (r32_c (lo := 0) (hi := 30) rv1.1 rv1.2 (by decide) (by decide)) dX12_isTable_9 (by decide) (fun c2 => ?_) (fun c2 => ?_)
    · refine m_iconst C dX12_isTable_25 ?_
      exact m_zret C dX12_isTable_26 rfl (Or.inl rfl) (Nat.le_of_ble_eq_true rfl) (Nat.le_of_ble_eq_true rfl) ⟨0, rfl, fp0, hB, (by omega)⟩
    · refine m_aload_n (j := 0) C dX12_isTable_12 rfl ?_
      refine m_geta (k := 5) C dX12_isTable_13 w6_64 (by decide) rfl ?_
      refine m_iload_n (j := 1) C dX12_isTable_16 rfl ?_
      refine m_zald (k := 5) C dX12_isTable_17 rfl rfl (by decide) (by omega) (by show _ < ((_ : Nat) : Int); simp only [mlen]; omega) (by decide) ?_
      have ra1 : 0 ≤ a 5 t.toNat ∧ a 5 t.toNat ≤ 1 := hB.2 5 (t.toNat)
      refine m_if_eq (tgt := 25) C (r32_c (lo := 0) (hi := 1) ra1.1 ra1.2 (by decide) (by decide)) dX12_isTable_18 (by decide) (fun c3 => ?_) (fun c3 => ?_)
      · refine m_iconst C dX12_isTable_25 ?_
        exact m_zret C dX12_isTable_26 rfl (Or.inl rfl) (Nat.le_of_ble_eq_true rfl) (Nat.le_of_ble_eq_true rfl) ⟨0, rfl, fp0, hB, (by omega)⟩
      · refine m_iconst C dX12_isTable_21 ?_
        refine m_goto (tgt := 26) C dX12_isTable_22 (by decide) ?_
        exact m_zret C dX12_isTable_26 rfl (Or.inr rfl) (Nat.le_of_ble_eq_true rfl) (Nat.le_of_ble_eq_true rfl) ⟨1, rfl, fp0, hB, (by omega)⟩
def WholeC (l : Launch) (G : GT) (h0 : Nat) (ad ln : Nat → Nat) (d : Nat) (t : Int) : Prop := ∀ (v : Nat → Int) (a : Nat → Nat → Int), BX v a → TBL v a → Mm l G yX12_isWhole cX12_isWhole 2 (some .boolean) d [.int (iI t)] h0 ad ln v a 0 0 (fun r v2 a2 => ∃ f : Int, r = some (.int (iI f)) ∧ fr [] [] v a v2 a2 ∧ BX v2 a2 ∧ (f = 0 ∨ (f = 1 ∧ 0 ≤ t ∧ t < v 4)))
set_option maxHeartbeats 4000000 in
set_option maxRecDepth 100000 in
theorem M_isWhole1 {l : Launch} {G : GT} {h0 : Nat} {ad ln : Nat → Nat} {v : Nat → Int} {a : Nat → Nat → Int} {d : Nat} {t : Int} (hB : BX v a) (hT : TBL v a) (ht : -2147483648 ≤ t ∧ t ≤ 2147483647) (hd : 3 ≤ d) (hf : ∀ b : Int, 0 ≤ b → b < t → WholeC l G h0 ad ln d b) : Mm l G yX12_isWhole cX12_isWhole 2 (some .boolean) (d + 1) [.int (iI t)] h0 ad ln v a 0 0 (fun r v2 a2 => ∃ f : Int, r = some (.int (iI f)) ∧ fr [] [] v a v2 a2 ∧ BX v2 a2 ∧ (f = 0 ∨ (f = 1 ∧ 0 ≤ t ∧ t < v 4))) := by
  refine Mm.mk (by decide) (Nat.le_of_ble_eq_true rfl) ?_
  intro p e s m args below meth c A C
  refine hv2 (show 0 ≤ v 4 ∧ v 4 ≤ 30 from hB.1 4) (show fr [] [] v a v a from fr.refl) (fun h30 fp0 => ?_)
  refine m_aload_n (j := 0) C dX12_isWhole_0 rfl ?_
  refine m_iload_n (j := 1) C dX12_isWhole_1 rfl ?_
  have rv1 : 0 ≤ v 4 ∧ v 4 ≤ 30 := hB.1 4
  refine m_call (mc2 := 0) (ms2 := 0) (As := [.int (iI t)]) (rest := []) C (B_isTable (t := t) hB (by show -2147483648 ≤ t ∧ t ≤ 2147483647; omega)) dX12_isWhole_2 kV_X12_167 rfl ck_13 rfl (Nat.le_of_ble_eq_true rfl) ⟨by dsimp only [rmq]; omega, by dsimp only [rmq]; omega⟩ ⟨Nat.le_of_ble_eq_true rfl, Nat.le_of_ble_eq_true rfl⟩ (fun rh1 vh1 ah1 h1 => ?_)
  obtain ⟨f1, rfl, fn1, bn1, ex1⟩ := h1
  obtain ⟨rfl, rfl⟩ := fn1.eq
  refine hv2 (show (f1 = 0 ∧ (t < 0 ∨ (v 4) ≤ t ∨ a 5 t.toNat = 0)) ∨ (f1 = 1 ∧ 0 ≤ t ∧ t < (v 4) ∧ a 5 t.toNat = 1) from ex1) (show 0 ≤ a 5 t.toNat ∧ a 5 t.toNat ≤ 1 from hB.2 5 (t.toNat)) (fun gf1 ra1 => ?_)
  refine m_st (st2 := [.int (iI f1)]) rfl ?_
  refine m_if_ne (tgt := 10) C (r32_pq gf1) dX12_isWhole_5 (by decide) (fun c1 => ?_) (fun c1 => ?_)
  · replace gf1 := (gf1.resolve_left (fun q => c1 q.1))
    have ht0 := hT.1 t (by omega) (by omega)
    refine m_aload_n (j := 0) C dX12_isWhole_10 rfl ?_
    refine m_geta (k := 6) C dX12_isWhole_11 w6_65 (by decide) rfl ?_
    refine m_iload_n (j := 1) C dX12_isWhole_14 rfl ?_
    refine m_ald (k := 6) C dX12_isWhole_15 rfl rfl (by decide) (by omega) (by show _ < ((_ : Nat) : Int); simp only [mlen]; omega) (by decide) ?_
    have ra2 : 0 ≤ a 6 t.toNat ∧ a 6 t.toNat ≤ 5 := hB.2 6 (t.toNat)
    refine m_iconst C dX12_isWhole_16 ?_
    refine m_icmp_ne (tgt := 52) C (r32_c (lo := 0) (hi := 5) ra2.1 ra2.2 (by decide) (by decide)) ⟨by decide, by decide⟩ dX12_isWhole_17 (by decide) (fun c2 => ?_) (fun c2 => ?_)
    · refine m_aload_n (j := 0) C dX12_isWhole_52 rfl ?_
      refine m_geta (k := 6) C dX12_isWhole_53 w6_65 (by decide) rfl ?_
      refine m_iload_n (j := 1) C dX12_isWhole_56 rfl ?_
      refine m_ald (k := 6) C dX12_isWhole_57 rfl rfl (by decide) (by omega) (by show _ < ((_ : Nat) : Int); simp only [mlen]; omega) (by decide) ?_
      refine m_iconst C dX12_isWhole_58 ?_
      refine m_icmp_lt (tgt := 85) C (r32_c (lo := 0) (hi := 5) ra2.1 ra2.2 (by decide) (by decide)) ⟨by decide, by decide⟩ dX12_isWhole_59 (by decide) (fun c3 => ?_) (fun c3 => ?_)
      · refine m_iconst C dX12_isWhole_85 ?_
        refine m_goto (tgt := 90) C dX12_isWhole_86 (by decide) ?_
        exact m_zret C dX12_isWhole_90 rfl (Or.inr rfl) (Nat.le_of_ble_eq_true rfl) (Nat.le_of_ble_eq_true rfl) ⟨1, rfl, fp0, hB, (by omega)⟩
      · refine m_aload_n (j := 0) C dX12_isWhole_62 rfl ?_
        refine m_geta (k := 6) C dX12_isWhole_63 w6_65 (by decide) rfl ?_
        refine m_iload_n (j := 1) C dX12_isWhole_66 rfl ?_
        refine m_ald (k := 6) C dX12_isWhole_67 rfl rfl (by decide) (by omega) (by show _ < ((_ : Nat) : Int); simp only [mlen]; omega) (by decide) ?_
        refine m_iconst C dX12_isWhole_68 ?_
        refine m_icmp_gt (tgt := 85) C (r32_c (lo := 0) (hi := 5) ra2.1 ra2.2 (by decide) (by decide)) ⟨by decide, by decide⟩ dX12_isWhole_69 (by decide) (fun c4 => ?_) (fun c4 => ?_)
        · refine m_iconst C dX12_isWhole_85 ?_
          refine m_goto (tgt := 90) C dX12_isWhole_86 (by decide) ?_
          exact m_zret C dX12_isWhole_90 rfl (Or.inr rfl) (Nat.le_of_ble_eq_true rfl) (Nat.le_of_ble_eq_true rfl) ⟨1, rfl, fp0, hB, (by omega)⟩
        · refine m_aload_n (j := 0) C dX12_isWhole_72 rfl ?_
          refine m_aload_n (j := 0) C dX12_isWhole_73 rfl ?_
          refine m_geta (k := 8) C dX12_isWhole_74 w6_67 (by decide) rfl ?_
          refine m_iload_n (j := 1) C dX12_isWhole_77 rfl ?_
          refine m_ald (k := 8) C dX12_isWhole_78 rfl rfl (by decide) (by omega) (by show _ < ((_ : Nat) : Int); simp only [mlen]; omega) (by decide) ?_
          have ra3 : (-1) ≤ a 8 t.toNat ∧ a 8 t.toNat ≤ 29 := hB.2 8 (t.toNat)
          refine m_call (mc2 := 0) (ms2 := 0) (As := [.int (iI (a 8 t.toNat))]) (rest := []) C (hf (a 8 t.toNat) (by omega) (by omega) _ _ hB hT) dX12_isWhole_79 kV_X12_171 rfl ck_13 rfl (Nat.le_of_ble_eq_true rfl) ⟨by dsimp only [rmq]; omega, by dsimp only [rmq]; omega⟩ ⟨Nat.le_of_ble_eq_true rfl, Nat.le_of_ble_eq_true rfl⟩ (fun rh2 vh2 ah2 h2 => ?_)
          obtain ⟨f2, rfl, fn2, _, ef2⟩ := h2
          obtain ⟨rfl, rfl⟩ := fn2.eq
          refine m_st (st2 := [.int (iI f2)]) rfl ?_
          refine m_if_eq (tgt := 89) C ⟨by omega, by omega⟩ dX12_isWhole_82 (by decide) (fun c5 => ?_) (fun c5 => ?_)
          · refine m_iconst C dX12_isWhole_89 ?_
            exact m_zret C dX12_isWhole_90 rfl (Or.inl rfl) (Nat.le_of_ble_eq_true rfl) (Nat.le_of_ble_eq_true rfl) ⟨0, rfl, fp0, hB, (by omega)⟩
          · refine m_iconst C dX12_isWhole_85 ?_
            refine m_goto (tgt := 90) C dX12_isWhole_86 (by decide) ?_
            exact m_zret C dX12_isWhole_90 rfl (Or.inr rfl) (Nat.le_of_ble_eq_true rfl) (Nat.le_of_ble_eq_true rfl) ⟨1, rfl, fp0, hB, (by omega)⟩
    · refine m_aload_n (j := 0) C dX12_isWhole_20 rfl ?_
      refine m_aload_n (j := 0) C dX12_isWhole_21 rfl ?_
      refine m_geta (k := 8) C dX12_isWhole_22 w6_67 (by decide) rfl ?_
      refine m_iload_n (j := 1) C dX12_isWhole_25 rfl ?_
      refine m_ald (k := 8) C dX12_isWhole_26 rfl rfl (by decide) (by omega) (by show _ < ((_ : Nat) : Int); simp only [mlen]; omega) (by decide) ?_
      have ra4 : (-1) ≤ a 8 t.toNat ∧ a 8 t.toNat ≤ 29 := hB.2 8 (t.toNat)
      refine m_call (mc2 := 0) (ms2 := 0) (As := [.int (iI (a 8 t.toNat))]) (rest := []) C (hf (a 8 t.toNat) (by omega) (by omega) _ _ hB hT) dX12_isWhole_27 kV_X12_171 rfl ck_13 rfl (Nat.le_of_ble_eq_true rfl) ⟨by dsimp only [rmq]; omega, by dsimp only [rmq]; omega⟩ ⟨Nat.le_of_ble_eq_true rfl, Nat.le_of_ble_eq_true rfl⟩ (fun rh3 vh3 ah3 h3 => ?_)
      obtain ⟨f3, rfl, fn3, _, ef3⟩ := h3
      obtain ⟨rfl, rfl⟩ := fn3.eq
      refine m_st (st2 := [.int (iI f3)]) rfl ?_
      refine m_if_eq (tgt := 50) C ⟨by omega, by omega⟩ dX12_isWhole_30 (by decide) (fun c6 => ?_) (fun c6 => ?_)
      · refine m_iconst C dX12_isWhole_50 ?_
        exact m_zret C dX12_isWhole_51 rfl (Or.inl rfl) (Nat.le_of_ble_eq_true rfl) (Nat.le_of_ble_eq_true rfl) ⟨0, rfl, fp0, hB, (by omega)⟩
      · refine m_aload_n (j := 0) C dX12_isWhole_33 rfl ?_
        refine m_aload_n (j := 0) C dX12_isWhole_34 rfl ?_
        refine m_geta (k := 9) C dX12_isWhole_35 w6_68 (by decide) rfl ?_
        refine m_iload_n (j := 1) C dX12_isWhole_38 rfl ?_
        refine m_ald (k := 9) C dX12_isWhole_39 rfl rfl (by decide) (by omega) (by show _ < ((_ : Nat) : Int); simp only [mlen]; omega) (by decide) ?_
        have ra5 : (-1) ≤ a 9 t.toNat ∧ a 9 t.toNat ≤ 29 := hB.2 9 (t.toNat)
        refine m_call (mc2 := 0) (ms2 := 0) (As := [.int (iI (a 9 t.toNat))]) (rest := []) C (hf (a 9 t.toNat) (by omega) (by omega) _ _ hB hT) dX12_isWhole_40 kV_X12_171 rfl ck_13 rfl (Nat.le_of_ble_eq_true rfl) ⟨by dsimp only [rmq]; omega, by dsimp only [rmq]; omega⟩ ⟨Nat.le_of_ble_eq_true rfl, Nat.le_of_ble_eq_true rfl⟩ (fun rh4 vh4 ah4 h4 => ?_)
        obtain ⟨f4, rfl, fn4, _, ef4⟩ := h4
        obtain ⟨rfl, rfl⟩ := fn4.eq
        refine m_st (st2 := [.int (iI f4)]) rfl ?_
        refine m_if_eq (tgt := 50) C ⟨by omega, by omega⟩ dX12_isWhole_43 (by decide) (fun c7 => ?_) (fun c7 => ?_)
        · refine m_iconst C dX12_isWhole_50 ?_
          exact m_zret C dX12_isWhole_51 rfl (Or.inl rfl) (Nat.le_of_ble_eq_true rfl) (Nat.le_of_ble_eq_true rfl) ⟨0, rfl, fp0, hB, (by omega)⟩
        · refine m_iconst C dX12_isWhole_46 ?_
          refine m_goto (tgt := 51) C dX12_isWhole_47 (by decide) ?_
          exact m_zret C dX12_isWhole_51 rfl (Or.inr rfl) (Nat.le_of_ble_eq_true rfl) (Nat.le_of_ble_eq_true rfl) ⟨1, rfl, fp0, hB, (by omega)⟩
  · replace gf1 := (gf1.resolve_right (fun q => absurd (q.1.symm.trans c1) (by decide)))
    refine m_iconst C dX12_isWhole_8 ?_
    exact m_zret C dX12_isWhole_9 rfl (Or.inl rfl) (Nat.le_of_ble_eq_true rfl) (Nat.le_of_ble_eq_true rfl) ⟨0, rfl, fp0, hB, (by omega)⟩
theorem M_isWholeN {l : Launch} {G : GT} {h0 : Nat} {ad ln : Nat → Nat} : ∀ (n : Nat) (t : Int), 0 ≤ t → t < (n : Int) → n ≤ 30 → WholeC l G h0 ad ln (n + 3) t := by
  intro n
  induction n with
  | zero => intro t h1 h2; omega
  | succ n ih =>
    intro t h1 h2 h3 v a hB hT
    exact M_isWhole1 (d := n + 3) hB hT ⟨by omega, by omega⟩ (by omega) (fun b hb hb2 => ih b hb (by omega) (by omega))
set_option maxHeartbeats 4000000 in
set_option maxRecDepth 100000 in
theorem M_isWhole {l : Launch} {G : GT} {h0 : Nat} {ad ln : Nat → Nat} {v : Nat → Int} {a : Nat → Nat → Int}  {t : Int} (hB : BX v a) (hT : TBL v a) (ht : -2147483648 ≤ t ∧ t ≤ 2147483647) : Mm l G yX12_isWhole cX12_isWhole 2 (some .boolean) 34 [.int (iI t)] h0 ad ln v a 0 0 (fun r v2 a2 => ∃ f : Int, r = some (.int (iI f)) ∧ fr [] [] v a v2 a2 ∧ BX v2 a2 ∧ (f = 0 ∨ (f = 1 ∧ 0 ≤ t ∧ t < v 4))) := by
  refine Mm.mk (by decide) (Nat.le_of_ble_eq_true rfl) ?_
  intro p e s m args below meth c A C
  refine hv2 (show 0 ≤ v 4 ∧ v 4 ≤ 30 from hB.1 4) (show fr [] [] v a v a from fr.refl) (fun h30 fp0 => ?_)
  refine m_aload_n (j := 0) C dX12_isWhole_0 rfl ?_
  refine m_iload_n (j := 1) C dX12_isWhole_1 rfl ?_
  have rv1 : 0 ≤ v 4 ∧ v 4 ≤ 30 := hB.1 4
  refine m_call (mc2 := 0) (ms2 := 0) (As := [.int (iI t)]) (rest := []) C (B_isTable (t := t) hB (by show -2147483648 ≤ t ∧ t ≤ 2147483647; omega)) dX12_isWhole_2 kV_X12_167 rfl ck_13 rfl (Nat.le_of_ble_eq_true rfl) ⟨Nat.le_of_ble_eq_true rfl, Nat.le_of_ble_eq_true rfl⟩ ⟨Nat.le_of_ble_eq_true rfl, Nat.le_of_ble_eq_true rfl⟩ (fun rh1 vh1 ah1 h1 => ?_)
  obtain ⟨f1, rfl, fn1, bn1, ex1⟩ := h1
  obtain ⟨rfl, rfl⟩ := fn1.eq
  refine hv2 (show (f1 = 0 ∧ (t < 0 ∨ (v 4) ≤ t ∨ a 5 t.toNat = 0)) ∨ (f1 = 1 ∧ 0 ≤ t ∧ t < (v 4) ∧ a 5 t.toNat = 1) from ex1) (show 0 ≤ a 5 t.toNat ∧ a 5 t.toNat ≤ 1 from hB.2 5 (t.toNat)) (fun gf1 ra1 => ?_)
  refine m_st (st2 := [.int (iI f1)]) rfl ?_
  refine m_if_ne (tgt := 10) C (r32_pq gf1) dX12_isWhole_5 (by decide) (fun c1 => ?_) (fun c1 => ?_)
  · replace gf1 := (gf1.resolve_left (fun q => c1 q.1))
    have ht0 := hT.1 t (by omega) (by omega)
    refine m_aload_n (j := 0) C dX12_isWhole_10 rfl ?_
    refine m_geta (k := 6) C dX12_isWhole_11 w6_65 (by decide) rfl ?_
    refine m_iload_n (j := 1) C dX12_isWhole_14 rfl ?_
    refine m_ald (k := 6) C dX12_isWhole_15 rfl rfl (by decide) (by omega) (by show _ < ((_ : Nat) : Int); simp only [mlen]; omega) (by decide) ?_
    have ra2 : 0 ≤ a 6 t.toNat ∧ a 6 t.toNat ≤ 5 := hB.2 6 (t.toNat)
    refine m_iconst C dX12_isWhole_16 ?_
    refine m_icmp_ne (tgt := 52) C (r32_c (lo := 0) (hi := 5) ra2.1 ra2.2 (by decide) (by decide)) ⟨by decide, by decide⟩ dX12_isWhole_17 (by decide) (fun c2 => ?_) (fun c2 => ?_)
    · refine m_aload_n (j := 0) C dX12_isWhole_52 rfl ?_
      refine m_geta (k := 6) C dX12_isWhole_53 w6_65 (by decide) rfl ?_
      refine m_iload_n (j := 1) C dX12_isWhole_56 rfl ?_
      refine m_ald (k := 6) C dX12_isWhole_57 rfl rfl (by decide) (by omega) (by show _ < ((_ : Nat) : Int); simp only [mlen]; omega) (by decide) ?_
      refine m_iconst C dX12_isWhole_58 ?_
      refine m_icmp_lt (tgt := 85) C (r32_c (lo := 0) (hi := 5) ra2.1 ra2.2 (by decide) (by decide)) ⟨by decide, by decide⟩ dX12_isWhole_59 (by decide) (fun c3 => ?_) (fun c3 => ?_)
      · refine m_iconst C dX12_isWhole_85 ?_
        refine m_goto (tgt := 90) C dX12_isWhole_86 (by decide) ?_
        exact m_zret C dX12_isWhole_90 rfl (Or.inr rfl) (Nat.le_of_ble_eq_true rfl) (Nat.le_of_ble_eq_true rfl) ⟨1, rfl, fp0, hB, (by omega)⟩
      · refine m_aload_n (j := 0) C dX12_isWhole_62 rfl ?_
        refine m_geta (k := 6) C dX12_isWhole_63 w6_65 (by decide) rfl ?_
        refine m_iload_n (j := 1) C dX12_isWhole_66 rfl ?_
        refine m_ald (k := 6) C dX12_isWhole_67 rfl rfl (by decide) (by omega) (by show _ < ((_ : Nat) : Int); simp only [mlen]; omega) (by decide) ?_
        refine m_iconst C dX12_isWhole_68 ?_
        refine m_icmp_gt (tgt := 85) C (r32_c (lo := 0) (hi := 5) ra2.1 ra2.2 (by decide) (by decide)) ⟨by decide, by decide⟩ dX12_isWhole_69 (by decide) (fun c4 => ?_) (fun c4 => ?_)
        · refine m_iconst C dX12_isWhole_85 ?_
          refine m_goto (tgt := 90) C dX12_isWhole_86 (by decide) ?_
          exact m_zret C dX12_isWhole_90 rfl (Or.inr rfl) (Nat.le_of_ble_eq_true rfl) (Nat.le_of_ble_eq_true rfl) ⟨1, rfl, fp0, hB, (by omega)⟩
        · refine m_aload_n (j := 0) C dX12_isWhole_72 rfl ?_
          refine m_aload_n (j := 0) C dX12_isWhole_73 rfl ?_
          refine m_geta (k := 8) C dX12_isWhole_74 w6_67 (by decide) rfl ?_
          refine m_iload_n (j := 1) C dX12_isWhole_77 rfl ?_
          refine m_ald (k := 8) C dX12_isWhole_78 rfl rfl (by decide) (by omega) (by show _ < ((_ : Nat) : Int); simp only [mlen]; omega) (by decide) ?_
          have ra3 : (-1) ≤ a 8 t.toNat ∧ a 8 t.toNat ≤ 29 := hB.2 8 (t.toNat)
          refine m_call (mc2 := 0) (ms2 := 0) (As := [.int (iI (a 8 t.toNat))]) (rest := []) C ((M_isWholeN 30 (a 8 t.toNat) (by omega) (by omega) (Nat.le_refl _)) _ _ hB hT) dX12_isWhole_79 kV_X12_171 rfl ck_13 rfl (Nat.le_of_ble_eq_true rfl) ⟨Nat.le_of_ble_eq_true rfl, Nat.le_of_ble_eq_true rfl⟩ ⟨Nat.le_of_ble_eq_true rfl, Nat.le_of_ble_eq_true rfl⟩ (fun rh2 vh2 ah2 h2 => ?_)
          obtain ⟨f2, rfl, fn2, _, ef2⟩ := h2
          obtain ⟨rfl, rfl⟩ := fn2.eq
          refine m_st (st2 := [.int (iI f2)]) rfl ?_
          refine m_if_eq (tgt := 89) C ⟨by omega, by omega⟩ dX12_isWhole_82 (by decide) (fun c5 => ?_) (fun c5 => ?_)
          · refine m_iconst C dX12_isWhole_89 ?_
            exact m_zret C dX12_isWhole_90 rfl (Or.inl rfl) (Nat.le_of_ble_eq_true rfl) (Nat.le_of_ble_eq_true rfl) ⟨0, rfl, fp0, hB, (by omega)⟩
          · refine m_iconst C dX12_isWhole_85 ?_
            refine m_goto (tgt := 90) C dX12_isWhole_86 (by decide) ?_
            exact m_zret C dX12_isWhole_90 rfl (Or.inr rfl) (Nat.le_of_ble_eq_true rfl) (Nat.le_of_ble_eq_true rfl) ⟨1, rfl, fp0, hB, (by omega)⟩
    · refine m_aload_n (j := 0) C dX12_isWhole_20 rfl ?_
      refine m_aload_n (j := 0) C dX12_isWhole_21 rfl ?_
      refine m_geta (k := 8) C dX12_isWhole_22 w6_67 (by decide) rfl ?_
      refine m_iload_n (j := 1) C dX12_isWhole_25 rfl ?_
      refine m_ald (k := 8) C dX12_isWhole_26 rfl rfl (by decide) (by omega) (by show _ < ((_ : Nat) : Int); simp only [mlen]; omega) (by decide) ?_
      have ra4 : (-1) ≤ a 8 t.toNat ∧ a 8 t.toNat ≤ 29 := hB.2 8 (t.toNat)
      refine m_call (mc2 := 0) (ms2 := 0) (As := [.int (iI (a 8 t.toNat))]) (rest := []) C ((M_isWholeN 30 (a 8 t.toNat) (by omega) (by omega) (Nat.le_refl _)) _ _ hB hT) dX12_isWhole_27 kV_X12_171 rfl ck_13 rfl (Nat.le_of_ble_eq_true rfl) ⟨Nat.le_of_ble_eq_true rfl, Nat.le_of_ble_eq_true rfl⟩ ⟨Nat.le_of_ble_eq_true rfl, Nat.le_of_ble_eq_true rfl⟩ (fun rh3 vh3 ah3 h3 => ?_)
      obtain ⟨f3, rfl, fn3, _, ef3⟩ := h3
      obtain ⟨rfl, rfl⟩ := fn3.eq
      refine m_st (st2 := [.int (iI f3)]) rfl ?_
      refine m_if_eq (tgt := 50) C ⟨by omega, by omega⟩ dX12_isWhole_30 (by decide) (fun c6 => ?_) (fun c6 => ?_)
      · refine m_iconst C dX12_isWhole_50 ?_
        exact m_zret C dX12_isWhole_51 rfl (Or.inl rfl) (Nat.le_of_ble_eq_true rfl) (Nat.le_of_ble_eq_true rfl) ⟨0, rfl, fp0, hB, (by omega)⟩
      · refine m_aload_n (j := 0) C dX12_isWhole_33 rfl ?_
        refine m_aload_n (j := 0) C dX12_isWhole_34 rfl ?_
        refine m_geta (k := 9) C dX12_isWhole_35 w6_68 (by decide) rfl ?_
        refine m_iload_n (j := 1) C dX12_isWhole_38 rfl ?_
        refine m_ald (k := 9) C dX12_isWhole_39 rfl rfl (by decide) (by omega) (by show _ < ((_ : Nat) : Int); simp only [mlen]; omega) (by decide) ?_
        have ra5 : (-1) ≤ a 9 t.toNat ∧ a 9 t.toNat ≤ 29 := hB.2 9 (t.toNat)
        refine m_call (mc2 := 0) (ms2 := 0) (As := [.int (iI (a 9 t.toNat))]) (rest := []) C ((M_isWholeN 30 (a 9 t.toNat) (by omega) (by omega) (Nat.le_refl _)) _ _ hB hT) dX12_isWhole_40 kV_X12_171 rfl ck_13 rfl (Nat.le_of_ble_eq_true rfl) ⟨Nat.le_of_ble_eq_true rfl, Nat.le_of_ble_eq_true rfl⟩ ⟨Nat.le_of_ble_eq_true rfl, Nat.le_of_ble_eq_true rfl⟩ (fun rh4 vh4 ah4 h4 => ?_)
        obtain ⟨f4, rfl, fn4, _, ef4⟩ := h4
        obtain ⟨rfl, rfl⟩ := fn4.eq
        refine m_st (st2 := [.int (iI f4)]) rfl ?_
        refine m_if_eq (tgt := 50) C ⟨by omega, by omega⟩ dX12_isWhole_43 (by decide) (fun c7 => ?_) (fun c7 => ?_)
        · refine m_iconst C dX12_isWhole_50 ?_
          exact m_zret C dX12_isWhole_51 rfl (Or.inl rfl) (Nat.le_of_ble_eq_true rfl) (Nat.le_of_ble_eq_true rfl) ⟨0, rfl, fp0, hB, (by omega)⟩
        · refine m_iconst C dX12_isWhole_46 ?_
          refine m_goto (tgt := 51) C dX12_isWhole_47 (by decide) ?_
          exact m_zret C dX12_isWhole_51 rfl (Or.inr rfl) (Nat.le_of_ble_eq_true rfl) (Nat.le_of_ble_eq_true rfl) ⟨1, rfl, fp0, hB, (by omega)⟩
  · replace gf1 := (gf1.resolve_right (fun q => absurd (q.1.symm.trans c1) (by decide)))
    refine m_iconst C dX12_isWhole_8 ?_
    exact m_zret C dX12_isWhole_9 rfl (Or.inl rfl) (Nat.le_of_ble_eq_true rfl) (Nat.le_of_ble_eq_true rfl) ⟨0, rfl, fp0, hB, (by omega)⟩
