def mmin (x y : Int32) : Int32 := if y < x then y else x
theorem mmin_c {x y : Int} (hx : R32 x) (hy : R32 y) : ∃ w : Int, ((w = x ∧ x ≤ y) ∨ (w = y ∧ y < x)) ∧ mmin (iI x) (iI y) = iI w := by
  unfold mmin
  by_cases h : y < x
  · exact ⟨y, Or.inr ⟨rfl, h⟩, if_pos ((iI_lt hy hx).mpr h)⟩
  · exact ⟨x, Or.inl ⟨rfl, by omega⟩, if_neg (fun q => h ((iI_lt hy hx).mp q))⟩
theorem mmax_c {x y : Int} (hx : R32 x) (hy : R32 y) : ∃ w : Int, ((w = x ∧ y ≤ x) ∨ (w = y ∧ x < y)) ∧ (if iI x < iI y then iI y else iI x) = iI w := by
  by_cases h : x < y
  · exact ⟨y, Or.inr ⟨rfl, h⟩, if_pos ((iI_lt hx hy).mpr h)⟩
  · exact ⟨x, Or.inl ⟨rfl, by omega⟩, if_neg (fun q => h ((iI_lt hx hy).mp q))⟩
theorem m_mmin {p : Program} {l : Launch} {e : Env} {R : Room} {s : State} {m : MethodId} {args : Array Value} {below : List Frame} {meth : Method} {c : Code} {cc : ByteArray} {y : MethodName} {ret : Option FieldType} {G : GT} {A : Nat → Prop} {nL : Nat} {Q : State → Prop} {h0 : Nat} {ad ln : Nat → Nat} {v : Nat → Int} {a : Nat → Nat → Int} {kc ks pc : Nat} {lv : List (Nat × Value)} {st : List Value} (C : Cq p s m args meth c cc y ret G A nL) {idx : Nat} {x y2 w : Int32} (d : decode cc pc = .ok (.invokestatic idx, 3)) (lk : Cond.methodLink y.cls idx Lib.Math.min.name ∈ lw_g) (h1 : Cond.static Lib.Math.min.name ∈ lw_g) (h2 : Cond.initialized "java/lang/Math" ∈ lw_g) (h3 : Cond.code Lib.Math.min.name Lib.Math.min.code 2 (some .int) ∈ lw_g) (hR : 1 ≤ R.frames ∧ 21 ≤ R.locals) (hf : kc ≤ R.cells ∧ ks ≤ R.slots) (hst : (st.map fun v => v.category).sum ≤ 8) (hv : (if y2 < x then y2 else x) = w) (kk : mw p l e R s m args below meth c G A nL Q h0 ad ln v a kc ks (pc + 3) lv (.int w :: st)) : mw p l e R s m args below meth c G A nL Q h0 ad ln v a kc ks pc lv (.int y2 :: .int x :: st) := fun L E h => q_mmin C d lk h1 h2 h3 hR hf hst hv (kk L E h)
theorem m_mmax {p : Program} {l : Launch} {e : Env} {R : Room} {s : State} {m : MethodId} {args : Array Value} {below : List Frame} {meth : Method} {c : Code} {cc : ByteArray} {y : MethodName} {ret : Option FieldType} {G : GT} {A : Nat → Prop} {nL : Nat} {Q : State → Prop} {h0 : Nat} {ad ln : Nat → Nat} {v : Nat → Int} {a : Nat → Nat → Int} {kc ks pc : Nat} {lv : List (Nat × Value)} {st : List Value} (C : Cq p s m args meth c cc y ret G A nL) {idx : Nat} {x y2 w : Int32} (d : decode cc pc = .ok (.invokestatic idx, 3)) (lk : Cond.methodLink y.cls idx Lib.Math.max.name ∈ lw_g) (h1 : Cond.static Lib.Math.max.name ∈ lw_g) (h2 : Cond.initialized "java/lang/Math" ∈ lw_g) (h3 : Cond.code Lib.Math.max.name Lib.Math.max.code 2 (some .int) ∈ lw_g) (hR : 1 ≤ R.frames ∧ 21 ≤ R.locals) (hf : kc ≤ R.cells ∧ ks ≤ R.slots) (hst : (st.map fun v => v.category).sum ≤ 8) (hv : (if x < y2 then y2 else x) = w) (kk : mw p l e R s m args below meth c G A nL Q h0 ad ln v a kc ks (pc + 3) lv (.int w :: st)) : mw p l e R s m args below meth c G A nL Q h0 ad ln v a kc ks pc lv (.int y2 :: .int x :: st) := fun L E h => q_mmax C d lk h1 h2 h3 hR hf hst hv (kk L E h)
set_option maxHeartbeats 4000000 in
set_option maxRecDepth 100000 in
theorem s_isLetter {l : Launch} {G : GT} {L : List Nat} {E : Nat → va_E} (x : Int32) : Mq l G yX12_isLetter cX12_isLetter 1 (some .boolean) 1 [.int x] L E 0 0 (fun v L2 E2 => v = some (.int (inn x 33 125)) ∧ L2 = L ∧ E2 = E) := by
  refine Mq.mk (by decide) (Nat.le_of_ble_eq_true rfl) ?_
  intro p e s m args below meth c A C
  refine q_iload_n (j := 0) C dX12_isLetter_0 rfl ?_
  refine q_bipush (v := 33) C dX12_isLetter_1 (by decide) ?_
  refine q_bipush (v := 125) C dX12_isLetter_3 (by decide) ?_
  refine q_callS (mc2 := 0) (ms2 := 0) (As := [.int x, .int 33, .int 125]) (rest := []) C (s_isIn x 33 125) dX12_isLetter_5 kS_X12_174 rfl rfl (Nat.le_of_ble_eq_true rfl) ⟨Nat.le_of_ble_eq_true rfl, Nat.le_of_ble_eq_true rfl⟩ ⟨Nat.le_of_ble_eq_true rfl, Nat.le_of_ble_eq_true rfl⟩ (fun vh1 Lh1 Eh1 h1 => ?_)
  obtain ⟨rfl, rfl, rfl⟩ := h1
  refine q_st (st2 := [.int (inn x 33 125)]) rfl ?_
  exact q_zret C dX12_isLetter_8 rfl (by unfold inn; split <;> rfl) (Nat.le_of_ble_eq_true rfl) (Nat.le_of_ble_eq_true rfl) ⟨rfl, rfl, rfl⟩
