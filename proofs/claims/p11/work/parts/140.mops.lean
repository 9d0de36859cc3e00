def MIV (n : Nat) (ln : Nat → Nat) (v : Nat → Int) (a : Nat → Nat → Int) : Prop := BX v a ∧ TBL v a ∧ STK ln v a ∧ RWS a ∧ v 19 ≤ 4 * (n : Int)
def ModelOp (l : Launch) (G : GT) (y2 : MethodName) (cc2 : ByteArray) (n2 : Nat) (ret2 : Option FieldType) (d2 : Nat) (As : List Value) (mm mc ms : Nat) (EX : (Nat → Int) → (Nat → Nat → Int) → (Nat → Int) → (Nat → Nat → Int) → Int → Prop) : Prop := ∀ (n : Nat) (ad ln : Nat → Nat) (v : Nat → Int) (a : Nat → Nat → Int) (L : List Nat) (E : Nat → va_E), n ≤ 511 → MIV n ln v a → mI G mm ad ln v a L E → ∃ P2 : PT, Mq l G y2 cc2 n2 ret2 d2 (.ref mm :: As) L E mc ms P2 ∧ ∀ r L2 E2, P2 r L2 E2 → ∃ (f : Int) (ad2 ln2 : Nat → Nat) (v2 : Nat → Int) (a2 : Nat → Nat → Int), r = some (.int (iI f)) ∧ mI G mm ad2 ln2 v2 a2 L2 E2 ∧ MIV (n + 1) ln2 v2 a2 ∧ EX v a v2 a2 f
theorem MO_feed {l : Launch} {G : GT} {mm : Nat} {x1 : Int} {x2 : Int} {x3 : Int} {x4 : Int} {x5 : Int} (h_x1 : -2147483648 ≤ x1 ∧ x1 ≤ 2147483647) (h_x2 : -2147483648 ≤ x2 ∧ x2 ≤ 2147483647) (h_x3 : -2147483648 ≤ x3 ∧ x3 ≤ 2147483647) (h_x4 : -2147483648 ≤ x4 ∧ x4 ≤ 2147483647) (h_x5 : -2147483648 ≤ x5 ∧ x5 ≤ 2147483647) : ModelOp l G yX12_feed cX12_feed 8 (some .int) 1 [.int (iI x1), .int (iI x2), .int (iI x3), .int (iI x4), .int (iI x5)] mm 0 0 (fun v a v2 a2 f => True ∧ v2 56 = v 56 ∧ ((f = -1 ∧ v2 3 = v 3 ∧ 2980 < v 3 ∧ a2 2 = a 2) ∨ (f = v 3 + 20 ∧ v2 3 = v 3 + 20 ∧ v 3 ≤ 2980 ∧ a2 2 = rfd (a 2) (v 3).toNat x1 x2 x3 x4 x5 20)) ∧ v2 30 = v 30 ∧ TSAME v a v2 a2) := by
  intro n ad ln v a L E hn hV hI
  obtain ⟨hB, hT, hS, hR, h19⟩ := hV
  refine ⟨_, B_feed (x1 := x1) (x2 := x2) (x3 := x3) (x4 := x4) (x5 := x5) hB h_x1 h_x2 h_x3 h_x4 h_x5 L E hI, fun r L2 E2 h => ?_⟩
  obtain ⟨v2, a2, hI2, f, rfl, hf, hB2, hx⟩ := h
  exact ⟨f, ad, ln, v2, a2, rfl, hI2, ⟨hB2, (hT.fr hf rfl rfl), (hS.fr hf rfl rfl), (hR.fr hf rfl), (by have q := hf.1 19 rfl; push_cast; omega)⟩, ⟨trivial, (hf.1 56 rfl), hx, (hf.1 30 rfl), ⟨hf.1 4 rfl, hf.2 5 rfl, hf.2 6 rfl, hf.2 7 rfl, hf.2 10 rfl, hf.1 19 rfl, hf.2 18 rfl⟩⟩⟩
theorem MO_end {l : Launch} {G : GT} {mm : Nat} {x1 : Int} (h_x1 : -2147483648 ≤ x1 ∧ x1 ≤ 2147483647) : ModelOp l G yX12_end cX12_end 2 (some .int) 1 [.int (iI x1)] mm 0 0 (fun v a v2 a2 f => True ∧ v2 56 = v 56 ∧ (((f = -1 ∧ v2 3 = v 3 ∧ (x1 < 0 ∨ v 3 < x1)) ∨ (f = x1 ∧ v2 3 = x1 ∧ 0 ≤ x1 ∧ x1 ≤ v 3)) ∧ a2 2 = a 2) ∧ v2 30 = v 30 ∧ TSAME v a v2 a2) := by
  intro n ad ln v a L E hn hV hI
  obtain ⟨hB, hT, hS, hR, h19⟩ := hV
  refine ⟨_, B_end (n1 := x1) hB h_x1 L E hI, fun r L2 E2 h => ?_⟩
  obtain ⟨v2, a2, hI2, f, rfl, hf, hB2, hx⟩ := h
  exact ⟨f, ad, ln, v2, a2, rfl, hI2, ⟨hB2, (hT.fr hf rfl rfl), (hS.fr hf rfl rfl), (hR.fr hf rfl), (by have q := hf.1 19 rfl; push_cast; omega)⟩, ⟨trivial, (hf.1 56 rfl), ⟨hx, hf.2 2 rfl⟩, (hf.1 30 rfl), ⟨hf.1 4 rfl, hf.2 5 rfl, hf.2 6 rfl, hf.2 7 rfl, hf.2 10 rfl, hf.1 19 rfl, hf.2 18 rfl⟩⟩⟩
theorem MO_table {l : Launch} {G : GT} {mm : Nat} {x1 : Int} {x2 : Int} {x3 : Int} (h_x1 : -2147483648 ≤ x1 ∧ x1 ≤ 2147483647) (h_x2 : -2147483648 ≤ x2 ∧ x2 ≤ 2147483647) (h_x3 : -2147483648 ≤ x3 ∧ x3 ≤ 2147483647) : ModelOp l G yX12_table cX12_table 5 (some .int) 2 [.int (iI x1), .int (iI x2), .int (iI x3)] mm 1 4110 (fun v a v2 a2 f => True ∧ v2 56 = v 56 ∧ (v2 3 = v 3 ∧ a2 2 = a 2) ∧ v2 30 = v 30 ∧ ((f = -1 ∧ TSAME v a v2 a2 ∧ ¬ (0 ≤ x1 ∧ x1 ≤ 4 ∧ (x2 = 6 ∨ x2 = 8) ∧ v 4 ≠ 30 ∧ (x1 < 1 ∨ 3 < x1 ∨ (0 ≤ x3 ∧ x3 < v 4 ∧ a 5 x3.toNat = 1 ∧ a 6 x3.toNat ≤ 3)))) ∨ (f = v 4 ∧ (0 ≤ x1 ∧ x1 ≤ 4 ∧ (x2 = 6 ∨ x2 = 8) ∧ v 4 ≠ 30 ∧ (x1 < 1 ∨ 3 < x1 ∨ (0 ≤ x3 ∧ x3 < v 4 ∧ a 5 x3.toNat = 1 ∧ a 6 x3.toNat ≤ 3))) ∧ TNEW x1 x2 v a v2 a2))) := by
  intro n ad ln v a L E hn hV hI
  obtain ⟨hB, hT, hS, hR, h19⟩ := hV
  refine ⟨_, M_table (k0 := x1) (d0 := x2) (b0 := x3) hB hT hS h_x1 h_x2 h_x3 (by omega) L E hI, fun r L2 E2 h => ?_⟩
  obtain ⟨ad2, ln2, v2, a2, hI2, f, rfl, hf, hB2, hx⟩ := h
  exact ⟨f, ad2, ln2, v2, a2, rfl, hI2, ⟨hB2, hx.1, hx.2.1, (hR.fr hf rfl), (by have q := hx.2.2.1; push_cast; omega)⟩, ⟨trivial, (hf.1 56 rfl), ⟨hf.1 3 rfl, hf.2 2 rfl⟩, (hf.1 30 rfl), hx.2.2.2⟩⟩
theorem MO_join {l : Launch} {G : GT} {mm : Nat} {x1 : Int} {x2 : Int} (h_x1 : -2147483648 ≤ x1 ∧ x1 ≤ 2147483647) (h_x2 : -2147483648 ≤ x2 ∧ x2 ≤ 2147483647) : ModelOp l G yX12_join cX12_join 3 (some .int) 2 [.int (iI x1), .int (iI x2)] mm 1 4110 (fun v a v2 a2 f => True ∧ v2 56 = v 56 ∧ (v2 3 = v 3 ∧ a2 2 = a 2) ∧ v2 30 = v 30 ∧ ((f = -1 ∧ TSAME v a v2 a2 ∧ ¬ (0 ≤ x1 ∧ x1 < v 4 ∧ a 5 x1.toNat = 1 ∧ a 6 x1.toNat ≤ 3 ∧ 0 ≤ x2 ∧ x2 < v 4 ∧ a 5 x2.toNat = 1 ∧ a 6 x2.toNat ≤ 3 ∧ v 4 ≠ 30)) ∨ (f = v 4 ∧ (0 ≤ x1 ∧ x1 < v 4 ∧ a 5 x1.toNat = 1 ∧ a 6 x1.toNat ≤ 3 ∧ 0 ≤ x2 ∧ x2 < v 4 ∧ a 5 x2.toNat = 1 ∧ a 6 x2.toNat ≤ 3 ∧ v 4 ≠ 30) ∧ TNEW 5 (max (a 7 x1.toNat) (a 7 x2.toNat)) v a v2 a2))) := by
  intro n ad ln v a L E hn hV hI
  obtain ⟨hB, hT, hS, hR, h19⟩ := hV
  refine ⟨_, M_join (x := x1) (y := x2) hB hT hS h_x1 h_x2 (by omega) L E hI, fun r L2 E2 h => ?_⟩
  obtain ⟨ad2, ln2, v2, a2, hI2, f, rfl, hf, hB2, hx⟩ := h
  exact ⟨f, ad2, ln2, v2, a2, rfl, hI2, ⟨hB2, hx.1, hx.2.1, (hR.fr hf rfl), (by have q := hx.2.2.1; push_cast; omega)⟩, ⟨trivial, (hf.1 56 rfl), ⟨hf.1 3 rfl, hf.2 2 rfl⟩, (hf.1 30 rfl), hx.2.2.2⟩⟩
theorem MO_drop {l : Launch} {G : GT} {mm : Nat} {x1 : Int} (h_x1 : -2147483648 ≤ x1 ∧ x1 ≤ 2147483647) : ModelOp l G yX12_drop cX12_drop 2 (some .int) 1 [.int (iI x1)] mm 1 4110 (fun v a v2 a2 f => True ∧ v2 56 = v 56 ∧ (v2 3 = v 3 ∧ a2 2 = a 2) ∧ v2 30 = v 30 ∧ ((f = -1 ∧ TSAME v a v2 a2 ∧ ¬ (0 ≤ x1 ∧ x1 < v 4 ∧ a 5 x1.toNat = 1)) ∨ (f = 1 ∧ (0 ≤ x1 ∧ x1 < v 4 ∧ a 5 x1.toNat = 1) ∧ TDRP x1 v a v2 a2))) := by
  intro n ad ln v a L E hn hV hI
  obtain ⟨hB, hT, hS, hR, h19⟩ := hV
  refine ⟨_, M_drop (t := x1) hB hT hS h_x1 (by omega) L E hI, fun r L2 E2 h => ?_⟩
  obtain ⟨ad2, ln2, v2, a2, hI2, f, rfl, hf, hB2, hx⟩ := h
  exact ⟨f, ad2, ln2, v2, a2, rfl, hI2, ⟨hB2, hx.1, hx.2.1, (hR.fr hf rfl), (by have q := hx.2.2.1; push_cast; omega)⟩, ⟨trivial, (hf.1 56 rfl), ⟨hf.1 3 rfl, hf.2 2 rfl⟩, (hf.1 30 rfl), hx.2.2.2⟩⟩
theorem MO_rule {l : Launch} {G : GT} {mm : Nat} {x1 : Int} {x2 : Int} {x3 : Int} (h_x1 : -2147483648 ≤ x1 ∧ x1 ≤ 2147483647) (h_x2 : -2147483648 ≤ x2 ∧ x2 ≤ 2147483647) (h_x3 : -2147483648 ≤ x3 ∧ x3 ≤ 2147483647) : ModelOp l G yX12_rule cX12_rule 8 (some .int) 2 [.int (iI x1), .int (iI x2), .int (iI x3)] mm 1 4110 (fun v a v2 a2 f => True ∧ v2 56 = v 56 ∧ v2 3 = 0 ∧ v2 30 = v 30 ∧ ((f = -1 ∧ TSAME v a v2 a2 ∧ ¬ ((0 ≤ x1 ∧ x1 < v 4 ∧ a 5 x1.toNat = 1 ∧ a 6 x1.toNat ≠ 5 ∧ 0 ≤ x2 ∧ x2 ≤ 5 ∧ 1 ≤ x3 ∧ x3 ≤ 8 ∧ 1 ≤ v 3 - x3 ∧ v 3 - x3 ≤ 4 ∧ a 10 x1.toNat ≠ 200) ∧ ACL (a 2) x3 (v 3 - x3) (DC (a 7 x1.toNat)) ∧ LTK (a 2) x3)) ∨ (f = a 10 x1.toNat ∧ ((0 ≤ x1 ∧ x1 < v 4 ∧ a 5 x1.toNat = 1 ∧ a 6 x1.toNat ≠ 5 ∧ 0 ≤ x2 ∧ x2 ≤ 5 ∧ 1 ≤ x3 ∧ x3 ≤ 8 ∧ 1 ≤ v 3 - x3 ∧ v 3 - x3 ≤ 4 ∧ a 10 x1.toNat ≠ 200) ∧ ACL (a 2) x3 (v 3 - x3) (DC (a 7 x1.toNat)) ∧ LTK (a 2) x3) ∧ TRUL x1 v a v2 a2))) := by
  intro n ad ln v a L E hn hV hI
  obtain ⟨hB, hT, hS, hR, h19⟩ := hV
  refine ⟨_, M_rule (t := x1) (x := x2) (m1 := x3) hB hT hS h_x1 h_x2 h_x3 (by omega) L E hI, fun r L2 E2 h => ?_⟩
  obtain ⟨ad2, ln2, v2, a2, hI2, f, rfl, hf, hB2, hx⟩ := h
  exact ⟨f, ad2, ln2, v2, a2, rfl, hI2, ⟨hB2, hx.1, hx.2.1, (hR.fr hf rfl), (by have q := hx.2.2.1; push_cast; omega)⟩, ⟨trivial, (hf.1 56 rfl), hx.2.2.2.1, (hf.1 30 rfl), hx.2.2.2.2⟩⟩
theorem MO_condition {l : Launch} {G : GT} {mm : Nat} {x1 : Int} {x2 : Int} {x3 : Int} (h_x1 : -2147483648 ≤ x1 ∧ x1 ≤ 2147483647) (h_x2 : -2147483648 ≤ x2 ∧ x2 ≤ 2147483647) (h_x3 : -2147483648 ≤ x3 ∧ x3 ≤ 2147483647) : ModelOp l G yX12_condition cX12_condition 5 (some .int) 2 [.int (iI x1), .int (iI x2), .int (iI x3)] mm 1 4110 (fun v a v2 a2 f => True ∧ v2 56 = v 56 ∧ (v2 3 = v 3 ∧ a2 2 = a 2) ∧ v2 30 = v 30 ∧ ((f = -1 ∧ TSAME v a v2 a2 ∧ ¬ (0 ≤ x1 ∧ x1 < v 4 ∧ a 5 x1.toNat = 1 ∧ a 6 x1.toNat ≠ 5 ∧ 0 ≤ x2 ∧ x2 < a 10 x1.toNat ∧ 0 ≤ x3 ∧ x3 ≤ 5)) ∨ (f = a 11 (200 * x1 + x2).toNat ∧ (0 ≤ x1 ∧ x1 < v 4 ∧ a 5 x1.toNat = 1 ∧ a 6 x1.toNat ≠ 5 ∧ 0 ≤ x2 ∧ x2 < a 10 x1.toNat ∧ 0 ≤ x3 ∧ x3 ≤ 5) ∧ TOTH 3 x1 v a v2 a2))) := by
  intro n ad ln v a L E hn hV hI
  obtain ⟨hB, hT, hS, hR, h19⟩ := hV
  refine ⟨_, M_condition (t := x1) (r0 := x2) (x := x3) hB hT hS h_x1 h_x2 h_x3 (by omega) L E hI, fun r L2 E2 h => ?_⟩
  obtain ⟨ad2, ln2, v2, a2, hI2, f, rfl, hf, hB2, hx⟩ := h
  exact ⟨f, ad2, ln2, v2, a2, rfl, hI2, ⟨hB2, hx.1, hx.2.1, (hR.fr hf rfl), (by have q := hx.2.2.1; push_cast; omega)⟩, ⟨trivial, (hf.1 56 rfl), ⟨hf.1 3 rfl, hf.2 2 rfl⟩, (hf.1 30 rfl), hx.2.2.2⟩⟩
theorem MO_indicator {l : Launch} {G : GT} {mm : Nat} {x1 : Int} {x2 : Int} (h_x1 : -2147483648 ≤ x1 ∧ x1 ≤ 2147483647) (h_x2 : -2147483648 ≤ x2 ∧ x2 ≤ 2147483647) : ModelOp l G yX12_indicator cX12_indicator 8 (some .int) 2 [.int (iI x1), .int (iI x2)] mm 1 4110 (fun v a v2 a2 f => True ∧ v2 56 = v 56 ∧ v2 3 = 0 ∧ v2 30 = v 30 ∧ ((f = -1 ∧ TSAME v a v2 a2 ∧ ¬ ((0 ≤ x2 ∧ x2 ≤ 3 ∧ 0 ≤ x1 ∧ x1 < v 4 ∧ a 5 x1.toNat = 1 ∧ ((x2 = 0 ∧ a 6 x1.toNat ≤ 2) ∨ (x2 = 1 ∧ a 6 x1.toNat = 2) ∨ (x2 ≠ 0 ∧ x2 ≠ 1 ∧ a 6 x1.toNat = 5)) ∧ v 3 ≤ 4) ∧ ACL (a 2) 0 (v 3) (DC (a 7 x1.toNat)) ∧ True)) ∨ (f = v 3 ∧ ((0 ≤ x2 ∧ x2 ≤ 3 ∧ 0 ≤ x1 ∧ x1 < v 4 ∧ a 5 x1.toNat = 1 ∧ ((x2 = 0 ∧ a 6 x1.toNat ≤ 2) ∨ (x2 = 1 ∧ a 6 x1.toNat = 2) ∨ (x2 ≠ 0 ∧ x2 ≠ 1 ∧ a 6 x1.toNat = 5)) ∧ v 3 ≤ 4) ∧ ACL (a 2) 0 (v 3) (DC (a 7 x1.toNat)) ∧ True) ∧ TOTH 4 (4 * x1 + x2) v a v2 a2))) := by
  intro n ad ln v a L E hn hV hI
  obtain ⟨hB, hT, hS, hR, h19⟩ := hV
  refine ⟨_, M_indicator (t := x1) (x := x2) hB hT hS h_x1 h_x2 (by omega) L E hI, fun r L2 E2 h => ?_⟩
  obtain ⟨ad2, ln2, v2, a2, hI2, f, rfl, hf, hB2, hx⟩ := h
  exact ⟨f, ad2, ln2, v2, a2, rfl, hI2, ⟨hB2, hx.1, hx.2.1, (hR.fr hf rfl), (by have q := hx.2.2.1; push_cast; omega)⟩, ⟨trivial, (hf.1 56 rfl), hx.2.2.2.1, (hf.1 30 rfl), hx.2.2.2.2⟩⟩
theorem MO_undo {l : Launch} {G : GT} {mm : Nat} : ModelOp l G yX12_undo cX12_undo 5 (some .int) 1 [] mm 0 0 (fun v a v2 a2 f => True ∧ v2 56 = v 56 ∧ (v2 3 = v 3 ∧ a2 2 = a 2) ∧ v2 30 = v 30 ∧ ((∃ ln, STK ln v a) ∧ (∃ ln, STK ln v2 a2) ∧ ((v 19 = 0 ∧ f = 0 ∧ TSAME v a v2 a2) ∨ (v 19 ≠ 0 ∧ f = 1 ∧ TUND v a v2 a2)))) := by
  intro n ad ln v a L E hn hV hI
  obtain ⟨hB, hT, hS, hR, h19⟩ := hV
  refine ⟨_, M_undo  hB hT hS (by omega) L E hI, fun r L2 E2 h => ?_⟩
  obtain ⟨ad2, ln2, v2, a2, hI2, f, rfl, hf, hB2, hx⟩ := h
  exact ⟨f, ad2, ln2, v2, a2, rfl, hI2, ⟨hB2, hx.1, hx.2.1, (hR.fr hf rfl), (by have q := hx.2.2.1; push_cast; omega)⟩, ⟨trivial, (hf.1 56 rfl), ⟨hf.1 3 rfl, hf.2 2 rfl⟩, (hf.1 30 rfl), ⟨⟨ln, hS⟩, ⟨ln2, hx.2.1⟩, hx.2.2.2⟩⟩⟩
theorem MO_text {l : Launch} {G : GT} {mm : Nat} : ModelOp l G yX12_text cX12_text 4 (some .int) 1 [] mm 0 0 (fun v a v2 a2 f => True ∧ v2 56 = v 56 ∧ v2 3 = 0 ∧ ((f = -1 ∧ v2 30 = v 30 ∧ ¬ (TOK (a 2) (v 3) ∧ v 30 + v 3 ≤ 500)) ∨ (f = v2 30 ∧ TOK (a 2) (v 3) ∧ v 30 + v 3 ≤ 500 ∧ ((v 3 = 0 ∧ v2 30 = 0) ∨ (v 3 ≠ 0 ∧ v2 30 = v 30 + v 3)))) ∧ TSAME v a v2 a2) := by
  intro n ad ln v a L E hn hV hI
  obtain ⟨hB, hT, hS, hR, h19⟩ := hV
  refine ⟨_, B_text  hB L E hI, fun r L2 E2 h => ?_⟩
  obtain ⟨v2, a2, hI2, f, rfl, hf, hB2, hx⟩ := h
  exact ⟨f, ad, ln, v2, a2, rfl, hI2, ⟨hB2, (hT.fr hf rfl rfl), (hS.fr hf rfl rfl), (hR.fr hf rfl), (by have q := hf.1 19 rfl; push_cast; omega)⟩, ⟨trivial, (hf.1 56 rfl), hx.1, hx.2, ⟨hf.1 4 rfl, hf.2 5 rfl, hf.2 6 rfl, hf.2 7 rfl, hf.2 10 rfl, hf.1 19 rfl, hf.2 18 rfl⟩⟩⟩
theorem MO_measure {l : Launch} {G : GT} {mm : Nat} {x1 : Int} {x2 : Int} {x3 : Int} (h_x1 : -2147483648 ≤ x1 ∧ x1 ≤ 2147483647) (h_x2 : -2147483648 ≤ x2 ∧ x2 ≤ 2147483647) (h_x3 : -2147483648 ≤ x3 ∧ x3 ≤ 2147483647) : ModelOp l G yX12_measure cX12_measure 4 (some .int) 1 [.int (iI x1), .int (iI x2), .int (iI x3)] mm 0 0 (fun v a v2 a2 f => ((f = 1 ∧ 1 ≤ x1 ∧ x1 ≤ 100 ∧ 1 ≤ x2 ∧ x2 ≤ 50 ∧ 1 ≤ x3 ∧ x3 ≤ 255) ∨ (f = -1 ∧ ¬ (1 ≤ x1 ∧ x1 ≤ 100 ∧ 1 ≤ x2 ∧ x2 ≤ 50 ∧ 1 ≤ x3 ∧ x3 ≤ 255))) ∧ v2 56 = v 56 ∧ (v2 3 = v 3 ∧ a2 2 = a 2) ∧ v2 30 = v 30 ∧ TSAME v a v2 a2) := by
  intro n ad ln v a L E hn hV hI
  obtain ⟨hB, hT, hS, hR, h19⟩ := hV
  refine ⟨_, B_measure (w1 := x1) (h1 := x2) (y1 := x3) hB h_x1 h_x2 h_x3 L E hI, fun r L2 E2 h => ?_⟩
  obtain ⟨v2, a2, hI2, f, rfl, hf, hB2, hx⟩ := h
  exact ⟨f, ad, ln, v2, a2, rfl, hI2, ⟨hB2, (hT.fr hf rfl rfl), (hS.fr hf rfl rfl), (hR.fr hf rfl), (by have q := hf.1 19 rfl; push_cast; omega)⟩, ⟨hx, (hf.1 56 rfl), ⟨hf.1 3 rfl, hf.2 2 rfl⟩, (hf.1 30 rfl), ⟨hf.1 4 rfl, hf.2 5 rfl, hf.2 6 rfl, hf.2 7 rfl, hf.2 10 rfl, hf.1 19 rfl, hf.2 18 rfl⟩⟩⟩
theorem MO_set {l : Launch} {G : GT} {mm : Nat} {x1 : Int} (h_x1 : -2147483648 ≤ x1 ∧ x1 ≤ 2147483647) : ModelOp l G yX12_set cX12_set 7 (some .int) 66 [.int (iI x1)] mm 0 0 (fun v a v2 a2 f => True ∧ v2 56 = v 56 ∧ (v2 3 = v 3 ∧ a2 2 = a 2) ∧ v2 30 = v 30 ∧ TSAME v a v2 a2) := by
  intro n ad ln v a L E hn hV hI
  obtain ⟨hB, hT, hS, hR, h19⟩ := hV
  refine ⟨_, M_set (t := x1) hB hT h_x1 L E hI, fun r L2 E2 h => ?_⟩
  obtain ⟨v2, a2, hI2, f, rfl, hf, hB2, hx⟩ := h
  exact ⟨f, ad, ln, v2, a2, rfl, hI2, ⟨hB2, (hT.fr hf rfl rfl), (hS.fr hf rfl rfl), (hR.fr hf rfl), (by have q := hf.1 19 rfl; push_cast; omega)⟩, ⟨trivial, (hf.1 56 rfl), ⟨hf.1 3 rfl, hf.2 2 rfl⟩, (hf.1 30 rfl), ⟨hf.1 4 rfl, hf.2 5 rfl, hf.2 6 rfl, hf.2 7 rfl, hf.2 10 rfl, hf.1 19 rfl, hf.2 18 rfl⟩⟩⟩
theorem MO_head {l : Launch} {G : GT} {mm : Nat} {x1 : Int} (h_x1 : -2147483648 ≤ x1 ∧ x1 ≤ 2147483647) : ModelOp l G yX12_head cX12_head 5 (some .int) 66 [.int (iI x1)] mm 0 0 (fun v a v2 a2 f => True ∧ v2 56 = v 56 ∧ v2 3 = 0 ∧ v2 30 = v 30 ∧ TSAME v a v2 a2) := by
  intro n ad ln v a L E hn hV hI
  obtain ⟨hB, hT, hS, hR, h19⟩ := hV
  refine ⟨_, M_head (t := x1) hB hT h_x1 L E hI, fun r L2 E2 h => ?_⟩
  obtain ⟨v2, a2, hI2, f, rfl, hf, hB2, hx⟩ := h
  exact ⟨f, ad, ln, v2, a2, rfl, hI2, ⟨hB2, (hT.fr hf rfl rfl), (hS.fr hf rfl rfl), (hR.fr hf rfl), (by have q := hf.1 19 rfl; push_cast; omega)⟩, ⟨trivial, (hf.1 56 rfl), hx, (hf.1 30 rfl), ⟨hf.1 4 rfl, hf.2 5 rfl, hf.2 6 rfl, hf.2 7 rfl, hf.2 10 rfl, hf.1 19 rfl, hf.2 18 rfl⟩⟩⟩
theorem MO_lines {l : Launch} {G : GT} {mm : Nat} : ModelOp l G yX12_lines cX12_lines 1 (some .int) 0 [] mm 0 0 (fun v a v2 a2 f => True ∧ v2 56 = v 56 ∧ (v2 3 = v 3 ∧ a2 2 = a 2) ∧ v2 30 = v 30 ∧ TSAME v a v2 a2) := by
  intro n ad ln v a L E hn hV hI
  obtain ⟨hB, hT, hS, hR, h19⟩ := hV
  refine ⟨_, B_lines  hB L E hI, fun r L2 E2 h => ?_⟩
  obtain ⟨v2, a2, hI2, f, rfl, hf, hB2, hx⟩ := h
  exact ⟨f, ad, ln, v2, a2, rfl, hI2, ⟨hB2, (hT.fr hf rfl rfl), (hS.fr hf rfl rfl), (hR.fr hf rfl), (by have q := hf.1 19 rfl; push_cast; omega)⟩, ⟨trivial, (hf.1 56 rfl), ⟨hf.1 3 rfl, hf.2 2 rfl⟩, (hf.1 30 rfl), ⟨hf.1 4 rfl, hf.2 5 rfl, hf.2 6 rfl, hf.2 7 rfl, hf.2 10 rfl, hf.1 19 rfl, hf.2 18 rfl⟩⟩⟩
theorem MO_pages {l : Launch} {G : GT} {mm : Nat} : ModelOp l G yX12_pages cX12_pages 1 (some .int) 2 [] mm 0 0 (fun v a v2 a2 f => True ∧ v2 56 = v 56 ∧ (v2 3 = v 3 ∧ a2 2 = a 2) ∧ v2 30 = v 30 ∧ TSAME v a v2 a2) := by
  intro n ad ln v a L E hn hV hI
  obtain ⟨hB, hT, hS, hR, h19⟩ := hV
  refine ⟨_, M_pages  hB L E hI, fun r L2 E2 h => ?_⟩
  obtain ⟨v2, a2, hI2, f, rfl, hf, hB2, hx⟩ := h
  exact ⟨f, ad, ln, v2, a2, rfl, hI2, ⟨hB2, (hT.fr hf rfl rfl), (hS.fr hf rfl rfl), (hR.fr hf rfl), (by have q := hf.1 19 rfl; push_cast; omega)⟩, ⟨trivial, (hf.1 56 rfl), ⟨hf.1 3 rfl, hf.2 2 rfl⟩, (hf.1 30 rfl), ⟨hf.1 4 rfl, hf.2 5 rfl, hf.2 6 rfl, hf.2 7 rfl, hf.2 10 rfl, hf.1 19 rfl, hf.2 18 rfl⟩⟩⟩
theorem MO_length {l : Launch} {G : GT} {mm : Nat} {x1 : Int} (h_x1 : -2147483648 ≤ x1 ∧ x1 ≤ 2147483647) : ModelOp l G yX12_length cX12_length 2 (some .int) 2 [.int (iI x1)] mm 0 0 (fun v a v2 a2 f => True ∧ v2 56 = v 56 ∧ (v2 3 = v 3 ∧ a2 2 = a 2) ∧ v2 30 = v 30 ∧ TSAME v a v2 a2) := by
  intro n ad ln v a L E hn hV hI
  obtain ⟨hB, hT, hS, hR, h19⟩ := hV
  refine ⟨_, B_length (l0 := x1) hB h_x1 L E hI, fun r L2 E2 h => ?_⟩
  obtain ⟨v2, a2, hI2, f, rfl, hf, hB2, hx⟩ := h
  exact ⟨f, ad, ln, v2, a2, rfl, hI2, ⟨hB2, (hT.fr hf rfl rfl), (hS.fr hf rfl rfl), (hR.fr hf rfl), (by have q := hf.1 19 rfl; push_cast; omega)⟩, ⟨trivial, (hf.1 56 rfl), ⟨hf.1 3 rfl, hf.2 2 rfl⟩, (hf.1 30 rfl), ⟨hf.1 4 rfl, hf.2 5 rfl, hf.2 6 rfl, hf.2 7 rfl, hf.2 10 rfl, hf.1 19 rfl, hf.2 18 rfl⟩⟩⟩
theorem MO_cell {l : Launch} {G : GT} {mm : Nat} {x1 : Int} {x2 : Int} (h_x1 : -2147483648 ≤ x1 ∧ x1 ≤ 2147483647) (h_x2 : -2147483648 ≤ x2 ∧ x2 ≤ 2147483647) : ModelOp l G yX12_cell cX12_cell 3 (some .int) 2 [.int (iI x1), .int (iI x2)] mm 0 0 (fun v a v2 a2 f => True ∧ v2 56 = v 56 ∧ (v2 3 = v 3 ∧ a2 2 = a 2) ∧ v2 30 = v 30 ∧ TSAME v a v2 a2) := by
  intro n ad ln v a L E hn hV hI
  obtain ⟨hB, hT, hS, hR, h19⟩ := hV
  refine ⟨_, B_cell (l0 := x1) (i := x2) hB h_x1 h_x2 L E hI, fun r L2 E2 h => ?_⟩
  obtain ⟨v2, a2, hI2, f, rfl, hf, hB2, hx⟩ := h
  exact ⟨f, ad, ln, v2, a2, rfl, hI2, ⟨hB2, (hT.fr hf rfl rfl), (hS.fr hf rfl rfl), (hR.fr hf rfl), (by have q := hf.1 19 rfl; push_cast; omega)⟩, ⟨trivial, (hf.1 56 rfl), ⟨hf.1 3 rfl, hf.2 2 rfl⟩, (hf.1 30 rfl), ⟨hf.1 4 rfl, hf.2 5 rfl, hf.2 6 rfl, hf.2 7 rfl, hf.2 10 rfl, hf.1 19 rfl, hf.2 18 rfl⟩⟩⟩
theorem MO_page {l : Launch} {G : GT} {mm : Nat} {x1 : Int} {x2 : Int} {x3 : Int} (h_x1 : -2147483648 ≤ x1 ∧ x1 ≤ 2147483647) (h_x2 : -2147483648 ≤ x2 ∧ x2 ≤ 2147483647) (h_x3 : -2147483648 ≤ x3 ∧ x3 ≤ 2147483647) : ModelOp l G yX12_page cX12_page 5 (some .int) 3 [.int (iI x1), .int (iI x2), .int (iI x3)] mm 0 0 (fun v a v2 a2 f => True ∧ v2 56 = v 56 ∧ (v2 3 = v 3 ∧ a2 2 = a 2) ∧ v2 30 = v 30 ∧ TSAME v a v2 a2) := by
  intro n ad ln v a L E hn hV hI
  obtain ⟨hB, hT, hS, hR, h19⟩ := hV
  refine ⟨_, M_page (q := x1) (w1 := x2) (i := x3) hB h_x1 h_x2 h_x3 L E hI, fun r L2 E2 h => ?_⟩
  obtain ⟨v2, a2, hI2, f, rfl, hf, hB2, hx⟩ := h
  exact ⟨f, ad, ln, v2, a2, rfl, hI2, ⟨hB2, (hT.fr hf rfl rfl), (hS.fr hf rfl rfl), (hR.fr hf rfl), (by have q := hf.1 19 rfl; push_cast; omega)⟩, ⟨trivial, (hf.1 56 rfl), ⟨hf.1 3 rfl, hf.2 2 rfl⟩, (hf.1 30 rfl), ⟨hf.1 4 rfl, hf.2 5 rfl, hf.2 6 rfl, hf.2 7 rfl, hf.2 10 rfl, hf.1 19 rfl, hf.2 18 rfl⟩⟩⟩
theorem MO_cut {l : Launch} {G : GT} {mm : Nat} {x1 : Int} {x2 : Int} (h_x1 : -2147483648 ≤ x1 ∧ x1 ≤ 2147483647) (h_x2 : -2147483648 ≤ x2 ∧ x2 ≤ 2147483647) : ModelOp l G yX12_cut cX12_cut 4 (some .int) 2 [.int (iI x1), .int (iI x2)] mm 0 0 (fun v a v2 a2 f => True ∧ v2 56 = v 56 ∧ (v2 3 = v 3 ∧ a2 2 = a 2) ∧ v2 30 = v 30 ∧ TSAME v a v2 a2) := by
  intro n ad ln v a L E hn hV hI
  obtain ⟨hB, hT, hS, hR, h19⟩ := hV
  refine ⟨_, B_cut (l0 := x1) (n1 := x2) hB h_x1 h_x2 L E hI, fun r L2 E2 h => ?_⟩
  obtain ⟨v2, a2, hI2, f, rfl, hf, hB2, hx⟩ := h
  exact ⟨f, ad, ln, v2, a2, rfl, hI2, ⟨hB2, (hT.fr hf rfl rfl), (hS.fr hf rfl rfl), (hR.fr hf rfl), (by have q := hf.1 19 rfl; push_cast; omega)⟩, ⟨trivial, (hf.1 56 rfl), ⟨hf.1 3 rfl, hf.2 2 rfl⟩, (hf.1 30 rfl), ⟨hf.1 4 rfl, hf.2 5 rfl, hf.2 6 rfl, hf.2 7 rfl, hf.2 10 rfl, hf.1 19 rfl, hf.2 18 rfl⟩⟩⟩
theorem MO_lose {l : Launch} {G : GT} {mm : Nat} {x1 : Int} (h_x1 : -2147483648 ≤ x1 ∧ x1 ≤ 2147483647) : ModelOp l G yX12_lose cX12_lose 2 (some .int) 2 [.int (iI x1)] mm 0 0 (fun v a v2 a2 f => True ∧ v2 56 = v 56 ∧ (v2 3 = v 3 ∧ a2 2 = a 2) ∧ v2 30 = v 30 ∧ TSAME v a v2 a2) := by
  intro n ad ln v a L E hn hV hI
  obtain ⟨hB, hT, hS, hR, h19⟩ := hV
  refine ⟨_, B_lose (l0 := x1) hB h_x1 L E hI, fun r L2 E2 h => ?_⟩
  obtain ⟨v2, a2, hI2, f, rfl, hf, hB2, hx⟩ := h
  exact ⟨f, ad, ln, v2, a2, rfl, hI2, ⟨hB2, (hT.fr hf rfl rfl), (hS.fr hf rfl rfl), (hR.fr hf rfl), (by have q := hf.1 19 rfl; push_cast; omega)⟩, ⟨trivial, (hf.1 56 rfl), ⟨hf.1 3 rfl, hf.2 2 rfl⟩, (hf.1 30 rfl), ⟨hf.1 4 rfl, hf.2 5 rfl, hf.2 6 rfl, hf.2 7 rfl, hf.2 10 rfl, hf.1 19 rfl, hf.2 18 rfl⟩⟩⟩
theorem MO_copyRow {l : Launch} {G : GT} {mm : Nat} {x1 : Int} {x2 : Int} {x3 : Int} {x4 : Int} {x5 : Int} (h_x1 : -2147483648 ≤ x1 ∧ x1 ≤ 2147483647) (h_x2 : -2147483648 ≤ x2 ∧ x2 ≤ 2147483647) (h_x3 : -2147483648 ≤ x3 ∧ x3 ≤ 2147483647) (h_x4 : -2147483648 ≤ x4 ∧ x4 ≤ 2147483647) (h_x5 : -2147483648 ≤ x5 ∧ x5 ≤ 2147483647) : ModelOp l G yX12_copyRow cX12_copyRow 11 (some .int) 1 [.int (iI x1), .int (iI x2), .int (iI x3), .int (iI x4), .int (iI x5)] mm 0 0 (fun v a v2 a2 f => True ∧ v2 56 = v 56 ∧ (v2 3 = v 3 ∧ a2 2 = a 2) ∧ v2 30 = v 30 ∧ TSAME v a v2 a2) := by
  intro n ad ln v a L E hn hV hI
  obtain ⟨hB, hT, hS, hR, h19⟩ := hV
  refine ⟨_, M_copyRow (q := x1) (w1 := x2) (u := x3) (x := x4) (n1 := x5) hB h_x1 h_x2 h_x3 h_x4 h_x5 L E hI, fun r L2 E2 h => ?_⟩
  obtain ⟨v2, a2, hI2, f, rfl, hf, hB2, hx⟩ := h
  exact ⟨f, ad, ln, v2, a2, rfl, hI2, ⟨hB2, (hT.fr hf rfl rfl), (hS.fr hf rfl rfl), (hR.fr hf rfl), (by have q := hf.1 19 rfl; push_cast; omega)⟩, ⟨trivial, (hf.1 56 rfl), ⟨hf.1 3 rfl, hf.2 2 rfl⟩, (hf.1 30 rfl), ⟨hf.1 4 rfl, hf.2 5 rfl, hf.2 6 rfl, hf.2 7 rfl, hf.2 10 rfl, hf.1 19 rfl, hf.2 18 rfl⟩⟩⟩
theorem MO_copyLines {l : Launch} {G : GT} {mm : Nat} {x1 : Int} {x2 : Int} {x3 : Int} (h_x1 : -2147483648 ≤ x1 ∧ x1 ≤ 2147483647) (h_x2 : -2147483648 ≤ x2 ∧ x2 ≤ 2147483647) (h_x3 : -2147483648 ≤ x3 ∧ x3 ≤ 2147483647) : ModelOp l G yX12_copyLines cX12_copyLines 10 (some .int) 1 [.int (iI x1), .int (iI x2), .int (iI x3)] mm 0 0 (fun v a v2 a2 f => True ∧ v2 56 = v 56 ∧ (v2 3 = v 3 ∧ a2 2 = a 2) ∧ v2 30 = v 30 ∧ TSAME v a v2 a2) := by
  intro n ad ln v a L E hn hV hI
  obtain ⟨hB, hT, hS, hR, h19⟩ := hV
  refine ⟨_, M_copyLines (q := x1) (u := x2) (n1 := x3) hB h_x1 h_x2 h_x3 L E hI, fun r L2 E2 h => ?_⟩
  obtain ⟨v2, a2, hI2, f, rfl, hf, hB2, hx⟩ := h
  exact ⟨f, ad, ln, v2, a2, rfl, hI2, ⟨hB2, (hT.fr hf rfl rfl), (hS.fr hf rfl rfl), (hR.fr hf rfl), (by have q := hf.1 19 rfl; push_cast; omega)⟩, ⟨trivial, (hf.1 56 rfl), ⟨hf.1 3 rfl, hf.2 2 rfl⟩, (hf.1 30 rfl), ⟨hf.1 4 rfl, hf.2 5 rfl, hf.2 6 rfl, hf.2 7 rfl, hf.2 10 rfl, hf.1 19 rfl, hf.2 18 rfl⟩⟩⟩
theorem MO_copied {l : Launch} {G : GT} {mm : Nat} : ModelOp l G yX12_copied cX12_copied 1 (some .int) 0 [] mm 0 0 (fun v a v2 a2 f => True ∧ v2 56 = v 56 ∧ (v2 3 = v 3 ∧ a2 2 = a 2) ∧ v2 30 = v 30 ∧ TSAME v a v2 a2) := by
  intro n ad ln v a L E hn hV hI
  obtain ⟨hB, hT, hS, hR, h19⟩ := hV
  refine ⟨_, B_copied  hB L E hI, fun r L2 E2 h => ?_⟩
  obtain ⟨v2, a2, hI2, f, rfl, hf, hB2, hx⟩ := h
  exact ⟨f, ad, ln, v2, a2, rfl, hI2, ⟨hB2, (hT.fr hf rfl rfl), (hS.fr hf rfl rfl), (hR.fr hf rfl), (by have q := hf.1 19 rfl; push_cast; omega)⟩, ⟨trivial, (hf.1 56 rfl), ⟨hf.1 3 rfl, hf.2 2 rfl⟩, (hf.1 30 rfl), ⟨hf.1 4 rfl, hf.2 5 rfl, hf.2 6 rfl, hf.2 7 rfl, hf.2 10 rfl, hf.1 19 rfl, hf.2 18 rfl⟩⟩⟩
theorem MO_emboss {l : Launch} {G : GT} {mm : Nat} {x1 : Int} {x2 : Int} (h_x1 : -2147483648 ≤ x1 ∧ x1 ≤ 2147483647) (h_x2 : -2147483648 ≤ x2 ∧ x2 ≤ 2147483647) : ModelOp l G yX12_emboss cX12_emboss 9 (some .int) 1 [.int (iI x1), .int (iI x2)] mm 0 0 (fun v a v2 a2 f => True ∧ v2 56 = v 56 ∧ (v2 3 = v 3 ∧ a2 2 = a 2) ∧ v2 30 = v 30 ∧ TSAME v a v2 a2) := by
  intro n ad ln v a L E hn hV hI
  obtain ⟨hB, hT, hS, hR, h19⟩ := hV
  refine ⟨_, M_emboss (q := x1) (n1 := x2) hB h_x1 h_x2 L E hI, fun r L2 E2 h => ?_⟩
  obtain ⟨v2, a2, hI2, f, rfl, hf, hB2, hx⟩ := h
  exact ⟨f, ad, ln, v2, a2, rfl, hI2, ⟨hB2, (hT.fr hf rfl rfl), (hS.fr hf rfl rfl), (hR.fr hf rfl), (by have q := hf.1 19 rfl; push_cast; omega)⟩, ⟨trivial, (hf.1 56 rfl), ⟨hf.1 3 rfl, hf.2 2 rfl⟩, (hf.1 30 rfl), ⟨hf.1 4 rfl, hf.2 5 rfl, hf.2 6 rfl, hf.2 7 rfl, hf.2 10 rfl, hf.1 19 rfl, hf.2 18 rfl⟩⟩⟩
theorem MO_closed {l : Launch} {G : GT} {mm : Nat} : ModelOp l G yX12_closed cX12_closed 1 (some .int) 0 [] mm 0 0 (fun v a v2 a2 f => True ∧ v2 56 = v 56 ∧ (v2 3 = v 3 ∧ a2 2 = a 2) ∧ v2 30 = v 30 ∧ TSAME v a v2 a2) := by
  intro n ad ln v a L E hn hV hI
  obtain ⟨hB, hT, hS, hR, h19⟩ := hV
  refine ⟨_, B_closed  hB L E hI, fun r L2 E2 h => ?_⟩
  obtain ⟨v2, a2, hI2, f, rfl, hf, hB2, hx⟩ := h
  exact ⟨f, ad, ln, v2, a2, rfl, hI2, ⟨hB2, (hT.fr hf rfl rfl), (hS.fr hf rfl rfl), (hR.fr hf rfl), (by have q := hf.1 19 rfl; push_cast; omega)⟩, ⟨trivial, (hf.1 56 rfl), ⟨hf.1 3 rfl, hf.2 2 rfl⟩, (hf.1 30 rfl), ⟨hf.1 4 rfl, hf.2 5 rfl, hf.2 6 rfl, hf.2 7 rfl, hf.2 10 rfl, hf.1 19 rfl, hf.2 18 rfl⟩⟩⟩
theorem MO_read {l : Launch} {G : GT} {mm : Nat} {x1 : Int} {x2 : Int} {x3 : Int} (h_x1 : -2147483648 ≤ x1 ∧ x1 ≤ 2147483647) (h_x2 : -2147483648 ≤ x2 ∧ x2 ≤ 2147483647) (h_x3 : -2147483648 ≤ x3 ∧ x3 ≤ 2147483647) : ModelOp l G yX12_read cX12_read 11 (some .int) 36 [.int (iI x1), .int (iI x2), .int (iI x3)] mm 0 0 (fun v a v2 a2 f => True ∧ v2 56 = v 56 ∧ (v2 3 = v 3 ∧ a2 2 = a 2) ∧ v2 30 = v 30 ∧ TSAME v a v2 a2) := by
  intro n ad ln v a L E hn hV hI
  obtain ⟨hB, hT, hS, hR, h19⟩ := hV
  refine ⟨_, N_read (t := x1) (q := x2) (n1 := x3) hB hT hR h_x1 h_x2 h_x3 L E hI, fun r L2 E2 h => ?_⟩
  obtain ⟨v2, a2, hI2, f, rfl, hf, hB2, hx⟩ := h
  exact ⟨f, ad, ln, v2, a2, rfl, hI2, ⟨hB2, (hT.fr hf rfl rfl), (hS.fr hf rfl rfl), hx, (by have q := hf.1 19 rfl; push_cast; omega)⟩, ⟨trivial, (hf.1 56 rfl), ⟨hf.1 3 rfl, hf.2 2 rfl⟩, (hf.1 30 rfl), ⟨hf.1 4 rfl, hf.2 5 rfl, hf.2 6 rfl, hf.2 7 rfl, hf.2 10 rfl, hf.1 19 rfl, hf.2 18 rfl⟩⟩⟩
theorem MO_letter {l : Launch} {G : GT} {mm : Nat} {x1 : Int} (h_x1 : -2147483648 ≤ x1 ∧ x1 ≤ 2147483647) : ModelOp l G yX12_letter cX12_letter 2 (some .int) 2 [.int (iI x1)] mm 0 0 (fun v a v2 a2 f => True ∧ v2 56 = v 56 ∧ (v2 3 = v 3 ∧ a2 2 = a 2) ∧ v2 30 = v 30 ∧ TSAME v a v2 a2) := by
  intro n ad ln v a L E hn hV hI
  obtain ⟨hB, hT, hS, hR, h19⟩ := hV
  refine ⟨_, B_letter (i := x1) hB h_x1 L E hI, fun r L2 E2 h => ?_⟩
  obtain ⟨v2, a2, hI2, f, rfl, hf, hB2, hx⟩ := h
  exact ⟨f, ad, ln, v2, a2, rfl, hI2, ⟨hB2, (hT.fr hf rfl rfl), (hS.fr hf rfl rfl), (hR.fr hf rfl), (by have q := hf.1 19 rfl; push_cast; omega)⟩, ⟨trivial, (hf.1 56 rfl), ⟨hf.1 3 rfl, hf.2 2 rfl⟩, (hf.1 30 rfl), ⟨hf.1 4 rfl, hf.2 5 rfl, hf.2 6 rfl, hf.2 7 rfl, hf.2 10 rfl, hf.1 19 rfl, hf.2 18 rfl⟩⟩⟩
theorem MO_failed {l : Launch} {G : GT} {mm : Nat} {x1 : Int} {x2 : Int} (h_x1 : -2147483648 ≤ x1 ∧ x1 ≤ 2147483647) (h_x2 : x2 = 0 ∨ x2 = 1) : ModelOp l G yX12_failed cX12_failed 3 (some .int) 1 [.int (iI x1), .int (iI x2)] mm 0 0 (fun v a v2 a2 f => True ∧ (((x1 < 0 ∨ 7 < x1) ∧ f = -1 ∧ v2 56 = v 56) ∨ (0 ≤ x1 ∧ x1 ≤ 7 ∧ iI (v2 56) = fdv (iI (v 56)) x1 x2 ∧ iI f = bcn (iI (v2 56)))) ∧ (v2 3 = v 3 ∧ a2 2 = a 2) ∧ v2 30 = v 30 ∧ TSAME v a v2 a2) := by
  intro n ad ln v a L E hn hV hI
  obtain ⟨hB, hT, hS, hR, h19⟩ := hV
  refine ⟨_, N_failed (x := x1) (g := x2) hB h_x1 h_x2 L E hI, fun r L2 E2 h => ?_⟩
  obtain ⟨v2, a2, hI2, f, rfl, hf, hB2, hx⟩ := h
  exact ⟨f, ad, ln, v2, a2, rfl, hI2, ⟨hB2, (hT.fr hf rfl rfl), (hS.fr hf rfl rfl), (hR.fr hf rfl), (by have q := hf.1 19 rfl; push_cast; omega)⟩, ⟨trivial, hx, ⟨hf.1 3 rfl, hf.2 2 rfl⟩, (hf.1 30 rfl), ⟨hf.1 4 rfl, hf.2 5 rfl, hf.2 6 rfl, hf.2 7 rfl, hf.2 10 rfl, hf.1 19 rfl, hf.2 18 rfl⟩⟩⟩
theorem MO_readings {l : Launch} {G : GT} {mm : Nat} {x1 : Int} {x2 : Int} {x3 : Int} (h_x1 : -2147483648 ≤ x1 ∧ x1 ≤ 2147483647) (h_x2 : -2147483648 ≤ x2 ∧ x2 ≤ 2147483647) (h_x3 : -2147483648 ≤ x3 ∧ x3 ≤ 2147483647) : ModelOp l G yX12_readings cX12_readings 5 (some .int) 105 [.int (iI x1), .int (iI x2), .int (iI x3)] mm 0 0 (fun v a v2 a2 f => True ∧ v2 56 = v 56 ∧ (v2 3 = v 3 ∧ a2 2 = a 2) ∧ v2 30 = v 30 ∧ TSAME v a v2 a2) := by
  intro n ad ln v a L E hn hV hI
  obtain ⟨hB, hT, hS, hR, h19⟩ := hV
  refine ⟨_, N_readings (t := x1) (l0 := x2) (n1 := x3) hB hT hR h_x1 h_x2 h_x3 L E hI, fun r L2 E2 h => ?_⟩
  obtain ⟨v2, a2, hI2, f, rfl, hf, hB2, hx⟩ := h
  exact ⟨f, ad, ln, v2, a2, rfl, hI2, ⟨hB2, (hT.fr hf rfl rfl), (hS.fr hf rfl rfl), hx, (by have q := hf.1 19 rfl; push_cast; omega)⟩, ⟨trivial, (hf.1 56 rfl), ⟨hf.1 3 rfl, hf.2 2 rfl⟩, (hf.1 30 rfl), ⟨hf.1 4 rfl, hf.2 5 rfl, hf.2 6 rfl, hf.2 7 rfl, hf.2 10 rfl, hf.1 19 rfl, hf.2 18 rfl⟩⟩⟩
theorem MO_more {l : Launch} {G : GT} {mm : Nat} : ModelOp l G yX12_more cX12_more 1 (some .int) 0 [] mm 0 0 (fun v a v2 a2 f => True ∧ v2 56 = v 56 ∧ (v2 3 = v 3 ∧ a2 2 = a 2) ∧ v2 30 = v 30 ∧ TSAME v a v2 a2) := by
  intro n ad ln v a L E hn hV hI
  obtain ⟨hB, hT, hS, hR, h19⟩ := hV
  refine ⟨_, B_more  hB L E hI, fun r L2 E2 h => ?_⟩
  obtain ⟨v2, a2, hI2, f, rfl, hf, hB2, hx⟩ := h
  exact ⟨f, ad, ln, v2, a2, rfl, hI2, ⟨hB2, (hT.fr hf rfl rfl), (hS.fr hf rfl rfl), (hR.fr hf rfl), (by have q := hf.1 19 rfl; push_cast; omega)⟩, ⟨trivial, (hf.1 56 rfl), ⟨hf.1 3 rfl, hf.2 2 rfl⟩, (hf.1 30 rfl), ⟨hf.1 4 rfl, hf.2 5 rfl, hf.2 6 rfl, hf.2 7 rfl, hf.2 10 rfl, hf.1 19 rfl, hf.2 18 rfl⟩⟩⟩
theorem MO_reading {l : Launch} {G : GT} {mm : Nat} {x1 : Int} {x2 : Int} (h_x1 : -2147483648 ≤ x1 ∧ x1 ≤ 2147483647) (h_x2 : -2147483648 ≤ x2 ∧ x2 ≤ 2147483647) : ModelOp l G yX12_reading cX12_reading 3 (some .int) 2 [.int (iI x1), .int (iI x2)] mm 0 0 (fun v a v2 a2 f => True ∧ v2 56 = v 56 ∧ (v2 3 = v 3 ∧ a2 2 = a 2) ∧ v2 30 = v 30 ∧ TSAME v a v2 a2) := by
  intro n ad ln v a L E hn hV hI
  obtain ⟨hB, hT, hS, hR, h19⟩ := hV
  refine ⟨_, B_reading (k := x1) (i := x2) hB h_x1 h_x2 L E hI, fun r L2 E2 h => ?_⟩
  obtain ⟨v2, a2, hI2, f, rfl, hf, hB2, hx⟩ := h
  exact ⟨f, ad, ln, v2, a2, rfl, hI2, ⟨hB2, (hT.fr hf rfl rfl), (hS.fr hf rfl rfl), (hR.fr hf rfl), (by have q := hf.1 19 rfl; push_cast; omega)⟩, ⟨trivial, (hf.1 56 rfl), ⟨hf.1 3 rfl, hf.2 2 rfl⟩, (hf.1 30 rfl), ⟨hf.1 4 rfl, hf.2 5 rfl, hf.2 6 rfl, hf.2 7 rfl, hf.2 10 rfl, hf.1 19 rfl, hf.2 18 rfl⟩⟩⟩
theorem MO_judge {l : Launch} {G : GT} {mm : Nat} {x1 : Int} (h_x1 : -2147483648 ≤ x1 ∧ x1 ≤ 2147483647) : ModelOp l G yX12_judge cX12_judge 3 (some .int) 36 [.int (iI x1)] mm 0 0 (fun v a v2 a2 f => True ∧ v2 56 = v 56 ∧ (v2 3 = v 3 ∧ a2 2 = a 2) ∧ v2 30 = v 30 ∧ TSAME v a v2 a2) := by
  intro n ad ln v a L E hn hV hI
  obtain ⟨hB, hT, hS, hR, h19⟩ := hV
  refine ⟨_, N_judge (t := x1) hB hT hR h_x1 L E hI, fun r L2 E2 h => ?_⟩
  obtain ⟨v2, a2, hI2, f, rfl, hf, hB2, hx⟩ := h
  exact ⟨f, ad, ln, v2, a2, rfl, hI2, ⟨hB2, (hT.fr hf rfl rfl), (hS.fr hf rfl rfl), hx, (by have q := hf.1 19 rfl; push_cast; omega)⟩, ⟨trivial, (hf.1 56 rfl), ⟨hf.1 3 rfl, hf.2 2 rfl⟩, (hf.1 30 rfl), ⟨hf.1 4 rfl, hf.2 5 rfl, hf.2 6 rfl, hf.2 7 rfl, hf.2 10 rfl, hf.1 19 rfl, hf.2 18 rfl⟩⟩⟩
theorem MO_parts {l : Launch} {G : GT} {mm : Nat} {x1 : Int} {x2 : Int} {x3 : Int} (h_x1 : -2147483648 ≤ x1 ∧ x1 ≤ 2147483647) (h_x2 : -2147483648 ≤ x2 ∧ x2 ≤ 2147483647) (h_x3 : -2147483648 ≤ x3 ∧ x3 ≤ 2147483647) : ModelOp l G yX12_parts cX12_parts 5 (some .int) 36 [.int (iI x1), .int (iI x2), .int (iI x3)] mm 0 0 (fun v a v2 a2 f => True ∧ v2 56 = v 56 ∧ (v2 3 = v 3 ∧ a2 2 = a 2) ∧ v2 30 = v 30 ∧ TSAME v a v2 a2) := by
  intro n ad ln v a L E hn hV hI
  obtain ⟨hB, hT, hS, hR, h19⟩ := hV
  refine ⟨_, N_parts (t := x1) (x := x2) (y := x3) hB hT hR h_x1 h_x2 h_x3 L E hI, fun r L2 E2 h => ?_⟩
  obtain ⟨v2, a2, hI2, f, rfl, hf, hB2, hx⟩ := h
  exact ⟨f, ad, ln, v2, a2, rfl, hI2, ⟨hB2, (hT.fr hf rfl rfl), (hS.fr hf rfl rfl), hx, (by have q := hf.1 19 rfl; push_cast; omega)⟩, ⟨trivial, (hf.1 56 rfl), ⟨hf.1 3 rfl, hf.2 2 rfl⟩, (hf.1 30 rfl), ⟨hf.1 4 rfl, hf.2 5 rfl, hf.2 6 rfl, hf.2 7 rfl, hf.2 10 rfl, hf.1 19 rfl, hf.2 18 rfl⟩⟩⟩
theorem MO_unreadable {l : Launch} {G : GT} {mm : Nat} {x1 : Int} {x2 : Int} {x3 : Int} (h_x1 : -2147483648 ≤ x1 ∧ x1 ≤ 2147483647) (h_x2 : -2147483648 ≤ x2 ∧ x2 ≤ 2147483647) (h_x3 : -2147483648 ≤ x3 ∧ x3 ≤ 2147483647) : ModelOp l G yX12_unreadable cX12_unreadable 9 (some .int) 67 [.int (iI x1), .int (iI x2), .int (iI x3)] mm 2 262 (fun v a v2 a2 f => True ∧ v2 56 = v 56 ∧ (v2 3 = v 3 ∧ a2 2 = a 2) ∧ v2 30 = v 30 ∧ TSAME v a v2 a2) := by
  intro n ad ln v a L E hn hV hI
  obtain ⟨hB, hT, hS, hR, h19⟩ := hV
  refine ⟨_, N_unreadable (t := x1) (n1 := x2) (m1 := x3) hB hT hR h_x1 h_x2 h_x3 L E hI, fun r L2 E2 h => ?_⟩
  obtain ⟨v2, a2, hI2, f, rfl, hf, hB2, hx⟩ := h
  exact ⟨f, ad, ln, v2, a2, rfl, hI2, ⟨hB2, (hT.fr hf rfl rfl), (hS.fr hf rfl rfl), hx, (by have q := hf.1 19 rfl; push_cast; omega)⟩, ⟨trivial, (hf.1 56 rfl), ⟨hf.1 3 rfl, hf.2 2 rfl⟩, (hf.1 30 rfl), ⟨hf.1 4 rfl, hf.2 5 rfl, hf.2 6 rfl, hf.2 7 rfl, hf.2 10 rfl, hf.1 19 rfl, hf.2 18 rfl⟩⟩⟩
theorem MO_saved {l : Launch} {G : GT} {mm : Nat} {x1 : Int} {x2 : Int} (h_x1 : -2147483648 ≤ x1 ∧ x1 ≤ 2147483647) (h_x2 : -2147483648 ≤ x2 ∧ x2 ≤ 2147483647) : ModelOp l G yX12_saved cX12_saved 8 (some .int) 66 [.int (iI x1), .int (iI x2)] mm 0 0 (fun v a v2 a2 f => True ∧ v2 56 = v 56 ∧ (v2 3 = v 3 ∧ a2 2 = a 2) ∧ v2 30 = v 30 ∧ TSAME v a v2 a2) := by
  intro n ad ln v a L E hn hV hI
  obtain ⟨hB, hT, hS, hR, h19⟩ := hV
  refine ⟨_, M_saved (x1 := x1) (y1 := x2) hB hT h_x1 h_x2 L E hI, fun r L2 E2 h => ?_⟩
  obtain ⟨v2, a2, hI2, f, rfl, hf, hB2, hx⟩ := h
  exact ⟨f, ad, ln, v2, a2, rfl, hI2, ⟨hB2, (hT.fr hf rfl rfl), (hS.fr hf rfl rfl), (hR.fr hf rfl), (by have q := hf.1 19 rfl; push_cast; omega)⟩, ⟨trivial, (hf.1 56 rfl), ⟨hf.1 3 rfl, hf.2 2 rfl⟩, (hf.1 30 rfl), ⟨hf.1 4 rfl, hf.2 5 rfl, hf.2 6 rfl, hf.2 7 rfl, hf.2 10 rfl, hf.1 19 rfl, hf.2 18 rfl⟩⟩⟩
theorem MO_place {l : Launch} {G : GT} {mm : Nat} : ModelOp l G yX12_place cX12_place 1 (some .int) 0 [] mm 0 0 (fun v a v2 a2 f => True ∧ v2 56 = v 56 ∧ (v2 3 = v 3 ∧ a2 2 = a 2) ∧ v2 30 = v 30 ∧ TSAME v a v2 a2) := by
  intro n ad ln v a L E hn hV hI
  obtain ⟨hB, hT, hS, hR, h19⟩ := hV
  refine ⟨_, B_place  hB L E hI, fun r L2 E2 h => ?_⟩
  obtain ⟨v2, a2, hI2, f, rfl, hf, hB2, hx⟩ := h
  exact ⟨f, ad, ln, v2, a2, rfl, hI2, ⟨hB2, (hT.fr hf rfl rfl), (hS.fr hf rfl rfl), (hR.fr hf rfl), (by have q := hf.1 19 rfl; push_cast; omega)⟩, ⟨trivial, (hf.1 56 rfl), ⟨hf.1 3 rfl, hf.2 2 rfl⟩, (hf.1 30 rfl), ⟨hf.1 4 rfl, hf.2 5 rfl, hf.2 6 rfl, hf.2 7 rfl, hf.2 10 rfl, hf.1 19 rfl, hf.2 18 rfl⟩⟩⟩
theorem MO_finds {l : Launch} {G : GT} {mm : Nat} {x1 : Int} (h_x1 : -2147483648 ≤ x1 ∧ x1 ≤ 2147483647) : ModelOp l G yX12_finds cX12_finds 2 (some .int) 1 [.int (iI x1)] mm 0 0 (fun v a v2 a2 f => True ∧ v2 56 = v 56 ∧ (v2 3 = v 3 ∧ a2 2 = a 2) ∧ v2 30 = v 30 ∧ TSAME v a v2 a2) := by
  intro n ad ln v a L E hn hV hI
  obtain ⟨hB, hT, hS, hR, h19⟩ := hV
  refine ⟨_, M_finds (k := x1) hB h_x1 L E hI, fun r L2 E2 h => ?_⟩
  obtain ⟨v2, a2, hI2, f, rfl, hf, hB2, hx⟩ := h
  exact ⟨f, ad, ln, v2, a2, rfl, hI2, ⟨hB2, (hT.fr hf rfl rfl), (hS.fr hf rfl rfl), (hR.fr hf rfl), (by have q := hf.1 19 rfl; push_cast; omega)⟩, ⟨trivial, (hf.1 56 rfl), ⟨hf.1 3 rfl, hf.2 2 rfl⟩, (hf.1 30 rfl), ⟨hf.1 4 rfl, hf.2 5 rfl, hf.2 6 rfl, hf.2 7 rfl, hf.2 10 rfl, hf.1 19 rfl, hf.2 18 rfl⟩⟩⟩
theorem MO_status {l : Launch} {G : GT} {mm : Nat} : ModelOp l G yX12_status cX12_status 1 (some .int) 0 [] mm 0 0 (fun v a v2 a2 f => True ∧ v2 56 = v 56 ∧ (v2 3 = v 3 ∧ a2 2 = a 2) ∧ v2 30 = v 30 ∧ TSAME v a v2 a2) := by
  intro n ad ln v a L E hn hV hI
  obtain ⟨hB, hT, hS, hR, h19⟩ := hV
  refine ⟨_, B_status  hB L E hI, fun r L2 E2 h => ?_⟩
  obtain ⟨v2, a2, hI2, f, rfl, hf, hB2, hx⟩ := h
  exact ⟨f, ad, ln, v2, a2, rfl, hI2, ⟨hB2, (hT.fr hf rfl rfl), (hS.fr hf rfl rfl), (hR.fr hf rfl), (by have q := hf.1 19 rfl; push_cast; omega)⟩, ⟨trivial, (hf.1 56 rfl), ⟨hf.1 3 rfl, hf.2 2 rfl⟩, (hf.1 30 rfl), ⟨hf.1 4 rfl, hf.2 5 rfl, hf.2 6 rfl, hf.2 7 rfl, hf.2 10 rfl, hf.1 19 rfl, hf.2 18 rfl⟩⟩⟩
theorem MO_digest {l : Launch} {G : GT} {mm : Nat} : ModelOp l G yX12_digest cX12_digest 4 (some .int) 0 [] mm 0 0 (fun v a v2 a2 f => True ∧ v2 56 = v 56 ∧ (v2 3 = v 3 ∧ a2 2 = a 2) ∧ v2 30 = v 30 ∧ TSAME v a v2 a2) := by
  intro n ad ln v a L E hn hV hI
  obtain ⟨hB, hT, hS, hR, h19⟩ := hV
  refine ⟨_, M_digest  hB L E hI, fun r L2 E2 h => ?_⟩
  obtain ⟨v2, a2, hI2, f, rfl, hf, hB2, hx⟩ := h
  exact ⟨f, ad, ln, v2, a2, rfl, hI2, ⟨hB2, (hT.fr hf rfl rfl), (hS.fr hf rfl rfl), (hR.fr hf rfl), (by have q := hf.1 19 rfl; push_cast; omega)⟩, ⟨trivial, (hf.1 56 rfl), ⟨hf.1 3 rfl, hf.2 2 rfl⟩, (hf.1 30 rfl), ⟨hf.1 4 rfl, hf.2 5 rfl, hf.2 6 rfl, hf.2 7 rfl, hf.2 10 rfl, hf.1 19 rfl, hf.2 18 rfl⟩⟩⟩
