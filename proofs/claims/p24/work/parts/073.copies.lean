section
def bcn (x : Int32) : Int32 := ((((((((x - (((Int32.toUInt32 x >>> (Int32.toUInt32 (1 : Int32) &&& Int32.toUInt32 31)).toInt32) &&& (1431655765 : Int32))) &&& (858993459 : Int32)) + (((Int32.toUInt32 (x - (((Int32.toUInt32 x >>> (Int32.toUInt32 (1 : Int32) &&& Int32.toUInt32 31)).toInt32) &&& (1431655765 : Int32))) >>> (Int32.toUInt32 (2 : Int32) &&& Int32.toUInt32 31)).toInt32) &&& (858993459 : Int32))) + ((Int32.toUInt32 (((x - (((Int32.toUInt32 x >>> (Int32.toUInt32 (1 : Int32) &&& Int32.toUInt32 31)).toInt32) &&& (1431655765 : Int32))) &&& (858993459 : Int32)) + (((Int32.toUInt32 (x - (((Int32.toUInt32 x >>> (Int32.toUInt32 (1 : Int32) &&& Int32.toUInt32 31)).toInt32) &&& (1431655765 : Int32))) >>> (Int32.toUInt32 (2 : Int32) &&& Int32.toUInt32 31)).toInt32) &&& (858993459 : Int32))) >>> (Int32.toUInt32 (4 : Int32) &&& Int32.toUInt32 31)).toInt32)) &&& (252645135 : Int32)) + ((Int32.toUInt32 (((((x - (((Int32.toUInt32 x >>> (Int32.toUInt32 (1 : Int32) &&& Int32.toUInt32 31)).toInt32) &&& (1431655765 : Int32))) &&& (858993459 : Int32)) + (((Int32.toUInt32 (x - (((Int32.toUInt32 x >>> (Int32.toUInt32 (1 : Int32) &&& Int32.toUInt32 31)).toInt32) &&& (1431655765 : Int32))) >>> (Int32.toUInt32 (2 : Int32) &&& Int32.toUInt32 31)).toInt32) &&& (858993459 : Int32))) + ((Int32.toUInt32 (((x - (((Int32.toUInt32 x >>> (Int32.toUInt32 (1 : Int32) &&& Int32.toUInt32 31)).toInt32) &&& (1431655765 : Int32))) &&& (858993459 : Int32)) + (((Int32.toUInt32 (x - (((Int32.toUInt32 x >>> (Int32.toUInt32 (1 : Int32) &&& Int32.toUInt32 31)).toInt32) &&& (1431655765 : Int32))) >>> (Int32.toUInt32 (2 : Int32) &&& Int32.toUInt32 31)).toInt32) &&& (858993459 : Int32))) >>> (Int32.toUInt32 (4 : Int32) &&& Int32.toUInt32 31)).toInt32)) &&& (252645135 : Int32)) >>> (Int32.toUInt32 (8 : Int32) &&& Int32.toUInt32 31)).toInt32)) + ((Int32.toUInt32 ((((((x - (((Int32.toUInt32 x >>> (Int32.toUInt32 (1 : Int32) &&& Int32.toUInt32 31)).toInt32) &&& (1431655765 : Int32))) &&& (858993459 : Int32)) + (((Int32.toUInt32 (x - (((Int32.toUInt32 x >>> (Int32.toUInt32 (1 : Int32) &&& Int32.toUInt32 31)).toInt32) &&& (1431655765 : Int32))) >>> (Int32.toUInt32 (2 : Int32) &&& Int32.toUInt32 31)).toInt32) &&& (858993459 : Int32))) + ((Int32.toUInt32 (((x - (((Int32.toUInt32 x >>> (Int32.toUInt32 (1 : Int32) &&& Int32.toUInt32 31)).toInt32) &&& (1431655765 : Int32))) &&& (858993459 : Int32)) + (((Int32.toUInt32 (x - (((Int32.toUInt32 x >>> (Int32.toUInt32 (1 : Int32) &&& Int32.toUInt32 31)).toInt32) &&& (1431655765 : Int32))) >>> (Int32.toUInt32 (2 : Int32) &&& Int32.toUInt32 31)).toInt32) &&& (858993459 : Int32))) >>> (Int32.toUInt32 (4 : Int32) &&& Int32.toUInt32 31)).toInt32)) &&& (252645135 : Int32)) + ((Int32.toUInt32 (((((x - (((Int32.toUInt32 x >>> (Int32.toUInt32 (1 : Int32) &&& Int32.toUInt32 31)).toInt32) &&& (1431655765 : Int32))) &&& (858993459 : Int32)) + (((Int32.toUInt32 (x - (((Int32.toUInt32 x >>> (Int32.toUInt32 (1 : Int32) &&& Int32.toUInt32 31)).toInt32) &&& (1431655765 : Int32))) >>> (Int32.toUInt32 (2 : Int32) &&& Int32.toUInt32 31)).toInt32) &&& (858993459 : Int32))) + ((Int32.toUInt32 (((x - (((Int32.toUInt32 x >>> (Int32.toUInt32 (1 : Int32) &&& Int32.toUInt32 31)).toInt32) &&& (1431655765 : Int32))) &&& (858993459 : Int32)) + (((Int32.toUInt32 (x - (((Int32.toUInt32 x >>> (Int32.toUInt32 (1 : Int32) &&& Int32.toUInt32 31)).toInt32) &&& (1431655765 : Int32))) >>> (Int32.toUInt32 (2 : Int32) &&& Int32.toUInt32 31)).toInt32) &&& (858993459 : Int32))) >>> (Int32.toUInt32 (4 : Int32) &&& Int32.toUInt32 31)).toInt32)) &&& (252645135 : Int32)) >>> (Int32.toUInt32 (8 : Int32) &&& Int32.toUInt32 31)).toInt32)) >>> (Int32.toUInt32 (16 : Int32) &&& Int32.toUInt32 31)).toInt32)) &&& (63 : Int32))
set_option maxHeartbeats 4000000 in
set_option maxRecDepth 100000 in
theorem s_bitCount {l : Launch} {G : GT} {L : List Nat} {E : Nat → va_E} (x : Int32) : Mq l G yJ6_bitCount_0f7a4 cJ6_bitCount_0f7a4 1 (some .int) 0 [.int x] L E 0 0 (fun v L2 E2 => v = some (.int (bcn x)) ∧ L2 = L ∧ E2 = E) := by
  refine Mq.mk (by decide) (Nat.le_of_ble_eq_true rfl) ?_
  intro p e s m args below meth c A C
  refine q_iload_n (j := 0) C dJ6_bitCount_0f7a4_0 rfl ?_
  refine q_iload_n (j := 0) C dJ6_bitCount_0f7a4_1 rfl ?_
  refine q_iconst (v := 1) C dJ6_bitCount_0f7a4_2 (by decide) ?_
  refine q_iushr (v := ((Int32.toUInt32 x >>> (Int32.toUInt32 (1 : Int32) &&& Int32.toUInt32 31)).toInt32)) C dJ6_bitCount_0f7a4_3 rfl ?_
  refine q_ldcw (v := 1431655765) C dJ6_bitCount_0f7a4_4 w5_17 ?_
  refine q_iand (v := (((Int32.toUInt32 x >>> (Int32.toUInt32 (1 : Int32) &&& Int32.toUInt32 31)).toInt32) &&& (1431655765 : Int32))) C dJ6_bitCount_0f7a4_7 rfl ?_
  refine q_isub (v := (x - (((Int32.toUInt32 x >>> (Int32.toUInt32 (1 : Int32) &&& Int32.toUInt32 31)).toInt32) &&& (1431655765 : Int32)))) C dJ6_bitCount_0f7a4_8 rfl ?_
  refine q_istore_n (lv2 := [(0, .int (x - (((Int32.toUInt32 x >>> (Int32.toUInt32 (1 : Int32) &&& Int32.toUInt32 31)).toInt32) &&& (1431655765 : Int32))))]) C dJ6_bitCount_0f7a4_9 (by decide) rfl ?_
  refine q_iload_n (j := 0) C dJ6_bitCount_0f7a4_10 rfl ?_
  refine q_ldcw (v := 858993459) C dJ6_bitCount_0f7a4_11 w5_18 ?_
  refine q_iand (v := ((x - (((Int32.toUInt32 x >>> (Int32.toUInt32 (1 : Int32) &&& Int32.toUInt32 31)).toInt32) &&& (1431655765 : Int32))) &&& (858993459 : Int32))) C dJ6_bitCount_0f7a4_14 rfl ?_
  refine q_iload_n (j := 0) C dJ6_bitCount_0f7a4_15 rfl ?_
  refine q_iconst (v := 2) C dJ6_bitCount_0f7a4_16 (by decide) ?_
  refine q_iushr (v := ((Int32.toUInt32 (x - (((Int32.toUInt32 x >>> (Int32.toUInt32 (1 : Int32) &&& Int32.toUInt32 31)).toInt32) &&& (1431655765 : Int32))) >>> (Int32.toUInt32 (2 : Int32) &&& Int32.toUInt32 31)).toInt32)) C dJ6_bitCount_0f7a4_17 rfl ?_
  refine q_ldcw (v := 858993459) C dJ6_bitCount_0f7a4_18 w5_18 ?_
  refine q_iand (v := (((Int32.toUInt32 (x - (((Int32.toUInt32 x >>> (Int32.toUInt32 (1 : Int32) &&& Int32.toUInt32 31)).toInt32) &&& (1431655765 : Int32))) >>> (Int32.toUInt32 (2 : Int32) &&& Int32.toUInt32 31)).toInt32) &&& (858993459 : Int32))) C dJ6_bitCount_0f7a4_21 rfl ?_
  refine q_iadd (v := (((x - (((Int32.toUInt32 x >>> (Int32.toUInt32 (1 : Int32) &&& Int32.toUInt32 31)).toInt32) &&& (1431655765 : Int32))) &&& (858993459 : Int32)) + (((Int32.toUInt32 (x - (((Int32.toUInt32 x >>> (Int32.toUInt32 (1 : Int32) &&& Int32.toUInt32 31)).toInt32) &&& (1431655765 : Int32))) >>> (Int32.toUInt32 (2 : Int32) &&& Int32.toUInt32 31)).toInt32) &&& (858993459 : Int32)))) C dJ6_bitCount_0f7a4_22 rfl ?_
  refine q_istore_n (lv2 := [(0, .int (((x - (((Int32.toUInt32 x >>> (Int32.toUInt32 (1 : Int32) &&& Int32.toUInt32 31)).toInt32) &&& (1431655765 : Int32))) &&& (858993459 : Int32)) + (((Int32.toUInt32 (x - (((Int32.toUInt32 x >>> (Int32.toUInt32 (1 : Int32) &&& Int32.toUInt32 31)).toInt32) &&& (1431655765 : Int32))) >>> (Int32.toUInt32 (2 : Int32) &&& Int32.toUInt32 31)).toInt32) &&& (858993459 : Int32))))]) C dJ6_bitCount_0f7a4_23 (by decide) rfl ?_
  refine q_iload_n (j := 0) C dJ6_bitCount_0f7a4_24 rfl ?_
  refine q_iload_n (j := 0) C dJ6_bitCount_0f7a4_25 rfl ?_
  refine q_iconst (v := 4) C dJ6_bitCount_0f7a4_26 (by decide) ?_
  refine q_iushr (v := ((Int32.toUInt32 (((x - (((Int32.toUInt32 x >>> (Int32.toUInt32 (1 : Int32) &&& Int32.toUInt32 31)).toInt32) &&& (1431655765 : Int32))) &&& (858993459 : Int32)) + (((Int32.toUInt32 (x - (((Int32.toUInt32 x >>> (Int32.toUInt32 (1 : Int32) &&& Int32.toUInt32 31)).toInt32) &&& (1431655765 : Int32))) >>> (Int32.toUInt32 (2 : Int32) &&& Int32.toUInt32 31)).toInt32) &&& (858993459 : Int32))) >>> (Int32.toUInt32 (4 : Int32) &&& Int32.toUInt32 31)).toInt32)) C dJ6_bitCount_0f7a4_27 rfl ?_
  refine q_iadd (v := ((((x - (((Int32.toUInt32 x >>> (Int32.toUInt32 (1 : Int32) &&& Int32.toUInt32 31)).toInt32) &&& (1431655765 : Int32))) &&& (858993459 : Int32)) + (((Int32.toUInt32 (x - (((Int32.toUInt32 x >>> (Int32.toUInt32 (1 : Int32) &&& Int32.toUInt32 31)).toInt32) &&& (1431655765 : Int32))) >>> (Int32.toUInt32 (2 : Int32) &&& Int32.toUInt32 31)).toInt32) &&& (858993459 : Int32))) + ((Int32.toUInt32 (((x - (((Int32.toUInt32 x >>> (Int32.toUInt32 (1 : Int32) &&& Int32.toUInt32 31)).toInt32) &&& (1431655765 : Int32))) &&& (858993459 : Int32)) + (((Int32.toUInt32 (x - (((Int32.toUInt32 x >>> (Int32.toUInt32 (1 : Int32) &&& Int32.toUInt32 31)).toInt32) &&& (1431655765 : Int32))) >>> (Int32.toUInt32 (2 : Int32) &&& Int32.toUInt32 31)).toInt32) &&& (858993459 : Int32))) >>> (Int32.toUInt32 (4 : Int32) &&& Int32.toUInt32 31)).toInt32))) C dJ6_bitCount_0f7a4_28 rfl ?_
  refine q_ldcw (v := 252645135) C dJ6_bitCount_0f7a4_29 w5_19 ?_
  refine q_iand (v := (((((x - (((Int32.toUInt32 x >>> (Int32.toUInt32 (1 : Int32) &&& Int32.toUInt32 31)).toInt32) &&& (1431655765 : Int32))) &&& (858993459 : Int32)) + (((Int32.toUInt32 (x - (((Int32.toUInt32 x >>> (Int32.toUInt32 (1 : Int32) &&& Int32.toUInt32 31)).toInt32) &&& (1431655765 : Int32))) >>> (Int32.toUInt32 (2 : Int32) &&& Int32.toUInt32 31)).toInt32) &&& (858993459 : Int32))) + ((Int32.toUInt32 (((x - (((Int32.toUInt32 x >>> (Int32.toUInt32 (1 : Int32) &&& Int32.toUInt32 31)).toInt32) &&& (1431655765 : Int32))) &&& (858993459 : Int32)) + (((Int32.toUInt32 (x - (((Int32.toUInt32 x >>> (Int32.toUInt32 (1 : Int32) &&& Int32.toUInt32 31)).toInt32) &&& (1431655765 : Int32))) >>> (Int32.toUInt32 (2 : Int32) &&& Int32.toUInt32 31)).toInt32) &&& (858993459 : Int32))) >>> (Int32.toUInt32 (4 : Int32) &&& Int32.toUInt32 31)).toInt32)) &&& (252645135 : Int32))) C dJ6_bitCount_0f7a4_32 rfl ?_
  refine q_istore_n (lv2 := [(0, .int (((((x - (((Int32.toUInt32 x >>> (Int32.toUInt32 (1 : Int32) &&& Int32.toUInt32 31)).toInt32) &&& (1431655765 : Int32))) &&& (858993459 : Int32)) + (((Int32.toUInt32 (x - (((Int32.toUInt32 x >>> (Int32.toUInt32 (1 : Int32) &&& Int32.toUInt32 31)).toInt32) &&& (1431655765 : Int32))) >>> (Int32.toUInt32 (2 : Int32) &&& Int32.toUInt32 31)).toInt32) &&& (858993459 : Int32))) + ((Int32.toUInt32 (((x - (((Int32.toUInt32 x >>> (Int32.toUInt32 (1 : Int32) &&& Int32.toUInt32 31)).toInt32) &&& (1431655765 : Int32))) &&& (858993459 : Int32)) + (((Int32.toUInt32 (x - (((Int32.toUInt32 x >>> (Int32.toUInt32 (1 : Int32) &&& Int32.toUInt32 31)).toInt32) &&& (1431655765 : Int32))) >>> (Int32.toUInt32 (2 : Int32) &&& Int32.toUInt32 31)).toInt32) &&& (858993459 : Int32))) >>> (Int32.toUInt32 (4 : Int32) &&& Int32.toUInt32 31)).toInt32)) &&& (252645135 : Int32)))]) C dJ6_bitCount_0f7a4_33 (by decide) rfl ?_
  refine q_iload_n (j := 0) C dJ6_bitCount_0f7a4_34 rfl ?_
  refine q_iload_n (j := 0) C dJ6_bitCount_0f7a4_35 rfl ?_
  refine q_bipush (v := 8) C dJ6_bitCount_0f7a4_36 (by decide) ?_
  refine q_iushr (v := ((Int32.toUInt32 (((((x - (((Int32.toUInt32 x >>> (Int32.toUInt32 (1 : Int32) &&& Int32.toUInt32 31)).toInt32) &&& (1431655765 : Int32))) &&& (858993459 : Int32)) + (((Int32.toUInt32 (x - (((Int32.toUInt32 x >>> (Int32.toUInt32 (1 : Int32) &&& Int32.toUInt32 31)).toInt32) &&& (1431655765 : Int32))) >>> (Int32.toUInt32 (2 : Int32) &&& Int32.toUInt32 31)).toInt32) &&& (858993459 : Int32))) + ((Int32.toUInt32 (((x - (((Int32.toUInt32 x >>> (Int32.toUInt32 (1 : Int32) &&& Int32.toUInt32 31)).toInt32) &&& (1431655765 : Int32))) &&& (858993459 : Int32)) + (((Int32.toUInt32 (x - (((Int32.toUInt32 x >>> (Int32.toUInt32 (1 : Int32) &&& Int32.toUInt32 31)).toInt32) &&& (1431655765 : Int32))) >>> (Int32.toUInt32 (2 : Int32) &&& Int32.toUInt32 31)).toInt32) &&& (858993459 : Int32))) >>> (Int32.toUInt32 (4 : Int32) &&& Int32.toUInt32 31)).toInt32)) &&& (252645135 : Int32)) >>> (Int32.toUInt32 (8 : Int32) &&& Int32.toUInt32 31)).toInt32)) C dJ6_bitCount_0f7a4_38 rfl ?_
  refine q_iadd (v := ((((((x - (((Int32.toUInt32 x >>> (Int32.toUInt32 (1 : Int32) &&& Int32.toUInt32 31)).toInt32) &&& (1431655765 : Int32))) &&& (858993459 : Int32)) + (((Int32.toUInt32 (x - (((Int32.toUInt32 x >>> (Int32.toUInt32 (1 : Int32) &&& Int32.toUInt32 31)).toInt32) &&& (1431655765 : Int32))) >>> (Int32.toUInt32 (2 : Int32) &&& Int32.toUInt32 31)).toInt32) &&& (858993459 : Int32))) + ((Int32.toUInt32 (((x - (((Int32.toUInt32 x >>> (Int32.toUInt32 (1 : Int32) &&& Int32.toUInt32 31)).toInt32) &&& (1431655765 : Int32))) &&& (858993459 : Int32)) + (((Int32.toUInt32 (x - (((Int32.toUInt32 x >>> (Int32.toUInt32 (1 : Int32) &&& Int32.toUInt32 31)).toInt32) &&& (1431655765 : Int32))) >>> (Int32.toUInt32 (2 : Int32) &&& Int32.toUInt32 31)).toInt32) &&& (858993459 : Int32))) >>> (Int32.toUInt32 (4 : Int32) &&& Int32.toUInt32 31)).toInt32)) &&& (252645135 : Int32)) + ((Int32.toUInt32 (((((x - (((Int32.toUInt32 x >>> (Int32.toUInt32 (1 : Int32) &&& Int32.toUInt32 31)).toInt32) &&& (1431655765 : Int32))) &&& (858993459 : Int32)) + (((Int32.toUInt32 (x - (((Int32.toUInt32 x >>> (Int32.toUInt32 (1 : Int32) &&& Int32.toUInt32 31)).toInt32) &&& (1431655765 : Int32))) >>> (Int32.toUInt32 (2 : Int32) &&& Int32.toUInt32 31)).toInt32) &&& (858993459 : Int32))) + ((Int32.toUInt32 (((x - (((Int32.toUInt32 x >>> (Int32.toUInt32 (1 : Int32) &&& Int32.toUInt32 31)).toInt32) &&& (1431655765 : Int32))) &&& (858993459 : Int32)) + (((Int32.toUInt32 (x - (((Int32.toUInt32 x >>> (Int32.toUInt32 (1 : Int32) &&& Int32.toUInt32 31)).toInt32) &&& (1431655765 : Int32))) >>> (Int32.toUInt32 (2 : Int32) &&& Int32.toUInt32 31)).toInt32) &&& (858993459 : Int32))) >>> (Int32.toUInt32 (4 : Int32) &&& Int32.toUInt32 31)).toInt32)) &&& (252645135 : Int32)) >>> (Int32.toUInt32 (8 : Int32) &&& Int32.toUInt32 31)).toInt32))) C dJ6_bitCount_0f7a4_39 rfl ?_
  refine q_istore_n (lv2 := [(0, .int ((((((x - (((Int32.toUInt32 x >>> (Int32.toUInt32 (1 : Int32) &&& Int32.toUInt32 31)).toInt32) &&& (1431655765 : Int32))) &&& (858993459 : Int32)) + (((Int32.toUInt32 (x - (((Int32.toUInt32 x >>> (Int32.toUInt32 (1 : Int32) &&& Int32.toUInt32 31)).toInt32) &&& (1431655765 : Int32))) >>> (Int32.toUInt32 (2 : Int32) &&& Int32.toUInt32 31)).toInt32) &&& (858993459 : Int32))) + ((Int32.toUInt32 (((x - (((Int32.toUInt32 x >>> (Int32.toUInt32 (1 : Int32) &&& Int32.toUInt32 31)).toInt32) &&& (1431655765 : Int32))) &&& (858993459 : Int32)) + (((Int32.toUInt32 (x - (((Int32.toUInt32 x >>> (Int32.toUInt32 (1 : Int32) &&& Int32.toUInt32 31)).toInt32) &&& (1431655765 : Int32))) >>> (Int32.toUInt32 (2 : Int32) &&& Int32.toUInt32 31)).toInt32) &&& (858993459 : Int32))) >>> (Int32.toUInt32 (4 : Int32) &&& Int32.toUInt32 31)).toInt32)) &&& (252645135 : Int32)) + ((Int32.toUInt32 (((((x - (((Int32.toUInt32 x >>> (Int32.toUInt32 (1 : Int32) &&& Int32.toUInt32 31)).toInt32) &&& (1431655765 : Int32))) &&& (858993459 : Int32)) + (((Int32.toUInt32 (x - (((Int32.toUInt32 x >>> (Int32.toUInt32 (1 : Int32) &&& Int32.toUInt32 31)).toInt32) &&& (1431655765 : Int32))) >>> (Int32.toUInt32 (2 : Int32) &&& Int32.toUInt32 31)).toInt32) &&& (858993459 : Int32))) + ((Int32.toUInt32 (((x - (((Int32.toUInt32 x >>> (Int32.toUInt32 (1 : Int32) &&& Int32.toUInt32 31)).toInt32) &&& (1431655765 : Int32))) &&& (858993459 : Int32)) + (((Int32.toUInt32 (x - (((Int32.toUInt32 x >>> (Int32.toUInt32 (1 : Int32) &&& Int32.toUInt32 31)).toInt32) &&& (1431655765 : Int32))) >>> (Int32.toUInt32 (2 : Int32) &&& Int32.toUInt32 31)).toInt32) &&& (858993459 : Int32))) >>> (Int32.toUInt32 (4 : Int32) &&& Int32.toUInt32 31)).toInt32)) &&& (252645135 : Int32)) >>> (Int32.toUInt32 (8 : Int32) &&& Int32.toUInt32 31)).toInt32)))]) C dJ6_bitCount_0f7a4_40 (by decide) rfl ?_
  refine q_iload_n (j := 0) C dJ6_bitCount_0f7a4_41 rfl ?_
  refine q_iload_n (j := 0) C dJ6_bitCount_0f7a4_42 rfl ?_
  refine q_bipush (v := 16) C dJ6_bitCount_0f7a4_43 (by decide) ?_
  refine q_iushr (v := ((Int32.toUInt32 ((((((x - (((Int32.toUInt32 x >>> (Int32.toUInt32 (1 : Int32) &&& Int32.toUInt32 31)).toInt32) &&& (1431655765 : Int32))) &&& (858993459 : Int32)) + (((Int32.toUInt32 (x - (((Int32.toUInt32 x >>> (Int32.toUInt32 (1 : Int32) &&& Int32.toUInt32 31)).toInt32) &&& (1431655765 : Int32))) >>> (Int32.toUInt32 (2 : Int32) &&& Int32.toUInt32 31)).toInt32) &&& (858993459 : Int32))) + ((Int32.toUInt32 (((x - (((Int32.toUInt32 x >>> (Int32.toUInt32 (1 : Int32) &&& Int32.toUInt32 31)).toInt32) &&& (1431655765 : Int32))) &&& (858993459 : Int32)) + (((Int32.toUInt32 (x - (((Int32.toUInt32 x >>> (Int32.toUInt32 (1 : Int32) &&& Int32.toUInt32 31)).toInt32) &&& (1431655765 : Int32))) >>> (Int32.toUInt32 (2 : Int32) &&& Int32.toUInt32 31)).toInt32) &&& (858993459 : Int32))) >>> (Int32.toUInt32 (4 : Int32) &&& Int32.toUInt32 31)).toInt32)) &&& (252645135 : Int32)) + ((Int32.toUInt32 (((((x - (((Int32.toUInt32 x >>> (Int32.toUInt32 (1 : Int32) &&& Int32.toUInt32 31)).toInt32) &&& (1431655765 : Int32))) &&& (858993459 : Int32)) + (((Int32.toUInt32 (x - (((Int32.toUInt32 x >>> (Int32.toUInt32 (1 : Int32) &&& Int32.toUInt32 31)).toInt32) &&& (1431655765 : Int32))) >>> (Int32.toUInt32 (2 : Int32) &&& Int32.toUInt32 31)).toInt32) &&& (858993459 : Int32))) + ((Int32.toUInt32 (((x - (((Int32.toUInt32 x >>> (Int32.toUInt32 (1 : Int32) &&& Int32.toUInt32 31)).toInt32) &&& (1431655765 : Int32))) &&& (858993459 : Int32)) + (((Int32.toUInt32 (x - (((Int32.toUInt32 x >>> (Int32.toUInt32 (1 : Int32) &&& Int32.toUInt32 31)).toInt32) &&& (1431655765 : Int32))) >>> (Int32.toUInt32 (2 : Int32) &&& Int32.toUInt32 31)).toInt32) &&& (858993459 : Int32))) >>> (Int32.toUInt32 (4 : Int32) &&& Int32.toUInt32 31)).toInt32)) &&& (252645135 : Int32)) >>> (Int32.toUInt32 (8 : Int32) &&& Int32.toUInt32 31)).toInt32)) >>> (Int32.toUInt32 (16 : Int32) &&& Int32.toUInt32 31)).toInt32)) C dJ6_bitCount_0f7a4_45 rfl ?_
  refine q_iadd (v := (((((((x - (((Int32.toUInt32 x >>> (Int32.toUInt32 (1 : Int32) &&& Int32.toUInt32 31)).toInt32) &&& (1431655765 : Int32))) &&& (858993459 : Int32)) + (((Int32.toUInt32 (x - (((Int32.toUInt32 x >>> (Int32.toUInt32 (1 : Int32) &&& Int32.toUInt32 31)).toInt32) &&& (1431655765 : Int32))) >>> (Int32.toUInt32 (2 : Int32) &&& Int32.toUInt32 31)).toInt32) &&& (858993459 : Int32))) + ((Int32.toUInt32 (((x - (((Int32.toUInt32 x >>> (Int32.toUInt32 (1 : Int32) &&& Int32.toUInt32 31)).toInt32) &&& (1431655765 : Int32))) &&& (858993459 : Int32)) + (((Int32.toUInt32 (x - (((Int32.toUInt32 x >>> (Int32.toUInt32 (1 : Int32) &&& Int32.toUInt32 31)).toInt32) &&& (1431655765 : Int32))) >>> (Int32.toUInt32 (2 : Int32) &&& Int32.toUInt32 31)).toInt32) &&& (858993459 : Int32))) >>> (Int32.toUInt32 (4 : Int32) &&& Int32.toUInt32 31)).toInt32)) &&& (252645135 : Int32)) + ((Int32.toUInt32 (((((x - (((Int32.toUInt32 x >>> (Int32.toUInt32 (1 : Int32) &&& Int32.toUInt32 31)).toInt32) &&& (1431655765 : Int32))) &&& (858993459 : Int32)) + (((Int32.toUInt32 (x - (((Int32.toUInt32 x >>> (Int32.toUInt32 (1 : Int32) &&& Int32.toUInt32 31)).toInt32) &&& (1431655765 : Int32))) >>> (Int32.toUInt32 (2 : Int32) &&& Int32.toUInt32 31)).toInt32) &&& (858993459 : Int32))) + ((Int32.toUInt32 (((x - (((Int32.toUInt32 x >>> (Int32.toUInt32 (1 : Int32) &&& Int32.toUInt32 31)).toInt32) &&& (1431655765 : Int32))) &&& (858993459 : Int32)) + (((Int32.toUInt32 (x - (((Int32.toUInt32 x >>> (Int32.toUInt32 (1 : Int32) &&& Int32.toUInt32 31)).toInt32) &&& (1431655765 : Int32))) >>> (Int32.toUInt32 (2 : Int32) &&& Int32.toUInt32 31)).toInt32) &&& (858993459 : Int32))) >>> (Int32.toUInt32 (4 : Int32) &&& Int32.toUInt32 31)).toInt32)) &&& (252645135 : Int32)) >>> (Int32.toUInt32 (8 : Int32) &&& Int32.toUInt32 31)).toInt32)) + ((Int32.toUInt32 ((((((x - (((Int32.toUInt32 x >>> (Int32.toUInt32 (1 : Int32) &&& Int32.toUInt32 31)).toInt32) &&& (1431655765 : Int32))) &&& (858993459 : Int32)) + (((Int32.toUInt32 (x - (((Int32.toUInt32 x >>> (Int32.toUInt32 (1 : Int32) &&& Int32.toUInt32 31)).toInt32) &&& (1431655765 : Int32))) >>> (Int32.toUInt32 (2 : Int32) &&& Int32.toUInt32 31)).toInt32) &&& (858993459 : Int32))) + ((Int32.toUInt32 (((x - (((Int32.toUInt32 x >>> (Int32.toUInt32 (1 : Int32) &&& Int32.toUInt32 31)).toInt32) &&& (1431655765 : Int32))) &&& (858993459 : Int32)) + (((Int32.toUInt32 (x - (((Int32.toUInt32 x >>> (Int32.toUInt32 (1 : Int32) &&& Int32.toUInt32 31)).toInt32) &&& (1431655765 : Int32))) >>> (Int32.toUInt32 (2 : Int32) &&& Int32.toUInt32 31)).toInt32) &&& (858993459 : Int32))) >>> (Int32.toUInt32 (4 : Int32) &&& Int32.toUInt32 31)).toInt32)) &&& (252645135 : Int32)) + ((Int32.toUInt32 (((((x - (((Int32.toUInt32 x >>> (Int32.toUInt32 (1 : Int32) &&& Int32.toUInt32 31)).toInt32) &&& (1431655765 : Int32))) &&& (858993459 : Int32)) + (((Int32.toUInt32 (x - (((Int32.toUInt32 x >>> (Int32.toUInt32 (1 : Int32) &&& Int32.toUInt32 31)).toInt32) &&& (1431655765 : Int32))) >>> (Int32.toUInt32 (2 : Int32) &&& Int32.toUInt32 31)).toInt32) &&& (858993459 : Int32))) + ((Int32.toUInt32 (((x - (((Int32.toUInt32 x >>> (Int32.toUInt32 (1 : Int32) &&& Int32.toUInt32 31)).toInt32) &&& (1431655765 : Int32))) &&& (858993459 : Int32)) + (((Int32.toUInt32 (x - (((Int32.toUInt32 x >>> (Int32.toUInt32 (1 : Int32) &&& Int32.toUInt32 31)).toInt32) &&& (1431655765 : Int32))) >>> (Int32.toUInt32 (2 : Int32) &&& Int32.toUInt32 31)).toInt32) &&& (858993459 : Int32))) >>> (Int32.toUInt32 (4 : Int32) &&& Int32.toUInt32 31)).toInt32)) &&& (252645135 : Int32)) >>> (Int32.toUInt32 (8 : Int32) &&& Int32.toUInt32 31)).toInt32)) >>> (Int32.toUInt32 (16 : Int32) &&& Int32.toUInt32 31)).toInt32))) C dJ6_bitCount_0f7a4_46 rfl ?_
  refine q_istore_n (lv2 := [(0, .int (((((((x - (((Int32.toUInt32 x >>> (Int32.toUInt32 (1 : Int32) &&& Int32.toUInt32 31)).toInt32) &&& (1431655765 : Int32))) &&& (858993459 : Int32)) + (((Int32.toUInt32 (x - (((Int32.toUInt32 x >>> (Int32.toUInt32 (1 : Int32) &&& Int32.toUInt32 31)).toInt32) &&& (1431655765 : Int32))) >>> (Int32.toUInt32 (2 : Int32) &&& Int32.toUInt32 31)).toInt32) &&& (858993459 : Int32))) + ((Int32.toUInt32 (((x - (((Int32.toUInt32 x >>> (Int32.toUInt32 (1 : Int32) &&& Int32.toUInt32 31)).toInt32) &&& (1431655765 : Int32))) &&& (858993459 : Int32)) + (((Int32.toUInt32 (x - (((Int32.toUInt32 x >>> (Int32.toUInt32 (1 : Int32) &&& Int32.toUInt32 31)).toInt32) &&& (1431655765 : Int32))) >>> (Int32.toUInt32 (2 : Int32) &&& Int32.toUInt32 31)).toInt32) &&& (858993459 : Int32))) >>> (Int32.toUInt32 (4 : Int32) &&& Int32.toUInt32 31)).toInt32)) &&& (252645135 : Int32)) + ((Int32.toUInt32 (((((x - (((Int32.toUInt32 x >>> (Int32.toUInt32 (1 : Int32) &&& Int32.toUInt32 31)).toInt32) &&& (1431655765 : Int32))) &&& (858993459 : Int32)) + (((Int32.toUInt32 (x - (((Int32.toUInt32 x >>> (Int32.toUInt32 (1 : Int32) &&& Int32.toUInt32 31)).toInt32) &&& (1431655765 : Int32))) >>> (Int32.toUInt32 (2 : Int32) &&& Int32.toUInt32 31)).toInt32) &&& (858993459 : Int32))) + ((Int32.toUInt32 (((x - (((Int32.toUInt32 x >>> (Int32.toUInt32 (1 : Int32) &&& Int32.toUInt32 31)).toInt32) &&& (1431655765 : Int32))) &&& (858993459 : Int32)) + (((Int32.toUInt32 (x - (((Int32.toUInt32 x >>> (Int32.toUInt32 (1 : Int32) &&& Int32.toUInt32 31)).toInt32) &&& (1431655765 : Int32))) >>> (Int32.toUInt32 (2 : Int32) &&& Int32.toUInt32 31)).toInt32) &&& (858993459 : Int32))) >>> (Int32.toUInt32 (4 : Int32) &&& Int32.toUInt32 31)).toInt32)) &&& (252645135 : Int32)) >>> (Int32.toUInt32 (8 : Int32) &&& Int32.toUInt32 31)).toInt32)) + ((Int32.toUInt32 ((((((x - (((Int32.toUInt32 x >>> (Int32.toUInt32 (1 : Int32) &&& Int32.toUInt32 31)).toInt32) &&& (1431655765 : Int32))) &&& (858993459 : Int32)) + (((Int32.toUInt32 (x - (((Int32.toUInt32 x >>> (Int32.toUInt32 (1 : Int32) &&& Int32.toUInt32 31)).toInt32) &&& (1431655765 : Int32))) >>> (Int32.toUInt32 (2 : Int32) &&& Int32.toUInt32 31)).toInt32) &&& (858993459 : Int32))) + ((Int32.toUInt32 (((x - (((Int32.toUInt32 x >>> (Int32.toUInt32 (1 : Int32) &&& Int32.toUInt32 31)).toInt32) &&& (1431655765 : Int32))) &&& (858993459 : Int32)) + (((Int32.toUInt32 (x - (((Int32.toUInt32 x >>> (Int32.toUInt32 (1 : Int32) &&& Int32.toUInt32 31)).toInt32) &&& (1431655765 : Int32))) >>> (Int32.toUInt32 (2 : Int32) &&& Int32.toUInt32 31)).toInt32) &&& (858993459 : Int32))) >>> (Int32.toUInt32 (4 : Int32) &&& Int32.toUInt32 31)).toInt32)) &&& (252645135 : Int32)) + ((Int32.toUInt32 (((((x - (((Int32.toUInt32 x >>> (Int32.toUInt32 (1 : Int32) &&& Int32.toUInt32 31)).toInt32) &&& (1431655765 : Int32))) &&& (858993459 : Int32)) + (((Int32.toUInt32 (x - (((Int32.toUInt32 x >>> (Int32.toUInt32 (1 : Int32) &&& Int32.toUInt32 31)).toInt32) &&& (1431655765 : Int32))) >>> (Int32.toUInt32 (2 : Int32) &&& Int32.toUInt32 31)).toInt32) &&& (858993459 : Int32))) + ((Int32.toUInt32 (((x - (((Int32.toUInt32 x >>> (Int32.toUInt32 (1 : Int32) &&& Int32.toUInt32 31)).toInt32) &&& (1431655765 : Int32))) &&& (858993459 : Int32)) + (((Int32.toUInt32 (x - (((Int32.toUInt32 x >>> (Int32.toUInt32 (1 : Int32) &&& Int32.toUInt32 31)).toInt32) &&& (1431655765 : Int32))) >>> (Int32.toUInt32 (2 : Int32) &&& Int32.toUInt32 31)).toInt32) &&& (858993459 : Int32))) >>> (Int32.toUInt32 (4 : Int32) &&& Int32.toUInt32 31)).toInt32)) &&& (252645135 : Int32)) >>> (Int32.toUInt32 (8 : Int32) &&& Int32.toUInt32 31)).toInt32)) >>> (Int32.toUInt32 (16 : Int32) &&& Int32.toUInt32 31)).toInt32)))]) C dJ6_bitCount_0f7a4_47 (by decide) rfl ?_
  refine q_iload_n (j := 0) C dJ6_bitCount_0f7a4_48 rfl ?_
  refine q_bipush (v := 63) C dJ6_bitCount_0f7a4_49 (by decide) ?_
  refine q_iand (v := ((((((((x - (((Int32.toUInt32 x >>> (Int32.toUInt32 (1 : Int32) &&& Int32.toUInt32 31)).toInt32) &&& (1431655765 : Int32))) &&& (858993459 : Int32)) + (((Int32.toUInt32 (x - (((Int32.toUInt32 x >>> (Int32.toUInt32 (1 : Int32) &&& Int32.toUInt32 31)).toInt32) &&& (1431655765 : Int32))) >>> (Int32.toUInt32 (2 : Int32) &&& Int32.toUInt32 31)).toInt32) &&& (858993459 : Int32))) + ((Int32.toUInt32 (((x - (((Int32.toUInt32 x >>> (Int32.toUInt32 (1 : Int32) &&& Int32.toUInt32 31)).toInt32) &&& (1431655765 : Int32))) &&& (858993459 : Int32)) + (((Int32.toUInt32 (x - (((Int32.toUInt32 x >>> (Int32.toUInt32 (1 : Int32) &&& Int32.toUInt32 31)).toInt32) &&& (1431655765 : Int32))) >>> (Int32.toUInt32 (2 : Int32) &&& Int32.toUInt32 31)).toInt32) &&& (858993459 : Int32))) >>> (Int32.toUInt32 (4 : Int32) &&& Int32.toUInt32 31)).toInt32)) &&& (252645135 : Int32)) + ((Int32.toUInt32 (((((x - (((Int32.toUInt32 x >>> (Int32.toUInt32 (1 : Int32) &&& Int32.toUInt32 31)).toInt32) &&& (1431655765 : Int32))) &&& (858993459 : Int32)) + (((Int32.toUInt32 (x - (((Int32.toUInt32 x >>> (Int32.toUInt32 (1 : Int32) &&& Int32.toUInt32 31)).toInt32) &&& (1431655765 : Int32))) >>> (Int32.toUInt32 (2 : Int32) &&& Int32.toUInt32 31)).toInt32) &&& (858993459 : Int32))) + ((Int32.toUInt32 (((x - (((Int32.toUInt32 x >>> (Int32.toUInt32 (1 : Int32) &&& Int32.toUInt32 31)).toInt32) &&& (1431655765 : Int32))) &&& (858993459 : Int32)) + (((Int32.toUInt32 (x - (((Int32.toUInt32 x >>> (Int32.toUInt32 (1 : Int32) &&& Int32.toUInt32 31)).toInt32) &&& (1431655765 : Int32))) >>> (Int32.toUInt32 (2 : Int32) &&& Int32.toUInt32 31)).toInt32) &&& (858993459 : Int32))) >>> (Int32.toUInt32 (4 : Int32) &&& Int32.toUInt32 31)).toInt32)) &&& (252645135 : Int32)) >>> (Int32.toUInt32 (8 : Int32) &&& Int32.toUInt32 31)).toInt32)) + ((Int32.toUInt32 ((((((x - (((Int32.toUInt32 x >>> (Int32.toUInt32 (1 : Int32) &&& Int32.toUInt32 31)).toInt32) &&& (1431655765 : Int32))) &&& (858993459 : Int32)) + (((Int32.toUInt32 (x - (((Int32.toUInt32 x >>> (Int32.toUInt32 (1 : Int32) &&& Int32.toUInt32 31)).toInt32) &&& (1431655765 : Int32))) >>> (Int32.toUInt32 (2 : Int32) &&& Int32.toUInt32 31)).toInt32) &&& (858993459 : Int32))) + ((Int32.toUInt32 (((x - (((Int32.toUInt32 x >>> (Int32.toUInt32 (1 : Int32) &&& Int32.toUInt32 31)).toInt32) &&& (1431655765 : Int32))) &&& (858993459 : Int32)) + (((Int32.toUInt32 (x - (((Int32.toUInt32 x >>> (Int32.toUInt32 (1 : Int32) &&& Int32.toUInt32 31)).toInt32) &&& (1431655765 : Int32))) >>> (Int32.toUInt32 (2 : Int32) &&& Int32.toUInt32 31)).toInt32) &&& (858993459 : Int32))) >>> (Int32.toUInt32 (4 : Int32) &&& Int32.toUInt32 31)).toInt32)) &&& (252645135 : Int32)) + ((Int32.toUInt32 (((((x - (((Int32.toUInt32 x >>> (Int32.toUInt32 (1 : Int32) &&& Int32.toUInt32 31)).toInt32) &&& (1431655765 : Int32))) &&& (858993459 : Int32)) + (((Int32.toUInt32 (x - (((Int32.toUInt32 x >>> (Int32.toUInt32 (1 : Int32) &&& Int32.toUInt32 31)).toInt32) &&& (1431655765 : Int32))) >>> (Int32.toUInt32 (2 : Int32) &&& Int32.toUInt32 31)).toInt32) &&& (858993459 : Int32))) + ((Int32.toUInt32 (((x - (((Int32.toUInt32 x >>> (Int32.toUInt32 (1 : Int32) &&& Int32.toUInt32 31)).toInt32) &&& (1431655765 : Int32))) &&& (858993459 : Int32)) + (((Int32.toUInt32 (x - (((Int32.toUInt32 x >>> (Int32.toUInt32 (1 : Int32) &&& Int32.toUInt32 31)).toInt32) &&& (1431655765 : Int32))) >>> (Int32.toUInt32 (2 : Int32) &&& Int32.toUInt32 31)).toInt32) &&& (858993459 : Int32))) >>> (Int32.toUInt32 (4 : Int32) &&& Int32.toUInt32 31)).toInt32)) &&& (252645135 : Int32)) >>> (Int32.toUInt32 (8 : Int32) &&& Int32.toUInt32 31)).toInt32)) >>> (Int32.toUInt32 (16 : Int32) &&& Int32.toUInt32 31)).toInt32)) &&& (63 : Int32))) C dJ6_bitCount_0f7a4_51 rfl ?_
  exact q_iret C dJ6_bitCount_0f7a4_52 rfl (Nat.le_of_ble_eq_true rfl) (Nat.le_of_ble_eq_true rfl) ⟨rfl, rfl, rfl⟩
set_option maxHeartbeats 4000000 in
set_option maxRecDepth 100000 in
theorem B_tell {l : Launch} {G : GT} {h0 : Nat} {ad ln : Nat → Nat} {v : Nat → Int} {a : Nat → Nat → Int}  {x : Int} (hB : BX v a) (hx : -2147483648 ≤ x ∧ x ≤ 2147483647) : Mm l G yX12_tell cX12_tell 2 (some .boolean) 0 [.int (iI x)] h0 ad ln v a 0 0 (fun r v2 a2 => ∃ f : Int, r = some (.int (iI f)) ∧ fr [52] [51] v a v2 a2 ∧ BX v2 a2 ∧ (f = 0 ∨ f = 1)) := by
  refine Mm.mk (by decide) (Nat.le_of_ble_eq_true rfl) ?_
  intro p e s m args below meth c A C
  have fp0 : fr [52] [51] v a v a := fr.refl
  refine m_aload_n (j := 0) C dX12_tell_0 rfl ?_
  have rv1 : 0 ≤ v 52 ∧ v 52 ≤ 4000 := hB.1 52
  refine m_get (k := 52) C dX12_tell_1 w6_111 (by decide) rfl ?_
  refine m_sipush (z := 4000) C dX12_tell_4 (by decide) ?_
  refine m_icmp_ne (tgt := 12) C (r32_c (lo := 0) (hi := 4000) rv1.1 rv1.2 (by decide) (by decide)) ⟨by decide, by decide⟩ dX12_tell_7 (by decide) (fun c1 => ?_) (fun c1 => ?_)
  · refine m_aload_n (j := 0) C dX12_tell_12 rfl ?_
    refine m_geta (k := 51) C dX12_tell_13 w6_110 (by decide) rfl ?_
    refine m_aload_n (j := 0) C dX12_tell_16 rfl ?_
    refine m_get (k := 52) C dX12_tell_17 w6_111 (by decide) rfl ?_
    refine m_iload_n (j := 1) C dX12_tell_20 rfl ?_
    refine m_ast (k := 51) C dX12_tell_21 rfl rfl (by decide) (by omega) (by show _ < ((_ : Nat) : Int); simp only [mlen]; omega) (by decide) ?_
    refine hv2 (show BX v (up2 a 51 (v 52).toNat x) from hB.set (k := 51) (i := (v 52).toNat) (z := x) (show (-2147483648) ≤ x ∧ x ≤ 2147483647 by omega)) (fp0.set (k := 51) (i := (v 52).toNat) (z := x) rfl) (fun bq1 fq1 => ?_)
    refine m_aload_n (j := 0) C dX12_tell_22 rfl ?_
    refine m_dup C dX12_tell_23 rfl ?_
    refine m_get (k := 52) C dX12_tell_24 w6_111 (by decide) rfl ?_
    refine m_iconst C dX12_tell_27 ?_
    refine m_iadd C dX12_tell_28 ?_
    refine m_put (k := 52) (z := (v 52) + 1) C dX12_tell_29 w6_111 (by decide) rfl rfl rfl ?_
    refine hv2 (show BX (va_up v 52 ((v 52) + 1)) (up2 a 51 (v 52).toNat x) from bq1.put (k := 52) (z := (v 52) + 1) (show 0 ≤ ((v 52) + 1) ∧ ((v 52) + 1) ≤ 4000 by omega)) (fq1.put (k := 52) (z := (v 52) + 1) rfl) (fun bq2 fq2 => ?_)
    refine m_iconst C dX12_tell_32 ?_
    exact m_zret C dX12_tell_33 rfl (Or.inr rfl) (Nat.le_of_ble_eq_true rfl) (Nat.le_of_ble_eq_true rfl) ⟨1, rfl, fq2, bq2, (by omega)⟩
  · refine m_iconst C dX12_tell_10 ?_
    exact m_zret C dX12_tell_11 rfl (Or.inl rfl) (Nat.le_of_ble_eq_true rfl) (Nat.le_of_ble_eq_true rfl) ⟨0, rfl, fp0, hB, (by omega)⟩
set_option maxHeartbeats 4000000 in
set_option maxRecDepth 100000 in
theorem B_putRow {l : Launch} {G : GT} {h0 : Nat} {ad ln : Nat → Nat} {v : Nat → Int} {a : Nat → Nat → Int}  {x y : Int} (hB : BX v a) (hx : -2147483648 ≤ x ∧ x ≤ 2147483647) (hy : -2147483648 ≤ y ∧ y ≤ 2147483647) (h50 : v 50 < 40200) : Mm l G yX12_putRow cX12_putRow 3 none 0 [.int (iI x), .int (iI y)] h0 ad ln v a 0 0 (fun r v2 a2 => r = none ∧ fr [50] [48, 49] v a v2 a2 ∧ BX v2 a2 ∧ (v2 50 = v 50 + 1)) := by
  refine Mm.mk (by decide) (Nat.le_of_ble_eq_true rfl) ?_
  intro p e s m args below meth c A C
  have fp0 : fr [50] [48, 49] v a v a := fr.refl
  refine m_aload_n (j := 0) C dX12_putRow_0 rfl ?_
  refine m_geta (k := 48) C dX12_putRow_1 w6_107 (by decide) rfl ?_
  refine m_aload_n (j := 0) C dX12_putRow_4 rfl ?_
  have rv1 : 0 ≤ v 50 ∧ v 50 ≤ 40200 := hB.1 50
  refine m_get (k := 50) C dX12_putRow_5 w6_109 (by decide) rfl ?_
  refine m_iload_n (j := 1) C dX12_putRow_8 rfl ?_
  refine m_ast (k := 48) C dX12_putRow_9 rfl rfl (by decide) (by omega) (by show _ < ((_ : Nat) : Int); simp only [mlen]; omega) (by decide) ?_
  refine hv2 (show BX v (up2 a 48 (v 50).toNat x) from hB.set (k := 48) (i := (v 50).toNat) (z := x) (show (-2147483648) ≤ x ∧ x ≤ 2147483647 by omega)) (fp0.set (k := 48) (i := (v 50).toNat) (z := x) rfl) (fun bq1 fq1 => ?_)
  refine m_aload_n (j := 0) C dX12_putRow_10 rfl ?_
  refine m_geta (k := 49) C dX12_putRow_11 w6_108 (by decide) rfl ?_
  refine m_aload_n (j := 0) C dX12_putRow_14 rfl ?_
  refine m_get (k := 50) C dX12_putRow_15 w6_109 (by decide) rfl ?_
  refine m_iload_n (j := 2) C dX12_putRow_18 rfl ?_
  refine m_ast (k := 49) C dX12_putRow_19 rfl rfl (by decide) (by omega) (by show _ < ((_ : Nat) : Int); simp only [mlen]; omega) (by decide) ?_
  refine hv2 (show BX v (up2 (up2 a 48 (v 50).toNat x) 49 (v 50).toNat y) from bq1.set (k := 49) (i := (v 50).toNat) (z := y) (show (-2147483648) ≤ y ∧ y ≤ 2147483647 by omega)) (fq1.set (k := 49) (i := (v 50).toNat) (z := y) rfl) (fun bq2 fq2 => ?_)
  refine m_aload_n (j := 0) C dX12_putRow_20 rfl ?_
  refine m_dup C dX12_putRow_21 rfl ?_
  refine m_get (k := 50) C dX12_putRow_22 w6_109 (by decide) rfl ?_
  refine m_iconst C dX12_putRow_25 ?_
  refine m_iadd C dX12_putRow_26 ?_
  refine m_put (k := 50) (z := (v 50) + 1) C dX12_putRow_27 w6_109 (by decide) rfl rfl rfl ?_
  refine hv2 (show BX (va_up v 50 ((v 50) + 1)) (up2 (up2 a 48 (v 50).toNat x) 49 (v 50).toNat y) from bq2.put (k := 50) (z := (v 50) + 1) (show 0 ≤ ((v 50) + 1) ∧ ((v 50) + 1) ≤ 40200 by omega)) (fq2.put (k := 50) (z := (v 50) + 1) rfl) (fun bq3 fq3 => ?_)
  exact m_vret C dX12_putRow_30 rfl (Nat.le_of_ble_eq_true rfl) (Nat.le_of_ble_eq_true rfl) ⟨rfl, fq3, bq3, rfl⟩
set_option maxHeartbeats 4000000 in
set_option maxRecDepth 100000 in
theorem B_hasHead {l : Launch} {G : GT} {h0 : Nat} {ad ln : Nat → Nat} {v : Nat → Int} {a : Nat → Nat → Int}  (hB : BX v a)  : Mm l G yX12_hasHead cX12_hasHead 1 (some .boolean) 0 [] h0 ad ln v a 0 0 (fun r v2 a2 => ∃ f : Int, r = some (.int (iI f)) ∧ fr [] [] v a v2 a2 ∧ BX v2 a2 ∧ (f = 0 ∨ (f = 1 ∧ 0 < v 41 ∧ 2 ≤ v 32))) := by
  refine Mm.mk (by decide) (Nat.le_of_ble_eq_true rfl) ?_
  intro p e s m args below meth c A C
  have fp0 : fr [] [] v a v a := fr.refl
  refine m_aload_n (j := 0) C dX12_hasHead_0 rfl ?_
  have rv1 : 0 ≤ v 41 ∧ v 41 ≤ 200 := hB.1 41
  refine m_get (k := 41) C dX12_hasHead_1 w6_100 (by decide) rfl ?_
  refine m_if_le (tgt := 19) C (r32_c (lo := 0) (hi := 200) rv1.1 rv1.2 (by decide) (by decide)) dX12_hasHead_4 (by decide) (fun c1 => ?_) (fun c1 => ?_)
  · refine m_iconst C dX12_hasHead_19 ?_
    exact m_zret C dX12_hasHead_20 rfl (Or.inl rfl) (Nat.le_of_ble_eq_true rfl) (Nat.le_of_ble_eq_true rfl) ⟨0, rfl, fp0, hB, (by omega)⟩
  · refine m_aload_n (j := 0) C dX12_hasHead_7 rfl ?_
    have rv2 : 1 ≤ v 32 ∧ v 32 ≤ 50 := hB.1 32
    refine m_get (k := 32) C dX12_hasHead_8 w6_91 (by decide) rfl ?_
    refine m_iconst C dX12_hasHead_11 ?_
    refine m_icmp_lt (tgt := 19) C (r32_c (lo := 1) (hi := 50) rv2.1 rv2.2 (by decide) (by decide)) ⟨by decide, by decide⟩ dX12_hasHead_12 (by decide) (fun c2 => ?_) (fun c2 => ?_)
    · refine m_iconst C dX12_hasHead_19 ?_
      exact m_zret C dX12_hasHead_20 rfl (Or.inl rfl) (Nat.le_of_ble_eq_true rfl) (Nat.le_of_ble_eq_true rfl) ⟨0, rfl, fp0, hB, (by omega)⟩
    · refine m_iconst C dX12_hasHead_15 ?_
      refine m_goto (tgt := 20) C dX12_hasHead_16 (by decide) ?_
      exact m_zret C dX12_hasHead_20 rfl (Or.inr rfl) (Nat.le_of_ble_eq_true rfl) (Nat.le_of_ble_eq_true rfl) ⟨1, rfl, fp0, hB, (by omega)⟩
set_option maxHeartbeats 4000000 in
set_option maxRecDepth 100000 in
theorem B_onPage {l : Launch} {G : GT} {h0 : Nat} {ad ln : Nat → Nat} {v : Nat → Int} {a : Nat → Nat → Int}  (hB : BX v a)  : Mm l G yX12_onPage cX12_onPage 1 (some .int) 1 [] h0 ad ln v a 0 0 (fun r v2 a2 => ∃ f : Int, r = some (.int (iI f)) ∧ fr [] [] v a v2 a2 ∧ BX v2 a2 ∧ (1 ≤ f ∧ f ≤ 50)) := by
  refine Mm.mk (by decide) (Nat.le_of_ble_eq_true rfl) ?_
  intro p e s m args below meth c A C
  have fp0 : fr [] [] v a v a := fr.refl
  refine m_aload_n (j := 0) C dX12_onPage_0 rfl ?_
  refine hv2 (show 0 ≤ v 41 ∧ v 41 ≤ 200 from hB.1 41) (show 1 ≤ v 32 ∧ v 32 ≤ 50 from hB.1 32) (fun rv1 rv2 => ?_)
  refine m_call (mc2 := 0) (ms2 := 0) (As := []) (rest := []) C (B_hasHead  hB ) dX12_onPage_1 kV_X12_288 rfl ck_13 rfl (Nat.le_of_ble_eq_true rfl) ⟨Nat.le_of_ble_eq_true rfl, Nat.le_of_ble_eq_true rfl⟩ ⟨Nat.le_of_ble_eq_true rfl, Nat.le_of_ble_eq_true rfl⟩ (fun rh1 vh1 ah1 h1 => ?_)
  obtain ⟨f1, rfl, fn1, bn1, ex1⟩ := h1
  obtain ⟨rfl, rfl⟩ := fn1.eq
  have gf1 : f1 = 0 ∨ (f1 = 1 ∧ 0 < (v 41) ∧ 2 ≤ (v 32)) := ex1
  refine m_st (st2 := [.int (iI f1)]) rfl ?_
  refine m_if_eq (tgt := 16) C (r32_0p gf1) dX12_onPage_4 (by decide) (fun c1 => ?_) (fun c1 => ?_)
  · clear gf1
    refine m_aload_n (j := 0) C dX12_onPage_16 rfl ?_
    refine m_get (k := 32) C dX12_onPage_17 w6_91 (by decide) rfl ?_
    exact m_iret C dX12_onPage_20 rfl (Nat.le_of_ble_eq_true rfl) (Nat.le_of_ble_eq_true rfl) ⟨(v 32), rfl, fp0, hB, (by omega)⟩
  · replace gf1 := (gf1.resolve_left c1)
    refine m_aload_n (j := 0) C dX12_onPage_7 rfl ?_
    refine m_get (k := 32) C dX12_onPage_8 w6_91 (by decide) rfl ?_
    refine m_iconst C dX12_onPage_11 ?_
    refine m_isub C dX12_onPage_12 ?_
    refine m_goto (tgt := 20) C dX12_onPage_13 (by decide) ?_
    exact m_iret C dX12_onPage_20 rfl (Nat.le_of_ble_eq_true rfl) (Nat.le_of_ble_eq_true rfl) ⟨((v 32) - 1), rfl, fp0, hB, (by omega)⟩
set_option maxHeartbeats 4000000 in
set_option maxRecDepth 100000 in
theorem M_pages {l : Launch} {G : GT} {h0 : Nat} {ad ln : Nat → Nat} {v : Nat → Int} {a : Nat → Nat → Int}  (hB : BX v a)  : Mm l G yX12_pages cX12_pages 1 (some .int) 2 [] h0 ad ln v a 0 0 (fun r v2 a2 => ∃ f : Int, r = some (.int (iI f)) ∧ fr [] [] v a v2 a2 ∧ BX v2 a2 ∧ (0 ≤ f ∧ f ≤ 249)) := by
  refine Mm.mk (by decide) (Nat.le_of_ble_eq_true rfl) ?_
  intro p e s m args below meth c A C
  have fp0 : fr [] [] v a v a := fr.refl
  refine m_aload_n (j := 0) C dX12_pages_0 rfl ?_
  have rv1 : 0 ≤ v 36 ∧ v 36 ≤ 200 := hB.1 36
  refine m_get (k := 36) C dX12_pages_1 w6_95 (by decide) rfl ?_
  refine m_aload_n (j := 0) C dX12_pages_4 rfl ?_
  refine m_call (mc2 := 0) (ms2 := 0) (As := []) (rest := [.int (iI (v 36))]) C (B_onPage  hB ) dX12_pages_5 kV_X12_291 rfl ck_13 rfl (Nat.le_of_ble_eq_true rfl) ⟨Nat.le_of_ble_eq_true rfl, Nat.le_of_ble_eq_true rfl⟩ ⟨Nat.le_of_ble_eq_true rfl, Nat.le_of_ble_eq_true rfl⟩ (fun rh1 vh1 ah1 h1 => ?_)
  obtain ⟨f1, rfl, fn1, bn1, ex1⟩ := h1
  obtain ⟨rfl, rfl⟩ := fn1.eq
  have gf1 : 1 ≤ f1 ∧ f1 ≤ 50 := ex1
  refine m_st (st2 := [.int (iI f1), .int (iI (v 36))]) rfl ?_
  refine m_iadd C dX12_pages_8 ?_
  refine m_iconst C dX12_pages_9 ?_
  refine m_isub C dX12_pages_10 ?_
  refine m_aload_n (j := 0) C dX12_pages_11 rfl ?_
  refine m_call (mc2 := 0) (ms2 := 0) (As := []) (rest := [.int (iI (((v 36) + f1) - 1))]) C (B_onPage  hB ) dX12_pages_12 kV_X12_291 rfl ck_13 rfl (Nat.le_of_ble_eq_true rfl) ⟨Nat.le_of_ble_eq_true rfl, Nat.le_of_ble_eq_true rfl⟩ ⟨Nat.le_of_ble_eq_true rfl, Nat.le_of_ble_eq_true rfl⟩ (fun rh2 vh2 ah2 h2 => ?_)
  obtain ⟨f2, rfl, fn2, bn2, ex2⟩ := h2
  obtain ⟨rfl, rfl⟩ := fn2.eq
  have gf2 : 1 ≤ f2 ∧ f2 ≤ 50 := ex2
  refine m_st (st2 := [.int (iI f2), .int (iI (((v 36) + f1) - 1))]) rfl ?_
  obtain ⟨dq1, hdq1⟩ : ∃ q : Int, q = (((v 36) + f1) - 1) / f2 := ⟨_, rfl⟩
  have rdq1 := ediv_r (x := ((v 36) + f1) - 1) (y := f2) (by omega) (by omega)
  rw [← hdq1] at rdq1
  refine m_idiv (w := iI dq1) C dX12_pages_15 (iI_ne0 ⟨by omega, by omega⟩) (by rw [hdq1]; exact iI_div ⟨by omega, by omega⟩ ⟨by omega, by omega⟩) ?_
  exact m_iret C dX12_pages_16 rfl (Nat.le_of_ble_eq_true rfl) (Nat.le_of_ble_eq_true rfl) ⟨dq1, rfl, fp0, hB, (by omega)⟩
set_option maxHeartbeats 4000000 in
set_option maxRecDepth 100000 in
theorem B_cell {l : Launch} {G : GT} {h0 : Nat} {ad ln : Nat → Nat} {v : Nat → Int} {a : Nat → Nat → Int}  {l0 i : Int} (hB : BX v a) (hl0 : -2147483648 ≤ l0 ∧ l0 ≤ 2147483647) (hi : -2147483648 ≤ i ∧ i ≤ 2147483647) : Mm l G yX12_cell cX12_cell 3 (some .int) 2 [.int (iI l0), .int (iI i)] h0 ad ln v a 0 0 (fun r v2 a2 => ∃ f : Int, r = some (.int (iI f)) ∧ fr [0, 1] [] v a v2 a2 ∧ BX v2 a2 ∧ (True)) := by
  refine Mm.mk (by decide) (Nat.le_of_ble_eq_true rfl) ?_
  intro p e s m args below meth c A C
  have fp0 : fr [0, 1] [] v a v a := fr.refl
  refine m_aload_n (j := 0) C dX12_cell_0 rfl ?_
  refine m_iload_n (j := 1) C dX12_cell_1 rfl ?_
  have rv1 : 0 ≤ v 36 ∧ v 36 ≤ 200 := hB.1 36
  refine m_call (mc2 := 0) (ms2 := 0) (As := [.int (iI l0)]) (rest := []) C (M_lineFault (l0 := l0) hB.rg ⟨by omega, by omega⟩ ⟨hB.1 36, hB.2 34⟩) dX12_cell_2 kV_X12_294 rfl ck_13 rfl (Nat.le_of_ble_eq_true rfl) ⟨Nat.le_of_ble_eq_true rfl, Nat.le_of_ble_eq_true rfl⟩ ⟨Nat.le_of_ble_eq_true rfl, Nat.le_of_ble_eq_true rfl⟩ (fun rh1 vh1 ah1 h1 => ?_)
  obtain ⟨f1, rfl, hf1, rfl, rfl⟩ := h1
  refine hv2 (show (f1 = 2 ∧ ¬ (0 ≤ l0 ∧ l0 < (v 36))) ∨ (f1 = 1 ∧ 0 ≤ l0 ∧ l0 < (v 36) ∧ a 34 l0.toNat < 0) ∨ (f1 = 0 ∧ 0 ≤ l0 ∧ l0 < (v 36) ∧ 0 ≤ a 34 l0.toNat) from hf1) (show (-1) ≤ a 34 l0.toNat ∧ a 34 l0.toNat ≤ 200 from hB.2 34 (l0.toNat)) (fun gf1 ra1 => ?_)
  refine m_st (st2 := [.int (iI f1)]) rfl ?_
  refine m_if_le (tgt := 18) C ⟨by omega, by omega⟩ dX12_cell_5 (by decide) (fun c1 => ?_) (fun c1 => ?_)
  · refine m_iload_n (j := 2) C dX12_cell_18 rfl ?_
    refine m_iconst C dX12_cell_19 ?_
    refine m_aload_n (j := 0) C dX12_cell_20 rfl ?_
    refine m_geta (k := 34) C dX12_cell_21 w6_93 (by decide) rfl ?_
    refine m_iload_n (j := 1) C dX12_cell_24 rfl ?_
    refine m_ald (k := 34) C dX12_cell_25 rfl rfl (by decide) (by omega) (by show _ < ((_ : Nat) : Int); simp only [mlen]; omega) (by decide) ?_
    refine m_iconst C dX12_cell_26 ?_
    refine m_isub C dX12_cell_27 ?_
    refine m_callS (As := [.int (iI i), .int (iI 0), .int (iI ((a 34 l0.toNat) - 1))]) (rest := []) C (fun L E => s_isIn (iI i) (iI 0) (iI ((a 34 l0.toNat) - 1))) dX12_cell_28 kS_X12_174 rfl rfl (Nat.le_of_ble_eq_true rfl) ⟨Nat.le_of_ble_eq_true rfl, Nat.le_of_ble_eq_true rfl⟩ ⟨Nat.le_of_ble_eq_true rfl, Nat.le_of_ble_eq_true rfl⟩ ?_
    rcases inn_c (x := i) (lo := 0) (hi := (a 34 l0.toNat) - 1) ⟨by omega, by omega⟩ ⟨by decide, by decide⟩ ⟨by omega, by omega⟩ with ⟨h2a, h2b, h2e⟩ | ⟨h2a, h2e⟩
    · refine m_st (st2 := [.int (iI 1)]) (by rw [h2e]) ?_
      refine m_if_eq (tgt := 53) C ⟨by decide, by decide⟩ dX12_cell_31 (by decide) (fun z => absurd z (by omega)) (fun _ => ?_)
      refine m_aload_n (j := 0) C dX12_cell_34 rfl ?_
      refine m_aload_n (j := 0) C dX12_cell_35 rfl ?_
      refine m_geta (k := 35) C dX12_cell_36 w6_94 (by decide) rfl ?_
      refine m_sipush (z := 200) C dX12_cell_39 (by decide) ?_
      refine m_iload_n (j := 1) C dX12_cell_42 rfl ?_
      refine m_imul C dX12_cell_43 ?_
      refine m_iload_n (j := 2) C dX12_cell_44 rfl ?_
      refine m_iadd C dX12_cell_45 ?_
      refine m_ald (k := 35) C dX12_cell_46 rfl rfl (by decide) (by omega) (by show _ < ((_ : Nat) : Int); simp only [mlen]; omega) (by decide) ?_
      have ra2 : (-2147483648) ≤ a 35 ((200 * l0) + i).toNat ∧ a 35 ((200 * l0) + i).toNat ≤ 2147483647 := hB.2 35 (((200 * l0) + i).toNat)
      refine m_call (mc2 := 0) (ms2 := 0) (As := [.int (iI (a 35 ((200 * l0) + i).toNat))]) (rest := []) C (B_fine (x := a 35 ((200 * l0) + i).toNat) hB (by show -2147483648 ≤ (a 35 ((200 * l0) + i).toNat) ∧ (a 35 ((200 * l0) + i).toNat) ≤ 2147483647; omega)) dX12_cell_47 kV_X12_158 rfl ck_13 rfl (Nat.le_of_ble_eq_true rfl) ⟨Nat.le_of_ble_eq_true rfl, Nat.le_of_ble_eq_true rfl⟩ ⟨Nat.le_of_ble_eq_true rfl, Nat.le_of_ble_eq_true rfl⟩ (fun rh3 vh3 ah3 h3 => ?_)
      obtain ⟨f2, rfl, fn1, bn1, ex1⟩ := h3
      refine hv2 (fp0.call fn1 rfl rfl) (show f2 = (a 35 ((200 * l0) + i).toNat) from ex1) (fun fq1 gf2 => ?_)
      refine m_st (st2 := [.int (iI f2)]) rfl ?_
      refine m_goto (tgt := 58) C dX12_cell_50 (by decide) ?_
      exact m_iret C dX12_cell_58 rfl (Nat.le_of_ble_eq_true rfl) (Nat.le_of_ble_eq_true rfl) ⟨f2, rfl, fq1, bn1, trivial⟩
    · refine m_st (st2 := [.int (iI 0)]) (by rw [h2e]) ?_
      refine m_if_eq (tgt := 53) C ⟨by decide, by decide⟩ dX12_cell_31 (by decide) (fun _ => ?_) (fun z => absurd z (by omega))
      refine m_aload_n (j := 0) C dX12_cell_53 rfl ?_
      refine m_iconst C dX12_cell_54 ?_
      refine m_call (mc2 := 0) (ms2 := 0) (As := [.int (iI 2)]) (rest := []) C (B_bad (x := 2) hB (by show -2147483648 ≤ (2 : Int) ∧ (2 : Int) ≤ 2147483647; omega)) dX12_cell_55 kV_X12_154 rfl ck_13 rfl (Nat.le_of_ble_eq_true rfl) ⟨Nat.le_of_ble_eq_true rfl, Nat.le_of_ble_eq_true rfl⟩ ⟨Nat.le_of_ble_eq_true rfl, Nat.le_of_ble_eq_true rfl⟩ (fun rh4 vh4 ah4 h4 => ?_)
      obtain ⟨f3, rfl, fn2, bn2, ex2⟩ := h4
      refine hv2 (fp0.call fn2 rfl rfl) (show f3 = -1 from ex2) (fun fq2 gf3 => ?_)
      refine m_st (st2 := [.int (iI f3)]) rfl ?_
      exact m_iret C dX12_cell_58 rfl (Nat.le_of_ble_eq_true rfl) (Nat.le_of_ble_eq_true rfl) ⟨f3, rfl, fq2, bn2, trivial⟩
  · refine m_aload_n (j := 0) C dX12_cell_8 rfl ?_
    refine m_aload_n (j := 0) C dX12_cell_9 rfl ?_
    refine m_iload_n (j := 1) C dX12_cell_10 rfl ?_
    refine m_call (mc2 := 0) (ms2 := 0) (As := [.int (iI l0)]) (rest := [.ref h0]) C (M_lineFault (l0 := l0) hB.rg ⟨by omega, by omega⟩ ⟨hB.1 36, hB.2 34⟩) dX12_cell_11 kV_X12_294 rfl ck_13 rfl (Nat.le_of_ble_eq_true rfl) ⟨Nat.le_of_ble_eq_true rfl, Nat.le_of_ble_eq_true rfl⟩ ⟨Nat.le_of_ble_eq_true rfl, Nat.le_of_ble_eq_true rfl⟩ (fun rh5 vh5 ah5 h5 => ?_)
    obtain ⟨f4, rfl, hf4, rfl, rfl⟩ := h5
    have gf4 : (f4 = 2 ∧ ¬ (0 ≤ l0 ∧ l0 < (v 36))) ∨ (f4 = 1 ∧ 0 ≤ l0 ∧ l0 < (v 36) ∧ a 34 l0.toNat < 0) ∨ (f4 = 0 ∧ 0 ≤ l0 ∧ l0 < (v 36) ∧ 0 ≤ a 34 l0.toNat) := hf4
    refine m_st (st2 := [.int (iI f4), .ref h0]) rfl ?_
    refine m_call (mc2 := 0) (ms2 := 0) (As := [.int (iI f4)]) (rest := []) C (B_bad (x := f4) hB (by show -2147483648 ≤ f4 ∧ f4 ≤ 2147483647; omega)) dX12_cell_14 kV_X12_154 rfl ck_13 rfl (Nat.le_of_ble_eq_true rfl) ⟨Nat.le_of_ble_eq_true rfl, Nat.le_of_ble_eq_true rfl⟩ ⟨Nat.le_of_ble_eq_true rfl, Nat.le_of_ble_eq_true rfl⟩ (fun rh6 vh6 ah6 h6 => ?_)
    obtain ⟨f5, rfl, fn3, bn3, ex3⟩ := h6
    refine hv2 (fp0.call fn3 rfl rfl) (show f5 = -1 from ex3) (fun fq3 gf5 => ?_)
    refine m_st (st2 := [.int (iI f5)]) rfl ?_
    exact m_iret C dX12_cell_17 rfl (Nat.le_of_ble_eq_true rfl) (Nat.le_of_ble_eq_true rfl) ⟨f5, rfl, fq3, bn3, trivial⟩
set_option maxHeartbeats 4000000 in
set_option maxRecDepth 100000 in
theorem M_page {l : Launch} {G : GT} {h0 : Nat} {ad ln : Nat → Nat} {v : Nat → Int} {a : Nat → Nat → Int}  {q w1 i : Int} (hB : BX v a) (hq : -2147483648 ≤ q ∧ q ≤ 2147483647) (hw1 : -2147483648 ≤ w1 ∧ w1 ≤ 2147483647) (hi : -2147483648 ≤ i ∧ i ≤ 2147483647) : Mm l G yX12_page cX12_page 5 (some .int) 3 [.int (iI q), .int (iI w1), .int (iI i)] h0 ad ln v a 0 0 (fun r v2 a2 => ∃ f : Int, r = some (.int (iI f)) ∧ fr [0, 1] [] v a v2 a2 ∧ BX v2 a2 ∧ (True)) := by
  refine Mm.mk (by decide) (Nat.le_of_ble_eq_true rfl) ?_
  intro p e s m args below meth c A C
  have fp0 : fr [0, 1] [] v a v a := fr.refl
  refine m_iload_n (j := 1) C dX12_page_0 rfl ?_
  refine m_iconst C dX12_page_1 ?_
  refine m_aload_n (j := 0) C dX12_page_2 rfl ?_
  refine m_call (mc2 := 0) (ms2 := 0) (As := []) (rest := [.int (iI 0), .int (iI q)]) C (M_pages  hB ) dX12_page_3 kV_X12_297 rfl ck_13 rfl (Nat.le_of_ble_eq_true rfl) ⟨Nat.le_of_ble_eq_true rfl, Nat.le_of_ble_eq_true rfl⟩ ⟨Nat.le_of_ble_eq_true rfl, Nat.le_of_ble_eq_true rfl⟩ (fun rh1 vh1 ah1 h1 => ?_)
  obtain ⟨f1, rfl, fn1, bn1, ex1⟩ := h1
  obtain ⟨rfl, rfl⟩ := fn1.eq
  have gf1 : 0 ≤ f1 ∧ f1 ≤ 249 := ex1
  refine m_st (st2 := [.int (iI f1), .int (iI 0), .int (iI q)]) rfl ?_
  refine m_iconst C dX12_page_6 ?_
  refine m_isub C dX12_page_7 ?_
  refine m_callS (As := [.int (iI q), .int (iI 0), .int (iI (f1 - 1))]) (rest := []) C (fun L E => s_isIn (iI q) (iI 0) (iI (f1 - 1))) dX12_page_8 kS_X12_174 rfl rfl (Nat.le_of_ble_eq_true rfl) ⟨Nat.le_of_ble_eq_true rfl, Nat.le_of_ble_eq_true rfl⟩ ⟨Nat.le_of_ble_eq_true rfl, Nat.le_of_ble_eq_true rfl⟩ ?_
  rcases inn_c (x := q) (lo := 0) (hi := f1 - 1) ⟨by omega, by omega⟩ ⟨by decide, by decide⟩ ⟨by omega, by omega⟩ with ⟨h2a, h2b, h2e⟩ | ⟨h2a, h2e⟩
  · refine m_st (st2 := [.int (iI 1)]) (by rw [h2e]) ?_
    refine m_if_ne (tgt := 20) C ⟨by decide, by decide⟩ dX12_page_11 (by decide) (fun _ => ?_) (fun z => absurd z (by omega))
    refine m_aload_n (j := 0) C dX12_page_20 rfl ?_
    refine hv2 (show 0 ≤ v 41 ∧ v 41 ≤ 200 from hB.1 41) (show 1 ≤ v 32 ∧ v 32 ≤ 50 from hB.1 32) (fun rv1 rv2 => ?_)
    refine m_call (mc2 := 0) (ms2 := 0) (As := []) (rest := []) C (B_hasHead  hB ) dX12_page_21 kV_X12_288 rfl ck_13 rfl (Nat.le_of_ble_eq_true rfl) ⟨Nat.le_of_ble_eq_true rfl, Nat.le_of_ble_eq_true rfl⟩ ⟨Nat.le_of_ble_eq_true rfl, Nat.le_of_ble_eq_true rfl⟩ (fun rh3 vh3 ah3 h3 => ?_)
    obtain ⟨f2, rfl, fn2, bn2, ex2⟩ := h3
    obtain ⟨rfl, rfl⟩ := fn2.eq
    have gf2 : f2 = 0 ∨ (f2 = 1 ∧ 0 < (v 41) ∧ 2 ≤ (v 32)) := ex2
    refine m_st (st2 := [.int (iI f2)]) rfl ?_
    refine m_if_eq (tgt := 64) C (r32_0p gf2) dX12_page_24 (by decide) (fun c1 => ?_) (fun c1 => ?_)
    · clear gf2
      refine m_aload_n (j := 0) C dX12_page_64 rfl ?_
      refine m_call (mc2 := 0) (ms2 := 0) (As := []) (rest := []) C (B_hasHead  hB ) dX12_page_65 kV_X12_288 rfl ck_13 rfl (Nat.le_of_ble_eq_true rfl) ⟨Nat.le_of_ble_eq_true rfl, Nat.le_of_ble_eq_true rfl⟩ ⟨Nat.le_of_ble_eq_true rfl, Nat.le_of_ble_eq_true rfl⟩ (fun rh4 vh4 ah4 h4 => ?_)
      obtain ⟨f3, rfl, fn3, bn3, ex3⟩ := h4
      obtain ⟨rfl, rfl⟩ := fn3.eq
      have gf3 : f3 = 0 ∨ (f3 = 1 ∧ 0 < (v 41) ∧ 2 ≤ (v 32)) := ex3
      refine m_st (st2 := [.int (iI f3)]) rfl ?_
      refine m_if_eq (tgt := 77) C (r32_0p gf3) dX12_page_68 (by decide) (fun c2 => ?_) (fun c2 => ?_)
      · clear gf3
        refine m_iload_n (j := 2) C dX12_page_77 rfl ?_
        obtain ⟨zz1, hzz1, ezz1⟩ := iI_of (iI w1)
        refine m_st (st2 := [.int (iI zz1)]) (by rw [ezz1]) ?_
        refine m_istore (lv2 := [(4, .int (iI zz1)), (0, .ref h0), (1, .int (iI q)), (2, .int (iI w1)), (3, .int (iI i))]) C dX12_page_78 (by decide) rfl ?_
        refine m_iload (j := 0) C dX12_page_80 rfl ?_
        refine m_iconst C dX12_page_82 ?_
        refine m_aload_n (j := 1) C dX12_page_83 rfl ?_
        refine m_call (mc2 := 0) (ms2 := 0) (As := []) (rest := [.int (iI 0), .int (iI zz1)]) C (B_onPage  hB ) dX12_page_84 kV_X12_291 rfl ck_13 rfl (Nat.le_of_ble_eq_true rfl) ⟨Nat.le_of_ble_eq_true rfl, Nat.le_of_ble_eq_true rfl⟩ ⟨Nat.le_of_ble_eq_true rfl, Nat.le_of_ble_eq_true rfl⟩ (fun rh5 vh5 ah5 h5 => ?_)
        obtain ⟨f4, rfl, fn4, bn4, ex4⟩ := h5
        obtain ⟨rfl, rfl⟩ := fn4.eq
        have gf4 : 1 ≤ f4 ∧ f4 ≤ 50 := ex4
        refine m_st (st2 := [.int (iI f4), .int (iI 0), .int (iI zz1)]) rfl ?_
        refine m_iconst C dX12_page_87 ?_
        refine m_isub C dX12_page_88 ?_
        refine m_callS (As := [.int (iI zz1), .int (iI 0), .int (iI (f4 - 1))]) (rest := []) C (fun L E => s_isIn (iI zz1) (iI 0) (iI (f4 - 1))) dX12_page_89 kS_X12_174 rfl rfl (Nat.le_of_ble_eq_true rfl) ⟨Nat.le_of_ble_eq_true rfl, Nat.le_of_ble_eq_true rfl⟩ ⟨Nat.le_of_ble_eq_true rfl, Nat.le_of_ble_eq_true rfl⟩ ?_
        rcases inn_c (x := zz1) (lo := 0) (hi := f4 - 1) ⟨by omega, by omega⟩ ⟨by decide, by decide⟩ ⟨by omega, by omega⟩ with ⟨h6a, h6b, h6e⟩ | ⟨h6a, h6e⟩
        · refine m_st (st2 := [.int (iI 1)]) (by rw [h6e]) ?_
          refine m_if_ne (tgt := 101) C ⟨by decide, by decide⟩ dX12_page_92 (by decide) (fun _ => ?_) (fun z => absurd z (by omega))
          refine m_aload_n (j := 1) C dX12_page_101 rfl ?_
          refine m_iload_n (j := 2) C dX12_page_102 rfl ?_
          refine m_aload_n (j := 1) C dX12_page_103 rfl ?_
          refine m_call (mc2 := 0) (ms2 := 0) (As := []) (rest := [.int (iI q), .ref h0]) C (B_onPage  hB ) dX12_page_104 kV_X12_291 rfl ck_13 rfl (Nat.le_of_ble_eq_true rfl) ⟨Nat.le_of_ble_eq_true rfl, Nat.le_of_ble_eq_true rfl⟩ ⟨Nat.le_of_ble_eq_true rfl, Nat.le_of_ble_eq_true rfl⟩ (fun rh7 vh7 ah7 h7 => ?_)
          obtain ⟨f5, rfl, fn5, bn5, ex5⟩ := h7
          obtain ⟨rfl, rfl⟩ := fn5.eq
          have gf5 : 1 ≤ f5 ∧ f5 ≤ 50 := ex5
          refine m_st (st2 := [.int (iI f5), .int (iI q), .ref h0]) rfl ?_
          refine m_imul C dX12_page_107 ?_
          refine m_iload (j := 0) C dX12_page_108 rfl ?_
          obtain ⟨zz2, hzz2, ezz2⟩ := iI_of (iI (q * f5))
          refine m_st (st2 := [.int (iI zz1), .int (iI zz2), .ref h0]) (by rw [ezz2]) ?_
          refine m_iadd C dX12_page_110 ?_
          obtain ⟨zz3, hzz3, ezz3⟩ := iI_of (iI (zz2 + zz1))
          refine m_st (st2 := [.int (iI zz3), .ref h0]) (by rw [ezz3]) ?_
          refine m_iload_n (j := 4) C dX12_page_111 rfl ?_
          refine m_call (mc2 := 0) (ms2 := 0) (As := [.int (iI zz3), .int (iI i)]) (rest := []) C (B_cell (l0 := zz3) (i := i) hB (by show -2147483648 ≤ zz3 ∧ zz3 ≤ 2147483647; omega) (by show -2147483648 ≤ i ∧ i ≤ 2147483647; omega)) dX12_page_112 kV_X12_300 rfl ck_13 rfl (Nat.le_of_ble_eq_true rfl) ⟨Nat.le_of_ble_eq_true rfl, Nat.le_of_ble_eq_true rfl⟩ ⟨Nat.le_of_ble_eq_true rfl, Nat.le_of_ble_eq_true rfl⟩ (fun rh8 vh8 ah8 h8 => ?_)
          obtain ⟨f6, rfl, fn6, bn6, ex6⟩ := h8
          have fq6 := fp0.call fn6 rfl rfl
          refine m_st (st2 := [.int (iI f6)]) rfl ?_
          exact m_iret C dX12_page_115 rfl (Nat.le_of_ble_eq_true rfl) (Nat.le_of_ble_eq_true rfl) ⟨f6, rfl, fq6, bn6, trivial⟩
        · refine m_st (st2 := [.int (iI 0)]) (by rw [h6e]) ?_
          refine m_if_ne (tgt := 101) C ⟨by decide, by decide⟩ dX12_page_92 (by decide) (fun z => absurd z (by omega)) (fun _ => ?_)
          refine m_aload_n (j := 1) C dX12_page_95 rfl ?_
          refine m_iconst C dX12_page_96 ?_
          refine m_call (mc2 := 0) (ms2 := 0) (As := [.int (iI 2)]) (rest := []) C (B_bad (x := 2) hB (by show -2147483648 ≤ (2 : Int) ∧ (2 : Int) ≤ 2147483647; omega)) dX12_page_97 kV_X12_154 rfl ck_13 rfl (Nat.le_of_ble_eq_true rfl) ⟨Nat.le_of_ble_eq_true rfl, Nat.le_of_ble_eq_true rfl⟩ ⟨Nat.le_of_ble_eq_true rfl, Nat.le_of_ble_eq_true rfl⟩ (fun rh9 vh9 ah9 h9 => ?_)
          obtain ⟨f7, rfl, fn7, bn7, ex7⟩ := h9
          refine hv2 (fp0.call fn7 rfl rfl) (show f7 = -1 from ex7) (fun fq7 gf7 => ?_)
          refine m_st (st2 := [.int (iI f7)]) rfl ?_
          exact m_iret C dX12_page_100 rfl (Nat.le_of_ble_eq_true rfl) (Nat.le_of_ble_eq_true rfl) ⟨f7, rfl, fq7, bn7, trivial⟩
      · replace gf3 := (gf3.resolve_left c2)
        refine m_iload_n (j := 2) C dX12_page_71 rfl ?_
        refine m_iconst C dX12_page_72 ?_
        refine m_isub C dX12_page_73 ?_
        refine m_goto (tgt := 78) C dX12_page_74 (by decide) ?_
        obtain ⟨zz4, hzz4, ezz4⟩ := iI_of (iI (w1 - 1))
        refine m_st (st2 := [.int (iI zz4)]) (by rw [ezz4]) ?_
        refine m_istore (lv2 := [(4, .int (iI zz4)), (0, .ref h0), (1, .int (iI q)), (2, .int (iI w1)), (3, .int (iI i))]) C dX12_page_78 (by decide) rfl ?_
        refine m_iload (j := 0) C dX12_page_80 rfl ?_
        refine m_iconst C dX12_page_82 ?_
        refine m_aload_n (j := 1) C dX12_page_83 rfl ?_
        refine m_call (mc2 := 0) (ms2 := 0) (As := []) (rest := [.int (iI 0), .int (iI zz4)]) C (B_onPage  hB ) dX12_page_84 kV_X12_291 rfl ck_13 rfl (Nat.le_of_ble_eq_true rfl) ⟨Nat.le_of_ble_eq_true rfl, Nat.le_of_ble_eq_true rfl⟩ ⟨Nat.le_of_ble_eq_true rfl, Nat.le_of_ble_eq_true rfl⟩ (fun rh10 vh10 ah10 h10 => ?_)
        obtain ⟨f8, rfl, fn8, bn8, ex8⟩ := h10
        obtain ⟨rfl, rfl⟩ := fn8.eq
        have gf8 : 1 ≤ f8 ∧ f8 ≤ 50 := ex8
        refine m_st (st2 := [.int (iI f8), .int (iI 0), .int (iI zz4)]) rfl ?_
        refine m_iconst C dX12_page_87 ?_
        refine m_isub C dX12_page_88 ?_
        refine m_callS (As := [.int (iI zz4), .int (iI 0), .int (iI (f8 - 1))]) (rest := []) C (fun L E => s_isIn (iI zz4) (iI 0) (iI (f8 - 1))) dX12_page_89 kS_X12_174 rfl rfl (Nat.le_of_ble_eq_true rfl) ⟨Nat.le_of_ble_eq_true rfl, Nat.le_of_ble_eq_true rfl⟩ ⟨Nat.le_of_ble_eq_true rfl, Nat.le_of_ble_eq_true rfl⟩ ?_
        rcases inn_c (x := zz4) (lo := 0) (hi := f8 - 1) ⟨by omega, by omega⟩ ⟨by decide, by decide⟩ ⟨by omega, by omega⟩ with ⟨h11a, h11b, h11e⟩ | ⟨h11a, h11e⟩
        · refine m_st (st2 := [.int (iI 1)]) (by rw [h11e]) ?_
          refine m_if_ne (tgt := 101) C ⟨by decide, by decide⟩ dX12_page_92 (by decide) (fun _ => ?_) (fun z => absurd z (by omega))
          refine m_aload_n (j := 1) C dX12_page_101 rfl ?_
          refine m_iload_n (j := 2) C dX12_page_102 rfl ?_
          refine m_aload_n (j := 1) C dX12_page_103 rfl ?_
          refine m_call (mc2 := 0) (ms2 := 0) (As := []) (rest := [.int (iI q), .ref h0]) C (B_onPage  hB ) dX12_page_104 kV_X12_291 rfl ck_13 rfl (Nat.le_of_ble_eq_true rfl) ⟨Nat.le_of_ble_eq_true rfl, Nat.le_of_ble_eq_true rfl⟩ ⟨Nat.le_of_ble_eq_true rfl, Nat.le_of_ble_eq_true rfl⟩ (fun rh12 vh12 ah12 h12 => ?_)
          obtain ⟨f9, rfl, fn9, bn9, ex9⟩ := h12
          obtain ⟨rfl, rfl⟩ := fn9.eq
          have gf9 : 1 ≤ f9 ∧ f9 ≤ 50 := ex9
          refine m_st (st2 := [.int (iI f9), .int (iI q), .ref h0]) rfl ?_
          refine m_imul C dX12_page_107 ?_
          refine m_iload (j := 0) C dX12_page_108 rfl ?_
          obtain ⟨zz5, hzz5, ezz5⟩ := iI_of (iI (q * f9))
          refine m_st (st2 := [.int (iI zz4), .int (iI zz5), .ref h0]) (by rw [ezz5]) ?_
          refine m_iadd C dX12_page_110 ?_
          obtain ⟨zz6, hzz6, ezz6⟩ := iI_of (iI (zz5 + zz4))
          refine m_st (st2 := [.int (iI zz6), .ref h0]) (by rw [ezz6]) ?_
          refine m_iload_n (j := 4) C dX12_page_111 rfl ?_
          refine m_call (mc2 := 0) (ms2 := 0) (As := [.int (iI zz6), .int (iI i)]) (rest := []) C (B_cell (l0 := zz6) (i := i) hB (by show -2147483648 ≤ zz6 ∧ zz6 ≤ 2147483647; omega) (by show -2147483648 ≤ i ∧ i ≤ 2147483647; omega)) dX12_page_112 kV_X12_300 rfl ck_13 rfl (Nat.le_of_ble_eq_true rfl) ⟨Nat.le_of_ble_eq_true rfl, Nat.le_of_ble_eq_true rfl⟩ ⟨Nat.le_of_ble_eq_true rfl, Nat.le_of_ble_eq_true rfl⟩ (fun rh13 vh13 ah13 h13 => ?_)
          obtain ⟨f10, rfl, fn10, bn10, ex10⟩ := h13
          have fq10 := fp0.call fn10 rfl rfl
          refine m_st (st2 := [.int (iI f10)]) rfl ?_
          exact m_iret C dX12_page_115 rfl (Nat.le_of_ble_eq_true rfl) (Nat.le_of_ble_eq_true rfl) ⟨f10, rfl, fq10, bn10, trivial⟩
        · refine m_st (st2 := [.int (iI 0)]) (by rw [h11e]) ?_
          refine m_if_ne (tgt := 101) C ⟨by decide, by decide⟩ dX12_page_92 (by decide) (fun z => absurd z (by omega)) (fun _ => ?_)
          refine m_aload_n (j := 1) C dX12_page_95 rfl ?_
          refine m_iconst C dX12_page_96 ?_
          refine m_call (mc2 := 0) (ms2 := 0) (As := [.int (iI 2)]) (rest := []) C (B_bad (x := 2) hB (by show -2147483648 ≤ (2 : Int) ∧ (2 : Int) ≤ 2147483647; omega)) dX12_page_97 kV_X12_154 rfl ck_13 rfl (Nat.le_of_ble_eq_true rfl) ⟨Nat.le_of_ble_eq_true rfl, Nat.le_of_ble_eq_true rfl⟩ ⟨Nat.le_of_ble_eq_true rfl, Nat.le_of_ble_eq_true rfl⟩ (fun rh14 vh14 ah14 h14 => ?_)
          obtain ⟨f11, rfl, fn11, bn11, ex11⟩ := h14
          refine hv2 (fp0.call fn11 rfl rfl) (show f11 = -1 from ex11) (fun fq11 gf11 => ?_)
          refine m_st (st2 := [.int (iI f11)]) rfl ?_
          exact m_iret C dX12_page_100 rfl (Nat.le_of_ble_eq_true rfl) (Nat.le_of_ble_eq_true rfl) ⟨f11, rfl, fq11, bn11, trivial⟩
    · replace gf2 := (gf2.resolve_left c1)
      refine m_iload_n (j := 2) C dX12_page_27 rfl ?_
      refine m_if_ne (tgt := 64) C ⟨by omega, by omega⟩ dX12_page_28 (by decide) (fun c3 => ?_) (fun c3 => ?_)
      · refine m_aload_n (j := 0) C dX12_page_64 rfl ?_
        refine m_call (mc2 := 0) (ms2 := 0) (As := []) (rest := []) C (B_hasHead  hB ) dX12_page_65 kV_X12_288 rfl ck_13 rfl (Nat.le_of_ble_eq_true rfl) ⟨Nat.le_of_ble_eq_true rfl, Nat.le_of_ble_eq_true rfl⟩ ⟨Nat.le_of_ble_eq_true rfl, Nat.le_of_ble_eq_true rfl⟩ (fun rh15 vh15 ah15 h15 => ?_)
        obtain ⟨f12, rfl, fn12, bn12, ex12⟩ := h15
        obtain ⟨rfl, rfl⟩ := fn12.eq
        have gf12 : f12 = 0 ∨ (f12 = 1 ∧ 0 < (v 41) ∧ 2 ≤ (v 32)) := ex12
        refine m_st (st2 := [.int (iI f12)]) rfl ?_
        refine m_if_eq (tgt := 77) C (r32_0p gf12) dX12_page_68 (by decide) (fun c4 => ?_) (fun c4 => ?_)
        · clear gf12
          refine m_iload_n (j := 2) C dX12_page_77 rfl ?_
          obtain ⟨zz7, hzz7, ezz7⟩ := iI_of (iI w1)
          refine m_st (st2 := [.int (iI zz7)]) (by rw [ezz7]) ?_
          refine m_istore (lv2 := [(4, .int (iI zz7)), (0, .ref h0), (1, .int (iI q)), (2, .int (iI w1)), (3, .int (iI i))]) C dX12_page_78 (by decide) rfl ?_
          refine m_iload (j := 0) C dX12_page_80 rfl ?_
          refine m_iconst C dX12_page_82 ?_
          refine m_aload_n (j := 1) C dX12_page_83 rfl ?_
          refine m_call (mc2 := 0) (ms2 := 0) (As := []) (rest := [.int (iI 0), .int (iI zz7)]) C (B_onPage  hB ) dX12_page_84 kV_X12_291 rfl ck_13 rfl (Nat.le_of_ble_eq_true rfl) ⟨Nat.le_of_ble_eq_true rfl, Nat.le_of_ble_eq_true rfl⟩ ⟨Nat.le_of_ble_eq_true rfl, Nat.le_of_ble_eq_true rfl⟩ (fun rh16 vh16 ah16 h16 => ?_)
          obtain ⟨f13, rfl, fn13, bn13, ex13⟩ := h16
          obtain ⟨rfl, rfl⟩ := fn13.eq
          have gf13 : 1 ≤ f13 ∧ f13 ≤ 50 := ex13
          refine m_st (st2 := [.int (iI f13), .int (iI 0), .int (iI zz7)]) rfl ?_
          refine m_iconst C dX12_page_87 ?_
          refine m_isub C dX12_page_88 ?_
          refine m_callS (As := [.int (iI zz7), .int (iI 0), .int (iI (f13 - 1))]) (rest := []) C (fun L E => s_isIn (iI zz7) (iI 0) (iI (f13 - 1))) dX12_page_89 kS_X12_174 rfl rfl (Nat.le_of_ble_eq_true rfl) ⟨Nat.le_of_ble_eq_true rfl, Nat.le_of_ble_eq_true rfl⟩ ⟨Nat.le_of_ble_eq_true rfl, Nat.le_of_ble_eq_true rfl⟩ ?_
          rcases inn_c (x := zz7) (lo := 0) (hi := f13 - 1) ⟨by omega, by omega⟩ ⟨by decide, by decide⟩ ⟨by omega, by omega⟩ with ⟨h17a, h17b, h17e⟩ | ⟨h17a, h17e⟩
          · refine m_st (st2 := [.int (iI 1)]) (by rw [h17e]) ?_
            refine m_if_ne (tgt := 101) C ⟨by decide, by decide⟩ dX12_page_92 (by decide) (fun _ => ?_) (fun z => absurd z (by omega))
            refine m_aload_n (j := 1) C dX12_page_101 rfl ?_
            refine m_iload_n (j := 2) C dX12_page_102 rfl ?_
            refine m_aload_n (j := 1) C dX12_page_103 rfl ?_
            refine m_call (mc2 := 0) (ms2 := 0) (As := []) (rest := [.int (iI q), .ref h0]) C (B_onPage  hB ) dX12_page_104 kV_X12_291 rfl ck_13 rfl (Nat.le_of_ble_eq_true rfl) ⟨Nat.le_of_ble_eq_true rfl, Nat.le_of_ble_eq_true rfl⟩ ⟨Nat.le_of_ble_eq_true rfl, Nat.le_of_ble_eq_true rfl⟩ (fun rh18 vh18 ah18 h18 => ?_)
            obtain ⟨f14, rfl, fn14, bn14, ex14⟩ := h18
            obtain ⟨rfl, rfl⟩ := fn14.eq
            have gf14 : 1 ≤ f14 ∧ f14 ≤ 50 := ex14
            refine m_st (st2 := [.int (iI f14), .int (iI q), .ref h0]) rfl ?_
            refine m_imul C dX12_page_107 ?_
            refine m_iload (j := 0) C dX12_page_108 rfl ?_
            obtain ⟨zz8, hzz8, ezz8⟩ := iI_of (iI (q * f14))
            refine m_st (st2 := [.int (iI zz7), .int (iI zz8), .ref h0]) (by rw [ezz8]) ?_
            refine m_iadd C dX12_page_110 ?_
            obtain ⟨zz9, hzz9, ezz9⟩ := iI_of (iI (zz8 + zz7))
            refine m_st (st2 := [.int (iI zz9), .ref h0]) (by rw [ezz9]) ?_
            refine m_iload_n (j := 4) C dX12_page_111 rfl ?_
            refine m_call (mc2 := 0) (ms2 := 0) (As := [.int (iI zz9), .int (iI i)]) (rest := []) C (B_cell (l0 := zz9) (i := i) hB (by show -2147483648 ≤ zz9 ∧ zz9 ≤ 2147483647; omega) (by show -2147483648 ≤ i ∧ i ≤ 2147483647; omega)) dX12_page_112 kV_X12_300 rfl ck_13 rfl (Nat.le_of_ble_eq_true rfl) ⟨Nat.le_of_ble_eq_true rfl, Nat.le_of_ble_eq_true rfl⟩ ⟨Nat.le_of_ble_eq_true rfl, Nat.le_of_ble_eq_true rfl⟩ (fun rh19 vh19 ah19 h19 => ?_)
            obtain ⟨f15, rfl, fn15, bn15, ex15⟩ := h19
            have fq15 := fp0.call fn15 rfl rfl
            refine m_st (st2 := [.int (iI f15)]) rfl ?_
            exact m_iret C dX12_page_115 rfl (Nat.le_of_ble_eq_true rfl) (Nat.le_of_ble_eq_true rfl) ⟨f15, rfl, fq15, bn15, trivial⟩
          · refine m_st (st2 := [.int (iI 0)]) (by rw [h17e]) ?_
            refine m_if_ne (tgt := 101) C ⟨by decide, by decide⟩ dX12_page_92 (by decide) (fun z => absurd z (by omega)) (fun _ => ?_)
            refine m_aload_n (j := 1) C dX12_page_95 rfl ?_
            refine m_iconst C dX12_page_96 ?_
            refine m_call (mc2 := 0) (ms2 := 0) (As := [.int (iI 2)]) (rest := []) C (B_bad (x := 2) hB (by show -2147483648 ≤ (2 : Int) ∧ (2 : Int) ≤ 2147483647; omega)) dX12_page_97 kV_X12_154 rfl ck_13 rfl (Nat.le_of_ble_eq_true rfl) ⟨Nat.le_of_ble_eq_true rfl, Nat.le_of_ble_eq_true rfl⟩ ⟨Nat.le_of_ble_eq_true rfl, Nat.le_of_ble_eq_true rfl⟩ (fun rh20 vh20 ah20 h20 => ?_)
            obtain ⟨f16, rfl, fn16, bn16, ex16⟩ := h20
            refine hv2 (fp0.call fn16 rfl rfl) (show f16 = -1 from ex16) (fun fq16 gf16 => ?_)
            refine m_st (st2 := [.int (iI f16)]) rfl ?_
            exact m_iret C dX12_page_100 rfl (Nat.le_of_ble_eq_true rfl) (Nat.le_of_ble_eq_true rfl) ⟨f16, rfl, fq16, bn16, trivial⟩
        · replace gf12 := (gf12.resolve_left c4)
          refine m_iload_n (j := 2) C dX12_page_71 rfl ?_
          refine m_iconst C dX12_page_72 ?_
          refine m_isub C dX12_page_73 ?_
          refine m_goto (tgt := 78) C dX12_page_74 (by decide) ?_
          obtain ⟨zz10, hzz10, ezz10⟩ := iI_of (iI (w1 - 1))
          refine m_st (st2 := [.int (iI zz10)]) (by rw [ezz10]) ?_
          refine m_istore (lv2 := [(4, .int (iI zz10)), (0, .ref h0), (1, .int (iI q)), (2, .int (iI w1)), (3, .int (iI i))]) C dX12_page_78 (by decide) rfl ?_
          refine m_iload (j := 0) C dX12_page_80 rfl ?_
          refine m_iconst C dX12_page_82 ?_
          refine m_aload_n (j := 1) C dX12_page_83 rfl ?_
          refine m_call (mc2 := 0) (ms2 := 0) (As := []) (rest := [.int (iI 0), .int (iI zz10)]) C (B_onPage  hB ) dX12_page_84 kV_X12_291 rfl ck_13 rfl (Nat.le_of_ble_eq_true rfl) ⟨Nat.le_of_ble_eq_true rfl, Nat.le_of_ble_eq_true rfl⟩ ⟨Nat.le_of_ble_eq_true rfl, Nat.le_of_ble_eq_true rfl⟩ (fun rh21 vh21 ah21 h21 => ?_)
          obtain ⟨f17, rfl, fn17, bn17, ex17⟩ := h21
          obtain ⟨rfl, rfl⟩ := fn17.eq
          have gf17 : 1 ≤ f17 ∧ f17 ≤ 50 := ex17
          refine m_st (st2 := [.int (iI f17), .int (iI 0), .int (iI zz10)]) rfl ?_
          refine m_iconst C dX12_page_87 ?_
          refine m_isub C dX12_page_88 ?_
          refine m_callS (As := [.int (iI zz10), .int (iI 0), .int (iI (f17 - 1))]) (rest := []) C (fun L E => s_isIn (iI zz10) (iI 0) (iI (f17 - 1))) dX12_page_89 kS_X12_174 rfl rfl (Nat.le_of_ble_eq_true rfl) ⟨Nat.le_of_ble_eq_true rfl, Nat.le_of_ble_eq_true rfl⟩ ⟨Nat.le_of_ble_eq_true rfl, Nat.le_of_ble_eq_true rfl⟩ ?_
          rcases inn_c (x := zz10) (lo := 0) (hi := f17 - 1) ⟨by omega, by omega⟩ ⟨by decide, by decide⟩ ⟨by omega, by omega⟩ with ⟨h22a, h22b, h22e⟩ | ⟨h22a, h22e⟩
          · refine m_st (st2 := [.int (iI 1)]) (by rw [h22e]) ?_
            refine m_if_ne (tgt := 101) C ⟨by decide, by decide⟩ dX12_page_92 (by decide) (fun _ => ?_) (fun z => absurd z (by omega))
            refine m_aload_n (j := 1) C dX12_page_101 rfl ?_
            refine m_iload_n (j := 2) C dX12_page_102 rfl ?_
            refine m_aload_n (j := 1) C dX12_page_103 rfl ?_
            refine m_call (mc2 := 0) (ms2 := 0) (As := []) (rest := [.int (iI q), .ref h0]) C (B_onPage  hB ) dX12_page_104 kV_X12_291 rfl ck_13 rfl (Nat.le_of_ble_eq_true rfl) ⟨Nat.le_of_ble_eq_true rfl, Nat.le_of_ble_eq_true rfl⟩ ⟨Nat.le_of_ble_eq_true rfl, Nat.le_of_ble_eq_true rfl⟩ (fun rh23 vh23 ah23 h23 => ?_)
            obtain ⟨f18, rfl, fn18, bn18, ex18⟩ := h23
            obtain ⟨rfl, rfl⟩ := fn18.eq
            have gf18 : 1 ≤ f18 ∧ f18 ≤ 50 := ex18
            refine m_st (st2 := [.int (iI f18), .int (iI q), .ref h0]) rfl ?_
            refine m_imul C dX12_page_107 ?_
            refine m_iload (j := 0) C dX12_page_108 rfl ?_
            obtain ⟨zz11, hzz11, ezz11⟩ := iI_of (iI (q * f18))
            refine m_st (st2 := [.int (iI zz10), .int (iI zz11), .ref h0]) (by rw [ezz11]) ?_
            refine m_iadd C dX12_page_110 ?_
            obtain ⟨zz12, hzz12, ezz12⟩ := iI_of (iI (zz11 + zz10))
            refine m_st (st2 := [.int (iI zz12), .ref h0]) (by rw [ezz12]) ?_
            refine m_iload_n (j := 4) C dX12_page_111 rfl ?_
            refine m_call (mc2 := 0) (ms2 := 0) (As := [.int (iI zz12), .int (iI i)]) (rest := []) C (B_cell (l0 := zz12) (i := i) hB (by show -2147483648 ≤ zz12 ∧ zz12 ≤ 2147483647; omega) (by show -2147483648 ≤ i ∧ i ≤ 2147483647; omega)) dX12_page_112 kV_X12_300 rfl ck_13 rfl (Nat.le_of_ble_eq_true rfl) ⟨Nat.le_of_ble_eq_true rfl, Nat.le_of_ble_eq_true rfl⟩ ⟨Nat.le_of_ble_eq_true rfl, Nat.le_of_ble_eq_true rfl⟩ (fun rh24 vh24 ah24 h24 => ?_)
            obtain ⟨f19, rfl, fn19, bn19, ex19⟩ := h24
            have fq19 := fp0.call fn19 rfl rfl
            refine m_st (st2 := [.int (iI f19)]) rfl ?_
            exact m_iret C dX12_page_115 rfl (Nat.le_of_ble_eq_true rfl) (Nat.le_of_ble_eq_true rfl) ⟨f19, rfl, fq19, bn19, trivial⟩
          · refine m_st (st2 := [.int (iI 0)]) (by rw [h22e]) ?_
            refine m_if_ne (tgt := 101) C ⟨by decide, by decide⟩ dX12_page_92 (by decide) (fun z => absurd z (by omega)) (fun _ => ?_)
            refine m_aload_n (j := 1) C dX12_page_95 rfl ?_
            refine m_iconst C dX12_page_96 ?_
            refine m_call (mc2 := 0) (ms2 := 0) (As := [.int (iI 2)]) (rest := []) C (B_bad (x := 2) hB (by show -2147483648 ≤ (2 : Int) ∧ (2 : Int) ≤ 2147483647; omega)) dX12_page_97 kV_X12_154 rfl ck_13 rfl (Nat.le_of_ble_eq_true rfl) ⟨Nat.le_of_ble_eq_true rfl, Nat.le_of_ble_eq_true rfl⟩ ⟨Nat.le_of_ble_eq_true rfl, Nat.le_of_ble_eq_true rfl⟩ (fun rh25 vh25 ah25 h25 => ?_)
            obtain ⟨f20, rfl, fn20, bn20, ex20⟩ := h25
            refine hv2 (fp0.call fn20 rfl rfl) (show f20 = -1 from ex20) (fun fq20 gf20 => ?_)
            refine m_st (st2 := [.int (iI f20)]) rfl ?_
            exact m_iret C dX12_page_100 rfl (Nat.le_of_ble_eq_true rfl) (Nat.le_of_ble_eq_true rfl) ⟨f20, rfl, fq20, bn20, trivial⟩
      · refine m_iload_n (j := 3) C dX12_page_31 rfl ?_
        refine m_iconst C dX12_page_32 ?_
        refine m_aload_n (j := 0) C dX12_page_33 rfl ?_
        refine m_get (k := 41) C dX12_page_34 w6_100 (by decide) rfl ?_
        refine m_iconst C dX12_page_37 ?_
        refine m_isub C dX12_page_38 ?_
        refine m_callS (As := [.int (iI i), .int (iI 0), .int (iI ((v 41) - 1))]) (rest := []) C (fun L E => s_isIn (iI i) (iI 0) (iI ((v 41) - 1))) dX12_page_39 kS_X12_174 rfl rfl (Nat.le_of_ble_eq_true rfl) ⟨Nat.le_of_ble_eq_true rfl, Nat.le_of_ble_eq_true rfl⟩ ⟨Nat.le_of_ble_eq_true rfl, Nat.le_of_ble_eq_true rfl⟩ ?_
        rcases inn_c (x := i) (lo := 0) (hi := (v 41) - 1) ⟨by omega, by omega⟩ ⟨by decide, by decide⟩ ⟨by omega, by omega⟩ with ⟨h26a, h26b, h26e⟩ | ⟨h26a, h26e⟩
        · refine m_st (st2 := [.int (iI 1)]) (by rw [h26e]) ?_
          refine m_if_eq (tgt := 58) C ⟨by decide, by decide⟩ dX12_page_42 (by decide) (fun z => absurd z (by omega)) (fun _ => ?_)
          refine m_aload_n (j := 0) C dX12_page_45 rfl ?_
          refine m_aload_n (j := 0) C dX12_page_46 rfl ?_
          refine m_geta (k := 40) C dX12_page_47 w6_99 (by decide) rfl ?_
          refine m_iload_n (j := 3) C dX12_page_50 rfl ?_
          refine m_ald (k := 40) C dX12_page_51 rfl rfl (by decide) (by omega) (by show _ < ((_ : Nat) : Int); simp only [mlen]; omega) (by decide) ?_
          have ra1 : (-2147483648) ≤ a 40 i.toNat ∧ a 40 i.toNat ≤ 2147483647 := hB.2 40 (i.toNat)
          refine m_call (mc2 := 0) (ms2 := 0) (As := [.int (iI (a 40 i.toNat))]) (rest := []) C (B_fine (x := a 40 i.toNat) hB (by show -2147483648 ≤ (a 40 i.toNat) ∧ (a 40 i.toNat) ≤ 2147483647; omega)) dX12_page_52 kV_X12_158 rfl ck_13 rfl (Nat.le_of_ble_eq_true rfl) ⟨Nat.le_of_ble_eq_true rfl, Nat.le_of_ble_eq_true rfl⟩ ⟨Nat.le_of_ble_eq_true rfl, Nat.le_of_ble_eq_true rfl⟩ (fun rh27 vh27 ah27 h27 => ?_)
          obtain ⟨f21, rfl, fn21, bn21, ex21⟩ := h27
          refine hv2 (fp0.call fn21 rfl rfl) (show f21 = (a 40 i.toNat) from ex21) (fun fq21 gf21 => ?_)
          refine m_st (st2 := [.int (iI f21)]) rfl ?_
          refine m_goto (tgt := 63) C dX12_page_55 (by decide) ?_
          exact m_iret C dX12_page_63 rfl (Nat.le_of_ble_eq_true rfl) (Nat.le_of_ble_eq_true rfl) ⟨f21, rfl, fq21, bn21, trivial⟩
        · refine m_st (st2 := [.int (iI 0)]) (by rw [h26e]) ?_
          refine m_if_eq (tgt := 58) C ⟨by decide, by decide⟩ dX12_page_42 (by decide) (fun _ => ?_) (fun z => absurd z (by omega))
          refine m_aload_n (j := 0) C dX12_page_58 rfl ?_
          refine m_iconst C dX12_page_59 ?_
          refine m_call (mc2 := 0) (ms2 := 0) (As := [.int (iI 2)]) (rest := []) C (B_bad (x := 2) hB (by show -2147483648 ≤ (2 : Int) ∧ (2 : Int) ≤ 2147483647; omega)) dX12_page_60 kV_X12_154 rfl ck_13 rfl (Nat.le_of_ble_eq_true rfl) ⟨Nat.le_of_ble_eq_true rfl, Nat.le_of_ble_eq_true rfl⟩ ⟨Nat.le_of_ble_eq_true rfl, Nat.le_of_ble_eq_true rfl⟩ (fun rh28 vh28 ah28 h28 => ?_)
          obtain ⟨f22, rfl, fn22, bn22, ex22⟩ := h28
          refine hv2 (fp0.call fn22 rfl rfl) (show f22 = -1 from ex22) (fun fq22 gf22 => ?_)
          refine m_st (st2 := [.int (iI f22)]) rfl ?_
          exact m_iret C dX12_page_63 rfl (Nat.le_of_ble_eq_true rfl) (Nat.le_of_ble_eq_true rfl) ⟨f22, rfl, fq22, bn22, trivial⟩
  · refine m_st (st2 := [.int (iI 0)]) (by rw [h2e]) ?_
    refine m_if_ne (tgt := 20) C ⟨by decide, by decide⟩ dX12_page_11 (by decide) (fun z => absurd z (by omega)) (fun _ => ?_)
    refine m_aload_n (j := 0) C dX12_page_14 rfl ?_
    refine m_iconst C dX12_page_15 ?_
    refine m_call (mc2 := 0) (ms2 := 0) (As := [.int (iI 2)]) (rest := []) C (B_bad (x := 2) hB (by show -2147483648 ≤ (2 : Int) ∧ (2 : Int) ≤ 2147483647; omega)) dX12_page_16 kV_X12_154 rfl ck_13 rfl (Nat.le_of_ble_eq_true rfl) ⟨Nat.le_of_ble_eq_true rfl, Nat.le_of_ble_eq_true rfl⟩ ⟨Nat.le_of_ble_eq_true rfl, Nat.le_of_ble_eq_true rfl⟩ (fun rh29 vh29 ah29 h29 => ?_)
    obtain ⟨f23, rfl, fn23, bn23, ex23⟩ := h29
    refine hv2 (fp0.call fn23 rfl rfl) (show f23 = -1 from ex23) (fun fq23 gf23 => ?_)
    refine m_st (st2 := [.int (iI f23)]) rfl ?_
    exact m_iret C dX12_page_19 rfl (Nat.le_of_ble_eq_true rfl) (Nat.le_of_ble_eq_true rfl) ⟨f23, rfl, fq23, bn23, trivial⟩
end
section
theorem up2_ne {a : Nat → Nat → Int} {k i : Nat} {z : Int} {k2 j : Nat} (h : k2 ≠ k ∨ j ≠ i) : up2 a k i z k2 j = a k2 j := by
  by_cases e : k2 = k
  · subst e; exact up2_j (h.resolve_left (fun q => q rfl))
  · exact up2_k e
def RW1 (a : Nat → Nat → Int) (q : Int) : Prop := (0 ≤ a 47 q.toNat ∧ a 47 q.toNat ≤ 6008) ∧ ∀ r : Int, 6008 * q ≤ r → r < 6008 * q + a 47 q.toNat → RowOK a r
def RWS (a : Nat → Nat → Int) : Prop := ∀ q : Int, (q = 0 ∨ q = 1) → RW1 a q
theorem RWS.of {a a2 : Nat → Nat → Int} (h : RWS a) (h4 : a2 44 = a 44) (h5 : a2 45 = a 45) (h6 : a2 46 = a 46) (h7 : a2 47 = a 47) : RWS a2 := by
  intro q hq
  have := h q hq
  unfold RW1 RowOK at this ⊢
  rw [h4, h5, h6, h7]; exact this
theorem RWS.set {a : Nat → Nat → Int} (h : RWS a) {k i : Nat} {z : Int} (hk : ([44, 45, 46, 47] : List Nat).contains k = false) : RWS (up2 a k i z) := by
  have g : ∀ j, ([44, 45, 46, 47] : List Nat).contains j = true → up2 a k i z j = a j := fun j hj => funext fun q => up2_k (fun e => by rw [e, hk] at hj; cases hj)
  exact h.of (g 44 rfl) (g 45 rfl) (g 46 rfl) (g 47 rfl)
theorem RWS.fr {V A : List Nat} {v v2 : Nat → Int} {a a2 : Nat → Nat → Int} (h : RWS a) (f : fr V A v a v2 a2) (hk : ([44, 45, 46, 47] : List Nat).all (fun j => !A.contains j) = true) : RWS a2 := by
  have g : ∀ j, j ∈ ([44, 45, 46, 47] : List Nat) → a2 j = a j := fun j hj => f.2 j (by have := List.all_eq_true.mp hk j hj; simpa using this)
  exact h.of (g 44 (by decide)) (g 45 (by decide)) (g 46 (by decide)) (g 47 (by decide))
theorem RWS.zero {a : Nat → Nat → Int} (h : RWS a) {q : Int} (hq : q = 0 ∨ q = 1) : RWS (up2 a 47 q.toNat 0) := by
  intro q2 h2
  by_cases e : q2 = q
  · subst e
    refine ⟨by rw [up2_s]; exact ⟨Int.le_refl _, by decide⟩, fun r h3 h4 => ?_⟩
    rw [up2_s] at h4; omega
  · have hn : q2.toNat ≠ q.toNat := by omega
    have g := h q2 h2
    unfold RW1 RowOK at g ⊢
    rw [up2_j hn, show up2 a 47 q.toNat 0 44 = a 44 from funext fun _ => up2_k (by decide), show up2 a 47 q.toNat 0 45 = a 45 from funext fun _ => up2_k (by decide), show up2 a 47 q.toNat 0 46 = a 46 from funext fun _ => up2_k (by decide)]
    exact g
theorem RWS.add {a : Nat → Nat → Int} (h : RWS a) {q x y z r : Int} (hq : q = 0 ∨ q = 1) (hn : a 47 q.toNat < 6008) (hr : r = 6008 * q + a 47 q.toNat) (hx : -4 ≤ x ∧ x < 6000) (hz : 1 ≤ z ∧ z ≤ 4) (hy : 0 ≤ y) (h1 : 0 ≤ x → y + z ≤ 24000) (h2 : x < 0 → y + z ≤ 480) : RWS (up2 (up2 (up2 (up2 a 44 r.toNat x) 45 r.toNat y) 46 r.toNat z) 47 q.toNat (a 47 q.toNat + 1)) := by
  intro q2 hq2
  refine hv2 (h q hq) (h q2 hq2) (fun g g2 => ?_)
  unfold RW1 at g g2
  have k47 : ∀ j, up2 (up2 (up2 (up2 a 44 r.toNat x) 45 r.toNat y) 46 r.toNat z) 47 q.toNat (a 47 q.toNat + 1) 47 j = if j = q.toNat then a 47 q.toNat + 1 else a 47 j := by
    intro j
    by_cases e : j = q.toNat
    · subst e; rw [up2_s, if_pos rfl]
    · rw [up2_ne (Or.inr e), if_neg e, up2_ne (Or.inl (by decide)), up2_ne (Or.inl (by decide)), up2_ne (Or.inl (by decide))]
  have k44 : ∀ j, up2 (up2 (up2 (up2 a 44 r.toNat x) 45 r.toNat y) 46 r.toNat z) 47 q.toNat (a 47 q.toNat + 1) 44 j = if j = r.toNat then x else a 44 j := by
    intro j
    rw [up2_ne (Or.inl (by decide)), up2_ne (Or.inl (by decide)), up2_ne (Or.inl (by decide))]
    by_cases e : j = r.toNat
    · subst e; rw [up2_s, if_pos rfl]
    · rw [up2_ne (Or.inr e), if_neg e]
  have k45 : ∀ j, up2 (up2 (up2 (up2 a 44 r.toNat x) 45 r.toNat y) 46 r.toNat z) 47 q.toNat (a 47 q.toNat + 1) 45 j = if j = r.toNat then y else a 45 j := by
    intro j
    rw [up2_ne (Or.inl (by decide)), up2_ne (Or.inl (by decide))]
    by_cases e : j = r.toNat
    · subst e; rw [up2_s, if_pos rfl]
    · rw [up2_ne (Or.inr e), if_neg e, up2_ne (Or.inl (by decide))]
  have k46 : ∀ j, up2 (up2 (up2 (up2 a 44 r.toNat x) 45 r.toNat y) 46 r.toNat z) 47 q.toNat (a 47 q.toNat + 1) 46 j = if j = r.toNat then z else a 46 j := by
    intro j
    rw [up2_ne (Or.inl (by decide))]
    by_cases e : j = r.toNat
    · subst e; rw [up2_s, if_pos rfl]
    · rw [up2_ne (Or.inr e), if_neg e, up2_ne (Or.inl (by decide)), up2_ne (Or.inl (by decide))]
  unfold RW1
  rw [k47]
  have key : ∀ t : Int, 6008 * q2 ≤ t → t < 6008 * q2 + (if q2.toNat = q.toNat then a 47 q.toNat + 1 else a 47 q2.toNat) → t = r ∨ RowOK a t := by
    intro t ht1 ht2
    by_cases e : q2 = q
    · subst e
      rw [if_pos rfl] at ht2
      by_cases e2 : t = r
      · exact Or.inl e2
      · exact Or.inr (g.2 t ht1 (by omega))
    · rw [if_neg (by omega)] at ht2
      exact Or.inr (g2.2 t ht1 ht2)
  refine ⟨?_, fun t ht1 ht2 => ?_⟩
  · split <;> omega
  · unfold RowOK
    rw [k44, k45, k46]
    by_cases e : t = r
    · subst e
      rw [if_pos rfl, if_pos rfl, if_pos rfl]
      exact ⟨⟨by omega, by omega⟩, hx, hz, hy, h1, h2⟩
    · have g3 := (key t ht1 ht2).resolve_left e
      have hne : ¬ t.toNat = r.toNat := by
        have := g3.1
        omega
      rw [if_neg hne, if_neg hne, if_neg hne]
      exact g3
set_option maxHeartbeats 4000000 in
set_option maxRecDepth 100000 in
theorem B_addRow {l : Launch} {G : GT} {h0 : Nat} {ad ln : Nat → Nat} {v : Nat → Int} {a : Nat → Nat → Int}  {q x y z : Int} (hB : BX v a) (hW : RWS a) (hq : q = 0 ∨ q = 1) (h47 : a 47 q.toNat < 6008) (hx : -4 ≤ x ∧ x < 6000) (hz : 1 ≤ z ∧ z ≤ 4) (hy : 0 ≤ y) (h1 : 0 ≤ x → y + z ≤ 24000) (h2 : x < 0 → y + z ≤ 480) : Mm l G yX12_addRow cX12_addRow 6 none 0 [.int (iI q), .int (iI x), .int (iI y), .int (iI z)] h0 ad ln v a 0 0 (fun r v2 a2 => r = none ∧ fr [] [44, 45, 46, 47] v a v2 a2 ∧ BX v2 a2 ∧ (RWS a2 ∧ a2 47 q.toNat = a 47 q.toNat + 1)) := by
  refine Mm.mk (by decide) (Nat.le_of_ble_eq_true rfl) ?_
  intro p e s m args below meth c A C
  refine hv2 (show 0 ≤ a 47 q.toNat ∧ a 47 q.toNat ≤ 6008 from hB.2 47 _) (show fr [] [44, 45, 46, 47] v a v a from fr.refl) (fun r47 fp0 => ?_)
  refine m_sipush (z := 6008) C dX12_addRow_0 (by decide) ?_
  refine m_iload_n (j := 1) C dX12_addRow_3 rfl ?_
  refine m_imul C dX12_addRow_4 ?_
  refine m_aload_n (j := 0) C dX12_addRow_5 rfl ?_
  refine m_geta (k := 47) C dX12_addRow_6 w6_106 (by decide) rfl ?_
  refine m_iload_n (j := 1) C dX12_addRow_9 rfl ?_
  refine m_ald (k := 47) C dX12_addRow_10 rfl rfl (by decide) (by omega) (by show _ < ((_ : Nat) : Int); simp only [mlen]; omega) (by decide) ?_
  have ra1 : 0 ≤ a 47 q.toNat ∧ a 47 q.toNat ≤ 6008 := hB.2 47 (q.toNat)
  refine m_iadd C dX12_addRow_11 ?_
  refine m_istore (lv2 := [(5, .int (iI ((6008 * q) + (a 47 q.toNat)))), (0, .ref h0), (1, .int (iI q)), (2, .int (iI x)), (3, .int (iI y)), (4, .int (iI z))]) C dX12_addRow_12 (by decide) rfl ?_
  refine m_aload_n (j := 1) C dX12_addRow_14 rfl ?_
  refine m_geta (k := 44) C dX12_addRow_15 w6_103 (by decide) rfl ?_
  refine m_iload (j := 0) C dX12_addRow_18 rfl ?_
  refine m_iload_n (j := 3) C dX12_addRow_20 rfl ?_
  refine m_ast (k := 44) C dX12_addRow_21 rfl rfl (by decide) (by omega) (by show _ < ((_ : Nat) : Int); simp only [mlen]; omega) (by decide) ?_
  refine hv2 (show BX v (up2 a 44 ((6008 * q) + (a 47 q.toNat)).toNat x) from hB.set (k := 44) (i := ((6008 * q) + (a 47 q.toNat)).toNat) (z := x) (show (-4) ≤ x ∧ x ≤ 5999 by omega)) (fp0.set (k := 44) (i := ((6008 * q) + (a 47 q.toNat)).toNat) (z := x) rfl) (fun bq1 fq1 => ?_)
  refine m_aload_n (j := 1) C dX12_addRow_22 rfl ?_
  refine m_geta (k := 45) C dX12_addRow_23 w6_104 (by decide) rfl ?_
  refine m_iload (j := 0) C dX12_addRow_26 rfl ?_
  refine m_iload_n (j := 4) C dX12_addRow_28 rfl ?_
  refine m_ast (k := 45) C dX12_addRow_29 rfl rfl (by decide) (by omega) (by show _ < ((_ : Nat) : Int); simp only [mlen]; omega) (by decide) ?_
  refine hv2 (show BX v (up2 (up2 a 44 ((6008 * q) + (a 47 q.toNat)).toNat x) 45 ((6008 * q) + (a 47 q.toNat)).toNat y) from bq1.set (k := 45) (i := ((6008 * q) + (a 47 q.toNat)).toNat) (z := y) (show 0 ≤ y ∧ y ≤ 23999 by omega)) (fq1.set (k := 45) (i := ((6008 * q) + (a 47 q.toNat)).toNat) (z := y) rfl) (fun bq2 fq2 => ?_)
  refine m_aload_n (j := 1) C dX12_addRow_30 rfl ?_
  refine m_geta (k := 46) C dX12_addRow_31 w6_105 (by decide) rfl ?_
  refine m_iload (j := 0) C dX12_addRow_34 rfl ?_
  refine m_iload (j := 5) C dX12_addRow_36 rfl ?_
  refine m_ast (k := 46) C dX12_addRow_38 rfl rfl (by decide) (by omega) (by show _ < ((_ : Nat) : Int); simp only [mlen]; omega) (by decide) ?_
  refine hv2 (show BX v (up2 (up2 (up2 a 44 ((6008 * q) + (a 47 q.toNat)).toNat x) 45 ((6008 * q) + (a 47 q.toNat)).toNat y) 46 ((6008 * q) + (a 47 q.toNat)).toNat z) from bq2.set (k := 46) (i := ((6008 * q) + (a 47 q.toNat)).toNat) (z := z) (show 0 ≤ z ∧ z ≤ 4 by omega)) (fq2.set (k := 46) (i := ((6008 * q) + (a 47 q.toNat)).toNat) (z := z) rfl) (fun bq3 fq3 => ?_)
  refine m_aload_n (j := 1) C dX12_addRow_39 rfl ?_
  refine m_geta (k := 47) C dX12_addRow_40 w6_106 (by decide) rfl ?_
  refine m_iload_n (j := 2) C dX12_addRow_43 rfl ?_
  refine m_dup2 C dX12_addRow_44 rfl rfl ?_
  refine m_ald (k := 47) C dX12_addRow_45 rfl rfl (by decide) (by omega) (by show _ < ((_ : Nat) : Int); simp only [mlen]; omega) (by decide) ?_
  refine m_st (st2 := [.int (iI (a 47 q.toNat)), .int (iI q), .ref (ad 47)]) rfl ?_
  refine m_iconst C dX12_addRow_46 ?_
  refine m_iadd C dX12_addRow_47 ?_
  refine m_ast (k := 47) C dX12_addRow_48 rfl rfl (by decide) (by omega) (by show _ < ((_ : Nat) : Int); simp only [mlen]; omega) (by decide) ?_
  refine hv2 (show BX v (up2 (up2 (up2 (up2 a 44 ((6008 * q) + (a 47 q.toNat)).toNat x) 45 ((6008 * q) + (a 47 q.toNat)).toNat y) 46 ((6008 * q) + (a 47 q.toNat)).toNat z) 47 q.toNat ((a 47 q.toNat) + 1)) from bq3.set (k := 47) (i := q.toNat) (z := (a 47 q.toNat) + 1) (show 0 ≤ ((a 47 q.toNat) + 1) ∧ ((a 47 q.toNat) + 1) ≤ 6008 by omega)) (fq3.set (k := 47) (i := q.toNat) (z := (a 47 q.toNat) + 1) rfl) (fun bq4 fq4 => ?_)
  exact m_vret C dX12_addRow_49 rfl (Nat.le_of_ble_eq_true rfl) (Nat.le_of_ble_eq_true rfl) ⟨rfl, fq4, bq4, ⟨hW.add (r := 6008 * q + a 47 q.toNat) hq h47 rfl hx hz hy h1 h2, up2_s⟩⟩
set_option maxHeartbeats 4000000 in
set_option maxRecDepth 100000 in
theorem M_addIndicator {l : Launch} {G : GT} {h0 : Nat} {ad ln : Nat → Nat} {v : Nat → Int} {a : Nat → Nat → Int}  {q t w1 : Int} (hB : BX v a) (hW : RWS a) (hq : q = 0 ∨ q = 1) (ht : 0 ≤ t ∧ t < 30) (hw : 0 ≤ w1 ∧ w1 ≤ 3) (h47 : a 47 q.toNat < 6008) : Mm l G yX12_addIndicator cX12_addIndicator 5 none 1 [.int (iI q), .int (iI t), .int (iI w1)] h0 ad ln v a 0 0 (fun r v2 a2 => r = none ∧ fr [] [44, 45, 46, 47] v a v2 a2 ∧ BX v2 a2 ∧ (RWS a2 ∧ a2 47 q.toNat ≤ a 47 q.toNat + 1)) := by
  refine Mm.mk (by decide) (Nat.le_of_ble_eq_true rfl) ?_
  intro p e s m args below meth c A C
  have fp0 : fr [] [44, 45, 46, 47] v a v a := fr.refl
  refine m_iconst C dX12_addIndicator_0 ?_
  refine m_iload_n (j := 2) C dX12_addIndicator_1 rfl ?_
  refine m_imul C dX12_addIndicator_2 ?_
  refine m_iload_n (j := 3) C dX12_addIndicator_3 rfl ?_
  refine m_iadd C dX12_addIndicator_4 ?_
  refine m_istore (lv2 := [(4, .int (iI ((4 * t) + w1))), (0, .ref h0), (1, .int (iI q)), (2, .int (iI t)), (3, .int (iI w1))]) C dX12_addIndicator_5 (by decide) rfl ?_
  refine m_aload_n (j := 1) C dX12_addIndicator_7 rfl ?_
  refine m_geta (k := 16) C dX12_addIndicator_8 w6_75 (by decide) rfl ?_
  refine m_iload (j := 0) C dX12_addIndicator_11 rfl ?_
  refine m_ald (k := 16) C dX12_addIndicator_13 rfl rfl (by decide) (by omega) (by show _ < ((_ : Nat) : Int); simp only [mlen]; omega) (by decide) ?_
  have ra1 : 0 ≤ a 16 ((4 * t) + w1).toNat ∧ a 16 ((4 * t) + w1).toNat ≤ 4 := hB.2 16 (((4 * t) + w1).toNat)
  refine m_if_le (tgt := 36) C (r32_c (lo := 0) (hi := 4) ra1.1 ra1.2 (by decide) (by decide)) dX12_addIndicator_14 (by decide) (fun c1 => ?_) (fun c1 => ?_)
  · have ra2 : 0 ≤ a 47 q.toNat ∧ a 47 q.toNat ≤ 6008 := hB.2 47 (q.toNat)
    exact m_vret C dX12_addIndicator_36 rfl (Nat.le_of_ble_eq_true rfl) (Nat.le_of_ble_eq_true rfl) ⟨rfl, fp0, hB, ⟨hW, (by show a 47 q.toNat ≤ a 47 q.toNat + 1; omega)⟩⟩
  · refine m_aload_n (j := 1) C dX12_addIndicator_17 rfl ?_
    refine m_iload_n (j := 2) C dX12_addIndicator_18 rfl ?_
    refine m_iconst C dX12_addIndicator_19 ?_
    refine m_iload_n (j := 4) C dX12_addIndicator_20 rfl ?_
    refine m_isub C dX12_addIndicator_21 ?_
    refine m_iconst C dX12_addIndicator_22 ?_
    refine m_iload (j := 0) C dX12_addIndicator_23 rfl ?_
    refine m_imul C dX12_addIndicator_25 ?_
    refine m_aload_n (j := 1) C dX12_addIndicator_26 rfl ?_
    refine m_geta (k := 16) C dX12_addIndicator_27 w6_75 (by decide) rfl ?_
    refine m_iload (j := 0) C dX12_addIndicator_30 rfl ?_
    refine m_ald (k := 16) C dX12_addIndicator_32 rfl rfl (by decide) (by omega) (by show _ < ((_ : Nat) : Int); simp only [mlen]; omega) (by decide) ?_
    have ra3 : 0 ≤ a 47 q.toNat ∧ a 47 q.toNat ≤ 6008 := hB.2 47 (q.toNat)
    refine m_call (mc2 := 0) (ms2 := 0) (As := [.int (iI q), .int (iI ((-1) - w1)), .int (iI (4 * ((4 * t) + w1))), .int (iI (a 16 ((4 * t) + w1).toNat))]) (rest := []) C (B_addRow (q := q) (x := (-1) - w1) (y := 4 * ((4 * t) + w1)) (z := a 16 ((4 * t) + w1).toNat) hB hW (by show q = 0 ∨ q = 1; omega) (by show a 47 q.toNat < 6008; omega) (by show -4 ≤ ((-1) - w1) ∧ ((-1) - w1) < 6000; omega) (by show 1 ≤ (a 16 ((4 * t) + w1).toNat) ∧ (a 16 ((4 * t) + w1).toNat) ≤ 4; omega) (by show 0 ≤ (4 * ((4 * t) + w1)); omega) (by show 0 ≤ ((-1) - w1) → (4 * ((4 * t) + w1)) + (a 16 ((4 * t) + w1).toNat) ≤ 24000; omega) (by show ((-1) - w1) < 0 → (4 * ((4 * t) + w1)) + (a 16 ((4 * t) + w1).toNat) ≤ 480; omega)) dX12_addIndicator_33 kV_X12_314 rfl ck_13 rfl (Nat.le_of_ble_eq_true rfl) ⟨Nat.le_of_ble_eq_true rfl, Nat.le_of_ble_eq_true rfl⟩ ⟨Nat.le_of_ble_eq_true rfl, Nat.le_of_ble_eq_true rfl⟩ (fun rh1 vh1 ah1 h1 => ?_)
    obtain ⟨rfl, fn1, bn1, ex1⟩ := h1
    have fq1 := fp0.call fn1 rfl rfl
    obtain ⟨pw1, ex1⟩ := ex1
    refine hv2 (show ah1 47 q.toNat = a 47 q.toNat + 1 from ex1) (show 0 ≤ ah1 47 q.toNat ∧ ah1 47 q.toNat ≤ 6008 from bn1.2 47 (q.toNat)) (fun gf1 ra4 => ?_)
    refine m_st (st2 := []) rfl ?_
    exact m_vret C dX12_addIndicator_36 rfl (Nat.le_of_ble_eq_true rfl) (Nat.le_of_ble_eq_true rfl) ⟨rfl, fq1, bn1, ⟨pw1, (by show ah1 47 q.toNat ≤ a 47 q.toNat + 1; omega)⟩⟩
set_option maxHeartbeats 4000000 in
set_option maxRecDepth 100000 in
theorem M_addRows {l : Launch} {G : GT} {h0 : Nat} {ad ln : Nat → Nat} {v : Nat → Int} {a : Nat → Nat → Int}  {q t : Int} (hB : BX v a) (hW : RWS a) (hT : TBL v a) (hq : q = 0 ∨ q = 1) (ht : 0 ≤ t ∧ t < v 4) (h6 : a 6 t.toNat ≤ 4) : Mm l G yX12_addRows cX12_addRows 5 none 2 [.int (iI q), .int (iI t)] h0 ad ln v a 0 0 (fun r v2 a2 => r = none ∧ fr [] [44, 45, 46, 47] v a v2 a2 ∧ BX v2 a2 ∧ (RWS a2 ∧ a2 47 q.toNat ≤ 6002)) := by
  refine Mm.mk (by decide) (Nat.le_of_ble_eq_true rfl) ?_
  intro p e s m args below meth c A C
  refine hv2 (show 0 ≤ v 4 ∧ v 4 ≤ 30 from hB.1 4) (show fr [] [44, 45, 46, 47] v a v a from fr.refl) (fun h30 fp0 => ?_)
  refine m_aload_n (j := 0) C dX12_addRows_0 rfl ?_
  refine m_geta (k := 47) C dX12_addRows_1 w6_106 (by decide) rfl ?_
  refine m_iload_n (j := 1) C dX12_addRows_4 rfl ?_
  refine m_iconst C dX12_addRows_5 ?_
  refine m_ast (k := 47) C dX12_addRows_6 rfl rfl (by decide) (by omega) (by show _ < ((_ : Nat) : Int); simp only [mlen]; omega) (by decide) ?_
  refine hv3 (show BX v (up2 a 47 q.toNat 0) from hB.set (k := 47) (i := q.toNat) (z := 0) ⟨by decide, by decide⟩) (fp0.set (k := 47) (i := q.toNat) (z := 0) rfl) (show (up2 a 47 q.toNat 0) 47 q.toNat = 0 from up2_s) (fun bq1 fq1 zpw1 => ?_)
  have pw1 : RWS (up2 a 47 q.toNat 0) := RWS.zero (q := q) hW (by omega)
  refine m_iload_n (j := 2) C dX12_addRows_7 rfl ?_
  refine m_istore_n (lv2 := [(3, .int (iI t)), (0, .ref h0), (1, .int (iI q)), (2, .int (iI t))]) C dX12_addRows_8 (by decide) rfl ?_
  have Lp1 : ∀ (nn : Nat) (b1 : Int) (vb2 : Nat → Int) (ab2 : Nat → Nat → Int), b1 + 1 < (nn : Int) → BX vb2 ab2 → fr [] [44, 45, 46, 47] v a vb2 ab2 → (-1 ≤ b1 ∧ b1 ≤ t) → (b1 = -1 ∨ a 6 b1.toNat ≤ 4) → (ab2 47 q.toNat + 200 * (b1 + 1) ≤ 6000) → (RWS ab2) → mw p l e (rmq 2 0 0) s m args below meth c G A 5 (MQ below (Qm G A (fun rq Lq Eq => ∃ (vq : Nat → Int) (aq : Nat → Nat → Int), mI G h0 ad ln vq aq Lq Eq ∧ (fun r v2 a2 => r = none ∧ fr [] [44, 45, 46, 47] v a v2 a2 ∧ BX v2 a2 ∧ (RWS a2 ∧ a2 47 q.toNat ≤ 6002)) rq vq aq)) args s 0 0 A) h0 ad ln vb2 ab2 0 0 9 [(3, .int (iI b1)), (0, .ref h0), (1, .int (iI q)), (2, .int (iI t))] [] := by
    intro nn
    induction nn with
    | zero =>
      intro b1 vb2 ab2 hm bxb2 fpb2 hb hb6 h47 hW1
      exact absurd hm (by omega)
    | succ nn ih1 =>
      intro b1 vb2 ab2 hm bxb2 fpb2 hb hb6 h47 hW1
      refine m_iload_n (j := 0) C dX12_addRows_9 rfl ?_
      refine m_if_lt (tgt := 71) C ⟨by omega, by omega⟩ dX12_addRows_10 (by decide) (fun c1 => ?_) (fun c1 => ?_)
      · refine m_aload_n (j := 1) C dX12_addRows_71 rfl ?_
        refine m_iload_n (j := 2) C dX12_addRows_72 rfl ?_
        refine m_iload_n (j := 3) C dX12_addRows_73 rfl ?_
        refine m_iconst C dX12_addRows_74 ?_
        have ra1 : 0 ≤ ab2 47 q.toNat ∧ ab2 47 q.toNat ≤ 6008 := bxb2.2 47 (q.toNat)
        refine m_call (mc2 := 0) (ms2 := 0) (As := [.int (iI q), .int (iI t), .int (iI 0)]) (rest := []) C (M_addIndicator (q := q) (t := t) (w1 := 0) bxb2 hW1 (by show q = 0 ∨ q = 1; omega) (by show 0 ≤ t ∧ t < 30; omega) (by show 0 ≤ (0 : Int) ∧ (0 : Int) ≤ 3; omega) (by show ab2 47 q.toNat < 6008; omega)) dX12_addRows_75 kV_X12_317 rfl ck_13 rfl (Nat.le_of_ble_eq_true rfl) ⟨Nat.le_of_ble_eq_true rfl, Nat.le_of_ble_eq_true rfl⟩ ⟨Nat.le_of_ble_eq_true rfl, Nat.le_of_ble_eq_true rfl⟩ (fun rh1 vh1 ah1 h1 => ?_)
        obtain ⟨rfl, fn1, bn1, ex1⟩ := h1
        have fq2 := fpb2.call fn1 rfl rfl
        obtain ⟨pw2, ex1⟩ := ex1
        refine hv2 (show ah1 47 q.toNat ≤ ab2 47 q.toNat + 1 from ex1) (show 0 ≤ ah1 47 q.toNat ∧ ah1 47 q.toNat ≤ 6008 from bn1.2 47 (q.toNat)) (fun gf1 ra2 => ?_)
        refine m_st (st2 := []) rfl ?_
        refine m_aload_n (j := 1) C dX12_addRows_78 rfl ?_
        refine m_iload_n (j := 2) C dX12_addRows_79 rfl ?_
        refine m_iload_n (j := 3) C dX12_addRows_80 rfl ?_
        refine m_iconst C dX12_addRows_81 ?_
        refine m_call (mc2 := 0) (ms2 := 0) (As := [.int (iI q), .int (iI t), .int (iI 1)]) (rest := []) C (M_addIndicator (q := q) (t := t) (w1 := 1) bn1 pw2 (by show q = 0 ∨ q = 1; omega) (by show 0 ≤ t ∧ t < 30; omega) (by show 0 ≤ (1 : Int) ∧ (1 : Int) ≤ 3; omega) (by show ah1 47 q.toNat < 6008; omega)) dX12_addRows_82 kV_X12_317 rfl ck_13 rfl (Nat.le_of_ble_eq_true rfl) ⟨Nat.le_of_ble_eq_true rfl, Nat.le_of_ble_eq_true rfl⟩ ⟨Nat.le_of_ble_eq_true rfl, Nat.le_of_ble_eq_true rfl⟩ (fun rh2 vh2 ah2 h2 => ?_)
        obtain ⟨rfl, fn2, bn2, ex2⟩ := h2
        have fq3 := fq2.call fn2 rfl rfl
        obtain ⟨pw3, ex2⟩ := ex2
        refine hv2 (show ah2 47 q.toNat ≤ ah1 47 q.toNat + 1 from ex2) (show 0 ≤ ah2 47 q.toNat ∧ ah2 47 q.toNat ≤ 6008 from bn2.2 47 (q.toNat)) (fun gf2 ra3 => ?_)
        refine m_st (st2 := []) rfl ?_
        exact m_vret C dX12_addRows_85 rfl (Nat.le_of_ble_eq_true rfl) (Nat.le_of_ble_eq_true rfl) ⟨rfl, fq3, bn2, ⟨pw3, (by show ah2 47 q.toNat ≤ 6002; omega)⟩⟩
      · have ht0 := hT.1 b1 (by omega) (by omega)
        have r10 : 0 ≤ a 10 b1.toNat ∧ a 10 b1.toNat ≤ 200 := hB.2 10 _
        have q6 : b1 = -1 ∨ True := Or.inr trivial
        refine m_sipush (z := 200) C dX12_addRows_13 (by decide) ?_
        refine m_iload_n (j := 0) C dX12_addRows_16 rfl ?_
        refine m_imul C dX12_addRows_17 ?_
        refine m_istore (lv2 := [(4, .int (iI (200 * b1))), (3, .int (iI b1)), (0, .ref h0), (1, .int (iI q)), (2, .int (iI t))]) C dX12_addRows_18 (by decide) rfl ?_
        have Lp2 : ∀ (nn : Nat) (r : Int) (vb3 : Nat → Int) (ab3 : Nat → Nat → Int), 200 * b1 + 200 - r < (nn : Int) → BX vb3 ab3 → fr [] [44, 45, 46, 47] v a vb3 ab3 → (200 * b1 ≤ r ∧ r ≤ 200 * b1 + a 10 b1.toNat) → (ab3 47 q.toNat + (200 * b1 + a 10 b1.toNat - r) + 200 * b1 ≤ 6000) → (RWS ab3) → mw p l e (rmq 2 0 0) s m args below meth c G A 5 (MQ below (Qm G A (fun rq Lq Eq => ∃ (vq : Nat → Int) (aq : Nat → Nat → Int), mI G h0 ad ln vq aq Lq Eq ∧ (fun r v2 a2 => r = none ∧ fr [] [44, 45, 46, 47] v a v2 a2 ∧ BX v2 a2 ∧ (RWS a2 ∧ a2 47 q.toNat ≤ 6002)) rq vq aq)) args s 0 0 A) h0 ad ln vb3 ab3 0 0 20 [(4, .int (iI r)), (3, .int (iI b1)), (0, .ref h0), (1, .int (iI q)), (2, .int (iI t))] [] := by
          intro nn
          induction nn with
          | zero =>
            intro r vb3 ab3 hm bxb3 fpb3 hr h472 hW2
            exact absurd hm (by omega)
          | succ nn ih2 =>
            intro r vb3 ab3 hm bxb3 fpb3 hr h472 hW2
            refine m_iload (j := 0) C dX12_addRows_20 rfl ?_
            refine m_sipush (z := 200) C dX12_addRows_22 (by decide) ?_
            refine m_iload_n (j := 1) C dX12_addRows_25 rfl ?_
            refine m_imul C dX12_addRows_26 ?_
            refine m_aload_n (j := 2) C dX12_addRows_27 rfl ?_
            refine m_geta (k := 10) C dX12_addRows_28 w6_69 (by decide) rfl ?_
            refine m_iload_n (j := 1) C dX12_addRows_31 rfl ?_
            refine m_ald (k := 10) C dX12_addRows_32 rfl rfl (by decide) (by omega) (by show _ < ((_ : Nat) : Int); simp only [mlen]; omega) (by decide) ?_
            refine hv2 (show 0 ≤ ab3 10 b1.toNat ∧ ab3 10 b1.toNat ≤ 200 from bxb3.2 10 (b1.toNat)) (show ab3 10 (b1.toNat) = a 10 (b1.toNat) from congrFun (fpb3.2 10 rfl) (b1.toNat)) (fun ra4 ae1 => ?_)
            refine m_st (st2 := [.int (iI (a 10 b1.toNat)), .int (iI (200 * b1)), .int (iI r)]) (congrArg (fun z => Value.int (iI z) :: [.int (iI (200 * b1)), .int (iI r)]) (congrFun (fpb3.2 10 rfl) (b1.toNat))) ?_
            refine m_iadd C dX12_addRows_33 ?_
            refine m_icmp_ge (tgt := 61) C ⟨by omega, by omega⟩ ⟨by omega, by omega⟩ dX12_addRows_34 (by decide) (fun c2 => ?_) (fun c2 => ?_)
            · refine m_aload_n (j := 2) C dX12_addRows_61 rfl ?_
              refine m_geta (k := 8) C dX12_addRows_62 w6_67 (by decide) rfl ?_
              refine m_iload_n (j := 1) C dX12_addRows_65 rfl ?_
              refine m_ald (k := 8) C dX12_addRows_66 rfl rfl (by decide) (by omega) (by show _ < ((_ : Nat) : Int); simp only [mlen]; omega) (by decide) ?_
              refine hv2 (show (-1) ≤ ab3 8 b1.toNat ∧ ab3 8 b1.toNat ≤ 29 from bxb3.2 8 (b1.toNat)) (show ab3 8 (b1.toNat) = a 8 (b1.toNat) from congrFun (fpb3.2 8 rfl) (b1.toNat)) (fun ra5 ae2 => ?_)
              refine m_st (st2 := [.int (iI (a 8 b1.toNat))]) (congrArg (fun z => Value.int (iI z) :: []) (congrFun (fpb3.2 8 rfl) (b1.toNat))) ?_
              refine m_istore_n (lv2 := [(3, .int (iI (a 8 b1.toNat))), (4, .int (iI r)), (0, .ref h0), (1, .int (iI q)), (2, .int (iI t))]) C dX12_addRows_67 (by decide) rfl ?_
              refine m_goto (tgt := 9) C dX12_addRows_68 (by decide) ?_
              have ra6 : 0 ≤ ab3 47 q.toNat ∧ ab3 47 q.toNat ≤ 6008 := bxb3.2 47 (q.toNat)
              refine m_lv (lv2 := [(3, .int (iI (a 8 b1.toNat))), (0, .ref h0), (1, .int (iI q)), (2, .int (iI t))]) [0, 2, 3, 4] rfl ?_
              exact ih1  (a 8 b1.toNat) _ _ (by omega) bxb3 fpb3 (by omega) (by omega) (by show (ab3 47 q.toNat) + 200 * ((a 8 b1.toNat) + 1) ≤ 6000; omega) hW2
            · refine m_aload_n (j := 2) C dX12_addRows_37 rfl ?_
              refine m_iload_n (j := 3) C dX12_addRows_38 rfl ?_
              refine m_iload (j := 0) C dX12_addRows_39 rfl ?_
              refine m_iconst C dX12_addRows_41 ?_
              refine m_iload (j := 0) C dX12_addRows_42 rfl ?_
              refine m_imul C dX12_addRows_44 ?_
              refine m_aload_n (j := 2) C dX12_addRows_45 rfl ?_
              refine m_geta (k := 13) C dX12_addRows_46 w6_72 (by decide) rfl ?_
              refine m_iload (j := 0) C dX12_addRows_49 rfl ?_
              refine m_ald (k := 13) C dX12_addRows_51 rfl rfl (by decide) (by omega) (by show _ < ((_ : Nat) : Int); simp only [mlen]; omega) (by decide) ?_
              refine hv2 (show 0 ≤ ab3 13 r.toNat ∧ ab3 13 r.toNat ≤ 4 from bxb3.2 13 (r.toNat)) (show ab3 13 (r.toNat) = a 13 (r.toNat) from congrFun (fpb3.2 13 rfl) (r.toNat)) (fun ra7 ae3 => ?_)
              refine m_st (st2 := [.int (iI (a 13 r.toNat)), .int (iI (4 * r)), .int (iI r), .int (iI q), .ref h0]) (congrArg (fun z => Value.int (iI z) :: [.int (iI (4 * r)), .int (iI r), .int (iI q), .ref h0]) (congrFun (fpb3.2 13 rfl) (r.toNat))) ?_
              refine hv2 ((hT.2 b1 r (by omega) (by omega) (by omega) (by omega)).2) (show 0 ≤ ab3 47 q.toNat ∧ ab3 47 q.toNat ≤ 6008 from bxb3.2 47 (q.toNat)) (fun hr0 ra8 => ?_)
              refine m_call (mc2 := 0) (ms2 := 0) (As := [.int (iI q), .int (iI r), .int (iI (4 * r)), .int (iI (a 13 r.toNat))]) (rest := []) C (B_addRow (q := q) (x := r) (y := 4 * r) (z := a 13 r.toNat) bxb3 hW2 (by show q = 0 ∨ q = 1; omega) (by show ab3 47 q.toNat < 6008; omega) (by show -4 ≤ r ∧ r < 6000; omega) (by show 1 ≤ (a 13 r.toNat) ∧ (a 13 r.toNat) ≤ 4; omega) (by show 0 ≤ (4 * r); omega) (by show 0 ≤ r → (4 * r) + (a 13 r.toNat) ≤ 24000; omega) (by show r < 0 → (4 * r) + (a 13 r.toNat) ≤ 480; omega)) dX12_addRows_52 kV_X12_314 rfl ck_13 rfl (Nat.le_of_ble_eq_true rfl) ⟨Nat.le_of_ble_eq_true rfl, Nat.le_of_ble_eq_true rfl⟩ ⟨Nat.le_of_ble_eq_true rfl, Nat.le_of_ble_eq_true rfl⟩ (fun rh3 vh3 ah3 h3 => ?_)
              obtain ⟨rfl, fn3, bn3, ex3⟩ := h3
              have fq4 := fpb3.call fn3 rfl rfl
              obtain ⟨pw4, ex3⟩ := ex3
              refine hv2 (show ah3 47 q.toNat = ab3 47 q.toNat + 1 from ex3) (show 0 ≤ ah3 47 q.toNat ∧ ah3 47 q.toNat ≤ 6008 from bn3.2 47 (q.toNat)) (fun gf3 ra9 => ?_)
              refine m_st (st2 := []) rfl ?_
              refine m_iinc (z := r) (j := 0) (lv2 := [(4, .int (iI (r + 1))), (3, .int (iI b1)), (0, .ref h0), (1, .int (iI q)), (2, .int (iI t))]) C dX12_addRows_55 rfl (by decide) rfl ?_
              refine m_goto (tgt := 20) C dX12_addRows_58 (by decide) ?_
              refine m_lv (lv2 := [(4, .int (iI (r + 1))), (3, .int (iI b1)), (0, .ref h0), (1, .int (iI q)), (2, .int (iI t))]) [0, 1, 2, 3, 4] rfl ?_
              exact ih2  (r + 1) _ _ (by omega) bn3 fq4 (by omega) (by show (ah3 47 q.toNat) + (200 * b1 + a 10 b1.toNat - (r + 1)) + 200 * b1 ≤ 6000; omega) pw4
        have ra10 : 0 ≤ ab2 47 q.toNat ∧ ab2 47 q.toNat ≤ 6008 := bxb2.2 47 (q.toNat)
        refine m_lv (lv2 := [(4, .int (iI (200 * b1))), (3, .int (iI b1)), (0, .ref h0), (1, .int (iI q)), (2, .int (iI t))]) [0, 1, 2, 3, 4] rfl ?_
        exact Lp2 202 (200 * b1) _ _ (by omega) bxb2 fpb2 (by omega) (by show (ab2 47 q.toNat) + (200 * b1 + a 10 b1.toNat - (200 * b1)) + 200 * b1 ≤ 6000; omega) hW1
  have ra11 : 0 ≤ (up2 a 47 q.toNat 0) 47 q.toNat ∧ (up2 a 47 q.toNat 0) 47 q.toNat ≤ 6008 := bq1.2 47 (q.toNat)
  refine m_lv (lv2 := [(3, .int (iI t)), (0, .ref h0), (1, .int (iI q)), (2, .int (iI t))]) [0, 1, 2, 3] rfl ?_
  exact Lp1 32 t _ _ (by omega) bq1 fq1 (by omega) (by omega) (by show ((up2 a 47 q.toNat 0) 47 q.toNat) + 200 * (t + 1) ≤ 6000; omega) pw1
set_option maxHeartbeats 4000000 in
set_option maxRecDepth 100000 in
theorem M_gather {l : Launch} {G : GT} {h0 : Nat} {ad ln : Nat → Nat} {v : Nat → Int} {a : Nat → Nat → Int}  {t : Int} (hB : BX v a) (hW : RWS a) (hT : TBL v a) (ht : 0 ≤ t ∧ t < v 4) : Mm l G yX12_gather cX12_gather 2 none 3 [.int (iI t)] h0 ad ln v a 0 0 (fun r v2 a2 => r = none ∧ fr [] [44, 45, 46, 47] v a v2 a2 ∧ BX v2 a2 ∧ (RWS a2)) := by
  refine Mm.mk (by decide) (Nat.le_of_ble_eq_true rfl) ?_
  intro p e s m args below meth c A C
  refine hv2 (show 0 ≤ v 4 ∧ v 4 ≤ 30 from hB.1 4) (show fr [] [44, 45, 46, 47] v a v a from fr.refl) (fun h30 fp0 => ?_)
  have ht0 := hT.1 t (by omega) (by omega)
  refine m_aload_n (j := 0) C dX12_gather_0 rfl ?_
  refine m_geta (k := 47) C dX12_gather_1 w6_106 (by decide) rfl ?_
  refine m_iconst C dX12_gather_4 ?_
  refine m_iconst C dX12_gather_5 ?_
  refine m_ast (k := 47) C dX12_gather_6 rfl rfl (by decide) (by decide) (by decide) (by decide) ?_
  refine hv3 (show BX v (up2 a 47 (1 : Int).toNat 0) from hB.set (k := 47) (i := (1 : Int).toNat) (z := 0) ⟨by decide, by decide⟩) (fp0.set (k := 47) (i := (1 : Int).toNat) (z := 0) rfl) (show (up2 a 47 (1 : Int).toNat 0) 47 (1 : Int).toNat = 0 from up2_s) (fun bq1 fq1 zpw1 => ?_)
  have pw1 : RWS (up2 a 47 (1 : Int).toNat 0) := RWS.zero (q := 1) hW (by omega)
  refine m_aload_n (j := 0) C dX12_gather_7 rfl ?_
  refine m_geta (k := 6) C dX12_gather_8 w6_65 (by decide) rfl ?_
  refine m_iload_n (j := 1) C dX12_gather_11 rfl ?_
  refine m_ald (k := 6) C dX12_gather_12 rfl rfl (by decide) (by omega) (by show _ < ((_ : Nat) : Int); simp only [mlen]; omega) (by decide) ?_
  have ra1 : 0 ≤ a 6 t.toNat ∧ a 6 t.toNat ≤ 5 := bq1.2 6 (t.toNat)
  refine m_st (st2 := [.int (iI (a 6 t.toNat))]) (congrArg (fun z => Value.int (iI z) :: []) (congrFun (fq1.2 6 rfl) (t.toNat))) ?_
  refine m_iconst C dX12_gather_13 ?_
  refine m_icmp_eq (tgt := 24) C (r32_c (lo := 0) (hi := 5) ra1.1 ra1.2 (by decide) (by decide)) ⟨by decide, by decide⟩ dX12_gather_14 (by decide) (fun c1 => ?_) (fun c1 => ?_)
  · refine m_aload_n (j := 0) C dX12_gather_24 rfl ?_
    refine m_iconst C dX12_gather_25 ?_
    refine m_aload_n (j := 0) C dX12_gather_26 rfl ?_
    refine m_geta (k := 8) C dX12_gather_27 w6_67 (by decide) rfl ?_
    refine m_iload_n (j := 1) C dX12_gather_30 rfl ?_
    refine m_ald (k := 8) C dX12_gather_31 rfl rfl (by decide) (by omega) (by show _ < ((_ : Nat) : Int); simp only [mlen]; omega) (by decide) ?_
    have ra2 : (-1) ≤ a 8 t.toNat ∧ a 8 t.toNat ≤ 29 := bq1.2 8 (t.toNat)
    refine m_st (st2 := [.int (iI (a 8 t.toNat)), .int (iI 0), .ref h0]) (congrArg (fun z => Value.int (iI z) :: [.int (iI 0), .ref h0]) (congrFun (fq1.2 8 rfl) (t.toNat))) ?_
    refine hv2 (show 0 ≤ v 4 ∧ v 4 ≤ 30 from bq1.1 4) (show 0 ≤ a 6 (a 8 t.toNat).toNat ∧ a 6 (a 8 t.toNat).toNat ≤ 5 from bq1.2 6 ((a 8 t.toNat).toNat)) (fun rv1 ra3 => ?_)
    refine m_call (mc2 := 0) (ms2 := 0) (As := [.int (iI 0), .int (iI (a 8 t.toNat))]) (rest := []) C (M_addRows (q := 0) (t := a 8 t.toNat) bq1 pw1 (hT.fr fq1 rfl rfl) (by show (0 : Int) = 0 ∨ (0 : Int) = 1; omega) (by show 0 ≤ (a 8 t.toNat) ∧ (a 8 t.toNat) < (v 4); omega) (by show a 6 (a 8 t.toNat).toNat ≤ 4; omega)) dX12_gather_32 kV_X12_321 rfl ck_13 rfl (Nat.le_of_ble_eq_true rfl) ⟨Nat.le_of_ble_eq_true rfl, Nat.le_of_ble_eq_true rfl⟩ ⟨Nat.le_of_ble_eq_true rfl, Nat.le_of_ble_eq_true rfl⟩ (fun rh1 vh1 ah1 h1 => ?_)
    obtain ⟨rfl, fn1, bn1, ex1⟩ := h1
    have fq2 := fq1.call fn1 rfl rfl
    obtain ⟨pw2, ex1⟩ := ex1
    refine hv2 (show ah1 47 (0 : Int).toNat ≤ 6002 from ex1) (show 0 ≤ ah1 47 (0 : Int).toNat ∧ ah1 47 (0 : Int).toNat ≤ 6008 from bn1.2 47 ((0 : Int).toNat)) (fun gf1 ra4 => ?_)
    refine m_st (st2 := []) rfl ?_
    refine m_aload_n (j := 0) C dX12_gather_35 rfl ?_
    refine m_iconst C dX12_gather_36 ?_
    refine m_iload_n (j := 1) C dX12_gather_37 rfl ?_
    refine m_iconst C dX12_gather_38 ?_
    refine m_call (mc2 := 0) (ms2 := 0) (As := [.int (iI 0), .int (iI t), .int (iI 2)]) (rest := []) C (M_addIndicator (q := 0) (t := t) (w1 := 2) bn1 pw2 (by show (0 : Int) = 0 ∨ (0 : Int) = 1; omega) (by show 0 ≤ t ∧ t < 30; omega) (by show 0 ≤ (2 : Int) ∧ (2 : Int) ≤ 3; omega) (by show ah1 47 (0 : Int).toNat < 6008; omega)) dX12_gather_39 kV_X12_317 rfl ck_13 rfl (Nat.le_of_ble_eq_true rfl) ⟨Nat.le_of_ble_eq_true rfl, Nat.le_of_ble_eq_true rfl⟩ ⟨Nat.le_of_ble_eq_true rfl, Nat.le_of_ble_eq_true rfl⟩ (fun rh2 vh2 ah2 h2 => ?_)
    obtain ⟨rfl, fn2, bn2, ex2⟩ := h2
    have fq3 := fq2.call fn2 rfl rfl
    obtain ⟨pw3, ex2⟩ := ex2
    refine hv2 (show ah2 47 (0 : Int).toNat ≤ ah1 47 (0 : Int).toNat + 1 from ex2) (show 0 ≤ ah2 47 (0 : Int).toNat ∧ ah2 47 (0 : Int).toNat ≤ 6008 from bn2.2 47 ((0 : Int).toNat)) (fun gf2 ra5 => ?_)
    refine m_st (st2 := []) rfl ?_
    refine m_aload_n (j := 0) C dX12_gather_42 rfl ?_
    refine m_iconst C dX12_gather_43 ?_
    refine m_aload_n (j := 0) C dX12_gather_44 rfl ?_
    refine m_geta (k := 9) C dX12_gather_45 w6_68 (by decide) rfl ?_
    refine m_iload_n (j := 1) C dX12_gather_48 rfl ?_
    refine m_ald (k := 9) C dX12_gather_49 rfl rfl (by decide) (by omega) (by show _ < ((_ : Nat) : Int); simp only [mlen]; omega) (by decide) ?_
    refine hv3 (show (-1) ≤ ah2 9 t.toNat ∧ ah2 9 t.toNat ≤ 29 from bn2.2 9 (t.toNat)) (show ah2 9 (t.toNat) = ah1 9 (t.toNat) from congrFun (fn2.2 9 rfl) (t.toNat)) (show ah1 9 (t.toNat) = a 9 (t.toNat) from congrFun (fn1.2 9 rfl) (t.toNat)) (fun ra6 ae1 ae2 => ?_)
    refine m_st (st2 := [.int (iI (a 9 t.toNat)), .int (iI 1), .ref h0]) (congrArg (fun z => Value.int (iI z) :: [.int (iI 1), .ref h0]) (congrFun (fq3.2 9 rfl) (t.toNat))) ?_
    refine hv6 (show 0 ≤ vh2 4 ∧ vh2 4 ≤ 30 from bn2.1 4) (show vh2 4 = vh1 4 from fn2.1 4 rfl) (show vh1 4 = v 4 from fn1.1 4 rfl) (show 0 ≤ ah2 6 (a 9 t.toNat).toNat ∧ ah2 6 (a 9 t.toNat).toNat ≤ 5 from bn2.2 6 ((a 9 t.toNat).toNat)) (show ah2 6 ((a 9 t.toNat).toNat) = ah1 6 ((a 9 t.toNat).toNat) from congrFun (fn2.2 6 rfl) ((a 9 t.toNat).toNat)) (show ah1 6 ((a 9 t.toNat).toNat) = a 6 ((a 9 t.toNat).toNat) from congrFun (fn1.2 6 rfl) ((a 9 t.toNat).toNat)) (fun rv2 ve1 ve2 ra7 ae3 ae4 => ?_)
    refine m_call (mc2 := 0) (ms2 := 0) (As := [.int (iI 1), .int (iI (a 9 t.toNat))]) (rest := []) C (M_addRows (q := 1) (t := a 9 t.toNat) bn2 pw3 (hT.fr fq3 rfl rfl) (by show (1 : Int) = 0 ∨ (1 : Int) = 1; omega) (by show 0 ≤ (a 9 t.toNat) ∧ (a 9 t.toNat) < (vh2 4); omega) (by show ah2 6 (a 9 t.toNat).toNat ≤ 4; omega)) dX12_gather_50 kV_X12_321 rfl ck_13 rfl (Nat.le_of_ble_eq_true rfl) ⟨Nat.le_of_ble_eq_true rfl, Nat.le_of_ble_eq_true rfl⟩ ⟨Nat.le_of_ble_eq_true rfl, Nat.le_of_ble_eq_true rfl⟩ (fun rh3 vh3 ah3 h3 => ?_)
    obtain ⟨rfl, fn3, bn3, ex3⟩ := h3
    have fq4 := fq3.call fn3 rfl rfl
    obtain ⟨pw4, ex3⟩ := ex3
    refine hv2 (show ah3 47 (1 : Int).toNat ≤ 6002 from ex3) (show 0 ≤ ah3 47 (1 : Int).toNat ∧ ah3 47 (1 : Int).toNat ≤ 6008 from bn3.2 47 ((1 : Int).toNat)) (fun gf3 ra8 => ?_)
    refine m_st (st2 := []) rfl ?_
    refine m_aload_n (j := 0) C dX12_gather_53 rfl ?_
    refine m_iconst C dX12_gather_54 ?_
    refine m_iload_n (j := 1) C dX12_gather_55 rfl ?_
    refine m_iconst C dX12_gather_56 ?_
    refine m_call (mc2 := 0) (ms2 := 0) (As := [.int (iI 1), .int (iI t), .int (iI 3)]) (rest := []) C (M_addIndicator (q := 1) (t := t) (w1 := 3) bn3 pw4 (by show (1 : Int) = 0 ∨ (1 : Int) = 1; omega) (by show 0 ≤ t ∧ t < 30; omega) (by show 0 ≤ (3 : Int) ∧ (3 : Int) ≤ 3; omega) (by show ah3 47 (1 : Int).toNat < 6008; omega)) dX12_gather_57 kV_X12_317 rfl ck_13 rfl (Nat.le_of_ble_eq_true rfl) ⟨Nat.le_of_ble_eq_true rfl, Nat.le_of_ble_eq_true rfl⟩ ⟨Nat.le_of_ble_eq_true rfl, Nat.le_of_ble_eq_true rfl⟩ (fun rh4 vh4 ah4 h4 => ?_)
    obtain ⟨rfl, fn4, bn4, ex4⟩ := h4
    have fq5 := fq4.call fn4 rfl rfl
    obtain ⟨pw5, ex4⟩ := ex4
    refine hv2 (show ah4 47 (1 : Int).toNat ≤ ah3 47 (1 : Int).toNat + 1 from ex4) (show 0 ≤ ah4 47 (1 : Int).toNat ∧ ah4 47 (1 : Int).toNat ≤ 6008 from bn4.2 47 ((1 : Int).toNat)) (fun gf4 ra9 => ?_)
    refine m_st (st2 := []) rfl ?_
    exact m_vret C dX12_gather_60 rfl (Nat.le_of_ble_eq_true rfl) (Nat.le_of_ble_eq_true rfl) ⟨rfl, fq5, bn4, pw5⟩
  · refine m_aload_n (j := 0) C dX12_gather_17 rfl ?_
    refine m_iconst C dX12_gather_18 ?_
    refine m_iload_n (j := 1) C dX12_gather_19 rfl ?_
    have rv3 : 0 ≤ v 4 ∧ v 4 ≤ 30 := bq1.1 4
    refine m_call (mc2 := 0) (ms2 := 0) (As := [.int (iI 0), .int (iI t)]) (rest := []) C (M_addRows (q := 0) (t := t) bq1 pw1 (hT.fr fq1 rfl rfl) (by show (0 : Int) = 0 ∨ (0 : Int) = 1; omega) (by show 0 ≤ t ∧ t < (v 4); omega) (by show a 6 t.toNat ≤ 4; omega)) dX12_gather_20 kV_X12_321 rfl ck_13 rfl (Nat.le_of_ble_eq_true rfl) ⟨Nat.le_of_ble_eq_true rfl, Nat.le_of_ble_eq_true rfl⟩ ⟨Nat.le_of_ble_eq_true rfl, Nat.le_of_ble_eq_true rfl⟩ (fun rh5 vh5 ah5 h5 => ?_)
    obtain ⟨rfl, fn5, bn5, ex5⟩ := h5
    have fq6 := fq1.call fn5 rfl rfl
    obtain ⟨pw6, ex5⟩ := ex5
    refine hv2 (show ah5 47 (0 : Int).toNat ≤ 6002 from ex5) (show 0 ≤ ah5 47 (0 : Int).toNat ∧ ah5 47 (0 : Int).toNat ≤ 6008 from bn5.2 47 ((0 : Int).toNat)) (fun gf5 ra10 => ?_)
    refine m_st (st2 := []) rfl ?_
    exact m_vret C dX12_gather_23 rfl (Nat.le_of_ble_eq_true rfl) (Nat.le_of_ble_eq_true rfl) ⟨rfl, fq6, bn5, pw6⟩
set_option maxHeartbeats 4000000 in
set_option maxRecDepth 100000 in
theorem M_readWord {l : Launch} {G : GT} {h0 : Nat} {ad ln : Nat → Nat} {v : Nat → Int} {a : Nat → Nat → Int}  {q u : Int} (hB : BX v a) (hW : RWS a) (hq : 0 ≤ q ∧ q ≤ u ∧ u ≤ 40200) : Mm l G yX12_readWord cX12_readWord 9 (some .int) 3 [.int (iI q), .int (iI u)] h0 ad ln v a 0 0 (fun r v2 a2 => ∃ f : Int, r = some (.int (iI f)) ∧ fr [52, 53] [51] v a v2 a2 ∧ BX v2 a2 ∧ (f = 0 ∨ f = 6 ∨ f = 9)) := by
  refine Mm.mk (by decide) (Nat.le_of_ble_eq_true rfl) ?_
  intro p e s m args below meth c A C
  have fp0 : fr [52, 53] [51] v a v a := fr.refl
  refine m_iconst C dX12_readWord_0 ?_
  refine m_istore_n (lv2 := [(3, .int (iI 0)), (0, .ref h0), (1, .int (iI q)), (2, .int (iI u))]) C dX12_readWord_1 (by decide) rfl ?_
  refine m_iconst C dX12_readWord_2 ?_
  refine m_istore (lv2 := [(4, .int (iI 0)), (3, .int (iI 0)), (0, .ref h0), (1, .int (iI q)), (2, .int (iI u))]) C dX12_readWord_3 (by decide) rfl ?_
  refine m_iload_n (j := 3) C dX12_readWord_5 rfl ?_
  refine m_istore (lv2 := [(5, .int (iI q)), (4, .int (iI 0)), (3, .int (iI 0)), (0, .ref h0), (1, .int (iI q)), (2, .int (iI u))]) C dX12_readWord_6 (by decide) rfl ?_
  have Lp1 : ∀ (nn : Nat) (pt g x : Int) (vb1 : Nat → Int) (ab1 : Nat → Nat → Int), 40201 - x < (nn : Int) → BX vb1 ab1 → fr [52, 53] [51] v a vb1 ab1 → (pt = 0 ∨ pt = 1) → (g = 0 ∨ g = 1) → (q ≤ x ∧ x ≤ u) → mw p l e (rmq 3 0 0) s m args below meth c G A 9 (MQ below (Qm G A (fun rq Lq Eq => ∃ (vq : Nat → Int) (aq : Nat → Nat → Int), mI G h0 ad ln vq aq Lq Eq ∧ (fun r v2 a2 => ∃ f : Int, r = some (.int (iI f)) ∧ fr [52, 53] [51] v a v2 a2 ∧ BX v2 a2 ∧ (f = 0 ∨ f = 6 ∨ f = 9)) rq vq aq)) args s 0 0 A) h0 ad ln vb1 ab1 0 0 8 [(5, .int (iI x)), (4, .int (iI g)), (3, .int (iI pt)), (0, .ref h0), (1, .int (iI q)), (2, .int (iI u))] [] := by
    intro nn
    induction nn with
    | zero =>
      intro pt g x vb1 ab1 hm bxb1 fpb1 hp hg hx
      exact absurd hm (by omega)
    | succ nn ih1 =>
      intro pt g x vb1 ab1 hm bxb1 fpb1 hp hg hx
      refine m_iload (j := 0) C dX12_readWord_8 rfl ?_
      refine m_iload_n (j := 5) C dX12_readWord_10 rfl ?_
      refine m_icmp_ge (tgt := 197) C ⟨by omega, by omega⟩ ⟨by omega, by omega⟩ dX12_readWord_11 (by decide) (fun c1 => ?_) (fun c1 => ?_)
      · refine m_aload_n (j := 3) C dX12_readWord_197 rfl ?_
        refine m_iload_n (j := 5) C dX12_readWord_198 rfl ?_
        refine m_put (k := 53) (z := u) C dX12_readWord_199 w6_112 (by decide) rfl rfl rfl ?_
        refine hv2 (show BX (va_up vb1 53 u) ab1 from bxb1.put (k := 53) (z := u) (show 0 ≤ u ∧ u ≤ 40200 by omega)) (fpb1.put (k := 53) (z := u) rfl) (fun bq1 fq1 => ?_)
        refine m_iload (j := 1) C dX12_readWord_202 rfl ?_
        refine m_if_eq (tgt := 212) C (r32_01 hg) dX12_readWord_204 (by decide) (fun c2 => ?_) (fun c2 => ?_)
        · clear hg
          refine m_iconst C dX12_readWord_212 ?_
          exact m_iret C dX12_readWord_213 rfl (Nat.le_of_ble_eq_true rfl) (Nat.le_of_ble_eq_true rfl) ⟨0, rfl, fq1, bq1, (by omega)⟩
        · replace hg := (hg.resolve_left c2)
          refine m_bipush (z := 9) C dX12_readWord_207 (by decide) ?_
          refine m_goto (tgt := 213) C dX12_readWord_209 (by decide) ?_
          exact m_iret C dX12_readWord_213 rfl (Nat.le_of_ble_eq_true rfl) (Nat.le_of_ble_eq_true rfl) ⟨9, rfl, fq1, bq1, (by omega)⟩
      · refine m_aload_n (j := 3) C dX12_readWord_14 rfl ?_
        refine m_iload_n (j := 2) C dX12_readWord_15 rfl ?_
        refine m_iload (j := 0) C dX12_readWord_16 rfl ?_
        refine m_iload_n (j := 5) C dX12_readWord_18 rfl ?_
        refine m_call (mc2 := 0) (ms2 := 0) (As := [.int (iI pt), .int (iI x), .int (iI u)]) (rest := []) C (M_longest (q := pt) (x := x) (u := u) bxb1.rg (by omega) ((RWS.fr hW fpb1 rfl) (pt) (by omega)).1 ((RWS.fr hW fpb1 rfl) (pt) (by omega)).2 (by omega)) dX12_readWord_19 kV_X12_342 rfl ck_13 rfl (Nat.le_of_ble_eq_true rfl) ⟨Nat.le_of_ble_eq_true rfl, Nat.le_of_ble_eq_true rfl⟩ ⟨Nat.le_of_ble_eq_true rfl, Nat.le_of_ble_eq_true rfl⟩ (fun rh1 vh1 ah1 h1 => ?_)
        obtain ⟨f1, rfl, hf1, rfl, rfl⟩ := h1
        refine hv5 (show f1 = -1 ∨ (6008 * pt ≤ f1 ∧ f1 < 6008 * pt + ab1 47 pt.toNat ∧ x + ab1 46 f1.toNat ≤ u) from hf1) (show 0 ≤ ab1 47 pt.toNat ∧ ab1 47 pt.toNat ≤ 6008 from bxb1.2 47 (pt.toNat)) (show ab1 47 (pt.toNat) = a 47 (pt.toNat) from congrFun (fpb1.2 47 rfl) (pt.toNat)) (show 0 ≤ ab1 46 f1.toNat ∧ ab1 46 f1.toNat ≤ 4 from bxb1.2 46 (f1.toNat)) (show ab1 46 (f1.toNat) = a 46 (f1.toNat) from congrFun (fpb1.2 46 rfl) (f1.toNat)) (fun gf1 ra1 ae1 ra2 ae2 => ?_)
        have kf1 : f1 = -1 ∨ ((0 ≤ f1 ∧ f1 < 12016) ∧ (-4 ≤ ab1 44 f1.toNat ∧ ab1 44 f1.toNat < 6000) ∧ (1 ≤ ab1 46 f1.toNat ∧ ab1 46 f1.toNat ≤ 4)) := by
          rcases hf1 with q9 | q9
          · exact Or.inl q9
          · have g9 := ((RWS.fr hW fpb1 rfl) (pt) (by omega)).2 f1 q9.1 q9.2.1
            exact Or.inr ⟨g9.1, g9.2.1, g9.2.2.1⟩
        refine hv2 (show (-4) ≤ ab1 44 f1.toNat ∧ ab1 44 f1.toNat ≤ 5999 from bxb1.2 44 (f1.toNat)) (show ab1 44 (f1.toNat) = a 44 (f1.toNat) from congrFun (fpb1.2 44 rfl) (f1.toNat)) (fun ra3 ae3 => ?_)
        refine m_st (st2 := [.int (iI f1)]) rfl ?_
        refine m_istore (lv2 := [(6, .int (iI f1)), (5, .int (iI x)), (4, .int (iI g)), (3, .int (iI pt)), (0, .ref h0), (1, .int (iI q)), (2, .int (iI u))]) C dX12_readWord_22 (by decide) rfl ?_
        refine m_aload_n (j := 4) C dX12_readWord_24 rfl ?_
        refine m_iload (j := 1) C dX12_readWord_25 rfl ?_
        refine m_put (k := 53) (z := x) C dX12_readWord_27 w6_112 (by decide) rfl rfl rfl ?_
        refine hv2 (show BX (va_up vb1 53 x) ab1 from bxb1.put (k := 53) (z := x) (show 0 ≤ x ∧ x ≤ 40200 by omega)) (fpb1.put (k := 53) (z := x) rfl) (fun bq2 fq2 => ?_)
        refine m_iload (j := 0) C dX12_readWord_30 rfl ?_
        refine m_if_lt (tgt := 49) C ⟨by omega, by omega⟩ dX12_readWord_32 (by decide) (fun c3 => ?_) (fun c3 => ?_)
        · refine m_bipush (z := 9) C dX12_readWord_49 (by decide) ?_
          exact m_iret C dX12_readWord_51 rfl (Nat.le_of_ble_eq_true rfl) (Nat.le_of_ble_eq_true rfl) ⟨9, rfl, fq2, bq2, (by omega)⟩
        · replace gf1 := gf1.resolve_left (fun q => by omega)
          refine m_iload (j := 2) C dX12_readWord_35 rfl ?_
          refine m_if_eq (tgt := 52) C (r32_01 hg) dX12_readWord_37 (by decide) (fun c4 => ?_) (fun c4 => ?_)
          · clear hg
            refine m_aload_n (j := 4) C dX12_readWord_52 rfl ?_
            refine m_geta (k := 44) C dX12_readWord_53 w6_103 (by decide) rfl ?_
            refine m_iload (j := 0) C dX12_readWord_56 rfl ?_
            refine m_ald (k := 44) C dX12_readWord_58 rfl rfl (by decide) (by omega) (by show _ < ((_ : Nat) : Int); simp only [mlen]; omega) (by decide) ?_
            refine m_st (st2 := [.int (iI (a 44 f1.toNat))]) (congrArg (fun z => Value.int (iI z) :: []) (congrFun (fq2.2 44 rfl) (f1.toNat))) ?_
            refine m_istore (lv2 := [(7, .int (iI (a 44 f1.toNat))), (6, .int (iI f1)), (5, .int (iI x)), (4, .int (iI g)), (3, .int (iI pt)), (0, .ref h0), (1, .int (iI q)), (2, .int (iI u))]) C dX12_readWord_59 (by decide) rfl ?_
            have J1 : ∀ (vb2 : Nat → Int) (ab2 : Nat → Nat → Int), BX vb2 ab2 → fr [52, 53] [51] v a vb2 ab2 → mw p l e (rmq 3 0 0) s m args below meth c G A 9 (MQ below (Qm G A (fun rq Lq Eq => ∃ (vq : Nat → Int) (aq : Nat → Nat → Int), mI G h0 ad ln vq aq Lq Eq ∧ (fun r v2 a2 => ∃ f : Int, r = some (.int (iI f)) ∧ fr [52, 53] [51] v a v2 a2 ∧ BX v2 a2 ∧ (f = 0 ∨ f = 6 ∨ f = 9)) rq vq aq)) args s 0 0 A) h0 ad ln vb2 ab2 0 0 127 [(7, .int (iI (a 44 f1.toNat))), (6, .int (iI f1)), (5, .int (iI x)), (4, .int (iI g)), (3, .int (iI pt)), (0, .ref h0), (1, .int (iI q)), (2, .int (iI u))] [] := by
              intro  vb2 ab2 bxb2 fpb2 
              refine m_iload (j := 0) C dX12_readWord_127 rfl ?_
              refine m_iconst C dX12_readWord_129 ?_
              have J2 : ∀ (g2 : Int) (vb3 : Nat → Int) (ab3 : Nat → Nat → Int), BX vb3 ab3 → fr [52, 53] [51] v a vb3 ab3 → (g2 = 0 ∨ g2 = 1) → mw p l e (rmq 3 0 0) s m args below meth c G A 9 (MQ below (Qm G A (fun rq Lq Eq => ∃ (vq : Nat → Int) (aq : Nat → Nat → Int), mI G h0 ad ln vq aq Lq Eq ∧ (fun r v2 a2 => ∃ f : Int, r = some (.int (iI f)) ∧ fr [52, 53] [51] v a v2 a2 ∧ BX v2 a2 ∧ (f = 0 ∨ f = 6 ∨ f = 9)) rq vq aq)) args s 0 0 A) h0 ad ln vb3 ab3 0 0 138 [(7, .int (iI (a 44 f1.toNat))), (6, .int (iI f1)), (5, .int (iI x)), (4, .int (iI g)), (3, .int (iI pt)), (0, .ref h0), (1, .int (iI q)), (2, .int (iI u))] [.int (iI g2)] := by
                intro g2 vb3 ab3 bxb3 fpb3 hg2
                refine m_istore (lv2 := [(4, .int (iI g2)), (7, .int (iI (a 44 f1.toNat))), (6, .int (iI f1)), (5, .int (iI x)), (3, .int (iI pt)), (0, .ref h0), (1, .int (iI q)), (2, .int (iI u))]) C dX12_readWord_138 (by decide) rfl ?_
                refine m_iload (j := 1) C dX12_readWord_140 rfl ?_
                refine m_bipush (z := (-3)) C dX12_readWord_142 (by decide) ?_
                refine m_icmp_eq (tgt := 154) C ⟨by omega, by omega⟩ ⟨by decide, by decide⟩ dX12_readWord_144 (by decide) (fun c5 => ?_) (fun c5 => ?_)
                · refine m_iconst C dX12_readWord_154 ?_
                  refine m_iload_n (j := 4) C dX12_readWord_155 rfl ?_
                  refine m_isub C dX12_readWord_156 ?_
                  refine m_istore_n (lv2 := [(3, .int (iI (1 - pt))), (4, .int (iI g2)), (7, .int (iI (a 44 f1.toNat))), (6, .int (iI f1)), (5, .int (iI x)), (0, .ref h0), (1, .int (iI q)), (2, .int (iI u))]) C dX12_readWord_157 (by decide) rfl ?_
                  refine m_aload_n (j := 5) C dX12_readWord_158 rfl ?_
                  refine m_iload (j := 2) C dX12_readWord_159 rfl ?_
                  refine m_bipush (z := (-3)) C dX12_readWord_161 (by decide) ?_
                  refine m_icmp_ne (tgt := 171) C ⟨by omega, by omega⟩ ⟨by decide, by decide⟩ dX12_readWord_163 (by decide) (fun z => absurd z (by omega)) (fun _ => ?_)
                  refine m_bipush (z := 60) C dX12_readWord_166 (by decide) ?_
                  refine m_goto (tgt := 173) C dX12_readWord_168 (by decide) ?_
                  refine m_call (mc2 := 0) (ms2 := 0) (As := [.int (iI 60)]) (rest := []) C (B_tell (x := 60) bxb3 (by show -2147483648 ≤ (60 : Int) ∧ (60 : Int) ≤ 2147483647; omega)) dX12_readWord_173 kV_X12_336 rfl ck_13 rfl (Nat.le_of_ble_eq_true rfl) ⟨Nat.le_of_ble_eq_true rfl, Nat.le_of_ble_eq_true rfl⟩ ⟨Nat.le_of_ble_eq_true rfl, Nat.le_of_ble_eq_true rfl⟩ (fun rh2 vh2 ah2 h2 => ?_)
                  obtain ⟨f2, rfl, fn1, bn1, ex1⟩ := h2
                  refine hv2 (fpb3.call fn1 rfl rfl) (show f2 = 0 ∨ f2 = 1 from ex1) (fun fq3 gf2 => ?_)
                  refine m_st (st2 := [.int (iI f2)]) rfl ?_
                  refine m_if_ne (tgt := 182) C (r32_01 gf2) dX12_readWord_176 (by decide) (fun c6 => ?_) (fun c6 => ?_)
                  · replace gf2 := (gf2.resolve_left c6)
                    refine m_iload (j := 4) C dX12_readWord_182 rfl ?_
                    refine m_aload_n (j := 5) C dX12_readWord_184 rfl ?_
                    refine m_geta (k := 46) C dX12_readWord_185 w6_105 (by decide) rfl ?_
                    refine m_iload (j := 3) C dX12_readWord_188 rfl ?_
                    refine m_ald (k := 46) C dX12_readWord_190 rfl rfl (by decide) (by omega) (by show _ < ((_ : Nat) : Int); simp only [mlen]; omega) (by decide) ?_
                    refine hv3 (show 0 ≤ ah2 46 f1.toNat ∧ ah2 46 f1.toNat ≤ 4 from bn1.2 46 (f1.toNat)) (show ah2 46 (f1.toNat) = ab3 46 (f1.toNat) from congrFun (fn1.2 46 rfl) (f1.toNat)) (show ab3 46 (f1.toNat) = a 46 (f1.toNat) from congrFun (fpb3.2 46 rfl) (f1.toNat)) (fun ra4 ae4 ae5 => ?_)
                    refine m_st (st2 := [.int (iI (a 46 f1.toNat)), .int (iI x)]) (congrArg (fun z => Value.int (iI z) :: [.int (iI x)]) (congrFun (fq3.2 46 rfl) (f1.toNat))) ?_
                    refine m_iadd C dX12_readWord_191 ?_
                    refine m_istore (lv2 := [(5, .int (iI (x + (a 46 f1.toNat)))), (3, .int (iI (1 - pt))), (4, .int (iI g2)), (7, .int (iI (a 44 f1.toNat))), (6, .int (iI f1)), (0, .ref h0), (1, .int (iI q)), (2, .int (iI u))]) C dX12_readWord_192 (by decide) rfl ?_
                    refine m_goto (tgt := 8) C dX12_readWord_194 (by decide) ?_
                    refine m_lv (lv2 := [(5, .int (iI (x + (a 46 f1.toNat)))), (4, .int (iI g2)), (3, .int (iI (1 - pt))), (0, .ref h0), (1, .int (iI q)), (2, .int (iI u))]) [0, 2, 1, 5, 6, 7] rfl ?_
                    exact ih1  (1 - pt) g2 (x + (a 46 f1.toNat)) _ _ (by omega) bn1 fq3 (by omega) (by omega) (by omega)
                  · clear gf2
                    refine m_bipush (z := 6) C dX12_readWord_179 (by decide) ?_
                    exact m_iret C dX12_readWord_181 rfl (Nat.le_of_ble_eq_true rfl) (Nat.le_of_ble_eq_true rfl) ⟨6, rfl, fq3, bn1, (by omega)⟩
                · refine m_iload (j := 1) C dX12_readWord_147 rfl ?_
                  refine m_bipush (z := (-4)) C dX12_readWord_149 (by decide) ?_
                  refine m_icmp_ne (tgt := 182) C ⟨by omega, by omega⟩ ⟨by decide, by decide⟩ dX12_readWord_151 (by decide) (fun c7 => ?_) (fun c7 => ?_)
                  · refine m_iload (j := 3) C dX12_readWord_182 rfl ?_
                    refine m_aload_n (j := 5) C dX12_readWord_184 rfl ?_
                    refine m_geta (k := 46) C dX12_readWord_185 w6_105 (by decide) rfl ?_
                    refine m_iload (j := 2) C dX12_readWord_188 rfl ?_
                    refine m_ald (k := 46) C dX12_readWord_190 rfl rfl (by decide) (by omega) (by show _ < ((_ : Nat) : Int); simp only [mlen]; omega) (by decide) ?_
                    refine hv2 (show 0 ≤ ab3 46 f1.toNat ∧ ab3 46 f1.toNat ≤ 4 from bxb3.2 46 (f1.toNat)) (show ab3 46 (f1.toNat) = a 46 (f1.toNat) from congrFun (fpb3.2 46 rfl) (f1.toNat)) (fun ra5 ae6 => ?_)
                    refine m_st (st2 := [.int (iI (a 46 f1.toNat)), .int (iI x)]) (congrArg (fun z => Value.int (iI z) :: [.int (iI x)]) (congrFun (fpb3.2 46 rfl) (f1.toNat))) ?_
                    refine m_iadd C dX12_readWord_191 ?_
                    refine m_istore (lv2 := [(5, .int (iI (x + (a 46 f1.toNat)))), (4, .int (iI g2)), (7, .int (iI (a 44 f1.toNat))), (6, .int (iI f1)), (3, .int (iI pt)), (0, .ref h0), (1, .int (iI q)), (2, .int (iI u))]) C dX12_readWord_192 (by decide) rfl ?_
                    refine m_goto (tgt := 8) C dX12_readWord_194 (by decide) ?_
                    refine m_lv (lv2 := [(5, .int (iI (x + (a 46 f1.toNat)))), (4, .int (iI g2)), (3, .int (iI pt)), (0, .ref h0), (1, .int (iI q)), (2, .int (iI u))]) [0, 1, 4, 5, 6, 7] rfl ?_
                    exact ih1  pt g2 (x + (a 46 f1.toNat)) _ _ (by omega) bxb3 fpb3 (by omega) (by omega) (by omega)
                  · refine m_iconst C dX12_readWord_154 ?_
                    refine m_iload_n (j := 4) C dX12_readWord_155 rfl ?_
                    refine m_isub C dX12_readWord_156 ?_
                    refine m_istore_n (lv2 := [(3, .int (iI (1 - pt))), (4, .int (iI g2)), (7, .int (iI (a 44 f1.toNat))), (6, .int (iI f1)), (5, .int (iI x)), (0, .ref h0), (1, .int (iI q)), (2, .int (iI u))]) C dX12_readWord_157 (by decide) rfl ?_
                    refine m_aload_n (j := 5) C dX12_readWord_158 rfl ?_
                    refine m_iload (j := 2) C dX12_readWord_159 rfl ?_
                    refine m_bipush (z := (-3)) C dX12_readWord_161 (by decide) ?_
                    refine m_icmp_ne (tgt := 171) C ⟨by omega, by omega⟩ ⟨by decide, by decide⟩ dX12_readWord_163 (by decide) (fun _ => ?_) (fun z => absurd z (by omega))
                    refine m_bipush (z := 62) C dX12_readWord_171 (by decide) ?_
                    refine m_call (mc2 := 0) (ms2 := 0) (As := [.int (iI 62)]) (rest := []) C (B_tell (x := 62) bxb3 (by show -2147483648 ≤ (62 : Int) ∧ (62 : Int) ≤ 2147483647; omega)) dX12_readWord_173 kV_X12_336 rfl ck_13 rfl (Nat.le_of_ble_eq_true rfl) ⟨Nat.le_of_ble_eq_true rfl, Nat.le_of_ble_eq_true rfl⟩ ⟨Nat.le_of_ble_eq_true rfl, Nat.le_of_ble_eq_true rfl⟩ (fun rh3 vh3 ah3 h3 => ?_)
                    obtain ⟨f3, rfl, fn2, bn2, ex2⟩ := h3
                    refine hv2 (fpb3.call fn2 rfl rfl) (show f3 = 0 ∨ f3 = 1 from ex2) (fun fq4 gf3 => ?_)
                    refine m_st (st2 := [.int (iI f3)]) rfl ?_
                    refine m_if_ne (tgt := 182) C (r32_01 gf3) dX12_readWord_176 (by decide) (fun c8 => ?_) (fun c8 => ?_)
                    · replace gf3 := (gf3.resolve_left c8)
                      refine m_iload (j := 4) C dX12_readWord_182 rfl ?_
                      refine m_aload_n (j := 5) C dX12_readWord_184 rfl ?_
                      refine m_geta (k := 46) C dX12_readWord_185 w6_105 (by decide) rfl ?_
                      refine m_iload (j := 3) C dX12_readWord_188 rfl ?_
                      refine m_ald (k := 46) C dX12_readWord_190 rfl rfl (by decide) (by omega) (by show _ < ((_ : Nat) : Int); simp only [mlen]; omega) (by decide) ?_
                      refine hv3 (show 0 ≤ ah3 46 f1.toNat ∧ ah3 46 f1.toNat ≤ 4 from bn2.2 46 (f1.toNat)) (show ah3 46 (f1.toNat) = ab3 46 (f1.toNat) from congrFun (fn2.2 46 rfl) (f1.toNat)) (show ab3 46 (f1.toNat) = a 46 (f1.toNat) from congrFun (fpb3.2 46 rfl) (f1.toNat)) (fun ra6 ae7 ae8 => ?_)
                      refine m_st (st2 := [.int (iI (a 46 f1.toNat)), .int (iI x)]) (congrArg (fun z => Value.int (iI z) :: [.int (iI x)]) (congrFun (fq4.2 46 rfl) (f1.toNat))) ?_
                      refine m_iadd C dX12_readWord_191 ?_
                      refine m_istore (lv2 := [(5, .int (iI (x + (a 46 f1.toNat)))), (3, .int (iI (1 - pt))), (4, .int (iI g2)), (7, .int (iI (a 44 f1.toNat))), (6, .int (iI f1)), (0, .ref h0), (1, .int (iI q)), (2, .int (iI u))]) C dX12_readWord_192 (by decide) rfl ?_
                      refine m_goto (tgt := 8) C dX12_readWord_194 (by decide) ?_
                      refine m_lv (lv2 := [(5, .int (iI (x + (a 46 f1.toNat)))), (4, .int (iI g2)), (3, .int (iI (1 - pt))), (0, .ref h0), (1, .int (iI q)), (2, .int (iI u))]) [0, 2, 1, 5, 6, 7] rfl ?_
                      exact ih1  (1 - pt) g2 (x + (a 46 f1.toNat)) _ _ (by omega) bn2 fq4 (by omega) (by omega) (by omega)
                    · clear gf3
                      refine m_bipush (z := 6) C dX12_readWord_179 (by decide) ?_
                      exact m_iret C dX12_readWord_181 rfl (Nat.le_of_ble_eq_true rfl) (Nat.le_of_ble_eq_true rfl) ⟨6, rfl, fq4, bn2, (by omega)⟩
              refine m_icmp_ne (tgt := 137) C ⟨by omega, by omega⟩ ⟨by decide, by decide⟩ dX12_readWord_130 (by decide) (fun c9 => ?_) (fun c9 => ?_)
              · refine m_iconst C dX12_readWord_137 ?_
                refine m_lv (lv2 := [(7, .int (iI (a 44 f1.toNat))), (6, .int (iI f1)), (5, .int (iI x)), (4, .int (iI g)), (3, .int (iI pt)), (0, .ref h0), (1, .int (iI q)), (2, .int (iI u))]) [0, 1, 2, 3, 4, 5, 6, 7] rfl ?_
                exact J2  0 _ _  bxb2 fpb2 (by omega)
              · refine m_iconst C dX12_readWord_133 ?_
                refine m_goto (tgt := 138) C dX12_readWord_134 (by decide) ?_
                refine m_lv (lv2 := [(7, .int (iI (a 44 f1.toNat))), (6, .int (iI f1)), (5, .int (iI x)), (4, .int (iI g)), (3, .int (iI pt)), (0, .ref h0), (1, .int (iI q)), (2, .int (iI u))]) [0, 1, 2, 3, 4, 5, 6, 7] rfl ?_
                exact J2  1 _ _  bxb2 fpb2 (by omega)
            refine m_iload (j := 0) C dX12_readWord_61 rfl ?_
            refine m_if_lt (tgt := 127) C ⟨by omega, by omega⟩ dX12_readWord_63 (by decide) (fun c10 => ?_) (fun c10 => ?_)
            · refine m_lv (lv2 := [(7, .int (iI (a 44 f1.toNat))), (6, .int (iI f1)), (5, .int (iI x)), (4, .int (iI g)), (3, .int (iI pt)), (0, .ref h0), (1, .int (iI q)), (2, .int (iI u))]) [0, 1, 2, 3, 4, 5, 6, 7] rfl ?_
              exact J1   _ _  bq2 fq2 
            · refine m_iconst C dX12_readWord_66 ?_
              refine m_istore (lv2 := [(8, .int (iI 0)), (7, .int (iI (a 44 f1.toNat))), (6, .int (iI f1)), (5, .int (iI x)), (4, .int (iI g)), (3, .int (iI pt)), (0, .ref h0), (1, .int (iI q)), (2, .int (iI u))]) C dX12_readWord_67 (by decide) rfl ?_
              have Lp2 : ∀ (nn : Nat) (k : Int) (vb4 : Nat → Int) (ab4 : Nat → Nat → Int), 9 - k < (nn : Int) → BX vb4 ab4 → fr [52, 53] [51] v a vb4 ab4 → (0 ≤ k ∧ k ≤ 8) → mw p l e (rmq 3 0 0) s m args below meth c G A 9 (MQ below (Qm G A (fun rq Lq Eq => ∃ (vq : Nat → Int) (aq : Nat → Nat → Int), mI G h0 ad ln vq aq Lq Eq ∧ (fun r v2 a2 => ∃ f : Int, r = some (.int (iI f)) ∧ fr [52, 53] [51] v a v2 a2 ∧ BX v2 a2 ∧ (f = 0 ∨ f = 6 ∨ f = 9)) rq vq aq)) args s 0 0 A) h0 ad ln vb4 ab4 0 0 69 [(8, .int (iI k)), (7, .int (iI (a 44 f1.toNat))), (6, .int (iI f1)), (5, .int (iI x)), (4, .int (iI g)), (3, .int (iI pt)), (0, .ref h0), (1, .int (iI q)), (2, .int (iI u))] [] := by
                intro nn
                induction nn with
                | zero =>
                  intro k vb4 ab4 hm bxb4 fpb4 hk
                  exact absurd hm (by omega)
                | succ nn ih2 =>
                  intro k vb4 ab4 hm bxb4 fpb4 hk
                  refine m_iload (j := 0) C dX12_readWord_69 rfl ?_
                  refine m_aload_n (j := 6) C dX12_readWord_71 rfl ?_
                  refine m_geta (k := 12) C dX12_readWord_72 w6_71 (by decide) rfl ?_
                  refine m_iload (j := 1) C dX12_readWord_75 rfl ?_
                  refine m_ald (k := 12) C dX12_readWord_77 rfl rfl (by decide) (by omega) (by show _ < ((_ : Nat) : Int); simp only [mlen]; omega) (by decide) ?_
                  refine hv2 (show 0 ≤ ab4 12 (a 44 f1.toNat).toNat ∧ ab4 12 (a 44 f1.toNat).toNat ≤ 8 from bxb4.2 12 ((a 44 f1.toNat).toNat)) (show ab4 12 ((a 44 f1.toNat).toNat) = a 12 ((a 44 f1.toNat).toNat) from congrFun (fpb4.2 12 rfl) ((a 44 f1.toNat).toNat)) (fun ra7 ae9 => ?_)
                  refine m_st (st2 := [.int (iI (a 12 (a 44 f1.toNat).toNat)), .int (iI k)]) (congrArg (fun z => Value.int (iI z) :: [.int (iI k)]) (congrFun (fpb4.2 12 rfl) ((a 44 f1.toNat).toNat))) ?_
                  refine m_icmp_ge (tgt := 127) C (r32_c (lo := 0) (hi := 8) hk.1 hk.2 (by decide) (by decide)) ⟨by omega, by omega⟩ dX12_readWord_78 (by decide) (fun c11 => ?_) (fun c11 => ?_)
                  · refine m_lv (lv2 := [(7, .int (iI (a 44 f1.toNat))), (6, .int (iI f1)), (5, .int (iI x)), (4, .int (iI g)), (3, .int (iI pt)), (0, .ref h0), (1, .int (iI q)), (2, .int (iI u))]) [1, 2, 3, 4, 5, 6, 7, 8] rfl ?_
                    exact J1   _ _  bxb4 fpb4 
                  · refine m_aload_n (j := 6) C dX12_readWord_81 rfl ?_
                    refine m_aload_n (j := 6) C dX12_readWord_82 rfl ?_
                    refine m_geta (k := 14) C dX12_readWord_83 w6_73 (by decide) rfl ?_
                    refine m_bipush (z := 8) C dX12_readWord_86 (by decide) ?_
                    refine m_iload (j := 1) C dX12_readWord_88 rfl ?_
                    refine m_imul C dX12_readWord_90 ?_
                    refine m_iload (j := 0) C dX12_readWord_91 rfl ?_
                    refine m_iadd C dX12_readWord_93 ?_
                    refine m_ald (k := 14) C dX12_readWord_94 rfl rfl (by decide) (by omega) (by show _ < ((_ : Nat) : Int); simp only [mlen]; omega) (by decide) ?_
                    refine hv2 (show 0 ≤ ab4 14 ((8 * (a 44 f1.toNat)) + k).toNat ∧ ab4 14 ((8 * (a 44 f1.toNat)) + k).toNat ≤ 125 from bxb4.2 14 (((8 * (a 44 f1.toNat)) + k).toNat)) (show ab4 14 (((8 * (a 44 f1.toNat)) + k).toNat) = a 14 (((8 * (a 44 f1.toNat)) + k).toNat) from congrFun (fpb4.2 14 rfl) (((8 * (a 44 f1.toNat)) + k).toNat)) (fun ra8 ae10 => ?_)
                    refine m_st (st2 := [.int (iI (a 14 ((8 * (a 44 f1.toNat)) + k).toNat)), .ref h0]) (congrArg (fun z => Value.int (iI z) :: [.ref h0]) (congrFun (fpb4.2 14 rfl) (((8 * (a 44 f1.toNat)) + k).toNat))) ?_
                    refine m_iload (j := 4) C dX12_readWord_95 rfl ?_
                    refine m_if_eq (tgt := 110) C ⟨by omega, by omega⟩ dX12_readWord_97 (by decide) (fun _ => ?_) (fun z => absurd z (by omega))
                    refine m_iconst C dX12_readWord_110 ?_
                    refine m_isub C dX12_readWord_111 ?_
                    refine m_call (mc2 := 0) (ms2 := 0) (As := [.int (iI ((a 14 ((8 * (a 44 f1.toNat)) + k).toNat) - 0))]) (rest := []) C (B_tell (x := (a 14 ((8 * (a 44 f1.toNat)) + k).toNat) - 0) bxb4 (by show -2147483648 ≤ ((a 14 ((8 * (a 44 f1.toNat)) + k).toNat) - 0) ∧ ((a 14 ((8 * (a 44 f1.toNat)) + k).toNat) - 0) ≤ 2147483647; omega)) dX12_readWord_112 kV_X12_336 rfl ck_13 rfl (Nat.le_of_ble_eq_true rfl) ⟨Nat.le_of_ble_eq_true rfl, Nat.le_of_ble_eq_true rfl⟩ ⟨Nat.le_of_ble_eq_true rfl, Nat.le_of_ble_eq_true rfl⟩ (fun rh4 vh4 ah4 h4 => ?_)
                    obtain ⟨f4, rfl, fn3, bn3, ex3⟩ := h4
                    refine hv2 (fpb4.call fn3 rfl rfl) (show f4 = 0 ∨ f4 = 1 from ex3) (fun fq5 gf4 => ?_)
                    refine m_st (st2 := [.int (iI f4)]) rfl ?_
                    refine m_if_ne (tgt := 121) C (r32_01 gf4) dX12_readWord_115 (by decide) (fun c12 => ?_) (fun c12 => ?_)
                    · replace gf4 := (gf4.resolve_left c12)
                      refine m_iinc (z := k) (j := 0) (lv2 := [(8, .int (iI (k + 1))), (7, .int (iI (a 44 f1.toNat))), (6, .int (iI f1)), (5, .int (iI x)), (4, .int (iI g)), (3, .int (iI pt)), (0, .ref h0), (1, .int (iI q)), (2, .int (iI u))]) C dX12_readWord_121 rfl (by decide) rfl ?_
                      refine m_goto (tgt := 69) C dX12_readWord_124 (by decide) ?_
                      refine m_lv (lv2 := [(8, .int (iI (k + 1))), (7, .int (iI (a 44 f1.toNat))), (6, .int (iI f1)), (5, .int (iI x)), (4, .int (iI g)), (3, .int (iI pt)), (0, .ref h0), (1, .int (iI q)), (2, .int (iI u))]) [0, 1, 2, 3, 4, 5, 6, 7, 8] rfl ?_
                      exact ih2  (k + 1) _ _ (by omega) bn3 fq5 (by omega)
                    · clear gf4
                      refine m_bipush (z := 6) C dX12_readWord_118 (by decide) ?_
                      exact m_iret C dX12_readWord_120 rfl (Nat.le_of_ble_eq_true rfl) (Nat.le_of_ble_eq_true rfl) ⟨6, rfl, fq5, bn3, (by omega)⟩
              refine m_lv (lv2 := [(8, .int (iI 0)), (7, .int (iI (a 44 f1.toNat))), (6, .int (iI f1)), (5, .int (iI x)), (4, .int (iI g)), (3, .int (iI pt)), (0, .ref h0), (1, .int (iI q)), (2, .int (iI u))]) [0, 1, 2, 3, 4, 5, 6, 7, 8] rfl ?_
              exact Lp2 10 0 _ _ (by omega) bq2 fq2 (by omega)
          · replace hg := (hg.resolve_left c4)
            refine m_aload_n (j := 4) C dX12_readWord_40 rfl ?_
            refine m_iload (j := 0) C dX12_readWord_41 rfl ?_
            refine m_call (mc2 := 0) (ms2 := 0) (As := [.int (iI f1)]) (rest := []) C (M_isSmallRule (r := f1) bq2.rg (by omega) (by show ab1 44 f1.toNat < 6000; omega)) dX12_readWord_43 kV_X12_348 rfl ck_13 rfl (Nat.le_of_ble_eq_true rfl) ⟨Nat.le_of_ble_eq_true rfl, Nat.le_of_ble_eq_true rfl⟩ ⟨Nat.le_of_ble_eq_true rfl, Nat.le_of_ble_eq_true rfl⟩ (fun rh5 vh5 ah5 h5 => ?_)
            obtain ⟨f5, rfl, hf5, rfl, rfl⟩ := h5
            have gf5 : f5 = 0 ∨ f5 = 1 := hf5
            refine m_st (st2 := [.int (iI f5)]) rfl ?_
            refine m_if_ne (tgt := 52) C (r32_01 gf5) dX12_readWord_46 (by decide) (fun c13 => ?_) (fun c13 => ?_)
            · replace gf5 := (gf5.resolve_left c13)
              refine m_aload_n (j := 4) C dX12_readWord_52 rfl ?_
              refine m_geta (k := 44) C dX12_readWord_53 w6_103 (by decide) rfl ?_
              refine m_iload (j := 0) C dX12_readWord_56 rfl ?_
              refine m_ald (k := 44) C dX12_readWord_58 rfl rfl (by decide) (by omega) (by show _ < ((_ : Nat) : Int); simp only [mlen]; omega) (by decide) ?_
              refine m_st (st2 := [.int (iI (a 44 f1.toNat))]) (congrArg (fun z => Value.int (iI z) :: []) (congrFun (fq2.2 44 rfl) (f1.toNat))) ?_
              refine m_istore (lv2 := [(7, .int (iI (a 44 f1.toNat))), (6, .int (iI f1)), (5, .int (iI x)), (4, .int (iI g)), (3, .int (iI pt)), (0, .ref h0), (1, .int (iI q)), (2, .int (iI u))]) C dX12_readWord_59 (by decide) rfl ?_
              have J3 : ∀ (vb5 : Nat → Int) (ab5 : Nat → Nat → Int), BX vb5 ab5 → fr [52, 53] [51] v a vb5 ab5 → mw p l e (rmq 3 0 0) s m args below meth c G A 9 (MQ below (Qm G A (fun rq Lq Eq => ∃ (vq : Nat → Int) (aq : Nat → Nat → Int), mI G h0 ad ln vq aq Lq Eq ∧ (fun r v2 a2 => ∃ f : Int, r = some (.int (iI f)) ∧ fr [52, 53] [51] v a v2 a2 ∧ BX v2 a2 ∧ (f = 0 ∨ f = 6 ∨ f = 9)) rq vq aq)) args s 0 0 A) h0 ad ln vb5 ab5 0 0 127 [(7, .int (iI (a 44 f1.toNat))), (6, .int (iI f1)), (5, .int (iI x)), (4, .int (iI g)), (3, .int (iI pt)), (0, .ref h0), (1, .int (iI q)), (2, .int (iI u))] [] := by
                intro  vb5 ab5 bxb5 fpb5 
                refine m_iload (j := 0) C dX12_readWord_127 rfl ?_
                refine m_iconst C dX12_readWord_129 ?_
                have J4 : ∀ (g2 : Int) (vb6 : Nat → Int) (ab6 : Nat → Nat → Int), BX vb6 ab6 → fr [52, 53] [51] v a vb6 ab6 → (g2 = 0 ∨ g2 = 1) → mw p l e (rmq 3 0 0) s m args below meth c G A 9 (MQ below (Qm G A (fun rq Lq Eq => ∃ (vq : Nat → Int) (aq : Nat → Nat → Int), mI G h0 ad ln vq aq Lq Eq ∧ (fun r v2 a2 => ∃ f : Int, r = some (.int (iI f)) ∧ fr [52, 53] [51] v a v2 a2 ∧ BX v2 a2 ∧ (f = 0 ∨ f = 6 ∨ f = 9)) rq vq aq)) args s 0 0 A) h0 ad ln vb6 ab6 0 0 138 [(7, .int (iI (a 44 f1.toNat))), (6, .int (iI f1)), (5, .int (iI x)), (4, .int (iI g)), (3, .int (iI pt)), (0, .ref h0), (1, .int (iI q)), (2, .int (iI u))] [.int (iI g2)] := by
                  intro g2 vb6 ab6 bxb6 fpb6 hg2
                  refine m_istore (lv2 := [(4, .int (iI g2)), (7, .int (iI (a 44 f1.toNat))), (6, .int (iI f1)), (5, .int (iI x)), (3, .int (iI pt)), (0, .ref h0), (1, .int (iI q)), (2, .int (iI u))]) C dX12_readWord_138 (by decide) rfl ?_
                  refine m_iload (j := 1) C dX12_readWord_140 rfl ?_
                  refine m_bipush (z := (-3)) C dX12_readWord_142 (by decide) ?_
                  refine m_icmp_eq (tgt := 154) C ⟨by omega, by omega⟩ ⟨by decide, by decide⟩ dX12_readWord_144 (by decide) (fun c14 => ?_) (fun c14 => ?_)
                  · refine m_iconst C dX12_readWord_154 ?_
                    refine m_iload_n (j := 4) C dX12_readWord_155 rfl ?_
                    refine m_isub C dX12_readWord_156 ?_
                    refine m_istore_n (lv2 := [(3, .int (iI (1 - pt))), (4, .int (iI g2)), (7, .int (iI (a 44 f1.toNat))), (6, .int (iI f1)), (5, .int (iI x)), (0, .ref h0), (1, .int (iI q)), (2, .int (iI u))]) C dX12_readWord_157 (by decide) rfl ?_
                    refine m_aload_n (j := 5) C dX12_readWord_158 rfl ?_
                    refine m_iload (j := 2) C dX12_readWord_159 rfl ?_
                    refine m_bipush (z := (-3)) C dX12_readWord_161 (by decide) ?_
                    refine m_icmp_ne (tgt := 171) C ⟨by omega, by omega⟩ ⟨by decide, by decide⟩ dX12_readWord_163 (by decide) (fun z => absurd z (by omega)) (fun _ => ?_)
                    refine m_bipush (z := 60) C dX12_readWord_166 (by decide) ?_
                    refine m_goto (tgt := 173) C dX12_readWord_168 (by decide) ?_
                    refine m_call (mc2 := 0) (ms2 := 0) (As := [.int (iI 60)]) (rest := []) C (B_tell (x := 60) bxb6 (by show -2147483648 ≤ (60 : Int) ∧ (60 : Int) ≤ 2147483647; omega)) dX12_readWord_173 kV_X12_336 rfl ck_13 rfl (Nat.le_of_ble_eq_true rfl) ⟨Nat.le_of_ble_eq_true rfl, Nat.le_of_ble_eq_true rfl⟩ ⟨Nat.le_of_ble_eq_true rfl, Nat.le_of_ble_eq_true rfl⟩ (fun rh6 vh6 ah6 h6 => ?_)
                    obtain ⟨f6, rfl, fn4, bn4, ex4⟩ := h6
                    refine hv2 (fpb6.call fn4 rfl rfl) (show f6 = 0 ∨ f6 = 1 from ex4) (fun fq6 gf6 => ?_)
                    refine m_st (st2 := [.int (iI f6)]) rfl ?_
                    refine m_if_ne (tgt := 182) C (r32_01 gf6) dX12_readWord_176 (by decide) (fun c15 => ?_) (fun c15 => ?_)
                    · replace gf6 := (gf6.resolve_left c15)
                      refine m_iload (j := 4) C dX12_readWord_182 rfl ?_
                      refine m_aload_n (j := 5) C dX12_readWord_184 rfl ?_
                      refine m_geta (k := 46) C dX12_readWord_185 w6_105 (by decide) rfl ?_
                      refine m_iload (j := 3) C dX12_readWord_188 rfl ?_
                      refine m_ald (k := 46) C dX12_readWord_190 rfl rfl (by decide) (by omega) (by show _ < ((_ : Nat) : Int); simp only [mlen]; omega) (by decide) ?_
                      refine hv3 (show 0 ≤ ah6 46 f1.toNat ∧ ah6 46 f1.toNat ≤ 4 from bn4.2 46 (f1.toNat)) (show ah6 46 (f1.toNat) = ab6 46 (f1.toNat) from congrFun (fn4.2 46 rfl) (f1.toNat)) (show ab6 46 (f1.toNat) = a 46 (f1.toNat) from congrFun (fpb6.2 46 rfl) (f1.toNat)) (fun ra9 ae11 ae12 => ?_)
                      refine m_st (st2 := [.int (iI (a 46 f1.toNat)), .int (iI x)]) (congrArg (fun z => Value.int (iI z) :: [.int (iI x)]) (congrFun (fq6.2 46 rfl) (f1.toNat))) ?_
                      refine m_iadd C dX12_readWord_191 ?_
                      refine m_istore (lv2 := [(5, .int (iI (x + (a 46 f1.toNat)))), (3, .int (iI (1 - pt))), (4, .int (iI g2)), (7, .int (iI (a 44 f1.toNat))), (6, .int (iI f1)), (0, .ref h0), (1, .int (iI q)), (2, .int (iI u))]) C dX12_readWord_192 (by decide) rfl ?_
                      refine m_goto (tgt := 8) C dX12_readWord_194 (by decide) ?_
                      refine m_lv (lv2 := [(5, .int (iI (x + (a 46 f1.toNat)))), (4, .int (iI g2)), (3, .int (iI (1 - pt))), (0, .ref h0), (1, .int (iI q)), (2, .int (iI u))]) [0, 2, 1, 5, 6, 7] rfl ?_
                      exact ih1  (1 - pt) g2 (x + (a 46 f1.toNat)) _ _ (by omega) bn4 fq6 (by omega) (by omega) (by omega)
                    · clear gf6
                      refine m_bipush (z := 6) C dX12_readWord_179 (by decide) ?_
                      exact m_iret C dX12_readWord_181 rfl (Nat.le_of_ble_eq_true rfl) (Nat.le_of_ble_eq_true rfl) ⟨6, rfl, fq6, bn4, (by omega)⟩
                  · refine m_iload (j := 1) C dX12_readWord_147 rfl ?_
                    refine m_bipush (z := (-4)) C dX12_readWord_149 (by decide) ?_
                    refine m_icmp_ne (tgt := 182) C ⟨by omega, by omega⟩ ⟨by decide, by decide⟩ dX12_readWord_151 (by decide) (fun c16 => ?_) (fun c16 => ?_)
                    · refine m_iload (j := 3) C dX12_readWord_182 rfl ?_
                      refine m_aload_n (j := 5) C dX12_readWord_184 rfl ?_
                      refine m_geta (k := 46) C dX12_readWord_185 w6_105 (by decide) rfl ?_
                      refine m_iload (j := 2) C dX12_readWord_188 rfl ?_
                      refine m_ald (k := 46) C dX12_readWord_190 rfl rfl (by decide) (by omega) (by show _ < ((_ : Nat) : Int); simp only [mlen]; omega) (by decide) ?_
                      refine hv2 (show 0 ≤ ab6 46 f1.toNat ∧ ab6 46 f1.toNat ≤ 4 from bxb6.2 46 (f1.toNat)) (show ab6 46 (f1.toNat) = a 46 (f1.toNat) from congrFun (fpb6.2 46 rfl) (f1.toNat)) (fun ra10 ae13 => ?_)
                      refine m_st (st2 := [.int (iI (a 46 f1.toNat)), .int (iI x)]) (congrArg (fun z => Value.int (iI z) :: [.int (iI x)]) (congrFun (fpb6.2 46 rfl) (f1.toNat))) ?_
                      refine m_iadd C dX12_readWord_191 ?_
                      refine m_istore (lv2 := [(5, .int (iI (x + (a 46 f1.toNat)))), (4, .int (iI g2)), (7, .int (iI (a 44 f1.toNat))), (6, .int (iI f1)), (3, .int (iI pt)), (0, .ref h0), (1, .int (iI q)), (2, .int (iI u))]) C dX12_readWord_192 (by decide) rfl ?_
                      refine m_goto (tgt := 8) C dX12_readWord_194 (by decide) ?_
                      refine m_lv (lv2 := [(5, .int (iI (x + (a 46 f1.toNat)))), (4, .int (iI g2)), (3, .int (iI pt)), (0, .ref h0), (1, .int (iI q)), (2, .int (iI u))]) [0, 1, 4, 5, 6, 7] rfl ?_
                      exact ih1  pt g2 (x + (a 46 f1.toNat)) _ _ (by omega) bxb6 fpb6 (by omega) (by omega) (by omega)
                    · refine m_iconst C dX12_readWord_154 ?_
                      refine m_iload_n (j := 4) C dX12_readWord_155 rfl ?_
                      refine m_isub C dX12_readWord_156 ?_
                      refine m_istore_n (lv2 := [(3, .int (iI (1 - pt))), (4, .int (iI g2)), (7, .int (iI (a 44 f1.toNat))), (6, .int (iI f1)), (5, .int (iI x)), (0, .ref h0), (1, .int (iI q)), (2, .int (iI u))]) C dX12_readWord_157 (by decide) rfl ?_
                      refine m_aload_n (j := 5) C dX12_readWord_158 rfl ?_
                      refine m_iload (j := 2) C dX12_readWord_159 rfl ?_
                      refine m_bipush (z := (-3)) C dX12_readWord_161 (by decide) ?_
                      refine m_icmp_ne (tgt := 171) C ⟨by omega, by omega⟩ ⟨by decide, by decide⟩ dX12_readWord_163 (by decide) (fun _ => ?_) (fun z => absurd z (by omega))
                      refine m_bipush (z := 62) C dX12_readWord_171 (by decide) ?_
                      refine m_call (mc2 := 0) (ms2 := 0) (As := [.int (iI 62)]) (rest := []) C (B_tell (x := 62) bxb6 (by show -2147483648 ≤ (62 : Int) ∧ (62 : Int) ≤ 2147483647; omega)) dX12_readWord_173 kV_X12_336 rfl ck_13 rfl (Nat.le_of_ble_eq_true rfl) ⟨Nat.le_of_ble_eq_true rfl, Nat.le_of_ble_eq_true rfl⟩ ⟨Nat.le_of_ble_eq_true rfl, Nat.le_of_ble_eq_true rfl⟩ (fun rh7 vh7 ah7 h7 => ?_)
                      obtain ⟨f7, rfl, fn5, bn5, ex5⟩ := h7
                      refine hv2 (fpb6.call fn5 rfl rfl) (show f7 = 0 ∨ f7 = 1 from ex5) (fun fq7 gf7 => ?_)
                      refine m_st (st2 := [.int (iI f7)]) rfl ?_
                      refine m_if_ne (tgt := 182) C (r32_01 gf7) dX12_readWord_176 (by decide) (fun c17 => ?_) (fun c17 => ?_)
                      · replace gf7 := (gf7.resolve_left c17)
                        refine m_iload (j := 4) C dX12_readWord_182 rfl ?_
                        refine m_aload_n (j := 5) C dX12_readWord_184 rfl ?_
                        refine m_geta (k := 46) C dX12_readWord_185 w6_105 (by decide) rfl ?_
                        refine m_iload (j := 3) C dX12_readWord_188 rfl ?_
                        refine m_ald (k := 46) C dX12_readWord_190 rfl rfl (by decide) (by omega) (by show _ < ((_ : Nat) : Int); simp only [mlen]; omega) (by decide) ?_
                        refine hv3 (show 0 ≤ ah7 46 f1.toNat ∧ ah7 46 f1.toNat ≤ 4 from bn5.2 46 (f1.toNat)) (show ah7 46 (f1.toNat) = ab6 46 (f1.toNat) from congrFun (fn5.2 46 rfl) (f1.toNat)) (show ab6 46 (f1.toNat) = a 46 (f1.toNat) from congrFun (fpb6.2 46 rfl) (f1.toNat)) (fun ra11 ae14 ae15 => ?_)
                        refine m_st (st2 := [.int (iI (a 46 f1.toNat)), .int (iI x)]) (congrArg (fun z => Value.int (iI z) :: [.int (iI x)]) (congrFun (fq7.2 46 rfl) (f1.toNat))) ?_
                        refine m_iadd C dX12_readWord_191 ?_
                        refine m_istore (lv2 := [(5, .int (iI (x + (a 46 f1.toNat)))), (3, .int (iI (1 - pt))), (4, .int (iI g2)), (7, .int (iI (a 44 f1.toNat))), (6, .int (iI f1)), (0, .ref h0), (1, .int (iI q)), (2, .int (iI u))]) C dX12_readWord_192 (by decide) rfl ?_
                        refine m_goto (tgt := 8) C dX12_readWord_194 (by decide) ?_
                        refine m_lv (lv2 := [(5, .int (iI (x + (a 46 f1.toNat)))), (4, .int (iI g2)), (3, .int (iI (1 - pt))), (0, .ref h0), (1, .int (iI q)), (2, .int (iI u))]) [0, 2, 1, 5, 6, 7] rfl ?_
                        exact ih1  (1 - pt) g2 (x + (a 46 f1.toNat)) _ _ (by omega) bn5 fq7 (by omega) (by omega) (by omega)
                      · clear gf7
                        refine m_bipush (z := 6) C dX12_readWord_179 (by decide) ?_
                        exact m_iret C dX12_readWord_181 rfl (Nat.le_of_ble_eq_true rfl) (Nat.le_of_ble_eq_true rfl) ⟨6, rfl, fq7, bn5, (by omega)⟩
                refine m_icmp_ne (tgt := 137) C ⟨by omega, by omega⟩ ⟨by decide, by decide⟩ dX12_readWord_130 (by decide) (fun c18 => ?_) (fun c18 => ?_)
                · refine m_iconst C dX12_readWord_137 ?_
                  refine m_lv (lv2 := [(7, .int (iI (a 44 f1.toNat))), (6, .int (iI f1)), (5, .int (iI x)), (4, .int (iI g)), (3, .int (iI pt)), (0, .ref h0), (1, .int (iI q)), (2, .int (iI u))]) [0, 1, 2, 3, 4, 5, 6, 7] rfl ?_
                  exact J4  0 _ _  bxb5 fpb5 (by omega)
                · refine m_iconst C dX12_readWord_133 ?_
                  refine m_goto (tgt := 138) C dX12_readWord_134 (by decide) ?_
                  refine m_lv (lv2 := [(7, .int (iI (a 44 f1.toNat))), (6, .int (iI f1)), (5, .int (iI x)), (4, .int (iI g)), (3, .int (iI pt)), (0, .ref h0), (1, .int (iI q)), (2, .int (iI u))]) [0, 1, 2, 3, 4, 5, 6, 7] rfl ?_
                  exact J4  1 _ _  bxb5 fpb5 (by omega)
              refine m_iload (j := 0) C dX12_readWord_61 rfl ?_
              refine m_if_lt (tgt := 127) C ⟨by omega, by omega⟩ dX12_readWord_63 (by decide) (fun c19 => ?_) (fun c19 => ?_)
              · refine m_lv (lv2 := [(7, .int (iI (a 44 f1.toNat))), (6, .int (iI f1)), (5, .int (iI x)), (4, .int (iI g)), (3, .int (iI pt)), (0, .ref h0), (1, .int (iI q)), (2, .int (iI u))]) [0, 1, 2, 3, 4, 5, 6, 7] rfl ?_
                exact J3   _ _  bq2 fq2 
              · refine m_iconst C dX12_readWord_66 ?_
                refine m_istore (lv2 := [(8, .int (iI 0)), (7, .int (iI (a 44 f1.toNat))), (6, .int (iI f1)), (5, .int (iI x)), (4, .int (iI g)), (3, .int (iI pt)), (0, .ref h0), (1, .int (iI q)), (2, .int (iI u))]) C dX12_readWord_67 (by decide) rfl ?_
                have Lp3 : ∀ (nn : Nat) (k : Int) (vb7 : Nat → Int) (ab7 : Nat → Nat → Int), 9 - k < (nn : Int) → BX vb7 ab7 → fr [52, 53] [51] v a vb7 ab7 → (0 ≤ k ∧ k ≤ 8) → mw p l e (rmq 3 0 0) s m args below meth c G A 9 (MQ below (Qm G A (fun rq Lq Eq => ∃ (vq : Nat → Int) (aq : Nat → Nat → Int), mI G h0 ad ln vq aq Lq Eq ∧ (fun r v2 a2 => ∃ f : Int, r = some (.int (iI f)) ∧ fr [52, 53] [51] v a v2 a2 ∧ BX v2 a2 ∧ (f = 0 ∨ f = 6 ∨ f = 9)) rq vq aq)) args s 0 0 A) h0 ad ln vb7 ab7 0 0 69 [(8, .int (iI k)), (7, .int (iI (a 44 f1.toNat))), (6, .int (iI f1)), (5, .int (iI x)), (4, .int (iI g)), (3, .int (iI pt)), (0, .ref h0), (1, .int (iI q)), (2, .int (iI u))] [] := by
                  intro nn
                  induction nn with
                  | zero =>
                    intro k vb7 ab7 hm bxb7 fpb7 hk
                    exact absurd hm (by omega)
                  | succ nn ih3 =>
                    intro k vb7 ab7 hm bxb7 fpb7 hk
                    refine m_iload (j := 0) C dX12_readWord_69 rfl ?_
                    refine m_aload_n (j := 6) C dX12_readWord_71 rfl ?_
                    refine m_geta (k := 12) C dX12_readWord_72 w6_71 (by decide) rfl ?_
                    refine m_iload (j := 1) C dX12_readWord_75 rfl ?_
                    refine m_ald (k := 12) C dX12_readWord_77 rfl rfl (by decide) (by omega) (by show _ < ((_ : Nat) : Int); simp only [mlen]; omega) (by decide) ?_
                    refine hv2 (show 0 ≤ ab7 12 (a 44 f1.toNat).toNat ∧ ab7 12 (a 44 f1.toNat).toNat ≤ 8 from bxb7.2 12 ((a 44 f1.toNat).toNat)) (show ab7 12 ((a 44 f1.toNat).toNat) = a 12 ((a 44 f1.toNat).toNat) from congrFun (fpb7.2 12 rfl) ((a 44 f1.toNat).toNat)) (fun ra12 ae16 => ?_)
                    refine m_st (st2 := [.int (iI (a 12 (a 44 f1.toNat).toNat)), .int (iI k)]) (congrArg (fun z => Value.int (iI z) :: [.int (iI k)]) (congrFun (fpb7.2 12 rfl) ((a 44 f1.toNat).toNat))) ?_
                    refine m_icmp_ge (tgt := 127) C (r32_c (lo := 0) (hi := 8) hk.1 hk.2 (by decide) (by decide)) ⟨by omega, by omega⟩ dX12_readWord_78 (by decide) (fun c20 => ?_) (fun c20 => ?_)
                    · refine m_lv (lv2 := [(7, .int (iI (a 44 f1.toNat))), (6, .int (iI f1)), (5, .int (iI x)), (4, .int (iI g)), (3, .int (iI pt)), (0, .ref h0), (1, .int (iI q)), (2, .int (iI u))]) [1, 2, 3, 4, 5, 6, 7, 8] rfl ?_
                      exact J3   _ _  bxb7 fpb7 
                    · refine m_aload_n (j := 6) C dX12_readWord_81 rfl ?_
                      refine m_aload_n (j := 6) C dX12_readWord_82 rfl ?_
                      refine m_geta (k := 14) C dX12_readWord_83 w6_73 (by decide) rfl ?_
                      refine m_bipush (z := 8) C dX12_readWord_86 (by decide) ?_
                      refine m_iload (j := 1) C dX12_readWord_88 rfl ?_
                      refine m_imul C dX12_readWord_90 ?_
                      refine m_iload (j := 0) C dX12_readWord_91 rfl ?_
                      refine m_iadd C dX12_readWord_93 ?_
                      refine m_ald (k := 14) C dX12_readWord_94 rfl rfl (by decide) (by omega) (by show _ < ((_ : Nat) : Int); simp only [mlen]; omega) (by decide) ?_
                      refine hv2 (show 0 ≤ ab7 14 ((8 * (a 44 f1.toNat)) + k).toNat ∧ ab7 14 ((8 * (a 44 f1.toNat)) + k).toNat ≤ 125 from bxb7.2 14 (((8 * (a 44 f1.toNat)) + k).toNat)) (show ab7 14 (((8 * (a 44 f1.toNat)) + k).toNat) = a 14 (((8 * (a 44 f1.toNat)) + k).toNat) from congrFun (fpb7.2 14 rfl) (((8 * (a 44 f1.toNat)) + k).toNat)) (fun ra13 ae17 => ?_)
                      refine m_st (st2 := [.int (iI (a 14 ((8 * (a 44 f1.toNat)) + k).toNat)), .ref h0]) (congrArg (fun z => Value.int (iI z) :: [.ref h0]) (congrFun (fpb7.2 14 rfl) (((8 * (a 44 f1.toNat)) + k).toNat))) ?_
                      refine m_iload (j := 4) C dX12_readWord_95 rfl ?_
                      refine m_if_eq (tgt := 110) C ⟨by omega, by omega⟩ dX12_readWord_97 (by decide) (fun z => absurd z (by omega)) (fun _ => ?_)
                      refine m_iload (j := 0) C dX12_readWord_100 rfl ?_
                      refine m_if_ne (tgt := 110) C (r32_c (lo := 0) (hi := 8) hk.1 hk.2 (by decide) (by decide)) dX12_readWord_102 (by decide) (fun c21 => ?_) (fun c21 => ?_)
                      · refine m_iconst C dX12_readWord_110 ?_
                        refine m_isub C dX12_readWord_111 ?_
                        refine m_call (mc2 := 0) (ms2 := 0) (As := [.int (iI ((a 14 ((8 * (a 44 f1.toNat)) + k).toNat) - 0))]) (rest := []) C (B_tell (x := (a 14 ((8 * (a 44 f1.toNat)) + k).toNat) - 0) bxb7 (by show -2147483648 ≤ ((a 14 ((8 * (a 44 f1.toNat)) + k).toNat) - 0) ∧ ((a 14 ((8 * (a 44 f1.toNat)) + k).toNat) - 0) ≤ 2147483647; omega)) dX12_readWord_112 kV_X12_336 rfl ck_13 rfl (Nat.le_of_ble_eq_true rfl) ⟨Nat.le_of_ble_eq_true rfl, Nat.le_of_ble_eq_true rfl⟩ ⟨Nat.le_of_ble_eq_true rfl, Nat.le_of_ble_eq_true rfl⟩ (fun rh8 vh8 ah8 h8 => ?_)
                        obtain ⟨f8, rfl, fn6, bn6, ex6⟩ := h8
                        refine hv2 (fpb7.call fn6 rfl rfl) (show f8 = 0 ∨ f8 = 1 from ex6) (fun fq8 gf8 => ?_)
                        refine m_st (st2 := [.int (iI f8)]) rfl ?_
                        refine m_if_ne (tgt := 121) C (r32_01 gf8) dX12_readWord_115 (by decide) (fun c22 => ?_) (fun c22 => ?_)
                        · replace gf8 := (gf8.resolve_left c22)
                          refine m_iinc (z := k) (j := 0) (lv2 := [(8, .int (iI (k + 1))), (7, .int (iI (a 44 f1.toNat))), (6, .int (iI f1)), (5, .int (iI x)), (4, .int (iI g)), (3, .int (iI pt)), (0, .ref h0), (1, .int (iI q)), (2, .int (iI u))]) C dX12_readWord_121 rfl (by decide) rfl ?_
                          refine m_goto (tgt := 69) C dX12_readWord_124 (by decide) ?_
                          refine m_lv (lv2 := [(8, .int (iI (k + 1))), (7, .int (iI (a 44 f1.toNat))), (6, .int (iI f1)), (5, .int (iI x)), (4, .int (iI g)), (3, .int (iI pt)), (0, .ref h0), (1, .int (iI q)), (2, .int (iI u))]) [0, 1, 2, 3, 4, 5, 6, 7, 8] rfl ?_
                          exact ih3  (k + 1) _ _ (by omega) bn6 fq8 (by omega)
                        · clear gf8
                          refine m_bipush (z := 6) C dX12_readWord_118 (by decide) ?_
                          exact m_iret C dX12_readWord_120 rfl (Nat.le_of_ble_eq_true rfl) (Nat.le_of_ble_eq_true rfl) ⟨6, rfl, fq8, bn6, (by omega)⟩
                      · refine m_bipush (z := 32) C dX12_readWord_105 (by decide) ?_
                        refine m_goto (tgt := 111) C dX12_readWord_107 (by decide) ?_
                        refine m_isub C dX12_readWord_111 ?_
                        refine m_call (mc2 := 0) (ms2 := 0) (As := [.int (iI ((a 14 ((8 * (a 44 f1.toNat)) + k).toNat) - 32))]) (rest := []) C (B_tell (x := (a 14 ((8 * (a 44 f1.toNat)) + k).toNat) - 32) bxb7 (by show -2147483648 ≤ ((a 14 ((8 * (a 44 f1.toNat)) + k).toNat) - 32) ∧ ((a 14 ((8 * (a 44 f1.toNat)) + k).toNat) - 32) ≤ 2147483647; omega)) dX12_readWord_112 kV_X12_336 rfl ck_13 rfl (Nat.le_of_ble_eq_true rfl) ⟨Nat.le_of_ble_eq_true rfl, Nat.le_of_ble_eq_true rfl⟩ ⟨Nat.le_of_ble_eq_true rfl, Nat.le_of_ble_eq_true rfl⟩ (fun rh9 vh9 ah9 h9 => ?_)
                        obtain ⟨f9, rfl, fn7, bn7, ex7⟩ := h9
                        refine hv2 (fpb7.call fn7 rfl rfl) (show f9 = 0 ∨ f9 = 1 from ex7) (fun fq9 gf9 => ?_)
                        refine m_st (st2 := [.int (iI f9)]) rfl ?_
                        refine m_if_ne (tgt := 121) C (r32_01 gf9) dX12_readWord_115 (by decide) (fun c23 => ?_) (fun c23 => ?_)
                        · replace gf9 := (gf9.resolve_left c23)
                          refine m_iinc (z := k) (j := 0) (lv2 := [(8, .int (iI (k + 1))), (7, .int (iI (a 44 f1.toNat))), (6, .int (iI f1)), (5, .int (iI x)), (4, .int (iI g)), (3, .int (iI pt)), (0, .ref h0), (1, .int (iI q)), (2, .int (iI u))]) C dX12_readWord_121 rfl (by decide) rfl ?_
                          refine m_goto (tgt := 69) C dX12_readWord_124 (by decide) ?_
                          refine m_lv (lv2 := [(8, .int (iI (k + 1))), (7, .int (iI (a 44 f1.toNat))), (6, .int (iI f1)), (5, .int (iI x)), (4, .int (iI g)), (3, .int (iI pt)), (0, .ref h0), (1, .int (iI q)), (2, .int (iI u))]) [0, 1, 2, 3, 4, 5, 6, 7, 8] rfl ?_
                          exact ih3  (k + 1) _ _ (by omega) bn7 fq9 (by omega)
                        · clear gf9
                          refine m_bipush (z := 6) C dX12_readWord_118 (by decide) ?_
                          exact m_iret C dX12_readWord_120 rfl (Nat.le_of_ble_eq_true rfl) (Nat.le_of_ble_eq_true rfl) ⟨6, rfl, fq9, bn7, (by omega)⟩
                refine m_lv (lv2 := [(8, .int (iI 0)), (7, .int (iI (a 44 f1.toNat))), (6, .int (iI f1)), (5, .int (iI x)), (4, .int (iI g)), (3, .int (iI pt)), (0, .ref h0), (1, .int (iI q)), (2, .int (iI u))]) [0, 1, 2, 3, 4, 5, 6, 7, 8] rfl ?_
                exact Lp3 10 0 _ _ (by omega) bq2 fq2 (by omega)
            · clear gf5
              refine m_bipush (z := 9) C dX12_readWord_49 (by decide) ?_
              exact m_iret C dX12_readWord_51 rfl (Nat.le_of_ble_eq_true rfl) (Nat.le_of_ble_eq_true rfl) ⟨9, rfl, fq2, bq2, (by omega)⟩
  refine m_lv (lv2 := [(5, .int (iI q)), (4, .int (iI 0)), (3, .int (iI 0)), (0, .ref h0), (1, .int (iI q)), (2, .int (iI u))]) [0, 1, 2, 3, 4, 5] rfl ?_
  exact Lp1 40202 0 0 q _ _ (by omega) hB fp0 (by omega) (by omega) (by omega)
set_option maxHeartbeats 4000000 in
set_option maxRecDepth 100000 in
theorem M_readAll {l : Launch} {G : GT} {h0 : Nat} {ad ln : Nat → Nat} {v : Nat → Int} {a : Nat → Nat → Int}  (hB : BX v a) (hW : RWS a) : Mm l G yX12_readAll cX12_readAll 5 (some .int) 4 [] h0 ad ln v a 0 0 (fun r v2 a2 => ∃ f : Int, r = some (.int (iI f)) ∧ fr [52, 53] [51] v a v2 a2 ∧ BX v2 a2 ∧ (f = 0 ∨ f = 6 ∨ f = 9)) := by
  refine Mm.mk (by decide) (Nat.le_of_ble_eq_true rfl) ?_
  intro p e s m args below meth c A C
  refine hv2 (show 0 ≤ v 50 ∧ v 50 ≤ 40200 from hB.1 50) (show fr [52, 53] [51] v a v a from fr.refl) (fun r50 fp0 => ?_)
  refine m_aload_n (j := 0) C dX12_readAll_0 rfl ?_
  refine m_iconst C dX12_readAll_1 ?_
  refine m_put (k := 52) (z := 0) C dX12_readAll_2 w6_111 (by decide) rfl rfl rfl ?_
  refine hv2 (show BX (va_up v 52 0) a from hB.put (k := 52) (z := 0) ⟨by decide, by decide⟩) (fp0.put (k := 52) (z := 0) rfl) (fun bq1 fq1 => ?_)
  refine m_iconst C dX12_readAll_5 ?_
  refine m_istore_n (lv2 := [(1, .int (iI 0)), (0, .ref h0)]) C dX12_readAll_6 (by decide) rfl ?_
  refine m_iconst C dX12_readAll_7 ?_
  refine m_istore_n (lv2 := [(2, .int (iI 0)), (1, .int (iI 0)), (0, .ref h0)]) C dX12_readAll_8 (by decide) rfl ?_
  have Lp1 : ∀ (nn : Nat) (g x : Int) (vb1 : Nat → Int) (ab1 : Nat → Nat → Int), 40201 - x < (nn : Int) → BX vb1 ab1 → fr [52, 53] [51] v a vb1 ab1 → (g = 0 ∨ g = 1) → (0 ≤ x ∧ x ≤ v 50) → mw p l e (rmq 4 0 0) s m args below meth c G A 5 (MQ below (Qm G A (fun rq Lq Eq => ∃ (vq : Nat → Int) (aq : Nat → Nat → Int), mI G h0 ad ln vq aq Lq Eq ∧ (fun r v2 a2 => ∃ f : Int, r = some (.int (iI f)) ∧ fr [52, 53] [51] v a v2 a2 ∧ BX v2 a2 ∧ (f = 0 ∨ f = 6 ∨ f = 9)) rq vq aq)) args s 0 0 A) h0 ad ln vb1 ab1 0 0 9 [(2, .int (iI x)), (1, .int (iI g)), (0, .ref h0)] [] := by
    intro nn
    induction nn with
    | zero =>
      intro g x vb1 ab1 hm bxb1 fpb1 hg hx
      exact absurd hm (by omega)
    | succ nn ih1 =>
      intro g x vb1 ab1 hm bxb1 fpb1 hg hx
      refine m_iload_n (j := 0) C dX12_readAll_9 rfl ?_
      refine m_aload_n (j := 2) C dX12_readAll_10 rfl ?_
      refine hv2 (show 0 ≤ vb1 50 ∧ vb1 50 ≤ 40200 from bxb1.1 50) (show vb1 50 = v 50 from fpb1.1 50 rfl) (fun rv1 ve1 => ?_)
      refine m_get (k := 50) C dX12_readAll_11 w6_109 (by decide) rfl ?_
      refine m_st (st2 := [.int (iI (v 50)), .int (iI x)]) (congrArg (fun z => Value.int (iI z) :: [.int (iI x)]) (fpb1.1 50 rfl)) ?_
      refine m_icmp_ge (tgt := 96) C ⟨by omega, by omega⟩ (r32_c (lo := 0) (hi := 40200) (Int.le_trans rv1.1 (Int.le_of_eq ve1)) (Int.le_trans (Int.le_of_eq ve1.symm) rv1.2) (by decide) (by decide)) dX12_readAll_14 (by decide) (fun c1 => ?_) (fun c1 => ?_)
      · refine m_iconst C dX12_readAll_96 ?_
        exact m_iret C dX12_readAll_97 rfl (Nat.le_of_ble_eq_true rfl) (Nat.le_of_ble_eq_true rfl) ⟨0, rfl, fpb1, bxb1, (by omega)⟩
      · refine m_aload_n (j := 2) C dX12_readAll_17 rfl ?_
        refine m_geta (k := 48) C dX12_readAll_18 w6_107 (by decide) rfl ?_
        refine m_iload_n (j := 0) C dX12_readAll_21 rfl ?_
        refine m_ald (k := 48) C dX12_readAll_22 rfl rfl (by decide) (by omega) (by show _ < ((_ : Nat) : Int); simp only [mlen]; omega) (by decide) ?_
        refine hv2 (show (-2147483648) ≤ ab1 48 x.toNat ∧ ab1 48 x.toNat ≤ 2147483647 from bxb1.2 48 (x.toNat)) (show ab1 48 (x.toNat) = a 48 (x.toNat) from congrFun (fpb1.2 48 rfl) (x.toNat)) (fun ra1 ae1 => ?_)
        refine m_st (st2 := [.int (iI (a 48 x.toNat))]) (congrArg (fun z => Value.int (iI z) :: []) (congrFun (fpb1.2 48 rfl) (x.toNat))) ?_
        refine m_if_ne (tgt := 32) C ⟨by omega, by omega⟩ dX12_readAll_23 (by decide) (fun c2 => ?_) (fun c2 => ?_)
        · refine m_iload_n (j := 0) C dX12_readAll_32 rfl ?_
          refine m_istore_n (lv2 := [(3, .int (iI x)), (2, .int (iI x)), (1, .int (iI g)), (0, .ref h0)]) C dX12_readAll_33 (by decide) rfl ?_
          have Lp2 : ∀ (nn : Nat) (y : Int) (vb2 : Nat → Int) (ab2 : Nat → Nat → Int), 40201 - y < (nn : Int) → BX vb2 ab2 → fr [52, 53] [51] v a vb2 ab2 → (x ≤ y ∧ y ≤ v 50) → (x < y ∨ (y = x ∧ ¬ a 48 y.toNat = 0)) → mw p l e (rmq 4 0 0) s m args below meth c G A 5 (MQ below (Qm G A (fun rq Lq Eq => ∃ (vq : Nat → Int) (aq : Nat → Nat → Int), mI G h0 ad ln vq aq Lq Eq ∧ (fun r v2 a2 => ∃ f : Int, r = some (.int (iI f)) ∧ fr [52, 53] [51] v a v2 a2 ∧ BX v2 a2 ∧ (f = 0 ∨ f = 6 ∨ f = 9)) rq vq aq)) args s 0 0 A) h0 ad ln vb2 ab2 0 0 34 [(3, .int (iI y)), (2, .int (iI x)), (1, .int (iI g)), (0, .ref h0)] [] := by
            intro nn
            induction nn with
            | zero =>
              intro y vb2 ab2 hm bxb2 fpb2 hy hy2
              exact absurd hm (by omega)
            | succ nn ih2 =>
              intro y vb2 ab2 hm bxb2 fpb2 hy hy2
              refine m_iload_n (j := 0) C dX12_readAll_34 rfl ?_
              refine m_aload_n (j := 3) C dX12_readAll_35 rfl ?_
              refine hv2 (show 0 ≤ vb2 50 ∧ vb2 50 ≤ 40200 from bxb2.1 50) (show vb2 50 = v 50 from fpb2.1 50 rfl) (fun rv2 ve2 => ?_)
              refine m_get (k := 50) C dX12_readAll_36 w6_109 (by decide) rfl ?_
              refine m_st (st2 := [.int (iI (v 50)), .int (iI y)]) (congrArg (fun z => Value.int (iI z) :: [.int (iI y)]) (fpb2.1 50 rfl)) ?_
              refine m_icmp_ge (tgt := 57) C ⟨by omega, by omega⟩ (r32_c (lo := 0) (hi := 40200) (Int.le_trans rv1.1 (Int.le_of_eq ve1)) (Int.le_trans (Int.le_of_eq ve1.symm) rv1.2) (by decide) (by decide)) dX12_readAll_39 (by decide) (fun c3 => ?_) (fun c3 => ?_)
              · refine m_iload_n (j := 2) C dX12_readAll_57 rfl ?_
                refine m_if_eq (tgt := 73) C (r32_01 hg) dX12_readAll_58 (by decide) (fun c4 => ?_) (fun c4 => ?_)
                · clear hg
                  refine m_iconst C dX12_readAll_73 ?_
                  refine m_istore_n (lv2 := [(1, .int (iI 1)), (3, .int (iI y)), (2, .int (iI x)), (0, .ref h0)]) C dX12_readAll_74 (by decide) rfl ?_
                  refine m_aload_n (j := 3) C dX12_readAll_75 rfl ?_
                  refine m_iload_n (j := 2) C dX12_readAll_76 rfl ?_
                  refine m_iload_n (j := 1) C dX12_readAll_77 rfl ?_
                  refine m_call (mc2 := 0) (ms2 := 0) (As := [.int (iI x), .int (iI y)]) (rest := []) C (M_readWord (q := x) (u := y) bxb2 (RWS.fr hW fpb2 rfl) (by show 0 ≤ x ∧ x ≤ y ∧ y ≤ 40200; omega)) dX12_readAll_78 kV_X12_339 rfl ck_13 rfl (Nat.le_of_ble_eq_true rfl) ⟨Nat.le_of_ble_eq_true rfl, Nat.le_of_ble_eq_true rfl⟩ ⟨Nat.le_of_ble_eq_true rfl, Nat.le_of_ble_eq_true rfl⟩ (fun rh1 vh1 ah1 h1 => ?_)
                  obtain ⟨f1, rfl, fn1, bn1, ex1⟩ := h1
                  refine hv2 (fpb2.call fn1 rfl rfl) (show f1 = 0 ∨ f1 = 6 ∨ f1 = 9 from ex1) (fun fq2 gf1 => ?_)
                  refine m_st (st2 := [.int (iI f1)]) rfl ?_
                  refine m_istore (lv2 := [(4, .int (iI f1)), (1, .int (iI 1)), (3, .int (iI y)), (2, .int (iI x)), (0, .ref h0)]) C dX12_readAll_81 (by decide) rfl ?_
                  refine m_iload (j := 0) C dX12_readAll_83 rfl ?_
                  refine m_if_le (tgt := 91) C ⟨by omega, by omega⟩ dX12_readAll_85 (by decide) (fun c5 => ?_) (fun c5 => ?_)
                  · refine m_iload_n (j := 2) C dX12_readAll_91 rfl ?_
                    refine m_istore_n (lv2 := [(2, .int (iI y)), (4, .int (iI f1)), (1, .int (iI 1)), (3, .int (iI y)), (0, .ref h0)]) C dX12_readAll_92 (by decide) rfl ?_
                    refine m_goto (tgt := 9) C dX12_readAll_93 (by decide) ?_
                    refine m_lv (lv2 := [(2, .int (iI y)), (1, .int (iI 1)), (0, .ref h0)]) [0, 2, 4] rfl ?_
                    exact ih1  1 y _ _ (by omega) bn1 fq2 (by omega) (by omega)
                  · refine m_iload (j := 0) C dX12_readAll_88 rfl ?_
                    exact m_iret C dX12_readAll_90 rfl (Nat.le_of_ble_eq_true rfl) (Nat.le_of_ble_eq_true rfl) ⟨f1, rfl, fq2, bn1, (by omega)⟩
                · replace hg := (hg.resolve_left c4)
                  refine m_aload_n (j := 3) C dX12_readAll_61 rfl ?_
                  refine m_bipush (z := 32) C dX12_readAll_62 (by decide) ?_
                  refine m_call (mc2 := 0) (ms2 := 0) (As := [.int (iI 32)]) (rest := []) C (B_tell (x := 32) bxb2 (by show -2147483648 ≤ (32 : Int) ∧ (32 : Int) ≤ 2147483647; omega)) dX12_readAll_64 kV_X12_336 rfl ck_13 rfl (Nat.le_of_ble_eq_true rfl) ⟨Nat.le_of_ble_eq_true rfl, Nat.le_of_ble_eq_true rfl⟩ ⟨Nat.le_of_ble_eq_true rfl, Nat.le_of_ble_eq_true rfl⟩ (fun rh2 vh2 ah2 h2 => ?_)
                  obtain ⟨f2, rfl, fn2, bn2, ex2⟩ := h2
                  refine hv2 (fpb2.call fn2 rfl rfl) (show f2 = 0 ∨ f2 = 1 from ex2) (fun fq3 gf2 => ?_)
                  refine m_st (st2 := [.int (iI f2)]) rfl ?_
                  refine m_if_ne (tgt := 73) C (r32_01 gf2) dX12_readAll_67 (by decide) (fun c6 => ?_) (fun c6 => ?_)
                  · replace gf2 := (gf2.resolve_left c6)
                    refine m_iconst C dX12_readAll_73 ?_
                    refine m_istore_n (lv2 := [(1, .int (iI 1)), (3, .int (iI y)), (2, .int (iI x)), (0, .ref h0)]) C dX12_readAll_74 (by decide) rfl ?_
                    refine m_aload_n (j := 3) C dX12_readAll_75 rfl ?_
                    refine m_iload_n (j := 2) C dX12_readAll_76 rfl ?_
                    refine m_iload_n (j := 1) C dX12_readAll_77 rfl ?_
                    refine m_call (mc2 := 0) (ms2 := 0) (As := [.int (iI x), .int (iI y)]) (rest := []) C (M_readWord (q := x) (u := y) bn2 (RWS.fr hW fq3 rfl) (by show 0 ≤ x ∧ x ≤ y ∧ y ≤ 40200; omega)) dX12_readAll_78 kV_X12_339 rfl ck_13 rfl (Nat.le_of_ble_eq_true rfl) ⟨Nat.le_of_ble_eq_true rfl, Nat.le_of_ble_eq_true rfl⟩ ⟨Nat.le_of_ble_eq_true rfl, Nat.le_of_ble_eq_true rfl⟩ (fun rh3 vh3 ah3 h3 => ?_)
                    obtain ⟨f3, rfl, fn3, bn3, ex3⟩ := h3
                    refine hv2 (fq3.call fn3 rfl rfl) (show f3 = 0 ∨ f3 = 6 ∨ f3 = 9 from ex3) (fun fq4 gf3 => ?_)
                    refine m_st (st2 := [.int (iI f3)]) rfl ?_
                    refine m_istore (lv2 := [(4, .int (iI f3)), (1, .int (iI 1)), (3, .int (iI y)), (2, .int (iI x)), (0, .ref h0)]) C dX12_readAll_81 (by decide) rfl ?_
                    refine m_iload (j := 0) C dX12_readAll_83 rfl ?_
                    refine m_if_le (tgt := 91) C ⟨by omega, by omega⟩ dX12_readAll_85 (by decide) (fun c7 => ?_) (fun c7 => ?_)
                    · refine m_iload_n (j := 2) C dX12_readAll_91 rfl ?_
                      refine m_istore_n (lv2 := [(2, .int (iI y)), (4, .int (iI f3)), (1, .int (iI 1)), (3, .int (iI y)), (0, .ref h0)]) C dX12_readAll_92 (by decide) rfl ?_
                      refine m_goto (tgt := 9) C dX12_readAll_93 (by decide) ?_
                      refine m_lv (lv2 := [(2, .int (iI y)), (1, .int (iI 1)), (0, .ref h0)]) [0, 2, 4] rfl ?_
                      exact ih1  1 y _ _ (by omega) bn3 fq4 (by omega) (by omega)
                    · refine m_iload (j := 0) C dX12_readAll_88 rfl ?_
                      exact m_iret C dX12_readAll_90 rfl (Nat.le_of_ble_eq_true rfl) (Nat.le_of_ble_eq_true rfl) ⟨f3, rfl, fq4, bn3, (by omega)⟩
                  · clear gf2
                    refine m_bipush (z := 6) C dX12_readAll_70 (by decide) ?_
                    exact m_iret C dX12_readAll_72 rfl (Nat.le_of_ble_eq_true rfl) (Nat.le_of_ble_eq_true rfl) ⟨6, rfl, fq3, bn2, (by omega)⟩
              · refine m_aload_n (j := 3) C dX12_readAll_42 rfl ?_
                refine m_geta (k := 48) C dX12_readAll_43 w6_107 (by decide) rfl ?_
                refine m_iload_n (j := 0) C dX12_readAll_46 rfl ?_
                refine m_ald (k := 48) C dX12_readAll_47 rfl rfl (by decide) (by omega) (by show _ < ((_ : Nat) : Int); simp only [mlen]; omega) (by decide) ?_
                refine hv2 (show (-2147483648) ≤ ab2 48 y.toNat ∧ ab2 48 y.toNat ≤ 2147483647 from bxb2.2 48 (y.toNat)) (show ab2 48 (y.toNat) = a 48 (y.toNat) from congrFun (fpb2.2 48 rfl) (y.toNat)) (fun ra2 ae2 => ?_)
                refine m_st (st2 := [.int (iI (a 48 y.toNat))]) (congrArg (fun z => Value.int (iI z) :: []) (congrFun (fpb2.2 48 rfl) (y.toNat))) ?_
                refine m_if_eq (tgt := 57) C ⟨by omega, by omega⟩ dX12_readAll_48 (by decide) (fun c8 => ?_) (fun c8 => ?_)
                · refine m_iload_n (j := 2) C dX12_readAll_57 rfl ?_
                  refine m_if_eq (tgt := 73) C (r32_01 hg) dX12_readAll_58 (by decide) (fun c9 => ?_) (fun c9 => ?_)
                  · clear hg
                    refine m_iconst C dX12_readAll_73 ?_
                    refine m_istore_n (lv2 := [(1, .int (iI 1)), (3, .int (iI y)), (2, .int (iI x)), (0, .ref h0)]) C dX12_readAll_74 (by decide) rfl ?_
                    refine m_aload_n (j := 3) C dX12_readAll_75 rfl ?_
                    refine m_iload_n (j := 2) C dX12_readAll_76 rfl ?_
                    refine m_iload_n (j := 1) C dX12_readAll_77 rfl ?_
                    refine m_call (mc2 := 0) (ms2 := 0) (As := [.int (iI x), .int (iI y)]) (rest := []) C (M_readWord (q := x) (u := y) bxb2 (RWS.fr hW fpb2 rfl) (by show 0 ≤ x ∧ x ≤ y ∧ y ≤ 40200; omega)) dX12_readAll_78 kV_X12_339 rfl ck_13 rfl (Nat.le_of_ble_eq_true rfl) ⟨Nat.le_of_ble_eq_true rfl, Nat.le_of_ble_eq_true rfl⟩ ⟨Nat.le_of_ble_eq_true rfl, Nat.le_of_ble_eq_true rfl⟩ (fun rh4 vh4 ah4 h4 => ?_)
                    obtain ⟨f4, rfl, fn4, bn4, ex4⟩ := h4
                    refine hv2 (fpb2.call fn4 rfl rfl) (show f4 = 0 ∨ f4 = 6 ∨ f4 = 9 from ex4) (fun fq5 gf4 => ?_)
                    refine m_st (st2 := [.int (iI f4)]) rfl ?_
                    refine m_istore (lv2 := [(4, .int (iI f4)), (1, .int (iI 1)), (3, .int (iI y)), (2, .int (iI x)), (0, .ref h0)]) C dX12_readAll_81 (by decide) rfl ?_
                    refine m_iload (j := 0) C dX12_readAll_83 rfl ?_
                    refine m_if_le (tgt := 91) C ⟨by omega, by omega⟩ dX12_readAll_85 (by decide) (fun c10 => ?_) (fun c10 => ?_)
                    · refine m_iload_n (j := 2) C dX12_readAll_91 rfl ?_
                      refine m_istore_n (lv2 := [(2, .int (iI y)), (4, .int (iI f4)), (1, .int (iI 1)), (3, .int (iI y)), (0, .ref h0)]) C dX12_readAll_92 (by decide) rfl ?_
                      refine m_goto (tgt := 9) C dX12_readAll_93 (by decide) ?_
                      refine m_lv (lv2 := [(2, .int (iI y)), (1, .int (iI 1)), (0, .ref h0)]) [0, 2, 4] rfl ?_
                      exact ih1  1 y _ _ (by omega) bn4 fq5 (by omega) (by omega)
                    · refine m_iload (j := 0) C dX12_readAll_88 rfl ?_
                      exact m_iret C dX12_readAll_90 rfl (Nat.le_of_ble_eq_true rfl) (Nat.le_of_ble_eq_true rfl) ⟨f4, rfl, fq5, bn4, (by omega)⟩
                  · replace hg := (hg.resolve_left c9)
                    refine m_aload_n (j := 3) C dX12_readAll_61 rfl ?_
                    refine m_bipush (z := 32) C dX12_readAll_62 (by decide) ?_
                    refine m_call (mc2 := 0) (ms2 := 0) (As := [.int (iI 32)]) (rest := []) C (B_tell (x := 32) bxb2 (by show -2147483648 ≤ (32 : Int) ∧ (32 : Int) ≤ 2147483647; omega)) dX12_readAll_64 kV_X12_336 rfl ck_13 rfl (Nat.le_of_ble_eq_true rfl) ⟨Nat.le_of_ble_eq_true rfl, Nat.le_of_ble_eq_true rfl⟩ ⟨Nat.le_of_ble_eq_true rfl, Nat.le_of_ble_eq_true rfl⟩ (fun rh5 vh5 ah5 h5 => ?_)
                    obtain ⟨f5, rfl, fn5, bn5, ex5⟩ := h5
                    refine hv2 (fpb2.call fn5 rfl rfl) (show f5 = 0 ∨ f5 = 1 from ex5) (fun fq6 gf5 => ?_)
                    refine m_st (st2 := [.int (iI f5)]) rfl ?_
                    refine m_if_ne (tgt := 73) C (r32_01 gf5) dX12_readAll_67 (by decide) (fun c11 => ?_) (fun c11 => ?_)
                    · replace gf5 := (gf5.resolve_left c11)
                      refine m_iconst C dX12_readAll_73 ?_
                      refine m_istore_n (lv2 := [(1, .int (iI 1)), (3, .int (iI y)), (2, .int (iI x)), (0, .ref h0)]) C dX12_readAll_74 (by decide) rfl ?_
                      refine m_aload_n (j := 3) C dX12_readAll_75 rfl ?_
                      refine m_iload_n (j := 2) C dX12_readAll_76 rfl ?_
                      refine m_iload_n (j := 1) C dX12_readAll_77 rfl ?_
                      refine m_call (mc2 := 0) (ms2 := 0) (As := [.int (iI x), .int (iI y)]) (rest := []) C (M_readWord (q := x) (u := y) bn5 (RWS.fr hW fq6 rfl) (by show 0 ≤ x ∧ x ≤ y ∧ y ≤ 40200; omega)) dX12_readAll_78 kV_X12_339 rfl ck_13 rfl (Nat.le_of_ble_eq_true rfl) ⟨Nat.le_of_ble_eq_true rfl, Nat.le_of_ble_eq_true rfl⟩ ⟨Nat.le_of_ble_eq_true rfl, Nat.le_of_ble_eq_true rfl⟩ (fun rh6 vh6 ah6 h6 => ?_)
                      obtain ⟨f6, rfl, fn6, bn6, ex6⟩ := h6
                      refine hv2 (fq6.call fn6 rfl rfl) (show f6 = 0 ∨ f6 = 6 ∨ f6 = 9 from ex6) (fun fq7 gf6 => ?_)
                      refine m_st (st2 := [.int (iI f6)]) rfl ?_
                      refine m_istore (lv2 := [(4, .int (iI f6)), (1, .int (iI 1)), (3, .int (iI y)), (2, .int (iI x)), (0, .ref h0)]) C dX12_readAll_81 (by decide) rfl ?_
                      refine m_iload (j := 0) C dX12_readAll_83 rfl ?_
                      refine m_if_le (tgt := 91) C ⟨by omega, by omega⟩ dX12_readAll_85 (by decide) (fun c12 => ?_) (fun c12 => ?_)
                      · refine m_iload_n (j := 2) C dX12_readAll_91 rfl ?_
                        refine m_istore_n (lv2 := [(2, .int (iI y)), (4, .int (iI f6)), (1, .int (iI 1)), (3, .int (iI y)), (0, .ref h0)]) C dX12_readAll_92 (by decide) rfl ?_
                        refine m_goto (tgt := 9) C dX12_readAll_93 (by decide) ?_
                        refine m_lv (lv2 := [(2, .int (iI y)), (1, .int (iI 1)), (0, .ref h0)]) [0, 2, 4] rfl ?_
                        exact ih1  1 y _ _ (by omega) bn6 fq7 (by omega) (by omega)
                      · refine m_iload (j := 0) C dX12_readAll_88 rfl ?_
                        exact m_iret C dX12_readAll_90 rfl (Nat.le_of_ble_eq_true rfl) (Nat.le_of_ble_eq_true rfl) ⟨f6, rfl, fq7, bn6, (by omega)⟩
                    · clear gf5
                      refine m_bipush (z := 6) C dX12_readAll_70 (by decide) ?_
                      exact m_iret C dX12_readAll_72 rfl (Nat.le_of_ble_eq_true rfl) (Nat.le_of_ble_eq_true rfl) ⟨6, rfl, fq6, bn5, (by omega)⟩
                · refine m_iinc (z := y) (j := 0) (lv2 := [(3, .int (iI (y + 1))), (2, .int (iI x)), (1, .int (iI g)), (0, .ref h0)]) C dX12_readAll_51 rfl (by decide) rfl ?_
                  refine m_goto (tgt := 34) C dX12_readAll_54 (by decide) ?_
                  refine m_lv (lv2 := [(3, .int (iI (y + 1))), (2, .int (iI x)), (1, .int (iI g)), (0, .ref h0)]) [0, 1, 2, 3] rfl ?_
                  exact ih2  (y + 1) _ _ (by omega) bxb2 fpb2 (by omega) (by omega)
          refine m_lv (lv2 := [(3, .int (iI x)), (2, .int (iI x)), (1, .int (iI g)), (0, .ref h0)]) [0, 1, 2, 3] rfl ?_
          exact Lp2 40202 x _ _ (by omega) bxb1 fpb1 (by omega) (by omega)
        · refine m_iinc (z := x) (j := 0) (lv2 := [(2, .int (iI (x + 1))), (1, .int (iI g)), (0, .ref h0)]) C dX12_readAll_26 rfl (by decide) rfl ?_
          refine m_goto (tgt := 9) C dX12_readAll_29 (by decide) ?_
          refine m_lv (lv2 := [(2, .int (iI (x + 1))), (1, .int (iI g)), (0, .ref h0)]) [0, 1, 2] rfl ?_
          exact ih1  g (x + 1) _ _ (by omega) bxb1 fpb1 (by omega) (by omega)
  refine m_lv (lv2 := [(2, .int (iI 0)), (1, .int (iI 0)), (0, .ref h0)]) [0, 1, 2] rfl ?_
  exact Lp1 40202 0 0 _ _ (by omega) bq1 fq1 (by omega) (by omega)
end
