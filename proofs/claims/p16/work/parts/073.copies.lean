def bcn (x : Int32) : Int32 := ((((((((x - (((Int32.toUInt32 x >>> (Int32.toUInt32 (1 : Int32) &&& Int32.toUInt32 31)).toInt32) &&& (1431655765 : Int32))) &&& (858993459 : Int32)) + (((Int32.toUInt32 (x - (((Int32.toUInt32 x >>> (Int32.toUInt32 (1 : Int32) &&& Int32.toUInt32 31)).toInt32) &&& (1431655765 : Int32))) >>> (Int32.toUInt32 (2 : Int32) &&& Int32.toUInt32 31)).toInt32) &&& (858993459 : Int32))) + ((Int32.toUInt32 (((x - (((Int32.toUInt32 x >>> (Int32.toUInt32 (1 : Int32) &&& Int32.toUInt32 31)).toInt32) &&& (1431655765 : Int32))) &&& (858993459 : Int32)) + (((Int32.toUInt32 (x - (((Int32.toUInt32 x >>> (Int32.toUInt32 (1 : Int32) &&& Int32.toUInt32 31)).toInt32) &&& (1431655765 : Int32))) >>> (Int32.toUInt32 (2 : Int32) &&& Int32.toUInt32 31)).toInt32) &&& (858993459 : Int32))) >>> (Int32.toUInt32 (4 : Int32) &&& Int32.toUInt32 31)).toInt32)) &&& (252645135 : Int32)) + ((Int32.toUInt32 (((((x - (((Int32.toUInt32 x >>> (Int32.toUInt32 (1 : Int32) &&& Int32.toUInt32 31)).toInt32) &&& (1431655765 : Int32))) &&& (858993459 : Int32)) + (((Int32.toUInt32 (x - (((Int32.toUInt32 x >>> (Int32.toUInt32 (1 : Int32) &&& Int32.toUInt32 31)).toInt32) &&& (1431655765 : Int32))) >>> (Int32.toUInt32 (2 : Int32) &&& Int32.toUInt32 31)).toInt32) &&& (858993459 : Int32))) + ((Int32.toUInt32 (((x - (((Int32.toUInt32 x >>> (Int32.toUInt32 (1 : Int32) &&& Int32.toUInt32 31)).toInt32) &&& (1431655765 : Int32))) &&& (858993459 : Int32)) + (((Int32.toUInt32 (x - (((Int32.toUInt32 x >>> (Int32.toUInt32 (1 : Int32) &&& Int32.toUInt32 31)).toInt32) &&& (1431655765 : Int32))) >>> (Int32.toUInt32 (2 : Int32) &&& Int32.toUInt32 31)).toInt32) &&& (858993459 : Int32))) >>> (Int32.toUInt32 (4 : Int32) &&& Int32.toUInt32 31)).toInt32)) &&& (252645135 : Int32)) >>> (Int32.toUInt32 (8 : Int32) &&& Int32.toUInt32 31)).toInt32)) + ((Int32.toUInt32 ((((((x - (((Int32.toUInt32 x >>> (Int32.toUInt32 (1 : Int32) &&& Int32.toUInt32 31)).toInt32) &&& (1431655765 : Int32))) &&& (858993459 : Int32)) + (((Int32.toUInt32 (x - (((Int32.toUInt32 x >>> (Int32.toUInt32 (1 : Int32) &&& Int32.toUInt32 31)).toInt32) &&& (1431655765 : Int32))) >>> (Int32.toUInt32 (2 : Int32) &&& Int32.toUInt32 31)).toInt32) &&& (858993459 : Int32))) + ((Int32.toUInt32 (((x - (((Int32.toUInt32 x >>> (Int32.toUInt32 (1 : Int32) &&& Int32.toUInt32 31)).toInt32) &&& (1431655765 : Int32))) &&& (858993459 : Int32)) + (((Int32.toUInt32 (x - (((Int32.toUInt32 x >>> (Int32.toUInt32 (1 : Int32) &&& Int32.toUInt32 31)).toInt32) &&& (1431655765 : Int32))) >>> (Int32.toUInt32 (2 : Int32) &&& Int32.toUInt32 31)).toInt32) &&& (858993459 : Int32))) >>> (Int32.toUInt32 (4 : Int32) &&& Int32.toUInt32 31)).toInt32)) &&& (252645135 : Int32)) + ((Int32.toUInt32 (((((x - (((Int32.toUInt32 x >>> (Int32.toUInt32 (1 : Int32) &&& Int32.toUInt32 31)).toInt32) &&& (1431655765 : Int32))) &&& (858993459 : Int32)) + (((Int32.toUInt32 (x - (((Int32.toUInt32 x >>> (Int32.toUInt32 (1 : Int32) &&& Int32.toUInt32 31)).toInt32) &&& (1431655765 : Int32))) >>> (Int32.toUInt32 (2 : Int32) &&& Int32.toUInt32 31)).toInt32) &&& (858993459 : Int32))) + ((Int32.toUInt32 (((x - (((Int32.toUInt32 x >>> (Int32.toUInt32 (1 : Int32) &&& Int32.toUInt32 31)).toInt32) &&& (1431655765 : Int32))) &&& (858993459 : Int32)) + (((Int32.toUInt32 (x - (((Int32.toUInt32 x >>> (Int32.toUInt32 (1 : Int32) &&& Int32.toUInt32 31)).toInt32) &&& (1431655765 : Int32))) >>> (Int32.toUInt32 (2 : Int32) &&& Int32.toUInt32 31)).toInt32) &&& (858993459 : Int32))) >>> (Int32.toUInt32 (4 : Int32) &&& Int32.toUInt32 31)).toInt32)) &&& (252645135 : Int32)) >>> (Int32.toUInt32 (8 : Int32) &&& Int32.toUInt32 31)).toInt32)) >>> (Int32.toUInt32 (16 : Int32) &&& Int32.toUInt32 31)).toInt32)) &&& (63 : Int32))
set_option maxHeartbeats 4000000 in
set_option maxRecDepth 100000 in
theorem s_bitCount {l : Launch} {G : GT} {L : List Nat} {E : Nat → va_E} (x : Int32) : Mq l G yJ6_bitCount_0f7a4 cJ6_bitCount_0f7a4 1 (some .int) 0 [.int x] L E 0 0 (fun v L2 E2 => v = some (.int (bcn x)) ∧ L2 = L ∧ E2 = E) := by
  refine Mq.mk (by decide) (Nat.le_of_ble_eq_true rfl) ?_
  intro p e s m args below meth c A C
  refine q_iload_n (j := 0) C dJ6_bitCount_0f7a4_0 rfl ?_
  refine q_iload_n (j := 0) C dJ6_bitCount_0f7a4_1 rfl ?_
  refine q_iconst (v := 1) C dJ6_bitCount_0f7a4_2 (by decide) ?_
  refine q_iushr (v := ((Int32.toUInt32 x >>> (Int32.toUInt32 (1 : Int32) &&& Int32.toUInt32 31)).toInt32)) C dJ6_bitCount_0f7a4_3 rfl ?_
  refine q_ldcw (v := 1431655765) C dJ6_bitCount_0f7a4_4 w5_17 ?_
  refine q_iand (v := (((Int32.toUInt32 x >>> (Int32.toUInt32 (1 : Int32) &&& Int32.toUInt32 31)).toInt32) &&& (1431655765 : Int32))) C dJ6_bitCount_0f7a4_7 rfl ?_
  refine q_isub (v := (x - (((Int32.toUInt32 x >>> (Int32.toUInt32 (1 : Int32) &&& Int32.toUInt32 31)).toInt32) &&& (1431655765 : Int32)))) C dJ6_bitCount_0f7a4_8 rfl ?_
  refine q_istore_n (lv2 := [(0, .int (x - (((Int32.toUInt32 x >>> (Int32.toUInt32 (1 : Int32) &&& Int32.toUInt32 31)).toInt32) &&& (1431655765 : Int32))))]) C dJ6_bitCount_0f7a4_9 (by decide) rfl ?_
  refine q_iload_n (j := 0) C dJ6_bitCount_0f7a4_10 rfl ?_
  refine q_ldcw (v := 858993459) C dJ6_bitCount_0f7a4_11 w5_18 ?_
  refine q_iand (v := ((x - (((Int32.toUInt32 x >>> (Int32.toUInt32 (1 : Int32) &&& Int32.toUInt32 31)).toInt32) &&& (1431655765 : Int32))) &&& (858993459 : Int32))) C dJ6_bitCount_0f7a4_14 rfl ?_
  refine q_iload_n (j := 0) C dJ6_bitCount_0f7a4_15 rfl ?_
  refine q_iconst (v := 2) C dJ6_bitCount_0f7a4_16 (by decide) ?_
  refine q_iushr (v := ((Int32.toUInt32 (x - (((Int32.toUInt32 x >>> (Int32.toUInt32 (1 : Int32) &&& Int32.toUInt32 31)).toInt32) &&& (1431655765 : Int32))) >>> (Int32.toUInt32 (2 : Int32) &&& Int32.toUInt32 31)).toInt32)) C dJ6_bitCount_0f7a4_17 rfl ?_
  refine q_ldcw (v := 858993459) C dJ6_bitCount_0f7a4_18 w5_18 ?_
  refine q_iand (v := (((Int32.toUInt32 (x - (((Int32.toUInt32 x >>> (Int32.toUInt32 (1 : Int32) &&& Int32.toUInt32 31)).toInt32) &&& (1431655765 : Int32))) >>> (Int32.toUInt32 (2 : Int32) &&& Int32.toUInt32 31)).toInt32) &&& (858993459 : Int32))) C dJ6_bitCount_0f7a4_21 rfl ?_
  refine q_iadd (v := (((x - (((Int32.toUInt32 x >>> (Int32.toUInt32 (1 : Int32) &&& Int32.toUInt32 31)).toInt32) &&& (1431655765 : Int32))) &&& (858993459 : Int32)) + (((Int32.toUInt32 (x - (((Int32.toUInt32 x >>> (Int32.toUInt32 (1 : Int32) &&& Int32.toUInt32 31)).toInt32) &&& (1431655765 : Int32))) >>> (Int32.toUInt32 (2 : Int32) &&& Int32.toUInt32 31)).toInt32) &&& (858993459 : Int32)))) C dJ6_bitCount_0f7a4_22 rfl ?_
  refine q_istore_n (lv2 := [(0, .int (((x - (((Int32.toUInt32 x >>> (Int32.toUInt32 (1 : Int32) &&& Int32.toUInt32 31)).toInt32) &&& (1431655765 : Int32))) &&& (858993459 : Int32)) + (((Int32.toUInt32 (x - (((Int32.toUInt32 x >>> (Int32.toUInt32 (1 : Int32) &&& Int32.toUInt32 31)).toInt32) &&& (1431655765 : Int32))) >>> (Int32.toUInt32 (2 : Int32) &&& Int32.toUInt32 31)).toInt32) &&& (858993459 : Int32))))]) C dJ6_bitCount_0f7a4_23 (by decide) rfl ?_
  refine q_iload_n (j := 0) C dJ6_bitCount_0f7a4_24 rfl ?_
  refine q_iload_n (j := 0) C dJ6_bitCount_0f7a4_25 rfl ?_
  refine q_iconst (v := 4) C dJ6_bitCount_0f7a4_26 (by decide) ?_
  refine q_iushr (v := ((Int32.toUInt32 (((x - (((Int32.toUInt32 x >>> (Int32.toUInt32 (1 : Int32) &&& Int32.toUInt32 31)).toInt32) &&& (1431655765 : Int32))) &&& (858993459 : Int32)) + (((Int32.toUInt32 (x - (((Int32.toUInt32 x >>> (Int32.toUInt32 (1 : Int32) &&& Int32.toUInt32 31)).toInt32) &&& (1431655765 : Int32))) >>> (Int32.toUInt32 (2 : Int32) &&& Int32.toUInt32 31)).toInt32) &&& (858993459 : Int32))) >>> (Int32.toUInt32 (4 : Int32) &&& Int32.toUInt32 31)).toInt32)) C dJ6_bitCount_0f7a4_27 rfl ?_
  refine q_iadd (v := ((((x - (((Int32.toUInt32 x >>> (Int32.toUInt32 (1 : Int32) &&& Int32.toUInt32 31)).toInt32) &&& (1431655765 : Int32))) &&& (858993459 : Int32)) + (((Int32.toUInt32 (x - (((Int32.toUInt32 x >>> (Int32.toUInt32 (1 : Int32) &&& Int32.toUInt32 31)).toInt32) &&& (1431655765 : Int32))) >>> (Int32.toUInt32 (2 : Int32) &&& Int32.toUInt32 31)).toInt32) &&& (858993459 : Int32))) + ((Int32.toUInt32 (((x - (((Int32.toUInt32 x >>> (Int32.toUInt32 (1 : Int32) &&& Int32.toUInt32 31)).toInt32) &&& (1431655765 : Int32))) &&& (858993459 : Int32)) + (((Int32.toUInt32 (x - (((Int32.toUInt32 x >>> (Int32.toUInt32 (1 : Int32) &&& Int32.toUInt32 31)).toInt32) &&& (1431655765 : Int32))) >>> (Int32.toUInt32 (2 : Int32) &&& Int32.toUInt32 31)).toInt32) &&& (858993459 : Int32))) >>> (Int32.toUInt32 (4 : Int32) &&& Int32.toUInt32 31)).toInt32))) C dJ6_bitCount_0f7a4_28 rfl ?_
  refine q_ldcw (v := 252645135) C dJ6_bitCount_0f7a4_29 w5_19 ?_
  refine q_iand (v := (((((x - (((Int32.toUInt32 x >>> (Int32.toUInt32 (1 : Int32) &&& Int32.toUInt32 31)).toInt32) &&& (1431655765 : Int32))) &&& (858993459 : Int32)) + (((Int32.toUInt32 (x - (((Int32.toUInt32 x >>> (Int32.toUInt32 (1 : Int32) &&& Int32.toUInt32 31)).toInt32) &&& (1431655765 : Int32))) >>> (Int32.toUInt32 (2 : Int32) &&& Int32.toUInt32 31)).toInt32) &&& (858993459 : Int32))) + ((Int32.toUInt32 (((x - (((Int32.toUInt32 x >>> (Int32.toUInt32 (1 : Int32) &&& Int32.toUInt32 31)).toInt32) &&& (1431655765 : Int32))) &&& (858993459 : Int32)) + (((Int32.toUInt32 (x - (((Int32.toUInt32 x >>> (Int32.toUInt32 (1 : Int32) &&& Int32.toUInt32 31)).toInt32) &&& (1431655765 : Int32))) >>> (Int32.toUInt32 (2 : Int32) &&& Int32.toUInt32 31)).toInt32) &&& (858993459 : Int32))) >>> (Int32.toUInt32 (4 : Int32) &&& Int32.toUInt32 31)).toInt32)) &&& (252645135 : Int32))) C dJ6_bitCount_0f7a4_32 rfl ?_
  refine q_istore_n (lv2 := [(0, .int (((((x - (((Int32.toUInt32 x >>> (Int32.toUInt32 (1 : Int32) &&& Int32.toUInt32 31)).toInt32) &&& (1431655765 : Int32))) &&& (858993459 : Int32)) + (((Int32.toUInt32 (x - (((Int32.toUInt32 x >>> (Int32.toUInt32 (1 : Int32) &&& Int32.toUInt32 31)).toInt32) &&& (1431655765 : Int32))) >>> (Int32.toUInt32 (2 : Int32) &&& Int32.toUInt32 31)).toInt32) &&& (858993459 : Int32))) + ((Int32.toUInt32 (((x - (((Int32.toUInt32 x >>> (Int32.toUInt32 (1 : Int32) &&& Int32.toUInt32 31)).toInt32) &&& (1431655765 : Int32))) &&& (858993459 : Int32)) + (((Int32.toUInt32 (x - (((Int32.toUInt32 x >>> (Int32.toUInt32 (1 : Int32) &&& Int32.toUInt32 31)).toInt32) &&& (1431655765 : Int32))) >>> (Int32.toUInt32 (2 : Int32) &&& Int32.toUInt32 31)).toInt32) &&& (858993459 : Int32))) >>> (Int32.toUInt32 (4 : Int32) &&& Int32.toUInt32 31)).toInt32)) &&& (252645135 : Int32)))]) C dJ6_bitCount_0f7a4_33 (by decide) rfl ?_
  refine q_iload_n (j := 0) C dJ6_bitCount_0f7a4_34 rfl ?_
  refine q_iload_n (j := 0) C dJ6_bitCount_0f7a4_35 rfl ?_
  refine q_bipush (v := 8) C dJ6_bitCount_0f7a4_36 (by decide) ?_
  refine q_iushr (v := ((Int32.toUInt32 (((((x - (((Int32.toUInt32 x >>> (Int32.toUInt32 (1 : Int32) &&& Int32.toUInt32 31)).toInt32) &&& (1431655765 : Int32))) &&& (858993459 : Int32)) + (((Int32.toUInt32 (x - (((Int32.toUInt32 x >>> (Int32.toUInt32 (1 : Int32) &&& Int32.toUInt32 31)).toInt32) &&& (1431655765 : Int32))) >>> (Int32.toUInt32 (2 : Int32) &&& Int32.toUInt32 31)).toInt32) &&& (858993459 : Int32))) + ((Int32.toUInt32 (((x - (((Int32.toUInt32 x >>> (Int32.toUInt32 (1 : Int32) &&& Int32.toUInt32 31)).toInt32) &&& (1431655765 : Int32))) &&& (858993459 : Int32)) + (((Int32.toUInt32 (x - (((Int32.toUInt32 x >>> (Int32.toUInt32 (1 : Int32) &&& Int32.toUInt32 31)).toInt32) &&& (1431655765 : Int32))) >>> (Int32.toUInt32 (2 : Int32) &&& Int32.toUInt32 31)).toInt32) &&& (858993459 : Int32))) >>> (Int32.toUInt32 (4 : Int32) &&& Int32.toUInt32 31)).toInt32)) &&& (252645135 : Int32)) >>> (Int32.toUInt32 (8 : Int32) &&& Int32.toUInt32 31)).toInt32)) C dJ6_bitCount_0f7a4_38 rfl ?_
  refine q_iadd (v := ((((((x - (((Int32.toUInt32 x >>> (Int32.toUInt32 (1 : Int32) &&& Int32.toUInt32 31)).toInt32) &&& (1431655765 : Int32))) &&& (858993459 : Int32)) + (((Int32.toUInt32 (x - (((Int32.toUInt32 x >>> (Int32.toUInt32 (1 : Int32) &&& Int32.toUInt32 31)).toInt32) &&& (1431655765 : Int32))) >>> (Int32.toUInt32 (2 : Int32) &&& Int32.toUInt32 31)).toInt32) &&& (858993459 : Int32))) + ((Int32.toUInt32 (((x - (((Int32.toUInt32 x >>> (Int32.toUInt32 (1 : Int32) &&& Int32.toUInt32 31)).toInt32) &&& (1431655765 : Int32))) &&& (858993459 : Int32)) + (((Int32.toUInt32 (x - (((Int32.toUInt32 x >>> (Int32.toUInt32 (1 : Int32) &&& Int32.toUInt32 31)).toInt32) &&& (1431655765 : Int32))) >>> (Int32.toUInt32 (2 : Int32) &&& Int32.toUInt32 31)).toInt32) &&& (858993459 : Int32))) >>> (Int32.toUInt32 (4 : Int32) &&& Int32.toUInt32 31)).toInt32)) &&& (252645135 : Int32)) + ((Int32.toUInt32 (((((x - (((Int32.toUInt32 x >>> (Int32.toUInt32 (1 : Int32) &&& Int32.toUInt32 31)).toInt32) &&& (1431655765 : Int32))) &&& (858993459 : Int32)) + (((Int32.toUInt32 (x - (((Int32.toUInt32 x >>> (Int32.toUInt32 (1 : Int32) &&& Int32.toUInt32 31)).toInt32) &&& (1431655765 : Int32))) >>> (Int32.toUInt32 (2 : Int32) &&& Int32.toUInt32 31)).toInt32) &&& (858993459 : Int32))) + ((Int32.toUInt32 (((x - (((Int32.toUInt32 x >>> (Int32.toUInt32 (1 : Int32) &&& Int32.toUInt32 31)).toInt32) &&& (1431655765 : Int32))) &&& (858993459 : Int32)) + (((Int32.toUInt32 (x - (((Int32.toUInt32 x >>> (Int32.toUInt32 (1 : Int32) &&& Int32.toUInt32 31)).toInt32) &&& (1431655765 : Int32))) >>> (Int32.toUInt32 (2 : Int32) &&& Int32.toUInt32 31)).toInt32) &&& (858993459 : Int32))) >>> (Int32.toUInt32 (4 : Int32) &&& Int32.toUInt32 31)).toInt32)) &&& (252645135 : Int32)) >>> (Int32.toUInt32 (8 : Int32) &&& Int32.toUInt32 31)).toInt32))) C dJ6_bitCount_0f7a4_39 rfl ?_
  refine q_istore_n (lv2 := [(0, .int ((((((x - (((Int32.toUInt32 x >>> (Int32.toUInt32 (1 : Int32) &&& Int32.toUInt32 31)).toInt32) &&& (1431655765 : Int32))) &&& (858993459 : Int32)) + (((Int32.toUInt32 (x - (((Int32.toUInt32 x >>> (Int32.toUInt32 (1 : Int32) &&& Int32.toUInt32 31)).toInt32) &&& (1431655765 : Int32))) >>> (Int32.toUInt32 (2 : Int32) &&& Int32.toUInt32 31)).toInt32) &&& (858993459 : Int32))) + ((Int32.toUInt32 (((x - (((Int32.toUInt32 x >>> (Int32.toUInt32 (1 : Int32) &&& Int32.toUInt32 31)).toInt32) &&& (1431655765 : Int32))) &&& (858993459 : Int32)) + (((Int32.toUInt32 (x - (((Int32.toUInt32 x >>> (Int32.toUInt32 (1 : Int32) &&& Int32.toUInt32 31)).toInt32) &&& (1431655765 : Int32))) >>> (Int32.toUInt32 (2 : Int32) &&& Int32.toUInt32 31)).toInt32) &&& (858993459 : Int32))) >>> (Int32.toUInt32 (4 : Int32) &&& Int32.toUInt32 31)).toInt32)) &&& (252645135 : Int32)) + ((Int32.toUInt32 (((((x - (((Int32.toUInt32 x >>> (Int32.toUInt32 (1 : Int32) &&& Int32.toUInt32 31)).toInt32) &&& (1431655765 : Int32))) &&& (858993459 : Int32)) + (((Int32.toUInt32 (x - (((Int32.toUInt32 x >>> (Int32.toUInt32 (1 : Int32) &&& Int32.toUInt32 31)).toInt32) &&& (1431655765 : Int32))) >>> (Int32.toUInt32 (2 : Int32) &&& Int32.toUInt32 31)).toInt32) &&& (858993459 : Int32))) + ((Int32.toUInt32 (((x - (((Int32.toUInt32 x >>> (Int32.toUInt32 (1 : Int32) &&& Int32.toUInt32 31)).toInt32) &&& (1431655765 : Int32))) &&& (858993459 : Int32)) + (((Int32.toUInt32 (x - (((Int32.toUInt32 x >>> (Int32.toUInt32 (1 : Int32) &&& Int32.toUInt32 31)).toInt32) &&& (1431655765 : Int32))) >>> (Int32.toUInt32 (2 : Int32) &&& Int32.toUInt32 31)).toInt32) &&& (858993459 : Int32))) >>> (Int32.toUInt32 (4 : Int32) &&& Int32.toUInt32 31)).toInt32)) &&& (252645135 : Int32)) >>> (Int32.toUInt32 (8 : Int32) &&& Int32.toUInt32 31)).toInt32)))]) C dJ6_bitCount_0f7a4_40 (by decide) rfl ?_
  refine q_iload_n (j := 0) C dJ6_bitCount_0f7a4_41 rfl ?_
  refine q_iload_n (j := 0) C dJ6_bitCount_0f7a4_42 rfl ?_
  refine q_bipush (v := 16) C dJ6_bitCount_0f7a4_43 (by decide) ?_
  refine q_iushr (v := ((Int32.toUInt32 ((((((x - (((Int32.toUInt32 x >>> (Int32.toUInt32 (1 : Int32) &&& Int32.toUInt32 31)).toInt32) &&& (1431655765 : Int32))) &&& (858993459 : Int32)) + (((Int32.toUInt32 (x - (((Int32.toUInt32 x >>> (Int32.toUInt32 (1 : Int32) &&& Int32.toUInt32 31)).toInt32) &&& (1431655765 : Int32))) >>> (Int32.toUInt32 (2 : Int32) &&& Int32.toUInt32 31)).toInt32) &&& (858993459 : Int32))) + ((Int32.toUInt32 (((x - (((Int32.toUInt32 x >>> (Int32.toUInt32 (1 : Int32) &&& Int32.toUInt32 31)).toInt32) &&& (1431655765 : Int32))) &&& (858993459 : Int32)) + (((Int32.toUInt32 (x - (((Int32.toUInt32 x >>> (Int32.toUInt32 (1 : Int32) &&& Int32.toUInt32 31)).toInt32) &&& (1431655765 : Int32))) >>> (Int32.toUInt32 (2 : Int32) &&& Int32.toUInt32 31)).toInt32) &&& (858993459 : Int32))) >>> (Int32.toUInt32 (4 : Int32) &&& Int32.toUInt32 31)).toInt32)) &&& (252645135 : Int32)) + ((Int32.toUInt32 (((((x - (((Int32.toUInt32 x >>> (Int32.toUInt32 (1 : Int32) &&& Int32.toUInt32 31)).toInt32) &&& (1431655765 : Int32))) &&& (858993459 : Int32)) + (((Int32.toUInt32 (x - (((Int32.toUInt32 x >>> (Int32.toUInt32 (1 : Int32) &&& Int32.toUInt32 31)).toInt32) &&& (1431655765 : Int32))) >>> (Int32.toUInt32 (2 : Int32) &&& Int32.toUInt32 31)).toInt32) &&& (858993459 : Int32))) + ((Int32.toUInt32 (((x - (((Int32.toUInt32 x >>> (Int32.toUInt32 (1 : Int32) &&& Int32.toUInt32 31)).toInt32) &&& (1431655765 : Int32))) &&& (858993459 : Int32)) + (((Int32.toUInt32 (x - (((Int32.toUInt32 x >>> (Int32.toUInt32 (1 : Int32) &&& Int32.toUInt32 31)).toInt32) &&& (1431655765 : Int32))) >>> (Int32.toUInt32 (2 : Int32) &&& Int32.toUInt32 31)).toInt32) &&& (858993459 : Int32))) >>> (Int32.toUInt32 (4 : Int32) &&& Int32.toUInt32 31)).toInt32)) &&& (252645135 : Int32)) >>> (Int32.toUInt32 (8 : Int32) &&& Int32.toUInt32 31)).toInt32)) >>> (Int32.toUInt32 (16 : Int32) &&& Int32.toUInt32 31)).toInt32)) C dJ6_bitCount_0f7a4_45 rfl ?_
  refine q_iadd (v := (((((((x - (((Int32.toUInt32 x >>> (Int32.toUInt32 (1 : Int32) &&& Int32.toUInt32 31)).toInt32) &&& (1431655765 : Int32))) &&& (858993459 : Int32)) + (((Int32.toUInt32 (x - (((Int32.toUInt32 x >>> (Int32.toUInt32 (1 : Int32) &&& Int32.toUInt32 31)).toInt32) &&& (1431655765 : Int32))) >>> (Int32.toUInt32 (2 : Int32) &&& Int32.toUInt32 31)).toInt32) &&& (858993459 : Int32))) + ((Int32.toUInt32 (((x - (((Int32.toUInt32 x >>> (Int32.toUInt32 (1 : Int32) &&& Int32.toUInt32 31)).toInt32) &&& (1431655765 : Int32))) &&& (858993459 : Int32)) + (((Int32.toUInt32 (x - (((Int32.toUInt32 x >>> (Int32.toUInt32 (1 : Int32) &&& Int32.toUInt32 31)).toInt32) &&& (1431655765 : Int32))) >>> (Int32.toUInt32 (2 : Int32) &&& Int32.toUInt32 31)).toInt32) &&& (858993459 : Int32))) >>> (Int32.toUInt32 (4 : Int32) &&& Int32.toUInt32 31)).toInt32)) &&& (252645135 : Int32)) + ((Int32.toUInt32 (((((x - (((Int32.toUInt32 x >>> (Int32.toUInt32 (1 : Int32) &&& Int32.toUInt32 31)).toInt32) &&& (1431655765 : Int32))) &&& (858993459 : Int32)) + (((Int32.toUInt32 (x - (((Int32.toUInt32 x >>> (Int32.toUInt32 (1 : Int32) &&& Int32.toUInt32 31)).toInt32) &&& (1431655765 : Int32))) >>> (Int32.toUInt32 (2 : Int32) &&& Int32.toUInt32 31)).toInt32) &&& (858993459 : Int32))) + ((Int32.toUInt32 (((x - (((Int32.toUInt32 x >>> (Int32.toUInt32 (1 : Int32) &&& Int32.toUInt32 31)).toInt32) &&& (1431655765 : Int32))) &&& (858993459 : Int32)) + (((Int32.toUInt32 (x - (((Int32.toUInt32 x >>> (Int32.toUInt32 (1 : Int32) &&& Int32.toUInt32 31)).toInt32) &&& (1431655765 : Int32))) >>> (Int32.toUInt32 (2 : Int32) &&& Int32.toUInt32 31)).toInt32) &&& (858993459 : Int32))) >>> (Int32.toUInt32 (4 : Int32) &&& Int32.toUInt32 31)).toInt32)) &&& (252645135 : Int32)) >>> (Int32.toUInt32 (8 : Int32) &&& Int32.toUInt32 31)).toInt32)) + ((Int32.toUInt32 ((((((x - (((Int32.toUInt32 x >>> (Int32.toUInt32 (1 : Int32) &&& Int32.toUInt32 31)).toInt32) &&& (1431655765 : Int32))) &&& (858993459 : Int32)) + (((Int32.toUInt32 (x - (((Int32.toUInt32 x >>> (Int32.toUInt32 (1 : Int32) &&& Int32.toUInt32 31)).toInt32) &&& (1431655765 : Int32))) >>> (Int32.toUInt32 (2 : Int32) &&& Int32.toUInt32 31)).toInt32) &&& (858993459 : Int32))) + ((Int32.toUInt32 (((x - (((Int32.toUInt32 x >>> (Int32.toUInt32 (1 : Int32) &&& Int32.toUInt32 31)).toInt32) &&& (1431655765 : Int32))) &&& (858993459 : Int32)) + (((Int32.toUInt32 (x - (((Int32.toUInt32 x >>> (Int32.toUInt32 (1 : Int32) &&& Int32.toUInt32 31)).toInt32) &&& (1431655765 : Int32))) >>> (Int32.toUInt32 (2 : Int32) &&& Int32.toUInt32 31)).toInt32) &&& (858993459 : Int32))) >>> (Int32.toUInt32 (4 : Int32) &&& Int32.toUInt32 31)).toInt32)) &&& (252645135 : Int32)) + ((Int32.toUInt32 (((((x - (((Int32.toUInt32 x >>> (Int32.toUInt32 (1 : Int32) &&& Int32.toUInt32 31)).toInt32) &&& (1431655765 : Int32))) &&& (858993459 : Int32)) + (((Int32.toUInt32 (x - (((Int32.toUInt32 x >>> (Int32.toUInt32 (1 : Int32) &&& Int32.toUInt32 31)).toInt32) &&& (1431655765 : Int32))) >>> (Int32.toUInt32 (2 : Int32) &&& Int32.toUInt32 31)).toInt32) &&& (858993459 : Int32))) + ((Int32.toUInt32 (((x - (((Int32.toUInt32 x >>> (Int32.toUInt32 (1 : Int32) &&& Int32.toUInt32 31)).toInt32) &&& (1431655765 : Int32))) &&& (858993459 : Int32)) + (((Int32.toUInt32 (x - (((Int32.toUInt32 x >>> (Int32.toUInt32 (1 : Int32) &&& Int32.toUInt32 31)).toInt32) &&& (1431655765 : Int32))) >>> (Int32.toUInt32 (2 : Int32) &&& Int32.toUInt32 31)).toInt32) &&& (858993459 : Int32))) >>> (Int32.toUInt32 (4 : Int32) &&& Int32.toUInt32 31)).toInt32)) &&& (252645135 : Int32)) >>> (Int32.toUInt32 (8 : Int32) &&& Int32.toUInt32 31)).toInt32)) >>> (Int32.toUInt32 (16 : Int32) &&& Int32.toUInt32 31)).toInt32))) C dJ6_bitCount_0f7a4_46 rfl ?_
  refine q_istore_n (lv2 := [(0, .int (((((((x - (((Int32.toUInt32 x >>> (Int32.toUInt32 (1 : Int32) &&& Int32.toUInt32 31)).toInt32) &&& (1431655765 : Int32))) &&& (858993459 : Int32)) + (((Int32.toUInt32 (x - (((Int32.toUInt32 x >>> (Int32.toUInt32 (1 : Int32) &&& Int32.toUInt32 31)).toInt32) &&& (1431655765 : Int32))) >>> (Int32.toUInt32 (2 : Int32) &&& Int32.toUInt32 31)).toInt32) &&& (858993459 : Int32))) + ((Int32.toUInt32 (((x - (((Int32.toUInt32 x >>> (Int32.toUInt32 (1 : Int32) &&& Int32.toUInt32 31)).toInt32) &&& (1431655765 : Int32))) &&& (858993459 : Int32)) + (((Int32.toUInt32 (x - (((Int32.toUInt32 x >>> (Int32.toUInt32 (1 : Int32) &&& Int32.toUInt32 31)).toInt32) &&& (1431655765 : Int32))) >>> (Int32.toUInt32 (2 : Int32) &&& Int32.toUInt32 31)).toInt32) &&& (858993459 : Int32))) >>> (Int32.toUInt32 (4 : Int32) &&& Int32.toUInt32 31)).toInt32)) &&& (252645135 : Int32)) + ((Int32.toUInt32 (((((x - (((Int32.toUInt32 x >>> (Int32.toUInt32 (1 : Int32) &&& Int32.toUInt32 31)).toInt32) &&& (1431655765 : Int32))) &&& (858993459 : Int32)) + (((Int32.toUInt32 (x - (((Int32.toUInt32 x >>> (Int32.toUInt32 (1 : Int32) &&& Int32.toUInt32 31)).toInt32) &&& (1431655765 : Int32))) >>> (Int32.toUInt32 (2 : Int32) &&& Int32.toUInt32 31)).toInt32) &&& (858993459 : Int32))) + ((Int32.toUInt32 (((x - (((Int32.toUInt32 x >>> (Int32.toUInt32 (1 : Int32) &&& Int32.toUInt32 31)).toInt32) &&& (1431655765 : Int32))) &&& (858993459 : Int32)) + (((Int32.toUInt32 (x - (((Int32.toUInt32 x >>> (Int32.toUInt32 (1 : Int32) &&& Int32.toUInt32 31)).toInt32) &&& (1431655765 : Int32))) >>> (Int32.toUInt32 (2 : Int32) &&& Int32.toUInt32 31)).toInt32) &&& (858993459 : Int32))) >>> (Int32.toUInt32 (4 : Int32) &&& Int32.toUInt32 31)).toInt32)) &&& (252645135 : Int32)) >>> (Int32.toUInt32 (8 : Int32) &&& Int32.toUInt32 31)).toInt32)) + ((Int32.toUInt32 ((((((x - (((Int32.toUInt32 x >>> (Int32.toUInt32 (1 : Int32) &&& Int32.toUInt32 31)).toInt32) &&& (1431655765 : Int32))) &&& (858993459 : Int32)) + (((Int32.toUInt32 (x - (((Int32.toUInt32 x >>> (Int32.toUInt32 (1 : Int32) &&& Int32.toUInt32 31)).toInt32) &&& (1431655765 : Int32))) >>> (Int32.toUInt32 (2 : Int32) &&& Int32.toUInt32 31)).toInt32) &&& (858993459 : Int32))) + ((Int32.toUInt32 (((x - (((Int32.toUInt32 x >>> (Int32.toUInt32 (1 : Int32) &&& Int32.toUInt32 31)).toInt32) &&& (1431655765 : Int32))) &&& (858993459 : Int32)) + (((Int32.toUInt32 (x - (((Int32.toUInt32 x >>> (Int32.toUInt32 (1 : Int32) &&& Int32.toUInt32 31)).toInt32) &&& (1431655765 : Int32))) >>> (Int32.toUInt32 (2 : Int32) &&& Int32.toUInt32 31)).toInt32) &&& (858993459 : Int32))) >>> (Int32.toUInt32 (4 : Int32) &&& Int32.toUInt32 31)).toInt32)) &&& (252645135 : Int32)) + ((Int32.toUInt32 (((((x - (((Int32.toUInt32 x >>> (Int32.toUInt32 (1 : Int32) &&& Int32.toUInt32 31)).toInt32) &&& (1431655765 : Int32))) &&& (858993459 : Int32)) + (((Int32.toUInt32 (x - (((Int32.toUInt32 x >>> (Int32.toUInt32 (1 : Int32) &&& Int32.toUInt32 31)).toInt32) &&& (1431655765 : Int32))) >>> (Int32.toUInt32 (2 : Int32) &&& Int32.toUInt32 31)).toInt32) &&& (858993459 : Int32))) + ((Int32.toUInt32 (((x - (((Int32.toUInt32 x >>> (Int32.toUInt32 (1 : Int32) &&& Int32.toUInt32 31)).toInt32) &&& (1431655765 : Int32))) &&& (858993459 : Int32)) + (((Int32.toUInt32 (x - (((Int32.toUInt32 x >>> (Int32.toUInt32 (1 : Int32) &&& Int32.toUInt32 31)).toInt32) &&& (1431655765 : Int32))) >>> (Int32.toUInt32 (2 : Int32) &&& Int32.toUInt32 31)).toInt32) &&& (858993459 : Int32))) >>> (Int32.toUInt32 (4 : Int32) &&& Int32.toUInt32 31)).toInt32)) &&& (252645135 : Int32)) >>> (Int32.toUInt32 (8 : Int32) &&& Int32.toUInt32 31)).toInt32)) >>> (Int32.toUInt32 (16 : Int32) &&& Int32.toUInt32 31)).toInt32)))]) C dJ6_bitCount_0f7a4_47 (by decide) rfl ?_
  refine q_iload_n (j := 0) C dJ6_bitCount_0f7a4_48 rfl ?_
  refine q_bipush (v := 63) C dJ6_bitCount_0f7a4_49 (by decide) ?_
  refine q_iand (v := ((((((((x - (((Int32.toUInt32 x >>> (Int32.toUInt32 (1 : Int32) &&& Int32.toUInt32 31)).toInt32) &&& (1431655765 : Int32))) &&& (858993459 : Int32)) + (((Int32.toUInt32 (x - (((Int32.toUInt32 x >>> (Int32.toUInt32 (1 : Int32) &&& Int32.toUInt32 31)).toInt32) &&& (1431655765 : Int32))) >>> (Int32.toUInt32 (2 : Int32) &&& Int32.toUInt32 31)).toInt32) &&& (858993459 : Int32))) + ((Int32.toUInt32 (((x - (((Int32.toUInt32 x >>> (Int32.toUInt32 (1 : Int32) &&& Int32.toUInt32 31)).toInt32) &&& (1431655765 : Int32))) &&& (858993459 : Int32)) + (((Int32.toUInt32 (x - (((Int32.toUInt32 x >>> (Int32.toUInt32 (1 : Int32) &&& Int32.toUInt32 31)).toInt32) &&& (1431655765 : Int32))) >>> (Int32.toUInt32 (2 : Int32) &&& Int32.toUInt32 31)).toInt32) &&& (858993459 : Int32))) >>> (Int32.toUInt32 (4 : Int32) &&& Int32.toUInt32 31)).toInt32)) &&& (252645135 : Int32)) + ((Int32.toUInt32 (((((x - (((Int32.toUInt32 x >>> (Int32.toUInt32 (1 : Int32) &&& Int32.toUInt32 31)).toInt32) &&& (1431655765 : Int32))) &&& (858993459 : Int32)) + (((Int32.toUInt32 (x - (((Int32.toUInt32 x >>> (Int32.toUInt32 (1 : Int32) &&& Int32.toUInt32 31)).toInt32) &&& (1431655765 : Int32))) >>> (Int32.toUInt32 (2 : Int32) &&& Int32.toUInt32 31)).toInt32) &&& (858993459 : Int32))) + ((Int32.toUInt32 (((x - (((Int32.toUInt32 x >>> (Int32.toUInt32 (1 : Int32) &&& Int32.toUInt32 31)).toInt32) &&& (1431655765 : Int32))) &&& (858993459 : Int32)) + (((Int32.toUInt32 (x - (((Int32.toUInt32 x >>> (Int32.toUInt32 (1 : Int32) &&& Int32.toUInt32 31)).toInt32) &&& (1431655765 : Int32))) >>> (Int32.toUInt32 (2 : Int32) &&& Int32.toUInt32 31)).toInt32) &&& (858993459 : Int32))) >>> (Int32.toUInt32 (4 : Int32) &&& Int32.toUInt32 31)).toInt32)) &&& (252645135 : Int32)) >>> (Int32.toUInt32 (8 : Int32) &&& Int32.toUInt32 31)).toInt32)) + ((Int32.toUInt32 ((((((x - (((Int32.toUInt32 x >>> (Int32.toUInt32 (1 : Int32) &&& Int32.toUInt32 31)).toInt32) &&& (1431655765 : Int32))) &&& (858993459 : Int32)) + (((Int32.toUInt32 (x - (((Int32.toUInt32 x >>> (Int32.toUInt32 (1 : Int32) &&& Int32.toUInt32 31)).toInt32) &&& (1431655765 : Int32))) >>> (Int32.toUInt32 (2 : Int32) &&& Int32.toUInt32 31)).toInt32) &&& (858993459 : Int32))) + ((Int32.toUInt32 (((x - (((Int32.toUInt32 x >>> (Int32.toUInt32 (1 : Int32) &&& Int32.toUInt32 31)).toInt32) &&& (1431655765 : Int32))) &&& (858993459 : Int32)) + (((Int32.toUInt32 (x - (((Int32.toUInt32 x >>> (Int32.toUInt32 (1 : Int32) &&& Int32.toUInt32 31)).toInt32) &&& (1431655765 : Int32))) >>> (Int32.toUInt32 (2 : Int32) &&& Int32.toUInt32 31)).toInt32) &&& (858993459 : Int32))) >>> (Int32.toUInt32 (4 : Int32) &&& Int32.toUInt32 31)).toInt32)) &&& (252645135 : Int32)) + ((Int32.toUInt32 (((((x - (((Int32.toUInt32 x >>> (Int32.toUInt32 (1 : Int32) &&& Int32.toUInt32 31)).toInt32) &&& (1431655765 : Int32))) &&& (858993459 : Int32)) + (((Int32.toUInt32 (x - (((Int32.toUInt32 x >>> (Int32.toUInt32 (1 : Int32) &&& Int32.toUInt32 31)).toInt32) &&& (1431655765 : Int32))) >>> (Int32.toUInt32 (2 : Int32) &&& Int32.toUInt32 31)).toInt32) &&& (858993459 : Int32))) + ((Int32.toUInt32 (((x - (((Int32.toUInt32 x >>> (Int32.toUInt32 (1 : Int32) &&& Int32.toUInt32 31)).toInt32) &&& (1431655765 : Int32))) &&& (858993459 : Int32)) + (((Int32.toUInt32 (x - (((Int32.toUInt32 x >>> (Int32.toUInt32 (1 : Int32) &&& Int32.toUInt32 31)).toInt32) &&& (1431655765 : Int32))) >>> (Int32.toUInt32 (2 : Int32) &&& Int32.toUInt32 31)).toInt32) &&& (858993459 : Int32))) >>> (Int32.toUInt32 (4 : Int32) &&& Int32.toUInt32 31)).toInt32)) &&& (252645135 : Int32)) >>> (Int32.toUInt32 (8 : Int32) &&& Int32.toUInt32 31)).toInt32)) >>> (Int32.toUInt32 (16 : Int32) &&& Int32.toUInt32 31)).toInt32)) &&& (63 : Int32))) C dJ6_bitCount_0f7a4_51 rfl ?_
  exact q_iret C dJ6_bitCount_0f7a4_52 rfl (Nat.le_of_ble_eq_true rfl) (Nat.le_of_ble_eq_true rfl) ⟨rfl, rfl, rfl⟩
set_option maxHeartbeats 4000000 in
set_option maxRecDepth 100000 in
theorem B_tell {l : Launch} {G : GT} {h0 : Nat} {ad ln : Nat → Nat} {v : Nat → Int} {a : Nat → Nat → Int}  {x : Int} (hB : BX v a) (hx : -2147483648 ≤ x ∧ x ≤ 2147483647) : Mm l G yX12_tell cX12_tell 2 (some .boolean) 0 [.int (iI x)] h0 ad ln v a 0 0 (fun r v2 a2 => ∃ f : Int, r = some (.int (iI f)) ∧ fr [52] [51] v a v2 a2 ∧ BX v2 a2 ∧ (f = 0 ∨ f = 1)) := by
  refine Mm.mk (by decide) (Nat.le_of_ble_eq_true rfl) ?_
  intro p e s m args below meth c A C
  have fp0 : fr [52] [51] v a v a := fr.refl
  refine m_aload_n (j := 0) C dX12_tell_0 rfl ?_
  have rv1 : 0 ≤ v 52 ∧ v 52 ≤ 4000 := hB.1 52
  refine m_get (k := 52) C dX12_tell_1 w6_111 (by decide) rfl ?_
  refine m_sipush (z := 4000) C dX12_tell_4 (by decide) ?_
  refine m_icmp_ne (tgt := 12) C (r32_c (lo := 0) (hi := 4000) rv1.1 rv1.2 (by decide) (by decide)) ⟨by decide, by decide⟩ dX12_tell_7 (by decide) (fun c1 => ?_) (fun c1 => ?_)
  · refine m_aload_n (j := 0) C dX12_tell_12 rfl ?_
    refine m_geta (k := 51) C dX12_tell_13 w6_110 (by decide) rfl ?_
    refine m_aload_n (j := 0) C dX12_tell_16 rfl ?_
    refine m_get (k := 52) C dX12_tell_17 w6_111 (by decide) rfl ?_
    refine m_iload_n (j := 1) C dX12_tell_20 rfl ?_
    refine m_ast (k := 51) C dX12_tell_21 rfl rfl (by decide) (by omega) (by show _ < ((_ : Nat) : Int); simp only [mlen]; omega) (by decide) ?_
    refine hv2 (show BX v (up2 a 51 (v 52).toNat x) from hB.set (k := 51) (i := (v 52).toNat) (z := x) (show (-2147483648) ≤ x ∧ x ≤ 2147483647 by omega)) (fp0.set (k := 51) (i := (v 52).toNat) (z := x) rfl) (fun bq1 fq1 => ?_)
    refine m_aload_n (j := 0) C dX12_tell_22 rfl ?_
    refine m_dup C dX12_tell_23 rfl ?_
    refine m_get (k := 52) C dX12_tell_24 w6_111 (by decide) rfl ?_
    refine m_iconst C dX12_tell_27 ?_
    refine m_iadd C dX12_tell_28 ?_
    refine m_put (k := 52) (z := (v 52) + 1) C dX12_tell_29 w6_111 (by decide) rfl rfl rfl ?_
    refine hv2 (show BX (va_up v 52 ((v 52) + 1)) (up2 a 51 (v 52).toNat x) from bq1.put (k := 52) (z := (v 52) + 1) (show 0 ≤ ((v 52) + 1) ∧ ((v 52) + 1) ≤ 4000 by omega)) (fq1.put (k := 52) (z := (v 52) + 1) rfl) (fun bq2 fq2 => ?_)
    refine m_iconst C dX12_tell_32 ?_
    exact m_zret C dX12_tell_33 rfl (Or.inr rfl) (Nat.le_of_ble_eq_true rfl) (Nat.le_of_ble_eq_true rfl) ⟨1, rfl, fq2, bq2, (by omega)⟩
  · refine m_iconst C dX12_tell_10 ?_
    exact m_zret C dX12_tell_11 rfl (Or.inl rfl) (Nat.le_of_ble_eq_true rfl) (Nat.le_of_ble_eq_true rfl) ⟨0, rfl, fp0, hB, (by omega)⟩
set_option maxHeartbeats 4000000 in
set_option maxRecDepth 100000 in
theorem B_putRow {l : Launch} {G : GT} {h0 : Nat} {ad ln : Nat → Nat} {v : Nat → Int} {a : Nat → Nat → Int}  {x y : Int} (hB : BX v a) (hx : -2147483648 ≤ x ∧ x ≤ 2147483647) (hy : -2147483648 ≤ y ∧ y ≤ 2147483647) (h50 : v 50 < 40200) : Mm l G yX12_putRow cX12_putRow 3 none 0 [.int (iI x), .int (iI y)] h0 ad ln v a 0 0 (fun r v2 a2 => r = none ∧ fr [50] [48, 49] v a v2 a2 ∧ BX v2 a2 ∧ (v2 50 = v 50 + 1)) := by
  refine Mm.mk (by decide) (Nat.le_of_ble_eq_true rfl) ?_
  intro p e s m args below meth c A C
  have fp0 : fr [50] [48, 49] v a v a := fr.refl
  refine m_aload_n (j := 0) C dX12_putRow_0 rfl ?_
  refine m_geta (k := 48) C dX12_putRow_1 w6_107 (by decide) rfl ?_
  refine m_aload_n (j := 0) C dX12_putRow_4 rfl ?_
  have rv1 : 0 ≤ v 50 ∧ v 50 ≤ 40200 := hB.1 50
  refine m_get (k := 50) C dX12_putRow_5 w6_109 (by decide) rfl ?_
  refine m_iload_n (j := 1) C dX12_putRow_8 rfl ?_
  refine m_ast (k := 48) C dX12_putRow_9 rfl rfl (by decide) (by omega) (by show _ < ((_ : Nat) : Int); simp only [mlen]; omega) (by decide) ?_
  refine hv2 (show BX v (up2 a 48 (v 50).toNat x) from hB.set (k := 48) (i := (v 50).toNat) (z := x) (show (-2147483648) ≤ x ∧ x ≤ 2147483647 by omega)) (fp0.set (k := 48) (i := (v 50).toNat) (z := x) rfl) (fun bq1 fq1 => ?_)
  refine m_aload_n (j := 0) C dX12_putRow_10 rfl ?_
  refine m_geta (k := 49) C dX12_putRow_11 w6_108 (by decide) rfl ?_
  refine m_aload_n (j := 0) C dX12_putRow_14 rfl ?_
  refine m_get (k := 50) C dX12_putRow_15 w6_109 (by decide) rfl ?_
  refine m_iload_n (j := 2) C dX12_putRow_18 rfl ?_
  refine m_ast (k := 49) C dX12_putRow_19 rfl rfl (by decide) (by omega) (by show _ < ((_ : Nat) : Int); simp only [mlen]; omega) (by decide) ?_
  refine hv2 (show BX v (up2 (up2 a 48 (v 50).toNat x) 49 (v 50).toNat y) from bq1.set (k := 49) (i := (v 50).toNat) (z := y) (show (-2147483648) ≤ y ∧ y ≤ 2147483647 by omega)) (fq1.set (k := 49) (i := (v 50).toNat) (z := y) rfl) (fun bq2 fq2 => ?_)
  refine m_aload_n (j := 0) C dX12_putRow_20 rfl ?_
  refine m_dup C dX12_putRow_21 rfl ?_
  refine m_get (k := 50) C dX12_putRow_22 w6_109 (by decide) rfl ?_
  refine m_iconst C dX12_putRow_25 ?_
  refine m_iadd C dX12_putRow_26 ?_
  refine m_put (k := 50) (z := (v 50) + 1) C dX12_putRow_27 w6_109 (by decide) rfl rfl rfl ?_
  refine hv2 (show BX (va_up v 50 ((v 50) + 1)) (up2 (up2 a 48 (v 50).toNat x) 49 (v 50).toNat y) from bq2.put (k := 50) (z := (v 50) + 1) (show 0 ≤ ((v 50) + 1) ∧ ((v 50) + 1) ≤ 40200 by omega)) (fq2.put (k := 50) (z := (v 50) + 1) rfl) (fun bq3 fq3 => ?_)
  exact m_vret C dX12_putRow_30 rfl (Nat.le_of_ble_eq_true rfl) (Nat.le_of_ble_eq_true rfl) ⟨rfl, fq3, bq3, rfl⟩
set_option maxHeartbeats 4000000 in
set_option maxRecDepth 100000 in
theorem B_hasHead {l : Launch} {G : GT} {h0 : Nat} {ad ln : Nat → Nat} {v : Nat → Int} {a : Nat → Nat → Int}  (hB : BX v a)  : Mm l G yX12_hasHead cX12_hasHead 1 (some .boolean) 0 [] h0 ad ln v a 0 0 (fun r v2 a2 => ∃ f : Int, r = some (.int (iI f)) ∧ fr [] [] v a v2 a2 ∧ BX v2 a2 ∧ (f = 0 ∨ (f = 1 ∧ 0 < v 41 ∧ 2 ≤ v 32))) := by
  refine Mm.mk (by decide) (Nat.le_of_ble_eq_true rfl) ?_
  intro p e s m args below meth c A C
  have fp0 : fr [] [] v a v a := fr.refl
  refine m_aload_n (j := 0) C dX12_hasHead_0 rfl ?_
  have rv1 : 0 ≤ v 41 ∧ v 41 ≤ 200 := hB.1 41
  refine m_get (k := 41) C dX12_hasHead_1 w6_100 (by decide) rfl ?_
  refine m_if_le (tgt := 19) C (r32_c (lo := 0) (hi := 200) rv1.1 rv1.2 (by decide) (by decide)) dX12_hasHead_4 (by decide) (fun c1 => ?_) (fun c1 => ?_)
  · refine m_iconst C dX12_hasHead_19 ?_
    exact m_zret C dX12_hasHead_20 rfl (Or.inl rfl) (Nat.le_of_ble_eq_true rfl) (Nat.le_of_ble_eq_true rfl) ⟨0, rfl, fp0, hB, (by omega)⟩
  · refine m_aload_n (j := 0) C dX12_hasHead_7 rfl ?_
    have rv2 : 1 ≤ v 32 ∧ v 32 ≤ 50 := hB.1 32
    refine m_get (k := 32) C dX12_hasHead_8 w6_91 (by decide) rfl ?_
    refine m_iconst C dX12_hasHead_11 ?_
    refine m_icmp_lt (tgt := 19) C (r32_c (lo := 1) (hi := 50) rv2.1 rv2.2 (by decide) (by decide)) ⟨by decide, by decide⟩ dX12_hasHead_12 (by decide) (fun c2 => ?_) (fun c2 => ?_)
    · refine m_iconst C dX12_hasHead_19 ?_
      exact m_zret C dX12_hasHead_20 rfl (Or.inl rfl) (Nat.le_of_ble_eq_true rfl) (Nat.le_of_ble_eq_true rfl) ⟨0, rfl, fp0, hB, (by omega)⟩
    · refine m_iconst C dX12_hasHead_15 ?_
      refine m_goto (tgt := 20) C dX12_hasHead_16 (by decide) ?_
      exact m_zret C dX12_hasHead_20 rfl (Or.inr rfl) (Nat.le_of_ble_eq_true rfl) (Nat.le_of_ble_eq_true rfl) ⟨1, rfl, fp0, hB, (by omega)⟩
set_option maxHeartbeats 4000000 in
set_option maxRecDepth 100000 in
theorem B_onPage {l : Launch} {G : GT} {h0 : Nat} {ad ln : Nat → Nat} {v : Nat → Int} {a : Nat → Nat → Int}  (hB : BX v a)  : Mm l G yX12_onPage cX12_onPage 1 (some .int) 1 [] h0 ad ln v a 0 0 (fun r v2 a2 => ∃ f : Int, r = some (.int (iI f)) ∧ fr [] [] v a v2 a2 ∧ BX v2 a2 ∧ (1 ≤ f ∧ f ≤ 50)) := by
  refine Mm.mk (by decide) (Nat.le_of_ble_eq_true rfl) ?_
  intro p e s m args below meth c A C
  have fp0 : fr [] [] v a v a := fr.refl
  refine m_aload_n (j := 0) C dX12_onPage_0 rfl ?_
  refine hv2 (show 0 ≤ v 41 ∧ v 41 ≤ 200 from hB.1 41) (show 1 ≤ v 32 ∧ v 32 ≤ 50 from hB.1 32) (fun rv1 rv2 => ?_)
  refine m_call (mc2 := 0) (ms2 := 0) (As := []) (rest := []) C (B_hasHead  hB ) dX12_onPage_1 kV_X12_288 rfl ck_13 rfl (Nat.le_of_ble_eq_true rfl) ⟨Nat.le_of_ble_eq_true rfl, Nat.le_of_ble_eq_true rfl⟩ ⟨Nat.le_of_ble_eq_true rfl, Nat.le_of_ble_eq_true rfl⟩ (fun rh1 vh1 ah1 h1 => ?_)
  obtain ⟨f1, rfl, fn1, bn1, ex1⟩ := h1
  obtain ⟨rfl, rfl⟩ := fn1.eq
  have gf1 : f1 = 0 ∨ (f1 = 1 ∧ 0 < (v 41) ∧ 2 ≤ (v 32)) := ex1
  refine m_st (st2 := [.int (iI f1)]) rfl ?_
  refine m_if_eq (tgt := 16) C (r32_0p gf1) dX12_onPage_4 (by decide) (fun c1 => ?_) (fun c1 => ?_)
  · clear gf1
    refine m_aload_n (j := 0) C dX12_onPage_16 rfl ?_
    refine m_get (k := 32) C dX12_onPage_17 w6_91 (by decide) rfl ?_
    exact m_iret C dX12_onPage_20 rfl (Nat.le_of_ble_eq_true rfl) (Nat.le_of_ble_eq_true rfl) ⟨(v 32), rfl, fp0, hB, (by omega)⟩
  · replace gf1 := (gf1.resolve_left c1)
    refine m_aload_n (j := 0) C dX12_onPage_7 rfl ?_
    refine m_get (k := 32) C dX12_onPage_8 w6_91 (by decide) rfl ?_
    refine m_iconst C dX12_onPage_11 ?_
    refine m_isub C dX12_onPage_12 ?_
    refine m_goto (tgt := 20) C dX12_onPage_13 (by decide) ?_
    exact m_iret C dX12_onPage_20 rfl (Nat.le_of_ble_eq_true rfl) (Nat.le_of_ble_eq_true rfl) ⟨((v 32) - 1), rfl, fp0, hB, (by omega)⟩
set_option maxHeartbeats 4000000 in
set_option maxRecDepth 100000 in
theorem M_pages {l : Launch} {G : GT} {h0 : Nat} {ad ln : Nat → Nat} {v : Nat → Int} {a : Nat → Nat → Int}  (hB : BX v a)  : Mm l G yX12_pages cX12_pages 1 (some .int) 2 [] h0 ad ln v a 0 0 (fun r v2 a2 => ∃ f : Int, r = some (.int (iI f)) ∧ fr [] [] v a v2 a2 ∧ BX v2 a2 ∧ (0 ≤ f ∧ f ≤ 249)) := by
  refine Mm.mk (by decide) (Nat.le_of_ble_eq_true rfl) ?_
  intro p e s m args below meth c A C
  have fp0 : fr [] [] v a v a := fr.refl
  refine m_aload_n (j := 0) C dX12_pages_0 rfl ?_
  have rv1 : 0 ≤ v 36 ∧ v 36 ≤ 200 := hB.1 36
  refine m_get (k := 36) C dX12_pages_1 w6_95 (by decide) rfl ?_
  refine m_aload_n (j := 0) C dX12_pages_4 rfl ?_
  refine m_call (mc2 := 0) (ms2 := 0) (As := []) (rest := [.int (iI (v 36))]) C (B_onPage  hB ) dX12_pages_5 kV_X12_291 rfl ck_13 rfl (Nat.le_of_ble_eq_true rfl) ⟨Nat.le_of_ble_eq_true rfl, Nat.le_of_ble_eq_true rfl⟩ ⟨Nat.le_of_ble_eq_true rfl, Nat.le_of_ble_eq_true rfl⟩ (fun rh1 vh1 ah1 h1 => ?_)
  obtain ⟨f1, rfl, fn1, bn1, ex1⟩ := h1
  obtain ⟨rfl, rfl⟩ := fn1.eq
  have gf1 : 1 ≤ f1 ∧ f1 ≤ 50 := ex1
  refine m_st (st2 := [.int (iI f1), .int (iI (v 36))]) rfl ?_
  refine m_iadd C dX12_pages_8 ?_
  refine m_iconst C dX12_pages_9 ?_
  refine m_isub C dX12_pages_10 ?_
  refine m_aload_n (j := 0) C dX12_pages_11 rfl ?_
  refine m_call (mc2 := 0) (ms2 := 0) (As := []) (rest := [.int (iI (((v 36) + f1) - 1))]) C (B_onPage  hB ) dX12_pages_12 kV_X12_291 rfl ck_13 rfl (Nat.le_of_ble_eq_true rfl) ⟨Nat.le_of_ble_eq_true rfl, Nat.le_of_ble_eq_true rfl⟩ ⟨Nat.le_of_ble_eq_true rfl, Nat.le_of_ble_eq_true rfl⟩ (fun rh2 vh2 ah2 h2 => ?_)
  obtain ⟨f2, rfl, fn2, bn2, ex2⟩ := h2
  obtain ⟨rfl, rfl⟩ := fn2.eq
  have gf2 : 1 ≤ f2 ∧ f2 ≤ 50 := ex2
  refine m_st (st2 := [.int (iI f2), .int (iI (((v 36) + f1) - 1))]) rfl ?_
  obtain ⟨dq1, hdq1⟩ : ∃ q : Int, q = (((v 36) + f1) - 1) / f2 := ⟨_, rfl⟩
  have rdq1 := ediv_r (x := ((v 36) + f1) - 1) (y := f2) (by omega) (by omega)
  rw [← hdq1] at rdq1
  refine m_idiv (w := iI dq1) C dX12_pages_15 (iI_ne0 ⟨by omega, by omega⟩) (by rw [hdq1]; exact iI_div ⟨by omega, by omega⟩ ⟨by omega, by omega⟩) ?_
  exact m_iret C dX12_pages_16 rfl (Nat.le_of_ble_eq_true rfl) (Nat.le_of_ble_eq_true rfl) ⟨dq1, rfl, fp0, hB, (by omega)⟩
set_option maxHeartbeats 4000000 in
set_option maxRecDepth 100000 in
theorem B_cell {l : Launch} {G : GT} {h0 : Nat} {ad ln : Nat → Nat} {v : Nat → Int} {a : Nat → Nat → Int}  {l0 i : Int} (hB : BX v a) (hl0 : -2147483648 ≤ l0 ∧ l0 ≤ 2147483647) (hi : -2147483648 ≤ i ∧ i ≤ 2147483647) : Mm l G yX12_cell cX12_cell 3 (some .int) 2 [.int (iI l0), .int (iI i)] h0 ad ln v a 0 0 (fun r v2 a2 => ∃ f : Int, r = some (.int (iI f)) ∧ fr [0, 1] [] v a v2 a2 ∧ BX v2 a2 ∧ (True)) := by
  refine Mm.mk (by decide) (Nat.le_of_ble_eq_true rfl) ?_
  intro p e s m args below meth c A C
  have fp0 : fr [0, 1] [] v a v a := fr.refl
  refine m_aload_n (j := 0) C dX12_cell_0 rfl ?_
  refine m_iload_n (j := 1) C dX12_cell_1 rfl ?_
  have rv1 : 0 ≤ v 36 ∧ v 36 ≤ 200 := hB.1 36
  refine m_call (mc2 := 0) (ms2 := 0) (As := [.int (iI l0)]) (rest := []) C (M_lineFault (l0 := l0) hB.rg ⟨by omega, by omega⟩ ⟨hB.1 36, hB.2 34⟩) dX12_cell_2 kV_X12_294 rfl ck_13 rfl (Nat.le_of_ble_eq_true rfl) ⟨Nat.le_of_ble_eq_true rfl, Nat.le_of_ble_eq_true rfl⟩ ⟨Nat.le_of_ble_eq_true rfl, Nat.le_of_ble_eq_true rfl⟩ (fun rh1 vh1 ah1 h1 => ?_)
  obtain ⟨f1, rfl, hf1, rfl, rfl⟩ := h1
  refine hv2 (show (f1 = 2 ∧ ¬ (0 ≤ l0 ∧ l0 < (v 36))) ∨ (f1 = 1 ∧ 0 ≤ l0 ∧ l0 < (v 36) ∧ a 34 l0.toNat < 0) ∨ (f1 = 0 ∧ 0 ≤ l0 ∧ l0 < (v 36) ∧ 0 ≤ a 34 l0.toNat) from hf1) (show (-1) ≤ a 34 l0.toNat ∧ a 34 l0.toNat ≤ 200 from hB.2 34 (l0.toNat)) (fun gf1 ra1 => ?_)
  refine m_st (st2 := [.int (iI f1)]) rfl ?_
  refine m_if_le (tgt := 18) C ⟨by omega, by omega⟩ dX12_cell_5 (by decide) (fun c1 => ?_) (fun c1 => ?_)
  · refine m_iload_n (j := 2) C dX12_cell_18 rfl ?_
    refine m_iconst C dX12_cell_19 ?_
    refine m_aload_n (j := 0) C dX12_cell_20 rfl ?_
    refine m_geta (k := 34) C dX12_cell_21 w6_93 (by decide) rfl ?_
    refine m_iload_n (j := 1) C dX12_cell_24 rfl ?_
    refine m_ald (k := 34) C dX12_cell_25 rfl rfl (by decide) (by omega) (by show _ < ((_ : Nat) : Int); simp only [mlen]; omega) (by decide) ?_
    refine m_iconst C dX12_cell_26 ?_
    refine m_isub C dX12_cell_27 ?_
    refine m_callS (As := [.int (iI i), .int (iI 0), .int (iI ((a 34 l0.toNat) - 1))]) (rest := []) C (fun L E => s_isIn (iI i) (iI 0) (iI ((a 34 l0.toNat) - 1))) dX12_cell_28 kS_X12_174 rfl rfl (Nat.le_of_ble_eq_true rfl) ⟨Nat.le_of_ble_eq_true rfl, Nat.le_of_ble_eq_true rfl⟩ ⟨Nat.le_of_ble_eq_true rfl, Nat.le_of_ble_eq_true rfl⟩ ?_
    rcases inn_c (x := i) (lo := 0) (hi := (a 34 l0.toNat) - 1) ⟨by omega, by omega⟩ ⟨by decide, by decide⟩ ⟨by omega, by omega⟩ with ⟨h2a, h2b, h2e⟩ | ⟨h2a, h2e⟩
    · refine m_st (st2 := [.int (iI 1)]) (by rw [h2e]) ?_
      refine m_if_eq (tgt := 53) C ⟨by decide, by decide⟩ dX12_cell_31 (by decide) (fun z => absurd z (by omega)) (fun _ => ?_)
      refine m_aload_n (j := 0) C dX12_cell_34 rfl ?_
      refine m_aload_n (j := 0) C dX12_cell_35 rfl ?_
      refine m_geta (k := 35) C dX12_cell_36 w6_94 (by decide) rfl ?_
      refine m_sipush (z := 200) C dX12_cell_39 (by decide) ?_
      refine m_iload_n (j := 1) C dX12_cell_42 rfl ?_
      refine m_imul C dX12_cell_43 ?_
      refine m_iload_n (j := 2) C dX12_cell_44 rfl ?_
      refine m_iadd C dX12_cell_45 ?_
      refine m_ald (k := 35) C dX12_cell_46 rfl rfl (by decide) (by omega) (by show _ < ((_ : Nat) : Int); simp only [mlen]; omega) (by decide) ?_
      have ra2 : (-2147483648) ≤ a 35 ((200 * l0) + i).toNat ∧ a 35 ((200 * l0) + i).toNat ≤ 2147483647 := hB.2 35 (((200 * l0) + i).toNat)
      refine m_call (mc2 := 0) (ms2 := 0) (As := [.int (iI (a 35 ((200 * l0) + i).toNat))]) (rest := []) C (B_fine (x := a 35 ((200 * l0) + i).toNat) hB (by show -2147483648 ≤ (a 35 ((200 * l0) + i).toNat) ∧ (a 35 ((200 * l0) + i).toNat) ≤ 2147483647; omega)) dX12_cell_47 kV_X12_158 rfl ck_13 rfl (Nat.le_of_ble_eq_true rfl) ⟨Nat.le_of_ble_eq_true rfl, Nat.le_of_ble_eq_true rfl⟩ ⟨Nat.le_of_ble_eq_true rfl, Nat.le_of_ble_eq_true rfl⟩ (fun rh3 vh3 ah3 h3 => ?_)
      obtain ⟨f2, rfl, fn1, bn1, ex1⟩ := h3
      refine hv2 (fp0.call fn1 rfl rfl) (show f2 = (a 35 ((200 * l0) + i).toNat) from ex1) (fun fq1 gf2 => ?_)
      refine m_st (st2 := [.int (iI f2)]) rfl ?_
      refine m_goto (tgt := 58) C dX12_cell_50 (by decide) ?_
      exact m_iret C dX12_cell_58 rfl (Nat.le_of_ble_eq_true rfl) (Nat.le_of_ble_eq_true rfl) ⟨f2, rfl, fq1, bn1, trivial⟩
    · refine m_st (st2 := [.int (iI 0)]) (by rw [h2e]) ?_
      refine m_if_eq (tgt := 53) C ⟨by decide, by decide⟩ dX12_cell_31 (by decide) (fun _ => ?_) (fun z => absurd z (by omega))
      refine m_aload_n (j := 0) C dX12_cell_53 rfl ?_
      refine m_iconst C dX12_cell_54 ?_
      refine m_call (mc2 := 0) (ms2 := 0) (As := [.int (iI 2)]) (rest := []) C (B_bad (x := 2) hB (by show -2147483648 ≤ (2 : Int) ∧ (2 : Int) ≤ 2147483647; omega)) dX12_cell_55 kV_X12_154 rfl ck_13 rfl (Nat.le_of_ble_eq_true rfl) ⟨Nat.le_of_ble_eq_true rfl, Nat.le_of_ble_eq_true rfl⟩ ⟨Nat.le_of_ble_eq_true rfl, Nat.le_of_ble_eq_true rfl⟩ (fun rh4 vh4 ah4 h4 => ?_)
      obtain ⟨f3, rfl, fn2, bn2, ex2⟩ := h4
      refine hv2 (fp0.call fn2 rfl rfl) (show f3 = -1 from ex2) (fun fq2 gf3 => ?_)
      refine m_st (st2 := [.int (iI f3)]) rfl ?_
      exact m_iret C dX12_cell_58 rfl (Nat.le_of_ble_eq_true rfl) (Nat.le_of_ble_eq_true rfl) ⟨f3, rfl, fq2, bn2, trivial⟩
  · refine m_aload_n (j := 0) C dX12_cell_8 rfl ?_
    refine m_aload_n (j := 0) C dX12_cell_9 rfl ?_
    refine m_iload_n (j := 1) C dX12_cell_10 rfl ?_
    refine m_call (mc2 := 0) (ms2 := 0) (As := [.int (iI l0)]) (rest := [.ref h0]) C (M_lineFault (l0 := l0) hB.rg ⟨by omega, by omega⟩ ⟨hB.1 36, hB.2 34⟩) dX12_cell_11 kV_X12_294 rfl ck_13 rfl (Nat.le_of_ble_eq_true rfl) ⟨Nat.le_of_ble_eq_true rfl, Nat.le_of_ble_eq_true rfl⟩ ⟨Nat.le_of_ble_eq_true rfl, Nat.le_of_ble_eq_true rfl⟩ (fun rh5 vh5 ah5 h5 => ?_)
    obtain ⟨f4, rfl, hf4, rfl, rfl⟩ := h5
    have gf4 : (f4 = 2 ∧ ¬ (0 ≤ l0 ∧ l0 < (v 36))) ∨ (f4 = 1 ∧ 0 ≤ l0 ∧ l0 < (v 36) ∧ a 34 l0.toNat < 0) ∨ (f4 = 0 ∧ 0 ≤ l0 ∧ l0 < (v 36) ∧ 0 ≤ a 34 l0.toNat) := hf4
    refine m_st (st2 := [.int (iI f4), .ref h0]) rfl ?_
    refine m_call (mc2 := 0) (ms2 := 0) (As := [.int (iI f4)]) (rest := []) C (B_bad (x := f4) hB (by show -2147483648 ≤ f4 ∧ f4 ≤ 2147483647; omega)) dX12_cell_14 kV_X12_154 rfl ck_13 rfl (Nat.le_of_ble_eq_true rfl) ⟨Nat.le_of_ble_eq_true rfl, Nat.le_of_ble_eq_true rfl⟩ ⟨Nat.le_of_ble_eq_true rfl, Nat.le_of_ble_eq_true rfl⟩ (fun rh6 vh6 ah6 h6 => ?_)
    obtain ⟨f5, rfl, fn3, bn3, ex3⟩ := h6
    refine hv2 (fp0.call fn3 rfl rfl) (show f5 = -1 from ex3) (fun fq3 gf5 => ?_)
    refine m_st (st2 := [.int (iI f5)]) rfl ?_
    exact m_iret C dX12_cell_17 rfl (Nat.le_of_ble_eq_true rfl) (Nat.le_of_ble_eq_true rfl) ⟨f5, rfl, fq3, bn3, trivial⟩
set_option maxHeartbeats 4000000 in
set_option maxRecDepth 100000 in
theorem M_page {l : Launch} {G : GT} {h0 : Nat} {ad ln : Nat → Nat} {v : Nat → Int} {a : Nat → Nat → Int}  {q w1 i : Int} (hB : BX v a) (hq : -2147483648 ≤ q ∧ q ≤ 2147483647) (hw1 : -2147483648 ≤ w1 ∧ w1 ≤ 2147483647) (hi : -2147483648 ≤ i ∧ i ≤ 2147483647) : Mm l G yX12_page cX12_page 5 (some .int) 3 [.int (iI q), .int (iI w1), .int (iI i)] h0 ad ln v a 0 0 (fun r v2 a2 => ∃ f : Int, r = some (.int (iI f)) ∧ fr [0, 1] [] v a v2 a2 ∧ BX v2 a2 ∧ (True)) := by
  refine Mm.mk (by decide) (Nat.le_of_ble_eq_true rfl) ?_
  intro p e s m args below meth c A C
  have fp0 : fr [0, 1] [] v a v a := fr.refl
  refine m_iload_n (j := 1) C dX12_page_0 rfl ?_
  refine m_iconst C dX12_page_1 ?_
  refine m_aload_n (j := 0) C dX12_page_2 rfl ?_
  refine m_call (mc2 := 0) (ms2 := 0) (As := []) (rest := [.int (iI 0), .int (iI q)]) C (M_pages  hB ) dX12_page_3 kV_X12_297 rfl ck_13 rfl (Nat.le_of_ble_eq_true rfl) ⟨Nat.le_of_ble_eq_true rfl, Nat.le_of_ble_eq_true rfl⟩ ⟨Nat.le_of_ble_eq_true rfl, Nat.le_of_ble_eq_true rfl⟩ (fun rh1 vh1 ah1 h1 => ?_)
  obtain ⟨f1, rfl, fn1, bn1, ex1⟩ := h1
  obtain ⟨rfl, rfl⟩ := fn1.eq
  have gf1 : 0 ≤ f1 ∧ f1 ≤ 249 := ex1
  refine m_st (st2 := [.int (iI f1), .int (iI 0), .int (iI q)]) rfl ?_
  refine m_iconst C dX12_page_6 ?_
  refine m_isub C dX12_page_7 ?_
  refine m_callS (As := [.int (iI q), .int (iI 0), .int (iI (f1 - 1))]) (rest := []) C (fun L E => s_isIn (iI q) (iI 0) (iI (f1 - 1))) dX12_page_8 kS_X12_174 rfl rfl (Nat.le_of_ble_eq_true rfl) ⟨Nat.le_of_ble_eq_true rfl, Nat.le_of_ble_eq_true rfl⟩ ⟨Nat.le_of_ble_eq_true rfl, Nat.le_of_ble_eq_true rfl⟩ ?_
  rcases inn_c (x := q) (lo := 0) (hi := f1 - 1) ⟨by omega, by omega⟩ ⟨by decide, by decide⟩ ⟨by omega, by omega⟩ with ⟨h2a, h2b, h2e⟩ | ⟨h2a, h2e⟩
  · refine m_st (st2 := [.int (iI 1)]) (by rw [h2e]) ?_
    refine m_if_ne (tgt := 20) C ⟨by decide, by decide⟩ dX12_page_11 (by decide) (fun _ => ?_) (fun z => absurd z (by omega))
    refine m_aload_n (j := 0) C dX12_page_20 rfl ?_
    refine hv2 (show 0 ≤ v 41 ∧ v 41 ≤ 200 from hB.1 41) (show 1 ≤ v 32 ∧ v 32 ≤ 50 from hB.1 32) (fun rv1 rv2 => ?_)
    refine m_call (mc2 := 0) (ms2 := 0) (As := []) (rest := []) C (B_hasHead  hB ) dX12_page_21 kV_X12_288 rfl ck_13 rfl (Nat.le_of_ble_eq_true rfl) ⟨Nat.le_of_ble_eq_true rfl, Nat.le_of_ble_eq_true rfl⟩ ⟨Nat.le_of_ble_eq_true rfl, Nat.le_of_ble_eq_true rfl⟩ (fun rh3 vh3 ah3 h3 => ?_)
    obtain ⟨f2, rfl, fn2, bn2, ex2⟩ := h3
    obtain ⟨rfl, rfl⟩ := fn2.eq
    have gf2 : f2 = 0 ∨ (f2 = 1 ∧ 0 < (v 41) ∧ 2 ≤ (v 32)) := ex2
    refine m_st (st2 := [.int (iI f2)]) rfl ?_
    refine m_if_eq (tgt := 64) C (r32_0p gf2) dX12_page_24 (by decide) (fun c1 => ?_) (fun c1 => ?_)
    · clear gf2
      refine m_aload_n (j := 0) C dX12_page_64 rfl ?_
      refine m_call (mc2 := 0) (ms2 := 0) (As := []) (rest := []) C (B_hasHead  hB ) dX12_page_65 kV_X12_288 rfl ck_13 rfl (Nat.le_of_ble_eq_true rfl) ⟨Nat.le_of_ble_eq_true rfl, Nat.le_of_ble_eq_true rfl⟩ ⟨Nat.le_of_ble_eq_true rfl, Nat.le_of_ble_eq_true rfl⟩ (fun rh4 vh4 ah4 h4 => ?_)
      obtain ⟨f3, rfl, fn3, bn3, ex3⟩ := h4
      obtain ⟨rfl, rfl⟩ := fn3.eq
      have gf3 : f3 = 0 ∨ (f3 = 1 ∧ 0 < (v 41) ∧ 2 ≤ (v 32)) := ex3
      refine m_st (st2 := [.int (iI f3)]) rfl ?_
      refine m_if_eq (tgt := 77) C (r32_0p gf3) dX12_page_68 (by decide) (fun c2 => ?_) (fun c2 => ?_)
      · clear gf3
        refine m_iload_n (j := 2) C dX12_page_77 rfl ?_
        obtain ⟨zz1, hzz1, ezz1⟩ := iI_of (iI w1)
        refine m_st (st2 := [.int (iI zz1)]) (by rw [ezz1]) ?_
        refine m_istore (lv2 := [(4, .int (iI zz1)), (0, .ref h0), (1, .int (iI q)), (2, .int (iI w1)), (3, .int (iI i))]) C dX12_page_78 (by decide) rfl ?_
        refine m_iload (j := 0) C dX12_page_80 rfl ?_
        refine m_iconst C dX12_page_82 ?_
        refine m_aload_n (j := 1) C dX12_page_83 rfl ?_
        refine m_call (mc2 := 0) (ms2 := 0) (As := []) (rest := [.int (iI 0), .int (iI zz1)]) C (B_onPage  hB ) dX12_page_84 kV_X12_291 rfl ck_13 rfl (Nat.le_of_ble_eq_true rfl) ⟨Nat.le_of_ble_eq_true rfl, Nat.le_of_ble_eq_true rfl⟩ ⟨Nat.le_of_ble_eq_true rfl, Nat.le_of_ble_eq_true rfl⟩ (fun rh5 vh5 ah5 h5 => ?_)
        obtain ⟨f4, rfl, fn4, bn4, ex4⟩ := h5
        obtain ⟨rfl, rfl⟩ := fn4.eq
        have gf4 : 1 ≤ f4 ∧ f4 ≤ 50 := ex4
        refine m_st (st2 := [.int (iI f4), .int (iI 0), .int (iI zz1)]) rfl ?_
        refine m_iconst C dX12_page_87 ?_
        refine m_isub C dX12_page_88 ?_
        refine m_callS (As := [.int (iI zz1), .int (iI 0), .int (iI (f4 - 1))]) (rest := []) C (fun L E => s_isIn (iI zz1) (iI 0) (iI (f4 - 1))) dX12_page_89 kS_X12_174 rfl rfl (Nat.le_of_ble_eq_true rfl) ⟨Nat.le_of_ble_eq_true rfl, Nat.le_of_ble_eq_true rfl⟩ ⟨Nat.le_of_ble_eq_true rfl, Nat.le_of_ble_eq_true rfl⟩ ?_
        rcases inn_c (x := zz1) (lo := 0) (hi := f4 - 1) ⟨by omega, by omega⟩ ⟨by decide, by decide⟩ ⟨by omega, by omega⟩ with ⟨h6a, h6b, h6e⟩ | ⟨h6a, h6e⟩
        · refine m_st (st2 := [.int (iI 1)]) (by rw [h6e]) ?_
          refine m_if_ne (tgt := 101) C ⟨by decide, by decide⟩ dX12_page_92 (by decide) (fun _ => ?_) (fun z => absurd z (by omega))
          refine m_aload_n (j := 1) C dX12_page_101 rfl ?_
          refine m_iload_n (j := 2) C dX12_page_102 rfl ?_
          refine m_aload_n (j := 1) C dX12_page_103 rfl ?_
          refine m_call (mc2 := 0) (ms2 := 0) (As := []) (rest := [.int (iI q), .ref h0]) C (B_onPage  hB ) dX12_page_104 kV_X12_291 rfl ck_13 rfl (Nat.le_of_ble_eq_true rfl) ⟨Nat.le_of_ble_eq_true rfl, Nat.le_of_ble_eq_true rfl⟩ ⟨Nat.le_of_ble_eq_true rfl, Nat.le_of_ble_eq_true rfl⟩ (fun rh7 vh7 ah7 h7 => ?_)
          obtain ⟨f5, rfl, fn5, bn5, ex5⟩ := h7
          obtain ⟨rfl, rfl⟩ := fn5.eq
          have gf5 : 1 ≤ f5 ∧ f5 ≤ 50 := ex5
          refine m_st (st2 := [.int (iI f5), .int (iI q), .ref h0]) rfl ?_
          refine m_imul C dX12_page_107 ?_
          refine m_iload (j := 0) C dX12_page_108 rfl ?_
          obtain ⟨zz2, hzz2, ezz2⟩ := iI_of (iI (q * f5))
          refine m_st (st2 := [.int (iI zz1), .int (iI zz2), .ref h0]) (by rw [ezz2]) ?_
          refine m_iadd C dX12_page_110 ?_
          obtain ⟨zz3, hzz3, ezz3⟩ := iI_of (iI (zz2 + zz1))
          refine m_st (st2 := [.int (iI zz3), .ref h0]) (by rw [ezz3]) ?_
          refine m_iload_n (j := 4) C dX12_page_111 rfl ?_
          refine m_call (mc2 := 0) (ms2 := 0) (As := [.int (iI zz3), .int (iI i)]) (rest := []) C (B_cell (l0 := zz3) (i := i) hB (by show -2147483648 ≤ zz3 ∧ zz3 ≤ 2147483647; omega) (by show -2147483648 ≤ i ∧ i ≤ 2147483647; omega)) dX12_page_112 kV_X12_300 rfl ck_13 rfl (Nat.le_of_ble_eq_true rfl) ⟨Nat.le_of_ble_eq_true rfl, Nat.le_of_ble_eq_true rfl⟩ ⟨Nat.le_of_ble_eq_true rfl, Nat.le_of_ble_eq_true rfl⟩ (fun rh8 vh8 ah8 h8 => ?_)
          obtain ⟨f6, rfl, fn6, bn6, ex6⟩ := h8
          have fq6 := fp0.call fn6 rfl rfl
          refine m_st (st2 := [.int (iI f6)]) rfl ?_
          exact m_iret C dX12_page_115 rfl (Nat.le_of_ble_eq_true rfl) (Nat.le_of_ble_eq_true rfl) ⟨f6, rfl, fq6, bn6, trivial⟩
        · refine m_st (st2 := [.int (iI 0)]) (by rw [h6e]) ?_
          refine m_if_ne (tgt := 101) C ⟨by decide, by decide⟩ dX12_page_92 (by decide) (fun z => absurd z (by omega)) (fun _ => ?_)
          refine m_aload_n (j := 1) C dX12_page_95 rfl ?_
          refine m_iconst C dX12_page_96 ?_
          refine m_call (mc2 := 0) (ms2 := 0) (As := [.int (iI 2)]) (rest := []) C (B_bad (x := 2) hB (by show -2147483648 ≤ (2 : Int) ∧ (2 : Int) ≤ 2147483647; omega)) dX12_page_97 kV_X12_154 rfl ck_13 rfl (Nat.le_of_ble_eq_true rfl) ⟨Nat.le_of_ble_eq_true rfl, Nat.le_of_ble_eq_true rfl⟩ ⟨Nat.le_of_ble_eq_true rfl, Nat.le_of_ble_eq_true rfl⟩ (fun rh9 vh9 ah9 h9 => ?_)
          obtain ⟨f7, rfl, fn7, bn7, ex7⟩ := h9
          refine hv2 (fp0.call fn7 rfl rfl) (show f7 = -1 from ex7) (fun fq7 gf7 => ?_)
          refine m_st (st2 := [.int (iI f7)]) rfl ?_
          exact m_iret C dX12_page_100 rfl (Nat.le_of_ble_eq_true rfl) (Nat.le_of_ble_eq_true rfl) ⟨f7, rfl, fq7, bn7, trivial⟩
      · replace gf3 := (gf3.resolve_left c2)
        refine m_iload_n (j := 2) C dX12_page_71 rfl ?_
        refine m_iconst C dX12_page_72 ?_
        refine m_isub C dX12_page_73 ?_
        refine m_goto (tgt := 78) C dX12_page_74 (by decide) ?_
        obtain ⟨zz4, hzz4, ezz4⟩ := iI_of (iI (w1 - 1))
        refine m_st (st2 := [.int (iI zz4)]) (by rw [ezz4]) ?_
        refine m_istore (lv2 := [(4, .int (iI zz4)), (0, .ref h0), (1, .int (iI q)), (2, .int (iI w1)), (3, .int (iI i))]) C dX12_page_78 (by decide) rfl ?_
        refine m_iload (j := 0) C dX12_page_80 rfl ?_
        refine m_iconst C dX12_page_82 ?_
        refine m_aload_n (j := 1) C dX12_page_83 rfl ?_
        refine m_call (mc2 := 0) (ms2 := 0) (As := []) (rest := [.int (iI 0), .int (iI zz4)]) C (B_onPage  hB ) dX12_page_84 kV_X12_291 rfl ck_13 rfl (Nat.le_of_ble_eq_true rfl) ⟨Nat.le_of_ble_eq_true rfl, Nat.le_of_ble_eq_true rfl⟩ ⟨Nat.le_of_ble_eq_true rfl, Nat.le_of_ble_eq_true rfl⟩ (fun rh10 vh10 ah10 h10 => ?_)
        obtain ⟨f8, rfl, fn8, bn8, ex8⟩ := h10
        obtain ⟨rfl, rfl⟩ := fn8.eq
        have gf8 : 1 ≤ f8 ∧ f8 ≤ 50 := ex8
        refine m_st (st2 := [.int (iI f8), .int (iI 0), .int (iI zz4)]) rfl ?_
        refine m_iconst C dX12_page_87 ?_
        refine m_isub C dX12_page_88 ?_
        refine m_callS (As := [.int (iI zz4), .int (iI 0), .int (iI (f8 - 1))]) (rest := []) C (fun L E => s_isIn (iI zz4) (iI 0) (iI (f8 - 1))) dX12_page_89 kS_X12_174 rfl rfl (Nat.le_of_ble_eq_true rfl) ⟨Nat.le_of_ble_eq_true rfl, Nat.le_of_ble_eq_true rfl⟩ ⟨Nat.le_of_ble_eq_true rfl, Nat.le_of_ble_eq_true rfl⟩ ?_
        rcases inn_c (x := zz4) (lo := 0) (hi := f8 - 1) ⟨by omega, by omega⟩ ⟨by decide, by decide⟩ ⟨by omega, by omega⟩ with ⟨h11a, h11b, h11e⟩ | ⟨h11a, h11e⟩
        · refine m_st (st2 := [.int (iI 1)]) (by rw [h11e]) ?_
          refine m_if_ne (tgt := 101) C ⟨by decide, by decide⟩ dX12_page_92 (by decide) (fun _ => ?_) (fun z => absurd z (by omega))
          refine m_aload_n (j := 1) C dX12_page_101 rfl ?_
          refine m_iload_n (j := 2) C dX12_page_102 rfl ?_
          refine m_aload_n (j := 1) C dX12_page_103 rfl ?_
          refine m_call (mc2 := 0) (ms2 := 0) (As := []) (rest := [.int (iI q), .ref h0]) C (B_onPage  hB ) dX12_page_104 kV_X12_291 rfl ck_13 rfl (Nat.le_of_ble_eq_true rfl) ⟨Nat.le_of_ble_eq_true rfl, Nat.le_of_ble_eq_true rfl⟩ ⟨Nat.le_of_ble_eq_true rfl, Nat.le_of_ble_eq_true rfl⟩ (fun rh12 vh12 ah12 h12 => ?_)
          obtain ⟨f9, rfl, fn9, bn9, ex9⟩ := h12
          obtain ⟨rfl, rfl⟩ := fn9.eq
          have gf9 : 1 ≤ f9 ∧ f9 ≤ 50 := ex9
          refine m_st (st2 := [.int (iI f9), .int (iI q), .ref h0]) rfl ?_
          refine m_imul C dX12_page_107 ?_
          refine m_iload (j := 0) C dX12_page_108 rfl ?_
          obtain ⟨zz5, hzz5, ezz5⟩ := iI_of (iI (q * f9))
          refine m_st (st2 := [.int (iI zz4), .int (iI zz5), .ref h0]) (by rw [ezz5]) ?_
          refine m_iadd C dX12_page_110 ?_
          obtain ⟨zz6, hzz6, ezz6⟩ := iI_of (iI (zz5 + zz4))
          refine m_st (st2 := [.int (iI zz6), .ref h0]) (by rw [ezz6]) ?_
          refine m_iload_n (j := 4) C dX12_page_111 rfl ?_
          refine m_call (mc2 := 0) (ms2 := 0) (As := [.int (iI zz6), .int (iI i)]) (rest := []) C (B_cell (l0 := zz6) (i := i) hB (by show -2147483648 ≤ zz6 ∧ zz6 ≤ 2147483647; omega) (by show -2147483648 ≤ i ∧ i ≤ 2147483647; omega)) dX12_page_112 kV_X12_300 rfl ck_13 rfl (Nat.le_of_ble_eq_true rfl) ⟨Nat.le_of_ble_eq_true rfl, Nat.le_of_ble_eq_true rfl⟩ ⟨Nat.le_of_ble_eq_true rfl, Nat.le_of_ble_eq_true rfl⟩ (fun rh13 vh13 ah13 h13 => ?_)
          obtain ⟨f10, rfl, fn10, bn10, ex10⟩ := h13
          have fq10 := fp0.call fn10 rfl rfl
          refine m_st (st2 := [.int (iI f10)]) rfl ?_
          exact m_iret C dX12_page_115 rfl (Nat.le_of_ble_eq_true rfl) (Nat.le_of_ble_eq_true rfl) ⟨f10, rfl, fq10, bn10, trivial⟩
        · refine m_st (st2 := [.int (iI 0)]) (by rw [h11e]) ?_
          refine m_if_ne (tgt := 101) C ⟨by decide, by decide⟩ dX12_page_92 (by decide) (fun z => absurd z (by omega)) (fun _ => ?_)
          refine m_aload_n (j := 1) C dX12_page_95 rfl ?_
          refine m_iconst C dX12_page_96 ?_
          refine m_call (mc2 := 0) (ms2 := 0) (As := [.int (iI 2)]) (rest := []) C (B_bad (x := 2) hB (by show -2147483648 ≤ (2 : Int) ∧ (2 : Int) ≤ 2147483647; omega)) dX12_page_97 kV_X12_154 rfl ck_13 rfl (Nat.le_of_ble_eq_true rfl) ⟨Nat.le_of_ble_eq_true rfl, Nat.le_of_ble_eq_true rfl⟩ ⟨Nat.le_of_ble_eq_true rfl, Nat.le_of_ble_eq_true rfl⟩ (fun rh14 vh14 ah14 h14 => ?_)
          obtain ⟨f11, rfl, fn11, bn11, ex11⟩ := h14
          refine hv2 (fp0.call fn11 rfl rfl) (show f11 = -1 from ex11) (fun fq11 gf11 => ?_)
          refine m_st (st2 := [.int (iI f11)]) rfl ?_
          exact m_iret C dX12_page_100 rfl (Nat.le_of_ble_eq_true rfl) (Nat.le_of_ble_eq_true rfl) ⟨f11, rfl, fq11, bn11, trivial⟩
    · replace gf2 := (gf2.resolve_left c1)
      refine m_iload_n (j := 2) C dX12_page_27 rfl ?_
      refine m_if_ne (tgt := 64) C ⟨by omega, by omega⟩ dX12_page_28 (by decide) (fun c3 => ?_) (fun c3 => ?_)
      · refine m_aload_n (j := 0) C dX12_page_64 rfl ?_
        refine m_call (mc2 := 0) (ms2 := 0) (As := []) (rest := []) C (B_hasHead  hB ) dX12_page_65 kV_X12_288 rfl ck_13 rfl (Nat.le_of_ble_eq_true rfl) ⟨Nat.le_of_ble_eq_true rfl, Nat.le_of_ble_eq_true rfl⟩ ⟨Nat.le_of_ble_eq_true rfl, Nat.le_of_ble_eq_true rfl⟩ (fun rh15 vh15 ah15 h15 => ?_)
        obtain ⟨f12, rfl, fn12, bn12, ex12⟩ := h15
        obtain ⟨rfl, rfl⟩ := fn12.eq
        have gf12 : f12 = 0 ∨ (f12 = 1 ∧ 0 < (v 41) ∧ 2 ≤ (v 32)) := ex12
        refine m_st (st2 := [.int (iI f12)]) rfl ?_
        refine m_if_eq (tgt := 77) C (r32_0p gf12) dX12_page_68 (by decide) (fun c4 => ?_) (fun c4 => ?_)
        · clear gf12
          refine m_iload_n (j := 2) C dX12_page_77 rfl ?_
          obtain ⟨zz7, hzz7, ezz7⟩ := iI_of (iI w1)
          refine m_st (st2 := [.int (iI zz7)]) (by rw [ezz7]) ?_
          refine m_istore (lv2 := [(4, .int (iI zz7)), (0, .ref h0), (1, .int (iI q)), (2, .int (iI w1)), (3, .int (iI i))]) C dX12_page_78 (by decide) rfl ?_
          refine m_iload (j := 0) C dX12_page_80 rfl ?_
          refine m_iconst C dX12_page_82 ?_
          refine m_aload_n (j := 1) C dX12_page_83 rfl ?_
          refine m_call (mc2 := 0) (ms2 := 0) (As := []) (rest := [.int (iI 0), .int (iI zz7)]) C (B_onPage  hB ) dX12_page_84 kV_X12_291 rfl ck_13 rfl (Nat.le_of_ble_eq_true rfl) ⟨Nat.le_of_ble_eq_true rfl, Nat.le_of_ble_eq_true rfl⟩ ⟨Nat.le_of_ble_eq_true rfl, Nat.le_of_ble_eq_true rfl⟩ (fun rh16 vh16 ah16 h16 => ?_)
          obtain ⟨f13, rfl, fn13, bn13, ex13⟩ := h16
          obtain ⟨rfl, rfl⟩ := fn13.eq
          have gf13 : 1 ≤ f13 ∧ f13 ≤ 50 := ex13
          refine m_st (st2 := [.int (iI f13), .int (iI 0), .int (iI zz7)]) rfl ?_
          refine m_iconst C dX12_page_87 ?_
          refine m_isub C dX12_page_88 ?_
          refine m_callS (As := [.int (iI zz7), .int (iI 0), .int (iI (f13 - 1))]) (rest := []) C (fun L E => s_isIn (iI zz7) (iI 0) (iI (f13 - 1))) dX12_page_89 kS_X12_174 rfl rfl (Nat.le_of_ble_eq_true rfl) ⟨Nat.le_of_ble_eq_true rfl, Nat.le_of_ble_eq_true rfl⟩ ⟨Nat.le_of_ble_eq_true rfl, Nat.le_of_ble_eq_true rfl⟩ ?_
          rcases inn_c (x := zz7) (lo := 0) (hi := f13 - 1) ⟨by omega, by omega⟩ ⟨by decide, by decide⟩ ⟨by omega, by omega⟩ with ⟨h17a, h17b, h17e⟩ | ⟨h17a, h17e⟩
          · refine m_st (st2 := [.int (iI 1)]) (by rw [h17e]) ?_
            refine m_if_ne (tgt := 101) C ⟨by decide, by decide⟩ dX12_page_92 (by decide) (fun _ => ?_) (fun z => absurd z (by omega))
            refine m_aload_n (j := 1) C dX12_page_101 rfl ?_
            refine m_iload_n (j := 2) C dX12_page_102 rfl ?_
            refine m_aload_n (j := 1) C dX12_page_103 rfl ?_
            refine m_call (mc2 := 0) (ms2 := 0) (As := []) (rest := [.int (iI q), .ref h0]) C (B_onPage  hB ) dX12_page_104 kV_X12_291 rfl ck_13 rfl (Nat.le_of_ble_eq_true rfl) ⟨Nat.le_of_ble_eq_true rfl, Nat.le_of_ble_eq_true rfl⟩ ⟨Nat.le_of_ble_eq_true rfl, Nat.le_of_ble_eq_true rfl⟩ (fun rh18 vh18 ah18 h18 => ?_)
            obtain ⟨f14, rfl, fn14, bn14, ex14⟩ := h18
            obtain ⟨rfl, rfl⟩ := fn14.eq
            have gf14 : 1 ≤ f14 ∧ f14 ≤ 50 := ex14
            refine m_st (st2 := [.int (iI f14), .int (iI q), .ref h0]) rfl ?_
            refine m_imul C dX12_page_107 ?_
            refine m_iload (j := 0) C dX12_page_108 rfl ?_
            obtain ⟨zz8, hzz8, ezz8⟩ := iI_of (iI (q * f14))
            refine m_st (st2 := [.int (iI zz7), .int (iI zz8), .ref h0]) (by rw [ezz8]) ?_
            refine m_iadd C dX12_page_110 ?_
            obtain ⟨zz9, hzz9, ezz9⟩ := iI_of (iI (zz8 + zz7))
            refine m_st (st2 := [.int (iI zz9), .ref h0]) (by rw [ezz9]) ?_
            refine m_iload_n (j := 4) C dX12_page_111 rfl ?_
            refine m_call (mc2 := 0) (ms2 := 0) (As := [.int (iI zz9), .int (iI i)]) (rest := []) C (B_cell (l0 := zz9) (i := i) hB (by show -2147483648 ≤ zz9 ∧ zz9 ≤ 2147483647; omega) (by show -2147483648 ≤ i ∧ i ≤ 2147483647; omega)) dX12_page_112 kV_X12_300 rfl ck_13 rfl (Nat.le_of_ble_eq_true rfl) ⟨Nat.le_of_ble_eq_true rfl, Nat.le_of_ble_eq_true rfl⟩ ⟨Nat.le_of_ble_eq_true rfl, Nat.le_of_ble_eq_true rfl⟩ (fun rh19 vh19 ah19 h19 => ?_)
            obtain ⟨f15, rfl, fn15, bn15, ex15⟩ := h19
            have fq15 := fp0.call fn15 rfl rfl
            refine m_st (st2 := [.int (iI f15)]) rfl ?_
            exact m_iret C dX12_page_115 rfl (Nat.le_of_ble_eq_true rfl) (Nat.le_of_ble_eq_true rfl) ⟨f15, rfl, fq15, bn15, trivial⟩
          · refine m_st (st2 := [.int (iI 0)]) (by rw [h17e]) ?_
            refine m_if_ne (tgt := 101) C ⟨by decide, by decide⟩ dX12_page_92 (by decide) (fun z => absurd z (by omega)) (fun _ => ?_)
            refine m_aload_n (j := 1) C dX12_page_95 rfl ?_
            refine m_iconst C dX12_page_96 ?_
            refine m_call (mc2 := 0) (ms2 := 0) (As := [.int (iI 2)]) (rest := []) C (B_bad (x := 2) hB (by show -2147483648 ≤ (2 : Int) ∧ (2 : Int) ≤ 2147483647; omega)) dX12_page_97 kV_X12_154 rfl ck_13 rfl (Nat.le_of_ble_eq_true rfl) ⟨Nat.le_of_ble_eq_true rfl, Nat.le_of_ble_eq_true rfl⟩ ⟨Nat.le_of_ble_eq_true rfl, Nat.le_of_ble_eq_true rfl⟩ (fun rh20 vh20 ah20 h20 => ?_)
            obtain ⟨f16, rfl, fn16, bn16, ex16⟩ := h20
            refine hv2 (fp0.call fn16 rfl rfl) (show f16 = -1 from ex16) (fun fq16 gf16 => ?_)
            refine m_st (st2 := [.int (iI f16)]) rfl ?_
            exact m_iret C dX12_page_100 rfl (Nat.le_of_ble_eq_true rfl) (Nat.le_of_ble_eq_true rfl) ⟨f16, rfl, fq16, bn16, trivial⟩
        · replace gf12 := (gf12.resolve_left c4)
          refine m_iload_n (j := 2) C dX12_page_71 rfl ?_
          refine m_iconst C dX12_page_72 ?_
          refine m_isub C dX12_page_73 ?_
          refine m_goto (tgt := 78) C dX12_page_74 (by decide) ?_
          obtain ⟨zz10, hzz10, ezz10⟩ := iI_of (iI (w1 - 1))
          refine m_st (st2 := [.int (iI zz10)]) (by rw [ezz10]) ?_
          refine m_istore (lv2 := [(4, .int (iI zz10)), (0, .ref h0), (1, .int (iI q)), (2, .int (iI w1)), (3, .int (iI i))]) C dX12_page_78 (by decide) rfl ?_
          refine m_iload (j := 0) C dX12_page_80 rfl ?_
          refine m_iconst C dX12_page_82 ?_
          refine m_aload_n (j := 1) C dX12_page_83 rfl ?_
          refine m_call (mc2 := 0) (ms2 := 0) (As := []) (rest := [.int (iI 0), .int (iI zz10)]) C (B_onPage  hB ) dX12_page_84 kV_X12_291 rfl ck_13 rfl (Nat.le_of_ble_eq_true rfl) ⟨Nat.le_of_ble_eq_true rfl, Nat.le_of_ble_eq_true rfl⟩ ⟨Nat.le_of_ble_eq_true rfl, Nat.le_of_ble_eq_true rfl⟩ (fun rh21 vh21 ah21 h21 => ?_)
          obtain ⟨f17, rfl, fn17, bn17, ex17⟩ := h21
          obtain ⟨rfl, rfl⟩ := fn17.eq
          have gf17 : 1 ≤ f17 ∧ f17 ≤ 50 := ex17
          refine m_st (st2 := [.int (iI f17), .int (iI 0), .int (iI zz10)]) rfl ?_
          refine m_iconst C dX12_page_87 ?_
          refine m_isub C dX12_page_88 ?_
          refine m_callS (As := [.int (iI zz10), .int (iI 0), .int (iI (f17 - 1))]) (rest := []) C (fun L E => s_isIn (iI zz10) (iI 0) (iI (f17 - 1))) dX12_page_89 kS_X12_174 rfl rfl (Nat.le_of_ble_eq_true rfl) ⟨Nat.le_of_ble_eq_true rfl, Nat.le_of_ble_eq_true rfl⟩ ⟨Nat.le_of_ble_eq_true rfl, Nat.le_of_ble_eq_true rfl⟩ ?_
          rcases inn_c (x := zz10) (lo := 0) (hi := f17 - 1) ⟨by omega, by omega⟩ ⟨by decide, by decide⟩ ⟨by omega, by omega⟩ with ⟨h22a, h22b, h22e⟩ | ⟨h22a, h22e⟩
          · refine m_st (st2 := [.int (iI 1)]) (by rw [h22e]) ?_
            refine m_if_ne (tgt := 101) C ⟨by decide, by decide⟩ dX12_page_92 (by decide) (fun _ => ?_) (fun z => absurd z (by omega))
            refine m_aload_n (j := 1) C dX12_page_101 rfl ?_
            refine m_iload_n (j := 2) C dX12_page_102 rfl ?_
            refine m_aload_n (j := 1) C dX12_page_103 rfl ?_
            refine m_call (mc2 := 0) (ms2 := 0) (As := []) (rest := [.int (iI q), .ref h0]) C (B_onPage  hB ) dX12_page_104 kV_X12_291 rfl ck_13 rfl (Nat.le_of_ble_eq_true rfl) ⟨Nat.le_of_ble_eq_true rfl, Nat.le_of_ble_eq_true rfl⟩ ⟨Nat.le_of_ble_eq_true rfl, Nat.le_of_ble_eq_true rfl⟩ (fun rh23 vh23 ah23 h23 => ?_)
            obtain ⟨f18, rfl, fn18, bn18, ex18⟩ := h23
            obtain ⟨rfl, rfl⟩ := fn18.eq
            have gf18 : 1 ≤ f18 ∧ f18 ≤ 50 := ex18
            refine m_st (st2 := [.int (iI f18), .int (iI q), .ref h0]) rfl ?_
            refine m_imul C dX12_page_107 ?_
            refine m_iload (j := 0) C dX12_page_108 rfl ?_
            obtain ⟨zz11, hzz11, ezz11⟩ := iI_of (iI (q * f18))
            refine m_st (st2 := [.int (iI zz10), .int (iI zz11), .ref h0]) (by rw [ezz11]) ?_
            refine m_iadd C dX12_page_110 ?_
            obtain ⟨zz12, hzz12, ezz12⟩ := iI_of (iI (zz11 + zz10))
            refine m_st (st2 := [.int (iI zz12), .ref h0]) (by rw [ezz12]) ?_
            refine m_iload_n (j := 4) C dX12_page_111 rfl ?_
            refine m_call (mc2 := 0) (ms2 := 0) (As := [.int (iI zz12), .int (iI i)]) (rest := []) C (B_cell (l0 := zz12) (i := i) hB (by show -2147483648 ≤ zz12 ∧ zz12 ≤ 2147483647; omega) (by show -2147483648 ≤ i ∧ i ≤ 2147483647; omega)) dX12_page_112 kV_X12_300 rfl ck_13 rfl (Nat.le_of_ble_eq_true rfl) ⟨Nat.le_of_ble_eq_true rfl, Nat.le_of_ble_eq_true rfl⟩ ⟨Nat.le_of_ble_eq_true rfl, Nat.le_of_ble_eq_true rfl⟩ (fun rh24 vh24 ah24 h24 => ?_)
            obtain ⟨f19, rfl, fn19, bn19, ex19⟩ := h24
            have fq19 := fp0.call fn19 rfl rfl
            refine m_st (st2 := [.int (iI f19)]) rfl ?_
            exact m_iret C dX12_page_115 rfl (Nat.le_of_ble_eq_true rfl) (Nat.le_of_ble_eq_true rfl) ⟨f19, rfl, fq19, bn19, trivial⟩
          · refine m_st (st2 := [.int (iI 0)]) (by rw [h22e]) ?_
            refine m_if_ne (tgt := 101) C ⟨by decide, by decide⟩ dX12_page_92 (by decide) (fun z => absurd z (by omega)) (fun _ => ?_)
            refine m_aload_n (j := 1) C dX12_page_95 rfl ?_
            refine m_iconst C dX12_page_96 ?_
            refine m_call (mc2 := 0) (ms2 := 0) (As := [.int (iI 2)]) (rest := []) C (B_bad (x := 2) hB (by show -2147483648 ≤ (2 : Int) ∧ (2 : Int) ≤ 2147483647; omega)) dX12_page_97 kV_X12_154 rfl ck_13 rfl (Nat.le_of_ble_eq_true rfl) ⟨Nat.le_of_ble_eq_true rfl, Nat.le_of_ble_eq_true rfl⟩ ⟨Nat.le_of_ble_eq_true rfl, Nat.le_of_ble_eq_true rfl⟩ (fun rh25 vh25 ah25 h25 => ?_)
            obtain ⟨f20, rfl, fn20, bn20, ex20⟩ := h25
            refine hv2 (fp0.call fn20 rfl rfl) (show f20 = -1 from ex20) (fun fq20 gf20 => ?_)
            refine m_st (st2 := [.int (iI f20)]) rfl ?_
            exact m_iret C dX12_page_100 rfl (Nat.le_of_ble_eq_true rfl) (Nat.le_of_ble_eq_true rfl) ⟨f20, rfl, fq20, bn20, trivial⟩
      · refine m_iload_n (j := 3) C dX12_page_31 rfl ?_
        refine m_iconst C dX12_page_32 ?_
        refine m_aload_n (j := 0) C dX12_page_33 rfl ?_
        refine m_get (k := 41) C dX12_page_34 w6_100 (by decide) rfl ?_
        refine m_iconst C dX12_page_37 ?_
        refine m_isub C dX12_page_38 ?_
        refine m_callS (As := [.int (iI i), .int (iI 0), .int (iI ((v 41) - 1))]) (rest := []) C (fun L E => s_isIn (iI i) (iI 0) (iI ((v 41) - 1))) dX12_page_39 kS_X12_174 rfl rfl (Nat.le_of_ble_eq_true rfl) ⟨Nat.le_of_ble_eq_true rfl, Nat.le_of_ble_eq_true rfl⟩ ⟨Nat.le_of_ble_eq_true rfl, Nat.le_of_ble_eq_true rfl⟩ ?_
        rcases inn_c (x := i) (lo := 0) (hi := (v 41) - 1) ⟨by omega, by omega⟩ ⟨by decide, by decide⟩ ⟨by omega, by omega⟩ with ⟨h26a, h26b, h26e⟩ | ⟨h26a, h26e⟩
        · refine m_st (st2 := [.int (iI 1)]) (by rw [h26e]) ?_
          refine m_if_eq (tgt := 58) C ⟨by decide, by decide⟩ dX12_page_42 (by decide) (fun z => absurd z (by omega)) (fun _ => ?_)
          refine m_aload_n (j := 0) C dX12_page_45 rfl ?_
          refine m_aload_n (j := 0) C dX12_page_46 rfl ?_
          refine m_geta (k := 40) C dX12_page_47 w6_99 (by decide) rfl ?_
          refine m_iload_n (j := 3) C dX12_page_50 rfl ?_
          refine m_ald (k := 40) C dX12_page_51 rfl rfl (by decide) (by omega) (by show _ < ((_ : Nat) : Int); simp only [mlen]; omega) (by decide) ?_
          have ra1 : (-2147483648) ≤ a 40 i.toNat ∧ a 40 i.toNat ≤ 2147483647 := hB.2 40 (i.toNat)
          refine m_call (mc2 := 0) (ms2 := 0) (As := [.int (iI (a 40 i.toNat))]) (rest := []) C (B_fine (x := a 40 i.toNat) hB (by show -2147483648 ≤ (a 40 i.toNat) ∧ (a 40 i.toNat) ≤ 2147483647; omega)) dX12_page_52 kV_X12_158 rfl ck_13 rfl (Nat.le_of_ble_eq_true rfl) ⟨Nat.le_of_ble_eq_true rfl, Nat.le_of_ble_eq_true rfl⟩ ⟨Nat.le_of_ble_eq_true rfl, Nat.le_of_ble_eq_true rfl⟩ (fun rh27 vh27 ah27 h27 => ?_)
          obtain ⟨f21, rfl, fn21, bn21, ex21⟩ := h27
          refine hv2 (fp0.call fn21 rfl rfl) (show f21 = (a 40 i.toNat) from ex21) (fun fq21 gf21 => ?_)
          refine m_st (st2 := [.int (iI f21)]) rfl ?_
          refine m_goto (tgt := 63) C dX12_page_55 (by decide) ?_
          exact m_iret C dX12_page_63 rfl (Nat.le_of_ble_eq_true rfl) (Nat.le_of_ble_eq_true rfl) ⟨f21, rfl, fq21, bn21, trivial⟩
        · refine m_st (st2 := [.int (iI 0)]) (by rw [h26e]) ?_
          refine m_if_eq (tgt := 58) C ⟨by decide, by decide⟩ dX12_page_42 (by decide) (fun _ => ?_) (fun z => absurd z (by omega))
          refine m_aload_n (j := 0) C dX12_page_58 rfl ?_
          refine m_iconst C dX12_page_59 ?_
          refine m_call (mc2 := 0) (ms2 := 0) (As := [.int (iI 2)]) (rest := []) C (B_bad (x := 2) hB (by show -2147483648 ≤ (2 : Int) ∧ (2 : Int) ≤ 2147483647; omega)) dX12_page_60 kV_X12_154 rfl ck_13 rfl (Nat.le_of_ble_eq_true rfl) ⟨Nat.le_of_ble_eq_true rfl, Nat.le_of_ble_eq_true rfl⟩ ⟨Nat.le_of_ble_eq_true rfl, Nat.le_of_ble_eq_true rfl⟩ (fun rh28 vh28 ah28 h28 => ?_)
          obtain ⟨f22, rfl, fn22, bn22, ex22⟩ := h28
          refine hv2 (fp0.call fn22 rfl rfl) (show f22 = -1 from ex22) (fun fq22 gf22 => ?_)
          refine m_st (st2 := [.int (iI f22)]) rfl ?_
          exact m_iret C dX12_page_63 rfl (Nat.le_of_ble_eq_true rfl) (Nat.le_of_ble_eq_true rfl) ⟨f22, rfl, fq22, bn22, trivial⟩
  · refine m_st (st2 := [.int (iI 0)]) (by rw [h2e]) ?_
    refine m_if_ne (tgt := 20) C ⟨by decide, by decide⟩ dX12_page_11 (by decide) (fun z => absurd z (by omega)) (fun _ => ?_)
    refine m_aload_n (j := 0) C dX12_page_14 rfl ?_
    refine m_iconst C dX12_page_15 ?_
    refine m_call (mc2 := 0) (ms2 := 0) (As := [.int (iI 2)]) (rest := []) C (B_bad (x := 2) hB (by show -2147483648 ≤ (2 : Int) ∧ (2 : Int) ≤ 2147483647; omega)) dX12_page_16 kV_X12_154 rfl ck_13 rfl (Nat.le_of_ble_eq_true rfl) ⟨Nat.le_of_ble_eq_true rfl, Nat.le_of_ble_eq_true rfl⟩ ⟨Nat.le_of_ble_eq_true rfl, Nat.le_of_ble_eq_true rfl⟩ (fun rh29 vh29 ah29 h29 => ?_)
    obtain ⟨f23, rfl, fn23, bn23, ex23⟩ := h29
    refine hv2 (fp0.call fn23 rfl rfl) (show f23 = -1 from ex23) (fun fq23 gf23 => ?_)
    refine m_st (st2 := [.int (iI f23)]) rfl ?_
    exact m_iret C dX12_page_19 rfl (Nat.le_of_ble_eq_true rfl) (Nat.le_of_ble_eq_true rfl) ⟨f23, rfl, fq23, bn23, trivial⟩
