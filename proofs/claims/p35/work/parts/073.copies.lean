section
def bcn (x : Int32) : Int32 := ((((((((x - (((Int32.toUInt32 x >>> (Int32.toUInt32 (1 : Int32) &&& Int32.toUInt32 31)).toInt32) &&& (1431655765 : Int32))) &&& (858993459 : Int32)) + (((Int32.toUInt32 (x - (((Int32.toUInt32 x >>> (Int32.toUInt32 (1 : Int32) &&& Int32.toUInt32 31)).toInt32) &&& (1431655765 : Int32))) >>> (Int32.toUInt32 (2 : Int32) &&& Int32.toUInt32 31)).toInt32) &&& (858993459 : Int32))) + ((Int32.toUInt32 (((x - (((Int32.toUInt32 x >>> (Int32.toUInt32 (1 : Int32) &&& Int32.toUInt32 31)).toInt32) &&& (1431655765 : Int32))) &&& (858993459 : Int32)) + (((Int32.toUInt32 (x - (((Int32.toUInt32 x >>> (Int32.toUInt32 (1 : Int32) &&& Int32.toUInt32 31)).toInt32) &&& (1431655765 : Int32))) >>> (Int32.toUInt32 (2 : Int32) &&& Int32.toUInt32 31)).toInt32) &&& (858993459 : Int32))) >>> (Int32.toUInt32 (4 : Int32) &&& Int32.toUInt32 31)).toInt32)) &&& (252645135 : Int32)) + ((Int32.toUInt32 (((((x - (((Int32.toUInt32 x >>> (Int32.toUInt32 (1 : Int32) &&& Int32.toUInt32 31)).toInt32) &&& (1431655765 : Int32))) &&& (858993459 : Int32)) + (((Int32.toUInt32 (x - (((Int32.toUInt32 x >>> (Int32.toUInt32 (1 : Int32) &&& Int32.toUInt32 31)).toInt32) &&& (1431655765 : Int32))) >>> (Int32.toUInt32 (2 : Int32) &&& Int32.toUInt32 31)).toInt32) &&& (858993459 : Int32))) + ((Int32.toUInt32 (((x - (((Int32.toUInt32 x >>> (Int32.toUInt32 (1 : Int32) &&& Int32.toUInt32 31)).toInt32) &&& (1431655765 : Int32))) &&& (858993459 : Int32)) + (((Int32.toUInt32 (x - (((Int32.toUInt32 x >>> (Int32.toUInt32 (1 : Int32) &&& Int32.toUInt32 31)).toInt32) &&& (1431655765 : Int32))) >>> (Int32.toUInt32 (2 : Int32) &&& Int32.toUInt32 31)).toInt32) &&& (858993459 : Int32))) >>> (Int32.toUInt32 (4 : Int32) &&& Int32.toUInt32 31)).toInt32)) &&& (252645135 : Int32)) >>> (Int32.toUInt32 (8 : Int32) &&& Int32.toUInt32 31)).toInt32)) + ((Int32.toUInt32 ((((((x - (((Int32.toUInt32 x >>> (Int32.toUInt32 (1 : Int32) &&& Int32.toUInt32 31)).toInt32) &&& (1431655765 : Int32))) &&& (858993459 : Int32)) + (((Int32.toUInt32 (x - (((Int32.toUInt32 x >>> (Int32.toUInt32 (1 : Int32) &&& Int32.toUInt32 31)).toInt32) &&& (1431655765 : Int32))) >>> (Int32.toUInt32 (2 : Int32) &&& Int32.toUInt32 31)).toInt32) &&& (858993459 : Int32))) + ((Int32.toUInt32 (((x - (((Int32.toUInt32 x >>> (Int32.toUInt32 (1 : Int32) &&& Int32.toUInt32 31)).toInt32) &&& (1431655765 : Int32))) &&& (858993459 : Int32)) + (((Int32.toUInt32 (x - (((Int32.toUInt32 x >>> (Int32.toUInt32 (1 : Int32) &&& Int32.toUInt32 31)).toInt32) &&& (1431655765 : Int32))) >>> (Int32.toUInt32 (2 : Int32) &&& Int32.toUInt32 31)).toInt32) &&& (858993459 : Int32))) >>> (Int32.toUInt32 (4 : Int32) &&& Int32.toUInt32 31)).toInt32)) &&& (252645135 : Int32)) + ((Int32.toUInt32 (((((x - (((Int32.toUInt32 x >>> (Int32.toUInt32 (1 : Int32) &&& Int32.toUInt32 31)).toInt32) &&& (1431655765 : Int32))) &&& (858993459 : Int32)) + (((Int32.toUInt32 (x - (((Int32.toUInt32 x >>> (Int32.toUInt32 (1 : Int32) &&& Int32.toUInt32 31)).toInt32) &&& (1431655765 : Int32))) >>> (Int32.toUInt32 (2 : Int32) &&& Int32.toUInt32 31)).toInt32) &&& (858993459 : Int32))) + ((Int32.toUInt32 (((x - (((Int32.toUInt32 x >>> (Int32.toUInt32 (1 : Int32) &&& Int32.toUInt32 31)).toInt32) &&& (1431655765 : Int32))) &&& (858993459 : Int32)) + (((Int32.toUInt32 (x - (((Int32.toUInt32 x >>> (Int32.toUInt32 (1 : Int32) &&& Int32.toUInt32 31)).toInt32) &&& (1431655765 : Int32))) >>> (Int32.toUInt32 (2 : Int32) &&& Int32.toUInt32 31)).toInt32) &&& (858993459 : Int32))) >>> (Int32.toUInt32 (4 : Int32) &&& Int32.toUInt32 31)).toInt32)) &&& (252645135 : Int32)) >>> (Int32.toUInt32 (8 : Int32) &&& Int32.toUInt32 31)).toInt32)) >>> (Int32.toUInt32 (16 : Int32) &&& Int32.toUInt32 31)).toInt32)) &&& (63 : Int32))
set_option maxHeartbeats 4000000 in
set_option maxRecDepth 100000 in
theorem s_bitCount {l : Launch} {G : GT} {L : List Nat} {E : Nat → va_E} (x : Int32) : Mq l G yJ6_bitCount_0f7a4 cJ6_bitCount_0f7a4 1 (some .int) 0 [.int x] L E 0 0 (fun v L2 E2 => v = some (.int (bcn x)) ∧ L2 = L ∧ E2 = E) := by
  refine Mq.mk (by decide) (Nat.le_of_ble_eq_true rfl) ?_
  intro p e s m args below meth c A C
  refine q_iload_n (j := 0) C dJ6_bitCount_0f7a4_0 rfl ?_
  refine q_iload_n (j := 0) C dJ6_bitCount_0f7a4_1 rfl ?_
  refine q_iconst (v := 1) C dJ6_bitCount_0f7a4_2 (by decide) ?_
  refine q_iushr (v := ((Int32.toUInt32 x >>> (Int32.toUInt32 (1 : Int32) &&& Int32.toUInt32 31)).toInt32)) C dJ6_bitCount_0f7a4_3 rfl ?_
  refine q_ldcw (v := 1431655765) C dJ6_bitCount_0f7a4_4 w5_17 ?_
  refine q_iand (v := (((Int32.toUInt32 x >>> (Int32.toUInt32 (1 : Int32) &&& Int32.toUInt32 31)).toInt32) &&& (1431655765 : Int32))) C dJ6_bitCount_0f7a4_7 rfl ?_
  refine q_isub (v := (x - (((Int32.toUInt32 x >>> (Int32.toUInt32 (1 : Int32) &&& Int32.toUInt32 31)).toInt32) &&& (1431655765 : Int32)))) C dJ6_bitCount_0f7a4_8 rfl ?_
  refine q_istore_n (lv2 := [(0, .int (x - (((Int32.toUInt32 x >>> (Int32.toUInt32 (1 : Int32) &&& Int32.toUInt32 31)).toInt32) &&& (1431655765 : Int32))))]) C dJ6_bitCount_0f7a4_9 (by decide) rfl ?_
  refine q_iload_n (j := 0) C dJ6_bitCount_0f7a4_10 rfl ?_
  refine q_ldcw (v := 858993459) C dJ6_bitCount_0f7a4_11 w5_18 ?_
  refine q_iand (v := ((x - (((Int32.toUInt32 x >>> (Int32.toUInt32 (1 : Int32) &&& Int32.toUInt32 31)).toInt32) &&& (1431655765 : Int32))) &&& (858993459 : Int32))) C dJ6_bitCount_0f7a4_14 rfl ?_
  refine q_iload_n (j := 0) C dJ6_bitCount_0f7a4_15 rfl ?_
  refine q_iconst (v := 2) C dJ6_bitCount_0f7a4_16 (by decide) ?_
  refine q_iushr (v := ((Int32.toUInt32 (x - (((Int32.toUInt32 x >>> (Int32.toUInt32 (1 : Int32) &&& Int32.toUInt32 31)).toInt32) &&& (1431655765 : Int32))) >>> (Int32.toUInt32 (2 : Int32) &&& Int32.toUInt32 31)).toInt32)) C dJ6_bitCount_0f7a4_17 rfl ?_
  refine q_ldcw (v := 858993459) C dJ6_bitCount_0f7a4_18 w5_18 ?_
  refine q_iand (v := (((Int32.toUInt32 (x - (((Int32.toUInt32 x >>> (Int32.toUInt32 (1 : Int32) &&& Int32.toUInt32 31)).toInt32) &&& (1431655765 : Int32))) >>> (Int32.toUInt32 (2 : Int32) &&& Int32.toUInt32 31)).toInt32) &&& (858993459 : Int32))) C dJ6_bitCount_0f7a4_21 rfl ?_
  refine q_iadd (v := (((x - (((Int32.toUInt32 x >>> (Int32.toUInt32 (1 : Int32) &&& Int32.toUInt32 31)).toInt32) &&& (1431655765 : Int32))) &&& (858993459 : Int32)) + (((Int32.toUInt32 (x - (((Int32.toUInt32 x >>> (Int32.toUInt32 (1 : Int32) &&& Int32.toUInt32 31)).toInt32) &&& (1431655765 : Int32))) >>> (Int32.toUInt32 (2 : Int32) &&& Int32.toUInt32 31)).toInt32) &&& (858993459 : Int32)))) C dJ6_bitCount_0f7a4_22 rfl ?_
  refine q_istore_n (lv2 := [(0, .int (((x - (((Int32.toUInt32 x >>> (Int32.toUInt32 (1 : Int32) &&& Int32.toUInt32 31)).toInt32) &&& (1431655765 : Int32))) &&& (858993459 : Int32)) + (((Int32.toUInt32 (x - (((Int32.toUInt32 x >>> (Int32.toUInt32 (1 : Int32) &&& Int32.toUInt32 31)).toInt32) &&& (1431655765 : Int32))) >>> (Int32.toUInt32 (2 : Int32) &&& Int32.toUInt32 31)).toInt32) &&& (858993459 : Int32))))]) C dJ6_bitCount_0f7a4_23 (by decide) rfl ?_
  refine q_iload_n (j := 0) C dJ6_bitCount_0f7a4_24 rfl ?_
  refine q_iload_n (j := 0) C dJ6_bitCount_0f7a4_25 rfl ?_
  refine q_iconst (v := 4) C dJ6_bitCount_0f7a4_26 (by decide) ?_
  refine q_iushr (v := ((Int32.toUInt32 (((x - (((Int32.toUInt32 x >>> (Int32.toUInt32 (1 : Int32) &&& Int32.toUInt32 31)).toInt32) &&& (1431655765 : Int32))) &&& (858993459 : Int32)) + (((Int32.toUInt32 (x - (((Int32.toUInt32 x >>> (Int32.toUInt32 (1 : Int32) &&& Int32.toUInt32 31)).toInt32) &&& (1431655765 : Int32))) >>> (Int32.toUInt32 (2 : Int32) &&& Int32.toUInt32 31)).toInt32) &&& (858993459 : Int32))) >>> (Int32.toUInt32 (4 : Int32) &&& Int32.toUInt32 31)).toInt32)) C dJ6_bitCount_0f7a4_27 rfl ?_
  refine q_iadd (v := ((((x - (((Int32.toUInt32 x >>> (Int32.toUInt32 (1 : Int32) &&& Int32.toUInt32 31)).toInt32) &&& (1431655765 : Int32))) &&& (858993459 : Int32)) + (((Int32.toUInt32 (x - (((Int32.toUInt32 x >>> (Int32.toUInt32 (1 : Int32) &&& Int32.toUInt32 31)).toInt32) &&& (1431655765 : Int32))) >>> (Int32.toUInt32 (2 : Int32) &&& Int32.toUInt32 31)).toInt32) &&& (858993459 : Int32))) + ((Int32.toUInt32 (((x - (((Int32.toUInt32 x >>> (Int32.toUInt32 (1 : Int32) &&& Int32.toUInt32 31)).toInt32) &&& (1431655765 : Int32))) &&& (858993459 : Int32)) + (((Int32.toUInt32 (x - (((Int32.toUInt32 x >>> (Int32.toUInt32 (1 : Int32) &&& Int32.toUInt32 31)).toInt32) &&& (1431655765 : Int32))) >>> (Int32.toUInt32 (2 : Int32) &&& Int32.toUInt32 31)).toInt32) &&& (858993459 : Int32))) >>> (Int32.toUInt32 (4 : Int32) &&& Int32.toUInt32 31)).toInt32))) C dJ6_bitCount_0f7a4_28 rfl ?_
  refine q_ldcw (v := 252645135) C dJ6_bitCount_0f7a4_29 w5_19 ?_
  refine q_iand (v := (((((x - (((Int32.toUInt32 x >>> (Int32.toUInt32 (1 : Int32) &&& Int32.toUInt32 31)).toInt32) &&& (1431655765 : Int32))) &&& (858993459 : Int32)) + (((Int32.toUInt32 (x - (((Int32.toUInt32 x >>> (Int32.toUInt32 (1 : Int32) &&& Int32.toUInt32 31)).toInt32) &&& (1431655765 : Int32))) >>> (Int32.toUInt32 (2 : Int32) &&& Int32.toUInt32 31)).toInt32) &&& (858993459 : Int32))) + ((Int32.toUInt32 (((x - (((Int32.toUInt32 x >>> (Int32.toUInt32 (1 : Int32) &&& Int32.toUInt32 31)).toInt32) &&& (1431655765 : Int32))) &&& (858993459 : Int32)) + (((Int32.toUInt32 (x - (((Int32.toUInt32 x >>> (Int32.toUInt32 (1 : Int32) &&& Int32.toUInt32 31)).toInt32) &&& (1431655765 : Int32))) >>> (Int32.toUInt32 (2 : Int32) &&& Int32.toUInt32 31)).toInt32) &&& (858993459 : Int32))) >>> (Int32.toUInt32 (4 : Int32) &&& Int32.toUInt32 31)).toInt32)) &&& (252645135 : Int32))) C dJ6_bitCount_0f7a4_32 rfl ?_
  refine q_istore_n (lv2 := [(0, .int (((((x - (((Int32.toUInt32 x >>> (Int32.toUInt32 (1 : Int32) &&& Int32.toUInt32 31)).toInt32) &&& (1431655765 : Int32))) &&& (858993459 : Int32)) + (((Int32.toUInt32 (x - (((Int32.toUInt32 x >>> (Int32.toUInt32 (1 : Int32) &&& Int32.toUInt32 31)).toInt32) &&& (1431655765 : Int32))) >>> (Int32.toUInt32 (2 : Int32) &&& Int32.toUInt32 31)).toInt32) &&& (858993459 : Int32))) + ((Int32.toUInt32 (((x - (((Int32.toUInt32 x >>> (Int32.toUInt32 (1 : Int32) &&& Int32.toUInt32 31)).toInt32) &&& (1431655765 : Int32))) &&& (858993459 : Int32)) + (((Int32.toUInt32 (x - (((Int32.toUInt32 x >>> (Int32.toUInt32 (1 : Int32) &&& Int32.toUInt32 31)).toInt32) &&& (1431655765 : Int32))) >>> (Int32.toUInt32 (2 : Int32) &&& Int32.toUInt32 31)).toInt32) &&& (858993459 : Int32))) >>> (Int32.toUInt32 (4 : Int32) &&& Int32.toUInt32 31)).toInt32)) &&& (252645135 : Int32)))]) C dJ6_bitCount_0f7a4_33 (by decide) rfl ?_
  refine q_iload_n (j := 0) C dJ6_bitCount_0f7a4_34 rfl ?_
  refine q_iload_n (j := 0) C dJ6_bitCount_0f7a4_35 rfl ?_
  refine q_bipush (v := 8) C dJ6_bitCount_0f7a4_36 (by decide) ?_
  refine q_iushr (v := ((Int32.toUInt32 (((((x - (((Int32.toUInt32 x >>> (Int32.toUInt32 (1 : Int32) &&& Int32.toUInt32 31)).toInt32) &&& (1431655765 : Int32))) &&& (858993459 : Int32)) + (((Int32.toUInt32 (x - (((Int32.toUInt32 x >>> (Int32.toUInt32 (1 : Int32) &&& Int32.toUInt32 31)).toInt32) &&& (1431655765 : Int32))) >>> (Int32.toUInt32 (2 : Int32) &&& Int32.toUInt32 31)).toInt32) &&& (858993459 : Int32))) + ((Int32.toUInt32 (((x - (((Int32.toUInt32 x >>> (Int32.toUInt32 (1 : Int32) &&& Int32.toUInt32 31)).toInt32) &&& (1431655765 : Int32))) &&& (858993459 : Int32)) + (((Int32.toUInt32 (x - (((Int32.toUInt32 x >>> (Int32.toUInt32 (1 : Int32) &&& Int32.toUInt32 31)).toInt32) &&& (1431655765 : Int32))) >>> (Int32.toUInt32 (2 : Int32) &&& Int32.toUInt32 31)).toInt32) &&& (858993459 : Int32))) >>> (Int32.toUInt32 (4 : Int32) &&& Int32.toUInt32 31)).toInt32)) &&& (252645135 : Int32)) >>> (Int32.toUInt32 (8 : Int32) &&& Int32.toUInt32 31)).toInt32)) C dJ6_bitCount_0f7a4_38 rfl ?_
  refine q_iadd (v := ((((((x - (((Int32.toUInt32 x >>> (Int32.toUInt32 (1 : Int32) &&& Int32.toUInt32 31)).toInt32) &&& (1431655765 : Int32))) &&& (858993459 : Int32)) + (((Int32.toUInt32 (x - (((Int32.toUInt32 x >>> (Int32.toUInt32 (1 : Int32) &&& Int32.toUInt32 31)).toInt32) &&& (1431655765 : Int32))) >>> (Int32.toUInt32 (2 : Int32) &&& Int32.toUInt32 31)).toInt32) &&& (858993459 : Int32))) + ((Int32.toUInt32 (((x - (((Int32.toUInt32 x >>> (Int32.toUInt32 (1 : Int32) &&& Int32.toUInt32 31)).toInt32) &&& (1431655765 : Int32))) &&& (858993459 : Int32)) + (((Int32.toUInt32 (x - (((Int32.toUInt32 x >>> (Int32.toUInt32 (1 : Int32) &&& Int32.toUInt32 31)).toInt32) &&& (1431655765 : Int32))) >>> (Int32.toUInt32 (2 : Int32) &&& Int32.toUInt32 31)).toInt32) &&& (858993459 : Int32))) >>> (Int32.toUInt32 (4 : Int32) &&& Int32.toUInt32 31)).toInt32)) &&& (252645135 : Int32)) + ((Int32.toUInt32 (((((x - (((Int32.toUInt32 x >>> (Int32.toUInt32 (1 : Int32) &&& Int32.toUInt32 31)).toInt32) &&& (1431655765 : Int32))) &&& (858993459 : Int32)) + (((Int32.toUInt32 (x - (((Int32.toUInt32 x >>> (Int32.toUInt32 (1 : Int32) &&& Int32.toUInt32 31)).toInt32) &&& (1431655765 : Int32))) >>> (Int32.toUInt32 (2 : Int32) &&& Int32.toUInt32 31)).toInt32) &&& (858993459 : Int32))) + ((Int32.toUInt32 (((x - (((Int32.toUInt32 x >>> (Int32.toUInt32 (1 : Int32) &&& Int32.toUInt32 31)).toInt32) &&& (1431655765 : Int32))) &&& (858993459 : Int32)) + (((Int32.toUInt32 (x - (((Int32.toUInt32 x >>> (Int32.toUInt32 (1 : Int32) &&& Int32.toUInt32 31)).toInt32) &&& (1431655765 : Int32))) >>> (Int32.toUInt32 (2 : Int32) &&& Int32.toUInt32 31)).toInt32) &&& (858993459 : Int32))) >>> (Int32.toUInt32 (4 : Int32) &&& Int32.toUInt32 31)).toInt32)) &&& (252645135 : Int32)) >>> (Int32.toUInt32 (8 : Int32) &&& Int32.toUInt32 31)).toInt32))) C dJ6_bitCount_0f7a4_39 rfl ?_
  refine q_istore_n (lv2 := [(0, .int ((((((x - (((Int32.toUInt32 x >>> (Int32.toUInt32 (1 : Int32) &&& Int32.toUInt32 31)).toInt32) &&& (1431655765 : Int32))) &&& (858993459 : Int32)) + (((Int32.toUInt32 (x - (((Int32.toUInt32 x >>> (Int32.toUInt32 (1 : Int32) &&& Int32.toUInt32 31)).toInt32) &&& (1431655765 : Int32))) >>> (Int32.toUInt32 (2 : Int32) &&& Int32.toUInt32 31)).toInt32) &&& (858993459 : Int32))) + ((Int32.toUInt32 (((x - (((Int32.toUInt32 x >>> (Int32.toUInt32 (1 : Int32) &&& Int32.toUInt32 31)).toInt32) &&& (1431655765 : Int32))) &&& (858993459 : Int32)) + (((Int32.toUInt32 (x - (((Int32.toUInt32 x >>> (Int32.toUInt32 (1 : Int32) &&& Int32.toUInt32 31)).toInt32) &&& (1431655765 : Int32))) >>> (Int32.toUInt32 (2 : Int32) &&& Int32.toUInt32 31)).toInt32) &&& (858993459 : Int32))) >>> (Int32.toUInt32 (4 : Int32) &&& Int32.toUInt32 31)).toInt32)) &&& (252645135 : Int32)) + ((Int32.toUInt32 (((((x - (((Int32.toUInt32 x >>> (Int32.toUInt32 (1 : Int32) &&& Int32.toUInt32 31)).toInt32) &&& (1431655765 : Int32))) &&& (858993459 : Int32)) + (((Int32.toUInt32 (x - (((Int32.toUInt32 x >>> (Int32.toUInt32 (1 : Int32) &&& Int32.toUInt32 31)).toInt32) &&& (1431655765 : Int32))) >>> (Int32.toUInt32 (2 : Int32) &&& Int32.toUInt32 31)).toInt32) &&& (858993459 : Int32))) + ((Int32.toUInt32 (((x - (((Int32.toUInt32 x >>> (Int32.toUInt32 (1 : Int32) &&& Int32.toUInt32 31)).toInt32) &&& (1431655765 : Int32))) &&& (858993459 : Int32)) + (((Int32.toUInt32 (x - (((Int32.toUInt32 x >>> (Int32.toUInt32 (1 : Int32) &&& Int32.toUInt32 31)).toInt32) &&& (1431655765 : Int32))) >>> (Int32.toUInt32 (2 : Int32) &&& Int32.toUInt32 31)).toInt32) &&& (858993459 : Int32))) >>> (Int32.toUInt32 (4 : Int32) &&& Int32.toUInt32 31)).toInt32)) &&& (252645135 : Int32)) >>> (Int32.toUInt32 (8 : Int32) &&& Int32.toUInt32 31)).toInt32)))]) C dJ6_bitCount_0f7a4_40 (by decide) rfl ?_
  refine q_iload_n (j := 0) C dJ6_bitCount_0f7a4_41 rfl ?_
  refine q_iload_n (j := 0) C dJ6_bitCount_0f7a4_42 rfl ?_
  refine q_bipush (v := 16) C dJ6_bitCount_0f7a4_43 (by decide) ?_
  refine q_iushr (v := ((Int32.toUInt32 ((((((x - (((Int32.toUInt32 x >>> (Int32.toUInt32 (1 : Int32) &&& Int32.toUInt32 31)).toInt32) &&& (1431655765 : Int32))) &&& (858993459 : Int32)) + (((Int32.toUInt32 (x - (((Int32.toUInt32 x >>> (Int32.toUInt32 (1 : Int32) &&& Int32.toUInt32 31)).toInt32) &&& (1431655765 : Int32))) >>> (Int32.toUInt32 (2 : Int32) &&& Int32.toUInt32 31)).toInt32) &&& (858993459 : Int32))) + ((Int32.toUInt32 (((x - (((Int32.toUInt32 x >>> (Int32.toUInt32 (1 : Int32) &&& Int32.toUInt32 31)).toInt32) &&& (1431655765 : Int32))) &&& (858993459 : Int32)) + (((Int32.toUInt32 (x - (((Int32.toUInt32 x >>> (Int32.toUInt32 (1 : Int32) &&& Int32.toUInt32 31)).toInt32) &&& (1431655765 : Int32))) >>> (Int32.toUInt32 (2 : Int32) &&& Int32.toUInt32 31)).toInt32) &&& (858993459 : Int32))) >>> (Int32.toUInt32 (4 : Int32) &&& Int32.toUInt32 31)).toInt32)) &&& (252645135 : Int32)) + ((Int32.toUInt32 (((((x - (((Int32.toUInt32 x >>> (Int32.toUInt32 (1 : Int32) &&& Int32.toUInt32 31)).toInt32) &&& (1431655765 : Int32))) &&& (858993459 : Int32)) + (((Int32.toUInt32 (x - (((Int32.toUInt32 x >>> (Int32.toUInt32 (1 : Int32) &&& Int32.toUInt32 31)).toInt32) &&& (1431655765 : Int32))) >>> (Int32.toUInt32 (2 : Int32) &&& Int32.toUInt32 31)).toInt32) &&& (858993459 : Int32))) + ((Int32.toUInt32 (((x - (((Int32.toUInt32 x >>> (Int32.toUInt32 (1 : Int32) &&& Int32.toUInt32 31)).toInt32) &&& (1431655765 : Int32))) &&& (858993459 : Int32)) + (((Int32.toUInt32 (x - (((Int32.toUInt32 x >>> (Int32.toUInt32 (1 : Int32) &&& Int32.toUInt32 31)).toInt32) &&& (1431655765 : Int32))) >>> (Int32.toUInt32 (2 : Int32) &&& Int32.toUInt32 31)).toInt32) &&& (858993459 : Int32))) >>> (Int32.toUInt32 (4 : Int32) &&& Int32.toUInt32 31)).toInt32)) &&& (252645135 : Int32)) >>> (Int32.toUInt32 (8 : Int32) &&& Int32.toUInt32 31)).toInt32)) >>> (Int32.toUInt32 (16 : Int32) &&& Int32.toUInt32 31)).toInt32)) C dJ6_bitCount_0f7a4_45 rfl ?_
  refine q_iadd (v := (((((((x - (((Int32.toUInt32 x >>> (Int32.toUInt32 (1 : Int32) &&& Int32.toUInt32 31)).toInt32) &&& (1431655765 : Int32))) &&& (858993459 : Int32)) + (((Int32.toUInt32 (x - (((Int32.toUInt32 x >>> (Int32.toUInt32 (1 : Int32) &&& Int32.toUInt32 31)).toInt32) &&& (1431655765 : Int32))) >>> (Int32.toUInt32 (2 : Int32) &&& Int32.toUInt32 31)).toInt32) &&& (858993459 : Int32))) + ((Int32.toUInt32 (((x - (((Int32.toUInt32 x >>> (Int32.toUInt32 (1 : Int32) &&& Int32.toUInt32 31)).toInt32) &&& (1431655765 : Int32))) &&& (858993459 : Int32)) + (((Int32.toUInt32 (x - (((Int32.toUInt32 x >>> (Int32.toUInt32 (1 : Int32) &&& Int32.toUInt32 31)).toInt32) &&& (1431655765 : Int32))) >>> (Int32.toUInt32 (2 : Int32) &&& Int32.toUInt32 31)).toInt32) &&& (858993459 : Int32))) >>> (Int32.toUInt32 (4 : Int32) &&& Int32.toUInt32 31)).toInt32)) &&& (252645135 : Int32)) + ((Int32.toUInt32 (((((x - (((Int32.toUInt32 x >>> (Int32.toUInt32 (1 : Int32) &&& Int32.toUInt32 31)).toInt32) &&& (1431655765 : Int32))) &&& (858993459 : Int32)) + (((Int32.toUInt32 (x - (((Int32.toUInt32 x >>> (Int32.toUInt32 (1 : Int32) &&& Int32.toUInt32 31)).toInt32) &&& (1431655765 : Int32))) >>> (Int32.toUInt32 (2 : Int32) &&& Int32.toUInt32 31)).toInt32) &&& (858993459 : Int32))) + ((Int32.toUInt32 (((x - (((Int32.toUInt32 x >>> (Int32.toUInt32 (1 : Int32) &&& Int32.toUInt32 31)).toInt32) &&& (1431655765 : Int32))) &&& (858993459 : Int32)) + (((Int32.toUInt32 (x - (((Int32.toUInt32 x >>> (Int32.toUInt32 (1 : Int32) &&& Int32.toUInt32 31)).toInt32) &&& (1431655765 : Int32))) >>> (Int32.toUInt32 (2 : Int32) &&& Int32.toUInt32 31)).toInt32) &&& (858993459 : Int32))) >>> (Int32.toUInt32 (4 : Int32) &&& Int32.toUInt32 31)).toInt32)) &&& (252645135 : Int32)) >>> (Int32.toUInt32 (8 : Int32) &&& Int32.toUInt32 31)).toInt32)) + ((Int32.toUInt32 ((((((x - (((Int32.toUInt32 x >>> (Int32.toUInt32 (1 : Int32) &&& Int32.toUInt32 31)).toInt32) &&& (1431655765 : Int32))) &&& (858993459 : Int32)) + (((Int32.toUInt32 (x - (((Int32.toUInt32 x >>> (Int32.toUInt32 (1 : Int32) &&& Int32.toUInt32 31)).toInt32) &&& (1431655765 : Int32))) >>> (Int32.toUInt32 (2 : Int32) &&& Int32.toUInt32 31)).toInt32) &&& (858993459 : Int32))) + ((Int32.toUInt32 (((x - (((Int32.toUInt32 x >>> (Int32.toUInt32 (1 : Int32) &&& Int32.toUInt32 31)).toInt32) &&& (1431655765 : Int32))) &&& (858993459 : Int32)) + (((Int32.toUInt32 (x - (((Int32.toUInt32 x >>> (Int32.toUInt32 (1 : Int32) &&& Int32.toUInt32 31)).toInt32) &&& (1431655765 : Int32))) >>> (Int32.toUInt32 (2 : Int32) &&& Int32.toUInt32 31)).toInt32) &&& (858993459 : Int32))) >>> (Int32.toUInt32 (4 : Int32) &&& Int32.toUInt32 31)).toInt32)) &&& (252645135 : Int32)) + ((Int32.toUInt32 (((((x - (((Int32.toUInt32 x >>> (Int32.toUInt32 (1 : Int32) &&& Int32.toUInt32 31)).toInt32) &&& (1431655765 : Int32))) &&& (858993459 : Int32)) + (((Int32.toUInt32 (x - (((Int32.toUInt32 x >>> (Int32.toUInt32 (1 : Int32) &&& Int32.toUInt32 31)).toInt32) &&& (1431655765 : Int32))) >>> (Int32.toUInt32 (2 : Int32) &&& Int32.toUInt32 31)).toInt32) &&& (858993459 : Int32))) + ((Int32.toUInt32 (((x - (((Int32.toUInt32 x >>> (Int32.toUInt32 (1 : Int32) &&& Int32.toUInt32 31)).toInt32) &&& (1431655765 : Int32))) &&& (858993459 : Int32)) + (((Int32.toUInt32 (x - (((Int32.toUInt32 x >>> (Int32.toUInt32 (1 : Int32) &&& Int32.toUInt32 31)).toInt32) &&& (1431655765 : Int32))) >>> (Int32.toUInt32 (2 : Int32) &&& Int32.toUInt32 31)).toInt32) &&& (858993459 : Int32))) >>> (Int32.toUInt32 (4 : Int32) &&& Int32.toUInt32 31)).toInt32)) &&& (252645135 : Int32)) >>> (Int32.toUInt32 (8 : Int32) &&& Int32.toUInt32 31)).toInt32)) >>> (Int32.toUInt32 (16 : Int32) &&& Int32.toUInt32 31)).toInt32))) C dJ6_bitCount_0f7a4_46 rfl ?_
  refine q_istore_n (lv2 := [(0, .int (((((((x - (((Int32.toUInt32 x >>> (Int32.toUInt32 (1 : Int32) &&& Int32.toUInt32 31)).toInt32) &&& (1431655765 : Int32))) &&& (858993459 : Int32)) + (((Int32.toUInt32 (x - (((Int32.toUInt32 x >>> (Int32.toUInt32 (1 : Int32) &&& Int32.toUInt32 31)).toInt32) &&& (1431655765 : Int32))) >>> (Int32.toUInt32 (2 : Int32) &&& Int32.toUInt32 31)).toInt32) &&& (858993459 : Int32))) + ((Int32.toUInt32 (((x - (((Int32.toUInt32 x >>> (Int32.toUInt32 (1 : Int32) &&& Int32.toUInt32 31)).toInt32) &&& (1431655765 : Int32))) &&& (858993459 : Int32)) + (((Int32.toUInt32 (x - (((Int32.toUInt32 x >>> (Int32.toUInt32 (1 : Int32) &&& Int32.toUInt32 31)).toInt32) &&& (1431655765 : Int32))) >>> (Int32.toUInt32 (2 : Int32) &&& Int32.toUInt32 31)).toInt32) &&& (858993459 : Int32))) >>> (Int32.toUInt32 (4 : Int32) &&& Int32.toUInt32 31)).toInt32)) &&& (252645135 : Int32)) + ((Int32.toUInt32 (((((x - (((Int32.toUInt32 x >>> (Int32.toUInt32 (1 : Int32) &&& Int32.toUInt32 31)).toInt32) &&& (1431655765 : Int32))) &&& (858993459 : Int32)) + (((Int32.toUInt32 (x - (((Int32.toUInt32 x >>> (Int32.toUInt32 (1 : Int32) &&& Int32.toUInt32 31)).toInt32) &&& (1431655765 : Int32))) >>> (Int32.toUInt32 (2 : Int32) &&& Int32.toUInt32 31)).toInt32) &&& (858993459 : Int32))) + ((Int32.toUInt32 (((x - (((Int32.toUInt32 x >>> (Int32.toUInt32 (1 : Int32) &&& Int32.toUInt32 31)).toInt32) &&& (1431655765 : Int32))) &&& (858993459 : Int32)) + (((Int32.toUInt32 (x - (((Int32.toUInt32 x >>> (Int32.toUInt32 (1 : Int32) &&& Int32.toUInt32 31)).toInt32) &&& (1431655765 : Int32))) >>> (Int32.toUInt32 (2 : Int32) &&& Int32.toUInt32 31)).toInt32) &&& (858993459 : Int32))) >>> (Int32.toUInt32 (4 : Int32) &&& Int32.toUInt32 31)).toInt32)) &&& (252645135 : Int32)) >>> (Int32.toUInt32 (8 : Int32) &&& Int32.toUInt32 31)).toInt32)) + ((Int32.toUInt32 ((((((x - (((Int32.toUInt32 x >>> (Int32.toUInt32 (1 : Int32) &&& Int32.toUInt32 31)).toInt32) &&& (1431655765 : Int32))) &&& (858993459 : Int32)) + (((Int32.toUInt32 (x - (((Int32.toUInt32 x >>> (Int32.toUInt32 (1 : Int32) &&& Int32.toUInt32 31)).toInt32) &&& (1431655765 : Int32))) >>> (Int32.toUInt32 (2 : Int32) &&& Int32.toUInt32 31)).toInt32) &&& (858993459 : Int32))) + ((Int32.toUInt32 (((x - (((Int32.toUInt32 x >>> (Int32.toUInt32 (1 : Int32) &&& Int32.toUInt32 31)).toInt32) &&& (1431655765 : Int32))) &&& (858993459 : Int32)) + (((Int32.toUInt32 (x - (((Int32.toUInt32 x >>> (Int32.toUInt32 (1 : Int32) &&& Int32.toUInt32 31)).toInt32) &&& (1431655765 : Int32))) >>> (Int32.toUInt32 (2 : Int32) &&& Int32.toUInt32 31)).toInt32) &&& (858993459 : Int32))) >>> (Int32.toUInt32 (4 : Int32) &&& Int32.toUInt32 31)).toInt32)) &&& (252645135 : Int32)) + ((Int32.toUInt32 (((((x - (((Int32.toUInt32 x >>> (Int32.toUInt32 (1 : Int32) &&& Int32.toUInt32 31)).toInt32) &&& (1431655765 : Int32))) &&& (858993459 : Int32)) + (((Int32.toUInt32 (x - (((Int32.toUInt32 x >>> (Int32.toUInt32 (1 : Int32) &&& Int32.toUInt32 31)).toInt32) &&& (1431655765 : Int32))) >>> (Int32.toUInt32 (2 : Int32) &&& Int32.toUInt32 31)).toInt32) &&& (858993459 : Int32))) + ((Int32.toUInt32 (((x - (((Int32.toUInt32 x >>> (Int32.toUInt32 (1 : Int32) &&& Int32.toUInt32 31)).toInt32) &&& (1431655765 : Int32))) &&& (858993459 : Int32)) + (((Int32.toUInt32 (x - (((Int32.toUInt32 x >>> (Int32.toUInt32 (1 : Int32) &&& Int32.toUInt32 31)).toInt32) &&& (1431655765 : Int32))) >>> (Int32.toUInt32 (2 : Int32) &&& Int32.toUInt32 31)).toInt32) &&& (858993459 : Int32))) >>> (Int32.toUInt32 (4 : Int32) &&& Int32.toUInt32 31)).toInt32)) &&& (252645135 : Int32)) >>> (Int32.toUInt32 (8 : Int32) &&& Int32.toUInt32 31)).toInt32)) >>> (Int32.toUInt32 (16 : Int32) &&& Int32.toUInt32 31)).toInt32)))]) C dJ6_bitCount_0f7a4_47 (by decide) rfl ?_
  refine q_iload_n (j := 0) C dJ6_bitCount_0f7a4_48 rfl ?_
  refine q_bipush (v := 63) C dJ6_bitCount_0f7a4_49 (by decide) ?_
  refine q_iand (v := ((((((((x - (((Int32.toUInt32 x >>> (Int32.toUInt32 (1 : Int32) &&& Int32.toUInt32 31)).toInt32) &&& (1431655765 : Int32))) &&& (858993459 : Int32)) + (((Int32.toUInt32 (x - (((Int32.toUInt32 x >>> (Int32.toUInt32 (1 : Int32) &&& Int32.toUInt32 31)).toInt32) &&& (1431655765 : Int32))) >>> (Int32.toUInt32 (2 : Int32) &&& Int32.toUInt32 31)).toInt32) &&& (858993459 : Int32))) + ((Int32.toUInt32 (((x - (((Int32.toUInt32 x >>> (Int32.toUInt32 (1 : Int32) &&& Int32.toUInt32 31)).toInt32) &&& (1431655765 : Int32))) &&& (858993459 : Int32)) + (((Int32.toUInt32 (x - (((Int32.toUInt32 x >>> (Int32.toUInt32 (1 : Int32) &&& Int32.toUInt32 31)).toInt32) &&& (1431655765 : Int32))) >>> (Int32.toUInt32 (2 : Int32) &&& Int32.toUInt32 31)).toInt32) &&& (858993459 : Int32))) >>> (Int32.toUInt32 (4 : Int32) &&& Int32.toUInt32 31)).toInt32)) &&& (252645135 : Int32)) + ((Int32.toUInt32 (((((x - (((Int32.toUInt32 x >>> (Int32.toUInt32 (1 : Int32) &&& Int32.toUInt32 31)).toInt32) &&& (1431655765 : Int32))) &&& (858993459 : Int32)) + (((Int32.toUInt32 (x - (((Int32.toUInt32 x >>> (Int32.toUInt32 (1 : Int32) &&& Int32.toUInt32 31)).toInt32) &&& (1431655765 : Int32))) >>> (Int32.toUInt32 (2 : Int32) &&& Int32.toUInt32 31)).toInt32) &&& (858993459 : Int32))) + ((Int32.toUInt32 (((x - (((Int32.toUInt32 x >>> (Int32.toUInt32 (1 : Int32) &&& Int32.toUInt32 31)).toInt32) &&& (1431655765 : Int32))) &&& (858993459 : Int32)) + (((Int32.toUInt32 (x - (((Int32.toUInt32 x >>> (Int32.toUInt32 (1 : Int32) &&& Int32.toUInt32 31)).toInt32) &&& (1431655765 : Int32))) >>> (Int32.toUInt32 (2 : Int32) &&& Int32.toUInt32 31)).toInt32) &&& (858993459 : Int32))) >>> (Int32.toUInt32 (4 : Int32) &&& Int32.toUInt32 31)).toInt32)) &&& (252645135 : Int32)) >>> (Int32.toUInt32 (8 : Int32) &&& Int32.toUInt32 31)).toInt32)) + ((Int32.toUInt32 ((((((x - (((Int32.toUInt32 x >>> (Int32.toUInt32 (1 : Int32) &&& Int32.toUInt32 31)).toInt32) &&& (1431655765 : Int32))) &&& (858993459 : Int32)) + (((Int32.toUInt32 (x - (((Int32.toUInt32 x >>> (Int32.toUInt32 (1 : Int32) &&& Int32.toUInt32 31)).toInt32) &&& (1431655765 : Int32))) >>> (Int32.toUInt32 (2 : Int32) &&& Int32.toUInt32 31)).toInt32) &&& (858993459 : Int32))) + ((Int32.toUInt32 (((x - (((Int32.toUInt32 x >>> (Int32.toUInt32 (1 : Int32) &&& Int32.toUInt32 31)).toInt32) &&& (1431655765 : Int32))) &&& (858993459 : Int32)) + (((Int32.toUInt32 (x - (((Int32.toUInt32 x >>> (Int32.toUInt32 (1 : Int32) &&& Int32.toUInt32 31)).toInt32) &&& (1431655765 : Int32))) >>> (Int32.toUInt32 (2 : Int32) &&& Int32.toUInt32 31)).toInt32) &&& (858993459 : Int32))) >>> (Int32.toUInt32 (4 : Int32) &&& Int32.toUInt32 31)).toInt32)) &&& (252645135 : Int32)) + ((Int32.toUInt32 (((((x - (((Int32.toUInt32 x >>> (Int32.toUInt32 (1 : Int32) &&& Int32.toUInt32 31)).toInt32) &&& (1431655765 : Int32))) &&& (858993459 : Int32)) + (((Int32.toUInt32 (x - (((Int32.toUInt32 x >>> (Int32.toUInt32 (1 : Int32) &&& Int32.toUInt32 31)).toInt32) &&& (1431655765 : Int32))) >>> (Int32.toUInt32 (2 : Int32) &&& Int32.toUInt32 31)).toInt32) &&& (858993459 : Int32))) + ((Int32.toUInt32 (((x - (((Int32.toUInt32 x >>> (Int32.toUInt32 (1 : Int32) &&& Int32.toUInt32 31)).toInt32) &&& (1431655765 : Int32))) &&& (858993459 : Int32)) + (((Int32.toUInt32 (x - (((Int32.toUInt32 x >>> (Int32.toUInt32 (1 : Int32) &&& Int32.toUInt32 31)).toInt32) &&& (1431655765 : Int32))) >>> (Int32.toUInt32 (2 : Int32) &&& Int32.toUInt32 31)).toInt32) &&& (858993459 : Int32))) >>> (Int32.toUInt32 (4 : Int32) &&& Int32.toUInt32 31)).toInt32)) &&& (252645135 : Int32)) >>> (Int32.toUInt32 (8 : Int32) &&& Int32.toUInt32 31)).toInt32)) >>> (Int32.toUInt32 (16 : Int32) &&& Int32.toUInt32 31)).toInt32)) &&& (63 : Int32))) C dJ6_bitCount_0f7a4_51 rfl ?_
  exact q_iret C dJ6_bitCount_0f7a4_52 rfl (Nat.le_of_ble_eq_true rfl) (Nat.le_of_ble_eq_true rfl) ⟨rfl, rfl, rfl⟩
set_option maxHeartbeats 4000000 in
set_option maxRecDepth 100000 in
theorem B_putRow {l : Launch} {G : GT} {h0 : Nat} {ad ln : Nat → Nat} {v : Nat → Int} {a : Nat → Nat → Int}  {x y : Int} (hB : BX v a) (hx : -2147483648 ≤ x ∧ x ≤ 2147483647) (hy : -2147483648 ≤ y ∧ y ≤ 2147483647) (h50 : v 50 < 40200) : Mm l G yX12_putRow cX12_putRow 3 none 0 [.int (iI x), .int (iI y)] h0 ad ln v a 0 0 (fun r v2 a2 => r = none ∧ fr [50] [48, 49] v a v2 a2 ∧ BX v2 a2 ∧ (v2 50 = v 50 + 1)) := by
  refine Mm.mk (by decide) (Nat.le_of_ble_eq_true rfl) ?_
  intro p e s m args below meth c A C
  have fp0 : fr [50] [48, 49] v a v a := fr.refl
  refine m_aload_n (j := 0) C dX12_putRow_0 rfl ?_
  refine m_geta (k := 48) C dX12_putRow_1 w6_107 (by decide) rfl ?_
  refine m_aload_n (j := 0) C dX12_putRow_4 rfl ?_
  have rv1 : 0 ≤ v 50 ∧ v 50 ≤ 40200 := hB.1 50
  refine m_get (k := 50) C dX12_putRow_5 w6_109 (by decide) rfl ?_
  refine m_iload_n (j := 1) C dX12_putRow_8 rfl ?_
  refine m_ast (k := 48) C dX12_putRow_9 rfl rfl (by decide) (by omega) (by show _ < ((_ : Nat) : Int); simp only [mlen]; omega) (by decide) ?_
  refine hv2 (show BX v (up2 a 48 (v 50).toNat x) from hB.set (k := 48) (i := (v 50).toNat) (z := x) (show (-2147483648) ≤ x ∧ x ≤ 2147483647 by omega)) (fp0.set (k := 48) (i := (v 50).toNat) (z := x) rfl) (fun bq1 fq1 => ?_)
  refine m_aload_n (j := 0) C dX12_putRow_10 rfl ?_
  refine m_geta (k := 49) C dX12_putRow_11 w6_108 (by decide) rfl ?_
  refine m_aload_n (j := 0) C dX12_putRow_14 rfl ?_
  refine m_get (k := 50) C dX12_putRow_15 w6_109 (by decide) rfl ?_
  refine m_iload_n (j := 2) C dX12_putRow_18 rfl ?_
  refine m_ast (k := 49) C dX12_putRow_19 rfl rfl (by decide) (by omega) (by show _ < ((_ : Nat) : Int); simp only [mlen]; omega) (by decide) ?_
  refine hv2 (show BX v (up2 (up2 a 48 (v 50).toNat x) 49 (v 50).toNat y) from bq1.set (k := 49) (i := (v 50).toNat) (z := y) (show (-2147483648) ≤ y ∧ y ≤ 2147483647 by omega)) (fq1.set (k := 49) (i := (v 50).toNat) (z := y) rfl) (fun bq2 fq2 => ?_)
  refine m_aload_n (j := 0) C dX12_putRow_20 rfl ?_
  refine m_dup C dX12_putRow_21 rfl ?_
  refine m_get (k := 50) C dX12_putRow_22 w6_109 (by decide) rfl ?_
  refine m_iconst C dX12_putRow_25 ?_
  refine m_iadd C dX12_putRow_26 ?_
  refine m_put (k := 50) (z := (v 50) + 1) C dX12_putRow_27 w6_109 (by decide) rfl rfl rfl ?_
  refine hv2 (show BX (va_up v 50 ((v 50) + 1)) (up2 (up2 a 48 (v 50).toNat x) 49 (v 50).toNat y) from bq2.put (k := 50) (z := (v 50) + 1) (show 0 ≤ ((v 50) + 1) ∧ ((v 50) + 1) ≤ 40200 by omega)) (fq2.put (k := 50) (z := (v 50) + 1) rfl) (fun bq3 fq3 => ?_)
  exact m_vret C dX12_putRow_30 rfl (Nat.le_of_ble_eq_true rfl) (Nat.le_of_ble_eq_true rfl) ⟨rfl, fq3, bq3, rfl⟩
set_option maxHeartbeats 4000000 in
set_option maxRecDepth 100000 in
theorem B_hasHead {l : Launch} {G : GT} {h0 : Nat} {ad ln : Nat → Nat} {v : Nat → Int} {a : Nat → Nat → Int}  (hB : BX v a)  : Mm l G yX12_hasHead cX12_hasHead 1 (some .boolean) 0 [] h0 ad ln v a 0 0 (fun r v2 a2 => ∃ f : Int, r = some (.int (iI f)) ∧ fr [] [] v a v2 a2 ∧ BX v2 a2 ∧ (f = 0 ∨ (f = 1 ∧ 0 < v 41 ∧ 2 ≤ v 32))) := by
  refine Mm.mk (by decide) (Nat.le_of_ble_eq_true rfl) ?_
  intro p e s m args below meth c A C
  have fp0 : fr [] [] v a v a := fr.refl
  refine m_aload_n (j := 0) C dX12_hasHead_0 rfl ?_
  have rv1 : 0 ≤ v 41 ∧ v 41 ≤ 200 := hB.1 41
  refine m_get (k := 41) C dX12_hasHead_1 w6_100 (by decide) rfl ?_
  refine m_if_le (tgt := 19) C (r32_c (lo := 0) (hi := 200) rv1.1 rv1.2 (by decide) (by decide)) dX12_hasHead_4 (by decide) (fun c1 => ?_) (fun c1 => ?_)
  · refine m_iconst C dX12_hasHead_19 ?_
    exact m_zret C dX12_hasHead_20 rfl (Or.inl rfl) (Nat.le_of_ble_eq_true rfl) (Nat.le_of_ble_eq_true rfl) ⟨0, rfl, fp0, hB, (by omega)⟩
  · refine m_aload_n (j := 0) C dX12_hasHead_7 rfl ?_
    have rv2 : 1 ≤ v 32 ∧ v 32 ≤ 50 := hB.1 32
    refine m_get (k := 32) C dX12_hasHead_8 w6_91 (by decide) rfl ?_
    refine m_iconst C dX12_hasHead_11 ?_
    refine m_icmp_lt (tgt := 19) C (r32_c (lo := 1) (hi := 50) rv2.1 rv2.2 (by decide) (by decide)) ⟨by decide, by decide⟩ dX12_hasHead_12 (by decide) (fun c2 => ?_) (fun c2 => ?_)
    · refine m_iconst C dX12_hasHead_19 ?_
      exact m_zret C dX12_hasHead_20 rfl (Or.inl rfl) (Nat.le_of_ble_eq_true rfl) (Nat.le_of_ble_eq_true rfl) ⟨0, rfl, fp0, hB, (by omega)⟩
    · refine m_iconst C dX12_hasHead_15 ?_
      refine m_goto (tgt := 20) C dX12_hasHead_16 (by decide) ?_
      exact m_zret C dX12_hasHead_20 rfl (Or.inr rfl) (Nat.le_of_ble_eq_true rfl) (Nat.le_of_ble_eq_true rfl) ⟨1, rfl, fp0, hB, (by omega)⟩
set_option maxHeartbeats 4000000 in
set_option maxRecDepth 100000 in
theorem B_onPage {l : Launch} {G : GT} {h0 : Nat} {ad ln : Nat → Nat} {v : Nat → Int} {a : Nat → Nat → Int}  (hB : BX v a)  : Mm l G yX12_onPage cX12_onPage 1 (some .int) 1 [] h0 ad ln v a 0 0 (fun r v2 a2 => ∃ f : Int, r = some (.int (iI f)) ∧ fr [] [] v a v2 a2 ∧ BX v2 a2 ∧ (1 ≤ f ∧ f ≤ 50)) := by
  refine Mm.mk (by decide) (Nat.le_of_ble_eq_true rfl) ?_
  intro p e s m args below meth c A C
  have fp0 : fr [] [] v a v a := fr.refl
  refine m_aload_n (j := 0) C dX12_onPage_0 rfl ?_
  refine hv2 (show 0 ≤ v 41 ∧ v 41 ≤ 200 from hB.1 41) (show 1 ≤ v 32 ∧ v 32 ≤ 50 from hB.1 32) (fun rv1 rv2 => ?_)
  refine m_call (mc2 := 0) (ms2 := 0) (As := []) (rest := []) C (B_hasHead  hB ) dX12_onPage_1 kV_X12_288 rfl ck_13 rfl (Nat.le_of_ble_eq_true rfl) ⟨Nat.le_of_ble_eq_true rfl, Nat.le_of_ble_eq_true rfl⟩ ⟨Nat.le_of_ble_eq_true rfl, Nat.le_of_ble_eq_true rfl⟩ (fun rh1 vh1 ah1 h1 => ?_)
  obtain ⟨f1, rfl, fn1, bn1, ex1⟩ := h1
  obtain ⟨rfl, rfl⟩ := fn1.eq
  have gf1 : f1 = 0 ∨ (f1 = 1 ∧ 0 < (v 41) ∧ 2 ≤ (v 32)) := ex1
  refine m_st (st2 := [.int (iI f1)]) rfl ?_
  refine m_if_eq (tgt := 16) C (r32_0p gf1) dX12_onPage_4 (by decide) (fun c1 => ?_) (fun c1 => ?_)
  · clear gf1
    refine m_aload_n (j := 0) C dX12_onPage_16 rfl ?_
    refine m_get (k := 32) C dX12_onPage_17 w6_91 (by decide) rfl ?_
    exact m_iret C dX12_onPage_20 rfl (Nat.le_of_ble_eq_true rfl) (Nat.le_of_ble_eq_true rfl) ⟨(v 32), rfl, fp0, hB, (by omega)⟩
  · replace gf1 := (gf1.resolve_left c1)
    refine m_aload_n (j := 0) C dX12_onPage_7 rfl ?_
    refine m_get (k := 32) C dX12_onPage_8 w6_91 (by decide) rfl ?_
    refine m_iconst C dX12_onPage_11 ?_
    refine m_isub C dX12_onPage_12 ?_
    refine m_goto (tgt := 20) C dX12_onPage_13 (by decide) ?_
    exact m_iret C dX12_onPage_20 rfl (Nat.le_of_ble_eq_true rfl) (Nat.le_of_ble_eq_true rfl) ⟨((v 32) - 1), rfl, fp0, hB, (by omega)⟩
set_option maxHeartbeats 4000000 in
set_option maxRecDepth 100000 in
theorem M_pages {l : Launch} {G : GT} {h0 : Nat} {ad ln : Nat → Nat} {v : Nat → Int} {a : Nat → Nat → Int}  (hB : BX v a)  : Mm l G yX12_pages cX12_pages 1 (some .int) 2 [] h0 ad ln v a 0 0 (fun r v2 a2 => ∃ f : Int, r = some (.int (iI f)) ∧ fr [] [] v a v2 a2 ∧ BX v2 a2 ∧ (0 ≤ f ∧ f ≤ 249)) := by
  refine Mm.mk (by decide) (Nat.le_of_ble_eq_true rfl) ?_
  intro p e s m args below meth c A C
  have fp0 : fr [] [] v a v a := fr.refl
  refine m_aload_n (j := 0) C dX12_pages_0 rfl ?_
  have rv1 : 0 ≤ v 36 ∧ v 36 ≤ 200 := hB.1 36
  refine m_get (k := 36) C dX12_pages_1 w6_95 (by decide) rfl ?_
  refine m_aload_n (j := 0) C dX12_pages_4 rfl ?_
  refine m_call (mc2 := 0) (ms2 := 0) (As := []) (rest := [.int (iI (v 36))]) C (B_onPage  hB ) dX12_pages_5 kV_X12_291 rfl ck_13 rfl (Nat.le_of_ble_eq_true rfl) ⟨Nat.le_of_ble_eq_true rfl, Nat.le_of_ble_eq_true rfl⟩ ⟨Nat.le_of_ble_eq_true rfl, Nat.le_of_ble_eq_true rfl⟩ (fun rh1 vh1 ah1 h1 => ?_)
  obtain ⟨f1, rfl, fn1, bn1, ex1⟩ := h1
  obtain ⟨rfl, rfl⟩ := fn1.eq
  have gf1 : 1 ≤ f1 ∧ f1 ≤ 50 := ex1
  refine m_st (st2 := [.int (iI f1), .int (iI (v 36))]) rfl ?_
  refine m_iadd C dX12_pages_8 ?_
  refine m_iconst C dX12_pages_9 ?_
  refine m_isub C dX12_pages_10 ?_
  refine m_aload_n (j := 0) C dX12_pages_11 rfl ?_
  refine m_call (mc2 := 0) (ms2 := 0) (As := []) (rest := [.int (iI (((v 36) + f1) - 1))]) C (B_onPage  hB ) dX12_pages_12 kV_X12_291 rfl ck_13 rfl (Nat.le_of_ble_eq_true rfl) ⟨Nat.le_of_ble_eq_true rfl, Nat.le_of_ble_eq_true rfl⟩ ⟨Nat.le_of_ble_eq_true rfl, Nat.le_of_ble_eq_true rfl⟩ (fun rh2 vh2 ah2 h2 => ?_)
  obtain ⟨f2, rfl, fn2, bn2, ex2⟩ := h2
  obtain ⟨rfl, rfl⟩ := fn2.eq
  have gf2 : 1 ≤ f2 ∧ f2 ≤ 50 := ex2
  refine m_st (st2 := [.int (iI f2), .int (iI (((v 36) + f1) - 1))]) rfl ?_
  obtain ⟨dq1, hdq1⟩ : ∃ q : Int, q = (((v 36) + f1) - 1) / f2 := ⟨_, rfl⟩
  have rdq1 := ediv_r (x := ((v 36) + f1) - 1) (y := f2) (by omega) (by omega)
  rw [← hdq1] at rdq1
  refine m_idiv (w := iI dq1) C dX12_pages_15 (iI_ne0 ⟨by omega, by omega⟩) (by rw [hdq1]; exact iI_div ⟨by omega, by omega⟩ ⟨by omega, by omega⟩) ?_
  exact m_iret C dX12_pages_16 rfl (Nat.le_of_ble_eq_true rfl) (Nat.le_of_ble_eq_true rfl) ⟨dq1, rfl, fp0, hB, (by omega)⟩
set_option maxHeartbeats 4000000 in
set_option maxRecDepth 100000 in
theorem B_cell {l : Launch} {G : GT} {h0 : Nat} {ad ln : Nat → Nat} {v : Nat → Int} {a : Nat → Nat → Int}  {l0 i : Int} (hB : BX v a) (hl0 : -2147483648 ≤ l0 ∧ l0 ≤ 2147483647) (hi : -2147483648 ≤ i ∧ i ≤ 2147483647) : Mm l G yX12_cell cX12_cell 3 (some .int) 2 [.int (iI l0), .int (iI i)] h0 ad ln v a 0 0 (fun r v2 a2 => ∃ f : Int, r = some (.int (iI f)) ∧ fr [0, 1] [] v a v2 a2 ∧ BX v2 a2 ∧ (True)) := by
  refine Mm.mk (by decide) (Nat.le_of_ble_eq_true rfl) ?_
  intro p e s m args below meth c A C
  have fp0 : fr [0, 1] [] v a v a := fr.refl
  refine m_aload_n (j := 0) C dX12_cell_0 rfl ?_
  refine m_iload_n (j := 1) C dX12_cell_1 rfl ?_
  have rv1 : 0 ≤ v 36 ∧ v 36 ≤ 200 := hB.1 36
  refine m_call (mc2 := 0) (ms2 := 0) (As := [.int (iI l0)]) (rest := []) C (M_lineFault (l0 := l0) hB.rg ⟨by omega, by omega⟩ ⟨hB.1 36, hB.2 34⟩) dX12_cell_2 kV_X12_294 rfl ck_13 rfl (Nat.le_of_ble_eq_true rfl) ⟨Nat.le_of_ble_eq_true rfl, Nat.le_of_ble_eq_true rfl⟩ ⟨Nat.le_of_ble_eq_true rfl, Nat.le_of_ble_eq_true rfl⟩ (fun rh1 vh1 ah1 h1 => ?_)
  obtain ⟨f1, rfl, hf1, rfl, rfl⟩ := h1
  refine hv2 (show (f1 = 2 ∧ ¬ (0 ≤ l0 ∧ l0 < (v 36))) ∨ (f1 = 1 ∧ 0 ≤ l0 ∧ l0 < (v 36) ∧ a 34 l0.toNat < 0) ∨ (f1 = 0 ∧ 0 ≤ l0 ∧ l0 < (v 36) ∧ 0 ≤ a 34 l0.toNat) from hf1) (show (-1) ≤ a 34 l0.toNat ∧ a 34 l0.toNat ≤ 200 from hB.2 34 (l0.toNat)) (fun gf1 ra1 => ?_)
  refine m_st (st2 := [.int (iI f1)]) rfl ?_
  refine m_if_le (tgt := 18) C ⟨by omega, by omega⟩ dX12_cell_5 (by decide) (fun c1 => ?_) (fun c1 => ?_)
  · refine m_iload_n (j := 2) C dX12_cell_18 rfl ?_
    refine m_iconst C dX12_cell_19 ?_
    refine m_aload_n (j := 0) C dX12_cell_20 rfl ?_
    refine m_geta (k := 34) C dX12_cell_21 w6_93 (by decide) rfl ?_
    refine m_iload_n (j := 1) C dX12_cell_24 rfl ?_
    refine m_ald (k := 34) C dX12_cell_25 rfl rfl (by decide) (by omega) (by show _ < ((_ : Nat) : Int); simp only [mlen]; omega) (by decide) ?_
    refine m_iconst C dX12_cell_26 ?_
    refine m_isub C dX12_cell_27 ?_
    refine m_callS (As := [.int (iI i), .int (iI 0), .int (iI ((a 34 l0.toNat) - 1))]) (rest := []) C (fun L E => s_isIn (iI i) (iI 0) (iI ((a 34 l0.toNat) - 1))) dX12_cell_28 kS_X12_174 rfl rfl (Nat.le_of_ble_eq_true rfl) ⟨Nat.le_of_ble_eq_true rfl, Nat.le_of_ble_eq_true rfl⟩ ⟨Nat.le_of_ble_eq_true rfl, Nat.le_of_ble_eq_true rfl⟩ ?_
    rcases inn_c (x := i) (lo := 0) (hi := (a 34 l0.toNat) - 1) ⟨by omega, by omega⟩ ⟨by decide, by decide⟩ ⟨by omega, by omega⟩ with ⟨h2a, h2b, h2e⟩ | ⟨h2a, h2e⟩
    · refine m_st (st2 := [.int (iI 1)]) (by rw [h2e]) ?_
      refine m_if_eq (tgt := 53) C ⟨by decide, by decide⟩ dX12_cell_31 (by decide) (fun z => absurd z (by omega)) (fun _ => ?_)
      refine m_aload_n (j := 0) C dX12_cell_34 rfl ?_
      refine m_aload_n (j := 0) C dX12_cell_35 rfl ?_
      refine m_geta (k := 35) C dX12_cell_36 w6_94 (by decide) rfl ?_
      refine m_sipush (z := 200) C dX12_cell_39 (by decide) ?_
      refine m_iload_n (j := 1) C dX12_cell_42 rfl ?_
      refine m_imul C dX12_cell_43 ?_
      refine m_iload_n (j := 2) C dX12_cell_44 rfl ?_
      refine m_iadd C dX12_cell_45 ?_
      refine m_ald (k := 35) C dX12_cell_46 rfl rfl (by decide) (by omega) (by show _ < ((_ : Nat) : Int); simp only [mlen]; omega) (by decide) ?_
      have ra2 : (-2147483648) ≤ a 35 ((200 * l0) + i).toNat ∧ a 35 ((200 * l0) + i).toNat ≤ 2147483647 := hB.2 35 (((200 * l0) + i).toNat)
      refine m_call (mc2 := 0) (ms2 := 0) (As := [.int (iI (a 35 ((200 * l0) + i).toNat))]) (rest := []) C (B_fine (x := a 35 ((200 * l0) + i).toNat) hB (by show -2147483648 ≤ (a 35 ((200 * l0) + i).toNat) ∧ (a 35 ((200 * l0) + i).toNat) ≤ 2147483647; omega)) dX12_cell_47 kV_X12_158 rfl ck_13 rfl (Nat.le_of_ble_eq_true rfl) ⟨Nat.le_of_ble_eq_true rfl, Nat.le_of_ble_eq_true rfl⟩ ⟨Nat.le_of_ble_eq_true rfl, Nat.le_of_ble_eq_true rfl⟩ (fun rh3 vh3 ah3 h3 => ?_)
      obtain ⟨f2, rfl, fn1, bn1, ex1⟩ := h3
      refine hv2 (fp0.call fn1 rfl rfl) (show f2 = (a 35 ((200 * l0) + i).toNat) from ex1) (fun fq1 gf2 => ?_)
      refine m_st (st2 := [.int (iI f2)]) rfl ?_
      refine m_goto (tgt := 58) C dX12_cell_50 (by decide) ?_
      exact m_iret C dX12_cell_58 rfl (Nat.le_of_ble_eq_true rfl) (Nat.le_of_ble_eq_true rfl) ⟨f2, rfl, fq1, bn1, trivial⟩
    · refine m_st (st2 := [.int (iI 0)]) (by rw [h2e]) ?_
      refine m_if_eq (tgt := 53) C ⟨by decide, by decide⟩ dX12_cell_31 (by decide) (fun _ => ?_) (fun z => absurd z (by omega))
      refine m_aload_n (j := 0) C dX12_cell_53 rfl ?_
      refine m_iconst C dX12_cell_54 ?_
      refine m_call (mc2 := 0) (ms2 := 0) (As := [.int (iI 2)]) (rest := []) C (B_bad (x := 2) hB (by show -2147483648 ≤ (2 : Int) ∧ (2 : Int) ≤ 2147483647; omega)) dX12_cell_55 kV_X12_154 rfl ck_13 rfl (Nat.le_of_ble_eq_true rfl) ⟨Nat.le_of_ble_eq_true rfl, Nat.le_of_ble_eq_true rfl⟩ ⟨Nat.le_of_ble_eq_true rfl, Nat.le_of_ble_eq_true rfl⟩ (fun rh4 vh4 ah4 h4 => ?_)
      obtain ⟨f3, rfl, fn2, bn2, ex2⟩ := h4
      refine hv2 (fp0.call fn2 rfl rfl) (show f3 = -1 from ex2) (fun fq2 gf3 => ?_)
      refine m_st (st2 := [.int (iI f3)]) rfl ?_
      exact m_iret C dX12_cell_58 rfl (Nat.le_of_ble_eq_true rfl) (Nat.le_of_ble_eq_true rfl) ⟨f3, rfl, fq2, bn2, trivial⟩
  · refine m_aload_n (j := 0) C dX12_cell_8 rfl ?_
    refine m_aload_n (j := 0) C dX12_cell_9 rfl ?_
    refine m_iload_n (j := 1) C dX12_cell_10 rfl ?_
    refine m_call (mc2 := 0) (ms2 := 0) (As := [.int (iI l0)]) (rest := [.ref h0]) C (M_lineFault (l0 := l0) hB.rg ⟨by omega, by omega⟩ ⟨hB.1 36, hB.2 34⟩) dX12_cell_11 kV_X12_294 rfl ck_13 rfl (Nat.le_of_ble_eq_true rfl) ⟨Nat.le_of_ble_eq_true rfl, Nat.le_of_ble_eq_true rfl⟩ ⟨Nat.le_of_ble_eq_true rfl, Nat.le_of_ble_eq_true rfl⟩ (fun rh5 vh5 ah5 h5 => ?_)
    obtain ⟨f4, rfl, hf4, rfl, rfl⟩ := h5
    have gf4 : (f4 = 2 ∧ ¬ (0 ≤ l0 ∧ l0 < (v 36))) ∨ (f4 = 1 ∧ 0 ≤ l0 ∧ l0 < (v 36) ∧ a 34 l0.toNat < 0) ∨ (f4 = 0 ∧ 0 ≤ l0 ∧ l0 < (v 36) ∧ 0 ≤ a 34 l0.toNat) := hf4
    refine m_st (st2 := [.int (iI f4), .ref h0]) rfl ?_
    refine m_call (mc2 := 0) (ms2 := 0) (As := [.int (iI f4)]) (rest := []) C (B_bad (x := f4) hB (by show -2147483648 ≤ f4 ∧ f4 ≤ 2147483647; omega)) dX12_cell_14 kV_X12_154 rfl ck_13 rfl (Nat.le_of_ble_eq_true rfl) ⟨Nat.le_of_ble_eq_true rfl, Nat.le_of_ble_eq_true rfl⟩ ⟨Nat.le_of_ble_eq_true rfl, Nat.le_of_ble_eq_true rfl⟩ (fun rh6 vh6 ah6 h6 => ?_)
    obtain ⟨f5, rfl, fn3, bn3, ex3⟩ := h6
    refine hv2 (fp0.call fn3 rfl rfl) (show f5 = -1 from ex3) (fun fq3 gf5 => ?_)
    refine m_st (st2 := [.int (iI f5)]) rfl ?_
    exact m_iret C dX12_cell_17 rfl (Nat.le_of_ble_eq_true rfl) (Nat.le_of_ble_eq_true rfl) ⟨f5, rfl, fq3, bn3, trivial⟩
set_option maxHeartbeats 4000000 in
set_option maxRecDepth 100000 in
theorem M_page {l : Launch} {G : GT} {h0 : Nat} {ad ln : Nat → Nat} {v : Nat → Int} {a : Nat → Nat → Int}  {q w1 i : Int} (hB : BX v a) (hq : -2147483648 ≤ q ∧ q ≤ 2147483647) (hw1 : -2147483648 ≤ w1 ∧ w1 ≤ 2147483647) (hi : -2147483648 ≤ i ∧ i ≤ 2147483647) : Mm l G yX12_page cX12_page 5 (some .int) 3 [.int (iI q), .int (iI w1), .int (iI i)] h0 ad ln v a 0 0 (fun r v2 a2 => ∃ f : Int, r = some (.int (iI f)) ∧ fr [0, 1] [] v a v2 a2 ∧ BX v2 a2 ∧ (True)) := by
  refine Mm.mk (by decide) (Nat.le_of_ble_eq_true rfl) ?_
  intro p e s m args below meth c A C
  have fp0 : fr [0, 1] [] v a v a := fr.refl
  refine m_iload_n (j := 1) C dX12_page_0 rfl ?_
  refine m_iconst C dX12_page_1 ?_
  refine m_aload_n (j := 0) C dX12_page_2 rfl ?_
  refine m_call (mc2 := 0) (ms2 := 0) (As := []) (rest := [.int (iI 0), .int (iI q)]) C (M_pages  hB ) dX12_page_3 kV_X12_297 rfl ck_13 rfl (Nat.le_of_ble_eq_true rfl) ⟨Nat.le_of_ble_eq_true rfl, Nat.le_of_ble_eq_true rfl⟩ ⟨Nat.le_of_ble_eq_true rfl, Nat.le_of_ble_eq_true rfl⟩ (fun rh1 vh1 ah1 h1 => ?_)
  obtain ⟨f1, rfl, fn1, bn1, ex1⟩ := h1
  obtain ⟨rfl, rfl⟩ := fn1.eq
  have gf1 : 0 ≤ f1 ∧ f1 ≤ 249 := ex1
  refine m_st (st2 := [.int (iI f1), .int (iI 0), .int (iI q)]) rfl ?_
  refine m_iconst C dX12_page_6 ?_
  refine m_isub C dX12_page_7 ?_
  refine m_callS (As := [.int (iI q), .int (iI 0), .int (iI (f1 - 1))]) (rest := []) C (fun L E => s_isIn (iI q) (iI 0) (iI (f1 - 1))) dX12_page_8 kS_X12_174 rfl rfl (Nat.le_of_ble_eq_true rfl) ⟨Nat.le_of_ble_eq_true rfl, Nat.le_of_ble_eq_true rfl⟩ ⟨Nat.le_of_ble_eq_true rfl, Nat.le_of_ble_eq_true rfl⟩ ?_
  rcases inn_c (x := q) (lo := 0) (hi := f1 - 1) ⟨by omega, by omega⟩ ⟨by decide, by decide⟩ ⟨by omega, by omega⟩ with ⟨h2a, h2b, h2e⟩ | ⟨h2a, h2e⟩
  · refine m_st (st2 := [.int (iI 1)]) (by rw [h2e]) ?_
    refine m_if_ne (tgt := 20) C ⟨by decide, by decide⟩ dX12_page_11 (by decide) (fun _ => ?_) (fun z => absurd z (by omega))
    refine m_aload_n (j := 0) C dX12_page_20 rfl ?_
    refine hv2 (show 0 ≤ v 41 ∧ v 41 ≤ 200 from hB.1 41) (show 1 ≤ v 32 ∧ v 32 ≤ 50 from hB.1 32) (fun rv1 rv2 => ?_)
    refine m_call (mc2 := 0) (ms2 := 0) (As := []) (rest := []) C (B_hasHead  hB ) dX12_page_21 kV_X12_288 rfl ck_13 rfl (Nat.le_of_ble_eq_true rfl) ⟨Nat.le_of_ble_eq_true rfl, Nat.le_of_ble_eq_true rfl⟩ ⟨Nat.le_of_ble_eq_true rfl, Nat.le_of_ble_eq_true rfl⟩ (fun rh3 vh3 ah3 h3 => ?_)
    obtain ⟨f2, rfl, fn2, bn2, ex2⟩ := h3
    obtain ⟨rfl, rfl⟩ := fn2.eq
    have gf2 : f2 = 0 ∨ (f2 = 1 ∧ 0 < (v 41) ∧ 2 ≤ (v 32)) := ex2
    refine m_st (st2 := [.int (iI f2)]) rfl ?_
    refine m_if_eq (tgt := 64) C (r32_0p gf2) dX12_page_24 (by decide) (fun c1 => ?_) (fun c1 => ?_)
    · clear gf2
      refine m_aload_n (j := 0) C dX12_page_64 rfl ?_
      refine m_call (mc2 := 0) (ms2 := 0) (As := []) (rest := []) C (B_hasHead  hB ) dX12_page_65 kV_X12_288 rfl ck_13 rfl (Nat.le_of_ble_eq_true rfl) ⟨Nat.le_of_ble_eq_true rfl, Nat.le_of_ble_eq_true rfl⟩ ⟨Nat.le_of_ble_eq_true rfl, Nat.le_of_ble_eq_true rfl⟩ (fun rh4 vh4 ah4 h4 => ?_)
      obtain ⟨f3, rfl, fn3, bn3, ex3⟩ := h4
      obtain ⟨rfl, rfl⟩ := fn3.eq
      have gf3 : f3 = 0 ∨ (f3 = 1 ∧ 0 < (v 41) ∧ 2 ≤ (v 32)) := ex3
      refine m_st (st2 := [.int (iI f3)]) rfl ?_
      refine m_if_eq (tgt := 77) C (r32_0p gf3) dX12_page_68 (by decide) (fun c2 => ?_) (fun c2 => ?_)
      · clear gf3
        refine m_iload_n (j := 2) C dX12_page_77 rfl ?_
        obtain ⟨zz1, hzz1, ezz1⟩ := iI_of (iI w1)
        refine m_st (st2 := [.int (iI zz1)]) (by rw [ezz1]) ?_
        refine m_istore (lv2 := [(4, .int (iI zz1)), (0, .ref h0), (1, .int (iI q)), (2, .int (iI w1)), (3, .int (iI i))]) C dX12_page_78 (by decide) rfl ?_
        refine m_iload (j := 0) C dX12_page_80 rfl ?_
        refine m_iconst C dX12_page_82 ?_
        refine m_aload_n (j := 1) C dX12_page_83 rfl ?_
        refine m_call (mc2 := 0) (ms2 := 0) (As := []) (rest := [.int (iI 0), .int (iI zz1)]) C (B_onPage  hB ) dX12_page_84 kV_X12_291 rfl ck_13 rfl (Nat.le_of_ble_eq_true rfl) ⟨Nat.le_of_ble_eq_true rfl, Nat.le_of_ble_eq_true rfl⟩ ⟨Nat.le_of_ble_eq_true rfl, Nat.le_of_ble_eq_true rfl⟩ (fun rh5 vh5 ah5 h5 => ?_)
        obtain ⟨f4, rfl, fn4, bn4, ex4⟩ := h5
        obtain ⟨rfl, rfl⟩ := fn4.eq
        have gf4 : 1 ≤ f4 ∧ f4 ≤ 50 := ex4
        refine m_st (st2 := [.int (iI f4), .int (iI 0), .int (iI zz1)]) rfl ?_
        refine m_iconst C dX12_page_87 ?_
        refine m_isub C dX12_page_88 ?_
        refine m_callS (As := [.int (iI zz1), .int (iI 0), .int (iI (f4 - 1))]) (rest := []) C (fun L E => s_isIn (iI zz1) (iI 0) (iI (f4 - 1))) dX12_page_89 kS_X12_174 rfl rfl (Nat.le_of_ble_eq_true rfl) ⟨Nat.le_of_ble_eq_true rfl, Nat.le_of_ble_eq_true rfl⟩ ⟨Nat.le_of_ble_eq_true rfl, Nat.le_of_ble_eq_true rfl⟩ ?_
        rcases inn_c (x := zz1) (lo := 0) (hi := f4 - 1) ⟨by omega, by omega⟩ ⟨by decide, by decide⟩ ⟨by omega, by omega⟩ with ⟨h6a, h6b, h6e⟩ | ⟨h6a, h6e⟩
        · refine m_st (st2 := [.int (iI 1)]) (by rw [h6e]) ?_
          refine m_if_ne (tgt := 101) C ⟨by decide, by decide⟩ dX12_page_92 (by decide) (fun _ => ?_) (fun z => absurd z (by omega))
          refine m_aload_n (j := 1) C dX12_page_101 rfl ?_
          refine m_iload_n (j := 2) C dX12_page_102 rfl ?_
          refine m_aload_n (j := 1) C dX12_page_103 rfl ?_
          refine m_call (mc2 := 0) (ms2 := 0) (As := []) (rest := [.int (iI q), .ref h0]) C (B_onPage  hB ) dX12_page_104 kV_X12_291 rfl ck_13 rfl (Nat.le_of_ble_eq_true rfl) ⟨Nat.le_of_ble_eq_true rfl, Nat.le_of_ble_eq_true rfl⟩ ⟨Nat.le_of_ble_eq_true rfl, Nat.le_of_ble_eq_true rfl⟩ (fun rh7 vh7 ah7 h7 => ?_)
          obtain ⟨f5, rfl, fn5, bn5, ex5⟩ := h7
          obtain ⟨rfl, rfl⟩ := fn5.eq
          have gf5 : 1 ≤ f5 ∧ f5 ≤ 50 := ex5
          refine m_st (st2 := [.int (iI f5), .int (iI q), .ref h0]) rfl ?_
          refine m_imul C dX12_page_107 ?_
          refine m_iload (j := 0) C dX12_page_108 rfl ?_
          obtain ⟨zz2, hzz2, ezz2⟩ := iI_of (iI (q * f5))
          refine m_st (st2 := [.int (iI zz1), .int (iI zz2), .ref h0]) (by rw [ezz2]) ?_
          refine m_iadd C dX12_page_110 ?_
          obtain ⟨zz3, hzz3, ezz3⟩ := iI_of (iI (zz2 + zz1))
          refine m_st (st2 := [.int (iI zz3), .ref h0]) (by rw [ezz3]) ?_
          refine m_iload_n (j := 4) C dX12_page_111 rfl ?_
          refine m_call (mc2 := 0) (ms2 := 0) (As := [.int (iI zz3), .int (iI i)]) (rest := []) C (B_cell (l0 := zz3) (i := i) hB (by show -2147483648 ≤ zz3 ∧ zz3 ≤ 2147483647; omega) (by show -2147483648 ≤ i ∧ i ≤ 2147483647; omega)) dX12_page_112 kV_X12_300 rfl ck_13 rfl (Nat.le_of_ble_eq_true rfl) ⟨Nat.le_of_ble_eq_true rfl, Nat.le_of_ble_eq_true rfl⟩ ⟨Nat.le_of_ble_eq_true rfl, Nat.le_of_ble_eq_true rfl⟩ (fun rh8 vh8 ah8 h8 => ?_)
          obtain ⟨f6, rfl, fn6, bn6, ex6⟩ := h8
          have fq6 := fp0.call fn6 rfl rfl
          refine m_st (st2 := [.int (iI f6)]) rfl ?_
          exact m_iret C dX12_page_115 rfl (Nat.le_of_ble_eq_true rfl) (Nat.le_of_ble_eq_true rfl) ⟨f6, rfl, fq6, bn6, trivial⟩
        · refine m_st (st2 := [.int (iI 0)]) (by rw [h6e]) ?_
          refine m_if_ne (tgt := 101) C ⟨by decide, by decide⟩ dX12_page_92 (by decide) (fun z => absurd z (by omega)) (fun _ => ?_)
          refine m_aload_n (j := 1) C dX12_page_95 rfl ?_
          refine m_iconst C dX12_page_96 ?_
          refine m_call (mc2 := 0) (ms2 := 0) (As := [.int (iI 2)]) (rest := []) C (B_bad (x := 2) hB (by show -2147483648 ≤ (2 : Int) ∧ (2 : Int) ≤ 2147483647; omega)) dX12_page_97 kV_X12_154 rfl ck_13 rfl (Nat.le_of_ble_eq_true rfl) ⟨Nat.le_of_ble_eq_true rfl, Nat.le_of_ble_eq_true rfl⟩ ⟨Nat.le_of_ble_eq_true rfl, Nat.le_of_ble_eq_true rfl⟩ (fun rh9 vh9 ah9 h9 => ?_)
          obtain ⟨f7, rfl, fn7, bn7, ex7⟩ := h9
          refine hv2 (fp0.call fn7 rfl rfl) (show f7 = -1 from ex7) (fun fq7 gf7 => ?_)
          refine m_st (st2 := [.int (iI f7)]) rfl ?_
          exact m_iret C dX12_page_100 rfl (Nat.le_of_ble_eq_true rfl) (Nat.le_of_ble_eq_true rfl) ⟨f7, rfl, fq7, bn7, trivial⟩
      · replace gf3 := (gf3.resolve_left c2)
        refine m_iload_n (j := 2) C dX12_page_71 rfl ?_
        refine m_iconst C dX12_page_72 ?_
        refine m_isub C dX12_page_73 ?_
        refine m_goto (tgt := 78) C dX12_page_74 (by decide) ?_
        obtain ⟨zz4, hzz4, ezz4⟩ := iI_of (iI (w1 - 1))
        refine m_st (st2 := [.int (iI zz4)]) (by rw [ezz4]) ?_
        refine m_istore (lv2 := [(4, .int (iI zz4)), (0, .ref h0), (1, .int (iI q)), (2, .int (iI w1)), (3, .int (iI i))]) C dX12_page_78 (by decide) rfl ?_
        refine m_iload (j := 0) C dX12_page_80 rfl ?_
        refine m_iconst C dX12_page_82 ?_
        refine m_aload_n (j := 1) C dX12_page_83 rfl ?_
        refine m_call (mc2 := 0) (ms2 := 0) (As := []) (rest := [.int (iI 0), .int (iI zz4)]) C (B_onPage  hB ) dX12_page_84 kV_X12_291 rfl ck_13 rfl (Nat.le_of_ble_eq_true rfl) ⟨Nat.le_of_ble_eq_true rfl, Nat.le_of_ble_eq_true rfl⟩ ⟨Nat.le_of_ble_eq_true rfl, Nat.le_of_ble_eq_true rfl⟩ (fun rh10 vh10 ah10 h10 => ?_)
        obtain ⟨f8, rfl, fn8, bn8, ex8⟩ := h10
        obtain ⟨rfl, rfl⟩ := fn8.eq
        have gf8 : 1 ≤ f8 ∧ f8 ≤ 50 := ex8
        refine m_st (st2 := [.int (iI f8), .int (iI 0), .int (iI zz4)]) rfl ?_
        refine m_iconst C dX12_page_87 ?_
        refine m_isub C dX12_page_88 ?_
        refine m_callS (As := [.int (iI zz4), .int (iI 0), .int (iI (f8 - 1))]) (rest := []) C (fun L E => s_isIn (iI zz4) (iI 0) (iI (f8 - 1))) dX12_page_89 kS_X12_174 rfl rfl (Nat.le_of_ble_eq_true rfl) ⟨Nat.le_of_ble_eq_true rfl, Nat.le_of_ble_eq_true rfl⟩ ⟨Nat.le_of_ble_eq_true rfl, Nat.le_of_ble_eq_true rfl⟩ ?_
        rcases inn_c (x := zz4) (lo := 0) (hi := f8 - 1) ⟨by omega, by omega⟩ ⟨by decide, by decide⟩ ⟨by omega, by omega⟩ with ⟨h11a, h11b, h11e⟩ | ⟨h11a, h11e⟩
        · refine m_st (st2 := [.int (iI 1)]) (by rw [h11e]) ?_
          refine m_if_ne (tgt := 101) C ⟨by decide, by decide⟩ dX12_page_92 (by decide) (fun _ => ?_) (fun z => absurd z (by omega))
          refine m_aload_n (j := 1) C dX12_page_101 rfl ?_
          refine m_iload_n (j := 2) C dX12_page_102 rfl ?_
          refine m_aload_n (j := 1) C dX12_page_103 rfl ?_
          refine m_call (mc2 := 0) (ms2 := 0) (As := []) (rest := [.int (iI q), .ref h0]) C (B_onPage  hB ) dX12_page_104 kV_X12_291 rfl ck_13 rfl (Nat.le_of_ble_eq_true rfl) ⟨Nat.le_of_ble_eq_true rfl, Nat.le_of_ble_eq_true rfl⟩ ⟨Nat.le_of_ble_eq_true rfl, Nat.le_of_ble_eq_true rfl⟩ (fun rh12 vh12 ah12 h12 => ?_)
          obtain ⟨f9, rfl, fn9, bn9, ex9⟩ := h12
          obtain ⟨rfl, rfl⟩ := fn9.eq
          have gf9 : 1 ≤ f9 ∧ f9 ≤ 50 := ex9
          refine m_st (st2 := [.int (iI f9), .int (iI q), .ref h0]) rfl ?_
          refine m_imul C dX12_page_107 ?_
          refine m_iload (j := 0) C dX12_page_108 rfl ?_
          obtain ⟨zz5, hzz5, ezz5⟩ := iI_of (iI (q * f9))
          refine m_st (st2 := [.int (iI zz4), .int (iI zz5), .ref h0]) (by rw [ezz5]) ?_
          refine m_iadd C dX12_page_110 ?_
          obtain ⟨zz6, hzz6, ezz6⟩ := iI_of (iI (zz5 + zz4))
          refine m_st (st2 := [.int (iI zz6), .ref h0]) (by rw [ezz6]) ?_
          refine m_iload_n (j := 4) C dX12_page_111 rfl ?_
          refine m_call (mc2 := 0) (ms2 := 0) (As := [.int (iI zz6), .int (iI i)]) (rest := []) C (B_cell (l0 := zz6) (i := i) hB (by show -2147483648 ≤ zz6 ∧ zz6 ≤ 2147483647; omega) (by show -2147483648 ≤ i ∧ i ≤ 2147483647; omega)) dX12_page_112 kV_X12_300 rfl ck_13 rfl (Nat.le_of_ble_eq_true rfl) ⟨Nat.le_of_ble_eq_true rfl, Nat.le_of_ble_eq_true rfl⟩ ⟨Nat.le_of_ble_eq_true rfl, Nat.le_of_ble_eq_true rfl⟩ (fun rh13 vh13 ah13 h13 => ?_)
          obtain ⟨f10, rfl, fn10, bn10, ex10⟩ := h13
          have fq10 := fp0.call fn10 rfl rfl
          refine m_st (st2 := [.int (iI f10)]) rfl ?_
          exact m_iret C dX12_page_115 rfl (Nat.le_of_ble_eq_true rfl) (Nat.le_of_ble_eq_true rfl) ⟨f10, rfl, fq10, bn10, trivial⟩
        · refine m_st (st2 := [.int (iI 0)]) (by rw [h11e]) ?_
          refine m_if_ne (tgt := 101) C ⟨by decide, by decide⟩ dX12_page_92 (by decide) (fun z => absurd z (by omega)) (fun _ => ?_)
          refine m_aload_n (j := 1) C dX12_page_95 rfl ?_
          refine m_iconst C dX12_page_96 ?_
          refine m_call (mc2 := 0) (ms2 := 0) (As := [.int (iI 2)]) (rest := []) C (B_bad (x := 2) hB (by show -2147483648 ≤ (2 : Int) ∧ (2 : Int) ≤ 2147483647; omega)) dX12_page_97 kV_X12_154 rfl ck_13 rfl (Nat.le_of_ble_eq_true rfl) ⟨Nat.le_of_ble_eq_true rfl, Nat.le_of_ble_eq_true rfl⟩ ⟨Nat.le_of_ble_eq_true rfl, Nat.le_of_ble_eq_true rfl⟩ (fun rh14 vh14 ah14 h14 => ?_)
          obtain ⟨f11, rfl, fn11, bn11, ex11⟩ := h14
          refine hv2 (fp0.call fn11 rfl rfl) (show f11 = -1 from ex11) (fun fq11 gf11 => ?_)
          refine m_st (st2 := [.int (iI f11)]) rfl ?_
          exact m_iret C dX12_page_100 rfl (Nat.le_of_ble_eq_true rfl) (Nat.le_of_ble_eq_true rfl) ⟨f11, rfl, fq11, bn11, trivial⟩
    · replace gf2 := (gf2.resolve_left c1)
      refine m_iload_n (j := 2) C dX12_page_27 rfl ?_
      refine m_if_ne (tgt := 64) C ⟨by omega, by omega⟩ dX12_page_28 (by decide) (fun c3 => ?_) (fun c3 => ?_)
      · refine m_aload_n (j := 0) C dX12_page_64 rfl ?_
        refine m_call (mc2 := 0) (ms2 := 0) (As := []) (rest := []) C (B_hasHead  hB ) dX12_page_65 kV_X12_288 rfl ck_13 rfl (Nat.le_of_ble_eq_true rfl) ⟨Nat.le_of_ble_eq_true rfl, Nat.le_of_ble_eq_true rfl⟩ ⟨Nat.le_of_ble_eq_true rfl, Nat.le_of_ble_eq_true rfl⟩ (fun rh15 vh15 ah15 h15 => ?_)
        obtain ⟨f12, rfl, fn12, bn12, ex12⟩ := h15
        obtain ⟨rfl, rfl⟩ := fn12.eq
        have gf12 : f12 = 0 ∨ (f12 = 1 ∧ 0 < (v 41) ∧ 2 ≤ (v 32)) := ex12
        refine m_st (st2 := [.int (iI f12)]) rfl ?_
        refine m_if_eq (tgt := 77) C (r32_0p gf12) dX12_page_68 (by decide) (fun c4 => ?_) (fun c4 => ?_)
        · clear gf12
          refine m_iload_n (j := 2) C dX12_page_77 rfl ?_
          obtain ⟨zz7, hzz7, ezz7⟩ := iI_of (iI w1)
          refine m_st (st2 := [.int (iI zz7)]) (by rw [ezz7]) ?_
          refine m_istore (lv2 := [(4, .int (iI zz7)), (0, .ref h0), (1, .int (iI q)), (2, .int (iI w1)), (3, .int (iI i))]) C dX12_page_78 (by decide) rfl ?_
          refine m_iload (j := 0) C dX12_page_80 rfl ?_
          refine m_iconst C dX12_page_82 ?_
          refine m_aload_n (j := 1) C dX12_page_83 rfl ?_
          refine m_call (mc2 := 0) (ms2 := 0) (As := []) (rest := [.int (iI 0), .int (iI zz7)]) C (B_onPage  hB ) dX12_page_84 kV_X12_291 rfl ck_13 rfl (Nat.le_of_ble_eq_true rfl) ⟨Nat.le_of_ble_eq_true rfl, Nat.le_of_ble_eq_true rfl⟩ ⟨Nat.le_of_ble_eq_true rfl, Nat.le_of_ble_eq_true rfl⟩ (fun rh16 vh16 ah16 h16 => ?_)
          obtain ⟨f13, rfl, fn13, bn13, ex13⟩ := h16
          obtain ⟨rfl, rfl⟩ := fn13.eq
          have gf13 : 1 ≤ f13 ∧ f13 ≤ 50 := ex13
          refine m_st (st2 := [.int (iI f13), .int (iI 0), .int (iI zz7)]) rfl ?_
          refine m_iconst C dX12_page_87 ?_
          refine m_isub C dX12_page_88 ?_
          refine m_callS (As := [.int (iI zz7), .int (iI 0), .int (iI (f13 - 1))]) (rest := []) C (fun L E => s_isIn (iI zz7) (iI 0) (iI (f13 - 1))) dX12_page_89 kS_X12_174 rfl rfl (Nat.le_of_ble_eq_true rfl) ⟨Nat.le_of_ble_eq_true rfl, Nat.le_of_ble_eq_true rfl⟩ ⟨Nat.le_of_ble_eq_true rfl, Nat.le_of_ble_eq_true rfl⟩ ?_
          rcases inn_c (x := zz7) (lo := 0) (hi := f13 - 1) ⟨by omega, by omega⟩ ⟨by decide, by decide⟩ ⟨by omega, by omega⟩ with ⟨h17a, h17b, h17e⟩ | ⟨h17a, h17e⟩
          · refine m_st (st2 := [.int (iI 1)]) (by rw [h17e]) ?_
            refine m_if_ne (tgt := 101) C ⟨by decide, by decide⟩ dX12_page_92 (by decide) (fun _ => ?_) (fun z => absurd z (by omega))
            refine m_aload_n (j := 1) C dX12_page_101 rfl ?_
            refine m_iload_n (j := 2) C dX12_page_102 rfl ?_
            refine m_aload_n (j := 1) C dX12_page_103 rfl ?_
            refine m_call (mc2 := 0) (ms2 := 0) (As := []) (rest := [.int (iI q), .ref h0]) C (B_onPage  hB ) dX12_page_104 kV_X12_291 rfl ck_13 rfl (Nat.le_of_ble_eq_true rfl) ⟨Nat.le_of_ble_eq_true rfl, Nat.le_of_ble_eq_true rfl⟩ ⟨Nat.le_of_ble_eq_true rfl, Nat.le_of_ble_eq_true rfl⟩ (fun rh18 vh18 ah18 h18 => ?_)
            obtain ⟨f14, rfl, fn14, bn14, ex14⟩ := h18
            obtain ⟨rfl, rfl⟩ := fn14.eq
            have gf14 : 1 ≤ f14 ∧ f14 ≤ 50 := ex14
            refine m_st (st2 := [.int (iI f14), .int (iI q), .ref h0]) rfl ?_
            refine m_imul C dX12_page_107 ?_
            refine m_iload (j := 0) C dX12_page_108 rfl ?_
            obtain ⟨zz8, hzz8, ezz8⟩ := iI_of (iI (q * f14))
            refine m_st (st2 := [.int (iI zz7), .int (iI zz8), .ref h0]) (by rw [ezz8]) ?_
            refine m_iadd C dX12_page_110 ?_
            obtain ⟨zz9, hzz9, ezz9⟩ := iI_of (iI (zz8 + zz7))
            refine m_st (st2 := [.int (iI zz9), .ref h0]) (by rw [ezz9]) ?_
            refine m_iload_n (j := 4) C dX12_page_111 rfl ?_
            refine m_call (mc2 := 0) (ms2 := 0) (As := [.int (iI zz9), .int (iI i)]) (rest := []) C (B_cell (l0 := zz9) (i := i) hB (by show -2147483648 ≤ zz9 ∧ zz9 ≤ 2147483647; omega) (by show -2147483648 ≤ i ∧ i ≤ 2147483647; omega)) dX12_page_112 kV_X12_300 rfl ck_13 rfl (Nat.le_of_ble_eq_true rfl) ⟨Nat.le_of_ble_eq_true rfl, Nat.le_of_ble_eq_true rfl⟩ ⟨Nat.le_of_ble_eq_true rfl, Nat.le_of_ble_eq_true rfl⟩ (fun rh19 vh19 ah19 h19 => ?_)
            obtain ⟨f15, rfl, fn15, bn15, ex15⟩ := h19
            have fq15 := fp0.call fn15 rfl rfl
            refine m_st (st2 := [.int (iI f15)]) rfl ?_
            exact m_iret C dX12_page_115 rfl (Nat.le_of_ble_eq_true rfl) (Nat.le_of_ble_eq_true rfl) ⟨f15, rfl, fq15, bn15, trivial⟩
          · refine m_st (st2 := [.int (iI 0)]) (by rw [h17e]) ?_
            refine m_if_ne (tgt := 101) C ⟨by decide, by decide⟩ dX12_page_92 (by decide) (fun z => absurd z (by omega)) (fun _ => ?_)
            refine m_aload_n (j := 1) C dX12_page_95 rfl ?_
            refine m_iconst C dX12_page_96 ?_
            refine m_call (mc2 := 0) (ms2 := 0) (As := [.int (iI 2)]) (rest := []) C (B_bad (x := 2) hB (by show -2147483648 ≤ (2 : Int) ∧ (2 : Int) ≤ 2147483647; omega)) dX12_page_97 kV_X12_154 rfl ck_13 rfl (Nat.le_of_ble_eq_true rfl) ⟨Nat.le_of_ble_eq_true rfl, Nat.le_of_ble_eq_true rfl⟩ ⟨Nat.le_of_ble_eq_true rfl, Nat.le_of_ble_eq_true rfl⟩ (fun rh20 vh20 ah20 h20 => ?_)
            obtain ⟨f16, rfl, fn16, bn16, ex16⟩ := h20
            refine hv2 (fp0.call fn16 rfl rfl) (show f16 = -1 from ex16) (fun fq16 gf16 => ?_)
            refine m_st (st2 := [.int (iI f16)]) rfl ?_
            exact m_iret C dX12_page_100 rfl (Nat.le_of_ble_eq_true rfl) (Nat.le_of_ble_eq_true rfl) ⟨f16, rfl, fq16, bn16, trivial⟩
        · replace gf12 := (gf12.resolve_left c4)
          refine m_iload_n (j := 2) C dX12_page_71 rfl ?_
          refine m_iconst C dX12_page_72 ?_
          refine m_isub C dX12_page_73 ?_
          refine m_goto (tgt := 78) C dX12_page_74 (by decide) ?_
          obtain ⟨zz10, hzz10, ezz10⟩ := iI_of (iI (w1 - 1))
          refine m_st (st2 := [.int (iI zz10)]) (by rw [ezz10]) ?_
          refine m_istore (lv2 := [(4, .int (iI zz10)), (0, .ref h0), (1, .int (iI q)), (2, .int (iI w1)), (3, .int (iI i))]) C dX12_page_78 (by decide) rfl ?_
          refine m_iload (j := 0) C dX12_page_80 rfl ?_
          refine m_iconst C dX12_page_82 ?_
          refine m_aload_n (j := 1) C dX12_page_83 rfl ?_
          refine m_call (mc2 := 0) (ms2 := 0) (As := []) (rest := [.int (iI 0), .int (iI zz10)]) C (B_onPage  hB ) dX12_page_84 kV_X12_291 rfl ck_13 rfl (Nat.le_of_ble_eq_true rfl) ⟨Nat.le_of_ble_eq_true rfl, Nat.le_of_ble_eq_true rfl⟩ ⟨Nat.le_of_ble_eq_true rfl, Nat.le_of_ble_eq_true rfl⟩ (fun rh21 vh21 ah21 h21 => ?_)
          obtain ⟨f17, rfl, fn17, bn17, ex17⟩ := h21
          obtain ⟨rfl, rfl⟩ := fn17.eq
          have gf17 : 1 ≤ f17 ∧ f17 ≤ 50 := ex17
          refine m_st (st2 := [.int (iI f17), .int (iI 0), .int (iI zz10)]) rfl ?_
          refine m_iconst C dX12_page_87 ?_
          refine m_isub C dX12_page_88 ?_
          refine m_callS (As := [.int (iI zz10), .int (iI 0), .int (iI (f17 - 1))]) (rest := []) C (fun L E => s_isIn (iI zz10) (iI 0) (iI (f17 - 1))) dX12_page_89 kS_X12_174 rfl rfl (Nat.le_of_ble_eq_true rfl) ⟨Nat.le_of_ble_eq_true rfl, Nat.le_of_ble_eq_true rfl⟩ ⟨Nat.le_of_ble_eq_true rfl, Nat.le_of_ble_eq_true rfl⟩ ?_
          rcases inn_c (x := zz10) (lo := 0) (hi := f17 - 1) ⟨by omega, by omega⟩ ⟨by decide, by decide⟩ ⟨by omega, by omega⟩ with ⟨h22a, h22b, h22e⟩ | ⟨h22a, h22e⟩
          · refine m_st (st2 := [.int (iI 1)]) (by rw [h22e]) ?_
            refine m_if_ne (tgt := 101) C ⟨by decide, by decide⟩ dX12_page_92 (by decide) (fun _ => ?_) (fun z => absurd z (by omega))
            refine m_aload_n (j := 1) C dX12_page_101 rfl ?_
            refine m_iload_n (j := 2) C dX12_page_102 rfl ?_
            refine m_aload_n (j := 1) C dX12_page_103 rfl ?_
            refine m_call (mc2 := 0) (ms2 := 0) (As := []) (rest := [.int (iI q), .ref h0]) C (B_onPage  hB ) dX12_page_104 kV_X12_291 rfl ck_13 rfl (Nat.le_of_ble_eq_true rfl) ⟨Nat.le_of_ble_eq_true rfl, Nat.le_of_ble_eq_true rfl⟩ ⟨Nat.le_of_ble_eq_true rfl, Nat.le_of_ble_eq_true rfl⟩ (fun rh23 vh23 ah23 h23 => ?_)
            obtain ⟨f18, rfl, fn18, bn18, ex18⟩ := h23
            obtain ⟨rfl, rfl⟩ := fn18.eq
            have gf18 : 1 ≤ f18 ∧ f18 ≤ 50 := ex18
            refine m_st (st2 := [.int (iI f18), .int (iI q), .ref h0]) rfl ?_
            refine m_imul C dX12_page_107 ?_
            refine m_iload (j := 0) C dX12_page_108 rfl ?_
            obtain ⟨zz11, hzz11, ezz11⟩ := iI_of (iI (q * f18))
            refine m_st (st2 := [.int (iI zz10), .int (iI zz11), .ref h0]) (by rw [ezz11]) ?_
            refine m_iadd C dX12_page_110 ?_
            obtain ⟨zz12, hzz12, ezz12⟩ := iI_of (iI (zz11 + zz10))
            refine m_st (st2 := [.int (iI zz12), .ref h0]) (by rw [ezz12]) ?_
            refine m_iload_n (j := 4) C dX12_page_111 rfl ?_
            refine m_call (mc2 := 0) (ms2 := 0) (As := [.int (iI zz12), .int (iI i)]) (rest := []) C (B_cell (l0 := zz12) (i := i) hB (by show -2147483648 ≤ zz12 ∧ zz12 ≤ 2147483647; omega) (by show -2147483648 ≤ i ∧ i ≤ 2147483647; omega)) dX12_page_112 kV_X12_300 rfl ck_13 rfl (Nat.le_of_ble_eq_true rfl) ⟨Nat.le_of_ble_eq_true rfl, Nat.le_of_ble_eq_true rfl⟩ ⟨Nat.le_of_ble_eq_true rfl, Nat.le_of_ble_eq_true rfl⟩ (fun rh24 vh24 ah24 h24 => ?_)
            obtain ⟨f19, rfl, fn19, bn19, ex19⟩ := h24
            have fq19 := fp0.call fn19 rfl rfl
            refine m_st (st2 := [.int (iI f19)]) rfl ?_
            exact m_iret C dX12_page_115 rfl (Nat.le_of_ble_eq_true rfl) (Nat.le_of_ble_eq_true rfl) ⟨f19, rfl, fq19, bn19, trivial⟩
          · refine m_st (st2 := [.int (iI 0)]) (by rw [h22e]) ?_
            refine m_if_ne (tgt := 101) C ⟨by decide, by decide⟩ dX12_page_92 (by decide) (fun z => absurd z (by omega)) (fun _ => ?_)
            refine m_aload_n (j := 1) C dX12_page_95 rfl ?_
            refine m_iconst C dX12_page_96 ?_
            refine m_call (mc2 := 0) (ms2 := 0) (As := [.int (iI 2)]) (rest := []) C (B_bad (x := 2) hB (by show -2147483648 ≤ (2 : Int) ∧ (2 : Int) ≤ 2147483647; omega)) dX12_page_97 kV_X12_154 rfl ck_13 rfl (Nat.le_of_ble_eq_true rfl) ⟨Nat.le_of_ble_eq_true rfl, Nat.le_of_ble_eq_true rfl⟩ ⟨Nat.le_of_ble_eq_true rfl, Nat.le_of_ble_eq_true rfl⟩ (fun rh25 vh25 ah25 h25 => ?_)
            obtain ⟨f20, rfl, fn20, bn20, ex20⟩ := h25
            refine hv2 (fp0.call fn20 rfl rfl) (show f20 = -1 from ex20) (fun fq20 gf20 => ?_)
            refine m_st (st2 := [.int (iI f20)]) rfl ?_
            exact m_iret C dX12_page_100 rfl (Nat.le_of_ble_eq_true rfl) (Nat.le_of_ble_eq_true rfl) ⟨f20, rfl, fq20, bn20, trivial⟩
      · refine m_iload_n (j := 3) C dX12_page_31 rfl ?_
        refine m_iconst C dX12_page_32 ?_
        refine m_aload_n (j := 0) C dX12_page_33 rfl ?_
        refine m_get (k := 41) C dX12_page_34 w6_100 (by decide) rfl ?_
        refine m_iconst C dX12_page_37 ?_
        refine m_isub C dX12_page_38 ?_
        refine m_callS (As := [.int (iI i), .int (iI 0), .int (iI ((v 41) - 1))]) (rest := []) C (fun L E => s_isIn (iI i) (iI 0) (iI ((v 41) - 1))) dX12_page_39 kS_X12_174 rfl rfl (Nat.le_of_ble_eq_true rfl) ⟨Nat.le_of_ble_eq_true rfl, Nat.le_of_ble_eq_true rfl⟩ ⟨Nat.le_of_ble_eq_true rfl, Nat.le_of_ble_eq_true rfl⟩ ?_
        rcases inn_c (x := i) (lo := 0) (hi := (v 41) - 1) ⟨by omega, by omega⟩ ⟨by decide, by decide⟩ ⟨by omega, by omega⟩ with ⟨h26a, h26b, h26e⟩ | ⟨h26a, h26e⟩
        · refine m_st (st2 := [.int (iI 1)]) (by rw [h26e]) ?_
          refine m_if_eq (tgt := 58) C ⟨by decide, by decide⟩ dX12_page_42 (by decide) (fun z => absurd z (by omega)) (fun _ => ?_)
          refine m_aload_n (j := 0) C dX12_page_45 rfl ?_
          refine m_aload_n (j := 0) C dX12_page_46 rfl ?_
          refine m_geta (k := 40) C dX12_page_47 w6_99 (by decide) rfl ?_
          refine m_iload_n (j := 3) C dX12_page_50 rfl ?_
          refine m_ald (k := 40) C dX12_page_51 rfl rfl (by decide) (by omega) (by show _ < ((_ : Nat) : Int); simp only [mlen]; omega) (by decide) ?_
          have ra1 : (-2147483648) ≤ a 40 i.toNat ∧ a 40 i.toNat ≤ 2147483647 := hB.2 40 (i.toNat)
          refine m_call (mc2 := 0) (ms2 := 0) (As := [.int (iI (a 40 i.toNat))]) (rest := []) C (B_fine (x := a 40 i.toNat) hB (by show -2147483648 ≤ (a 40 i.toNat) ∧ (a 40 i.toNat) ≤ 2147483647; omega)) dX12_page_52 kV_X12_158 rfl ck_13 rfl (Nat.le_of_ble_eq_true rfl) ⟨Nat.le_of_ble_eq_true rfl, Nat.le_of_ble_eq_true rfl⟩ ⟨Nat.le_of_ble_eq_true rfl, Nat.le_of_ble_eq_true rfl⟩ (fun rh27 vh27 ah27 h27 => ?_)
          obtain ⟨f21, rfl, fn21, bn21, ex21⟩ := h27
          refine hv2 (fp0.call fn21 rfl rfl) (show f21 = (a 40 i.toNat) from ex21) (fun fq21 gf21 => ?_)
          refine m_st (st2 := [.int (iI f21)]) rfl ?_
          refine m_goto (tgt := 63) C dX12_page_55 (by decide) ?_
          exact m_iret C dX12_page_63 rfl (Nat.le_of_ble_eq_true rfl) (Nat.le_of_ble_eq_true rfl) ⟨f21, rfl, fq21, bn21, trivial⟩
        · refine m_st (st2 := [.int (iI 0)]) (by rw [h26e]) ?_
          refine m_if_eq (tgt := 58) C ⟨by decide, by decide⟩ dX12_page_42 (by decide) (fun _ => ?_) (fun z => absurd z (by omega))
          refine m_aload_n (j := 0) C dX12_page_58 rfl ?_
          refine m_iconst C dX12_page_59 ?_
          refine m_call (mc2 := 0) (ms2 := 0) (As := [.int (iI 2)]) (rest := []) C (B_bad (x := 2) hB (by show -2147483648 ≤ (2 : Int) ∧ (2 : Int) ≤ 2147483647; omega)) dX12_page_60 kV_X12_154 rfl ck_13 rfl (Nat.le_of_ble_eq_true rfl) ⟨Nat.le_of_ble_eq_true rfl, Nat.le_of_ble_eq_true rfl⟩ ⟨Nat.le_of_ble_eq_true rfl, Nat.le_of_ble_eq_true rfl⟩ (fun rh28 vh28 ah28 h28 => ?_)
          obtain ⟨f22, rfl, fn22, bn22, ex22⟩ := h28
          refine hv2 (fp0.call fn22 rfl rfl) (show f22 = -1 from ex22) (fun fq22 gf22 => ?_)
          refine m_st (st2 := [.int (iI f22)]) rfl ?_
          exact m_iret C dX12_page_63 rfl (Nat.le_of_ble_eq_true rfl) (Nat.le_of_ble_eq_true rfl) ⟨f22, rfl, fq22, bn22, trivial⟩
  · refine m_st (st2 := [.int (iI 0)]) (by rw [h2e]) ?_
    refine m_if_ne (tgt := 20) C ⟨by decide, by decide⟩ dX12_page_11 (by decide) (fun z => absurd z (by omega)) (fun _ => ?_)
    refine m_aload_n (j := 0) C dX12_page_14 rfl ?_
    refine m_iconst C dX12_page_15 ?_
    refine m_call (mc2 := 0) (ms2 := 0) (As := [.int (iI 2)]) (rest := []) C (B_bad (x := 2) hB (by show -2147483648 ≤ (2 : Int) ∧ (2 : Int) ≤ 2147483647; omega)) dX12_page_16 kV_X12_154 rfl ck_13 rfl (Nat.le_of_ble_eq_true rfl) ⟨Nat.le_of_ble_eq_true rfl, Nat.le_of_ble_eq_true rfl⟩ ⟨Nat.le_of_ble_eq_true rfl, Nat.le_of_ble_eq_true rfl⟩ (fun rh29 vh29 ah29 h29 => ?_)
    obtain ⟨f23, rfl, fn23, bn23, ex23⟩ := h29
    refine hv2 (fp0.call fn23 rfl rfl) (show f23 = -1 from ex23) (fun fq23 gf23 => ?_)
    refine m_st (st2 := [.int (iI f23)]) rfl ?_
    exact m_iret C dX12_page_19 rfl (Nat.le_of_ble_eq_true rfl) (Nat.le_of_ble_eq_true rfl) ⟨f23, rfl, fq23, bn23, trivial⟩
end
section
theorem up2_ne {a : Nat → Nat → Int} {k i : Nat} {z : Int} {k2 j : Nat} (h : k2 ≠ k ∨ j ≠ i) : up2 a k i z k2 j = a k2 j := by
  by_cases e : k2 = k
  · subst e; exact up2_j (h.resolve_left (fun q => q rfl))
  · exact up2_k e
def RW1 (a : Nat → Nat → Int) (q : Int) : Prop := (0 ≤ a 47 q.toNat ∧ a 47 q.toNat ≤ 6008) ∧ ∀ r : Int, 6008 * q ≤ r → r < 6008 * q + a 47 q.toNat → RowOK a r
def RWS (a : Nat → Nat → Int) : Prop := ∀ q : Int, (q = 0 ∨ q = 1) → RW1 a q
theorem RWS.of {a a2 : Nat → Nat → Int} (h : RWS a) (h4 : a2 44 = a 44) (h5 : a2 45 = a 45) (h6 : a2 46 = a 46) (h7 : a2 47 = a 47) : RWS a2 := by
  intro q hq
  have := h q hq
  unfold RW1 RowOK at this ⊢
  rw [h4, h5, h6, h7]; exact this
theorem RWS.set {a : Nat → Nat → Int} (h : RWS a) {k i : Nat} {z : Int} (hk : ([44, 45, 46, 47] : List Nat).contains k = false) : RWS (up2 a k i z) := by
  have g : ∀ j, ([44, 45, 46, 47] : List Nat).contains j = true → up2 a k i z j = a j := fun j hj => funext fun q => up2_k (fun e => by rw [e, hk] at hj; cases hj)
  exact h.of (g 44 rfl) (g 45 rfl) (g 46 rfl) (g 47 rfl)
theorem RWS.fr {V A : List Nat} {v v2 : Nat → Int} {a a2 : Nat → Nat → Int} (h : RWS a) (f : fr V A v a v2 a2) (hk : ([44, 45, 46, 47] : List Nat).all (fun j => !A.contains j) = true) : RWS a2 := by
  have g : ∀ j, j ∈ ([44, 45, 46, 47] : List Nat) → a2 j = a j := fun j hj => f.2 j (by have := List.all_eq_true.mp hk j hj; simpa using this)
  exact h.of (g 44 (by decide)) (g 45 (by decide)) (g 46 (by decide)) (g 47 (by decide))
theorem RWS.zero {a : Nat → Nat → Int} (h : RWS a) {q : Int} (hq : q = 0 ∨ q = 1) : RWS (up2 a 47 q.toNat 0) := by
  intro q2 h2
  by_cases e : q2 = q
  · subst e
    refine ⟨by rw [up2_s]; exact ⟨Int.le_refl _, by decide⟩, fun r h3 h4 => ?_⟩
    rw [up2_s] at h4; omega
  · have hn : q2.toNat ≠ q.toNat := by omega
    have g := h q2 h2
    unfold RW1 RowOK at g ⊢
    rw [up2_j hn, show up2 a 47 q.toNat 0 44 = a 44 from funext fun _ => up2_k (by decide), show up2 a 47 q.toNat 0 45 = a 45 from funext fun _ => up2_k (by decide), show up2 a 47 q.toNat 0 46 = a 46 from funext fun _ => up2_k (by decide)]
    exact g
theorem RWS.add {a : Nat → Nat → Int} (h : RWS a) {q x y z r : Int} (hq : q = 0 ∨ q = 1) (hn : a 47 q.toNat < 6008) (hr : r = 6008 * q + a 47 q.toNat) (hx : -4 ≤ x ∧ x < 6000) (hz : 1 ≤ z ∧ z ≤ 4) (hy : 0 ≤ y) (h1 : 0 ≤ x → y + z ≤ 24000) (h2 : x < 0 → y + z ≤ 480) : RWS (up2 (up2 (up2 (up2 a 44 r.toNat x) 45 r.toNat y) 46 r.toNat z) 47 q.toNat (a 47 q.toNat + 1)) := by
  intro q2 hq2
  refine hv2 (h q hq) (h q2 hq2) (fun g g2 => ?_)
  unfold RW1 at g g2
  have k47 : ∀ j, up2 (up2 (up2 (up2 a 44 r.toNat x) 45 r.toNat y) 46 r.toNat z) 47 q.toNat (a 47 q.toNat + 1) 47 j = if j = q.toNat then a 47 q.toNat + 1 else a 47 j := by
    intro j
    by_cases e : j = q.toNat
    · subst e; rw [up2_s, if_pos rfl]
    · rw [up2_ne (Or.inr e), if_neg e, up2_ne (Or.inl (by decide)), up2_ne (Or.inl (by decide)), up2_ne (Or.inl (by decide))]
  have k44 : ∀ j, up2 (up2 (up2 (up2 a 44 r.toNat x) 45 r.toNat y) 46 r.toNat z) 47 q.toNat (a 47 q.toNat + 1) 44 j = if j = r.toNat then x else a 44 j := by
    intro j
    rw [up2_ne (Or.inl (by decide)), up2_ne (Or.inl (by decide)), up2_ne (Or.inl (by decide))]
    by_cases e : j = r.toNat
    · subst e; rw [up2_s, if_pos rfl]
    · rw [up2_ne (Or.inr e), if_neg e]
  have k45 : ∀ j, up2 (up2 (up2 (up2 a 44 r.toNat x) 45 r.toNat y) 46 r.toNat z) 47 q.toNat (a 47 q.toNat + 1) 45 j = if j = r.toNat then y else a 45 j := by
    intro j
    rw [up2_ne (Or.inl (by decide)), up2_ne (Or.inl (by decide))]
    by_cases e : j = r.toNat
    · subst e; rw [up2_s, if_pos rfl]
    · rw [up2_ne (Or.inr e), if_neg e, up2_ne (Or.inl (by decide))]
  have k46 : ∀ j, up2 (up2 (up2 (up2 a 44 r.toNat x) 45 r.toNat y) 46 r.toNat z) 47 q.toNat (a 47 q.toNat + 1) 46 j = if j = r.toNat then z else a 46 j := by
    intro j
    rw [up2_ne (Or.inl (by decide))]
    by_cases e : j = r.toNat
    · subst e; rw [up2_s, if_pos rfl]
    · rw [up2_ne (Or.inr e), if_neg e, up2_ne (Or.inl (by decide)), up2_ne (Or.inl (by decide))]
  unfold RW1
  rw [k47]
  have key : ∀ t : Int, 6008 * q2 ≤ t → t < 6008 * q2 + (if q2.toNat = q.toNat then a 47 q.toNat + 1 else a 47 q2.toNat) → t = r ∨ RowOK a t := by
    intro t ht1 ht2
    by_cases e : q2 = q
    · subst e
      rw [if_pos rfl] at ht2
      by_cases e2 : t = r
      · exact Or.inl e2
      · exact Or.inr (g.2 t ht1 (by omega))
    · rw [if_neg (by omega)] at ht2
      exact Or.inr (g2.2 t ht1 ht2)
  refine ⟨?_, fun t ht1 ht2 => ?_⟩
  · split <;> omega
  · unfold RowOK
    rw [k44, k45, k46]
    by_cases e : t = r
    · subst e
      rw [if_pos rfl, if_pos rfl, if_pos rfl]
      exact ⟨⟨by omega, by omega⟩, hx, hz, hy, h1, h2⟩
    · have g3 := (key t ht1 ht2).resolve_left e
      have hne : ¬ t.toNat = r.toNat := by
        have := g3.1
        omega
      rw [if_neg hne, if_neg hne, if_neg hne]
      exact g3
set_option maxHeartbeats 4000000 in
set_option maxRecDepth 100000 in
theorem B_addRow {l : Launch} {G : GT} {h0 : Nat} {ad ln : Nat → Nat} {v : Nat → Int} {a : Nat → Nat → Int}  {q x y z : Int} (hB : BX v a) (hW : RWS a) (hq : q = 0 ∨ q = 1) (h47 : a 47 q.toNat < 6008) (hx : -4 ≤ x ∧ x < 6000) (hz : 1 ≤ z ∧ z ≤ 4) (hy : 0 ≤ y) (h1 : 0 ≤ x → y + z ≤ 24000) (h2 : x < 0 → y + z ≤ 480) : Mm l G yX12_addRow cX12_addRow 6 none 0 [.int (iI q), .int (iI x), .int (iI y), .int (iI z)] h0 ad ln v a 0 0 (fun r v2 a2 => r = none ∧ fr [] [44, 45, 46, 47] v a v2 a2 ∧ BX v2 a2 ∧ (RWS a2 ∧ a2 47 q.toNat = a 47 q.toNat + 1)) := by
  refine Mm.mk (by decide) (Nat.le_of_ble_eq_true rfl) ?_
  intro p e s m args below meth c A C
  refine hv2 (show 0 ≤ a 47 q.toNat ∧ a 47 q.toNat ≤ 6008 from hB.2 47 _) (show fr [] [44, 45, 46, 47] v a v a from fr.refl) (fun r47 fp0 => ?_)
  refine m_sipush (z := 6008) C dX12_addRow_0 (by decide) ?_
  refine m_iload_n (j := 1) C dX12_addRow_3 rfl ?_
  refine m_imul C dX12_addRow_4 ?_
  refine m_aload_n (j := 0) C dX12_addRow_5 rfl ?_
  refine m_geta (k := 47) C dX12_addRow_6 w6_106 (by decide) rfl ?_
  refine m_iload_n (j := 1) C dX12_addRow_9 rfl ?_
  refine m_ald (k := 47) C dX12_addRow_10 rfl rfl (by decide) (by omega) (by show _ < ((_ : Nat) : Int); simp only [mlen]; omega) (by decide) ?_
  have ra1 : 0 ≤ a 47 q.toNat ∧ a 47 q.toNat ≤ 6008 := hB.2 47 (q.toNat)
  refine m_iadd C dX12_addRow_11 ?_
  refine m_istore (lv2 := [(5, .int (iI ((6008 * q) + (a 47 q.toNat)))), (0, .ref h0), (1, .int (iI q)), (2, .int (iI x)), (3, .int (iI y)), (4, .int (iI z))]) C dX12_addRow_12 (by decide) rfl ?_
  refine m_aload_n (j := 1) C dX12_addRow_14 rfl ?_
  refine m_geta (k := 44) C dX12_addRow_15 w6_103 (by decide) rfl ?_
  refine m_iload (j := 0) C dX12_addRow_18 rfl ?_
  refine m_iload_n (j := 3) C dX12_addRow_20 rfl ?_
  refine m_ast (k := 44) C dX12_addRow_21 rfl rfl (by decide) (by omega) (by show _ < ((_ : Nat) : Int); simp only [mlen]; omega) (by decide) ?_
  refine hv2 (show BX v (up2 a 44 ((6008 * q) + (a 47 q.toNat)).toNat x) from hB.set (k := 44) (i := ((6008 * q) + (a 47 q.toNat)).toNat) (z := x) (show (-4) ≤ x ∧ x ≤ 5999 by omega)) (fp0.set (k := 44) (i := ((6008 * q) + (a 47 q.toNat)).toNat) (z := x) rfl) (fun bq1 fq1 => ?_)
  refine m_aload_n (j := 1) C dX12_addRow_22 rfl ?_
  refine m_geta (k := 45) C dX12_addRow_23 w6_104 (by decide) rfl ?_
  refine m_iload (j := 0) C dX12_addRow_26 rfl ?_
  refine m_iload_n (j := 4) C dX12_addRow_28 rfl ?_
  refine m_ast (k := 45) C dX12_addRow_29 rfl rfl (by decide) (by omega) (by show _ < ((_ : Nat) : Int); simp only [mlen]; omega) (by decide) ?_
  refine hv2 (show BX v (up2 (up2 a 44 ((6008 * q) + (a 47 q.toNat)).toNat x) 45 ((6008 * q) + (a 47 q.toNat)).toNat y) from bq1.set (k := 45) (i := ((6008 * q) + (a 47 q.toNat)).toNat) (z := y) (show 0 ≤ y ∧ y ≤ 23999 by omega)) (fq1.set (k := 45) (i := ((6008 * q) + (a 47 q.toNat)).toNat) (z := y) rfl) (fun bq2 fq2 => ?_)
  refine m_aload_n (j := 1) C dX12_addRow_30 rfl ?_
  refine m_geta (k := 46) C dX12_addRow_31 w6_105 (by decide) rfl ?_
  refine m_iload (j := 0) C dX12_addRow_34 rfl ?_
  refine m_iload (j := 5) C dX12_addRow_36 rfl ?_
  refine m_ast (k := 46) C dX12_addRow_38 rfl rfl (by decide) (by omega) (by show _ < ((_ : Nat) : Int); simp only [mlen]; omega) (by decide) ?_
  refine hv2 (show BX v (up2 (up2 (up2 a 44 ((6008 * q) + (a 47 q.toNat)).toNat x) 45 ((6008 * q) + (a 47 q.toNat)).toNat y) 46 ((6008 * q) + (a 47 q.toNat)).toNat z) from bq2.set (k := 46) (i := ((6008 * q) + (a 47 q.toNat)).toNat) (z := z) (show 0 ≤ z ∧ z ≤ 4 by omega)) (fq2.set (k := 46) (i := ((6008 * q) + (a 47 q.toNat)).toNat) (z := z) rfl) (fun bq3 fq3 => ?_)
  refine m_aload_n (j := 1) C dX12_addRow_39 rfl ?_
  refine m_geta (k := 47) C dX12_addRow_40 w6_106 (by decide) rfl ?_
  refine m_iload_n (j := 2) C dX12_addRow_43 rfl ?_
  refine m_dup2 C dX12_addRow_44 rfl rfl ?_
  refine m_ald (k := 47) C dX12_addRow_45 rfl rfl (by decide) (by omega) (by show _ < ((_ : Nat) : Int); simp only [mlen]; omega) (by decide) ?_
  refine m_st (st2 := [.int (iI (a 47 q.toNat)), .int (iI q), .ref (ad 47)]) rfl ?_
  refine m_iconst C dX12_addRow_46 ?_
  refine m_iadd C dX12_addRow_47 ?_
  refine m_ast (k := 47) C dX12_addRow_48 rfl rfl (by decide) (by omega) (by show _ < ((_ : Nat) : Int); simp only [mlen]; omega) (by decide) ?_
  refine hv2 (show BX v (up2 (up2 (up2 (up2 a 44 ((6008 * q) + (a 47 q.toNat)).toNat x) 45 ((6008 * q) + (a 47 q.toNat)).toNat y) 46 ((6008 * q) + (a 47 q.toNat)).toNat z) 47 q.toNat ((a 47 q.toNat) + 1)) from bq3.set (k := 47) (i := q.toNat) (z := (a 47 q.toNat) + 1) (show 0 ≤ ((a 47 q.toNat) + 1) ∧ ((a 47 q.toNat) + 1) ≤ 6008 by omega)) (fq3.set (k := 47) (i := q.toNat) (z := (a 47 q.toNat) + 1) rfl) (fun bq4 fq4 => ?_)
  exact m_vret C dX12_addRow_49 rfl (Nat.le_of_ble_eq_true rfl) (Nat.le_of_ble_eq_true rfl) ⟨rfl, fq4, bq4, ⟨hW.add (r := 6008 * q + a 47 q.toNat) hq h47 rfl hx hz hy h1 h2, up2_s⟩⟩
set_option maxHeartbeats 4000000 in
set_option maxRecDepth 100000 in
theorem M_addIndicator {l : Launch} {G : GT} {h0 : Nat} {ad ln : Nat → Nat} {v : Nat → Int} {a : Nat → Nat → Int}  {q t w1 : Int} (hB : BX v a) (hW : RWS a) (hq : q = 0 ∨ q = 1) (ht : 0 ≤ t ∧ t < 30) (hw : 0 ≤ w1 ∧ w1 ≤ 3) (h47 : a 47 q.toNat < 6008) : Mm l G yX12_addIndicator cX12_addIndicator 5 none 1 [.int (iI q), .int (iI t), .int (iI w1)] h0 ad ln v a 0 0 (fun r v2 a2 => r = none ∧ fr [] [44, 45, 46, 47] v a v2 a2 ∧ BX v2 a2 ∧ (RWS a2 ∧ a2 47 q.toNat ≤ a 47 q.toNat + 1)) := by
  refine Mm.mk (by decide) (Nat.le_of_ble_eq_true rfl) ?_
  intro p e s m args below meth c A C
  have fp0 : fr [] [44, 45, 46, 47] v a v a := fr.refl
  refine m_iconst C dX12_addIndicator_0 ?_
  refine m_iload_n (j := 2) C dX12_addIndicator_1 rfl ?_
  refine m_imul C dX12_addIndicator_2 ?_
  refine m_iload_n (j := 3) C dX12_addIndicator_3 rfl ?_
  refine m_iadd C dX12_addIndicator_4 ?_
  refine m_istore (lv2 := [(4, .int (iI ((4 * t) + w1))), (0, .ref h0), (1, .int (iI q)), (2, .int (iI t)), (3, .int (iI w1))]) C dX12_addIndicator_5 (by decide) rfl ?_
  refine m_aload_n (j := 1) C dX12_addIndicator_7 rfl ?_
  refine m_geta (k := 16) C dX12_addIndicator_8 w6_75 (by decide) rfl ?_
  refine m_iload (j := 0) C dX12_addIndicator_11 rfl ?_
  refine m_ald (k := 16) C dX12_addIndicator_13 rfl rfl (by decide) (by omega) (by show _ < ((_ : Nat) : Int); simp only [mlen]; omega) (by decide) ?_
  have ra1 : 0 ≤ a 16 ((4 * t) + w1).toNat ∧ a 16 ((4 * t) + w1).toNat ≤ 4 := hB.2 16 (((4 * t) + w1).toNat)
  refine m_if_le (tgt := 36) C (r32_c (lo := 0) (hi := 4) ra1.1 ra1.2 (by decide) (by decide)) dX12_addIndicator_14 (by decide) (fun c1 => ?_) (fun c1 => ?_)
  · have ra2 : 0 ≤ a 47 q.toNat ∧ a 47 q.toNat ≤ 6008 := hB.2 47 (q.toNat)
    exact m_vret C dX12_addIndicator_36 rfl (Nat.le_of_ble_eq_true rfl) (Nat.le_of_ble_eq_true rfl) ⟨rfl, fp0, hB, ⟨hW, (by show a 47 q.toNat ≤ a 47 q.toNat + 1; omega)⟩⟩
  · refine m_aload_n (j := 1) C dX12_addIndicator_17 rfl ?_
    refine m_iload_n (j := 2) C dX12_addIndicator_18 rfl ?_
    refine m_iconst C dX12_addIndicator_19 ?_
    refine m_iload_n (j := 4) C dX12_addIndicator_20 rfl ?_
    refine m_isub C dX12_addIndicator_21 ?_
    refine m_iconst C dX12_addIndicator_22 ?_
    refine m_iload (j := 0) C dX12_addIndicator_23 rfl ?_
    refine m_imul C dX12_addIndicator_25 ?_
    refine m_aload_n (j := 1) C dX12_addIndicator_26 rfl ?_
    refine m_geta (k := 16) C dX12_addIndicator_27 w6_75 (by decide) rfl ?_
    refine m_iload (j := 0) C dX12_addIndicator_30 rfl ?_
    refine m_ald (k := 16) C dX12_addIndicator_32 rfl rfl (by decide) (by omega) (by show _ < ((_ : Nat) : Int); simp only [mlen]; omega) (by decide) ?_
    have ra3 : 0 ≤ a 47 q.toNat ∧ a 47 q.toNat ≤ 6008 := hB.2 47 (q.toNat)
    refine m_call (mc2 := 0) (ms2 := 0) (As := [.int (iI q), .int (iI ((-1) - w1)), .int (iI (4 * ((4 * t) + w1))), .int (iI (a 16 ((4 * t) + w1).toNat))]) (rest := []) C (B_addRow (q := q) (x := (-1) - w1) (y := 4 * ((4 * t) + w1)) (z := a 16 ((4 * t) + w1).toNat) hB hW (by show q = 0 ∨ q = 1; omega) (by show a 47 q.toNat < 6008; omega) (by show -4 ≤ ((-1) - w1) ∧ ((-1) - w1) < 6000; omega) (by show 1 ≤ (a 16 ((4 * t) + w1).toNat) ∧ (a 16 ((4 * t) + w1).toNat) ≤ 4; omega) (by show 0 ≤ (4 * ((4 * t) + w1)); omega) (by show 0 ≤ ((-1) - w1) → (4 * ((4 * t) + w1)) + (a 16 ((4 * t) + w1).toNat) ≤ 24000; omega) (by show ((-1) - w1) < 0 → (4 * ((4 * t) + w1)) + (a 16 ((4 * t) + w1).toNat) ≤ 480; omega)) dX12_addIndicator_33 kV_X12_314 rfl ck_13 rfl (Nat.le_of_ble_eq_true rfl) ⟨Nat.le_of_ble_eq_true rfl, Nat.le_of_ble_eq_true rfl⟩ ⟨Nat.le_of_ble_eq_true rfl, Nat.le_of_ble_eq_true rfl⟩ (fun rh1 vh1 ah1 h1 => ?_)
    obtain ⟨rfl, fn1, bn1, ex1⟩ := h1
    have fq1 := fp0.call fn1 rfl rfl
    obtain ⟨pw1, ex1⟩ := ex1
    refine hv2 (show ah1 47 q.toNat = a 47 q.toNat + 1 from ex1) (show 0 ≤ ah1 47 q.toNat ∧ ah1 47 q.toNat ≤ 6008 from bn1.2 47 (q.toNat)) (fun gf1 ra4 => ?_)
    refine m_st (st2 := []) rfl ?_
    exact m_vret C dX12_addIndicator_36 rfl (Nat.le_of_ble_eq_true rfl) (Nat.le_of_ble_eq_true rfl) ⟨rfl, fq1, bn1, ⟨pw1, (by show ah1 47 q.toNat ≤ a 47 q.toNat + 1; omega)⟩⟩
set_option maxHeartbeats 4000000 in
set_option maxRecDepth 100000 in
theorem M_addRows {l : Launch} {G : GT} {h0 : Nat} {ad ln : Nat → Nat} {v : Nat → Int} {a : Nat → Nat → Int}  {q t : Int} (hB : BX v a) (hW : RWS a) (hT : TBL v a) (hq : q = 0 ∨ q = 1) (ht : 0 ≤ t ∧ t < v 4) (h6 : a 6 t.toNat ≤ 4) : Mm l G yX12_addRows cX12_addRows 5 none 2 [.int (iI q), .int (iI t)] h0 ad ln v a 0 0 (fun r v2 a2 => r = none ∧ fr [] [44, 45, 46, 47] v a v2 a2 ∧ BX v2 a2 ∧ (RWS a2 ∧ a2 47 q.toNat ≤ 6002)) := by
  refine Mm.mk (by decide) (Nat.le_of_ble_eq_true rfl) ?_
  intro p e s m args below meth c A C
  refine hv2 (show 0 ≤ v 4 ∧ v 4 ≤ 30 from hB.1 4) (show fr [] [44, 45, 46, 47] v a v a from fr.refl) (fun h30 fp0 => ?_)
  refine m_aload_n (j := 0) C dX12_addRows_0 rfl ?_
  refine m_geta (k := 47) C dX12_addRows_1 w6_106 (by decide) rfl ?_
  refine m_iload_n (j := 1) C dX12_addRows_4 rfl ?_
  refine m_iconst C dX12_addRows_5 ?_
  refine m_ast (k := 47) C dX12_addRows_6 rfl rfl (by decide) (by omega) (by show _ < ((_ : Nat) : Int); simp only [mlen]; omega) (by decide) ?_
  refine hv3 (show BX v (up2 a 47 q.toNat 0) from hB.set (k := 47) (i := q.toNat) (z := 0) ⟨by decide, by decide⟩) (fp0.set (k := 47) (i := q.toNat) (z := 0) rfl) (show (up2 a 47 q.toNat 0) 47 q.toNat = 0 from up2_s) (fun bq1 fq1 zpw1 => ?_)
  have pw1 : RWS (up2 a 47 q.toNat 0) := RWS.zero (q := q) hW (by omega)
  refine m_iload_n (j := 2) C dX12_addRows_7 rfl ?_
  refine m_istore_n (lv2 := [(3, .int (iI t)), (0, .ref h0), (1, .int (iI q)), (2, .int (iI t))]) C dX12_addRows_8 (by decide) rfl ?_
  have Lp1 : ∀ (nn : Nat) (b1 : Int) (vb2 : Nat → Int) (ab2 : Nat → Nat → Int), b1 + 1 < (nn : Int) → BX vb2 ab2 → fr [] [44, 45, 46, 47] v a vb2 ab2 → (-1 ≤ b1 ∧ b1 ≤ t) → (b1 = -1 ∨ a 6 b1.toNat ≤ 4) → (ab2 47 q.toNat + 200 * (b1 + 1) ≤ 6000) → (RWS ab2) → mw p l e (rmq 2 0 0) s m args below meth c G A 5 (MQ below (Qm G A (fun rq Lq Eq => ∃ (vq : Nat → Int) (aq : Nat → Nat → Int), mI G h0 ad ln vq aq Lq Eq ∧ (fun r v2 a2 => r = none ∧ fr [] [44, 45, 46, 47] v a v2 a2 ∧ BX v2 a2 ∧ (RWS a2 ∧ a2 47 q.toNat ≤ 6002)) rq vq aq)) args s 0 0 A) h0 ad ln vb2 ab2 0 0 9 [(3, .int (iI b1)), (0, .ref h0), (1, .int (iI q)), (2, .int (iI t))] [] := by
    intro nn
    induction nn with
    | zero =>
      intro b1 vb2 ab2 hm bxb2 fpb2 hb hb6 h47 hW1
      exact absurd hm (by omega)
    | succ nn ih1 =>
      intro b1 vb2 ab2 hm bxb2 fpb2 hb hb6 h47 hW1
      refine m_iload_n (j := 0) C dX12_addRows_9 rfl ?_
      refine m_if_lt (tgt := 71) C ⟨by omega, by omega⟩ dX12_addRows_10 (by decide) (fun c1 => ?_) (fun c1 => ?_)
      · refine m_aload_n (j := 1) C dX12_addRows_71 rfl ?_
        refine m_iload_n (j := 2) C dX12_addRows_72 rfl ?_
        refine m_iload_n (j := 3) C dX12_addRows_73 rfl ?_
        refine m_iconst C dX12_addRows_74 ?_
        have ra1 : 0 ≤ ab2 47 q.toNat ∧ ab2 47 q.toNat ≤ 6008 := bxb2.2 47 (q.toNat)
        refine m_call (mc2 := 0) (ms2 := 0) (As := [.int (iI q), .int (iI t), .int (iI 0)]) (rest := []) C (M_addIndicator (q := q) (t := t) (w1 := 0) bxb2 hW1 (by show q = 0 ∨ q = 1; omega) (by show 0 ≤ t ∧ t < 30; omega) (by show 0 ≤ (0 : Int) ∧ (0 : Int) ≤ 3; omega) (by show ab2 47 q.toNat < 6008; omega)) dX12_addRows_75 kV_X12_317 rfl ck_13 rfl (Nat.le_of_ble_eq_true rfl) ⟨Nat.le_of_ble_eq_true rfl, Nat.le_of_ble_eq_true rfl⟩ ⟨Nat.le_of_ble_eq_true rfl, Nat.le_of_ble_eq_true rfl⟩ (fun rh1 vh1 ah1 h1 => ?_)
        obtain ⟨rfl, fn1, bn1, ex1⟩ := h1
        have fq2 := fpb2.call fn1 rfl rfl
        obtain ⟨pw2, ex1⟩ := ex1
        refine hv2 (show ah1 47 q.toNat ≤ ab2 47 q.toNat + 1 from ex1) (show 0 ≤ ah1 47 q.toNat ∧ ah1 47 q.toNat ≤ 6008 from bn1.2 47 (q.toNat)) (fun gf1 ra2 => ?_)
        refine m_st (st2 := []) rfl ?_
        refine m_aload_n (j := 1) C dX12_addRows_78 rfl ?_
        refine m_iload_n (j := 2) C dX12_addRows_79 rfl ?_
        refine m_iload_n (j := 3) C dX12_addRows_80 rfl ?_
        refine m_iconst C dX12_addRows_81 ?_
        refine m_call (mc2 := 0) (ms2 := 0) (As := [.int (iI q), .int (iI t), .int (iI 1)]) (rest := []) C (M_addIndicator (q := q) (t := t) (w1 := 1) bn1 pw2 (by show q = 0 ∨ q = 1; omega) (by show 0 ≤ t ∧ t < 30; omega) (by show 0 ≤ (1 : Int) ∧ (1 : Int) ≤ 3; omega) (by show ah1 47 q.toNat < 6008; omega)) dX12_addRows_82 kV_X12_317 rfl ck_13 rfl (Nat.le_of_ble_eq_true rfl) ⟨Nat.le_of_ble_eq_true rfl, Nat.le_of_ble_eq_true rfl⟩ ⟨Nat.le_of_ble_eq_true rfl, Nat.le_of_ble_eq_true rfl⟩ (fun rh2 vh2 ah2 h2 => ?_)
        obtain ⟨rfl, fn2, bn2, ex2⟩ := h2
        have fq3 := fq2.call fn2 rfl rfl
        obtain ⟨pw3, ex2⟩ := ex2
        refine hv2 (show ah2 47 q.toNat ≤ ah1 47 q.toNat + 1 from ex2) (show 0 ≤ ah2 47 q.toNat ∧ ah2 47 q.toNat ≤ 6008 from bn2.2 47 (q.toNat)) (fun gf2 ra3 => ?_)
        refine m_st (st2 := []) rfl ?_
        exact m_vret C dX12_addRows_85 rfl (Nat.le_of_ble_eq_true rfl) (Nat.le_of_ble_eq_true rfl) ⟨rfl, fq3, bn2, ⟨pw3, (by show ah2 47 q.toNat ≤ 6002; omega)⟩⟩
      · have ht0 := hT.1 b1 (by omega) (by omega)
        have r10 : 0 ≤ a 10 b1.toNat ∧ a 10 b1.toNat ≤ 200 := hB.2 10 _
        have q6 : b1 = -1 ∨ True := Or.inr trivial
        refine m_sipush (z := 200) C dX12_addRows_13 (by decide) ?_
        refine m_iload_n (j := 0) C dX12_addRows_16 rfl ?_
        refine m_imul C dX12_addRows_17 ?_
        refine m_istore (lv2 := [(4, .int (iI (200 * b1))), (3, .int (iI b1)), (0, .ref h0), (1, .int (iI q)), (2, .int (iI t))]) C dX12_addRows_18 (by decide) rfl ?_
        have Lp2 : ∀ (nn : Nat) (r : Int) (vb3 : Nat → Int) (ab3 : Nat → Nat → Int), 200 * b1 + 200 - r < (nn : Int) → BX vb3 ab3 → fr [] [44, 45, 46, 47] v a vb3 ab3 → (200 * b1 ≤ r ∧ r ≤ 200 * b1 + a 10 b1.toNat) → (ab3 47 q.toNat + (200 * b1 + a 10 b1.toNat - r) + 200 * b1 ≤ 6000) → (RWS ab3) → mw p l e (rmq 2 0 0) s m args below meth c G A 5 (MQ below (Qm G A (fun rq Lq Eq => ∃ (vq : Nat → Int) (aq : Nat → Nat → Int), mI G h0 ad ln vq aq Lq Eq ∧ (fun r v2 a2 => r = none ∧ fr [] [44, 45, 46, 47] v a v2 a2 ∧ BX v2 a2 ∧ (RWS a2 ∧ a2 47 q.toNat ≤ 6002)) rq vq aq)) args s 0 0 A) h0 ad ln vb3 ab3 0 0 20 [(4, .int (iI r)), (3, .int (iI b1)), (0, .ref h0), (1, .int (iI q)), (2, .int (iI t))] [] := by
          intro nn
          induction nn with
          | zero =>
            intro r vb3 ab3 hm bxb3 fpb3 hr h472 hW2
            exact absurd hm (by omega)
          | succ nn ih2 =>
            intro r vb3 ab3 hm bxb3 fpb3 hr h472 hW2
            refine m_iload (j := 0) C dX12_addRows_20 rfl ?_
            refine m_sipush (z := 200) C dX12_addRows_22 (by decide) ?_
            refine m_iload_n (j := 1) C dX12_addRows_25 rfl ?_
            refine m_imul C dX12_addRows_26 ?_
            refine m_aload_n (j := 2) C dX12_addRows_27 rfl ?_
            refine m_geta (k := 10) C dX12_addRows_28 w6_69 (by decide) rfl ?_
            refine m_iload_n (j := 1) C dX12_addRows_31 rfl ?_
            refine m_ald (k := 10) C dX12_addRows_32 rfl rfl (by decide) (by omega) (by show _ < ((_ : Nat) : Int); simp only [mlen]; omega) (by decide) ?_
            refine hv2 (show 0 ≤ ab3 10 b1.toNat ∧ ab3 10 b1.toNat ≤ 200 from bxb3.2 10 (b1.toNat)) (show ab3 10 (b1.toNat) = a 10 (b1.toNat) from congrFun (fpb3.2 10 rfl) (b1.toNat)) (fun ra4 ae1 => ?_)
            refine m_st (st2 := [.int (iI (a 10 b1.toNat)), .int (iI (200 * b1)), .int (iI r)]) (congrArg (fun z => Value.int (iI z) :: [.int (iI (200 * b1)), .int (iI r)]) (congrFun (fpb3.2 10 rfl) (b1.toNat))) ?_
            refine m_iadd C dX12_addRows_33 ?_
            refine m_icmp_ge (tgt := 61) C ⟨by omega, by omega⟩ ⟨by omega, by omega⟩ dX12_addRows_34 (by decide) (fun c2 => ?_) (fun c2 => ?_)
            · refine m_aload_n (j := 2) C dX12_addRows_61 rfl ?_
              refine m_geta (k := 8) C dX12_addRows_62 w6_67 (by decide) rfl ?_
              refine m_iload_n (j := 1) C dX12_addRows_65 rfl ?_
              refine m_ald (k := 8) C dX12_addRows_66 rfl rfl (by decide) (by omega) (by show _ < ((_ : Nat) : Int); simp only [mlen]; omega) (by decide) ?_
              refine hv2 (show (-1) ≤ ab3 8 b1.toNat ∧ ab3 8 b1.toNat ≤ 29 from bxb3.2 8 (b1.toNat)) (show ab3 8 (b1.toNat) = a 8 (b1.toNat) from congrFun (fpb3.2 8 rfl) (b1.toNat)) (fun ra5 ae2 => ?_)
              refine m_st (st2 := [.int (iI (a 8 b1.toNat))]) (congrArg (fun z => Value.int (iI z) :: []) (congrFun (fpb3.2 8 rfl) (b1.toNat))) ?_
              refine m_istore_n (lv2 := [(3, .int (iI (a 8 b1.toNat))), (4, .int (iI r)), (0, .ref h0), (1, .int (iI q)), (2, .int (iI t))]) C dX12_addRows_67 (by decide) rfl ?_
              refine m_goto (tgt := 9) C dX12_addRows_68 (by decide) ?_
              have ra6 : 0 ≤ ab3 47 q.toNat ∧ ab3 47 q.toNat ≤ 6008 := bxb3.2 47 (q.toNat)
              refine m_lv (lv2 := [(3, .int (iI (a 8 b1.toNat))), (0, .ref h0), (1, .int (iI q)), (2, .int (iI t))]) [0, 2, 3, 4] rfl ?_
              exact ih1  (a 8 b1.toNat) _ _ (by omega) bxb3 fpb3 (by omega) (by omega) (by show (ab3 47 q.toNat) + 200 * ((a 8 b1.toNat) + 1) ≤ 6000; omega) hW2
            · refine m_aload_n (j := 2) C dX12_addRows_37 rfl ?_
              refine m_iload_n (j := 3) C dX12_addRows_38 rfl ?_
              refine m_iload (j := 0) C dX12_addRows_39 rfl ?_
              refine m_iconst C dX12_addRows_41 ?_
              refine m_iload (j := 0) C dX12_addRows_42 rfl ?_
              refine m_imul C dX12_addRows_44 ?_
              refine m_aload_n (j := 2) C dX12_addRows_45 rfl ?_
              refine m_geta (k := 13) C dX12_addRows_46 w6_72 (by decide) rfl ?_
              refine m_iload (j := 0) C dX12_addRows_49 rfl ?_
              refine m_ald (k := 13) C dX12_addRows_51 rfl rfl (by decide) (by omega) (by show _ < ((_ : Nat) : Int); simp only [mlen]; omega) (by decide) ?_
              refine hv2 (show 0 ≤ ab3 13 r.toNat ∧ ab3 13 r.toNat ≤ 4 from bxb3.2 13 (r.toNat)) (show ab3 13 (r.toNat) = a 13 (r.toNat) from congrFun (fpb3.2 13 rfl) (r.toNat)) (fun ra7 ae3 => ?_)
              refine m_st (st2 := [.int (iI (a 13 r.toNat)), .int (iI (4 * r)), .int (iI r), .int (iI q), .ref h0]) (congrArg (fun z => Value.int (iI z) :: [.int (iI (4 * r)), .int (iI r), .int (iI q), .ref h0]) (congrFun (fpb3.2 13 rfl) (r.toNat))) ?_
              refine hv2 ((hT.2 b1 r (by omega) (by omega) (by omega) (by omega)).2) (show 0 ≤ ab3 47 q.toNat ∧ ab3 47 q.toNat ≤ 6008 from bxb3.2 47 (q.toNat)) (fun hr0 ra8 => ?_)
              refine m_call (mc2 := 0) (ms2 := 0) (As := [.int (iI q), .int (iI r), .int (iI (4 * r)), .int (iI (a 13 r.toNat))]) (rest := []) C (B_addRow (q := q) (x := r) (y := 4 * r) (z := a 13 r.toNat) bxb3 hW2 (by show q = 0 ∨ q = 1; omega) (by show ab3 47 q.toNat < 6008; omega) (by show -4 ≤ r ∧ r < 6000; omega) (by show 1 ≤ (a 13 r.toNat) ∧ (a 13 r.toNat) ≤ 4; omega) (by show 0 ≤ (4 * r); omega) (by show 0 ≤ r → (4 * r) + (a 13 r.toNat) ≤ 24000; omega) (by show r < 0 → (4 * r) + (a 13 r.toNat) ≤ 480; omega)) dX12_addRows_52 kV_X12_314 rfl ck_13 rfl (Nat.le_of_ble_eq_true rfl) ⟨Nat.le_of_ble_eq_true rfl, Nat.le_of_ble_eq_true rfl⟩ ⟨Nat.le_of_ble_eq_true rfl, Nat.le_of_ble_eq_true rfl⟩ (fun rh3 vh3 ah3 h3 => ?_)
              obtain ⟨rfl, fn3, bn3, ex3⟩ := h3
              have fq4 := fpb3.call fn3 rfl rfl
              obtain ⟨pw4, ex3⟩ := ex3
              refine hv2 (show ah3 47 q.toNat = ab3 47 q.toNat + 1 from ex3) (show 0 ≤ ah3 47 q.toNat ∧ ah3 47 q.toNat ≤ 6008 from bn3.2 47 (q.toNat)) (fun gf3 ra9 => ?_)
              refine m_st (st2 := []) rfl ?_
              refine m_iinc (z := r) (j := 0) (lv2 := [(4, .int (iI (r + 1))), (3, .int (iI b1)), (0, .ref h0), (1, .int (iI q)), (2, .int (iI t))]) C dX12_addRows_55 rfl (by decide) rfl ?_
              refine m_goto (tgt := 20) C dX12_addRows_58 (by decide) ?_
              refine m_lv (lv2 := [(4, .int (iI (r + 1))), (3, .int (iI b1)), (0, .ref h0), (1, .int (iI q)), (2, .int (iI t))]) [0, 1, 2, 3, 4] rfl ?_
              exact ih2  (r + 1) _ _ (by omega) bn3 fq4 (by omega) (by show (ah3 47 q.toNat) + (200 * b1 + a 10 b1.toNat - (r + 1)) + 200 * b1 ≤ 6000; omega) pw4
        have ra10 : 0 ≤ ab2 47 q.toNat ∧ ab2 47 q.toNat ≤ 6008 := bxb2.2 47 (q.toNat)
        refine m_lv (lv2 := [(4, .int (iI (200 * b1))), (3, .int (iI b1)), (0, .ref h0), (1, .int (iI q)), (2, .int (iI t))]) [0, 1, 2, 3, 4] rfl ?_
        exact Lp2 202 (200 * b1) _ _ (by omega) bxb2 fpb2 (by omega) (by show (ab2 47 q.toNat) + (200 * b1 + a 10 b1.toNat - (200 * b1)) + 200 * b1 ≤ 6000; omega) hW1
  have ra11 : 0 ≤ (up2 a 47 q.toNat 0) 47 q.toNat ∧ (up2 a 47 q.toNat 0) 47 q.toNat ≤ 6008 := bq1.2 47 (q.toNat)
  refine m_lv (lv2 := [(3, .int (iI t)), (0, .ref h0), (1, .int (iI q)), (2, .int (iI t))]) [0, 1, 2, 3] rfl ?_
  exact Lp1 32 t _ _ (by omega) bq1 fq1 (by omega) (by omega) (by show ((up2 a 47 q.toNat 0) 47 q.toNat) + 200 * (t + 1) ≤ 6000; omega) pw1
set_option maxHeartbeats 4000000 in
set_option maxRecDepth 100000 in
theorem M_gather {l : Launch} {G : GT} {h0 : Nat} {ad ln : Nat → Nat} {v : Nat → Int} {a : Nat → Nat → Int}  {t : Int} (hB : BX v a) (hW : RWS a) (hT : TBL v a) (ht : 0 ≤ t ∧ t < v 4) : Mm l G yX12_gather cX12_gather 2 none 3 [.int (iI t)] h0 ad ln v a 0 0 (fun r v2 a2 => r = none ∧ fr [] [44, 45, 46, 47] v a v2 a2 ∧ BX v2 a2 ∧ (RWS a2)) := by
  refine Mm.mk (by decide) (Nat.le_of_ble_eq_true rfl) ?_
  intro p e s m args below meth c A C
  refine hv2 (show 0 ≤ v 4 ∧ v 4 ≤ 30 from hB.1 4) (show fr [] [44, 45, 46, 47] v a v a from fr.refl) (fun h30 fp0 => ?_)
  have ht0 := hT.1 t (by omega) (by omega)
  refine m_aload_n (j := 0) C dX12_gather_0 rfl ?_
  refine m_geta (k := 47) C dX12_gather_1 w6_106 (by decide) rfl ?_
  refine m_iconst C dX12_gather_4 ?_
  refine m_iconst C dX12_gather_5 ?_
  refine m_ast (k := 47) C dX12_gather_6 rfl rfl (by decide) (by decide) (by decide) (by decide) ?_
  refine hv3 (show BX v (up2 a 47 (1 : Int).toNat 0) from hB.set (k := 47) (i := (1 : Int).toNat) (z := 0) ⟨by decide, by decide⟩) (fp0.set (k := 47) (i := (1 : Int).toNat) (z := 0) rfl) (show (up2 a 47 (1 : Int).toNat 0) 47 (1 : Int).toNat = 0 from up2_s) (fun bq1 fq1 zpw1 => ?_)
  have pw1 : RWS (up2 a 47 (1 : Int).toNat 0) := RWS.zero (q := 1) hW (by omega)
  refine m_aload_n (j := 0) C dX12_gather_7 rfl ?_
  refine m_geta (k := 6) C dX12_gather_8 w6_65 (by decide) rfl ?_
  refine m_iload_n (j := 1) C dX12_gather_11 rfl ?_
  refine m_ald (k := 6) C dX12_gather_12 rfl rfl (by decide) (by omega) (by show _ < ((_ : Nat) : Int); simp only [mlen]; omega) (by decide) ?_
  have ra1 : 0 ≤ a 6 t.toNat ∧ a 6 t.toNat ≤ 5 := bq1.2 6 (t.toNat)
  refine m_st (st2 := [.int (iI (a 6 t.toNat))]) (congrArg (fun z => Value.int (iI z) :: []) (congrFun (fq1.2 6 rfl) (t.toNat))) ?_
  refine m_iconst C dX12_gather_13 ?_
  refine m_icmp_eq (tgt := 24) C (r32_c (lo := 0) (hi := 5) ra1.1 ra1.2 (by decide) (by decide)) ⟨by decide, by decide⟩ dX12_gather_14 (by decide) (fun c1 => ?_) (fun c1 => ?_)
  · refine m_aload_n (j := 0) C dX12_gather_24 rfl ?_
    refine m_iconst C dX12_gather_25 ?_
    refine m_aload_n (j := 0) C dX12_gather_26 rfl ?_
    refine m_geta (k := 8) C dX12_gather_27 w6_67 (by decide) rfl ?_
    refine m_iload_n (j := 1) C dX12_gather_30 rfl ?_
    refine m_ald (k := 8) C dX12_gather_31 rfl rfl (by decide) (by omega) (by show _ < ((_ : Nat) : Int); simp only [mlen]; omega) (by decide) ?_
    have ra2 : (-1) ≤ a 8 t.toNat ∧ a 8 t.toNat ≤ 29 := bq1.2 8 (t.toNat)
    refine m_st (st2 := [.int (iI (a 8 t.toNat)), .int (iI 0), .ref h0]) (congrArg (fun z => Value.int (iI z) :: [.int (iI 0), .ref h0]) (congrFun (fq1.2 8 rfl) (t.toNat))) ?_
    refine hv2 (show 0 ≤ v 4 ∧ v 4 ≤ 30 from bq1.1 4) (show 0 ≤ a 6 (a 8 t.toNat).toNat ∧ a 6 (a 8 t.toNat).toNat ≤ 5 from bq1.2 6 ((a 8 t.toNat).toNat)) (fun rv1 ra3 => ?_)
    refine m_call (mc2 := 0) (ms2 := 0) (As := [.int (iI 0), .int (iI (a 8 t.toNat))]) (rest := []) C (M_addRows (q := 0) (t := a 8 t.toNat) bq1 pw1 (hT.fr fq1 rfl rfl) (by show (0 : Int) = 0 ∨ (0 : Int) = 1; omega) (by show 0 ≤ (a 8 t.toNat) ∧ (a 8 t.toNat) < (v 4); omega) (by show a 6 (a 8 t.toNat).toNat ≤ 4; omega)) dX12_gather_32 kV_X12_321 rfl ck_13 rfl (Nat.le_of_ble_eq_true rfl) ⟨Nat.le_of_ble_eq_true rfl, Nat.le_of_ble_eq_true rfl⟩ ⟨Nat.le_of_ble_eq_true rfl, Nat.le_of_ble_eq_true rfl⟩ (fun rh1 vh1 ah1 h1 => ?_)
    obtain ⟨rfl, fn1, bn1, ex1⟩ := h1
    have fq2 := fq1.call fn1 rfl rfl
    obtain ⟨pw2, ex1⟩ := ex1
    refine hv2 (show ah1 47 (0 : Int).toNat ≤ 6002 from ex1) (show 0 ≤ ah1 47 (0 : Int).toNat ∧ ah1 47 (0 : Int).toNat ≤ 6008 from bn1.2 47 ((0 : Int).toNat)) (fun gf1 ra4 => ?_)
    refine m_st (st2 := []) rfl ?_
    refine m_aload_n (j := 0) C dX12_gather_35 rfl ?_
    refine m_iconst C dX12_gather_36 ?_
    refine m_iload_n (j := 1) C dX12_gather_37 rfl ?_
    refine m_iconst C dX12_gather_38 ?_
    refine m_call (mc2 := 0) (ms2 := 0) (As := [.int (iI 0), .int (iI t), .int (iI 2)]) (rest := []) C (M_addIndicator (q := 0) (t := t) (w1 := 2) bn1 pw2 (by show (0 : Int) = 0 ∨ (0 : Int) = 1; omega) (by show 0 ≤ t ∧ t < 30; omega) (by show 0 ≤ (2 : Int) ∧ (2 : Int) ≤ 3; omega) (by show ah1 47 (0 : Int).toNat < 6008; omega)) dX12_gather_39 kV_X12_317 rfl ck_13 rfl (Nat.le_of_ble_eq_true rfl) ⟨Nat.le_of_ble_eq_true rfl, Nat.le_of_ble_eq_true rfl⟩ ⟨Nat.le_of_ble_eq_true rfl, Nat.le_of_ble_eq_true rfl⟩ (fun rh2 vh2 ah2 h2 => ?_)
    obtain ⟨rfl, fn2, bn2, ex2⟩ := h2
    have fq3 := fq2.call fn2 rfl rfl
    obtain ⟨pw3, ex2⟩ := ex2
    refine hv2 (show ah2 47 (0 : Int).toNat ≤ ah1 47 (0 : Int).toNat + 1 from ex2) (show 0 ≤ ah2 47 (0 : Int).toNat ∧ ah2 47 (0 : Int).toNat ≤ 6008 from bn2.2 47 ((0 : Int).toNat)) (fun gf2 ra5 => ?_)
    refine m_st (st2 := []) rfl ?_
    refine m_aload_n (j := 0) C dX12_gather_42 rfl ?_
    refine m_iconst C dX12_gather_43 ?_
    refine m_aload_n (j := 0) C dX12_gather_44 rfl ?_
    refine m_geta (k := 9) C dX12_gather_45 w6_68 (by decide) rfl ?_
    refine m_iload_n (j := 1) C dX12_gather_48 rfl ?_
    refine m_ald (k := 9) C dX12_gather_49 rfl rfl (by decide) (by omega) (by show _ < ((_ : Nat) : Int); simp only [mlen]; omega) (by decide) ?_
    refine hv3 (show (-1) ≤ ah2 9 t.toNat ∧ ah2 9 t.toNat ≤ 29 from bn2.2 9 (t.toNat)) (show ah2 9 (t.toNat) = ah1 9 (t.toNat) from congrFun (fn2.2 9 rfl) (t.toNat)) (show ah1 9 (t.toNat) = a 9 (t.toNat) from congrFun (fn1.2 9 rfl) (t.toNat)) (fun ra6 ae1 ae2 => ?_)
    refine m_st (st2 := [.int (iI (a 9 t.toNat)), .int (iI 1), .ref h0]) (congrArg (fun z => Value.int (iI z) :: [.int (iI 1), .ref h0]) (congrFun (fq3.2 9 rfl) (t.toNat))) ?_
    refine hv6 (show 0 ≤ vh2 4 ∧ vh2 4 ≤ 30 from bn2.1 4) (show vh2 4 = vh1 4 from fn2.1 4 rfl) (show vh1 4 = v 4 from fn1.1 4 rfl) (show 0 ≤ ah2 6 (a 9 t.toNat).toNat ∧ ah2 6 (a 9 t.toNat).toNat ≤ 5 from bn2.2 6 ((a 9 t.toNat).toNat)) (show ah2 6 ((a 9 t.toNat).toNat) = ah1 6 ((a 9 t.toNat).toNat) from congrFun (fn2.2 6 rfl) ((a 9 t.toNat).toNat)) (show ah1 6 ((a 9 t.toNat).toNat) = a 6 ((a 9 t.toNat).toNat) from congrFun (fn1.2 6 rfl) ((a 9 t.toNat).toNat)) (fun rv2 ve1 ve2 ra7 ae3 ae4 => ?_)
    refine m_call (mc2 := 0) (ms2 := 0) (As := [.int (iI 1), .int (iI (a 9 t.toNat))]) (rest := []) C (M_addRows (q := 1) (t := a 9 t.toNat) bn2 pw3 (hT.fr fq3 rfl rfl) (by show (1 : Int) = 0 ∨ (1 : Int) = 1; omega) (by show 0 ≤ (a 9 t.toNat) ∧ (a 9 t.toNat) < (vh2 4); omega) (by show ah2 6 (a 9 t.toNat).toNat ≤ 4; omega)) dX12_gather_50 kV_X12_321 rfl ck_13 rfl (Nat.le_of_ble_eq_true rfl) ⟨Nat.le_of_ble_eq_true rfl, Nat.le_of_ble_eq_true rfl⟩ ⟨Nat.le_of_ble_eq_true rfl, Nat.le_of_ble_eq_true rfl⟩ (fun rh3 vh3 ah3 h3 => ?_)
    obtain ⟨rfl, fn3, bn3, ex3⟩ := h3
    have fq4 := fq3.call fn3 rfl rfl
    obtain ⟨pw4, ex3⟩ := ex3
    refine hv2 (show ah3 47 (1 : Int).toNat ≤ 6002 from ex3) (show 0 ≤ ah3 47 (1 : Int).toNat ∧ ah3 47 (1 : Int).toNat ≤ 6008 from bn3.2 47 ((1 : Int).toNat)) (fun gf3 ra8 => ?_)
    refine m_st (st2 := []) rfl ?_
    refine m_aload_n (j := 0) C dX12_gather_53 rfl ?_
    refine m_iconst C dX12_gather_54 ?_
    refine m_iload_n (j := 1) C dX12_gather_55 rfl ?_
    refine m_iconst C dX12_gather_56 ?_
    refine m_call (mc2 := 0) (ms2 := 0) (As := [.int (iI 1), .int (iI t), .int (iI 3)]) (rest := []) C (M_addIndicator (q := 1) (t := t) (w1 := 3) bn3 pw4 (by show (1 : Int) = 0 ∨ (1 : Int) = 1; omega) (by show 0 ≤ t ∧ t < 30; omega) (by show 0 ≤ (3 : Int) ∧ (3 : Int) ≤ 3; omega) (by show ah3 47 (1 : Int).toNat < 6008; omega)) dX12_gather_57 kV_X12_317 rfl ck_13 rfl (Nat.le_of_ble_eq_true rfl) ⟨Nat.le_of_ble_eq_true rfl, Nat.le_of_ble_eq_true rfl⟩ ⟨Nat.le_of_ble_eq_true rfl, Nat.le_of_ble_eq_true rfl⟩ (fun rh4 vh4 ah4 h4 => ?_)
    obtain ⟨rfl, fn4, bn4, ex4⟩ := h4
    have fq5 := fq4.call fn4 rfl rfl
    obtain ⟨pw5, ex4⟩ := ex4
    refine hv2 (show ah4 47 (1 : Int).toNat ≤ ah3 47 (1 : Int).toNat + 1 from ex4) (show 0 ≤ ah4 47 (1 : Int).toNat ∧ ah4 47 (1 : Int).toNat ≤ 6008 from bn4.2 47 ((1 : Int).toNat)) (fun gf4 ra9 => ?_)
    refine m_st (st2 := []) rfl ?_
    exact m_vret C dX12_gather_60 rfl (Nat.le_of_ble_eq_true rfl) (Nat.le_of_ble_eq_true rfl) ⟨rfl, fq5, bn4, pw5⟩
  · refine m_aload_n (j := 0) C dX12_gather_17 rfl ?_
    refine m_iconst C dX12_gather_18 ?_
    refine m_iload_n (j := 1) C dX12_gather_19 rfl ?_
    have rv3 : 0 ≤ v 4 ∧ v 4 ≤ 30 := bq1.1 4
    refine m_call (mc2 := 0) (ms2 := 0) (As := [.int (iI 0), .int (iI t)]) (rest := []) C (M_addRows (q := 0) (t := t) bq1 pw1 (hT.fr fq1 rfl rfl) (by show (0 : Int) = 0 ∨ (0 : Int) = 1; omega) (by show 0 ≤ t ∧ t < (v 4); omega) (by show a 6 t.toNat ≤ 4; omega)) dX12_gather_20 kV_X12_321 rfl ck_13 rfl (Nat.le_of_ble_eq_true rfl) ⟨Nat.le_of_ble_eq_true rfl, Nat.le_of_ble_eq_true rfl⟩ ⟨Nat.le_of_ble_eq_true rfl, Nat.le_of_ble_eq_true rfl⟩ (fun rh5 vh5 ah5 h5 => ?_)
    obtain ⟨rfl, fn5, bn5, ex5⟩ := h5
    have fq6 := fq1.call fn5 rfl rfl
    obtain ⟨pw6, ex5⟩ := ex5
    refine hv2 (show ah5 47 (0 : Int).toNat ≤ 6002 from ex5) (show 0 ≤ ah5 47 (0 : Int).toNat ∧ ah5 47 (0 : Int).toNat ≤ 6008 from bn5.2 47 ((0 : Int).toNat)) (fun gf5 ra10 => ?_)
    refine m_st (st2 := []) rfl ?_
    exact m_vret C dX12_gather_23 rfl (Nat.le_of_ble_eq_true rfl) (Nat.le_of_ble_eq_true rfl) ⟨rfl, fq6, bn5, pw6⟩
end
section
set_option maxHeartbeats 4000000 in
set_option maxRecDepth 100000 in
theorem M_looksLike {l : Launch} {G : GT} {h0 : Nat} {ad ln : Nat → Nat} {v : Nat → Int} {a : Nat → Nat → Int}  {x y : Int} (hB : BX v a) (hx : -2147483648 ≤ x ∧ x ≤ 2147483647) (hy : -2147483648 ≤ y ∧ y ≤ 2147483647) : Mm l G yX12_looksLike cX12_looksLike 3 (some .boolean) 0 [.int (iI x), .int (iI y)] h0 ad ln v a 0 0 (fun r v2 a2 => ∃ f : Int, r = some (.int (iI f)) ∧ fr [] [] v a v2 a2 ∧ BX v2 a2 ∧ (f = 0 ∨ f = 1)) := by
  refine Mm.mk (by decide) (Nat.le_of_ble_eq_true rfl) ?_
  intro p e s m args below meth c A C
  have fp0 : fr [] [] v a v a := fr.refl
  refine m_iload_n (j := 1) C dX12_looksLike_0 rfl ?_
  refine m_iload_n (j := 2) C dX12_looksLike_1 rfl ?_
  obtain ⟨zz1, hzz1, ezz1⟩ := iI_of (iI x ^^^ iI y)
  refine m_ixor (w := iI zz1) C dX12_looksLike_2 ezz1 ?_
  refine m_sipush (z := 255) C dX12_looksLike_3 (by decide) ?_
  obtain ⟨zz2, hzz2, ezz2⟩ := iI_of (iI zz1 &&& iI 255)
  refine m_iand (w := iI zz2) C dX12_looksLike_6 ezz2 ?_
  refine m_aload_n (j := 0) C dX12_looksLike_7 rfl ?_
  have rv1 : (-2147483648) ≤ v 56 ∧ v 56 ≤ 2147483647 := hB.1 56
  refine m_get (k := 56) C dX12_looksLike_8 w6_115 (by decide) rfl ?_
  refine m_iconst C dX12_looksLike_11 ?_
  obtain ⟨zz3, hzz3, ezz3⟩ := iI_of (iI (v 56) ^^^ iI (-1))
  refine m_ixor (w := iI zz3) C dX12_looksLike_12 ezz3 ?_
  obtain ⟨zz4, hzz4, ezz4⟩ := iI_of (iI zz2 &&& iI zz3)
  refine m_iand (w := iI zz4) C dX12_looksLike_13 ezz4 ?_
  refine m_if_ne (tgt := 21) C ⟨by omega, by omega⟩ dX12_looksLike_14 (by decide) (fun c1 => ?_) (fun c1 => ?_)
  · refine m_iconst C dX12_looksLike_21 ?_
    exact m_zret C dX12_looksLike_22 rfl (Or.inl rfl) (Nat.le_of_ble_eq_true rfl) (Nat.le_of_ble_eq_true rfl) ⟨0, rfl, fp0, hB, (by omega)⟩
  · refine m_iconst C dX12_looksLike_17 ?_
    refine m_goto (tgt := 22) C dX12_looksLike_18 (by decide) ?_
    exact m_zret C dX12_looksLike_22 rfl (Or.inr rfl) (Nat.le_of_ble_eq_true rfl) (Nat.le_of_ble_eq_true rfl) ⟨1, rfl, fp0, hB, (by omega)⟩
def stt (x y z : Int32) : Int32 := 4 * x + 2 * y + (if z = 0 then 0 else 1)
theorem stt_c {x y z : Int} (hz : z = 0 ∨ z = 1) : stt (iI x) (iI y) (iI z) = iI (4 * x + 2 * y + z) := by
  unfold stt
  refine hv2 (show (4 : Int32) = iI 4 from rfl) (show (2 : Int32) = iI 2 from rfl) (fun e e2 => ?_)
  rcases hz with rfl | rfl
  · rw [if_pos (show iI 0 = 0 from rfl), e, e2, show (0 : Int32) = iI 0 from rfl, ← Int32.ofInt_mul, ← Int32.ofInt_mul, ← Int32.ofInt_add, ← Int32.ofInt_add]
  · rw [if_neg (by decide), e, e2, show (1 : Int32) = iI 1 from rfl, ← Int32.ofInt_mul, ← Int32.ofInt_mul, ← Int32.ofInt_add, ← Int32.ofInt_add]
set_option maxHeartbeats 4000000 in
set_option maxRecDepth 100000 in
theorem s_state {l : Launch} {G : GT} {L : List Nat} {E : Nat → va_E} (x y z : Int32) : Mq l G yX12_state cX12_state 3 (some .int) 0 [.int x, .int y, .int z] L E 0 0 (fun v L2 E2 => v = some (.int (stt x y z)) ∧ L2 = L ∧ E2 = E) := by
  refine Mq.mk (by decide) (Nat.le_of_ble_eq_true rfl) ?_
  intro p e s m args below meth c A C
  refine q_iconst (v := 4) C dX12_state_0 (by decide) ?_
  refine q_iload_n (j := 0) C dX12_state_1 rfl ?_
  refine q_imul (v := ((4 : Int32) * x)) C dX12_state_2 rfl ?_
  refine q_iconst (v := 2) C dX12_state_3 (by decide) ?_
  refine q_iload_n (j := 1) C dX12_state_4 rfl ?_
  refine q_imul (v := ((2 : Int32) * y)) C dX12_state_5 rfl ?_
  refine q_iadd (v := (((4 : Int32) * x) + ((2 : Int32) * y))) C dX12_state_6 rfl ?_
  refine q_iload_n (j := 2) C dX12_state_7 rfl ?_
  refine q_if_eq (tgt := 15) C dX12_state_8 (by decide) (fun c1 => ?_) (fun c1 => ?_)
  · refine q_iconst (v := 0) C dX12_state_15 (by decide) ?_
    refine q_iadd (v := ((((4 : Int32) * x) + ((2 : Int32) * y)) + (0 : Int32))) C dX12_state_16 rfl ?_
    exact q_iret C dX12_state_17 rfl (Nat.le_of_ble_eq_true rfl) (Nat.le_of_ble_eq_true rfl) ⟨(by refine congrArg (fun z => some (Value.int z)) ?_; unfold stt; first | rw [if_pos c1] | rw [if_neg c1]), rfl, rfl⟩
  · refine q_iconst (v := 1) C dX12_state_11 (by decide) ?_
    refine q_goto (tgt := 16) C dX12_state_12 (by decide) ?_
    refine q_iadd (v := ((((4 : Int32) * x) + ((2 : Int32) * y)) + (1 : Int32))) C dX12_state_16 rfl ?_
    exact q_iret C dX12_state_17 rfl (Nat.le_of_ble_eq_true rfl) (Nat.le_of_ble_eq_true rfl) ⟨(by refine congrArg (fun z => some (Value.int z)) ?_; unfold stt; first | rw [if_pos c1] | rw [if_neg c1]), rfl, rfl⟩
set_option maxHeartbeats 4000000 in
set_option maxRecDepth 100000 in
theorem M_may {l : Launch} {G : GT} {h0 : Nat} {ad ln : Nat → Nat} {v : Nat → Int} {a : Nat → Nat → Int}  {r1 x pt g : Int} (hB : BX v a) (hr : 0 ≤ r1 ∧ r1 < 12016) (ho : -4 ≤ a 44 r1.toNat ∧ a 44 r1.toNat < 6000) (ho2 : 1 ≤ a 46 r1.toNat ∧ a 46 r1.toNat ≤ 4) (ho3 : 0 ≤ a 45 r1.toNat ∧ (0 ≤ a 44 r1.toNat → a 45 r1.toNat + a 46 r1.toNat ≤ 24000) ∧ (a 44 r1.toNat < 0 → a 45 r1.toNat + a 46 r1.toNat ≤ 480)) (hx : 0 ≤ x ∧ x ≤ 100) (h50 : v 50 ≤ 100) (hp : pt = 0 ∨ pt = 1) (hg : g = 0 ∨ g = 1) : Mm l G yX12_may cX12_may 6 (some .boolean) 2 [.int (iI r1), .int (iI x), .int (iI pt), .int (iI g)] h0 ad ln v a 0 0 (fun r v2 a2 => ∃ f : Int, r = some (.int (iI f)) ∧ fr [] [] v a v2 a2 ∧ BX v2 a2 ∧ (f = 0 ∨ (f = 1 ∧ x + a 46 r1.toNat ≤ v 50))) := by
  refine Mm.mk (by decide) (Nat.le_of_ble_eq_true rfl) ?_
  intro p e s m args below meth c A C
  refine hv2 (show 0 ≤ v 50 ∧ v 50 ≤ 40200 from hB.1 50) (show fr [] [] v a v a from fr.refl) (fun r50 fp0 => ?_)
  refine m_iload_n (j := 2) C dX12_may_0 rfl ?_
  refine m_aload_n (j := 0) C dX12_may_1 rfl ?_
  refine m_geta (k := 46) C dX12_may_2 w6_105 (by decide) rfl ?_
  refine m_iload_n (j := 1) C dX12_may_5 rfl ?_
  refine m_ald (k := 46) C dX12_may_6 rfl rfl (by decide) (by omega) (by show _ < ((_ : Nat) : Int); simp only [mlen]; omega) (by decide) ?_
  have ra1 : 0 ≤ a 46 r1.toNat ∧ a 46 r1.toNat ≤ 4 := hB.2 46 (r1.toNat)
  refine m_iadd C dX12_may_7 ?_
  refine m_aload_n (j := 0) C dX12_may_8 rfl ?_
  have rv1 : 0 ≤ v 50 ∧ v 50 ≤ 40200 := hB.1 50
  refine m_get (k := 50) C dX12_may_9 w6_109 (by decide) rfl ?_
  refine m_icmp_gt (tgt := 28) C ⟨by omega, by omega⟩ (r32_c (lo := 0) (hi := 40200) rv1.1 rv1.2 (by decide) (by decide)) dX12_may_12 (by decide) (fun c1 => ?_) (fun c1 => ?_)
  · refine m_iconst C dX12_may_28 ?_
    exact m_zret C dX12_may_29 rfl (Or.inl rfl) (Nat.le_of_ble_eq_true rfl) (Nat.le_of_ble_eq_true rfl) ⟨0, rfl, fp0, hB, (by omega)⟩
  · refine m_iload (j := 4) C dX12_may_15 rfl ?_
    refine m_if_eq (tgt := 30) C ⟨by omega, by omega⟩ dX12_may_17 (by decide) (fun c2 => ?_) (fun c2 => ?_)
    · refine m_iconst C dX12_may_30 ?_
      refine m_istore (lv2 := [(5, .int (iI 0)), (0, .ref h0), (1, .int (iI r1)), (2, .int (iI x)), (3, .int (iI pt)), (4, .int (iI g))]) C dX12_may_31 (by decide) rfl ?_
      have Lp1 : ∀ (nn : Nat) (k : Int) (vb1 : Nat → Int) (ab1 : Nat → Nat → Int), 5 - k < (nn : Int) → BX vb1 ab1 → fr [] [] v a vb1 ab1 → (0 ≤ k ∧ k ≤ 4) → mw p l e (rmq 2 0 0) s m args below meth c G A 6 (MQ below (Qm G A (fun rq Lq Eq => ∃ (vq : Nat → Int) (aq : Nat → Nat → Int), mI G h0 ad ln vq aq Lq Eq ∧ (fun r v2 a2 => ∃ f : Int, r = some (.int (iI f)) ∧ fr [] [] v a v2 a2 ∧ BX v2 a2 ∧ (f = 0 ∨ (f = 1 ∧ x + a 46 r1.toNat ≤ v 50))) rq vq aq)) args s 0 0 A) h0 ad ln vb1 ab1 0 0 33 [(5, .int (iI k)), (0, .ref h0), (1, .int (iI r1)), (2, .int (iI x)), (3, .int (iI pt)), (4, .int (iI g))] [] := by
        intro nn
        induction nn with
        | zero =>
          intro k vb1 ab1 hm bxb1 fpb1 hk
          exact absurd hm (by omega)
        | succ nn ih1 =>
          intro k vb1 ab1 hm bxb1 fpb1 hk
          refine m_iload (j := 0) C dX12_may_33 rfl ?_
          refine m_aload_n (j := 1) C dX12_may_35 rfl ?_
          refine m_geta (k := 46) C dX12_may_36 w6_105 (by decide) rfl ?_
          refine m_iload_n (j := 2) C dX12_may_39 rfl ?_
          refine m_ald (k := 46) C dX12_may_40 rfl rfl (by decide) (by omega) (by show _ < ((_ : Nat) : Int); simp only [mlen]; omega) (by decide) ?_
          refine hv2 (show 0 ≤ ab1 46 r1.toNat ∧ ab1 46 r1.toNat ≤ 4 from bxb1.2 46 (r1.toNat)) (show ab1 46 (r1.toNat) = a 46 (r1.toNat) from congrFun (fpb1.2 46 rfl) (r1.toNat)) (fun ra2 ae1 => ?_)
          refine m_st (st2 := [.int (iI (a 46 r1.toNat)), .int (iI k)]) (congrArg (fun z => Value.int (iI z) :: [.int (iI k)]) (congrFun (fpb1.2 46 rfl) (r1.toNat))) ?_
          refine m_icmp_ge (tgt := 75) C (r32_c (lo := 0) (hi := 4) hk.1 hk.2 (by decide) (by decide)) (r32_c (lo := 0) (hi := 4) ra1.1 ra1.2 (by decide) (by decide)) dX12_may_41 (by decide) (fun c3 => ?_) (fun c3 => ?_)
          · refine m_aload_n (j := 1) C dX12_may_75 rfl ?_
            refine m_geta (k := 57) C dX12_may_76 w6_116 (by decide) rfl ?_
            refine m_iload_n (j := 3) C dX12_may_79 rfl ?_
            refine m_aload_n (j := 1) C dX12_may_80 rfl ?_
            refine m_geta (k := 46) C dX12_may_81 w6_105 (by decide) rfl ?_
            refine m_iload_n (j := 2) C dX12_may_84 rfl ?_
            refine m_ald (k := 46) C dX12_may_85 rfl rfl (by decide) (by omega) (by show _ < ((_ : Nat) : Int); simp only [mlen]; omega) (by decide) ?_
            refine m_st (st2 := [.int (iI (a 46 r1.toNat)), .int (iI x), .ref (ad 57)]) (congrArg (fun z => Value.int (iI z) :: [.int (iI x), .ref (ad 57)]) (congrFun (fpb1.2 46 rfl) (r1.toNat))) ?_
            refine m_iadd C dX12_may_86 ?_
            refine m_aload_n (j := 1) C dX12_may_87 rfl ?_
            refine m_iload_n (j := 2) C dX12_may_88 rfl ?_
            refine m_iload_n (j := 4) C dX12_may_89 rfl ?_
            refine m_call (mc2 := 0) (ms2 := 0) (As := [.int (iI r1), .int (iI pt)]) (rest := [.int (iI (x + (a 46 r1.toNat))), .ref (ad 57)]) C (M_next (r := r1) (q := pt) bxb1.rg (by omega) (by omega)) dX12_may_90 kV_X12_367 rfl ck_13 rfl (Nat.le_of_ble_eq_true rfl) ⟨Nat.le_of_ble_eq_true rfl, Nat.le_of_ble_eq_true rfl⟩ ⟨Nat.le_of_ble_eq_true rfl, Nat.le_of_ble_eq_true rfl⟩ (fun rh1 vh1 ah1 h1 => ?_)
            obtain ⟨f1, rfl, hf1, rfl, rfl⟩ := h1
            have gf1 : f1 = 0 ∨ f1 = 1 := hf1
            refine m_st (st2 := [.int (iI f1), .int (iI (x + (a 46 r1.toNat))), .ref (ad 57)]) rfl ?_
            refine m_aload_n (j := 1) C dX12_may_93 rfl ?_
            refine m_geta (k := 44) C dX12_may_94 w6_103 (by decide) rfl ?_
            refine m_iload_n (j := 2) C dX12_may_97 rfl ?_
            refine m_ald (k := 44) C dX12_may_98 rfl rfl (by decide) (by omega) (by show _ < ((_ : Nat) : Int); simp only [mlen]; omega) (by decide) ?_
            refine hv2 (show (-4) ≤ ab1 44 r1.toNat ∧ ab1 44 r1.toNat ≤ 5999 from bxb1.2 44 (r1.toNat)) (show ab1 44 (r1.toNat) = a 44 (r1.toNat) from congrFun (fpb1.2 44 rfl) (r1.toNat)) (fun ra3 ae2 => ?_)
            refine m_st (st2 := [.int (iI (a 44 r1.toNat)), .int (iI f1), .int (iI (x + (a 46 r1.toNat))), .ref (ad 57)]) (congrArg (fun z => Value.int (iI z) :: [.int (iI f1), .int (iI (x + (a 46 r1.toNat))), .ref (ad 57)]) (congrFun (fpb1.2 44 rfl) (r1.toNat))) ?_
            refine m_iconst C dX12_may_99 ?_
            refine m_icmp_ne (tgt := 107) C ⟨by omega, by omega⟩ ⟨by decide, by decide⟩ dX12_may_100 (by decide) (fun c4 => ?_) (fun c4 => ?_)
            · refine m_iconst C dX12_may_107 ?_
              refine m_callS (As := [.int (iI (x + (a 46 r1.toNat))), .int (iI f1), .int (iI 0)]) (rest := [.ref (ad 57)]) C (fun L E => s_state (iI (x + (a 46 r1.toNat))) (iI f1) (iI 0)) dX12_may_108 kS_X12_370 rfl rfl (Nat.le_of_ble_eq_true rfl) ⟨Nat.le_of_ble_eq_true rfl, Nat.le_of_ble_eq_true rfl⟩ ⟨Nat.le_of_ble_eq_true rfl, Nat.le_of_ble_eq_true rfl⟩ ?_
              obtain ⟨sx1, hsx1⟩ : ∃ w : Int, w = 4 * (x + (a 46 r1.toNat)) + 2 * f1 + 0 := ⟨_, rfl⟩
              · refine m_st (st2 := [.int (iI sx1), .ref (ad 57)]) (by rw [stt_c (by omega), ← hsx1]) ?_
                refine m_zald (k := 57) C dX12_may_111 rfl rfl (by decide) (by omega) (by show _ < ((_ : Nat) : Int); simp only [mlen]; omega) (by decide) ?_
                refine hv2 (show 0 ≤ ab1 57 sx1.toNat ∧ ab1 57 sx1.toNat ≤ 1 from bxb1.2 57 (sx1.toNat)) (show ab1 57 (sx1.toNat) = a 57 (sx1.toNat) from congrFun (fpb1.2 57 rfl) (sx1.toNat)) (fun ra4 ae3 => ?_)
                refine m_st (st2 := [.int (iI (a 57 sx1.toNat))]) (congrArg (fun z => Value.int (iI z) :: []) (congrFun (fpb1.2 57 rfl) (sx1.toNat))) ?_
                exact m_zret C dX12_may_112 rfl (by omega) (Nat.le_of_ble_eq_true rfl) (Nat.le_of_ble_eq_true rfl) ⟨(a 57 sx1.toNat), rfl, fpb1, bxb1, (by omega)⟩
            · refine m_iconst C dX12_may_103 ?_
              refine m_goto (tgt := 108) C dX12_may_104 (by decide) ?_
              refine m_callS (As := [.int (iI (x + (a 46 r1.toNat))), .int (iI f1), .int (iI 1)]) (rest := [.ref (ad 57)]) C (fun L E => s_state (iI (x + (a 46 r1.toNat))) (iI f1) (iI 1)) dX12_may_108 kS_X12_370 rfl rfl (Nat.le_of_ble_eq_true rfl) ⟨Nat.le_of_ble_eq_true rfl, Nat.le_of_ble_eq_true rfl⟩ ⟨Nat.le_of_ble_eq_true rfl, Nat.le_of_ble_eq_true rfl⟩ ?_
              obtain ⟨sx2, hsx2⟩ : ∃ w : Int, w = 4 * (x + (a 46 r1.toNat)) + 2 * f1 + 1 := ⟨_, rfl⟩
              · refine m_st (st2 := [.int (iI sx2), .ref (ad 57)]) (by rw [stt_c (by omega), ← hsx2]) ?_
                refine m_zald (k := 57) C dX12_may_111 rfl rfl (by decide) (by omega) (by show _ < ((_ : Nat) : Int); simp only [mlen]; omega) (by decide) ?_
                refine hv2 (show 0 ≤ ab1 57 sx2.toNat ∧ ab1 57 sx2.toNat ≤ 1 from bxb1.2 57 (sx2.toNat)) (show ab1 57 (sx2.toNat) = a 57 (sx2.toNat) from congrFun (fpb1.2 57 rfl) (sx2.toNat)) (fun ra5 ae4 => ?_)
                refine m_st (st2 := [.int (iI (a 57 sx2.toNat))]) (congrArg (fun z => Value.int (iI z) :: []) (congrFun (fpb1.2 57 rfl) (sx2.toNat))) ?_
                exact m_zret C dX12_may_112 rfl (by omega) (Nat.le_of_ble_eq_true rfl) (Nat.le_of_ble_eq_true rfl) ⟨(a 57 sx2.toNat), rfl, fpb1, bxb1, (by omega)⟩
          · refine m_aload_n (j := 1) C dX12_may_44 rfl ?_
            refine m_aload_n (j := 1) C dX12_may_45 rfl ?_
            refine m_iload_n (j := 2) C dX12_may_46 rfl ?_
            refine m_iload (j := 0) C dX12_may_47 rfl ?_
            refine hv4 (show (-4) ≤ ab1 44 r1.toNat ∧ ab1 44 r1.toNat ≤ 5999 from bxb1.2 44 (r1.toNat)) (show ab1 44 (r1.toNat) = a 44 (r1.toNat) from congrFun (fpb1.2 44 rfl) (r1.toNat)) (show 0 ≤ ab1 45 r1.toNat ∧ ab1 45 r1.toNat ≤ 23999 from bxb1.2 45 (r1.toNat)) (show ab1 45 (r1.toNat) = a 45 (r1.toNat) from congrFun (fpb1.2 45 rfl) (r1.toNat)) (fun ra6 ae5 ra7 ae6 => ?_)
            refine m_call (mc2 := 0) (ms2 := 0) (As := [.int (iI r1), .int (iI k)]) (rest := [.ref h0]) C (M_rowCell (r := r1) (k := k) bxb1.rg (by omega) (by omega)) dX12_may_49 kV_X12_324 rfl ck_13 rfl (Nat.le_of_ble_eq_true rfl) ⟨Nat.le_of_ble_eq_true rfl, Nat.le_of_ble_eq_true rfl⟩ ⟨Nat.le_of_ble_eq_true rfl, Nat.le_of_ble_eq_true rfl⟩ (fun rh4 vh4 ah4 h4 => ?_)
            obtain ⟨f2, rfl, hf2, rfl, rfl⟩ := h4
            have gf2 : -2147483648 ≤ f2 ∧ f2 < 2147483648 := hf2
            refine m_st (st2 := [.int (iI f2), .ref h0]) rfl ?_
            refine m_aload_n (j := 1) C dX12_may_52 rfl ?_
            refine m_geta (k := 48) C dX12_may_53 w6_107 (by decide) rfl ?_
            refine m_iload_n (j := 3) C dX12_may_56 rfl ?_
            refine m_iload (j := 0) C dX12_may_57 rfl ?_
            refine m_iadd C dX12_may_59 ?_
            refine m_ald (k := 48) C dX12_may_60 rfl rfl (by decide) (by omega) (by show _ < ((_ : Nat) : Int); simp only [mlen]; omega) (by decide) ?_
            refine hv2 (show (-2147483648) ≤ ab1 48 (x + k).toNat ∧ ab1 48 (x + k).toNat ≤ 2147483647 from bxb1.2 48 ((x + k).toNat)) (show ab1 48 ((x + k).toNat) = a 48 ((x + k).toNat) from congrFun (fpb1.2 48 rfl) ((x + k).toNat)) (fun ra8 ae7 => ?_)
            refine m_st (st2 := [.int (iI (a 48 (x + k).toNat)), .int (iI f2), .ref h0]) (congrArg (fun z => Value.int (iI z) :: [.int (iI f2), .ref h0]) (congrFun (fpb1.2 48 rfl) ((x + k).toNat))) ?_
            refine m_call (mc2 := 0) (ms2 := 0) (As := [.int (iI f2), .int (iI (a 48 (x + k).toNat))]) (rest := []) C (M_looksLike (x := f2) (y := a 48 (x + k).toNat) bxb1 (by show -2147483648 ≤ f2 ∧ f2 ≤ 2147483647; omega) (by show -2147483648 ≤ (a 48 (x + k).toNat) ∧ (a 48 (x + k).toNat) ≤ 2147483647; omega)) dX12_may_61 kV_X12_363 rfl ck_13 rfl (Nat.le_of_ble_eq_true rfl) ⟨Nat.le_of_ble_eq_true rfl, Nat.le_of_ble_eq_true rfl⟩ ⟨Nat.le_of_ble_eq_true rfl, Nat.le_of_ble_eq_true rfl⟩ (fun rh5 vh5 ah5 h5 => ?_)
            obtain ⟨f3, rfl, fn1, bn1, ex1⟩ := h5
            obtain ⟨rfl, rfl⟩ := fn1.eq
            have gf3 : f3 = 0 ∨ f3 = 1 := ex1
            refine m_st (st2 := [.int (iI f3)]) rfl ?_
            refine m_if_ne (tgt := 69) C (r32_01 gf3) dX12_may_64 (by decide) (fun c5 => ?_) (fun c5 => ?_)
            · replace gf3 := (gf3.resolve_left c5)
              refine m_iinc (z := k) (j := 0) (lv2 := [(5, .int (iI (k + 1))), (0, .ref h0), (1, .int (iI r1)), (2, .int (iI x)), (3, .int (iI pt)), (4, .int (iI g))]) C dX12_may_69 rfl (by decide) rfl ?_
              refine m_goto (tgt := 33) C dX12_may_72 (by decide) ?_
              refine m_lv (lv2 := [(5, .int (iI (k + 1))), (0, .ref h0), (1, .int (iI r1)), (2, .int (iI x)), (3, .int (iI pt)), (4, .int (iI g))]) [0, 1, 2, 3, 4, 5] rfl ?_
              exact ih1  (k + 1) _ _ (by omega) bxb1 fpb1 (by omega)
            · clear gf3
              refine m_iconst C dX12_may_67 ?_
              exact m_zret C dX12_may_68 rfl (Or.inl rfl) (Nat.le_of_ble_eq_true rfl) (Nat.le_of_ble_eq_true rfl) ⟨0, rfl, fpb1, bxb1, (by omega)⟩
      refine m_lv (lv2 := [(5, .int (iI 0)), (0, .ref h0), (1, .int (iI r1)), (2, .int (iI x)), (3, .int (iI pt)), (4, .int (iI g))]) [0, 1, 2, 3, 4, 5] rfl ?_
      exact Lp1 6 0 _ _ (by omega) hB fp0 (by omega)
    · refine m_aload_n (j := 0) C dX12_may_20 rfl ?_
      refine m_iload_n (j := 1) C dX12_may_21 rfl ?_
      have ra9 : (-4) ≤ a 44 r1.toNat ∧ a 44 r1.toNat ≤ 5999 := hB.2 44 (r1.toNat)
      refine m_call (mc2 := 0) (ms2 := 0) (As := [.int (iI r1)]) (rest := []) C (M_isSmallRule (r := r1) hB.rg (by omega) (by show a 44 r1.toNat < 6000; omega)) dX12_may_22 kV_X12_348 rfl ck_13 rfl (Nat.le_of_ble_eq_true rfl) ⟨Nat.le_of_ble_eq_true rfl, Nat.le_of_ble_eq_true rfl⟩ ⟨Nat.le_of_ble_eq_true rfl, Nat.le_of_ble_eq_true rfl⟩ (fun rh6 vh6 ah6 h6 => ?_)
      obtain ⟨f4, rfl, hf4, rfl, rfl⟩ := h6
      have gf4 : f4 = 0 ∨ f4 = 1 := hf4
      refine m_st (st2 := [.int (iI f4)]) rfl ?_
      refine m_if_ne (tgt := 30) C (r32_01 gf4) dX12_may_25 (by decide) (fun c6 => ?_) (fun c6 => ?_)
      · replace gf4 := (gf4.resolve_left c6)
        refine m_iconst C dX12_may_30 ?_
        refine m_istore (lv2 := [(5, .int (iI 0)), (0, .ref h0), (1, .int (iI r1)), (2, .int (iI x)), (3, .int (iI pt)), (4, .int (iI g))]) C dX12_may_31 (by decide) rfl ?_
        have Lp2 : ∀ (nn : Nat) (k : Int) (vb2 : Nat → Int) (ab2 : Nat → Nat → Int), 5 - k < (nn : Int) → BX vb2 ab2 → fr [] [] v a vb2 ab2 → (0 ≤ k ∧ k ≤ 4) → mw p l e (rmq 2 0 0) s m args below meth c G A 6 (MQ below (Qm G A (fun rq Lq Eq => ∃ (vq : Nat → Int) (aq : Nat → Nat → Int), mI G h0 ad ln vq aq Lq Eq ∧ (fun r v2 a2 => ∃ f : Int, r = some (.int (iI f)) ∧ fr [] [] v a v2 a2 ∧ BX v2 a2 ∧ (f = 0 ∨ (f = 1 ∧ x + a 46 r1.toNat ≤ v 50))) rq vq aq)) args s 0 0 A) h0 ad ln vb2 ab2 0 0 33 [(5, .int (iI k)), (0, .ref h0), (1, .int (iI r1)), (2, .int (iI x)), (3, .int (iI pt)), (4, .int (iI g))] [] := by
          intro nn
          induction nn with
          | zero =>
            intro k vb2 ab2 hm bxb2 fpb2 hk
            exact absurd hm (by omega)
          | succ nn ih2 =>
            intro k vb2 ab2 hm bxb2 fpb2 hk
            refine m_iload (j := 0) C dX12_may_33 rfl ?_
            refine m_aload_n (j := 1) C dX12_may_35 rfl ?_
            refine m_geta (k := 46) C dX12_may_36 w6_105 (by decide) rfl ?_
            refine m_iload_n (j := 2) C dX12_may_39 rfl ?_
            refine m_ald (k := 46) C dX12_may_40 rfl rfl (by decide) (by omega) (by show _ < ((_ : Nat) : Int); simp only [mlen]; omega) (by decide) ?_
            refine hv2 (show 0 ≤ ab2 46 r1.toNat ∧ ab2 46 r1.toNat ≤ 4 from bxb2.2 46 (r1.toNat)) (show ab2 46 (r1.toNat) = a 46 (r1.toNat) from congrFun (fpb2.2 46 rfl) (r1.toNat)) (fun ra10 ae8 => ?_)
            refine m_st (st2 := [.int (iI (a 46 r1.toNat)), .int (iI k)]) (congrArg (fun z => Value.int (iI z) :: [.int (iI k)]) (congrFun (fpb2.2 46 rfl) (r1.toNat))) ?_
            refine m_icmp_ge (tgt := 75) C (r32_c (lo := 0) (hi := 4) hk.1 hk.2 (by decide) (by decide)) (r32_c (lo := 0) (hi := 4) ra1.1 ra1.2 (by decide) (by decide)) dX12_may_41 (by decide) (fun c7 => ?_) (fun c7 => ?_)
            · refine m_aload_n (j := 1) C dX12_may_75 rfl ?_
              refine m_geta (k := 57) C dX12_may_76 w6_116 (by decide) rfl ?_
              refine m_iload_n (j := 3) C dX12_may_79 rfl ?_
              refine m_aload_n (j := 1) C dX12_may_80 rfl ?_
              refine m_geta (k := 46) C dX12_may_81 w6_105 (by decide) rfl ?_
              refine m_iload_n (j := 2) C dX12_may_84 rfl ?_
              refine m_ald (k := 46) C dX12_may_85 rfl rfl (by decide) (by omega) (by show _ < ((_ : Nat) : Int); simp only [mlen]; omega) (by decide) ?_
              refine m_st (st2 := [.int (iI (a 46 r1.toNat)), .int (iI x), .ref (ad 57)]) (congrArg (fun z => Value.int (iI z) :: [.int (iI x), .ref (ad 57)]) (congrFun (fpb2.2 46 rfl) (r1.toNat))) ?_
              refine m_iadd C dX12_may_86 ?_
              refine m_aload_n (j := 1) C dX12_may_87 rfl ?_
              refine m_iload_n (j := 2) C dX12_may_88 rfl ?_
              refine m_iload_n (j := 4) C dX12_may_89 rfl ?_
              refine m_call (mc2 := 0) (ms2 := 0) (As := [.int (iI r1), .int (iI pt)]) (rest := [.int (iI (x + (a 46 r1.toNat))), .ref (ad 57)]) C (M_next (r := r1) (q := pt) bxb2.rg (by omega) (by omega)) dX12_may_90 kV_X12_367 rfl ck_13 rfl (Nat.le_of_ble_eq_true rfl) ⟨Nat.le_of_ble_eq_true rfl, Nat.le_of_ble_eq_true rfl⟩ ⟨Nat.le_of_ble_eq_true rfl, Nat.le_of_ble_eq_true rfl⟩ (fun rh7 vh7 ah7 h7 => ?_)
              obtain ⟨f5, rfl, hf5, rfl, rfl⟩ := h7
              have gf5 : f5 = 0 ∨ f5 = 1 := hf5
              refine m_st (st2 := [.int (iI f5), .int (iI (x + (a 46 r1.toNat))), .ref (ad 57)]) rfl ?_
              refine m_aload_n (j := 1) C dX12_may_93 rfl ?_
              refine m_geta (k := 44) C dX12_may_94 w6_103 (by decide) rfl ?_
              refine m_iload_n (j := 2) C dX12_may_97 rfl ?_
              refine m_ald (k := 44) C dX12_may_98 rfl rfl (by decide) (by omega) (by show _ < ((_ : Nat) : Int); simp only [mlen]; omega) (by decide) ?_
              refine hv2 (show (-4) ≤ ab2 44 r1.toNat ∧ ab2 44 r1.toNat ≤ 5999 from bxb2.2 44 (r1.toNat)) (show ab2 44 (r1.toNat) = a 44 (r1.toNat) from congrFun (fpb2.2 44 rfl) (r1.toNat)) (fun ra11 ae9 => ?_)
              refine m_st (st2 := [.int (iI (a 44 r1.toNat)), .int (iI f5), .int (iI (x + (a 46 r1.toNat))), .ref (ad 57)]) (congrArg (fun z => Value.int (iI z) :: [.int (iI f5), .int (iI (x + (a 46 r1.toNat))), .ref (ad 57)]) (congrFun (fpb2.2 44 rfl) (r1.toNat))) ?_
              refine m_iconst C dX12_may_99 ?_
              refine m_icmp_ne (tgt := 107) C (r32_c (lo := (-4)) (hi := 5999) ra9.1 ra9.2 (by decide) (by decide)) ⟨by decide, by decide⟩ dX12_may_100 (by decide) (fun c8 => ?_) (fun c8 => ?_)
              · refine m_iconst C dX12_may_107 ?_
                refine m_callS (As := [.int (iI (x + (a 46 r1.toNat))), .int (iI f5), .int (iI 0)]) (rest := [.ref (ad 57)]) C (fun L E => s_state (iI (x + (a 46 r1.toNat))) (iI f5) (iI 0)) dX12_may_108 kS_X12_370 rfl rfl (Nat.le_of_ble_eq_true rfl) ⟨Nat.le_of_ble_eq_true rfl, Nat.le_of_ble_eq_true rfl⟩ ⟨Nat.le_of_ble_eq_true rfl, Nat.le_of_ble_eq_true rfl⟩ ?_
                obtain ⟨sx3, hsx3⟩ : ∃ w : Int, w = 4 * (x + (a 46 r1.toNat)) + 2 * f5 + 0 := ⟨_, rfl⟩
                · refine m_st (st2 := [.int (iI sx3), .ref (ad 57)]) (by rw [stt_c (by omega), ← hsx3]) ?_
                  refine m_zald (k := 57) C dX12_may_111 rfl rfl (by decide) (by omega) (by show _ < ((_ : Nat) : Int); simp only [mlen]; omega) (by decide) ?_
                  refine hv2 (show 0 ≤ ab2 57 sx3.toNat ∧ ab2 57 sx3.toNat ≤ 1 from bxb2.2 57 (sx3.toNat)) (show ab2 57 (sx3.toNat) = a 57 (sx3.toNat) from congrFun (fpb2.2 57 rfl) (sx3.toNat)) (fun ra12 ae10 => ?_)
                  refine m_st (st2 := [.int (iI (a 57 sx3.toNat))]) (congrArg (fun z => Value.int (iI z) :: []) (congrFun (fpb2.2 57 rfl) (sx3.toNat))) ?_
                  exact m_zret C dX12_may_112 rfl (by omega) (Nat.le_of_ble_eq_true rfl) (Nat.le_of_ble_eq_true rfl) ⟨(a 57 sx3.toNat), rfl, fpb2, bxb2, (by omega)⟩
              · refine m_iconst C dX12_may_103 ?_
                refine m_goto (tgt := 108) C dX12_may_104 (by decide) ?_
                refine m_callS (As := [.int (iI (x + (a 46 r1.toNat))), .int (iI f5), .int (iI 1)]) (rest := [.ref (ad 57)]) C (fun L E => s_state (iI (x + (a 46 r1.toNat))) (iI f5) (iI 1)) dX12_may_108 kS_X12_370 rfl rfl (Nat.le_of_ble_eq_true rfl) ⟨Nat.le_of_ble_eq_true rfl, Nat.le_of_ble_eq_true rfl⟩ ⟨Nat.le_of_ble_eq_true rfl, Nat.le_of_ble_eq_true rfl⟩ ?_
                obtain ⟨sx4, hsx4⟩ : ∃ w : Int, w = 4 * (x + (a 46 r1.toNat)) + 2 * f5 + 1 := ⟨_, rfl⟩
                · refine m_st (st2 := [.int (iI sx4), .ref (ad 57)]) (by rw [stt_c (by omega), ← hsx4]) ?_
                  refine m_zald (k := 57) C dX12_may_111 rfl rfl (by decide) (by omega) (by show _ < ((_ : Nat) : Int); simp only [mlen]; omega) (by decide) ?_
                  refine hv2 (show 0 ≤ ab2 57 sx4.toNat ∧ ab2 57 sx4.toNat ≤ 1 from bxb2.2 57 (sx4.toNat)) (show ab2 57 (sx4.toNat) = a 57 (sx4.toNat) from congrFun (fpb2.2 57 rfl) (sx4.toNat)) (fun ra13 ae11 => ?_)
                  refine m_st (st2 := [.int (iI (a 57 sx4.toNat))]) (congrArg (fun z => Value.int (iI z) :: []) (congrFun (fpb2.2 57 rfl) (sx4.toNat))) ?_
                  exact m_zret C dX12_may_112 rfl (by omega) (Nat.le_of_ble_eq_true rfl) (Nat.le_of_ble_eq_true rfl) ⟨(a 57 sx4.toNat), rfl, fpb2, bxb2, (by omega)⟩
            · refine m_aload_n (j := 1) C dX12_may_44 rfl ?_
              refine m_aload_n (j := 1) C dX12_may_45 rfl ?_
              refine m_iload_n (j := 2) C dX12_may_46 rfl ?_
              refine m_iload (j := 0) C dX12_may_47 rfl ?_
              refine hv4 (show (-4) ≤ ab2 44 r1.toNat ∧ ab2 44 r1.toNat ≤ 5999 from bxb2.2 44 (r1.toNat)) (show ab2 44 (r1.toNat) = a 44 (r1.toNat) from congrFun (fpb2.2 44 rfl) (r1.toNat)) (show 0 ≤ ab2 45 r1.toNat ∧ ab2 45 r1.toNat ≤ 23999 from bxb2.2 45 (r1.toNat)) (show ab2 45 (r1.toNat) = a 45 (r1.toNat) from congrFun (fpb2.2 45 rfl) (r1.toNat)) (fun ra14 ae12 ra15 ae13 => ?_)
              refine m_call (mc2 := 0) (ms2 := 0) (As := [.int (iI r1), .int (iI k)]) (rest := [.ref h0]) C (M_rowCell (r := r1) (k := k) bxb2.rg (by omega) (by omega)) dX12_may_49 kV_X12_324 rfl ck_13 rfl (Nat.le_of_ble_eq_true rfl) ⟨Nat.le_of_ble_eq_true rfl, Nat.le_of_ble_eq_true rfl⟩ ⟨Nat.le_of_ble_eq_true rfl, Nat.le_of_ble_eq_true rfl⟩ (fun rh10 vh10 ah10 h10 => ?_)
              obtain ⟨f6, rfl, hf6, rfl, rfl⟩ := h10
              have gf6 : -2147483648 ≤ f6 ∧ f6 < 2147483648 := hf6
              refine m_st (st2 := [.int (iI f6), .ref h0]) rfl ?_
              refine m_aload_n (j := 1) C dX12_may_52 rfl ?_
              refine m_geta (k := 48) C dX12_may_53 w6_107 (by decide) rfl ?_
              refine m_iload_n (j := 3) C dX12_may_56 rfl ?_
              refine m_iload (j := 0) C dX12_may_57 rfl ?_
              refine m_iadd C dX12_may_59 ?_
              refine m_ald (k := 48) C dX12_may_60 rfl rfl (by decide) (by omega) (by show _ < ((_ : Nat) : Int); simp only [mlen]; omega) (by decide) ?_
              refine hv2 (show (-2147483648) ≤ ab2 48 (x + k).toNat ∧ ab2 48 (x + k).toNat ≤ 2147483647 from bxb2.2 48 ((x + k).toNat)) (show ab2 48 ((x + k).toNat) = a 48 ((x + k).toNat) from congrFun (fpb2.2 48 rfl) ((x + k).toNat)) (fun ra16 ae14 => ?_)
              refine m_st (st2 := [.int (iI (a 48 (x + k).toNat)), .int (iI f6), .ref h0]) (congrArg (fun z => Value.int (iI z) :: [.int (iI f6), .ref h0]) (congrFun (fpb2.2 48 rfl) ((x + k).toNat))) ?_
              refine m_call (mc2 := 0) (ms2 := 0) (As := [.int (iI f6), .int (iI (a 48 (x + k).toNat))]) (rest := []) C (M_looksLike (x := f6) (y := a 48 (x + k).toNat) bxb2 (by show -2147483648 ≤ f6 ∧ f6 ≤ 2147483647; omega) (by show -2147483648 ≤ (a 48 (x + k).toNat) ∧ (a 48 (x + k).toNat) ≤ 2147483647; omega)) dX12_may_61 kV_X12_363 rfl ck_13 rfl (Nat.le_of_ble_eq_true rfl) ⟨Nat.le_of_ble_eq_true rfl, Nat.le_of_ble_eq_true rfl⟩ ⟨Nat.le_of_ble_eq_true rfl, Nat.le_of_ble_eq_true rfl⟩ (fun rh11 vh11 ah11 h11 => ?_)
              obtain ⟨f7, rfl, fn2, bn2, ex2⟩ := h11
              obtain ⟨rfl, rfl⟩ := fn2.eq
              have gf7 : f7 = 0 ∨ f7 = 1 := ex2
              refine m_st (st2 := [.int (iI f7)]) rfl ?_
              refine m_if_ne (tgt := 69) C (r32_01 gf7) dX12_may_64 (by decide) (fun c9 => ?_) (fun c9 => ?_)
              · replace gf7 := (gf7.resolve_left c9)
                refine m_iinc (z := k) (j := 0) (lv2 := [(5, .int (iI (k + 1))), (0, .ref h0), (1, .int (iI r1)), (2, .int (iI x)), (3, .int (iI pt)), (4, .int (iI g))]) C dX12_may_69 rfl (by decide) rfl ?_
                refine m_goto (tgt := 33) C dX12_may_72 (by decide) ?_
                refine m_lv (lv2 := [(5, .int (iI (k + 1))), (0, .ref h0), (1, .int (iI r1)), (2, .int (iI x)), (3, .int (iI pt)), (4, .int (iI g))]) [0, 1, 2, 3, 4, 5] rfl ?_
                exact ih2  (k + 1) _ _ (by omega) bxb2 fpb2 (by omega)
              · clear gf7
                refine m_iconst C dX12_may_67 ?_
                exact m_zret C dX12_may_68 rfl (Or.inl rfl) (Nat.le_of_ble_eq_true rfl) (Nat.le_of_ble_eq_true rfl) ⟨0, rfl, fpb2, bxb2, (by omega)⟩
        refine m_lv (lv2 := [(5, .int (iI 0)), (0, .ref h0), (1, .int (iI r1)), (2, .int (iI x)), (3, .int (iI pt)), (4, .int (iI g))]) [0, 1, 2, 3, 4, 5] rfl ?_
        exact Lp2 6 0 _ _ (by omega) hB fp0 (by omega)
      · clear gf4
        refine m_iconst C dX12_may_28 ?_
        exact m_zret C dX12_may_29 rfl (Or.inl rfl) (Nat.le_of_ble_eq_true rfl) (Nat.le_of_ble_eq_true rfl) ⟨0, rfl, fp0, hB, (by omega)⟩
set_option maxHeartbeats 4000000 in
set_option maxRecDepth 100000 in
theorem M_mayBlank {l : Launch} {G : GT} {h0 : Nat} {ad ln : Nat → Nat} {v : Nat → Int} {a : Nat → Nat → Int}  {x g : Int} (hB : BX v a) (hx : 0 ≤ x ∧ x < v 50) (h50 : v 50 ≤ 100) (hg : g = 0 ∨ g = 1) : Mm l G yX12_mayBlank cX12_mayBlank 3 (some .boolean) 1 [.int (iI x), .int (iI g)] h0 ad ln v a 0 0 (fun r v2 a2 => ∃ f : Int, r = some (.int (iI f)) ∧ fr [] [] v a v2 a2 ∧ BX v2 a2 ∧ (f = 0 ∨ f = 1)) := by
  refine Mm.mk (by decide) (Nat.le_of_ble_eq_true rfl) ?_
  intro p e s m args below meth c A C
  have fp0 : fr [] [] v a v a := fr.refl
  refine m_iload_n (j := 2) C dX12_mayBlank_0 rfl ?_
  refine m_if_ne (tgt := 38) C ⟨by omega, by omega⟩ dX12_mayBlank_1 (by decide) (fun c1 => ?_) (fun c1 => ?_)
  · refine m_iconst C dX12_mayBlank_38 ?_
    exact m_zret C dX12_mayBlank_39 rfl (Or.inl rfl) (Nat.le_of_ble_eq_true rfl) (Nat.le_of_ble_eq_true rfl) ⟨0, rfl, fp0, hB, (by omega)⟩
  · refine m_aload_n (j := 0) C dX12_mayBlank_4 rfl ?_
    refine m_iconst C dX12_mayBlank_5 ?_
    refine m_aload_n (j := 0) C dX12_mayBlank_6 rfl ?_
    refine m_geta (k := 48) C dX12_mayBlank_7 w6_107 (by decide) rfl ?_
    refine m_iload_n (j := 1) C dX12_mayBlank_10 rfl ?_
    refine m_ald (k := 48) C dX12_mayBlank_11 rfl rfl (by decide) (by omega) (by show _ < ((_ : Nat) : Int); simp only [mlen]; omega) (by decide) ?_
    have ra1 : (-2147483648) ≤ a 48 x.toNat ∧ a 48 x.toNat ≤ 2147483647 := hB.2 48 (x.toNat)
    refine m_call (mc2 := 0) (ms2 := 0) (As := [.int (iI 0), .int (iI (a 48 x.toNat))]) (rest := []) C (M_looksLike (x := 0) (y := a 48 x.toNat) hB (by show -2147483648 ≤ (0 : Int) ∧ (0 : Int) ≤ 2147483647; omega) (by show -2147483648 ≤ (a 48 x.toNat) ∧ (a 48 x.toNat) ≤ 2147483647; omega)) dX12_mayBlank_12 kV_X12_363 rfl ck_13 rfl (Nat.le_of_ble_eq_true rfl) ⟨Nat.le_of_ble_eq_true rfl, Nat.le_of_ble_eq_true rfl⟩ ⟨Nat.le_of_ble_eq_true rfl, Nat.le_of_ble_eq_true rfl⟩ (fun rh1 vh1 ah1 h1 => ?_)
    obtain ⟨f1, rfl, fn1, bn1, ex1⟩ := h1
    obtain ⟨rfl, rfl⟩ := fn1.eq
    have gf1 : f1 = 0 ∨ f1 = 1 := ex1
    refine m_st (st2 := [.int (iI f1)]) rfl ?_
    refine m_if_eq (tgt := 38) C (r32_01 gf1) dX12_mayBlank_15 (by decide) (fun c2 => ?_) (fun c2 => ?_)
    · clear gf1
      refine m_iconst C dX12_mayBlank_38 ?_
      exact m_zret C dX12_mayBlank_39 rfl (Or.inl rfl) (Nat.le_of_ble_eq_true rfl) (Nat.le_of_ble_eq_true rfl) ⟨0, rfl, fp0, hB, (by omega)⟩
    · replace gf1 := (gf1.resolve_left c2)
      refine m_aload_n (j := 0) C dX12_mayBlank_18 rfl ?_
      refine m_geta (k := 57) C dX12_mayBlank_19 w6_116 (by decide) rfl ?_
      refine m_iload_n (j := 1) C dX12_mayBlank_22 rfl ?_
      refine m_iconst C dX12_mayBlank_23 ?_
      refine m_iadd C dX12_mayBlank_24 ?_
      refine m_iconst C dX12_mayBlank_25 ?_
      refine m_iconst C dX12_mayBlank_26 ?_
      refine m_callS (As := [.int (iI (x + 1)), .int (iI 0), .int (iI 0)]) (rest := [.ref (ad 57)]) C (fun L E => s_state (iI (x + 1)) (iI 0) (iI 0)) dX12_mayBlank_27 kS_X12_370 rfl rfl (Nat.le_of_ble_eq_true rfl) ⟨Nat.le_of_ble_eq_true rfl, Nat.le_of_ble_eq_true rfl⟩ ⟨Nat.le_of_ble_eq_true rfl, Nat.le_of_ble_eq_true rfl⟩ ?_
      obtain ⟨sx1, hsx1⟩ : ∃ w : Int, w = 4 * (x + 1) + 2 * 0 + 0 := ⟨_, rfl⟩
      · refine m_st (st2 := [.int (iI sx1), .ref (ad 57)]) (by rw [stt_c (by omega), ← hsx1]) ?_
        refine m_zald (k := 57) C dX12_mayBlank_30 rfl rfl (by decide) (by omega) (by show _ < ((_ : Nat) : Int); simp only [mlen]; omega) (by decide) ?_
        have ra2 : 0 ≤ a 57 sx1.toNat ∧ a 57 sx1.toNat ≤ 1 := hB.2 57 (sx1.toNat)
        refine m_if_eq (tgt := 38) C (r32_c (lo := 0) (hi := 1) ra2.1 ra2.2 (by decide) (by decide)) dX12_mayBlank_31 (by decide) (fun c3 => ?_) (fun c3 => ?_)
        · refine m_iconst C dX12_mayBlank_38 ?_
          exact m_zret C dX12_mayBlank_39 rfl (Or.inl rfl) (Nat.le_of_ble_eq_true rfl) (Nat.le_of_ble_eq_true rfl) ⟨0, rfl, fp0, hB, (by omega)⟩
        · refine m_iconst C dX12_mayBlank_34 ?_
          refine m_goto (tgt := 39) C dX12_mayBlank_35 (by decide) ?_
          exact m_zret C dX12_mayBlank_39 rfl (Or.inr rfl) (Nat.le_of_ble_eq_true rfl) (Nat.le_of_ble_eq_true rfl) ⟨1, rfl, fp0, hB, (by omega)⟩
set_option maxHeartbeats 4000000 in
set_option maxRecDepth 100000 in
theorem M_findCan {l : Launch} {G : GT} {h0 : Nat} {ad ln : Nat → Nat} {v : Nat → Int} {a : Nat → Nat → Int}  (hB : BX v a) (hW : RWS a) (h50 : v 50 ≤ 100) : Mm l G yX12_findCan cX12_findCan 7 none 3 [] h0 ad ln v a 0 0 (fun r v2 a2 => r = none ∧ fr [] [57] v a v2 a2 ∧ BX v2 a2 ∧ (True)) := by
  refine Mm.mk (by decide) (Nat.le_of_ble_eq_true rfl) ?_
  intro p e s m args below meth c A C
  refine hv4 (show 0 ≤ v 50 ∧ v 50 ≤ 40200 from hB.1 50) ((hW 0 (Or.inl rfl)).1) ((hW 1 (Or.inr rfl)).1) (show fr [] [57] v a v a from fr.refl) (fun r50 r470 r471 fp0 => ?_)
  refine m_aload_n (j := 0) C dX12_findCan_0 rfl ?_
  have rv1 : 0 ≤ v 50 ∧ v 50 ≤ 40200 := hB.1 50
  refine m_get (k := 50) C dX12_findCan_1 w6_109 (by decide) rfl ?_
  refine m_istore_n (lv2 := [(1, .int (iI (v 50))), (0, .ref h0)]) C dX12_findCan_4 (by decide) rfl ?_
  have Lp1 : ∀ (nn : Nat) (x : Int) (vb1 : Nat → Int) (ab1 : Nat → Nat → Int), x + 1 < (nn : Int) → BX vb1 ab1 → fr [] [57] v a vb1 ab1 → (-1 ≤ x ∧ x ≤ v 50) → mw p l e (rmq 3 0 0) s m args below meth c G A 7 (MQ below (Qm G A (fun rq Lq Eq => ∃ (vq : Nat → Int) (aq : Nat → Nat → Int), mI G h0 ad ln vq aq Lq Eq ∧ (fun r v2 a2 => r = none ∧ fr [] [57] v a v2 a2 ∧ BX v2 a2 ∧ (True)) rq vq aq)) args s 0 0 A) h0 ad ln vb1 ab1 0 0 5 [(1, .int (iI x)), (0, .ref h0)] [] := by
    intro nn
    induction nn with
    | zero =>
      intro x vb1 ab1 hm bxb1 fpb1 hx
      exact absurd hm (by omega)
    | succ nn ih1 =>
      intro x vb1 ab1 hm bxb1 fpb1 hx
      refine m_iload_n (j := 0) C dX12_findCan_5 rfl ?_
      refine m_if_lt (tgt := 151) C ⟨by omega, by omega⟩ dX12_findCan_6 (by decide) (fun c1 => ?_) (fun c1 => ?_)
      · exact m_vret C dX12_findCan_151 rfl (Nat.le_of_ble_eq_true rfl) (Nat.le_of_ble_eq_true rfl) ⟨rfl, fpb1, bxb1, trivial⟩
      · refine m_iconst C dX12_findCan_9 ?_
        refine m_istore_n (lv2 := [(2, .int (iI 0)), (1, .int (iI x)), (0, .ref h0)]) C dX12_findCan_10 (by decide) rfl ?_
        have Lp2 : ∀ (nn : Nat) (y : Int) (vb2 : Nat → Int) (ab2 : Nat → Nat → Int), 5 - y < (nn : Int) → BX vb2 ab2 → fr [] [57] v a vb2 ab2 → (0 ≤ y ∧ y ≤ 4) → mw p l e (rmq 3 0 0) s m args below meth c G A 7 (MQ below (Qm G A (fun rq Lq Eq => ∃ (vq : Nat → Int) (aq : Nat → Nat → Int), mI G h0 ad ln vq aq Lq Eq ∧ (fun r v2 a2 => r = none ∧ fr [] [57] v a v2 a2 ∧ BX v2 a2 ∧ (True)) rq vq aq)) args s 0 0 A) h0 ad ln vb2 ab2 0 0 11 [(2, .int (iI y)), (1, .int (iI x)), (0, .ref h0)] [] := by
          intro nn
          induction nn with
          | zero =>
            intro y vb2 ab2 hm bxb2 fpb2 hy
            exact absurd hm (by omega)
          | succ nn ih2 =>
            intro y vb2 ab2 hm bxb2 fpb2 hy
            refine m_iload_n (j := 0) C dX12_findCan_11 rfl ?_
            refine m_iconst C dX12_findCan_12 ?_
            refine m_icmp_ge (tgt := 145) C (r32_c (lo := 0) (hi := 4) hy.1 hy.2 (by decide) (by decide)) ⟨by decide, by decide⟩ dX12_findCan_13 (by decide) (fun c2 => ?_) (fun c2 => ?_)
            · refine m_iinc (z := x) (j := 1) (lv2 := [(1, .int (iI (x + (-1)))), (2, .int (iI y)), (0, .ref h0)]) C dX12_findCan_145 rfl (by decide) rfl ?_
              refine m_goto (tgt := 5) C dX12_findCan_148 (by decide) ?_
              refine m_lv (lv2 := [(1, .int (iI (x + (-1)))), (0, .ref h0)]) [0, 2] rfl ?_
              exact ih1  (x + (-1)) _ _ (by omega) bxb2 fpb2 (by omega)
            · refine m_iload_n (j := 0) C dX12_findCan_16 rfl ?_
              refine m_iconst C dX12_findCan_17 ?_
              obtain ⟨dq1, hdq1⟩ : ∃ q : Int, q = y / 2 := ⟨_, rfl⟩
              refine m_idiv (w := iI dq1) C dX12_findCan_18 (iI_ne0 ⟨by omega, by omega⟩) (by rw [hdq1]; exact iI_div ⟨by omega, by omega⟩ ⟨by omega, by omega⟩) ?_
              refine m_istore_n (lv2 := [(3, .int (iI dq1)), (2, .int (iI y)), (1, .int (iI x)), (0, .ref h0)]) C dX12_findCan_19 (by decide) rfl ?_
              refine m_iload_n (j := 1) C dX12_findCan_20 rfl ?_
              refine m_iconst C dX12_findCan_21 ?_
              obtain ⟨dq2, hdq2⟩ : ∃ q : Int, q = y % 2 := ⟨_, rfl⟩
              refine m_irem (w := iI dq2) C dX12_findCan_22 (iI_ne0 ⟨by omega, by omega⟩) (by rw [hdq2]; exact iI_mod ⟨by omega, by omega⟩ ⟨by omega, by omega⟩) ?_
              refine m_iconst C dX12_findCan_23 ?_
              have J1 : ∀ (g : Int) (vb3 : Nat → Int) (ab3 : Nat → Nat → Int), BX vb3 ab3 → fr [] [57] v a vb3 ab3 → (g = 0 ∨ g = 1) → mw p l e (rmq 3 0 0) s m args below meth c G A 7 (MQ below (Qm G A (fun rq Lq Eq => ∃ (vq : Nat → Int) (aq : Nat → Nat → Int), mI G h0 ad ln vq aq Lq Eq ∧ (fun r v2 a2 => r = none ∧ fr [] [57] v a v2 a2 ∧ BX v2 a2 ∧ (True)) rq vq aq)) args s 0 0 A) h0 ad ln vb3 ab3 0 0 32 [(3, .int (iI dq1)), (2, .int (iI y)), (1, .int (iI x)), (0, .ref h0)] [.int (iI g)] := by
                intro g vb3 ab3 bxb3 fpb3 hg
                refine m_istore (lv2 := [(4, .int (iI g)), (3, .int (iI dq1)), (2, .int (iI y)), (1, .int (iI x)), (0, .ref h0)]) C dX12_findCan_32 (by decide) rfl ?_
                refine m_iload_n (j := 3) C dX12_findCan_34 rfl ?_
                refine m_aload_n (j := 4) C dX12_findCan_35 rfl ?_
                refine hv2 (show 0 ≤ vb3 50 ∧ vb3 50 ≤ 40200 from bxb3.1 50) (show vb3 50 = v 50 from fpb3.1 50 rfl) (fun rv2 ve1 => ?_)
                refine m_get (k := 50) C dX12_findCan_36 w6_109 (by decide) rfl ?_
                refine m_st (st2 := [.int (iI (v 50)), .int (iI x)]) (congrArg (fun z => Value.int (iI z) :: [.int (iI x)]) (fpb3.1 50 rfl)) ?_
                have J2 : ∀ (g1 : Int) (vb4 : Nat → Int) (ab4 : Nat → Nat → Int), BX vb4 ab4 → fr [] [57] v a vb4 ab4 → (g1 = 0 ∨ g1 = 1) → mw p l e (rmq 3 0 0) s m args below meth c G A 7 (MQ below (Qm G A (fun rq Lq Eq => ∃ (vq : Nat → Int) (aq : Nat → Nat → Int), mI G h0 ad ln vq aq Lq Eq ∧ (fun r v2 a2 => r = none ∧ fr [] [57] v a v2 a2 ∧ BX v2 a2 ∧ (True)) rq vq aq)) args s 0 0 A) h0 ad ln vb4 ab4 0 0 70 [(4, .int (iI g)), (3, .int (iI dq1)), (2, .int (iI y)), (1, .int (iI x)), (0, .ref h0)] [.int (iI g1)] := by
                  intro g1 vb4 ab4 bxb4 fpb4 hg1
                  refine m_istore (lv2 := [(5, .int (iI g1)), (4, .int (iI g)), (3, .int (iI dq1)), (2, .int (iI y)), (1, .int (iI x)), (0, .ref h0)]) C dX12_findCan_70 (by decide) rfl ?_
                  refine m_sipush (z := 6008) C dX12_findCan_72 (by decide) ?_
                  refine m_iload_n (j := 2) C dX12_findCan_75 rfl ?_
                  refine m_imul C dX12_findCan_76 ?_
                  refine m_istore (lv2 := [(6, .int (iI (6008 * dq1))), (5, .int (iI g1)), (4, .int (iI g)), (3, .int (iI dq1)), (2, .int (iI y)), (1, .int (iI x)), (0, .ref h0)]) C dX12_findCan_77 (by decide) rfl ?_
                  have Lp3 : ∀ (nn : Nat) (g2 r : Int) (vb5 : Nat → Int) (ab5 : Nat → Nat → Int), 6008 * dq1 + 6009 - r < (nn : Int) → BX vb5 ab5 → fr [] [57] v a vb5 ab5 → (g2 = 0 ∨ g2 = 1) → (6008 * dq1 ≤ r ∧ r ≤ 6008 * dq1 + 6008) → mw p l e (rmq 3 0 0) s m args below meth c G A 7 (MQ below (Qm G A (fun rq Lq Eq => ∃ (vq : Nat → Int) (aq : Nat → Nat → Int), mI G h0 ad ln vq aq Lq Eq ∧ (fun r v2 a2 => r = none ∧ fr [] [57] v a v2 a2 ∧ BX v2 a2 ∧ (True)) rq vq aq)) args s 0 0 A) h0 ad ln vb5 ab5 0 0 79 [(6, .int (iI r)), (5, .int (iI g2)), (4, .int (iI g)), (3, .int (iI dq1)), (2, .int (iI y)), (1, .int (iI x)), (0, .ref h0)] [] := by
                    intro nn
                    induction nn with
                    | zero =>
                      intro g2 r vb5 ab5 hm bxb5 fpb5 hg2 hr
                      exact absurd hm (by omega)
                    | succ nn ih3 =>
                      intro g2 r vb5 ab5 hm bxb5 fpb5 hg2 hr
                      refine m_iload (j := 0) C dX12_findCan_79 rfl ?_
                      refine m_sipush (z := 6008) C dX12_findCan_81 (by decide) ?_
                      refine m_iload_n (j := 3) C dX12_findCan_84 rfl ?_
                      refine m_imul C dX12_findCan_85 ?_
                      refine m_aload_n (j := 6) C dX12_findCan_86 rfl ?_
                      refine m_geta (k := 47) C dX12_findCan_87 w6_106 (by decide) rfl ?_
                      refine m_iload_n (j := 3) C dX12_findCan_90 rfl ?_
                      refine m_ald (k := 47) C dX12_findCan_91 rfl rfl (by decide) (by omega) (by show _ < ((_ : Nat) : Int); simp only [mlen]; omega) (by decide) ?_
                      refine hv2 (show 0 ≤ ab5 47 dq1.toNat ∧ ab5 47 dq1.toNat ≤ 6008 from bxb5.2 47 (dq1.toNat)) (show ab5 47 (dq1.toNat) = a 47 (dq1.toNat) from congrFun (fpb5.2 47 rfl) (dq1.toNat)) (fun ra1 ae1 => ?_)
                      refine m_st (st2 := [.int (iI (a 47 dq1.toNat)), .int (iI (6008 * dq1)), .int (iI r)]) (congrArg (fun z => Value.int (iI z) :: [.int (iI (6008 * dq1)), .int (iI r)]) (congrFun (fpb5.2 47 rfl) (dq1.toNat))) ?_
                      refine m_iadd C dX12_findCan_92 ?_
                      refine m_icmp_ge (tgt := 127) C ⟨by omega, by omega⟩ ⟨by omega, by omega⟩ dX12_findCan_93 (by decide) (fun c3 => ?_) (fun c3 => ?_)
                      · refine m_aload_n (j := 6) C dX12_findCan_127 rfl ?_
                        refine m_geta (k := 57) C dX12_findCan_128 w6_116 (by decide) rfl ?_
                        refine m_iconst C dX12_findCan_131 ?_
                        refine m_iload_n (j := 5) C dX12_findCan_132 rfl ?_
                        refine m_imul C dX12_findCan_133 ?_
                        refine m_iload_n (j := 4) C dX12_findCan_134 rfl ?_
                        refine m_iadd C dX12_findCan_135 ?_
                        refine m_iload (j := 1) C dX12_findCan_136 rfl ?_
                        refine m_zast (k := 57) (w := g2) C dX12_findCan_138 rfl rfl (by decide) (by omega) (by show _ < ((_ : Nat) : Int); simp only [mlen]; omega) (by decide) (by omega) ?_
                        refine hv2 (show BX vb5 (up2 ab5 57 ((4 * x) + y).toNat g2) from bxb5.set (k := 57) (i := ((4 * x) + y).toNat) (z := g2) (show 0 ≤ g2 ∧ g2 ≤ 1 by omega)) (fpb5.set (k := 57) (i := ((4 * x) + y).toNat) (z := g2) rfl) (fun bq1 fq1 => ?_)
                        refine m_iinc (z := y) (j := 4) (lv2 := [(2, .int (iI (y + 1))), (6, .int (iI r)), (5, .int (iI g2)), (4, .int (iI g)), (3, .int (iI dq1)), (1, .int (iI x)), (0, .ref h0)]) C dX12_findCan_139 rfl (by decide) rfl ?_
                        refine m_goto (tgt := 11) C dX12_findCan_142 (by decide) ?_
                        refine m_lv (lv2 := [(2, .int (iI (y + 1))), (1, .int (iI x)), (0, .ref h0)]) [0, 5, 6] rfl ?_
                        exact ih2  (y + 1) _ _ (by omega) bq1 fq1 (by omega)
                      · refine m_iload (j := 1) C dX12_findCan_96 rfl ?_
                        refine m_if_ne (tgt := 127) C (r32_01 hg2) dX12_findCan_98 (by decide) (fun c4 => ?_) (fun c4 => ?_)
                        · replace hg2 := (hg2.resolve_left c4)
                          refine m_aload_n (j := 6) C dX12_findCan_127 rfl ?_
                          refine m_geta (k := 57) C dX12_findCan_128 w6_116 (by decide) rfl ?_
                          refine m_iconst C dX12_findCan_131 ?_
                          refine m_iload_n (j := 5) C dX12_findCan_132 rfl ?_
                          refine m_imul C dX12_findCan_133 ?_
                          refine m_iload_n (j := 4) C dX12_findCan_134 rfl ?_
                          refine m_iadd C dX12_findCan_135 ?_
                          refine m_iload (j := 1) C dX12_findCan_136 rfl ?_
                          refine m_zast (k := 57) (w := g2) C dX12_findCan_138 rfl rfl (by decide) (by omega) (by show _ < ((_ : Nat) : Int); simp only [mlen]; omega) (by decide) (by omega) ?_
                          refine hv2 (show BX vb5 (up2 ab5 57 ((4 * x) + y).toNat g2) from bxb5.set (k := 57) (i := ((4 * x) + y).toNat) (z := g2) (show 0 ≤ g2 ∧ g2 ≤ 1 by omega)) (fpb5.set (k := 57) (i := ((4 * x) + y).toNat) (z := g2) rfl) (fun bq2 fq2 => ?_)
                          refine m_iinc (z := y) (j := 4) (lv2 := [(2, .int (iI (y + 1))), (6, .int (iI r)), (5, .int (iI g2)), (4, .int (iI g)), (3, .int (iI dq1)), (1, .int (iI x)), (0, .ref h0)]) C dX12_findCan_139 rfl (by decide) rfl ?_
                          refine m_goto (tgt := 11) C dX12_findCan_142 (by decide) ?_
                          refine m_lv (lv2 := [(2, .int (iI (y + 1))), (1, .int (iI x)), (0, .ref h0)]) [0, 5, 6] rfl ?_
                          exact ih2  (y + 1) _ _ (by omega) bq2 fq2 (by omega)
                        · clear hg2
                          refine m_iload_n (j := 5) C dX12_findCan_101 rfl ?_
                          refine m_aload_n (j := 6) C dX12_findCan_102 rfl ?_
                          refine hv2 (show 0 ≤ vb5 50 ∧ vb5 50 ≤ 40200 from bxb5.1 50) (show vb5 50 = v 50 from fpb5.1 50 rfl) (fun rv3 ve2 => ?_)
                          refine m_get (k := 50) C dX12_findCan_103 w6_109 (by decide) rfl ?_
                          refine m_st (st2 := [.int (iI (v 50)), .int (iI x)]) (congrArg (fun z => Value.int (iI z) :: [.int (iI x)]) (fpb5.1 50 rfl)) ?_
                          refine m_icmp_ge (tgt := 127) C ⟨by omega, by omega⟩ (r32_c (lo := 0) (hi := 40200) rv1.1 rv1.2 (by decide) (by decide)) dX12_findCan_106 (by decide) (fun c5 => ?_) (fun c5 => ?_)
                          · refine m_aload_n (j := 6) C dX12_findCan_127 rfl ?_
                            refine m_geta (k := 57) C dX12_findCan_128 w6_116 (by decide) rfl ?_
                            refine m_iconst C dX12_findCan_131 ?_
                            refine m_iload_n (j := 5) C dX12_findCan_132 rfl ?_
                            refine m_imul C dX12_findCan_133 ?_
                            refine m_iload_n (j := 4) C dX12_findCan_134 rfl ?_
                            refine m_iadd C dX12_findCan_135 ?_
                            refine m_iload (j := 1) C dX12_findCan_136 rfl ?_
                            refine m_zast (k := 57) (w := g2) C dX12_findCan_138 rfl rfl (by decide) (by omega) (by show _ < ((_ : Nat) : Int); simp only [mlen]; omega) (by decide) (by omega) ?_
                            refine hv2 (show BX vb5 (up2 ab5 57 ((4 * x) + y).toNat g2) from bxb5.set (k := 57) (i := ((4 * x) + y).toNat) (z := g2) (show 0 ≤ g2 ∧ g2 ≤ 1 by omega)) (fpb5.set (k := 57) (i := ((4 * x) + y).toNat) (z := g2) rfl) (fun bq3 fq3 => ?_)
                            refine m_iinc (z := y) (j := 4) (lv2 := [(2, .int (iI (y + 1))), (6, .int (iI r)), (5, .int (iI g2)), (4, .int (iI g)), (3, .int (iI dq1)), (1, .int (iI x)), (0, .ref h0)]) C dX12_findCan_139 rfl (by decide) rfl ?_
                            refine m_goto (tgt := 11) C dX12_findCan_142 (by decide) ?_
                            refine m_lv (lv2 := [(2, .int (iI (y + 1))), (1, .int (iI x)), (0, .ref h0)]) [0, 5, 6] rfl ?_
                            exact ih2  (y + 1) _ _ (by omega) bq3 fq3 (by omega)
                          · refine m_aload_n (j := 6) C dX12_findCan_109 rfl ?_
                            refine m_iload (j := 0) C dX12_findCan_110 rfl ?_
                            refine m_iload_n (j := 5) C dX12_findCan_112 rfl ?_
                            refine m_iload_n (j := 3) C dX12_findCan_113 rfl ?_
                            refine m_iload (j := 2) C dX12_findCan_114 rfl ?_
                            refine hv7 (show RowOK a r from (hW (dq1) (by omega)).2 r (by omega) (by omega)) (show (-4) ≤ ab5 44 r.toNat ∧ ab5 44 r.toNat ≤ 5999 from bxb5.2 44 (r.toNat)) (show ab5 44 (r.toNat) = a 44 (r.toNat) from congrFun (fpb5.2 44 rfl) (r.toNat)) (show 0 ≤ ab5 46 r.toNat ∧ ab5 46 r.toNat ≤ 4 from bxb5.2 46 (r.toNat)) (show ab5 46 (r.toNat) = a 46 (r.toNat) from congrFun (fpb5.2 46 rfl) (r.toNat)) (show 0 ≤ ab5 45 r.toNat ∧ ab5 45 r.toNat ≤ 23999 from bxb5.2 45 (r.toNat)) (show ab5 45 (r.toNat) = a 45 (r.toNat) from congrFun (fpb5.2 45 rfl) (r.toNat)) (fun ro ra2 ae2 ra3 ae3 ra4 ae4 => ?_)
                            refine hv4 (ro.1) (ro.2.1) (ro.2.2.1) (ro.2.2.2) (fun ro1 ro2 ro3 ro4 => ?_)
                            refine m_call (mc2 := 0) (ms2 := 0) (As := [.int (iI r), .int (iI x), .int (iI dq1), .int (iI g)]) (rest := []) C (M_may (r1 := r) (x := x) (pt := dq1) (g := g) bxb5 (by show 0 ≤ r ∧ r < 12016; omega) (by show -4 ≤ ab5 44 r.toNat ∧ ab5 44 r.toNat < 6000; omega) (by show 1 ≤ ab5 46 r.toNat ∧ ab5 46 r.toNat ≤ 4; omega) (by show 0 ≤ ab5 45 r.toNat ∧ (0 ≤ ab5 44 r.toNat → ab5 45 r.toNat + ab5 46 r.toNat ≤ 24000) ∧ (ab5 44 r.toNat < 0 → ab5 45 r.toNat + ab5 46 r.toNat ≤ 480); omega) (by show 0 ≤ x ∧ x ≤ 100; omega) (by show (vb5 50) ≤ 100; omega) (by show dq1 = 0 ∨ dq1 = 1; omega) (by show g = 0 ∨ g = 1; omega)) dX12_findCan_116 kV_X12_378 rfl ck_13 rfl (Nat.le_of_ble_eq_true rfl) ⟨Nat.le_of_ble_eq_true rfl, Nat.le_of_ble_eq_true rfl⟩ ⟨Nat.le_of_ble_eq_true rfl, Nat.le_of_ble_eq_true rfl⟩ (fun rh1 vh1 ah1 h1 => ?_)
                            obtain ⟨f1, rfl, fn1, bn1, ex1⟩ := h1
                            obtain ⟨rfl, rfl⟩ := fn1.eq
                            have gf1 : f1 = 0 ∨ (f1 = 1 ∧ x + ab5 46 r.toNat ≤ (vb5 50)) := ex1
                            refine m_st (st2 := [.int (iI f1)]) rfl ?_
                            refine m_istore (lv2 := [(5, .int (iI f1)), (6, .int (iI r)), (4, .int (iI g)), (3, .int (iI dq1)), (2, .int (iI y)), (1, .int (iI x)), (0, .ref h0)]) C dX12_findCan_119 (by decide) rfl ?_
                            refine m_iinc (z := r) (j := 1) (lv2 := [(6, .int (iI (r + 1))), (5, .int (iI f1)), (4, .int (iI g)), (3, .int (iI dq1)), (2, .int (iI y)), (1, .int (iI x)), (0, .ref h0)]) C dX12_findCan_121 rfl (by decide) rfl ?_
                            refine m_goto (tgt := 79) C dX12_findCan_124 (by decide) ?_
                            refine m_lv (lv2 := [(6, .int (iI (r + 1))), (5, .int (iI f1)), (4, .int (iI g)), (3, .int (iI dq1)), (2, .int (iI y)), (1, .int (iI x)), (0, .ref h0)]) [0, 1, 2, 3, 4, 5, 6] rfl ?_
                            exact ih3  f1 (r + 1) _ _ (by omega) bxb5 fpb5 (by omega) (by omega)
                  refine m_lv (lv2 := [(6, .int (iI (6008 * dq1))), (5, .int (iI g1)), (4, .int (iI g)), (3, .int (iI dq1)), (2, .int (iI y)), (1, .int (iI x)), (0, .ref h0)]) [0, 1, 2, 3, 4, 5, 6] rfl ?_
                  exact Lp3 6010 g1 (6008 * dq1) _ _ (by omega) bxb4 fpb4 (by omega) (by omega)
                refine m_icmp_ne (tgt := 47) C ⟨by omega, by omega⟩ (r32_c (lo := 0) (hi := 40200) rv1.1 rv1.2 (by decide) (by decide)) dX12_findCan_39 (by decide) (fun c6 => ?_) (fun c6 => ?_)
                · refine m_iload_n (j := 3) C dX12_findCan_47 rfl ?_
                  refine m_aload_n (j := 4) C dX12_findCan_48 rfl ?_
                  refine m_get (k := 50) C dX12_findCan_49 w6_109 (by decide) rfl ?_
                  refine m_st (st2 := [.int (iI (v 50)), .int (iI x)]) (congrArg (fun z => Value.int (iI z) :: [.int (iI x)]) (fpb3.1 50 rfl)) ?_
                  refine m_icmp_ge (tgt := 69) C ⟨by omega, by omega⟩ (r32_c (lo := 0) (hi := 40200) rv1.1 rv1.2 (by decide) (by decide)) dX12_findCan_52 (by decide) (fun c7 => ?_) (fun c7 => ?_)
                  · refine m_iconst C dX12_findCan_69 ?_
                    refine m_lv (lv2 := [(4, .int (iI g)), (3, .int (iI dq1)), (2, .int (iI y)), (1, .int (iI x)), (0, .ref h0)]) [0, 1, 2, 3, 4] rfl ?_
                    exact J2  0 _ _  bxb3 fpb3 (by omega)
                  · refine m_aload_n (j := 4) C dX12_findCan_55 rfl ?_
                    refine m_iload_n (j := 3) C dX12_findCan_56 rfl ?_
                    refine m_iload (j := 0) C dX12_findCan_57 rfl ?_
                    refine m_call (mc2 := 0) (ms2 := 0) (As := [.int (iI x), .int (iI g)]) (rest := []) C (M_mayBlank (x := x) (g := g) bxb3 (by show 0 ≤ x ∧ x < (vb3 50); omega) (by show (vb3 50) ≤ 100; omega) (by show g = 0 ∨ g = 1; omega)) dX12_findCan_59 kV_X12_374 rfl ck_13 rfl (Nat.le_of_ble_eq_true rfl) ⟨Nat.le_of_ble_eq_true rfl, Nat.le_of_ble_eq_true rfl⟩ ⟨Nat.le_of_ble_eq_true rfl, Nat.le_of_ble_eq_true rfl⟩ (fun rh2 vh2 ah2 h2 => ?_)
                    obtain ⟨f2, rfl, fn2, bn2, ex2⟩ := h2
                    obtain ⟨rfl, rfl⟩ := fn2.eq
                    have gf2 : f2 = 0 ∨ f2 = 1 := ex2
                    refine m_st (st2 := [.int (iI f2)]) rfl ?_
                    refine m_if_eq (tgt := 69) C (r32_01 gf2) dX12_findCan_62 (by decide) (fun c8 => ?_) (fun c8 => ?_)
                    · clear gf2
                      refine m_iconst C dX12_findCan_69 ?_
                      refine m_lv (lv2 := [(4, .int (iI g)), (3, .int (iI dq1)), (2, .int (iI y)), (1, .int (iI x)), (0, .ref h0)]) [0, 1, 2, 3, 4] rfl ?_
                      exact J2  0 _ _  bxb3 fpb3 (by omega)
                    · replace gf2 := (gf2.resolve_left c8)
                      refine m_iconst C dX12_findCan_65 ?_
                      refine m_goto (tgt := 70) C dX12_findCan_66 (by decide) ?_
                      refine m_lv (lv2 := [(4, .int (iI g)), (3, .int (iI dq1)), (2, .int (iI y)), (1, .int (iI x)), (0, .ref h0)]) [0, 1, 2, 3, 4] rfl ?_
                      exact J2  1 _ _  bxb3 fpb3 (by omega)
                · refine m_iload (j := 0) C dX12_findCan_42 rfl ?_
                  refine m_if_eq (tgt := 65) C (r32_01 hg) dX12_findCan_44 (by decide) (fun c9 => ?_) (fun c9 => ?_)
                  · clear hg
                    refine m_iconst C dX12_findCan_65 ?_
                    refine m_goto (tgt := 70) C dX12_findCan_66 (by decide) ?_
                    refine m_lv (lv2 := [(4, .int (iI g)), (3, .int (iI dq1)), (2, .int (iI y)), (1, .int (iI x)), (0, .ref h0)]) [0, 1, 2, 3, 4] rfl ?_
                    exact J2  1 _ _  bxb3 fpb3 (by omega)
                  · replace hg := (hg.resolve_left c9)
                    refine m_iload_n (j := 3) C dX12_findCan_47 rfl ?_
                    refine m_aload_n (j := 4) C dX12_findCan_48 rfl ?_
                    refine m_get (k := 50) C dX12_findCan_49 w6_109 (by decide) rfl ?_
                    refine m_st (st2 := [.int (iI (v 50)), .int (iI x)]) (congrArg (fun z => Value.int (iI z) :: [.int (iI x)]) (fpb3.1 50 rfl)) ?_
                    refine m_icmp_ge (tgt := 69) C ⟨by omega, by omega⟩ (r32_c (lo := 0) (hi := 40200) rv1.1 rv1.2 (by decide) (by decide)) dX12_findCan_52 (by decide) (fun _ => ?_) (fun z => absurd z (by omega))
                    refine m_iconst C dX12_findCan_69 ?_
                    refine m_lv (lv2 := [(4, .int (iI g)), (3, .int (iI dq1)), (2, .int (iI y)), (1, .int (iI x)), (0, .ref h0)]) [0, 1, 2, 3, 4] rfl ?_
                    exact J2  0 _ _  bxb3 fpb3 (by omega)
              refine m_icmp_ne (tgt := 31) C ⟨by omega, by omega⟩ ⟨by decide, by decide⟩ dX12_findCan_24 (by decide) (fun c10 => ?_) (fun c10 => ?_)
              · refine m_iconst C dX12_findCan_31 ?_
                refine m_lv (lv2 := [(3, .int (iI dq1)), (2, .int (iI y)), (1, .int (iI x)), (0, .ref h0)]) [0, 1, 2, 3] rfl ?_
                exact J1  0 _ _  bxb2 fpb2 (by omega)
              · refine m_iconst C dX12_findCan_27 ?_
                refine m_goto (tgt := 32) C dX12_findCan_28 (by decide) ?_
                refine m_lv (lv2 := [(3, .int (iI dq1)), (2, .int (iI y)), (1, .int (iI x)), (0, .ref h0)]) [0, 1, 2, 3] rfl ?_
                exact J1  1 _ _  bxb2 fpb2 (by omega)
        refine m_lv (lv2 := [(2, .int (iI 0)), (1, .int (iI x)), (0, .ref h0)]) [0, 1, 2] rfl ?_
        exact Lp2 6 0 _ _ (by omega) bxb1 fpb1 (by omega)
  refine m_lv (lv2 := [(1, .int (iI (v 50))), (0, .ref h0)]) [0, 1] rfl ?_
  exact Lp1 102 (v 50) _ _ (by omega) hB fp0 (by omega)
set_option maxHeartbeats 4000000 in
set_option maxRecDepth 100000 in
theorem B_keep {l : Launch} {G : GT} {h0 : Nat} {ad ln : Nat → Nat} {v : Nat → Int} {a : Nat → Nat → Int}  (hB : BX v a) (h60 : v 60 ≤ v 64) : Mm l G yX12_keep cX12_keep 2 none 0 [] h0 ad ln v a 0 0 (fun r v2 a2 => r = none ∧ fr [60, 61] [58, 59] v a v2 a2 ∧ BX v2 a2 ∧ (v2 60 ≤ v 64)) := by
  refine Mm.mk (by decide) (Nat.le_of_ble_eq_true rfl) ?_
  intro p e s m args below meth c A C
  refine hv3 (show 0 ≤ v 64 ∧ v 64 ≤ 50 from hB.1 64) (show 0 ≤ v 60 ∧ v 60 ≤ 50 from hB.1 60) (show fr [60, 61] [58, 59] v a v a from fr.refl) (fun r64 r60 fp0 => ?_)
  refine m_aload_n (j := 0) C dX12_keep_0 rfl ?_
  have rv1 : 0 ≤ v 60 ∧ v 60 ≤ 50 := hB.1 60
  refine m_get (k := 60) C dX12_keep_1 w6_119 (by decide) rfl ?_
  refine m_aload_n (j := 0) C dX12_keep_4 rfl ?_
  have rv2 : 0 ≤ v 64 ∧ v 64 ≤ 50 := hB.1 64
  refine m_get (k := 64) C dX12_keep_5 w6_123 (by decide) rfl ?_
  refine m_icmp_ne (tgt := 17) C (r32_c (lo := 0) (hi := 50) rv1.1 rv1.2 (by decide) (by decide)) (r32_c (lo := 0) (hi := 50) rv2.1 rv2.2 (by decide) (by decide)) dX12_keep_8 (by decide) (fun c1 => ?_) (fun c1 => ?_)
  · refine m_iconst C dX12_keep_17 ?_
    refine m_istore_n (lv2 := [(1, .int (iI 0)), (0, .ref h0)]) C dX12_keep_18 (by decide) rfl ?_
    have Lp1 : ∀ (nn : Nat) (k : Int) (vb1 : Nat → Int) (ab1 : Nat → Nat → Int), 809 - k < (nn : Int) → BX vb1 ab1 → fr [60, 61] [58, 59] v a vb1 ab1 → (0 ≤ k ∧ k ≤ 808) → (vb1 60 = v 60) → mw p l e (rmq 0 0 0) s m args below meth c G A 2 (MQ below (Qm G A (fun rq Lq Eq => ∃ (vq : Nat → Int) (aq : Nat → Nat → Int), mI G h0 ad ln vq aq Lq Eq ∧ (fun r v2 a2 => r = none ∧ fr [60, 61] [58, 59] v a v2 a2 ∧ BX v2 a2 ∧ (v2 60 ≤ v 64)) rq vq aq)) args s 0 0 A) h0 ad ln vb1 ab1 0 0 19 [(1, .int (iI k)), (0, .ref h0)] [] := by
      intro nn
      induction nn with
      | zero =>
        intro k vb1 ab1 hm bxb1 fpb1 hk h602
        exact absurd hm (by omega)
      | succ nn ih1 =>
        intro k vb1 ab1 hm bxb1 fpb1 hk h602
        refine m_iload_n (j := 0) C dX12_keep_19 rfl ?_
        refine m_aload_n (j := 1) C dX12_keep_20 rfl ?_
        refine hv2 (show 0 ≤ vb1 63 ∧ vb1 63 ≤ 808 from bxb1.1 63) (show vb1 63 = v 63 from fpb1.1 63 rfl) (fun rv3 ve1 => ?_)
        refine m_get (k := 63) C dX12_keep_21 w6_122 (by decide) rfl ?_
        refine m_st (st2 := [.int (iI (v 63)), .int (iI k)]) (congrArg (fun z => Value.int (iI z) :: [.int (iI k)]) (fpb1.1 63 rfl)) ?_
        refine m_icmp_ge (tgt := 54) C (r32_c (lo := 0) (hi := 808) hk.1 hk.2 (by decide) (by decide)) (r32_c (lo := 0) (hi := 808) (Int.le_trans rv3.1 (Int.le_of_eq ve1)) (Int.le_trans (Int.le_of_eq ve1.symm) rv3.2) (by decide) (by decide)) dX12_keep_24 (by decide) (fun c2 => ?_) (fun c2 => ?_)
        · refine m_aload_n (j := 1) C dX12_keep_54 rfl ?_
          refine m_geta (k := 59) C dX12_keep_55 w6_118 (by decide) rfl ?_
          refine m_aload_n (j := 1) C dX12_keep_58 rfl ?_
          have rv4 : 0 ≤ vb1 60 ∧ vb1 60 ≤ 50 := bxb1.1 60
          refine m_get (k := 60) C dX12_keep_59 w6_119 (by decide) rfl ?_
          refine m_aload_n (j := 1) C dX12_keep_62 rfl ?_
          refine m_get (k := 63) C dX12_keep_63 w6_122 (by decide) rfl ?_
          refine m_st (st2 := [.int (iI (v 63)), .int (iI (vb1 60)), .ref (ad 59)]) (congrArg (fun z => Value.int (iI z) :: [.int (iI (vb1 60)), .ref (ad 59)]) (fpb1.1 63 rfl)) ?_
          refine m_ast (k := 59) C dX12_keep_66 rfl rfl (by decide) (by omega) (by show _ < ((_ : Nat) : Int); simp only [mlen]; omega) (by decide) ?_
          refine hv2 (show BX vb1 (up2 ab1 59 (vb1 60).toNat (v 63)) from bxb1.set (k := 59) (i := (vb1 60).toNat) (z := v 63) (show 0 ≤ (v 63) ∧ (v 63) ≤ 808 by omega)) (fpb1.set (k := 59) (i := (vb1 60).toNat) (z := v 63) rfl) (fun bq1 fq1 => ?_)
          refine m_aload_n (j := 1) C dX12_keep_67 rfl ?_
          refine m_dup C dX12_keep_68 rfl ?_
          refine m_get (k := 60) C dX12_keep_69 w6_119 (by decide) rfl ?_
          refine m_iconst C dX12_keep_72 ?_
          refine m_iadd C dX12_keep_73 ?_
          refine m_put (k := 60) (z := (vb1 60) + 1) C dX12_keep_74 w6_119 (by decide) rfl rfl rfl ?_
          refine hv2 (show BX (va_up vb1 60 ((vb1 60) + 1)) (up2 ab1 59 (vb1 60).toNat (v 63)) from bq1.put (k := 60) (z := (vb1 60) + 1) (show 0 ≤ ((vb1 60) + 1) ∧ ((vb1 60) + 1) ≤ 50 by omega)) (fq1.put (k := 60) (z := (vb1 60) + 1) rfl) (fun bq2 fq2 => ?_)
          exact m_vret C dX12_keep_77 rfl (Nat.le_of_ble_eq_true rfl) (Nat.le_of_ble_eq_true rfl) ⟨rfl, fq2, bq2, (by show ((vb1 60) + 1) ≤ (v 64); omega)⟩
        · refine m_aload_n (j := 1) C dX12_keep_27 rfl ?_
          refine m_geta (k := 58) C dX12_keep_28 w6_117 (by decide) rfl ?_
          refine m_sipush (z := 808) C dX12_keep_31 (by decide) ?_
          refine m_aload_n (j := 1) C dX12_keep_34 rfl ?_
          have rv5 : 0 ≤ vb1 60 ∧ vb1 60 ≤ 50 := bxb1.1 60
          refine m_get (k := 60) C dX12_keep_35 w6_119 (by decide) rfl ?_
          refine m_imul C dX12_keep_38 ?_
          refine m_iload_n (j := 0) C dX12_keep_39 rfl ?_
          refine m_iadd C dX12_keep_40 ?_
          refine m_aload_n (j := 1) C dX12_keep_41 rfl ?_
          refine m_geta (k := 62) C dX12_keep_42 w6_121 (by decide) rfl ?_
          refine m_iload_n (j := 0) C dX12_keep_45 rfl ?_
          refine m_ald (k := 62) C dX12_keep_46 rfl rfl (by decide) hk.1 (Int.lt_of_le_of_lt hk.2 (by decide)) (by decide) ?_
          refine hv2 (show (-2147483648) ≤ ab1 62 k.toNat ∧ ab1 62 k.toNat ≤ 2147483647 from bxb1.2 62 (k.toNat)) (show ab1 62 (k.toNat) = a 62 (k.toNat) from congrFun (fpb1.2 62 rfl) (k.toNat)) (fun ra1 ae1 => ?_)
          refine m_st (st2 := [.int (iI (a 62 k.toNat)), .int (iI ((808 * (vb1 60)) + k)), .ref (ad 58)]) (congrArg (fun z => Value.int (iI z) :: [.int (iI ((808 * (vb1 60)) + k)), .ref (ad 58)]) (congrFun (fpb1.2 62 rfl) (k.toNat))) ?_
          refine m_ast (k := 58) C dX12_keep_47 rfl rfl (by decide) (by omega) (by show _ < ((_ : Nat) : Int); simp only [mlen]; omega) (by decide) ?_
          refine hv2 (show BX vb1 (up2 ab1 58 ((808 * (vb1 60)) + k).toNat (a 62 k.toNat)) from bxb1.set (k := 58) (i := ((808 * (vb1 60)) + k).toNat) (z := a 62 k.toNat) (show (-2147483648) ≤ (a 62 k.toNat) ∧ (a 62 k.toNat) ≤ 2147483647 by omega)) (fpb1.set (k := 58) (i := ((808 * (vb1 60)) + k).toNat) (z := a 62 k.toNat) rfl) (fun bq3 fq3 => ?_)
          refine m_iinc (z := k) (j := 0) (lv2 := [(1, .int (iI (k + 1))), (0, .ref h0)]) C dX12_keep_48 rfl (by decide) rfl ?_
          refine m_goto (tgt := 19) C dX12_keep_51 (by decide) ?_
          refine m_lv (lv2 := [(1, .int (iI (k + 1))), (0, .ref h0)]) [0, 1] rfl ?_
          exact ih1  (k + 1) _ _ (by omega) bq3 fq3 (by omega) (by show (vb1 60) = v 60; omega)
    refine m_lv (lv2 := [(1, .int (iI 0)), (0, .ref h0)]) [0, 1] rfl ?_
    exact Lp1 810 0 _ _ (by omega) hB fp0 (by omega) (by show (v 60) = v 60; omega)
  · refine m_aload_n (j := 0) C dX12_keep_11 rfl ?_
    refine m_iconst C dX12_keep_12 ?_
    refine m_put (k := 61) (z := 1) C dX12_keep_13 w6_120 (by decide) rfl rfl rfl ?_
    refine hv2 (show BX (va_up v 61 1) a from hB.put (k := 61) (z := 1) ⟨by decide, by decide⟩) (fp0.put (k := 61) (z := 1) rfl) (fun bq4 fq4 => ?_)
    exact m_vret C dX12_keep_16 rfl (Nat.le_of_ble_eq_true rfl) (Nat.le_of_ble_eq_true rfl) ⟨rfl, fq4, bq4, (by show (v 60) ≤ (v 64); omega)⟩
def GoC (l : Launch) (G : GT) (h0 : Nat) (ad ln : Nat → Nat) (d : Nat) (x : Int) : Prop := ∀ (v : Nat → Int) (a : Nat → Nat → Int) (pt g : Int), BX v a → RWS a → v 50 ≤ 100 → (0 ≤ x ∧ x ≤ v 50) → (pt = 0 ∨ pt = 1) → (g = 0 ∨ g = 1) → v 60 ≤ v 64 → v 63 ≤ 8 * x → Mm l G yX12_go cX12_go 8 none d [.int (iI x), .int (iI pt), .int (iI g)] h0 ad ln v a 0 0 (fun r v2 a2 => r = none ∧ fr [60, 61, 63] [58, 59, 62] v a v2 a2 ∧ BX v2 a2 ∧ (v2 60 ≤ v 64 ∧ v2 63 = v 63))
set_option maxHeartbeats 4000000 in
set_option maxRecDepth 100000 in
theorem M_go1 {l : Launch} {G : GT} {h0 : Nat} {ad ln : Nat → Nat} {v : Nat → Int} {a : Nat → Nat → Int} {d : Nat} {x pt g : Int} (hB : BX v a) (hW : RWS a) (h50 : v 50 ≤ 100) (hx : 0 ≤ x ∧ x ≤ v 50) (hp : pt = 0 ∨ pt = 1) (hg : g = 0 ∨ g = 1) (h60 : v 60 ≤ v 64) (h63 : v 63 ≤ 8 * x) (hd : 3 ≤ d) (hf : ∀ b : Int, x < b → GoC l G h0 ad ln d b) : Mm l G yX12_go cX12_go 8 none (d + 1) [.int (iI x), .int (iI pt), .int (iI g)] h0 ad ln v a 0 0 (fun r v2 a2 => r = none ∧ fr [60, 61, 63] [58, 59, 62] v a v2 a2 ∧ BX v2 a2 ∧ (v2 60 ≤ v 64 ∧ v2 63 = v 63)) := by
  refine Mm.mk (by decide) (Nat.le_of_ble_eq_true rfl) ?_
  intro p e s m args below meth c A C
  refine hv6 (show 0 ≤ v 64 ∧ v 64 ≤ 50 from hB.1 64) (show 0 ≤ v 60 ∧ v 60 ≤ 50 from hB.1 60) (show 0 ≤ v 63 ∧ v 63 ≤ 808 from hB.1 63) ((hW 0 (Or.inl rfl)).1) ((hW 1 (Or.inr rfl)).1) (show fr [60, 61, 63] [58, 59, 62] v a v a from fr.refl) (fun r64 r60 r63 r470 r471 fp0 => ?_)
  refine m_aload_n (j := 0) C dX12_go_0 rfl ?_
  have rv1 : 0 ≤ v 61 ∧ v 61 ≤ 1 := hB.1 61
  refine m_get (k := 61) C dX12_go_1 w6_120 (by decide) rfl ?_
  refine m_iconst C dX12_go_4 ?_
  refine m_icmp_ne (tgt := 9) C (r32_c (lo := 0) (hi := 1) rv1.1 rv1.2 (by decide) (by decide)) ⟨by decide, by decide⟩ dX12_go_5 (by decide) (fun c1 => ?_) (fun c1 => ?_)
  · refine m_iload_n (j := 1) C dX12_go_9 rfl ?_
    refine m_aload_n (j := 0) C dX12_go_10 rfl ?_
    have rv2 : 0 ≤ v 50 ∧ v 50 ≤ 40200 := hB.1 50
    refine m_get (k := 50) C dX12_go_11 w6_109 (by decide) rfl ?_
    refine m_icmp_ne (tgt := 22) C ⟨by omega, by omega⟩ (r32_c (lo := 0) (hi := 40200) rv2.1 rv2.2 (by decide) (by decide)) dX12_go_14 (by decide) (fun c2 => ?_) (fun c2 => ?_)
    · refine m_aload_n (j := 0) C dX12_go_22 rfl ?_
      have rv3 : 0 ≤ v 63 ∧ v 63 ≤ 808 := hB.1 63
      refine m_get (k := 63) C dX12_go_23 w6_122 (by decide) rfl ?_
      refine m_istore (lv2 := [(4, .int (iI (v 63))), (0, .ref h0), (1, .int (iI x)), (2, .int (iI pt)), (3, .int (iI g))]) C dX12_go_26 (by decide) rfl ?_
      refine m_aload_n (j := 1) C dX12_go_28 rfl ?_
      refine m_iload_n (j := 2) C dX12_go_29 rfl ?_
      refine m_iload_n (j := 4) C dX12_go_30 rfl ?_
      refine m_call (mc2 := 0) (ms2 := 0) (As := [.int (iI x), .int (iI g)]) (rest := []) C (M_mayBlank (x := x) (g := g) hB (by show 0 ≤ x ∧ x < (v 50); omega) (by show (v 50) ≤ 100; omega) (by show g = 0 ∨ g = 1; omega)) dX12_go_31 kV_X12_374 rfl ck_13 rfl (Nat.le_of_ble_eq_true rfl) ⟨by dsimp only [rmq]; omega, by dsimp only [rmq]; omega⟩ ⟨Nat.le_of_ble_eq_true rfl, Nat.le_of_ble_eq_true rfl⟩ (fun rh1 vh1 ah1 h1 => ?_)
      obtain ⟨f1, rfl, fn1, bn1, ex1⟩ := h1
      obtain ⟨rfl, rfl⟩ := fn1.eq
      have gf1 : f1 = 0 ∨ f1 = 1 := ex1
      refine m_st (st2 := [.int (iI f1)]) rfl ?_
      have J1 : ∀ (vb1 : Nat → Int) (ab1 : Nat → Nat → Int), BX vb1 ab1 → fr [60, 61, 63] [58, 59, 62] v a vb1 ab1 → (vb1 63 = v 63) → (vb1 60 ≤ v 64) → mw p l e (rmq (d + 1) 0 0) s m args below meth c G A 8 (MQ below (Qm G A (fun rq Lq Eq => ∃ (vq : Nat → Int) (aq : Nat → Nat → Int), mI G h0 ad ln vq aq Lq Eq ∧ (fun r v2 a2 => r = none ∧ fr [60, 61, 63] [58, 59, 62] v a v2 a2 ∧ BX v2 a2 ∧ (v2 60 ≤ v 64 ∧ v2 63 = v 63)) rq vq aq)) args s 0 0 A) h0 ad ln vb1 ab1 0 0 73 [(4, .int (iI (v 63))), (0, .ref h0), (1, .int (iI x)), (2, .int (iI pt)), (3, .int (iI g))] [] := by
        intro  vb1 ab1 bxb1 fpb1 h63a h60a
        refine m_sipush (z := 6008) C dX12_go_73 (by decide) ?_
        refine m_iload_n (j := 3) C dX12_go_76 rfl ?_
        refine m_imul C dX12_go_77 ?_
        refine m_istore (lv2 := [(5, .int (iI (6008 * pt))), (4, .int (iI (v 63))), (0, .ref h0), (1, .int (iI x)), (2, .int (iI pt)), (3, .int (iI g))]) C dX12_go_78 (by decide) rfl ?_
        have Lp1 : ∀ (nn : Nat) (r : Int) (vb2 : Nat → Int) (ab2 : Nat → Nat → Int), 6008 * pt + 6009 - r < (nn : Int) → BX vb2 ab2 → fr [60, 61, 63] [58, 59, 62] v a vb2 ab2 → (6008 * pt ≤ r ∧ r ≤ 6008 * pt + 6008) → (vb2 63 = v 63) → (vb2 60 ≤ v 64) → mw p l e (rmq (d + 1) 0 0) s m args below meth c G A 8 (MQ below (Qm G A (fun rq Lq Eq => ∃ (vq : Nat → Int) (aq : Nat → Nat → Int), mI G h0 ad ln vq aq Lq Eq ∧ (fun r v2 a2 => r = none ∧ fr [60, 61, 63] [58, 59, 62] v a v2 a2 ∧ BX v2 a2 ∧ (v2 60 ≤ v 64 ∧ v2 63 = v 63)) rq vq aq)) args s 0 0 A) h0 ad ln vb2 ab2 0 0 80 [(5, .int (iI r)), (4, .int (iI (v 63))), (0, .ref h0), (1, .int (iI x)), (2, .int (iI pt)), (3, .int (iI g))] [] := by
          intro nn
          induction nn with
          | zero =>
            intro r vb2 ab2 hm bxb2 fpb2 hr h63b h60b
            exact absurd hm (by omega)
          | succ nn ih1 =>
            intro r vb2 ab2 hm bxb2 fpb2 hr h63b h60b
            refine m_iload (j := 0) C dX12_go_80 rfl ?_
            refine m_sipush (z := 6008) C dX12_go_82 (by decide) ?_
            refine m_iload_n (j := 4) C dX12_go_85 rfl ?_
            refine m_imul C dX12_go_86 ?_
            refine m_aload_n (j := 2) C dX12_go_87 rfl ?_
            refine m_geta (k := 47) C dX12_go_88 w6_106 (by decide) rfl ?_
            refine m_iload_n (j := 4) C dX12_go_91 rfl ?_
            refine m_ald (k := 47) C dX12_go_92 rfl rfl (by decide) (by omega) (by show _ < ((_ : Nat) : Int); simp only [mlen]; omega) (by decide) ?_
            refine hv2 (show 0 ≤ ab2 47 pt.toNat ∧ ab2 47 pt.toNat ≤ 6008 from bxb2.2 47 (pt.toNat)) (show ab2 47 (pt.toNat) = a 47 (pt.toNat) from congrFun (fpb2.2 47 rfl) (pt.toNat)) (fun ra1 ae1 => ?_)
            refine m_st (st2 := [.int (iI (a 47 pt.toNat)), .int (iI (6008 * pt)), .int (iI r)]) (congrArg (fun z => Value.int (iI z) :: [.int (iI (6008 * pt)), .int (iI r)]) (congrFun (fpb2.2 47 rfl) (pt.toNat))) ?_
            refine m_iadd C dX12_go_93 ?_
            refine m_icmp_ge (tgt := 310) C ⟨by omega, by omega⟩ ⟨by omega, by omega⟩ dX12_go_94 (by decide) (fun c3 => ?_) (fun c3 => ?_)
            · have rv4 : 0 ≤ vb2 60 ∧ vb2 60 ≤ 50 := bxb2.1 60
              have rv5 : 0 ≤ vb2 63 ∧ vb2 63 ≤ 808 := bxb2.1 63
              exact m_vret C dX12_go_310 rfl (Nat.le_of_ble_eq_true rfl) (Nat.le_of_ble_eq_true rfl) ⟨rfl, fpb2, bxb2, (by show (vb2 60) ≤ (v 64) ∧ (vb2 63) = (v 63); omega)⟩
            · refine m_aload_n (j := 2) C dX12_go_97 rfl ?_
              have rv6 : 0 ≤ vb2 61 ∧ vb2 61 ≤ 1 := bxb2.1 61
              refine m_get (k := 61) C dX12_go_98 w6_120 (by decide) rfl ?_
              refine m_if_ne (tgt := 310) C (r32_c (lo := 0) (hi := 1) rv6.1 rv6.2 (by decide) (by decide)) dX12_go_101 (by decide) (fun c4 => ?_) (fun c4 => ?_)
              · have rv7 : 0 ≤ vb2 60 ∧ vb2 60 ≤ 50 := bxb2.1 60
                have rv8 : 0 ≤ vb2 63 ∧ vb2 63 ≤ 808 := bxb2.1 63
                exact m_vret C dX12_go_310 rfl (Nat.le_of_ble_eq_true rfl) (Nat.le_of_ble_eq_true rfl) ⟨rfl, fpb2, bxb2, (by show (vb2 60) ≤ (v 64) ∧ (vb2 63) = (v 63); omega)⟩
              · refine m_aload_n (j := 2) C dX12_go_104 rfl ?_
                refine m_iload (j := 0) C dX12_go_105 rfl ?_
                refine m_iload_n (j := 3) C dX12_go_107 rfl ?_
                refine m_iload_n (j := 4) C dX12_go_108 rfl ?_
                refine m_iload_n (j := 5) C dX12_go_109 rfl ?_
                refine hv9 (show RowOK a r from (hW (pt) (by omega)).2 r (by omega) (by omega)) (show (-4) ≤ ab2 44 r.toNat ∧ ab2 44 r.toNat ≤ 5999 from bxb2.2 44 (r.toNat)) (show ab2 44 (r.toNat) = a 44 (r.toNat) from congrFun (fpb2.2 44 rfl) (r.toNat)) (show 0 ≤ ab2 46 r.toNat ∧ ab2 46 r.toNat ≤ 4 from bxb2.2 46 (r.toNat)) (show ab2 46 (r.toNat) = a 46 (r.toNat) from congrFun (fpb2.2 46 rfl) (r.toNat)) (show 0 ≤ ab2 45 r.toNat ∧ ab2 45 r.toNat ≤ 23999 from bxb2.2 45 (r.toNat)) (show ab2 45 (r.toNat) = a 45 (r.toNat) from congrFun (fpb2.2 45 rfl) (r.toNat)) (show 0 ≤ vb2 50 ∧ vb2 50 ≤ 40200 from bxb2.1 50) (show vb2 50 = v 50 from fpb2.1 50 rfl) (fun ro ra2 ae2 ra3 ae3 ra4 ae4 rv9 ve1 => ?_)
                refine hv4 (ro.1) (ro.2.1) (ro.2.2.1) (ro.2.2.2) (fun ro1 ro2 ro3 ro4 => ?_)
                refine m_call (mc2 := 0) (ms2 := 0) (As := [.int (iI r), .int (iI x), .int (iI pt), .int (iI g)]) (rest := []) C (M_may (r1 := r) (x := x) (pt := pt) (g := g) bxb2 (by show 0 ≤ r ∧ r < 12016; omega) (by show -4 ≤ ab2 44 r.toNat ∧ ab2 44 r.toNat < 6000; omega) (by show 1 ≤ ab2 46 r.toNat ∧ ab2 46 r.toNat ≤ 4; omega) (by show 0 ≤ ab2 45 r.toNat ∧ (0 ≤ ab2 44 r.toNat → ab2 45 r.toNat + ab2 46 r.toNat ≤ 24000) ∧ (ab2 44 r.toNat < 0 → ab2 45 r.toNat + ab2 46 r.toNat ≤ 480); omega) (by show 0 ≤ x ∧ x ≤ 100; omega) (by show (vb2 50) ≤ 100; omega) (by show pt = 0 ∨ pt = 1; omega) (by show g = 0 ∨ g = 1; omega)) dX12_go_110 kV_X12_378 rfl ck_13 rfl (Nat.le_of_ble_eq_true rfl) ⟨by dsimp only [rmq]; omega, by dsimp only [rmq]; omega⟩ ⟨Nat.le_of_ble_eq_true rfl, Nat.le_of_ble_eq_true rfl⟩ (fun rh2 vh2 ah2 h2 => ?_)
                obtain ⟨f2, rfl, fn2, bn2, ex2⟩ := h2
                obtain ⟨rfl, rfl⟩ := fn2.eq
                have gf2 : f2 = 0 ∨ (f2 = 1 ∧ x + ab2 46 r.toNat ≤ (vb2 50)) := ex2
                refine m_st (st2 := [.int (iI f2)]) rfl ?_
                refine m_if_ne (tgt := 119) C (r32_0p gf2) dX12_go_113 (by decide) (fun c5 => ?_) (fun c5 => ?_)
                · replace gf2 := (gf2.resolve_left c5)
                  refine m_aload_n (j := 2) C dX12_go_119 rfl ?_
                  refine m_geta (k := 44) C dX12_go_120 w6_103 (by decide) rfl ?_
                  refine m_iload (j := 0) C dX12_go_123 rfl ?_
                  refine m_ald (k := 44) C dX12_go_125 rfl rfl (by decide) (by omega) (by show _ < ((_ : Nat) : Int); simp only [mlen]; omega) (by decide) ?_
                  refine m_st (st2 := [.int (iI (a 44 r.toNat))]) (congrArg (fun z => Value.int (iI z) :: []) (congrFun (fpb2.2 44 rfl) (r.toNat))) ?_
                  refine m_istore (lv2 := [(6, .int (iI (a 44 r.toNat))), (5, .int (iI r)), (4, .int (iI (v 63))), (0, .ref h0), (1, .int (iI x)), (2, .int (iI pt)), (3, .int (iI g))]) C dX12_go_126 (by decide) rfl ?_
                  refine m_iconst C dX12_go_128 ?_
                  refine m_istore (lv2 := [(7, .int (iI 0)), (6, .int (iI (a 44 r.toNat))), (5, .int (iI r)), (4, .int (iI (v 63))), (0, .ref h0), (1, .int (iI x)), (2, .int (iI pt)), (3, .int (iI g))]) C dX12_go_129 (by decide) rfl ?_
                  have Lp2 : ∀ (nn : Nat) (k : Int) (vb3 : Nat → Int) (ab3 : Nat → Nat → Int), 9 - k < (nn : Int) → BX vb3 ab3 → fr [60, 61, 63] [58, 59, 62] v a vb3 ab3 → (0 ≤ k ∧ k ≤ 8) → (vb3 63 = v 63) → (vb3 60 ≤ v 64) → mw p l e (rmq (d + 1) 0 0) s m args below meth c G A 8 (MQ below (Qm G A (fun rq Lq Eq => ∃ (vq : Nat → Int) (aq : Nat → Nat → Int), mI G h0 ad ln vq aq Lq Eq ∧ (fun r v2 a2 => r = none ∧ fr [60, 61, 63] [58, 59, 62] v a v2 a2 ∧ BX v2 a2 ∧ (v2 60 ≤ v 64 ∧ v2 63 = v 63)) rq vq aq)) args s 0 0 A) h0 ad ln vb3 ab3 0 0 131 [(7, .int (iI k)), (6, .int (iI (a 44 r.toNat))), (5, .int (iI r)), (4, .int (iI (v 63))), (0, .ref h0), (1, .int (iI x)), (2, .int (iI pt)), (3, .int (iI g))] [] := by
                    intro nn
                    induction nn with
                    | zero =>
                      intro k vb3 ab3 hm bxb3 fpb3 hk h63c h60c
                      exact absurd hm (by omega)
                    | succ nn ih2 =>
                      intro k vb3 ab3 hm bxb3 fpb3 hk h63c h60c
                      have J2 : ∀ (vb4 : Nat → Int) (ab4 : Nat → Nat → Int), BX vb4 ab4 → fr [60, 61, 63] [58, 59, 62] v a vb4 ab4 → (vb4 63 = v 63) → (vb4 60 ≤ v 64) → mw p l e (rmq (d + 1) 0 0) s m args below meth c G A 8 (MQ below (Qm G A (fun rq Lq Eq => ∃ (vq : Nat → Int) (aq : Nat → Nat → Int), mI G h0 ad ln vq aq Lq Eq ∧ (fun r v2 a2 => r = none ∧ fr [60, 61, 63] [58, 59, 62] v a v2 a2 ∧ BX v2 a2 ∧ (v2 60 ≤ v 64 ∧ v2 63 = v 63)) rq vq aq)) args s 0 0 A) h0 ad ln vb4 ab4 0 0 195 [(6, .int (iI (a 44 r.toNat))), (5, .int (iI r)), (4, .int (iI (v 63))), (0, .ref h0), (1, .int (iI x)), (2, .int (iI pt)), (3, .int (iI g))] [] := by
                        intro  vb4 ab4 bxb4 fpb4 h63d h60d
                        have J3 : ∀ (vb5 : Nat → Int) (ab5 : Nat → Nat → Int), BX vb5 ab5 → fr [60, 61, 63] [58, 59, 62] v a vb5 ab5 → (0 ≤ vb5 63 ∧ vb5 63 ≤ 8 * x + 8 ∧ (a 44 r.toNat < 0 → vb5 63 ≤ 8 * x)) → (vb5 60 ≤ v 64) → mw p l e (rmq (d + 1) 0 0) s m args below meth c G A 8 (MQ below (Qm G A (fun rq Lq Eq => ∃ (vq : Nat → Int) (aq : Nat → Nat → Int), mI G h0 ad ln vq aq Lq Eq ∧ (fun r v2 a2 => r = none ∧ fr [60, 61, 63] [58, 59, 62] v a v2 a2 ∧ BX v2 a2 ∧ (v2 60 ≤ v 64 ∧ v2 63 = v 63)) rq vq aq)) args s 0 0 A) h0 ad ln vb5 ab5 0 0 220 [(6, .int (iI (a 44 r.toNat))), (5, .int (iI r)), (4, .int (iI (v 63))), (0, .ref h0), (1, .int (iI x)), (2, .int (iI pt)), (3, .int (iI g))] [] := by
                          intro  vb5 ab5 bxb5 fpb5 h63e h60e
                          have J4 : ∀ (vb6 : Nat → Int) (ab6 : Nat → Nat → Int), BX vb6 ab6 → fr [60, 61, 63] [58, 59, 62] v a vb6 ab6 → (0 ≤ vb6 63 ∧ vb6 63 ≤ 8 * x + 8) → (vb6 60 ≤ v 64) → mw p l e (rmq (d + 1) 0 0) s m args below meth c G A 8 (MQ below (Qm G A (fun rq Lq Eq => ∃ (vq : Nat → Int) (aq : Nat → Nat → Int), mI G h0 ad ln vq aq Lq Eq ∧ (fun r v2 a2 => r = none ∧ fr [60, 61, 63] [58, 59, 62] v a v2 a2 ∧ BX v2 a2 ∧ (v2 60 ≤ v 64 ∧ v2 63 = v 63)) rq vq aq)) args s 0 0 A) h0 ad ln vb6 ab6 0 0 267 [(6, .int (iI (a 44 r.toNat))), (5, .int (iI r)), (4, .int (iI (v 63))), (0, .ref h0), (1, .int (iI x)), (2, .int (iI pt)), (3, .int (iI g))] [] := by
                            intro  vb6 ab6 bxb6 fpb6 h63f h60f
                            refine m_aload_n (j := 3) C dX12_go_267 rfl ?_
                            refine m_iload_n (j := 4) C dX12_go_268 rfl ?_
                            refine m_aload_n (j := 3) C dX12_go_269 rfl ?_
                            refine m_geta (k := 46) C dX12_go_270 w6_105 (by decide) rfl ?_
                            refine m_iload (j := 1) C dX12_go_273 rfl ?_
                            refine m_ald (k := 46) C dX12_go_275 rfl rfl (by decide) (by omega) (by show _ < ((_ : Nat) : Int); simp only [mlen]; omega) (by decide) ?_
                            refine hv2 (show 0 ≤ ab6 46 r.toNat ∧ ab6 46 r.toNat ≤ 4 from bxb6.2 46 (r.toNat)) (show ab6 46 (r.toNat) = a 46 (r.toNat) from congrFun (fpb6.2 46 rfl) (r.toNat)) (fun ra5 ae5 => ?_)
                            refine m_st (st2 := [.int (iI (a 46 r.toNat)), .int (iI x), .ref h0]) (congrArg (fun z => Value.int (iI z) :: [.int (iI x), .ref h0]) (congrFun (fpb6.2 46 rfl) (r.toNat))) ?_
                            refine m_iadd C dX12_go_276 ?_
                            refine m_aload_n (j := 3) C dX12_go_277 rfl ?_
                            refine m_iload (j := 1) C dX12_go_278 rfl ?_
                            refine m_iload_n (j := 5) C dX12_go_280 rfl ?_
                            refine m_call (mc2 := 0) (ms2 := 0) (As := [.int (iI r), .int (iI pt)]) (rest := [.int (iI (x + (a 46 r.toNat))), .ref h0]) C (M_next (r := r) (q := pt) bxb6.rg (by omega) (by omega)) dX12_go_281 kV_X12_367 rfl ck_13 rfl (Nat.le_of_ble_eq_true rfl) ⟨by dsimp only [rmq]; omega, by dsimp only [rmq]; omega⟩ ⟨Nat.le_of_ble_eq_true rfl, Nat.le_of_ble_eq_true rfl⟩ (fun rh3 vh3 ah3 h3 => ?_)
                            obtain ⟨f3, rfl, hf3, rfl, rfl⟩ := h3
                            have gf3 : f3 = 0 ∨ f3 = 1 := hf3
                            refine m_st (st2 := [.int (iI f3), .int (iI (x + (a 46 r.toNat))), .ref h0]) rfl ?_
                            refine m_iload (j := 0) C dX12_go_284 rfl ?_
                            refine m_iconst C dX12_go_286 ?_
                            refine m_icmp_ne (tgt := 294) C ⟨by omega, by omega⟩ ⟨by decide, by decide⟩ dX12_go_287 (by decide) (fun c6 => ?_) (fun c6 => ?_)
                            · refine m_iconst C dX12_go_294 ?_
                              refine hv6 (show 0 ≤ vb6 50 ∧ vb6 50 ≤ 40200 from bxb6.1 50) (show vb6 50 = v 50 from fpb6.1 50 rfl) (show 0 ≤ vb6 60 ∧ vb6 60 ≤ 50 from bxb6.1 60) (show 0 ≤ vb6 63 ∧ vb6 63 ≤ 808 from bxb6.1 63) (show 0 ≤ vb6 64 ∧ vb6 64 ≤ 50 from bxb6.1 64) (show vb6 64 = v 64 from fpb6.1 64 rfl) (fun rv10 ve2 rv11 rv12 rv13 ve3 => ?_)
                              refine m_call (mc2 := 0) (ms2 := 0) (As := [.int (iI (x + (a 46 r.toNat))), .int (iI f3), .int (iI 0)]) (rest := []) C (hf (x + (a 46 r.toNat)) (by omega) _ _ (f3) (0) bxb6 (RWS.fr hW fpb6 rfl) (by show (vb6 50) ≤ 100; omega) (by show 0 ≤ (x + (a 46 r.toNat)) ∧ (x + (a 46 r.toNat)) ≤ (vb6 50); omega) (by omega) (by omega) (by show (vb6 60) ≤ (vb6 64); omega) (by show (vb6 63) ≤ 8 * (x + (a 46 r.toNat)); omega)) dX12_go_295 kV_X12_391 rfl ck_13 rfl (Nat.le_of_ble_eq_true rfl) ⟨by dsimp only [rmq]; omega, by dsimp only [rmq]; omega⟩ ⟨Nat.le_of_ble_eq_true rfl, Nat.le_of_ble_eq_true rfl⟩ (fun rh4 vh4 ah4 h4 => ?_)
                              obtain ⟨rfl, fn3, bn3, ex3⟩ := h4
                              refine hv4 (fpb6.call fn3 rfl rfl) (show 0 ≤ vh4 60 ∧ vh4 60 ≤ 50 from bn3.1 60) (show 0 ≤ vh4 63 ∧ vh4 63 ≤ 808 from bn3.1 63) (show (vh4 60) ≤ (vb6 64) ∧ (vh4 63) = (vb6 63) from ex3) (fun fq3 rv14 rv15 gex3 => ?_)
                              refine m_st (st2 := []) rfl ?_
                              refine m_aload_n (j := 3) C dX12_go_298 rfl ?_
                              refine m_iload (j := 2) C dX12_go_299 rfl ?_
                              refine m_put (k := 63) (z := v 63) C dX12_go_301 w6_122 (by decide) rfl rfl rfl ?_
                              refine hv2 (show BX (va_up vh4 63 (v 63)) ah4 from bn3.put (k := 63) (z := v 63) (show 0 ≤ (v 63) ∧ (v 63) ≤ 808 by omega)) (fq3.put (k := 63) (z := v 63) rfl) (fun bq1 fq4 => ?_)
                              refine m_iinc (z := r) (j := 1) (lv2 := [(5, .int (iI (r + 1))), (6, .int (iI (a 44 r.toNat))), (4, .int (iI (v 63))), (0, .ref h0), (1, .int (iI x)), (2, .int (iI pt)), (3, .int (iI g))]) C dX12_go_304 rfl (by decide) rfl ?_
                              refine m_goto (tgt := 80) C dX12_go_307 (by decide) ?_
                              refine m_lv (lv2 := [(5, .int (iI (r + 1))), (4, .int (iI (v 63))), (0, .ref h0), (1, .int (iI x)), (2, .int (iI pt)), (3, .int (iI g))]) [0, 2, 3, 4, 5, 6] rfl ?_
                              exact ih1  (r + 1) _ _ (by omega) bq1 fq4 (by omega) (by show (v 63) = v 63; omega) (by show (vh4 60) ≤ v 64; omega)
                            · refine m_iconst C dX12_go_290 ?_
                              refine m_goto (tgt := 295) C dX12_go_291 (by decide) ?_
                              refine hv6 (show 0 ≤ vb6 50 ∧ vb6 50 ≤ 40200 from bxb6.1 50) (show vb6 50 = v 50 from fpb6.1 50 rfl) (show 0 ≤ vb6 60 ∧ vb6 60 ≤ 50 from bxb6.1 60) (show 0 ≤ vb6 63 ∧ vb6 63 ≤ 808 from bxb6.1 63) (show 0 ≤ vb6 64 ∧ vb6 64 ≤ 50 from bxb6.1 64) (show vb6 64 = v 64 from fpb6.1 64 rfl) (fun rv16 ve4 rv17 rv18 rv19 ve5 => ?_)
                              refine m_call (mc2 := 0) (ms2 := 0) (As := [.int (iI (x + (a 46 r.toNat))), .int (iI f3), .int (iI 1)]) (rest := []) C (hf (x + (a 46 r.toNat)) (by omega) _ _ (f3) (1) bxb6 (RWS.fr hW fpb6 rfl) (by show (vb6 50) ≤ 100; omega) (by show 0 ≤ (x + (a 46 r.toNat)) ∧ (x + (a 46 r.toNat)) ≤ (vb6 50); omega) (by omega) (by omega) (by show (vb6 60) ≤ (vb6 64); omega) (by show (vb6 63) ≤ 8 * (x + (a 46 r.toNat)); omega)) dX12_go_295 kV_X12_391 rfl ck_13 rfl (Nat.le_of_ble_eq_true rfl) ⟨by dsimp only [rmq]; omega, by dsimp only [rmq]; omega⟩ ⟨Nat.le_of_ble_eq_true rfl, Nat.le_of_ble_eq_true rfl⟩ (fun rh5 vh5 ah5 h5 => ?_)
                              obtain ⟨rfl, fn4, bn4, ex4⟩ := h5
                              refine hv4 (fpb6.call fn4 rfl rfl) (show 0 ≤ vh5 60 ∧ vh5 60 ≤ 50 from bn4.1 60) (show 0 ≤ vh5 63 ∧ vh5 63 ≤ 808 from bn4.1 63) (show (vh5 60) ≤ (vb6 64) ∧ (vh5 63) = (vb6 63) from ex4) (fun fq5 rv20 rv21 gex4 => ?_)
                              refine m_st (st2 := []) rfl ?_
                              refine m_aload_n (j := 3) C dX12_go_298 rfl ?_
                              refine m_iload (j := 2) C dX12_go_299 rfl ?_
                              refine m_put (k := 63) (z := v 63) C dX12_go_301 w6_122 (by decide) rfl rfl rfl ?_
                              refine hv2 (show BX (va_up vh5 63 (v 63)) ah5 from bn4.put (k := 63) (z := v 63) (show 0 ≤ (v 63) ∧ (v 63) ≤ 808 by omega)) (fq5.put (k := 63) (z := v 63) rfl) (fun bq2 fq6 => ?_)
                              refine m_iinc (z := r) (j := 1) (lv2 := [(5, .int (iI (r + 1))), (6, .int (iI (a 44 r.toNat))), (4, .int (iI (v 63))), (0, .ref h0), (1, .int (iI x)), (2, .int (iI pt)), (3, .int (iI g))]) C dX12_go_304 rfl (by decide) rfl ?_
                              refine m_goto (tgt := 80) C dX12_go_307 (by decide) ?_
                              refine m_lv (lv2 := [(5, .int (iI (r + 1))), (4, .int (iI (v 63))), (0, .ref h0), (1, .int (iI x)), (2, .int (iI pt)), (3, .int (iI g))]) [0, 2, 3, 4, 5, 6] rfl ?_
                              exact ih1  (r + 1) _ _ (by omega) bq2 fq6 (by omega) (by show (v 63) = v 63; omega) (by show (vh5 60) ≤ v 64; omega)
                          refine m_iload (j := 0) C dX12_go_220 rfl ?_
                          refine m_bipush (z := (-3)) C dX12_go_222 (by decide) ?_
                          refine m_icmp_eq (tgt := 234) C ⟨by omega, by omega⟩ ⟨by decide, by decide⟩ dX12_go_224 (by decide) (fun c7 => ?_) (fun c7 => ?_)
                          · refine m_aload_n (j := 3) C dX12_go_234 rfl ?_
                            refine m_geta (k := 62) C dX12_go_235 w6_121 (by decide) rfl ?_
                            refine m_aload_n (j := 3) C dX12_go_238 rfl ?_
                            have rv22 : 0 ≤ vb5 63 ∧ vb5 63 ≤ 808 := bxb5.1 63
                            refine m_get (k := 63) C dX12_go_239 w6_122 (by decide) rfl ?_
                            refine m_iload (j := 0) C dX12_go_242 rfl ?_
                            refine m_bipush (z := (-3)) C dX12_go_244 (by decide) ?_
                            refine m_icmp_ne (tgt := 254) C ⟨by omega, by omega⟩ ⟨by decide, by decide⟩ dX12_go_246 (by decide) (fun z => absurd z (by omega)) (fun _ => ?_)
                            refine m_bipush (z := 60) C dX12_go_249 (by decide) ?_
                            refine m_goto (tgt := 256) C dX12_go_251 (by decide) ?_
                            refine m_ast (k := 62) C dX12_go_256 rfl rfl (by decide) rv22.1 (Int.lt_of_le_of_lt rv22.2 (by decide)) (by decide) ?_
                            refine hv2 (show BX vb5 (up2 ab5 62 (vb5 63).toNat 60) from bxb5.set (k := 62) (i := (vb5 63).toNat) (z := 60) ⟨by decide, by decide⟩) (fpb5.set (k := 62) (i := (vb5 63).toNat) (z := 60) rfl) (fun bq3 fq7 => ?_)
                            refine m_aload_n (j := 3) C dX12_go_257 rfl ?_
                            refine m_dup C dX12_go_258 rfl ?_
                            refine m_get (k := 63) C dX12_go_259 w6_122 (by decide) rfl ?_
                            refine m_iconst C dX12_go_262 ?_
                            refine m_iadd C dX12_go_263 ?_
                            refine m_put (k := 63) (z := (vb5 63) + 1) C dX12_go_264 w6_122 (by decide) rfl rfl rfl ?_
                            refine hv2 (show BX (va_up vb5 63 ((vb5 63) + 1)) (up2 ab5 62 (vb5 63).toNat 60) from bq3.put (k := 63) (z := (vb5 63) + 1) (show 0 ≤ ((vb5 63) + 1) ∧ ((vb5 63) + 1) ≤ 808 by omega)) (fq7.put (k := 63) (z := (vb5 63) + 1) rfl) (fun bq4 fq8 => ?_)
                            have rv23 : 0 ≤ vb5 60 ∧ vb5 60 ≤ 50 := bq4.1 60
                            refine m_lv (lv2 := [(6, .int (iI (a 44 r.toNat))), (5, .int (iI r)), (4, .int (iI (v 63))), (0, .ref h0), (1, .int (iI x)), (2, .int (iI pt)), (3, .int (iI g))]) [0, 1, 2, 3, 4, 5, 6] rfl ?_
                            exact J4   _ _  bq4 fq8 (by show 0 ≤ ((vb5 63) + 1) ∧ ((vb5 63) + 1) ≤ 8 * x + 8; omega) (by show (vb5 60) ≤ v 64; omega)
                          · refine m_iload (j := 0) C dX12_go_227 rfl ?_
                            refine m_bipush (z := (-4)) C dX12_go_229 (by decide) ?_
                            refine m_icmp_ne (tgt := 267) C ⟨by omega, by omega⟩ ⟨by decide, by decide⟩ dX12_go_231 (by decide) (fun c8 => ?_) (fun c8 => ?_)
                            · have rv24 : 0 ≤ vb5 63 ∧ vb5 63 ≤ 808 := bxb5.1 63
                              have rv25 : 0 ≤ vb5 60 ∧ vb5 60 ≤ 50 := bxb5.1 60
                              refine m_lv (lv2 := [(6, .int (iI (a 44 r.toNat))), (5, .int (iI r)), (4, .int (iI (v 63))), (0, .ref h0), (1, .int (iI x)), (2, .int (iI pt)), (3, .int (iI g))]) [0, 1, 2, 3, 4, 5, 6] rfl ?_
                              exact J4   _ _  bxb5 fpb5 (by show 0 ≤ (vb5 63) ∧ (vb5 63) ≤ 8 * x + 8; omega) (by show (vb5 60) ≤ v 64; omega)
                            · refine m_aload_n (j := 3) C dX12_go_234 rfl ?_
                              refine m_geta (k := 62) C dX12_go_235 w6_121 (by decide) rfl ?_
                              refine m_aload_n (j := 3) C dX12_go_238 rfl ?_
                              have rv26 : 0 ≤ vb5 63 ∧ vb5 63 ≤ 808 := bxb5.1 63
                              refine m_get (k := 63) C dX12_go_239 w6_122 (by decide) rfl ?_
                              refine m_iload (j := 0) C dX12_go_242 rfl ?_
                              refine m_bipush (z := (-3)) C dX12_go_244 (by decide) ?_
                              refine m_icmp_ne (tgt := 254) C ⟨by omega, by omega⟩ ⟨by decide, by decide⟩ dX12_go_246 (by decide) (fun _ => ?_) (fun z => absurd z (by omega))
                              refine m_bipush (z := 62) C dX12_go_254 (by decide) ?_
                              refine m_ast (k := 62) C dX12_go_256 rfl rfl (by decide) rv26.1 (Int.lt_of_le_of_lt rv26.2 (by decide)) (by decide) ?_
                              refine hv2 (show BX vb5 (up2 ab5 62 (vb5 63).toNat 62) from bxb5.set (k := 62) (i := (vb5 63).toNat) (z := 62) ⟨by decide, by decide⟩) (fpb5.set (k := 62) (i := (vb5 63).toNat) (z := 62) rfl) (fun bq5 fq9 => ?_)
                              refine m_aload_n (j := 3) C dX12_go_257 rfl ?_
                              refine m_dup C dX12_go_258 rfl ?_
                              refine m_get (k := 63) C dX12_go_259 w6_122 (by decide) rfl ?_
                              refine m_iconst C dX12_go_262 ?_
                              refine m_iadd C dX12_go_263 ?_
                              refine m_put (k := 63) (z := (vb5 63) + 1) C dX12_go_264 w6_122 (by decide) rfl rfl rfl ?_
                              refine hv2 (show BX (va_up vb5 63 ((vb5 63) + 1)) (up2 ab5 62 (vb5 63).toNat 62) from bq5.put (k := 63) (z := (vb5 63) + 1) (show 0 ≤ ((vb5 63) + 1) ∧ ((vb5 63) + 1) ≤ 808 by omega)) (fq9.put (k := 63) (z := (vb5 63) + 1) rfl) (fun bq6 fq10 => ?_)
                              have rv27 : 0 ≤ vb5 60 ∧ vb5 60 ≤ 50 := bq6.1 60
                              refine m_lv (lv2 := [(6, .int (iI (a 44 r.toNat))), (5, .int (iI r)), (4, .int (iI (v 63))), (0, .ref h0), (1, .int (iI x)), (2, .int (iI pt)), (3, .int (iI g))]) [0, 1, 2, 3, 4, 5, 6] rfl ?_
                              exact J4   _ _  bq6 fq10 (by show 0 ≤ ((vb5 63) + 1) ∧ ((vb5 63) + 1) ≤ 8 * x + 8; omega) (by show (vb5 60) ≤ v 64; omega)
                        refine m_aload_n (j := 3) C dX12_go_195 rfl ?_
                        refine m_dup C dX12_go_196 rfl ?_
                        have rv28 : 0 ≤ vb4 63 ∧ vb4 63 ≤ 808 := bxb4.1 63
                        refine m_get (k := 63) C dX12_go_197 w6_122 (by decide) rfl ?_
                        refine m_iload (j := 0) C dX12_go_200 rfl ?_
                        refine m_if_lt (tgt := 215) C ⟨by omega, by omega⟩ dX12_go_202 (by decide) (fun c9 => ?_) (fun c9 => ?_)
                        · refine m_iconst C dX12_go_215 ?_
                          refine m_iadd C dX12_go_216 ?_
                          refine m_put (k := 63) (z := (vb4 63) + 0) C dX12_go_217 w6_122 (by decide) rfl rfl rfl ?_
                          refine hv2 (show BX (va_up vb4 63 ((vb4 63) + 0)) ab4 from bxb4.put (k := 63) (z := (vb4 63) + 0) (show 0 ≤ ((vb4 63) + 0) ∧ ((vb4 63) + 0) ≤ 808 by omega)) (fpb4.put (k := 63) (z := (vb4 63) + 0) rfl) (fun bq7 fq11 => ?_)
                          have rv29 : 0 ≤ vb4 60 ∧ vb4 60 ≤ 50 := bq7.1 60
                          refine m_lv (lv2 := [(6, .int (iI (a 44 r.toNat))), (5, .int (iI r)), (4, .int (iI (v 63))), (0, .ref h0), (1, .int (iI x)), (2, .int (iI pt)), (3, .int (iI g))]) [0, 1, 2, 3, 4, 5, 6] rfl ?_
                          exact J3   _ _  bq7 fq11 (by show 0 ≤ ((vb4 63) + 0) ∧ ((vb4 63) + 0) ≤ 8 * x + 8 ∧ (a 44 r.toNat < 0 → ((vb4 63) + 0) ≤ 8 * x); omega) (by show (vb4 60) ≤ v 64; omega)
                        · refine m_aload_n (j := 3) C dX12_go_205 rfl ?_
                          refine m_geta (k := 12) C dX12_go_206 w6_71 (by decide) rfl ?_
                          refine m_iload (j := 0) C dX12_go_209 rfl ?_
                          refine m_ald (k := 12) C dX12_go_211 rfl rfl (by decide) (by omega) (by show _ < ((_ : Nat) : Int); simp only [mlen]; omega) (by decide) ?_
                          refine hv2 (show 0 ≤ ab4 12 (a 44 r.toNat).toNat ∧ ab4 12 (a 44 r.toNat).toNat ≤ 8 from bxb4.2 12 ((a 44 r.toNat).toNat)) (show ab4 12 ((a 44 r.toNat).toNat) = a 12 ((a 44 r.toNat).toNat) from congrFun (fpb4.2 12 rfl) ((a 44 r.toNat).toNat)) (fun ra6 ae6 => ?_)
                          refine m_st (st2 := [.int (iI (a 12 (a 44 r.toNat).toNat)), .int (iI (vb4 63)), .ref h0]) (congrArg (fun z => Value.int (iI z) :: [.int (iI (vb4 63)), .ref h0]) (congrFun (fpb4.2 12 rfl) ((a 44 r.toNat).toNat))) ?_
                          refine m_goto (tgt := 216) C dX12_go_212 (by decide) ?_
                          refine m_iadd C dX12_go_216 ?_
                          refine m_put (k := 63) (z := (vb4 63) + (a 12 (a 44 r.toNat).toNat)) C dX12_go_217 w6_122 (by decide) rfl rfl rfl ?_
                          refine hv2 (show BX (va_up vb4 63 ((vb4 63) + (a 12 (a 44 r.toNat).toNat))) ab4 from bxb4.put (k := 63) (z := (vb4 63) + (a 12 (a 44 r.toNat).toNat)) (show 0 ≤ ((vb4 63) + (a 12 (a 44 r.toNat).toNat)) ∧ ((vb4 63) + (a 12 (a 44 r.toNat).toNat)) ≤ 808 by omega)) (fpb4.put (k := 63) (z := (vb4 63) + (a 12 (a 44 r.toNat).toNat)) rfl) (fun bq8 fq12 => ?_)
                          have rv30 : 0 ≤ vb4 60 ∧ vb4 60 ≤ 50 := bq8.1 60
                          refine m_lv (lv2 := [(6, .int (iI (a 44 r.toNat))), (5, .int (iI r)), (4, .int (iI (v 63))), (0, .ref h0), (1, .int (iI x)), (2, .int (iI pt)), (3, .int (iI g))]) [0, 1, 2, 3, 4, 5, 6] rfl ?_
                          exact J3   _ _  bq8 fq12 (by show 0 ≤ ((vb4 63) + (a 12 (a 44 r.toNat).toNat)) ∧ ((vb4 63) + (a 12 (a 44 r.toNat).toNat)) ≤ 8 * x + 8 ∧ (a 44 r.toNat < 0 → ((vb4 63) + (a 12 (a 44 r.toNat).toNat)) ≤ 8 * x); omega) (by show (vb4 60) ≤ v 64; omega)
                      refine m_iload (j := 1) C dX12_go_131 rfl ?_
                      refine m_if_lt (tgt := 195) C ⟨by omega, by omega⟩ dX12_go_133 (by decide) (fun c10 => ?_) (fun c10 => ?_)
                      · have rv31 : 0 ≤ vb3 63 ∧ vb3 63 ≤ 808 := bxb3.1 63
                        have rv32 : 0 ≤ vb3 60 ∧ vb3 60 ≤ 50 := bxb3.1 60
                        refine m_lv (lv2 := [(6, .int (iI (a 44 r.toNat))), (5, .int (iI r)), (4, .int (iI (v 63))), (0, .ref h0), (1, .int (iI x)), (2, .int (iI pt)), (3, .int (iI g))]) [1, 2, 3, 4, 5, 6, 7] rfl ?_
                        exact J2   _ _  bxb3 fpb3 (by show (vb3 63) = v 63; omega) (by show (vb3 60) ≤ v 64; omega)
                      · refine m_iload (j := 0) C dX12_go_136 rfl ?_
                        refine m_aload_n (j := 4) C dX12_go_138 rfl ?_
                        refine m_geta (k := 12) C dX12_go_139 w6_71 (by decide) rfl ?_
                        refine m_iload (j := 1) C dX12_go_142 rfl ?_
                        refine m_ald (k := 12) C dX12_go_144 rfl rfl (by decide) (by omega) (by show _ < ((_ : Nat) : Int); simp only [mlen]; omega) (by decide) ?_
                        refine hv2 (show 0 ≤ ab3 12 (a 44 r.toNat).toNat ∧ ab3 12 (a 44 r.toNat).toNat ≤ 8 from bxb3.2 12 ((a 44 r.toNat).toNat)) (show ab3 12 ((a 44 r.toNat).toNat) = a 12 ((a 44 r.toNat).toNat) from congrFun (fpb3.2 12 rfl) ((a 44 r.toNat).toNat)) (fun ra7 ae7 => ?_)
                        refine m_st (st2 := [.int (iI (a 12 (a 44 r.toNat).toNat)), .int (iI k)]) (congrArg (fun z => Value.int (iI z) :: [.int (iI k)]) (congrFun (fpb3.2 12 rfl) ((a 44 r.toNat).toNat))) ?_
                        refine m_icmp_ge (tgt := 195) C (r32_c (lo := 0) (hi := 8) hk.1 hk.2 (by decide) (by decide)) ⟨by omega, by omega⟩ dX12_go_145 (by decide) (fun c11 => ?_) (fun c11 => ?_)
                        · have rv33 : 0 ≤ vb3 63 ∧ vb3 63 ≤ 808 := bxb3.1 63
                          have rv34 : 0 ≤ vb3 60 ∧ vb3 60 ≤ 50 := bxb3.1 60
                          refine m_lv (lv2 := [(6, .int (iI (a 44 r.toNat))), (5, .int (iI r)), (4, .int (iI (v 63))), (0, .ref h0), (1, .int (iI x)), (2, .int (iI pt)), (3, .int (iI g))]) [1, 2, 3, 4, 5, 6, 7] rfl ?_
                          exact J2   _ _  bxb3 fpb3 (by show (vb3 63) = v 63; omega) (by show (vb3 60) ≤ v 64; omega)
                        · refine m_aload_n (j := 4) C dX12_go_148 rfl ?_
                          refine m_geta (k := 62) C dX12_go_149 w6_121 (by decide) rfl ?_
                          refine m_aload_n (j := 4) C dX12_go_152 rfl ?_
                          have rv35 : 0 ≤ vb3 63 ∧ vb3 63 ≤ 808 := bxb3.1 63
                          refine m_get (k := 63) C dX12_go_153 w6_122 (by decide) rfl ?_
                          refine m_iload (j := 0) C dX12_go_156 rfl ?_
                          refine m_iadd C dX12_go_158 ?_
                          refine m_aload_n (j := 4) C dX12_go_159 rfl ?_
                          refine m_geta (k := 14) C dX12_go_160 w6_73 (by decide) rfl ?_
                          refine m_bipush (z := 8) C dX12_go_163 (by decide) ?_
                          refine m_iload (j := 1) C dX12_go_165 rfl ?_
                          refine m_imul C dX12_go_167 ?_
                          refine m_iload (j := 0) C dX12_go_168 rfl ?_
                          refine m_iadd C dX12_go_170 ?_
                          refine m_ald (k := 14) C dX12_go_171 rfl rfl (by decide) (by omega) (by show _ < ((_ : Nat) : Int); simp only [mlen]; omega) (by decide) ?_
                          refine hv2 (show 0 ≤ ab3 14 ((8 * (a 44 r.toNat)) + k).toNat ∧ ab3 14 ((8 * (a 44 r.toNat)) + k).toNat ≤ 125 from bxb3.2 14 (((8 * (a 44 r.toNat)) + k).toNat)) (show ab3 14 (((8 * (a 44 r.toNat)) + k).toNat) = a 14 (((8 * (a 44 r.toNat)) + k).toNat) from congrFun (fpb3.2 14 rfl) (((8 * (a 44 r.toNat)) + k).toNat)) (fun ra8 ae8 => ?_)
                          refine m_st (st2 := [.int (iI (a 14 ((8 * (a 44 r.toNat)) + k).toNat)), .int (iI ((vb3 63) + k)), .ref (ad 62)]) (congrArg (fun z => Value.int (iI z) :: [.int (iI ((vb3 63) + k)), .ref (ad 62)]) (congrFun (fpb3.2 14 rfl) (((8 * (a 44 r.toNat)) + k).toNat))) ?_
                          refine m_iload_n (j := 7) C dX12_go_172 rfl ?_
                          refine m_if_eq (tgt := 186) C ⟨by omega, by omega⟩ dX12_go_173 (by decide) (fun c12 => ?_) (fun c12 => ?_)
                          · refine m_iconst C dX12_go_186 ?_
                            refine m_isub C dX12_go_187 ?_
                            refine m_ast (k := 62) C dX12_go_188 rfl rfl (by decide) (by omega) (by show _ < ((_ : Nat) : Int); simp only [mlen]; omega) (by decide) ?_
                            refine hv2 (show BX vb3 (up2 ab3 62 ((vb3 63) + k).toNat ((a 14 ((8 * (a 44 r.toNat)) + k).toNat) - 0)) from bxb3.set (k := 62) (i := ((vb3 63) + k).toNat) (z := (a 14 ((8 * (a 44 r.toNat)) + k).toNat) - 0) (show (-2147483648) ≤ ((a 14 ((8 * (a 44 r.toNat)) + k).toNat) - 0) ∧ ((a 14 ((8 * (a 44 r.toNat)) + k).toNat) - 0) ≤ 2147483647 by omega)) (fpb3.set (k := 62) (i := ((vb3 63) + k).toNat) (z := (a 14 ((8 * (a 44 r.toNat)) + k).toNat) - 0) rfl) (fun bq9 fq13 => ?_)
                            refine m_iinc (z := k) (j := 0) (lv2 := [(7, .int (iI (k + 1))), (6, .int (iI (a 44 r.toNat))), (5, .int (iI r)), (4, .int (iI (v 63))), (0, .ref h0), (1, .int (iI x)), (2, .int (iI pt)), (3, .int (iI g))]) C dX12_go_189 rfl (by decide) rfl ?_
                            refine m_goto (tgt := 131) C dX12_go_192 (by decide) ?_
                            have rv36 : 0 ≤ vb3 60 ∧ vb3 60 ≤ 50 := bq9.1 60
                            refine m_lv (lv2 := [(7, .int (iI (k + 1))), (6, .int (iI (a 44 r.toNat))), (5, .int (iI r)), (4, .int (iI (v 63))), (0, .ref h0), (1, .int (iI x)), (2, .int (iI pt)), (3, .int (iI g))]) [0, 1, 2, 3, 4, 5, 6, 7] rfl ?_
                            exact ih2  (k + 1) _ _ (by omega) bq9 fq13 (by omega) (by show (vb3 63) = v 63; omega) (by show (vb3 60) ≤ v 64; omega)
                          · refine m_iload (j := 0) C dX12_go_176 rfl ?_
                            refine m_if_ne (tgt := 186) C (r32_c (lo := 0) (hi := 8) hk.1 hk.2 (by decide) (by decide)) dX12_go_178 (by decide) (fun c13 => ?_) (fun c13 => ?_)
                            · refine m_iconst C dX12_go_186 ?_
                              refine m_isub C dX12_go_187 ?_
                              refine m_ast (k := 62) C dX12_go_188 rfl rfl (by decide) (by omega) (by show _ < ((_ : Nat) : Int); simp only [mlen]; omega) (by decide) ?_
                              refine hv2 (show BX vb3 (up2 ab3 62 ((vb3 63) + k).toNat ((a 14 ((8 * (a 44 r.toNat)) + k).toNat) - 0)) from bxb3.set (k := 62) (i := ((vb3 63) + k).toNat) (z := (a 14 ((8 * (a 44 r.toNat)) + k).toNat) - 0) (show (-2147483648) ≤ ((a 14 ((8 * (a 44 r.toNat)) + k).toNat) - 0) ∧ ((a 14 ((8 * (a 44 r.toNat)) + k).toNat) - 0) ≤ 2147483647 by omega)) (fpb3.set (k := 62) (i := ((vb3 63) + k).toNat) (z := (a 14 ((8 * (a 44 r.toNat)) + k).toNat) - 0) rfl) (fun bq10 fq14 => ?_)
                              refine m_iinc (z := k) (j := 0) (lv2 := [(7, .int (iI (k + 1))), (6, .int (iI (a 44 r.toNat))), (5, .int (iI r)), (4, .int (iI (v 63))), (0, .ref h0), (1, .int (iI x)), (2, .int (iI pt)), (3, .int (iI g))]) C dX12_go_189 rfl (by decide) rfl ?_
                              refine m_goto (tgt := 131) C dX12_go_192 (by decide) ?_
                              have rv37 : 0 ≤ vb3 60 ∧ vb3 60 ≤ 50 := bq10.1 60
                              refine m_lv (lv2 := [(7, .int (iI (k + 1))), (6, .int (iI (a 44 r.toNat))), (5, .int (iI r)), (4, .int (iI (v 63))), (0, .ref h0), (1, .int (iI x)), (2, .int (iI pt)), (3, .int (iI g))]) [0, 1, 2, 3, 4, 5, 6, 7] rfl ?_
                              exact ih2  (k + 1) _ _ (by omega) bq10 fq14 (by omega) (by show (vb3 63) = v 63; omega) (by show (vb3 60) ≤ v 64; omega)
                            · refine m_bipush (z := 32) C dX12_go_181 (by decide) ?_
                              refine m_goto (tgt := 187) C dX12_go_183 (by decide) ?_
                              refine m_isub C dX12_go_187 ?_
                              refine m_ast (k := 62) C dX12_go_188 rfl rfl (by decide) (by omega) (by show _ < ((_ : Nat) : Int); simp only [mlen]; omega) (by decide) ?_
                              refine hv2 (show BX vb3 (up2 ab3 62 ((vb3 63) + k).toNat ((a 14 ((8 * (a 44 r.toNat)) + k).toNat) - 32)) from bxb3.set (k := 62) (i := ((vb3 63) + k).toNat) (z := (a 14 ((8 * (a 44 r.toNat)) + k).toNat) - 32) (show (-2147483648) ≤ ((a 14 ((8 * (a 44 r.toNat)) + k).toNat) - 32) ∧ ((a 14 ((8 * (a 44 r.toNat)) + k).toNat) - 32) ≤ 2147483647 by omega)) (fpb3.set (k := 62) (i := ((vb3 63) + k).toNat) (z := (a 14 ((8 * (a 44 r.toNat)) + k).toNat) - 32) rfl) (fun bq11 fq15 => ?_)
                              refine m_iinc (z := k) (j := 0) (lv2 := [(7, .int (iI (k + 1))), (6, .int (iI (a 44 r.toNat))), (5, .int (iI r)), (4, .int (iI (v 63))), (0, .ref h0), (1, .int (iI x)), (2, .int (iI pt)), (3, .int (iI g))]) C dX12_go_189 rfl (by decide) rfl ?_
                              refine m_goto (tgt := 131) C dX12_go_192 (by decide) ?_
                              have rv38 : 0 ≤ vb3 60 ∧ vb3 60 ≤ 50 := bq11.1 60
                              refine m_lv (lv2 := [(7, .int (iI (k + 1))), (6, .int (iI (a 44 r.toNat))), (5, .int (iI r)), (4, .int (iI (v 63))), (0, .ref h0), (1, .int (iI x)), (2, .int (iI pt)), (3, .int (iI g))]) [0, 1, 2, 3, 4, 5, 6, 7] rfl ?_
                              exact ih2  (k + 1) _ _ (by omega) bq11 fq15 (by omega) (by show (vb3 63) = v 63; omega) (by show (vb3 60) ≤ v 64; omega)
                  refine hv2 (show 0 ≤ vb2 63 ∧ vb2 63 ≤ 808 from bxb2.1 63) (show 0 ≤ vb2 60 ∧ vb2 60 ≤ 50 from bxb2.1 60) (fun rv39 rv40 => ?_)
                  refine m_lv (lv2 := [(7, .int (iI 0)), (6, .int (iI (a 44 r.toNat))), (5, .int (iI r)), (4, .int (iI (v 63))), (0, .ref h0), (1, .int (iI x)), (2, .int (iI pt)), (3, .int (iI g))]) [0, 1, 2, 3, 4, 5, 6, 7] rfl ?_
                  exact Lp2 10 0 _ _ (by omega) bxb2 fpb2 (by omega) (by show (vb2 63) = v 63; omega) (by show (vb2 60) ≤ v 64; omega)
                · clear gf2
                  refine m_goto (tgt := 304) C dX12_go_116 (by decide) ?_
                  refine m_iinc (z := r) (j := 0) (lv2 := [(5, .int (iI (r + 1))), (4, .int (iI (v 63))), (0, .ref h0), (1, .int (iI x)), (2, .int (iI pt)), (3, .int (iI g))]) C dX12_go_304 rfl (by decide) rfl ?_
                  refine m_goto (tgt := 80) C dX12_go_307 (by decide) ?_
                  refine hv2 (show 0 ≤ vb2 63 ∧ vb2 63 ≤ 808 from bxb2.1 63) (show 0 ≤ vb2 60 ∧ vb2 60 ≤ 50 from bxb2.1 60) (fun rv41 rv42 => ?_)
                  refine m_lv (lv2 := [(5, .int (iI (r + 1))), (4, .int (iI (v 63))), (0, .ref h0), (1, .int (iI x)), (2, .int (iI pt)), (3, .int (iI g))]) [0, 1, 2, 3, 4, 5] rfl ?_
                  exact ih1  (r + 1) _ _ (by omega) bxb2 fpb2 (by omega) (by show (vb2 63) = v 63; omega) (by show (vb2 60) ≤ v 64; omega)
        refine hv2 (show 0 ≤ vb1 63 ∧ vb1 63 ≤ 808 from bxb1.1 63) (show 0 ≤ vb1 60 ∧ vb1 60 ≤ 50 from bxb1.1 60) (fun rv43 rv44 => ?_)
        refine m_lv (lv2 := [(5, .int (iI (6008 * pt))), (4, .int (iI (v 63))), (0, .ref h0), (1, .int (iI x)), (2, .int (iI pt)), (3, .int (iI g))]) [0, 1, 2, 3, 4, 5] rfl ?_
        exact Lp1 6010 (6008 * pt) _ _ (by omega) bxb1 fpb1 (by omega) (by show (vb1 63) = v 63; omega) (by show (vb1 60) ≤ v 64; omega)
      refine m_if_eq (tgt := 73) C (r32_01 gf1) dX12_go_34 (by decide) (fun c14 => ?_) (fun c14 => ?_)
      · clear gf1
        have rv45 : 0 ≤ v 60 ∧ v 60 ≤ 50 := hB.1 60
        refine m_lv (lv2 := [(4, .int (iI (v 63))), (0, .ref h0), (1, .int (iI x)), (2, .int (iI pt)), (3, .int (iI g))]) [0, 1, 2, 3, 4] rfl ?_
        exact J1   _ _  hB fp0 (by show (v 63) = v 63; omega) (by show (v 60) ≤ v 64; omega)
      · replace gf1 := (gf1.resolve_left c14)
        refine m_aload_n (j := 1) C dX12_go_37 rfl ?_
        refine m_geta (k := 62) C dX12_go_38 w6_121 (by decide) rfl ?_
        refine m_aload_n (j := 1) C dX12_go_41 rfl ?_
        refine m_get (k := 63) C dX12_go_42 w6_122 (by decide) rfl ?_
        refine m_bipush (z := 32) C dX12_go_45 (by decide) ?_
        refine m_ast (k := 62) C dX12_go_47 rfl rfl (by decide) rv3.1 (Int.lt_of_le_of_lt rv3.2 (by decide)) (by decide) ?_
        refine hv2 (show BX v (up2 a 62 (v 63).toNat 32) from hB.set (k := 62) (i := (v 63).toNat) (z := 32) ⟨by decide, by decide⟩) (fp0.set (k := 62) (i := (v 63).toNat) (z := 32) rfl) (fun bq12 fq16 => ?_)
        refine m_aload_n (j := 1) C dX12_go_48 rfl ?_
        refine m_dup C dX12_go_49 rfl ?_
        refine m_get (k := 63) C dX12_go_50 w6_122 (by decide) rfl ?_
        refine m_iconst C dX12_go_53 ?_
        refine m_iadd C dX12_go_54 ?_
        refine m_put (k := 63) (z := (v 63) + 1) C dX12_go_55 w6_122 (by decide) rfl rfl rfl ?_
        refine hv2 (show BX (va_up v 63 ((v 63) + 1)) (up2 a 62 (v 63).toNat 32) from bq12.put (k := 63) (z := (v 63) + 1) (show 0 ≤ ((v 63) + 1) ∧ ((v 63) + 1) ≤ 808 by omega)) (fq16.put (k := 63) (z := (v 63) + 1) rfl) (fun bq13 fq17 => ?_)
        refine m_aload_n (j := 1) C dX12_go_58 rfl ?_
        refine m_iload_n (j := 2) C dX12_go_59 rfl ?_
        refine m_iconst C dX12_go_60 ?_
        refine m_iadd C dX12_go_61 ?_
        refine m_iconst C dX12_go_62 ?_
        refine m_iconst C dX12_go_63 ?_
        refine hv2 (show 0 ≤ v 60 ∧ v 60 ≤ 50 from bq13.1 60) (show 0 ≤ v 64 ∧ v 64 ≤ 50 from bq13.1 64) (fun rv46 rv47 => ?_)
        refine m_call (mc2 := 0) (ms2 := 0) (As := [.int (iI (x + 1)), .int (iI 0), .int (iI 0)]) (rest := []) C (hf (x + 1) (by omega) _ _ (0) (0) bq13 (RWS.fr hW fq17 rfl) (by show (v 50) ≤ 100; omega) (by show 0 ≤ (x + 1) ∧ (x + 1) ≤ (v 50); omega) (by omega) (by omega) (by show (v 60) ≤ (v 64); omega) (by show ((v 63) + 1) ≤ 8 * (x + 1); omega)) dX12_go_64 kV_X12_391 rfl ck_13 rfl (Nat.le_of_ble_eq_true rfl) ⟨by dsimp only [rmq]; omega, by dsimp only [rmq]; omega⟩ ⟨Nat.le_of_ble_eq_true rfl, Nat.le_of_ble_eq_true rfl⟩ (fun rh6 vh6 ah6 h6 => ?_)
        obtain ⟨rfl, fn5, bn5, ex5⟩ := h6
        refine hv4 (fq17.call fn5 rfl rfl) (show 0 ≤ vh6 60 ∧ vh6 60 ≤ 50 from bn5.1 60) (show 0 ≤ vh6 63 ∧ vh6 63 ≤ 808 from bn5.1 63) (show (vh6 60) ≤ (v 64) ∧ (vh6 63) = ((v 63) + 1) from ex5) (fun fq18 rv48 rv49 gex5 => ?_)
        refine m_st (st2 := []) rfl ?_
        refine m_aload_n (j := 1) C dX12_go_67 rfl ?_
        refine m_iload (j := 0) C dX12_go_68 rfl ?_
        refine m_put (k := 63) (z := v 63) C dX12_go_70 w6_122 (by decide) rfl rfl rfl ?_
        refine hv2 (show BX (va_up vh6 63 (v 63)) ah6 from bn5.put (k := 63) (z := v 63) (show 0 ≤ (v 63) ∧ (v 63) ≤ 808 by omega)) (fq18.put (k := 63) (z := v 63) rfl) (fun bq14 fq19 => ?_)
        refine m_lv (lv2 := [(4, .int (iI (v 63))), (0, .ref h0), (1, .int (iI x)), (2, .int (iI pt)), (3, .int (iI g))]) [0, 1, 2, 3, 4] rfl ?_
        exact J1   _ _  bq14 fq19 (by show (v 63) = v 63; omega) (by show (vh6 60) ≤ v 64; omega)
    · refine m_aload_n (j := 0) C dX12_go_17 rfl ?_
      refine hv2 (show 0 ≤ v 60 ∧ v 60 ≤ 50 from hB.1 60) (show 0 ≤ v 64 ∧ v 64 ≤ 50 from hB.1 64) (fun rv50 rv51 => ?_)
      refine m_call (mc2 := 0) (ms2 := 0) (As := []) (rest := []) C (B_keep  hB (by show (v 60) ≤ (v 64); omega)) dX12_go_18 kV_X12_385 rfl ck_13 rfl (Nat.le_of_ble_eq_true rfl) ⟨by dsimp only [rmq]; omega, by dsimp only [rmq]; omega⟩ ⟨Nat.le_of_ble_eq_true rfl, Nat.le_of_ble_eq_true rfl⟩ (fun rh7 vh7 ah7 h7 => ?_)
      obtain ⟨rfl, fn6, bn6, ex6⟩ := h7
      refine hv3 (fp0.call fn6 rfl rfl) (show 0 ≤ vh7 60 ∧ vh7 60 ≤ 50 from bn6.1 60) (show (vh7 60) ≤ (v 64) from ex6) (fun fq20 rv52 gf4 => ?_)
      refine m_st (st2 := []) rfl ?_
      refine hv2 (show 0 ≤ vh7 63 ∧ vh7 63 ≤ 808 from bn6.1 63) (show vh7 63 = v 63 from fn6.1 63 rfl) (fun rv53 ve6 => ?_)
      exact m_vret C dX12_go_21 rfl (Nat.le_of_ble_eq_true rfl) (Nat.le_of_ble_eq_true rfl) ⟨rfl, fq20, bn6, (by show (vh7 60) ≤ (v 64) ∧ (vh7 63) = (v 63); omega)⟩
  · have rv54 : 0 ≤ v 60 ∧ v 60 ≤ 50 := hB.1 60
    have rv55 : 0 ≤ v 63 ∧ v 63 ≤ 808 := hB.1 63
    exact m_vret C dX12_go_8 rfl (Nat.le_of_ble_eq_true rfl) (Nat.le_of_ble_eq_true rfl) ⟨rfl, fp0, hB, (by show (v 60) ≤ (v 64) ∧ (v 63) = (v 63); omega)⟩
theorem M_goN {l : Launch} {G : GT} {h0 : Nat} {ad ln : Nat → Nat} : ∀ (n : Nat) (x : Int), 100 < x + n → GoC l G h0 ad ln (n + 3) x := by
  intro n
  induction n with
  | zero => intro x h1 v a pt g hB hW h50 hx; omega
  | succ n ih =>
    intro x h1 v a pt g hB hW h50 hx hp hg h60 h63
    exact M_go1 (d := n + 3) hB hW h50 hx hp hg h60 h63 (by omega) (fun b hb => ih b (by omega))
theorem M_go {l : Launch} {G : GT} {h0 : Nat} {ad ln : Nat → Nat} {v : Nat → Int} {a : Nat → Nat → Int} {x pt g : Int} (hB : BX v a) (hW : RWS a) (h50 : v 50 ≤ 100) (hx : 0 ≤ x ∧ x ≤ v 50) (hp : pt = 0 ∨ pt = 1) (hg : g = 0 ∨ g = 1) (h60 : v 60 ≤ v 64) (h63 : v 63 ≤ 8 * x) : Mm l G yX12_go cX12_go 8 none 104 [.int (iI x), .int (iI pt), .int (iI g)] h0 ad ln v a 0 0 (fun r v2 a2 => r = none ∧ fr [60, 61, 63] [58, 59, 62] v a v2 a2 ∧ BX v2 a2 ∧ (v2 60 ≤ v 64 ∧ v2 63 = v 63)) := M_goN 101 x (by omega) v a pt g hB hW h50 hx hp hg h60 h63
theorem TBL.b {v : Nat → Int} {a : Nat → Nat → Int} (h : TBL v a) : ∀ t : Int, 0 ≤ t → t < v 4 → a 8 t.toNat = -1 ∨ (0 ≤ a 8 t.toNat ∧ a 8 t.toNat < t) := by
  intro t h1 h2
  have := h.1 t h1 h2
  omega
end
