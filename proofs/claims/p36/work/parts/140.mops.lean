def MIV (n : Nat) (ln : Nat → Nat) (v : Nat → Int) (a : Nat → Nat → Int) : Prop := BX v a ∧ TBL v a ∧ STK ln v a ∧ RWS a ∧ v 19 ≤ 4 * (n : Int)
