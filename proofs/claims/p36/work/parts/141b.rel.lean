def REL (h0 : Nat) (sk : Nat → Nat) (_L : List Nat) (_cl ln : Nat → Nat) (iv : Nat → Nat → Int) (rv : Nat → Nat → Option Nat) (v : Nat → Int) (a : Nat → Nat → Int) : Prop := (iI (iv h0 14) = iI (v 56) ∧ iv h0 11 = v 31 ∧ iv h0 12 = v 32 ∧ iv h0 13 = v 33) ∧ (iv (sk 2) 2 = v 3 ∧ CT iv rv (sk 2) (a 2)) ∧ (iv (sk 3) 2 = v 30 ∧ CT iv rv (sk 3) (a 29)) ∧ TABR sk iv rv v a ∧ (∃ o, RP2 o sk ln iv rv v a) ∧ SEC v a
section RELS
variable {h0 : Nat} {L L2 : List Nat} {cl ln cl2 ln2 sk : Nat → Nat} {iv iv2 : Nat → Nat → Int} {rv rv2 : Nat → Nat → Option Nat} {v v2 : Nat → Int} {a a2 : Nat → Nat → Int}
end RELS
