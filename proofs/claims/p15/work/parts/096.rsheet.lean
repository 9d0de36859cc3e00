def KSA (v : Nat → Int) (a : Nat → Nat → Int) (v2 : Nat → Int) (a2 : Nat → Nat → Int) : Prop := v2 36 = v 36 ∧ a2 34 = a 34 ∧ a2 35 = a 35
section RSHT
variable {v v1 v2 : Nat → Int} {a a1 a2 a3 : Nat → Nat → Int} {E E2 : List (Option (List Int))} {l i n q u w x f k z p t g : Int} {m m2 : Nat} {y : Option (List Int)} {xs ys : List Int}
end RSHT
section CPLS
variable {v v1 v2 v3 : Nat → Int} {a a1 a2 : Nat → Nat → Int} {E E2 : List (Option (List Int))} {q u n f k x y z i : Int} {m m2 : Nat}
end CPLS
section EMBS
variable {v v1 v2 : Nat → Int} {a : Nat → Nat → Int} {E : List (Option (List Int))} {q n f f1 f2 wd k i z x y s1 s2 : Int} {c c1 c2 s t : Int32} {xs : List Int}
end EMBS
