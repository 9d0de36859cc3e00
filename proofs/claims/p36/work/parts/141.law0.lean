section LW
variable {p : Program} {l : Launch} {e : Env} {R : Room} {s : State} {m : MethodId} {args : Array Value} {below : List Frame} {meth : Method} {c : Code} {cc : ByteArray} {y : MethodName} {ret : Option FieldType} {G : GT} {A : Nat → Prop} {nL : Nat} {Q : State → Prop} {L : List Nat} {E : Nat → va_E} {kc ks pc : Nat} {lv : List (Nat × Value)} {st : List Value}
end LW

theorem Mu.congr {l : Launch} {G : GT} {mi : Nat} {y : MethodName} {cc : ByteArray} {n : Nat} {ret : Option FieldType} {d : Nat} {av : List Value} {L : List Nat} {E E2 : Nat → va_E} {r : Nat} {P : PU} (h : Mu l G mi y cc n ret d av L E r P) (he : ∀ a ∈ L, E2 a = E a) : Mu l G mi y cc n ret d av L E2 r P := by
  have e : va_pl L E2 = va_pl L E := List.map_congr_left (fun a ha => by rw [he a ha])
  intro sz
  have e2 : Pcu G mi L E2 sz = Pcu G mi L E sz := by funext U; unfold Pcu Pcq; rw [e]
  rw [e, e2]
  exact h sz
def LI (R : (Nat → Nat) → List Nat → (Nat → Nat) → (Nat → Nat) → (Nat → Nat → Int) → (Nat → Nat → Option Nat) → (Nat → Int) → (Nat → Nat → Int) → Prop) (G : GT) (h0 mm n n2 w u : Nat) (Lx Lm : List Nat) (E : Nat → va_E) : Prop := ∃ (cl ln : Nat → Nat) (iv : Nat → Nat → Int) (rv : Nat → Nat → Option Nat) (sk ad lnm : Nat → Nat) (v : Nat → Int) (a : Nat → Nat → Int), (∀ b ∈ Lx, E b = enc G cl ln iv rv b) ∧ PRS G h0 n Lx cl ln iv rv sk ∧ mI G mm ad lnm v a Lm E ∧ MIV n2 lnm v a ∧ u ≤ 360000 + Phi (g0 G) sk ln rv + w ∧ R sk Lx cl ln iv rv v a
section LAWS
variable {p : Program} {l : Launch} {e : Env} {s : State} {m : MethodId} {below : List Frame} {meth : Method} {c : Code} {y : MethodName} {rt : Option FieldType} {G : GT} {b mi h0 mm n u kc ks pc Ln w : Nat} {Lx Lm : List Nat} {E : Nat → va_E} {Q : State → Prop} {lv : List (Nat × Value)} {st rest : List Value} {xs : Nat → Int32} {zs : Nat → Int} {EX : (Nat → Nat) → List Nat → (Nat → Nat) → (Nat → Nat) → (Nat → Nat → Int) → (Nat → Nat → Option Nat) → List Nat → (Nat → Nat) → (Nat → Nat) → (Nat → Nat → Int) → (Nat → Nat → Option Nat) → Int → Prop} {EXm : (Nat → Int) → (Nat → Nat → Int) → (Nat → Int) → (Nat → Nat → Int) → Int → Prop} {R : (Nat → Nat) → List Nat → (Nat → Nat) → (Nat → Nat) → (Nat → Nat → Int) → (Nat → Nat → Option Nat) → (Nat → Int) → (Nat → Nat → Int) → Prop} {As : List Value} {y2 : MethodName} {cc2 : ByteArray} {n2 d2 idx k2 mc ms : Nat}
end LAWS
