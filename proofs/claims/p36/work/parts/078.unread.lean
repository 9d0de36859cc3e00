def ATS (v : Nat → Int) (a : Nat → Nat → Int) : Prop := ∀ j : Nat, 0 ≤ a 70 j ∧ (a 70 j = 0 ∨ a 70 j < v 66)
theorem ATS.put {v : Nat → Int} {a : Nat → Nat → Int} (h : ATS v a) {k : Nat} {z : Int} (hk : k ≠ 66) : ATS (va_up v k z) a := fun j => by rw [va_up_ne _ _ (Ne.symm hk)]; exact h j
theorem ATS.set {v : Nat → Int} {a : Nat → Nat → Int} (h : ATS v a) {k i : Nat} {z : Int} (hk : k ≠ 70) : ATS v (up2 a k i z) := fun j => by rw [up2_k (Ne.symm hk)]; exact h j
theorem ATS.fr {V A : List Nat} {v v2 : Nat → Int} {a a2 : Nat → Nat → Int} (h : ATS v a) (f : fr V A v a v2 a2) (h1 : V.contains 66 = false) (h2 : A.contains 70 = false) : ATS v2 a2 := fun j => by rw [f.1 66 h1, f.2 70 h2]; exact h j
