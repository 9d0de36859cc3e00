section HEAD
variable {v v1 v2 v3 : Nat → Int} {a a1 a2 a3 : Nat → Nat → Int} {W W2 : Nat → Int} {q u x y z t r s k f f1 f2 I c g g2 x2 n l m : Int} {cs ds l0 : List Int} {ps qs : List (Int × List Int)} {js : List (Int × List (Int × List Int))}
end HEAD
section SWCG
variable {a a1 : Nat → Nat → Int} {W : Nat → Int} {n t g x y : Int} {cs : List Int} {ps : List (Int × List Int)}
end SWCG
section HED2
variable {v v1 v2 v3 : Nat → Int} {a a1 a2 a3 : Nat → Nat → Int} {W W2 T : Nat → Int} {t k f f1 g n m z : Int} {i : Nat}
theorem whl_cg (h4 : v1 4 = v 4) (h5 : a1 5 = a 5) (h6 : a1 6 = a 6) (h8 : a1 8 = a 8) (h9 : a1 9 = a 9) : ∀ (n : Nat) (t : Int), whl v1 a1 n t ↔ whl v a n t := by
  intro n
  induction n with
  | zero => intro t; exact Iff.rfl
  | succ n ih =>
    intro t
    show ((0 ≤ t ∧ t < v1 4 ∧ a1 5 t.toNat = 1) ∧ (a1 6 t.toNat = 5 → whl v1 a1 n (a1 8 t.toNat) ∧ whl v1 a1 n (a1 9 t.toNat)) ∧ (1 ≤ a1 6 t.toNat → a1 6 t.toNat ≤ 3 → whl v1 a1 n (a1 8 t.toNat))) ↔ ((0 ≤ t ∧ t < v 4 ∧ a 5 t.toNat = 1) ∧ (a 6 t.toNat = 5 → whl v a n (a 8 t.toNat) ∧ whl v a n (a 9 t.toNat)) ∧ (1 ≤ a 6 t.toNat → a 6 t.toNat ≤ 3 → whl v a n (a 8 t.toNat)))
    rw [h4, h5, h6, h8, h9, ih, ih]
theorem WHE.cg (h : WHE f v1 a1 31 t) (h4 : v1 4 = v 4) (h5 : a1 5 = a 5) (h6 : a1 6 = a 6) (h8 : a1 8 = a 8) (h9 : a1 9 = a 9) : f = 1 ↔ WHL v a t := h.trans (whl_cg h4 h5 h6 h8 h9 31 t)
end HED2
