theorem TBL.b {v : Nat → Int} {a : Nat → Nat → Int} (h : TBL v a) : ∀ t : Int, 0 ≤ t → t < v 4 → a 8 t.toNat = -1 ∨ (0 ≤ a 8 t.toNat ∧ a 8 t.toNat < t) := by
  intro t h1 h2
  have := h.1 t h1 h2
  omega
