theorem inn_c {x lo hi : Int} (hx : R32 x) (h1 : R32 lo) (h2 : R32 hi) : (lo ≤ x ∧ x ≤ hi ∧ inn (iI x) (iI lo) (iI hi) = iI 1) ∨ (¬ (lo ≤ x ∧ x ≤ hi) ∧ inn (iI x) (iI lo) (iI hi) = iI 0) := by
  unfold inn
  by_cases h : lo ≤ x ∧ x ≤ hi
  · exact Or.inl ⟨h.1, h.2, if_pos ⟨(iI_le h1 hx).mpr h.1, (iI_le hx h2).mpr h.2⟩⟩
  · exact Or.inr ⟨h, if_neg (fun q => h ⟨(iI_le h1 hx).mp q.1, (iI_le hx h2).mp q.2⟩)⟩
def RG (v : Nat → Int) (a : Nat → Nat → Int) : Prop := (∀ k, R32 (v k)) ∧ ∀ k j, R32 (a k j)
theorem RG.put {v : Nat → Int} {a : Nat → Nat → Int} {k : Nat} {z : Int} (h : RG v a) (hz : R32 z) : RG (va_up v k z) a := ⟨fun j => by unfold va_up; split; exact hz; exact h.1 j, h.2⟩
theorem RG.set {v : Nat → Int} {a : Nat → Nat → Int} {k i : Nat} {z : Int} (h : RG v a) (hz : R32 z) : RG v (up2 a k i z) := ⟨h.1, fun k2 j => by unfold up2; split; split; exact hz; exact h.2 _ _; exact h.2 _ _⟩
