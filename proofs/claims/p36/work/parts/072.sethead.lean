def mmin (x y : Int32) : Int32 := if y < x then y else x
theorem mmin_c {x y : Int} (hx : R32 x) (hy : R32 y) : ∃ w : Int, ((w = x ∧ x ≤ y) ∨ (w = y ∧ y < x)) ∧ mmin (iI x) (iI y) = iI w := by
  unfold mmin
  by_cases h : y < x
  · exact ⟨y, Or.inr ⟨rfl, h⟩, if_pos ((iI_lt hy hx).mpr h)⟩
  · exact ⟨x, Or.inl ⟨rfl, by omega⟩, if_neg (fun q => h ((iI_lt hy hx).mp q))⟩
theorem mmax_c {x y : Int} (hx : R32 x) (hy : R32 y) : ∃ w : Int, ((w = x ∧ y ≤ x) ∨ (w = y ∧ x < y)) ∧ (if iI x < iI y then iI y else iI x) = iI w := by
  by_cases h : x < y
  · exact ⟨y, Or.inr ⟨rfl, h⟩, if_pos ((iI_lt hx hy).mpr h)⟩
  · exact ⟨x, Or.inl ⟨rfl, by omega⟩, if_neg (fun q => h ((iI_lt hx hy).mp q))⟩
