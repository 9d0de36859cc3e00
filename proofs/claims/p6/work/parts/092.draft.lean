section DRAF
variable {v v1 v2 v3 : Nat → Int} {a a1 a2 a3 : Nat → Nat → Int} {D D1 : List (List Int)} {xs ys cs x1 : List Int} {w : List (Int × Nat × Int)} {st : Nat → Int} {x z t q k f h y1 d r hy wd c : Int} {i n l b : Nat} {br : Int → Int → Int}
theorem ap1 {α : Type} {D : List α} {u m : α} {l : Nat} (h : (D ++ [u])[l]? = some m) : (l < D.length ∧ D[l]? = some m) ∨ (l = D.length ∧ u = m) := by
  by_cases c : l < D.length
  · rw [List.getElem?_append_left c] at h
    exact Or.inl ⟨c, h⟩
  · rw [List.getElem?_append_right (by omega)] at h
    have lt := gl3 h
    have e1 : ([u] : List α).length = 1 := rfl
    have e2 : l - D.length = 0 := by omega
    rw [e2] at h
    cases h
    exact Or.inr ⟨by omega, rfl⟩
theorem len1 {α : Type} {D : List α} {u : α} : (D ++ [u]).length = D.length + 1 := by
  rw [List.length_append]
  rfl
end DRAF
section CENT
variable {v v1 v2 v3 : Nat → Int} {a a1 a2 a3 : Nat → Nat → Int} {D : List (List Int)} {xs : List Int} {x z q k y c wd : Int} {i l b : Nat}
end CENT
