def tw (T : Nat → Int) (N : Nat) : Nat → Nat → Int → List (Int × Nat × Int) → Nat × List (Int × Nat × Int)
  | 0, p, _, w => (p, w)
  | n + 1, p, b, w => if N ≤ p ∨ T p = 10 then (p, w) else if T p = 32 then (if w.length = 0 then tw T N n (p + 1) b w else (p, w)) else if T p = 126 then tw T N n (p + 1) 1 w else tw T N n (p + 1) 0 (w ++ [(T p, p, b)])
def TWF (T : Nat → Int) (N q : Int) : Nat × List (Int × Nat × Int) := tw T N.toNat (N.toNat + 1 - q.toNat) q.toNat 0 []
section WORDS
variable {v v2 : Nat → Int} {a a1 : Nat → Nat → Int} {T : Nat → Int} {N q u p b f z y x l : Int} {w : List (Int × Nat × Int)} {i i2 i3 pp n M P : Nat}
theorem tw_s : tw T M (n + 1) P b w = if M ≤ P ∨ T P = 10 then (P, w) else if T P = 32 then (if w.length = 0 then tw T M n (P + 1) b w else (P, w)) else if T P = 126 then tw T M n (P + 1) 1 w else tw T M n (P + 1) 0 (w ++ [(T P, P, b)]) := rfl
theorem gl3 {α : Type} {ls : List α} {d : α} {r : Nat} (h : ls[r]? = some d) : r < ls.length := by
  by_cases e : r < ls.length
  · exact e
  · rw [List.getElem?_eq_none (by omega)] at h; cases h
end WORDS
