def PTL (iv : Nat → Nat → Int) (rv : Nat → Nat → Option Nat) (iv2 : Nat → Nat → Int) (s : Nat) (x : Int) : Prop := iv s 4 < 500 → iv2 s 4 = iv s 4 + 1 ∧ ∀ lb, rv s 0 = some lb → iv2 lb (iv s 4).toNat = x ∧ ∀ j : Nat, (j : Int) < iv s 4 → iv2 lb j = iv lb j
section HROW
variable {h : Nat} {sk : Nat → Nat} {L L1 : List Nat} {cl ln cl1 ln1 : Nat → Nat} {iv iv1 iv2 iv3 iv4 iv5 : Nat → Nat → Int} {rv rv1 : Nat → Nat → Option Nat} {W : Nat → Int} {s lb pb bb i2 i3 b : Nat} {x y p k f fl f2 i wd m z2 z3 z4 : Int} {ls : List Nat}
theorem PTL.mk (h0 : rv s 0 = some lb) (e1 : iv1 = up2 iv lb p.toNat x) (e2 : iv2 = up2 iv1 pb i2 z2) (e3 : iv3 = up2 iv2 bb i3 z3) (e4 : iv4 = up2 iv3 s 5 z4) (e5 : iv5 = up2 iv4 s 4 y) (hp : p = iv s 4) (hy : y = iv s 4 + 1) (h4 : 0 ≤ iv s 4) (n1 : lb ≠ pb) (n2 : lb ≠ bb) (n3 : lb ≠ s) : PTL iv rv iv5 s x := fun _ => by
  refine ⟨by rw [e5, up2_s]; exact hy, fun lb' hb => ?_⟩
  rw [h0] at hb; cases hb
  subst hp
  refine ⟨?_, fun j hj => ?_⟩
  · rw [e5, up2_k n3, e4, up2_k n3, e3, up2_k n2, e2, up2_k n1, e1, up2_s]
  · rw [e5, up2_k n3, e4, up2_k n3, e3, up2_k n2, e2, up2_k n1, e1, up2_j (by omega)]
theorem PTL.full (h4 : 500 ≤ iv s 4) : PTL iv rv iv1 s x := fun e => absurd e (by omega)
theorem LTW.put (hl : LTW iv rv s W 0 k) (p : PTL iv rv iv2 s x) (h4 : iv s 4 = k) (hk : 0 ≤ k ∧ k < 500) (hx : x = W k.toNat) : LTW iv2 rv s W 0 (k + 1) := fun lb hb j h1 h2 => by
  obtain ⟨q1, q2⟩ := (p (by omega)).2 lb hb
  by_cases c : j < k
  · rw [q2 j.toNat (by omega)]; exact hl lb hb j h1 c
  · have e : iv2 lb k.toNat = x := by
      rw [← h4]; exact q1
    rw [show j = k by omega, e]; exact hx
end HROW
