section JROW
variable {g : Nat} {sk : Nat → Nat} {L L1 L2 L3 : List Nat} {cl ln cl1 ln1 cl2 ln2 cl3 ln3 : Nat → Nat} {iv iv1 iv2 iv3 : Nat → Nat → Int} {rv rv1 rv2 rv3 : Nat → Nat → Option Nat} {v : Nat → Int} {a : Nat → Nat → Int} {t b b2 q n w u c0 tr : Nat} {d e f f1 f2 i0 j0 k0 h k k2 z : Int} {r x y : Option Nat} {l : List Int}
theorem HL.lt (hH : HL L cl ln iv rv a q l) {i : Nat} (h : l[i]? = some d) : (i : Int) < iv q 2 := by
  rw [hH.1]; have := gl_lt h; omega
theorem HL.of (hH : HL L cl ln iv rv a q l) {i : Nat} (h : l[i]? = some d) (hw : el rv q i = some w) : ty L cl w 20 ∧ RWD ln iv rv a w d := by
  obtain ⟨w', p1, p2, p3⟩ := hH.2 i d h
  rw [hw] at p1; cases p1
  exact ⟨p2, p3⟩
end JROW
