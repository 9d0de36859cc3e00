section EROW
variable {h : Nat} {sk : Nat → Nat} {L L1 L2 : List Nat} {cl ln cl1 ln1 cl2 ln2 : Nat → Nat} {iv iv0 iv1 iv2 iv3 : Nat → Nat → Int} {rv rv0 rv1 rv2 rv3 : Nat → Nat → Option Nat} {s s2 c u q tb sA sB h0 : Nat} {v : Nat → Int} {a : Nat → Nat → Int} {T : Nat → Int} {N t wd hy cm f f2 wy ok x kd : Int} {ls : List Nat}
theorem WOX.mv (wo : WOX sk ln iv rv t (some tb)) (hR : TRL sk ln iv rv v a) (hQ : QT h sk L cl ln iv rv L1 cl1 ln1 iv1 rv1) : (0 ≤ t ∧ t < v 4) ∧ el rv1 (sk 22) t.toNat = some tb := by
  obtain ⟨o1, o2, _⟩ := wo.smt hR
  have e := hQ.2.2.2.1.2.2.1.1 t.toNat (by have q := hR.1.1; omega)
  exact ⟨o1, by rw [e]; exact o2⟩
end EROW
