def REL (h0 : Nat) (sk : Nat → Nat) (iv : Nat → Nat → Int) (rv : Nat → Nat → Option Nat) (v : Nat → Int) (a : Nat → Nat → Int) : Prop := iI (iv h0 14) = iI (v 56)
section RELS
variable {h0 : Nat} {sk : Nat → Nat} {iv iv2 : Nat → Nat → Int} {rv rv2 : Nat → Nat → Option Nat} {v v2 : Nat → Int} {a a2 : Nat → Nat → Int}
theorem rel_keep (hr : REL h0 sk iv rv v a) (hp : iv2 h0 14 = iv h0 14) (hq : v2 56 = v 56) : REL h0 sk iv2 rv2 v2 a2 := by
  unfold REL; rw [hp, hq]; exact hr
theorem eq_failed {i x f1 f2 : Int} (hr : REL h0 sk iv rv v a) (hp : ((i < 0 ∨ 7 < i) ∧ f1 = -1 ∧ iv2 h0 14 = iv h0 14) ∨ (0 ≤ i ∧ i ≤ 7 ∧ iI (iv2 h0 14) = fdv (iI (iv h0 14)) i x ∧ iI f1 = bcn (iI (iv2 h0 14)))) (hq : ((i < 0 ∨ 7 < i) ∧ f2 = -1 ∧ v2 56 = v 56) ∨ (0 ≤ i ∧ i ≤ 7 ∧ iI (v2 56) = fdv (iI (v 56)) i x ∧ iI f2 = bcn (iI (v2 56)))) : iI f1 = iI f2 := by
  unfold REL at hr
  rcases hp with ⟨p1, p2, p3⟩ | ⟨p1, p2, p3, p4⟩ <;> rcases hq with ⟨q1, q2, q3⟩ | ⟨q1, q2, q3, q4⟩
  · rw [p2, q2]
  · exact absurd p1 (by omega)
  · exact absurd q1 (by omega)
  · rw [p4, q4, p3, q3, hr]
theorem rel_failed {i x f1 f2 : Int} (hr : REL h0 sk iv rv v a) (hp : ((i < 0 ∨ 7 < i) ∧ f1 = -1 ∧ iv2 h0 14 = iv h0 14) ∨ (0 ≤ i ∧ i ≤ 7 ∧ iI (iv2 h0 14) = fdv (iI (iv h0 14)) i x ∧ iI f1 = bcn (iI (iv2 h0 14)))) (hq : ((i < 0 ∨ 7 < i) ∧ f2 = -1 ∧ v2 56 = v 56) ∨ (0 ≤ i ∧ i ≤ 7 ∧ iI (v2 56) = fdv (iI (v 56)) i x ∧ iI f2 = bcn (iI (v2 56)))) : REL h0 sk iv2 rv2 v2 a2 := by
  unfold REL at hr ⊢
  rcases hp with ⟨p1, p2, p3⟩ | ⟨p1, p2, p3, p4⟩ <;> rcases hq with ⟨q1, q2, q3⟩ | ⟨q1, q2, q3, q4⟩
  · rw [p3, q3]; exact hr
  · exact absurd p1 (by omega)
  · exact absurd q1 (by omega)
  · rw [p3, q3, hr]
theorem rel_measure {P1 P2 : Prop} (hr : REL h0 sk iv rv v a) (hp : P1 ∧ iv2 h0 14 = iv h0 14) (hq : P2 ∧ v2 56 = v 56) : REL h0 sk iv2 rv2 v2 a2 := rel_keep hr hp.2 hq.2
end RELS
