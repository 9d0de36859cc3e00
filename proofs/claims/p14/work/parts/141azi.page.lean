def PGT (iv : Nat → Nat → Int) (rv : Nat → Nat → Option Nat) (sk : Nat → Nat) (h0 : Nat) (f : Int) : Prop := ∀ sA, rv h0 9 = some sA → f = (iv sA 1 + opg (iv (sk 5) 2) (iv h0 12) - 1) / opg (iv (sk 5) 2) (iv h0 12)
def PGP (iv : Nat → Nat → Int) (rv : Nat → Nat → Option Nat) (sk : Nat → Nat) (h0 : Nat) (p l i f : Int) : Prop := ∀ sA, rv h0 9 = some sA → ∀ E, SHT iv rv sA E → ∀ HD, CT iv rv (sk 5) HD → PAGX E (iv (sk 5) 2) (iv h0 12) HD p l i f
section PPAG
variable {sk : Nat → Nat} {iv : Nat → Nat → Int} {rv : Nat → Nat → Option Nat} {h0 sA : Nat} {p l i f x y z o k : Int} {E : List (Option (List Int))}
theorem PGT.mk (hA : rv h0 9 = some sA) (hd : f = (iv sA 1 + x - 1) / x) (g1 : (0 < iv (sk 5) 2 ∧ 2 ≤ iv h0 12 ∧ x = iv h0 12 - 1) ∨ (¬ (0 < iv (sk 5) 2 ∧ 2 ≤ iv h0 12) ∧ x = iv h0 12)) : PGT iv rv sk h0 f := fun sA' e => by
  rw [hA] at e; cases e
  rw [hd, opg_of g1]
theorem PGT.le (hg : PGT iv rv sk h0 x) (hA : rv h0 9 = some sA) (hE : SHT iv rv sA E) : x = (((E.length : Nat) : Int) + opg (iv (sk 5) 2) (iv h0 12) - 1) / opg (iv (sk 5) 2) (iv h0 12) := by
  rw [← hE.1]
  exact hg sA hA
theorem PGP.hn (hg : PGT iv rv sk h0 x) (hp : 0 ≤ p ∧ p < x) (hl : l = 0) (hh : 0 < iv (sk 5) 2 ∧ 2 ≤ iv h0 12) (hi : ¬ (0 ≤ i ∧ i < iv (sk 5) 2)) (hf : f = -1) : PGP iv rv sk h0 p l i f := fun _ e _ hE _ _ => PAGX.hn (hg.le e hE) hp hl hh hi hf
theorem PGP.ce (hg : PGT iv rv sk h0 x) (hp : 0 ≤ p ∧ p < x) (hl : 0 ≤ l ∧ l < iv h0 12) (hn : ¬ ((0 < iv (sk 5) 2 ∧ 2 ≤ iv h0 12) ∧ l = 0)) (ho : (0 < iv (sk 5) 2 ∧ 2 ≤ iv h0 12 ∧ o = iv h0 12 - 1) ∨ (¬ (0 < iv (sk 5) 2 ∧ 2 ≤ iv h0 12) ∧ o = iv h0 12)) (hz : z = p * o + k) (hk : (0 < iv (sk 5) 2 ∧ 2 ≤ iv h0 12 ∧ k = l - 1) ∨ (¬ (0 < iv (sk 5) 2 ∧ 2 ≤ iv h0 12) ∧ k = l)) (hc : CLP iv rv h0 z i f) : PGP iv rv sk h0 p l i f := fun sA e E hE _ _ => PAGX.ce (hg.le e hE) hp hl hn (opg_of ho) hz hk (hc sA e E hE)
end PPAG
