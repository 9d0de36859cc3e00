def TOK (ss : Nat → Int) (n : Int) : Prop := ∀ j : Nat, (j : Int) < n → (ss j = 10 ∨ (32 ≤ ss j ∧ ss j ≤ 126))
theorem TOK.zero {ss : Nat → Int} : TOK ss 0 := fun j hj => absurd hj (by omega)
theorem TOK.snoc {ss : Nat → Int} {k : Int} (h : TOK ss k) (hk : 0 ≤ k) (hb : ss k.toNat = 10 ∨ (32 ≤ ss k.toNat ∧ ss k.toNat ≤ 126)) : TOK ss (k + 1) := fun j hj => by
  by_cases e : (j : Int) < k
  · exact h j e
  · rw [show j = k.toNat by omega]; exact hb
theorem TOK.step {ss : Nat → Int} {g g2 k : Int} (h : g = 1 ↔ TOK ss k) (hk : 0 ≤ k) (e : g2 = 1 ↔ (g = 1 ∧ (ss k.toNat = 10 ∨ (32 ≤ ss k.toNat ∧ ss k.toNat ≤ 126)))) : g2 = 1 ↔ TOK ss (k + 1) :=
  ⟨fun q => TOK.snoc (h.mp (e.mp q).1) hk (e.mp q).2, fun q => e.mpr ⟨h.mpr (fun j hj => q j (by omega)), q k.toNat (by omega)⟩⟩
def apd (tt : Nat → Int) (m : Nat) (ss : Nat → Int) : Nat → Int := fun j => if j < m then tt j else ss (j - m)
def TXI (v : Nat → Int) (a : Nat → Nat → Int) (A : Nat → Int) (k : Int) : Prop := ∀ j : Nat, (j : Int) < v 30 + k → A j = apd (a 29) (v 30).toNat (a 2) j
theorem TXI.zero {v : Nat → Int} {a : Nat → Nat → Int} {A : Nat → Int} (h : A = a 29) : TXI v a A 0 := fun j hj => by
  rw [h]
  unfold apd
  rw [if_pos (by omega)]
theorem TXI.step {v : Nat → Int} {a ab : Nat → Nat → Int} {k z : Int} {i : Nat} (h : TXI v a (ab 29) k) (h0 : 0 ≤ k) (h30 : 0 ≤ v 30) (hi : i = (v 30 + k).toNat) (hz : z = a 2 k.toNat) : TXI v a (up2 ab 29 i z 29) (k + 1) := fun j hj => by
  by_cases e : j = i
  · subst e
    rw [up2_s, hz]
    unfold apd
    rw [if_neg (by omega)]
    exact congrArg (a 2) (by omega)
  · rw [up2_j e]
    exact h j (by omega)
