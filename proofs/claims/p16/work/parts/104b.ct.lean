def CT (iv : Nat → Nat → Int) (rv : Nat → Nat → Option Nat) (q : Nat) (ss : Nat → Int) : Prop := ∀ b, rv q 1 = some b → ∀ j : Nat, (j : Int) < iv q 2 → iv b j = ss j
section CTS
variable {g : Nat} {sk : Nat → Nat} {L : List Nat} {cl ln : Nat → Nat} {iv iv2 : Nat → Nat → Int} {rv rv2 : Nat → Nat → Option Nat} {q T : Nat} {ls : List Nat} {ss : Nat → Int}
theorem CT.zero (h : iv q 2 = 0) : CT iv rv q ss := fun _ _ j hj => absurd hj (by omega)
theorem CT.cut (h : CT iv rv q ss) (hW : WT g sk L cl ln iv rv) (tq : ty L cl q T) (hF : fT ls L cl iv rv iv2 rv2) (h2 : ls.contains (tgt T 1) = false) (hr : raw T = false) (hl : (lst T && 1 == 1) = false) (hn : nul T 1 = false) (hv : rv2 q 1 = rv q 1) (hs : iv2 q 2 ≤ iv q 2) : CT iv2 rv2 q ss := by
  obtain ⟨b, hb, tb⟩ := hW.ref tq 1 hr hl hn
  intro b2 hb2 j hj
  rw [hv, hb] at hb2
  cases hb2
  rw [hF.i tb h2 j]
  exact h b hb j (by omega)
theorem CT.fr (h : CT iv rv q ss) (hW : WT g sk L cl ln iv rv) (tq : ty L cl q T) (hF : fT ls L cl iv rv iv2 rv2) (h1 : ls.contains T = false) (h2 : ls.contains (tgt T 1) = false) (hr : raw T = false) (hl : (lst T && 1 == 1) = false) (hn : nul T 1 = false) : CT iv2 rv2 q ss :=
  h.cut hW tq hF h2 hr hl hn (hF.r tq h1 1) (by rw [hF.i tq h1 2]; omega)
theorem CT.frn (h : CT iv rv q ss) (hW : WT g sk L cl ln iv2 rv) (tq : ty L cl q T) (hF : fT ls L cl iv rv iv2 rv) (h1 : ls.contains T = false) (h2 : ls.contains (tgt T 1) = false) (hr : raw T = false) (hl : (lst T && 1 == 1) = false) (hn : nul T 1 = false) : CT iv2 rv q ss := by
  obtain ⟨b, hb, tb⟩ := hW.ref tq 1 hr hl hn
  intro b2 hb2 j hj
  rw [hb] at hb2
  cases hb2
  rw [hF.i tq h1 2] at hj
  rw [hF.i tb h2 j]
  exact h b hb j hj
def APD (iv : Nat → Nat → Int) (rv : Nat → Nat → Option Nat) (q r : Nat) (iv2 : Nat → Nat → Int) (rv2 : Nat → Nat → Option Nat) : Prop := ∀ ss tt, CT iv rv r ss → CT iv rv q tt → iv q 2 + iv r 2 ≤ 500 → CT iv2 rv2 q (apd tt (iv q 2).toNat ss)
theorem APD.zero {r : Nat} : APD iv rv q r iv rv := fun ss tt _ h2 _ b hb j hj => by
  rw [h2 b hb j hj]
  unfold apd
  rw [if_pos (by omega)]
theorem APD.step {r : Nat} {iv1 : Nat → Nat → Int} {rv1 : Nat → Nat → Option Nat} {x k : Int} (h : APD iv rv q r iv1 rv1) (g : ∀ ss, CT iv1 rv1 q ss → iv1 q 2 < 500 → CT iv2 rv2 q (va_up ss (iv1 q 2).toNat x)) (hm : iv1 q 2 = min (iv q 2 + k) 500) (hx : ∀ ss, CT iv rv r ss → x = ss k.toNat) (hk : 0 ≤ k ∧ k < iv r 2) (h0 : 0 ≤ iv q 2) : APD iv rv q r iv2 rv2 := fun ss tt h1 h2 h3 => by
  have w := g _ (h ss tt h1 h2 h3) (by omega)
  have e : va_up (apd tt (iv q 2).toNat ss) (iv1 q 2).toNat x = apd tt (iv q 2).toNat ss := by
    funext j
    unfold va_up
    split
    · rename_i e
      rw [e, hx ss h1]
      unfold apd
      rw [if_neg (by omega)]
      exact congrArg ss (by omega)
    · rfl
  rw [e] at w
  exact w
def byx (x : Int) (i : Nat) : Int := (((iI x).toUInt32 >>> ((iI (24 - 8 * (i : Int))).toUInt32 &&& Int32.toUInt32 31)).toInt32 &&& iI 255).toInt
def fdp (ss : Nat → Int) (n : Nat) (x : Int) : Nat → (Nat → Int)
  | 0 => ss
  | i + 1 => va_up (fdp ss n x i) (n + i) (byx x i)
def fd5 (ss : Nat → Int) (n : Nat) (x1 x2 x3 x4 x5 : Int) : Nat → Int := fdp (fdp (fdp (fdp (fdp ss n x1 4) (n + 4) x2 4) (n + 8) x3 4) (n + 12) x4 4) (n + 16) x5 4
theorem fdp_step {n i i2 m : Nat} {x z : Int} (hq : CT iv rv q (va_up (fdp ss n x i) m z)) (hi : i2 = i + 1) (hm : m = n + i) (hz : z = byx x i) : CT iv rv q (fdp ss n x i2) := by subst hi; subst hm; subst hz; exact hq
theorem byx_of {x k z1 z2 : Int} {i : Nat} (hk : k = 24 - 8 * (i : Int)) (e1 : ((iI x).toUInt32 >>> ((iI k).toUInt32 &&& Int32.toUInt32 31)).toInt32 = iI z1) (e2 : iI z1 &&& iI 255 = iI z2) (h2 : R32 z2) : z2 = byx x i := by
  subst hk; unfold byx; rw [e1, e2, iI_int h2]
end CTS
