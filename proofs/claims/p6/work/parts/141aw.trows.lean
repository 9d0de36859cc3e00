def SATX (iv : Nat → Nat → Int) (rv : Nat → Nat → Option Nat) (s : Nat) (i : Int) (f : Option Nat) : Prop := ((0 ≤ i ∧ i < iv s 1) ∧ ∃ rb, rv s 0 = some rb ∧ f = rv rb i.toNat) ∨ (¬ (0 ≤ i ∧ i < iv s 1) ∧ f = none)
section TROW
variable {h : Nat} {sk : Nat → Nat} {L L1 L2 : List Nat} {cl ln cl1 ln1 cl2 ln2 : Nat → Nat} {iv iv1 iv2 iv3 : Nat → Nat → Int} {rv rv1 rv2 rv3 : Nat → Nat → Option Nat} {r s s2 u rb cb l q b : Nat} {x z i k j n d f tn kd wd hy m : Int} {xs ys cs x1 x2 : List Int} {w : List (Int × Nat × Int)} {st : Nat → Int} {ls : List Nat} {D D1 : List (List Int)} {fo : Option Nat}
theorem LNK.ne {s3 s4 rb2 l2 r2 : Nat} (hK : LNK rv s s2) (hW : WT h sk L cl ln iv rv) (h3 : s3 = s ∨ s3 = s2) (h4 : s4 = s ∨ s4 = s2) (tr : ty L cl r 19) (h0 : rv s3 0 = some rb) (hr : rv rb l = some r) (h02 : rv s4 0 = some rb2) (hr2 : rv rb2 l2 = some r2) (hn : ¬ (s3 = s4 ∧ l = l2)) : r2 ≠ r ∧ ∀ cb, rv r2 0 = some cb → rv r 0 ≠ some cb := by
  have k : ∀ cb, rv r2 0 = some cb → rv r 0 ≠ some cb := fun cb e1 e2 => hn (hK.2.2 s3 s4 h3 h4 rb rb2 l l2 r r2 cb h0 h02 hr hr2 e2 e1)
  refine ⟨fun e => ?_, k⟩
  obtain ⟨c, hc, _⟩ := hW.ref tr 0 rfl rfl rfl
  exact k c (by rw [e]; exact hc) hc
theorem LNE.fr (hx : LNE iv rv r xs) (h1 : iv2 r = iv r) (h2 : rv2 r = rv r) (h3 : ∀ cb, rv r 0 = some cb → iv2 cb = iv cb) : LNE iv2 rv2 r xs := by
  refine ⟨by rw [h1]; exact hx.1, fun cb hc j x e => ?_⟩
  rw [h2] at hc
  rw [h3 cb hc]
  exact hx.2 cb hc j x e
theorem SATX.row (hx : SATX iv rv s i (some r)) : ∃ rb, rv s 0 = some rb ∧ rv rb i.toNat = some r := by
  rcases hx with ⟨_, rb, h0, e⟩ | ⟨_, e⟩
  · exact ⟨rb, h0, e.symm⟩
  · cases e
end TROW
