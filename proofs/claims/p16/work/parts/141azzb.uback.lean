section UBAC
variable {h : Nat} {sk : Nat → Nat} {L L1 L3 : List Nat} {cl ln cl1 ln1 cl3 ln3 : Nat → Nat} {iv iv1 iv2 iv3 iv4 : Nat → Nat → Int} {rv rv1 rv2 rv3 rv4 : Nat → Nat → Option Nat} {a : Nat → Nat → Int} {s cb : Nat} {k x f f1 f2 q u : Int} {l0 l1 : List Int} {R W : Nat → Int} {ls : List Nat}
theorem LTW.fx (hl : LTW iv rv s W q u) (hW : WT h sk L cl ln iv rv) (ts : ty L cl s 15) (hF : fT ls L cl iv rv iv1 rv1) (c1 : ls.contains 15 = false) (c2 : ls.contains 50 = false) : LTW iv1 rv1 s W q u := fun lb hb j h1 h2 => by
  rw [hF.r ts c1 0] at hb
  obtain ⟨b', w1, tb⟩ := hW.ref ts 0 rfl rfl rfl
  rw [hb] at w1
  cases w1
  rw [hF.i tb c2]
  exact hl lb hb j h1 h2
end UBAC
