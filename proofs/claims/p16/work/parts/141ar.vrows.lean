section VROW
variable {h : Nat} {sk : Nat → Nat} {L : List Nat} {cl ln : Nat → Nat} {iv iv1 iv2 iv3 : Nat → Nat → Int} {rv : Nat → Nat → Option Nat} {s c q b b2 : Nat} {T : Nat → Int} {N : Int} {a : Nat → Nat → Int} {v : Nat → Int} {x y k n n2 m p f cm cm2 i j wy wy2 t : Int} {ls : List Nat} {w : List (Int × Nat × Int)}
theorem PWH.ltw (hw : PWH iv rv s w) (hW : WT h sk L cl ln iv rv) (ts : ty L cl s 15) : LTW iv rv s (lts w) 0 (iv s 4) := fun lb hb j h1 h2 => by
  obtain ⟨g1, g2⟩ := hw
  obtain ⟨b1, q1, _⟩ := hW.ref ts 1 rfl rfl rfl
  obtain ⟨b2, q2, _⟩ := hW.ref ts 2 rfl rfl rfl
  have lt : j.toNat < w.length := by omega
  have g := (g2 lb b1 b2 hb q1 q2 j.toNat _ (List.getElem?_eq_getElem lt)).1
  rw [g]
  show _ = ((w[j.toNat]?).map (fun x => x.1)).getD 0
  (rw [List.getElem?_eq_getElem lt]) <;> rfl
end VROW
