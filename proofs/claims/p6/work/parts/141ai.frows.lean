section FROW
variable {g : Nat} {sk : Nat → Nat} {L : List Nat} {cl ln : Nat → Nat} {iv iv2 : Nat → Nat → Int} {rv : Nat → Nat → Option Nat} {v : Nat → Int} {a : Nat → Nat → Int} {W : Nat → Int} {s w u tb b l lb c q4 : Nat} {R t : Nat} {i k x y z rb f lg he q n : Int} {r bs tq : Option Nat}
theorem TRL.row (h : TRL sk ln iv rv v a) (hi : (t : Int) < v 4) (ht : el rv (sk 22) t = some tb) (h4 : rv tb 4 = some q4) (hk : 0 ≤ k ∧ k < iv q4 2) (hw : el rv q4 k.toNat = some w) : (k < a 10 t ∧ iv q4 2 = a 10 t) ∧ ROWR ln iv rv a w (200 * t + k.toNat) ∧ (1 ≤ a 12 (200 * t + k.toNat) ∧ a 12 (200 * t + k.toNat) ≤ 8) := by
  obtain ⟨_, _, q1, n1, ⟨c1, _, c3⟩, c4, _⟩ := h.tab hi ht
  rw [h4] at c1; cases c1
  obtain ⟨w', d1, d2⟩ := c4 k.toNat (by omega)
  rw [hw] at d1; cases d1
  have g := (h.2.2.1.2 t (200 * (t : Int) + k) (by omega) hi (by omega) (by rw [Int.toNat_natCast]; omega)).1
  rw [show (200 * (t : Int) + k).toNat = 200 * t + k.toNat by omega] at g
  exact ⟨⟨by omega, c3⟩, d2, g⟩
end FROW
section FRN
variable {g : Nat} {sk : Nat → Nat} {L : List Nat} {cl ln : Nat → Nat} {iv iv1 iv2 iv3 : Nat → Nat → Int} {rv : Nat → Nat → Option Nat} {v : Nat → Int} {a : Nat → Nat → Int} {W : Nat → Int} {s w tb b : Nat} {R t : Nat} {i k x y z rb he q u : Int} {r f : Option Nat} {ls : List Nat}
theorem fT.sym {rv1 : Nat → Nat → Option Nat} (h : fT ls L cl iv rv iv1 rv1) : fT ls L cl iv1 rv1 iv rv := fun b hb hc => ⟨(h b hb hc).1.symm, (h b hb hc).2.symm⟩
theorem ROWR.ni (hW : WT g sk L cl ln iv rv) (hF : fT ls L cl iv rv iv1 rv) (h1 : kpl ls = true) (tw : ty L cl w 20) (h : ROWR ln iv rv a w R) : ROWR ln iv1 rv a w R := by
  have k := kpl_no h1
  obtain ⟨e1, e2, l, c, e3, e4, e5, e6, e7, e8⟩ := h
  obtain ⟨l', q1, tl⟩ := hW.ref tw 1 rfl rfl rfl
  rw [e3] at q1; cases q1
  obtain ⟨c', q2, tc⟩ := hW.ref tw 2 rfl rfl rfl
  rw [e4] at q2; cases q2
  have t65 : ty L cl l 65 := tl
  have t66 : ty L cl c 66 := tc
  refine ⟨(hF.i tw k.2.1 3).trans e1, (hF.i tw k.2.1 0).trans e2, l, c, e3, e4, e5, e6, fun j hj => ?_, fun j hj => ?_⟩
  · rw [hF.i t65 k.2.2.2.1 j]; exact e7 j hj
  · rw [hF.i t66 k.2.2.2.2.1 j]; exact e8 j hj
theorem TRL.ni (hW : WT g sk L cl ln iv rv) (hS : SKL sk L cl) (hF : fT ls L cl iv rv iv1 rv) (h1 : kpl ls = true) (a1 : ls.contains 22 = false) (a2 : ls.contains 1000 = false) (a3 : ls.contains 23 = false) (a4 : ls.contains 1001 = false) (h : TRL sk ln iv rv v a) : TRL sk ln iv1 rv v a := h.qq (QT.of hW hS XT.refl hF h1 a1 a2 a3 a4)
end FRN
