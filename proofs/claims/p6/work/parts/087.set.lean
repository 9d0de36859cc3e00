def ICL (a : Nat → Nat → Int) (I : Int) : List Int := (List.range (a 16 I.toNat).toNat).map (fun k => a 17 (4 * I.toNat + k))
def RCL (a : Nat → Nat → Int) (r : Int) : List Int := (List.range (a 13 r.toNat).toNat).map (fun k => a 15 (4 * r.toNat + k))
def nbl (a : Nat → Nat → Int) (W : Nat → Int) (t q x : Int) : List Int := if a 6 t.toNat = 2 ∧ isD (W x.toNat) ∧ (x = q ∨ ¬ isD (W (x - 1).toNat)) then ICL a (4 * t + 1) else []
def PC1 (a : Nat → Nat → Int) (W : Nat → Int) (t q u x l : Int) (cs : List Int) : Prop := ∃ r, (0 ≤ r ∧ l = a 12 r.toNat) ∧ ((fnd a q u x 30 W t r ∧ cs = nbl a W t q x ++ RCL a r) ∨ (fnd a q u x 30 W t (-1) ∧ (a 6 t.toNat ≤ 2 ∧ isG (W x.toNat) ∧ 0 < a 16 (4 * t + 0).toNat) ∧ fnd a q u x 30 (va_up W x.toNat (W x.toNat + 32)) t r ∧ cs = (nbl a W t q x ++ ICL a (4 * t + 0)) ++ RCL a r))
def ptp (a : Nat → Nat → Int) (W : Nat → Int) (t q u : Int) : Int → List (Int × List Int) → Int → Prop
  | x, [], y => x = y
  | x, p :: ps, y => x < u ∧ p.1 = x ∧ ∃ l, PC1 a W t q u x l p.2 ∧ ptp a W t q u (x + l) ps y
def cls (ps : List (Int × List Int)) : List Int := ps.flatMap (fun p => p.2)
def bgn : List (Int × List Int) → Int → Nat → Int → Int
  | [], _, _, d => d
  | p :: ps, m, i, d => bgn ps (m + ((p.2.length : Nat) : Int)) i (if i = p.1.toNat then m else d)
section SETS
variable {v v1 v2 v3 : Nat → Int} {V1 A1 : List Nat} {a a1 a2 a3 : Nat → Nat → Int} {W : Nat → Int} {q u x t b r s k g f f1 f2 y z l l2 : Int} {n m : Nat} {cs ds l0 ls : List Int} {pre ps : List (Int × List Int)}
theorem RCL.len (h : 0 ≤ a 13 r.toNat) : ((RCL a r).length : Int) = a 13 r.toNat := by
  unfold RCL
  rw [List.length_map, List.length_range]; omega
theorem ICL.len (h : 0 ≤ a 16 r.toNat) : ((ICL a r).length : Int) = a 16 r.toNat := by
  unfold ICL
  rw [List.length_map, List.length_range]; omega
theorem PC1.uni (hT : TBL v a) (h0 : 0 ≤ t) (h4 : t < v 4) (h : PC1 a W t q u x l cs) (h2 : PC1 a W t q u x l2 ds) : l = l2 ∧ cs = ds := by
  obtain ⟨r, ⟨p1, p2⟩, p3⟩ := h
  obtain ⟨s, ⟨q1, q2⟩, q3⟩ := h2
  rcases p3 with ⟨p4, p5⟩ | ⟨p4, p5, p6, p7⟩ <;> rcases q3 with ⟨q4, q5⟩ | ⟨q4, q5, q6, q7⟩
  · have e := fnd_uni hT _ _ _ _ _ _ h0 h4 p4 q4
    subst e
    exact ⟨p2.trans q2.symm, p5.trans q5.symm⟩
  · have e := fnd_uni hT _ _ _ _ _ _ h0 h4 p4 q4
    omega
  · have e := fnd_uni hT _ _ _ _ _ _ h0 h4 p4 q4
    omega
  · have e := fnd_uni hT _ _ _ _ _ _ h0 h4 p6 q6
    subst e
    exact ⟨p2.trans q2.symm, p7.trans q7.symm⟩
theorem ptp.snoc : ∀ (pre : List (Int × List Int)) (z : Int), ptp a W t q u z pre x → x < u → PC1 a W t q u x l cs → ptp a W t q u z (pre ++ [(x, cs)]) (x + l) := by
  intro pre
  induction pre with
  | nil => intro z h hx hp; cases h; exact ⟨hx, rfl, l, hp, rfl⟩
  | cons p ps ih =>
    intro z h hx hp
    obtain ⟨h1, h2, l3, h3, h4⟩ := h
    exact ⟨h1, h2, l3, h3, ih _ h4 hx hp⟩
theorem ptp.ext (hT : TBL v a) (h0 : 0 ≤ t) (h4 : t < v 4) : ∀ (pre ps : List (Int × List Int)) (z y : Int), ptp a W t q u z pre x → ptp a W t q u z ps y → u ≤ y → ∃ qs, ps = pre ++ qs ∧ ptp a W t q u x qs y := by
  intro pre
  induction pre with
  | nil => intro ps z y h h2 _; cases h; exact ⟨ps, rfl, h2⟩
  | cons p pre ih =>
    intro ps z y h h2 hu
    obtain ⟨h1, h3, l3, h5, h6⟩ := h
    cases ps with
    | nil => cases h2; omega
    | cons p2 ps =>
      obtain ⟨g1, g3, l4, g5, g6⟩ := h2
      have e := PC1.uni hT h0 h4 h5 g5
      have e2 : p2 = p := Prod.ext (g3.trans h3.symm) e.2.symm
      subst e2
      rw [← e.1] at g6
      obtain ⟨qs, k1, k2⟩ := ih ps _ y h6 g6 hu
      exact ⟨qs, by rw [k1]; rfl, k2⟩
end SETS
section PINS
variable {v v1 v2 v3 : Nat → Int} {V1 A1 : List Nat} {a a1 a2 a3 : Nat → Nat → Int} {W : Nat → Int} {q u x t r k f I c z : Int} {n i : Nat} {l0 : List Int}
end PINS
