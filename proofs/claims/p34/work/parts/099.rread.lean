section RRD1
variable {v v1 v2 : Nat → Int} {a a1 a2 : Nat → Nat → Int} {l : List Int} {R : Nat → Int} {w x u k g f q r b d e y : Int} {bs : List Int}
theorem HLD.tt (h : HLD a a2 q l) (hq : 0 ≤ q) (h0 : 6008 * q ≤ r) (h1 : r < 6008 * q + a2 47 q.toNat) : ∃ d, l[(r - 6008 * q).toNat]? = some d ∧ rent a a2 r d := by
  have e := h.1
  have lt : (r - 6008 * q).toNat < l.length := by omega
  have g := List.getElem?_eq_getElem lt
  refine ⟨_, g, ?_⟩
  have w := h.2.2 _ _ g
  rw [show 6008 * q + (((r - 6008 * q).toNat : Nat) : Int) = r by omega] at w
  exact w
end RRD1
section RRD2
variable {v v1 v2 v3 : Nat → Int} {a a1 a2 a3 : Nat → Nat → Int} {l0 l1 : List Int} {R : Nat → Int} {w x u k g g2 f q r b d e y z c pt p2 : Int} {bs : List Int}
end RRD2
section RRD3
variable {v v2 : Nat → Int} {a a1 a2 : Nat → Nat → Int} {l : List Int} {q x u f w : Int} {V A : List Nat} {d k r : Int}
end RRD3
section RRD4
variable {v v1 v2 v3 : Nat → Int} {a a1 a2 a3 : Nat → Nat → Int} {l0 l1 : List Int} {R : Nat → Int} {x y g f w f1 : Int}
end RRD4
