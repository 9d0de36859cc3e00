def KLQ (v : Nat → Int) (a : Nat → Nat → Int) (K : List (List Int)) : Prop := v 60 = ((K.length : Nat) : Int) ∧ ∀ (k : Nat) (w : List Int), K[k]? = some w → a 59 k = ((w.length : Nat) : Int) ∧ w.length ≤ 808 ∧ ∀ (j : Nat) (x : Int), w[j]? = some x → a 58 (808 * k + j) = x
def KPS (v : Nat → Int) (a : Nat → Nat → Int) (Z : List (List Int)) : Prop := ∃ K, KMQ (v 64).toNat Z K (v 61) ∧ KLQ v a K
section GGOS
variable {v v1 v2 v3 v4 : Nat → Int} {a a0 a1 a2 a3 a4 : Nat → Nat → Int} {l0 l1 : List Int} {C : Nat → Int} {x y k g h f pt r d z i j nx cp : Int} {V A : List Nat} {Z K : List (List Int)} {w u : List Int}
theorem KPS.cg (hk : KPS v a Z) (e60 : v1 60 = v 60) (e61 : v1 61 = v 61) (e64 : v1 64 = v 64) (e58 : a1 58 = a 58) (e59 : a1 59 = a 59) : KPS v1 a1 Z := by
  obtain ⟨K, k1, k2, k3⟩ := hk
  exact ⟨K, by rw [e61, e64]; exact k1, e60.trans k2, fun k w e => by rw [e58, e59]; exact k3 k w e⟩
end GGOS
