def upc (r b : Nat → Int) : Nat → Int → Prop
  | 0, _ => True
  | n + 1, t => 0 ≤ t → r t.toNat = 1 ∧ upc r b n (b t.toNat)
def UPC (a : Nat → Nat → Int) (t : Int) : Prop := upc (a 5) (a 8) 31 t
section GATS
variable {v v2 : Nat → Int} {a a1 a2 a3 a4 : Nat → Nat → Int} {q x y z t b r d e w f f1 f2 k : Int} {n : Nat} {l : List Int}
theorem upc_s {r b : Nat → Int} (n : Nat) (t : Int) : upc r b (n + 1) t = (0 ≤ t → r t.toNat = 1 ∧ upc r b n (b t.toNat)) := rfl
theorem upc_fuel {r b : Nat → Int} {V : Int} (hb : ∀ t : Int, 0 ≤ t → t < V → b t.toNat < t) : ∀ (n m : Nat) (t : Int), t < V → t < (n : Int) → t < (m : Int) → (upc r b n t ↔ upc r b m t) := by
  intro n
  induction n with
  | zero =>
    intro m t h1 h2 h3
    cases m with
    | zero => exact Iff.rfl
    | succ m => rw [upc_s]; exact ⟨fun _ h => absurd h (by omega), fun _ => trivial⟩
  | succ n ih =>
    intro m t h1 h2 h3
    cases m with
    | zero => rw [upc_s]; exact ⟨fun _ => trivial, fun _ h => absurd h (by omega)⟩
    | succ m =>
      rw [upc_s, upc_s]
      refine ⟨fun h h0 => ?_, fun h h0 => ?_⟩
      · have h4 := hb t h0 h1
        exact ⟨(h h0).1, (ih m (b t.toNat) (by omega) (by omega) (by omega)).mp (h h0).2⟩
      · have h4 := hb t h0 h1
        exact ⟨(h h0).1, (ih m (b t.toNat) (by omega) (by omega) (by omega)).mpr (h h0).2⟩
theorem TBL.b8 (h : TBL v a) : ∀ t : Int, 0 ≤ t → t < v 4 → a 8 t.toNat < t := fun t h1 h2 => by
  have := h.1 t h1 h2
  omega
theorem UPC.s (h : TBL v a) (h30 : v 4 ≤ 30) (h0 : 0 ≤ t) (h4 : t < v 4) : UPC a t ↔ (a 5 t.toNat = 1 ∧ UPC a (a 8 t.toNat)) := by
  have h8 := h.b8 t h0 h4
  have e := upc_fuel (r := a 5) h.b8 30 31 (a 8 t.toNat) (by omega) (by omega) (by omega)
  show upc (a 5) (a 8) (30 + 1) t ↔ (a 5 t.toNat = 1 ∧ upc (a 5) (a 8) 31 (a 8 t.toNat))
  rw [← e, upc_s]
  exact ⟨fun h => h h0, fun h _ => h⟩
end GATS
