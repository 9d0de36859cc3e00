def dkb (c : ByteArray) : List (Nat × Instr × Nat) → Bool
  | [] => true
  | x :: r => (decide (decode c x.1 = .ok (x.2.1, x.2.2))) && dkb c r
def dkp (c : ByteArray) : List (Nat × Instr × Nat) → Prop
  | [] => True
  | x :: r => decode c x.1 = .ok (x.2.1, x.2.2) ∧ dkp c r
theorem dkq {c : ByteArray} : ∀ {l : List (Nat × Instr × Nat)}, dkb c l = true → dkp c l := by
  intro l
  induction l with
  | nil => intro _; trivial
  | cons y r ih =>
    intro h1
    have g0 : ((decide (decode c y.1 = .ok (y.2.1, y.2.2))) && dkb c r) = true := h1
    have g : (decide (decode c y.1 = .ok (y.2.1, y.2.2))) = true ∧ dkb c r = true := by simpa using g0
    exact ⟨of_decide_eq_true g.1, ih g.2⟩
