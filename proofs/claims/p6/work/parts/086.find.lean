abbrev isD (c : Int) : Prop := 48 ≤ c ∧ c ≤ 57
abbrev isG (c : Int) : Prop := 65 ≤ c ∧ c ≤ 90
abbrev isS (c : Int) : Prop := 97 ≤ c ∧ c ≤ 122
def CND (a : Nat → Nat → Int) (W : Nat → Int) (q u x r : Int) : Prop := a 11 r.toNat = 0 ∨ (a 11 r.toNat = 1 ∧ x = q) ∨ (a 11 r.toNat = 2 ∧ x ≠ q ∧ x + a 12 r.toNat ≠ u) ∨ (a 11 r.toNat = 3 ∧ x + a 12 r.toNat = u) ∨ (a 11 r.toNat = 4 ∧ x = q ∧ x + a 12 r.toNat = u) ∨ ((a 11 r.toNat < 0 ∨ 4 < a 11 r.toNat) ∧ x + a 12 r.toNat ≠ u ∧ ¬ isD (W (x + a 12 r.toNat).toNat) ∧ ¬ isG (W (x + a 12 r.toNat).toNat) ∧ ¬ isS (W (x + a 12 r.toNat).toNat))
def FTL (a : Nat → Nat → Int) (W : Nat → Int) (u x r k : Int) : Prop := x + a 12 r.toNat ≤ u ∧ ∀ j : Int, 0 ≤ j → j < k → a 14 (8 * r + j).toNat = W (x + j).toNat
def FIT (a : Nat → Nat → Int) (W : Nat → Int) (q u x r : Int) : Prop := FTL a W u x r (a 12 r.toNat) ∧ CND a W q u x r
def OWI (a : Nat → Nat → Int) (W : Nat → Int) (q u x t b r : Int) : Prop := (b = -1 ∧ ∀ s : Int, 200 * t ≤ s → s < r → ¬ FIT a W q u x s) ∨ ((200 * t ≤ b ∧ b < r) ∧ FIT a W q u x b ∧ ∀ s : Int, 200 * t ≤ s → s < r → FIT a W q u x s → a 12 s.toNat ≤ a 12 b.toNat ∧ (s < b → a 12 s.toNat < a 12 b.toNat))
def OWR (a : Nat → Nat → Int) (W : Nat → Int) (q u x t r : Int) : Prop := OWI a W q u x t r (200 * t + a 10 t.toNat)
def cmb (a : Nat → Nat → Int) (x y : Int) : Int := if x < 0 ∨ (0 ≤ y ∧ a 12 x.toNat < a 12 y.toNat) then y else x
def sml (c : Int) : Int := if 65 ≤ c ∧ c ≤ 90 then c + 32 else c
def fnd (a : Nat → Nat → Int) (q u x : Int) : Nat → (Nat → Int) → Int → Int → Prop
  | 0, _, _, _ => False
  | n + 1, W, t, r => (a 6 t.toNat = 1 → ∃ y z, OWR a W q u x t y ∧ fnd a q u x n W (a 8 t.toNat) z ∧ r = cmb a y z) ∧ (a 6 t.toNat = 2 → (isD (W x.toNat) → OWR a W q u x t r) ∧ (¬ isD (W x.toNat) → fnd a q u x n W (a 8 t.toNat) r)) ∧ (a 6 t.toNat = 3 → ∃ y z, OWR a (va_up W x.toNat (sml (W x.toNat))) q u x t y ∧ fnd a q u x n (va_up W x.toNat (sml (W x.toNat))) (a 8 t.toNat) z ∧ r = cmb a y z) ∧ (a 6 t.toNat < 1 ∨ 3 < a 6 t.toNat → OWR a W q u x t r)
section FNDS
variable {v v1 v2 : Nat → Int} {V1 : List Nat} {a a1 a2 : Nat → Nat → Int} {W : Nat → Int} {q u x t b r s k g f f1 f2 y z : Int} {n m : Nat}
theorem FTL.zero (h : x + a 12 r.toNat ≤ u) : FTL a W u x r 0 := ⟨h, fun j h1 h2 => absurd h1 (by omega)⟩
theorem OWI.zero : OWI a W q u x t (-1) (200 * t) := Or.inl ⟨rfl, fun s h1 h2 => absurd h1 (by omega)⟩
theorem OWI.rg (h : OWI a W q u x t b r) : b = -1 ∨ (200 * t ≤ b ∧ b < r ∧ x + a 12 b.toNat ≤ u) := by
  rcases h with ⟨h1, _⟩ | ⟨h1, h2, _⟩
  · exact Or.inl h1
  · exact Or.inr ⟨h1.1, h1.2, h2.1.1⟩
theorem OWR.rg (h : OWR a W q u x t r) : r = -1 ∨ (200 * t ≤ r ∧ r < 200 * t + a 10 t.toNat ∧ x + a 12 r.toNat ≤ u) := OWI.rg h
theorem OWR.uni (h0 : 0 ≤ t) (h : OWR a W q u x t r) (h2 : OWR a W q u x t s) : r = s := by
  rcases h with ⟨p1, p2⟩ | ⟨p1, p2, p3⟩ <;> rcases h2 with ⟨q1, q2⟩ | ⟨q1, q2, q3⟩
  · omega
  · exact absurd q2 (p2 s q1.1 q1.2)
  · exact absurd p2 (q2 r p1.1 p1.2)
  · have g1 := p3 s q1.1 q1.2 q2
    have g2 := q3 r p1.1 p1.2 p2
    by_cases w : r < s
    · have := g2.2 w; omega
    · by_cases w2 : s < r
      · have := g1.2 w2; omega
      · omega
theorem fnd_s (n : Nat) : fnd a q u x (n + 1) W t r = ((a 6 t.toNat = 1 → ∃ y z, OWR a W q u x t y ∧ fnd a q u x n W (a 8 t.toNat) z ∧ r = cmb a y z) ∧ (a 6 t.toNat = 2 → (isD (W x.toNat) → OWR a W q u x t r) ∧ (¬ isD (W x.toNat) → fnd a q u x n W (a 8 t.toNat) r)) ∧ (a 6 t.toNat = 3 → ∃ y z, OWR a (va_up W x.toNat (sml (W x.toNat))) q u x t y ∧ fnd a q u x n (va_up W x.toNat (sml (W x.toNat))) (a 8 t.toNat) z ∧ r = cmb a y z) ∧ (a 6 t.toNat < 1 ∨ 3 < a 6 t.toNat → OWR a W q u x t r)) := rfl
theorem fnd_uni (hT : TBL v a) : ∀ (n m : Nat) (W : Nat → Int) (t r s : Int), 0 ≤ t → t < v 4 → fnd a q u x n W t r → fnd a q u x m W t s → r = s := by
  intro n
  induction n with
  | zero => intro m W t r s _ _ h; exact False.elim h
  | succ n ih =>
    intro m W t r s h0 h4 h h2
    have ht := hT.1 t h0 h4
    have t8 : 1 ≤ a 6 t.toNat → a 6 t.toNat ≤ 3 → 0 ≤ a 8 t.toNat ∧ a 8 t.toNat < v 4 := by omega
    have t6 : a 6 t.toNat ≠ 1 → a 6 t.toNat ≠ 2 → a 6 t.toNat ≠ 3 → a 6 t.toNat < 1 ∨ 3 < a 6 t.toNat := by omega
    clear ht
    cases m with
    | zero => exact False.elim h2
    | succ m =>
      rw [fnd_s] at h h2
      obtain ⟨p1, p2, p3, p4⟩ := h
      obtain ⟨q1, q2, q3, q4⟩ := h2
      by_cases k1 : a 6 t.toNat = 1
      · obtain ⟨y, z, e1, e2, e3⟩ := p1 k1
        obtain ⟨y2, z2, d1, d2, d3⟩ := q1 k1
        have g1 := e1.uni h0 d1
        have g2 := ih m W _ z z2 (t8 (by omega) (by omega)).1 (t8 (by omega) (by omega)).2 e2 d2
        rw [e3, d3, g1, g2]
      · by_cases k2 : a 6 t.toNat = 2
        · by_cases c : isD (W x.toNat)
          · exact ((p2 k2).1 c).uni h0 ((q2 k2).1 c)
          · exact ih m W _ r s (t8 (by omega) (by omega)).1 (t8 (by omega) (by omega)).2 ((p2 k2).2 c) ((q2 k2).2 c)
        · by_cases k3 : a 6 t.toNat = 3
          · obtain ⟨y, z, e1, e2, e3⟩ := p3 k3
            obtain ⟨y2, z2, d1, d2, d3⟩ := q3 k3
            have g1 := e1.uni h0 d1
            have g2 := ih m _ _ z z2 (t8 (by omega) (by omega)).1 (t8 (by omega) (by omega)).2 e2 d2
            rw [e3, d3, g1, g2]
          · exact (p4 (t6 k1 k2 k3)).uni h0 (q4 (t6 k1 k2 k3))
theorem cmb_rg {P : Int → Prop} (hy : P y) (hz : P z) : P (cmb a y z) := by
  unfold cmb
  split
  · exact hz
  · exact hy
def FNP (a : Nat → Nat → Int) (u x r : Int) : Prop := r = -1 ∨ (0 ≤ r ∧ r < 6000 ∧ (1 ≤ a 12 r.toNat ∧ a 12 r.toNat ≤ 8) ∧ (1 ≤ a 13 r.toNat ∧ a 13 r.toNat ≤ 4) ∧ x + a 12 r.toNat ≤ u)
theorem own_rg (hT : TBL v a) (h30 : v 4 ≤ 30) (h0 : 0 ≤ t) (h4 : t < v 4) (h10 : a 10 t.toNat ≤ 200) (h : OWR a W q u x t r) : FNP a u x r := by
  rcases h.rg with e | ⟨e1, e2, e3⟩
  · exact Or.inl e
  · have g := hT.2 t r h0 h4 e1 e2
    exact Or.inr ⟨by omega, by omega, g.1, g.2, e3⟩
end FNDS
