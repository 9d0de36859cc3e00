section EVNS
variable {v v1 v2 v3 : Nat → Int} {a a1 a2 a3 : Nat → Nat → Int} {T W : Nat → Int} {N q u p b f f1 f2 z x y m t n wd hy l r k : Int} {w : List (Int × Nat × Int)} {es es2 : List (Int × List (Int × Nat × Int))} {D D2 D0 : List (List Int)} {b0 b1 b2 : Nat} {cs ds xs : List Int} {st st2 : Nat → Int} {ps : List (Int × List Int)}
theorem fnd_rng (hT : TBL v a) (h30 : v 4 ≤ 30) (h10 : ∀ i, a 10 i ≤ 200) : ∀ (n : Nat) (W : Nat → Int) (t r : Int), 0 ≤ t → t < v 4 → fnd a q u x n W t r → FNP a u x r := by
  intro n
  induction n with
  | zero => intro W t r _ _ h; exact False.elim h
  | succ n ih =>
    intro W t r h0 h4 h
    have ht := hT.1 t h0 h4
    have t8 : 1 ≤ a 6 t.toNat → a 6 t.toNat ≤ 3 → 0 ≤ a 8 t.toNat ∧ a 8 t.toNat < v 4 := by omega
    have t6 : a 6 t.toNat ≠ 1 → a 6 t.toNat ≠ 2 → a 6 t.toNat ≠ 3 → a 6 t.toNat < 1 ∨ 3 < a 6 t.toNat := by omega
    clear ht
    rw [fnd_s] at h
    obtain ⟨p1, p2, p3, p4⟩ := h
    by_cases k1 : a 6 t.toNat = 1
    · obtain ⟨y, z, e1, e2, e3⟩ := p1 k1
      rw [e3]
      exact cmb_rg (P := FNP a u x) (own_rg hT h30 h0 h4 (h10 _) e1) (ih W _ z (t8 (by omega) (by omega)).1 (t8 (by omega) (by omega)).2 e2)
    · by_cases k2 : a 6 t.toNat = 2
      · by_cases c : isD (W x.toNat)
        · exact own_rg hT h30 h0 h4 (h10 _) ((p2 k2).1 c)
        · exact ih W _ r (t8 (by omega) (by omega)).1 (t8 (by omega) (by omega)).2 ((p2 k2).2 c)
      · by_cases k3 : a 6 t.toNat = 3
        · obtain ⟨y, z, e1, e2, e3⟩ := p3 k3
          rw [e3]
          exact cmb_rg (P := FNP a u x) (own_rg hT h30 h0 h4 (h10 _) e1) (ih _ _ z (t8 (by omega) (by omega)).1 (t8 (by omega) (by omega)).2 e2)
        · exact own_rg hT h30 h0 h4 (h10 _) (p4 (t6 k1 k2 k3))
theorem PC1.rg (hT : TBL v a) (h30 : v 4 ≤ 30) (h10 : ∀ i, a 10 i ≤ 200) (ht : 0 ≤ t ∧ t < v 4) (h : PC1 a W t q u x l cs) : 1 ≤ l ∧ 1 ≤ cs.length := by
  obtain ⟨r, ⟨r0, e⟩, p⟩ := h
  rcases p with ⟨p4, p5⟩ | ⟨_, _, p6, p7⟩
  · have g := fnd_rng hT h30 h10 _ _ _ _ ht.1 ht.2 p4
    rcases g with g | ⟨g1, g2, g3, g4, g5⟩
    · omega
    · have e2 := RCL.len (a := a) (r := r) (by omega)
      rw [p5, List.length_append]
      omega
  · have g := fnd_rng hT h30 h10 _ _ _ _ ht.1 ht.2 p6
    rcases g with g | ⟨g1, g2, g3, g4, g5⟩
    · omega
    · have e2 := RCL.len (a := a) (r := r) (by omega)
      rw [p7, List.length_append]
      omega
theorem ptp.ne (hl : ∀ x l cs, PC1 a W t q u x l cs → 1 ≤ l ∧ 1 ≤ cs.length) : ∀ (ps : List (Int × List Int)) (x y : Int), ptp a W t q u x ps y → ∀ p ∈ ps, 1 ≤ p.2.length := by
  intro ps
  induction ps with
  | nil => intro x y _ p hp; cases hp
  | cons p0 ps ih =>
    intro x y h p hp
    obtain ⟨_, _, l, h3, h4⟩ := h
    rcases List.mem_cons.mp hp with e | e
    · rw [e]; exact (hl x l _ h3).2
    · exact ih _ _ h4 p e
theorem ptp.mono (hl : ∀ x l cs, PC1 a W t q u x l cs → 1 ≤ l ∧ 1 ≤ cs.length) {i j : Nat} (hij : i < j) : ∀ (ps : List (Int × List Int)) (x m di dj : Int), ptp a W t q u x ps y → 0 ≤ x → 0 ≤ m → (0 ≤ di → 0 ≤ dj → di ≤ dj) → (x ≤ ((j : Nat) : Int) → dj = -1) → di ≤ m → dj ≤ m → 0 ≤ bgn ps m i di → 0 ≤ bgn ps m j dj → bgn ps m i di ≤ bgn ps m j dj := by
  intro ps
  induction ps with
  | nil => intro x m di dj _ _ _ c1 _ _ _ h1 h2; exact c1 h1 h2
  | cons p ps ih =>
    intro x m di dj h h0 hm c1 c2 c3 c4 h1 h2
    obtain ⟨_, e, l, h3, h4⟩ := h
    have l1 := (hl x l _ h3).1
    have ex : p.1.toNat = x.toNat := by rw [e]
    refine ih (x + l) (m + ((p.2.length : Nat) : Int)) _ _ h4 (by omega) (by omega) ?_ ?_ ?_ ?_ h1 h2
    · intro g1 g2
      by_cases ci : i = p.1.toNat
      · rw [if_pos ci] at g1 ⊢
        rw [if_neg (by omega)] at g2 ⊢
        have := c2 (by omega)
        omega
      · rw [if_neg ci] at g1 ⊢
        by_cases cj : j = p.1.toNat
        · rw [if_pos cj]
          exact c3
        · rw [if_neg cj] at g2 ⊢
          exact c1 g1 g2
    · intro g
      rw [if_neg (by omega)]
      exact c2 (by omega)
    · split <;> omega
    · split <;> omega
end EVNS
section RSET
variable {v v1 v2 v3 : Nat → Int} {a a1 a2 a3 : Nat → Nat → Int} {q u p b f f1 f2 z x y m t n g k c : Int} {w : List (Int × Nat × Int)} {es : List (Int × List (Int × Nat × Int))} {D : List (List Int)} {i i2 : Nat} {cs : List Int} {st : Nat → Int}
end RSET
