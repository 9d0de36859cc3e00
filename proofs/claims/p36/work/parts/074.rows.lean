theorem up2_ne {a : Nat → Nat → Int} {k i : Nat} {z : Int} {k2 j : Nat} (h : k2 ≠ k ∨ j ≠ i) : up2 a k i z k2 j = a k2 j := by
  by_cases e : k2 = k
  · subst e; exact up2_j (h.resolve_left (fun q => q rfl))
  · exact up2_k e
def RW1 (a : Nat → Nat → Int) (q : Int) : Prop := (0 ≤ a 47 q.toNat ∧ a 47 q.toNat ≤ 6008) ∧ ∀ r : Int, 6008 * q ≤ r → r < 6008 * q + a 47 q.toNat → RowOK a r
def RWS (a : Nat → Nat → Int) : Prop := ∀ q : Int, (q = 0 ∨ q = 1) → RW1 a q
theorem RWS.of {a a2 : Nat → Nat → Int} (h : RWS a) (h4 : a2 44 = a 44) (h5 : a2 45 = a 45) (h6 : a2 46 = a 46) (h7 : a2 47 = a 47) : RWS a2 := by
  intro q hq
  have := h q hq
  unfold RW1 RowOK at this ⊢
  rw [h4, h5, h6, h7]; exact this
theorem RWS.set {a : Nat → Nat → Int} (h : RWS a) {k i : Nat} {z : Int} (hk : ([44, 45, 46, 47] : List Nat).contains k = false) : RWS (up2 a k i z) := by
  have g : ∀ j, ([44, 45, 46, 47] : List Nat).contains j = true → up2 a k i z j = a j := fun j hj => funext fun q => up2_k (fun e => by rw [e, hk] at hj; cases hj)
  exact h.of (g 44 rfl) (g 45 rfl) (g 46 rfl) (g 47 rfl)
theorem RWS.fr {V A : List Nat} {v v2 : Nat → Int} {a a2 : Nat → Nat → Int} (h : RWS a) (f : fr V A v a v2 a2) (hk : ([44, 45, 46, 47] : List Nat).all (fun j => !A.contains j) = true) : RWS a2 := by
  have g : ∀ j, j ∈ ([44, 45, 46, 47] : List Nat) → a2 j = a j := fun j hj => f.2 j (by have := List.all_eq_true.mp hk j hj; simpa using this)
  exact h.of (g 44 (by decide)) (g 45 (by decide)) (g 46 (by decide)) (g 47 (by decide))
theorem RWS.zero {a : Nat → Nat → Int} (h : RWS a) {q : Int} (hq : q = 0 ∨ q = 1) : RWS (up2 a 47 q.toNat 0) := by
  intro q2 h2
  by_cases e : q2 = q
  · subst e
    refine ⟨by rw [up2_s]; exact ⟨Int.le_refl _, by decide⟩, fun r h3 h4 => ?_⟩
    rw [up2_s] at h4; omega
  · have hn : q2.toNat ≠ q.toNat := by omega
    have g := h q2 h2
    unfold RW1 RowOK at g ⊢
    rw [up2_j hn, show up2 a 47 q.toNat 0 44 = a 44 from funext fun _ => up2_k (by decide), show up2 a 47 q.toNat 0 45 = a 45 from funext fun _ => up2_k (by decide), show up2 a 47 q.toNat 0 46 = a 46 from funext fun _ => up2_k (by decide)]
    exact g
theorem RWS.add {a : Nat → Nat → Int} (h : RWS a) {q x y z r : Int} (hq : q = 0 ∨ q = 1) (hn : a 47 q.toNat < 6008) (hr : r = 6008 * q + a 47 q.toNat) (hx : -4 ≤ x ∧ x < 6000) (hz : 1 ≤ z ∧ z ≤ 4) (hy : 0 ≤ y) (h1 : 0 ≤ x → y + z ≤ 24000) (h2 : x < 0 → y + z ≤ 480) : RWS (up2 (up2 (up2 (up2 a 44 r.toNat x) 45 r.toNat y) 46 r.toNat z) 47 q.toNat (a 47 q.toNat + 1)) := by
  intro q2 hq2
  have g := h q hq
  have g2 := h q2 hq2
  unfold RW1 at g g2
  have k47 : ∀ j, up2 (up2 (up2 (up2 a 44 r.toNat x) 45 r.toNat y) 46 r.toNat z) 47 q.toNat (a 47 q.toNat + 1) 47 j = if j = q.toNat then a 47 q.toNat + 1 else a 47 j := by
    intro j
    by_cases e : j = q.toNat
    · subst e; rw [up2_s, if_pos rfl]
    · rw [up2_ne (Or.inr e), if_neg e, up2_ne (Or.inl (by decide)), up2_ne (Or.inl (by decide)), up2_ne (Or.inl (by decide))]
  have k44 : ∀ j, up2 (up2 (up2 (up2 a 44 r.toNat x) 45 r.toNat y) 46 r.toNat z) 47 q.toNat (a 47 q.toNat + 1) 44 j = if j = r.toNat then x else a 44 j := by
    intro j
    rw [up2_ne (Or.inl (by decide)), up2_ne (Or.inl (by decide)), up2_ne (Or.inl (by decide))]
    by_cases e : j = r.toNat
    · subst e; rw [up2_s, if_pos rfl]
    · rw [up2_ne (Or.inr e), if_neg e]
  have k45 : ∀ j, up2 (up2 (up2 (up2 a 44 r.toNat x) 45 r.toNat y) 46 r.toNat z) 47 q.toNat (a 47 q.toNat + 1) 45 j = if j = r.toNat then y else a 45 j := by
    intro j
    rw [up2_ne (Or.inl (by decide)), up2_ne (Or.inl (by decide))]
    by_cases e : j = r.toNat
    · subst e; rw [up2_s, if_pos rfl]
    · rw [up2_ne (Or.inr e), if_neg e, up2_ne (Or.inl (by decide))]
  have k46 : ∀ j, up2 (up2 (up2 (up2 a 44 r.toNat x) 45 r.toNat y) 46 r.toNat z) 47 q.toNat (a 47 q.toNat + 1) 46 j = if j = r.toNat then z else a 46 j := by
    intro j
    rw [up2_ne (Or.inl (by decide))]
    by_cases e : j = r.toNat
    · subst e; rw [up2_s, if_pos rfl]
    · rw [up2_ne (Or.inr e), if_neg e, up2_ne (Or.inl (by decide)), up2_ne (Or.inl (by decide))]
  unfold RW1
  rw [k47]
  have key : ∀ t : Int, 6008 * q2 ≤ t → t < 6008 * q2 + (if q2.toNat = q.toNat then a 47 q.toNat + 1 else a 47 q2.toNat) → t = r ∨ RowOK a t := by
    intro t ht1 ht2
    by_cases e : q2 = q
    · subst e
      rw [if_pos rfl] at ht2
      by_cases e2 : t = r
      · exact Or.inl e2
      · exact Or.inr (g.2 t ht1 (by omega))
    · rw [if_neg (by omega)] at ht2
      exact Or.inr (g2.2 t ht1 ht2)
  refine ⟨?_, fun t ht1 ht2 => ?_⟩
  · split <;> omega
  · unfold RowOK
    rw [k44, k45, k46]
    by_cases e : t = r
    · subst e
      rw [if_pos rfl, if_pos rfl, if_pos rfl]
      exact ⟨⟨by omega, by omega⟩, hx, hz, hy, h1, h2⟩
    · have g3 := (key t ht1 ht2).resolve_left e
      have hne : ¬ t.toNat = r.toNat := by
        have := g3.1
        omega
      rw [if_neg hne, if_neg hne, if_neg hne]
      exact g3
