def sgj (g : Int) : Int := if g = 1 then 62 else 60
def prt (a : Nat → Nat → Int) (t g : Int) : Int := if g = 1 then a 9 t.toNat else a 8 t.toNat
def ind4 (t g : Int) : Int := if g = 1 then 4 * t + 3 else 4 * t + 2
def NSG (W : Nat → Int) (c x y : Int) : Prop := ∀ j : Int, x ≤ j → j < y → W j.toNat ≠ c
def SEG (a : Nat → Nat → Int) (W : Nat → Int) (n t g x y : Int) (ps : List (Int × List Int)) : Prop := (x ≤ y ∧ y ≤ n) ∧ NSG W (sgj g) x y ∧ (y = n ∨ W y.toNat = sgj g) ∧ ∃ z, ptp a W (prt a t g) x y x ps z ∧ y ≤ z
def jtp (a : Nat → Nat → Int) (W : Nat → Int) (n t : Int) : Int → Int → List (Int × List (Int × List Int)) → Int → Int → Prop
  | g, x, [], g2, x2 => g = g2 ∧ x = x2
  | g, x, p :: js, g2, x2 => SEG a W n t g x p.1 p.2 ∧ p.1 < n ∧ 0 < a 16 (ind4 t g).toNat ∧ jtp a W n t (1 - g) (p.1 + 1) js g2 x2
def jcl (a : Nat → Nat → Int) (t : Int) : Int → List (Int × List (Int × List Int)) → List Int
  | _, [] => []
  | g, p :: js => (cls p.2 ++ ICL a (ind4 t g)) ++ jcl a t (1 - g) js
section WORD
variable {v v1 v2 v3 : Nat → Int} {V1 A1 : List Nat} {a a1 a2 a3 : Nat → Nat → Int} {W : Nat → Int} {q u x y z t r k f I c g g2 x2 n l m : Int} {cs ds l0 : List Int} {ps qs : List (Int × List Int)} {js : List (Int × List (Int × List Int))}
theorem ptp.uni (hT : TBL v a) (h0 : 0 ≤ t) (h4 : t < v 4) (h : ptp a W t q u x ps y) (hy : u ≤ y) (h2 : ptp a W t q u x qs z) (hz : u ≤ z) : ps = qs := by
  obtain ⟨rs, k1, k2⟩ := ptp.ext hT h0 h4 ps qs x z h h2 hz
  cases rs with
  | nil => rw [k1, List.append_nil]
  | cons p rs => have := k2.1; omega
theorem SEG.uni {y2 : Int} (hT : TBL v a) (h0 : 0 ≤ prt a t g) (h4 : prt a t g < v 4) (h : SEG a W n t g x y ps) (h2 : SEG a W n t g x y2 qs) : y = y2 ∧ ps = qs := by
  obtain ⟨⟨p1, p2⟩, p3, p4, z, p5, p6⟩ := h
  obtain ⟨⟨q1, q2⟩, q3, q4, z2, q5, q6⟩ := h2
  have e : y = y2 := by
    by_cases c : y < y2
    · rcases p4 with p4 | p4
      · omega
      · exact absurd p4 (q3 y p1 c)
    · by_cases c2 : y2 < y
      · rcases q4 with q4 | q4
        · omega
        · exact absurd q4 (p3 y2 q1 c2)
      · omega
  subst e
  exact ⟨rfl, ptp.uni hT h0 h4 p5 p6 q5 q6⟩
theorem prt.ok (hT : TBL v a) (ht : 0 ≤ t ∧ t < v 4) (h5 : a 6 t.toNat = 5) : (0 ≤ prt a t g ∧ prt a t g < v 4) ∧ a 6 (prt a t g).toNat ≤ 3 := by
  have h := hT.1 t ht.1 ht.2
  unfold prt
  split <;> omega
theorem jtp.snoc : ∀ (js : List (Int × List (Int × List Int))) (g0 x0 : Int), jtp a W n t g0 x0 js g x → SEG a W n t g x y ps → y < n → 0 < a 16 (ind4 t g).toNat → jtp a W n t g0 x0 (js ++ [(y, ps)]) (1 - g) (y + 1) := by
  intro js
  induction js with
  | nil => intro g0 x0 h h1 h2 h3; obtain ⟨rfl, rfl⟩ := h; exact ⟨h1, h2, h3, rfl, rfl⟩
  | cons p js ih =>
    intro g0 x0 h h1 h2 h3
    obtain ⟨k1, k2, k3, k4⟩ := h
    exact ⟨k1, k2, k3, ih _ _ k4 h1 h2 h3⟩
theorem jcl.snoc (hg : g = 0 ∨ g = 1) : ∀ (js : List (Int × List (Int × List Int))) (g0 x0 : Int), jtp a W n t g0 x0 js g x → jcl a t g0 (js ++ [(y, ps)]) = jcl a t g0 js ++ (cls ps ++ ICL a (ind4 t g)) := by
  intro js
  induction js with
  | nil => intro g0 x0 h; obtain ⟨rfl, rfl⟩ := h; show (cls ps ++ ICL a (ind4 t g0)) ++ [] = [] ++ _; rw [List.append_nil, List.nil_append]
  | cons p js ih =>
    intro g0 x0 h
    obtain ⟨k1, k2, k3, k4⟩ := h
    show (cls p.2 ++ ICL a (ind4 t g0)) ++ jcl a t (1 - g0) (js ++ [(y, ps)]) = ((cls p.2 ++ ICL a (ind4 t g0)) ++ jcl a t (1 - g0) js) ++ _
    rw [ih _ _ k4]
    exact (List.append_assoc _ _ _).symm
theorem jtp.ext (hT : TBL v a) (ht : 0 ≤ t ∧ t < v 4) (h5 : a 6 t.toNat = 5) : ∀ (js ks : List (Int × List (Int × List Int))) (g0 x0 g2 x2 : Int) (qs : List (Int × List Int)), jtp a W n t g0 x0 js g x → jtp a W n t g0 x0 ks g2 x2 → SEG a W n t g2 x2 n qs → ∃ ls, ks = js ++ ls ∧ jtp a W n t g x ls g2 x2 := by
  intro js
  induction js with
  | nil => intro ks g0 x0 g2 x2 qs h h2 _; obtain ⟨rfl, rfl⟩ := h; exact ⟨ks, rfl, h2⟩
  | cons p js ih =>
    intro ks g0 x0 g2 x2 qs h h2 hs
    obtain ⟨k1, k2, k3, k4⟩ := h
    have pk := prt.ok (g := g0) hT ht h5
    cases ks with
    | nil =>
      obtain ⟨rfl, rfl⟩ := h2
      have e := SEG.uni hT pk.1.1 pk.1.2 k1 hs
      omega
    | cons p2 ks =>
      obtain ⟨m1, m2, m3, m4⟩ := h2
      have e := SEG.uni hT pk.1.1 pk.1.2 k1 m1
      have e2 : p2 = p := Prod.ext e.1.symm e.2.symm
      subst e2
      obtain ⟨ls, w1, w2⟩ := ih ks _ _ g2 x2 qs k4 m4 hs
      exact ⟨ls, by rw [w1]; rfl, w2⟩
theorem jcl.app : ∀ (js ls : List (Int × List (Int × List Int))) (g0 x0 : Int), jtp a W n t g0 x0 js g x → jcl a t g0 (js ++ ls) = jcl a t g0 js ++ jcl a t g ls := by
  intro js
  induction js with
  | nil => intro ls g0 x0 h; obtain ⟨rfl, rfl⟩ := h; rfl
  | cons p js ih =>
    intro ls g0 x0 h
    obtain ⟨k1, k2, k3, k4⟩ := h
    show (cls p.2 ++ ICL a (ind4 t g0)) ++ jcl a t (1 - g0) (js ++ ls) = ((cls p.2 ++ ICL a (ind4 t g0)) ++ jcl a t (1 - g0) js) ++ _
    rw [ih _ _ _ k4]
    exact (List.append_assoc _ _ _).symm
theorem NSG.zero : NSG W c x x := fun j h1 h2 => absurd h1 (by omega)
theorem NSG.step (h : NSG W c x y) (e : W y.toNat ≠ c) : NSG W c x (y + 1) := fun j h1 h2 => by
  by_cases w : j < y
  · exact h j h1 w
  · rw [show j = y by omega]; exact e
theorem seg_len {ls : List (Int × List (Int × List Int))} {g3 x3 : Int} (hT : TBL v a) (ht : 0 ≤ t ∧ t < v 4) (h5 : a 6 t.toNat = 5) (hj : jtp a W n t g x ls g3 x3) (hs : SEG a W n t g3 x3 n qs) (hy : x ≤ y ∧ y ≤ n) (hN : NSG W (sgj g) x y) (he : y = n ∨ W y.toNat = sgj g) : ∃ ps z, (ptp a W (prt a t g) x y x ps z ∧ y ≤ z) ∧ ((cls ps).length ≤ (jcl a t g ls ++ cls qs).length) ∧ (y = n ∨ (y < n ∧ 0 < a 16 (ind4 t g).toNat ∧ (cls ps ++ ICL a (ind4 t g)).length ≤ (jcl a t g ls ++ cls qs).length)) := by
  cases ls with
  | nil =>
    obtain ⟨rfl, rfl⟩ := hj
    obtain ⟨⟨p1, p2⟩, p3, p4, z, p5, p6⟩ := hs
    have e : y = n := by
      rcases he with he | he
      · exact he
      · by_cases c : y < n
        · exact absurd he (p3 y hy.1 c)
        · omega
    subst e
    exact ⟨qs, z, ⟨p5, p6⟩, Nat.le_refl _, Or.inl rfl⟩
  | cons p ls =>
    obtain ⟨m1, m2, m3, m4⟩ := hj
    obtain ⟨⟨p1, p2⟩, p3, p4, z, p5, p6⟩ := m1
    have e : p.1 = y := by
      by_cases c : y < p.1
      · rcases he with he | he
        · omega
        · exact absurd he (p3 y hy.1 c)
      · by_cases c2 : p.1 < y
        · rcases p4 with p4 | p4
          · omega
          · exact absurd p4 (hN p.1 p1 c2)
        · omega
    subst e
    refine ⟨p.2, z, ⟨p5, p6⟩, ?_, Or.inr ⟨m2, m3, ?_⟩⟩
    · show _ ≤ (((cls p.2 ++ ICL a (ind4 t g)) ++ jcl a t (1 - g) ls) ++ cls qs).length
      simp only [List.length_append]; omega
    · show _ ≤ (((cls p.2 ++ ICL a (ind4 t g)) ++ jcl a t (1 - g) ls) ++ cls qs).length
      simp only [List.length_append]; omega
end WORD
theorem NSG.re {W : Nat → Int} {c x y y2 : Int} (h : NSG W c x y) (hy : y = y2) : NSG W c x y2 := by
  subst hy
  exact h
