section
abbrev isD (c : Int) : Prop := 48 ≤ c ∧ c ≤ 57
abbrev isG (c : Int) : Prop := 65 ≤ c ∧ c ≤ 90
abbrev isS (c : Int) : Prop := 97 ≤ c ∧ c ≤ 122
def CND (a : Nat → Nat → Int) (W : Nat → Int) (q u x r : Int) : Prop := a 11 r.toNat = 0 ∨ (a 11 r.toNat = 1 ∧ x = q) ∨ (a 11 r.toNat = 2 ∧ x ≠ q ∧ x + a 12 r.toNat ≠ u) ∨ (a 11 r.toNat = 3 ∧ x + a 12 r.toNat = u) ∨ (a 11 r.toNat = 4 ∧ x = q ∧ x + a 12 r.toNat = u) ∨ ((a 11 r.toNat < 0 ∨ 4 < a 11 r.toNat) ∧ x + a 12 r.toNat ≠ u ∧ ¬ isD (W (x + a 12 r.toNat).toNat) ∧ ¬ isG (W (x + a 12 r.toNat).toNat) ∧ ¬ isS (W (x + a 12 r.toNat).toNat))
def FTL (a : Nat → Nat → Int) (W : Nat → Int) (u x r k : Int) : Prop := x + a 12 r.toNat ≤ u ∧ ∀ j : Int, 0 ≤ j → j < k → a 14 (8 * r + j).toNat = W (x + j).toNat
def FIT (a : Nat → Nat → Int) (W : Nat → Int) (q u x r : Int) : Prop := FTL a W u x r (a 12 r.toNat) ∧ CND a W q u x r
def FTG (a : Nat → Nat → Int) (W : Nat → Int) (u x r k g : Int) : Prop := g = 1 ↔ FTL a W u x r k
def FTE (f : Int) (a : Nat → Nat → Int) (q u x r : Int) : Prop := f = 1 ↔ FIT a (a 20) q u x r
def OWI (a : Nat → Nat → Int) (W : Nat → Int) (q u x t b r : Int) : Prop := (b = -1 ∧ ∀ s : Int, 200 * t ≤ s → s < r → ¬ FIT a W q u x s) ∨ ((200 * t ≤ b ∧ b < r) ∧ FIT a W q u x b ∧ ∀ s : Int, 200 * t ≤ s → s < r → FIT a W q u x s → a 12 s.toNat ≤ a 12 b.toNat ∧ (s < b → a 12 s.toNat < a 12 b.toNat))
def OWR (a : Nat → Nat → Int) (W : Nat → Int) (q u x t r : Int) : Prop := OWI a W q u x t r (200 * t + a 10 t.toNat)
def cmb (a : Nat → Nat → Int) (x y : Int) : Int := if x < 0 ∨ (0 ≤ y ∧ a 12 x.toNat < a 12 y.toNat) then y else x
def sml (c : Int) : Int := if 65 ≤ c ∧ c ≤ 90 then c + 32 else c
def fnd (a : Nat → Nat → Int) (q u x : Int) : Nat → (Nat → Int) → Int → Int → Prop
  | 0, _, _, _ => False
  | n + 1, W, t, r => (a 6 t.toNat = 1 → ∃ y z, OWR a W q u x t y ∧ fnd a q u x n W (a 8 t.toNat) z ∧ r = cmb a y z) ∧ (a 6 t.toNat = 2 → (isD (W x.toNat) → OWR a W q u x t r) ∧ (¬ isD (W x.toNat) → fnd a q u x n W (a 8 t.toNat) r)) ∧ (a 6 t.toNat = 3 → ∃ y z, OWR a (va_up W x.toNat (sml (W x.toNat))) q u x t y ∧ fnd a q u x n (va_up W x.toNat (sml (W x.toNat))) (a 8 t.toNat) z ∧ r = cmb a y z) ∧ (a 6 t.toNat < 1 ∨ 3 < a 6 t.toNat → OWR a W q u x t r)
section FNDS
variable {v v1 v2 : Nat → Int} {V1 : List Nat} {a a1 a2 : Nat → Nat → Int} {W : Nat → Int} {q u x t b r s k g f f1 f2 y z : Int} {n m : Nat}
theorem FTL.zero (h : x + a 12 r.toNat ≤ u) : FTL a W u x r 0 := ⟨h, fun j h1 h2 => absurd h1 (by omega)⟩
theorem FTG.init1 (h : x + a 12 r.toNat ≤ u) : FTG a W u x r 0 1 := ⟨fun _ => FTL.zero h, fun _ => rfl⟩
theorem FTG.init0 (h : ¬ x + a 12 r.toNat ≤ u) : FTG a W u x r 0 0 := ⟨fun e => absurd e (by decide), fun e => absurd e.1 h⟩
theorem FTG.step1 (h : FTG a W u x r k g) (hg : g = 1) (e : a 14 (8 * r + k).toNat = W (x + k).toNat) : FTG a W u x r (k + 1) 1 := ⟨fun _ => ⟨(h.mp hg).1, fun j h1 h2 => by
  by_cases w : j < k
  · exact (h.mp hg).2 j h1 w
  · rw [show j = k by omega]; exact e⟩, fun _ => rfl⟩
theorem FTG.step0 (h0 : 0 ≤ k) (e : a 14 (8 * r + k).toNat ≠ W (x + k).toNat) : FTG a W u x r (k + 1) 0 := ⟨fun w => absurd w (by decide), fun w => absurd (w.2 k h0 (by omega)) e⟩
theorem FTE.no (h : FTG a (a 20) u x r k g) (hg : g ≠ 1) (hk : k ≤ a 12 r.toNat) : FTE 0 a q u x r := ⟨fun w => absurd w (by decide), fun w => absurd (h.mpr ⟨w.1.1, fun j h1 h2 => w.1.2 j h1 (by omega)⟩) hg⟩
theorem FTE.cn (hc : ¬ CND a (a 20) q u x r) : FTE 0 a q u x r := ⟨fun w => absurd w (by decide), fun w => absurd w.2 hc⟩
theorem FTE.cy (h : FTG a (a 20) u x r k g) (hg : g = 1) (hk : a 12 r.toNat ≤ k) (hc : CND a (a 20) q u x r) : FTE 1 a q u x r := ⟨fun _ => ⟨⟨(h.mp hg).1, fun j h1 h2 => (h.mp hg).2 j h1 (by omega)⟩, hc⟩, fun _ => rfl⟩
theorem OWI.zero : OWI a W q u x t (-1) (200 * t) := Or.inl ⟨rfl, fun s h1 h2 => absurd h1 (by omega)⟩
theorem OWI.rg (h : OWI a W q u x t b r) : b = -1 ∨ (200 * t ≤ b ∧ b < r ∧ x + a 12 b.toNat ≤ u) := by
  rcases h with ⟨h1, _⟩ | ⟨h1, h2, _⟩
  · exact Or.inl h1
  · exact Or.inr ⟨h1.1, h1.2, h2.1.1⟩
theorem OWI.skip (h : OWI a W q u x t b r) (hb : 200 * t ≤ b) (hl : a 12 r.toNat ≤ a 12 b.toNat) (h0 : 0 ≤ t) : OWI a W q u x t b (r + 1) := by
  rcases h with ⟨h1, _⟩ | ⟨h1, h2, h3⟩
  · omega
  · refine Or.inr ⟨⟨h1.1, by omega⟩, h2, fun s s1 s2 s3 => ?_⟩
    by_cases w : s < r
    · exact h3 s s1 w s3
    · rw [show s = r by omega]; exact ⟨hl, fun e => absurd e (by omega)⟩
theorem OWI.miss (h : OWI a W q u x t b r) (hf : ¬ FIT a W q u x r) : OWI a W q u x t b (r + 1) := by
  rcases h with ⟨h1, h2⟩ | ⟨h1, h2, h3⟩
  · exact Or.inl ⟨h1, fun s s1 s2 => by
      by_cases w : s < r
      · exact h2 s s1 w
      · rw [show s = r by omega]; exact hf⟩
  · refine Or.inr ⟨⟨h1.1, by omega⟩, h2, fun s s1 s2 s3 => ?_⟩
    by_cases w : s < r
    · exact h3 s s1 w s3
    · rw [show s = r by omega] at s3; exact absurd s3 hf
theorem OWI.hit (h : OWI a W q u x t b r) (hr : 200 * t ≤ r) (hl : b < 0 ∨ a 12 b.toNat < a 12 r.toNat) (h0 : 0 ≤ t) (hf : FIT a W q u x r) : OWI a W q u x t r (r + 1) := by
  refine Or.inr ⟨⟨hr, by omega⟩, hf, fun s s1 s2 s3 => ?_⟩
  by_cases w : s < r
  · rcases h with ⟨h1, h2⟩ | ⟨h1, h2, h3⟩
    · exact absurd s3 (h2 s s1 w)
    · have g := h3 s s1 w s3
      exact ⟨by omega, fun _ => by omega⟩
  · rw [show s = r by omega]; exact ⟨Int.le_refl _, fun e => absurd e (by omega)⟩
theorem OWR.rg (h : OWR a W q u x t r) : r = -1 ∨ (200 * t ≤ r ∧ r < 200 * t + a 10 t.toNat ∧ x + a 12 r.toNat ≤ u) := OWI.rg h
theorem OWR.uni (h0 : 0 ≤ t) (h : OWR a W q u x t r) (h2 : OWR a W q u x t s) : r = s := by
  rcases h with ⟨p1, p2⟩ | ⟨p1, p2, p3⟩ <;> rcases h2 with ⟨q1, q2⟩ | ⟨q1, q2, q3⟩
  · omega
  · exact absurd q2 (p2 s q1.1 q1.2)
  · exact absurd p2 (q2 r p1.1 p1.2)
  · have g1 := p3 s q1.1 q1.2 q2
    have g2 := q3 r p1.1 p1.2 p2
    by_cases w : r < s
    · have := g2.2 w; omega
    · by_cases w2 : s < r
      · have := g1.2 w2; omega
      · omega
theorem fnd_s (n : Nat) : fnd a q u x (n + 1) W t r = ((a 6 t.toNat = 1 → ∃ y z, OWR a W q u x t y ∧ fnd a q u x n W (a 8 t.toNat) z ∧ r = cmb a y z) ∧ (a 6 t.toNat = 2 → (isD (W x.toNat) → OWR a W q u x t r) ∧ (¬ isD (W x.toNat) → fnd a q u x n W (a 8 t.toNat) r)) ∧ (a 6 t.toNat = 3 → ∃ y z, OWR a (va_up W x.toNat (sml (W x.toNat))) q u x t y ∧ fnd a q u x n (va_up W x.toNat (sml (W x.toNat))) (a 8 t.toNat) z ∧ r = cmb a y z) ∧ (a 6 t.toNat < 1 ∨ 3 < a 6 t.toNat → OWR a W q u x t r)) := rfl
theorem fnd_uni (hT : TBL v a) : ∀ (n m : Nat) (W : Nat → Int) (t r s : Int), 0 ≤ t → t < v 4 → fnd a q u x n W t r → fnd a q u x m W t s → r = s := by
  intro n
  induction n with
  | zero => intro m W t r s _ _ h; exact False.elim h
  | succ n ih =>
    intro m W t r s h0 h4 h h2
    have ht := hT.1 t h0 h4
    have t8 : 1 ≤ a 6 t.toNat → a 6 t.toNat ≤ 3 → 0 ≤ a 8 t.toNat ∧ a 8 t.toNat < v 4 := by omega
    have t6 : a 6 t.toNat ≠ 1 → a 6 t.toNat ≠ 2 → a 6 t.toNat ≠ 3 → a 6 t.toNat < 1 ∨ 3 < a 6 t.toNat := by omega
    clear ht
    cases m with
    | zero => exact False.elim h2
    | succ m =>
      rw [fnd_s] at h h2
      obtain ⟨p1, p2, p3, p4⟩ := h
      obtain ⟨q1, q2, q3, q4⟩ := h2
      by_cases k1 : a 6 t.toNat = 1
      · obtain ⟨y, z, e1, e2, e3⟩ := p1 k1
        obtain ⟨y2, z2, d1, d2, d3⟩ := q1 k1
        have g1 := e1.uni h0 d1
        have g2 := ih m W _ z z2 (t8 (by omega) (by omega)).1 (t8 (by omega) (by omega)).2 e2 d2
        rw [e3, d3, g1, g2]
      · by_cases k2 : a 6 t.toNat = 2
        · by_cases c : isD (W x.toNat)
          · exact ((p2 k2).1 c).uni h0 ((q2 k2).1 c)
          · exact ih m W _ r s (t8 (by omega) (by omega)).1 (t8 (by omega) (by omega)).2 ((p2 k2).2 c) ((q2 k2).2 c)
        · by_cases k3 : a 6 t.toNat = 3
          · obtain ⟨y, z, e1, e2, e3⟩ := p3 k3
            obtain ⟨y2, z2, d1, d2, d3⟩ := q3 k3
            have g1 := e1.uni h0 d1
            have g2 := ih m _ _ z z2 (t8 (by omega) (by omega)).1 (t8 (by omega) (by omega)).2 e2 d2
            rw [e3, d3, g1, g2]
          · exact (p4 (t6 k1 k2 k3)).uni h0 (q4 (t6 k1 k2 k3))
theorem cmb_rg {P : Int → Prop} (hy : P y) (hz : P z) : P (cmb a y z) := by
  unfold cmb
  split
  · exact hz
  · exact hy
def FNP (a : Nat → Nat → Int) (u x r : Int) : Prop := r = -1 ∨ (0 ≤ r ∧ r < 6000 ∧ (1 ≤ a 12 r.toNat ∧ a 12 r.toNat ≤ 8) ∧ (1 ≤ a 13 r.toNat ∧ a 13 r.toNat ≤ 4) ∧ x + a 12 r.toNat ≤ u)
theorem own_rg (hT : TBL v a) (h30 : v 4 ≤ 30) (h0 : 0 ≤ t) (h4 : t < v 4) (h10 : a 10 t.toNat ≤ 200) (h : OWR a W q u x t r) : FNP a u x r := by
  rcases h.rg with e | ⟨e1, e2, e3⟩
  · exact Or.inl e
  · have g := hT.2 t r h0 h4 e1 e2
    exact Or.inr ⟨by omega, by omega, g.1, g.2, e3⟩
theorem OWR_cg (h10 : a1 10 = a 10) (h11 : a1 11 = a 11) (h12 : a1 12 = a 12) (h14 : a1 14 = a 14) : OWR a1 W q u x t r = OWR a W q u x t r := by
  unfold OWR OWI FIT FTL CND
  rw [h10, h11, h12, h14]
theorem cmb_cg (h12 : a1 12 = a 12) : cmb a1 y z = cmb a y z := by unfold cmb; rw [h12]
theorem fnd_cg (h6 : a1 6 = a 6) (h8 : a1 8 = a 8) (h10 : a1 10 = a 10) (h11 : a1 11 = a 11) (h12 : a1 12 = a 12) (h14 : a1 14 = a 14) : ∀ (n : Nat) (W : Nat → Int) (t r : Int), fnd a1 q u x n W t r → fnd a q u x n W t r := by
  intro n
  induction n with
  | zero => intro W t r h; exact h
  | succ n ih =>
    intro W t r h
    rw [fnd_s, h6, h8] at h
    rw [fnd_s]
    obtain ⟨p1, p2, p3, p4⟩ := h
    refine ⟨fun k => ?_, fun k => ⟨fun c => ?_, fun c => ?_⟩, fun k => ?_, fun k => ?_⟩
    · obtain ⟨y, z, e1, e2, e3⟩ := p1 k
      rw [OWR_cg h10 h11 h12 h14] at e1
      rw [cmb_cg h12] at e3
      exact ⟨y, z, e1, ih _ _ _ e2, e3⟩
    · have e := (p2 k).1 c
      rw [OWR_cg h10 h11 h12 h14] at e
      exact e
    · exact ih _ _ _ ((p2 k).2 c)
    · obtain ⟨y, z, e1, e2, e3⟩ := p3 k
      rw [OWR_cg h10 h11 h12 h14] at e1
      rw [cmb_cg h12] at e3
      exact ⟨y, z, e1, ih _ _ _ e2, e3⟩
    · have e := p4 k
      rw [OWR_cg h10 h11 h12 h14] at e
      exact e
def CTD (a : Nat → Nat → Int) (q u x : Int) (n : Nat) (W : Nat → Int) (t f : Int) : Prop := ∃ y z, OWR a W q u x t y ∧ fnd a q u x n W (a 8 t.toNat) z ∧ f = cmb a y z
theorem CTD.mk (f1 : fr V1 [27] v a v1 a1) (f2 : fr V1 [27] v a v2 a2) (h1 : OWR a1 (a1 20) q u x t y) (h2 : fnd a2 q u x n (a2 20) (a 8 t.toNat) z) (hf : f = cmb a y z) : CTD a q u x n (a 20) t f := by
  refine hv2 (show a1 20 = a 20 from f1.2 20 rfl) (show a2 20 = a 20 from f2.2 20 rfl) (fun w1 w2 => ?_)
  rw [w1, OWR_cg (f1.2 10 rfl) (f1.2 11 rfl) (f1.2 12 rfl) (f1.2 14 rfl)] at h1
  rw [w2] at h2
  exact ⟨y, z, h1, fnd_cg (f2.2 6 rfl) (f2.2 8 rfl) (f2.2 10 rfl) (f2.2 11 rfl) (f2.2 12 rfl) (f2.2 14 rfl) n _ _ _ h2, hf⟩
theorem CTD.cg {A : List Nat} (f1 : fr V1 A v a v1 a1) (hA : ([6, 8, 10, 11, 12, 14] : List Nat).all (fun j => !A.contains j) = true) (h : CTD a1 q u x n W t f) : CTD a q u x n W t f := by
  have g : ∀ j, j ∈ ([6, 8, 10, 11, 12, 14] : List Nat) → a1 j = a j := fun j hj => f1.2 j (by have := List.all_eq_true.mp hA j hj; simpa using this)
  have g6 := g 6 (by decide); have g8 := g 8 (by decide); have g10 := g 10 (by decide); have g11 := g 11 (by decide); have g12 := g 12 (by decide); have g14 := g 14 (by decide)
  obtain ⟨y, z, e1, e2, e3⟩ := h
  rw [OWR_cg g10 g11 g12 g14] at e1
  rw [g8] at e2
  rw [cmb_cg g12] at e3
  exact ⟨y, z, e1, fnd_cg g6 g8 g10 g11 g12 g14 n _ _ _ e2, e3⟩
theorem fnd.k1 (h6 : a 6 t.toNat = 1) (h : CTD a q u x n W t f) : fnd a q u x (n + 1) W t f := ⟨fun _ => h, fun e => absurd e (by omega), fun e => absurd e (by omega), fun e => absurd e (by omega)⟩
theorem fnd.k2 (h6 : a 6 t.toNat = 2) (hc : isD (W x.toNat)) (h : OWR a W q u x t f) : fnd a q u x (n + 1) W t f := ⟨fun e => absurd e (by omega), fun _ => ⟨fun _ => h, fun e => absurd hc e⟩, fun e => absurd e (by omega), fun e => absurd e (by omega)⟩
theorem fnd.k2n (h6 : a 6 t.toNat = 2) (hc : ¬ isD (W x.toNat)) (h : fnd a q u x n W (a 8 t.toNat) f) : fnd a q u x (n + 1) W t f := ⟨fun e => absurd e (by omega), fun _ => ⟨fun e => absurd e hc, fun _ => h⟩, fun e => absurd e (by omega), fun e => absurd e (by omega)⟩
theorem fnd.k3 {Z : Nat → Int} (h6 : a 6 t.toNat = 3) (hZ : Z = va_up W x.toNat (sml (W x.toNat))) (h : CTD a q u x n Z t f) : fnd a q u x (n + 1) W t f := by
  subst hZ
  exact ⟨fun e => absurd e (by omega), fun e => absurd e (by omega), fun _ => h, fun e => absurd e (by omega)⟩
theorem fnd.k0 (h6 : a 6 t.toNat < 1 ∨ 3 < a 6 t.toNat) (h : OWR a W q u x t f) : fnd a q u x (n + 1) W t f := ⟨fun e => absurd e (by omega), fun e => absurd e (by omega), fun e => absurd e (by omega), fun _ => h⟩
theorem OWR.fx (f1 : fr V1 [27] v a v1 a1) (h1 : OWR a1 (a1 20) q u x t y) : OWR a (a 20) q u x t y := by
  have w1 : a1 20 = a 20 := f1.2 20 rfl
  rw [w1, OWR_cg (f1.2 10 rfl) (f1.2 11 rfl) (f1.2 12 rfl) (f1.2 14 rfl)] at h1
  exact h1
theorem fnd.fx (f1 : fr V1 [27] v a v1 a1) (h1 : fnd a1 q u x n (a1 20) t y) : fnd a q u x n (a 20) t y := by
  have w1 : a1 20 = a 20 := f1.2 20 rfl
  rw [w1] at h1
  exact fnd_cg (f1.2 6 rfl) (f1.2 8 rfl) (f1.2 10 rfl) (f1.2 11 rfl) (f1.2 12 rfl) (f1.2 14 rfl) n _ _ _ h1
end FNDS
set_option maxHeartbeats 4000000 in
set_option maxRecDepth 100000 in
theorem E_fits {l : Launch} {G : GT} {h0 : Nat} {ad ln : Nat → Nat} {v : Nat → Int} {a : Nat → Nat → Int}  {w q u x : Int} (hB : BX v a) (hr : 0 ≤ w ∧ w < 6000) (h12 : 1 ≤ a 12 w.toNat ∧ a 12 w.toNat ≤ 8) (hx : 0 ≤ q ∧ q ≤ x ∧ x < u ∧ u ≤ 500) : Mm l G yX12_fits cX12_fits 9 (some .boolean) 1 [.int (iI w), .int (iI q), .int (iI u), .int (iI x)] h0 ad ln v a 0 0 (fun r v2 a2 => ∃ f : Int, r = some (.int (iI f)) ∧ fr [] [] v a v2 a2 ∧ BX v2 a2 ∧ ((f = 0 ∨ f = 1) ∧ FTE f a q u x w)) := by
  refine Mm.mk (by decide) (Nat.le_of_ble_eq_true rfl) ?_
  intro p e s m args below meth c A C
  have fp0 : fr [] [] v a v a := fr.refl
  refine m_aload_n (j := 0) C dX12_fits_0 rfl ?_
  refine m_geta (k := 12) C dX12_fits_1 w6_71 (by decide) rfl ?_
  refine m_iload_n (j := 1) C dX12_fits_4 rfl ?_
  refine m_ald (k := 12) C dX12_fits_5 rfl rfl (by decide) (by omega) (by show _ < ((_ : Nat) : Int); simp only [mlen]; omega) (by decide) ?_
  have ra1 : 0 ≤ a 12 w.toNat ∧ a 12 w.toNat ≤ 8 := hB.2 12 (w.toNat)
  refine m_istore (lv2 := [(5, .int (iI (a 12 w.toNat))), (0, .ref h0), (1, .int (iI w)), (2, .int (iI q)), (3, .int (iI u)), (4, .int (iI x))]) C dX12_fits_6 (by decide) rfl ?_
  have Lp1 : ∀ (nn : Nat) (g k : Int) (vb1 : Nat → Int) (ab1 : Nat → Nat → Int), 9 - k < (nn : Int) → BX vb1 ab1 → fr [] [] v a vb1 ab1 → (g = 0 ∨ g = 1) → (0 ≤ k ∧ k ≤ a 12 w.toNat) → (g = 0 ∨ x + a 12 w.toNat ≤ u) → (FTG a (a 20) u x w k g) → mw p l e (rmq 1 0 0) s m args below meth c G A 9 (MQ below (Qm G A (fun rq Lq Eq => ∃ (vq : Nat → Int) (aq : Nat → Nat → Int), mI G h0 ad ln vq aq Lq Eq ∧ (fun r v2 a2 => ∃ f : Int, r = some (.int (iI f)) ∧ fr [] [] v a v2 a2 ∧ BX v2 a2 ∧ ((f = 0 ∨ f = 1) ∧ FTE f a q u x w)) rq vq aq)) args s 0 0 A) h0 ad ln vb1 ab1 0 0 27 [(6, .int (iI g)), (7, .int (iI k)), (5, .int (iI (a 12 w.toNat))), (0, .ref h0), (1, .int (iI w)), (2, .int (iI q)), (3, .int (iI u)), (4, .int (iI x))] [] := by
    intro nn
    induction nn with
    | zero =>
      intro g k vb1 ab1 hm bxb1 fpb1 hg hk hu hF
      obtain ⟨rfl, rfl⟩ := fpb1.eq
      exact absurd hm (by omega)
    | succ nn ih1 =>
      intro g k vb1 ab1 hm bxb1 fpb1 hg hk hu hF
      obtain ⟨rfl, rfl⟩ := fpb1.eq
      refine m_iload (j := 1) C dX12_fits_27 rfl ?_
      refine m_iload (j := 2) C dX12_fits_29 rfl ?_
      refine m_icmp_ge (tgt := 77) C ⟨by omega, by omega⟩ (r32_c (lo := 0) (hi := 8) ra1.1 ra1.2 (by decide) (by decide)) dX12_fits_31 (by decide) (fun c1 => ?_) (fun c1 => ?_)
      · refine m_iload (j := 0) C dX12_fits_77 rfl ?_
        refine m_if_ne (tgt := 84) C (r32_01 hg) dX12_fits_79 (by decide) (fun c2 => ?_) (fun c2 => ?_)
        · replace hg := (hg.resolve_left c2)
          replace hu := (hu.resolve_left c2)
          refine m_iload (j := 7) C dX12_fits_84 rfl ?_
          refine m_iload_n (j := 5) C dX12_fits_86 rfl ?_
          refine m_icmp_ne (tgt := 94) C ⟨by omega, by omega⟩ ⟨by omega, by omega⟩ dX12_fits_87 (by decide) (fun c3 => ?_) (fun c3 => ?_)
          · refine m_iconst C dX12_fits_94 ?_
            refine m_istore (lv2 := [(7, .int (iI 0)), (6, .int (iI g)), (5, .int (iI (a 12 w.toNat))), (0, .ref h0), (1, .int (iI w)), (2, .int (iI q)), (3, .int (iI u)), (4, .int (iI x))]) C dX12_fits_95 (by decide) rfl ?_
            refine m_iload (j := 7) C dX12_fits_97 rfl ?_
            refine m_iload (j := 2) C dX12_fits_99 rfl ?_
            refine m_iadd C dX12_fits_101 ?_
            refine m_iload_n (j := 6) C dX12_fits_102 rfl ?_
            refine m_icmp_ne (tgt := 110) C ⟨by omega, by omega⟩ ⟨by omega, by omega⟩ dX12_fits_103 (by decide) (fun c4 => ?_) (fun c4 => ?_)
            · refine m_iconst C dX12_fits_110 ?_
              refine m_istore (lv2 := [(8, .int (iI 0)), (7, .int (iI 0)), (6, .int (iI g)), (5, .int (iI (a 12 w.toNat))), (0, .ref h0), (1, .int (iI w)), (2, .int (iI q)), (3, .int (iI u)), (4, .int (iI x))]) C dX12_fits_111 (by decide) rfl ?_
              refine m_aload_n (j := 4) C dX12_fits_113 rfl ?_
              refine m_geta (k := 11) C dX12_fits_114 w6_70 (by decide) rfl ?_
              refine m_iload_n (j := 5) C dX12_fits_117 rfl ?_
              refine m_ald (k := 11) C dX12_fits_118 rfl rfl (by decide) (by omega) (by show _ < ((_ : Nat) : Int); simp only [mlen]; omega) (by decide) ?_
              have ra2 : (-2147483648) ≤ a 11 w.toNat ∧ a 11 w.toNat ≤ 2147483647 := bxb1.2 11 (w.toNat)
              rcases (show (a 11 w.toNat) = 0 ∨ (a 11 w.toNat) = 1 ∨ (a 11 w.toNat) = 2 ∨ (a 11 w.toNat) = 3 ∨ (a 11 w.toNat) = 4 ∨ ((a 11 w.toNat) < 0 ∨ 4 < (a 11 w.toNat)) by omega) with sw1 | sw1 | sw1 | sw1 | sw1 | sw1
              · refine m_tabIn (tgt := 152) (off := 33) C (r32_c (lo := (-2147483648)) (hi := 2147483647) ra2.1 ra2.2 (by decide) (by decide)) dX12_fits_119 (by omega) (by omega) (by rw [sw1]; rfl) (by decide) ?_
                refine m_iconst C dX12_fits_152 ?_
                exact m_zret C dX12_fits_153 rfl (Or.inr rfl) (Nat.le_of_ble_eq_true rfl) (Nat.le_of_ble_eq_true rfl) ⟨1, rfl, fpb1, bxb1, ⟨by omega, FTE.cy hF (by omega) (by omega) (by unfold CND isD isG isS; omega)⟩⟩
              · refine m_tabIn (tgt := 154) (off := 35) C (r32_c (lo := (-2147483648)) (hi := 2147483647) ra2.1 ra2.2 (by decide) (by decide)) dX12_fits_119 (by omega) (by omega) (by rw [sw1]; rfl) (by decide) ?_
                refine m_iload (j := 1) C dX12_fits_154 rfl ?_
                exact m_zret C dX12_fits_156 rfl (Or.inl rfl) (Nat.le_of_ble_eq_true rfl) (Nat.le_of_ble_eq_true rfl) ⟨0, rfl, fpb1, bxb1, ⟨by omega, FTE.cn (fun h => by unfold CND isD isG isS at h; omega)⟩⟩
              · refine m_tabIn (tgt := 157) (off := 38) C (r32_c (lo := (-2147483648)) (hi := 2147483647) ra2.1 ra2.2 (by decide) (by decide)) dX12_fits_119 (by omega) (by omega) (by rw [sw1]; rfl) (by decide) ?_
                refine m_iload (j := 1) C dX12_fits_157 rfl ?_
                refine m_if_ne (tgt := 171) C ⟨by decide, by decide⟩ dX12_fits_159 (by decide) (fun z => absurd z (by omega)) (fun _ => ?_)
                refine m_iload (j := 0) C dX12_fits_162 rfl ?_
                refine m_if_ne (tgt := 171) C ⟨by decide, by decide⟩ dX12_fits_164 (by decide) (fun z => absurd z (by omega)) (fun _ => ?_)
                refine m_iconst C dX12_fits_167 ?_
                refine m_goto (tgt := 172) C dX12_fits_168 (by decide) ?_
                exact m_zret C dX12_fits_172 rfl (Or.inr rfl) (Nat.le_of_ble_eq_true rfl) (Nat.le_of_ble_eq_true rfl) ⟨1, rfl, fpb1, bxb1, ⟨by omega, FTE.cy hF (by omega) (by omega) (by unfold CND isD isG isS; omega)⟩⟩
              · refine m_tabIn (tgt := 173) (off := 54) C (r32_c (lo := (-2147483648)) (hi := 2147483647) ra2.1 ra2.2 (by decide) (by decide)) dX12_fits_119 (by omega) (by omega) (by rw [sw1]; rfl) (by decide) ?_
                refine m_iload (j := 0) C dX12_fits_173 rfl ?_
                exact m_zret C dX12_fits_175 rfl (Or.inl rfl) (Nat.le_of_ble_eq_true rfl) (Nat.le_of_ble_eq_true rfl) ⟨0, rfl, fpb1, bxb1, ⟨by omega, FTE.cn (fun h => by unfold CND isD isG isS at h; omega)⟩⟩
              · refine m_tabIn (tgt := 176) (off := 57) C (r32_c (lo := (-2147483648)) (hi := 2147483647) ra2.1 ra2.2 (by decide) (by decide)) dX12_fits_119 (by omega) (by omega) (by rw [sw1]; rfl) (by decide) ?_
                refine m_iload (j := 1) C dX12_fits_176 rfl ?_
                refine m_if_eq (tgt := 190) C ⟨by decide, by decide⟩ dX12_fits_178 (by decide) (fun _ => ?_) (fun z => absurd z (by omega))
                refine m_iconst C dX12_fits_190 ?_
                exact m_zret C dX12_fits_191 rfl (Or.inl rfl) (Nat.le_of_ble_eq_true rfl) (Nat.le_of_ble_eq_true rfl) ⟨0, rfl, fpb1, bxb1, ⟨by omega, FTE.cn (fun h => by unfold CND isD isG isS at h; omega)⟩⟩
              · refine m_tabOut (tgt := 192) C (r32_c (lo := (-2147483648)) (hi := 2147483647) ra2.1 ra2.2 (by decide) (by decide)) dX12_fits_119 sw1 (by decide) ?_
                refine m_iload (j := 0) C dX12_fits_192 rfl ?_
                refine m_if_ne (tgt := 249) C ⟨by decide, by decide⟩ dX12_fits_194 (by decide) (fun z => absurd z (by omega)) (fun _ => ?_)
                refine m_aload_n (j := 4) C dX12_fits_197 rfl ?_
                refine m_geta (k := 20) C dX12_fits_198 w6_79 (by decide) rfl ?_
                refine m_iload (j := 8) C dX12_fits_201 rfl ?_
                refine m_iload (j := 3) C dX12_fits_203 rfl ?_
                refine m_iadd C dX12_fits_205 ?_
                refine m_ald (k := 20) C dX12_fits_206 rfl rfl (by decide) (by omega) (by show _ < ((_ : Nat) : Int); simp only [mlen]; omega) (by decide) ?_
                have ra3 : (-2147483648) ≤ a 20 (x + (a 12 w.toNat)).toNat ∧ a 20 (x + (a 12 w.toNat)).toNat ≤ 2147483647 := bxb1.2 20 ((x + (a 12 w.toNat)).toNat)
                refine m_callS (As := [.int (iI (a 20 (x + (a 12 w.toNat)).toNat))]) (rest := []) C (fun L E => s_isDigit (iI (a 20 (x + (a 12 w.toNat)).toNat))) dX12_fits_207 kS_X12_202 rfl rfl (Nat.le_of_ble_eq_true rfl) ⟨Nat.le_of_ble_eq_true rfl, Nat.le_of_ble_eq_true rfl⟩ ⟨Nat.le_of_ble_eq_true rfl, Nat.le_of_ble_eq_true rfl⟩ ?_
                rcases inn_c (x := a 20 (x + (a 12 w.toNat)).toNat) (lo := 48) (hi := 57) (r32_c (lo := (-2147483648)) (hi := 2147483647) ra3.1 ra3.2 (by decide) (by decide)) ⟨by decide, by decide⟩ ⟨by decide, by decide⟩ with ⟨h1a, h1b, h1e⟩ | ⟨h1a, h1e⟩
                · refine m_st (st2 := [.int (iI 1)]) (by rw [show inn (iI (a 20 (x + (a 12 w.toNat)).toNat)) 48 57 = iI 1 from h1e]) ?_
                  refine m_if_ne (tgt := 249) C ⟨by decide, by decide⟩ dX12_fits_210 (by decide) (fun _ => ?_) (fun z => absurd z (by omega))
                  refine m_iconst C dX12_fits_249 ?_
                  exact m_zret C dX12_fits_250 rfl (Or.inl rfl) (Nat.le_of_ble_eq_true rfl) (Nat.le_of_ble_eq_true rfl) ⟨0, rfl, fpb1, bxb1, ⟨by omega, FTE.cn (fun h => by unfold CND isD isG isS at h; omega)⟩⟩
                · refine m_st (st2 := [.int (iI 0)]) (by rw [show inn (iI (a 20 (x + (a 12 w.toNat)).toNat)) 48 57 = iI 0 from h1e]) ?_
                  refine m_if_ne (tgt := 249) C ⟨by decide, by decide⟩ dX12_fits_210 (by decide) (fun z => absurd z (by omega)) (fun _ => ?_)
                  refine m_aload_n (j := 4) C dX12_fits_213 rfl ?_
                  refine m_geta (k := 20) C dX12_fits_214 w6_79 (by decide) rfl ?_
                  refine m_iload (j := 8) C dX12_fits_217 rfl ?_
                  refine m_iload (j := 3) C dX12_fits_219 rfl ?_
                  refine m_iadd C dX12_fits_221 ?_
                  refine m_ald (k := 20) C dX12_fits_222 rfl rfl (by decide) (by omega) (by show _ < ((_ : Nat) : Int); simp only [mlen]; omega) (by decide) ?_
                  refine m_callS (As := [.int (iI (a 20 (x + (a 12 w.toNat)).toNat))]) (rest := []) C (fun L E => s_isGreat (iI (a 20 (x + (a 12 w.toNat)).toNat))) dX12_fits_223 kS_X12_205 rfl rfl (Nat.le_of_ble_eq_true rfl) ⟨Nat.le_of_ble_eq_true rfl, Nat.le_of_ble_eq_true rfl⟩ ⟨Nat.le_of_ble_eq_true rfl, Nat.le_of_ble_eq_true rfl⟩ ?_
                  rcases inn_c (x := a 20 (x + (a 12 w.toNat)).toNat) (lo := 65) (hi := 90) (r32_c (lo := (-2147483648)) (hi := 2147483647) ra3.1 ra3.2 (by decide) (by decide)) ⟨by decide, by decide⟩ ⟨by decide, by decide⟩ with ⟨h2a, h2b, h2e⟩ | ⟨h2a, h2e⟩
                  · refine m_st (st2 := [.int (iI 1)]) (by rw [show inn (iI (a 20 (x + (a 12 w.toNat)).toNat)) 65 90 = iI 1 from h2e]) ?_
                    refine m_if_ne (tgt := 249) C ⟨by decide, by decide⟩ dX12_fits_226 (by decide) (fun _ => ?_) (fun z => absurd z (by omega))
                    refine m_iconst C dX12_fits_249 ?_
                    exact m_zret C dX12_fits_250 rfl (Or.inl rfl) (Nat.le_of_ble_eq_true rfl) (Nat.le_of_ble_eq_true rfl) ⟨0, rfl, fpb1, bxb1, ⟨by omega, FTE.cn (fun h => by unfold CND isD isG isS at h; omega)⟩⟩
                  · refine m_st (st2 := [.int (iI 0)]) (by rw [show inn (iI (a 20 (x + (a 12 w.toNat)).toNat)) 65 90 = iI 0 from h2e]) ?_
                    refine m_if_ne (tgt := 249) C ⟨by decide, by decide⟩ dX12_fits_226 (by decide) (fun z => absurd z (by omega)) (fun _ => ?_)
                    refine m_aload_n (j := 4) C dX12_fits_229 rfl ?_
                    refine m_geta (k := 20) C dX12_fits_230 w6_79 (by decide) rfl ?_
                    refine m_iload (j := 8) C dX12_fits_233 rfl ?_
                    refine m_iload (j := 3) C dX12_fits_235 rfl ?_
                    refine m_iadd C dX12_fits_237 ?_
                    refine m_ald (k := 20) C dX12_fits_238 rfl rfl (by decide) (by omega) (by show _ < ((_ : Nat) : Int); simp only [mlen]; omega) (by decide) ?_
                    refine m_callS (As := [.int (iI (a 20 (x + (a 12 w.toNat)).toNat))]) (rest := []) C (fun L E => s_isSmall (iI (a 20 (x + (a 12 w.toNat)).toNat))) dX12_fits_239 kS_X12_208 rfl rfl (Nat.le_of_ble_eq_true rfl) ⟨Nat.le_of_ble_eq_true rfl, Nat.le_of_ble_eq_true rfl⟩ ⟨Nat.le_of_ble_eq_true rfl, Nat.le_of_ble_eq_true rfl⟩ ?_
                    rcases inn_c (x := a 20 (x + (a 12 w.toNat)).toNat) (lo := 97) (hi := 122) (r32_c (lo := (-2147483648)) (hi := 2147483647) ra3.1 ra3.2 (by decide) (by decide)) ⟨by decide, by decide⟩ ⟨by decide, by decide⟩ with ⟨h3a, h3b, h3e⟩ | ⟨h3a, h3e⟩
                    · refine m_st (st2 := [.int (iI 1)]) (by rw [show inn (iI (a 20 (x + (a 12 w.toNat)).toNat)) 97 122 = iI 1 from h3e]) ?_
                      refine m_if_ne (tgt := 249) C ⟨by decide, by decide⟩ dX12_fits_242 (by decide) (fun _ => ?_) (fun z => absurd z (by omega))
                      refine m_iconst C dX12_fits_249 ?_
                      exact m_zret C dX12_fits_250 rfl (Or.inl rfl) (Nat.le_of_ble_eq_true rfl) (Nat.le_of_ble_eq_true rfl) ⟨0, rfl, fpb1, bxb1, ⟨by omega, FTE.cn (fun h => by unfold CND isD isG isS at h; omega)⟩⟩
                    · refine m_st (st2 := [.int (iI 0)]) (by rw [show inn (iI (a 20 (x + (a 12 w.toNat)).toNat)) 97 122 = iI 0 from h3e]) ?_
                      refine m_if_ne (tgt := 249) C ⟨by decide, by decide⟩ dX12_fits_242 (by decide) (fun z => absurd z (by omega)) (fun _ => ?_)
                      refine m_iconst C dX12_fits_245 ?_
                      refine m_goto (tgt := 250) C dX12_fits_246 (by decide) ?_
                      exact m_zret C dX12_fits_250 rfl (Or.inr rfl) (Nat.le_of_ble_eq_true rfl) (Nat.le_of_ble_eq_true rfl) ⟨1, rfl, fpb1, bxb1, ⟨by omega, FTE.cy hF (by omega) (by omega) (by unfold CND isD isG isS; omega)⟩⟩
            · refine m_iconst C dX12_fits_106 ?_
              refine m_goto (tgt := 111) C dX12_fits_107 (by decide) ?_
              refine m_istore (lv2 := [(8, .int (iI 1)), (7, .int (iI 0)), (6, .int (iI g)), (5, .int (iI (a 12 w.toNat))), (0, .ref h0), (1, .int (iI w)), (2, .int (iI q)), (3, .int (iI u)), (4, .int (iI x))]) C dX12_fits_111 (by decide) rfl ?_
              refine m_aload_n (j := 4) C dX12_fits_113 rfl ?_
              refine m_geta (k := 11) C dX12_fits_114 w6_70 (by decide) rfl ?_
              refine m_iload_n (j := 5) C dX12_fits_117 rfl ?_
              refine m_ald (k := 11) C dX12_fits_118 rfl rfl (by decide) (by omega) (by show _ < ((_ : Nat) : Int); simp only [mlen]; omega) (by decide) ?_
              have ra4 : (-2147483648) ≤ a 11 w.toNat ∧ a 11 w.toNat ≤ 2147483647 := bxb1.2 11 (w.toNat)
              rcases (show (a 11 w.toNat) = 0 ∨ (a 11 w.toNat) = 1 ∨ (a 11 w.toNat) = 2 ∨ (a 11 w.toNat) = 3 ∨ (a 11 w.toNat) = 4 ∨ ((a 11 w.toNat) < 0 ∨ 4 < (a 11 w.toNat)) by omega) with sw2 | sw2 | sw2 | sw2 | sw2 | sw2
              · refine m_tabIn (tgt := 152) (off := 33) C (r32_c (lo := (-2147483648)) (hi := 2147483647) ra4.1 ra4.2 (by decide) (by decide)) dX12_fits_119 (by omega) (by omega) (by rw [sw2]; rfl) (by decide) ?_
                refine m_iconst C dX12_fits_152 ?_
                exact m_zret C dX12_fits_153 rfl (Or.inr rfl) (Nat.le_of_ble_eq_true rfl) (Nat.le_of_ble_eq_true rfl) ⟨1, rfl, fpb1, bxb1, ⟨by omega, FTE.cy hF (by omega) (by omega) (by unfold CND isD isG isS; omega)⟩⟩
              · refine m_tabIn (tgt := 154) (off := 35) C (r32_c (lo := (-2147483648)) (hi := 2147483647) ra4.1 ra4.2 (by decide) (by decide)) dX12_fits_119 (by omega) (by omega) (by rw [sw2]; rfl) (by decide) ?_
                refine m_iload (j := 1) C dX12_fits_154 rfl ?_
                exact m_zret C dX12_fits_156 rfl (Or.inl rfl) (Nat.le_of_ble_eq_true rfl) (Nat.le_of_ble_eq_true rfl) ⟨0, rfl, fpb1, bxb1, ⟨by omega, FTE.cn (fun h => by unfold CND isD isG isS at h; omega)⟩⟩
              · refine m_tabIn (tgt := 157) (off := 38) C (r32_c (lo := (-2147483648)) (hi := 2147483647) ra4.1 ra4.2 (by decide) (by decide)) dX12_fits_119 (by omega) (by omega) (by rw [sw2]; rfl) (by decide) ?_
                refine m_iload (j := 1) C dX12_fits_157 rfl ?_
                refine m_if_ne (tgt := 171) C ⟨by decide, by decide⟩ dX12_fits_159 (by decide) (fun z => absurd z (by omega)) (fun _ => ?_)
                refine m_iload (j := 0) C dX12_fits_162 rfl ?_
                refine m_if_ne (tgt := 171) C ⟨by decide, by decide⟩ dX12_fits_164 (by decide) (fun _ => ?_) (fun z => absurd z (by omega))
                refine m_iconst C dX12_fits_171 ?_
                exact m_zret C dX12_fits_172 rfl (Or.inl rfl) (Nat.le_of_ble_eq_true rfl) (Nat.le_of_ble_eq_true rfl) ⟨0, rfl, fpb1, bxb1, ⟨by omega, FTE.cn (fun h => by unfold CND isD isG isS at h; omega)⟩⟩
              · refine m_tabIn (tgt := 173) (off := 54) C (r32_c (lo := (-2147483648)) (hi := 2147483647) ra4.1 ra4.2 (by decide) (by decide)) dX12_fits_119 (by omega) (by omega) (by rw [sw2]; rfl) (by decide) ?_
                refine m_iload (j := 0) C dX12_fits_173 rfl ?_
                exact m_zret C dX12_fits_175 rfl (Or.inr rfl) (Nat.le_of_ble_eq_true rfl) (Nat.le_of_ble_eq_true rfl) ⟨1, rfl, fpb1, bxb1, ⟨by omega, FTE.cy hF (by omega) (by omega) (by unfold CND isD isG isS; omega)⟩⟩
              · refine m_tabIn (tgt := 176) (off := 57) C (r32_c (lo := (-2147483648)) (hi := 2147483647) ra4.1 ra4.2 (by decide) (by decide)) dX12_fits_119 (by omega) (by omega) (by rw [sw2]; rfl) (by decide) ?_
                refine m_iload (j := 1) C dX12_fits_176 rfl ?_
                refine m_if_eq (tgt := 190) C ⟨by decide, by decide⟩ dX12_fits_178 (by decide) (fun _ => ?_) (fun z => absurd z (by omega))
                refine m_iconst C dX12_fits_190 ?_
                exact m_zret C dX12_fits_191 rfl (Or.inl rfl) (Nat.le_of_ble_eq_true rfl) (Nat.le_of_ble_eq_true rfl) ⟨0, rfl, fpb1, bxb1, ⟨by omega, FTE.cn (fun h => by unfold CND isD isG isS at h; omega)⟩⟩
              · refine m_tabOut (tgt := 192) C (r32_c (lo := (-2147483648)) (hi := 2147483647) ra4.1 ra4.2 (by decide) (by decide)) dX12_fits_119 sw2 (by decide) ?_
                refine m_iload (j := 0) C dX12_fits_192 rfl ?_
                refine m_if_ne (tgt := 249) C ⟨by decide, by decide⟩ dX12_fits_194 (by decide) (fun _ => ?_) (fun z => absurd z (by omega))
                refine m_iconst C dX12_fits_249 ?_
                exact m_zret C dX12_fits_250 rfl (Or.inl rfl) (Nat.le_of_ble_eq_true rfl) (Nat.le_of_ble_eq_true rfl) ⟨0, rfl, fpb1, bxb1, ⟨by omega, FTE.cn (fun h => by unfold CND isD isG isS at h; omega)⟩⟩
          · refine m_iconst C dX12_fits_90 ?_
            refine m_goto (tgt := 95) C dX12_fits_91 (by decide) ?_
            refine m_istore (lv2 := [(7, .int (iI 1)), (6, .int (iI g)), (5, .int (iI (a 12 w.toNat))), (0, .ref h0), (1, .int (iI w)), (2, .int (iI q)), (3, .int (iI u)), (4, .int (iI x))]) C dX12_fits_95 (by decide) rfl ?_
            refine m_iload (j := 7) C dX12_fits_97 rfl ?_
            refine m_iload (j := 2) C dX12_fits_99 rfl ?_
            refine m_iadd C dX12_fits_101 ?_
            refine m_iload_n (j := 6) C dX12_fits_102 rfl ?_
            refine m_icmp_ne (tgt := 110) C ⟨by omega, by omega⟩ ⟨by omega, by omega⟩ dX12_fits_103 (by decide) (fun c5 => ?_) (fun c5 => ?_)
            · refine m_iconst C dX12_fits_110 ?_
              refine m_istore (lv2 := [(8, .int (iI 0)), (7, .int (iI 1)), (6, .int (iI g)), (5, .int (iI (a 12 w.toNat))), (0, .ref h0), (1, .int (iI w)), (2, .int (iI q)), (3, .int (iI u)), (4, .int (iI x))]) C dX12_fits_111 (by decide) rfl ?_
              refine m_aload_n (j := 4) C dX12_fits_113 rfl ?_
              refine m_geta (k := 11) C dX12_fits_114 w6_70 (by decide) rfl ?_
              refine m_iload_n (j := 5) C dX12_fits_117 rfl ?_
              refine m_ald (k := 11) C dX12_fits_118 rfl rfl (by decide) (by omega) (by show _ < ((_ : Nat) : Int); simp only [mlen]; omega) (by decide) ?_
              have ra5 : (-2147483648) ≤ a 11 w.toNat ∧ a 11 w.toNat ≤ 2147483647 := bxb1.2 11 (w.toNat)
              rcases (show (a 11 w.toNat) = 0 ∨ (a 11 w.toNat) = 1 ∨ (a 11 w.toNat) = 2 ∨ (a 11 w.toNat) = 3 ∨ (a 11 w.toNat) = 4 ∨ ((a 11 w.toNat) < 0 ∨ 4 < (a 11 w.toNat)) by omega) with sw3 | sw3 | sw3 | sw3 | sw3 | sw3
              · refine m_tabIn (tgt := 152) (off := 33) C (r32_c (lo := (-2147483648)) (hi := 2147483647) ra5.1 ra5.2 (by decide) (by decide)) dX12_fits_119 (by omega) (by omega) (by rw [sw3]; rfl) (by decide) ?_
                refine m_iconst C dX12_fits_152 ?_
                exact m_zret C dX12_fits_153 rfl (Or.inr rfl) (Nat.le_of_ble_eq_true rfl) (Nat.le_of_ble_eq_true rfl) ⟨1, rfl, fpb1, bxb1, ⟨by omega, FTE.cy hF (by omega) (by omega) (by unfold CND isD isG isS; omega)⟩⟩
              · refine m_tabIn (tgt := 154) (off := 35) C (r32_c (lo := (-2147483648)) (hi := 2147483647) ra5.1 ra5.2 (by decide) (by decide)) dX12_fits_119 (by omega) (by omega) (by rw [sw3]; rfl) (by decide) ?_
                refine m_iload (j := 1) C dX12_fits_154 rfl ?_
                exact m_zret C dX12_fits_156 rfl (Or.inr rfl) (Nat.le_of_ble_eq_true rfl) (Nat.le_of_ble_eq_true rfl) ⟨1, rfl, fpb1, bxb1, ⟨by omega, FTE.cy hF (by omega) (by omega) (by unfold CND isD isG isS; omega)⟩⟩
              · refine m_tabIn (tgt := 157) (off := 38) C (r32_c (lo := (-2147483648)) (hi := 2147483647) ra5.1 ra5.2 (by decide) (by decide)) dX12_fits_119 (by omega) (by omega) (by rw [sw3]; rfl) (by decide) ?_
                refine m_iload (j := 1) C dX12_fits_157 rfl ?_
                refine m_if_ne (tgt := 171) C ⟨by decide, by decide⟩ dX12_fits_159 (by decide) (fun _ => ?_) (fun z => absurd z (by omega))
                refine m_iconst C dX12_fits_171 ?_
                exact m_zret C dX12_fits_172 rfl (Or.inl rfl) (Nat.le_of_ble_eq_true rfl) (Nat.le_of_ble_eq_true rfl) ⟨0, rfl, fpb1, bxb1, ⟨by omega, FTE.cn (fun h => by unfold CND isD isG isS at h; omega)⟩⟩
              · refine m_tabIn (tgt := 173) (off := 54) C (r32_c (lo := (-2147483648)) (hi := 2147483647) ra5.1 ra5.2 (by decide) (by decide)) dX12_fits_119 (by omega) (by omega) (by rw [sw3]; rfl) (by decide) ?_
                refine m_iload (j := 0) C dX12_fits_173 rfl ?_
                exact m_zret C dX12_fits_175 rfl (Or.inl rfl) (Nat.le_of_ble_eq_true rfl) (Nat.le_of_ble_eq_true rfl) ⟨0, rfl, fpb1, bxb1, ⟨by omega, FTE.cn (fun h => by unfold CND isD isG isS at h; omega)⟩⟩
              · refine m_tabIn (tgt := 176) (off := 57) C (r32_c (lo := (-2147483648)) (hi := 2147483647) ra5.1 ra5.2 (by decide) (by decide)) dX12_fits_119 (by omega) (by omega) (by rw [sw3]; rfl) (by decide) ?_
                refine m_iload (j := 1) C dX12_fits_176 rfl ?_
                refine m_if_eq (tgt := 190) C ⟨by decide, by decide⟩ dX12_fits_178 (by decide) (fun z => absurd z (by omega)) (fun _ => ?_)
                refine m_iload (j := 0) C dX12_fits_181 rfl ?_
                refine m_if_eq (tgt := 190) C ⟨by decide, by decide⟩ dX12_fits_183 (by decide) (fun _ => ?_) (fun z => absurd z (by omega))
                refine m_iconst C dX12_fits_190 ?_
                exact m_zret C dX12_fits_191 rfl (Or.inl rfl) (Nat.le_of_ble_eq_true rfl) (Nat.le_of_ble_eq_true rfl) ⟨0, rfl, fpb1, bxb1, ⟨by omega, FTE.cn (fun h => by unfold CND isD isG isS at h; omega)⟩⟩
              · refine m_tabOut (tgt := 192) C (r32_c (lo := (-2147483648)) (hi := 2147483647) ra5.1 ra5.2 (by decide) (by decide)) dX12_fits_119 sw3 (by decide) ?_
                refine m_iload (j := 0) C dX12_fits_192 rfl ?_
                refine m_if_ne (tgt := 249) C ⟨by decide, by decide⟩ dX12_fits_194 (by decide) (fun z => absurd z (by omega)) (fun _ => ?_)
                refine m_aload_n (j := 4) C dX12_fits_197 rfl ?_
                refine m_geta (k := 20) C dX12_fits_198 w6_79 (by decide) rfl ?_
                refine m_iload (j := 8) C dX12_fits_201 rfl ?_
                refine m_iload (j := 3) C dX12_fits_203 rfl ?_
                refine m_iadd C dX12_fits_205 ?_
                refine m_ald (k := 20) C dX12_fits_206 rfl rfl (by decide) (by omega) (by show _ < ((_ : Nat) : Int); simp only [mlen]; omega) (by decide) ?_
                have ra6 : (-2147483648) ≤ a 20 (x + (a 12 w.toNat)).toNat ∧ a 20 (x + (a 12 w.toNat)).toNat ≤ 2147483647 := bxb1.2 20 ((x + (a 12 w.toNat)).toNat)
                refine m_callS (As := [.int (iI (a 20 (x + (a 12 w.toNat)).toNat))]) (rest := []) C (fun L E => s_isDigit (iI (a 20 (x + (a 12 w.toNat)).toNat))) dX12_fits_207 kS_X12_202 rfl rfl (Nat.le_of_ble_eq_true rfl) ⟨Nat.le_of_ble_eq_true rfl, Nat.le_of_ble_eq_true rfl⟩ ⟨Nat.le_of_ble_eq_true rfl, Nat.le_of_ble_eq_true rfl⟩ ?_
                rcases inn_c (x := a 20 (x + (a 12 w.toNat)).toNat) (lo := 48) (hi := 57) (r32_c (lo := (-2147483648)) (hi := 2147483647) ra6.1 ra6.2 (by decide) (by decide)) ⟨by decide, by decide⟩ ⟨by decide, by decide⟩ with ⟨h4a, h4b, h4e⟩ | ⟨h4a, h4e⟩
                · refine m_st (st2 := [.int (iI 1)]) (by rw [show inn (iI (a 20 (x + (a 12 w.toNat)).toNat)) 48 57 = iI 1 from h4e]) ?_
                  refine m_if_ne (tgt := 249) C ⟨by decide, by decide⟩ dX12_fits_210 (by decide) (fun _ => ?_) (fun z => absurd z (by omega))
                  refine m_iconst C dX12_fits_249 ?_
                  exact m_zret C dX12_fits_250 rfl (Or.inl rfl) (Nat.le_of_ble_eq_true rfl) (Nat.le_of_ble_eq_true rfl) ⟨0, rfl, fpb1, bxb1, ⟨by omega, FTE.cn (fun h => by unfold CND isD isG isS at h; omega)⟩⟩
                · refine m_st (st2 := [.int (iI 0)]) (by rw [show inn (iI (a 20 (x + (a 12 w.toNat)).toNat)) 48 57 = iI 0 from h4e]) ?_
                  refine m_if_ne (tgt := 249) C ⟨by decide, by decide⟩ dX12_fits_210 (by decide) (fun z => absurd z (by omega)) (fun _ => ?_)
                  refine m_aload_n (j := 4) C dX12_fits_213 rfl ?_
                  refine m_geta (k := 20) C dX12_fits_214 w6_79 (by decide) rfl ?_
                  refine m_iload (j := 8) C dX12_fits_217 rfl ?_
                  refine m_iload (j := 3) C dX12_fits_219 rfl ?_
                  refine m_iadd C dX12_fits_221 ?_
                  refine m_ald (k := 20) C dX12_fits_222 rfl rfl (by decide) (by omega) (by show _ < ((_ : Nat) : Int); simp only [mlen]; omega) (by decide) ?_
                  refine m_callS (As := [.int (iI (a 20 (x + (a 12 w.toNat)).toNat))]) (rest := []) C (fun L E => s_isGreat (iI (a 20 (x + (a 12 w.toNat)).toNat))) dX12_fits_223 kS_X12_205 rfl rfl (Nat.le_of_ble_eq_true rfl) ⟨Nat.le_of_ble_eq_true rfl, Nat.le_of_ble_eq_true rfl⟩ ⟨Nat.le_of_ble_eq_true rfl, Nat.le_of_ble_eq_true rfl⟩ ?_
                  rcases inn_c (x := a 20 (x + (a 12 w.toNat)).toNat) (lo := 65) (hi := 90) (r32_c (lo := (-2147483648)) (hi := 2147483647) ra6.1 ra6.2 (by decide) (by decide)) ⟨by decide, by decide⟩ ⟨by decide, by decide⟩ with ⟨h5a, h5b, h5e⟩ | ⟨h5a, h5e⟩
                  · refine m_st (st2 := [.int (iI 1)]) (by rw [show inn (iI (a 20 (x + (a 12 w.toNat)).toNat)) 65 90 = iI 1 from h5e]) ?_
                    refine m_if_ne (tgt := 249) C ⟨by decide, by decide⟩ dX12_fits_226 (by decide) (fun _ => ?_) (fun z => absurd z (by omega))
                    refine m_iconst C dX12_fits_249 ?_
                    exact m_zret C dX12_fits_250 rfl (Or.inl rfl) (Nat.le_of_ble_eq_true rfl) (Nat.le_of_ble_eq_true rfl) ⟨0, rfl, fpb1, bxb1, ⟨by omega, FTE.cn (fun h => by unfold CND isD isG isS at h; omega)⟩⟩
                  · refine m_st (st2 := [.int (iI 0)]) (by rw [show inn (iI (a 20 (x + (a 12 w.toNat)).toNat)) 65 90 = iI 0 from h5e]) ?_
                    refine m_if_ne (tgt := 249) C ⟨by decide, by decide⟩ dX12_fits_226 (by decide) (fun z => absurd z (by omega)) (fun _ => ?_)
                    refine m_aload_n (j := 4) C dX12_fits_229 rfl ?_
                    refine m_geta (k := 20) C dX12_fits_230 w6_79 (by decide) rfl ?_
                    refine m_iload (j := 8) C dX12_fits_233 rfl ?_
                    refine m_iload (j := 3) C dX12_fits_235 rfl ?_
                    refine m_iadd C dX12_fits_237 ?_
                    refine m_ald (k := 20) C dX12_fits_238 rfl rfl (by decide) (by omega) (by show _ < ((_ : Nat) : Int); simp only [mlen]; omega) (by decide) ?_
                    refine m_callS (As := [.int (iI (a 20 (x + (a 12 w.toNat)).toNat))]) (rest := []) C (fun L E => s_isSmall (iI (a 20 (x + (a 12 w.toNat)).toNat))) dX12_fits_239 kS_X12_208 rfl rfl (Nat.le_of_ble_eq_true rfl) ⟨Nat.le_of_ble_eq_true rfl, Nat.le_of_ble_eq_true rfl⟩ ⟨Nat.le_of_ble_eq_true rfl, Nat.le_of_ble_eq_true rfl⟩ ?_
                    rcases inn_c (x := a 20 (x + (a 12 w.toNat)).toNat) (lo := 97) (hi := 122) (r32_c (lo := (-2147483648)) (hi := 2147483647) ra6.1 ra6.2 (by decide) (by decide)) ⟨by decide, by decide⟩ ⟨by decide, by decide⟩ with ⟨h6a, h6b, h6e⟩ | ⟨h6a, h6e⟩
                    · refine m_st (st2 := [.int (iI 1)]) (by rw [show inn (iI (a 20 (x + (a 12 w.toNat)).toNat)) 97 122 = iI 1 from h6e]) ?_
                      refine m_if_ne (tgt := 249) C ⟨by decide, by decide⟩ dX12_fits_242 (by decide) (fun _ => ?_) (fun z => absurd z (by omega))
                      refine m_iconst C dX12_fits_249 ?_
                      exact m_zret C dX12_fits_250 rfl (Or.inl rfl) (Nat.le_of_ble_eq_true rfl) (Nat.le_of_ble_eq_true rfl) ⟨0, rfl, fpb1, bxb1, ⟨by omega, FTE.cn (fun h => by unfold CND isD isG isS at h; omega)⟩⟩
                    · refine m_st (st2 := [.int (iI 0)]) (by rw [show inn (iI (a 20 (x + (a 12 w.toNat)).toNat)) 97 122 = iI 0 from h6e]) ?_
                      refine m_if_ne (tgt := 249) C ⟨by decide, by decide⟩ dX12_fits_242 (by decide) (fun z => absurd z (by omega)) (fun _ => ?_)
                      refine m_iconst C dX12_fits_245 ?_
                      refine m_goto (tgt := 250) C dX12_fits_246 (by decide) ?_
                      exact m_zret C dX12_fits_250 rfl (Or.inr rfl) (Nat.le_of_ble_eq_true rfl) (Nat.le_of_ble_eq_true rfl) ⟨1, rfl, fpb1, bxb1, ⟨by omega, FTE.cy hF (by omega) (by omega) (by unfold CND isD isG isS; omega)⟩⟩
            · refine m_iconst C dX12_fits_106 ?_
              refine m_goto (tgt := 111) C dX12_fits_107 (by decide) ?_
              refine m_istore (lv2 := [(8, .int (iI 1)), (7, .int (iI 1)), (6, .int (iI g)), (5, .int (iI (a 12 w.toNat))), (0, .ref h0), (1, .int (iI w)), (2, .int (iI q)), (3, .int (iI u)), (4, .int (iI x))]) C dX12_fits_111 (by decide) rfl ?_
              refine m_aload_n (j := 4) C dX12_fits_113 rfl ?_
              refine m_geta (k := 11) C dX12_fits_114 w6_70 (by decide) rfl ?_
              refine m_iload_n (j := 5) C dX12_fits_117 rfl ?_
              refine m_ald (k := 11) C dX12_fits_118 rfl rfl (by decide) (by omega) (by show _ < ((_ : Nat) : Int); simp only [mlen]; omega) (by decide) ?_
              have ra7 : (-2147483648) ≤ a 11 w.toNat ∧ a 11 w.toNat ≤ 2147483647 := bxb1.2 11 (w.toNat)
              rcases (show (a 11 w.toNat) = 0 ∨ (a 11 w.toNat) = 1 ∨ (a 11 w.toNat) = 2 ∨ (a 11 w.toNat) = 3 ∨ (a 11 w.toNat) = 4 ∨ ((a 11 w.toNat) < 0 ∨ 4 < (a 11 w.toNat)) by omega) with sw4 | sw4 | sw4 | sw4 | sw4 | sw4
              · refine m_tabIn (tgt := 152) (off := 33) C (r32_c (lo := (-2147483648)) (hi := 2147483647) ra7.1 ra7.2 (by decide) (by decide)) dX12_fits_119 (by omega) (by omega) (by rw [sw4]; rfl) (by decide) ?_
                refine m_iconst C dX12_fits_152 ?_
                exact m_zret C dX12_fits_153 rfl (Or.inr rfl) (Nat.le_of_ble_eq_true rfl) (Nat.le_of_ble_eq_true rfl) ⟨1, rfl, fpb1, bxb1, ⟨by omega, FTE.cy hF (by omega) (by omega) (by unfold CND isD isG isS; omega)⟩⟩
              · refine m_tabIn (tgt := 154) (off := 35) C (r32_c (lo := (-2147483648)) (hi := 2147483647) ra7.1 ra7.2 (by decide) (by decide)) dX12_fits_119 (by omega) (by omega) (by rw [sw4]; rfl) (by decide) ?_
                refine m_iload (j := 1) C dX12_fits_154 rfl ?_
                exact m_zret C dX12_fits_156 rfl (Or.inr rfl) (Nat.le_of_ble_eq_true rfl) (Nat.le_of_ble_eq_true rfl) ⟨1, rfl, fpb1, bxb1, ⟨by omega, FTE.cy hF (by omega) (by omega) (by unfold CND isD isG isS; omega)⟩⟩
              · refine m_tabIn (tgt := 157) (off := 38) C (r32_c (lo := (-2147483648)) (hi := 2147483647) ra7.1 ra7.2 (by decide) (by decide)) dX12_fits_119 (by omega) (by omega) (by rw [sw4]; rfl) (by decide) ?_
                refine m_iload (j := 1) C dX12_fits_157 rfl ?_
                refine m_if_ne (tgt := 171) C ⟨by decide, by decide⟩ dX12_fits_159 (by decide) (fun _ => ?_) (fun z => absurd z (by omega))
                refine m_iconst C dX12_fits_171 ?_
                exact m_zret C dX12_fits_172 rfl (Or.inl rfl) (Nat.le_of_ble_eq_true rfl) (Nat.le_of_ble_eq_true rfl) ⟨0, rfl, fpb1, bxb1, ⟨by omega, FTE.cn (fun h => by unfold CND isD isG isS at h; omega)⟩⟩
              · refine m_tabIn (tgt := 173) (off := 54) C (r32_c (lo := (-2147483648)) (hi := 2147483647) ra7.1 ra7.2 (by decide) (by decide)) dX12_fits_119 (by omega) (by omega) (by rw [sw4]; rfl) (by decide) ?_
                refine m_iload (j := 0) C dX12_fits_173 rfl ?_
                exact m_zret C dX12_fits_175 rfl (Or.inr rfl) (Nat.le_of_ble_eq_true rfl) (Nat.le_of_ble_eq_true rfl) ⟨1, rfl, fpb1, bxb1, ⟨by omega, FTE.cy hF (by omega) (by omega) (by unfold CND isD isG isS; omega)⟩⟩
              · refine m_tabIn (tgt := 176) (off := 57) C (r32_c (lo := (-2147483648)) (hi := 2147483647) ra7.1 ra7.2 (by decide) (by decide)) dX12_fits_119 (by omega) (by omega) (by rw [sw4]; rfl) (by decide) ?_
                refine m_iload (j := 1) C dX12_fits_176 rfl ?_
                refine m_if_eq (tgt := 190) C ⟨by decide, by decide⟩ dX12_fits_178 (by decide) (fun z => absurd z (by omega)) (fun _ => ?_)
                refine m_iload (j := 0) C dX12_fits_181 rfl ?_
                refine m_if_eq (tgt := 190) C ⟨by decide, by decide⟩ dX12_fits_183 (by decide) (fun z => absurd z (by omega)) (fun _ => ?_)
                refine m_iconst C dX12_fits_186 ?_
                refine m_goto (tgt := 191) C dX12_fits_187 (by decide) ?_
                exact m_zret C dX12_fits_191 rfl (Or.inr rfl) (Nat.le_of_ble_eq_true rfl) (Nat.le_of_ble_eq_true rfl) ⟨1, rfl, fpb1, bxb1, ⟨by omega, FTE.cy hF (by omega) (by omega) (by unfold CND isD isG isS; omega)⟩⟩
              · refine m_tabOut (tgt := 192) C (r32_c (lo := (-2147483648)) (hi := 2147483647) ra7.1 ra7.2 (by decide) (by decide)) dX12_fits_119 sw4 (by decide) ?_
                refine m_iload (j := 0) C dX12_fits_192 rfl ?_
                refine m_if_ne (tgt := 249) C ⟨by decide, by decide⟩ dX12_fits_194 (by decide) (fun _ => ?_) (fun z => absurd z (by omega))
                refine m_iconst C dX12_fits_249 ?_
                exact m_zret C dX12_fits_250 rfl (Or.inl rfl) (Nat.le_of_ble_eq_true rfl) (Nat.le_of_ble_eq_true rfl) ⟨0, rfl, fpb1, bxb1, ⟨by omega, FTE.cn (fun h => by unfold CND isD isG isS at h; omega)⟩⟩
        · clear hg
          clear hu
          refine m_iconst C dX12_fits_82 ?_
          exact m_zret C dX12_fits_83 rfl (Or.inl rfl) (Nat.le_of_ble_eq_true rfl) (Nat.le_of_ble_eq_true rfl) ⟨0, rfl, fpb1, bxb1, ⟨by omega, FTE.no hF (by omega) (by omega)⟩⟩
      · refine m_iload (j := 0) C dX12_fits_34 rfl ?_
        refine m_if_eq (tgt := 77) C (r32_01 hg) dX12_fits_36 (by decide) (fun c6 => ?_) (fun c6 => ?_)
        · clear hg
          clear hu
          refine m_iload (j := 0) C dX12_fits_77 rfl ?_
          refine m_if_ne (tgt := 84) C ⟨by omega, by omega⟩ dX12_fits_79 (by decide) (fun z => absurd z (by omega)) (fun _ => ?_)
          refine m_iconst C dX12_fits_82 ?_
          exact m_zret C dX12_fits_83 rfl (Or.inl rfl) (Nat.le_of_ble_eq_true rfl) (Nat.le_of_ble_eq_true rfl) ⟨0, rfl, fpb1, bxb1, ⟨by omega, FTE.no hF (by omega) (by omega)⟩⟩
        · replace hg := (hg.resolve_left c6)
          replace hu := (hu.resolve_left c6)
          refine m_aload_n (j := 3) C dX12_fits_39 rfl ?_
          refine m_geta (k := 14) C dX12_fits_40 w6_73 (by decide) rfl ?_
          refine m_bipush (z := 8) C dX12_fits_43 (by decide) ?_
          refine m_iload_n (j := 4) C dX12_fits_45 rfl ?_
          refine m_imul C dX12_fits_46 ?_
          refine m_iload (j := 1) C dX12_fits_47 rfl ?_
          refine m_iadd C dX12_fits_49 ?_
          refine m_ald (k := 14) C dX12_fits_50 rfl rfl (by decide) (by omega) (by show _ < ((_ : Nat) : Int); simp only [mlen]; omega) (by decide) ?_
          have ra8 : 0 ≤ a 14 ((8 * w) + k).toNat ∧ a 14 ((8 * w) + k).toNat ≤ 125 := bxb1.2 14 (((8 * w) + k).toNat)
          refine m_aload_n (j := 3) C dX12_fits_51 rfl ?_
          refine m_geta (k := 20) C dX12_fits_52 w6_79 (by decide) rfl ?_
          refine m_iload (j := 7) C dX12_fits_55 rfl ?_
          refine m_iload (j := 1) C dX12_fits_57 rfl ?_
          refine m_iadd C dX12_fits_59 ?_
          refine m_ald (k := 20) C dX12_fits_60 rfl rfl (by decide) (by omega) (by show _ < ((_ : Nat) : Int); simp only [mlen]; omega) (by decide) ?_
          have ra9 : (-2147483648) ≤ a 20 (x + k).toNat ∧ a 20 (x + k).toNat ≤ 2147483647 := bxb1.2 20 ((x + k).toNat)
          refine m_icmp_ne (tgt := 68) C (r32_c (lo := 0) (hi := 125) ra8.1 ra8.2 (by decide) (by decide)) (r32_c (lo := (-2147483648)) (hi := 2147483647) ra9.1 ra9.2 (by decide) (by decide)) dX12_fits_61 (by decide) (fun c7 => ?_) (fun c7 => ?_)
          · refine m_iconst C dX12_fits_68 ?_
            refine m_istore (lv2 := [(6, .int (iI 0)), (7, .int (iI k)), (5, .int (iI (a 12 w.toNat))), (0, .ref h0), (1, .int (iI w)), (2, .int (iI q)), (3, .int (iI u)), (4, .int (iI x))]) C dX12_fits_69 (by decide) rfl ?_
            refine m_iinc (z := k) (j := 1) (lv2 := [(7, .int (iI (k + 1))), (6, .int (iI 0)), (5, .int (iI (a 12 w.toNat))), (0, .ref h0), (1, .int (iI w)), (2, .int (iI q)), (3, .int (iI u)), (4, .int (iI x))]) C dX12_fits_71 rfl (by decide) rfl ?_
            refine m_goto (tgt := 27) C dX12_fits_74 (by decide) ?_
            refine m_lv (lv2 := [(6, .int (iI 0)), (7, .int (iI (k + 1))), (5, .int (iI (a 12 w.toNat))), (0, .ref h0), (1, .int (iI w)), (2, .int (iI q)), (3, .int (iI u)), (4, .int (iI x))]) [1, 0, 2, 3, 4, 5, 6, 7] rfl ?_
            exact ih1  0 (k + 1) _ _ (by omega) bxb1 fpb1 (by omega) (by omega) (by omega) (FTG.step0 (by omega) (by omega))
          · refine m_iconst C dX12_fits_64 ?_
            refine m_goto (tgt := 69) C dX12_fits_65 (by decide) ?_
            refine m_istore (lv2 := [(6, .int (iI 1)), (7, .int (iI k)), (5, .int (iI (a 12 w.toNat))), (0, .ref h0), (1, .int (iI w)), (2, .int (iI q)), (3, .int (iI u)), (4, .int (iI x))]) C dX12_fits_69 (by decide) rfl ?_
            refine m_iinc (z := k) (j := 1) (lv2 := [(7, .int (iI (k + 1))), (6, .int (iI 1)), (5, .int (iI (a 12 w.toNat))), (0, .ref h0), (1, .int (iI w)), (2, .int (iI q)), (3, .int (iI u)), (4, .int (iI x))]) C dX12_fits_71 rfl (by decide) rfl ?_
            refine m_goto (tgt := 27) C dX12_fits_74 (by decide) ?_
            refine m_lv (lv2 := [(6, .int (iI 1)), (7, .int (iI (k + 1))), (5, .int (iI (a 12 w.toNat))), (0, .ref h0), (1, .int (iI w)), (2, .int (iI q)), (3, .int (iI u)), (4, .int (iI x))]) [1, 0, 2, 3, 4, 5, 6, 7] rfl ?_
            exact ih1  1 (k + 1) _ _ (by omega) bxb1 fpb1 (by omega) (by omega) (by omega) (hF.step1 (by omega) (by omega))
  refine m_iload (j := 5) C dX12_fits_8 rfl ?_
  refine m_iload (j := 0) C dX12_fits_10 rfl ?_
  refine m_iadd C dX12_fits_12 ?_
  refine m_iload_n (j := 4) C dX12_fits_13 rfl ?_
  refine m_icmp_gt (tgt := 21) C ⟨by omega, by omega⟩ ⟨by omega, by omega⟩ dX12_fits_14 (by decide) (fun c8 => ?_) (fun c8 => ?_)
  · refine m_iconst C dX12_fits_21 ?_
    refine m_istore (lv2 := [(6, .int (iI 0)), (5, .int (iI (a 12 w.toNat))), (0, .ref h0), (1, .int (iI w)), (2, .int (iI q)), (3, .int (iI u)), (4, .int (iI x))]) C dX12_fits_22 (by decide) rfl ?_
    refine m_iconst C dX12_fits_24 ?_
    refine m_istore (lv2 := [(7, .int (iI 0)), (6, .int (iI 0)), (5, .int (iI (a 12 w.toNat))), (0, .ref h0), (1, .int (iI w)), (2, .int (iI q)), (3, .int (iI u)), (4, .int (iI x))]) C dX12_fits_25 (by decide) rfl ?_
    refine m_lv (lv2 := [(6, .int (iI 0)), (7, .int (iI 0)), (5, .int (iI (a 12 w.toNat))), (0, .ref h0), (1, .int (iI w)), (2, .int (iI q)), (3, .int (iI u)), (4, .int (iI x))]) [1, 0, 2, 3, 4, 5, 6, 7] rfl ?_
    exact Lp1 10 0 0 _ _ (by omega) hB fp0 (by omega) (by omega) (by omega) (FTG.init0 (by omega))
  · refine m_iconst C dX12_fits_17 ?_
    refine m_goto (tgt := 22) C dX12_fits_18 (by decide) ?_
    refine m_istore (lv2 := [(6, .int (iI 1)), (5, .int (iI (a 12 w.toNat))), (0, .ref h0), (1, .int (iI w)), (2, .int (iI q)), (3, .int (iI u)), (4, .int (iI x))]) C dX12_fits_22 (by decide) rfl ?_
    refine m_iconst C dX12_fits_24 ?_
    refine m_istore (lv2 := [(7, .int (iI 0)), (6, .int (iI 1)), (5, .int (iI (a 12 w.toNat))), (0, .ref h0), (1, .int (iI w)), (2, .int (iI q)), (3, .int (iI u)), (4, .int (iI x))]) C dX12_fits_25 (by decide) rfl ?_
    refine m_lv (lv2 := [(6, .int (iI 1)), (7, .int (iI 0)), (5, .int (iI (a 12 w.toNat))), (0, .ref h0), (1, .int (iI w)), (2, .int (iI q)), (3, .int (iI u)), (4, .int (iI x))]) [1, 0, 2, 3, 4, 5, 6, 7] rfl ?_
    exact Lp1 10 1 0 _ _ (by omega) hB fp0 (by omega) (by omega) (by omega) (FTG.init1 (by omega))
set_option maxHeartbeats 4000000 in
set_option maxRecDepth 100000 in
theorem E_own {l : Launch} {G : GT} {h0 : Nat} {ad ln : Nat → Nat} {v : Nat → Int} {a : Nat → Nat → Int}  {t q u x : Int} (hB : BX v a) (hT : TBL v a) (ht : 0 ≤ t ∧ t < v 4) (hx : 0 ≤ q ∧ q ≤ x ∧ x < u ∧ u ≤ 500) : Mm l G yX12_own cX12_own 7 (some .int) 2 [.int (iI t), .int (iI q), .int (iI u), .int (iI x)] h0 ad ln v a 0 0 (fun r v2 a2 => ∃ f : Int, r = some (.int (iI f)) ∧ fr [] [] v a v2 a2 ∧ BX v2 a2 ∧ ((f = -1 ∨ (0 ≤ f ∧ f < 6000 ∧ (1 ≤ a 12 f.toNat ∧ a 12 f.toNat ≤ 8) ∧ (1 ≤ a 13 f.toNat ∧ a 13 f.toNat ≤ 4) ∧ x + a 12 f.toNat ≤ u)) ∧ OWR a (a 20) q u x t f)) := by
  refine Mm.mk (by decide) (Nat.le_of_ble_eq_true rfl) ?_
  intro p e s m args below meth c A C
  refine hv3 (show 0 ≤ v 4 ∧ v 4 ≤ 30 from hB.1 4) (show 0 ≤ a 10 t.toNat ∧ a 10 t.toNat ≤ 200 from hB.2 10 _) (show fr [] [] v a v a from fr.refl) (fun h30 r10 fp0 => ?_)
  refine m_iconst C dX12_own_0 ?_
  refine m_istore (lv2 := [(5, .int (iI (-1))), (0, .ref h0), (1, .int (iI t)), (2, .int (iI q)), (3, .int (iI u)), (4, .int (iI x))]) C dX12_own_1 (by decide) rfl ?_
  refine m_sipush (z := 200) C dX12_own_3 (by decide) ?_
  refine m_iload_n (j := 2) C dX12_own_6 rfl ?_
  refine m_imul C dX12_own_7 ?_
  refine m_istore (lv2 := [(6, .int (iI (200 * t))), (5, .int (iI (-1))), (0, .ref h0), (1, .int (iI t)), (2, .int (iI q)), (3, .int (iI u)), (4, .int (iI x))]) C dX12_own_8 (by decide) rfl ?_
  have Lp1 : ∀ (nn : Nat) (w1 k : Int) (vb1 : Nat → Int) (ab1 : Nat → Nat → Int), 200 * t + 201 - k < (nn : Int) → BX vb1 ab1 → fr [] [] v a vb1 ab1 → (200 * t ≤ k ∧ k ≤ 200 * t + a 10 t.toNat) → (w1 = -1 ∨ (200 * t ≤ w1 ∧ w1 < k)) → (OWI a (a 20) q u x t w1 k) → mw p l e (rmq 2 0 0) s m args below meth c G A 7 (MQ below (Qm G A (fun rq Lq Eq => ∃ (vq : Nat → Int) (aq : Nat → Nat → Int), mI G h0 ad ln vq aq Lq Eq ∧ (fun r v2 a2 => ∃ f : Int, r = some (.int (iI f)) ∧ fr [] [] v a v2 a2 ∧ BX v2 a2 ∧ ((f = -1 ∨ (0 ≤ f ∧ f < 6000 ∧ (1 ≤ a 12 f.toNat ∧ a 12 f.toNat ≤ 8) ∧ (1 ≤ a 13 f.toNat ∧ a 13 f.toNat ≤ 4) ∧ x + a 12 f.toNat ≤ u)) ∧ OWR a (a 20) q u x t f)) rq vq aq)) args s 0 0 A) h0 ad ln vb1 ab1 0 0 10 [(5, .int (iI w1)), (6, .int (iI k)), (0, .ref h0), (1, .int (iI t)), (2, .int (iI q)), (3, .int (iI u)), (4, .int (iI x))] [] := by
    intro nn
    induction nn with
    | zero =>
      intro w1 k vb1 ab1 hm bxb1 fpb1 hk hw hO
      obtain ⟨rfl, rfl⟩ := fpb1.eq
      exact absurd hm (by omega)
    | succ nn ih1 =>
      intro w1 k vb1 ab1 hm bxb1 fpb1 hk hw hO
      obtain ⟨rfl, rfl⟩ := fpb1.eq
      refine m_iload (j := 1) C dX12_own_10 rfl ?_
      refine m_sipush (z := 200) C dX12_own_12 (by decide) ?_
      refine m_iload_n (j := 3) C dX12_own_15 rfl ?_
      refine m_imul C dX12_own_16 ?_
      refine m_aload_n (j := 2) C dX12_own_17 rfl ?_
      refine m_geta (k := 10) C dX12_own_18 w6_69 (by decide) rfl ?_
      refine m_iload_n (j := 3) C dX12_own_21 rfl ?_
      refine m_ald (k := 10) C dX12_own_22 rfl rfl (by decide) (by omega) (by show _ < ((_ : Nat) : Int); simp only [mlen]; omega) (by decide) ?_
      have ra1 : 0 ≤ a 10 t.toNat ∧ a 10 t.toNat ≤ 200 := bxb1.2 10 (t.toNat)
      refine m_iadd C dX12_own_23 ?_
      refine m_icmp_ge (tgt := 72) C ⟨by omega, by omega⟩ ⟨by omega, by omega⟩ dX12_own_24 (by decide) (fun c1 => ?_) (fun c1 => ?_)
      · refine m_iload (j := 0) C dX12_own_72 rfl ?_
        exact m_iret C dX12_own_74 rfl (Nat.le_of_ble_eq_true rfl) (Nat.le_of_ble_eq_true rfl) ⟨w1, rfl, fpb1, bxb1, (show _ ∧ _ from have ho : OWR a (a 20) q u x t w1 := (by rw [show k = 200 * t + a 10 t.toNat by omega] at hO; exact hO); ⟨own_rg hT (by omega) (by omega) (by omega) (by omega) ho, ho⟩)⟩
      · have hr0 := (hT.2 t k (by omega) (by omega) (by omega) (by omega)).1
        refine m_iload (j := 0) C dX12_own_27 rfl ?_
        refine m_if_lt (tgt := 49) C ⟨by omega, by omega⟩ dX12_own_29 (by decide) (fun c2 => ?_) (fun c2 => ?_)
        · refine m_aload_n (j := 2) C dX12_own_49 rfl ?_
          refine m_iload (j := 1) C dX12_own_50 rfl ?_
          refine m_iload_n (j := 4) C dX12_own_52 rfl ?_
          refine m_iload_n (j := 5) C dX12_own_53 rfl ?_
          refine m_iload (j := 6) C dX12_own_54 rfl ?_
          have ra2 : 0 ≤ a 12 k.toNat ∧ a 12 k.toNat ≤ 8 := bxb1.2 12 (k.toNat)
          refine m_call (mc2 := 0) (ms2 := 0) (As := [.int (iI k), .int (iI q), .int (iI u), .int (iI x)]) (rest := []) C (E_fits (w := k) (q := q) (u := u) (x := x) bxb1 (by show 0 ≤ k ∧ k < 6000; omega) (by show 1 ≤ a 12 k.toNat ∧ a 12 k.toNat ≤ 8; omega) (by show 0 ≤ q ∧ q ≤ x ∧ x < u ∧ u ≤ 500; omega)) dX12_own_56 kV_X12_211 rfl ck_13 rfl (Nat.le_of_ble_eq_true rfl) ⟨Nat.le_of_ble_eq_true rfl, Nat.le_of_ble_eq_true rfl⟩ ⟨Nat.le_of_ble_eq_true rfl, Nat.le_of_ble_eq_true rfl⟩ (fun rh1 vh1 ah1 h1 => ?_)
          obtain ⟨f1, rfl, fn1, bn1, ex1⟩ := h1
          obtain ⟨rfl, rfl⟩ := fn1.eq
          obtain ⟨ex1, tl1⟩ := ex1
          have gf1 : f1 = 0 ∨ f1 = 1 := ex1
          refine m_st (st2 := [.int (iI f1)]) rfl ?_
          refine m_if_eq (tgt := 66) C (r32_01 gf1) dX12_own_59 (by decide) (fun c3 => ?_) (fun c3 => ?_)
          · clear gf1
            refine m_iinc (z := k) (j := 1) (lv2 := [(6, .int (iI (k + 1))), (5, .int (iI w1)), (0, .ref h0), (1, .int (iI t)), (2, .int (iI q)), (3, .int (iI u)), (4, .int (iI x))]) C dX12_own_66 rfl (by decide) rfl ?_
            refine m_goto (tgt := 10) C dX12_own_69 (by decide) ?_
            refine m_lv (lv2 := [(5, .int (iI w1)), (6, .int (iI (k + 1))), (0, .ref h0), (1, .int (iI t)), (2, .int (iI q)), (3, .int (iI u)), (4, .int (iI x))]) [1, 0, 2, 3, 4, 5, 6] rfl ?_
            exact ih1  w1 (k + 1) _ _ (by omega) bxb1 fpb1 (by omega) (by omega) (hO.miss (fun w => absurd (tl1.mpr w) (by omega)))
          · replace gf1 := (gf1.resolve_left c3)
            refine m_iload (j := 1) C dX12_own_62 rfl ?_
            refine m_istore (lv2 := [(5, .int (iI k)), (6, .int (iI k)), (0, .ref h0), (1, .int (iI t)), (2, .int (iI q)), (3, .int (iI u)), (4, .int (iI x))]) C dX12_own_64 (by decide) rfl ?_
            refine m_iinc (z := k) (j := 1) (lv2 := [(6, .int (iI (k + 1))), (5, .int (iI k)), (0, .ref h0), (1, .int (iI t)), (2, .int (iI q)), (3, .int (iI u)), (4, .int (iI x))]) C dX12_own_66 rfl (by decide) rfl ?_
            refine m_goto (tgt := 10) C dX12_own_69 (by decide) ?_
            refine m_lv (lv2 := [(5, .int (iI k)), (6, .int (iI (k + 1))), (0, .ref h0), (1, .int (iI t)), (2, .int (iI q)), (3, .int (iI u)), (4, .int (iI x))]) [1, 0, 2, 3, 4, 5, 6] rfl ?_
            exact ih1  k (k + 1) _ _ (by omega) bxb1 fpb1 (by omega) (by omega) (hO.hit (by omega) (by omega) (by omega) (tl1.mp (by omega)))
        · refine m_aload_n (j := 2) C dX12_own_32 rfl ?_
          refine m_geta (k := 12) C dX12_own_33 w6_71 (by decide) rfl ?_
          refine m_iload (j := 1) C dX12_own_36 rfl ?_
          refine m_ald (k := 12) C dX12_own_38 rfl rfl (by decide) (by omega) (by show _ < ((_ : Nat) : Int); simp only [mlen]; omega) (by decide) ?_
          have ra3 : 0 ≤ a 12 k.toNat ∧ a 12 k.toNat ≤ 8 := bxb1.2 12 (k.toNat)
          refine m_aload_n (j := 2) C dX12_own_39 rfl ?_
          refine m_geta (k := 12) C dX12_own_40 w6_71 (by decide) rfl ?_
          refine m_iload (j := 0) C dX12_own_43 rfl ?_
          refine m_ald (k := 12) C dX12_own_45 rfl rfl (by decide) (by omega) (by show _ < ((_ : Nat) : Int); simp only [mlen]; omega) (by decide) ?_
          have ra4 : 0 ≤ a 12 w1.toNat ∧ a 12 w1.toNat ≤ 8 := bxb1.2 12 (w1.toNat)
          refine m_icmp_le (tgt := 66) C (r32_c (lo := 0) (hi := 8) ra3.1 ra3.2 (by decide) (by decide)) (r32_c (lo := 0) (hi := 8) ra4.1 ra4.2 (by decide) (by decide)) dX12_own_46 (by decide) (fun c4 => ?_) (fun c4 => ?_)
          · refine m_iinc (z := k) (j := 1) (lv2 := [(6, .int (iI (k + 1))), (5, .int (iI w1)), (0, .ref h0), (1, .int (iI t)), (2, .int (iI q)), (3, .int (iI u)), (4, .int (iI x))]) C dX12_own_66 rfl (by decide) rfl ?_
            refine m_goto (tgt := 10) C dX12_own_69 (by decide) ?_
            refine m_lv (lv2 := [(5, .int (iI w1)), (6, .int (iI (k + 1))), (0, .ref h0), (1, .int (iI t)), (2, .int (iI q)), (3, .int (iI u)), (4, .int (iI x))]) [1, 0, 2, 3, 4, 5, 6] rfl ?_
            exact ih1  w1 (k + 1) _ _ (by omega) bxb1 fpb1 (by omega) (by omega) (hO.skip (by omega) (by omega) (by omega))
          · refine m_aload_n (j := 2) C dX12_own_49 rfl ?_
            refine m_iload (j := 1) C dX12_own_50 rfl ?_
            refine m_iload_n (j := 4) C dX12_own_52 rfl ?_
            refine m_iload_n (j := 5) C dX12_own_53 rfl ?_
            refine m_iload (j := 6) C dX12_own_54 rfl ?_
            refine m_call (mc2 := 0) (ms2 := 0) (As := [.int (iI k), .int (iI q), .int (iI u), .int (iI x)]) (rest := []) C (E_fits (w := k) (q := q) (u := u) (x := x) bxb1 (by show 0 ≤ k ∧ k < 6000; omega) (by show 1 ≤ a 12 k.toNat ∧ a 12 k.toNat ≤ 8; omega) (by show 0 ≤ q ∧ q ≤ x ∧ x < u ∧ u ≤ 500; omega)) dX12_own_56 kV_X12_211 rfl ck_13 rfl (Nat.le_of_ble_eq_true rfl) ⟨Nat.le_of_ble_eq_true rfl, Nat.le_of_ble_eq_true rfl⟩ ⟨Nat.le_of_ble_eq_true rfl, Nat.le_of_ble_eq_true rfl⟩ (fun rh2 vh2 ah2 h2 => ?_)
            obtain ⟨f2, rfl, fn2, bn2, ex2⟩ := h2
            obtain ⟨rfl, rfl⟩ := fn2.eq
            obtain ⟨ex2, tl2⟩ := ex2
            have gf2 : f2 = 0 ∨ f2 = 1 := ex2
            refine m_st (st2 := [.int (iI f2)]) rfl ?_
            refine m_if_eq (tgt := 66) C (r32_01 gf2) dX12_own_59 (by decide) (fun c5 => ?_) (fun c5 => ?_)
            · clear gf2
              refine m_iinc (z := k) (j := 1) (lv2 := [(6, .int (iI (k + 1))), (5, .int (iI w1)), (0, .ref h0), (1, .int (iI t)), (2, .int (iI q)), (3, .int (iI u)), (4, .int (iI x))]) C dX12_own_66 rfl (by decide) rfl ?_
              refine m_goto (tgt := 10) C dX12_own_69 (by decide) ?_
              refine m_lv (lv2 := [(5, .int (iI w1)), (6, .int (iI (k + 1))), (0, .ref h0), (1, .int (iI t)), (2, .int (iI q)), (3, .int (iI u)), (4, .int (iI x))]) [1, 0, 2, 3, 4, 5, 6] rfl ?_
              exact ih1  w1 (k + 1) _ _ (by omega) bxb1 fpb1 (by omega) (by omega) (hO.miss (fun w => absurd (tl2.mpr w) (by omega)))
            · replace gf2 := (gf2.resolve_left c5)
              refine m_iload (j := 1) C dX12_own_62 rfl ?_
              refine m_istore (lv2 := [(5, .int (iI k)), (6, .int (iI k)), (0, .ref h0), (1, .int (iI t)), (2, .int (iI q)), (3, .int (iI u)), (4, .int (iI x))]) C dX12_own_64 (by decide) rfl ?_
              refine m_iinc (z := k) (j := 1) (lv2 := [(6, .int (iI (k + 1))), (5, .int (iI k)), (0, .ref h0), (1, .int (iI t)), (2, .int (iI q)), (3, .int (iI u)), (4, .int (iI x))]) C dX12_own_66 rfl (by decide) rfl ?_
              refine m_goto (tgt := 10) C dX12_own_69 (by decide) ?_
              refine m_lv (lv2 := [(5, .int (iI k)), (6, .int (iI (k + 1))), (0, .ref h0), (1, .int (iI t)), (2, .int (iI q)), (3, .int (iI u)), (4, .int (iI x))]) [1, 0, 2, 3, 4, 5, 6] rfl ?_
              exact ih1  k (k + 1) _ _ (by omega) bxb1 fpb1 (by omega) (by omega) (hO.hit (by omega) (by omega) (by omega) (tl2.mp (by omega)))
  refine m_lv (lv2 := [(5, .int (iI (-1))), (6, .int (iI (200 * t))), (0, .ref h0), (1, .int (iI t)), (2, .int (iI q)), (3, .int (iI u)), (4, .int (iI x))]) [1, 0, 2, 3, 4, 5, 6] rfl ?_
  exact Lp1 202 (-1) (200 * t) _ _ (by omega) hB fp0 (by omega) (by omega) OWI.zero
def FindE (l : Launch) (G : GT) (h0 : Nat) (ad ln : Nat → Nat) (d n : Nat) (t : Int) : Prop := ∀ (v : Nat → Int) (a : Nat → Nat → Int) (q u x : Int), BX v a → TBL v a → t < v 4 → a 6 t.toNat ≤ 4 → (0 ≤ q ∧ q ≤ x ∧ x < u ∧ u ≤ 500) → Mm l G yX12_find cX12_find 7 (some .int) d [.int (iI t), .int (iI q), .int (iI u), .int (iI x)] h0 ad ln v a 0 0 (fun r v2 a2 => ∃ f : Int, r = some (.int (iI f)) ∧ fr [] [27] v a v2 a2 ∧ BX v2 a2 ∧ ((f = -1 ∨ (0 ≤ f ∧ f < 6000 ∧ (1 ≤ a 12 f.toNat ∧ a 12 f.toNat ≤ 8) ∧ (1 ≤ a 13 f.toNat ∧ a 13 f.toNat ≤ 4) ∧ x + a 12 f.toNat ≤ u)) ∧ fnd a q u x n (a 20) t f))
set_option maxHeartbeats 4000000 in
set_option maxRecDepth 100000 in
theorem E_contracted {l : Launch} {G : GT} {h0 : Nat} {ad ln : Nat → Nat} {v : Nat → Int} {a : Nat → Nat → Int} {d n : Nat} {t q u x : Int} (hB : BX v a) (hT : TBL v a) (ht : 0 ≤ t ∧ t < v 4) (h30 : v 4 ≤ 30) (hk : 1 ≤ a 6 t.toNat ∧ a 6 t.toNat ≤ 3) (hx : 0 ≤ q ∧ q ≤ x ∧ x < u ∧ u ≤ 500) (hd : 3 ≤ d) (hf : ∀ b : Int, 0 ≤ b → b < t → FindE l G h0 ad ln d n b) : Mm l G yX12_contracted cX12_contracted 7 (some .int) (d + 1) [.int (iI t), .int (iI q), .int (iI u), .int (iI x)] h0 ad ln v a 0 0 (fun r v2 a2 => ∃ f : Int, r = some (.int (iI f)) ∧ fr [] [27] v a v2 a2 ∧ BX v2 a2 ∧ ((f = -1 ∨ (0 ≤ f ∧ f < 6000 ∧ (1 ≤ a 12 f.toNat ∧ a 12 f.toNat ≤ 8) ∧ (1 ≤ a 13 f.toNat ∧ a 13 f.toNat ≤ 4) ∧ x + a 12 f.toNat ≤ u)) ∧ CTD a q u x n (a 20) t f)) := by
  refine Mm.mk (by decide) (Nat.le_of_ble_eq_true rfl) ?_
  intro p e s m args below meth c A C
  refine hv2 (hT.1 t (by omega) (by omega)) (show fr [] [27] v a v a from fr.refl) (fun ht0 fp0 => ?_)
  refine m_aload_n (j := 0) C dX12_contracted_0 rfl ?_
  refine m_geta (k := 27) C dX12_contracted_1 w6_86 (by decide) rfl ?_
  refine m_iconst C dX12_contracted_4 ?_
  refine m_dup2 C dX12_contracted_5 rfl rfl ?_
  refine m_ald (k := 27) C dX12_contracted_6 rfl rfl (by decide) (by decide) (by decide) (by decide) ?_
  have ra1 : (-2147483648) ≤ a 27 0 ∧ a 27 0 ≤ 2147483647 := hB.2 27 (0)
  refine m_st (st2 := [.int (iI (a 27 0)), .int (iI 0), .ref (ad 27)]) rfl ?_
  refine m_iconst C dX12_contracted_7 ?_
  refine m_iadd C dX12_contracted_8 ?_
  obtain ⟨zz1, hzz1, ezz1⟩ := iI_of (iI ((a 27 0) + 1))
  refine m_st (st2 := [.int (iI zz1), .int (iI 0), .ref (ad 27)]) (by rw [ezz1]) ?_
  refine m_ast (k := 27) C dX12_contracted_9 rfl rfl (by decide) (by decide) (by decide) (by decide) ?_
  refine hv2 (show BX v (up2 a 27 (0 : Int).toNat zz1) from hB.set (k := 27) (i := (0 : Int).toNat) (z := zz1) (show (-2147483648) ≤ zz1 ∧ zz1 ≤ 2147483647 by omega)) (fp0.set (k := 27) (i := (0 : Int).toNat) (z := zz1) rfl) (fun bq1 fq1 => ?_)
  refine m_aload_n (j := 0) C dX12_contracted_10 rfl ?_
  refine m_iload_n (j := 1) C dX12_contracted_11 rfl ?_
  refine m_iload_n (j := 2) C dX12_contracted_12 rfl ?_
  refine m_iload_n (j := 3) C dX12_contracted_13 rfl ?_
  refine m_iload (j := 4) C dX12_contracted_14 rfl ?_
  have rv1 : 0 ≤ v 4 ∧ v 4 ≤ 30 := bq1.1 4
  refine m_call (mc2 := 0) (ms2 := 0) (As := [.int (iI t), .int (iI q), .int (iI u), .int (iI x)]) (rest := []) C (E_own (t := t) (q := q) (u := u) (x := x) bq1 (hT.fr fq1 rfl rfl) (by show 0 ≤ t ∧ t < (v 4); omega) (by show 0 ≤ q ∧ q ≤ x ∧ x < u ∧ u ≤ 500; omega)) dX12_contracted_16 kV_X12_221 rfl ck_13 rfl (Nat.le_of_ble_eq_true rfl) ⟨by dsimp only [rmq]; omega, by dsimp only [rmq]; omega⟩ ⟨Nat.le_of_ble_eq_true rfl, Nat.le_of_ble_eq_true rfl⟩ (fun rh1 vh1 ah1 h1 => ?_)
  obtain ⟨f1, rfl, fn1, bn1, ex1⟩ := h1
  obtain ⟨rfl, rfl⟩ := fn1.eq
  obtain ⟨ex1, tl1⟩ := ex1
  refine hv3 (show f1 = -1 ∨ (0 ≤ f1 ∧ f1 < 6000 ∧ (1 ≤ a 12 f1.toNat ∧ a 12 f1.toNat ≤ 8) ∧ (1 ≤ a 13 f1.toNat ∧ a 13 f1.toNat ≤ 4) ∧ x + a 12 f1.toNat ≤ u) from ex1) (show 0 ≤ a 12 f1.toNat ∧ a 12 f1.toNat ≤ 8 from bq1.2 12 (f1.toNat)) (show 0 ≤ a 13 f1.toNat ∧ a 13 f1.toNat ≤ 4 from bq1.2 13 (f1.toNat)) (fun gf1 ra2 ra3 => ?_)
  refine m_st (st2 := [.int (iI f1)]) rfl ?_
  refine m_istore (lv2 := [(5, .int (iI f1)), (0, .ref h0), (1, .int (iI t)), (2, .int (iI q)), (3, .int (iI u)), (4, .int (iI x))]) C dX12_contracted_19 (by decide) rfl ?_
  refine m_aload_n (j := 1) C dX12_contracted_21 rfl ?_
  refine m_aload_n (j := 1) C dX12_contracted_22 rfl ?_
  refine m_geta (k := 8) C dX12_contracted_23 w6_67 (by decide) rfl ?_
  refine m_iload_n (j := 2) C dX12_contracted_26 rfl ?_
  refine m_ald (k := 8) C dX12_contracted_27 rfl rfl (by decide) (by omega) (by show _ < ((_ : Nat) : Int); simp only [mlen]; omega) (by decide) ?_
  have ra4 : (-1) ≤ a 8 t.toNat ∧ a 8 t.toNat ≤ 29 := bq1.2 8 (t.toNat)
  refine m_st (st2 := [.int (iI (a 8 t.toNat)), .ref h0]) (congrArg (fun z => Value.int (iI z) :: [.ref h0]) (congrFun (fq1.2 8 rfl) (t.toNat))) ?_
  refine m_iload_n (j := 3) C dX12_contracted_28 rfl ?_
  refine m_iload_n (j := 4) C dX12_contracted_29 rfl ?_
  refine m_iload (j := 5) C dX12_contracted_30 rfl ?_
  refine m_call (mc2 := 0) (ms2 := 0) (As := [.int (iI (a 8 t.toNat)), .int (iI q), .int (iI u), .int (iI x)]) (rest := []) C (hf (a 8 t.toNat) (by omega) (by omega) _ _ q u x bq1 (hT.fr fq1 rfl rfl) (by show a 8 t.toNat < v 4; omega) (by show a 6 (a 8 t.toNat).toNat ≤ 4; omega) (by omega)) dX12_contracted_32 kV_X12_218 rfl ck_13 rfl (Nat.le_of_ble_eq_true rfl) ⟨by dsimp only [rmq]; omega, by dsimp only [rmq]; omega⟩ ⟨Nat.le_of_ble_eq_true rfl, Nat.le_of_ble_eq_true rfl⟩ (fun rh2 vh2 ah2 h2 => ?_)
  obtain ⟨f2, rfl, fn2, bn2, ex2, tl2⟩ := h2
  refine hv2 (fq1.call fn2 rfl rfl) (show f2 = -1 ∨ (0 ≤ f2 ∧ f2 < 6000 ∧ (1 ≤ a 12 f2.toNat ∧ a 12 f2.toNat ≤ 8) ∧ (1 ≤ a 13 f2.toNat ∧ a 13 f2.toNat ≤ 4) ∧ x + a 12 f2.toNat ≤ u) from ex2) (fun fq3 ef2 => ?_)
  refine m_st (st2 := [.int (iI f2)]) rfl ?_
  refine m_istore (lv2 := [(6, .int (iI f2)), (5, .int (iI f1)), (0, .ref h0), (1, .int (iI t)), (2, .int (iI q)), (3, .int (iI u)), (4, .int (iI x))]) C dX12_contracted_35 (by decide) rfl ?_
  refine m_iload (j := 1) C dX12_contracted_37 rfl ?_
  refine m_if_lt (tgt := 64) C ⟨by omega, by omega⟩ dX12_contracted_39 (by decide) (fun c1 => ?_) (fun c1 => ?_)
  · replace gf1 := gf1.resolve_right (fun q => by omega)
    refine m_iload (j := 0) C dX12_contracted_64 rfl ?_
    refine m_goto (tgt := 71) C dX12_contracted_66 (by decide) ?_
    exact m_iret C dX12_contracted_71 rfl (Nat.le_of_ble_eq_true rfl) (Nat.le_of_ble_eq_true rfl) ⟨f2, rfl, fq3, bn2, ⟨by omega, CTD.mk fq1 fq1 tl1 tl2 (by unfold cmb; rw [if_pos (by omega)])⟩⟩
  · replace gf1 := gf1.resolve_left (fun q => by omega)
    refine m_iload (j := 0) C dX12_contracted_42 rfl ?_
    refine m_if_lt (tgt := 69) C ⟨by omega, by omega⟩ dX12_contracted_44 (by decide) (fun c2 => ?_) (fun c2 => ?_)
    · refine m_iload (j := 1) C dX12_contracted_69 rfl ?_
      exact m_iret C dX12_contracted_71 rfl (Nat.le_of_ble_eq_true rfl) (Nat.le_of_ble_eq_true rfl) ⟨f1, rfl, fq3, bn2, ⟨by omega, CTD.mk fq1 fq1 tl1 tl2 (by unfold cmb; rw [if_neg (by omega)])⟩⟩
    · refine m_aload_n (j := 2) C dX12_contracted_47 rfl ?_
      refine m_geta (k := 12) C dX12_contracted_48 w6_71 (by decide) rfl ?_
      refine m_iload (j := 0) C dX12_contracted_51 rfl ?_
      refine m_ald (k := 12) C dX12_contracted_53 rfl rfl (by decide) (by omega) (by show _ < ((_ : Nat) : Int); simp only [mlen]; omega) (by decide) ?_
      refine hv2 (show 0 ≤ ah2 12 f2.toNat ∧ ah2 12 f2.toNat ≤ 8 from bn2.2 12 (f2.toNat)) (show ah2 12 (f2.toNat) = a 12 (f2.toNat) from congrFun (fn2.2 12 rfl) (f2.toNat)) (fun ra5 ae1 => ?_)
      refine m_st (st2 := [.int (iI (a 12 f2.toNat))]) (congrArg (fun z => Value.int (iI z) :: []) (congrFun (fq3.2 12 rfl) (f2.toNat))) ?_
      refine m_aload_n (j := 2) C dX12_contracted_54 rfl ?_
      refine m_geta (k := 12) C dX12_contracted_55 w6_71 (by decide) rfl ?_
      refine m_iload (j := 1) C dX12_contracted_58 rfl ?_
      refine m_ald (k := 12) C dX12_contracted_60 rfl rfl (by decide) (by omega) (by show _ < ((_ : Nat) : Int); simp only [mlen]; omega) (by decide) ?_
      refine hv2 (show 0 ≤ ah2 12 f1.toNat ∧ ah2 12 f1.toNat ≤ 8 from bn2.2 12 (f1.toNat)) (show ah2 12 (f1.toNat) = a 12 (f1.toNat) from congrFun (fn2.2 12 rfl) (f1.toNat)) (fun ra6 ae2 => ?_)
      refine m_st (st2 := [.int (iI (a 12 f1.toNat)), .int (iI (a 12 f2.toNat))]) (congrArg (fun z => Value.int (iI z) :: [.int (iI (a 12 f2.toNat))]) (congrFun (fq3.2 12 rfl) (f1.toNat))) ?_
      refine m_icmp_le (tgt := 69) C ⟨by omega, by omega⟩ (r32_c (lo := 0) (hi := 8) ra2.1 ra2.2 (by decide) (by decide)) dX12_contracted_61 (by decide) (fun c3 => ?_) (fun c3 => ?_)
      · refine m_iload (j := 1) C dX12_contracted_69 rfl ?_
        exact m_iret C dX12_contracted_71 rfl (Nat.le_of_ble_eq_true rfl) (Nat.le_of_ble_eq_true rfl) ⟨f1, rfl, fq3, bn2, ⟨by omega, CTD.mk fq1 fq1 tl1 tl2 (by unfold cmb; rw [if_neg (by omega)])⟩⟩
      · refine m_iload (j := 0) C dX12_contracted_64 rfl ?_
        refine m_goto (tgt := 71) C dX12_contracted_66 (by decide) ?_
        exact m_iret C dX12_contracted_71 rfl (Nat.le_of_ble_eq_true rfl) (Nat.le_of_ble_eq_true rfl) ⟨f2, rfl, fq3, bn2, ⟨by omega, CTD.mk fq1 fq1 tl1 tl2 (by unfold cmb; rw [if_pos (by omega)])⟩⟩
theorem CTD.fx {V1 : List Nat} {v v1 : Nat → Int} {a a1 : Nat → Nat → Int} {q u x t f : Int} {n : Nat} (f1 : fr V1 [27] v a v1 a1) (h : CTD a1 q u x n (a1 20) t f) : CTD a q u x n (a 20) t f := by
  have w1 : a1 20 = a 20 := f1.2 20 rfl
  rw [w1] at h
  exact CTD.cg f1 rfl h
theorem sml_w {a1 : Nat → Nat → Int} {W : Nat → Int} {x z : Int} (h : a1 20 = W) (hz : z = sml (W x.toNat)) : up2 a1 20 x.toNat z 20 = va_up W x.toNat (sml (W x.toNat)) := by
  rw [← hz, ← h]
  funext j
  unfold up2 va_up
  rw [if_pos rfl]
set_option maxHeartbeats 4000000 in
set_option maxRecDepth 100000 in
theorem E_find1 {l : Launch} {G : GT} {h0 : Nat} {ad ln : Nat → Nat} {v : Nat → Int} {a : Nat → Nat → Int} {d n : Nat} {t q u x : Int} (hB : BX v a) (hT : TBL v a) (ht : 0 ≤ t ∧ t < v 4) (h4 : a 6 t.toNat ≤ 4) (hx : 0 ≤ q ∧ q ≤ x ∧ x < u ∧ u ≤ 500) (hd : 3 ≤ d) (hf : ∀ b : Int, 0 ≤ b → b < t → FindE l G h0 ad ln d n b) : Mm l G yX12_find cX12_find 7 (some .int) (d + 2) [.int (iI t), .int (iI q), .int (iI u), .int (iI x)] h0 ad ln v a 0 0 (fun r v2 a2 => ∃ f : Int, r = some (.int (iI f)) ∧ fr [] [27] v a v2 a2 ∧ BX v2 a2 ∧ ((f = -1 ∨ (0 ≤ f ∧ f < 6000 ∧ (1 ≤ a 12 f.toNat ∧ a 12 f.toNat ≤ 8) ∧ (1 ≤ a 13 f.toNat ∧ a 13 f.toNat ≤ 4) ∧ x + a 12 f.toNat ≤ u)) ∧ fnd a q u x (n + 1) (a 20) t f)) := by
  refine Mm.mk (by decide) (Nat.le_of_ble_eq_true rfl) ?_
  intro p e s m args below meth c A C
  refine hv2 (show 0 ≤ v 4 ∧ v 4 ≤ 30 from hB.1 4) (show fr [] [27] v a v a from fr.refl) (fun h30 fp0 => ?_)
  have ht0 := hT.1 t (by omega) (by omega)
  refine m_aload_n (j := 0) C dX12_find_0 rfl ?_
  refine m_geta (k := 27) C dX12_find_1 w6_86 (by decide) rfl ?_
  refine m_aload_n (j := 0) C dX12_find_4 rfl ?_
  refine m_geta (k := 6) C dX12_find_5 w6_65 (by decide) rfl ?_
  refine m_iload_n (j := 1) C dX12_find_8 rfl ?_
  refine m_ald (k := 6) C dX12_find_9 rfl rfl (by decide) (by omega) (by show _ < ((_ : Nat) : Int); simp only [mlen]; omega) (by decide) ?_
  have ra1 : 0 ≤ a 6 t.toNat ∧ a 6 t.toNat ≤ 5 := hB.2 6 (t.toNat)
  refine m_dup2 C dX12_find_10 rfl rfl ?_
  refine m_ald (k := 27) C dX12_find_11 rfl rfl (by decide) (by omega) (by show _ < ((_ : Nat) : Int); simp only [mlen]; omega) (by decide) ?_
  have ra2 : (-2147483648) ≤ a 27 (a 6 t.toNat).toNat ∧ a 27 (a 6 t.toNat).toNat ≤ 2147483647 := hB.2 27 ((a 6 t.toNat).toNat)
  refine m_iconst C dX12_find_12 ?_
  refine m_iadd C dX12_find_13 ?_
  obtain ⟨zz1, hzz1, ezz1⟩ := iI_of (iI ((a 27 (a 6 t.toNat).toNat) + 1))
  refine m_st (st2 := [.int (iI zz1), .int (iI (a 6 t.toNat)), .ref (ad 27)]) (by rw [ezz1]) ?_
  refine m_ast (k := 27) C dX12_find_14 rfl rfl (by decide) (by omega) (by show _ < ((_ : Nat) : Int); simp only [mlen]; omega) (by decide) ?_
  refine hv2 (show BX v (up2 a 27 (a 6 t.toNat).toNat zz1) from hB.set (k := 27) (i := (a 6 t.toNat).toNat) (z := zz1) (show (-2147483648) ≤ zz1 ∧ zz1 ≤ 2147483647 by omega)) (fp0.set (k := 27) (i := (a 6 t.toNat).toNat) (z := zz1) rfl) (fun bq1 fq1 => ?_)
  refine m_aload_n (j := 0) C dX12_find_15 rfl ?_
  refine m_geta (k := 6) C dX12_find_16 w6_65 (by decide) rfl ?_
  refine m_iload_n (j := 1) C dX12_find_19 rfl ?_
  refine m_ald (k := 6) C dX12_find_20 rfl rfl (by decide) (by omega) (by show _ < ((_ : Nat) : Int); simp only [mlen]; omega) (by decide) ?_
  refine m_st (st2 := [.int (iI (a 6 t.toNat))]) (congrArg (fun z => Value.int (iI z) :: []) (congrFun (fq1.2 6 rfl) (t.toNat))) ?_
  rcases (show (a 6 t.toNat) = 1 ∨ (a 6 t.toNat) = 2 ∨ (a 6 t.toNat) = 3 ∨ ((a 6 t.toNat) < 1 ∨ 3 < (a 6 t.toNat)) by omega) with sw1 | sw1 | sw1 | sw1
  · refine m_tabIn (tgt := 48) (off := 27) C (r32_c (lo := 0) (hi := 5) ra1.1 ra1.2 (by decide) (by decide)) dX12_find_21 (by omega) (by omega) (by rw [sw1]; rfl) (by decide) ?_
    refine m_aload_n (j := 0) C dX12_find_48 rfl ?_
    refine m_iload_n (j := 1) C dX12_find_49 rfl ?_
    refine m_iload_n (j := 2) C dX12_find_50 rfl ?_
    refine m_iload_n (j := 3) C dX12_find_51 rfl ?_
    refine m_iload (j := 4) C dX12_find_52 rfl ?_
    refine m_call (mc2 := 0) (ms2 := 0) (As := [.int (iI t), .int (iI q), .int (iI u), .int (iI x)]) (rest := []) C (E_contracted (t := t) (q := q) (u := u) (x := x) bq1 (hT.fr fq1 rfl rfl) (by show 0 ≤ t ∧ t < v 4; omega) (by show v 4 ≤ 30; omega) (by show 1 ≤ a 6 t.toNat ∧ a 6 t.toNat ≤ 3; omega) hx hd hf) dX12_find_54 kV_X12_215 rfl ck_13 rfl (Nat.le_of_ble_eq_true rfl) ⟨by dsimp only [rmq]; omega, by dsimp only [rmq]; omega⟩ ⟨Nat.le_of_ble_eq_true rfl, Nat.le_of_ble_eq_true rfl⟩ (fun rh1 vh1 ah1 h1 => ?_)
    obtain ⟨f1, rfl, fn1, bn1, ex1, tl1⟩ := h1
    refine hv2 (fq1.call fn1 rfl rfl) (show f1 = -1 ∨ (0 ≤ f1 ∧ f1 < 6000 ∧ (1 ≤ a 12 f1.toNat ∧ a 12 f1.toNat ≤ 8) ∧ (1 ≤ a 13 f1.toNat ∧ a 13 f1.toNat ≤ 4) ∧ x + a 12 f1.toNat ≤ u) from ex1) (fun fq2 ef1 => ?_)
    refine m_st (st2 := [.int (iI f1)]) rfl ?_
    exact m_iret C dX12_find_57 rfl (Nat.le_of_ble_eq_true rfl) (Nat.le_of_ble_eq_true rfl) ⟨f1, rfl, fq2, bn1, ⟨by omega, fnd.k1 (by omega) (CTD.fx fq1 tl1)⟩⟩
  · refine m_tabIn (tgt := 58) (off := 37) C (r32_c (lo := 0) (hi := 5) ra1.1 ra1.2 (by decide) (by decide)) dX12_find_21 (by omega) (by omega) (by rw [sw1]; rfl) (by decide) ?_
    refine m_aload_n (j := 0) C dX12_find_58 rfl ?_
    refine m_geta (k := 20) C dX12_find_59 w6_79 (by decide) rfl ?_
    refine m_iload (j := 4) C dX12_find_62 rfl ?_
    refine m_ald (k := 20) C dX12_find_64 rfl rfl (by decide) (by omega) (by show _ < ((_ : Nat) : Int); simp only [mlen]; omega) (by decide) ?_
    have ra3 : (-2147483648) ≤ a 20 x.toNat ∧ a 20 x.toNat ≤ 2147483647 := bq1.2 20 (x.toNat)
    refine m_st (st2 := [.int (iI (a 20 x.toNat))]) (congrArg (fun z => Value.int (iI z) :: []) (congrFun (fq1.2 20 rfl) (x.toNat))) ?_
    refine m_callS (As := [.int (iI (a 20 x.toNat))]) (rest := []) C (fun L E => s_isDigit (iI (a 20 x.toNat))) dX12_find_65 kS_X12_202 rfl rfl (Nat.le_of_ble_eq_true rfl) ⟨by dsimp only [rmq]; omega, by dsimp only [rmq]; omega⟩ ⟨Nat.le_of_ble_eq_true rfl, Nat.le_of_ble_eq_true rfl⟩ ?_
    rcases inn_c (x := a 20 x.toNat) (lo := 48) (hi := 57) (r32_c (lo := (-2147483648)) (hi := 2147483647) ra3.1 ra3.2 (by decide) (by decide)) ⟨by decide, by decide⟩ ⟨by decide, by decide⟩ with ⟨h2a, h2b, h2e⟩ | ⟨h2a, h2e⟩
    · refine m_st (st2 := [.int (iI 1)]) (by rw [show inn (iI (a 20 x.toNat)) 48 57 = iI 1 from h2e]) ?_
      refine m_if_ne (tgt := 86) C ⟨by decide, by decide⟩ dX12_find_68 (by decide) (fun _ => ?_) (fun z => absurd z (by omega))
      refine m_aload_n (j := 0) C dX12_find_86 rfl ?_
      refine m_geta (k := 27) C dX12_find_87 w6_86 (by decide) rfl ?_
      refine m_iconst C dX12_find_90 ?_
      refine m_dup2 C dX12_find_91 rfl rfl ?_
      refine m_ald (k := 27) C dX12_find_92 rfl rfl (by decide) (by decide) (by decide) (by decide) ?_
      have ra4 : (-2147483648) ≤ (up2 a 27 (a 6 t.toNat).toNat zz1) 27 0 ∧ (up2 a 27 (a 6 t.toNat).toNat zz1) 27 0 ≤ 2147483647 := bq1.2 27 (0)
      refine m_st (st2 := [.int (iI ((up2 a 27 (a 6 t.toNat).toNat zz1) 27 0)), .int (iI 0), .ref (ad 27)]) rfl ?_
      refine m_iconst C dX12_find_93 ?_
      refine m_iadd C dX12_find_94 ?_
      obtain ⟨zz2, hzz2, ezz2⟩ := iI_of (iI (((up2 a 27 (a 6 t.toNat).toNat zz1) 27 0) + 1))
      refine m_st (st2 := [.int (iI zz2), .int (iI 0), .ref (ad 27)]) (by rw [ezz2]) ?_
      refine m_ast (k := 27) C dX12_find_95 rfl rfl (by decide) (by decide) (by decide) (by decide) ?_
      refine hv2 (show BX v (up2 (up2 a 27 (a 6 t.toNat).toNat zz1) 27 (0 : Int).toNat zz2) from bq1.set (k := 27) (i := (0 : Int).toNat) (z := zz2) (show (-2147483648) ≤ zz2 ∧ zz2 ≤ 2147483647 by omega)) (fq1.set (k := 27) (i := (0 : Int).toNat) (z := zz2) rfl) (fun bq2 fq3 => ?_)
      refine m_aload_n (j := 0) C dX12_find_96 rfl ?_
      refine m_iload_n (j := 1) C dX12_find_97 rfl ?_
      refine m_iload_n (j := 2) C dX12_find_98 rfl ?_
      refine m_iload_n (j := 3) C dX12_find_99 rfl ?_
      refine m_iload (j := 4) C dX12_find_100 rfl ?_
      have rv1 : 0 ≤ v 4 ∧ v 4 ≤ 30 := bq2.1 4
      refine m_call (mc2 := 0) (ms2 := 0) (As := [.int (iI t), .int (iI q), .int (iI u), .int (iI x)]) (rest := []) C (E_own (t := t) (q := q) (u := u) (x := x) bq2 (hT.fr fq3 rfl rfl) (by show 0 ≤ t ∧ t < (v 4); omega) (by show 0 ≤ q ∧ q ≤ x ∧ x < u ∧ u ≤ 500; omega)) dX12_find_102 kV_X12_221 rfl ck_13 rfl (Nat.le_of_ble_eq_true rfl) ⟨by dsimp only [rmq]; omega, by dsimp only [rmq]; omega⟩ ⟨Nat.le_of_ble_eq_true rfl, Nat.le_of_ble_eq_true rfl⟩ (fun rh3 vh3 ah3 h3 => ?_)
      obtain ⟨f2, rfl, fn2, bn2, ex2⟩ := h3
      obtain ⟨rfl, rfl⟩ := fn2.eq
      obtain ⟨ex2, tl2⟩ := ex2
      refine hv3 (show f2 = -1 ∨ (0 ≤ f2 ∧ f2 < 6000 ∧ (1 ≤ a 12 f2.toNat ∧ a 12 f2.toNat ≤ 8) ∧ (1 ≤ a 13 f2.toNat ∧ a 13 f2.toNat ≤ 4) ∧ x + a 12 f2.toNat ≤ u) from ex2) (show 0 ≤ a 12 f2.toNat ∧ a 12 f2.toNat ≤ 8 from bq2.2 12 (f2.toNat)) (show 0 ≤ a 13 f2.toNat ∧ a 13 f2.toNat ≤ 4 from bq2.2 13 (f2.toNat)) (fun gf2 ra5 ra6 => ?_)
      refine m_st (st2 := [.int (iI f2)]) rfl ?_
      exact m_iret C dX12_find_105 rfl (Nat.le_of_ble_eq_true rfl) (Nat.le_of_ble_eq_true rfl) ⟨f2, rfl, fq3, bq2, ⟨by omega, fnd.k2 (by omega) (by unfold isD; omega) (OWR.fx fq3 tl2)⟩⟩
    · refine m_st (st2 := [.int (iI 0)]) (by rw [show inn (iI (a 20 x.toNat)) 48 57 = iI 0 from h2e]) ?_
      refine m_if_ne (tgt := 86) C ⟨by decide, by decide⟩ dX12_find_68 (by decide) (fun z => absurd z (by omega)) (fun _ => ?_)
      refine m_aload_n (j := 0) C dX12_find_71 rfl ?_
      refine m_aload_n (j := 0) C dX12_find_72 rfl ?_
      refine m_geta (k := 8) C dX12_find_73 w6_67 (by decide) rfl ?_
      refine m_iload_n (j := 1) C dX12_find_76 rfl ?_
      refine m_ald (k := 8) C dX12_find_77 rfl rfl (by decide) (by omega) (by show _ < ((_ : Nat) : Int); simp only [mlen]; omega) (by decide) ?_
      have ra7 : (-1) ≤ a 8 t.toNat ∧ a 8 t.toNat ≤ 29 := bq1.2 8 (t.toNat)
      refine m_st (st2 := [.int (iI (a 8 t.toNat)), .ref h0]) (congrArg (fun z => Value.int (iI z) :: [.ref h0]) (congrFun (fq1.2 8 rfl) (t.toNat))) ?_
      refine m_iload_n (j := 2) C dX12_find_78 rfl ?_
      refine m_iload_n (j := 3) C dX12_find_79 rfl ?_
      refine m_iload (j := 4) C dX12_find_80 rfl ?_
      refine m_call (mc2 := 0) (ms2 := 0) (As := [.int (iI (a 8 t.toNat)), .int (iI q), .int (iI u), .int (iI x)]) (rest := []) C (hf (a 8 t.toNat) (by omega) (by omega) _ _ q u x bq1 (hT.fr fq1 rfl rfl) (by show a 8 t.toNat < v 4; omega) (by show a 6 (a 8 t.toNat).toNat ≤ 4; omega) (by omega)) dX12_find_82 kV_X12_218 rfl ck_13 rfl (Nat.le_of_ble_eq_true rfl) ⟨by dsimp only [rmq]; omega, by dsimp only [rmq]; omega⟩ ⟨Nat.le_of_ble_eq_true rfl, Nat.le_of_ble_eq_true rfl⟩ (fun rh4 vh4 ah4 h4 => ?_)
      obtain ⟨f3, rfl, fn3, bn3, ex3, tl3⟩ := h4
      refine hv2 (fq1.call fn3 rfl rfl) (show f3 = -1 ∨ (0 ≤ f3 ∧ f3 < 6000 ∧ (1 ≤ a 12 f3.toNat ∧ a 12 f3.toNat ≤ 8) ∧ (1 ≤ a 13 f3.toNat ∧ a 13 f3.toNat ≤ 4) ∧ x + a 12 f3.toNat ≤ u) from ex3) (fun fq5 ef3 => ?_)
      refine m_st (st2 := [.int (iI f3)]) rfl ?_
      exact m_iret C dX12_find_85 rfl (Nat.le_of_ble_eq_true rfl) (Nat.le_of_ble_eq_true rfl) ⟨f3, rfl, fq5, bn3, ⟨by omega, fnd.k2n (by omega) (by unfold isD; omega) (fnd.fx fq1 tl3)⟩⟩
  · refine m_tabIn (tgt := 106) (off := 85) C (r32_c (lo := 0) (hi := 5) ra1.1 ra1.2 (by decide) (by decide)) dX12_find_21 (by omega) (by omega) (by rw [sw1]; rfl) (by decide) ?_
    refine m_aload_n (j := 0) C dX12_find_106 rfl ?_
    refine m_geta (k := 27) C dX12_find_107 w6_86 (by decide) rfl ?_
    refine m_iconst C dX12_find_110 ?_
    refine m_dup2 C dX12_find_111 rfl rfl ?_
    refine m_ald (k := 27) C dX12_find_112 rfl rfl (by decide) (by decide) (by decide) (by decide) ?_
    have ra8 : (-2147483648) ≤ (up2 a 27 (a 6 t.toNat).toNat zz1) 27 1 ∧ (up2 a 27 (a 6 t.toNat).toNat zz1) 27 1 ≤ 2147483647 := bq1.2 27 (1)
    refine m_st (st2 := [.int (iI ((up2 a 27 (a 6 t.toNat).toNat zz1) 27 1)), .int (iI 1), .ref (ad 27)]) rfl ?_
    refine m_iconst C dX12_find_113 ?_
    refine m_iadd C dX12_find_114 ?_
    obtain ⟨zz3, hzz3, ezz3⟩ := iI_of (iI (((up2 a 27 (a 6 t.toNat).toNat zz1) 27 1) + 1))
    refine m_st (st2 := [.int (iI zz3), .int (iI 1), .ref (ad 27)]) (by rw [ezz3]) ?_
    refine m_ast (k := 27) C dX12_find_115 rfl rfl (by decide) (by decide) (by decide) (by decide) ?_
    refine hv2 (show BX v (up2 (up2 a 27 (a 6 t.toNat).toNat zz1) 27 (1 : Int).toNat zz3) from bq1.set (k := 27) (i := (1 : Int).toNat) (z := zz3) (show (-2147483648) ≤ zz3 ∧ zz3 ≤ 2147483647 by omega)) (fq1.set (k := 27) (i := (1 : Int).toNat) (z := zz3) rfl) (fun bq3 fq6 => ?_)
    refine m_aload_n (j := 0) C dX12_find_116 rfl ?_
    refine m_geta (k := 20) C dX12_find_117 w6_79 (by decide) rfl ?_
    refine m_iload (j := 4) C dX12_find_120 rfl ?_
    refine m_ald (k := 20) C dX12_find_122 rfl rfl (by decide) (by omega) (by show _ < ((_ : Nat) : Int); simp only [mlen]; omega) (by decide) ?_
    have ra9 : (-2147483648) ≤ a 20 x.toNat ∧ a 20 x.toNat ≤ 2147483647 := bq3.2 20 (x.toNat)
    refine m_st (st2 := [.int (iI (a 20 x.toNat))]) (congrArg (fun z => Value.int (iI z) :: []) (congrFun (fq6.2 20 rfl) (x.toNat))) ?_
    refine m_istore (lv2 := [(5, .int (iI (a 20 x.toNat))), (0, .ref h0), (1, .int (iI t)), (2, .int (iI q)), (3, .int (iI u)), (4, .int (iI x))]) C dX12_find_123 (by decide) rfl ?_
    refine m_aload_n (j := 1) C dX12_find_125 rfl ?_
    refine m_geta (k := 20) C dX12_find_126 w6_79 (by decide) rfl ?_
    refine m_iload (j := 5) C dX12_find_129 rfl ?_
    refine m_iload (j := 0) C dX12_find_131 rfl ?_
    refine m_callS (As := [.int (iI (a 20 x.toNat))]) (rest := [.int (iI x), .ref (ad 20)]) C (fun L E => s_isGreat (iI (a 20 x.toNat))) dX12_find_133 kS_X12_205 rfl rfl (Nat.le_of_ble_eq_true rfl) ⟨by dsimp only [rmq]; omega, by dsimp only [rmq]; omega⟩ ⟨Nat.le_of_ble_eq_true rfl, Nat.le_of_ble_eq_true rfl⟩ ?_
    rcases inn_c (x := a 20 x.toNat) (lo := 65) (hi := 90) (r32_c (lo := (-2147483648)) (hi := 2147483647) ra9.1 ra9.2 (by decide) (by decide)) ⟨by decide, by decide⟩ ⟨by decide, by decide⟩ with ⟨h5a, h5b, h5e⟩ | ⟨h5a, h5e⟩
    · refine m_st (st2 := [.int (iI 1), .int (iI x), .ref (ad 20)]) (by rw [show inn (iI (a 20 x.toNat)) 65 90 = iI 1 from h5e]) ?_
      refine m_if_eq (tgt := 147) C ⟨by decide, by decide⟩ dX12_find_136 (by decide) (fun z => absurd z (by omega)) (fun _ => ?_)
      refine m_iload (j := 0) C dX12_find_139 rfl ?_
      refine m_bipush (z := 32) C dX12_find_141 (by decide) ?_
      refine m_iadd C dX12_find_143 ?_
      refine m_goto (tgt := 149) C dX12_find_144 (by decide) ?_
      refine m_ast (k := 20) C dX12_find_149 rfl rfl (by decide) (by omega) (by show _ < ((_ : Nat) : Int); simp only [mlen]; omega) (by decide) ?_
      refine hv2 (show BX v (up2 (up2 (up2 a 27 (a 6 t.toNat).toNat zz1) 27 (1 : Int).toNat zz3) 20 x.toNat ((a 20 x.toNat) + 32)) from bq3.set (k := 20) (i := x.toNat) (z := (a 20 x.toNat) + 32) (show (-2147483648) ≤ ((a 20 x.toNat) + 32) ∧ ((a 20 x.toNat) + 32) ≤ 2147483647 by omega)) (show fr [] [20, 27] v a v (up2 (up2 (up2 a 27 (a 6 t.toNat).toNat zz1) 27 (1 : Int).toNat zz3) 20 x.toNat ((a 20 x.toNat) + 32)) from ((fr.refl (V := []) (A := [20, 27])).call fq6 rfl rfl).set (k := 20) (i := x.toNat) (z := (a 20 x.toNat) + 32) rfl) (fun bq4 fw1 => ?_)
      refine m_aload_n (j := 1) C dX12_find_150 rfl ?_
      refine m_iload_n (j := 2) C dX12_find_151 rfl ?_
      refine m_iload_n (j := 3) C dX12_find_152 rfl ?_
      refine m_iload_n (j := 4) C dX12_find_153 rfl ?_
      refine m_iload (j := 5) C dX12_find_154 rfl ?_
      refine m_call (mc2 := 0) (ms2 := 0) (As := [.int (iI t), .int (iI q), .int (iI u), .int (iI x)]) (rest := []) C (E_contracted (t := t) (q := q) (u := u) (x := x) bq4 (hT.fr fw1 rfl rfl) (by show 0 ≤ t ∧ t < v 4; omega) (by show v 4 ≤ 30; omega) (by show 1 ≤ a 6 t.toNat ∧ a 6 t.toNat ≤ 3; omega) hx hd hf) dX12_find_156 kV_X12_215 rfl ck_13 rfl (Nat.le_of_ble_eq_true rfl) ⟨by dsimp only [rmq]; omega, by dsimp only [rmq]; omega⟩ ⟨Nat.le_of_ble_eq_true rfl, Nat.le_of_ble_eq_true rfl⟩ (fun rh6 vh6 ah6 h6 => ?_)
      obtain ⟨f4, rfl, fn4, bn4, ex4, tl4⟩ := h6
      have ef4 : f4 = -1 ∨ (0 ≤ f4 ∧ f4 < 6000 ∧ (1 ≤ a 12 f4.toNat ∧ a 12 f4.toNat ≤ 8) ∧ (1 ≤ a 13 f4.toNat ∧ a 13 f4.toNat ≤ 4) ∧ x + a 12 f4.toNat ≤ u) := ex4
      refine m_st (st2 := [.int (iI f4)]) rfl ?_
      refine m_istore (lv2 := [(6, .int (iI f4)), (5, .int (iI (a 20 x.toNat))), (0, .ref h0), (1, .int (iI t)), (2, .int (iI q)), (3, .int (iI u)), (4, .int (iI x))]) C dX12_find_159 (by decide) rfl ?_
      refine m_aload_n (j := 2) C dX12_find_161 rfl ?_
      refine m_geta (k := 20) C dX12_find_162 w6_79 (by decide) rfl ?_
      refine m_iload (j := 6) C dX12_find_165 rfl ?_
      refine m_iload (j := 1) C dX12_find_167 rfl ?_
      refine m_ast (k := 20) C dX12_find_169 rfl rfl (by decide) (by omega) (by show _ < ((_ : Nat) : Int); simp only [mlen]; omega) (by decide) ?_
      refine hv2 (show BX vh6 (up2 ah6 20 x.toNat (a 20 x.toNat)) from bn4.set (k := 20) (i := x.toNat) (z := a 20 x.toNat) (show (-2147483648) ≤ (a 20 x.toNat) ∧ (a 20 x.toNat) ≤ 2147483647 by omega)) (fq6.back fn4 rfl rfl (k := 20) (i := x.toNat) (y := a 20 x.toNat) rfl) (fun bq5 fq9 => ?_)
      refine m_iload (j := 0) C dX12_find_170 rfl ?_
      exact m_iret C dX12_find_172 rfl (Nat.le_of_ble_eq_true rfl) (Nat.le_of_ble_eq_true rfl) ⟨f4, rfl, fq9, bq5, ⟨by omega, fnd.k3 (by omega) (sml_w (fq6.2 20 rfl) (by unfold sml; rw [if_pos (by omega)])) (CTD.cg fw1 rfl tl4)⟩⟩
    · refine m_st (st2 := [.int (iI 0), .int (iI x), .ref (ad 20)]) (by rw [show inn (iI (a 20 x.toNat)) 65 90 = iI 0 from h5e]) ?_
      refine m_if_eq (tgt := 147) C ⟨by decide, by decide⟩ dX12_find_136 (by decide) (fun _ => ?_) (fun z => absurd z (by omega))
      refine m_iload (j := 0) C dX12_find_147 rfl ?_
      refine m_ast (k := 20) C dX12_find_149 rfl rfl (by decide) (by omega) (by show _ < ((_ : Nat) : Int); simp only [mlen]; omega) (by decide) ?_
      refine hv2 (show BX v (up2 (up2 (up2 a 27 (a 6 t.toNat).toNat zz1) 27 (1 : Int).toNat zz3) 20 x.toNat (a 20 x.toNat)) from bq3.set (k := 20) (i := x.toNat) (z := a 20 x.toNat) (show (-2147483648) ≤ (a 20 x.toNat) ∧ (a 20 x.toNat) ≤ 2147483647 by omega)) (show fr [] [20, 27] v a v (up2 (up2 (up2 a 27 (a 6 t.toNat).toNat zz1) 27 (1 : Int).toNat zz3) 20 x.toNat (a 20 x.toNat)) from ((fr.refl (V := []) (A := [20, 27])).call fq6 rfl rfl).set (k := 20) (i := x.toNat) (z := a 20 x.toNat) rfl) (fun bq6 fw2 => ?_)
      refine m_aload_n (j := 1) C dX12_find_150 rfl ?_
      refine m_iload_n (j := 2) C dX12_find_151 rfl ?_
      refine m_iload_n (j := 3) C dX12_find_152 rfl ?_
      refine m_iload_n (j := 4) C dX12_find_153 rfl ?_
      refine m_iload (j := 5) C dX12_find_154 rfl ?_
      refine m_call (mc2 := 0) (ms2 := 0) (As := [.int (iI t), .int (iI q), .int (iI u), .int (iI x)]) (rest := []) C (E_contracted (t := t) (q := q) (u := u) (x := x) bq6 (hT.fr fw2 rfl rfl) (by show 0 ≤ t ∧ t < v 4; omega) (by show v 4 ≤ 30; omega) (by show 1 ≤ a 6 t.toNat ∧ a 6 t.toNat ≤ 3; omega) hx hd hf) dX12_find_156 kV_X12_215 rfl ck_13 rfl (Nat.le_of_ble_eq_true rfl) ⟨by dsimp only [rmq]; omega, by dsimp only [rmq]; omega⟩ ⟨Nat.le_of_ble_eq_true rfl, Nat.le_of_ble_eq_true rfl⟩ (fun rh7 vh7 ah7 h7 => ?_)
      obtain ⟨f5, rfl, fn5, bn5, ex5, tl5⟩ := h7
      have ef5 : f5 = -1 ∨ (0 ≤ f5 ∧ f5 < 6000 ∧ (1 ≤ a 12 f5.toNat ∧ a 12 f5.toNat ≤ 8) ∧ (1 ≤ a 13 f5.toNat ∧ a 13 f5.toNat ≤ 4) ∧ x + a 12 f5.toNat ≤ u) := ex5
      refine m_st (st2 := [.int (iI f5)]) rfl ?_
      refine m_istore (lv2 := [(6, .int (iI f5)), (5, .int (iI (a 20 x.toNat))), (0, .ref h0), (1, .int (iI t)), (2, .int (iI q)), (3, .int (iI u)), (4, .int (iI x))]) C dX12_find_159 (by decide) rfl ?_
      refine m_aload_n (j := 2) C dX12_find_161 rfl ?_
      refine m_geta (k := 20) C dX12_find_162 w6_79 (by decide) rfl ?_
      refine m_iload (j := 6) C dX12_find_165 rfl ?_
      refine m_iload (j := 1) C dX12_find_167 rfl ?_
      refine m_ast (k := 20) C dX12_find_169 rfl rfl (by decide) (by omega) (by show _ < ((_ : Nat) : Int); simp only [mlen]; omega) (by decide) ?_
      refine hv2 (show BX vh7 (up2 ah7 20 x.toNat (a 20 x.toNat)) from bn5.set (k := 20) (i := x.toNat) (z := a 20 x.toNat) (show (-2147483648) ≤ (a 20 x.toNat) ∧ (a 20 x.toNat) ≤ 2147483647 by omega)) (fq6.back fn5 rfl rfl (k := 20) (i := x.toNat) (y := a 20 x.toNat) rfl) (fun bq7 fq12 => ?_)
      refine m_iload (j := 0) C dX12_find_170 rfl ?_
      exact m_iret C dX12_find_172 rfl (Nat.le_of_ble_eq_true rfl) (Nat.le_of_ble_eq_true rfl) ⟨f5, rfl, fq12, bq7, ⟨by omega, fnd.k3 (by omega) (sml_w (fq6.2 20 rfl) (by unfold sml; rw [if_neg (by omega)])) (CTD.cg fw2 rfl tl5)⟩⟩
  · refine m_tabOut (tgt := 173) C (r32_c (lo := 0) (hi := 5) ra1.1 ra1.2 (by decide) (by decide)) dX12_find_21 sw1 (by decide) ?_
    refine m_aload_n (j := 0) C dX12_find_173 rfl ?_
    refine m_iload_n (j := 1) C dX12_find_174 rfl ?_
    refine m_iload_n (j := 2) C dX12_find_175 rfl ?_
    refine m_iload_n (j := 3) C dX12_find_176 rfl ?_
    refine m_iload (j := 4) C dX12_find_177 rfl ?_
    have rv2 : 0 ≤ v 4 ∧ v 4 ≤ 30 := bq1.1 4
    refine m_call (mc2 := 0) (ms2 := 0) (As := [.int (iI t), .int (iI q), .int (iI u), .int (iI x)]) (rest := []) C (E_own (t := t) (q := q) (u := u) (x := x) bq1 (hT.fr fq1 rfl rfl) (by show 0 ≤ t ∧ t < (v 4); omega) (by show 0 ≤ q ∧ q ≤ x ∧ x < u ∧ u ≤ 500; omega)) dX12_find_179 kV_X12_221 rfl ck_13 rfl (Nat.le_of_ble_eq_true rfl) ⟨by dsimp only [rmq]; omega, by dsimp only [rmq]; omega⟩ ⟨Nat.le_of_ble_eq_true rfl, Nat.le_of_ble_eq_true rfl⟩ (fun rh8 vh8 ah8 h8 => ?_)
    obtain ⟨f6, rfl, fn6, bn6, ex6⟩ := h8
    obtain ⟨rfl, rfl⟩ := fn6.eq
    obtain ⟨ex6, tl6⟩ := ex6
    refine hv3 (show f6 = -1 ∨ (0 ≤ f6 ∧ f6 < 6000 ∧ (1 ≤ a 12 f6.toNat ∧ a 12 f6.toNat ≤ 8) ∧ (1 ≤ a 13 f6.toNat ∧ a 13 f6.toNat ≤ 4) ∧ x + a 12 f6.toNat ≤ u) from ex6) (show 0 ≤ a 12 f6.toNat ∧ a 12 f6.toNat ≤ 8 from bq1.2 12 (f6.toNat)) (show 0 ≤ a 13 f6.toNat ∧ a 13 f6.toNat ≤ 4 from bq1.2 13 (f6.toNat)) (fun gf6 ra10 ra11 => ?_)
    refine m_st (st2 := [.int (iI f6)]) rfl ?_
    exact m_iret C dX12_find_182 rfl (Nat.le_of_ble_eq_true rfl) (Nat.le_of_ble_eq_true rfl) ⟨f6, rfl, fq1, bq1, ⟨by omega, fnd.k0 (by omega) (OWR.fx fq1 tl6)⟩⟩
theorem E_findN {l : Launch} {G : GT} {h0 : Nat} {ad ln : Nat → Nat} : ∀ (n : Nat) (t : Int), 0 ≤ t → t < (n : Int) → FindE l G h0 ad ln (2 * n + 3) n t := by
  intro n
  induction n with
  | zero => intro t h1 h2; omega
  | succ n ih =>
    intro t h1 h2 v a q u x hB hT ht h4 hx
    exact E_find1 (d := 2 * n + 3) (n := n) hB hT ⟨h1, ht⟩ h4 hx (by omega) (fun b hb hb2 => ih b hb (by omega))
theorem E_find {l : Launch} {G : GT} {h0 : Nat} {ad ln : Nat → Nat} {v : Nat → Int} {a : Nat → Nat → Int} {t q u x : Int} (hB : BX v a) (hT : TBL v a) (ht : 0 ≤ t ∧ t < v 4) (h4 : a 6 t.toNat ≤ 4) (hx : 0 ≤ q ∧ q ≤ x ∧ x < u ∧ u ≤ 500) : Mm l G yX12_find cX12_find 7 (some .int) 63 [.int (iI t), .int (iI q), .int (iI u), .int (iI x)] h0 ad ln v a 0 0 (fun r v2 a2 => ∃ f : Int, r = some (.int (iI f)) ∧ fr [] [27] v a v2 a2 ∧ BX v2 a2 ∧ ((f = -1 ∨ (0 ≤ f ∧ f < 6000 ∧ (1 ≤ a 12 f.toNat ∧ a 12 f.toNat ≤ 8) ∧ (1 ≤ a 13 f.toNat ∧ a 13 f.toNat ≤ 4) ∧ x + a 12 f.toNat ≤ u)) ∧ fnd a q u x 30 (a 20) t f)) := E_findN 30 t ht.1 (by have := hB.1 4; have e : vhi 4 = 30 := rfl; omega) v a q u x hB hT ht.2 h4 hx
end
section
def ICL (a : Nat → Nat → Int) (I : Int) : List Int := (List.range (a 16 I.toNat).toNat).map (fun k => a 17 (4 * I.toNat + k))
def RCL (a : Nat → Nat → Int) (r : Int) : List Int := (List.range (a 13 r.toNat).toNat).map (fun k => a 15 (4 * r.toNat + k))
def nbl (a : Nat → Nat → Int) (W : Nat → Int) (t q x : Int) : List Int := if a 6 t.toNat = 2 ∧ isD (W x.toNat) ∧ (x = q ∨ ¬ isD (W (x - 1).toNat)) then ICL a (4 * t + 1) else []
def PC1 (a : Nat → Nat → Int) (W : Nat → Int) (t q u x l : Int) (cs : List Int) : Prop := ∃ r, (0 ≤ r ∧ l = a 12 r.toNat) ∧ ((fnd a q u x 30 W t r ∧ cs = nbl a W t q x ++ RCL a r) ∨ (fnd a q u x 30 W t (-1) ∧ (a 6 t.toNat ≤ 2 ∧ isG (W x.toNat) ∧ 0 < a 16 (4 * t + 0).toNat) ∧ fnd a q u x 30 (va_up W x.toNat (W x.toNat + 32)) t r ∧ cs = (nbl a W t q x ++ ICL a (4 * t + 0)) ++ RCL a r))
def ptp (a : Nat → Nat → Int) (W : Nat → Int) (t q u : Int) : Int → List (Int × List Int) → Int → Prop
  | x, [], y => x = y
  | x, p :: ps, y => x < u ∧ p.1 = x ∧ ∃ l, PC1 a W t q u x l p.2 ∧ ptp a W t q u (x + l) ps y
def cls (ps : List (Int × List Int)) : List Int := ps.flatMap (fun p => p.2)
def MDH (v : Nat → Int) (a : Nat → Nat → Int) (l : List Int) : Prop := v 25 = (l.length : Int) ∧ ∀ (j : Nat) (d : Int), l[j]? = some d → a 24 j = d
def MDK (v : Nat → Int) (a : Nat → Nat → Int) (l : List Int) (y : Nat → Int) (k : Int) : Prop := MDH v a l ∧ ∀ j : Nat, (j : Int) < k → a 24 (l.length + j) = y j
def bgn : List (Int × List Int) → Int → Nat → Int → Int
  | [], _, _, d => d
  | p :: ps, m, i, d => bgn ps (m + ((p.2.length : Nat) : Int)) i (if i = p.1.toNat then m else d)
def BGR (a a2 : Nat → Nat → Int) (m : Int) (ps : List (Int × List Int)) : Prop := ∀ i : Nat, a2 26 i = bgn ps m i (a 26 i)
def BGX (a a2 : Nat → Nat → Int) (m : Int) (ps : List (Int × List Int)) (x : Int) : Prop := ∀ i : Nat, a2 26 i = if i = x.toNat then m + (((cls ps).length : Nat) : Int) else bgn ps m i (a 26 i)
def SPS (a : Nat → Nat → Int) (W : Nat → Int) (t q u m : Int) (ps : List (Int × List Int)) : Prop := (∃ y, ptp a W t q u q ps y ∧ u ≤ y) ∧ m + ((cls ps).length : Int) ≤ 200
def SPT (v : Nat → Int) (a : Nat → Nat → Int) (v2 : Nat → Int) (a2 : Nat → Nat → Int) (t q u f : Int) : Prop := a2 20 = a 20 ∧ ∀ l0, MDH v a l0 → (f = 1 → ∃ ps, SPS a (a 20) t q u l0.length ps ∧ (MDH v2 a2 (l0 ++ cls ps) ∧ BGR a a2 l0.length ps)) ∧ (f ≠ 1 → ¬ ∃ ps, SPS a (a 20) t q u l0.length ps)
def SP3 (v : Nat → Int) (a : Nat → Nat → Int) (v2 : Nat → Int) (a2 : Nat → Nat → Int) (t q u x : Int) : Prop := a2 20 = a 20 ∧ ∀ l0, MDH v a l0 → ∃ pre, ptp a (a 20) t q u q pre x ∧ (MDH v2 a2 (l0 ++ cls pre) ∧ BGR a a2 l0.length pre)
def SP7 (v : Nat → Int) (a : Nat → Nat → Int) (v2 : Nat → Int) (a2 : Nat → Nat → Int) (t q u x : Int) : Prop := a2 20 = a 20 ∧ ∀ l0, MDH v a l0 → ∃ pre, ptp a (a 20) t q u q pre x ∧ (MDH v2 a2 ((l0 ++ cls pre) ++ nbl a (a 20) t q x) ∧ BGX a a2 l0.length pre x)
def SP15 (v : Nat → Int) (a : Nat → Nat → Int) (v2 : Nat → Int) (a2 : Nat → Nat → Int) (t q u x r : Int) : Prop := a2 20 = a 20 ∧ ∀ l0, MDH v a l0 → ∃ pre cs, ptp a (a 20) t q u q pre x ∧ (MDH v2 a2 ((l0 ++ cls pre) ++ cs) ∧ BGX a a2 l0.length pre x) ∧ (0 ≤ r → PC1 a (a 20) t q u x (a 12 r.toNat) (cs ++ RCL a r)) ∧ (r < 0 → ∀ l ds, ¬ PC1 a (a 20) t q u x l ds)
def SP20 (v : Nat → Int) (a : Nat → Nat → Int) (v2 : Nat → Int) (a2 : Nat → Nat → Int) (t q u x r k : Int) : Prop := a2 20 = a 20 ∧ ∀ l0, MDH v a l0 → ∃ pre cs, ptp a (a 20) t q u q pre x ∧ (MDK v2 a2 ((l0 ++ cls pre) ++ cs) (fun k => a 15 (4 * r.toNat + k)) k ∧ BGX a a2 l0.length pre x) ∧ PC1 a (a 20) t q u x (a 12 r.toNat) (cs ++ RCL a r)
section SETS
variable {v v1 v2 v3 : Nat → Int} {V1 A1 : List Nat} {a a1 a2 a3 : Nat → Nat → Int} {W : Nat → Int} {q u x t b r s k g f f1 f2 y z l l2 : Int} {n m : Nat} {cs ds l0 ls : List Int} {pre ps : List (Int × List Int)}
theorem RCL.len (h : 0 ≤ a 13 r.toNat) : ((RCL a r).length : Int) = a 13 r.toNat := by
  unfold RCL
  rw [List.length_map, List.length_range]; omega
theorem ICL.len (h : 0 ≤ a 16 r.toNat) : ((ICL a r).length : Int) = a 16 r.toNat := by
  unfold ICL
  rw [List.length_map, List.length_range]; omega
theorem gmap {n j : Nat} {y : Nat → Int} {d : Int} (h : ((List.range n).map y)[j]? = some d) : j < n ∧ y j = d := by
  have lt : j < n := by
    have := gl_lt h
    rw [List.length_map, List.length_range] at this
    exact this
  rw [List.getElem?_map, List.getElem?_range lt] at h
  cases h
  exact ⟨lt, rfl⟩
theorem MDH.app {n : Nat} {y : Nat → Int} (h : MDH v a l0) (hv : v2 25 = v 25 + (n : Int)) (h1 : ∀ j : Nat, j < l0.length → a2 24 j = a 24 j) (h2 : ∀ j : Nat, j < n → a2 24 (l0.length + j) = y j) : MDH v2 a2 (l0 ++ (List.range n).map y) := by
  obtain ⟨g1, g2⟩ := h
  refine ⟨?_, fun j d e => ?_⟩
  · rw [List.length_append, List.length_map, List.length_range]; omega
  · by_cases c : j < l0.length
    · rw [List.getElem?_append_left c] at e
      rw [h1 j c]; exact g2 j d e
    · rw [List.getElem?_append_right (by omega)] at e
      obtain ⟨e1, e2⟩ := gmap e
      have := h2 (j - l0.length) e1
      rw [show l0.length + (j - l0.length) = j by omega] at this
      rw [this]; exact e2
theorem MDH.fr (h : MDH v a l0) (hv : v2 25 = v 25) (ha : a2 24 = a 24) : MDH v2 a2 l0 := ⟨hv.trans h.1, fun j d e => by rw [ha]; exact h.2 j d e⟩
theorem MDK.zero {y : Nat → Int} (h : MDH v a l0) : MDK v a l0 y 0 := ⟨h, fun j hj => absurd hj (by omega)⟩
theorem MDK.step {y : Nat → Int} {i : Nat} (h : MDK v a l0 y k) (h0 : 0 ≤ k) (hi : i = (v 25 + k).toNat) (hz : z = y k.toNat) : MDK v (up2 a 24 i z) l0 y (k + 1) := by
  obtain ⟨⟨g1, g2⟩, g3⟩ := h
  have ei : i = l0.length + k.toNat := by omega
  refine ⟨⟨g1, fun j d e => ?_⟩, fun j hj => ?_⟩
  · have := gl_lt e
    rw [up2_j (by omega)]; exact g2 j d e
  · by_cases c : (j : Int) < k
    · rw [up2_j (by omega)]; exact g3 j c
    · have ej : j = k.toNat := by omega
      subst ej
      rw [← ei, up2_s]; exact hz
theorem MDK.fin {y : Nat → Int} (h : MDK v a l0 y k) (hk : k = (n : Int)) (hv : v2 25 = v 25 + (n : Int)) (ha : a2 24 = a 24) : MDH v2 a2 (l0 ++ (List.range n).map y) := h.1.app hv (fun j _ => by rw [ha]) (fun j hj => by rw [ha]; exact h.2 j (by omega))
theorem PC1.uni (hT : TBL v a) (h0 : 0 ≤ t) (h4 : t < v 4) (h : PC1 a W t q u x l cs) (h2 : PC1 a W t q u x l2 ds) : l = l2 ∧ cs = ds := by
  obtain ⟨r, ⟨p1, p2⟩, p3⟩ := h
  obtain ⟨s, ⟨q1, q2⟩, q3⟩ := h2
  rcases p3 with ⟨p4, p5⟩ | ⟨p4, p5, p6, p7⟩ <;> rcases q3 with ⟨q4, q5⟩ | ⟨q4, q5, q6, q7⟩
  · have e := fnd_uni hT _ _ _ _ _ _ h0 h4 p4 q4
    subst e
    exact ⟨p2.trans q2.symm, p5.trans q5.symm⟩
  · have e := fnd_uni hT _ _ _ _ _ _ h0 h4 p4 q4
    omega
  · have e := fnd_uni hT _ _ _ _ _ _ h0 h4 p4 q4
    omega
  · have e := fnd_uni hT _ _ _ _ _ _ h0 h4 p6 q6
    subst e
    exact ⟨p2.trans q2.symm, p7.trans q7.symm⟩
theorem ptp.snoc : ∀ (pre : List (Int × List Int)) (z : Int), ptp a W t q u z pre x → x < u → PC1 a W t q u x l cs → ptp a W t q u z (pre ++ [(x, cs)]) (x + l) := by
  intro pre
  induction pre with
  | nil => intro z h hx hp; cases h; exact ⟨hx, rfl, l, hp, rfl⟩
  | cons p ps ih =>
    intro z h hx hp
    obtain ⟨h1, h2, l3, h3, h4⟩ := h
    exact ⟨h1, h2, l3, h3, ih _ h4 hx hp⟩
theorem ptp.ext (hT : TBL v a) (h0 : 0 ≤ t) (h4 : t < v 4) : ∀ (pre ps : List (Int × List Int)) (z y : Int), ptp a W t q u z pre x → ptp a W t q u z ps y → u ≤ y → ∃ qs, ps = pre ++ qs ∧ ptp a W t q u x qs y := by
  intro pre
  induction pre with
  | nil => intro ps z y h h2 _; cases h; exact ⟨ps, rfl, h2⟩
  | cons p pre ih =>
    intro ps z y h h2 hu
    obtain ⟨h1, h3, l3, h5, h6⟩ := h
    cases ps with
    | nil => cases h2; omega
    | cons p2 ps =>
      obtain ⟨g1, g3, l4, g5, g6⟩ := h2
      have e := PC1.uni hT h0 h4 h5 g5
      have e2 : p2 = p := Prod.ext (g3.trans h3.symm) e.2.symm
      subst e2
      rw [← e.1] at g6
      obtain ⟨qs, k1, k2⟩ := ih ps _ y h6 g6 hu
      exact ⟨qs, by rw [k1]; rfl, k2⟩
theorem cls_app (ps qs : List (Int × List Int)) : cls (ps ++ qs) = cls ps ++ cls qs := List.flatMap_append ..
theorem cls_one (x : Int) (cs : List Int) : cls [(x, cs)] = cs := by
  show cs ++ [] = cs
  exact List.append_nil cs
theorem cls_cons (p : Int × List Int) (ps : List (Int × List Int)) : cls (p :: ps) = p.2 ++ cls ps := rfl
theorem bgn_snoc {i : Nat} : ∀ (pre : List (Int × List Int)) (m d : Int), bgn (pre ++ [(x, cs)]) m i d = if i = x.toNat then m + (((cls pre).length : Nat) : Int) else bgn pre m i d := by
  intro pre
  induction pre with
  | nil =>
    intro m d
    show (if i = x.toNat then m else d) = if i = x.toNat then m + ((([] : List Int).length : Nat) : Int) else d
    rw [show m + ((([] : List Int).length : Nat) : Int) = m from Int.add_zero m]
  | cons p pre ih =>
    intro m d
    show bgn (pre ++ [(x, cs)]) (m + ((p.2.length : Nat) : Int)) i (if i = p.1.toNat then m else d) = if i = x.toNat then m + (((cls (p :: pre)).length : Nat) : Int) else bgn pre (m + ((p.2.length : Nat) : Int)) i (if i = p.1.toNat then m else d)
    rw [ih, cls_cons, List.length_append]
    by_cases c : i = x.toNat
    · rw [if_pos c, if_pos c]
      push_cast
      omega
    · rw [if_neg c, if_neg c]
theorem BGR.mk1 (h : BGR a a1 ((l0.length : Nat) : Int) pre) (hm : MDH v1 a1 (l0 ++ cls pre)) (h26 : ∀ i : Nat, a2 26 i = if i = x.toNat then v1 25 else a1 26 i) : BGX a a2 ((l0.length : Nat) : Int) pre x := fun i => by
  have e := hm.1
  rw [List.length_append] at e
  rw [h26 i, h i]
  by_cases c : i = x.toNat
  · rw [if_pos c, if_pos c, e]
    push_cast
    rfl
  · rw [if_neg c, if_neg c]
theorem BGX.fr {m : Int} (h : BGX a a1 m pre x) (h26 : a2 26 = a1 26) : BGX a a2 m pre x := fun i => by
  rw [h26]
  exact h i
theorem SP3.init : SP3 v a v a t q u q := ⟨rfl, fun l0 h => ⟨[], rfl, by rw [show cls [] = [] from rfl, List.append_nil]; exact ⟨h, fun i => rfl⟩⟩⟩
theorem SP3.begin (h : SP3 v a v1 a1 t q u x) (hv : v2 25 = v1 25) (h24 : a2 24 = a1 24) (h20 : a2 20 = a1 20) (h26 : ∀ i : Nat, a2 26 i = if i = x.toNat then v1 25 else a1 26 i) (hn : nbl a (a 20) t q x = []) : SP7 v a v2 a2 t q u x := ⟨h20.trans h.1, fun l0 hl => by
  obtain ⟨pre, g1, g2⟩ := h.2 l0 hl
  exact ⟨pre, g1, by rw [hn, List.append_nil]; exact ⟨g2.1.fr hv h24, g2.2.mk1 g2.1 h26⟩⟩⟩
theorem SP3.number (h : SP3 v a v1 a1 t q u x) (hp : ∀ l, MDH v1 a1 l → MDH v2 a2 (l ++ ICL a (4 * t + 1))) (h20 : a2 20 = a1 20) (h26 : ∀ i : Nat, a2 26 i = if i = x.toNat then v1 25 else a1 26 i) (hn : nbl a (a 20) t q x = ICL a (4 * t + 1)) : SP7 v a v2 a2 t q u x := ⟨h20.trans h.1, fun l0 hl => by
  obtain ⟨pre, g1, g2⟩ := h.2 l0 hl
  exact ⟨pre, g1, by rw [hn]; exact ⟨hp _ g2.1, g2.2.mk1 g2.1 h26⟩⟩⟩
theorem SP7.found (h : SP7 v a v1 a1 t q u x) (hv : v2 25 = v1 25) (h24 : a2 24 = a1 24) (h20 : a2 20 = a1 20) (h26 : a2 26 = a1 26) (hf : fnd a q u x 30 (a 20) t r) (hr : 0 ≤ r) : SP15 v a v2 a2 t q u x r := ⟨h20.trans h.1, fun l0 hl => by
  obtain ⟨pre, g1, g2⟩ := h.2 l0 hl
  exact ⟨pre, _, g1, ⟨g2.1.fr hv h24, g2.2.fr h26⟩, fun _ => ⟨r, ⟨hr, rfl⟩, Or.inl ⟨hf, rfl⟩⟩, fun e => absurd e (by omega)⟩⟩
theorem SP7.nne (h : SP7 v a v1 a1 t q u x) (hT : TBL v a) (h0 : 0 ≤ t) (h4 : t < v 4) (hv : v2 25 = v1 25) (h24 : a2 24 = a1 24) (h20 : a2 20 = a1 20) (h26 : a2 26 = a1 26) (hf : fnd a q u x 30 (a 20) t r) (hr : r = -1) (hc : ¬ (a 6 t.toNat ≤ 2 ∧ isG (a 20 x.toNat) ∧ 0 < a 16 (4 * t + 0).toNat)) : SP15 v a v2 a2 t q u x r := ⟨h20.trans h.1, fun l0 hl => by
  obtain ⟨pre, g1, g2⟩ := h.2 l0 hl
  refine ⟨pre, _, g1, ⟨g2.1.fr hv h24, g2.2.fr h26⟩, fun e => absurd e (by omega), fun _ l ds hp => ?_⟩
  obtain ⟨s, ⟨p1, _⟩, p3⟩ := hp
  rcases p3 with ⟨p4, _⟩ | ⟨_, p5, _⟩
  · have e := fnd_uni hT _ _ _ _ _ _ h0 h4 hf p4
    omega
  · exact hc p5⟩
theorem SP7.cap (h : SP7 v a v1 a1 t q u x) (hT : TBL v a) (h0 : 0 ≤ t) (h4 : t < v 4) (hp : ∀ l, MDH v1 a1 l → MDH v2 a2 (l ++ ICL a (4 * t + 0))) (h20 : a2 20 = a 20) (h26 : a2 26 = a1 26) (hf : fnd a q u x 30 (a 20) t s) (hs : s = -1) (hc : a 6 t.toNat ≤ 2 ∧ isG (a 20 x.toNat) ∧ 0 < a 16 (4 * t + 0).toNat) (hg : fnd a q u x 30 (va_up (a 20) x.toNat (a 20 x.toNat + 32)) t r) : SP15 v a v2 a2 t q u x r := ⟨h20, fun l0 hl => by
  obtain ⟨pre, g1, g2⟩ := h.2 l0 hl
  subst hs
  refine ⟨pre, _, g1, ⟨(by have := hp _ g2.1; rw [List.append_assoc] at this; exact this), g2.2.fr h26⟩, fun e => ⟨r, ⟨e, rfl⟩, Or.inr ⟨hf, hc, hg, rfl⟩⟩, fun e l ds hp2 => ?_⟩
  obtain ⟨s, ⟨p1, _⟩, p3⟩ := hp2
  rcases p3 with ⟨p4, _⟩ | ⟨_, _, p6, _⟩
  · have e2 := fnd_uni hT _ _ _ _ _ _ h0 h4 hf p4
    omega
  · have e2 := fnd_uni hT _ _ _ _ _ _ h0 h4 hg p6
    omega⟩
theorem SP15.unk (h : SP15 v a v1 a1 t q u x r) (hT : TBL v a) (h0 : 0 ≤ t) (h4 : t < v 4) (hr : r < 0) (hx : x < u) (h20 : a2 20 = a1 20) : SPT v a v2 a2 t q u 0 := ⟨h20.trans h.1, fun l0 hl => ⟨fun e => absurd e (by decide), fun _ hp => by
  obtain ⟨pre, cs, g1, _, _, g4⟩ := h.2 l0 hl
  obtain ⟨ps, ⟨y, p1, p2⟩, _⟩ := hp
  obtain ⟨qs, k1, k2⟩ := ptp.ext hT h0 h4 pre ps q y g1 p1 p2
  cases qs with
  | nil => cases k2; omega
  | cons p qs =>
    obtain ⟨_, _, l3, k5, _⟩ := k2
    exact g4 hr _ _ k5⟩⟩
theorem SP15.many (h : SP15 v a v1 a1 t q u x r) (hT : TBL v a) (h0 : 0 ≤ t) (h4 : t < v 4) (hr : 0 ≤ r) (hx : x < u) (h13 : 0 ≤ a 13 r.toNat) (hm : 200 < v1 25 + a 13 r.toNat) (h20 : a2 20 = a1 20) : SPT v a v2 a2 t q u 0 := ⟨h20.trans h.1, fun l0 hl => ⟨fun e => absurd e (by decide), fun _ hp => by
  obtain ⟨pre, cs, g1, g2, g3, _⟩ := h.2 l0 hl
  obtain ⟨ps, ⟨y, p1, p2⟩, p3⟩ := hp
  obtain ⟨qs, k1, k2⟩ := ptp.ext hT h0 h4 pre ps q y g1 p1 p2
  cases qs with
  | nil => cases k2; omega
  | cons p qs =>
    obtain ⟨_, _, l3, k5, _⟩ := k2
    refine hv3 (PC1.uni hT h0 h4 (g3 hr) k5) (g2.1.1) (RCL.len h13) (fun e w e3 => ?_)
    rw [k1, cls_app, cls_cons, ← e.2] at p3
    simp only [List.length_append] at p3 w
    push_cast at p3 w
    omega⟩⟩
theorem SP15.copy (h : SP15 v a v1 a1 t q u x r) (hr : 0 ≤ r) : SP20 v a v1 a1 t q u x r 0 := ⟨h.1, fun l0 hl => by
  obtain ⟨pre, cs, g1, g2, g3, _⟩ := h.2 l0 hl
  exact ⟨pre, cs, g1, ⟨MDK.zero g2.1, g2.2⟩, g3 hr⟩⟩
theorem SP20.step {i : Nat} (h : SP20 v a v1 a1 t q u x r k) (h0 : 0 ≤ k) (hi : i = (v1 25 + k).toNat) (hz : z = a 15 (4 * r.toNat + k.toNat)) : SP20 v a v1 (up2 a1 24 i z) t q u x r (k + 1) := ⟨(funext fun _ => up2_k (by decide)).trans h.1, fun l0 hl => by
  obtain ⟨pre, cs, g1, g2, g3⟩ := h.2 l0 hl
  exact ⟨pre, cs, g1, ⟨g2.1.step h0 hi hz, g2.2.fr (funext fun _ => up2_k (by decide))⟩, g3⟩⟩
theorem SP20.next (h : SP20 v a v1 a1 t q u x r k) (hx : x < u) (h13 : 0 ≤ a 13 r.toNat) (hk : k = a 13 r.toNat) (hv : v2 25 = v1 25 + a 13 r.toNat) : SP3 v a v2 a1 t q u (x + a 12 r.toNat) := ⟨h.1, fun l0 hl => by
  obtain ⟨pre, cs, g1, g2, g3⟩ := h.2 l0 hl
  refine ⟨pre ++ [(x, cs ++ RCL a r)], ptp.snoc pre q g1 hx g3, ?_, fun i => by rw [bgn_snoc]; exact g2.2 i⟩
  have e := g2.1.fin (n := (a 13 r.toNat).toNat) (v2 := v2) (a2 := a1) (by omega) (by omega) rfl
  rw [cls_app, cls_one, ← List.append_assoc, ← List.append_assoc]
  exact e⟩
theorem SP3.done (h : SP3 v a v1 a1 t q u x) (hx : u ≤ x) (h25 : v1 25 ≤ 200) : SPT v a v1 a1 t q u 1 := ⟨h.1, fun l0 hl => ⟨fun _ => by
  obtain ⟨pre, g1, g2⟩ := h.2 l0 hl
  have w := g2.1.1
  rw [List.length_append] at w
  push_cast at w
  exact ⟨pre, ⟨⟨x, g1, hx⟩, by omega⟩, g2⟩, fun e => absurd rfl e⟩⟩
end SETS
def PIX (v : Nat → Int) (a : Nat → Nat → Int) (v2 : Nat → Int) (a2 : Nat → Nat → Int) (I : Int) : Prop := ∀ l, MDH v a l → MDH v2 a2 (l ++ ICL a I)
def PIK (v : Nat → Int) (a : Nat → Nat → Int) (v1 : Nat → Int) (a1 : Nat → Nat → Int) (I k : Int) : Prop := ∀ l, MDH v a l → MDK v1 a1 l (fun j => a 17 (4 * I.toNat + j)) k
section PINS
variable {v v1 v2 v3 : Nat → Int} {V1 A1 : List Nat} {a a1 a2 a3 : Nat → Nat → Int} {W : Nat → Int} {q u x t r k f I c z : Int} {n i : Nat} {l0 : List Int}
theorem PIK.zero : PIK v a v a I 0 := fun l h => MDK.zero h
theorem PIK.step (h : PIK v a v1 a1 I k) (h0 : 0 ≤ k) (hi : i = (v1 25 + k).toNat) (hz : z = a 17 (4 * I.toNat + k.toNat)) : PIK v a v1 (up2 a1 24 i z) I (k + 1) := fun l hl => (h l hl).step h0 hi hz
theorem PIK.fin (h : PIK v a v1 a1 I k) (hk : k = a 16 I.toNat) (h16 : 0 ≤ a 16 I.toNat) (hv : v2 25 = v1 25 + a 16 I.toNat) : PIX v a v2 a1 I := fun l hl => (h l hl).fin (n := (a 16 I.toNat).toNat) (by omega) (by omega) rfl
theorem ICL_cg (h16 : a1 16 = a 16) (h17 : a1 17 = a 17) : ICL a1 I = ICL a I := by unfold ICL; rw [h16, h17]
theorem fnd.wd {A1 : List Nat} (f1 : fr V1 A1 v a v1 a1) (hA : ([6, 8, 10, 11, 12, 14] : List Nat).all (fun j => !A1.contains j) = true) (hw : a1 20 = W) (h : fnd a1 q u x n (a1 20) t r) : fnd a q u x n W t r := by
  have g : ∀ j, j ∈ ([6, 8, 10, 11, 12, 14] : List Nat) → a1 j = a j := fun j hj => f1.2 j (by have := List.all_eq_true.mp hA j hj; simpa using this)
  rw [hw] at h
  exact fnd_cg (g 6 (by decide)) (g 8 (by decide)) (g 10 (by decide)) (g 11 (by decide)) (g 12 (by decide)) (g 14 (by decide)) n _ _ _ h
theorem upw (h : a1 20 = W) : up2 a1 20 i z 20 = va_up W i z := by
  rw [← h]
  funext j
  unfold up2 va_up
  rw [if_pos rfl]
theorem upb (h : a1 20 = va_up W i z) (hc : c = W i) : up2 a1 20 i c 20 = W := by
  rw [upw h]
  funext j
  unfold va_up
  by_cases e : j = i
  · subst e; rw [if_pos rfl]; exact hc
  · rw [if_neg e, if_neg e]
theorem SP3.num (h : SP3 v a v1 a1 t q u x) (s24 : a2 24 = a1 24) (hP : PIX v1 a2 v3 a3 (4 * t + 1)) (h16 : a2 16 = a 16) (h17 : a2 17 = a 17) (h20 : a3 20 = a1 20) (h26 : ∀ i : Nat, a3 26 i = if i = x.toNat then v1 25 else a1 26 i) (hn : nbl a (a 20) t q x = ICL a (4 * t + 1)) : SP7 v a v3 a3 t q u x := h.number (fun l hl => by rw [← ICL_cg h16 h17]; exact hP l (hl.fr rfl s24)) h20 h26 hn
end PINS
set_option maxHeartbeats 4000000 in
set_option maxRecDepth 100000 in
theorem E_putIndicator {l : Launch} {G : GT} {h0 : Nat} {ad ln : Nat → Nat} {v : Nat → Int} {a : Nat → Nat → Int}  {t w1 : Int} (hB : BX v a) (ht : 0 ≤ t ∧ t < 30) (hw : 0 ≤ w1 ∧ w1 ≤ 3) (h25 : v 25 ≤ 204) : Mm l G yX12_putIndicator cX12_putIndicator 5 none 0 [.int (iI t), .int (iI w1)] h0 ad ln v a 0 0 (fun r v2 a2 => r = none ∧ fr [25] [24] v a v2 a2 ∧ BX v2 a2 ∧ ((v2 25 = v 25 + a 16 (4 * t + w1).toNat) ∧ PIX v a v2 a2 (4 * t + w1))) := by
  refine Mm.mk (by decide) (Nat.le_of_ble_eq_true rfl) ?_
  intro p e s m args below meth c A C
  refine hv3 (show 0 ≤ a 16 (4 * t + w1).toNat ∧ a 16 (4 * t + w1).toNat ≤ 4 from hB.2 16 _) (show 0 ≤ v 25 ∧ v 25 ≤ 208 from hB.1 25) (show fr [25] [24] v a v a from fr.refl) (fun r16 r25 fp0 => ?_)
  refine m_iconst C dX12_putIndicator_0 ?_
  refine m_iload_n (j := 1) C dX12_putIndicator_1 rfl ?_
  refine m_imul C dX12_putIndicator_2 ?_
  refine m_iload_n (j := 2) C dX12_putIndicator_3 rfl ?_
  refine m_iadd C dX12_putIndicator_4 ?_
  refine m_istore_n (lv2 := [(3, .int (iI ((4 * t) + w1))), (0, .ref h0), (1, .int (iI t)), (2, .int (iI w1))]) C dX12_putIndicator_5 (by decide) rfl ?_
  refine m_iconst C dX12_putIndicator_6 ?_
  refine m_istore (lv2 := [(4, .int (iI 0)), (3, .int (iI ((4 * t) + w1))), (0, .ref h0), (1, .int (iI t)), (2, .int (iI w1))]) C dX12_putIndicator_7 (by decide) rfl ?_
  have Lp1 : ∀ (nn : Nat) (k : Int) (vb1 : Nat → Int) (ab1 : Nat → Nat → Int), 5 - k < (nn : Int) → BX vb1 ab1 → fr [25] [24] v a vb1 ab1 → (0 ≤ k ∧ k ≤ a 16 (4 * t + w1).toNat) → (vb1 25 = v 25) → (PIK v a vb1 ab1 (4 * t + w1) k) → mw p l e (rmq 0 0 0) s m args below meth c G A 5 (MQ below (Qm G A (fun rq Lq Eq => ∃ (vq : Nat → Int) (aq : Nat → Nat → Int), mI G h0 ad ln vq aq Lq Eq ∧ (fun r v2 a2 => r = none ∧ fr [25] [24] v a v2 a2 ∧ BX v2 a2 ∧ ((v2 25 = v 25 + a 16 (4 * t + w1).toNat) ∧ PIX v a v2 a2 (4 * t + w1))) rq vq aq)) args s 0 0 A) h0 ad ln vb1 ab1 0 0 9 [(4, .int (iI k)), (3, .int (iI ((4 * t) + w1))), (0, .ref h0), (1, .int (iI t)), (2, .int (iI w1))] [] := by
    intro nn
    induction nn with
    | zero =>
      intro k vb1 ab1 hm bxb1 fpb1 hk hv5 hM
      exact absurd hm (by omega)
    | succ nn ih1 =>
      intro k vb1 ab1 hm bxb1 fpb1 hk hv5 hM
      refine m_iload (j := 0) C dX12_putIndicator_9 rfl ?_
      refine m_aload_n (j := 2) C dX12_putIndicator_11 rfl ?_
      refine m_geta (k := 16) C dX12_putIndicator_12 w6_75 (by decide) rfl ?_
      refine m_iload_n (j := 1) C dX12_putIndicator_15 rfl ?_
      refine m_ald (k := 16) C dX12_putIndicator_16 rfl rfl (by decide) (by omega) (by show _ < ((_ : Nat) : Int); simp only [mlen]; omega) (by decide) ?_
      refine hv2 (show 0 ≤ ab1 16 ((4 * t) + w1).toNat ∧ ab1 16 ((4 * t) + w1).toNat ≤ 4 from bxb1.2 16 (((4 * t) + w1).toNat)) (show ab1 16 (((4 * t) + w1).toNat) = a 16 (((4 * t) + w1).toNat) from congrFun (fpb1.2 16 rfl) (((4 * t) + w1).toNat)) (fun ra1 ae1 => ?_)
      refine m_st (st2 := [.int (iI (a 16 ((4 * t) + w1).toNat)), .int (iI k)]) (congrArg (fun z => Value.int (iI z) :: [.int (iI k)]) (congrFun (fpb1.2 16 rfl) (((4 * t) + w1).toNat))) ?_
      refine m_icmp_ge (tgt := 49) C ⟨by omega, by omega⟩ ⟨by omega, by omega⟩ dX12_putIndicator_17 (by decide) (fun c1 => ?_) (fun c1 => ?_)
      · refine m_aload_n (j := 2) C dX12_putIndicator_49 rfl ?_
        refine m_dup C dX12_putIndicator_50 rfl ?_
        have rv1 : 0 ≤ vb1 25 ∧ vb1 25 ≤ 208 := bxb1.1 25
        refine m_get (k := 25) C dX12_putIndicator_51 w6_84 (by decide) rfl ?_
        refine m_aload_n (j := 2) C dX12_putIndicator_54 rfl ?_
        refine m_geta (k := 16) C dX12_putIndicator_55 w6_75 (by decide) rfl ?_
        refine m_iload_n (j := 1) C dX12_putIndicator_58 rfl ?_
        refine m_ald (k := 16) C dX12_putIndicator_59 rfl rfl (by decide) (by omega) (by show _ < ((_ : Nat) : Int); simp only [mlen]; omega) (by decide) ?_
        refine m_st (st2 := [.int (iI (a 16 ((4 * t) + w1).toNat)), .int (iI (vb1 25)), .ref h0]) (congrArg (fun z => Value.int (iI z) :: [.int (iI (vb1 25)), .ref h0]) (congrFun (fpb1.2 16 rfl) (((4 * t) + w1).toNat))) ?_
        refine m_iadd C dX12_putIndicator_60 ?_
        refine m_put (k := 25) (z := (vb1 25) + (a 16 ((4 * t) + w1).toNat)) C dX12_putIndicator_61 w6_84 (by decide) rfl rfl rfl ?_
        refine hv2 (show BX (va_up vb1 25 ((vb1 25) + (a 16 ((4 * t) + w1).toNat))) ab1 from bxb1.put (k := 25) (z := (vb1 25) + (a 16 ((4 * t) + w1).toNat)) (show 0 ≤ ((vb1 25) + (a 16 ((4 * t) + w1).toNat)) ∧ ((vb1 25) + (a 16 ((4 * t) + w1).toNat)) ≤ 208 by omega)) (fpb1.put (k := 25) (z := (vb1 25) + (a 16 ((4 * t) + w1).toNat)) rfl) (fun bq1 fq1 => ?_)
        exact m_vret C dX12_putIndicator_64 rfl (Nat.le_of_ble_eq_true rfl) (Nat.le_of_ble_eq_true rfl) ⟨rfl, fq1, bq1, ⟨(by show ((vb1 25) + (a 16 ((4 * t) + w1).toNat)) = v 25 + a 16 (4 * t + w1).toNat; omega), hM.fin (by omega) (by omega) (va_up_self _ _ _)⟩⟩
      · refine m_aload_n (j := 2) C dX12_putIndicator_20 rfl ?_
        refine m_geta (k := 24) C dX12_putIndicator_21 w6_83 (by decide) rfl ?_
        refine m_aload_n (j := 2) C dX12_putIndicator_24 rfl ?_
        have rv2 : 0 ≤ vb1 25 ∧ vb1 25 ≤ 208 := bxb1.1 25
        refine m_get (k := 25) C dX12_putIndicator_25 w6_84 (by decide) rfl ?_
        refine m_iload (j := 0) C dX12_putIndicator_28 rfl ?_
        refine m_iadd C dX12_putIndicator_30 ?_
        refine m_aload_n (j := 2) C dX12_putIndicator_31 rfl ?_
        refine m_geta (k := 17) C dX12_putIndicator_32 w6_76 (by decide) rfl ?_
        refine m_iconst C dX12_putIndicator_35 ?_
        refine m_iload_n (j := 1) C dX12_putIndicator_36 rfl ?_
        refine m_imul C dX12_putIndicator_37 ?_
        refine m_iload (j := 0) C dX12_putIndicator_38 rfl ?_
        refine m_iadd C dX12_putIndicator_40 ?_
        refine m_ald (k := 17) C dX12_putIndicator_41 rfl rfl (by decide) (by omega) (by show _ < ((_ : Nat) : Int); simp only [mlen]; omega) (by decide) ?_
        refine hv2 (show (-2147483648) ≤ ab1 17 ((4 * ((4 * t) + w1)) + k).toNat ∧ ab1 17 ((4 * ((4 * t) + w1)) + k).toNat ≤ 2147483647 from bxb1.2 17 (((4 * ((4 * t) + w1)) + k).toNat)) (show ab1 17 (((4 * ((4 * t) + w1)) + k).toNat) = a 17 (((4 * ((4 * t) + w1)) + k).toNat) from congrFun (fpb1.2 17 rfl) (((4 * ((4 * t) + w1)) + k).toNat)) (fun ra2 ae2 => ?_)
        refine m_st (st2 := [.int (iI (a 17 ((4 * ((4 * t) + w1)) + k).toNat)), .int (iI ((vb1 25) + k)), .ref (ad 24)]) (congrArg (fun z => Value.int (iI z) :: [.int (iI ((vb1 25) + k)), .ref (ad 24)]) (congrFun (fpb1.2 17 rfl) (((4 * ((4 * t) + w1)) + k).toNat))) ?_
        refine m_ast (k := 24) C dX12_putIndicator_42 rfl rfl (by decide) (by omega) (by show _ < ((_ : Nat) : Int); simp only [mlen]; omega) (by decide) ?_
        refine hv2 (show BX vb1 (up2 ab1 24 ((vb1 25) + k).toNat (a 17 ((4 * ((4 * t) + w1)) + k).toNat)) from bxb1.set (k := 24) (i := ((vb1 25) + k).toNat) (z := a 17 ((4 * ((4 * t) + w1)) + k).toNat) (show (-2147483648) ≤ (a 17 ((4 * ((4 * t) + w1)) + k).toNat) ∧ (a 17 ((4 * ((4 * t) + w1)) + k).toNat) ≤ 2147483647 by omega)) (fpb1.set (k := 24) (i := ((vb1 25) + k).toNat) (z := a 17 ((4 * ((4 * t) + w1)) + k).toNat) rfl) (fun bq2 fq2 => ?_)
        refine m_iinc (z := k) (j := 0) (lv2 := [(4, .int (iI (k + 1))), (3, .int (iI ((4 * t) + w1))), (0, .ref h0), (1, .int (iI t)), (2, .int (iI w1))]) C dX12_putIndicator_43 rfl (by decide) rfl ?_
        refine m_goto (tgt := 9) C dX12_putIndicator_46 (by decide) ?_
        refine m_lv (lv2 := [(4, .int (iI (k + 1))), (3, .int (iI ((4 * t) + w1))), (0, .ref h0), (1, .int (iI t)), (2, .int (iI w1))]) [0, 1, 2, 3, 4] rfl ?_
        exact ih1  (k + 1) _ _ (by omega) bq2 fq2 (by omega) (by show (vb1 25) = v 25; omega) (hM.step (by omega) rfl (congrArg (a 17) (by omega)))
  have rv3 : 0 ≤ v 25 ∧ v 25 ≤ 208 := hB.1 25
  refine m_lv (lv2 := [(4, .int (iI 0)), (3, .int (iI ((4 * t) + w1))), (0, .ref h0), (1, .int (iI t)), (2, .int (iI w1))]) [0, 1, 2, 3, 4] rfl ?_
  exact Lp1 6 0 _ _ (by omega) hB fp0 (by omega) (by show (v 25) = v 25; omega) PIK.zero
set_option maxHeartbeats 4000000 in
set_option maxRecDepth 100000 in
theorem E_setPart {l : Launch} {G : GT} {h0 : Nat} {ad ln : Nat → Nat} {v : Nat → Int} {a : Nat → Nat → Int}  {t q u : Int} (hB : BX v a) (hT : TBL v a) (ht : 0 ≤ t ∧ t < v 4) (h4 : a 6 t.toNat ≤ 4) (hx : 0 ≤ q ∧ q ≤ u ∧ u ≤ 500) (h25 : v 25 ≤ 200) : Mm l G yX12_setPart cX12_setPart 8 (some .boolean) 64 [.int (iI t), .int (iI q), .int (iI u)] h0 ad ln v a 0 0 (fun r v2 a2 => ∃ f : Int, r = some (.int (iI f)) ∧ fr [25, 28] [20, 24, 26, 27] v a v2 a2 ∧ BX v2 a2 ∧ ((f = 0 ∨ (f = 1 ∧ v2 25 ≤ 200)) ∧ SPT v a v2 a2 t q u f)) := by
  refine Mm.mk (by decide) (Nat.le_of_ble_eq_true rfl) ?_
  intro p e s m args below meth c A C
  refine hv2 (show 0 ≤ v 4 ∧ v 4 ≤ 30 from hB.1 4) (show fr [25, 28] [20, 24, 26, 27] v a v a from fr.refl) (fun h30 fp0 => ?_)
  refine m_iload_n (j := 2) C dX12_setPart_0 rfl ?_
  refine m_istore (lv2 := [(4, .int (iI q)), (0, .ref h0), (1, .int (iI t)), (2, .int (iI q)), (3, .int (iI u))]) C dX12_setPart_1 (by decide) rfl ?_
  have Lp1 : ∀ (nn : Nat) (x : Int) (vb1 : Nat → Int) (ab1 : Nat → Nat → Int), 501 - x < (nn : Int) → BX vb1 ab1 → fr [25, 28] [20, 24, 26, 27] v a vb1 ab1 → (q ≤ x ∧ x ≤ u) → (vb1 25 ≤ 200) → (SP3 v a vb1 ab1 t q u x) → mw p l e (rmq 64 0 0) s m args below meth c G A 8 (MQ below (Qm G A (fun rq Lq Eq => ∃ (vq : Nat → Int) (aq : Nat → Nat → Int), mI G h0 ad ln vq aq Lq Eq ∧ (fun r v2 a2 => ∃ f : Int, r = some (.int (iI f)) ∧ fr [25, 28] [20, 24, 26, 27] v a v2 a2 ∧ BX v2 a2 ∧ ((f = 0 ∨ (f = 1 ∧ v2 25 ≤ 200)) ∧ SPT v a v2 a2 t q u f)) rq vq aq)) args s 0 0 A) h0 ad ln vb1 ab1 0 0 3 [(4, .int (iI x)), (0, .ref h0), (1, .int (iI t)), (2, .int (iI q)), (3, .int (iI u))] [] := by
    intro nn
    induction nn with
    | zero =>
      intro x vb1 ab1 hm bxb1 fpb1 hq hb hI
      refine hv2 (congrFun hI.1 x.toNat) (congrFun hI.1 (x - 1).toNat) (fun w20_hI w21_hI => ?_)
      exact absurd hm (by omega)
    | succ nn ih1 =>
      intro x vb1 ab1 hm bxb1 fpb1 hq hb hI
      refine hv2 (congrFun hI.1 x.toNat) (congrFun hI.1 (x - 1).toNat) (fun w20_hI w21_hI => ?_)
      refine m_iload (j := 0) C dX12_setPart_3 rfl ?_
      refine m_iload_n (j := 4) C dX12_setPart_5 rfl ?_
      refine m_icmp_ge (tgt := 278) C ⟨by omega, by omega⟩ ⟨by omega, by omega⟩ dX12_setPart_6 (by decide) (fun c1 => ?_) (fun c1 => ?_)
      · refine m_iconst C dX12_setPart_278 ?_
        exact m_zret C dX12_setPart_279 rfl (Or.inr rfl) (Nat.le_of_ble_eq_true rfl) (Nat.le_of_ble_eq_true rfl) ⟨1, rfl, fpb1, bxb1, ⟨Or.inr ⟨rfl, hb⟩, hI.done (by omega) hb⟩⟩
      · refine m_aload_n (j := 1) C dX12_setPart_9 rfl ?_
        refine m_geta (k := 20) C dX12_setPart_10 w6_79 (by decide) rfl ?_
        refine m_iload (j := 0) C dX12_setPart_13 rfl ?_
        refine m_ald (k := 20) C dX12_setPart_15 rfl rfl (by decide) (by omega) (by show _ < ((_ : Nat) : Int); simp only [mlen]; omega) (by decide) ?_
        have ra1 : (-2147483648) ≤ ab1 20 x.toNat ∧ ab1 20 x.toNat ≤ 2147483647 := bxb1.2 20 (x.toNat)
        refine m_istore (lv2 := [(5, .int (iI (ab1 20 x.toNat))), (4, .int (iI x)), (0, .ref h0), (1, .int (iI t)), (2, .int (iI q)), (3, .int (iI u))]) C dX12_setPart_16 (by decide) rfl ?_
        have J1 : ∀ (r : Int) (vb2 : Nat → Int) (ab2 : Nat → Nat → Int), BX vb2 ab2 → fr [25, 28] [20, 24, 26, 27] v a vb2 ab2 → (r = -1 ∨ (0 ≤ r ∧ r < 6000 ∧ (1 ≤ a 12 r.toNat ∧ a 12 r.toNat ≤ 8) ∧ (1 ≤ a 13 r.toNat ∧ a 13 r.toNat ≤ 4) ∧ x + a 12 r.toNat ≤ u)) → (vb2 25 ≤ 208) → (SP15 v a vb2 ab2 t q u x r) → mw p l e (rmq 64 0 0) s m args below meth c G A 8 (MQ below (Qm G A (fun rq Lq Eq => ∃ (vq : Nat → Int) (aq : Nat → Nat → Int), mI G h0 ad ln vq aq Lq Eq ∧ (fun r v2 a2 => ∃ f : Int, r = some (.int (iI f)) ∧ fr [25, 28] [20, 24, 26, 27] v a v2 a2 ∧ BX v2 a2 ∧ ((f = 0 ∨ (f = 1 ∧ v2 25 ≤ 200)) ∧ SPT v a v2 a2 t q u f)) rq vq aq)) args s 0 0 A) h0 ad ln vb2 ab2 0 0 159 [(6, .int (iI r)), (5, .int (iI (ab1 20 x.toNat))), (4, .int (iI x)), (0, .ref h0), (1, .int (iI t)), (2, .int (iI q)), (3, .int (iI u))] [] := by
          intro r vb2 ab2 bxb2 fpb2 hr hb3 h15
          refine m_iload (j := 0) C dX12_setPart_159 rfl ?_
          refine m_if_ge (tgt := 177) C ⟨by omega, by omega⟩ dX12_setPart_161 (by decide) (fun c2 => ?_) (fun c2 => ?_)
          · refine m_aload_n (j := 3) C dX12_setPart_177 rfl ?_
            have rv1 : 0 ≤ vb2 25 ∧ vb2 25 ≤ 208 := bxb2.1 25
            refine m_get (k := 25) C dX12_setPart_178 w6_84 (by decide) rfl ?_
            refine m_aload_n (j := 3) C dX12_setPart_181 rfl ?_
            refine m_geta (k := 13) C dX12_setPart_182 w6_72 (by decide) rfl ?_
            refine m_iload (j := 0) C dX12_setPart_185 rfl ?_
            refine m_ald (k := 13) C dX12_setPart_187 rfl rfl (by decide) (by omega) (by show _ < ((_ : Nat) : Int); simp only [mlen]; omega) (by decide) ?_
            refine hv2 (show 0 ≤ ab2 13 r.toNat ∧ ab2 13 r.toNat ≤ 4 from bxb2.2 13 (r.toNat)) (show ab2 13 (r.toNat) = a 13 (r.toNat) from congrFun (fpb2.2 13 rfl) (r.toNat)) (fun ra2 ae1 => ?_)
            refine m_st (st2 := [.int (iI (a 13 r.toNat)), .int (iI (vb2 25))]) (congrArg (fun z => Value.int (iI z) :: [.int (iI (vb2 25))]) (congrFun (fpb2.2 13 rfl) (r.toNat))) ?_
            refine m_iadd C dX12_setPart_188 ?_
            refine m_sipush (z := 200) C dX12_setPart_189 (by decide) ?_
            refine m_icmp_le (tgt := 202) C ⟨by omega, by omega⟩ ⟨by decide, by decide⟩ dX12_setPart_192 (by decide) (fun c3 => ?_) (fun c3 => ?_)
            · refine m_iconst C dX12_setPart_202 ?_
              refine m_istore (lv2 := [(7, .int (iI 0)), (6, .int (iI r)), (5, .int (iI (ab1 20 x.toNat))), (4, .int (iI x)), (0, .ref h0), (1, .int (iI t)), (2, .int (iI q)), (3, .int (iI u))]) C dX12_setPart_203 (by decide) rfl ?_
              have Lp2 : ∀ (nn : Nat) (k : Int) (vb3 : Nat → Int) (ab3 : Nat → Nat → Int), 5 - k < (nn : Int) → BX vb3 ab3 → fr [25, 28] [20, 24, 26, 27] v a vb3 ab3 → (0 ≤ k ∧ k ≤ a 13 r.toNat) → (vb3 25 + a 13 r.toNat ≤ 200) → (SP20 v a vb3 ab3 t q u x r k) → mw p l e (rmq 64 0 0) s m args below meth c G A 8 (MQ below (Qm G A (fun rq Lq Eq => ∃ (vq : Nat → Int) (aq : Nat → Nat → Int), mI G h0 ad ln vq aq Lq Eq ∧ (fun r v2 a2 => ∃ f : Int, r = some (.int (iI f)) ∧ fr [25, 28] [20, 24, 26, 27] v a v2 a2 ∧ BX v2 a2 ∧ ((f = 0 ∨ (f = 1 ∧ v2 25 ≤ 200)) ∧ SPT v a v2 a2 t q u f)) rq vq aq)) args s 0 0 A) h0 ad ln vb3 ab3 0 0 205 [(7, .int (iI k)), (6, .int (iI r)), (5, .int (iI (ab1 20 x.toNat))), (4, .int (iI x)), (0, .ref h0), (1, .int (iI t)), (2, .int (iI q)), (3, .int (iI u))] [] := by
                intro nn
                induction nn with
                | zero =>
                  intro k vb3 ab3 hm bxb3 fpb3 hk hb4 h20k
                  exact absurd hm (by omega)
                | succ nn ih2 =>
                  intro k vb3 ab3 hm bxb3 fpb3 hk hb4 h20k
                  refine m_iload (j := 0) C dX12_setPart_205 rfl ?_
                  refine m_aload_n (j := 4) C dX12_setPart_207 rfl ?_
                  refine m_geta (k := 13) C dX12_setPart_208 w6_72 (by decide) rfl ?_
                  refine m_iload (j := 1) C dX12_setPart_211 rfl ?_
                  refine m_ald (k := 13) C dX12_setPart_213 rfl rfl (by decide) (by omega) (by show _ < ((_ : Nat) : Int); simp only [mlen]; omega) (by decide) ?_
                  refine hv2 (show 0 ≤ ab3 13 r.toNat ∧ ab3 13 r.toNat ≤ 4 from bxb3.2 13 (r.toNat)) (show ab3 13 (r.toNat) = a 13 (r.toNat) from congrFun (fpb3.2 13 rfl) (r.toNat)) (fun ra3 ae2 => ?_)
                  refine m_st (st2 := [.int (iI (a 13 r.toNat)), .int (iI k)]) (congrArg (fun z => Value.int (iI z) :: [.int (iI k)]) (congrFun (fpb3.2 13 rfl) (r.toNat))) ?_
                  refine m_icmp_ge (tgt := 247) C ⟨by omega, by omega⟩ ⟨by omega, by omega⟩ dX12_setPart_214 (by decide) (fun c4 => ?_) (fun c4 => ?_)
                  · refine m_aload_n (j := 4) C dX12_setPart_247 rfl ?_
                    refine m_dup C dX12_setPart_248 rfl ?_
                    have rv2 : 0 ≤ vb3 25 ∧ vb3 25 ≤ 208 := bxb3.1 25
                    refine m_get (k := 25) C dX12_setPart_249 w6_84 (by decide) rfl ?_
                    refine m_aload_n (j := 4) C dX12_setPart_252 rfl ?_
                    refine m_geta (k := 13) C dX12_setPart_253 w6_72 (by decide) rfl ?_
                    refine m_iload (j := 1) C dX12_setPart_256 rfl ?_
                    refine m_ald (k := 13) C dX12_setPart_258 rfl rfl (by decide) (by omega) (by show _ < ((_ : Nat) : Int); simp only [mlen]; omega) (by decide) ?_
                    refine m_st (st2 := [.int (iI (a 13 r.toNat)), .int (iI (vb3 25)), .ref h0]) (congrArg (fun z => Value.int (iI z) :: [.int (iI (vb3 25)), .ref h0]) (congrFun (fpb3.2 13 rfl) (r.toNat))) ?_
                    refine m_iadd C dX12_setPart_259 ?_
                    refine m_put (k := 25) (z := (vb3 25) + (a 13 r.toNat)) C dX12_setPart_260 w6_84 (by decide) rfl rfl rfl ?_
                    refine hv2 (show BX (va_up vb3 25 ((vb3 25) + (a 13 r.toNat))) ab3 from bxb3.put (k := 25) (z := (vb3 25) + (a 13 r.toNat)) (show 0 ≤ ((vb3 25) + (a 13 r.toNat)) ∧ ((vb3 25) + (a 13 r.toNat)) ≤ 208 by omega)) (fpb3.put (k := 25) (z := (vb3 25) + (a 13 r.toNat)) rfl) (fun bq1 fq1 => ?_)
                    refine m_iload (j := 3) C dX12_setPart_263 rfl ?_
                    refine m_aload_n (j := 4) C dX12_setPart_265 rfl ?_
                    refine m_geta (k := 12) C dX12_setPart_266 w6_71 (by decide) rfl ?_
                    refine m_iload (j := 1) C dX12_setPart_269 rfl ?_
                    refine m_ald (k := 12) C dX12_setPart_271 rfl rfl (by decide) (by omega) (by show _ < ((_ : Nat) : Int); simp only [mlen]; omega) (by decide) ?_
                    refine hv2 (show 0 ≤ ab3 12 r.toNat ∧ ab3 12 r.toNat ≤ 8 from bq1.2 12 (r.toNat)) (show ab3 12 (r.toNat) = a 12 (r.toNat) from congrFun (fpb3.2 12 rfl) (r.toNat)) (fun ra4 ae3 => ?_)
                    refine m_st (st2 := [.int (iI (a 12 r.toNat)), .int (iI x)]) (congrArg (fun z => Value.int (iI z) :: [.int (iI x)]) (congrFun (fq1.2 12 rfl) (r.toNat))) ?_
                    refine m_iadd C dX12_setPart_272 ?_
                    refine m_istore (lv2 := [(4, .int (iI (x + (a 12 r.toNat)))), (7, .int (iI k)), (6, .int (iI r)), (5, .int (iI (ab1 20 x.toNat))), (0, .ref h0), (1, .int (iI t)), (2, .int (iI q)), (3, .int (iI u))]) C dX12_setPart_273 (by decide) rfl ?_
                    refine m_goto (tgt := 3) C dX12_setPart_275 (by decide) ?_
                    refine m_lv (lv2 := [(4, .int (iI (x + (a 12 r.toNat)))), (0, .ref h0), (1, .int (iI t)), (2, .int (iI q)), (3, .int (iI u))]) [0, 4, 5, 6, 7] rfl ?_
                    exact ih1  (x + (a 12 r.toNat)) _ _ (by omega) bq1 fq1 (by omega) (by show (vb3 25) + (a 13 r.toNat) ≤ 200; omega) (h20k.next (by omega) (by omega) (by omega) (va_up_self _ _ _))
                  · refine m_aload_n (j := 4) C dX12_setPart_217 rfl ?_
                    refine m_geta (k := 24) C dX12_setPart_218 w6_83 (by decide) rfl ?_
                    refine m_aload_n (j := 4) C dX12_setPart_221 rfl ?_
                    have rv3 : 0 ≤ vb3 25 ∧ vb3 25 ≤ 208 := bxb3.1 25
                    refine m_get (k := 25) C dX12_setPart_222 w6_84 (by decide) rfl ?_
                    refine m_iload (j := 0) C dX12_setPart_225 rfl ?_
                    refine m_iadd C dX12_setPart_227 ?_
                    refine m_aload_n (j := 4) C dX12_setPart_228 rfl ?_
                    refine m_geta (k := 15) C dX12_setPart_229 w6_74 (by decide) rfl ?_
                    refine m_iconst C dX12_setPart_232 ?_
                    refine m_iload (j := 1) C dX12_setPart_233 rfl ?_
                    refine m_imul C dX12_setPart_235 ?_
                    refine m_iload (j := 0) C dX12_setPart_236 rfl ?_
                    refine m_iadd C dX12_setPart_238 ?_
                    refine m_ald (k := 15) C dX12_setPart_239 rfl rfl (by decide) (by omega) (by show _ < ((_ : Nat) : Int); simp only [mlen]; omega) (by decide) ?_
                    refine hv2 (show (-2147483648) ≤ ab3 15 ((4 * r) + k).toNat ∧ ab3 15 ((4 * r) + k).toNat ≤ 2147483647 from bxb3.2 15 (((4 * r) + k).toNat)) (show ab3 15 (((4 * r) + k).toNat) = a 15 (((4 * r) + k).toNat) from congrFun (fpb3.2 15 rfl) (((4 * r) + k).toNat)) (fun ra5 ae4 => ?_)
                    refine m_st (st2 := [.int (iI (a 15 ((4 * r) + k).toNat)), .int (iI ((vb3 25) + k)), .ref (ad 24)]) (congrArg (fun z => Value.int (iI z) :: [.int (iI ((vb3 25) + k)), .ref (ad 24)]) (congrFun (fpb3.2 15 rfl) (((4 * r) + k).toNat))) ?_
                    refine m_ast (k := 24) C dX12_setPart_240 rfl rfl (by decide) (by omega) (by show _ < ((_ : Nat) : Int); simp only [mlen]; omega) (by decide) ?_
                    refine hv2 (show BX vb3 (up2 ab3 24 ((vb3 25) + k).toNat (a 15 ((4 * r) + k).toNat)) from bxb3.set (k := 24) (i := ((vb3 25) + k).toNat) (z := a 15 ((4 * r) + k).toNat) (show (-2147483648) ≤ (a 15 ((4 * r) + k).toNat) ∧ (a 15 ((4 * r) + k).toNat) ≤ 2147483647 by omega)) (fpb3.set (k := 24) (i := ((vb3 25) + k).toNat) (z := a 15 ((4 * r) + k).toNat) rfl) (fun bq2 fq2 => ?_)
                    refine m_iinc (z := k) (j := 0) (lv2 := [(7, .int (iI (k + 1))), (6, .int (iI r)), (5, .int (iI (ab1 20 x.toNat))), (4, .int (iI x)), (0, .ref h0), (1, .int (iI t)), (2, .int (iI q)), (3, .int (iI u))]) C dX12_setPart_241 rfl (by decide) rfl ?_
                    refine m_goto (tgt := 205) C dX12_setPart_244 (by decide) ?_
                    refine m_lv (lv2 := [(7, .int (iI (k + 1))), (6, .int (iI r)), (5, .int (iI (ab1 20 x.toNat))), (4, .int (iI x)), (0, .ref h0), (1, .int (iI t)), (2, .int (iI q)), (3, .int (iI u))]) [0, 1, 2, 3, 4, 5, 6, 7] rfl ?_
                    exact ih2  (k + 1) _ _ (by omega) bq2 fq2 (by omega) (by show vb3 25 + a 13 r.toNat ≤ 200; omega) (h20k.step (by omega) rfl (congrArg (a 15) (by omega)))
              refine m_lv (lv2 := [(7, .int (iI 0)), (6, .int (iI r)), (5, .int (iI (ab1 20 x.toNat))), (4, .int (iI x)), (0, .ref h0), (1, .int (iI t)), (2, .int (iI q)), (3, .int (iI u))]) [0, 1, 2, 3, 4, 5, 6, 7] rfl ?_
              exact Lp2 6 0 _ _ (by omega) bxb2 fpb2 (by omega) (by show vb2 25 + a 13 r.toNat ≤ 200; omega) (h15.copy (by omega))
            · refine m_aload_n (j := 3) C dX12_setPart_195 rfl ?_
              refine m_iconst C dX12_setPart_196 ?_
              refine m_put (k := 28) (z := (-1)) C dX12_setPart_197 w6_87 (by decide) rfl rfl rfl ?_
              refine hv2 (show BX (va_up vb2 28 (-1)) ab2 from bxb2.put (k := 28) (z := (-1)) ⟨by decide, by decide⟩) (fpb2.put (k := 28) (z := (-1)) rfl) (fun bq3 fq3 => ?_)
              refine m_iconst C dX12_setPart_200 ?_
              exact m_zret C dX12_setPart_201 rfl (Or.inl rfl) (Nat.le_of_ble_eq_true rfl) (Nat.le_of_ble_eq_true rfl) ⟨0, rfl, fq3, bq3, ⟨Or.inl rfl, h15.many hT (by omega) (by omega) (by omega) (by omega) (by omega) (by omega) rfl⟩⟩
          · refine m_aload_n (j := 3) C dX12_setPart_164 rfl ?_
            refine m_aload_n (j := 3) C dX12_setPart_165 rfl ?_
            refine m_geta (k := 21) C dX12_setPart_166 w6_80 (by decide) rfl ?_
            refine m_iload (j := 2) C dX12_setPart_169 rfl ?_
            refine m_ald (k := 21) C dX12_setPart_171 rfl rfl (by decide) (by omega) (by show _ < ((_ : Nat) : Int); simp only [mlen]; omega) (by decide) ?_
            refine hv2 (show (-2147483648) ≤ ab2 21 x.toNat ∧ ab2 21 x.toNat ≤ 2147483647 from bxb2.2 21 (x.toNat)) (show ab2 21 (x.toNat) = a 21 (x.toNat) from congrFun (fpb2.2 21 rfl) (x.toNat)) (fun ra6 ae5 => ?_)
            refine m_st (st2 := [.int (iI (a 21 x.toNat)), .ref h0]) (congrArg (fun z => Value.int (iI z) :: [.ref h0]) (congrFun (fpb2.2 21 rfl) (x.toNat))) ?_
            refine m_put (k := 28) (z := a 21 x.toNat) C dX12_setPart_172 w6_87 (by decide) rfl rfl rfl ?_
            refine hv2 (show BX (va_up vb2 28 (a 21 x.toNat)) ab2 from bxb2.put (k := 28) (z := a 21 x.toNat) (show (-2147483648) ≤ (a 21 x.toNat) ∧ (a 21 x.toNat) ≤ 2147483647 by omega)) (fpb2.put (k := 28) (z := a 21 x.toNat) rfl) (fun bq4 fq4 => ?_)
            refine m_iconst C dX12_setPart_175 ?_
            exact m_zret C dX12_setPart_176 rfl (Or.inl rfl) (Nat.le_of_ble_eq_true rfl) (Nat.le_of_ble_eq_true rfl) ⟨0, rfl, fq4, bq4, ⟨Or.inl rfl, h15.unk hT (by omega) (by omega) (by omega) (by omega) rfl⟩⟩
        have J2 : ∀ (vb4 : Nat → Int) (ab4 : Nat → Nat → Int), BX vb4 ab4 → fr [25, 28] [20, 24, 26, 27] v a vb4 ab4 → (vb4 25 ≤ 204) → (SP7 v a vb4 ab4 t q u x) → mw p l e (rmq 64 0 0) s m args below meth c G A 8 (MQ below (Qm G A (fun rq Lq Eq => ∃ (vq : Nat → Int) (aq : Nat → Nat → Int), mI G h0 ad ln vq aq Lq Eq ∧ (fun r v2 a2 => ∃ f : Int, r = some (.int (iI f)) ∧ fr [25, 28] [20, 24, 26, 27] v a v2 a2 ∧ BX v2 a2 ∧ ((f = 0 ∨ (f = 1 ∧ v2 25 ≤ 200)) ∧ SPT v a v2 a2 t q u f)) rq vq aq)) args s 0 0 A) h0 ad ln vb4 ab4 0 0 74 [(5, .int (iI (ab1 20 x.toNat))), (4, .int (iI x)), (0, .ref h0), (1, .int (iI t)), (2, .int (iI q)), (3, .int (iI u))] [] := by
          intro  vb4 ab4 bxb4 fpb4 hb2 h7
          refine hv2 (congrFun h7.1 x.toNat) (congrFun h7.1 (x - 1).toNat) (fun w20_h7 w21_h7 => ?_)
          refine m_aload_n (j := 2) C dX12_setPart_74 rfl ?_
          refine m_iload_n (j := 3) C dX12_setPart_75 rfl ?_
          refine m_iload_n (j := 4) C dX12_setPart_76 rfl ?_
          refine m_iload_n (j := 5) C dX12_setPart_77 rfl ?_
          refine m_iload (j := 1) C dX12_setPart_78 rfl ?_
          refine hv4 (show 0 ≤ ab4 6 t.toNat ∧ ab4 6 t.toNat ≤ 5 from bxb4.2 6 (t.toNat)) (show ab4 6 (t.toNat) = a 6 (t.toNat) from congrFun (fpb4.2 6 rfl) (t.toNat)) (show 0 ≤ vb4 4 ∧ vb4 4 ≤ 30 from bxb4.1 4) (show vb4 4 = v 4 from fpb4.1 4 rfl) (fun ra7 ae6 rv4 ve1 => ?_)
          refine m_call (mc2 := 0) (ms2 := 0) (As := [.int (iI t), .int (iI q), .int (iI u), .int (iI x)]) (rest := []) C (E_find (t := t) (q := q) (u := u) (x := x) bxb4 (hT.fr fpb4 rfl rfl) (by show 0 ≤ t ∧ t < vb4 4; omega) (by show ab4 6 t.toNat ≤ 4; omega) (by omega)) dX12_setPart_80 kV_X12_218 rfl ck_13 rfl (Nat.le_of_ble_eq_true rfl) ⟨Nat.le_of_ble_eq_true rfl, Nat.le_of_ble_eq_true rfl⟩ ⟨Nat.le_of_ble_eq_true rfl, Nat.le_of_ble_eq_true rfl⟩ (fun rh1 vh1 ah1 h1 => ?_)
          obtain ⟨f1, rfl, fn1, bn1, ex1, tl1⟩ := h1
          refine hv8 (fpb4.call fn1 rfl rfl) (show f1 = -1 ∨ (0 ≤ f1 ∧ f1 < 6000 ∧ (1 ≤ ab4 12 f1.toNat ∧ ab4 12 f1.toNat ≤ 8) ∧ (1 ≤ ab4 13 f1.toNat ∧ ab4 13 f1.toNat ≤ 4) ∧ x + ab4 12 f1.toNat ≤ u) from ex1) (show 0 ≤ ah1 12 f1.toNat ∧ ah1 12 f1.toNat ≤ 8 from bn1.2 12 (f1.toNat)) (show ah1 12 (f1.toNat) = ab4 12 (f1.toNat) from congrFun (fn1.2 12 rfl) (f1.toNat)) (show ab4 12 (f1.toNat) = a 12 (f1.toNat) from congrFun (fpb4.2 12 rfl) (f1.toNat)) (show 0 ≤ ah1 13 f1.toNat ∧ ah1 13 f1.toNat ≤ 4 from bn1.2 13 (f1.toNat)) (show ah1 13 (f1.toNat) = ab4 13 (f1.toNat) from congrFun (fn1.2 13 rfl) (f1.toNat)) (show ab4 13 (f1.toNat) = a 13 (f1.toNat) from congrFun (fpb4.2 13 rfl) (f1.toNat)) (fun fq5 ef1 ra8 ae7 ae8 ra9 ae9 ae10 => ?_)
          refine m_st (st2 := [.int (iI f1)]) rfl ?_
          refine m_istore (lv2 := [(6, .int (iI f1)), (5, .int (iI (ab1 20 x.toNat))), (4, .int (iI x)), (0, .ref h0), (1, .int (iI t)), (2, .int (iI q)), (3, .int (iI u))]) C dX12_setPart_83 (by decide) rfl ?_
          refine m_iload (j := 0) C dX12_setPart_85 rfl ?_
          refine m_if_ge (tgt := 159) C ⟨by omega, by omega⟩ dX12_setPart_87 (by decide) (fun c5 => ?_) (fun c5 => ?_)
          · have rv5 : 0 ≤ vh1 25 ∧ vh1 25 ≤ 208 := bn1.1 25
            have ve2 : vh1 25 = vb4 25 := fn1.1 25 rfl
            refine m_lv (lv2 := [(6, .int (iI f1)), (5, .int (iI (ab1 20 x.toNat))), (4, .int (iI x)), (0, .ref h0), (1, .int (iI t)), (2, .int (iI q)), (3, .int (iI u))]) [0, 1, 2, 3, 4, 5, 6] rfl ?_
            exact J1  f1 _ _  bn1 fq5 (by omega) (by show vh1 25 ≤ 208; omega) (h7.found (fn1.1 25 rfl) (fn1.2 24 rfl) (fn1.2 20 rfl) (fn1.2 26 rfl) (fnd.wd fpb4 rfl h7.1 tl1) (by omega))
          · refine m_aload_n (j := 3) C dX12_setPart_90 rfl ?_
            refine m_geta (k := 6) C dX12_setPart_91 w6_65 (by decide) rfl ?_
            refine m_iload_n (j := 4) C dX12_setPart_94 rfl ?_
            refine m_ald (k := 6) C dX12_setPart_95 rfl rfl (by decide) (by omega) (by show _ < ((_ : Nat) : Int); simp only [mlen]; omega) (by decide) ?_
            refine hv2 (show 0 ≤ ah1 6 t.toNat ∧ ah1 6 t.toNat ≤ 5 from bn1.2 6 (t.toNat)) (show ah1 6 (t.toNat) = ab4 6 (t.toNat) from congrFun (fn1.2 6 rfl) (t.toNat)) (fun ra10 ae11 => ?_)
            refine m_st (st2 := [.int (iI (a 6 t.toNat))]) (congrArg (fun z => Value.int (iI z) :: []) (congrFun (fq5.2 6 rfl) (t.toNat))) ?_
            refine m_iconst C dX12_setPart_96 ?_
            refine m_icmp_gt (tgt := 159) C ⟨by omega, by omega⟩ ⟨by decide, by decide⟩ dX12_setPart_97 (by decide) (fun c6 => ?_) (fun c6 => ?_)
            · have rv6 : 0 ≤ vh1 25 ∧ vh1 25 ≤ 208 := bn1.1 25
              have ve3 : vh1 25 = vb4 25 := fn1.1 25 rfl
              refine m_lv (lv2 := [(6, .int (iI f1)), (5, .int (iI (ab1 20 x.toNat))), (4, .int (iI x)), (0, .ref h0), (1, .int (iI t)), (2, .int (iI q)), (3, .int (iI u))]) [0, 1, 2, 3, 4, 5, 6] rfl ?_
              exact J1  f1 _ _  bn1 fq5 (by omega) (by show vh1 25 ≤ 208; omega) (h7.nne hT (by omega) (by omega) (fn1.1 25 rfl) (fn1.2 24 rfl) (fn1.2 20 rfl) (fn1.2 26 rfl) (fnd.wd fpb4 rfl h7.1 tl1) (by omega) (by unfold isG; omega))
            · refine m_iload (j := 1) C dX12_setPart_100 rfl ?_
              refine m_callS (As := [.int (iI (ab1 20 x.toNat))]) (rest := []) C (fun L E => s_isGreat (iI (ab1 20 x.toNat))) dX12_setPart_102 kS_X12_205 rfl rfl (Nat.le_of_ble_eq_true rfl) ⟨Nat.le_of_ble_eq_true rfl, Nat.le_of_ble_eq_true rfl⟩ ⟨Nat.le_of_ble_eq_true rfl, Nat.le_of_ble_eq_true rfl⟩ ?_
              rcases inn_c (x := ab1 20 x.toNat) (lo := 65) (hi := 90) (r32_c (lo := (-2147483648)) (hi := 2147483647) ra1.1 ra1.2 (by decide) (by decide)) ⟨by decide, by decide⟩ ⟨by decide, by decide⟩ with ⟨h2a, h2b, h2e⟩ | ⟨h2a, h2e⟩
              · refine m_st (st2 := [.int (iI 1)]) (by rw [show inn (iI (ab1 20 x.toNat)) 65 90 = iI 1 from h2e]) ?_
                refine m_if_eq (tgt := 159) C ⟨by decide, by decide⟩ dX12_setPart_105 (by decide) (fun z => absurd z (by omega)) (fun _ => ?_)
                refine m_aload_n (j := 3) C dX12_setPart_108 rfl ?_
                refine m_geta (k := 16) C dX12_setPart_109 w6_75 (by decide) rfl ?_
                refine m_iconst C dX12_setPart_112 ?_
                refine m_iload_n (j := 4) C dX12_setPart_113 rfl ?_
                refine m_imul C dX12_setPart_114 ?_
                refine m_iconst C dX12_setPart_115 ?_
                refine m_iadd C dX12_setPart_116 ?_
                refine m_ald (k := 16) C dX12_setPart_117 rfl rfl (by decide) (by omega) (by show _ < ((_ : Nat) : Int); simp only [mlen]; omega) (by decide) ?_
                refine hv3 (show 0 ≤ ah1 16 ((4 * t) + 0).toNat ∧ ah1 16 ((4 * t) + 0).toNat ≤ 4 from bn1.2 16 (((4 * t) + 0).toNat)) (show ah1 16 (((4 * t) + 0).toNat) = ab4 16 (((4 * t) + 0).toNat) from congrFun (fn1.2 16 rfl) (((4 * t) + 0).toNat)) (show ab4 16 (((4 * t) + 0).toNat) = a 16 (((4 * t) + 0).toNat) from congrFun (fpb4.2 16 rfl) (((4 * t) + 0).toNat)) (fun ra11 ae12 ae13 => ?_)
                refine m_st (st2 := [.int (iI (a 16 ((4 * t) + 0).toNat))]) (congrArg (fun z => Value.int (iI z) :: []) (congrFun (fq5.2 16 rfl) (((4 * t) + 0).toNat))) ?_
                refine m_if_le (tgt := 159) C ⟨by omega, by omega⟩ dX12_setPart_118 (by decide) (fun c7 => ?_) (fun c7 => ?_)
                · have rv7 : 0 ≤ vh1 25 ∧ vh1 25 ≤ 208 := bn1.1 25
                  have ve4 : vh1 25 = vb4 25 := fn1.1 25 rfl
                  refine m_lv (lv2 := [(6, .int (iI f1)), (5, .int (iI (ab1 20 x.toNat))), (4, .int (iI x)), (0, .ref h0), (1, .int (iI t)), (2, .int (iI q)), (3, .int (iI u))]) [0, 1, 2, 3, 4, 5, 6] rfl ?_
                  exact J1  f1 _ _  bn1 fq5 (by omega) (by show vh1 25 ≤ 208; omega) (h7.nne hT (by omega) (by omega) (fn1.1 25 rfl) (fn1.2 24 rfl) (fn1.2 20 rfl) (fn1.2 26 rfl) (fnd.wd fpb4 rfl h7.1 tl1) (by omega) (by unfold isG; omega))
                · refine m_aload_n (j := 3) C dX12_setPart_121 rfl ?_
                  refine m_iload_n (j := 4) C dX12_setPart_122 rfl ?_
                  refine m_iconst C dX12_setPart_123 ?_
                  refine hv2 (show 0 ≤ vh1 25 ∧ vh1 25 ≤ 208 from bn1.1 25) (show vh1 25 = vb4 25 from fn1.1 25 rfl) (fun rv8 ve5 => ?_)
                  refine m_call (mc2 := 0) (ms2 := 0) (As := [.int (iI t), .int (iI 0)]) (rest := []) C (E_putIndicator (t := t) (w1 := 0) bn1 (by show 0 ≤ t ∧ t < 30; omega) (by show 0 ≤ (0 : Int) ∧ (0 : Int) ≤ 3; omega) (by show (vh1 25) ≤ 204; omega)) dX12_setPart_124 kV_X12_227 rfl ck_13 rfl (Nat.le_of_ble_eq_true rfl) ⟨Nat.le_of_ble_eq_true rfl, Nat.le_of_ble_eq_true rfl⟩ ⟨Nat.le_of_ble_eq_true rfl, Nat.le_of_ble_eq_true rfl⟩ (fun rh3 vh3 ah3 h3 => ?_)
                  obtain ⟨rfl, fn2, bn2, ex2⟩ := h3
                  have fq6 := fq5.call fn2 rfl rfl
                  obtain ⟨ex2, tl2⟩ := ex2
                  refine hv6 (show 0 ≤ vh3 25 ∧ vh3 25 ≤ 208 from bn2.1 25) (show (vh3 25) = (vh1 25) + ah1 16 (4 * t + (0 : Int)).toNat from ex2) (show 0 ≤ ah3 16 (4 * t + (0 : Int)).toNat ∧ ah3 16 (4 * t + (0 : Int)).toNat ≤ 4 from bn2.2 16 ((4 * t + (0 : Int)).toNat)) (show ah3 16 ((4 * t + (0 : Int)).toNat) = ah1 16 ((4 * t + (0 : Int)).toNat) from congrFun (fn2.2 16 rfl) ((4 * t + (0 : Int)).toNat)) (show ah1 16 ((4 * t + (0 : Int)).toNat) = ab4 16 ((4 * t + (0 : Int)).toNat) from congrFun (fn1.2 16 rfl) ((4 * t + (0 : Int)).toNat)) (show ab4 16 ((4 * t + (0 : Int)).toNat) = a 16 ((4 * t + (0 : Int)).toNat) from congrFun (fpb4.2 16 rfl) ((4 * t + (0 : Int)).toNat)) (fun rv9 gf2 ra12 ae14 ae15 ae16 => ?_)
                  refine m_st (st2 := []) rfl ?_
                  refine m_aload_n (j := 3) C dX12_setPart_127 rfl ?_
                  refine m_geta (k := 20) C dX12_setPart_128 w6_79 (by decide) rfl ?_
                  refine m_iload (j := 2) C dX12_setPart_131 rfl ?_
                  refine m_iload (j := 1) C dX12_setPart_133 rfl ?_
                  refine m_bipush (z := 32) C dX12_setPart_135 (by decide) ?_
                  refine m_iadd C dX12_setPart_137 ?_
                  refine m_ast (k := 20) C dX12_setPart_138 rfl rfl (by decide) (by omega) (by show _ < ((_ : Nat) : Int); simp only [mlen]; omega) (by decide) ?_
                  refine hv2 (show BX vh3 (up2 ah3 20 x.toNat ((ab1 20 x.toNat) + 32)) from bn2.set (k := 20) (i := x.toNat) (z := (ab1 20 x.toNat) + 32) (show (-2147483648) ≤ ((ab1 20 x.toNat) + 32) ∧ ((ab1 20 x.toNat) + 32) ≤ 2147483647 by omega)) (fq6.set (k := 20) (i := x.toNat) (z := (ab1 20 x.toNat) + 32) rfl) (fun bq5 fq7 => ?_)
                  refine m_aload_n (j := 3) C dX12_setPart_139 rfl ?_
                  refine m_iload_n (j := 4) C dX12_setPart_140 rfl ?_
                  refine m_iload_n (j := 5) C dX12_setPart_141 rfl ?_
                  refine m_iload_n (j := 6) C dX12_setPart_142 rfl ?_
                  refine m_iload (j := 2) C dX12_setPart_143 rfl ?_
                  refine hv5 (show 0 ≤ ah3 6 t.toNat ∧ ah3 6 t.toNat ≤ 5 from bq5.2 6 (t.toNat)) (show ah3 6 (t.toNat) = ah1 6 (t.toNat) from congrFun (fn2.2 6 rfl) (t.toNat)) (show 0 ≤ vh3 4 ∧ vh3 4 ≤ 30 from bq5.1 4) (show vh3 4 = vh1 4 from fn2.1 4 rfl) (show vh1 4 = vb4 4 from fn1.1 4 rfl) (fun ra13 ae17 rv10 ve6 ve7 => ?_)
                  refine m_call (mc2 := 0) (ms2 := 0) (As := [.int (iI t), .int (iI q), .int (iI u), .int (iI x)]) (rest := []) C (E_find (t := t) (q := q) (u := u) (x := x) bq5 (hT.fr fq7 rfl rfl) (by show 0 ≤ t ∧ t < vh3 4; omega) (by show ah3 6 t.toNat ≤ 4; omega) (by omega)) dX12_setPart_145 kV_X12_218 rfl ck_13 rfl (Nat.le_of_ble_eq_true rfl) ⟨Nat.le_of_ble_eq_true rfl, Nat.le_of_ble_eq_true rfl⟩ ⟨Nat.le_of_ble_eq_true rfl, Nat.le_of_ble_eq_true rfl⟩ (fun rh4 vh4 ah4 h4 => ?_)
                  obtain ⟨f3, rfl, fn3, bn3, ex3, tl3⟩ := h4
                  refine hv12 (fq7.call fn3 rfl rfl) (show f3 = -1 ∨ (0 ≤ f3 ∧ f3 < 6000 ∧ (1 ≤ ah3 12 f3.toNat ∧ ah3 12 f3.toNat ≤ 8) ∧ (1 ≤ ah3 13 f3.toNat ∧ ah3 13 f3.toNat ≤ 4) ∧ x + ah3 12 f3.toNat ≤ u) from ex3) (show 0 ≤ ah4 12 f3.toNat ∧ ah4 12 f3.toNat ≤ 8 from bn3.2 12 (f3.toNat)) (show ah4 12 (f3.toNat) = ah3 12 (f3.toNat) from congrFun (fn3.2 12 rfl) (f3.toNat)) (show ah3 12 (f3.toNat) = ah1 12 (f3.toNat) from congrFun (fn2.2 12 rfl) (f3.toNat)) (show ah1 12 (f3.toNat) = ab4 12 (f3.toNat) from congrFun (fn1.2 12 rfl) (f3.toNat)) (show ab4 12 (f3.toNat) = a 12 (f3.toNat) from congrFun (fpb4.2 12 rfl) (f3.toNat)) (show 0 ≤ ah4 13 f3.toNat ∧ ah4 13 f3.toNat ≤ 4 from bn3.2 13 (f3.toNat)) (show ah4 13 (f3.toNat) = ah3 13 (f3.toNat) from congrFun (fn3.2 13 rfl) (f3.toNat)) (show ah3 13 (f3.toNat) = ah1 13 (f3.toNat) from congrFun (fn2.2 13 rfl) (f3.toNat)) (show ah1 13 (f3.toNat) = ab4 13 (f3.toNat) from congrFun (fn1.2 13 rfl) (f3.toNat)) (show ab4 13 (f3.toNat) = a 13 (f3.toNat) from congrFun (fpb4.2 13 rfl) (f3.toNat)) (fun fq8 ef3 ra14 ae18 ae19 ae20 ae21 ra15 ae22 ae23 ae24 ae25 => ?_)
                  refine m_st (st2 := [.int (iI f3)]) rfl ?_
                  refine m_istore (lv2 := [(6, .int (iI f3)), (5, .int (iI (ab1 20 x.toNat))), (4, .int (iI x)), (0, .ref h0), (1, .int (iI t)), (2, .int (iI q)), (3, .int (iI u))]) C dX12_setPart_148 (by decide) rfl ?_
                  refine m_aload_n (j := 3) C dX12_setPart_150 rfl ?_
                  refine m_geta (k := 20) C dX12_setPart_151 w6_79 (by decide) rfl ?_
                  refine m_iload (j := 2) C dX12_setPart_154 rfl ?_
                  refine m_iload (j := 1) C dX12_setPart_156 rfl ?_
                  refine m_ast (k := 20) C dX12_setPart_158 rfl rfl (by decide) (by omega) (by show _ < ((_ : Nat) : Int); simp only [mlen]; omega) (by decide) ?_
                  refine hv3 (show BX vh4 (up2 ah4 20 x.toNat (ab1 20 x.toNat)) from bn3.set (k := 20) (i := x.toNat) (z := ab1 20 x.toNat) (show (-2147483648) ≤ (ab1 20 x.toNat) ∧ (ab1 20 x.toNat) ≤ 2147483647 by omega)) (fq8.set (k := 20) (i := x.toNat) (z := ab1 20 x.toNat) rfl) (show vh4 25 = vh3 25 from fn3.1 25 rfl) (fun bq6 fq9 ve8 => ?_)
                  have rv11 : 0 ≤ vh4 25 ∧ vh4 25 ≤ 208 := bq6.1 25
                  refine m_lv (lv2 := [(6, .int (iI f3)), (5, .int (iI (ab1 20 x.toNat))), (4, .int (iI x)), (0, .ref h0), (1, .int (iI t)), (2, .int (iI q)), (3, .int (iI u))]) [0, 1, 2, 3, 4, 5, 6] rfl ?_
                  exact J1  f3 _ _  bq6 fq9 (by omega) (by show vh4 25 ≤ 208; omega) (h7.cap hT (by omega) (by omega) (fun l hl => by have q1 := tl2 l (hl.fr (fn1.1 25 rfl) (fn1.2 24 rfl)); rw [ICL_cg (fq5.2 16 rfl) (fq5.2 17 rfl)] at q1; exact q1.fr (fn3.1 25 rfl) ((funext fun _ => up2_k (by decide)).trans ((fn3.2 24 rfl).trans (funext fun _ => up2_k (by decide))))) (upb ((fn3.2 20 rfl).trans (upw ((fn2.2 20 rfl).trans ((fn1.2 20 rfl).trans h7.1)))) (by omega)) ((funext fun _ => up2_k (by decide)).trans ((fn3.2 26 rfl).trans ((funext fun _ => up2_k (by decide)).trans ((fn2.2 26 rfl).trans (fn1.2 26 rfl))))) (fnd.wd fpb4 rfl h7.1 tl1) (by omega) ⟨by omega, (by unfold isG; omega), by omega⟩ (fnd.wd fq7 rfl ((upw ((fn2.2 20 rfl).trans ((fn1.2 20 rfl).trans h7.1))).trans (congrArg (va_up (a 20) x.toNat) (show (ab1 20 x.toNat) + 32 = a 20 x.toNat + 32 by omega))) tl3))
              · refine m_st (st2 := [.int (iI 0)]) (by rw [show inn (iI (ab1 20 x.toNat)) 65 90 = iI 0 from h2e]) ?_
                refine m_if_eq (tgt := 159) C ⟨by decide, by decide⟩ dX12_setPart_105 (by decide) (fun _ => ?_) (fun z => absurd z (by omega))
                refine hv2 (show 0 ≤ vh1 25 ∧ vh1 25 ≤ 208 from bn1.1 25) (show vh1 25 = vb4 25 from fn1.1 25 rfl) (fun rv12 ve9 => ?_)
                refine m_lv (lv2 := [(6, .int (iI f1)), (5, .int (iI (ab1 20 x.toNat))), (4, .int (iI x)), (0, .ref h0), (1, .int (iI t)), (2, .int (iI q)), (3, .int (iI u))]) [0, 1, 2, 3, 4, 5, 6] rfl ?_
                exact J1  f1 _ _  bn1 fq5 (by omega) (by show vh1 25 ≤ 208; omega) (h7.nne hT (by omega) (by omega) (fn1.1 25 rfl) (fn1.2 24 rfl) (fn1.2 20 rfl) (fn1.2 26 rfl) (fnd.wd fpb4 rfl h7.1 tl1) (by omega) (by unfold isG; omega))
        refine m_aload_n (j := 2) C dX12_setPart_18 rfl ?_
        refine m_geta (k := 26) C dX12_setPart_19 w6_85 (by decide) rfl ?_
        refine m_iload (j := 1) C dX12_setPart_22 rfl ?_
        refine m_aload_n (j := 2) C dX12_setPart_24 rfl ?_
        have rv13 : 0 ≤ vb1 25 ∧ vb1 25 ≤ 208 := bxb1.1 25
        refine m_get (k := 25) C dX12_setPart_25 w6_84 (by decide) rfl ?_
        refine m_ast (k := 26) C dX12_setPart_28 rfl rfl (by decide) (by omega) (by show _ < ((_ : Nat) : Int); simp only [mlen]; omega) (by decide) ?_
        refine hv2 (show BX vb1 (up2 ab1 26 x.toNat (vb1 25)) from bxb1.set (k := 26) (i := x.toNat) (z := vb1 25) (show (-1) ≤ (vb1 25) ∧ (vb1 25) ≤ 208 by omega)) (fpb1.set (k := 26) (i := x.toNat) (z := vb1 25) rfl) (fun bq7 fq10 => ?_)
        refine m_aload_n (j := 2) C dX12_setPart_29 rfl ?_
        refine m_geta (k := 6) C dX12_setPart_30 w6_65 (by decide) rfl ?_
        refine m_iload_n (j := 3) C dX12_setPart_33 rfl ?_
        refine m_ald (k := 6) C dX12_setPart_34 rfl rfl (by decide) (by omega) (by show _ < ((_ : Nat) : Int); simp only [mlen]; omega) (by decide) ?_
        refine hv2 (show 0 ≤ ab1 6 t.toNat ∧ ab1 6 t.toNat ≤ 5 from bq7.2 6 (t.toNat)) (show ab1 6 (t.toNat) = a 6 (t.toNat) from congrFun (fpb1.2 6 rfl) (t.toNat)) (fun ra16 ae26 => ?_)
        refine m_st (st2 := [.int (iI (a 6 t.toNat))]) (congrArg (fun z => Value.int (iI z) :: []) (congrFun (fq10.2 6 rfl) (t.toNat))) ?_
        refine m_iconst C dX12_setPart_35 ?_
        refine m_icmp_ne (tgt := 74) C ⟨by omega, by omega⟩ ⟨by decide, by decide⟩ dX12_setPart_36 (by decide) (fun c8 => ?_) (fun c8 => ?_)
        · refine m_lv (lv2 := [(5, .int (iI (ab1 20 x.toNat))), (4, .int (iI x)), (0, .ref h0), (1, .int (iI t)), (2, .int (iI q)), (3, .int (iI u))]) [0, 1, 2, 3, 4, 5] rfl ?_
          exact J2   _ _  bq7 fq10 (by show vb1 25 ≤ 204; omega) (hI.begin rfl (funext fun _ => up2_k (by decide)) (funext fun _ => up2_k (by decide)) (fun i => by unfold up2; rw [if_pos rfl]) (by unfold nbl isD; rw [if_neg (by omega)]))
        · refine m_iload (j := 0) C dX12_setPart_39 rfl ?_
          refine m_callS (As := [.int (iI (ab1 20 x.toNat))]) (rest := []) C (fun L E => s_isDigit (iI (ab1 20 x.toNat))) dX12_setPart_41 kS_X12_202 rfl rfl (Nat.le_of_ble_eq_true rfl) ⟨Nat.le_of_ble_eq_true rfl, Nat.le_of_ble_eq_true rfl⟩ ⟨Nat.le_of_ble_eq_true rfl, Nat.le_of_ble_eq_true rfl⟩ ?_
          rcases inn_c (x := ab1 20 x.toNat) (lo := 48) (hi := 57) (r32_c (lo := (-2147483648)) (hi := 2147483647) ra1.1 ra1.2 (by decide) (by decide)) ⟨by decide, by decide⟩ ⟨by decide, by decide⟩ with ⟨h5a, h5b, h5e⟩ | ⟨h5a, h5e⟩
          · refine m_st (st2 := [.int (iI 1)]) (by rw [show inn (iI (ab1 20 x.toNat)) 48 57 = iI 1 from h5e]) ?_
            refine m_if_eq (tgt := 74) C ⟨by decide, by decide⟩ dX12_setPart_44 (by decide) (fun z => absurd z (by omega)) (fun _ => ?_)
            refine m_iload (j := 1) C dX12_setPart_47 rfl ?_
            refine m_iload_n (j := 4) C dX12_setPart_49 rfl ?_
            refine m_icmp_eq (tgt := 68) C ⟨by omega, by omega⟩ ⟨by omega, by omega⟩ dX12_setPart_50 (by decide) (fun c9 => ?_) (fun c9 => ?_)
            · refine m_aload_n (j := 2) C dX12_setPart_68 rfl ?_
              refine m_iload_n (j := 3) C dX12_setPart_69 rfl ?_
              refine m_iconst C dX12_setPart_70 ?_
              refine m_call (mc2 := 0) (ms2 := 0) (As := [.int (iI t), .int (iI 1)]) (rest := []) C (E_putIndicator (t := t) (w1 := 1) bq7 (by show 0 ≤ t ∧ t < 30; omega) (by show 0 ≤ (1 : Int) ∧ (1 : Int) ≤ 3; omega) (by show (vb1 25) ≤ 204; omega)) dX12_setPart_71 kV_X12_227 rfl ck_13 rfl (Nat.le_of_ble_eq_true rfl) ⟨Nat.le_of_ble_eq_true rfl, Nat.le_of_ble_eq_true rfl⟩ ⟨Nat.le_of_ble_eq_true rfl, Nat.le_of_ble_eq_true rfl⟩ (fun rh6 vh6 ah6 h6 => ?_)
              obtain ⟨rfl, fn4, bn4, ex4⟩ := h6
              have fq11 := fq10.call fn4 rfl rfl
              obtain ⟨ex4, tl4⟩ := ex4
              refine hv5 (show 0 ≤ vh6 25 ∧ vh6 25 ≤ 208 from bn4.1 25) (show (vh6 25) = (vb1 25) + ab1 16 (4 * t + (1 : Int)).toNat from ex4) (show 0 ≤ ah6 16 (4 * t + (1 : Int)).toNat ∧ ah6 16 (4 * t + (1 : Int)).toNat ≤ 4 from bn4.2 16 ((4 * t + (1 : Int)).toNat)) (show ah6 16 ((4 * t + (1 : Int)).toNat) = ab1 16 ((4 * t + (1 : Int)).toNat) from congrFun (fn4.2 16 rfl) ((4 * t + (1 : Int)).toNat)) (show ab1 16 ((4 * t + (1 : Int)).toNat) = a 16 ((4 * t + (1 : Int)).toNat) from congrFun (fpb1.2 16 rfl) ((4 * t + (1 : Int)).toNat)) (fun rv14 gf4 ra17 ae27 ae28 => ?_)
              refine m_st (st2 := []) rfl ?_
              refine m_lv (lv2 := [(5, .int (iI (ab1 20 x.toNat))), (4, .int (iI x)), (0, .ref h0), (1, .int (iI t)), (2, .int (iI q)), (3, .int (iI u))]) [0, 1, 2, 3, 4, 5] rfl ?_
              exact J2   _ _  bn4 fq11 (by show vh6 25 ≤ 204; omega) (hI.num (funext fun _ => up2_k (by decide)) tl4 (fq10.2 16 rfl) (fq10.2 17 rfl) ((fn4.2 20 rfl).trans (funext fun _ => up2_k (by decide))) (fun i => by rw [fn4.2 26 rfl]; unfold up2; rw [if_pos rfl]) (by unfold nbl isD; rw [if_pos (by omega)]))
            · refine m_aload_n (j := 2) C dX12_setPart_53 rfl ?_
              refine m_geta (k := 20) C dX12_setPart_54 w6_79 (by decide) rfl ?_
              refine m_iload (j := 1) C dX12_setPart_57 rfl ?_
              refine m_iconst C dX12_setPart_59 ?_
              refine m_isub C dX12_setPart_60 ?_
              refine m_ald (k := 20) C dX12_setPart_61 rfl rfl (by decide) (by omega) (by show _ < ((_ : Nat) : Int); simp only [mlen]; omega) (by decide) ?_
              have ra18 : (-2147483648) ≤ ab1 20 (x - 1).toNat ∧ ab1 20 (x - 1).toNat ≤ 2147483647 := bq7.2 20 ((x - 1).toNat)
              refine m_st (st2 := [.int (iI (ab1 20 (x - 1).toNat))]) rfl ?_
              refine m_callS (As := [.int (iI (ab1 20 (x - 1).toNat))]) (rest := []) C (fun L E => s_isDigit (iI (ab1 20 (x - 1).toNat))) dX12_setPart_62 kS_X12_202 rfl rfl (Nat.le_of_ble_eq_true rfl) ⟨Nat.le_of_ble_eq_true rfl, Nat.le_of_ble_eq_true rfl⟩ ⟨Nat.le_of_ble_eq_true rfl, Nat.le_of_ble_eq_true rfl⟩ ?_
              rcases inn_c (x := ab1 20 (x - 1).toNat) (lo := 48) (hi := 57) (r32_c (lo := (-2147483648)) (hi := 2147483647) ra18.1 ra18.2 (by decide) (by decide)) ⟨by decide, by decide⟩ ⟨by decide, by decide⟩ with ⟨h8a, h8b, h8e⟩ | ⟨h8a, h8e⟩
              · refine m_st (st2 := [.int (iI 1)]) (by rw [show inn (iI (ab1 20 (x - 1).toNat)) 48 57 = iI 1 from h8e]) ?_
                refine m_if_ne (tgt := 74) C ⟨by decide, by decide⟩ dX12_setPart_65 (by decide) (fun _ => ?_) (fun z => absurd z (by omega))
                refine m_lv (lv2 := [(5, .int (iI (ab1 20 x.toNat))), (4, .int (iI x)), (0, .ref h0), (1, .int (iI t)), (2, .int (iI q)), (3, .int (iI u))]) [0, 1, 2, 3, 4, 5] rfl ?_
                exact J2   _ _  bq7 fq10 (by show vb1 25 ≤ 204; omega) (hI.begin rfl (funext fun _ => up2_k (by decide)) (funext fun _ => up2_k (by decide)) (fun i => by unfold up2; rw [if_pos rfl]) (by unfold nbl isD; rw [if_neg (by omega)]))
              · refine m_st (st2 := [.int (iI 0)]) (by rw [show inn (iI (ab1 20 (x - 1).toNat)) 48 57 = iI 0 from h8e]) ?_
                refine m_if_ne (tgt := 74) C ⟨by decide, by decide⟩ dX12_setPart_65 (by decide) (fun z => absurd z (by omega)) (fun _ => ?_)
                refine m_aload_n (j := 2) C dX12_setPart_68 rfl ?_
                refine m_iload_n (j := 3) C dX12_setPart_69 rfl ?_
                refine m_iconst C dX12_setPart_70 ?_
                refine m_call (mc2 := 0) (ms2 := 0) (As := [.int (iI t), .int (iI 1)]) (rest := []) C (E_putIndicator (t := t) (w1 := 1) bq7 (by show 0 ≤ t ∧ t < 30; omega) (by show 0 ≤ (1 : Int) ∧ (1 : Int) ≤ 3; omega) (by show (vb1 25) ≤ 204; omega)) dX12_setPart_71 kV_X12_227 rfl ck_13 rfl (Nat.le_of_ble_eq_true rfl) ⟨Nat.le_of_ble_eq_true rfl, Nat.le_of_ble_eq_true rfl⟩ ⟨Nat.le_of_ble_eq_true rfl, Nat.le_of_ble_eq_true rfl⟩ (fun rh9 vh9 ah9 h9 => ?_)
                obtain ⟨rfl, fn5, bn5, ex5⟩ := h9
                have fq12 := fq10.call fn5 rfl rfl
                obtain ⟨ex5, tl5⟩ := ex5
                refine hv5 (show 0 ≤ vh9 25 ∧ vh9 25 ≤ 208 from bn5.1 25) (show (vh9 25) = (vb1 25) + ab1 16 (4 * t + (1 : Int)).toNat from ex5) (show 0 ≤ ah9 16 (4 * t + (1 : Int)).toNat ∧ ah9 16 (4 * t + (1 : Int)).toNat ≤ 4 from bn5.2 16 ((4 * t + (1 : Int)).toNat)) (show ah9 16 ((4 * t + (1 : Int)).toNat) = ab1 16 ((4 * t + (1 : Int)).toNat) from congrFun (fn5.2 16 rfl) ((4 * t + (1 : Int)).toNat)) (show ab1 16 ((4 * t + (1 : Int)).toNat) = a 16 ((4 * t + (1 : Int)).toNat) from congrFun (fpb1.2 16 rfl) ((4 * t + (1 : Int)).toNat)) (fun rv15 gf5 ra19 ae29 ae30 => ?_)
                refine m_st (st2 := []) rfl ?_
                refine m_lv (lv2 := [(5, .int (iI (ab1 20 x.toNat))), (4, .int (iI x)), (0, .ref h0), (1, .int (iI t)), (2, .int (iI q)), (3, .int (iI u))]) [0, 1, 2, 3, 4, 5] rfl ?_
                exact J2   _ _  bn5 fq12 (by show vh9 25 ≤ 204; omega) (hI.num (funext fun _ => up2_k (by decide)) tl5 (fq10.2 16 rfl) (fq10.2 17 rfl) ((fn5.2 20 rfl).trans (funext fun _ => up2_k (by decide))) (fun i => by rw [fn5.2 26 rfl]; unfold up2; rw [if_pos rfl]) (by unfold nbl isD; rw [if_pos (by omega)]))
          · refine m_st (st2 := [.int (iI 0)]) (by rw [show inn (iI (ab1 20 x.toNat)) 48 57 = iI 0 from h5e]) ?_
            refine m_if_eq (tgt := 74) C ⟨by decide, by decide⟩ dX12_setPart_44 (by decide) (fun _ => ?_) (fun z => absurd z (by omega))
            refine m_lv (lv2 := [(5, .int (iI (ab1 20 x.toNat))), (4, .int (iI x)), (0, .ref h0), (1, .int (iI t)), (2, .int (iI q)), (3, .int (iI u))]) [0, 1, 2, 3, 4, 5] rfl ?_
            exact J2   _ _  bq7 fq10 (by show vb1 25 ≤ 204; omega) (hI.begin rfl (funext fun _ => up2_k (by decide)) (funext fun _ => up2_k (by decide)) (fun i => by unfold up2; rw [if_pos rfl]) (by unfold nbl isD; rw [if_neg (by omega)]))
  have rv16 : 0 ≤ v 25 ∧ v 25 ≤ 208 := hB.1 25
  refine m_lv (lv2 := [(4, .int (iI q)), (0, .ref h0), (1, .int (iI t)), (2, .int (iI q)), (3, .int (iI u))]) [0, 1, 2, 3, 4] rfl ?_
  exact Lp1 502 q _ _ (by omega) hB fp0 (by omega) (by show (v 25) ≤ 200; omega) SP3.init
end
section
def sgj (g : Int) : Int := if g = 1 then 62 else 60
def prt (a : Nat → Nat → Int) (t g : Int) : Int := if g = 1 then a 9 t.toNat else a 8 t.toNat
def ind4 (t g : Int) : Int := if g = 1 then 4 * t + 3 else 4 * t + 2
def NSG (W : Nat → Int) (c x y : Int) : Prop := ∀ j : Int, x ≤ j → j < y → W j.toNat ≠ c
def SEG (a : Nat → Nat → Int) (W : Nat → Int) (n t g x y : Int) (ps : List (Int × List Int)) : Prop := (x ≤ y ∧ y ≤ n) ∧ NSG W (sgj g) x y ∧ (y = n ∨ W y.toNat = sgj g) ∧ ∃ z, ptp a W (prt a t g) x y x ps z ∧ y ≤ z
def jtp (a : Nat → Nat → Int) (W : Nat → Int) (n t : Int) : Int → Int → List (Int × List (Int × List Int)) → Int → Int → Prop
  | g, x, [], g2, x2 => g = g2 ∧ x = x2
  | g, x, p :: js, g2, x2 => SEG a W n t g x p.1 p.2 ∧ p.1 < n ∧ 0 < a 16 (ind4 t g).toNat ∧ jtp a W n t (1 - g) (p.1 + 1) js g2 x2
def jcl (a : Nat → Nat → Int) (t : Int) : Int → List (Int × List (Int × List Int)) → List Int
  | _, [] => []
  | g, p :: js => (cls p.2 ++ ICL a (ind4 t g)) ++ jcl a t (1 - g) js
def SWC (a : Nat → Nat → Int) (W : Nat → Int) (n t : Int) (cs : List Int) : Prop := (a 6 t.toNat ≠ 5 ∧ ∃ ps, SPS a W t 0 n 0 ps ∧ cs = cls ps) ∨ (a 6 t.toNat = 5 ∧ cs.length ≤ 200 ∧ ∃ js ps g x, jtp a W n t 0 0 js g x ∧ SEG a W n t g x n ps ∧ cs = jcl a t 0 js ++ cls ps)
def SWT (v : Nat → Int) (a : Nat → Nat → Int) (v2 : Nat → Int) (a2 : Nat → Nat → Int) (t f : Int) : Prop := a2 20 = a 20 ∧ (f = 1 → ∃ cs, SWC a (a 20) (v 23) t cs ∧ MDH v2 a2 cs) ∧ (f ≠ 1 → ¬ ∃ cs, SWC a (a 20) (v 23) t cs)
def SWB (v : Nat → Int) (a : Nat → Nat → Int) (v2 : Nat → Int) (a2 : Nat → Nat → Int) (t f : Int) : Prop := f = 1 → a 6 t.toNat ≠ 5 → ∃ ps, SPS a (a 20) t 0 (v 23) 0 ps ∧ MDH v2 a2 (cls ps) ∧ ∀ j : Nat, ((j : Nat) : Int) < v 23 → a2 26 j = bgn ps 0 j (-1)
def JW (v : Nat → Int) (a : Nat → Nat → Int) (v2 : Nat → Int) (a2 : Nat → Nat → Int) (t g x : Int) : Prop := a2 20 = a 20 ∧ ∃ js, jtp a (a 20) (v 23) t 0 0 js g x ∧ MDH v2 a2 (jcl a t 0 js)
section WORD
variable {v v1 v2 v3 : Nat → Int} {V1 A1 : List Nat} {a a1 a2 a3 : Nat → Nat → Int} {W : Nat → Int} {q u x y z t r k f I c g g2 x2 n l m : Int} {cs ds l0 : List Int} {ps qs : List (Int × List Int)} {js : List (Int × List (Int × List Int))}
theorem RCL_cg (h13 : a1 13 = a 13) (h15 : a1 15 = a 15) : RCL a1 r = RCL a r := by unfold RCL; rw [h13, h15]
theorem nbl_cg (h6 : a1 6 = a 6) (h16 : a1 16 = a 16) (h17 : a1 17 = a 17) : nbl a1 W t q x = nbl a W t q x := by unfold nbl; rw [h6, ICL_cg h16 h17]
def TBE (a1 a : Nat → Nat → Int) : Prop := ∀ j, j ∈ ([6, 8, 9, 10, 11, 12, 13, 14, 15, 16, 17] : List Nat) → a1 j = a j
theorem TBE.fr {A1 : List Nat} (f1 : fr V1 A1 v a v1 a1) (hA : ([6, 8, 9, 10, 11, 12, 13, 14, 15, 16, 17] : List Nat).all (fun j => !A1.contains j) = true) : TBE a1 a := fun j hj => f1.2 j (by have := List.all_eq_true.mp hA j hj; simpa using this)
theorem TBE.symm (h : TBE a1 a) : TBE a a1 := fun j hj => (h j hj).symm
theorem PC1_cg (h : TBE a1 a) (hp : PC1 a1 W t q u x l cs) : PC1 a W t q u x l cs := by
  have g6 := h 6 (by decide); have g8 := h 8 (by decide); have g10 := h 10 (by decide); have g11 := h 11 (by decide); have g12 := h 12 (by decide); have g13 := h 13 (by decide); have g14 := h 14 (by decide); have g15 := h 15 (by decide); have g16 := h 16 (by decide); have g17 := h 17 (by decide)
  obtain ⟨r, ⟨p1, p2⟩, p3⟩ := hp
  rw [g12] at p2
  refine ⟨r, ⟨p1, p2⟩, ?_⟩
  rcases p3 with ⟨p4, p5⟩ | ⟨p4, p5, p6, p7⟩
  · rw [nbl_cg g6 g16 g17, RCL_cg g13 g15] at p5
    exact Or.inl ⟨fnd_cg g6 g8 g10 g11 g12 g14 _ _ _ _ p4, p5⟩
  · rw [nbl_cg g6 g16 g17, RCL_cg g13 g15, ICL_cg g16 g17] at p7
    rw [g6, g16] at p5
    exact Or.inr ⟨fnd_cg g6 g8 g10 g11 g12 g14 _ _ _ _ p4, p5, fnd_cg g6 g8 g10 g11 g12 g14 _ _ _ _ p6, p7⟩
theorem ptp_cg (h : TBE a1 a) : ∀ (ps : List (Int × List Int)) (x y : Int), ptp a1 W t q u x ps y → ptp a W t q u x ps y := by
  intro ps
  induction ps with
  | nil => intro x y e; exact e
  | cons p ps ih =>
    intro x y e
    obtain ⟨h1, h2, l, h3, h4⟩ := e
    exact ⟨h1, h2, l, PC1_cg h h3, ih _ _ h4⟩
theorem SPS_cg (h : TBE a1 a) (hp : SPS a1 W t q u m ps) : SPS a W t q u m ps := by
  obtain ⟨⟨y, h1, h2⟩, h3⟩ := hp
  exact ⟨⟨y, ptp_cg h _ _ _ h1, h2⟩, h3⟩
theorem SPT.use (h : SPT v1 a1 v2 a2 t q u f) (hE : TBE a1 a) (hw : a1 20 = W) (hl : MDH v1 a1 l0) : a2 20 = W ∧ (f = 1 → ∃ ps, SPS a W t q u l0.length ps ∧ MDH v2 a2 (l0 ++ cls ps)) ∧ (f ≠ 1 → ¬ ∃ ps, SPS a W t q u l0.length ps) := by
  obtain ⟨h1, h2⟩ := h
  obtain ⟨p1, p2⟩ := h2 l0 hl
  rw [hw] at p1 p2
  refine ⟨h1.trans hw, fun e => ?_, fun e w => p2 e ?_⟩
  · obtain ⟨ps, g1, g2⟩ := p1 e
    exact ⟨ps, SPS_cg hE g1, g2.1⟩
  · obtain ⟨ps, g1⟩ := w
    exact ⟨ps, SPS_cg hE.symm g1⟩
theorem ptp.uni (hT : TBL v a) (h0 : 0 ≤ t) (h4 : t < v 4) (h : ptp a W t q u x ps y) (hy : u ≤ y) (h2 : ptp a W t q u x qs z) (hz : u ≤ z) : ps = qs := by
  obtain ⟨rs, k1, k2⟩ := ptp.ext hT h0 h4 ps qs x z h h2 hz
  cases rs with
  | nil => rw [k1, List.append_nil]
  | cons p rs => have := k2.1; omega
theorem SEG.uni {y2 : Int} (hT : TBL v a) (h0 : 0 ≤ prt a t g) (h4 : prt a t g < v 4) (h : SEG a W n t g x y ps) (h2 : SEG a W n t g x y2 qs) : y = y2 ∧ ps = qs := by
  obtain ⟨⟨p1, p2⟩, p3, p4, z, p5, p6⟩ := h
  obtain ⟨⟨q1, q2⟩, q3, q4, z2, q5, q6⟩ := h2
  have e : y = y2 := by
    by_cases c : y < y2
    · rcases p4 with p4 | p4
      · omega
      · exact absurd p4 (q3 y p1 c)
    · by_cases c2 : y2 < y
      · rcases q4 with q4 | q4
        · omega
        · exact absurd q4 (p3 y2 q1 c2)
      · omega
  subst e
  exact ⟨rfl, ptp.uni hT h0 h4 p5 p6 q5 q6⟩
theorem prt.ok (hT : TBL v a) (ht : 0 ≤ t ∧ t < v 4) (h5 : a 6 t.toNat = 5) : (0 ≤ prt a t g ∧ prt a t g < v 4) ∧ a 6 (prt a t g).toNat ≤ 3 := by
  have h := hT.1 t ht.1 ht.2
  unfold prt
  split <;> omega
theorem jtp.snoc : ∀ (js : List (Int × List (Int × List Int))) (g0 x0 : Int), jtp a W n t g0 x0 js g x → SEG a W n t g x y ps → y < n → 0 < a 16 (ind4 t g).toNat → jtp a W n t g0 x0 (js ++ [(y, ps)]) (1 - g) (y + 1) := by
  intro js
  induction js with
  | nil => intro g0 x0 h h1 h2 h3; obtain ⟨rfl, rfl⟩ := h; exact ⟨h1, h2, h3, rfl, rfl⟩
  | cons p js ih =>
    intro g0 x0 h h1 h2 h3
    obtain ⟨k1, k2, k3, k4⟩ := h
    exact ⟨k1, k2, k3, ih _ _ k4 h1 h2 h3⟩
theorem jcl.snoc (hg : g = 0 ∨ g = 1) : ∀ (js : List (Int × List (Int × List Int))) (g0 x0 : Int), jtp a W n t g0 x0 js g x → jcl a t g0 (js ++ [(y, ps)]) = jcl a t g0 js ++ (cls ps ++ ICL a (ind4 t g)) := by
  intro js
  induction js with
  | nil => intro g0 x0 h; obtain ⟨rfl, rfl⟩ := h; show (cls ps ++ ICL a (ind4 t g0)) ++ [] = [] ++ _; rw [List.append_nil, List.nil_append]
  | cons p js ih =>
    intro g0 x0 h
    obtain ⟨k1, k2, k3, k4⟩ := h
    show (cls p.2 ++ ICL a (ind4 t g0)) ++ jcl a t (1 - g0) (js ++ [(y, ps)]) = ((cls p.2 ++ ICL a (ind4 t g0)) ++ jcl a t (1 - g0) js) ++ _
    rw [ih _ _ k4]
    exact (List.append_assoc _ _ _).symm
theorem jtp.ext (hT : TBL v a) (ht : 0 ≤ t ∧ t < v 4) (h5 : a 6 t.toNat = 5) : ∀ (js ks : List (Int × List (Int × List Int))) (g0 x0 g2 x2 : Int) (qs : List (Int × List Int)), jtp a W n t g0 x0 js g x → jtp a W n t g0 x0 ks g2 x2 → SEG a W n t g2 x2 n qs → ∃ ls, ks = js ++ ls ∧ jtp a W n t g x ls g2 x2 := by
  intro js
  induction js with
  | nil => intro ks g0 x0 g2 x2 qs h h2 _; obtain ⟨rfl, rfl⟩ := h; exact ⟨ks, rfl, h2⟩
  | cons p js ih =>
    intro ks g0 x0 g2 x2 qs h h2 hs
    obtain ⟨k1, k2, k3, k4⟩ := h
    have pk := prt.ok (g := g0) hT ht h5
    cases ks with
    | nil =>
      obtain ⟨rfl, rfl⟩ := h2
      have e := SEG.uni hT pk.1.1 pk.1.2 k1 hs
      omega
    | cons p2 ks =>
      obtain ⟨m1, m2, m3, m4⟩ := h2
      have e := SEG.uni hT pk.1.1 pk.1.2 k1 m1
      have e2 : p2 = p := Prod.ext e.1.symm e.2.symm
      subst e2
      obtain ⟨ls, w1, w2⟩ := ih ks _ _ g2 x2 qs k4 m4 hs
      exact ⟨ls, by rw [w1]; rfl, w2⟩
theorem jcl.app : ∀ (js ls : List (Int × List (Int × List Int))) (g0 x0 : Int), jtp a W n t g0 x0 js g x → jcl a t g0 (js ++ ls) = jcl a t g0 js ++ jcl a t g ls := by
  intro js
  induction js with
  | nil => intro ls g0 x0 h; obtain ⟨rfl, rfl⟩ := h; rfl
  | cons p js ih =>
    intro ls g0 x0 h
    obtain ⟨k1, k2, k3, k4⟩ := h
    show (cls p.2 ++ ICL a (ind4 t g0)) ++ jcl a t (1 - g0) (js ++ ls) = ((cls p.2 ++ ICL a (ind4 t g0)) ++ jcl a t (1 - g0) js) ++ _
    rw [ih _ _ _ k4]
    exact (List.append_assoc _ _ _).symm
theorem NSG.zero : NSG W c x x := fun j h1 h2 => absurd h1 (by omega)
theorem NSG.step (h : NSG W c x y) (e : W y.toNat ≠ c) : NSG W c x (y + 1) := fun j h1 h2 => by
  by_cases w : j < y
  · exact h j h1 w
  · rw [show j = y by omega]; exact e
theorem SWT.plain (h5 : a 6 t.toNat ≠ 5) (hE : TBE a1 a) (hw : a1 20 = a 20) (hl : MDH v1 a1 []) (hn : n = v 23) (h : SPT v1 a1 v2 a2 t 0 n f) : SWT v a v2 a2 t f := by
  obtain ⟨p1, p2, p3⟩ := h.use hE hw hl
  subst hn
  refine ⟨p1, fun e => ?_, fun e w => p3 e ?_⟩
  · obtain ⟨ps, g1, g2⟩ := p2 e
    exact ⟨cls ps, Or.inl ⟨h5, ps, g1, rfl⟩, g2⟩
  · obtain ⟨cs, w⟩ := w
    rcases w with ⟨_, ps, w1, _⟩ | ⟨w1, _⟩
    · exact ⟨ps, w1⟩
    · exact absurd w1 h5
theorem SWB.plain {k : Int} (hE : TBE a1 a) (hw : a1 20 = a 20) (hl : MDH v1 a1 []) (hn : n = v 23) (h : SPT v1 a1 v2 a2 t 0 n f) (h26 : ∀ j : Nat, ((j : Nat) : Int) < k → a1 26 j = -1) (hk : v 23 < k) : SWB v a v2 a2 t f := fun e _ => by
  subst hn
  obtain ⟨ps, g1, g2, g3⟩ := (h.2 [] hl).1 e
  rw [hw] at g1
  exact ⟨ps, SPS_cg hE g1, g2, fun j hj => (g3 j).trans (congrArg (bgn ps 0 j) (h26 j (by omega)))⟩
theorem JW.init (h5 : a 6 t.toNat = 5) (hw : a1 20 = a 20) (h25 : v1 25 = 0) : JW v a v1 a1 t 0 0 := ⟨hw, [], ⟨rfl, rfl⟩, h25, fun j d e => by
  have e2 : ([] : List Int)[j]? = some d := e
  simp at e2⟩
theorem JW.fail (h : JW v a v1 a1 t g x) (hT : TBL v a) (ht : 0 ≤ t ∧ t < v 4) (h5 : a 6 t.toNat = 5) (hw2 : a2 20 = a 20) (hno : ∀ js, jtp a (a 20) (v 23) t 0 0 js g x → MDH v1 a1 (jcl a t 0 js) → ∀ ls qs g2 x2, jtp a (a 20) (v 23) t g x ls g2 x2 → SEG a (a 20) (v 23) t g2 x2 (v 23) qs → ((jcl a t 0 js).length : Int) + (jcl a t g ls ++ cls qs).length ≤ 200 → False) : SWT v a v2 a2 t 0 := by
  refine ⟨hw2, fun e => absurd e (by decide), fun _ w => ?_⟩
  obtain ⟨_, js, g1, g2⟩ := h
  obtain ⟨cs, w⟩ := w
  rcases w with ⟨w, _⟩ | ⟨_, w1, ks, qs, g3, x3, w2, w3, w4⟩
  · exact w h5
  · obtain ⟨ls, k1, k2⟩ := jtp.ext hT ht h5 js ks 0 0 g3 x3 qs g1 w2 w3
    refine hno js g1 g2 ls qs g3 x3 k2 w3 ?_
    rw [k1, jcl.app js ls 0 0 g1, List.append_assoc] at w4
    rw [w4, List.length_append] at w1
    omega
theorem seg_len {ls : List (Int × List (Int × List Int))} {g3 x3 : Int} (hT : TBL v a) (ht : 0 ≤ t ∧ t < v 4) (h5 : a 6 t.toNat = 5) (hj : jtp a W n t g x ls g3 x3) (hs : SEG a W n t g3 x3 n qs) (hy : x ≤ y ∧ y ≤ n) (hN : NSG W (sgj g) x y) (he : y = n ∨ W y.toNat = sgj g) : ∃ ps z, (ptp a W (prt a t g) x y x ps z ∧ y ≤ z) ∧ ((cls ps).length ≤ (jcl a t g ls ++ cls qs).length) ∧ (y = n ∨ (y < n ∧ 0 < a 16 (ind4 t g).toNat ∧ (cls ps ++ ICL a (ind4 t g)).length ≤ (jcl a t g ls ++ cls qs).length)) := by
  cases ls with
  | nil =>
    obtain ⟨rfl, rfl⟩ := hj
    obtain ⟨⟨p1, p2⟩, p3, p4, z, p5, p6⟩ := hs
    have e : y = n := by
      rcases he with he | he
      · exact he
      · by_cases c : y < n
        · exact absurd he (p3 y hy.1 c)
        · omega
    subst e
    exact ⟨qs, z, ⟨p5, p6⟩, Nat.le_refl _, Or.inl rfl⟩
  | cons p ls =>
    obtain ⟨m1, m2, m3, m4⟩ := hj
    obtain ⟨⟨p1, p2⟩, p3, p4, z, p5, p6⟩ := m1
    have e : p.1 = y := by
      by_cases c : y < p.1
      · rcases he with he | he
        · omega
        · exact absurd he (p3 y hy.1 c)
      · by_cases c2 : p.1 < y
        · rcases p4 with p4 | p4
          · omega
          · exact absurd p4 (hN p.1 p1 c2)
        · omega
    subst e
    refine ⟨p.2, z, ⟨p5, p6⟩, ?_, Or.inr ⟨m2, m3, ?_⟩⟩
    · show _ ≤ (((cls p.2 ++ ICL a (ind4 t g)) ++ jcl a t (1 - g) ls) ++ cls qs).length
      simp only [List.length_append]; omega
    · show _ ≤ (((cls p.2 ++ ICL a (ind4 t g)) ++ jcl a t (1 - g) ls) ++ cls qs).length
      simp only [List.length_append]; omega
theorem JW.part (h : JW v a v1 a1 t g x) (hT : TBL v a) (ht : 0 ≤ t ∧ t < v 4) (h5 : a 6 t.toNat = 5) (hE : TBE a1 a) (hn : n = v 23) (hy : x ≤ y ∧ y ≤ n) (hN : NSG (a 20) (sgj g) x y) (he : y = n ∨ a 20 y.toNat = sgj g) (hp : z = prt a t g) (hs : SPT v1 a1 v2 a2 z x y f) (e : f ≠ 1) (hw : a3 20 = a2 20) : SWT v a v3 a3 t 0 := by
  subst hn
  subst hp
  have hw1 := h.1
  refine JW.fail h hT ht h5 (hw.trans (hs.1.trans hw1)) (fun js j1 j2 ls qs g2 x2 k1 k2 k3 => ?_)
  obtain ⟨ps, zz, ⟨m1, m2⟩, m3, _⟩ := seg_len hT ht h5 k1 k2 hy hN he
  exact (hs.use hE hw1 j2).2.2 e ⟨ps, ⟨zz, m1, m2⟩, by omega⟩
theorem JW.last (h : JW v a v1 a1 t g x) (h5 : a 6 t.toNat = 5) (hE : TBE a1 a) (hn : n = v 23) (hy : x ≤ n) (hN : NSG (a 20) (sgj g) x n) (hp : z = prt a t g) (hs : SPT v1 a1 v2 a2 z x n 1) : SWT v a v2 a2 t 1 := by
  subst hn
  subst hp
  obtain ⟨hw1, js, j1, j2⟩ := h
  obtain ⟨p1, p2, _⟩ := hs.use hE hw1 j2
  obtain ⟨ps, g1, g2⟩ := p2 rfl
  obtain ⟨⟨yy, g3, g4⟩, g5⟩ := g1
  refine ⟨p1, fun _ => ⟨jcl a t 0 js ++ cls ps, Or.inr ⟨h5, ?_, js, ps, g, x, j1, ⟨⟨hy, Int.le_refl _⟩, hN, Or.inl rfl, yy, g3, g4⟩, rfl⟩, g2⟩, fun e => absurd rfl e⟩
  rw [List.length_append]; omega
theorem JW.nosign (h : JW v a v1 a1 t g x) (hT : TBL v a) (ht : 0 ≤ t ∧ t < v 4) (h5 : a 6 t.toNat = 5) (hn : n = v 23) (hy : x ≤ y ∧ y < n) (hN : NSG (a 20) (sgj g) x y) (he : a 20 y.toNat = sgj g) (hi : ¬ 0 < a 16 (ind4 t g).toNat) (hw : a2 20 = a 20) : SWT v a v2 a2 t 0 := by
  subst hn
  refine JW.fail h hT ht h5 hw (fun js j1 j2 ls qs g2 x2 k1 k2 k3 => ?_)
  obtain ⟨ps, zz, _, _, m4⟩ := seg_len hT ht h5 k1 k2 ⟨hy.1, by omega⟩ hN (Or.inr he)
  rcases m4 with m4 | ⟨_, m5, _⟩
  · omega
  · exact hi m5
theorem JW.many (h : JW v a v1 a1 t g x) (hT : TBL v a) (ht : 0 ≤ t ∧ t < v 4) (h5 : a 6 t.toNat = 5) (hE : TBE a1 a) (hn : n = v 23) (hy : x ≤ y ∧ y < n) (hN : NSG (a 20) (sgj g) x y) (he : a 20 y.toNat = sgj g) (hp : z = prt a t g) (hs : SPT v1 a1 v2 a2 z x y 1) (h16 : 0 ≤ a 16 (ind4 t g).toNat) (hm : 200 < v2 25 + a 16 (ind4 t g).toNat) (hw : a3 20 = a2 20) : SWT v a v3 a3 t 0 := by
  subst hn
  subst hp
  refine hv2 (h.1) (prt.ok (g := g) hT ht h5) (fun hw1 pk => ?_)
  refine JW.fail h hT ht h5 (hw.trans (hs.1.trans hw1)) (fun js j1 j2 ls qs g2 x2 k1 k2 k3 => ?_)
  obtain ⟨ps, zz, ⟨m1, m2⟩, _, m4⟩ := seg_len hT ht h5 k1 k2 ⟨hy.1, by omega⟩ hN (Or.inr he)
  obtain ⟨_, p2, _⟩ := hs.use hE hw1 j2
  obtain ⟨ps2, ⟨⟨yy, q1, q2⟩, _⟩, q4⟩ := p2 rfl
  have e := ptp.uni hT pk.1.1 pk.1.2 m1 m2 q1 q2
  subst e
  have w := q4.1
  rw [List.length_append] at w
  have w3 := ICL.len h16
  rcases m4 with m4 | ⟨_, _, m6⟩
  · omega
  · rw [List.length_append] at m6
    push_cast at w
    omega
theorem JW.next (h : JW v a v1 a1 t g x) (hg : g = 0 ∨ g = 1) (hE : TBE a1 a) (hn : n = v 23) (hy : x ≤ y ∧ y < n) (hN : NSG (a 20) (sgj g) x y) (he : a 20 y.toNat = sgj g) (hi : 0 < a 16 (ind4 t g).toNat) (hp : z = prt a t g) (hs : SPT v1 a1 v2 a2 z x y 1) (hP : PIX v2 a2 v3 a3 I) (hI : I = ind4 t g) (h16 : a2 16 = a 16) (h17 : a2 17 = a 17) (h20 : a3 20 = a2 20) : JW v a v3 a3 t (1 - g) (y + 1) := by
  subst hn
  subst hp
  subst hI
  obtain ⟨hw1, js, j1, j2⟩ := h
  obtain ⟨p1, p2, _⟩ := hs.use hE hw1 j2
  obtain ⟨ps, ⟨⟨yy, q1, q2⟩, _⟩, q4⟩ := p2 rfl
  have q5 := hP _ q4
  rw [ICL_cg h16 h17] at q5
  refine ⟨h20.trans p1, js ++ [(y, ps)], jtp.snoc js 0 0 j1 ⟨⟨hy.1, by omega⟩, hN, Or.inr he, yy, q1, q2⟩ hy.2 hi, ?_⟩
  rw [jcl.snoc hg js 0 0 j1, ← List.append_assoc]
  exact q5
end WORD
theorem MDH.nil {v : Nat → Int} {a : Nat → Nat → Int} (h : v 25 = 0) : MDH v a [] := ⟨h, fun j d e => by simp at e⟩
theorem SPT.re {v1 v2 : Nat → Int} {a1 a2 : Nat → Nat → Int} {z x y y2 f f2 : Int} (h : SPT v1 a1 v2 a2 z x y f) (hy : y = y2) (hf : f = f2) : SPT v1 a1 v2 a2 z x y2 f2 := by
  subst hy
  subst hf
  exact h
theorem NSG.re {W : Nat → Int} {c x y y2 : Int} (h : NSG W c x y) (hy : y = y2) : NSG W c x y2 := by
  subst hy
  exact h
theorem JW.re {v v1 : Nat → Int} {a a1 : Nat → Nat → Int} {t g g2 x : Int} (h : JW v a v1 a1 t g x) (hg : g = g2) : JW v a v1 a1 t g2 x := by
  subst hg
  exact h
set_option maxHeartbeats 4000000 in
set_option maxRecDepth 100000 in
theorem E_setWord {l : Launch} {G : GT} {h0 : Nat} {ad ln : Nat → Nat} {v : Nat → Int} {a : Nat → Nat → Int}  {t : Int} (hB : BX v a) (hT : TBL v a) (ht : 0 ≤ t ∧ t < v 4) : Mm l G yX12_setWord cX12_setWord 7 (some .boolean) 65 [.int (iI t)] h0 ad ln v a 0 0 (fun r v2 a2 => ∃ f : Int, r = some (.int (iI f)) ∧ fr [25, 28] [20, 24, 26, 27] v a v2 a2 ∧ BX v2 a2 ∧ ((f = 0 ∨ (f = 1 ∧ v2 25 ≤ 200)) ∧ SWT v a v2 a2 t f ∧ SWB v a v2 a2 t f)) := by
  refine Mm.mk (by decide) (Nat.le_of_ble_eq_true rfl) ?_
  intro p e s m args below meth c A C
  refine hv3 (show 0 ≤ v 4 ∧ v 4 ≤ 30 from hB.1 4) (show 0 ≤ v 23 ∧ v 23 ≤ 500 from hB.1 23) (show fr [25, 28] [20, 24, 26, 27] v a v a from fr.refl) (fun h30 h23 fp0 => ?_)
  have ht0 := hT.1 t (by omega) (by omega)
  refine m_aload_n (j := 0) C dX12_setWord_0 rfl ?_
  refine m_iconst C dX12_setWord_1 ?_
  refine m_put (k := 25) (z := 0) C dX12_setWord_2 w6_84 (by decide) rfl rfl rfl ?_
  refine hv2 (show BX (va_up v 25 0) a from hB.put (k := 25) (z := 0) ⟨by decide, by decide⟩) (fp0.put (k := 25) (z := 0) rfl) (fun bq1 fq1 => ?_)
  refine m_iconst C dX12_setWord_5 ?_
  refine m_istore_n (lv2 := [(2, .int (iI 0)), (0, .ref h0), (1, .int (iI t))]) C dX12_setWord_6 (by decide) rfl ?_
  have Lp1 : ∀ (nn : Nat) (k : Int) (vb1 : Nat → Int) (ab1 : Nat → Nat → Int), 502 - k < (nn : Int) → BX vb1 ab1 → fr [25, 28] [20, 24, 26, 27] v a vb1 ab1 → (0 ≤ k ∧ k ≤ 501) → (vb1 25 = 0) → (ab1 20 = a 20) → (∀ j : Nat, ((j : Nat) : Int) < k → ab1 26 j = -1) → mw p l e (rmq 65 0 0) s m args below meth c G A 7 (MQ below (Qm G A (fun rq Lq Eq => ∃ (vq : Nat → Int) (aq : Nat → Nat → Int), mI G h0 ad ln vq aq Lq Eq ∧ (fun r v2 a2 => ∃ f : Int, r = some (.int (iI f)) ∧ fr [25, 28] [20, 24, 26, 27] v a v2 a2 ∧ BX v2 a2 ∧ ((f = 0 ∨ (f = 1 ∧ v2 25 ≤ 200)) ∧ SWT v a v2 a2 t f ∧ SWB v a v2 a2 t f)) rq vq aq)) args s 0 0 A) h0 ad ln vb1 ab1 0 0 7 [(2, .int (iI k)), (0, .ref h0), (1, .int (iI t))] [] := by
    intro nn
    induction nn with
    | zero =>
      intro k vb1 ab1 hm bxb1 fpb1 hk hb hw hb26
      exact absurd hm (by omega)
    | succ nn ih1 =>
      intro k vb1 ab1 hm bxb1 fpb1 hk hb hw hb26
      refine m_iload_n (j := 0) C dX12_setWord_7 rfl ?_
      refine m_aload_n (j := 1) C dX12_setWord_8 rfl ?_
      refine hv2 (show 0 ≤ vb1 23 ∧ vb1 23 ≤ 500 from bxb1.1 23) (show vb1 23 = v 23 from fpb1.1 23 rfl) (fun rv1 ve1 => ?_)
      refine m_get (k := 23) C dX12_setWord_9 w6_82 (by decide) rfl ?_
      refine m_st (st2 := [.int (iI (v 23)), .int (iI k)]) (congrArg (fun z => Value.int (iI z) :: [.int (iI k)]) (fpb1.1 23 rfl)) ?_
      refine m_icmp_gt (tgt := 28) C (r32_c (lo := 0) (hi := 501) hk.1 hk.2 (by decide) (by decide)) (r32_c (lo := 0) (hi := 500) (Int.le_trans rv1.1 (Int.le_of_eq ve1)) (Int.le_trans (Int.le_of_eq ve1.symm) rv1.2) (by decide) (by decide)) dX12_setWord_12 (by decide) (fun c1 => ?_) (fun c1 => ?_)
      · refine m_aload_n (j := 1) C dX12_setWord_28 rfl ?_
        refine m_geta (k := 6) C dX12_setWord_29 w6_65 (by decide) rfl ?_
        refine m_iload_n (j := 2) C dX12_setWord_32 rfl ?_
        refine m_ald (k := 6) C dX12_setWord_33 rfl rfl (by decide) (by omega) (by show _ < ((_ : Nat) : Int); simp only [mlen]; omega) (by decide) ?_
        refine hv2 (show 0 ≤ ab1 6 t.toNat ∧ ab1 6 t.toNat ≤ 5 from bxb1.2 6 (t.toNat)) (show ab1 6 (t.toNat) = a 6 (t.toNat) from congrFun (fpb1.2 6 rfl) (t.toNat)) (fun ra1 ae1 => ?_)
        refine m_st (st2 := [.int (iI (a 6 t.toNat))]) (congrArg (fun z => Value.int (iI z) :: []) (congrFun (fpb1.2 6 rfl) (t.toNat))) ?_
        refine m_iconst C dX12_setWord_34 ?_
        refine m_icmp_eq (tgt := 49) C ⟨by omega, by omega⟩ ⟨by decide, by decide⟩ dX12_setWord_35 (by decide) (fun c2 => ?_) (fun c2 => ?_)
        · refine m_iconst C dX12_setWord_49 ?_
          refine m_istore_n (lv2 := [(2, .int (iI 0)), (0, .ref h0), (1, .int (iI t))]) C dX12_setWord_50 (by decide) rfl ?_
          refine m_iconst C dX12_setWord_51 ?_
          refine m_istore_n (lv2 := [(3, .int (iI 0)), (2, .int (iI 0)), (0, .ref h0), (1, .int (iI t))]) C dX12_setWord_52 (by decide) rfl ?_
          have Lp2 : ∀ (nn : Nat) (g x : Int) (vb2 : Nat → Int) (ab2 : Nat → Nat → Int), 502 - x < (nn : Int) → BX vb2 ab2 → fr [25, 28] [20, 24, 26, 27] v a vb2 ab2 → (g = 0 ∨ g = 1) → (0 ≤ x ∧ x ≤ v 23) → (vb2 25 ≤ 200) → (JW v a vb2 ab2 t g x) → mw p l e (rmq 65 0 0) s m args below meth c G A 7 (MQ below (Qm G A (fun rq Lq Eq => ∃ (vq : Nat → Int) (aq : Nat → Nat → Int), mI G h0 ad ln vq aq Lq Eq ∧ (fun r v2 a2 => ∃ f : Int, r = some (.int (iI f)) ∧ fr [25, 28] [20, 24, 26, 27] v a v2 a2 ∧ BX v2 a2 ∧ ((f = 0 ∨ (f = 1 ∧ v2 25 ≤ 200)) ∧ SWT v a v2 a2 t f ∧ SWB v a v2 a2 t f)) rq vq aq)) args s 0 0 A) h0 ad ln vb2 ab2 0 0 53 [(2, .int (iI g)), (3, .int (iI x)), (0, .ref h0), (1, .int (iI t))] [] := by
            intro nn
            induction nn with
            | zero =>
              intro g x vb2 ab2 hm bxb2 fpb2 hg hq hb1 hJ
              exact absurd hm (by omega)
            | succ nn ih2 =>
              intro g x vb2 ab2 hm bxb2 fpb2 hg hq hb1 hJ
              refine m_iload_n (j := 1) C dX12_setWord_53 rfl ?_
              refine m_aload_n (j := 2) C dX12_setWord_54 rfl ?_
              refine hv2 (show 0 ≤ vb2 23 ∧ vb2 23 ≤ 500 from bxb2.1 23) (show vb2 23 = v 23 from fpb2.1 23 rfl) (fun rv2 ve2 => ?_)
              refine m_get (k := 23) C dX12_setWord_55 w6_82 (by decide) rfl ?_
              refine m_st (st2 := [.int (iI (v 23)), .int (iI x)]) (congrArg (fun z => Value.int (iI z) :: [.int (iI x)]) (fpb2.1 23 rfl)) ?_
              refine m_icmp_gt (tgt := 226) C ⟨by omega, by omega⟩ (r32_c (lo := 0) (hi := 500) (Int.le_trans rv1.1 (Int.le_of_eq ve1)) (Int.le_trans (Int.le_of_eq ve1.symm) rv1.2) (by decide) (by decide)) dX12_setWord_58 (by decide) (fun c3 => ?_) (fun c3 => ?_)
              · refine m_iconst C dX12_setWord_226 ?_
                have rv3 : 0 ≤ vb2 25 ∧ vb2 25 ≤ 208 := bxb2.1 25
                exact m_zret C dX12_setWord_227 rfl (Or.inr rfl) (Nat.le_of_ble_eq_true rfl) (Nat.le_of_ble_eq_true rfl) ⟨1, rfl, fpb2, bxb2, ⟨by omega, (by exfalso; omega), (by exfalso; omega)⟩⟩
              · have Lp3 : ∀ (nn : Nat) (sg y : Int) (vb3 : Nat → Int) (ab3 : Nat → Nat → Int), 502 - y < (nn : Int) → BX vb3 ab3 → fr [25, 28] [20, 24, 26, 27] v a vb3 ab3 → ((g = 1 ∧ sg = 62) ∨ (g = 0 ∧ sg = 60)) → (x ≤ y ∧ y ≤ v 23) → (vb3 25 ≤ 200) → (NSG (a 20) (sgj g) x y) → (JW v a vb3 ab3 t g x) → mw p l e (rmq 65 0 0) s m args below meth c G A 7 (MQ below (Qm G A (fun rq Lq Eq => ∃ (vq : Nat → Int) (aq : Nat → Nat → Int), mI G h0 ad ln vq aq Lq Eq ∧ (fun r v2 a2 => ∃ f : Int, r = some (.int (iI f)) ∧ fr [25, 28] [20, 24, 26, 27] v a v2 a2 ∧ BX v2 a2 ∧ ((f = 0 ∨ (f = 1 ∧ v2 25 ≤ 200)) ∧ SWT v a v2 a2 t f ∧ SWB v a v2 a2 t f)) rq vq aq)) args s 0 0 A) h0 ad ln vb3 ab3 0 0 77 [(5, .int (iI y)), (4, .int (iI sg)), (2, .int (iI g)), (3, .int (iI x)), (0, .ref h0), (1, .int (iI t))] [] := by
                  intro nn
                  induction nn with
                  | zero =>
                    intro sg y vb3 ab3 hm bxb3 fpb3 hs hy hb2 hN hJ2
                    have w77 := congrFun hJ2.1 y.toNat
                    exact absurd hm (by omega)
                  | succ nn ih3 =>
                    intro sg y vb3 ab3 hm bxb3 fpb3 hs hy hb2 hN hJ2
                    have w77 := congrFun hJ2.1 y.toNat
                    refine m_iload (j := 0) C dX12_setWord_77 rfl ?_
                    refine m_aload_n (j := 4) C dX12_setWord_79 rfl ?_
                    refine hv2 (show 0 ≤ vb3 23 ∧ vb3 23 ≤ 500 from bxb3.1 23) (show vb3 23 = v 23 from fpb3.1 23 rfl) (fun rv4 ve3 => ?_)
                    refine m_get (k := 23) C dX12_setWord_80 w6_82 (by decide) rfl ?_
                    refine m_st (st2 := [.int (iI (v 23)), .int (iI y)]) (congrArg (fun z => Value.int (iI z) :: [.int (iI y)]) (fpb3.1 23 rfl)) ?_
                    refine m_icmp_ge (tgt := 104) C ⟨by omega, by omega⟩ (r32_c (lo := 0) (hi := 500) (Int.le_trans rv1.1 (Int.le_of_eq ve1)) (Int.le_trans (Int.le_of_eq ve1.symm) rv1.2) (by decide) (by decide)) dX12_setWord_83 (by decide) (fun c4 => ?_) (fun c4 => ?_)
                    · refine m_aload_n (j := 4) C dX12_setWord_104 rfl ?_
                      refine m_iload_n (j := 2) C dX12_setWord_105 rfl ?_
                      refine m_if_eq (tgt := 118) C (r32_01 hg) dX12_setWord_106 (by decide) (fun c5 => ?_) (fun c5 => ?_)
                      · refine m_aload_n (j := 4) C dX12_setWord_118 rfl ?_
                        refine m_geta (k := 8) C dX12_setWord_119 w6_67 (by decide) rfl ?_
                        refine m_iload_n (j := 5) C dX12_setWord_122 rfl ?_
                        refine m_ald (k := 8) C dX12_setWord_123 rfl rfl (by decide) (by omega) (by show _ < ((_ : Nat) : Int); simp only [mlen]; omega) (by decide) ?_
                        refine hv2 (show (-1) ≤ ab3 8 t.toNat ∧ ab3 8 t.toNat ≤ 29 from bxb3.2 8 (t.toNat)) (show ab3 8 (t.toNat) = a 8 (t.toNat) from congrFun (fpb3.2 8 rfl) (t.toNat)) (fun ra2 ae2 => ?_)
                        refine m_st (st2 := [.int (iI (a 8 t.toNat)), .ref h0]) (congrArg (fun z => Value.int (iI z) :: [.ref h0]) (congrFun (fpb3.2 8 rfl) (t.toNat))) ?_
                        refine m_iload_n (j := 3) C dX12_setWord_124 rfl ?_
                        refine m_iload (j := 0) C dX12_setWord_125 rfl ?_
                        refine hv5 (show 0 ≤ vb3 4 ∧ vb3 4 ≤ 30 from bxb3.1 4) (show vb3 4 = v 4 from fpb3.1 4 rfl) (show 0 ≤ ab3 6 (a 8 t.toNat).toNat ∧ ab3 6 (a 8 t.toNat).toNat ≤ 5 from bxb3.2 6 ((a 8 t.toNat).toNat)) (show ab3 6 ((a 8 t.toNat).toNat) = a 6 ((a 8 t.toNat).toNat) from congrFun (fpb3.2 6 rfl) ((a 8 t.toNat).toNat)) (show 0 ≤ vb3 25 ∧ vb3 25 ≤ 208 from bxb3.1 25) (fun rv5 ve4 ra3 ae3 rv6 => ?_)
                        refine m_call (mc2 := 0) (ms2 := 0) (As := [.int (iI (a 8 t.toNat)), .int (iI x), .int (iI y)]) (rest := []) C (E_setPart (t := a 8 t.toNat) (q := x) (u := y) bxb3 (hT.fr fpb3 rfl rfl) (by show 0 ≤ (a 8 t.toNat) ∧ (a 8 t.toNat) < (vb3 4); omega) (by show ab3 6 (a 8 t.toNat).toNat ≤ 4; omega) (by show 0 ≤ x ∧ x ≤ y ∧ y ≤ 500; omega) (by show (vb3 25) ≤ 200; omega)) dX12_setWord_127 kV_X12_237 rfl ck_13 rfl (Nat.le_of_ble_eq_true rfl) ⟨Nat.le_of_ble_eq_true rfl, Nat.le_of_ble_eq_true rfl⟩ ⟨Nat.le_of_ble_eq_true rfl, Nat.le_of_ble_eq_true rfl⟩ (fun rh1 vh1 ah1 h1 => ?_)
                        obtain ⟨f1, rfl, fn1, bn1, ex1⟩ := h1
                        have fq2 := fpb3.call fn1 rfl rfl
                        obtain ⟨ex1, tl1⟩ := ex1
                        refine hv2 (show 0 ≤ vh1 25 ∧ vh1 25 ≤ 208 from bn1.1 25) (show f1 = 0 ∨ (f1 = 1 ∧ (vh1 25) ≤ 200) from ex1) (fun rv7 gf1 => ?_)
                        refine m_st (st2 := [.int (iI f1)]) rfl ?_
                        refine m_if_ne (tgt := 135) C (r32_0p gf1) dX12_setWord_130 (by decide) (fun c6 => ?_) (fun c6 => ?_)
                        · replace gf1 := (gf1.resolve_left c6)
                          refine m_iload (j := 0) C dX12_setWord_135 rfl ?_
                          refine m_aload_n (j := 4) C dX12_setWord_137 rfl ?_
                          refine hv2 (show 0 ≤ vh1 23 ∧ vh1 23 ≤ 500 from bn1.1 23) (show vh1 23 = vb3 23 from fn1.1 23 rfl) (fun rv8 ve5 => ?_)
                          refine m_get (k := 23) C dX12_setWord_138 w6_82 (by decide) rfl ?_
                          refine m_st (st2 := [.int (iI (v 23)), .int (iI y)]) (congrArg (fun z => Value.int (iI z) :: [.int (iI y)]) (fq2.1 23 rfl)) ?_
                          refine m_icmp_ne (tgt := 146) C ⟨by omega, by omega⟩ (r32_c (lo := 0) (hi := 500) (Int.le_trans rv1.1 (Int.le_of_eq ve1)) (Int.le_trans (Int.le_of_eq ve1.symm) rv1.2) (by decide) (by decide)) dX12_setWord_141 (by decide) (fun c7 => ?_) (fun c7 => ?_)
                          · refine m_iload_n (j := 2) C dX12_setWord_146 rfl ?_
                            refine m_if_eq (tgt := 154) C (r32_01 hg) dX12_setWord_147 (by decide) (fun _ => ?_) (fun z => absurd z (by omega))
                            refine m_iconst C dX12_setWord_154 ?_
                            refine m_istore (lv2 := [(6, .int (iI 2)), (5, .int (iI y)), (4, .int (iI sg)), (2, .int (iI g)), (3, .int (iI x)), (0, .ref h0), (1, .int (iI t))]) C dX12_setWord_155 (by decide) rfl ?_
                            refine m_aload_n (j := 5) C dX12_setWord_157 rfl ?_
                            refine m_geta (k := 16) C dX12_setWord_158 w6_75 (by decide) rfl ?_
                            refine m_iconst C dX12_setWord_161 ?_
                            refine m_iload_n (j := 6) C dX12_setWord_162 rfl ?_
                            refine m_imul C dX12_setWord_163 ?_
                            refine m_iload (j := 0) C dX12_setWord_164 rfl ?_
                            refine m_iadd C dX12_setWord_166 ?_
                            refine m_ald (k := 16) C dX12_setWord_167 rfl rfl (by decide) (by omega) (by show _ < ((_ : Nat) : Int); simp only [mlen]; omega) (by decide) ?_
                            refine hv3 (show 0 ≤ ah1 16 ((4 * t) + 2).toNat ∧ ah1 16 ((4 * t) + 2).toNat ≤ 4 from bn1.2 16 (((4 * t) + 2).toNat)) (show ah1 16 (((4 * t) + 2).toNat) = ab3 16 (((4 * t) + 2).toNat) from congrFun (fn1.2 16 rfl) (((4 * t) + 2).toNat)) (show ab3 16 (((4 * t) + 2).toNat) = a 16 (((4 * t) + 2).toNat) from congrFun (fpb3.2 16 rfl) (((4 * t) + 2).toNat)) (fun ra4 ae4 ae5 => ?_)
                            refine m_st (st2 := [.int (iI (a 16 ((4 * t) + 2).toNat))]) (congrArg (fun z => Value.int (iI z) :: []) (congrFun (fq2.2 16 rfl) (((4 * t) + 2).toNat))) ?_
                            refine m_if_ne (tgt := 184) C ⟨by omega, by omega⟩ dX12_setWord_168 (by decide) (fun c8 => ?_) (fun c8 => ?_)
                            · refine m_aload_n (j := 5) C dX12_setWord_184 rfl ?_
                              refine m_iload_n (j := 6) C dX12_setWord_185 rfl ?_
                              refine m_iload (j := 0) C dX12_setWord_186 rfl ?_
                              refine m_call (mc2 := 0) (ms2 := 0) (As := [.int (iI t), .int (iI 2)]) (rest := []) C (E_putIndicator (t := t) (w1 := 2) bn1 (by show 0 ≤ t ∧ t < 30; omega) (by show 0 ≤ (2 : Int) ∧ (2 : Int) ≤ 3; omega) (by show (vh1 25) ≤ 204; omega)) dX12_setWord_188 kV_X12_227 rfl ck_13 rfl (Nat.le_of_ble_eq_true rfl) ⟨Nat.le_of_ble_eq_true rfl, Nat.le_of_ble_eq_true rfl⟩ ⟨Nat.le_of_ble_eq_true rfl, Nat.le_of_ble_eq_true rfl⟩ (fun rh2 vh2 ah2 h2 => ?_)
                              obtain ⟨rfl, fn2, bn2, ex2⟩ := h2
                              have fq3 := fq2.call fn2 rfl rfl
                              obtain ⟨ex2, tl2⟩ := ex2
                              refine hv6 (show 0 ≤ vh2 25 ∧ vh2 25 ≤ 208 from bn2.1 25) (show (vh2 25) = (vh1 25) + ah1 16 (4 * t + (2 : Int)).toNat from ex2) (show 0 ≤ ah2 16 (4 * t + (2 : Int)).toNat ∧ ah2 16 (4 * t + (2 : Int)).toNat ≤ 4 from bn2.2 16 ((4 * t + (2 : Int)).toNat)) (show ah2 16 ((4 * t + (2 : Int)).toNat) = ah1 16 ((4 * t + (2 : Int)).toNat) from congrFun (fn2.2 16 rfl) ((4 * t + (2 : Int)).toNat)) (show ah1 16 ((4 * t + (2 : Int)).toNat) = ab3 16 ((4 * t + (2 : Int)).toNat) from congrFun (fn1.2 16 rfl) ((4 * t + (2 : Int)).toNat)) (show ab3 16 ((4 * t + (2 : Int)).toNat) = a 16 ((4 * t + (2 : Int)).toNat) from congrFun (fpb3.2 16 rfl) ((4 * t + (2 : Int)).toNat)) (fun rv9 gf2 ra5 ae6 ae7 ae8 => ?_)
                              refine m_st (st2 := []) rfl ?_
                              refine m_aload_n (j := 5) C dX12_setWord_191 rfl ?_
                              refine m_get (k := 25) C dX12_setWord_192 w6_84 (by decide) rfl ?_
                              refine m_sipush (z := 200) C dX12_setWord_195 (by decide) ?_
                              refine m_icmp_le (tgt := 208) C (r32_c (lo := 0) (hi := 208) rv9.1 rv9.2 (by decide) (by decide)) ⟨by decide, by decide⟩ dX12_setWord_198 (by decide) (fun c9 => ?_) (fun c9 => ?_)
                              · refine m_iload_n (j := 3) C dX12_setWord_208 rfl ?_
                                refine m_if_ne (tgt := 216) C (r32_01 hg) dX12_setWord_209 (by decide) (fun z => absurd z (by omega)) (fun _ => ?_)
                                refine m_iconst C dX12_setWord_212 ?_
                                refine m_goto (tgt := 217) C dX12_setWord_213 (by decide) ?_
                                refine m_istore_n (lv2 := [(2, .int (iI 1)), (6, .int (iI 2)), (5, .int (iI y)), (4, .int (iI sg)), (3, .int (iI x)), (0, .ref h0), (1, .int (iI t))]) C dX12_setWord_217 (by decide) rfl ?_
                                refine m_iload (j := 2) C dX12_setWord_218 rfl ?_
                                refine m_iconst C dX12_setWord_220 ?_
                                refine m_iadd C dX12_setWord_221 ?_
                                refine m_istore_n (lv2 := [(3, .int (iI (y + 1))), (2, .int (iI 1)), (6, .int (iI 2)), (5, .int (iI y)), (4, .int (iI sg)), (0, .ref h0), (1, .int (iI t))]) C dX12_setWord_222 (by decide) rfl ?_
                                refine m_goto (tgt := 53) C dX12_setWord_223 (by decide) ?_
                                refine m_lv (lv2 := [(2, .int (iI 1)), (3, .int (iI (y + 1))), (0, .ref h0), (1, .int (iI t))]) [1, 0, 5, 6] rfl ?_
                                exact ih2  1 (y + 1) _ _ (by omega) bn2 fq3 (by omega) (by omega) (by show vh2 25 ≤ 200; omega) (JW.re (JW.next hJ2 hg (TBE.fr fpb3 rfl) rfl ⟨by omega, by omega⟩ hN (show a 20 y.toNat = sgj g by unfold sgj; split <;> omega) (by unfold ind4; rw [if_neg (by omega)]; omega) (by unfold prt; rw [if_neg (by omega)]) (tl1.re rfl (by omega)) tl2 (by unfold ind4; rw [if_neg (by omega)]) (fq2.2 16 rfl) (fq2.2 17 rfl) (fn2.2 20 rfl)) (by omega))
                              · refine m_aload_n (j := 5) C dX12_setWord_201 rfl ?_
                                refine m_iconst C dX12_setWord_202 ?_
                                refine m_put (k := 28) (z := (-1)) C dX12_setWord_203 w6_87 (by decide) rfl rfl rfl ?_
                                refine hv2 (show BX (va_up vh2 28 (-1)) ah2 from bn2.put (k := 28) (z := (-1)) ⟨by decide, by decide⟩) (fq3.put (k := 28) (z := (-1)) rfl) (fun bq2 fq4 => ?_)
                                refine m_iconst C dX12_setWord_206 ?_
                                exact m_zret C dX12_setWord_207 rfl (Or.inl rfl) (Nat.le_of_ble_eq_true rfl) (Nat.le_of_ble_eq_true rfl) ⟨0, rfl, fq4, bq2, ⟨(Or.inl rfl), JW.many hJ2 hT ht (by omega) (TBE.fr fpb3 rfl) rfl ⟨by omega, by omega⟩ hN (show a 20 y.toNat = sgj g by unfold sgj; split <;> omega) (by unfold prt; rw [if_neg (by omega)]) (tl1.re rfl (by omega)) (by unfold ind4; rw [if_neg (by omega)]; omega) (by unfold ind4; rw [if_neg (by omega)]; omega) (fn2.2 20 rfl), (fun _ e => absurd e (by omega))⟩⟩
                            · refine m_aload_n (j := 5) C dX12_setWord_171 rfl ?_
                              refine m_aload_n (j := 5) C dX12_setWord_172 rfl ?_
                              refine m_geta (k := 21) C dX12_setWord_173 w6_80 (by decide) rfl ?_
                              refine m_iload (j := 1) C dX12_setWord_176 rfl ?_
                              refine m_ald (k := 21) C dX12_setWord_178 rfl rfl (by decide) (by omega) (by show _ < ((_ : Nat) : Int); simp only [mlen]; omega) (by decide) ?_
                              refine hv3 (show (-2147483648) ≤ ah1 21 y.toNat ∧ ah1 21 y.toNat ≤ 2147483647 from bn1.2 21 (y.toNat)) (show ah1 21 (y.toNat) = ab3 21 (y.toNat) from congrFun (fn1.2 21 rfl) (y.toNat)) (show ab3 21 (y.toNat) = a 21 (y.toNat) from congrFun (fpb3.2 21 rfl) (y.toNat)) (fun ra6 ae9 ae10 => ?_)
                              refine m_st (st2 := [.int (iI (a 21 y.toNat)), .ref h0]) (congrArg (fun z => Value.int (iI z) :: [.ref h0]) (congrFun (fq2.2 21 rfl) (y.toNat))) ?_
                              refine m_put (k := 28) (z := a 21 y.toNat) C dX12_setWord_179 w6_87 (by decide) rfl rfl rfl ?_
                              refine hv2 (show BX (va_up vh1 28 (a 21 y.toNat)) ah1 from bn1.put (k := 28) (z := a 21 y.toNat) (show (-2147483648) ≤ (a 21 y.toNat) ∧ (a 21 y.toNat) ≤ 2147483647 by omega)) (fq2.put (k := 28) (z := a 21 y.toNat) rfl) (fun bq3 fq5 => ?_)
                              refine m_iconst C dX12_setWord_182 ?_
                              exact m_zret C dX12_setWord_183 rfl (Or.inl rfl) (Nat.le_of_ble_eq_true rfl) (Nat.le_of_ble_eq_true rfl) ⟨0, rfl, fq5, bq3, ⟨(Or.inl rfl), JW.nosign hJ2 hT ht (by omega) rfl ⟨by omega, by omega⟩ hN (show a 20 y.toNat = sgj g by unfold sgj; split <;> omega) (by unfold ind4; rw [if_neg (by omega)]; omega) (tl1.1.trans hJ2.1), (fun _ e => absurd e (by omega))⟩⟩
                          · refine m_iconst C dX12_setWord_144 ?_
                            exact m_zret C dX12_setWord_145 rfl (Or.inr rfl) (Nat.le_of_ble_eq_true rfl) (Nat.le_of_ble_eq_true rfl) ⟨1, rfl, fq2, bn1, ⟨(Or.inr ⟨rfl, by show vh1 25 ≤ 200; omega⟩), JW.last hJ2 (by omega) (TBE.fr fpb3 rfl) rfl (by omega) (hN.re (by omega)) (by unfold prt; rw [if_neg (by omega)]) (tl1.re (by omega) (by omega)), (fun _ e => absurd e (by omega))⟩⟩
                        · clear gf1
                          refine m_iconst C dX12_setWord_133 ?_
                          exact m_zret C dX12_setWord_134 rfl (Or.inl rfl) (Nat.le_of_ble_eq_true rfl) (Nat.le_of_ble_eq_true rfl) ⟨0, rfl, fq2, bn1, ⟨(Or.inl rfl), JW.part hJ2 hT ht (by omega) (TBE.fr fpb3 rfl) rfl ⟨by omega, by omega⟩ hN (Or.inl (by omega)) (by unfold prt; rw [if_neg (by omega)]) tl1 (by omega) rfl, (fun _ e => absurd e (by omega))⟩⟩
                      · refine m_aload_n (j := 4) C dX12_setWord_109 rfl ?_
                        refine m_geta (k := 9) C dX12_setWord_110 w6_68 (by decide) rfl ?_
                        refine m_iload_n (j := 5) C dX12_setWord_113 rfl ?_
                        refine m_ald (k := 9) C dX12_setWord_114 rfl rfl (by decide) (by omega) (by show _ < ((_ : Nat) : Int); simp only [mlen]; omega) (by decide) ?_
                        refine hv2 (show (-1) ≤ ab3 9 t.toNat ∧ ab3 9 t.toNat ≤ 29 from bxb3.2 9 (t.toNat)) (show ab3 9 (t.toNat) = a 9 (t.toNat) from congrFun (fpb3.2 9 rfl) (t.toNat)) (fun ra7 ae11 => ?_)
                        refine m_st (st2 := [.int (iI (a 9 t.toNat)), .ref h0]) (congrArg (fun z => Value.int (iI z) :: [.ref h0]) (congrFun (fpb3.2 9 rfl) (t.toNat))) ?_
                        refine m_goto (tgt := 124) C dX12_setWord_115 (by decide) ?_
                        refine m_iload_n (j := 3) C dX12_setWord_124 rfl ?_
                        refine m_iload (j := 0) C dX12_setWord_125 rfl ?_
                        refine hv5 (show 0 ≤ vb3 4 ∧ vb3 4 ≤ 30 from bxb3.1 4) (show vb3 4 = v 4 from fpb3.1 4 rfl) (show 0 ≤ ab3 6 (a 9 t.toNat).toNat ∧ ab3 6 (a 9 t.toNat).toNat ≤ 5 from bxb3.2 6 ((a 9 t.toNat).toNat)) (show ab3 6 ((a 9 t.toNat).toNat) = a 6 ((a 9 t.toNat).toNat) from congrFun (fpb3.2 6 rfl) ((a 9 t.toNat).toNat)) (show 0 ≤ vb3 25 ∧ vb3 25 ≤ 208 from bxb3.1 25) (fun rv10 ve6 ra8 ae12 rv11 => ?_)
                        refine m_call (mc2 := 0) (ms2 := 0) (As := [.int (iI (a 9 t.toNat)), .int (iI x), .int (iI y)]) (rest := []) C (E_setPart (t := a 9 t.toNat) (q := x) (u := y) bxb3 (hT.fr fpb3 rfl rfl) (by show 0 ≤ (a 9 t.toNat) ∧ (a 9 t.toNat) < (vb3 4); omega) (by show ab3 6 (a 9 t.toNat).toNat ≤ 4; omega) (by show 0 ≤ x ∧ x ≤ y ∧ y ≤ 500; omega) (by show (vb3 25) ≤ 200; omega)) dX12_setWord_127 kV_X12_237 rfl ck_13 rfl (Nat.le_of_ble_eq_true rfl) ⟨Nat.le_of_ble_eq_true rfl, Nat.le_of_ble_eq_true rfl⟩ ⟨Nat.le_of_ble_eq_true rfl, Nat.le_of_ble_eq_true rfl⟩ (fun rh3 vh3 ah3 h3 => ?_)
                        obtain ⟨f3, rfl, fn3, bn3, ex3⟩ := h3
                        have fq6 := fpb3.call fn3 rfl rfl
                        obtain ⟨ex3, tl3⟩ := ex3
                        refine hv2 (show 0 ≤ vh3 25 ∧ vh3 25 ≤ 208 from bn3.1 25) (show f3 = 0 ∨ (f3 = 1 ∧ (vh3 25) ≤ 200) from ex3) (fun rv12 gf3 => ?_)
                        refine m_st (st2 := [.int (iI f3)]) rfl ?_
                        refine m_if_ne (tgt := 135) C (r32_0p gf3) dX12_setWord_130 (by decide) (fun c10 => ?_) (fun c10 => ?_)
                        · replace gf3 := (gf3.resolve_left c10)
                          refine m_iload (j := 0) C dX12_setWord_135 rfl ?_
                          refine m_aload_n (j := 4) C dX12_setWord_137 rfl ?_
                          refine hv2 (show 0 ≤ vh3 23 ∧ vh3 23 ≤ 500 from bn3.1 23) (show vh3 23 = vb3 23 from fn3.1 23 rfl) (fun rv13 ve7 => ?_)
                          refine m_get (k := 23) C dX12_setWord_138 w6_82 (by decide) rfl ?_
                          refine m_st (st2 := [.int (iI (v 23)), .int (iI y)]) (congrArg (fun z => Value.int (iI z) :: [.int (iI y)]) (fq6.1 23 rfl)) ?_
                          refine m_icmp_ne (tgt := 146) C ⟨by omega, by omega⟩ (r32_c (lo := 0) (hi := 500) (Int.le_trans rv1.1 (Int.le_of_eq ve1)) (Int.le_trans (Int.le_of_eq ve1.symm) rv1.2) (by decide) (by decide)) dX12_setWord_141 (by decide) (fun c11 => ?_) (fun c11 => ?_)
                          · refine m_iload_n (j := 2) C dX12_setWord_146 rfl ?_
                            refine m_if_eq (tgt := 154) C (r32_01 hg) dX12_setWord_147 (by decide) (fun z => absurd z (by omega)) (fun _ => ?_)
                            refine m_iconst C dX12_setWord_150 ?_
                            refine m_goto (tgt := 155) C dX12_setWord_151 (by decide) ?_
                            refine m_istore (lv2 := [(6, .int (iI 3)), (5, .int (iI y)), (4, .int (iI sg)), (2, .int (iI g)), (3, .int (iI x)), (0, .ref h0), (1, .int (iI t))]) C dX12_setWord_155 (by decide) rfl ?_
                            refine m_aload_n (j := 5) C dX12_setWord_157 rfl ?_
                            refine m_geta (k := 16) C dX12_setWord_158 w6_75 (by decide) rfl ?_
                            refine m_iconst C dX12_setWord_161 ?_
                            refine m_iload_n (j := 6) C dX12_setWord_162 rfl ?_
                            refine m_imul C dX12_setWord_163 ?_
                            refine m_iload (j := 0) C dX12_setWord_164 rfl ?_
                            refine m_iadd C dX12_setWord_166 ?_
                            refine m_ald (k := 16) C dX12_setWord_167 rfl rfl (by decide) (by omega) (by show _ < ((_ : Nat) : Int); simp only [mlen]; omega) (by decide) ?_
                            refine hv3 (show 0 ≤ ah3 16 ((4 * t) + 3).toNat ∧ ah3 16 ((4 * t) + 3).toNat ≤ 4 from bn3.2 16 (((4 * t) + 3).toNat)) (show ah3 16 (((4 * t) + 3).toNat) = ab3 16 (((4 * t) + 3).toNat) from congrFun (fn3.2 16 rfl) (((4 * t) + 3).toNat)) (show ab3 16 (((4 * t) + 3).toNat) = a 16 (((4 * t) + 3).toNat) from congrFun (fpb3.2 16 rfl) (((4 * t) + 3).toNat)) (fun ra9 ae13 ae14 => ?_)
                            refine m_st (st2 := [.int (iI (a 16 ((4 * t) + 3).toNat))]) (congrArg (fun z => Value.int (iI z) :: []) (congrFun (fq6.2 16 rfl) (((4 * t) + 3).toNat))) ?_
                            refine m_if_ne (tgt := 184) C ⟨by omega, by omega⟩ dX12_setWord_168 (by decide) (fun c12 => ?_) (fun c12 => ?_)
                            · refine m_aload_n (j := 5) C dX12_setWord_184 rfl ?_
                              refine m_iload_n (j := 6) C dX12_setWord_185 rfl ?_
                              refine m_iload (j := 0) C dX12_setWord_186 rfl ?_
                              refine m_call (mc2 := 0) (ms2 := 0) (As := [.int (iI t), .int (iI 3)]) (rest := []) C (E_putIndicator (t := t) (w1 := 3) bn3 (by show 0 ≤ t ∧ t < 30; omega) (by show 0 ≤ (3 : Int) ∧ (3 : Int) ≤ 3; omega) (by show (vh3 25) ≤ 204; omega)) dX12_setWord_188 kV_X12_227 rfl ck_13 rfl (Nat.le_of_ble_eq_true rfl) ⟨Nat.le_of_ble_eq_true rfl, Nat.le_of_ble_eq_true rfl⟩ ⟨Nat.le_of_ble_eq_true rfl, Nat.le_of_ble_eq_true rfl⟩ (fun rh4 vh4 ah4 h4 => ?_)
                              obtain ⟨rfl, fn4, bn4, ex4⟩ := h4
                              have fq7 := fq6.call fn4 rfl rfl
                              obtain ⟨ex4, tl4⟩ := ex4
                              refine hv6 (show 0 ≤ vh4 25 ∧ vh4 25 ≤ 208 from bn4.1 25) (show (vh4 25) = (vh3 25) + ah3 16 (4 * t + (3 : Int)).toNat from ex4) (show 0 ≤ ah4 16 (4 * t + (3 : Int)).toNat ∧ ah4 16 (4 * t + (3 : Int)).toNat ≤ 4 from bn4.2 16 ((4 * t + (3 : Int)).toNat)) (show ah4 16 ((4 * t + (3 : Int)).toNat) = ah3 16 ((4 * t + (3 : Int)).toNat) from congrFun (fn4.2 16 rfl) ((4 * t + (3 : Int)).toNat)) (show ah3 16 ((4 * t + (3 : Int)).toNat) = ab3 16 ((4 * t + (3 : Int)).toNat) from congrFun (fn3.2 16 rfl) ((4 * t + (3 : Int)).toNat)) (show ab3 16 ((4 * t + (3 : Int)).toNat) = a 16 ((4 * t + (3 : Int)).toNat) from congrFun (fpb3.2 16 rfl) ((4 * t + (3 : Int)).toNat)) (fun rv14 gf4 ra10 ae15 ae16 ae17 => ?_)
                              refine m_st (st2 := []) rfl ?_
                              refine m_aload_n (j := 5) C dX12_setWord_191 rfl ?_
                              refine m_get (k := 25) C dX12_setWord_192 w6_84 (by decide) rfl ?_
                              refine m_sipush (z := 200) C dX12_setWord_195 (by decide) ?_
                              refine m_icmp_le (tgt := 208) C (r32_c (lo := 0) (hi := 208) rv14.1 rv14.2 (by decide) (by decide)) ⟨by decide, by decide⟩ dX12_setWord_198 (by decide) (fun c13 => ?_) (fun c13 => ?_)
                              · refine m_iload_n (j := 3) C dX12_setWord_208 rfl ?_
                                refine m_if_ne (tgt := 216) C (r32_01 hg) dX12_setWord_209 (by decide) (fun _ => ?_) (fun z => absurd z (by omega))
                                refine m_iconst C dX12_setWord_216 ?_
                                refine m_istore_n (lv2 := [(2, .int (iI 0)), (6, .int (iI 3)), (5, .int (iI y)), (4, .int (iI sg)), (3, .int (iI x)), (0, .ref h0), (1, .int (iI t))]) C dX12_setWord_217 (by decide) rfl ?_
                                refine m_iload (j := 2) C dX12_setWord_218 rfl ?_
                                refine m_iconst C dX12_setWord_220 ?_
                                refine m_iadd C dX12_setWord_221 ?_
                                refine m_istore_n (lv2 := [(3, .int (iI (y + 1))), (2, .int (iI 0)), (6, .int (iI 3)), (5, .int (iI y)), (4, .int (iI sg)), (0, .ref h0), (1, .int (iI t))]) C dX12_setWord_222 (by decide) rfl ?_
                                refine m_goto (tgt := 53) C dX12_setWord_223 (by decide) ?_
                                refine m_lv (lv2 := [(2, .int (iI 0)), (3, .int (iI (y + 1))), (0, .ref h0), (1, .int (iI t))]) [1, 0, 5, 6] rfl ?_
                                exact ih2  0 (y + 1) _ _ (by omega) bn4 fq7 (by omega) (by omega) (by show vh4 25 ≤ 200; omega) (JW.re (JW.next hJ2 hg (TBE.fr fpb3 rfl) rfl ⟨by omega, by omega⟩ hN (show a 20 y.toNat = sgj g by unfold sgj; split <;> omega) (by unfold ind4; rw [if_pos (by omega)]; omega) (by unfold prt; rw [if_pos (by omega)]) (tl3.re rfl (by omega)) tl4 (by unfold ind4; rw [if_pos (by omega)]) (fq6.2 16 rfl) (fq6.2 17 rfl) (fn4.2 20 rfl)) (by omega))
                              · refine m_aload_n (j := 5) C dX12_setWord_201 rfl ?_
                                refine m_iconst C dX12_setWord_202 ?_
                                refine m_put (k := 28) (z := (-1)) C dX12_setWord_203 w6_87 (by decide) rfl rfl rfl ?_
                                refine hv2 (show BX (va_up vh4 28 (-1)) ah4 from bn4.put (k := 28) (z := (-1)) ⟨by decide, by decide⟩) (fq7.put (k := 28) (z := (-1)) rfl) (fun bq4 fq8 => ?_)
                                refine m_iconst C dX12_setWord_206 ?_
                                exact m_zret C dX12_setWord_207 rfl (Or.inl rfl) (Nat.le_of_ble_eq_true rfl) (Nat.le_of_ble_eq_true rfl) ⟨0, rfl, fq8, bq4, ⟨(Or.inl rfl), JW.many hJ2 hT ht (by omega) (TBE.fr fpb3 rfl) rfl ⟨by omega, by omega⟩ hN (show a 20 y.toNat = sgj g by unfold sgj; split <;> omega) (by unfold prt; rw [if_pos (by omega)]) (tl3.re rfl (by omega)) (by unfold ind4; rw [if_pos (by omega)]; omega) (by unfold ind4; rw [if_pos (by omega)]; omega) (fn4.2 20 rfl), (fun _ e => absurd e (by omega))⟩⟩
                            · refine m_aload_n (j := 5) C dX12_setWord_171 rfl ?_
                              refine m_aload_n (j := 5) C dX12_setWord_172 rfl ?_
                              refine m_geta (k := 21) C dX12_setWord_173 w6_80 (by decide) rfl ?_
                              refine m_iload (j := 1) C dX12_setWord_176 rfl ?_
                              refine m_ald (k := 21) C dX12_setWord_178 rfl rfl (by decide) (by omega) (by show _ < ((_ : Nat) : Int); simp only [mlen]; omega) (by decide) ?_
                              refine hv3 (show (-2147483648) ≤ ah3 21 y.toNat ∧ ah3 21 y.toNat ≤ 2147483647 from bn3.2 21 (y.toNat)) (show ah3 21 (y.toNat) = ab3 21 (y.toNat) from congrFun (fn3.2 21 rfl) (y.toNat)) (show ab3 21 (y.toNat) = a 21 (y.toNat) from congrFun (fpb3.2 21 rfl) (y.toNat)) (fun ra11 ae18 ae19 => ?_)
                              refine m_st (st2 := [.int (iI (a 21 y.toNat)), .ref h0]) (congrArg (fun z => Value.int (iI z) :: [.ref h0]) (congrFun (fq6.2 21 rfl) (y.toNat))) ?_
                              refine m_put (k := 28) (z := a 21 y.toNat) C dX12_setWord_179 w6_87 (by decide) rfl rfl rfl ?_
                              refine hv2 (show BX (va_up vh3 28 (a 21 y.toNat)) ah3 from bn3.put (k := 28) (z := a 21 y.toNat) (show (-2147483648) ≤ (a 21 y.toNat) ∧ (a 21 y.toNat) ≤ 2147483647 by omega)) (fq6.put (k := 28) (z := a 21 y.toNat) rfl) (fun bq5 fq9 => ?_)
                              refine m_iconst C dX12_setWord_182 ?_
                              exact m_zret C dX12_setWord_183 rfl (Or.inl rfl) (Nat.le_of_ble_eq_true rfl) (Nat.le_of_ble_eq_true rfl) ⟨0, rfl, fq9, bq5, ⟨(Or.inl rfl), JW.nosign hJ2 hT ht (by omega) rfl ⟨by omega, by omega⟩ hN (show a 20 y.toNat = sgj g by unfold sgj; split <;> omega) (by unfold ind4; rw [if_pos (by omega)]; omega) (tl3.1.trans hJ2.1), (fun _ e => absurd e (by omega))⟩⟩
                          · refine m_iconst C dX12_setWord_144 ?_
                            exact m_zret C dX12_setWord_145 rfl (Or.inr rfl) (Nat.le_of_ble_eq_true rfl) (Nat.le_of_ble_eq_true rfl) ⟨1, rfl, fq6, bn3, ⟨(Or.inr ⟨rfl, by show vh3 25 ≤ 200; omega⟩), JW.last hJ2 (by omega) (TBE.fr fpb3 rfl) rfl (by omega) (hN.re (by omega)) (by unfold prt; rw [if_pos (by omega)]) (tl3.re (by omega) (by omega)), (fun _ e => absurd e (by omega))⟩⟩
                        · clear gf3
                          refine m_iconst C dX12_setWord_133 ?_
                          exact m_zret C dX12_setWord_134 rfl (Or.inl rfl) (Nat.le_of_ble_eq_true rfl) (Nat.le_of_ble_eq_true rfl) ⟨0, rfl, fq6, bn3, ⟨(Or.inl rfl), JW.part hJ2 hT ht (by omega) (TBE.fr fpb3 rfl) rfl ⟨by omega, by omega⟩ hN (Or.inl (by omega)) (by unfold prt; rw [if_pos (by omega)]) tl3 (by omega) rfl, (fun _ e => absurd e (by omega))⟩⟩
                    · refine m_aload_n (j := 4) C dX12_setWord_86 rfl ?_
                      refine m_geta (k := 20) C dX12_setWord_87 w6_79 (by decide) rfl ?_
                      refine m_iload (j := 0) C dX12_setWord_90 rfl ?_
                      refine m_ald (k := 20) C dX12_setWord_92 rfl rfl (by decide) (by omega) (by show _ < ((_ : Nat) : Int); simp only [mlen]; omega) (by decide) ?_
                      have ra12 : (-2147483648) ≤ ab3 20 y.toNat ∧ ab3 20 y.toNat ≤ 2147483647 := bxb3.2 20 (y.toNat)
                      refine m_iload (j := 1) C dX12_setWord_93 rfl ?_
                      refine m_icmp_eq (tgt := 104) C (r32_c (lo := (-2147483648)) (hi := 2147483647) ra12.1 ra12.2 (by decide) (by decide)) ⟨by omega, by omega⟩ dX12_setWord_95 (by decide) (fun c14 => ?_) (fun c14 => ?_)
                      · refine m_aload_n (j := 4) C dX12_setWord_104 rfl ?_
                        refine m_iload_n (j := 2) C dX12_setWord_105 rfl ?_
                        refine m_if_eq (tgt := 118) C (r32_01 hg) dX12_setWord_106 (by decide) (fun c15 => ?_) (fun c15 => ?_)
                        · refine m_aload_n (j := 4) C dX12_setWord_118 rfl ?_
                          refine m_geta (k := 8) C dX12_setWord_119 w6_67 (by decide) rfl ?_
                          refine m_iload_n (j := 5) C dX12_setWord_122 rfl ?_
                          refine m_ald (k := 8) C dX12_setWord_123 rfl rfl (by decide) (by omega) (by show _ < ((_ : Nat) : Int); simp only [mlen]; omega) (by decide) ?_
                          refine hv2 (show (-1) ≤ ab3 8 t.toNat ∧ ab3 8 t.toNat ≤ 29 from bxb3.2 8 (t.toNat)) (show ab3 8 (t.toNat) = a 8 (t.toNat) from congrFun (fpb3.2 8 rfl) (t.toNat)) (fun ra13 ae20 => ?_)
                          refine m_st (st2 := [.int (iI (a 8 t.toNat)), .ref h0]) (congrArg (fun z => Value.int (iI z) :: [.ref h0]) (congrFun (fpb3.2 8 rfl) (t.toNat))) ?_
                          refine m_iload_n (j := 3) C dX12_setWord_124 rfl ?_
                          refine m_iload (j := 0) C dX12_setWord_125 rfl ?_
                          refine hv5 (show 0 ≤ vb3 4 ∧ vb3 4 ≤ 30 from bxb3.1 4) (show vb3 4 = v 4 from fpb3.1 4 rfl) (show 0 ≤ ab3 6 (a 8 t.toNat).toNat ∧ ab3 6 (a 8 t.toNat).toNat ≤ 5 from bxb3.2 6 ((a 8 t.toNat).toNat)) (show ab3 6 ((a 8 t.toNat).toNat) = a 6 ((a 8 t.toNat).toNat) from congrFun (fpb3.2 6 rfl) ((a 8 t.toNat).toNat)) (show 0 ≤ vb3 25 ∧ vb3 25 ≤ 208 from bxb3.1 25) (fun rv15 ve8 ra14 ae21 rv16 => ?_)
                          refine m_call (mc2 := 0) (ms2 := 0) (As := [.int (iI (a 8 t.toNat)), .int (iI x), .int (iI y)]) (rest := []) C (E_setPart (t := a 8 t.toNat) (q := x) (u := y) bxb3 (hT.fr fpb3 rfl rfl) (by show 0 ≤ (a 8 t.toNat) ∧ (a 8 t.toNat) < (vb3 4); omega) (by show ab3 6 (a 8 t.toNat).toNat ≤ 4; omega) (by show 0 ≤ x ∧ x ≤ y ∧ y ≤ 500; omega) (by show (vb3 25) ≤ 200; omega)) dX12_setWord_127 kV_X12_237 rfl ck_13 rfl (Nat.le_of_ble_eq_true rfl) ⟨Nat.le_of_ble_eq_true rfl, Nat.le_of_ble_eq_true rfl⟩ ⟨Nat.le_of_ble_eq_true rfl, Nat.le_of_ble_eq_true rfl⟩ (fun rh5 vh5 ah5 h5 => ?_)
                          obtain ⟨f5, rfl, fn5, bn5, ex5⟩ := h5
                          have fq10 := fpb3.call fn5 rfl rfl
                          obtain ⟨ex5, tl5⟩ := ex5
                          refine hv2 (show 0 ≤ vh5 25 ∧ vh5 25 ≤ 208 from bn5.1 25) (show f5 = 0 ∨ (f5 = 1 ∧ (vh5 25) ≤ 200) from ex5) (fun rv17 gf5 => ?_)
                          refine m_st (st2 := [.int (iI f5)]) rfl ?_
                          refine m_if_ne (tgt := 135) C (r32_0p gf5) dX12_setWord_130 (by decide) (fun c16 => ?_) (fun c16 => ?_)
                          · replace gf5 := (gf5.resolve_left c16)
                            refine m_iload (j := 0) C dX12_setWord_135 rfl ?_
                            refine m_aload_n (j := 4) C dX12_setWord_137 rfl ?_
                            refine hv2 (show 0 ≤ vh5 23 ∧ vh5 23 ≤ 500 from bn5.1 23) (show vh5 23 = vb3 23 from fn5.1 23 rfl) (fun rv18 ve9 => ?_)
                            refine m_get (k := 23) C dX12_setWord_138 w6_82 (by decide) rfl ?_
                            refine m_st (st2 := [.int (iI (v 23)), .int (iI y)]) (congrArg (fun z => Value.int (iI z) :: [.int (iI y)]) (fq10.1 23 rfl)) ?_
                            refine m_icmp_ne (tgt := 146) C ⟨by omega, by omega⟩ (r32_c (lo := 0) (hi := 500) (Int.le_trans rv1.1 (Int.le_of_eq ve1)) (Int.le_trans (Int.le_of_eq ve1.symm) rv1.2) (by decide) (by decide)) dX12_setWord_141 (by decide) (fun _ => ?_) (fun z => absurd z (by omega))
                            refine m_iload_n (j := 2) C dX12_setWord_146 rfl ?_
                            refine m_if_eq (tgt := 154) C (r32_01 hg) dX12_setWord_147 (by decide) (fun _ => ?_) (fun z => absurd z (by omega))
                            refine m_iconst C dX12_setWord_154 ?_
                            refine m_istore (lv2 := [(6, .int (iI 2)), (5, .int (iI y)), (4, .int (iI sg)), (2, .int (iI g)), (3, .int (iI x)), (0, .ref h0), (1, .int (iI t))]) C dX12_setWord_155 (by decide) rfl ?_
                            refine m_aload_n (j := 5) C dX12_setWord_157 rfl ?_
                            refine m_geta (k := 16) C dX12_setWord_158 w6_75 (by decide) rfl ?_
                            refine m_iconst C dX12_setWord_161 ?_
                            refine m_iload_n (j := 6) C dX12_setWord_162 rfl ?_
                            refine m_imul C dX12_setWord_163 ?_
                            refine m_iload (j := 0) C dX12_setWord_164 rfl ?_
                            refine m_iadd C dX12_setWord_166 ?_
                            refine m_ald (k := 16) C dX12_setWord_167 rfl rfl (by decide) (by omega) (by show _ < ((_ : Nat) : Int); simp only [mlen]; omega) (by decide) ?_
                            refine hv3 (show 0 ≤ ah5 16 ((4 * t) + 2).toNat ∧ ah5 16 ((4 * t) + 2).toNat ≤ 4 from bn5.2 16 (((4 * t) + 2).toNat)) (show ah5 16 (((4 * t) + 2).toNat) = ab3 16 (((4 * t) + 2).toNat) from congrFun (fn5.2 16 rfl) (((4 * t) + 2).toNat)) (show ab3 16 (((4 * t) + 2).toNat) = a 16 (((4 * t) + 2).toNat) from congrFun (fpb3.2 16 rfl) (((4 * t) + 2).toNat)) (fun ra15 ae22 ae23 => ?_)
                            refine m_st (st2 := [.int (iI (a 16 ((4 * t) + 2).toNat))]) (congrArg (fun z => Value.int (iI z) :: []) (congrFun (fq10.2 16 rfl) (((4 * t) + 2).toNat))) ?_
                            refine m_if_ne (tgt := 184) C ⟨by omega, by omega⟩ dX12_setWord_168 (by decide) (fun c17 => ?_) (fun c17 => ?_)
                            · refine m_aload_n (j := 5) C dX12_setWord_184 rfl ?_
                              refine m_iload_n (j := 6) C dX12_setWord_185 rfl ?_
                              refine m_iload (j := 0) C dX12_setWord_186 rfl ?_
                              refine m_call (mc2 := 0) (ms2 := 0) (As := [.int (iI t), .int (iI 2)]) (rest := []) C (E_putIndicator (t := t) (w1 := 2) bn5 (by show 0 ≤ t ∧ t < 30; omega) (by show 0 ≤ (2 : Int) ∧ (2 : Int) ≤ 3; omega) (by show (vh5 25) ≤ 204; omega)) dX12_setWord_188 kV_X12_227 rfl ck_13 rfl (Nat.le_of_ble_eq_true rfl) ⟨Nat.le_of_ble_eq_true rfl, Nat.le_of_ble_eq_true rfl⟩ ⟨Nat.le_of_ble_eq_true rfl, Nat.le_of_ble_eq_true rfl⟩ (fun rh6 vh6 ah6 h6 => ?_)
                              obtain ⟨rfl, fn6, bn6, ex6⟩ := h6
                              have fq11 := fq10.call fn6 rfl rfl
                              obtain ⟨ex6, tl6⟩ := ex6
                              refine hv6 (show 0 ≤ vh6 25 ∧ vh6 25 ≤ 208 from bn6.1 25) (show (vh6 25) = (vh5 25) + ah5 16 (4 * t + (2 : Int)).toNat from ex6) (show 0 ≤ ah6 16 (4 * t + (2 : Int)).toNat ∧ ah6 16 (4 * t + (2 : Int)).toNat ≤ 4 from bn6.2 16 ((4 * t + (2 : Int)).toNat)) (show ah6 16 ((4 * t + (2 : Int)).toNat) = ah5 16 ((4 * t + (2 : Int)).toNat) from congrFun (fn6.2 16 rfl) ((4 * t + (2 : Int)).toNat)) (show ah5 16 ((4 * t + (2 : Int)).toNat) = ab3 16 ((4 * t + (2 : Int)).toNat) from congrFun (fn5.2 16 rfl) ((4 * t + (2 : Int)).toNat)) (show ab3 16 ((4 * t + (2 : Int)).toNat) = a 16 ((4 * t + (2 : Int)).toNat) from congrFun (fpb3.2 16 rfl) ((4 * t + (2 : Int)).toNat)) (fun rv19 gf6 ra16 ae24 ae25 ae26 => ?_)
                              refine m_st (st2 := []) rfl ?_
                              refine m_aload_n (j := 5) C dX12_setWord_191 rfl ?_
                              refine m_get (k := 25) C dX12_setWord_192 w6_84 (by decide) rfl ?_
                              refine m_sipush (z := 200) C dX12_setWord_195 (by decide) ?_
                              refine m_icmp_le (tgt := 208) C (r32_c (lo := 0) (hi := 208) rv19.1 rv19.2 (by decide) (by decide)) ⟨by decide, by decide⟩ dX12_setWord_198 (by decide) (fun c18 => ?_) (fun c18 => ?_)
                              · refine m_iload_n (j := 3) C dX12_setWord_208 rfl ?_
                                refine m_if_ne (tgt := 216) C (r32_01 hg) dX12_setWord_209 (by decide) (fun z => absurd z (by omega)) (fun _ => ?_)
                                refine m_iconst C dX12_setWord_212 ?_
                                refine m_goto (tgt := 217) C dX12_setWord_213 (by decide) ?_
                                refine m_istore_n (lv2 := [(2, .int (iI 1)), (6, .int (iI 2)), (5, .int (iI y)), (4, .int (iI sg)), (3, .int (iI x)), (0, .ref h0), (1, .int (iI t))]) C dX12_setWord_217 (by decide) rfl ?_
                                refine m_iload (j := 2) C dX12_setWord_218 rfl ?_
                                refine m_iconst C dX12_setWord_220 ?_
                                refine m_iadd C dX12_setWord_221 ?_
                                refine m_istore_n (lv2 := [(3, .int (iI (y + 1))), (2, .int (iI 1)), (6, .int (iI 2)), (5, .int (iI y)), (4, .int (iI sg)), (0, .ref h0), (1, .int (iI t))]) C dX12_setWord_222 (by decide) rfl ?_
                                refine m_goto (tgt := 53) C dX12_setWord_223 (by decide) ?_
                                refine m_lv (lv2 := [(2, .int (iI 1)), (3, .int (iI (y + 1))), (0, .ref h0), (1, .int (iI t))]) [1, 0, 5, 6] rfl ?_
                                exact ih2  1 (y + 1) _ _ (by omega) bn6 fq11 (by omega) (by omega) (by show vh6 25 ≤ 200; omega) (JW.re (JW.next hJ2 hg (TBE.fr fpb3 rfl) rfl ⟨by omega, by omega⟩ hN (show a 20 y.toNat = sgj g by unfold sgj; split <;> omega) (by unfold ind4; rw [if_neg (by omega)]; omega) (by unfold prt; rw [if_neg (by omega)]) (tl5.re rfl (by omega)) tl6 (by unfold ind4; rw [if_neg (by omega)]) (fq10.2 16 rfl) (fq10.2 17 rfl) (fn6.2 20 rfl)) (by omega))
                              · refine m_aload_n (j := 5) C dX12_setWord_201 rfl ?_
                                refine m_iconst C dX12_setWord_202 ?_
                                refine m_put (k := 28) (z := (-1)) C dX12_setWord_203 w6_87 (by decide) rfl rfl rfl ?_
                                refine hv2 (show BX (va_up vh6 28 (-1)) ah6 from bn6.put (k := 28) (z := (-1)) ⟨by decide, by decide⟩) (fq11.put (k := 28) (z := (-1)) rfl) (fun bq6 fq12 => ?_)
                                refine m_iconst C dX12_setWord_206 ?_
                                exact m_zret C dX12_setWord_207 rfl (Or.inl rfl) (Nat.le_of_ble_eq_true rfl) (Nat.le_of_ble_eq_true rfl) ⟨0, rfl, fq12, bq6, ⟨(Or.inl rfl), JW.many hJ2 hT ht (by omega) (TBE.fr fpb3 rfl) rfl ⟨by omega, by omega⟩ hN (show a 20 y.toNat = sgj g by unfold sgj; split <;> omega) (by unfold prt; rw [if_neg (by omega)]) (tl5.re rfl (by omega)) (by unfold ind4; rw [if_neg (by omega)]; omega) (by unfold ind4; rw [if_neg (by omega)]; omega) (fn6.2 20 rfl), (fun _ e => absurd e (by omega))⟩⟩
                            · refine m_aload_n (j := 5) C dX12_setWord_171 rfl ?_
                              refine m_aload_n (j := 5) C dX12_setWord_172 rfl ?_
                              refine m_geta (k := 21) C dX12_setWord_173 w6_80 (by decide) rfl ?_
                              refine m_iload (j := 1) C dX12_setWord_176 rfl ?_
                              refine m_ald (k := 21) C dX12_setWord_178 rfl rfl (by decide) (by omega) (by show _ < ((_ : Nat) : Int); simp only [mlen]; omega) (by decide) ?_
                              refine hv3 (show (-2147483648) ≤ ah5 21 y.toNat ∧ ah5 21 y.toNat ≤ 2147483647 from bn5.2 21 (y.toNat)) (show ah5 21 (y.toNat) = ab3 21 (y.toNat) from congrFun (fn5.2 21 rfl) (y.toNat)) (show ab3 21 (y.toNat) = a 21 (y.toNat) from congrFun (fpb3.2 21 rfl) (y.toNat)) (fun ra17 ae27 ae28 => ?_)
                              refine m_st (st2 := [.int (iI (a 21 y.toNat)), .ref h0]) (congrArg (fun z => Value.int (iI z) :: [.ref h0]) (congrFun (fq10.2 21 rfl) (y.toNat))) ?_
                              refine m_put (k := 28) (z := a 21 y.toNat) C dX12_setWord_179 w6_87 (by decide) rfl rfl rfl ?_
                              refine hv2 (show BX (va_up vh5 28 (a 21 y.toNat)) ah5 from bn5.put (k := 28) (z := a 21 y.toNat) (show (-2147483648) ≤ (a 21 y.toNat) ∧ (a 21 y.toNat) ≤ 2147483647 by omega)) (fq10.put (k := 28) (z := a 21 y.toNat) rfl) (fun bq7 fq13 => ?_)
                              refine m_iconst C dX12_setWord_182 ?_
                              exact m_zret C dX12_setWord_183 rfl (Or.inl rfl) (Nat.le_of_ble_eq_true rfl) (Nat.le_of_ble_eq_true rfl) ⟨0, rfl, fq13, bq7, ⟨(Or.inl rfl), JW.nosign hJ2 hT ht (by omega) rfl ⟨by omega, by omega⟩ hN (show a 20 y.toNat = sgj g by unfold sgj; split <;> omega) (by unfold ind4; rw [if_neg (by omega)]; omega) (tl5.1.trans hJ2.1), (fun _ e => absurd e (by omega))⟩⟩
                          · clear gf5
                            refine m_iconst C dX12_setWord_133 ?_
                            exact m_zret C dX12_setWord_134 rfl (Or.inl rfl) (Nat.le_of_ble_eq_true rfl) (Nat.le_of_ble_eq_true rfl) ⟨0, rfl, fq10, bn5, ⟨(Or.inl rfl), JW.part hJ2 hT ht (by omega) (TBE.fr fpb3 rfl) rfl ⟨by omega, by omega⟩ hN (Or.inr (show a 20 y.toNat = sgj g by unfold sgj; split <;> omega)) (by unfold prt; rw [if_neg (by omega)]) tl5 (by omega) rfl, (fun _ e => absurd e (by omega))⟩⟩
                        · refine m_aload_n (j := 4) C dX12_setWord_109 rfl ?_
                          refine m_geta (k := 9) C dX12_setWord_110 w6_68 (by decide) rfl ?_
                          refine m_iload_n (j := 5) C dX12_setWord_113 rfl ?_
                          refine m_ald (k := 9) C dX12_setWord_114 rfl rfl (by decide) (by omega) (by show _ < ((_ : Nat) : Int); simp only [mlen]; omega) (by decide) ?_
                          refine hv2 (show (-1) ≤ ab3 9 t.toNat ∧ ab3 9 t.toNat ≤ 29 from bxb3.2 9 (t.toNat)) (show ab3 9 (t.toNat) = a 9 (t.toNat) from congrFun (fpb3.2 9 rfl) (t.toNat)) (fun ra18 ae29 => ?_)
                          refine m_st (st2 := [.int (iI (a 9 t.toNat)), .ref h0]) (congrArg (fun z => Value.int (iI z) :: [.ref h0]) (congrFun (fpb3.2 9 rfl) (t.toNat))) ?_
                          refine m_goto (tgt := 124) C dX12_setWord_115 (by decide) ?_
                          refine m_iload_n (j := 3) C dX12_setWord_124 rfl ?_
                          refine m_iload (j := 0) C dX12_setWord_125 rfl ?_
                          refine hv5 (show 0 ≤ vb3 4 ∧ vb3 4 ≤ 30 from bxb3.1 4) (show vb3 4 = v 4 from fpb3.1 4 rfl) (show 0 ≤ ab3 6 (a 9 t.toNat).toNat ∧ ab3 6 (a 9 t.toNat).toNat ≤ 5 from bxb3.2 6 ((a 9 t.toNat).toNat)) (show ab3 6 ((a 9 t.toNat).toNat) = a 6 ((a 9 t.toNat).toNat) from congrFun (fpb3.2 6 rfl) ((a 9 t.toNat).toNat)) (show 0 ≤ vb3 25 ∧ vb3 25 ≤ 208 from bxb3.1 25) (fun rv20 ve10 ra19 ae30 rv21 => ?_)
                          refine m_call (mc2 := 0) (ms2 := 0) (As := [.int (iI (a 9 t.toNat)), .int (iI x), .int (iI y)]) (rest := []) C (E_setPart (t := a 9 t.toNat) (q := x) (u := y) bxb3 (hT.fr fpb3 rfl rfl) (by show 0 ≤ (a 9 t.toNat) ∧ (a 9 t.toNat) < (vb3 4); omega) (by show ab3 6 (a 9 t.toNat).toNat ≤ 4; omega) (by show 0 ≤ x ∧ x ≤ y ∧ y ≤ 500; omega) (by show (vb3 25) ≤ 200; omega)) dX12_setWord_127 kV_X12_237 rfl ck_13 rfl (Nat.le_of_ble_eq_true rfl) ⟨Nat.le_of_ble_eq_true rfl, Nat.le_of_ble_eq_true rfl⟩ ⟨Nat.le_of_ble_eq_true rfl, Nat.le_of_ble_eq_true rfl⟩ (fun rh7 vh7 ah7 h7 => ?_)
                          obtain ⟨f7, rfl, fn7, bn7, ex7⟩ := h7
                          have fq14 := fpb3.call fn7 rfl rfl
                          obtain ⟨ex7, tl7⟩ := ex7
                          refine hv2 (show 0 ≤ vh7 25 ∧ vh7 25 ≤ 208 from bn7.1 25) (show f7 = 0 ∨ (f7 = 1 ∧ (vh7 25) ≤ 200) from ex7) (fun rv22 gf7 => ?_)
                          refine m_st (st2 := [.int (iI f7)]) rfl ?_
                          refine m_if_ne (tgt := 135) C (r32_0p gf7) dX12_setWord_130 (by decide) (fun c19 => ?_) (fun c19 => ?_)
                          · replace gf7 := (gf7.resolve_left c19)
                            refine m_iload (j := 0) C dX12_setWord_135 rfl ?_
                            refine m_aload_n (j := 4) C dX12_setWord_137 rfl ?_
                            refine hv2 (show 0 ≤ vh7 23 ∧ vh7 23 ≤ 500 from bn7.1 23) (show vh7 23 = vb3 23 from fn7.1 23 rfl) (fun rv23 ve11 => ?_)
                            refine m_get (k := 23) C dX12_setWord_138 w6_82 (by decide) rfl ?_
                            refine m_st (st2 := [.int (iI (v 23)), .int (iI y)]) (congrArg (fun z => Value.int (iI z) :: [.int (iI y)]) (fq14.1 23 rfl)) ?_
                            refine m_icmp_ne (tgt := 146) C ⟨by omega, by omega⟩ (r32_c (lo := 0) (hi := 500) (Int.le_trans rv1.1 (Int.le_of_eq ve1)) (Int.le_trans (Int.le_of_eq ve1.symm) rv1.2) (by decide) (by decide)) dX12_setWord_141 (by decide) (fun _ => ?_) (fun z => absurd z (by omega))
                            refine m_iload_n (j := 2) C dX12_setWord_146 rfl ?_
                            refine m_if_eq (tgt := 154) C (r32_01 hg) dX12_setWord_147 (by decide) (fun z => absurd z (by omega)) (fun _ => ?_)
                            refine m_iconst C dX12_setWord_150 ?_
                            refine m_goto (tgt := 155) C dX12_setWord_151 (by decide) ?_
                            refine m_istore (lv2 := [(6, .int (iI 3)), (5, .int (iI y)), (4, .int (iI sg)), (2, .int (iI g)), (3, .int (iI x)), (0, .ref h0), (1, .int (iI t))]) C dX12_setWord_155 (by decide) rfl ?_
                            refine m_aload_n (j := 5) C dX12_setWord_157 rfl ?_
                            refine m_geta (k := 16) C dX12_setWord_158 w6_75 (by decide) rfl ?_
                            refine m_iconst C dX12_setWord_161 ?_
                            refine m_iload_n (j := 6) C dX12_setWord_162 rfl ?_
                            refine m_imul C dX12_setWord_163 ?_
                            refine m_iload (j := 0) C dX12_setWord_164 rfl ?_
                            refine m_iadd C dX12_setWord_166 ?_
                            refine m_ald (k := 16) C dX12_setWord_167 rfl rfl (by decide) (by omega) (by show _ < ((_ : Nat) : Int); simp only [mlen]; omega) (by decide) ?_
                            refine hv3 (show 0 ≤ ah7 16 ((4 * t) + 3).toNat ∧ ah7 16 ((4 * t) + 3).toNat ≤ 4 from bn7.2 16 (((4 * t) + 3).toNat)) (show ah7 16 (((4 * t) + 3).toNat) = ab3 16 (((4 * t) + 3).toNat) from congrFun (fn7.2 16 rfl) (((4 * t) + 3).toNat)) (show ab3 16 (((4 * t) + 3).toNat) = a 16 (((4 * t) + 3).toNat) from congrFun (fpb3.2 16 rfl) (((4 * t) + 3).toNat)) (fun ra20 ae31 ae32 => ?_)
                            refine m_st (st2 := [.int (iI (a 16 ((4 * t) + 3).toNat))]) (congrArg (fun z => Value.int (iI z) :: []) (congrFun (fq14.2 16 rfl) (((4 * t) + 3).toNat))) ?_
                            refine m_if_ne (tgt := 184) C ⟨by omega, by omega⟩ dX12_setWord_168 (by decide) (fun c20 => ?_) (fun c20 => ?_)
                            · refine m_aload_n (j := 5) C dX12_setWord_184 rfl ?_
                              refine m_iload_n (j := 6) C dX12_setWord_185 rfl ?_
                              refine m_iload (j := 0) C dX12_setWord_186 rfl ?_
                              refine m_call (mc2 := 0) (ms2 := 0) (As := [.int (iI t), .int (iI 3)]) (rest := []) C (E_putIndicator (t := t) (w1 := 3) bn7 (by show 0 ≤ t ∧ t < 30; omega) (by show 0 ≤ (3 : Int) ∧ (3 : Int) ≤ 3; omega) (by show (vh7 25) ≤ 204; omega)) dX12_setWord_188 kV_X12_227 rfl ck_13 rfl (Nat.le_of_ble_eq_true rfl) ⟨Nat.le_of_ble_eq_true rfl, Nat.le_of_ble_eq_true rfl⟩ ⟨Nat.le_of_ble_eq_true rfl, Nat.le_of_ble_eq_true rfl⟩ (fun rh8 vh8 ah8 h8 => ?_)
                              obtain ⟨rfl, fn8, bn8, ex8⟩ := h8
                              have fq15 := fq14.call fn8 rfl rfl
                              obtain ⟨ex8, tl8⟩ := ex8
                              refine hv6 (show 0 ≤ vh8 25 ∧ vh8 25 ≤ 208 from bn8.1 25) (show (vh8 25) = (vh7 25) + ah7 16 (4 * t + (3 : Int)).toNat from ex8) (show 0 ≤ ah8 16 (4 * t + (3 : Int)).toNat ∧ ah8 16 (4 * t + (3 : Int)).toNat ≤ 4 from bn8.2 16 ((4 * t + (3 : Int)).toNat)) (show ah8 16 ((4 * t + (3 : Int)).toNat) = ah7 16 ((4 * t + (3 : Int)).toNat) from congrFun (fn8.2 16 rfl) ((4 * t + (3 : Int)).toNat)) (show ah7 16 ((4 * t + (3 : Int)).toNat) = ab3 16 ((4 * t + (3 : Int)).toNat) from congrFun (fn7.2 16 rfl) ((4 * t + (3 : Int)).toNat)) (show ab3 16 ((4 * t + (3 : Int)).toNat) = a 16 ((4 * t + (3 : Int)).toNat) from congrFun (fpb3.2 16 rfl) ((4 * t + (3 : Int)).toNat)) (fun rv24 gf8 ra21 ae33 ae34 ae35 => ?_)
                              refine m_st (st2 := []) rfl ?_
                              refine m_aload_n (j := 5) C dX12_setWord_191 rfl ?_
                              refine m_get (k := 25) C dX12_setWord_192 w6_84 (by decide) rfl ?_
                              refine m_sipush (z := 200) C dX12_setWord_195 (by decide) ?_
                              refine m_icmp_le (tgt := 208) C (r32_c (lo := 0) (hi := 208) rv24.1 rv24.2 (by decide) (by decide)) ⟨by decide, by decide⟩ dX12_setWord_198 (by decide) (fun c21 => ?_) (fun c21 => ?_)
                              · refine m_iload_n (j := 3) C dX12_setWord_208 rfl ?_
                                refine m_if_ne (tgt := 216) C (r32_01 hg) dX12_setWord_209 (by decide) (fun _ => ?_) (fun z => absurd z (by omega))
                                refine m_iconst C dX12_setWord_216 ?_
                                refine m_istore_n (lv2 := [(2, .int (iI 0)), (6, .int (iI 3)), (5, .int (iI y)), (4, .int (iI sg)), (3, .int (iI x)), (0, .ref h0), (1, .int (iI t))]) C dX12_setWord_217 (by decide) rfl ?_
                                refine m_iload (j := 2) C dX12_setWord_218 rfl ?_
                                refine m_iconst C dX12_setWord_220 ?_
                                refine m_iadd C dX12_setWord_221 ?_
                                refine m_istore_n (lv2 := [(3, .int (iI (y + 1))), (2, .int (iI 0)), (6, .int (iI 3)), (5, .int (iI y)), (4, .int (iI sg)), (0, .ref h0), (1, .int (iI t))]) C dX12_setWord_222 (by decide) rfl ?_
                                refine m_goto (tgt := 53) C dX12_setWord_223 (by decide) ?_
                                refine m_lv (lv2 := [(2, .int (iI 0)), (3, .int (iI (y + 1))), (0, .ref h0), (1, .int (iI t))]) [1, 0, 5, 6] rfl ?_
                                exact ih2  0 (y + 1) _ _ (by omega) bn8 fq15 (by omega) (by omega) (by show vh8 25 ≤ 200; omega) (JW.re (JW.next hJ2 hg (TBE.fr fpb3 rfl) rfl ⟨by omega, by omega⟩ hN (show a 20 y.toNat = sgj g by unfold sgj; split <;> omega) (by unfold ind4; rw [if_pos (by omega)]; omega) (by unfold prt; rw [if_pos (by omega)]) (tl7.re rfl (by omega)) tl8 (by unfold ind4; rw [if_pos (by omega)]) (fq14.2 16 rfl) (fq14.2 17 rfl) (fn8.2 20 rfl)) (by omega))
                              · refine m_aload_n (j := 5) C dX12_setWord_201 rfl ?_
                                refine m_iconst C dX12_setWord_202 ?_
                                refine m_put (k := 28) (z := (-1)) C dX12_setWord_203 w6_87 (by decide) rfl rfl rfl ?_
                                refine hv2 (show BX (va_up vh8 28 (-1)) ah8 from bn8.put (k := 28) (z := (-1)) ⟨by decide, by decide⟩) (fq15.put (k := 28) (z := (-1)) rfl) (fun bq8 fq16 => ?_)
                                refine m_iconst C dX12_setWord_206 ?_
                                exact m_zret C dX12_setWord_207 rfl (Or.inl rfl) (Nat.le_of_ble_eq_true rfl) (Nat.le_of_ble_eq_true rfl) ⟨0, rfl, fq16, bq8, ⟨(Or.inl rfl), JW.many hJ2 hT ht (by omega) (TBE.fr fpb3 rfl) rfl ⟨by omega, by omega⟩ hN (show a 20 y.toNat = sgj g by unfold sgj; split <;> omega) (by unfold prt; rw [if_pos (by omega)]) (tl7.re rfl (by omega)) (by unfold ind4; rw [if_pos (by omega)]; omega) (by unfold ind4; rw [if_pos (by omega)]; omega) (fn8.2 20 rfl), (fun _ e => absurd e (by omega))⟩⟩
                            · refine m_aload_n (j := 5) C dX12_setWord_171 rfl ?_
                              refine m_aload_n (j := 5) C dX12_setWord_172 rfl ?_
                              refine m_geta (k := 21) C dX12_setWord_173 w6_80 (by decide) rfl ?_
                              refine m_iload (j := 1) C dX12_setWord_176 rfl ?_
                              refine m_ald (k := 21) C dX12_setWord_178 rfl rfl (by decide) (by omega) (by show _ < ((_ : Nat) : Int); simp only [mlen]; omega) (by decide) ?_
                              refine hv3 (show (-2147483648) ≤ ah7 21 y.toNat ∧ ah7 21 y.toNat ≤ 2147483647 from bn7.2 21 (y.toNat)) (show ah7 21 (y.toNat) = ab3 21 (y.toNat) from congrFun (fn7.2 21 rfl) (y.toNat)) (show ab3 21 (y.toNat) = a 21 (y.toNat) from congrFun (fpb3.2 21 rfl) (y.toNat)) (fun ra22 ae36 ae37 => ?_)
                              refine m_st (st2 := [.int (iI (a 21 y.toNat)), .ref h0]) (congrArg (fun z => Value.int (iI z) :: [.ref h0]) (congrFun (fq14.2 21 rfl) (y.toNat))) ?_
                              refine m_put (k := 28) (z := a 21 y.toNat) C dX12_setWord_179 w6_87 (by decide) rfl rfl rfl ?_
                              refine hv2 (show BX (va_up vh7 28 (a 21 y.toNat)) ah7 from bn7.put (k := 28) (z := a 21 y.toNat) (show (-2147483648) ≤ (a 21 y.toNat) ∧ (a 21 y.toNat) ≤ 2147483647 by omega)) (fq14.put (k := 28) (z := a 21 y.toNat) rfl) (fun bq9 fq17 => ?_)
                              refine m_iconst C dX12_setWord_182 ?_
                              exact m_zret C dX12_setWord_183 rfl (Or.inl rfl) (Nat.le_of_ble_eq_true rfl) (Nat.le_of_ble_eq_true rfl) ⟨0, rfl, fq17, bq9, ⟨(Or.inl rfl), JW.nosign hJ2 hT ht (by omega) rfl ⟨by omega, by omega⟩ hN (show a 20 y.toNat = sgj g by unfold sgj; split <;> omega) (by unfold ind4; rw [if_pos (by omega)]; omega) (tl7.1.trans hJ2.1), (fun _ e => absurd e (by omega))⟩⟩
                          · clear gf7
                            refine m_iconst C dX12_setWord_133 ?_
                            exact m_zret C dX12_setWord_134 rfl (Or.inl rfl) (Nat.le_of_ble_eq_true rfl) (Nat.le_of_ble_eq_true rfl) ⟨0, rfl, fq14, bn7, ⟨(Or.inl rfl), JW.part hJ2 hT ht (by omega) (TBE.fr fpb3 rfl) rfl ⟨by omega, by omega⟩ hN (Or.inr (show a 20 y.toNat = sgj g by unfold sgj; split <;> omega)) (by unfold prt; rw [if_pos (by omega)]) tl7 (by omega) rfl, (fun _ e => absurd e (by omega))⟩⟩
                      · refine m_iinc (z := y) (j := 0) (lv2 := [(5, .int (iI (y + 1))), (4, .int (iI sg)), (2, .int (iI g)), (3, .int (iI x)), (0, .ref h0), (1, .int (iI t))]) C dX12_setWord_98 rfl (by decide) rfl ?_
                        refine m_goto (tgt := 77) C dX12_setWord_101 (by decide) ?_
                        have rv25 : 0 ≤ vb3 25 ∧ vb3 25 ≤ 208 := bxb3.1 25
                        refine m_lv (lv2 := [(5, .int (iI (y + 1))), (4, .int (iI sg)), (2, .int (iI g)), (3, .int (iI x)), (0, .ref h0), (1, .int (iI t))]) [0, 1, 2, 3, 4, 5] rfl ?_
                        exact ih3  sg (y + 1) _ _ (by omega) bxb3 fpb3 (by omega) (by omega) (by show vb3 25 ≤ 200; omega) (hN.step (by unfold sgj; split <;> omega)) hJ2
                refine m_iload_n (j := 0) C dX12_setWord_61 rfl ?_
                refine m_if_eq (tgt := 70) C (r32_01 hg) dX12_setWord_62 (by decide) (fun c22 => ?_) (fun c22 => ?_)
                · refine m_bipush (z := 60) C dX12_setWord_70 (by decide) ?_
                  refine m_istore (lv2 := [(4, .int (iI 60)), (2, .int (iI g)), (3, .int (iI x)), (0, .ref h0), (1, .int (iI t))]) C dX12_setWord_72 (by decide) rfl ?_
                  refine m_iload_n (j := 2) C dX12_setWord_74 rfl ?_
                  refine m_istore (lv2 := [(5, .int (iI x)), (4, .int (iI 60)), (2, .int (iI g)), (3, .int (iI x)), (0, .ref h0), (1, .int (iI t))]) C dX12_setWord_75 (by decide) rfl ?_
                  have rv26 : 0 ≤ vb2 25 ∧ vb2 25 ≤ 208 := bxb2.1 25
                  refine m_lv (lv2 := [(5, .int (iI x)), (4, .int (iI 60)), (2, .int (iI g)), (3, .int (iI x)), (0, .ref h0), (1, .int (iI t))]) [0, 1, 2, 3, 4, 5] rfl ?_
                  exact Lp3 503 60 x _ _ (by omega) bxb2 fpb2 (by omega) (by omega) (by show vb2 25 ≤ 200; omega) NSG.zero hJ
                · refine m_bipush (z := 62) C dX12_setWord_65 (by decide) ?_
                  refine m_goto (tgt := 72) C dX12_setWord_67 (by decide) ?_
                  refine m_istore (lv2 := [(4, .int (iI 62)), (2, .int (iI g)), (3, .int (iI x)), (0, .ref h0), (1, .int (iI t))]) C dX12_setWord_72 (by decide) rfl ?_
                  refine m_iload_n (j := 2) C dX12_setWord_74 rfl ?_
                  refine m_istore (lv2 := [(5, .int (iI x)), (4, .int (iI 62)), (2, .int (iI g)), (3, .int (iI x)), (0, .ref h0), (1, .int (iI t))]) C dX12_setWord_75 (by decide) rfl ?_
                  have rv27 : 0 ≤ vb2 25 ∧ vb2 25 ≤ 208 := bxb2.1 25
                  refine m_lv (lv2 := [(5, .int (iI x)), (4, .int (iI 62)), (2, .int (iI g)), (3, .int (iI x)), (0, .ref h0), (1, .int (iI t))]) [0, 1, 2, 3, 4, 5] rfl ?_
                  exact Lp3 503 62 x _ _ (by omega) bxb2 fpb2 (by omega) (by omega) (by show vb2 25 ≤ 200; omega) NSG.zero hJ
          have rv28 : 0 ≤ vb1 25 ∧ vb1 25 ≤ 208 := bxb1.1 25
          refine m_lv (lv2 := [(2, .int (iI 0)), (3, .int (iI 0)), (0, .ref h0), (1, .int (iI t))]) [1, 0, 2, 3] rfl ?_
          exact Lp2 503 0 0 _ _ (by omega) bxb1 fpb1 (by omega) (by omega) (by show vb1 25 ≤ 200; omega) (JW.init (by omega) hw hb)
        · refine m_aload_n (j := 1) C dX12_setWord_38 rfl ?_
          refine m_iload_n (j := 2) C dX12_setWord_39 rfl ?_
          refine m_iconst C dX12_setWord_40 ?_
          refine m_aload_n (j := 1) C dX12_setWord_41 rfl ?_
          refine m_get (k := 23) C dX12_setWord_42 w6_82 (by decide) rfl ?_
          refine m_st (st2 := [.int (iI (v 23)), .int (iI 0), .int (iI t), .ref h0]) (congrArg (fun z => Value.int (iI z) :: [.int (iI 0), .int (iI t), .ref h0]) (fpb1.1 23 rfl)) ?_
          refine hv3 (show 0 ≤ vb1 4 ∧ vb1 4 ≤ 30 from bxb1.1 4) (show vb1 4 = v 4 from fpb1.1 4 rfl) (show 0 ≤ vb1 25 ∧ vb1 25 ≤ 208 from bxb1.1 25) (fun rv29 ve12 rv30 => ?_)
          refine m_call (mc2 := 0) (ms2 := 0) (As := [.int (iI t), .int (iI 0), .int (iI (v 23))]) (rest := []) C (E_setPart (t := t) (q := 0) (u := v 23) bxb1 (hT.fr fpb1 rfl rfl) (by show 0 ≤ t ∧ t < (vb1 4); omega) (by show ab1 6 t.toNat ≤ 4; omega) (by show 0 ≤ (0 : Int) ∧ (0 : Int) ≤ (v 23) ∧ (v 23) ≤ 500; omega) (by show (vb1 25) ≤ 200; omega)) dX12_setWord_45 kV_X12_237 rfl ck_13 rfl (Nat.le_of_ble_eq_true rfl) ⟨Nat.le_of_ble_eq_true rfl, Nat.le_of_ble_eq_true rfl⟩ ⟨Nat.le_of_ble_eq_true rfl, Nat.le_of_ble_eq_true rfl⟩ (fun rh9 vh9 ah9 h9 => ?_)
          obtain ⟨f9, rfl, fn9, bn9, ex9⟩ := h9
          have fq18 := fpb1.call fn9 rfl rfl
          obtain ⟨ex9, tl9⟩ := ex9
          refine hv2 (show 0 ≤ vh9 25 ∧ vh9 25 ≤ 208 from bn9.1 25) (show f9 = 0 ∨ (f9 = 1 ∧ (vh9 25) ≤ 200) from ex9) (fun rv31 gf9 => ?_)
          refine m_st (st2 := [.int (iI f9)]) rfl ?_
          exact m_zret C dX12_setWord_48 rfl (by omega) (Nat.le_of_ble_eq_true rfl) (Nat.le_of_ble_eq_true rfl) ⟨f9, rfl, fq18, bn9, ⟨(by show f9 = 0 ∨ (f9 = 1 ∧ (vh9 25) ≤ 200); omega), SWT.plain (by omega) (TBE.fr fpb1 rfl) hw (MDH.nil hb) rfl tl9, (SWB.plain (TBE.fr fpb1 rfl) hw (MDH.nil hb) rfl tl9 hb26 (by omega))⟩⟩
      · refine m_aload_n (j := 1) C dX12_setWord_15 rfl ?_
        refine m_geta (k := 26) C dX12_setWord_16 w6_85 (by decide) rfl ?_
        refine m_iload_n (j := 0) C dX12_setWord_19 rfl ?_
        refine m_iconst C dX12_setWord_20 ?_
        refine m_ast (k := 26) C dX12_setWord_21 rfl rfl (by decide) hk.1 (Int.lt_of_le_of_lt hk.2 (by decide)) (by decide) ?_
        refine hv2 (show BX vb1 (up2 ab1 26 k.toNat (-1)) from bxb1.set (k := 26) (i := k.toNat) (z := (-1)) ⟨by decide, by decide⟩) (fpb1.set (k := 26) (i := k.toNat) (z := (-1)) rfl) (fun bq10 fq19 => ?_)
        refine m_iinc (z := k) (j := 0) (lv2 := [(2, .int (iI (k + 1))), (0, .ref h0), (1, .int (iI t))]) C dX12_setWord_22 rfl (by decide) rfl ?_
        refine m_goto (tgt := 7) C dX12_setWord_25 (by decide) ?_
        have rv32 : 0 ≤ vb1 25 ∧ vb1 25 ≤ 208 := bq10.1 25
        refine m_lv (lv2 := [(2, .int (iI (k + 1))), (0, .ref h0), (1, .int (iI t))]) [0, 1, 2] rfl ?_
        exact ih1  (k + 1) _ _ (by omega) bq10 fq19 (by omega) (by show (vb1 25) = 0; omega) ((funext fun _ => up2_k (by decide)).trans hw) (fun j hj => by unfold up2; rw [if_pos rfl]; split; rfl; exact hb26 j (by omega))
  refine m_lv (lv2 := [(2, .int (iI 0)), (0, .ref h0), (1, .int (iI t))]) [0, 1, 2] rfl ?_
  exact Lp1 503 0 _ _ (by omega) bq1 fq1 (by omega) (by show 0 = 0; omega) rfl (fun j hj => absurd hj (by omega))
end
section
def AGW (W W2 : Nat → Int) (q u : Int) : Prop := ∀ j : Int, q ≤ j → j < u → W j.toNat = W2 j.toNat
def TLT (T : Nat → Int) (n : Int) : Prop := ∀ j : Int, 0 ≤ j → j < n → 33 ≤ T j.toNat ∧ T j.toNat ≤ 125
def HDS (v : Nat → Int) (a : Nat → Nat → Int) (t f : Int) : Prop := (¬ (v 3 ≤ 40 ∧ TLT (a 2) (v 3) ∧ WHL v a t ∧ ∃ cs, SWC a (a 2) (v 3) t cs) ∧ f = -1) ∨ ((v 3 ≤ 40 ∧ TLT (a 2) (v 3) ∧ WHL v a t) ∧ ∃ cs, SWC a (a 2) (v 3) t cs ∧ ((((cs.length : Nat) : Int) ≤ v 31 ∧ f = ((cs.length : Nat) : Int)) ∨ (v 31 < ((cs.length : Nat) : Int) ∧ f = v 31)))
section HEAD
variable {v v1 v2 v3 : Nat → Int} {a a1 a2 a3 : Nat → Nat → Int} {W W2 : Nat → Int} {q u x y z t r s k f f1 f2 I c g g2 x2 n l m : Int} {cs ds l0 : List Int} {ps qs : List (Int × List Int)} {js : List (Int × List (Int × List Int))}
theorem AGW.symm (h : AGW W W2 q u) : AGW W2 W q u := fun j h1 h2 => (h j h1 h2).symm
theorem AGW.up (h : AGW W W2 q u) (hx : q ≤ x) (h0 : 0 ≤ q) : AGW (va_up W x.toNat z) (va_up W2 x.toNat z) q u := fun j h1 h2 => by
  unfold va_up
  split
  · rfl
  · exact h j h1 h2
theorem AGW.sub (h : AGW W W2 q u) (h1 : q ≤ x) (h2 : y ≤ u) : AGW W W2 x y := fun j h3 h4 => h j (by omega) (by omega)
theorem FIT_w (h : AGW W W2 q u) (hx : q ≤ x) (h12 : 0 ≤ a 12 r.toNat) (hf : FIT a W q u x r) : FIT a W2 q u x r := by
  obtain ⟨⟨h1, h2⟩, h3⟩ := hf
  refine ⟨⟨h1, fun j j0 j1 => by rw [h2 j j0 j1]; exact h (x + j) (by omega) (by omega)⟩, ?_⟩
  unfold CND at h3 ⊢
  by_cases e : x + a 12 r.toNat = u
  · rcases h3 with h3 | h3 | h3 | h3 | h3 | h3
    · exact Or.inl h3
    · exact Or.inr (Or.inl h3)
    · exact Or.inr (Or.inr (Or.inl h3))
    · exact Or.inr (Or.inr (Or.inr (Or.inl h3)))
    · exact Or.inr (Or.inr (Or.inr (Or.inr (Or.inl h3))))
    · exact absurd e h3.2.1
  · rw [← h (x + a 12 r.toNat) (by omega) (by omega)]; exact h3
theorem OWR_w (h : AGW W W2 q u) (hx : q ≤ x) (h12 : ∀ i, 0 ≤ a 12 i) (ho : OWR a W q u x t r) : OWR a W2 q u x t r := by
  rcases ho with ⟨h1, h2⟩ | ⟨h1, h2, h3⟩
  · exact Or.inl ⟨h1, fun s s1 s2 w => h2 s s1 s2 (FIT_w h.symm hx (h12 _) w)⟩
  · exact Or.inr ⟨h1, FIT_w h hx (h12 _) h2, fun s s1 s2 w => h3 s s1 s2 (FIT_w h.symm hx (h12 _) w)⟩
theorem fnd_w (hx : 0 ≤ q ∧ q ≤ x ∧ x < u) (h12 : ∀ i, 0 ≤ a 12 i) : ∀ (n : Nat) (W W2 : Nat → Int) (t r : Int), AGW W W2 q u → fnd a q u x n W t r → fnd a q u x n W2 t r := by
  intro n
  induction n with
  | zero => intro W W2 t r _ h; exact h
  | succ n ih =>
    intro W W2 t r hw h
    have e := hw x hx.2.1 hx.2.2
    rw [fnd_s] at h
    rw [fnd_s, ← e]
    obtain ⟨p1, p2, p3, p4⟩ := h
    have hu := AGW.up (z := sml (W x.toNat)) hw hx.2.1 hx.1
    refine ⟨fun k => ?_, fun k => ⟨fun c => OWR_w hw hx.2.1 h12 ((p2 k).1 c), fun c => ih _ _ _ _ hw ((p2 k).2 c)⟩, fun k => ?_, fun k => OWR_w hw hx.2.1 h12 (p4 k)⟩
    · obtain ⟨y, z, e1, e2, e3⟩ := p1 k
      exact ⟨y, z, OWR_w hw hx.2.1 h12 e1, ih _ _ _ _ hw e2, e3⟩
    · obtain ⟨y, z, e1, e2, e3⟩ := p3 k
      exact ⟨y, z, OWR_w hu hx.2.1 h12 e1, ih _ _ _ _ hu e2, e3⟩
theorem nbl_w (hw : AGW W W2 q u) (hx : 0 ≤ q ∧ q ≤ x ∧ x < u) : nbl a W t q x = nbl a W2 t q x := by
  unfold nbl
  rw [hw x hx.2.1 hx.2.2]
  by_cases e : x = q
  · by_cases c : a 6 t.toNat = 2 ∧ isD (W2 x.toNat)
    · rw [if_pos ⟨c.1, c.2, Or.inl e⟩, if_pos ⟨c.1, c.2, Or.inl e⟩]
    · rw [if_neg (fun w => c ⟨w.1, w.2.1⟩), if_neg (fun w => c ⟨w.1, w.2.1⟩)]
  · rw [hw (x - 1) (by omega) (by omega)]
theorem PC1_w (hw : AGW W W2 q u) (hx : 0 ≤ q ∧ q ≤ x ∧ x < u) (h12 : ∀ i, 0 ≤ a 12 i) (hp : PC1 a W t q u x l cs) : PC1 a W2 t q u x l cs := by
  obtain ⟨r, p1, p3⟩ := hp
  refine ⟨r, p1, ?_⟩
  have e := hw x hx.2.1 hx.2.2
  rcases p3 with ⟨p4, p5⟩ | ⟨p4, p5, p6, p7⟩
  · rw [nbl_w hw hx] at p5
    exact Or.inl ⟨fnd_w hx h12 _ _ _ _ _ hw p4, p5⟩
  · rw [nbl_w hw hx] at p7
    rw [e] at p5
    have p8 := fnd_w hx h12 _ _ _ _ _ (AGW.up (z := W x.toNat + 32) hw hx.2.1 hx.1) p6
    rw [e] at p8
    exact Or.inr ⟨fnd_w hx h12 _ _ _ _ _ hw p4, p5, p8, p7⟩
theorem ptp_w (hw : AGW W W2 q u) (h0 : 0 ≤ q) (h12 : ∀ i, 0 ≤ a 12 i) : ∀ (ps : List (Int × List Int)) (x y : Int), q ≤ x → ptp a W t q u x ps y → ptp a W2 t q u x ps y := by
  intro ps
  induction ps with
  | nil => intro x y _ e; exact e
  | cons p ps ih =>
    intro x y hx e
    obtain ⟨h1, h2, l, h3, h4⟩ := e
    have h5 : 0 ≤ l := by
      obtain ⟨r, ⟨_, p2⟩, _⟩ := h3
      rw [p2]; exact h12 _
    exact ⟨h1, h2, l, PC1_w hw ⟨h0, hx, h1⟩ h12 h3, ih _ _ (by omega) h4⟩
theorem SEG_w (hw : AGW W W2 0 n) (h0 : 0 ≤ x) (h12 : ∀ i, 0 ≤ a 12 i) (h : SEG a W n t g x y ps) : SEG a W2 n t g x y ps := by
  obtain ⟨⟨p1, p2⟩, p3, p4, z, p5, p6⟩ := h
  refine ⟨⟨p1, p2⟩, fun j j1 j2 => ?_, ?_, z, ptp_w (hw.sub h0 p2) h0 h12 ps x z (Int.le_refl _) p5, p6⟩
  · rw [← hw j (by omega) (by omega)]; exact p3 j j1 j2
  · by_cases e : y = n
    · exact Or.inl e
    · rcases p4 with p4 | p4
      · exact Or.inl p4
      · exact Or.inr (by rw [← hw y (by omega) (by omega)]; exact p4)
theorem jtp_w (hw : AGW W W2 0 n) (h12 : ∀ i, 0 ≤ a 12 i) : ∀ (js : List (Int × List (Int × List Int))) (g x g2 x2 : Int), 0 ≤ x → jtp a W n t g x js g2 x2 → jtp a W2 n t g x js g2 x2 ∧ 0 ≤ x2 := by
  intro js
  induction js with
  | nil => intro g x g2 x2 h0 h; obtain ⟨rfl, rfl⟩ := h; exact ⟨⟨rfl, rfl⟩, h0⟩
  | cons p js ih =>
    intro g x g2 x2 h0 h
    obtain ⟨k1, k2, k3, k4⟩ := h
    have e := k1.1.1
    obtain ⟨m1, m2⟩ := ih _ _ _ _ (by omega) k4
    exact ⟨⟨SEG_w hw h0 h12 k1, k2, k3, m1⟩, m2⟩
theorem SWC_w (hw : AGW W W2 0 n) (h12 : ∀ i, 0 ≤ a 12 i) (h : SWC a W n t cs) : SWC a W2 n t cs := by
  rcases h with ⟨h1, ps, ⟨⟨y, h2, h3⟩, h4⟩, h5⟩ | ⟨h1, h2, js, ps, g, x, h3, h4, h5⟩
  · exact Or.inl ⟨h1, ps, ⟨⟨y, ptp_w hw (Int.le_refl _) h12 ps 0 y (Int.le_refl _) h2, h3⟩, h4⟩, h5⟩
  · obtain ⟨m1, m2⟩ := jtp_w hw h12 js 0 0 g x (Int.le_refl _) h3
    exact Or.inr ⟨h1, h2, js, ps, g, x, m1, SEG_w hw m2 h12 h4, h5⟩
theorem SWC.uni (hT : TBL v a) (ht : 0 ≤ t ∧ t < v 4) (h : SWC a W n t cs) (h2 : SWC a W n t ds) : cs = ds := by
  rcases h with ⟨p1, ps, ⟨⟨y, p2, p3⟩, p4⟩, p5⟩ | ⟨p1, p2, js, ps, g, x, p3, p4, p5⟩
  · rcases h2 with ⟨_, qs, ⟨⟨z, q2, q3⟩, q4⟩, q5⟩ | ⟨q1, _⟩
    · rw [p5, q5, ptp.uni hT ht.1 ht.2 p2 p3 q2 q3]
    · exact absurd q1 p1
  · rcases h2 with ⟨q1, _⟩ | ⟨_, q2, ks, qs, g2, x2, q3, q4, q5⟩
    · exact absurd p1 q1
    · obtain ⟨ls, k1, k2⟩ := jtp.ext hT ht p1 js ks 0 0 g2 x2 qs p3 q3 q4
      have pk := prt.ok (g := g) hT ht p1
      cases ls with
      | nil =>
        obtain ⟨rfl, rfl⟩ := k2
        have e := SEG.uni hT pk.1.1 pk.1.2 p4 q4
        rw [List.append_nil] at k1
        rw [p5, q5, k1, e.2]
      | cons p ls =>
        obtain ⟨m1, m2, _, _⟩ := k2
        have e := SEG.uni hT pk.1.1 pk.1.2 p4 m1
        omega
theorem SWC.nil (hT : TBL v a) (ht : 0 ≤ t ∧ t < v 4) : SWC a W 0 t [] := by
  by_cases h : a 6 t.toNat = 5
  · exact Or.inr ⟨h, by decide, [], [], 0, 0, ⟨rfl, rfl⟩, ⟨⟨Int.le_refl _, Int.le_refl _⟩, NSG.zero, Or.inl rfl, 0, rfl, Int.le_refl _⟩, rfl⟩
  · exact Or.inl ⟨h, [], ⟨⟨0, rfl, Int.le_refl _⟩, by decide⟩, rfl⟩
theorem HDS.uni (hT : TBL v a) (h : HDS v a t f1) (h2 : HDS v a t f2) : f1 = f2 := by
  rcases h with ⟨p1, p2⟩ | ⟨p1, cs, p2, p3⟩
  · rcases h2 with ⟨q1, q2⟩ | ⟨q1, ds, q2, _⟩
    · omega
    · exact absurd ⟨q1.1, q1.2.1, q1.2.2, ds, q2⟩ p1
  · rcases h2 with ⟨q1, q2⟩ | ⟨q1, ds, q2, q3⟩
    · exact absurd ⟨p1.1, p1.2.1, p1.2.2, cs, p2⟩ q1
    · have w := WHL.tr p1.2.2
      have e := SWC.uni hT ⟨w.1, w.2.1⟩ p2 q2
      subst e
      omega
end HEAD
section SWCG
variable {a a1 : Nat → Nat → Int} {W : Nat → Int} {n t g x y : Int} {cs : List Int} {ps : List (Int × List Int)}
theorem SEG_cg (h : TBE a1 a) (hs : SEG a1 W n t g x y ps) : SEG a W n t g x y ps := by
  obtain ⟨p1, p3, p4, z, p5, p6⟩ := hs
  have e : prt a1 t g = prt a t g := by unfold prt; rw [h 8 (by decide), h 9 (by decide)]
  rw [e] at p5
  exact ⟨p1, p3, p4, z, ptp_cg h _ _ _ p5, p6⟩
theorem jtp_cg (h : TBE a1 a) : ∀ (js : List (Int × List (Int × List Int))) (g x g2 x2 : Int), jtp a1 W n t g x js g2 x2 → jtp a W n t g x js g2 x2 := by
  intro js
  induction js with
  | nil => intro g x g2 x2 e; exact e
  | cons p js ih =>
    intro g x g2 x2 e
    obtain ⟨k1, k2, k3, k4⟩ := e
    rw [h 16 (by decide)] at k3
    exact ⟨SEG_cg h k1, k2, k3, ih _ _ _ _ k4⟩
theorem jcl_cg (h : TBE a1 a) : ∀ (js : List (Int × List (Int × List Int))) (g : Int), jcl a1 t g js = jcl a t g js := by
  intro js
  induction js with
  | nil => intro g; rfl
  | cons p js ih =>
    intro g
    show (cls p.2 ++ ICL a1 (ind4 t g)) ++ jcl a1 t (1 - g) js = (cls p.2 ++ ICL a (ind4 t g)) ++ jcl a t (1 - g) js
    rw [ih, ICL_cg (h 16 (by decide)) (h 17 (by decide))]
theorem SWC_cg (h : TBE a1 a) (hs : SWC a1 W n t cs) : SWC a W n t cs := by
  have h6 := h 6 (by decide)
  rcases hs with ⟨h1, ps, h2, h5⟩ | ⟨h1, h2, js, ps, g, x, h3, h4, h5⟩
  · rw [h6] at h1
    exact Or.inl ⟨h1, ps, SPS_cg h h2, h5⟩
  · rw [h6] at h1
    rw [jcl_cg h] at h5
    exact Or.inr ⟨h1, h2, js, ps, g, x, jtp_cg h _ _ _ _ _ h3, SEG_cg h h4, h5⟩
end SWCG
def TLG (T : Nat → Int) (n k g : Int) : Prop := g = 1 ↔ (n ≤ 40 ∧ TLT T k)
def WDK (W T : Nat → Int) (k : Int) : Prop := ∀ j : Int, 0 ≤ j → j < k → W j.toNat = T j.toNat
def HDR (v : Nat → Int) (a : Nat → Nat → Int) (t z : Int) : Prop := ∃ cs, SWC a (a 2) (v 3) t cs ∧ ((((cs.length : Nat) : Int) ≤ v 31 ∧ z = ((cs.length : Nat) : Int)) ∨ (v 31 < ((cs.length : Nat) : Int) ∧ z = v 31))
def HDC (v : Nat → Int) (a : Nat → Nat → Int) (t m : Int) : Prop := ∃ cs, SWC a (a 2) (v 3) t cs ∧ m = ((cs.length : Nat) : Int)
section HED2
variable {v v1 v2 v3 : Nat → Int} {a a1 a2 a3 : Nat → Nat → Int} {W W2 T : Nat → Int} {t k f f1 g n m z : Int} {i : Nat}
theorem TLG.init (h : g = 1 ↔ n ≤ 40) : TLG T n 0 g := ⟨fun e => ⟨h.mp e, fun j h1 h2 => absurd h1 (by omega)⟩, fun e => h.mpr e.1⟩
theorem TLG.step1 (h : TLG T n k g) (hg : g = 1) (e : 33 ≤ T k.toNat ∧ T k.toNat ≤ 125) : TLG T n (k + 1) 1 := ⟨fun _ => ⟨(h.mp hg).1, fun j h1 h2 => by
  by_cases w : j < k
  · exact (h.mp hg).2 j h1 w
  · rw [show j = k by omega]; exact e⟩, fun _ => rfl⟩
theorem TLG.step0 (h0 : 0 ≤ k) (e : ¬ (33 ≤ T k.toNat ∧ T k.toNat ≤ 125)) : TLG T n (k + 1) 0 := ⟨fun w => absurd w (by decide), fun w => absurd (w.2 k h0 (by omega)) e⟩
theorem TLG.no (h : TLG T n k g) (hg : g ≠ 1) (hk : k ≤ n) : ¬ (n ≤ 40 ∧ TLT T n) := fun w => hg (h.mpr ⟨w.1, fun j h1 h2 => w.2 j h1 (by omega)⟩)
theorem TLG.yes (h : TLG T n k g) (hg : g = 1) (hk : n ≤ k) : n ≤ 40 ∧ TLT T n := ⟨(h.mp hg).1, fun j h1 h2 => (h.mp hg).2 j h1 (by omega)⟩
theorem whl_cg (h4 : v1 4 = v 4) (h5 : a1 5 = a 5) (h6 : a1 6 = a 6) (h8 : a1 8 = a 8) (h9 : a1 9 = a 9) : ∀ (n : Nat) (t : Int), whl v1 a1 n t ↔ whl v a n t := by
  intro n
  induction n with
  | zero => intro t; exact Iff.rfl
  | succ n ih =>
    intro t
    show ((0 ≤ t ∧ t < v1 4 ∧ a1 5 t.toNat = 1) ∧ (a1 6 t.toNat = 5 → whl v1 a1 n (a1 8 t.toNat) ∧ whl v1 a1 n (a1 9 t.toNat)) ∧ (1 ≤ a1 6 t.toNat → a1 6 t.toNat ≤ 3 → whl v1 a1 n (a1 8 t.toNat))) ↔ ((0 ≤ t ∧ t < v 4 ∧ a 5 t.toNat = 1) ∧ (a 6 t.toNat = 5 → whl v a n (a 8 t.toNat) ∧ whl v a n (a 9 t.toNat)) ∧ (1 ≤ a 6 t.toNat → a 6 t.toNat ≤ 3 → whl v a n (a 8 t.toNat)))
    rw [h4, h5, h6, h8, h9, ih, ih]
theorem WHE.cg (h : WHE f v1 a1 31 t) (h4 : v1 4 = v 4) (h5 : a1 5 = a 5) (h6 : a1 6 = a 6) (h8 : a1 8 = a 8) (h9 : a1 9 = a 9) : f = 1 ↔ WHL v a t := h.trans (whl_cg h4 h5 h6 h8 h9 31 t)
theorem WDK.zero : WDK W T 0 := fun j h1 h2 => absurd h1 (by omega)
theorem WDK.step (h : WDK (a1 20) T k) (h0 : 0 ≤ k) (hz : z = T k.toNat) (h2 : a2 20 = up2 a1 20 k.toNat z 20) : WDK (a2 20) T (k + 1) := fun j h1 h3 => by
  rw [h2]
  by_cases w : j < k
  · rw [up2_j (by omega)]; exact h j h1 w
  · rw [show j = k by omega, up2_s]; exact hz
theorem HDC.set (hs : SWT v1 a1 v2 a2 t f) (e : f = 1) (hE : TBE a1 a) (hw : WDK (a1 20) (a 2) n) (hn : n = v 3) (h23 : v1 23 = v 3) (h12 : ∀ i, 0 ≤ a 12 i) (hm : m = v2 25) : HDC v a t m := by
  subst hn
  obtain ⟨cs, g1, g2⟩ := hs.2.1 e
  rw [h23] at g1
  exact ⟨cs, SWC_w hw h12 (SWC_cg hE g1), hm.trans g2.1⟩
theorem HDC.no (hs : SWT v1 a1 v2 a2 t f) (e : f ≠ 1) (hE : TBE a1 a) (hw : WDK (a1 20) (a 2) n) (hn : n = v 3) (h23 : v1 23 = v 3) (h12 : ∀ i, 0 ≤ a1 12 i) : ¬ ∃ cs, SWC a (a 2) (v 3) t cs := fun w => by
  subst hn
  obtain ⟨cs, g⟩ := w
  refine hs.2.2 e ⟨cs, ?_⟩
  rw [h23]
  exact SWC_w (W := a 2) (fun j h1 h2 => (hw j h1 h2).symm) h12 (SWC_cg hE.symm g)
theorem HDC.nil (hT : TBL v a) (ht : 0 ≤ t ∧ t < v 4) (hn : v 3 = 0) (hm : m = 0) : HDC v a t m := ⟨[], by rw [hn]; exact SWC.nil hT ht, hm⟩
theorem HDC.min (h : HDC v a t m) (hz : (z = m ∧ m ≤ v 31) ∨ (z = v 31 ∧ v 31 < m)) : HDR v a t z := by
  obtain ⟨cs, h1, h2⟩ := h
  exact ⟨cs, h1, by omega⟩
theorem HDS.bad (h : ¬ (v 3 ≤ 40 ∧ TLT (a 2) (v 3))) (hf : f = -1) : HDS v a t f := Or.inl ⟨fun w => h ⟨w.1, w.2.1⟩, hf⟩
theorem HDS.nw (h : ¬ WHL v a t) (hf : f = -1) : HDS v a t f := Or.inl ⟨fun w => h w.2.2.1, hf⟩
theorem HDS.ns (h : ¬ ∃ cs, SWC a (a 2) (v 3) t cs) (hf : f = -1) : HDS v a t f := Or.inl ⟨fun w => h w.2.2.2, hf⟩
theorem HDS.ok (h : v 3 ≤ 40 ∧ TLT (a 2) (v 3)) (hw : WHL v a t) (hr : HDR v a t z) (hf : f = z) : HDS v a t f := by
  subst hf
  exact Or.inr ⟨⟨h.1, h.2, hw⟩, hr⟩
end HED2
end
section
def tw (T : Nat → Int) (N : Nat) : Nat → Nat → Int → List (Int × Nat × Int) → Nat × List (Int × Nat × Int)
  | 0, p, _, w => (p, w)
  | n + 1, p, b, w => if N ≤ p ∨ T p = 10 then (p, w) else if T p = 32 then (if w.length = 0 then tw T N n (p + 1) b w else (p, w)) else if T p = 126 then tw T N n (p + 1) 1 w else tw T N n (p + 1) 0 (w ++ [(T p, p, b)])
def NNL (T : Nat → Int) (q u : Int) : Prop := ∀ j : Int, q ≤ j → j < u → T j.toNat ≠ 10
def LEX (T : Nat → Int) (N q f : Int) : Prop := NNL T q f ∧ (N ≤ f ∨ T f.toNat = 10)
def TKP (T : Nat → Int) (N q u : Int) : Prop := (q ≤ u ∧ u ≤ N) ∧ NNL T q u ∧ (u = N ∨ T u.toNat = 10)
def TWF (T : Nat → Int) (N q : Int) : Nat × List (Int × Nat × Int) := tw T N.toNat (N.toNat + 1 - q.toNat) q.toNat 0 []
def TKI (T : Nat → Int) (N q p b : Int) (w : List (Int × Nat × Int)) : Prop := ∃ n, N.toNat + 1 ≤ n + p.toNat ∧ TWF T N q = tw T N.toNat n p.toNat b w
def WDH (v : Nat → Int) (a : Nat → Nat → Int) (w : List (Int × Nat × Int)) : Prop := v 23 = ((w.length : Nat) : Int) ∧ ∀ (j : Nat) (x : Int × Nat × Int), w[j]? = some x → a 20 j = x.1 ∧ a 21 j = ((x.2.1 : Nat) : Int) ∧ (1 ≤ j → a 22 j = x.2.2)
def TKW (v : Nat → Int) (a : Nat → Nat → Int) (T : Nat → Int) (N q x : Int) : Prop := ∃ w b, TKI T N q x b w ∧ WDH v a w ∧ (1 ≤ w.length → a 22 w.length = b)
def TKX (T : Nat → Int) (N : Int) (v : Nat → Int) (a : Nat → Nat → Int) (q f : Int) : Prop := ∃ w, TWF T N q = (f.toNat, w) ∧ WDH v a w
section WORDS
variable {v v2 : Nat → Int} {a a1 : Nat → Nat → Int} {T : Nat → Int} {N q u p b f z y x l : Int} {w : List (Int × Nat × Int)} {i i2 i3 pp n M P : Nat}
theorem tw_s : tw T M (n + 1) P b w = if M ≤ P ∨ T P = 10 then (P, w) else if T P = 32 then (if w.length = 0 then tw T M n (P + 1) b w else (P, w)) else if T P = 126 then tw T M n (P + 1) 1 w else tw T M n (P + 1) 0 (w ++ [(T P, P, b)]) := rfl
theorem TKI.init : TKI T N q q 0 [] := ⟨_, by omega, rfl⟩
theorem TKI.unf (h : TKI T N q p b w) (hp : 0 ≤ p ∧ p < N) (hn : T p.toNat ≠ 10) : ∃ n, N.toNat + 1 ≤ n + (p + 1).toNat ∧ TWF T N q = if T p.toNat = 32 then (if w.length = 0 then tw T N.toNat n (p + 1).toNat b w else (p.toNat, w)) else if T p.toNat = 126 then tw T N.toNat n (p + 1).toNat 1 w else tw T N.toNat n (p + 1).toNat 0 (w ++ [(T p.toNat, p.toNat, b)]) := by
  obtain ⟨n, h1, h2⟩ := h
  cases n with
  | zero => omega
  | succ n =>
    refine ⟨n, by omega, ?_⟩
    have no : ¬ (N.toNat ≤ p.toNat ∨ T p.toNat = 10) := fun e => by
      rcases e with e | e
      · omega
      · exact hn e
    rw [h2, tw_s, if_neg no, show (p + 1).toNat = p.toNat + 1 by omega]
theorem TKI.sp (h : TKI T N q p b w) (hp : 0 ≤ p ∧ p < N) (e : T p.toNat = 32) (hw : w.length = 0) : TKI T N q (p + 1) b w := by
  obtain ⟨n, h1, h2⟩ := h.unf hp (by omega)
  rw [if_pos e, if_pos hw] at h2
  exact ⟨n, h1, h2⟩
theorem TKI.til (h : TKI T N q p b w) (hp : 0 ≤ p ∧ p < N) (e : T p.toNat = 126) : TKI T N q (p + 1) 1 w := by
  obtain ⟨n, h1, h2⟩ := h.unf hp (by omega)
  rw [if_neg (by omega), if_pos e] at h2
  exact ⟨n, h1, h2⟩
theorem TKI.ltr (h : TKI T N q p b w) (hp : 0 ≤ p ∧ p < N) (h0 : T p.toNat ≠ 10) (e1 : T p.toNat ≠ 32) (e2 : T p.toNat ≠ 126) : TKI T N q (p + 1) 0 (w ++ [(T p.toNat, p.toNat, b)]) := by
  obtain ⟨n, h1, h2⟩ := h.unf hp h0
  rw [if_neg e1, if_neg e2] at h2
  exact ⟨n, h1, h2⟩
theorem TKI.end1 (h : TKI T N q p b w) (hp : 0 ≤ p) (he : N ≤ p ∨ T p.toNat = 10) : TWF T N q = (p.toNat, w) := by
  obtain ⟨n, h1, h2⟩ := h
  rw [h2]
  cases n with
  | zero => rfl
  | succ n =>
    rw [tw_s, if_pos]
    rcases he with e | e
    · exact Or.inl (by omega)
    · exact Or.inr e
theorem TKI.end2 (h : TKI T N q p b w) (hp : 0 ≤ p ∧ p < N) (e : T p.toNat = 32) (hw : w.length ≠ 0) : TWF T N q = (p.toNat, w) := by
  obtain ⟨n, h1, h2⟩ := h.unf hp (by omega)
  rw [if_pos e, if_neg hw] at h2
  exact h2
theorem WDH.nil (h : v 23 = 0) : WDH v a [] := ⟨h, fun j x e => by simp at e⟩
theorem wnil (h : w.length = 0) : w = [] := List.length_eq_zero_iff.mp h
theorem gl3 {α : Type} {ls : List α} {d : α} {r : Nat} (h : ls[r]? = some d) : r < ls.length := by
  by_cases e : r < ls.length
  · exact e
  · rw [List.getElem?_eq_none (by omega)] at h; cases h
theorem WDH.push (h : WDH v a w) (hb : 1 ≤ w.length → a 22 w.length = b) (hi : i = w.length) (hi2 : i2 = w.length) (hi3 : i3 = w.length + 1) (hv : v2 23 = v 23 + 1) (hz : z = l) (hy : y = ((pp : Nat) : Int)) : WDH v2 (up2 (up2 (up2 a 20 i z) 21 i2 y) 22 i3 0) (w ++ [(l, pp, b)]) ∧ (1 ≤ (w ++ [(l, pp, b)]).length → up2 (up2 (up2 a 20 i z) 21 i2 y) 22 i3 0 22 (w ++ [(l, pp, b)]).length = 0) := by
  have e0 : (w ++ [(l, pp, b)]).length = w.length + 1 := by rw [List.length_append]; rfl
  subst hi
  subst hi2
  subst hi3
  subst hz
  subst hy
  obtain ⟨h1, h2⟩ := h
  refine ⟨⟨by omega, fun j x e => ?_⟩, fun _ => by rw [e0, up2_s]⟩
  have v20 : up2 (up2 (up2 a 20 w.length z) 21 w.length ((pp : Nat) : Int)) 22 (w.length + 1) 0 20 j = if j = w.length then z else a 20 j := by
    rw [up2_k (by decide), up2_k (by decide)]
    by_cases c : j = w.length
    · rw [c, up2_s, if_pos rfl]
    · rw [up2_j c, if_neg c]
  have v21 : up2 (up2 (up2 a 20 w.length z) 21 w.length ((pp : Nat) : Int)) 22 (w.length + 1) 0 21 j = if j = w.length then ((pp : Nat) : Int) else a 21 j := by
    rw [up2_k (by decide)]
    by_cases c : j = w.length
    · rw [c, up2_s, if_pos rfl]
    · rw [up2_j c, up2_k (by decide), if_neg c]
  have v22 : up2 (up2 (up2 a 20 w.length z) 21 w.length ((pp : Nat) : Int)) 22 (w.length + 1) 0 22 j = if j = w.length + 1 then 0 else a 22 j := by
    by_cases c : j = w.length + 1
    · rw [c, up2_s, if_pos rfl]
    · rw [up2_j c, up2_k (by decide), up2_k (by decide), if_neg c]
  rw [v20, v21, v22]
  have lt := gl3 e
  by_cases c : j < w.length
  · rw [List.getElem?_append_left c] at e
    rw [if_neg (by omega), if_neg (by omega), if_neg (by omega)]
    exact h2 j x e
  · rw [List.getElem?_append_right (by omega), show j - w.length = 0 by omega] at e
    cases e
    rw [if_pos (by omega), if_pos (by omega), if_neg (by omega)]
    refine ⟨rfl, rfl, fun q => ?_⟩
    rw [show j = w.length by omega]
    exact hb (by omega)
theorem TKW.init (h : v 23 = 0) : TKW v a T N q q := ⟨[], 0, TKI.init, WDH.nil h, fun e => absurd e (by decide)⟩
theorem TKW.sp (h : TKW v a T N q x) (hp : 0 ≤ x ∧ x < N) (e : T x.toNat = 32) (h23 : v 23 = 0) : TKW v a T N q (x + 1) := by
  obtain ⟨w, b, h1, h2, h3⟩ := h
  have h4 := h2.1
  exact ⟨w, b, h1.sp hp e (by omega), h2, h3⟩
theorem TKW.m0 (h : TKW v a T N q x) (h23 : v 23 = 0) : TKW v (up2 a 22 i z) T N q x := by
  obtain ⟨w, b, h1, h2, h3⟩ := h
  have h4 := h2.1
  have e := wnil (w := w) (by omega)
  subst e
  exact ⟨[], b, h1, WDH.nil h23, fun e => absurd e (by decide)⟩
theorem TKW.til (h : TKW v a T N q x) (hp : 0 ≤ x ∧ x < N) (e : T x.toNat = 126) (hi : i = (v 23).toNat) (hz : (0 < v 23 ∧ z = 1) ∨ (v 23 ≤ 0 ∧ z = 0)) : TKW v (up2 a 22 i z) T N q (x + 1) := by
  obtain ⟨w, b, h1, h2, h3⟩ := h
  have h4 := h2.1
  have ei : i = w.length := by omega
  subst ei
  refine ⟨w, 1, h1.til hp e, ⟨h4, fun j y g => ?_⟩, fun g => ?_⟩
  · have lt := gl3 g
    obtain ⟨k1, k2, k3⟩ := h2.2 j y g
    rw [up2_k (by decide), up2_k (by decide), up2_j (by omega)]
    exact ⟨k1, k2, k3⟩
  · rw [up2_s]; omega
theorem TKW.ltr (h : TKW v a T N q x) (hp : 0 ≤ x ∧ x < N) (h0 : T x.toNat ≠ 10) (e1 : T x.toNat ≠ 32) (e2 : T x.toNat ≠ 126) (hi : i = (v 23).toNat) (hi2 : i2 = (v 23).toNat) (hi3 : i3 = (v 23 + 1).toNat) (hv : v2 23 = v 23 + 1) (hz : z = T x.toNat) (hy : y = x) : TKW v2 (up2 (up2 (up2 a 20 i z) 21 i2 y) 22 i3 0) T N q (x + 1) := by
  obtain ⟨w, b, h1, h2, h3⟩ := h
  have h4 := h2.1
  obtain ⟨g1, g2⟩ := h2.push (v2 := v2) (l := T x.toNat) (pp := x.toNat) (i := i) (i2 := i2) (i3 := i3) (z := z) (y := y) h3 (by omega) (by omega) (by omega) hv hz (by omega)
  exact ⟨_, 0, h1.ltr hp h0 e1 e2, g1, g2⟩
theorem TKW.end1 (h : TKW v a T N q x) (hp : 0 ≤ x) (he : N ≤ x ∨ T x.toNat = 10) : TKX T N v a q x := by
  obtain ⟨w, b, h1, h2, h3⟩ := h
  exact ⟨w, h1.end1 hp he, h2⟩
theorem TKW.end2 (h : TKW v a T N q x) (hp : 0 ≤ x ∧ x < N) (e : T x.toNat = 32) (h23 : v 23 ≠ 0) : TKX T N v a q x := by
  obtain ⟨w, b, h1, h2, h3⟩ := h
  have h4 := h2.1
  exact ⟨w, h1.end2 hp e (by omega), h2⟩
theorem NNL.zero : NNL T q q := fun j h1 h2 => absurd h1 (by omega)
theorem NNL.step (h : NNL T q p) (e : T p.toNat ≠ 10) : NNL T q (p + 1) := fun j h1 h2 => by
  by_cases c : j < p
  · exact h j h1 c
  · rw [show j = p by omega]; exact e
theorem TKP.cg {T2 : Nat → Int} {N2 : Int} (h : TKP T N q u) (h29 : T2 = T) (h30 : N2 = N) : TKP T2 N2 q u := by
  subst h29
  subst h30
  exact h
end WORDS
set_option maxHeartbeats 4000000 in
set_option maxRecDepth 100000 in
theorem E_lineEnd {l : Launch} {G : GT} {h0 : Nat} {ad ln : Nat → Nat} {v : Nat → Int} {a : Nat → Nat → Int}  {q : Int} (hB : BX v a) (hq : 0 ≤ q ∧ q ≤ 1000) : Mm l G yX12_lineEnd cX12_lineEnd 3 (some .int) 0 [.int (iI q)] h0 ad ln v a 0 0 (fun r v2 a2 => ∃ f : Int, r = some (.int (iI f)) ∧ fr [] [] v a v2 a2 ∧ BX v2 a2 ∧ ((q ≤ f ∧ (f = q ∨ f ≤ v 30)) ∧ LEX (a 29) (v 30) q f)) := by
  refine Mm.mk (by decide) (Nat.le_of_ble_eq_true rfl) ?_
  intro p e s m args below meth c A C
  refine hv2 (show 0 ≤ v 30 ∧ v 30 ≤ 500 from hB.1 30) (show fr [] [] v a v a from fr.refl) (fun r30 fp0 => ?_)
  refine m_iload_n (j := 1) C dX12_lineEnd_0 rfl ?_
  refine m_istore_n (lv2 := [(2, .int (iI q)), (0, .ref h0), (1, .int (iI q))]) C dX12_lineEnd_1 (by decide) rfl ?_
  have Lp1 : ∀ (nn : Nat) (k : Int) (vb1 : Nat → Int) (ab1 : Nat → Nat → Int), 1001 - k < (nn : Int) → BX vb1 ab1 → fr [] [] v a vb1 ab1 → (q ≤ k ∧ k ≤ 1000 ∧ (k = q ∨ k ≤ v 30)) → (NNL (a 29) q k) → mw p l e (rmq 0 0 0) s m args below meth c G A 3 (MQ below (Qm G A (fun rq Lq Eq => ∃ (vq : Nat → Int) (aq : Nat → Nat → Int), mI G h0 ad ln vq aq Lq Eq ∧ (fun r v2 a2 => ∃ f : Int, r = some (.int (iI f)) ∧ fr [] [] v a v2 a2 ∧ BX v2 a2 ∧ ((q ≤ f ∧ (f = q ∨ f ≤ v 30)) ∧ LEX (a 29) (v 30) q f)) rq vq aq)) args s 0 0 A) h0 ad ln vb1 ab1 0 0 2 [(2, .int (iI k)), (0, .ref h0), (1, .int (iI q))] [] := by
    intro nn
    induction nn with
    | zero =>
      intro k vb1 ab1 hm bxb1 fpb1 hk hN
      obtain ⟨rfl, rfl⟩ := fpb1.eq
      exact absurd hm (by omega)
    | succ nn ih1 =>
      intro k vb1 ab1 hm bxb1 fpb1 hk hN
      obtain ⟨rfl, rfl⟩ := fpb1.eq
      refine m_iload_n (j := 0) C dX12_lineEnd_2 rfl ?_
      refine m_aload_n (j := 1) C dX12_lineEnd_3 rfl ?_
      have rv1 : 0 ≤ v 30 ∧ v 30 ≤ 500 := bxb1.1 30
      refine m_get (k := 30) C dX12_lineEnd_4 w6_89 (by decide) rfl ?_
      refine m_icmp_ge (tgt := 27) C ⟨by omega, by omega⟩ (r32_c (lo := 0) (hi := 500) rv1.1 rv1.2 (by decide) (by decide)) dX12_lineEnd_7 (by decide) (fun c1 => ?_) (fun c1 => ?_)
      · refine m_iload_n (j := 0) C dX12_lineEnd_27 rfl ?_
        exact m_iret C dX12_lineEnd_28 rfl (Nat.le_of_ble_eq_true rfl) (Nat.le_of_ble_eq_true rfl) ⟨k, rfl, fpb1, bxb1, ⟨by omega, hN, Or.inl (by omega)⟩⟩
      · refine m_aload_n (j := 1) C dX12_lineEnd_10 rfl ?_
        refine m_geta (k := 29) C dX12_lineEnd_11 w6_88 (by decide) rfl ?_
        refine m_iload_n (j := 0) C dX12_lineEnd_14 rfl ?_
        refine m_ald (k := 29) C dX12_lineEnd_15 rfl rfl (by decide) (by omega) (by show _ < ((_ : Nat) : Int); simp only [mlen]; omega) (by decide) ?_
        have ra1 : (-2147483648) ≤ a 29 k.toNat ∧ a 29 k.toNat ≤ 2147483647 := bxb1.2 29 (k.toNat)
        refine m_bipush (z := 10) C dX12_lineEnd_16 (by decide) ?_
        refine m_icmp_eq (tgt := 27) C (r32_c (lo := (-2147483648)) (hi := 2147483647) ra1.1 ra1.2 (by decide) (by decide)) ⟨by decide, by decide⟩ dX12_lineEnd_18 (by decide) (fun c2 => ?_) (fun c2 => ?_)
        · refine m_iload_n (j := 0) C dX12_lineEnd_27 rfl ?_
          exact m_iret C dX12_lineEnd_28 rfl (Nat.le_of_ble_eq_true rfl) (Nat.le_of_ble_eq_true rfl) ⟨k, rfl, fpb1, bxb1, ⟨by omega, hN, Or.inr (by omega)⟩⟩
        · refine m_iinc (z := k) (j := 0) (lv2 := [(2, .int (iI (k + 1))), (0, .ref h0), (1, .int (iI q))]) C dX12_lineEnd_21 rfl (by decide) rfl ?_
          refine m_goto (tgt := 2) C dX12_lineEnd_24 (by decide) ?_
          refine m_lv (lv2 := [(2, .int (iI (k + 1))), (0, .ref h0), (1, .int (iI q))]) [0, 1, 2] rfl ?_
          exact ih1  (k + 1) _ _ (by omega) bxb1 fpb1 (by omega) (hN.step (by omega))
  refine m_lv (lv2 := [(2, .int (iI q)), (0, .ref h0), (1, .int (iI q))]) [0, 1, 2] rfl ?_
  exact Lp1 1002 q _ _ (by omega) hB fp0 (by omega) NNL.zero
set_option maxHeartbeats 4000000 in
set_option maxRecDepth 100000 in
theorem E_takeWord {l : Launch} {G : GT} {h0 : Nat} {ad ln : Nat → Nat} {v : Nat → Int} {a : Nat → Nat → Int}  {q u : Int} (hB : BX v a) (hq : 0 ≤ q ∧ q ≤ 501) (hu : 0 ≤ u ∧ u ≤ 500) (hL : TKP (a 29) (v 30) q u) : Mm l G yX12_takeWord cX12_takeWord 4 (some .int) 0 [.int (iI q), .int (iI u)] h0 ad ln v a 0 0 (fun r v2 a2 => ∃ f : Int, r = some (.int (iI f)) ∧ fr [23] [20, 21, 22] v a v2 a2 ∧ BX v2 a2 ∧ (((f = q ∨ (q ≤ f ∧ f ≤ u)) ∧ v2 23 ≤ f - q) ∧ (TKX (a 29) (v 30) v2 a2 q f ∧ (v2 23 ≠ 0 ∨ f = u)))) := by
  refine Mm.mk (by decide) (Nat.le_of_ble_eq_true rfl) ?_
  intro p e s m args below meth c A C
  refine hv2 (hL.1) (show fr [23] [20, 21, 22] v a v a from fr.refl) (fun hL1 fp0 => ?_)
  refine m_iload_n (j := 1) C dX12_takeWord_0 rfl ?_
  refine m_istore_n (lv2 := [(3, .int (iI q)), (0, .ref h0), (1, .int (iI q)), (2, .int (iI u))]) C dX12_takeWord_1 (by decide) rfl ?_
  refine m_aload_n (j := 1) C dX12_takeWord_2 rfl ?_
  refine m_iconst C dX12_takeWord_3 ?_
  refine m_put (k := 23) (z := 0) C dX12_takeWord_4 w6_82 (by decide) rfl rfl rfl ?_
  refine hv2 (show BX (va_up v 23 0) a from hB.put (k := 23) (z := 0) ⟨by decide, by decide⟩) (fp0.put (k := 23) (z := 0) rfl) (fun bq1 fq1 => ?_)
  have Lp1 : ∀ (nn : Nat) (x : Int) (vb1 : Nat → Int) (ab1 : Nat → Nat → Int), 502 - x < (nn : Int) → BX vb1 ab1 → fr [23] [20, 21, 22] v a vb1 ab1 → (q ≤ x ∧ (x = q ∨ x ≤ u)) → (0 ≤ vb1 23 ∧ vb1 23 + q ≤ x) → (vb1 23 = 0 ∨ u ≤ x ∨ a 29 x.toNat = 32) → (TKW vb1 ab1 (a 29) (v 30) q x) → mw p l e (rmq 0 0 0) s m args below meth c G A 4 (MQ below (Qm G A (fun rq Lq Eq => ∃ (vq : Nat → Int) (aq : Nat → Nat → Int), mI G h0 ad ln vq aq Lq Eq ∧ (fun r v2 a2 => ∃ f : Int, r = some (.int (iI f)) ∧ fr [23] [20, 21, 22] v a v2 a2 ∧ BX v2 a2 ∧ (((f = q ∨ (q ≤ f ∧ f ≤ u)) ∧ v2 23 ≤ f - q) ∧ (TKX (a 29) (v 30) v2 a2 q f ∧ (v2 23 ≠ 0 ∨ f = u)))) rq vq aq)) args s 0 0 A) h0 ad ln vb1 ab1 0 0 7 [(3, .int (iI x)), (0, .ref h0), (1, .int (iI q)), (2, .int (iI u))] [] := by
    intro nn
    induction nn with
    | zero =>
      intro x vb1 ab1 hm bxb1 fpb1 hx h23 hsp hI
      exact absurd hm (by omega)
    | succ nn ih1 =>
      intro x vb1 ab1 hm bxb1 fpb1 hx h23 hsp hI
      refine m_iload_n (j := 0) C dX12_takeWord_7 rfl ?_
      refine m_iload_n (j := 3) C dX12_takeWord_8 rfl ?_
      refine m_icmp_ge (tgt := 150) C ⟨by omega, by omega⟩ ⟨by omega, by omega⟩ dX12_takeWord_9 (by decide) (fun c1 => ?_) (fun c1 => ?_)
      · refine m_iload_n (j := 0) C dX12_takeWord_150 rfl ?_
        have rv1 : 0 ≤ vb1 23 ∧ vb1 23 ≤ 500 := bxb1.1 23
        exact m_iret C dX12_takeWord_151 rfl (Nat.le_of_ble_eq_true rfl) (Nat.le_of_ble_eq_true rfl) ⟨x, rfl, fpb1, bxb1, ⟨(by show (x = q ∨ (q ≤ x ∧ x ≤ u)) ∧ vb1 23 ≤ x - q; omega), hI.end1 (by omega) (by have e : x = u := (by omega); rw [e]; rcases hL.2.2 with k | k; exact Or.inl (by omega); exact Or.inr k), Or.inr (by omega)⟩⟩
      · refine m_aload_n (j := 1) C dX12_takeWord_12 rfl ?_
        have rv2 : 0 ≤ vb1 23 ∧ vb1 23 ≤ 500 := bxb1.1 23
        refine m_get (k := 23) C dX12_takeWord_13 w6_82 (by decide) rfl ?_
        refine m_if_ne (tgt := 150) C (r32_c (lo := 0) (hi := 500) rv2.1 rv2.2 (by decide) (by decide)) dX12_takeWord_16 (by decide) (fun c2 => ?_) (fun c2 => ?_)
        · refine m_iload_n (j := 0) C dX12_takeWord_150 rfl ?_
          exact m_iret C dX12_takeWord_151 rfl (Nat.le_of_ble_eq_true rfl) (Nat.le_of_ble_eq_true rfl) ⟨x, rfl, fpb1, bxb1, ⟨(by show (x = q ∨ (q ≤ x ∧ x ≤ u)) ∧ vb1 23 ≤ x - q; omega), hI.end2 ⟨by omega, by omega⟩ (by omega) (by omega), Or.inl (by show (vb1 23) ≠ 0; omega)⟩⟩
        · have Lp2 : ∀ (nn : Nat) (z : Int) (vb2 : Nat → Int) (ab2 : Nat → Nat → Int), 502 - z < (nn : Int) → BX vb2 ab2 → fr [23] [20, 21, 22] v a vb2 ab2 → (x ≤ z ∧ z ≤ u) → (vb2 23 = 0) → (TKW vb2 ab2 (a 29) (v 30) q z) → mw p l e (rmq 0 0 0) s m args below meth c G A 4 (MQ below (Qm G A (fun rq Lq Eq => ∃ (vq : Nat → Int) (aq : Nat → Nat → Int), mI G h0 ad ln vq aq Lq Eq ∧ (fun r v2 a2 => ∃ f : Int, r = some (.int (iI f)) ∧ fr [23] [20, 21, 22] v a v2 a2 ∧ BX v2 a2 ∧ (((f = q ∨ (q ≤ f ∧ f ≤ u)) ∧ v2 23 ≤ f - q) ∧ (TKX (a 29) (v 30) v2 a2 q f ∧ (v2 23 ≠ 0 ∨ f = u)))) rq vq aq)) args s 0 0 A) h0 ad ln vb2 ab2 0 0 19 [(3, .int (iI z)), (0, .ref h0), (1, .int (iI q)), (2, .int (iI u))] [] := by
            intro nn
            induction nn with
            | zero =>
              intro z vb2 ab2 hm bxb2 fpb2 hz hz3 hI2
              exact absurd hm (by omega)
            | succ nn ih2 =>
              intro z vb2 ab2 hm bxb2 fpb2 hz hz3 hI2
              refine m_iload_n (j := 0) C dX12_takeWord_19 rfl ?_
              refine m_iload_n (j := 3) C dX12_takeWord_20 rfl ?_
              refine m_icmp_ge (tgt := 41) C ⟨by omega, by omega⟩ ⟨by omega, by omega⟩ dX12_takeWord_21 (by decide) (fun c3 => ?_) (fun c3 => ?_)
              · refine m_aload_n (j := 1) C dX12_takeWord_41 rfl ?_
                refine m_geta (k := 22) C dX12_takeWord_42 w6_81 (by decide) rfl ?_
                refine m_iconst C dX12_takeWord_45 ?_
                refine m_iconst C dX12_takeWord_46 ?_
                refine m_zast (k := 22) (w := 0) C dX12_takeWord_47 rfl rfl (by decide) (by decide) (by decide) (by decide) (by omega) ?_
                refine hv2 (show BX vb2 (up2 ab2 22 (0 : Int).toNat 0) from bxb2.set (k := 22) (i := (0 : Int).toNat) (z := 0) ⟨by decide, by decide⟩) (fpb2.set (k := 22) (i := (0 : Int).toNat) (z := 0) rfl) (fun bq2 fq2 => ?_)
                have Lp3 : ∀ (nn : Nat) (y : Int) (vb3 : Nat → Int) (ab3 : Nat → Nat → Int), 502 - y < (nn : Int) → BX vb3 ab3 → fr [23] [20, 21, 22] v a vb3 ab3 → (x ≤ y ∧ y ≤ u) → (0 ≤ vb3 23 ∧ vb3 23 + q ≤ y) → (x < y ∨ (y = x ∧ ¬ a 29 y.toNat = 32)) → (TKW vb3 ab3 (a 29) (v 30) q y) → mw p l e (rmq 0 0 0) s m args below meth c G A 4 (MQ below (Qm G A (fun rq Lq Eq => ∃ (vq : Nat → Int) (aq : Nat → Nat → Int), mI G h0 ad ln vq aq Lq Eq ∧ (fun r v2 a2 => ∃ f : Int, r = some (.int (iI f)) ∧ fr [23] [20, 21, 22] v a v2 a2 ∧ BX v2 a2 ∧ (((f = q ∨ (q ≤ f ∧ f ≤ u)) ∧ v2 23 ≤ f - q) ∧ (TKX (a 29) (v 30) v2 a2 q f ∧ (v2 23 ≠ 0 ∨ f = u)))) rq vq aq)) args s 0 0 A) h0 ad ln vb3 ab3 0 0 48 [(3, .int (iI y)), (0, .ref h0), (1, .int (iI q)), (2, .int (iI u))] [] := by
                  intro nn
                  induction nn with
                  | zero =>
                    intro y vb3 ab3 hm bxb3 fpb3 hy hy3 hy4 hI3
                    exact absurd hm (by omega)
                  | succ nn ih3 =>
                    intro y vb3 ab3 hm bxb3 fpb3 hy hy3 hy4 hI3
                    refine m_iload_n (j := 0) C dX12_takeWord_48 rfl ?_
                    refine m_iload_n (j := 3) C dX12_takeWord_49 rfl ?_
                    refine m_icmp_ge (tgt := 7) C ⟨by omega, by omega⟩ ⟨by omega, by omega⟩ dX12_takeWord_50 (by decide) (fun c4 => ?_) (fun c4 => ?_)
                    · have rv3 : 0 ≤ vb3 23 ∧ vb3 23 ≤ 500 := bxb3.1 23
                      refine m_lv (lv2 := [(3, .int (iI y)), (0, .ref h0), (1, .int (iI q)), (2, .int (iI u))]) [0, 1, 2, 3] rfl ?_
                      exact ih1  y _ _ (by omega) bxb3 fpb3 (by omega) (by show 0 ≤ (vb3 23) ∧ (vb3 23) + q ≤ y; omega) (Or.inr (Or.inl (by omega))) hI3
                    · refine m_aload_n (j := 1) C dX12_takeWord_53 rfl ?_
                      refine m_geta (k := 29) C dX12_takeWord_54 w6_88 (by decide) rfl ?_
                      refine m_iload_n (j := 0) C dX12_takeWord_57 rfl ?_
                      refine m_ald (k := 29) C dX12_takeWord_58 rfl rfl (by decide) (by omega) (by show _ < ((_ : Nat) : Int); simp only [mlen]; omega) (by decide) ?_
                      refine hv2 (show (-2147483648) ≤ ab3 29 y.toNat ∧ ab3 29 y.toNat ≤ 2147483647 from bxb3.2 29 (y.toNat)) (show ab3 29 (y.toNat) = a 29 (y.toNat) from congrFun (fpb3.2 29 rfl) (y.toNat)) (fun ra1 ae1 => ?_)
                      refine m_st (st2 := [.int (iI (a 29 y.toNat))]) (congrArg (fun z => Value.int (iI z) :: []) (congrFun (fpb3.2 29 rfl) (y.toNat))) ?_
                      refine m_bipush (z := 32) C dX12_takeWord_59 (by decide) ?_
                      refine m_icmp_eq (tgt := 7) C ⟨by omega, by omega⟩ ⟨by decide, by decide⟩ dX12_takeWord_61 (by decide) (fun c5 => ?_) (fun c5 => ?_)
                      · have rv4 : 0 ≤ vb3 23 ∧ vb3 23 ≤ 500 := bxb3.1 23
                        refine m_lv (lv2 := [(3, .int (iI y)), (0, .ref h0), (1, .int (iI q)), (2, .int (iI u))]) [0, 1, 2, 3] rfl ?_
                        exact ih1  y _ _ (by omega) bxb3 fpb3 (by omega) (by show 0 ≤ (vb3 23) ∧ (vb3 23) + q ≤ y; omega) (Or.inr (Or.inr (by omega))) hI3
                      · refine m_aload_n (j := 1) C dX12_takeWord_64 rfl ?_
                        refine m_geta (k := 29) C dX12_takeWord_65 w6_88 (by decide) rfl ?_
                        refine m_iload_n (j := 0) C dX12_takeWord_68 rfl ?_
                        refine m_ald (k := 29) C dX12_takeWord_69 rfl rfl (by decide) (by omega) (by show _ < ((_ : Nat) : Int); simp only [mlen]; omega) (by decide) ?_
                        refine m_st (st2 := [.int (iI (a 29 y.toNat))]) (congrArg (fun z => Value.int (iI z) :: []) (congrFun (fpb3.2 29 rfl) (y.toNat))) ?_
                        refine m_bipush (z := 126) C dX12_takeWord_70 (by decide) ?_
                        refine m_icmp_ne (tgt := 99) C ⟨by omega, by omega⟩ ⟨by decide, by decide⟩ dX12_takeWord_72 (by decide) (fun c6 => ?_) (fun c6 => ?_)
                        · refine m_aload_n (j := 1) C dX12_takeWord_99 rfl ?_
                          refine m_geta (k := 20) C dX12_takeWord_100 w6_79 (by decide) rfl ?_
                          refine m_aload_n (j := 1) C dX12_takeWord_103 rfl ?_
                          have rv5 : 0 ≤ vb3 23 ∧ vb3 23 ≤ 500 := bxb3.1 23
                          refine m_get (k := 23) C dX12_takeWord_104 w6_82 (by decide) rfl ?_
                          refine m_aload_n (j := 1) C dX12_takeWord_107 rfl ?_
                          refine m_geta (k := 29) C dX12_takeWord_108 w6_88 (by decide) rfl ?_
                          refine m_iload_n (j := 0) C dX12_takeWord_111 rfl ?_
                          refine m_ald (k := 29) C dX12_takeWord_112 rfl rfl (by decide) (by omega) (by show _ < ((_ : Nat) : Int); simp only [mlen]; omega) (by decide) ?_
                          refine m_st (st2 := [.int (iI (a 29 y.toNat)), .int (iI (vb3 23)), .ref (ad 20)]) (congrArg (fun z => Value.int (iI z) :: [.int (iI (vb3 23)), .ref (ad 20)]) (congrFun (fpb3.2 29 rfl) (y.toNat))) ?_
                          refine m_ast (k := 20) C dX12_takeWord_113 rfl rfl (by decide) rv5.1 (Int.lt_of_le_of_lt rv5.2 (by decide)) (by decide) ?_
                          refine hv2 (show BX vb3 (up2 ab3 20 (vb3 23).toNat (a 29 y.toNat)) from bxb3.set (k := 20) (i := (vb3 23).toNat) (z := a 29 y.toNat) (show (-2147483648) ≤ (a 29 y.toNat) ∧ (a 29 y.toNat) ≤ 2147483647 by omega)) (fpb3.set (k := 20) (i := (vb3 23).toNat) (z := a 29 y.toNat) rfl) (fun bq3 fq3 => ?_)
                          refine m_aload_n (j := 1) C dX12_takeWord_114 rfl ?_
                          refine m_geta (k := 21) C dX12_takeWord_115 w6_80 (by decide) rfl ?_
                          refine m_aload_n (j := 1) C dX12_takeWord_118 rfl ?_
                          refine m_get (k := 23) C dX12_takeWord_119 w6_82 (by decide) rfl ?_
                          refine m_iload_n (j := 0) C dX12_takeWord_122 rfl ?_
                          refine m_ast (k := 21) C dX12_takeWord_123 rfl rfl (by decide) rv5.1 (Int.lt_of_le_of_lt rv5.2 (by decide)) (by decide) ?_
                          refine hv2 (show BX vb3 (up2 (up2 ab3 20 (vb3 23).toNat (a 29 y.toNat)) 21 (vb3 23).toNat y) from bq3.set (k := 21) (i := (vb3 23).toNat) (z := y) (show (-2147483648) ≤ y ∧ y ≤ 2147483647 by omega)) (fq3.set (k := 21) (i := (vb3 23).toNat) (z := y) rfl) (fun bq4 fq4 => ?_)
                          refine m_aload_n (j := 1) C dX12_takeWord_124 rfl ?_
                          refine m_dup C dX12_takeWord_125 rfl ?_
                          refine m_get (k := 23) C dX12_takeWord_126 w6_82 (by decide) rfl ?_
                          refine m_iconst C dX12_takeWord_129 ?_
                          refine m_iadd C dX12_takeWord_130 ?_
                          refine m_put (k := 23) (z := (vb3 23) + 1) C dX12_takeWord_131 w6_82 (by decide) rfl rfl rfl ?_
                          refine hv2 (show BX (va_up vb3 23 ((vb3 23) + 1)) (up2 (up2 ab3 20 (vb3 23).toNat (a 29 y.toNat)) 21 (vb3 23).toNat y) from bq4.put (k := 23) (z := (vb3 23) + 1) (show 0 ≤ ((vb3 23) + 1) ∧ ((vb3 23) + 1) ≤ 500 by omega)) (fq4.put (k := 23) (z := (vb3 23) + 1) rfl) (fun bq5 fq5 => ?_)
                          refine m_aload_n (j := 1) C dX12_takeWord_134 rfl ?_
                          refine m_geta (k := 22) C dX12_takeWord_135 w6_81 (by decide) rfl ?_
                          refine m_aload_n (j := 1) C dX12_takeWord_138 rfl ?_
                          refine m_get (k := 23) C dX12_takeWord_139 w6_82 (by decide) rfl ?_
                          refine m_st (st2 := [.int (iI ((vb3 23) + 1)), .ref (ad 22)]) rfl ?_
                          refine m_iconst C dX12_takeWord_142 ?_
                          refine m_zast (k := 22) (w := 0) C dX12_takeWord_143 rfl rfl (by decide) (by omega) (by show _ < ((_ : Nat) : Int); simp only [mlen]; omega) (by decide) (by omega) ?_
                          refine hv2 (show BX (va_up vb3 23 ((vb3 23) + 1)) (up2 (up2 (up2 ab3 20 (vb3 23).toNat (a 29 y.toNat)) 21 (vb3 23).toNat y) 22 ((vb3 23) + 1).toNat 0) from bq5.set (k := 22) (i := ((vb3 23) + 1).toNat) (z := 0) ⟨by decide, by decide⟩) (fq5.set (k := 22) (i := ((vb3 23) + 1).toNat) (z := 0) rfl) (fun bq6 fq6 => ?_)
                          refine m_iinc (z := y) (j := 0) (lv2 := [(3, .int (iI (y + 1))), (0, .ref h0), (1, .int (iI q)), (2, .int (iI u))]) C dX12_takeWord_144 rfl (by decide) rfl ?_
                          refine m_goto (tgt := 48) C dX12_takeWord_147 (by decide) ?_
                          refine m_lv (lv2 := [(3, .int (iI (y + 1))), (0, .ref h0), (1, .int (iI q)), (2, .int (iI u))]) [0, 1, 2, 3] rfl ?_
                          exact ih3  (y + 1) _ _ (by omega) bq6 fq6 (by omega) (by show 0 ≤ ((vb3 23) + 1) ∧ ((vb3 23) + 1) + q ≤ (y + 1); omega) (by omega) (hI3.ltr ⟨by omega, by omega⟩ (hL.2.1 y (by omega) (by omega)) (by omega) (by omega) rfl rfl (by omega) (va_up_self _ _ _) (by omega) rfl)
                        · refine m_aload_n (j := 1) C dX12_takeWord_75 rfl ?_
                          refine m_geta (k := 22) C dX12_takeWord_76 w6_81 (by decide) rfl ?_
                          refine m_aload_n (j := 1) C dX12_takeWord_79 rfl ?_
                          have rv6 : 0 ≤ vb3 23 ∧ vb3 23 ≤ 500 := bxb3.1 23
                          refine m_get (k := 23) C dX12_takeWord_80 w6_82 (by decide) rfl ?_
                          refine m_aload_n (j := 1) C dX12_takeWord_83 rfl ?_
                          refine m_get (k := 23) C dX12_takeWord_84 w6_82 (by decide) rfl ?_
                          refine m_if_le (tgt := 94) C (r32_c (lo := 0) (hi := 500) rv6.1 rv6.2 (by decide) (by decide)) dX12_takeWord_87 (by decide) (fun c7 => ?_) (fun c7 => ?_)
                          · refine m_iconst C dX12_takeWord_94 ?_
                            refine m_zast (k := 22) (w := 0) C dX12_takeWord_95 rfl rfl (by decide) rv6.1 (Int.lt_of_le_of_lt rv6.2 (by decide)) (by decide) (by omega) ?_
                            refine hv2 (show BX vb3 (up2 ab3 22 (vb3 23).toNat 0) from bxb3.set (k := 22) (i := (vb3 23).toNat) (z := 0) ⟨by decide, by decide⟩) (fpb3.set (k := 22) (i := (vb3 23).toNat) (z := 0) rfl) (fun bq7 fq7 => ?_)
                            refine m_goto (tgt := 144) C dX12_takeWord_96 (by decide) ?_
                            refine m_iinc (z := y) (j := 0) (lv2 := [(3, .int (iI (y + 1))), (0, .ref h0), (1, .int (iI q)), (2, .int (iI u))]) C dX12_takeWord_144 rfl (by decide) rfl ?_
                            refine m_goto (tgt := 48) C dX12_takeWord_147 (by decide) ?_
                            refine m_lv (lv2 := [(3, .int (iI (y + 1))), (0, .ref h0), (1, .int (iI q)), (2, .int (iI u))]) [0, 1, 2, 3] rfl ?_
                            exact ih3  (y + 1) _ _ (by omega) bq7 fq7 (by omega) (by show 0 ≤ (vb3 23) ∧ (vb3 23) + q ≤ (y + 1); omega) (by omega) (hI3.til ⟨by omega, by omega⟩ (by omega) rfl (by omega))
                          · refine m_iconst C dX12_takeWord_90 ?_
                            refine m_goto (tgt := 95) C dX12_takeWord_91 (by decide) ?_
                            refine m_zast (k := 22) (w := 1) C dX12_takeWord_95 rfl rfl (by decide) rv6.1 (Int.lt_of_le_of_lt rv6.2 (by decide)) (by decide) (by omega) ?_
                            refine hv2 (show BX vb3 (up2 ab3 22 (vb3 23).toNat 1) from bxb3.set (k := 22) (i := (vb3 23).toNat) (z := 1) ⟨by decide, by decide⟩) (fpb3.set (k := 22) (i := (vb3 23).toNat) (z := 1) rfl) (fun bq8 fq8 => ?_)
                            refine m_goto (tgt := 144) C dX12_takeWord_96 (by decide) ?_
                            refine m_iinc (z := y) (j := 0) (lv2 := [(3, .int (iI (y + 1))), (0, .ref h0), (1, .int (iI q)), (2, .int (iI u))]) C dX12_takeWord_144 rfl (by decide) rfl ?_
                            refine m_goto (tgt := 48) C dX12_takeWord_147 (by decide) ?_
                            refine m_lv (lv2 := [(3, .int (iI (y + 1))), (0, .ref h0), (1, .int (iI q)), (2, .int (iI u))]) [0, 1, 2, 3] rfl ?_
                            exact ih3  (y + 1) _ _ (by omega) bq8 fq8 (by omega) (by show 0 ≤ (vb3 23) ∧ (vb3 23) + q ≤ (y + 1); omega) (by omega) (hI3.til ⟨by omega, by omega⟩ (by omega) rfl (by omega))
                have rv7 : 0 ≤ vb2 23 ∧ vb2 23 ≤ 500 := bq2.1 23
                refine m_lv (lv2 := [(3, .int (iI z)), (0, .ref h0), (1, .int (iI q)), (2, .int (iI u))]) [0, 1, 2, 3] rfl ?_
                exact Lp3 503 z _ _ (by omega) bq2 fq2 (by omega) (by show 0 ≤ (vb2 23) ∧ (vb2 23) + q ≤ z; omega) (by omega) (hI2.m0 (by omega))
              · refine m_aload_n (j := 1) C dX12_takeWord_24 rfl ?_
                refine m_geta (k := 29) C dX12_takeWord_25 w6_88 (by decide) rfl ?_
                refine m_iload_n (j := 0) C dX12_takeWord_28 rfl ?_
                refine m_ald (k := 29) C dX12_takeWord_29 rfl rfl (by decide) (by omega) (by show _ < ((_ : Nat) : Int); simp only [mlen]; omega) (by decide) ?_
                refine hv2 (show (-2147483648) ≤ ab2 29 z.toNat ∧ ab2 29 z.toNat ≤ 2147483647 from bxb2.2 29 (z.toNat)) (show ab2 29 (z.toNat) = a 29 (z.toNat) from congrFun (fpb2.2 29 rfl) (z.toNat)) (fun ra2 ae2 => ?_)
                refine m_st (st2 := [.int (iI (a 29 z.toNat))]) (congrArg (fun z => Value.int (iI z) :: []) (congrFun (fpb2.2 29 rfl) (z.toNat))) ?_
                refine m_bipush (z := 32) C dX12_takeWord_30 (by decide) ?_
                refine m_icmp_ne (tgt := 41) C ⟨by omega, by omega⟩ ⟨by decide, by decide⟩ dX12_takeWord_32 (by decide) (fun c8 => ?_) (fun c8 => ?_)
                · refine m_aload_n (j := 1) C dX12_takeWord_41 rfl ?_
                  refine m_geta (k := 22) C dX12_takeWord_42 w6_81 (by decide) rfl ?_
                  refine m_iconst C dX12_takeWord_45 ?_
                  refine m_iconst C dX12_takeWord_46 ?_
                  refine m_zast (k := 22) (w := 0) C dX12_takeWord_47 rfl rfl (by decide) (by decide) (by decide) (by decide) (by omega) ?_
                  refine hv2 (show BX vb2 (up2 ab2 22 (0 : Int).toNat 0) from bxb2.set (k := 22) (i := (0 : Int).toNat) (z := 0) ⟨by decide, by decide⟩) (fpb2.set (k := 22) (i := (0 : Int).toNat) (z := 0) rfl) (fun bq9 fq9 => ?_)
                  have Lp4 : ∀ (nn : Nat) (y : Int) (vb4 : Nat → Int) (ab4 : Nat → Nat → Int), 502 - y < (nn : Int) → BX vb4 ab4 → fr [23] [20, 21, 22] v a vb4 ab4 → (x ≤ y ∧ y ≤ u) → (0 ≤ vb4 23 ∧ vb4 23 + q ≤ y) → (x < y ∨ (y = x ∧ ¬ a 29 y.toNat = 32)) → (TKW vb4 ab4 (a 29) (v 30) q y) → mw p l e (rmq 0 0 0) s m args below meth c G A 4 (MQ below (Qm G A (fun rq Lq Eq => ∃ (vq : Nat → Int) (aq : Nat → Nat → Int), mI G h0 ad ln vq aq Lq Eq ∧ (fun r v2 a2 => ∃ f : Int, r = some (.int (iI f)) ∧ fr [23] [20, 21, 22] v a v2 a2 ∧ BX v2 a2 ∧ (((f = q ∨ (q ≤ f ∧ f ≤ u)) ∧ v2 23 ≤ f - q) ∧ (TKX (a 29) (v 30) v2 a2 q f ∧ (v2 23 ≠ 0 ∨ f = u)))) rq vq aq)) args s 0 0 A) h0 ad ln vb4 ab4 0 0 48 [(3, .int (iI y)), (0, .ref h0), (1, .int (iI q)), (2, .int (iI u))] [] := by
                    intro nn
                    induction nn with
                    | zero =>
                      intro y vb4 ab4 hm bxb4 fpb4 hy hy3 hy4 hI3
                      exact absurd hm (by omega)
                    | succ nn ih4 =>
                      intro y vb4 ab4 hm bxb4 fpb4 hy hy3 hy4 hI3
                      refine m_iload_n (j := 0) C dX12_takeWord_48 rfl ?_
                      refine m_iload_n (j := 3) C dX12_takeWord_49 rfl ?_
                      refine m_icmp_ge (tgt := 7) C ⟨by omega, by omega⟩ ⟨by omega, by omega⟩ dX12_takeWord_50 (by decide) (fun c9 => ?_) (fun c9 => ?_)
                      · have rv8 : 0 ≤ vb4 23 ∧ vb4 23 ≤ 500 := bxb4.1 23
                        refine m_lv (lv2 := [(3, .int (iI y)), (0, .ref h0), (1, .int (iI q)), (2, .int (iI u))]) [0, 1, 2, 3] rfl ?_
                        exact ih1  y _ _ (by omega) bxb4 fpb4 (by omega) (by show 0 ≤ (vb4 23) ∧ (vb4 23) + q ≤ y; omega) (Or.inr (Or.inl (by omega))) hI3
                      · refine m_aload_n (j := 1) C dX12_takeWord_53 rfl ?_
                        refine m_geta (k := 29) C dX12_takeWord_54 w6_88 (by decide) rfl ?_
                        refine m_iload_n (j := 0) C dX12_takeWord_57 rfl ?_
                        refine m_ald (k := 29) C dX12_takeWord_58 rfl rfl (by decide) (by omega) (by show _ < ((_ : Nat) : Int); simp only [mlen]; omega) (by decide) ?_
                        refine hv2 (show (-2147483648) ≤ ab4 29 y.toNat ∧ ab4 29 y.toNat ≤ 2147483647 from bxb4.2 29 (y.toNat)) (show ab4 29 (y.toNat) = a 29 (y.toNat) from congrFun (fpb4.2 29 rfl) (y.toNat)) (fun ra3 ae3 => ?_)
                        refine m_st (st2 := [.int (iI (a 29 y.toNat))]) (congrArg (fun z => Value.int (iI z) :: []) (congrFun (fpb4.2 29 rfl) (y.toNat))) ?_
                        refine m_bipush (z := 32) C dX12_takeWord_59 (by decide) ?_
                        refine m_icmp_eq (tgt := 7) C ⟨by omega, by omega⟩ ⟨by decide, by decide⟩ dX12_takeWord_61 (by decide) (fun c10 => ?_) (fun c10 => ?_)
                        · have rv9 : 0 ≤ vb4 23 ∧ vb4 23 ≤ 500 := bxb4.1 23
                          refine m_lv (lv2 := [(3, .int (iI y)), (0, .ref h0), (1, .int (iI q)), (2, .int (iI u))]) [0, 1, 2, 3] rfl ?_
                          exact ih1  y _ _ (by omega) bxb4 fpb4 (by omega) (by show 0 ≤ (vb4 23) ∧ (vb4 23) + q ≤ y; omega) (Or.inr (Or.inr (by omega))) hI3
                        · refine m_aload_n (j := 1) C dX12_takeWord_64 rfl ?_
                          refine m_geta (k := 29) C dX12_takeWord_65 w6_88 (by decide) rfl ?_
                          refine m_iload_n (j := 0) C dX12_takeWord_68 rfl ?_
                          refine m_ald (k := 29) C dX12_takeWord_69 rfl rfl (by decide) (by omega) (by show _ < ((_ : Nat) : Int); simp only [mlen]; omega) (by decide) ?_
                          refine m_st (st2 := [.int (iI (a 29 y.toNat))]) (congrArg (fun z => Value.int (iI z) :: []) (congrFun (fpb4.2 29 rfl) (y.toNat))) ?_
                          refine m_bipush (z := 126) C dX12_takeWord_70 (by decide) ?_
                          refine m_icmp_ne (tgt := 99) C ⟨by omega, by omega⟩ ⟨by decide, by decide⟩ dX12_takeWord_72 (by decide) (fun c11 => ?_) (fun c11 => ?_)
                          · refine m_aload_n (j := 1) C dX12_takeWord_99 rfl ?_
                            refine m_geta (k := 20) C dX12_takeWord_100 w6_79 (by decide) rfl ?_
                            refine m_aload_n (j := 1) C dX12_takeWord_103 rfl ?_
                            have rv10 : 0 ≤ vb4 23 ∧ vb4 23 ≤ 500 := bxb4.1 23
                            refine m_get (k := 23) C dX12_takeWord_104 w6_82 (by decide) rfl ?_
                            refine m_aload_n (j := 1) C dX12_takeWord_107 rfl ?_
                            refine m_geta (k := 29) C dX12_takeWord_108 w6_88 (by decide) rfl ?_
                            refine m_iload_n (j := 0) C dX12_takeWord_111 rfl ?_
                            refine m_ald (k := 29) C dX12_takeWord_112 rfl rfl (by decide) (by omega) (by show _ < ((_ : Nat) : Int); simp only [mlen]; omega) (by decide) ?_
                            refine m_st (st2 := [.int (iI (a 29 y.toNat)), .int (iI (vb4 23)), .ref (ad 20)]) (congrArg (fun z => Value.int (iI z) :: [.int (iI (vb4 23)), .ref (ad 20)]) (congrFun (fpb4.2 29 rfl) (y.toNat))) ?_
                            refine m_ast (k := 20) C dX12_takeWord_113 rfl rfl (by decide) rv10.1 (Int.lt_of_le_of_lt rv10.2 (by decide)) (by decide) ?_
                            refine hv2 (show BX vb4 (up2 ab4 20 (vb4 23).toNat (a 29 y.toNat)) from bxb4.set (k := 20) (i := (vb4 23).toNat) (z := a 29 y.toNat) (show (-2147483648) ≤ (a 29 y.toNat) ∧ (a 29 y.toNat) ≤ 2147483647 by omega)) (fpb4.set (k := 20) (i := (vb4 23).toNat) (z := a 29 y.toNat) rfl) (fun bq10 fq10 => ?_)
                            refine m_aload_n (j := 1) C dX12_takeWord_114 rfl ?_
                            refine m_geta (k := 21) C dX12_takeWord_115 w6_80 (by decide) rfl ?_
                            refine m_aload_n (j := 1) C dX12_takeWord_118 rfl ?_
                            refine m_get (k := 23) C dX12_takeWord_119 w6_82 (by decide) rfl ?_
                            refine m_iload_n (j := 0) C dX12_takeWord_122 rfl ?_
                            refine m_ast (k := 21) C dX12_takeWord_123 rfl rfl (by decide) rv10.1 (Int.lt_of_le_of_lt rv10.2 (by decide)) (by decide) ?_
                            refine hv2 (show BX vb4 (up2 (up2 ab4 20 (vb4 23).toNat (a 29 y.toNat)) 21 (vb4 23).toNat y) from bq10.set (k := 21) (i := (vb4 23).toNat) (z := y) (show (-2147483648) ≤ y ∧ y ≤ 2147483647 by omega)) (fq10.set (k := 21) (i := (vb4 23).toNat) (z := y) rfl) (fun bq11 fq11 => ?_)
                            refine m_aload_n (j := 1) C dX12_takeWord_124 rfl ?_
                            refine m_dup C dX12_takeWord_125 rfl ?_
                            refine m_get (k := 23) C dX12_takeWord_126 w6_82 (by decide) rfl ?_
                            refine m_iconst C dX12_takeWord_129 ?_
                            refine m_iadd C dX12_takeWord_130 ?_
                            refine m_put (k := 23) (z := (vb4 23) + 1) C dX12_takeWord_131 w6_82 (by decide) rfl rfl rfl ?_
                            refine hv2 (show BX (va_up vb4 23 ((vb4 23) + 1)) (up2 (up2 ab4 20 (vb4 23).toNat (a 29 y.toNat)) 21 (vb4 23).toNat y) from bq11.put (k := 23) (z := (vb4 23) + 1) (show 0 ≤ ((vb4 23) + 1) ∧ ((vb4 23) + 1) ≤ 500 by omega)) (fq11.put (k := 23) (z := (vb4 23) + 1) rfl) (fun bq12 fq12 => ?_)
                            refine m_aload_n (j := 1) C dX12_takeWord_134 rfl ?_
                            refine m_geta (k := 22) C dX12_takeWord_135 w6_81 (by decide) rfl ?_
                            refine m_aload_n (j := 1) C dX12_takeWord_138 rfl ?_
                            refine m_get (k := 23) C dX12_takeWord_139 w6_82 (by decide) rfl ?_
                            refine m_st (st2 := [.int (iI ((vb4 23) + 1)), .ref (ad 22)]) rfl ?_
                            refine m_iconst C dX12_takeWord_142 ?_
                            refine m_zast (k := 22) (w := 0) C dX12_takeWord_143 rfl rfl (by decide) (by omega) (by show _ < ((_ : Nat) : Int); simp only [mlen]; omega) (by decide) (by omega) ?_
                            refine hv2 (show BX (va_up vb4 23 ((vb4 23) + 1)) (up2 (up2 (up2 ab4 20 (vb4 23).toNat (a 29 y.toNat)) 21 (vb4 23).toNat y) 22 ((vb4 23) + 1).toNat 0) from bq12.set (k := 22) (i := ((vb4 23) + 1).toNat) (z := 0) ⟨by decide, by decide⟩) (fq12.set (k := 22) (i := ((vb4 23) + 1).toNat) (z := 0) rfl) (fun bq13 fq13 => ?_)
                            refine m_iinc (z := y) (j := 0) (lv2 := [(3, .int (iI (y + 1))), (0, .ref h0), (1, .int (iI q)), (2, .int (iI u))]) C dX12_takeWord_144 rfl (by decide) rfl ?_
                            refine m_goto (tgt := 48) C dX12_takeWord_147 (by decide) ?_
                            refine m_lv (lv2 := [(3, .int (iI (y + 1))), (0, .ref h0), (1, .int (iI q)), (2, .int (iI u))]) [0, 1, 2, 3] rfl ?_
                            exact ih4  (y + 1) _ _ (by omega) bq13 fq13 (by omega) (by show 0 ≤ ((vb4 23) + 1) ∧ ((vb4 23) + 1) + q ≤ (y + 1); omega) (by omega) (hI3.ltr ⟨by omega, by omega⟩ (hL.2.1 y (by omega) (by omega)) (by omega) (by omega) rfl rfl (by omega) (va_up_self _ _ _) (by omega) rfl)
                          · refine m_aload_n (j := 1) C dX12_takeWord_75 rfl ?_
                            refine m_geta (k := 22) C dX12_takeWord_76 w6_81 (by decide) rfl ?_
                            refine m_aload_n (j := 1) C dX12_takeWord_79 rfl ?_
                            have rv11 : 0 ≤ vb4 23 ∧ vb4 23 ≤ 500 := bxb4.1 23
                            refine m_get (k := 23) C dX12_takeWord_80 w6_82 (by decide) rfl ?_
                            refine m_aload_n (j := 1) C dX12_takeWord_83 rfl ?_
                            refine m_get (k := 23) C dX12_takeWord_84 w6_82 (by decide) rfl ?_
                            refine m_if_le (tgt := 94) C (r32_c (lo := 0) (hi := 500) rv11.1 rv11.2 (by decide) (by decide)) dX12_takeWord_87 (by decide) (fun c12 => ?_) (fun c12 => ?_)
                            · refine m_iconst C dX12_takeWord_94 ?_
                              refine m_zast (k := 22) (w := 0) C dX12_takeWord_95 rfl rfl (by decide) rv11.1 (Int.lt_of_le_of_lt rv11.2 (by decide)) (by decide) (by omega) ?_
                              refine hv2 (show BX vb4 (up2 ab4 22 (vb4 23).toNat 0) from bxb4.set (k := 22) (i := (vb4 23).toNat) (z := 0) ⟨by decide, by decide⟩) (fpb4.set (k := 22) (i := (vb4 23).toNat) (z := 0) rfl) (fun bq14 fq14 => ?_)
                              refine m_goto (tgt := 144) C dX12_takeWord_96 (by decide) ?_
                              refine m_iinc (z := y) (j := 0) (lv2 := [(3, .int (iI (y + 1))), (0, .ref h0), (1, .int (iI q)), (2, .int (iI u))]) C dX12_takeWord_144 rfl (by decide) rfl ?_
                              refine m_goto (tgt := 48) C dX12_takeWord_147 (by decide) ?_
                              refine m_lv (lv2 := [(3, .int (iI (y + 1))), (0, .ref h0), (1, .int (iI q)), (2, .int (iI u))]) [0, 1, 2, 3] rfl ?_
                              exact ih4  (y + 1) _ _ (by omega) bq14 fq14 (by omega) (by show 0 ≤ (vb4 23) ∧ (vb4 23) + q ≤ (y + 1); omega) (by omega) (hI3.til ⟨by omega, by omega⟩ (by omega) rfl (by omega))
                            · refine m_iconst C dX12_takeWord_90 ?_
                              refine m_goto (tgt := 95) C dX12_takeWord_91 (by decide) ?_
                              refine m_zast (k := 22) (w := 1) C dX12_takeWord_95 rfl rfl (by decide) rv11.1 (Int.lt_of_le_of_lt rv11.2 (by decide)) (by decide) (by omega) ?_
                              refine hv2 (show BX vb4 (up2 ab4 22 (vb4 23).toNat 1) from bxb4.set (k := 22) (i := (vb4 23).toNat) (z := 1) ⟨by decide, by decide⟩) (fpb4.set (k := 22) (i := (vb4 23).toNat) (z := 1) rfl) (fun bq15 fq15 => ?_)
                              refine m_goto (tgt := 144) C dX12_takeWord_96 (by decide) ?_
                              refine m_iinc (z := y) (j := 0) (lv2 := [(3, .int (iI (y + 1))), (0, .ref h0), (1, .int (iI q)), (2, .int (iI u))]) C dX12_takeWord_144 rfl (by decide) rfl ?_
                              refine m_goto (tgt := 48) C dX12_takeWord_147 (by decide) ?_
                              refine m_lv (lv2 := [(3, .int (iI (y + 1))), (0, .ref h0), (1, .int (iI q)), (2, .int (iI u))]) [0, 1, 2, 3] rfl ?_
                              exact ih4  (y + 1) _ _ (by omega) bq15 fq15 (by omega) (by show 0 ≤ (vb4 23) ∧ (vb4 23) + q ≤ (y + 1); omega) (by omega) (hI3.til ⟨by omega, by omega⟩ (by omega) rfl (by omega))
                  have rv12 : 0 ≤ vb2 23 ∧ vb2 23 ≤ 500 := bq9.1 23
                  refine m_lv (lv2 := [(3, .int (iI z)), (0, .ref h0), (1, .int (iI q)), (2, .int (iI u))]) [0, 1, 2, 3] rfl ?_
                  exact Lp4 503 z _ _ (by omega) bq9 fq9 (by omega) (by show 0 ≤ (vb2 23) ∧ (vb2 23) + q ≤ z; omega) (by omega) (hI2.m0 (by omega))
                · refine m_iinc (z := z) (j := 0) (lv2 := [(3, .int (iI (z + 1))), (0, .ref h0), (1, .int (iI q)), (2, .int (iI u))]) C dX12_takeWord_35 rfl (by decide) rfl ?_
                  refine m_goto (tgt := 19) C dX12_takeWord_38 (by decide) ?_
                  have rv13 : 0 ≤ vb2 23 ∧ vb2 23 ≤ 500 := bxb2.1 23
                  refine m_lv (lv2 := [(3, .int (iI (z + 1))), (0, .ref h0), (1, .int (iI q)), (2, .int (iI u))]) [0, 1, 2, 3] rfl ?_
                  exact ih2  (z + 1) _ _ (by omega) bxb2 fpb2 (by omega) (by show (vb2 23) = 0; omega) (hI2.sp ⟨by omega, by omega⟩ (by omega) (by omega))
          refine m_lv (lv2 := [(3, .int (iI x)), (0, .ref h0), (1, .int (iI q)), (2, .int (iI u))]) [0, 1, 2, 3] rfl ?_
          exact Lp2 503 x _ _ (by omega) bxb1 fpb1 (by omega) (by show (vb1 23) = 0; omega) hI
  refine m_lv (lv2 := [(3, .int (iI q)), (0, .ref h0), (1, .int (iI q)), (2, .int (iI u))]) [0, 1, 2, 3] rfl ?_
  exact Lp1 503 q _ _ (by omega) bq1 fq1 (by omega) (by show 0 ≤ 0 ∧ 0 + q ≤ q; omega) (Or.inl (va_up_self _ _ _)) (TKW.init (va_up_self _ _ _))
end
section
def nxt (T : Nat → Int) (N : Int) (s : Int × Nat × List (List (Int × Nat × Int))) : Int × Nat × List (List (Int × Nat × Int)) := if s.1 = 0 then (if N ≤ ((s.2.1 : Nat) : Int) then s else (1, s.2.1 + (if T s.2.1 = 94 then 1 else 0), s.2.2)) else (if (TWF T N ((s.2.1 : Nat) : Int)).2.length = 0 then (0, (TWF T N ((s.2.1 : Nat) : Int)).1 + 1, s.2.2) else (1, (TWF T N ((s.2.1 : Nat) : Int)).1, s.2.2 ++ [(TWF T N ((s.2.1 : Nat) : Int)).2]))
def itr (T : Nat → Int) (N : Int) : Nat → Int × Nat × List (List (Int × Nat × Int))
  | 0 => (0, 0, [])
  | k + 1 => nxt T N (itr T N k)
def RUN (T : Nat → Int) (N m : Int) (p : Int) (ws : List (List (Int × Nat × Int))) : Prop := 0 ≤ p ∧ ∃ k, itr T N k = (m, p.toNat, ws)
def lts (w : List (Int × Nat × Int)) : Nat → Int := fun j => ((w[j]?).map (fun x => x.1)).getD 0
def WST (a : Nat → Nat → Int) (t : Int) (w : List (Int × Nat × Int)) (cs : List Int) : Prop := SWC a (lts w) ((w.length : Nat) : Int) t cs
def ENDS (T : Nat → Int) (N : Int) (ws : List (List (Int × Nat × Int))) : Prop := ∃ p, RUN T N 0 p ws ∧ N ≤ p
section SAVE
variable {v v1 v2 : Nat → Int} {a a1 a2 : Nat → Nat → Int} {T : Nat → Int} {N q u p b f f1 f2 z x y m t n n1 n2 s : Int} {w : List (Int × Nat × Int)} {ws ws2 : List (List (Int × Nat × Int))} {k d : Nat} {cs : List Int}
theorem itr_s (k : Nat) : itr T N (k + 1) = nxt T N (itr T N k) := rfl
theorem nxt_ext (s : Int × Nat × List (List (Int × Nat × Int))) : ∃ r, (nxt T N s).2.2 = s.2.2 ++ r := by
  unfold nxt
  split
  · split
    · exact ⟨[], (List.append_nil _).symm⟩
    · exact ⟨[], (List.append_nil _).symm⟩
  · split
    · exact ⟨[], (List.append_nil _).symm⟩
    · exact ⟨_, rfl⟩
theorem itr_ext (k : Nat) : ∀ d : Nat, ∃ r, (itr T N (k + d)).2.2 = (itr T N k).2.2 ++ r := by
  intro d
  induction d with
  | zero => exact ⟨[], (List.append_nil _).symm⟩
  | succ d ih =>
    obtain ⟨r, h⟩ := ih
    obtain ⟨r2, h2⟩ := nxt_ext (T := T) (N := N) (itr T N (k + d))
    refine ⟨r ++ r2, ?_⟩
    rw [← Nat.add_assoc, itr_s, h2, h, List.append_assoc]
theorem itr_end {P : Nat} (h : itr T N k = (0, P, ws)) (hN : N ≤ ((P : Nat) : Int)) : ∀ d : Nat, itr T N (k + d) = (0, P, ws) := by
  intro d
  induction d with
  | zero => exact h
  | succ d ih =>
    rw [← Nat.add_assoc, itr_s, ih]
    unfold nxt
    rw [if_pos (by show (0 : Int) = 0; rfl), if_pos (by show N ≤ ((P : Nat) : Int); exact hN)]
theorem RUN.sub (h : RUN T N m p ws) (h2 : ENDS T N ws2) : ∃ r, ws2 = ws ++ r := by
  obtain ⟨_, k, e⟩ := h
  obtain ⟨p2, ⟨_, k2, e2⟩, hN⟩ := h2
  have e3 := itr_end e2 (by omega) k
  obtain ⟨r, h4⟩ := itr_ext (T := T) (N := N) k k2
  rw [Nat.add_comm k k2, e3, e] at h4
  exact ⟨r, h4⟩
theorem ENDS.uni (h : ENDS T N ws) (h2 : ENDS T N ws2) : ws = ws2 := by
  obtain ⟨p, g, gN⟩ := h
  obtain ⟨r, e⟩ := g.sub h2
  obtain ⟨p2, g2, gN2⟩ := h2
  obtain ⟨r2, e2⟩ := g2.sub ⟨p, g, gN⟩
  refine hv2 (congrArg List.length e) (congrArg List.length e2) (fun l1 l2 => ?_)
  rw [List.length_append] at l1 l2
  have z1 : r = [] := List.length_eq_zero_iff.mp (by omega)
  rw [e, z1, List.append_nil]
theorem RUN.zero : RUN T N 0 0 [] := ⟨Int.le_refl _, 0, rfl⟩
theorem RUN.enter (h : RUN T N 0 p ws) (hp : p < N) (hz : (T p.toNat = 94 ∧ z = p + 1) ∨ (T p.toNat ≠ 94 ∧ z = p)) : RUN T N 1 z ws := by
  obtain ⟨h0, k, e⟩ := h
  refine ⟨by omega, k + 1, ?_⟩
  rw [itr_s, e]
  unfold nxt
  rw [if_pos (by show (0 : Int) = 0; rfl), if_neg (by show ¬ N ≤ ((p.toNat : Nat) : Int); omega)]
  show ((1 : Int), p.toNat + (if T p.toNat = 94 then 1 else 0), ws) = (1, z.toNat, ws)
  rcases hz with ⟨e1, e2⟩ | ⟨e1, e2⟩
  · rw [if_pos e1, show z.toNat = p.toNat + 1 by omega]
  · rw [if_neg e1, show z.toNat = p.toNat + 0 by omega]
theorem nxt1 (P : Nat) (hP : ((P : Nat) : Int) = p) : nxt T N (1, P, ws) = if (TWF T N p).2.length = 0 then (0, (TWF T N p).1 + 1, ws) else (1, (TWF T N p).1, ws ++ [(TWF T N p).2]) := by
  subst hP
  unfold nxt
  rw [if_neg (by show ¬ (1 : Int) = 0; decide)]
theorem RUN.word (h : RUN T N 1 p ws) (hr : TWF T N p = (z.toNat, w)) (hz : 0 ≤ z) (hw : w.length ≠ 0) : RUN T N 1 z (ws ++ [w]) := by
  obtain ⟨h0, k, e⟩ := h
  refine hv2 (show (TWF T N p).2 = w from congrArg Prod.snd hr) (show (TWF T N p).1 = z.toNat from congrArg Prod.fst hr) (fun e3 e4 => ?_)
  refine ⟨hz, k + 1, ?_⟩
  rw [itr_s, e, nxt1 (p := p) p.toNat (by omega), e3, e4, if_neg hw]
theorem RUN.line (h : RUN T N 1 p ws) (hr : TWF T N p = (z.toNat, w)) (hz : 0 ≤ z) (hw : w.length = 0) : RUN T N 0 (z + 1) ws := by
  obtain ⟨h0, k, e⟩ := h
  refine hv2 (show (TWF T N p).2 = w from congrArg Prod.snd hr) (show (TWF T N p).1 = z.toNat from congrArg Prod.fst hr) (fun e3 e4 => ?_)
  refine ⟨by omega, k + 1, ?_⟩
  rw [itr_s, e, nxt1 (p := p) p.toNat (by omega), e3, e4, if_pos hw, show (z + 1).toNat = z.toNat + 1 by omega]
theorem SWC.len (h : SWC a (lts w) N t cs) : cs.length ≤ 200 := by
  rcases h with ⟨_, ps, ⟨_, h4⟩, h5⟩ | ⟨_, h2, _⟩
  · rw [h5]; omega
  · exact h2
theorem lts_w (h : WDH v a w) : AGW (a 20) (lts w) 0 ((w.length : Nat) : Int) := fun j h1 h2 => by
  have lt : j.toNat < w.length := by omega
  have g := (h.2 j.toNat _ (List.getElem?_eq_getElem lt)).1
  rw [g]
  show _ = ((w[j.toNat]?).map (fun x => x.1)).getD 0
  (rw [List.getElem?_eq_getElem lt]) <;> rfl
end SAVE
section SAV2
variable {v v1 v2 v3 : Nat → Int} {a a1 a2 a3 : Nat → Nat → Int} {T : Nat → Int} {N q u p b f f1 f2 z x y m t n n1 n2 s s2 k c : Int} {w : List (Int × Nat × Int)} {ws ws2 : List (List (Int × Nat × Int))} {cs : List Int}
theorem tw_len (M : Nat) : ∀ (n P : Nat) (b : Int) (w : List (Int × Nat × Int)), P ≤ (tw T M n P b w).1 ∧ (tw T M n P b w).2.length + P ≤ w.length + (tw T M n P b w).1 := by
  intro n
  induction n with
  | zero => intro P b w; exact ⟨Nat.le_refl _, Nat.le_refl _⟩
  | succ n ih =>
    intro P b w
    rw [tw_s]
    split
    · exact ⟨Nat.le_refl _, Nat.le_refl _⟩
    · split
      · split
        · have g := ih (P + 1) b w
          exact ⟨by omega, by omega⟩
        · exact ⟨Nat.le_refl _, Nat.le_refl _⟩
      · split
        · have g := ih (P + 1) 1 w
          exact ⟨by omega, by omega⟩
        · have g := ih (P + 1) 0 (w ++ [(T P, P, b)])
          have e0 : (w ++ [(T P, P, b)]).length = w.length + 1 := by rw [List.length_append]; rfl
          exact ⟨by omega, by omega⟩
theorem itr_len : ∀ k : Nat, (itr T N k).2.2.length ≤ (itr T N k).2.1 := by
  intro k
  induction k with
  | zero => exact Nat.le_refl _
  | succ k ih =>
    rw [itr_s]
    unfold nxt
    have g := tw_len (T := T) N.toNat (N.toNat + 1 - (((itr T N k).2.1 : Nat) : Int).toNat) (((itr T N k).2.1 : Nat) : Int).toNat 0 []
    have g2 : (itr T N k).2.1 ≤ (TWF T N (((itr T N k).2.1 : Nat) : Int)).1 ∧ (TWF T N (((itr T N k).2.1 : Nat) : Int)).2.length + (itr T N k).2.1 ≤ (TWF T N (((itr T N k).2.1 : Nat) : Int)).1 := by
      refine hv2 (g.1) (g.2) (fun g1 g3 => ?_)
      rw [Int.toNat_natCast] at g1 g3
      unfold TWF
      rw [Int.toNat_natCast]
      have e0 : ([] : List (Int × Nat × Int)).length = 0 := rfl
      exact ⟨g1, by omega⟩
    split
    · split
      · exact ih
      · show (itr T N k).2.2.length ≤ (itr T N k).2.1 + (if T (itr T N k).2.1 = 94 then 1 else 0)
        omega
    · split
      · show (itr T N k).2.2.length ≤ (TWF T N (((itr T N k).2.1 : Nat) : Int)).1 + 1
        omega
      · rename_i c
        show ((itr T N k).2.2 ++ [(TWF T N (((itr T N k).2.1 : Nat) : Int)).2]).length ≤ (TWF T N (((itr T N k).2.1 : Nat) : Int)).1
        have e0 : ((itr T N k).2.2 ++ [(TWF T N (((itr T N k).2.1 : Nat) : Int)).2]).length = (itr T N k).2.2.length + 1 := by rw [List.length_append]; rfl
        omega
theorem RUN.len (h : RUN T N m p ws) : ((ws.length : Nat) : Int) ≤ p := by
  obtain ⟨h0, k, e⟩ := h
  have g := itr_len (T := T) (N := N) k
  rw [e] at g
  have g2 : ws.length ≤ p.toNat := g
  omega
theorem SWT.wst (hs : SWT v1 a1 v2 a2 t f) (hE : TBE a1 a) (hw : WDH v1 a1 w) (h12 : ∀ i, 0 ≤ a 12 i) (h13 : ∀ i, 0 ≤ a1 12 i) : (f = 1 → ∃ cs, WST a t w cs ∧ v2 25 = ((cs.length : Nat) : Int)) ∧ (f ≠ 1 → ¬ ∃ cs, WST a t w cs) := by
  refine hv2 (lts_w hw) (hw.1) (fun ag e => ?_)
  refine ⟨fun q => ?_, fun q g => ?_⟩
  · obtain ⟨cs, g1, g2⟩ := hs.2.1 q
    rw [e] at g1
    exact ⟨cs, SWC_w ag h12 (SWC_cg hE g1), g2.1⟩
  · obtain ⟨cs, g1⟩ := g
    refine hs.2.2 q ⟨cs, ?_⟩
    rw [e]
    exact SWC_w (fun j h1 h2 => (ag j h1 h2).symm) h13 (SWC_cg hE.symm g1)
theorem LEX.tkp (h : LEX T N p u) (hu : p ≤ u ∧ (u = p ∨ u ≤ N)) (hp : p < N) (hz : (T p.toNat = 94 ∧ z = p + 1) ∨ (T p.toNat ≠ 94 ∧ z = p)) : TKP T N z u := by
  have hN : u ≤ N := by omega
  have h1 : z ≤ u := by
    rcases hz with ⟨e1, e2⟩ | ⟨_, e2⟩
    · by_cases c : p = u
      · subst c
        rcases h.2 with g | g
        · omega
        · omega
      · omega
    · omega
  refine ⟨⟨h1, hN⟩, fun j j1 j2 => h.1 j (by omega) j2, ?_⟩
  rcases h.2 with g | g
  · exact Or.inl (by omega)
  · exact Or.inr g
theorem TKP.sub (h : TKP T N q u) (hz : q ≤ z ∧ z ≤ u) : TKP T N z u := ⟨⟨hz.2, h.1.2⟩, fun j j1 j2 => h.2.1 j (by omega) j2, h.2.2⟩
end SAV2
end
section
def LNH (a : Nat → Nat → Int) (l : Nat) (xs : List Int) : Prop := a 37 l = ((xs.length : Nat) : Int) ∧ ∀ (j : Nat) (x : Int), xs[j]? = some x → a 38 (200 * l + j) = x
def DRH (v : Nat → Int) (a : Nat → Nat → Int) (D : List (List Int)) : Prop := v 39 = ((D.length : Nat) : Int) ∧ ∀ (l : Nat) (xs : List Int), D[l]? = some xs → LNH a l xs
def bks (w : List (Int × Nat × Int)) : Nat → Int := fun j => ((w[j]?).map (fun x => x.2.2)).getD 0
abbrev kok (k n c d : Int) : Prop := k ≤ 3 ∧ (k = 2 → ¬ isD c ∧ ¬ isD d) ∧ (k = 3 → 6 ≤ n)
def lbk (w : List (Int × Nat × Int)) (k : Int) (st : Nat → Int) (d r : Int) : Nat → Int
  | 0 => -1
  | i + 1 => if 1 ≤ i ∧ bks w i ≠ 0 ∧ d < st i ∧ st i - d + 1 ≤ r ∧ kok k ((w.length : Nat) : Int) (lts w (i - 1)) (lts w i) then st i else lbk w k st d r i
def pql (xs : List Int) : List Int := if xs.length = 0 then [] else xs ++ [0]
def sgm (cs : List Int) (d : Nat) : Nat → List Int
  | 0 => []
  | n + 1 => sgm cs d n ++ [(cs[d + n]?).getD 0]
def rom (wd : Int) (xs : List Int) : Int := if xs.length = 0 then wd else wd - (((xs.length : Nat) : Int) + 1)
def flw (br : Int → Int → Int) (wd hy : Int) (cs : List Int) : Nat → Nat → List (List Int) → List Int → Option (List (List Int))
  | 0, _, _, _ => none
  | n + 1, d, D, xs => if ((cs.length : Nat) : Int) - ((d : Nat) : Int) ≤ rom wd xs then some (D ++ [pql xs ++ sgm cs d (cs.length - d)]) else if 0 ≤ br ((d : Nat) : Int) (rom wd xs) then (if D.length + 1 < 200 then flw br wd hy cs n (br ((d : Nat) : Int) (rom wd xs)).toNat (D ++ [(pql xs ++ sgm cs d ((br ((d : Nat) : Int) (rom wd xs)).toNat - d)) ++ [hy]]) [] else none) else if xs.length = 0 then some (D ++ [pql xs ++ sgm cs d (cs.length - d)]) else if D.length + 1 < 200 then flw br wd hy cs n d (D ++ [xs]) [] else none
def cen (wd : Int) (xs : List Int) : List Int := if xs.length = 0 ∨ wd ≤ ((xs.length : Nat) : Int) then xs else List.replicate ((wd - ((xs.length : Nat) : Int)) / 2).toNat 0 ++ xs
def cnl (wd : Int) : Nat → List (List Int) → List (List Int)
  | _, [] => []
  | 0, xs :: D => cen wd xs :: cnl wd 0 D
  | b + 1, xs :: D => xs :: cnl wd b D
def NLX (v : Nat → Int) (a : Nat → Nat → Int) (v2 : Nat → Int) (a2 : Nat → Nat → Int) (f : Int) : Prop := ∀ D, DRH v a D → (f = 1 ∧ D.length < 200 ∧ DRH v2 a2 (D ++ [[]])) ∨ (f = 0 ∧ D.length = 200)
def PUC (v : Nat → Int) (a : Nat → Nat → Int) (v2 : Nat → Int) (a2 : Nat → Nat → Int) (x : Int) : Prop := ∀ D xs, DRH v a (D ++ [xs]) → DRH v2 a2 (D ++ [xs ++ [x]])
def BGT (a : Nat → Nat → Int) (t : Int) (w : List (Int × Nat × Int)) (cs : List Int) (st : Nat → Int) : Prop := a 6 t.toNat ≠ 5 → ∀ j : Nat, j < w.length → a 26 j = st j ∧ st j < ((cs.length : Nat) : Int)
def brk (a : Nat → Nat → Int) (t : Int) (w : List (Int × Nat × Int)) (st : Nat → Int) (d r : Int) : Int := lbk w (a 6 t.toNat) st d r w.length
def BRI (v : Nat → Int) (a : Nat → Nat → Int) (t q z k f : Int) : Prop := ∀ w cs st, WDH v a w → BGT a t w cs st → f = lbk w (a 6 t.toNat) st q z k.toNat
def BRQ (v : Nat → Int) (a : Nat → Nat → Int) (t q z f : Int) : Prop := ∀ w cs st, WDH v a w → BGT a t w cs st → f = brk a t w st q z
def FCX (v : Nat → Int) (a : Nat → Nat → Int) (t : Int) (D : List (List Int)) (xs : List Int) (cs : List Int) (w : List (Int × Nat × Int)) (st : Nat → Int) : Prop := DRH v a (D ++ [xs]) ∧ MDH v a cs ∧ WDH v a w ∧ BGT a t w cs st
def FLV (v : Nat → Int) (a : Nat → Nat → Int) (t : Int) (D : List (List Int)) (xs : List Int) (cs : List Int) (w : List (Int × Nat × Int)) (st : Nat → Int) : Option (List (List Int)) := flw (brk a t w st) (v 31) (v 33) cs 201 0 D xs
def FLR (v : Nat → Int) (a : Nat → Nat → Int) (t : Int) (D : List (List Int)) (xs : List Int) (cs : List Int) (w : List (Int × Nat × Int)) (st : Nat → Int) (x : Int) (D1 : List (List Int)) (x1 : List Int) : Prop := ∃ n, 201 ≤ n + D1.length ∧ FLV v a t D xs cs w st = flw (brk a t w st) (v 31) (v 33) cs n x.toNat D1 x1
def FL2 (v : Nat → Int) (a : Nat → Nat → Int) (v1 : Nat → Int) (a1 : Nat → Nat → Int) (t x : Int) : Prop := ∀ D xs cs w st, FCX v a t D xs cs w st → ∃ D1 x1, FLR v a t D xs cs w st x D1 x1 ∧ DRH v1 a1 (D1 ++ [x1])
def FL4 (v : Nat → Int) (a : Nat → Nat → Int) (v1 : Nat → Int) (a1 : Nat → Nat → Int) (t x h k : Int) : Prop := ∀ D xs cs w st, FCX v a t D xs cs w st → ∃ D1 x1, FLR v a t D xs cs w st x D1 x1 ∧ ((x1.length : Nat) : Int) = h ∧ DRH v1 a1 (D1 ++ [pql x1 ++ sgm cs x.toNat (k - x).toNat])
def FLT (v : Nat → Int) (a : Nat → Nat → Int) (v2 : Nat → Int) (a2 : Nat → Nat → Int) (t f : Int) : Prop := ∀ D xs cs w st, FCX v a t D xs cs w st → (f = 1 → ∃ D2, FLV v a t D xs cs w st = some D2 ∧ DRH v2 a2 D2) ∧ (f ≠ 1 → FLV v a t D xs cs w st = none)
def CN2 (v : Nat → Int) (a : Nat → Nat → Int) (v1 : Nat → Int) (a1 : Nat → Nat → Int) (q x : Int) : Prop := ∀ D, DRH v a D → v1 39 = ((D.length : Nat) : Int) ∧ ∀ (l : Nat) (xs : List Int), D[l]? = some xs → LNH a1 l (if q ≤ ((l : Nat) : Int) ∧ ((l : Nat) : Int) < x then cen (v 31) xs else xs)
section DRAF
variable {v v1 v2 v3 : Nat → Int} {a a1 a2 a3 : Nat → Nat → Int} {D D1 : List (List Int)} {xs ys cs x1 : List Int} {w : List (Int × Nat × Int)} {st : Nat → Int} {x z t q k f h y1 d r hy wd c : Int} {i n l b : Nat} {br : Int → Int → Int}
theorem ap1 {α : Type} {D : List α} {u m : α} {l : Nat} (h : (D ++ [u])[l]? = some m) : (l < D.length ∧ D[l]? = some m) ∨ (l = D.length ∧ u = m) := by
  by_cases c : l < D.length
  · rw [List.getElem?_append_left c] at h
    exact Or.inl ⟨c, h⟩
  · rw [List.getElem?_append_right (by omega)] at h
    refine hv2 (gl3 h) (show ([u] : List α).length = 1 from rfl) (fun lt e1 => ?_)
    have e2 : l - D.length = 0 := by omega
    rw [e2] at h
    cases h
    exact Or.inr ⟨by omega, rfl⟩
theorem ap2 {α : Type} {D : List α} {u : α} : (D ++ [u])[D.length]? = some u := by
  rw [List.getElem?_append_right (Nat.le_refl _), Nat.sub_self]
  rfl
theorem ap3 {α : Type} {D : List α} {u m : α} {l : Nat} (h : D[l]? = some m) : (D ++ [u])[l]? = some m := by
  rw [List.getElem?_append_left (gl3 h)]
  exact h
theorem len1 {α : Type} {D : List α} {u : α} : (D ++ [u]).length = D.length + 1 := by
  rw [List.length_append]
  rfl
theorem LNH.fr (h : LNH a l xs) (h37 : a2 37 l = a 37 l) (h38 : ∀ j : Nat, j < xs.length → a2 38 (200 * l + j) = a 38 (200 * l + j)) : LNH a2 l xs := ⟨h37.trans h.1, fun j x e => (h38 j (gl3 e)).trans (h.2 j x e)⟩
theorem DRH.fr (h : DRH v a D) (hv : v2 39 = v 39) (h37 : a2 37 = a 37) (h38 : a2 38 = a 38) : DRH v2 a2 D := ⟨hv.trans h.1, fun l xs e => (h.2 l xs e).fr (by rw [h37]) (fun j _ => by rw [h38])⟩
theorem DRH.put (h : DRH v a (D ++ [xs])) (hb : ∀ l, a 37 l ≤ 200) (hn : n = (v 39 - 1).toNat) (hi : i = (200 * (v 39 - 1) + a 37 n).toNat) (hz : z = a 37 n + 1) (hv : v2 39 = v 39) : DRH v2 (up2 (up2 a 38 i x) 37 n z) (D ++ [xs ++ [x]]) := by
  obtain ⟨h1, h2⟩ := h
  rw [len1] at h1
  have en : n = D.length := by omega
  obtain ⟨g1, g2⟩ := h2 D.length xs ap2
  rw [en] at hi hz
  have ei : i = 200 * D.length + xs.length := by omega
  refine ⟨by rw [len1]; omega, fun l ys e => ?_⟩
  rcases ap1 e with ⟨c, e⟩ | ⟨c, e⟩
  · obtain ⟨k1, k2⟩ := h2 l ys (ap3 e)
    have k3 := hb l
    refine ⟨by rw [up2_j (by omega), up2_k (by decide)]; exact k1, fun j y ej => ?_⟩
    have lt := gl3 ej
    rw [up2_k (by decide), up2_j (by omega)]
    exact k2 j y ej
  · subst e
    subst c
    refine ⟨by rw [en, up2_s, len1]; omega, fun j y ej => ?_⟩
    rcases ap1 ej with ⟨c, ej⟩ | ⟨c, ej⟩
    · rw [up2_k (by decide), up2_j (by omega)]
      exact g2 j y ej
    · subst ej
      rw [up2_k (by decide), show 200 * D.length + j = i by omega, up2_s]
theorem DRH.new (h : DRH v a D) (hn : n = (v 39).toNat) (hv : v2 39 = v 39 + 1) : DRH v2 (up2 a 37 n 0) (D ++ [[]]) := by
  obtain ⟨h1, h2⟩ := h
  refine ⟨by rw [len1]; omega, fun l ys e => ?_⟩
  rcases ap1 e with ⟨c, e⟩ | ⟨c, e⟩
  · exact (h2 l ys e).fr (up2_j (by omega)) (fun j _ => up2_k (by decide))
  · subst e
    exact ⟨by rw [show l = n by omega, up2_s]; rfl, fun j y ej => by simp at ej⟩
theorem PUC.mk {o : Option Value} (hB : BX v a) (h : o = none ∧ v = v2 ∧ a2 = up2 (up2 a 38 (200 * (v 39 - 1) + a 37 (v 39 - 1).toNat).toNat x) 37 (v 39 - 1).toNat (a 37 (v 39 - 1).toNat + 1)) : PUC v a v2 a2 x := fun D xs hD => by
  obtain ⟨_, e1, e2⟩ := h
  rw [e2, ← e1]
  exact hD.put (fun l => (hB.2 37 l).2) rfl rfl rfl rfl
theorem NLX.mk {o : Option Value} (h : ∃ f : Int, o = some (.int (iI f)) ∧ ((f = 1 ∧ v 39 < 200 ∧ v2 = va_up v 39 (v 39 + 1) ∧ a2 = up2 a 37 (v 39).toNat 0) ∨ (f = 0 ∧ v 39 = 200 ∧ v = v2 ∧ a = a2))) : ∃ f : Int, o = some (.int (iI f)) ∧ (f = 0 ∨ f = 1) ∧ NLX v a v2 a2 f := by
  obtain ⟨f, e, h⟩ := h
  refine ⟨f, e, ?_, fun D hD => ?_⟩
  · rcases h with ⟨e1, _⟩ | ⟨e1, _⟩
    · exact Or.inr e1
    · exact Or.inl e1
  · have e0 := hD.1
    rcases h with ⟨e1, e2, e3, e4⟩ | ⟨e1, e2, e3, e4⟩
    · refine Or.inl ⟨e1, by omega, ?_⟩
      rw [e4]
      exact hD.new rfl (by rw [e3]; exact va_up_self _ _ _)
    · exact Or.inr ⟨e1, by omega⟩
theorem WDH.lx (h : WDH v a w) (hj : n < w.length) : a 20 n = lts w n := by
  have g := (h.2 n _ (List.getElem?_eq_getElem hj)).1
  rw [g]
  show _ = ((w[n]?).map (fun x => x.1)).getD 0
  (rw [List.getElem?_eq_getElem hj]) <;> rfl
theorem WDH.bx (h : WDH v a w) (hj : n < w.length) (h1 : 1 ≤ n) : a 22 n = bks w n := by
  have g := (h.2 n _ (List.getElem?_eq_getElem hj)).2.2 h1
  rw [g]
  show _ = ((w[n]?).map (fun x => x.2.2)).getD 0
  (rw [List.getElem?_eq_getElem hj]) <;> rfl
theorem lbk_s {k : Int} (i : Nat) : lbk w k st d r (i + 1) = if 1 ≤ i ∧ bks w i ≠ 0 ∧ d < st i ∧ st i - d + 1 ≤ r ∧ kok k ((w.length : Nat) : Int) (lts w (i - 1)) (lts w i) then st i else lbk w k st d r i := rfl
theorem BRI.init : BRI v a t q z 1 (-1) := fun w cs st _ _ => by
  show (-1 : Int) = lbk w (a 6 t.toNat) st q z (0 + 1)
  rw [lbk_s, if_neg (fun e => absurd e.1 (by decide))]
  rfl
theorem BRI.hit (h : BRI v a t q z k x) (hk : 1 ≤ k ∧ k < v 23) (h22 : a 22 k.toNat ≠ 0) (h26 : q < a 26 k.toNat) (hz : a 26 k.toNat - q + 1 ≤ z) (hg : kok (a 6 t.toNat) (v 23) (a 20 (k - 1).toNat) (a 20 k.toNat)) (e : f = a 26 k.toNat) : BRI v a t q z (k + 1) f := fun w cs st hw hs => by
  have e0 := hw.1
  have lt : k.toNat < w.length := by omega
  obtain ⟨s1, _⟩ := hs (by have := hg.1; omega) k.toNat lt
  have hl := hw.lx lt
  have hl2 := hw.lx (n := k.toNat - 1) (by omega)
  have hb := hw.bx lt (by omega)
  rw [show (k + 1).toNat = k.toNat + 1 by omega, lbk_s, if_pos]
  · omega
  · rw [← hl, ← hl2, ← hb, ← s1, ← e0, show k.toNat - 1 = (k - 1).toNat by omega]
    exact ⟨by omega, h22, h26, hz, hg⟩
theorem BRI.miss (h : BRI v a t q z k x) (hk : 1 ≤ k ∧ k < v 23) (hn : ¬ (a 22 k.toNat ≠ 0 ∧ q < a 26 k.toNat ∧ a 26 k.toNat - q + 1 ≤ z ∧ kok (a 6 t.toNat) (v 23) (a 20 (k - 1).toNat) (a 20 k.toNat))) : BRI v a t q z (k + 1) x := fun w cs st hw hs => by
  have e0 := hw.1
  have lt : k.toNat < w.length := by omega
  have hl := hw.lx lt
  have hl2 := hw.lx (n := k.toNat - 1) (by omega)
  have hb := hw.bx lt (by omega)
  rw [show (k + 1).toNat = k.toNat + 1 by omega, lbk_s, if_neg]
  · exact h w cs st hw hs
  · intro g
    obtain ⟨g1, g2, g3, g4, g5⟩ := g
    obtain ⟨s1, _⟩ := hs (by have := g5.1; omega) k.toNat lt
    rw [← hl, ← hl2, ← e0, show k.toNat - 1 = (k - 1).toNat by omega] at g5
    rw [← hb] at g2
    rw [← s1] at g3 g4
    exact hn ⟨g2, g3, g4, g5⟩
theorem BRI.fin (h : BRI v a t q z k f) (hk : k = v 23 ∨ (k = 1 ∧ v 23 ≤ 1)) : BRQ v a t q z f := fun w cs st hw hs => by
  refine hv2 (hw.1) (h w cs st hw hs) (fun e0 g => ?_)
  rcases hk with e | ⟨e1, e2⟩
  · rw [show k.toNat = w.length by omega] at g
    exact g
  · have g2 := BRI.init (v := v) (a := a) (t := t) (q := q) (z := z) w cs st hw hs
    rw [e1] at g
    unfold brk
    cases e3 : w.length with
    | zero => rw [g, ← g2]; rfl
    | succ m =>
      have e4 : m = 0 := by omega
      subst e4
      exact g
theorem BRQ.fr (h : BRQ v1 a1 t q z f) (h23 : v1 23 = v 23) (h6 : a1 6 = a 6) (h20 : a1 20 = a 20) (h21 : a1 21 = a 21) (h22 : a1 22 = a 22) (h26 : a1 26 = a 26) : BRQ v a t q z f := fun w cs st hw hs => by
  have g := h w cs st ⟨h23.trans hw.1, fun j y e => by rw [h20, h21, h22]; exact hw.2 j y e⟩ (by unfold BGT; rw [h6, h26]; exact hs)
  unfold brk at g ⊢
  rw [h6] at g
  exact g
theorem lbk_val {k : Int} : ∀ i : Nat, lbk w k st d r i = -1 ∨ ∃ j : Nat, j < i ∧ lbk w k st d r i = st j ∧ (1 ≤ j ∧ bks w j ≠ 0 ∧ d < st j ∧ st j - d + 1 ≤ r ∧ kok k ((w.length : Nat) : Int) (lts w (j - 1)) (lts w j)) := by
  intro i
  induction i with
  | zero => exact Or.inl rfl
  | succ i ih =>
    rw [lbk_s]
    split
    · rename_i c
      exact Or.inr ⟨i, by omega, rfl, c⟩
    · rcases ih with e | ⟨j, h1, h2, h3⟩
      · exact Or.inl e
      · exact Or.inr ⟨j, by omega, h2, h3⟩
theorem brk_lt (hs : BGT a t w cs st) : brk a t w st d r = -1 ∨ (d < brk a t w st d r ∧ brk a t w st d r < ((cs.length : Nat) : Int)) := by
  unfold brk
  rcases lbk_val (w := w) (k := a 6 t.toNat) (st := st) (d := d) (r := r) w.length with e | ⟨j, h1, h2, h3⟩
  · exact Or.inl e
  · have g := (hs (by have := h3.2.2.2.2.1; omega) j h1).2
    refine Or.inr ⟨?_, ?_⟩
    · rw [h2]; exact h3.2.2.1
    · rw [h2]; exact g
theorem flw_s {m d : Nat} : flw br wd hy cs (m + 1) d D xs = if ((cs.length : Nat) : Int) - ((d : Nat) : Int) ≤ rom wd xs then some (D ++ [pql xs ++ sgm cs d (cs.length - d)]) else if 0 ≤ br ((d : Nat) : Int) (rom wd xs) then (if D.length + 1 < 200 then flw br wd hy cs m (br ((d : Nat) : Int) (rom wd xs)).toNat (D ++ [(pql xs ++ sgm cs d ((br ((d : Nat) : Int) (rom wd xs)).toNat - d)) ++ [hy]]) [] else none) else if xs.length = 0 then some (D ++ [pql xs ++ sgm cs d (cs.length - d)]) else if D.length + 1 < 200 then flw br wd hy cs m d (D ++ [xs]) [] else none := rfl
theorem sgm_s (d n : Nat) : sgm cs d (n + 1) = sgm cs d n ++ [(cs[d + n]?).getD 0] := rfl
theorem MDH.g (h : MDH v a cs) (hn : n < cs.length) : a 24 n = (cs[n]?).getD 0 := by
  rw [h.2 n _ (List.getElem?_eq_getElem hn), List.getElem?_eq_getElem hn]
  rfl
theorem FL2.init : FL2 v a v a t 0 := fun D xs cs w st h => ⟨D, xs, ⟨201, by omega, rfl⟩, h.1⟩
theorem FL2.at37 (h : FL2 v a v1 a1 t x) (hc : FCX v a t D xs cs w st) : ∃ D1 x1, FLR v a t D xs cs w st x D1 x1 ∧ DRH v1 a1 (D1 ++ [x1]) ∧ a1 37 (v1 39 - 1).toNat = ((x1.length : Nat) : Int) := by
  obtain ⟨D1, x1, g1, g2⟩ := h D xs cs w st hc
  refine ⟨D1, x1, g1, g2, ?_⟩
  have e := g2.1
  rw [len1] at e
  rw [show (v1 39 - 1).toNat = D1.length by omega]
  exact (g2.2 D1.length x1 ap2).1
theorem FL2.fr (h : FL2 v a v1 a1 t x) (hv : v2 39 = v1 39) (h37 : a2 37 = a1 37) (h38 : a2 38 = a1 38) : FL2 v a v2 a2 t x := fun D xs cs w st hc => by
  obtain ⟨D1, x1, g1, g2⟩ := h D xs cs w st hc
  exact ⟨D1, x1, g1, g2.fr hv h37 h38⟩
theorem FL2.b0 (h : FL2 v a v1 a1 t x) (e : a1 37 (v1 39 - 1).toNat = z) (hz : z ≤ 0) : FL4 v a v1 a1 t x z x := fun D xs cs w st hc => by
  obtain ⟨D1, x1, g1, g2, g3⟩ := h.at37 hc
  refine ⟨D1, x1, g1, by omega, ?_⟩
  have e0 : x1.length = 0 := by omega
  have e1 := List.length_eq_zero_iff.mp e0
  subst e1
  rw [show (x - x).toNat = 0 by omega]
  exact g2
theorem FL2.b1 (h : FL2 v a v1 a1 t x) (e : a1 37 (v1 39 - 1).toNat = z) (hz : 0 < z) (hp : PUC v1 a1 v2 a2 0) : FL4 v a v2 a2 t x z x := fun D xs cs w st hc => by
  obtain ⟨D1, x1, g1, g2, g3⟩ := h.at37 hc
  refine ⟨D1, x1, g1, by omega, ?_⟩
  have g4 := hp D1 x1 g2
  rw [show (x - x).toNat = 0 by omega]
  unfold pql
  rw [if_neg (by omega)]
  show DRH v2 a2 (D1 ++ [(x1 ++ [0]) ++ []])
  rw [List.append_nil]
  exact g4
theorem FL4.put (h : FL4 v a v1 a1 t x c k) (hx : 0 ≤ x) (hk : x ≤ k ∧ k < v 25) (hz : z = a 24 k.toNat) (hp : PUC v1 a1 v2 a2 z) : FL4 v a v2 a2 t x c (k + 1) := fun D xs cs w st hc => by
  obtain ⟨D1, x1, g1, g2, g3⟩ := h D xs cs w st hc
  refine ⟨D1, x1, g1, g2, ?_⟩
  refine hv2 (hc.2.1.1) (hp _ _ g3) (fun e0 g4 => ?_)
  have e1 := hc.2.1.g (n := k.toNat) (by omega)
  rw [show (k + 1 - x).toNat = (k - x).toNat + 1 by omega, sgm_s, show x.toNat + (k - x).toNat = k.toNat by omega, ← e1, ← hz, ← List.append_assoc]
  exact g4
theorem rom_h (e : ((xs.length : Nat) : Int) = h) (hz : (h = 0 ∧ z = wd) ∨ (0 < h ∧ z = wd - (h + 1))) : rom wd xs = z := by
  unfold rom
  split <;> omega
theorem FLR.run {x : Int} (h : FLR v a t D xs cs w st x D1 x1) (hD : D1.length + 1 ≤ 200) : ∃ n, 201 ≤ n + (D1.length + 1) ∧ FLV v a t D xs cs w st = flw (brk a t w st) (v 31) (v 33) cs (n + 1) x.toNat D1 x1 := by
  obtain ⟨n, h1, h2⟩ := h
  cases n with
  | zero => omega
  | succ n => exact ⟨n, by omega, h2⟩
theorem FLR.fits {x : Int} (h : FLR v a t D xs cs w st x D1 x1) (hD : D1.length + 1 ≤ 200) (hx : 0 ≤ x) (hr : rom (v 31) x1 = z) (hc : ((cs.length : Nat) : Int) - x ≤ z) : FLV v a t D xs cs w st = some (D1 ++ [pql x1 ++ sgm cs x.toNat (cs.length - x.toNat)]) := by
  obtain ⟨n, _, h2⟩ := h.run hD
  rw [h2, flw_s, if_pos (by omega)]
theorem FLR.long {x : Int} (h : FLR v a t D xs cs w st x D1 x1) (hD : D1.length + 1 ≤ 200) (hx : 0 ≤ x) (hr : rom (v 31) x1 = z) (hc : z < ((cs.length : Nat) : Int) - x) (hb : brk a t w st x z < 0) (h0 : x1.length = 0) : FLV v a t D xs cs w st = some (D1 ++ [pql x1 ++ sgm cs x.toNat (cs.length - x.toNat)]) := by
  obtain ⟨n, _, h2⟩ := h.run hD
  have ex : ((x.toNat : Nat) : Int) = x := Int.toNat_of_nonneg hx
  rw [h2, flw_s, if_neg (by omega), if_neg (by rw [hr, ex]; omega), if_pos h0]
theorem FLR.next {x : Int} (h : FLR v a t D xs cs w st x D1 x1) (hD : D1.length + 1 < 200) (hx : 0 ≤ x) (hr : rom (v 31) x1 = z) (hc : z < ((cs.length : Nat) : Int) - x) (hb : brk a t w st x z < 0) (h0 : x1.length ≠ 0) : FLR v a t D xs cs w st x (D1 ++ [x1]) [] := by
  obtain ⟨n, h1, h2⟩ := h.run (by omega)
  have ex : ((x.toNat : Nat) : Int) = x := Int.toNat_of_nonneg hx
  refine ⟨n, by rw [len1]; exact h1, ?_⟩
  rw [h2, flw_s, if_neg (by omega), if_neg (by rw [hr, ex]; omega), if_neg h0, if_pos hD]
theorem FLR.nroom {x : Int} (h : FLR v a t D xs cs w st x D1 x1) (hD : D1.length + 1 = 200) (hx : 0 ≤ x) (hr : rom (v 31) x1 = z) (hc : z < ((cs.length : Nat) : Int) - x) (hb : 0 ≤ brk a t w st x z ∨ x1.length ≠ 0) : FLV v a t D xs cs w st = none := by
  obtain ⟨n, _, h2⟩ := h.run (by omega)
  have ex : ((x.toNat : Nat) : Int) = x := Int.toNat_of_nonneg hx
  rw [h2, flw_s, if_neg (by omega)]
  by_cases c : 0 ≤ brk a t w st x z
  · rw [if_pos (by rw [hr, ex]; exact c), if_neg (by omega)]
  · rw [if_neg (by rw [hr, ex]; exact c), if_neg (by omega), if_neg (by omega)]
theorem FLR.part {x : Int} (h : FLR v a t D xs cs w st x D1 x1) (hD : D1.length + 1 < 200) (hx : 0 ≤ x) (hr : rom (v 31) x1 = z) (hc : z < ((cs.length : Nat) : Int) - x) (hb : brk a t w st x z = y1) (h0 : 0 ≤ y1) : FLR v a t D xs cs w st y1 (D1 ++ [(pql x1 ++ sgm cs x.toNat (y1.toNat - x.toNat)) ++ [v 33]]) [] := by
  obtain ⟨n, h1, h2⟩ := h.run (by omega)
  have ex : ((x.toNat : Nat) : Int) = x := Int.toNat_of_nonneg hx
  refine ⟨n, by rw [len1]; exact h1, ?_⟩
  rw [h2, flw_s, if_neg (by omega), hr, ex, hb, if_pos h0, if_pos hD]
theorem DRH.l200 (h : DRH v a (D ++ [xs])) (hv : v 39 ≤ 200) : D.length + 1 ≤ 200 := by
  have e := h.1
  rw [len1] at e
  omega
theorem FL4.fin (h : FL4 v a v1 a1 t x c y1) (hx : 0 ≤ x) (hv : v1 39 ≤ 200) (he : y1 = v 25) (hz : (c = 0 ∧ z = v 31) ∨ (0 < c ∧ z = v 31 - (c + 1))) (hy : v 25 - x ≤ z ∨ (z < v 25 - x ∧ ((c = 0 ∧ BRQ v a t x z (-1)) ∨ BRQ v a t x z y1))) : FLT v a v1 a1 t 1 := fun D xs cs w st hc => ⟨fun _ => by
  obtain ⟨D1, x1, g1, g2, g3⟩ := h D xs cs w st hc
  refine hv3 (hc.2.1.1) (g3.l200 hv) (rom_h (wd := v 31) g2 hz) (fun e0 hD hr => ?_)
  rw [show (y1 - x).toNat = cs.length - x.toNat by omega] at g3
  refine ⟨_, ?_, g3⟩
  rcases hy with q | ⟨q, q2⟩
  · exact g1.fits hD hx hr (by omega)
  · rcases q2 with ⟨q2, q3⟩ | q3
    · have e := q3 w cs st hc.2.2.1 hc.2.2.2
      exact g1.long hD hx hr (by omega) (by omega) (by omega)
    · have e := q3 w cs st hc.2.2.1 hc.2.2.2
      have g := brk_lt (d := x) (r := z) hc.2.2.2
      omega, fun e => absurd rfl e⟩
theorem FL4.hyp (h : FL4 v a v1 a1 t x c y1) (hx : 0 ≤ x) (hv : v1 39 ≤ 200) (hz : (c = 0 ∧ z = v 31) ∨ (0 < c ∧ z = v 31 - (c + 1))) (hc0 : z < v 25 - x) (hb : BRQ v a t x z y1) (hy0 : 0 ≤ y1) (hyp : hy = v 33) (hp : PUC v1 a1 v2 a2 hy) (hn : NLX v2 a2 v3 a3 f) (hf : f = 1) : FL2 v a v3 a3 t y1 := fun D xs cs w st hc => by
  obtain ⟨D1, x1, g1, g2, g3⟩ := h D xs cs w st hc
  refine hv5 (hc.2.1.1) (rom_h (wd := v 31) g2 hz) (hb w cs st hc.2.2.1 hc.2.2.2) (brk_lt (d := x) (r := z) hc.2.2.2) (hp _ _ g3) (fun e0 hr e g g4 => ?_)
  rcases hn _ g4 with ⟨_, n2, n3⟩ | ⟨n1, _⟩
  · rw [len1] at n2
    have g5 := g1.part n2 hx hr (by omega) e.symm hy0
    rw [← hyp, show y1.toNat - x.toNat = (y1 - x).toNat by omega] at g5
    exact ⟨_, _, g5, n3⟩
  · omega
theorem FL4.hno (h : FL4 v a v1 a1 t x c y1) (hx : 0 ≤ x) (hz : (c = 0 ∧ z = v 31) ∨ (0 < c ∧ z = v 31 - (c + 1))) (hc0 : z < v 25 - x) (hb : BRQ v a t x z y1) (hy0 : 0 ≤ y1) (hp : PUC v1 a1 v2 a2 hy) (hn : NLX v2 a2 v3 a3 f) (hf : f ≠ 1) : FLT v a v3 a3 t 0 := fun D xs cs w st hc => ⟨fun e => absurd e (by decide), fun _ => by
  obtain ⟨D1, x1, g1, g2, g3⟩ := h D xs cs w st hc
  refine hv3 (hc.2.1.1) (rom_h (wd := v 31) g2 hz) (hb w cs st hc.2.2.1 hc.2.2.2) (fun e0 hr e => ?_)
  rcases hn _ (hp _ _ g3) with ⟨n1, _⟩ | ⟨_, n2⟩
  · omega
  · rw [len1] at n2
    exact g1.nroom n2 hx hr (by omega) (Or.inl (by omega))⟩
theorem FL2.nl (h : FL2 v a v1 a1 t x) (hx : 0 ≤ x) (e37 : a1 37 (v1 39 - 1).toNat = c) (hz : (c = 0 ∧ z = v 31) ∨ (0 < c ∧ z = v 31 - (c + 1))) (h0 : c ≠ 0) (hc0 : z < v 25 - x) (hb : BRQ v a t x z y1) (hy0 : y1 < 0) (hn : NLX v1 a1 v3 a3 f) (hf : f = 1) : FL2 v a v3 a3 t x := fun D xs cs w st hc => by
  obtain ⟨D1, x1, g1, g2, g3⟩ := h.at37 hc
  refine hv2 (hc.2.1.1) (hb w cs st hc.2.2.1 hc.2.2.2) (fun e0 e => ?_)
  have hr := rom_h (xs := x1) (h := c) (wd := v 31) (by omega) hz
  rcases hn _ g2 with ⟨_, n2, n3⟩ | ⟨n1, _⟩
  · rw [len1] at n2
    exact ⟨_, _, g1.next n2 hx hr (by omega) (by omega) (by omega), n3⟩
  · omega
theorem FL2.nno (h : FL2 v a v1 a1 t x) (hx : 0 ≤ x) (e37 : a1 37 (v1 39 - 1).toNat = c) (hz : (c = 0 ∧ z = v 31) ∨ (0 < c ∧ z = v 31 - (c + 1))) (h0 : c ≠ 0) (hc0 : z < v 25 - x) (hn : NLX v1 a1 v3 a3 f) (hf : f ≠ 1) : FLT v a v3 a3 t 0 := fun D xs cs w st hc => ⟨fun e => absurd e (by decide), fun _ => by
  obtain ⟨D1, x1, g1, g2, g3⟩ := h.at37 hc
  have e0 := hc.2.1.1
  have hr := rom_h (xs := x1) (h := c) (wd := v 31) (by omega) hz
  rcases hn _ g2 with ⟨n1, _⟩ | ⟨_, n2⟩
  · omega
  · rw [len1] at n2
    exact g1.nroom n2 hx hr (by omega) (Or.inr (by omega))⟩
end DRAF
def CE6 (v : Nat → Int) (a : Nat → Nat → Int) (v1 : Nat → Int) (a1 : Nat → Nat → Int) (q x y k : Int) : Prop := ∀ D, DRH v a D → v1 39 = ((D.length : Nat) : Int) ∧ (∀ (l : Nat) (xs : List Int), D[l]? = some xs → l ≠ x.toNat → LNH a1 l (if q ≤ ((l : Nat) : Int) ∧ ((l : Nat) : Int) < x then cen (v 31) xs else xs)) ∧ ∀ xs, D[x.toNat]? = some xs → a1 37 x.toNat = ((xs.length : Nat) : Int) ∧ ∀ (j : Nat) (e : Int), xs[j]? = some e → (((j : Nat) : Int) ≤ k → a1 38 (200 * x.toNat + j) = e) ∧ (k < ((j : Nat) : Int) → a1 38 (200 * x.toNat + j + y.toNat) = e)
def CE7 (v : Nat → Int) (a : Nat → Nat → Int) (v1 : Nat → Int) (a1 : Nat → Nat → Int) (q x y k : Int) : Prop := ∀ D, DRH v a D → v1 39 = ((D.length : Nat) : Int) ∧ (∀ (l : Nat) (xs : List Int), D[l]? = some xs → l ≠ x.toNat → LNH a1 l (if q ≤ ((l : Nat) : Int) ∧ ((l : Nat) : Int) < x then cen (v 31) xs else xs)) ∧ ∀ xs, D[x.toNat]? = some xs → a1 37 x.toNat = ((xs.length : Nat) : Int) ∧ (∀ (j : Nat) (e : Int), xs[j]? = some e → a1 38 (200 * x.toNat + j + y.toNat) = e) ∧ ∀ j : Nat, ((j : Nat) : Int) < k → a1 38 (200 * x.toNat + j) = 0
def CNX (v : Nat → Int) (a : Nat → Nat → Int) (v2 : Nat → Int) (a2 : Nat → Nat → Int) (q : Int) : Prop := ∀ D, DRH v a D → DRH v2 a2 (cnl (v 31) q.toNat D)
section CENT
variable {v v1 v2 v3 : Nat → Int} {a a1 a2 a3 : Nat → Nat → Int} {D : List (List Int)} {xs : List Int} {x z q k y c wd : Int} {i l b : Nat}
theorem cnl_get : ∀ (D : List (List Int)) (b l : Nat), (cnl wd b D)[l]? = if b ≤ l then (D[l]?).map (cen wd) else D[l]? := by
  intro D
  induction D with
  | nil => intro b l; cases b <;> simp [cnl]
  | cons xs D ih =>
    intro b l
    cases b with
    | zero =>
      rw [if_pos (Nat.zero_le _)]
      cases l with
      | zero => rfl
      | succ l =>
        have g := ih 0 l
        rw [if_pos (Nat.zero_le _)] at g
        exact g
    | succ b =>
      cases l with
      | zero => rw [if_neg (by omega)]; rfl
      | succ l =>
        have g := ih b l
        show (cnl wd b D)[l]? = if b + 1 ≤ l + 1 then (D[l]?).map (cen wd) else D[l]?
        rw [g]
        by_cases c : b ≤ l
        · rw [if_pos c, if_pos (by omega)]
        · rw [if_neg c, if_neg (by omega)]
theorem cnl_len : ∀ (D : List (List Int)) (b : Nat), (cnl wd b D).length = D.length := by
  intro D
  induction D with
  | nil => intro b; cases b <;> rfl
  | cons xs D ih =>
    intro b
    cases b with
    | zero => exact congrArg (· + 1) (ih 0)
    | succ b => exact congrArg (· + 1) (ih b)
theorem CN2.init : CN2 v a v a q q := fun D h => ⟨h.1, fun l xs e => by
  rw [if_neg (by omega)]
  exact h.2 l xs e⟩
theorem CN2.fin (h : CN2 v a v1 a1 q x) (hq : 0 ≤ q) (hx : v1 39 ≤ x) : CNX v a v1 a1 q := fun D hD => by
  obtain ⟨h1, h2⟩ := h D hD
  refine ⟨by rw [cnl_len]; exact h1, fun l ys e => ?_⟩
  rw [cnl_get] at e
  by_cases c : q.toNat ≤ l
  · rw [if_pos c] at e
    cases e2 : D[l]? with
    | none => rw [e2] at e; cases e
    | some xs =>
      rw [e2] at e
      cases e
      refine hv2 (gl3 e2) (h2 l xs e2) (fun lt g => ?_)
      rw [if_pos (by omega)] at g
      exact g
  · rw [if_neg c] at e
    have g := h2 l ys e
    rw [if_neg (by omega)] at g
    exact g
theorem CN2.go (h : CN2 v a v1 a1 q x) (hx : 0 ≤ x) (hk : k = a1 37 x.toNat - 1) : CE6 v a v1 a1 q x y k := fun D hD => by
  obtain ⟨h1, h2⟩ := h D hD
  refine ⟨h1, fun l xs e _ => h2 l xs e, fun xs e => ?_⟩
  have g := h2 x.toNat xs e
  rw [if_neg (by omega)] at g
  refine ⟨g.1, fun j e0 ej => ⟨fun _ => g.2 j e0 ej, fun hj => ?_⟩⟩
  refine hv2 (gl3 ej) (g.1) (fun lt g1 => ?_)
  omega
theorem CE6.mv (h : CE6 v a v1 a1 q x y k) (hb : ∀ l, a1 37 l ≤ 200) (hx : 0 ≤ x) (hk : 0 ≤ k ∧ 0 ≤ y ∧ k + y < 200) (hi : i = (200 * x + k + y).toNat) (hz : z = a1 38 (200 * x + k).toNat) : CE6 v a v1 (up2 a1 38 i z) q x y (k - 1) := fun D hD => by
  obtain ⟨h1, h2, h3⟩ := h D hD
  have ei : i = 200 * x.toNat + k.toNat + y.toNat := by omega
  refine ⟨h1, fun l xs e ne => ?_, fun xs e => ?_⟩
  · have g := h2 l xs e ne
    refine hv2 (hb l) (g.1) (fun b1 g1 => ?_)
    exact g.fr (up2_k (by decide)) (fun j hj => up2_j (by omega))
  · obtain ⟨g1, g2⟩ := h3 xs e
    refine ⟨by rw [up2_k (by decide)]; exact g1, fun j e0 ej => ⟨fun hj => ?_, fun hj => ?_⟩⟩
    · rw [up2_j (by omega)]
      exact (g2 j e0 ej).1 (by omega)
    · by_cases c : ((j : Nat) : Int) = k
      · rw [show 200 * x.toNat + j + y.toNat = i by omega, up2_s, hz, show (200 * x + k).toNat = 200 * x.toNat + j by omega]
        exact (g2 j e0 ej).1 (by omega)
      · rw [up2_j (by omega)]
        exact (g2 j e0 ej).2 (by omega)
theorem CE6.zr (h : CE6 v a v1 a1 q x y k) (hk : k < 0) : CE7 v a v1 a1 q x y 0 := fun D hD => by
  obtain ⟨h1, h2, h3⟩ := h D hD
  refine ⟨h1, h2, fun xs e => ?_⟩
  obtain ⟨g1, g2⟩ := h3 xs e
  exact ⟨g1, fun j e0 ej => (g2 j e0 ej).2 (by omega), fun j hj => absurd hj (by omega)⟩
theorem CE7.mv (h : CE7 v a v1 a1 q x y k) (hb : ∀ l, a1 37 l ≤ 200) (hx : 0 ≤ x) (hk : 0 ≤ k ∧ k < y ∧ k < 200) (hi : i = (200 * x + k).toNat) : CE7 v a v1 (up2 a1 38 i 0) q x y (k + 1) := fun D hD => by
  obtain ⟨h1, h2, h3⟩ := h D hD
  have ei : i = 200 * x.toNat + k.toNat := by omega
  refine ⟨h1, fun l xs e ne => ?_, fun xs e => ?_⟩
  · have g := h2 l xs e ne
    refine hv2 (hb l) (g.1) (fun b1 g1 => ?_)
    exact g.fr (up2_k (by decide)) (fun j hj => up2_j (by omega))
  · obtain ⟨g1, g2, g3⟩ := h3 xs e
    refine ⟨by rw [up2_k (by decide)]; exact g1, fun j e0 ej => ?_, fun j hj => ?_⟩
    · rw [up2_j (by omega)]
      exact g2 j e0 ej
    · by_cases c : ((j : Nat) : Int) = k
      · rw [show 200 * x.toNat + j = i by omega, up2_s]
      · rw [up2_j (by omega)]
        exact g3 j (by omega)
theorem CE7.fin (h : CE7 v a v1 a1 q x y k) (hx : 0 ≤ x ∧ q ≤ x) (hk : k = y) (hy : 0 ≤ y) (hc : a1 37 x.toNat = c) (hy2 : ((c = 0 ∨ v 31 ≤ c) ∧ y = 0) ∨ (0 < c ∧ c < v 31 ∧ y = (v 31 - c) / 2)) (hi : i = x.toNat) (hz : z = c + y) : CN2 v a v1 (up2 a1 37 i z) q (x + 1) := fun D hD => by
  obtain ⟨h1, h2, h3⟩ := h D hD
  subst hi
  refine ⟨h1, fun l xs e => ?_⟩
  by_cases cl : l = x.toNat
  · subst cl
    obtain ⟨g1, g2, g3⟩ := h3 xs e
    rw [if_pos (by omega)]
    unfold cen
    rcases hy2 with ⟨e1, e2⟩ | ⟨e1, e2, e3⟩
    · rw [if_pos (by omega)]
      refine ⟨by rw [up2_s]; omega, fun j e0 ej => ?_⟩
      have g := g2 j e0 ej
      rw [show 200 * x.toNat + j + y.toNat = 200 * x.toNat + j by omega] at g
      rw [up2_k (by decide)]
      exact g
    · rw [if_neg (by omega)]
      have en : ((v 31 - ((xs.length : Nat) : Int)) / 2).toNat = y.toNat := by rw [show ((xs.length : Nat) : Int) = c by omega, ← e3]
      rw [en]
      refine ⟨by rw [up2_s, List.length_append, List.length_replicate]; omega, fun j e0 ej => ?_⟩
      rw [up2_k (by decide)]
      by_cases cj : j < y.toNat
      · rw [List.getElem?_append_left (by rw [List.length_replicate]; exact cj), List.getElem?_replicate, if_pos cj] at ej
        cases ej
        exact g3 j (by omega)
      · rw [List.getElem?_append_right (by rw [List.length_replicate]; omega), List.length_replicate] at ej
        have g := g2 (j - y.toNat) e0 ej
        rw [show 200 * x.toNat + (j - y.toNat) + y.toNat = 200 * x.toNat + j by omega] at g
        exact g
  · have g := h2 l xs e cl
    have g2 : LNH (up2 a1 37 x.toNat z) l (if q ≤ ((l : Nat) : Int) ∧ ((l : Nat) : Int) < x then cen (v 31) xs else xs) := g.fr (up2_j cl) (fun j _ => up2_k (by decide))
    by_cases c1 : q ≤ ((l : Nat) : Int) ∧ ((l : Nat) : Int) < x
    · rw [if_pos c1] at g2
      rw [if_pos (by omega)]
      exact g2
    · rw [if_neg c1] at g2
      rw [if_neg (by omega)]
      exact g2
end CENT
end
section
theorem W_newLine2 {v v2 : Nat → Int} {a a2 : Nat → Nat → Int} {r : Option Value}  (hB : BX v a)  (h : (fun r v2 a2 => ∃ f : Int, r = some (.int (iI f)) ∧ ((f = 1 ∧ v 39 < 200 ∧ v2 = va_up v 39 (v 39 + 1) ∧ a2 = up2 a 37 (v 39).toNat 0) ∨ (f = 0 ∧ v 39 = 200 ∧ v = v2 ∧ a = a2))) r v2 a2) : (fun r v2 a2 => ∃ f : Int, r = some (.int (iI f)) ∧ fr [39] [37] v a v2 a2 ∧ BX v2 a2 ∧ (((f = 1 ∧ v2 39 = v 39 + 1 ∧ a2 37 (v2 39 - 1).toNat = 0) ∨ f = 0) ∧ NLX v a v2 a2 f)) r v2 a2 := by
  obtain ⟨f, rfl, h⟩ := h
  have q39 : 0 ≤ v 39 ∧ v 39 ≤ 200 := hB.1 39
  rcases h with ⟨rfl, h1, rfl, rfl⟩ | ⟨rfl, h1, rfl, rfl⟩
  · refine ⟨1, rfl, ((fr.refl (V := [39]) (A := [37])).put (k := 39) rfl).set (k := 37) rfl, (hB.put (k := 39) (show 0 ≤ v 39 + 1 ∧ v 39 + 1 ≤ 200 by omega)).set (k := 37) (show (0 : Int) ≤ 0 ∧ (0 : Int) ≤ 200 by omega), Or.inl ⟨rfl, rfl, (by rw [show (va_up v 39 (v 39 + 1)) 39 - 1 = v 39 by rw [va_up_self]; omega]; exact up2_s)⟩, fun D hD => ?_⟩
    have e0 := hD.1
    exact Or.inl ⟨rfl, by omega, hD.new rfl (va_up_self _ _ _)⟩
  · refine ⟨0, rfl, fr.refl, hB, Or.inr rfl, fun D hD => ?_⟩
    have e0 := hD.1
    exact Or.inr ⟨rfl, by omega⟩
set_option maxHeartbeats 4000000 in
set_option maxRecDepth 100000 in
theorem E_breakOf {l : Launch} {G : GT} {h0 : Nat} {ad ln : Nat → Nat} {v : Nat → Int} {a : Nat → Nat → Int}  {t q z : Int} (hB : BX v a) (ht : 0 ≤ t ∧ t < 30) (hq : 0 ≤ q ∧ q ≤ 208) (hz : -200 ≤ z ∧ z ≤ 200) : Mm l G yX12_breakOf cX12_breakOf 7 (some .int) 1 [.int (iI t), .int (iI q), .int (iI z)] h0 ad ln v a 0 0 (fun r v2 a2 => ∃ f : Int, r = some (.int (iI f)) ∧ fr [] [] v a v2 a2 ∧ BX v2 a2 ∧ ((f = -1 ∨ (q < f ∧ f ≤ 208 ∧ f - q + 1 ≤ z)) ∧ BRQ v a t q z f)) := by
  refine Mm.mk (by decide) (Nat.le_of_ble_eq_true rfl) ?_
  intro p e s m args below meth c A C
  refine hv2 (show 0 ≤ v 23 ∧ v 23 ≤ 500 from hB.1 23) (show fr [] [] v a v a from fr.refl) (fun r23 fp0 => ?_)
  refine m_iconst C dX12_breakOf_0 ?_
  refine m_istore (lv2 := [(4, .int (iI (-1))), (0, .ref h0), (1, .int (iI t)), (2, .int (iI q)), (3, .int (iI z))]) C dX12_breakOf_1 (by decide) rfl ?_
  refine m_iconst C dX12_breakOf_3 ?_
  refine m_istore (lv2 := [(5, .int (iI 1)), (4, .int (iI (-1))), (0, .ref h0), (1, .int (iI t)), (2, .int (iI q)), (3, .int (iI z))]) C dX12_breakOf_4 (by decide) rfl ?_
  have Lp1 : ∀ (nn : Nat) (w1 k : Int) (vb1 : Nat → Int) (ab1 : Nat → Nat → Int), 502 - k < (nn : Int) → BX vb1 ab1 → fr [] [] v a vb1 ab1 → (w1 = -1 ∨ (q < w1 ∧ w1 ≤ 208 ∧ w1 - q + 1 ≤ z)) → (1 ≤ k ∧ k ≤ 501 ∧ (k = 1 ∨ k ≤ v 23)) → (BRI v a t q z k w1) → mw p l e (rmq 1 0 0) s m args below meth c G A 7 (MQ below (Qm G A (fun rq Lq Eq => ∃ (vq : Nat → Int) (aq : Nat → Nat → Int), mI G h0 ad ln vq aq Lq Eq ∧ (fun r v2 a2 => ∃ f : Int, r = some (.int (iI f)) ∧ fr [] [] v a v2 a2 ∧ BX v2 a2 ∧ ((f = -1 ∨ (q < f ∧ f ≤ 208 ∧ f - q + 1 ≤ z)) ∧ BRQ v a t q z f)) rq vq aq)) args s 0 0 A) h0 ad ln vb1 ab1 0 0 6 [(4, .int (iI w1)), (5, .int (iI k)), (0, .ref h0), (1, .int (iI t)), (2, .int (iI q)), (3, .int (iI z))] [] := by
    intro nn
    induction nn with
    | zero =>
      intro w1 k vb1 ab1 hm bxb1 fpb1 hw hk hI
      obtain ⟨rfl, rfl⟩ := fpb1.eq
      exact absurd hm (by omega)
    | succ nn ih1 =>
      intro w1 k vb1 ab1 hm bxb1 fpb1 hw hk hI
      obtain ⟨rfl, rfl⟩ := fpb1.eq
      refine m_iload (j := 1) C dX12_breakOf_6 rfl ?_
      refine m_aload_n (j := 2) C dX12_breakOf_8 rfl ?_
      have rv1 : 0 ≤ v 23 ∧ v 23 ≤ 500 := bxb1.1 23
      refine m_get (k := 23) C dX12_breakOf_9 w6_82 (by decide) rfl ?_
      refine m_icmp_ge (tgt := 148) C (r32_c (lo := 1) (hi := 501) hk.1 hk.2.1 (by decide) (by decide)) (r32_c (lo := 0) (hi := 500) rv1.1 rv1.2 (by decide) (by decide)) dX12_breakOf_12 (by decide) (fun c1 => ?_) (fun c1 => ?_)
      · refine m_iload (j := 0) C dX12_breakOf_148 rfl ?_
        exact m_iret C dX12_breakOf_150 rfl (Nat.le_of_ble_eq_true rfl) (Nat.le_of_ble_eq_true rfl) ⟨w1, rfl, fpb1, bxb1, ⟨hw, hI.fin (by omega)⟩⟩
      · refine m_aload_n (j := 2) C dX12_breakOf_15 rfl ?_
        refine m_geta (k := 22) C dX12_breakOf_16 w6_81 (by decide) rfl ?_
        refine m_iload (j := 1) C dX12_breakOf_19 rfl ?_
        refine m_zald (k := 22) C dX12_breakOf_21 rfl rfl (by decide) (Int.le_trans (by decide) hk.1) (Int.lt_of_le_of_lt hk.2.1 (by decide)) (by decide) ?_
        have ra1 : 0 ≤ a 22 k.toNat ∧ a 22 k.toNat ≤ 1 := bxb1.2 22 (k.toNat)
        refine m_if_eq (tgt := 142) C (r32_c (lo := 0) (hi := 1) ra1.1 ra1.2 (by decide) (by decide)) dX12_breakOf_22 (by decide) (fun c2 => ?_) (fun c2 => ?_)
        · refine m_iinc (z := k) (j := 1) (lv2 := [(5, .int (iI (k + 1))), (4, .int (iI w1)), (0, .ref h0), (1, .int (iI t)), (2, .int (iI q)), (3, .int (iI z))]) C dX12_breakOf_142 rfl (by decide) rfl ?_
          refine m_goto (tgt := 6) C dX12_breakOf_145 (by decide) ?_
          refine m_lv (lv2 := [(4, .int (iI w1)), (5, .int (iI (k + 1))), (0, .ref h0), (1, .int (iI t)), (2, .int (iI q)), (3, .int (iI z))]) [1, 0, 2, 3, 4, 5] rfl ?_
          exact ih1  w1 (k + 1) _ _ (by omega) bxb1 fpb1 (by omega) (by omega) (hI.miss ⟨by omega, by omega⟩ (fun e => absurd e.1 (by omega)))
        · refine m_aload_n (j := 2) C dX12_breakOf_25 rfl ?_
          refine m_geta (k := 26) C dX12_breakOf_26 w6_85 (by decide) rfl ?_
          refine m_iload (j := 1) C dX12_breakOf_29 rfl ?_
          refine m_ald (k := 26) C dX12_breakOf_31 rfl rfl (by decide) (Int.le_trans (by decide) hk.1) (Int.lt_of_le_of_lt hk.2.1 (by decide)) (by decide) ?_
          have ra2 : (-1) ≤ a 26 k.toNat ∧ a 26 k.toNat ≤ 208 := bxb1.2 26 (k.toNat)
          refine m_iload_n (j := 4) C dX12_breakOf_32 rfl ?_
          refine m_icmp_le (tgt := 142) C (r32_c (lo := (-1)) (hi := 208) ra2.1 ra2.2 (by decide) (by decide)) ⟨by omega, by omega⟩ dX12_breakOf_33 (by decide) (fun c3 => ?_) (fun c3 => ?_)
          · refine m_iinc (z := k) (j := 1) (lv2 := [(5, .int (iI (k + 1))), (4, .int (iI w1)), (0, .ref h0), (1, .int (iI t)), (2, .int (iI q)), (3, .int (iI z))]) C dX12_breakOf_142 rfl (by decide) rfl ?_
            refine m_goto (tgt := 6) C dX12_breakOf_145 (by decide) ?_
            refine m_lv (lv2 := [(4, .int (iI w1)), (5, .int (iI (k + 1))), (0, .ref h0), (1, .int (iI t)), (2, .int (iI q)), (3, .int (iI z))]) [1, 0, 2, 3, 4, 5] rfl ?_
            exact ih1  w1 (k + 1) _ _ (by omega) bxb1 fpb1 (by omega) (by omega) (hI.miss ⟨by omega, by omega⟩ (fun e => absurd e.2.1 (by omega)))
          · refine m_aload_n (j := 2) C dX12_breakOf_36 rfl ?_
            refine m_geta (k := 26) C dX12_breakOf_37 w6_85 (by decide) rfl ?_
            refine m_iload (j := 1) C dX12_breakOf_40 rfl ?_
            refine m_ald (k := 26) C dX12_breakOf_42 rfl rfl (by decide) (Int.le_trans (by decide) hk.1) (Int.lt_of_le_of_lt hk.2.1 (by decide)) (by decide) ?_
            refine m_iload_n (j := 4) C dX12_breakOf_43 rfl ?_
            refine m_isub C dX12_breakOf_44 ?_
            refine m_iconst C dX12_breakOf_45 ?_
            refine m_iadd C dX12_breakOf_46 ?_
            refine m_iload_n (j := 5) C dX12_breakOf_47 rfl ?_
            refine m_icmp_le (tgt := 54) C ⟨by omega, by omega⟩ ⟨by omega, by omega⟩ dX12_breakOf_48 (by decide) (fun c4 => ?_) (fun c4 => ?_)
            · have J1 : ∀ (g : Int) (vb2 : Nat → Int) (ab2 : Nat → Nat → Int), BX vb2 ab2 → fr [] [] v a vb2 ab2 → (g = 0 ∨ g = 1) → (g = 1 ↔ kok (a 6 t.toNat) (v 23) (a 20 (k - 1).toNat) (a 20 k.toNat)) → mw p l e (rmq 1 0 0) s m args below meth c G A 7 (MQ below (Qm G A (fun rq Lq Eq => ∃ (vq : Nat → Int) (aq : Nat → Nat → Int), mI G h0 ad ln vq aq Lq Eq ∧ (fun r v2 a2 => ∃ f : Int, r = some (.int (iI f)) ∧ fr [] [] v a v2 a2 ∧ BX v2 a2 ∧ ((f = -1 ∨ (q < f ∧ f ≤ 208 ∧ f - q + 1 ≤ z)) ∧ BRQ v a t q z f)) rq vq aq)) args s 0 0 A) h0 ad ln vb2 ab2 0 0 128 [(6, .int (iI g)), (4, .int (iI w1)), (5, .int (iI k)), (0, .ref h0), (1, .int (iI t)), (2, .int (iI q)), (3, .int (iI z))] [] := by
                intro g vb2 ab2 bxb2 fpb2 hg hg2
                obtain ⟨rfl, rfl⟩ := fpb2.eq
                refine m_iload (j := 0) C dX12_breakOf_128 rfl ?_
                refine m_if_eq (tgt := 142) C (r32_01 hg) dX12_breakOf_130 (by decide) (fun c5 => ?_) (fun c5 => ?_)
                · clear hg
                  refine m_iinc (z := k) (j := 2) (lv2 := [(5, .int (iI (k + 1))), (6, .int (iI g)), (4, .int (iI w1)), (0, .ref h0), (1, .int (iI t)), (2, .int (iI q)), (3, .int (iI z))]) C dX12_breakOf_142 rfl (by decide) rfl ?_
                  refine m_goto (tgt := 6) C dX12_breakOf_145 (by decide) ?_
                  refine m_lv (lv2 := [(4, .int (iI w1)), (5, .int (iI (k + 1))), (0, .ref h0), (1, .int (iI t)), (2, .int (iI q)), (3, .int (iI z))]) [2, 0, 3, 4, 5, 6] rfl ?_
                  exact ih1  w1 (k + 1) _ _ (by omega) bxb2 fpb2 (by omega) (by omega) (hI.miss ⟨by omega, by omega⟩ (fun e => absurd (hg2.mpr e.2.2.2) (by omega)))
                · replace hg := (hg.resolve_left c5)
                  refine m_aload_n (j := 3) C dX12_breakOf_133 rfl ?_
                  refine m_geta (k := 26) C dX12_breakOf_134 w6_85 (by decide) rfl ?_
                  refine m_iload (j := 2) C dX12_breakOf_137 rfl ?_
                  refine m_ald (k := 26) C dX12_breakOf_139 rfl rfl (by decide) (Int.le_trans (by decide) hk.1) (Int.lt_of_le_of_lt hk.2.1 (by decide)) (by decide) ?_
                  refine m_istore (lv2 := [(4, .int (iI (a 26 k.toNat))), (6, .int (iI g)), (5, .int (iI k)), (0, .ref h0), (1, .int (iI t)), (2, .int (iI q)), (3, .int (iI z))]) C dX12_breakOf_140 (by decide) rfl ?_
                  refine m_iinc (z := k) (j := 2) (lv2 := [(5, .int (iI (k + 1))), (4, .int (iI (a 26 k.toNat))), (6, .int (iI g)), (0, .ref h0), (1, .int (iI t)), (2, .int (iI q)), (3, .int (iI z))]) C dX12_breakOf_142 rfl (by decide) rfl ?_
                  refine m_goto (tgt := 6) C dX12_breakOf_145 (by decide) ?_
                  refine m_lv (lv2 := [(4, .int (iI (a 26 k.toNat))), (5, .int (iI (k + 1))), (0, .ref h0), (1, .int (iI t)), (2, .int (iI q)), (3, .int (iI z))]) [1, 0, 3, 4, 5, 6] rfl ?_
                  exact ih1  (a 26 k.toNat) (k + 1) _ _ (by omega) bxb2 fpb2 (by omega) (by omega) (hI.hit ⟨by omega, by omega⟩ (by omega) (by omega) (by omega) (hg2.mp (by omega)) rfl)
              refine m_aload_n (j := 2) C dX12_breakOf_54 rfl ?_
              refine m_geta (k := 6) C dX12_breakOf_55 w6_65 (by decide) rfl ?_
              refine m_iload_n (j := 3) C dX12_breakOf_58 rfl ?_
              refine m_ald (k := 6) C dX12_breakOf_59 rfl rfl (by decide) (by omega) (by show _ < ((_ : Nat) : Int); simp only [mlen]; omega) (by decide) ?_
              have ra3 : 0 ≤ a 6 t.toNat ∧ a 6 t.toNat ≤ 5 := bxb1.2 6 (t.toNat)
              refine m_iconst C dX12_breakOf_60 ?_
              refine m_icmp_gt (tgt := 125) C (r32_c (lo := 0) (hi := 5) ra3.1 ra3.2 (by decide) (by decide)) ⟨by decide, by decide⟩ dX12_breakOf_61 (by decide) (fun c6 => ?_) (fun c6 => ?_)
              · refine m_iconst C dX12_breakOf_125 ?_
                refine m_istore (lv2 := [(6, .int (iI 0)), (4, .int (iI w1)), (5, .int (iI k)), (0, .ref h0), (1, .int (iI t)), (2, .int (iI q)), (3, .int (iI z))]) C dX12_breakOf_126 (by decide) rfl ?_
                refine m_lv (lv2 := [(6, .int (iI 0)), (4, .int (iI w1)), (5, .int (iI k)), (0, .ref h0), (1, .int (iI t)), (2, .int (iI q)), (3, .int (iI z))]) [0, 1, 2, 3, 4, 5, 6] rfl ?_
                exact J1  0 _ _  bxb1 fpb1 (by omega) (by unfold kok isD; omega)
              · refine m_aload_n (j := 2) C dX12_breakOf_64 rfl ?_
                refine m_geta (k := 6) C dX12_breakOf_65 w6_65 (by decide) rfl ?_
                refine m_iload_n (j := 3) C dX12_breakOf_68 rfl ?_
                refine m_ald (k := 6) C dX12_breakOf_69 rfl rfl (by decide) (by omega) (by show _ < ((_ : Nat) : Int); simp only [mlen]; omega) (by decide) ?_
                refine m_iconst C dX12_breakOf_70 ?_
                refine m_icmp_ne (tgt := 102) C (r32_c (lo := 0) (hi := 5) ra3.1 ra3.2 (by decide) (by decide)) ⟨by decide, by decide⟩ dX12_breakOf_71 (by decide) (fun c7 => ?_) (fun c7 => ?_)
                · refine m_aload_n (j := 2) C dX12_breakOf_102 rfl ?_
                  refine m_geta (k := 6) C dX12_breakOf_103 w6_65 (by decide) rfl ?_
                  refine m_iload_n (j := 3) C dX12_breakOf_106 rfl ?_
                  refine m_ald (k := 6) C dX12_breakOf_107 rfl rfl (by decide) (by omega) (by show _ < ((_ : Nat) : Int); simp only [mlen]; omega) (by decide) ?_
                  refine m_iconst C dX12_breakOf_108 ?_
                  refine m_icmp_ne (tgt := 121) C (r32_c (lo := 0) (hi := 5) ra3.1 ra3.2 (by decide) (by decide)) ⟨by decide, by decide⟩ dX12_breakOf_109 (by decide) (fun c8 => ?_) (fun c8 => ?_)
                  · refine m_iconst C dX12_breakOf_121 ?_
                    refine m_goto (tgt := 126) C dX12_breakOf_122 (by decide) ?_
                    refine m_istore (lv2 := [(6, .int (iI 1)), (4, .int (iI w1)), (5, .int (iI k)), (0, .ref h0), (1, .int (iI t)), (2, .int (iI q)), (3, .int (iI z))]) C dX12_breakOf_126 (by decide) rfl ?_
                    refine m_lv (lv2 := [(6, .int (iI 1)), (4, .int (iI w1)), (5, .int (iI k)), (0, .ref h0), (1, .int (iI t)), (2, .int (iI q)), (3, .int (iI z))]) [0, 1, 2, 3, 4, 5, 6] rfl ?_
                    exact J1  1 _ _  bxb1 fpb1 (by omega) (by unfold kok isD; omega)
                  · refine m_aload_n (j := 2) C dX12_breakOf_112 rfl ?_
                    refine m_get (k := 23) C dX12_breakOf_113 w6_82 (by decide) rfl ?_
                    refine m_bipush (z := 6) C dX12_breakOf_116 (by decide) ?_
                    refine m_icmp_lt (tgt := 125) C (r32_c (lo := 0) (hi := 500) rv1.1 rv1.2 (by decide) (by decide)) ⟨by decide, by decide⟩ dX12_breakOf_118 (by decide) (fun c9 => ?_) (fun c9 => ?_)
                    · refine m_iconst C dX12_breakOf_125 ?_
                      refine m_istore (lv2 := [(6, .int (iI 0)), (4, .int (iI w1)), (5, .int (iI k)), (0, .ref h0), (1, .int (iI t)), (2, .int (iI q)), (3, .int (iI z))]) C dX12_breakOf_126 (by decide) rfl ?_
                      refine m_lv (lv2 := [(6, .int (iI 0)), (4, .int (iI w1)), (5, .int (iI k)), (0, .ref h0), (1, .int (iI t)), (2, .int (iI q)), (3, .int (iI z))]) [0, 1, 2, 3, 4, 5, 6] rfl ?_
                      exact J1  0 _ _  bxb1 fpb1 (by omega) (by unfold kok isD; omega)
                    · refine m_iconst C dX12_breakOf_121 ?_
                      refine m_goto (tgt := 126) C dX12_breakOf_122 (by decide) ?_
                      refine m_istore (lv2 := [(6, .int (iI 1)), (4, .int (iI w1)), (5, .int (iI k)), (0, .ref h0), (1, .int (iI t)), (2, .int (iI q)), (3, .int (iI z))]) C dX12_breakOf_126 (by decide) rfl ?_
                      refine m_lv (lv2 := [(6, .int (iI 1)), (4, .int (iI w1)), (5, .int (iI k)), (0, .ref h0), (1, .int (iI t)), (2, .int (iI q)), (3, .int (iI z))]) [0, 1, 2, 3, 4, 5, 6] rfl ?_
                      exact J1  1 _ _  bxb1 fpb1 (by omega) (by unfold kok isD; omega)
                · refine m_aload_n (j := 2) C dX12_breakOf_74 rfl ?_
                  refine m_geta (k := 20) C dX12_breakOf_75 w6_79 (by decide) rfl ?_
                  refine m_iload (j := 1) C dX12_breakOf_78 rfl ?_
                  refine m_iconst C dX12_breakOf_80 ?_
                  refine m_isub C dX12_breakOf_81 ?_
                  refine m_ald (k := 20) C dX12_breakOf_82 rfl rfl (by decide) (by omega) (by show _ < ((_ : Nat) : Int); simp only [mlen]; omega) (by decide) ?_
                  have ra4 : (-2147483648) ≤ a 20 (k - 1).toNat ∧ a 20 (k - 1).toNat ≤ 2147483647 := bxb1.2 20 ((k - 1).toNat)
                  refine m_callS (As := [.int (iI (a 20 (k - 1).toNat))]) (rest := []) C (fun L E => s_isDigit (iI (a 20 (k - 1).toNat))) dX12_breakOf_83 kS_X12_202 rfl rfl (Nat.le_of_ble_eq_true rfl) ⟨Nat.le_of_ble_eq_true rfl, Nat.le_of_ble_eq_true rfl⟩ ⟨Nat.le_of_ble_eq_true rfl, Nat.le_of_ble_eq_true rfl⟩ ?_
                  rcases inn_c (x := a 20 (k - 1).toNat) (lo := 48) (hi := 57) (r32_c (lo := (-2147483648)) (hi := 2147483647) ra4.1 ra4.2 (by decide) (by decide)) ⟨by decide, by decide⟩ ⟨by decide, by decide⟩ with ⟨h1a, h1b, h1e⟩ | ⟨h1a, h1e⟩
                  · refine m_st (st2 := [.int (iI 1)]) (by rw [show inn (iI (a 20 (k - 1).toNat)) 48 57 = iI 1 from h1e]) ?_
                    refine m_if_ne (tgt := 125) C ⟨by decide, by decide⟩ dX12_breakOf_86 (by decide) (fun _ => ?_) (fun z => absurd z (by omega))
                    refine m_iconst C dX12_breakOf_125 ?_
                    refine m_istore (lv2 := [(6, .int (iI 0)), (4, .int (iI w1)), (5, .int (iI k)), (0, .ref h0), (1, .int (iI t)), (2, .int (iI q)), (3, .int (iI z))]) C dX12_breakOf_126 (by decide) rfl ?_
                    refine m_lv (lv2 := [(6, .int (iI 0)), (4, .int (iI w1)), (5, .int (iI k)), (0, .ref h0), (1, .int (iI t)), (2, .int (iI q)), (3, .int (iI z))]) [0, 1, 2, 3, 4, 5, 6] rfl ?_
                    exact J1  0 _ _  bxb1 fpb1 (by omega) (by unfold kok isD; omega)
                  · refine m_st (st2 := [.int (iI 0)]) (by rw [show inn (iI (a 20 (k - 1).toNat)) 48 57 = iI 0 from h1e]) ?_
                    refine m_if_ne (tgt := 125) C ⟨by decide, by decide⟩ dX12_breakOf_86 (by decide) (fun z => absurd z (by omega)) (fun _ => ?_)
                    refine m_aload_n (j := 2) C dX12_breakOf_89 rfl ?_
                    refine m_geta (k := 20) C dX12_breakOf_90 w6_79 (by decide) rfl ?_
                    refine m_iload (j := 1) C dX12_breakOf_93 rfl ?_
                    refine m_ald (k := 20) C dX12_breakOf_95 rfl rfl (by decide) (Int.le_trans (by decide) hk.1) (Int.lt_of_le_of_lt hk.2.1 (by decide)) (by decide) ?_
                    have ra5 : (-2147483648) ≤ a 20 k.toNat ∧ a 20 k.toNat ≤ 2147483647 := bxb1.2 20 (k.toNat)
                    refine m_callS (As := [.int (iI (a 20 k.toNat))]) (rest := []) C (fun L E => s_isDigit (iI (a 20 k.toNat))) dX12_breakOf_96 kS_X12_202 rfl rfl (Nat.le_of_ble_eq_true rfl) ⟨Nat.le_of_ble_eq_true rfl, Nat.le_of_ble_eq_true rfl⟩ ⟨Nat.le_of_ble_eq_true rfl, Nat.le_of_ble_eq_true rfl⟩ ?_
                    rcases inn_c (x := a 20 k.toNat) (lo := 48) (hi := 57) (r32_c (lo := (-2147483648)) (hi := 2147483647) ra5.1 ra5.2 (by decide) (by decide)) ⟨by decide, by decide⟩ ⟨by decide, by decide⟩ with ⟨h2a, h2b, h2e⟩ | ⟨h2a, h2e⟩
                    · refine m_st (st2 := [.int (iI 1)]) (by rw [show inn (iI (a 20 k.toNat)) 48 57 = iI 1 from h2e]) ?_
                      refine m_if_ne (tgt := 125) C ⟨by decide, by decide⟩ dX12_breakOf_99 (by decide) (fun _ => ?_) (fun z => absurd z (by omega))
                      refine m_iconst C dX12_breakOf_125 ?_
                      refine m_istore (lv2 := [(6, .int (iI 0)), (4, .int (iI w1)), (5, .int (iI k)), (0, .ref h0), (1, .int (iI t)), (2, .int (iI q)), (3, .int (iI z))]) C dX12_breakOf_126 (by decide) rfl ?_
                      refine m_lv (lv2 := [(6, .int (iI 0)), (4, .int (iI w1)), (5, .int (iI k)), (0, .ref h0), (1, .int (iI t)), (2, .int (iI q)), (3, .int (iI z))]) [0, 1, 2, 3, 4, 5, 6] rfl ?_
                      exact J1  0 _ _  bxb1 fpb1 (by omega) (by unfold kok isD; omega)
                    · refine m_st (st2 := [.int (iI 0)]) (by rw [show inn (iI (a 20 k.toNat)) 48 57 = iI 0 from h2e]) ?_
                      refine m_if_ne (tgt := 125) C ⟨by decide, by decide⟩ dX12_breakOf_99 (by decide) (fun z => absurd z (by omega)) (fun _ => ?_)
                      refine m_aload_n (j := 2) C dX12_breakOf_102 rfl ?_
                      refine m_geta (k := 6) C dX12_breakOf_103 w6_65 (by decide) rfl ?_
                      refine m_iload_n (j := 3) C dX12_breakOf_106 rfl ?_
                      refine m_ald (k := 6) C dX12_breakOf_107 rfl rfl (by decide) (by omega) (by show _ < ((_ : Nat) : Int); simp only [mlen]; omega) (by decide) ?_
                      refine m_iconst C dX12_breakOf_108 ?_
                      refine m_icmp_ne (tgt := 121) C (r32_c (lo := 0) (hi := 5) ra3.1 ra3.2 (by decide) (by decide)) ⟨by decide, by decide⟩ dX12_breakOf_109 (by decide) (fun c10 => ?_) (fun c10 => ?_)
                      · refine m_iconst C dX12_breakOf_121 ?_
                        refine m_goto (tgt := 126) C dX12_breakOf_122 (by decide) ?_
                        refine m_istore (lv2 := [(6, .int (iI 1)), (4, .int (iI w1)), (5, .int (iI k)), (0, .ref h0), (1, .int (iI t)), (2, .int (iI q)), (3, .int (iI z))]) C dX12_breakOf_126 (by decide) rfl ?_
                        refine m_lv (lv2 := [(6, .int (iI 1)), (4, .int (iI w1)), (5, .int (iI k)), (0, .ref h0), (1, .int (iI t)), (2, .int (iI q)), (3, .int (iI z))]) [0, 1, 2, 3, 4, 5, 6] rfl ?_
                        exact J1  1 _ _  bxb1 fpb1 (by omega) (by unfold kok isD; omega)
                      · refine m_aload_n (j := 2) C dX12_breakOf_112 rfl ?_
                        refine m_get (k := 23) C dX12_breakOf_113 w6_82 (by decide) rfl ?_
                        refine m_bipush (z := 6) C dX12_breakOf_116 (by decide) ?_
                        refine m_icmp_lt (tgt := 125) C (r32_c (lo := 0) (hi := 500) rv1.1 rv1.2 (by decide) (by decide)) ⟨by decide, by decide⟩ dX12_breakOf_118 (by decide) (fun c11 => ?_) (fun c11 => ?_)
                        · refine m_iconst C dX12_breakOf_125 ?_
                          refine m_istore (lv2 := [(6, .int (iI 0)), (4, .int (iI w1)), (5, .int (iI k)), (0, .ref h0), (1, .int (iI t)), (2, .int (iI q)), (3, .int (iI z))]) C dX12_breakOf_126 (by decide) rfl ?_
                          refine m_lv (lv2 := [(6, .int (iI 0)), (4, .int (iI w1)), (5, .int (iI k)), (0, .ref h0), (1, .int (iI t)), (2, .int (iI q)), (3, .int (iI z))]) [0, 1, 2, 3, 4, 5, 6] rfl ?_
                          exact J1  0 _ _  bxb1 fpb1 (by omega) (by unfold kok isD; omega)
                        · refine m_iconst C dX12_breakOf_121 ?_
                          refine m_goto (tgt := 126) C dX12_breakOf_122 (by decide) ?_
                          refine m_istore (lv2 := [(6, .int (iI 1)), (4, .int (iI w1)), (5, .int (iI k)), (0, .ref h0), (1, .int (iI t)), (2, .int (iI q)), (3, .int (iI z))]) C dX12_breakOf_126 (by decide) rfl ?_
                          refine m_lv (lv2 := [(6, .int (iI 1)), (4, .int (iI w1)), (5, .int (iI k)), (0, .ref h0), (1, .int (iI t)), (2, .int (iI q)), (3, .int (iI z))]) [0, 1, 2, 3, 4, 5, 6] rfl ?_
                          exact J1  1 _ _  bxb1 fpb1 (by omega) (by unfold kok isD; omega)
            · refine m_goto (tgt := 142) C dX12_breakOf_51 (by decide) ?_
              refine m_iinc (z := k) (j := 1) (lv2 := [(5, .int (iI (k + 1))), (4, .int (iI w1)), (0, .ref h0), (1, .int (iI t)), (2, .int (iI q)), (3, .int (iI z))]) C dX12_breakOf_142 rfl (by decide) rfl ?_
              refine m_goto (tgt := 6) C dX12_breakOf_145 (by decide) ?_
              refine m_lv (lv2 := [(4, .int (iI w1)), (5, .int (iI (k + 1))), (0, .ref h0), (1, .int (iI t)), (2, .int (iI q)), (3, .int (iI z))]) [1, 0, 2, 3, 4, 5] rfl ?_
              exact ih1  w1 (k + 1) _ _ (by omega) bxb1 fpb1 (by omega) (by omega) (hI.miss ⟨by omega, by omega⟩ (fun e => absurd e.2.2.1 (by omega)))
  refine m_lv (lv2 := [(4, .int (iI (-1))), (5, .int (iI 1)), (0, .ref h0), (1, .int (iI t)), (2, .int (iI q)), (3, .int (iI z))]) [1, 0, 2, 3, 4, 5] rfl ?_
  exact Lp1 503 (-1) 1 _ _ (by omega) hB fp0 (by omega) (by omega) BRI.init
set_option maxHeartbeats 4000000 in
set_option maxRecDepth 100000 in
theorem E_flow {l : Launch} {G : GT} {h0 : Nat} {ad ln : Nat → Nat} {v : Nat → Int} {a : Nat → Nat → Int}  {t : Int} (hB : BX v a) (ht : 0 ≤ t ∧ t < 30) (h39 : 1 ≤ v 39) (h25 : 1 ≤ v 25 ∧ v 25 ≤ 200) : Mm l G yX12_flow cX12_flow 7 (some .boolean) 2 [.int (iI t)] h0 ad ln v a 0 0 (fun r v2 a2 => ∃ f : Int, r = some (.int (iI f)) ∧ fr [39] [37, 38] v a v2 a2 ∧ BX v2 a2 ∧ ((f = 0 ∨ (f = 1 ∧ 1 ≤ v2 39)) ∧ FLT v a v2 a2 t f)) := by
  refine Mm.mk (by decide) (Nat.le_of_ble_eq_true rfl) ?_
  intro p e s m args below meth c A C
  refine hv2 (show 1 ≤ v 31 ∧ v 31 ≤ 100 from hB.1 31) (show fr [39] [37, 38] v a v a from fr.refl) (fun r31 fp0 => ?_)
  refine m_iconst C dX12_flow_0 ?_
  refine m_istore_n (lv2 := [(2, .int (iI 0)), (0, .ref h0), (1, .int (iI t))]) C dX12_flow_1 (by decide) rfl ?_
  have Lp1 : ∀ (nn : Nat) (x : Int) (vb1 : Nat → Int) (ab1 : Nat → Nat → Int), 201 - vb1 39 < (nn : Int) → BX vb1 ab1 → fr [39] [37, 38] v a vb1 ab1 → (0 ≤ x ∧ x < v 25) → (1 ≤ vb1 39 ∧ vb1 39 ≤ 200) → (FL2 v a vb1 ab1 t x) → mw p l e (rmq 2 0 0) s m args below meth c G A 7 (MQ below (Qm G A (fun rq Lq Eq => ∃ (vq : Nat → Int) (aq : Nat → Nat → Int), mI G h0 ad ln vq aq Lq Eq ∧ (fun r v2 a2 => ∃ f : Int, r = some (.int (iI f)) ∧ fr [39] [37, 38] v a v2 a2 ∧ BX v2 a2 ∧ ((f = 0 ∨ (f = 1 ∧ 1 ≤ v2 39)) ∧ FLT v a v2 a2 t f)) rq vq aq)) args s 0 0 A) h0 ad ln vb1 ab1 0 0 2 [(2, .int (iI x)), (0, .ref h0), (1, .int (iI t))] [] := by
    intro nn
    induction nn with
    | zero =>
      intro x vb1 ab1 hm bxb1 fpb1 hx hn hI
      exact absurd hm (by omega)
    | succ nn ih1 =>
      intro x vb1 ab1 hm bxb1 fpb1 hx hn hI
      refine m_iload_n (j := 0) C dX12_flow_2 rfl ?_
      refine m_aload_n (j := 1) C dX12_flow_3 rfl ?_
      refine hv2 (show 0 ≤ vb1 25 ∧ vb1 25 ≤ 208 from bxb1.1 25) (show vb1 25 = v 25 from fpb1.1 25 rfl) (fun rv1 ve1 => ?_)
      refine m_get (k := 25) C dX12_flow_4 w6_84 (by decide) rfl ?_
      refine m_st (st2 := [.int (iI (v 25)), .int (iI x)]) (congrArg (fun z => Value.int (iI z) :: [.int (iI x)]) (fpb1.1 25 rfl)) ?_
      refine m_icmp_ge (tgt := 164) C ⟨by omega, by omega⟩ (r32_c (lo := 0) (hi := 208) (Int.le_trans rv1.1 (Int.le_of_eq ve1)) (Int.le_trans (Int.le_of_eq ve1.symm) rv1.2) (by decide) (by decide)) dX12_flow_7 (by decide) (fun c1 => ?_) (fun c1 => ?_)
      · refine m_iconst C dX12_flow_164 ?_
        exact m_zret C dX12_flow_165 rfl (Or.inr rfl) (Nat.le_of_ble_eq_true rfl) (Nat.le_of_ble_eq_true rfl) ⟨1, rfl, fpb1, bxb1, ⟨(Or.inr ⟨rfl, by show 1 ≤ vb1 39; omega⟩), absurd hx.2 (by omega)⟩⟩
      · refine m_aload_n (j := 1) C dX12_flow_10 rfl ?_
        refine m_geta (k := 37) C dX12_flow_11 w6_96 (by decide) rfl ?_
        refine m_aload_n (j := 1) C dX12_flow_14 rfl ?_
        have rv2 : 0 ≤ vb1 39 ∧ vb1 39 ≤ 200 := bxb1.1 39
        refine m_get (k := 39) C dX12_flow_15 w6_98 (by decide) rfl ?_
        refine m_iconst C dX12_flow_18 ?_
        refine m_isub C dX12_flow_19 ?_
        refine m_ald (k := 37) C dX12_flow_20 rfl rfl (by decide) (by omega) (by show _ < ((_ : Nat) : Int); simp only [mlen]; omega) (by decide) ?_
        have ra1 : 0 ≤ ab1 37 ((vb1 39) - 1).toNat ∧ ab1 37 ((vb1 39) - 1).toNat ≤ 200 := bxb1.2 37 (((vb1 39) - 1).toNat)
        refine m_istore_n (lv2 := [(3, .int (iI (ab1 37 ((vb1 39) - 1).toNat))), (2, .int (iI x)), (0, .ref h0), (1, .int (iI t))]) C dX12_flow_21 (by decide) rfl ?_
        have J1 : ∀ (h1 z1 : Int) (vb2 : Nat → Int) (ab2 : Nat → Nat → Int), BX vb2 ab2 → fr [39] [37, 38] v a vb2 ab2 → (0 ≤ h1 ∧ h1 ≤ 200 ∧ ((h1 = 0 ∧ z1 = v 31) ∨ (0 < h1 ∧ z1 = v 31 - (h1 + 1)))) → (vb2 39 = vb1 39) → (ab2 37 (vb2 39 - 1).toNat = h1) → (FL2 v a vb2 ab2 t x) → mw p l e (rmq 2 0 0) s m args below meth c G A 7 (MQ below (Qm G A (fun rq Lq Eq => ∃ (vq : Nat → Int) (aq : Nat → Nat → Int), mI G h0 ad ln vq aq Lq Eq ∧ (fun r v2 a2 => ∃ f : Int, r = some (.int (iI f)) ∧ fr [39] [37, 38] v a v2 a2 ∧ BX v2 a2 ∧ ((f = 0 ∨ (f = 1 ∧ 1 ≤ v2 39)) ∧ FLT v a v2 a2 t f)) rq vq aq)) args s 0 0 A) h0 ad ln vb2 ab2 0 0 40 [(4, .int (iI z1)), (3, .int (iI h1)), (2, .int (iI x)), (0, .ref h0), (1, .int (iI t))] [] := by
          intro h1 z1 vb2 ab2 bxb2 fpb2 hh hn1 hh1 hI40
          have J2 : ∀ (y : Int) (vb3 : Nat → Int) (ab3 : Nat → Nat → Int), BX vb3 ab3 → fr [39] [37, 38] v a vb3 ab3 → (y = -1 ∨ (y = v 25 ∧ v 25 - x ≤ z1) ∨ (x < y ∧ y ≤ 208 ∧ y - x + 1 ≤ z1)) → (vb3 39 = vb1 39) → (ab3 37 (vb3 39 - 1).toNat = h1) → (FL2 v a vb3 ab3 t x) → ((v 25 - x ≤ z1 ∧ y = v 25) ∨ (z1 < v 25 - x ∧ BRQ v a t x z1 y)) → mw p l e (rmq 2 0 0) s m args below meth c G A 7 (MQ below (Qm G A (fun rq Lq Eq => ∃ (vq : Nat → Int) (aq : Nat → Nat → Int), mI G h0 ad ln vq aq Lq Eq ∧ (fun r v2 a2 => ∃ f : Int, r = some (.int (iI f)) ∧ fr [39] [37, 38] v a v2 a2 ∧ BX v2 a2 ∧ ((f = 0 ∨ (f = 1 ∧ 1 ≤ v2 39)) ∧ FLT v a v2 a2 t f)) rq vq aq)) args s 0 0 A) h0 ad ln vb3 ab3 0 0 68 [(5, .int (iI y)), (4, .int (iI z1)), (3, .int (iI h1)), (2, .int (iI x)), (0, .ref h0), (1, .int (iI t))] [] := by
            intro y vb3 ab3 bxb3 fpb3 hy hn2 hh2 hI68 hyx
            have J3 : ∀ (y1 : Int) (vb4 : Nat → Int) (ab4 : Nat → Nat → Int), BX vb4 ab4 → fr [39] [37, 38] v a vb4 ab4 → ((h1 = 0 ∧ y1 = v 25) ∨ (y1 = v 25 ∧ v 25 - x ≤ z1) ∨ (x < y1 ∧ y1 ≤ 208 ∧ y1 - x + 1 ≤ z1)) → (vb4 39 = vb1 39) → (ab4 37 (vb4 39 - 1).toNat = h1) → (FL2 v a vb4 ab4 t x) → ((v 25 - x ≤ z1 ∧ y1 = v 25) ∨ (z1 < v 25 - x ∧ ((h1 = 0 ∧ y1 = v 25 ∧ BRQ v a t x z1 (-1)) ∨ (0 ≤ y1 ∧ BRQ v a t x z1 y1)))) → mw p l e (rmq 2 0 0) s m args below meth c G A 7 (MQ below (Qm G A (fun rq Lq Eq => ∃ (vq : Nat → Int) (aq : Nat → Nat → Int), mI G h0 ad ln vq aq Lq Eq ∧ (fun r v2 a2 => ∃ f : Int, r = some (.int (iI f)) ∧ fr [39] [37, 38] v a v2 a2 ∧ BX v2 a2 ∧ ((f = 0 ∨ (f = 1 ∧ 1 ≤ v2 39)) ∧ FLT v a v2 a2 t f)) rq vq aq)) args s 0 0 A) h0 ad ln vb4 ab4 0 0 88 [(5, .int (iI y1)), (4, .int (iI z1)), (3, .int (iI h1)), (2, .int (iI x)), (0, .ref h0), (1, .int (iI t))] [] := by
              intro y1 vb4 ab4 bxb4 fpb4 hy1 hn3 hh3 hI88 hyz
              have Lp2 : ∀ (nn : Nat) (k : Int) (vb5 : Nat → Int) (ab5 : Nat → Nat → Int), 210 - k < (nn : Int) → BX vb5 ab5 → fr [39] [37, 38] v a vb5 ab5 → (x ≤ k ∧ k ≤ 208) → (vb5 39 = vb1 39) → ((ab5 37 (vb5 39 - 1).toNat + (y1 - k) ≤ 199 ∨ (ab5 37 (vb5 39 - 1).toNat + (y1 - k) ≤ 200 ∧ y1 = v 25)) ∧ k ≤ y1) → (FL4 v a vb5 ab5 t x h1 k) → mw p l e (rmq 2 0 0) s m args below meth c G A 7 (MQ below (Qm G A (fun rq Lq Eq => ∃ (vq : Nat → Int) (aq : Nat → Nat → Int), mI G h0 ad ln vq aq Lq Eq ∧ (fun r v2 a2 => ∃ f : Int, r = some (.int (iI f)) ∧ fr [39] [37, 38] v a v2 a2 ∧ BX v2 a2 ∧ ((f = 0 ∨ (f = 1 ∧ 1 ≤ v2 39)) ∧ FLT v a v2 a2 t f)) rq vq aq)) args s 0 0 A) h0 ad ln vb5 ab5 0 0 100 [(6, .int (iI k)), (5, .int (iI y1)), (4, .int (iI z1)), (3, .int (iI h1)), (2, .int (iI x)), (0, .ref h0), (1, .int (iI t))] [] := by
                intro nn
                induction nn with
                | zero =>
                  intro k vb5 ab5 hm bxb5 fpb5 hk hn4 hh4 hf4
                  exact absurd hm (by omega)
                | succ nn ih2 =>
                  intro k vb5 ab5 hm bxb5 fpb5 hk hn4 hh4 hf4
                  refine m_iload (j := 0) C dX12_flow_100 rfl ?_
                  refine m_iload (j := 1) C dX12_flow_102 rfl ?_
                  refine m_icmp_ge (tgt := 124) C ⟨by omega, by omega⟩ ⟨by omega, by omega⟩ dX12_flow_104 (by decide) (fun c2 => ?_) (fun c2 => ?_)
                  · refine m_iload (j := 1) C dX12_flow_124 rfl ?_
                    refine m_aload_n (j := 5) C dX12_flow_126 rfl ?_
                    refine hv2 (show 0 ≤ vb5 25 ∧ vb5 25 ≤ 208 from bxb5.1 25) (show vb5 25 = v 25 from fpb5.1 25 rfl) (fun rv3 ve2 => ?_)
                    refine m_get (k := 25) C dX12_flow_127 w6_84 (by decide) rfl ?_
                    refine m_st (st2 := [.int (iI (v 25)), .int (iI y1)]) (congrArg (fun z => Value.int (iI z) :: [.int (iI y1)]) (fpb5.1 25 rfl)) ?_
                    refine m_icmp_ge (tgt := 141) C ⟨by omega, by omega⟩ (r32_c (lo := 0) (hi := 208) (Int.le_trans rv1.1 (Int.le_of_eq ve1)) (Int.le_trans (Int.le_of_eq ve1.symm) rv1.2) (by decide) (by decide)) dX12_flow_130 (by decide) (fun c3 => ?_) (fun c3 => ?_)
                    · refine m_iload (j := 1) C dX12_flow_141 rfl ?_
                      refine m_istore_n (lv2 := [(2, .int (iI y1)), (6, .int (iI k)), (5, .int (iI y1)), (4, .int (iI z1)), (3, .int (iI h1)), (0, .ref h0), (1, .int (iI t))]) C dX12_flow_143 (by decide) rfl ?_
                      refine m_iload_n (j := 0) C dX12_flow_144 rfl ?_
                      refine m_aload_n (j := 5) C dX12_flow_145 rfl ?_
                      refine m_get (k := 25) C dX12_flow_146 w6_84 (by decide) rfl ?_
                      refine m_st (st2 := [.int (iI (v 25)), .int (iI y1)]) (congrArg (fun z => Value.int (iI z) :: [.int (iI y1)]) (fpb5.1 25 rfl)) ?_
                      refine m_icmp_ge (tgt := 161) C ⟨by omega, by omega⟩ (r32_c (lo := 0) (hi := 208) (Int.le_trans rv1.1 (Int.le_of_eq ve1)) (Int.le_trans (Int.le_of_eq ve1.symm) rv1.2) (by decide) (by decide)) dX12_flow_149 (by decide) (fun _ => ?_) (fun z => absurd z (by omega))
                      refine m_goto (tgt := 2) C dX12_flow_161 (by decide) ?_
                      refine m_iload_n (j := 0) C dX12_flow_2 rfl ?_
                      refine m_aload_n (j := 5) C dX12_flow_3 rfl ?_
                      refine m_get (k := 25) C dX12_flow_4 w6_84 (by decide) rfl ?_
                      refine m_st (st2 := [.int (iI (v 25)), .int (iI y1)]) (congrArg (fun z => Value.int (iI z) :: [.int (iI y1)]) (fpb5.1 25 rfl)) ?_
                      refine m_icmp_ge (tgt := 164) C ⟨by omega, by omega⟩ (r32_c (lo := 0) (hi := 208) (Int.le_trans rv1.1 (Int.le_of_eq ve1)) (Int.le_trans (Int.le_of_eq ve1.symm) rv1.2) (by decide) (by decide)) dX12_flow_7 (by decide) (fun _ => ?_) (fun z => absurd z (by omega))
                      refine m_iconst C dX12_flow_164 ?_
                      exact m_zret C dX12_flow_165 rfl (Or.inr rfl) (Nat.le_of_ble_eq_true rfl) (Nat.le_of_ble_eq_true rfl) ⟨1, rfl, fpb5, bxb5, ⟨(Or.inr ⟨rfl, by show 1 ≤ vb5 39; omega⟩), FL4.fin (z := z1) hf4 (by omega) (by omega) (by omega) (by omega) (by rcases hyz with ⟨q1, _⟩ | ⟨q1, ⟨q2, _, q3⟩ | ⟨_, q3⟩⟩; exact Or.inl q1; exact Or.inr ⟨q1, Or.inl ⟨q2, q3⟩⟩; exact Or.inr ⟨q1, Or.inr (by rw [show k = y1 by omega]; exact q3)⟩)⟩⟩
                    · refine m_aload_n (j := 5) C dX12_flow_133 rfl ?_
                      refine m_aload_n (j := 5) C dX12_flow_134 rfl ?_
                      refine hv2 (show (-2147483648) ≤ vb5 33 ∧ vb5 33 ≤ 2147483647 from bxb5.1 33) (show vb5 33 = v 33 from fpb5.1 33 rfl) (fun rv4 ve3 => ?_)
                      refine m_get (k := 33) C dX12_flow_135 w6_92 (by decide) rfl ?_
                      refine m_st (st2 := [.int (iI (v 33)), .ref h0]) (congrArg (fun z => Value.int (iI z) :: [.ref h0]) (fpb5.1 33 rfl)) ?_
                      refine hv2 (show 0 ≤ vb5 39 ∧ vb5 39 ≤ 200 from bxb5.1 39) (show 0 ≤ ab5 37 (vb5 39 - 1).toNat ∧ ab5 37 (vb5 39 - 1).toNat ≤ 200 from bxb5.2 37 ((vb5 39 - 1).toNat)) (fun rv5 ra2 => ?_)
                      refine m_call (mc2 := 0) (ms2 := 0) (As := [.int (iI (v 33))]) (rest := []) C (M_putCell (x := v 33) bxb5.rg (by show 1 ≤ vb5 39 ∧ vb5 39 ≤ 200; omega) (by show 0 ≤ ab5 37 (vb5 39 - 1).toNat ∧ ab5 37 (vb5 39 - 1).toNat < 200; omega)) dX12_flow_138 kV_X12_253 rfl ck_13 rfl (Nat.le_of_ble_eq_true rfl) ⟨Nat.le_of_ble_eq_true rfl, Nat.le_of_ble_eq_true rfl⟩ ⟨Nat.le_of_ble_eq_true rfl, Nat.le_of_ble_eq_true rfl⟩ (fun rh2 vh2 ah2 h2 => ?_)
                      have px1 := PUC.mk bxb5 h2
                      obtain ⟨rfl, fn1, bn1, ex1⟩ := W_putCell bxb5 (by omega) (by show ab5 37 (vb5 39 - 1).toNat < 200; omega) h2
                      refine hv4 (fpb5.call fn1 rfl rfl) (show 0 ≤ vh2 39 ∧ vh2 39 ≤ 200 from bn1.1 39) (show vh2 39 = vb5 39 from fn1.1 39 rfl) (show ah2 37 (vb5 39 - 1).toNat = ab5 37 (vb5 39 - 1).toNat + 1 from ex1) (fun fq1 rv6 ve4 gex1 => ?_)
                      have jex1 : ah2 37 (vh2 39 - 1).toNat = ab5 37 (vb5 39 - 1).toNat + 1 := by rw [show vh2 39 = vb5 39 by omega]; exact ex1
                      refine m_st (st2 := []) rfl ?_
                      refine m_iload (j := 1) C dX12_flow_141 rfl ?_
                      refine m_istore_n (lv2 := [(2, .int (iI y1)), (6, .int (iI k)), (5, .int (iI y1)), (4, .int (iI z1)), (3, .int (iI h1)), (0, .ref h0), (1, .int (iI t))]) C dX12_flow_143 (by decide) rfl ?_
                      refine m_iload_n (j := 0) C dX12_flow_144 rfl ?_
                      refine m_aload_n (j := 5) C dX12_flow_145 rfl ?_
                      refine hv2 (show 0 ≤ vh2 25 ∧ vh2 25 ≤ 208 from bn1.1 25) (show vh2 25 = vb5 25 from fn1.1 25 rfl) (fun rv7 ve5 => ?_)
                      refine m_get (k := 25) C dX12_flow_146 w6_84 (by decide) rfl ?_
                      refine m_st (st2 := [.int (iI (v 25)), .int (iI y1)]) (congrArg (fun z => Value.int (iI z) :: [.int (iI y1)]) (fq1.1 25 rfl)) ?_
                      refine m_icmp_ge (tgt := 161) C ⟨by omega, by omega⟩ (r32_c (lo := 0) (hi := 208) (Int.le_trans rv1.1 (Int.le_of_eq ve1)) (Int.le_trans (Int.le_of_eq ve1.symm) rv1.2) (by decide) (by decide)) dX12_flow_149 (by decide) (fun z => absurd z (by omega)) (fun _ => ?_)
                      refine m_aload_n (j := 5) C dX12_flow_152 rfl ?_
                      refine m_call (mc2 := 0) (ms2 := 0) (As := []) (rest := []) C (M_newLine bn1.rg (bn1.1 39)) dX12_flow_153 kV_X12_257 rfl ck_13 rfl (Nat.le_of_ble_eq_true rfl) ⟨Nat.le_of_ble_eq_true rfl, Nat.le_of_ble_eq_true rfl⟩ ⟨Nat.le_of_ble_eq_true rfl, Nat.le_of_ble_eq_true rfl⟩ (fun rh3 vh3 ah3 h3 => ?_)
                      obtain ⟨f2, rfl, fn2, bn2, ex2, nx1⟩ := W_newLine2 bn1 h3
                      refine hv2 (fq1.call fn2 rfl rfl) (show (f2 = 1 ∧ vh3 39 = vh2 39 + 1 ∧ ah3 37 (vh3 39 - 1).toNat = 0) ∨ f2 = 0 from ex2) (fun fq2 gf2 => ?_)
                      refine m_st (st2 := [.int (iI f2)]) rfl ?_
                      refine m_if_ne (tgt := 161) C (r32_p0 gf2) dX12_flow_156 (by decide) (fun c4 => ?_) (fun c4 => ?_)
                      · replace gf2 := (gf2.resolve_right c4)
                        refine m_goto (tgt := 2) C dX12_flow_161 (by decide) ?_
                        have rv8 : 0 ≤ vh3 39 ∧ vh3 39 ≤ 200 := bn2.1 39
                        refine m_lv (lv2 := [(2, .int (iI y1)), (0, .ref h0), (1, .int (iI t))]) [0, 5, 6] rfl ?_
                        exact ih1  y1 _ _ (by omega) bn2 fq2 (by omega) (by show 1 ≤ (vh3 39) ∧ (vh3 39) ≤ 200; omega) (by have e := FL4.hyp (z := z1) hf4 (by omega) (by omega) (by omega) (by rcases hyz with ⟨_, q2⟩ | ⟨q1, _⟩; exact absurd q2 (by omega); exact q1) (by rcases hyz with ⟨_, q2⟩ | ⟨_, ⟨_, q2, _⟩ | ⟨_, q3⟩⟩; exact absurd q2 (by omega); exact absurd q2 (by omega); rw [show k = y1 by omega]; exact q3) (by omega) rfl px1 nx1 (by omega); rw [show k = y1 by omega] at e; exact e)
                      · clear gf2
                        refine m_iconst C dX12_flow_159 ?_
                        exact m_zret C dX12_flow_160 rfl (Or.inl rfl) (Nat.le_of_ble_eq_true rfl) (Nat.le_of_ble_eq_true rfl) ⟨0, rfl, fq2, bn2, ⟨Or.inl rfl, FL4.hno (z := z1) hf4 (by omega) (by omega) (by rcases hyz with ⟨_, q2⟩ | ⟨q1, _⟩; exact absurd q2 (by omega); exact q1) (by rcases hyz with ⟨_, q2⟩ | ⟨_, ⟨_, q2, _⟩ | ⟨_, q3⟩⟩; exact absurd q2 (by omega); exact absurd q2 (by omega); rw [show k = y1 by omega]; exact q3) (by omega) px1 nx1 (by omega)⟩⟩
                  · refine m_aload_n (j := 5) C dX12_flow_107 rfl ?_
                    refine m_aload_n (j := 5) C dX12_flow_108 rfl ?_
                    refine m_geta (k := 24) C dX12_flow_109 w6_83 (by decide) rfl ?_
                    refine m_iload (j := 0) C dX12_flow_112 rfl ?_
                    refine m_ald (k := 24) C dX12_flow_114 rfl rfl (by decide) (by omega) (by show _ < ((_ : Nat) : Int); simp only [mlen]; omega) (by decide) ?_
                    refine hv2 (show (-2147483648) ≤ ab5 24 k.toNat ∧ ab5 24 k.toNat ≤ 2147483647 from bxb5.2 24 (k.toNat)) (show ab5 24 (k.toNat) = a 24 (k.toNat) from congrFun (fpb5.2 24 rfl) (k.toNat)) (fun ra3 ae1 => ?_)
                    refine m_st (st2 := [.int (iI (a 24 k.toNat)), .ref h0]) (congrArg (fun z => Value.int (iI z) :: [.ref h0]) (congrFun (fpb5.2 24 rfl) (k.toNat))) ?_
                    refine hv2 (show 0 ≤ vb5 39 ∧ vb5 39 ≤ 200 from bxb5.1 39) (show 0 ≤ ab5 37 (vb5 39 - 1).toNat ∧ ab5 37 (vb5 39 - 1).toNat ≤ 200 from bxb5.2 37 ((vb5 39 - 1).toNat)) (fun rv9 ra4 => ?_)
                    refine m_call (mc2 := 0) (ms2 := 0) (As := [.int (iI (a 24 k.toNat))]) (rest := []) C (M_putCell (x := a 24 k.toNat) bxb5.rg (by show 1 ≤ vb5 39 ∧ vb5 39 ≤ 200; omega) (by show 0 ≤ ab5 37 (vb5 39 - 1).toNat ∧ ab5 37 (vb5 39 - 1).toNat < 200; omega)) dX12_flow_115 kV_X12_253 rfl ck_13 rfl (Nat.le_of_ble_eq_true rfl) ⟨Nat.le_of_ble_eq_true rfl, Nat.le_of_ble_eq_true rfl⟩ ⟨Nat.le_of_ble_eq_true rfl, Nat.le_of_ble_eq_true rfl⟩ (fun rh4 vh4 ah4 h4 => ?_)
                    have px2 := PUC.mk bxb5 h4
                    obtain ⟨rfl, fn3, bn3, ex3⟩ := W_putCell bxb5 (by omega) (by show ab5 37 (vb5 39 - 1).toNat < 200; omega) h4
                    refine hv4 (fpb5.call fn3 rfl rfl) (show 0 ≤ vh4 39 ∧ vh4 39 ≤ 200 from bn3.1 39) (show vh4 39 = vb5 39 from fn3.1 39 rfl) (show ah4 37 (vb5 39 - 1).toNat = ab5 37 (vb5 39 - 1).toNat + 1 from ex3) (fun fq3 rv10 ve6 gex3 => ?_)
                    have jex3 : ah4 37 (vh4 39 - 1).toNat = ab5 37 (vb5 39 - 1).toNat + 1 := by rw [show vh4 39 = vb5 39 by omega]; exact ex3
                    refine m_st (st2 := []) rfl ?_
                    refine m_iinc (z := k) (j := 0) (lv2 := [(6, .int (iI (k + 1))), (5, .int (iI y1)), (4, .int (iI z1)), (3, .int (iI h1)), (2, .int (iI x)), (0, .ref h0), (1, .int (iI t))]) C dX12_flow_118 rfl (by decide) rfl ?_
                    refine m_goto (tgt := 100) C dX12_flow_121 (by decide) ?_
                    have ra5 : 0 ≤ ah4 37 ((vh4 39) - 1).toNat ∧ ah4 37 ((vh4 39) - 1).toNat ≤ 200 := bn3.2 37 (((vh4 39) - 1).toNat)
                    refine m_lv (lv2 := [(6, .int (iI (k + 1))), (5, .int (iI y1)), (4, .int (iI z1)), (3, .int (iI h1)), (2, .int (iI x)), (0, .ref h0), (1, .int (iI t))]) [0, 1, 2, 3, 4, 5, 6] rfl ?_
                    exact ih2  (k + 1) _ _ (by omega) bn3 fq3 (by omega) (by show (vh4 39) = vb1 39; omega) (by show ((ah4 37 ((vh4 39) - 1).toNat) + (y1 - (k + 1)) ≤ 199 ∨ ((ah4 37 ((vh4 39) - 1).toNat) + (y1 - (k + 1)) ≤ 200 ∧ y1 = v 25)) ∧ (k + 1) ≤ y1; omega) (hf4.put (by omega) (by omega) rfl px2)
              refine m_iload_n (j := 2) C dX12_flow_88 rfl ?_
              refine m_if_le (tgt := 97) C (r32_c (lo := 0) (hi := 200) hh.1 hh.2.1 (by decide) (by decide)) dX12_flow_89 (by decide) (fun c5 => ?_) (fun c5 => ?_)
              · refine m_iload_n (j := 3) C dX12_flow_97 rfl ?_
                refine m_istore (lv2 := [(6, .int (iI x)), (5, .int (iI y1)), (4, .int (iI z1)), (3, .int (iI h1)), (2, .int (iI x)), (0, .ref h0), (1, .int (iI t))]) C dX12_flow_98 (by decide) rfl ?_
                refine hv2 (show 0 ≤ vb4 39 ∧ vb4 39 ≤ 200 from bxb4.1 39) (show 0 ≤ ab4 37 ((vb4 39) - 1).toNat ∧ ab4 37 ((vb4 39) - 1).toNat ≤ 200 from bxb4.2 37 (((vb4 39) - 1).toNat)) (fun rv11 ra6 => ?_)
                refine m_lv (lv2 := [(6, .int (iI x)), (5, .int (iI y1)), (4, .int (iI z1)), (3, .int (iI h1)), (2, .int (iI x)), (0, .ref h0), (1, .int (iI t))]) [0, 1, 2, 3, 4, 5, 6] rfl ?_
                exact Lp2 211 x _ _ (by omega) bxb4 fpb4 (by omega) (by show (vb4 39) = vb1 39; omega) (by show ((ab4 37 ((vb4 39) - 1).toNat) + (y1 - x) ≤ 199 ∨ ((ab4 37 ((vb4 39) - 1).toNat) + (y1 - x) ≤ 200 ∧ y1 = v 25)) ∧ x ≤ y1; omega) (FL2.b0 hI88 hh3 (by omega))
              · refine m_aload_n (j := 4) C dX12_flow_92 rfl ?_
                refine m_iconst C dX12_flow_93 ?_
                refine hv2 (show 0 ≤ vb4 39 ∧ vb4 39 ≤ 200 from bxb4.1 39) (show 0 ≤ ab4 37 (vb4 39 - 1).toNat ∧ ab4 37 (vb4 39 - 1).toNat ≤ 200 from bxb4.2 37 ((vb4 39 - 1).toNat)) (fun rv12 ra7 => ?_)
                refine m_call (mc2 := 0) (ms2 := 0) (As := [.int (iI 0)]) (rest := []) C (M_putCell (x := 0) bxb4.rg (by show 1 ≤ vb4 39 ∧ vb4 39 ≤ 200; omega) (by show 0 ≤ ab4 37 (vb4 39 - 1).toNat ∧ ab4 37 (vb4 39 - 1).toNat < 200; omega)) dX12_flow_94 kV_X12_253 rfl ck_13 rfl (Nat.le_of_ble_eq_true rfl) ⟨Nat.le_of_ble_eq_true rfl, Nat.le_of_ble_eq_true rfl⟩ ⟨Nat.le_of_ble_eq_true rfl, Nat.le_of_ble_eq_true rfl⟩ (fun rh5 vh5 ah5 h5 => ?_)
                have px3 := PUC.mk bxb4 h5
                obtain ⟨rfl, fn4, bn4, ex4⟩ := W_putCell bxb4 (by omega) (by show ab4 37 (vb4 39 - 1).toNat < 200; omega) h5
                refine hv4 (fpb4.call fn4 rfl rfl) (show 0 ≤ vh5 39 ∧ vh5 39 ≤ 200 from bn4.1 39) (show vh5 39 = vb4 39 from fn4.1 39 rfl) (show ah5 37 (vb4 39 - 1).toNat = ab4 37 (vb4 39 - 1).toNat + 1 from ex4) (fun fq4 rv13 ve7 gex4 => ?_)
                have jex4 : ah5 37 (vh5 39 - 1).toNat = ab4 37 (vb4 39 - 1).toNat + 1 := by rw [show vh5 39 = vb4 39 by omega]; exact ex4
                refine m_st (st2 := []) rfl ?_
                refine m_iload_n (j := 3) C dX12_flow_97 rfl ?_
                refine m_istore (lv2 := [(6, .int (iI x)), (5, .int (iI y1)), (4, .int (iI z1)), (3, .int (iI h1)), (2, .int (iI x)), (0, .ref h0), (1, .int (iI t))]) C dX12_flow_98 (by decide) rfl ?_
                have ra8 : 0 ≤ ah5 37 ((vh5 39) - 1).toNat ∧ ah5 37 ((vh5 39) - 1).toNat ≤ 200 := bn4.2 37 (((vh5 39) - 1).toNat)
                refine m_lv (lv2 := [(6, .int (iI x)), (5, .int (iI y1)), (4, .int (iI z1)), (3, .int (iI h1)), (2, .int (iI x)), (0, .ref h0), (1, .int (iI t))]) [0, 1, 2, 3, 4, 5, 6] rfl ?_
                exact Lp2 211 x _ _ (by omega) bn4 fq4 (by omega) (by show (vh5 39) = vb1 39; omega) (by show ((ah5 37 ((vh5 39) - 1).toNat) + (y1 - x) ≤ 199 ∨ ((ah5 37 ((vh5 39) - 1).toNat) + (y1 - x) ≤ 200 ∧ y1 = v 25)) ∧ x ≤ y1; omega) (FL2.b1 hI88 hh3 (by omega) px3)
            refine m_iload (j := 0) C dX12_flow_68 rfl ?_
            refine m_if_ge (tgt := 83) C ⟨by omega, by omega⟩ dX12_flow_70 (by decide) (fun c6 => ?_) (fun c6 => ?_)
            · refine m_iload (j := 0) C dX12_flow_83 rfl ?_
              refine m_if_lt (tgt := 144) C ⟨by omega, by omega⟩ dX12_flow_85 (by decide) (fun z => absurd z (by omega)) (fun _ => ?_)
              refine hv2 (show 0 ≤ vb3 39 ∧ vb3 39 ≤ 200 from bxb3.1 39) (show 0 ≤ ab3 37 ((vb3 39) - 1).toNat ∧ ab3 37 ((vb3 39) - 1).toNat ≤ 200 from bxb3.2 37 (((vb3 39) - 1).toNat)) (fun rv14 ra9 => ?_)
              refine m_lv (lv2 := [(5, .int (iI y)), (4, .int (iI z1)), (3, .int (iI h1)), (2, .int (iI x)), (0, .ref h0), (1, .int (iI t))]) [0, 1, 2, 3, 4, 5] rfl ?_
              exact J3  y _ _  bxb3 fpb3 (by omega) (by show (vb3 39) = vb1 39; omega) (by show (ab3 37 ((vb3 39) - 1).toNat) = h1; omega) hI68 (by rcases hyx with ⟨q1, q2⟩ | ⟨q1, q2⟩; exact Or.inl ⟨q1, q2⟩; exact Or.inr ⟨q1, Or.inr ⟨by omega, q2⟩⟩)
            · refine m_iload_n (j := 2) C dX12_flow_73 rfl ?_
              refine m_if_ne (tgt := 83) C (r32_c (lo := 0) (hi := 200) hh.1 hh.2.1 (by decide) (by decide)) dX12_flow_74 (by decide) (fun c7 => ?_) (fun c7 => ?_)
              · refine m_iload (j := 0) C dX12_flow_83 rfl ?_
                refine m_if_lt (tgt := 144) C ⟨by omega, by omega⟩ dX12_flow_85 (by decide) (fun _ => ?_) (fun z => absurd z (by omega))
                refine m_iload_n (j := 3) C dX12_flow_144 rfl ?_
                refine m_aload_n (j := 4) C dX12_flow_145 rfl ?_
                refine hv2 (show 0 ≤ vb3 25 ∧ vb3 25 ≤ 208 from bxb3.1 25) (show vb3 25 = v 25 from fpb3.1 25 rfl) (fun rv15 ve8 => ?_)
                refine m_get (k := 25) C dX12_flow_146 w6_84 (by decide) rfl ?_
                refine m_st (st2 := [.int (iI (v 25)), .int (iI x)]) (congrArg (fun z => Value.int (iI z) :: [.int (iI x)]) (fpb3.1 25 rfl)) ?_
                refine m_icmp_ge (tgt := 161) C ⟨by omega, by omega⟩ (r32_c (lo := 0) (hi := 208) (Int.le_trans rv1.1 (Int.le_of_eq ve1)) (Int.le_trans (Int.le_of_eq ve1.symm) rv1.2) (by decide) (by decide)) dX12_flow_149 (by decide) (fun z => absurd z (by omega)) (fun _ => ?_)
                refine m_aload_n (j := 4) C dX12_flow_152 rfl ?_
                refine m_call (mc2 := 0) (ms2 := 0) (As := []) (rest := []) C (M_newLine bxb3.rg (bxb3.1 39)) dX12_flow_153 kV_X12_257 rfl ck_13 rfl (Nat.le_of_ble_eq_true rfl) ⟨Nat.le_of_ble_eq_true rfl, Nat.le_of_ble_eq_true rfl⟩ ⟨Nat.le_of_ble_eq_true rfl, Nat.le_of_ble_eq_true rfl⟩ (fun rh6 vh6 ah6 h6 => ?_)
                obtain ⟨f5, rfl, fn5, bn5, ex5, nx2⟩ := W_newLine2 bxb3 h6
                refine hv2 (fpb3.call fn5 rfl rfl) (show (f5 = 1 ∧ vh6 39 = vb3 39 + 1 ∧ ah6 37 (vh6 39 - 1).toNat = 0) ∨ f5 = 0 from ex5) (fun fq5 gf5 => ?_)
                refine m_st (st2 := [.int (iI f5)]) rfl ?_
                refine m_if_ne (tgt := 161) C (r32_p0 gf5) dX12_flow_156 (by decide) (fun c8 => ?_) (fun c8 => ?_)
                · replace gf5 := (gf5.resolve_right c8)
                  refine m_goto (tgt := 2) C dX12_flow_161 (by decide) ?_
                  have rv16 : 0 ≤ vh6 39 ∧ vh6 39 ≤ 200 := bn5.1 39
                  refine m_lv (lv2 := [(2, .int (iI x)), (0, .ref h0), (1, .int (iI t))]) [3, 4, 5] rfl ?_
                  exact ih1  x _ _ (by omega) bn5 fq5 (by omega) (by show 1 ≤ (vh6 39) ∧ (vh6 39) ≤ 200; omega) (FL2.nl (z := z1) hI68 (by omega) hh2 (by omega) (by omega) (by rcases hyx with ⟨_, q⟩ | ⟨q, _⟩; exact absurd q (by omega); exact q) (by rcases hyx with ⟨_, q⟩ | ⟨_, q⟩; exact absurd q (by omega); exact q) (by omega) nx2 (by omega))
                · clear gf5
                  refine m_iconst C dX12_flow_159 ?_
                  exact m_zret C dX12_flow_160 rfl (Or.inl rfl) (Nat.le_of_ble_eq_true rfl) (Nat.le_of_ble_eq_true rfl) ⟨0, rfl, fq5, bn5, ⟨Or.inl rfl, FL2.nno (z := z1) hI68 (by omega) hh2 (by omega) (by omega) (by rcases hyx with ⟨_, q⟩ | ⟨q, _⟩; exact absurd q (by omega); exact q) nx2 (by omega)⟩⟩
              · refine m_aload_n (j := 4) C dX12_flow_77 rfl ?_
                refine hv2 (show 0 ≤ vb3 25 ∧ vb3 25 ≤ 208 from bxb3.1 25) (show vb3 25 = v 25 from fpb3.1 25 rfl) (fun rv17 ve9 => ?_)
                refine m_get (k := 25) C dX12_flow_78 w6_84 (by decide) rfl ?_
                refine m_st (st2 := [.int (iI (v 25))]) (congrArg (fun z => Value.int (iI z) :: []) (fpb3.1 25 rfl)) ?_
                refine m_istore (lv2 := [(5, .int (iI (v 25))), (4, .int (iI z1)), (3, .int (iI h1)), (2, .int (iI x)), (0, .ref h0), (1, .int (iI t))]) C dX12_flow_81 (by decide) rfl ?_
                refine m_iload (j := 0) C dX12_flow_83 rfl ?_
                refine m_if_lt (tgt := 144) C (r32_c (lo := 0) (hi := 208) (Int.le_trans rv1.1 (Int.le_of_eq ve1)) (Int.le_trans (Int.le_of_eq ve1.symm) rv1.2) (by decide) (by decide)) dX12_flow_85 (by decide) (fun c9 => ?_) (fun c9 => ?_)
                · refine m_iload_n (j := 3) C dX12_flow_144 rfl ?_
                  refine m_aload_n (j := 4) C dX12_flow_145 rfl ?_
                  refine m_get (k := 25) C dX12_flow_146 w6_84 (by decide) rfl ?_
                  refine m_st (st2 := [.int (iI (v 25)), .int (iI x)]) (congrArg (fun z => Value.int (iI z) :: [.int (iI x)]) (fpb3.1 25 rfl)) ?_
                  refine m_icmp_ge (tgt := 161) C ⟨by omega, by omega⟩ (r32_c (lo := 0) (hi := 208) (Int.le_trans rv1.1 (Int.le_of_eq ve1)) (Int.le_trans (Int.le_of_eq ve1.symm) rv1.2) (by decide) (by decide)) dX12_flow_149 (by decide) (fun z => absurd z (by omega)) (fun _ => ?_)
                  refine m_aload_n (j := 4) C dX12_flow_152 rfl ?_
                  refine m_call (mc2 := 0) (ms2 := 0) (As := []) (rest := []) C (M_newLine bxb3.rg (bxb3.1 39)) dX12_flow_153 kV_X12_257 rfl ck_13 rfl (Nat.le_of_ble_eq_true rfl) ⟨Nat.le_of_ble_eq_true rfl, Nat.le_of_ble_eq_true rfl⟩ ⟨Nat.le_of_ble_eq_true rfl, Nat.le_of_ble_eq_true rfl⟩ (fun rh7 vh7 ah7 h7 => ?_)
                  obtain ⟨f6, rfl, fn6, bn6, ex6, nx3⟩ := W_newLine2 bxb3 h7
                  refine hv2 (fpb3.call fn6 rfl rfl) (show (f6 = 1 ∧ vh7 39 = vb3 39 + 1 ∧ ah7 37 (vh7 39 - 1).toNat = 0) ∨ f6 = 0 from ex6) (fun fq6 gf6 => ?_)
                  refine m_st (st2 := [.int (iI f6)]) rfl ?_
                  refine m_if_ne (tgt := 161) C (r32_p0 gf6) dX12_flow_156 (by decide) (fun c10 => ?_) (fun c10 => ?_)
                  · replace gf6 := (gf6.resolve_right c10)
                    refine m_goto (tgt := 2) C dX12_flow_161 (by decide) ?_
                    have rv18 : 0 ≤ vh7 39 ∧ vh7 39 ≤ 200 := bn6.1 39
                    refine m_lv (lv2 := [(2, .int (iI x)), (0, .ref h0), (1, .int (iI t))]) [3, 4, 5] rfl ?_
                    exact ih1  x _ _ (by omega) bn6 fq6 (by omega) (by show 1 ≤ (vh7 39) ∧ (vh7 39) ≤ 200; omega) (FL2.nl (z := z1) hI68 (by omega) hh2 (by omega) (by omega) (by rcases hyx with ⟨_, q⟩ | ⟨q, _⟩; exact absurd q (by omega); exact q) (by rcases hyx with ⟨_, q⟩ | ⟨_, q⟩; exact absurd q (by omega); exact q) (by omega) nx3 (by omega))
                  · clear gf6
                    refine m_iconst C dX12_flow_159 ?_
                    exact m_zret C dX12_flow_160 rfl (Or.inl rfl) (Nat.le_of_ble_eq_true rfl) (Nat.le_of_ble_eq_true rfl) ⟨0, rfl, fq6, bn6, ⟨Or.inl rfl, FL2.nno (z := z1) hI68 (by omega) hh2 (by omega) (by omega) (by rcases hyx with ⟨_, q⟩ | ⟨q, _⟩; exact absurd q (by omega); exact q) nx3 (by omega)⟩⟩
                · have rv19 : 0 ≤ vb3 39 ∧ vb3 39 ≤ 200 := bxb3.1 39
                  have ra10 : 0 ≤ ab3 37 ((vb3 39) - 1).toNat ∧ ab3 37 ((vb3 39) - 1).toNat ≤ 200 := bxb3.2 37 (((vb3 39) - 1).toNat)
                  refine m_lv (lv2 := [(5, .int (iI (v 25))), (4, .int (iI z1)), (3, .int (iI h1)), (2, .int (iI x)), (0, .ref h0), (1, .int (iI t))]) [0, 1, 2, 3, 4, 5] rfl ?_
                  exact J3  (v 25) _ _  bxb3 fpb3 (by omega) (by show (vb3 39) = vb1 39; omega) (by show (ab3 37 ((vb3 39) - 1).toNat) = h1; omega) hI68 (by rcases hyx with ⟨q1, q2⟩ | ⟨q1, q2⟩; exact absurd q2 (by omega); exact Or.inr ⟨q1, Or.inl ⟨by omega, by omega, by rw [show y = -1 by omega] at q2; exact q2⟩⟩)
          refine m_aload_n (j := 3) C dX12_flow_40 rfl ?_
          refine hv2 (show 0 ≤ vb2 25 ∧ vb2 25 ≤ 208 from bxb2.1 25) (show vb2 25 = v 25 from fpb2.1 25 rfl) (fun rv20 ve10 => ?_)
          refine m_get (k := 25) C dX12_flow_41 w6_84 (by decide) rfl ?_
          refine m_st (st2 := [.int (iI (v 25))]) (congrArg (fun z => Value.int (iI z) :: []) (fpb2.1 25 rfl)) ?_
          refine m_iload_n (j := 2) C dX12_flow_44 rfl ?_
          refine m_isub C dX12_flow_45 ?_
          refine m_iload (j := 0) C dX12_flow_46 rfl ?_
          refine m_icmp_gt (tgt := 58) C ⟨by omega, by omega⟩ ⟨by omega, by omega⟩ dX12_flow_48 (by decide) (fun c11 => ?_) (fun c11 => ?_)
          · refine m_aload_n (j := 3) C dX12_flow_58 rfl ?_
            refine m_iload_n (j := 4) C dX12_flow_59 rfl ?_
            refine m_iload_n (j := 2) C dX12_flow_60 rfl ?_
            refine m_iload (j := 0) C dX12_flow_61 rfl ?_
            refine m_call (mc2 := 0) (ms2 := 0) (As := [.int (iI t), .int (iI x), .int (iI z1)]) (rest := []) C (E_breakOf (t := t) (q := x) (z := z1) bxb2 (by omega) (by omega) (by omega)) dX12_flow_63 kV_X12_249 rfl ck_13 rfl (Nat.le_of_ble_eq_true rfl) ⟨Nat.le_of_ble_eq_true rfl, Nat.le_of_ble_eq_true rfl⟩ ⟨Nat.le_of_ble_eq_true rfl, Nat.le_of_ble_eq_true rfl⟩ (fun rh8 vh8 ah8 h8 => ?_)
            obtain ⟨f7, rfl, fn7, bn7, ex7, bq1⟩ := h8
            obtain ⟨rfl, rfl⟩ := fn7.eq
            have gf7 : f7 = -1 ∨ (x < f7 ∧ f7 ≤ 208 ∧ f7 - x + 1 ≤ z1) := ex7
            refine m_st (st2 := [.int (iI f7)]) rfl ?_
            refine m_istore (lv2 := [(5, .int (iI f7)), (4, .int (iI z1)), (3, .int (iI h1)), (2, .int (iI x)), (0, .ref h0), (1, .int (iI t))]) C dX12_flow_66 (by decide) rfl ?_
            refine hv2 (show 0 ≤ vb2 39 ∧ vb2 39 ≤ 200 from bxb2.1 39) (show 0 ≤ ab2 37 ((vb2 39) - 1).toNat ∧ ab2 37 ((vb2 39) - 1).toNat ≤ 200 from bxb2.2 37 (((vb2 39) - 1).toNat)) (fun rv21 ra11 => ?_)
            refine m_lv (lv2 := [(5, .int (iI f7)), (4, .int (iI z1)), (3, .int (iI h1)), (2, .int (iI x)), (0, .ref h0), (1, .int (iI t))]) [0, 1, 2, 3, 4, 5] rfl ?_
            exact J2  f7 _ _  bxb2 fpb2 (by omega) (by show (vb2 39) = vb1 39; omega) (by show (ab2 37 ((vb2 39) - 1).toNat) = h1; omega) hI40 (Or.inr ⟨by omega, (BRQ.fr bq1 (fpb2.1 23 rfl) (fpb2.2 6 rfl) (fpb2.2 20 rfl) (fpb2.2 21 rfl) (fpb2.2 22 rfl) (fpb2.2 26 rfl))⟩)
          · refine m_aload_n (j := 3) C dX12_flow_51 rfl ?_
            refine m_get (k := 25) C dX12_flow_52 w6_84 (by decide) rfl ?_
            refine m_st (st2 := [.int (iI (v 25))]) (congrArg (fun z => Value.int (iI z) :: []) (fpb2.1 25 rfl)) ?_
            refine m_goto (tgt := 66) C dX12_flow_55 (by decide) ?_
            refine m_istore (lv2 := [(5, .int (iI (v 25))), (4, .int (iI z1)), (3, .int (iI h1)), (2, .int (iI x)), (0, .ref h0), (1, .int (iI t))]) C dX12_flow_66 (by decide) rfl ?_
            refine hv2 (show 0 ≤ vb2 39 ∧ vb2 39 ≤ 200 from bxb2.1 39) (show 0 ≤ ab2 37 ((vb2 39) - 1).toNat ∧ ab2 37 ((vb2 39) - 1).toNat ≤ 200 from bxb2.2 37 (((vb2 39) - 1).toNat)) (fun rv22 ra12 => ?_)
            refine m_lv (lv2 := [(5, .int (iI (v 25))), (4, .int (iI z1)), (3, .int (iI h1)), (2, .int (iI x)), (0, .ref h0), (1, .int (iI t))]) [0, 1, 2, 3, 4, 5] rfl ?_
            exact J2  (v 25) _ _  bxb2 fpb2 (by omega) (by show (vb2 39) = vb1 39; omega) (by show (ab2 37 ((vb2 39) - 1).toNat) = h1; omega) hI40 (Or.inl ⟨by omega, by omega⟩)
        refine m_aload_n (j := 2) C dX12_flow_22 rfl ?_
        refine hv2 (show 1 ≤ vb1 31 ∧ vb1 31 ≤ 100 from bxb1.1 31) (show vb1 31 = v 31 from fpb1.1 31 rfl) (fun rv23 ve11 => ?_)
        refine m_get (k := 31) C dX12_flow_23 w6_90 (by decide) rfl ?_
        refine m_st (st2 := [.int (iI (v 31))]) (congrArg (fun z => Value.int (iI z) :: []) (fpb1.1 31 rfl)) ?_
        refine m_iload_n (j := 0) C dX12_flow_26 rfl ?_
        refine m_if_ne (tgt := 34) C (r32_c (lo := 0) (hi := 200) ra1.1 ra1.2 (by decide) (by decide)) dX12_flow_27 (by decide) (fun c12 => ?_) (fun c12 => ?_)
        · refine m_iload_n (j := 0) C dX12_flow_34 rfl ?_
          refine m_iconst C dX12_flow_35 ?_
          refine m_iadd C dX12_flow_36 ?_
          refine m_isub C dX12_flow_37 ?_
          refine m_istore (lv2 := [(4, .int (iI ((v 31) - ((ab1 37 ((vb1 39) - 1).toNat) + 1)))), (3, .int (iI (ab1 37 ((vb1 39) - 1).toNat))), (2, .int (iI x)), (0, .ref h0), (1, .int (iI t))]) C dX12_flow_38 (by decide) rfl ?_
          refine m_lv (lv2 := [(4, .int (iI ((v 31) - ((ab1 37 ((vb1 39) - 1).toNat) + 1)))), (3, .int (iI (ab1 37 ((vb1 39) - 1).toNat))), (2, .int (iI x)), (0, .ref h0), (1, .int (iI t))]) [0, 1, 2, 3, 4] rfl ?_
          exact J1  (ab1 37 ((vb1 39) - 1).toNat) ((v 31) - ((ab1 37 ((vb1 39) - 1).toNat) + 1)) _ _  bxb1 fpb1 (by omega) (by show (vb1 39) = vb1 39; omega) (by show (ab1 37 ((vb1 39) - 1).toNat) = (ab1 37 ((vb1 39) - 1).toNat); omega) hI
        · refine m_iconst C dX12_flow_30 ?_
          refine m_goto (tgt := 37) C dX12_flow_31 (by decide) ?_
          refine m_isub C dX12_flow_37 ?_
          refine m_istore (lv2 := [(4, .int (iI ((v 31) - 0))), (3, .int (iI (ab1 37 ((vb1 39) - 1).toNat))), (2, .int (iI x)), (0, .ref h0), (1, .int (iI t))]) C dX12_flow_38 (by decide) rfl ?_
          refine m_lv (lv2 := [(4, .int (iI ((v 31) - 0))), (3, .int (iI (ab1 37 ((vb1 39) - 1).toNat))), (2, .int (iI x)), (0, .ref h0), (1, .int (iI t))]) [0, 1, 2, 3, 4] rfl ?_
          exact J1  (ab1 37 ((vb1 39) - 1).toNat) ((v 31) - 0) _ _  bxb1 fpb1 (by omega) (by show (vb1 39) = vb1 39; omega) (by show (ab1 37 ((vb1 39) - 1).toNat) = (ab1 37 ((vb1 39) - 1).toNat); omega) hI
  have rv24 : 0 ≤ v 39 ∧ v 39 ≤ 200 := hB.1 39
  refine m_lv (lv2 := [(2, .int (iI 0)), (0, .ref h0), (1, .int (iI t))]) [0, 1, 2] rfl ?_
  exact Lp1 202 0 _ _ (by omega) hB fp0 (by omega) (by show 1 ≤ (v 39) ∧ (v 39) ≤ 200; omega) FL2.init
set_option maxHeartbeats 4000000 in
set_option maxRecDepth 100000 in
theorem E_centre {l : Launch} {G : GT} {h0 : Nat} {ad ln : Nat → Nat} {v : Nat → Int} {a : Nat → Nat → Int}  {q : Int} (hB : BX v a) (hq : 0 ≤ q ∧ q ≤ 200) : Mm l G yX12_centre cX12_centre 5 none 0 [.int (iI q)] h0 ad ln v a 0 0 (fun r v2 a2 => r = none ∧ fr [] [37, 38] v a v2 a2 ∧ BX v2 a2 ∧ (CNX v a v2 a2 q)) := by
  refine Mm.mk (by decide) (Nat.le_of_ble_eq_true rfl) ?_
  intro p e s m args below meth c A C
  refine hv2 (show 1 ≤ v 31 ∧ v 31 ≤ 100 from hB.1 31) (show fr [] [37, 38] v a v a from fr.refl) (fun r31 fp0 => ?_)
  refine m_iload_n (j := 1) C dX12_centre_0 rfl ?_
  refine m_istore_n (lv2 := [(2, .int (iI q)), (0, .ref h0), (1, .int (iI q))]) C dX12_centre_1 (by decide) rfl ?_
  have Lp1 : ∀ (nn : Nat) (x : Int) (vb1 : Nat → Int) (ab1 : Nat → Nat → Int), 201 - x < (nn : Int) → BX vb1 ab1 → fr [] [37, 38] v a vb1 ab1 → (0 ≤ x ∧ x ≤ 200 ∧ q ≤ x) → (CN2 v a vb1 ab1 q x) → mw p l e (rmq 0 0 0) s m args below meth c G A 5 (MQ below (Qm G A (fun rq Lq Eq => ∃ (vq : Nat → Int) (aq : Nat → Nat → Int), mI G h0 ad ln vq aq Lq Eq ∧ (fun r v2 a2 => r = none ∧ fr [] [37, 38] v a v2 a2 ∧ BX v2 a2 ∧ (CNX v a v2 a2 q)) rq vq aq)) args s 0 0 A) h0 ad ln vb1 ab1 0 0 2 [(2, .int (iI x)), (0, .ref h0), (1, .int (iI q))] [] := by
    intro nn
    induction nn with
    | zero =>
      intro x vb1 ab1 hm bxb1 fpb1 hx hC
      exact absurd hm (by omega)
    | succ nn ih1 =>
      intro x vb1 ab1 hm bxb1 fpb1 hx hC
      refine m_iload_n (j := 0) C dX12_centre_2 rfl ?_
      refine m_aload_n (j := 1) C dX12_centre_3 rfl ?_
      refine hv2 (show 0 ≤ vb1 39 ∧ vb1 39 ≤ 200 from bxb1.1 39) (show vb1 39 = v 39 from fpb1.1 39 rfl) (fun rv1 ve1 => ?_)
      refine m_get (k := 39) C dX12_centre_4 w6_98 (by decide) rfl ?_
      refine m_st (st2 := [.int (iI (v 39)), .int (iI x)]) (congrArg (fun z => Value.int (iI z) :: [.int (iI x)]) (fpb1.1 39 rfl)) ?_
      refine m_icmp_ge (tgt := 144) C (r32_c (lo := 0) (hi := 200) hx.1 hx.2.1 (by decide) (by decide)) (r32_c (lo := 0) (hi := 200) (Int.le_trans rv1.1 (Int.le_of_eq ve1)) (Int.le_trans (Int.le_of_eq ve1.symm) rv1.2) (by decide) (by decide)) dX12_centre_7 (by decide) (fun c1 => ?_) (fun c1 => ?_)
      · exact m_vret C dX12_centre_144 rfl (Nat.le_of_ble_eq_true rfl) (Nat.le_of_ble_eq_true rfl) ⟨rfl, fpb1, bxb1, (hC.fin (by omega) (by omega))⟩
      · refine m_aload_n (j := 1) C dX12_centre_10 rfl ?_
        refine m_geta (k := 37) C dX12_centre_11 w6_96 (by decide) rfl ?_
        refine m_iload_n (j := 0) C dX12_centre_14 rfl ?_
        refine m_ald (k := 37) C dX12_centre_15 rfl rfl (by decide) (by omega) (by show _ < ((_ : Nat) : Int); simp only [mlen]; omega) (by decide) ?_
        have ra1 : 0 ≤ ab1 37 x.toNat ∧ ab1 37 x.toNat ≤ 200 := bxb1.2 37 (x.toNat)
        have J1 : ∀ (y : Int) (vb2 : Nat → Int) (ab2 : Nat → Nat → Int), BX vb2 ab2 → fr [] [37, 38] v a vb2 ab2 → (0 ≤ y ∧ ab2 37 x.toNat + y ≤ 200) → ((((ab2 37 x.toNat = 0 ∨ v 31 ≤ ab2 37 x.toNat) ∧ y = 0) ∨ (0 < ab2 37 x.toNat ∧ ab2 37 x.toNat < v 31 ∧ y = (v 31 - ab2 37 x.toNat) / 2))) → (CN2 v a vb2 ab2 q x) → mw p l e (rmq 0 0 0) s m args below meth c G A 5 (MQ below (Qm G A (fun rq Lq Eq => ∃ (vq : Nat → Int) (aq : Nat → Nat → Int), mI G h0 ad ln vq aq Lq Eq ∧ (fun r v2 a2 => r = none ∧ fr [] [37, 38] v a v2 a2 ∧ BX v2 a2 ∧ (CNX v a v2 a2 q)) rq vq aq)) args s 0 0 A) h0 ad ln vb2 ab2 0 0 49 [(2, .int (iI x)), (0, .ref h0), (1, .int (iI q))] [.int (iI y)] := by
          intro y vb2 ab2 bxb2 fpb2 hy hy2 hC1
          refine m_istore_n (lv2 := [(3, .int (iI y)), (2, .int (iI x)), (0, .ref h0), (1, .int (iI q))]) C dX12_centre_49 (by decide) rfl ?_
          refine m_aload_n (j := 2) C dX12_centre_50 rfl ?_
          refine m_geta (k := 37) C dX12_centre_51 w6_96 (by decide) rfl ?_
          refine m_iload_n (j := 1) C dX12_centre_54 rfl ?_
          refine m_ald (k := 37) C dX12_centre_55 rfl rfl (by decide) (by omega) (by show _ < ((_ : Nat) : Int); simp only [mlen]; omega) (by decide) ?_
          have ra2 : 0 ≤ ab2 37 x.toNat ∧ ab2 37 x.toNat ≤ 200 := bxb2.2 37 (x.toNat)
          refine m_iconst C dX12_centre_56 ?_
          refine m_isub C dX12_centre_57 ?_
          refine m_istore (lv2 := [(4, .int (iI ((ab2 37 x.toNat) - 1))), (3, .int (iI y)), (2, .int (iI x)), (0, .ref h0), (1, .int (iI q))]) C dX12_centre_58 (by decide) rfl ?_
          have Lp2 : ∀ (nn : Nat) (k : Int) (vb3 : Nat → Int) (ab3 : Nat → Nat → Int), k + 1 < (nn : Int) → BX vb3 ab3 → fr [] [37, 38] v a vb3 ab3 → (-1 ≤ k ∧ k < ab3 37 x.toNat ∧ ab3 37 x.toNat + y ≤ 200) → ((((ab3 37 x.toNat = 0 ∨ v 31 ≤ ab3 37 x.toNat) ∧ y = 0) ∨ (0 < ab3 37 x.toNat ∧ ab3 37 x.toNat < v 31 ∧ y = (v 31 - ab3 37 x.toNat) / 2))) → (CE6 v a vb3 ab3 q x y k) → mw p l e (rmq 0 0 0) s m args below meth c G A 5 (MQ below (Qm G A (fun rq Lq Eq => ∃ (vq : Nat → Int) (aq : Nat → Nat → Int), mI G h0 ad ln vq aq Lq Eq ∧ (fun r v2 a2 => r = none ∧ fr [] [37, 38] v a v2 a2 ∧ BX v2 a2 ∧ (CNX v a v2 a2 q)) rq vq aq)) args s 0 0 A) h0 ad ln vb3 ab3 0 0 60 [(4, .int (iI k)), (3, .int (iI y)), (2, .int (iI x)), (0, .ref h0), (1, .int (iI q))] [] := by
            intro nn
            induction nn with
            | zero =>
              intro k vb3 ab3 hm bxb3 fpb3 hk hy3 h6
              exact absurd hm (by omega)
            | succ nn ih2 =>
              intro k vb3 ab3 hm bxb3 fpb3 hk hy3 h6
              refine m_iload (j := 0) C dX12_centre_60 rfl ?_
              refine m_if_lt (tgt := 99) C ⟨by omega, by omega⟩ dX12_centre_62 (by decide) (fun c2 => ?_) (fun c2 => ?_)
              · refine m_iconst C dX12_centre_99 ?_
                refine m_istore (lv2 := [(4, .int (iI 0)), (3, .int (iI y)), (2, .int (iI x)), (0, .ref h0), (1, .int (iI q))]) C dX12_centre_100 (by decide) rfl ?_
                have Lp3 : ∀ (nn : Nat) (k1 : Int) (vb4 : Nat → Int) (ab4 : Nat → Nat → Int), 201 - k1 < (nn : Int) → BX vb4 ab4 → fr [] [37, 38] v a vb4 ab4 → (0 ≤ k1 ∧ k1 ≤ y ∧ k1 ≤ 200 ∧ ab4 37 x.toNat + y ≤ 200) → ((((ab4 37 x.toNat = 0 ∨ v 31 ≤ ab4 37 x.toNat) ∧ y = 0) ∨ (0 < ab4 37 x.toNat ∧ ab4 37 x.toNat < v 31 ∧ y = (v 31 - ab4 37 x.toNat) / 2))) → (CE7 v a vb4 ab4 q x y k1) → mw p l e (rmq 0 0 0) s m args below meth c G A 5 (MQ below (Qm G A (fun rq Lq Eq => ∃ (vq : Nat → Int) (aq : Nat → Nat → Int), mI G h0 ad ln vq aq Lq Eq ∧ (fun r v2 a2 => r = none ∧ fr [] [37, 38] v a v2 a2 ∧ BX v2 a2 ∧ (CNX v a v2 a2 q)) rq vq aq)) args s 0 0 A) h0 ad ln vb4 ab4 0 0 102 [(4, .int (iI k1)), (3, .int (iI y)), (2, .int (iI x)), (0, .ref h0), (1, .int (iI q))] [] := by
                  intro nn
                  induction nn with
                  | zero =>
                    intro k1 vb4 ab4 hm bxb4 fpb4 hk1 hy4 h7
                    exact absurd hm (by omega)
                  | succ nn ih3 =>
                    intro k1 vb4 ab4 hm bxb4 fpb4 hk1 hy4 h7
                    refine m_iload (j := 0) C dX12_centre_102 rfl ?_
                    refine m_iload_n (j := 1) C dX12_centre_104 rfl ?_
                    refine m_icmp_ge (tgt := 128) C (r32_c (lo := 0) (hi := 200) hk1.1 hk1.2.2.1 (by decide) (by decide)) ⟨by omega, by omega⟩ dX12_centre_105 (by decide) (fun c3 => ?_) (fun c3 => ?_)
                    · refine m_aload_n (j := 3) C dX12_centre_128 rfl ?_
                      refine m_geta (k := 37) C dX12_centre_129 w6_96 (by decide) rfl ?_
                      refine m_iload_n (j := 2) C dX12_centre_132 rfl ?_
                      refine m_dup2 C dX12_centre_133 rfl rfl ?_
                      refine m_ald (k := 37) C dX12_centre_134 rfl rfl (by decide) (by omega) (by show _ < ((_ : Nat) : Int); simp only [mlen]; omega) (by decide) ?_
                      have ra3 : 0 ≤ ab4 37 x.toNat ∧ ab4 37 x.toNat ≤ 200 := bxb4.2 37 (x.toNat)
                      refine m_iload_n (j := 1) C dX12_centre_135 rfl ?_
                      refine m_iadd C dX12_centre_136 ?_
                      refine m_ast (k := 37) C dX12_centre_137 rfl rfl (by decide) (by omega) (by show _ < ((_ : Nat) : Int); simp only [mlen]; omega) (by decide) ?_
                      refine hv2 (show BX vb4 (up2 ab4 37 x.toNat ((ab4 37 x.toNat) + y)) from bxb4.set (k := 37) (i := x.toNat) (z := (ab4 37 x.toNat) + y) (show 0 ≤ ((ab4 37 x.toNat) + y) ∧ ((ab4 37 x.toNat) + y) ≤ 200 by omega)) (fpb4.set (k := 37) (i := x.toNat) (z := (ab4 37 x.toNat) + y) rfl) (fun bq1 fq1 => ?_)
                      refine m_iinc (z := x) (j := 2) (lv2 := [(2, .int (iI (x + 1))), (4, .int (iI k1)), (3, .int (iI y)), (0, .ref h0), (1, .int (iI q))]) C dX12_centre_138 rfl (by decide) rfl ?_
                      refine m_goto (tgt := 2) C dX12_centre_141 (by decide) ?_
                      refine m_lv (lv2 := [(2, .int (iI (x + 1))), (0, .ref h0), (1, .int (iI q))]) [0, 3, 4] rfl ?_
                      exact ih1  (x + 1) _ _ (by omega) bq1 fq1 (by omega) (CE7.fin h7 ⟨by omega, by omega⟩ (by omega) (by omega) rfl (by omega) rfl rfl)
                    · refine m_aload_n (j := 3) C dX12_centre_108 rfl ?_
                      refine m_geta (k := 38) C dX12_centre_109 w6_97 (by decide) rfl ?_
                      refine m_sipush (z := 200) C dX12_centre_112 (by decide) ?_
                      refine m_iload_n (j := 2) C dX12_centre_115 rfl ?_
                      refine m_imul C dX12_centre_116 ?_
                      refine m_iload (j := 0) C dX12_centre_117 rfl ?_
                      refine m_iadd C dX12_centre_119 ?_
                      refine m_iconst C dX12_centre_120 ?_
                      refine m_ast (k := 38) C dX12_centre_121 rfl rfl (by decide) (by omega) (by show _ < ((_ : Nat) : Int); simp only [mlen]; omega) (by decide) ?_
                      refine hv2 (show BX vb4 (up2 ab4 38 ((200 * x) + k1).toNat 0) from bxb4.set (k := 38) (i := ((200 * x) + k1).toNat) (z := 0) ⟨by decide, by decide⟩) (fpb4.set (k := 38) (i := ((200 * x) + k1).toNat) (z := 0) rfl) (fun bq2 fq2 => ?_)
                      refine m_iinc (z := k1) (j := 0) (lv2 := [(4, .int (iI (k1 + 1))), (3, .int (iI y)), (2, .int (iI x)), (0, .ref h0), (1, .int (iI q))]) C dX12_centre_122 rfl (by decide) rfl ?_
                      refine m_goto (tgt := 102) C dX12_centre_125 (by decide) ?_
                      have ra4 : 0 ≤ ab4 37 x.toNat ∧ ab4 37 x.toNat ≤ 200 := bq2.2 37 (x.toNat)
                      refine m_lv (lv2 := [(4, .int (iI (k1 + 1))), (3, .int (iI y)), (2, .int (iI x)), (0, .ref h0), (1, .int (iI q))]) [0, 1, 2, 3, 4] rfl ?_
                      exact ih3  (k1 + 1) _ _ (by omega) bq2 fq2 (by show 0 ≤ (k1 + 1) ∧ (k1 + 1) ≤ y ∧ (k1 + 1) ≤ 200 ∧ (ab4 37 x.toNat) + y ≤ 200; omega) (by show ((((ab4 37 x.toNat) = 0 ∨ v 31 ≤ (ab4 37 x.toNat)) ∧ y = 0) ∨ (0 < (ab4 37 x.toNat) ∧ (ab4 37 x.toNat) < v 31 ∧ y = (v 31 - (ab4 37 x.toNat)) / 2)); omega) (h7.mv (fun l => (bxb4.2 37 l).2) (by omega) ⟨by omega, by omega, by omega⟩ rfl)
                have ra5 : 0 ≤ ab3 37 x.toNat ∧ ab3 37 x.toNat ≤ 200 := bxb3.2 37 (x.toNat)
                refine m_lv (lv2 := [(4, .int (iI 0)), (3, .int (iI y)), (2, .int (iI x)), (0, .ref h0), (1, .int (iI q))]) [0, 1, 2, 3, 4] rfl ?_
                exact Lp3 202 0 _ _ (by omega) bxb3 fpb3 (by show 0 ≤ 0 ∧ 0 ≤ y ∧ 0 ≤ 200 ∧ (ab3 37 x.toNat) + y ≤ 200; omega) (by show ((((ab3 37 x.toNat) = 0 ∨ v 31 ≤ (ab3 37 x.toNat)) ∧ y = 0) ∨ (0 < (ab3 37 x.toNat) ∧ (ab3 37 x.toNat) < v 31 ∧ y = (v 31 - (ab3 37 x.toNat)) / 2)); omega) (h6.zr (by omega))
              · refine m_aload_n (j := 3) C dX12_centre_65 rfl ?_
                refine m_geta (k := 38) C dX12_centre_66 w6_97 (by decide) rfl ?_
                refine m_sipush (z := 200) C dX12_centre_69 (by decide) ?_
                refine m_iload_n (j := 2) C dX12_centre_72 rfl ?_
                refine m_imul C dX12_centre_73 ?_
                refine m_iload (j := 0) C dX12_centre_74 rfl ?_
                refine m_iadd C dX12_centre_76 ?_
                refine m_iload_n (j := 1) C dX12_centre_77 rfl ?_
                refine m_iadd C dX12_centre_78 ?_
                refine m_aload_n (j := 3) C dX12_centre_79 rfl ?_
                refine m_geta (k := 38) C dX12_centre_80 w6_97 (by decide) rfl ?_
                refine m_sipush (z := 200) C dX12_centre_83 (by decide) ?_
                refine m_iload_n (j := 2) C dX12_centre_86 rfl ?_
                refine m_imul C dX12_centre_87 ?_
                refine m_iload (j := 0) C dX12_centre_88 rfl ?_
                refine m_iadd C dX12_centre_90 ?_
                refine m_ald (k := 38) C dX12_centre_91 rfl rfl (by decide) (by omega) (by show _ < ((_ : Nat) : Int); simp only [mlen]; omega) (by decide) ?_
                have ra6 : (-2147483648) ≤ ab3 38 ((200 * x) + k).toNat ∧ ab3 38 ((200 * x) + k).toNat ≤ 2147483647 := bxb3.2 38 (((200 * x) + k).toNat)
                refine m_ast (k := 38) C dX12_centre_92 rfl rfl (by decide) (by omega) (by show _ < ((_ : Nat) : Int); simp only [mlen]; omega) (by decide) ?_
                refine hv2 (show BX vb3 (up2 ab3 38 (((200 * x) + k) + y).toNat (ab3 38 ((200 * x) + k).toNat)) from bxb3.set (k := 38) (i := (((200 * x) + k) + y).toNat) (z := ab3 38 ((200 * x) + k).toNat) (show (-2147483648) ≤ (ab3 38 ((200 * x) + k).toNat) ∧ (ab3 38 ((200 * x) + k).toNat) ≤ 2147483647 by omega)) (fpb3.set (k := 38) (i := (((200 * x) + k) + y).toNat) (z := ab3 38 ((200 * x) + k).toNat) rfl) (fun bq3 fq3 => ?_)
                refine m_iinc (z := k) (j := 0) (lv2 := [(4, .int (iI (k + (-1)))), (3, .int (iI y)), (2, .int (iI x)), (0, .ref h0), (1, .int (iI q))]) C dX12_centre_93 rfl (by decide) rfl ?_
                refine m_goto (tgt := 60) C dX12_centre_96 (by decide) ?_
                have ra7 : 0 ≤ ab3 37 x.toNat ∧ ab3 37 x.toNat ≤ 200 := bq3.2 37 (x.toNat)
                refine m_lv (lv2 := [(4, .int (iI (k + (-1)))), (3, .int (iI y)), (2, .int (iI x)), (0, .ref h0), (1, .int (iI q))]) [0, 1, 2, 3, 4] rfl ?_
                exact ih2  (k + (-1)) _ _ (by omega) bq3 fq3 (by show -1 ≤ (k + (-1)) ∧ (k + (-1)) < (ab3 37 x.toNat) ∧ (ab3 37 x.toNat) + y ≤ 200; omega) (by show ((((ab3 37 x.toNat) = 0 ∨ v 31 ≤ (ab3 37 x.toNat)) ∧ y = 0) ∨ (0 < (ab3 37 x.toNat) ∧ (ab3 37 x.toNat) < v 31 ∧ y = (v 31 - (ab3 37 x.toNat)) / 2)); omega) (h6.mv (fun l => (bxb3.2 37 l).2) (by omega) ⟨by omega, by omega, by omega⟩ rfl rfl)
          refine m_lv (lv2 := [(4, .int (iI ((ab2 37 x.toNat) - 1))), (3, .int (iI y)), (2, .int (iI x)), (0, .ref h0), (1, .int (iI q))]) [0, 1, 2, 3, 4] rfl ?_
          exact Lp2 202 ((ab2 37 x.toNat) - 1) _ _ (by omega) bxb2 fpb2 (by show -1 ≤ ((ab2 37 x.toNat) - 1) ∧ ((ab2 37 x.toNat) - 1) < (ab2 37 x.toNat) ∧ (ab2 37 x.toNat) + y ≤ 200; omega) (by show ((((ab2 37 x.toNat) = 0 ∨ v 31 ≤ (ab2 37 x.toNat)) ∧ y = 0) ∨ (0 < (ab2 37 x.toNat) ∧ (ab2 37 x.toNat) < v 31 ∧ y = (v 31 - (ab2 37 x.toNat)) / 2)); omega) (hC1.go (by omega) rfl)
        refine m_if_eq (tgt := 32) C (r32_c (lo := 0) (hi := 200) ra1.1 ra1.2 (by decide) (by decide)) dX12_centre_16 (by decide) (fun c4 => ?_) (fun c4 => ?_)
        · refine m_iconst C dX12_centre_32 ?_
          refine m_goto (tgt := 49) C dX12_centre_33 (by decide) ?_
          refine m_lv (lv2 := [(2, .int (iI x)), (0, .ref h0), (1, .int (iI q))]) [0, 1, 2] rfl ?_
          exact J1  0 _ _  bxb1 fpb1 (by show 0 ≤ 0 ∧ (ab1 37 x.toNat) + 0 ≤ 200; omega) (by show ((((ab1 37 x.toNat) = 0 ∨ v 31 ≤ (ab1 37 x.toNat)) ∧ 0 = 0) ∨ (0 < (ab1 37 x.toNat) ∧ (ab1 37 x.toNat) < v 31 ∧ 0 = (v 31 - (ab1 37 x.toNat)) / 2)); omega) hC
        · refine m_aload_n (j := 1) C dX12_centre_19 rfl ?_
          refine m_geta (k := 37) C dX12_centre_20 w6_96 (by decide) rfl ?_
          refine m_iload_n (j := 0) C dX12_centre_23 rfl ?_
          refine m_ald (k := 37) C dX12_centre_24 rfl rfl (by decide) (by omega) (by show _ < ((_ : Nat) : Int); simp only [mlen]; omega) (by decide) ?_
          refine m_aload_n (j := 1) C dX12_centre_25 rfl ?_
          refine hv2 (show 1 ≤ vb1 31 ∧ vb1 31 ≤ 100 from bxb1.1 31) (show vb1 31 = v 31 from fpb1.1 31 rfl) (fun rv2 ve2 => ?_)
          refine m_get (k := 31) C dX12_centre_26 w6_90 (by decide) rfl ?_
          refine m_st (st2 := [.int (iI (v 31)), .int (iI (ab1 37 x.toNat))]) (congrArg (fun z => Value.int (iI z) :: [.int (iI (ab1 37 x.toNat))]) (fpb1.1 31 rfl)) ?_
          refine m_icmp_lt (tgt := 36) C (r32_c (lo := 0) (hi := 200) ra1.1 ra1.2 (by decide) (by decide)) (r32_c (lo := 1) (hi := 100) (Int.le_trans rv2.1 (Int.le_of_eq ve2)) (Int.le_trans (Int.le_of_eq ve2.symm) rv2.2) (by decide) (by decide)) dX12_centre_29 (by decide) (fun c5 => ?_) (fun c5 => ?_)
          · refine m_aload_n (j := 1) C dX12_centre_36 rfl ?_
            refine m_get (k := 31) C dX12_centre_37 w6_90 (by decide) rfl ?_
            refine m_st (st2 := [.int (iI (v 31))]) (congrArg (fun z => Value.int (iI z) :: []) (fpb1.1 31 rfl)) ?_
            refine m_aload_n (j := 1) C dX12_centre_40 rfl ?_
            refine m_geta (k := 37) C dX12_centre_41 w6_96 (by decide) rfl ?_
            refine m_iload_n (j := 0) C dX12_centre_44 rfl ?_
            refine m_ald (k := 37) C dX12_centre_45 rfl rfl (by decide) (by omega) (by show _ < ((_ : Nat) : Int); simp only [mlen]; omega) (by decide) ?_
            refine m_isub C dX12_centre_46 ?_
            refine m_iconst C dX12_centre_47 ?_
            obtain ⟨dq1, hdq1⟩ : ∃ q : Int, q = ((v 31) - (ab1 37 x.toNat)) / 2 := ⟨_, rfl⟩
            refine m_idiv (w := iI dq1) C dX12_centre_48 (iI_ne0 ⟨by omega, by omega⟩) (by rw [hdq1]; exact iI_div ⟨by omega, by omega⟩ ⟨by omega, by omega⟩) ?_
            refine m_lv (lv2 := [(2, .int (iI x)), (0, .ref h0), (1, .int (iI q))]) [0, 1, 2] rfl ?_
            exact J1  dq1 _ _  bxb1 fpb1 (by show 0 ≤ dq1 ∧ (ab1 37 x.toNat) + dq1 ≤ 200; omega) (by show ((((ab1 37 x.toNat) = 0 ∨ v 31 ≤ (ab1 37 x.toNat)) ∧ dq1 = 0) ∨ (0 < (ab1 37 x.toNat) ∧ (ab1 37 x.toNat) < v 31 ∧ dq1 = (v 31 - (ab1 37 x.toNat)) / 2)); omega) hC
          · refine m_iconst C dX12_centre_32 ?_
            refine m_goto (tgt := 49) C dX12_centre_33 (by decide) ?_
            refine m_lv (lv2 := [(2, .int (iI x)), (0, .ref h0), (1, .int (iI q))]) [0, 1, 2] rfl ?_
            exact J1  0 _ _  bxb1 fpb1 (by show 0 ≤ 0 ∧ (ab1 37 x.toNat) + 0 ≤ 200; omega) (by show ((((ab1 37 x.toNat) = 0 ∨ v 31 ≤ (ab1 37 x.toNat)) ∧ 0 = 0) ∨ (0 < (ab1 37 x.toNat) ∧ (ab1 37 x.toNat) < v 31 ∧ 0 = (v 31 - (ab1 37 x.toNat)) / 2)); omega) hC
  refine m_lv (lv2 := [(2, .int (iI q)), (0, .ref h0), (1, .int (iI q))]) [0, 1, 2] rfl ?_
  exact Lp1 202 q _ _ (by omega) hB fp0 (by omega) CN2.init
end
