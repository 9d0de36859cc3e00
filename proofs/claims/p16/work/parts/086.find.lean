abbrev isD (c : Int) : Prop := 48 ≤ c ∧ c ≤ 57
abbrev isG (c : Int) : Prop := 65 ≤ c ∧ c ≤ 90
abbrev isS (c : Int) : Prop := 97 ≤ c ∧ c ≤ 122
def CND (a : Nat → Nat → Int) (W : Nat → Int) (q u x r : Int) : Prop := a 11 r.toNat = 0 ∨ (a 11 r.toNat = 1 ∧ x = q) ∨ (a 11 r.toNat = 2 ∧ x ≠ q ∧ x + a 12 r.toNat ≠ u) ∨ (a 11 r.toNat = 3 ∧ x + a 12 r.toNat = u) ∨ (a 11 r.toNat = 4 ∧ x = q ∧ x + a 12 r.toNat = u) ∨ ((a 11 r.toNat < 0 ∨ 4 < a 11 r.toNat) ∧ x + a 12 r.toNat ≠ u ∧ ¬ isD (W (x + a 12 r.toNat).toNat) ∧ ¬ isG (W (x + a 12 r.toNat).toNat) ∧ ¬ isS (W (x + a 12 r.toNat).toNat))
def FTL (a : Nat → Nat → Int) (W : Nat → Int) (u x r k : Int) : Prop := x + a 12 r.toNat ≤ u ∧ ∀ j : Int, 0 ≤ j → j < k → a 14 (8 * r + j).toNat = W (x + j).toNat
def FIT (a : Nat → Nat → Int) (W : Nat → Int) (q u x r : Int) : Prop := FTL a W u x r (a 12 r.toNat) ∧ CND a W q u x r
def FTG (a : Nat → Nat → Int) (W : Nat → Int) (u x r k g : Int) : Prop := g = 1 ↔ FTL a W u x r k
def FTE (f : Int) (a : Nat → Nat → Int) (q u x r : Int) : Prop := f = 1 ↔ FIT a (a 20) q u x r
def OWI (a : Nat → Nat → Int) (W : Nat → Int) (q u x t b r : Int) : Prop := (b = -1 ∧ ∀ s : Int, 200 * t ≤ s → s < r → ¬ FIT a W q u x s) ∨ ((200 * t ≤ b ∧ b < r) ∧ FIT a W q u x b ∧ ∀ s : Int, 200 * t ≤ s → s < r → FIT a W q u x s → a 12 s.toNat ≤ a 12 b.toNat ∧ (s < b → a 12 s.toNat < a 12 b.toNat))
def OWR (a : Nat → Nat → Int) (W : Nat → Int) (q u x t r : Int) : Prop := OWI a W q u x t r (200 * t + a 10 t.toNat)
def cmb (a : Nat → Nat → Int) (x y : Int) : Int := if x < 0 ∨ (0 ≤ y ∧ a 12 x.toNat < a 12 y.toNat) then y else x
def sml (c : Int) : Int := if 65 ≤ c ∧ c ≤ 90 then c + 32 else c
def fnd (a : Nat → Nat → Int) (q u x : Int) : Nat → (Nat → Int) → Int → Int → Prop
  | 0, _, _, _ => False
  | n + 1, W, t, r => (a 6 t.toNat = 1 → ∃ y z, OWR a W q u x t y ∧ fnd a q u x n W (a 8 t.toNat) z ∧ r = cmb a y z) ∧ (a 6 t.toNat = 2 → (isD (W x.toNat) → OWR a W q u x t r) ∧ (¬ isD (W x.toNat) → fnd a q u x n W (a 8 t.toNat) r)) ∧ (a 6 t.toNat = 3 → ∃ y z, OWR a (va_up W x.toNat (sml (W x.toNat))) q u x t y ∧ fnd a q u x n (va_up W x.toNat (sml (W x.toNat))) (a 8 t.toNat) z ∧ r = cmb a y z) ∧ (a 6 t.toNat < 1 ∨ 3 < a 6 t.toNat → OWR a W q u x t r)
section FNDS
variable {v v1 v2 : Nat → Int} {V1 : List Nat} {a a1 a2 : Nat → Nat → Int} {W : Nat → Int} {q u x t b r s k g f f1 f2 y z : Int} {n m : Nat}
theorem FTL.zero (h : x + a 12 r.toNat ≤ u) : FTL a W u x r 0 := ⟨h, fun j h1 h2 => absurd h1 (by omega)⟩
theorem FTG.init1 (h : x + a 12 r.toNat ≤ u) : FTG a W u x r 0 1 := ⟨fun _ => FTL.zero h, fun _ => rfl⟩
theorem FTG.init0 (h : ¬ x + a 12 r.toNat ≤ u) : FTG a W u x r 0 0 := ⟨fun e => absurd e (by decide), fun e => absurd e.1 h⟩
theorem FTG.step1 (h : FTG a W u x r k g) (hg : g = 1) (e : a 14 (8 * r + k).toNat = W (x + k).toNat) : FTG a W u x r (k + 1) 1 := ⟨fun _ => ⟨(h.mp hg).1, fun j h1 h2 => by
  by_cases w : j < k
  · exact (h.mp hg).2 j h1 w
  · rw [show j = k by omega]; exact e⟩, fun _ => rfl⟩
theorem FTG.step0 (h0 : 0 ≤ k) (e : a 14 (8 * r + k).toNat ≠ W (x + k).toNat) : FTG a W u x r (k + 1) 0 := ⟨fun w => absurd w (by decide), fun w => absurd (w.2 k h0 (by omega)) e⟩
theorem FTE.no (h : FTG a (a 20) u x r k g) (hg : g ≠ 1) (hk : k ≤ a 12 r.toNat) : FTE 0 a q u x r := ⟨fun w => absurd w (by decide), fun w => absurd (h.mpr ⟨w.1.1, fun j h1 h2 => w.1.2 j h1 (by omega)⟩) hg⟩
theorem FTE.cn (hc : ¬ CND a (a 20) q u x r) : FTE 0 a q u x r := ⟨fun w => absurd w (by decide), fun w => absurd w.2 hc⟩
theorem FTE.cy (h : FTG a (a 20) u x r k g) (hg : g = 1) (hk : a 12 r.toNat ≤ k) (hc : CND a (a 20) q u x r) : FTE 1 a q u x r := ⟨fun _ => ⟨⟨(h.mp hg).1, fun j h1 h2 => (h.mp hg).2 j h1 (by omega)⟩, hc⟩, fun _ => rfl⟩
theorem OWI.zero : OWI a W q u x t (-1) (200 * t) := Or.inl ⟨rfl, fun s h1 h2 => absurd h1 (by omega)⟩
theorem OWI.rg (h : OWI a W q u x t b r) : b = -1 ∨ (200 * t ≤ b ∧ b < r ∧ x + a 12 b.toNat ≤ u) := by
  rcases h with ⟨h1, _⟩ | ⟨h1, h2, _⟩
  · exact Or.inl h1
  · exact Or.inr ⟨h1.1, h1.2, h2.1.1⟩
theorem OWI.skip (h : OWI a W q u x t b r) (hb : 200 * t ≤ b) (hl : a 12 r.toNat ≤ a 12 b.toNat) (h0 : 0 ≤ t) : OWI a W q u x t b (r + 1) := by
  rcases h with ⟨h1, _⟩ | ⟨h1, h2, h3⟩
  · omega
  · refine Or.inr ⟨⟨h1.1, by omega⟩, h2, fun s s1 s2 s3 => ?_⟩
    by_cases w : s < r
    · exact h3 s s1 w s3
    · rw [show s = r by omega]; exact ⟨hl, fun e => absurd e (by omega)⟩
theorem OWI.miss (h : OWI a W q u x t b r) (hf : ¬ FIT a W q u x r) : OWI a W q u x t b (r + 1) := by
  rcases h with ⟨h1, h2⟩ | ⟨h1, h2, h3⟩
  · exact Or.inl ⟨h1, fun s s1 s2 => by
      by_cases w : s < r
      · exact h2 s s1 w
      · rw [show s = r by omega]; exact hf⟩
  · refine Or.inr ⟨⟨h1.1, by omega⟩, h2, fun s s1 s2 s3 => ?_⟩
    by_cases w : s < r
    · exact h3 s s1 w s3
    · rw [show s = r by omega] at s3; exact absurd s3 hf
theorem OWI.hit (h : OWI a W q u x t b r) (hr : 200 * t ≤ r) (hl : b < 0 ∨ a 12 b.toNat < a 12 r.toNat) (h0 : 0 ≤ t) (hf : FIT a W q u x r) : OWI a W q u x t r (r + 1) := by
  refine Or.inr ⟨⟨hr, by omega⟩, hf, fun s s1 s2 s3 => ?_⟩
  by_cases w : s < r
  · rcases h with ⟨h1, h2⟩ | ⟨h1, h2, h3⟩
    · exact absurd s3 (h2 s s1 w)
    · have g := h3 s s1 w s3
      exact ⟨by omega, fun _ => by omega⟩
  · rw [show s = r by omega]; exact ⟨Int.le_refl _, fun e => absurd e (by omega)⟩
theorem OWR.rg (h : OWR a W q u x t r) : r = -1 ∨ (200 * t ≤ r ∧ r < 200 * t + a 10 t.toNat ∧ x + a 12 r.toNat ≤ u) := OWI.rg h
theorem OWR.uni (h0 : 0 ≤ t) (h : OWR a W q u x t r) (h2 : OWR a W q u x t s) : r = s := by
  rcases h with ⟨p1, p2⟩ | ⟨p1, p2, p3⟩ <;> rcases h2 with ⟨q1, q2⟩ | ⟨q1, q2, q3⟩
  · omega
  · exact absurd q2 (p2 s q1.1 q1.2)
  · exact absurd p2 (q2 r p1.1 p1.2)
  · have g1 := p3 s q1.1 q1.2 q2
    have g2 := q3 r p1.1 p1.2 p2
    by_cases w : r < s
    · have := g2.2 w; omega
    · by_cases w2 : s < r
      · have := g1.2 w2; omega
      · omega
theorem fnd_s (n : Nat) : fnd a q u x (n + 1) W t r = ((a 6 t.toNat = 1 → ∃ y z, OWR a W q u x t y ∧ fnd a q u x n W (a 8 t.toNat) z ∧ r = cmb a y z) ∧ (a 6 t.toNat = 2 → (isD (W x.toNat) → OWR a W q u x t r) ∧ (¬ isD (W x.toNat) → fnd a q u x n W (a 8 t.toNat) r)) ∧ (a 6 t.toNat = 3 → ∃ y z, OWR a (va_up W x.toNat (sml (W x.toNat))) q u x t y ∧ fnd a q u x n (va_up W x.toNat (sml (W x.toNat))) (a 8 t.toNat) z ∧ r = cmb a y z) ∧ (a 6 t.toNat < 1 ∨ 3 < a 6 t.toNat → OWR a W q u x t r)) := rfl
theorem fnd_uni (hT : TBL v a) : ∀ (n m : Nat) (W : Nat → Int) (t r s : Int), 0 ≤ t → t < v 4 → fnd a q u x n W t r → fnd a q u x m W t s → r = s := by
  intro n
  induction n with
  | zero => intro m W t r s _ _ h; exact False.elim h
  | succ n ih =>
    intro m W t r s h0 h4 h h2
    have ht := hT.1 t h0 h4
    have t8 : 1 ≤ a 6 t.toNat → a 6 t.toNat ≤ 3 → 0 ≤ a 8 t.toNat ∧ a 8 t.toNat < v 4 := by omega
    have t6 : a 6 t.toNat ≠ 1 → a 6 t.toNat ≠ 2 → a 6 t.toNat ≠ 3 → a 6 t.toNat < 1 ∨ 3 < a 6 t.toNat := by omega
    clear ht
    cases m with
    | zero => exact False.elim h2
    | succ m =>
      rw [fnd_s] at h h2
      obtain ⟨p1, p2, p3, p4⟩ := h
      obtain ⟨q1, q2, q3, q4⟩ := h2
      by_cases k1 : a 6 t.toNat = 1
      · obtain ⟨y, z, e1, e2, e3⟩ := p1 k1
        obtain ⟨y2, z2, d1, d2, d3⟩ := q1 k1
        have g1 := e1.uni h0 d1
        have g2 := ih m W _ z z2 (t8 (by omega) (by omega)).1 (t8 (by omega) (by omega)).2 e2 d2
        rw [e3, d3, g1, g2]
      · by_cases k2 : a 6 t.toNat = 2
        · by_cases c : isD (W x.toNat)
          · exact ((p2 k2).1 c).uni h0 ((q2 k2).1 c)
          · exact ih m W _ r s (t8 (by omega) (by omega)).1 (t8 (by omega) (by omega)).2 ((p2 k2).2 c) ((q2 k2).2 c)
        · by_cases k3 : a 6 t.toNat = 3
          · obtain ⟨y, z, e1, e2, e3⟩ := p3 k3
            obtain ⟨y2, z2, d1, d2, d3⟩ := q3 k3
            have g1 := e1.uni h0 d1
            have g2 := ih m _ _ z z2 (t8 (by omega) (by omega)).1 (t8 (by omega) (by omega)).2 e2 d2
            rw [e3, d3, g1, g2]
          · exact (p4 (t6 k1 k2 k3)).uni h0 (q4 (t6 k1 k2 k3))
theorem cmb_rg {P : Int → Prop} (hy : P y) (hz : P z) : P (cmb a y z) := by
  unfold cmb
  split
  · exact hz
  · exact hy
def FNP (a : Nat → Nat → Int) (u x r : Int) : Prop := r = -1 ∨ (0 ≤ r ∧ r < 6000 ∧ (1 ≤ a 12 r.toNat ∧ a 12 r.toNat ≤ 8) ∧ (1 ≤ a 13 r.toNat ∧ a 13 r.toNat ≤ 4) ∧ x + a 12 r.toNat ≤ u)
theorem own_rg (hT : TBL v a) (h30 : v 4 ≤ 30) (h0 : 0 ≤ t) (h4 : t < v 4) (h10 : a 10 t.toNat ≤ 200) (h : OWR a W q u x t r) : FNP a u x r := by
  rcases h.rg with e | ⟨e1, e2, e3⟩
  · exact Or.inl e
  · have g := hT.2 t r h0 h4 e1 e2
    exact Or.inr ⟨by omega, by omega, g.1, g.2, e3⟩
theorem OWR_cg (h10 : a1 10 = a 10) (h11 : a1 11 = a 11) (h12 : a1 12 = a 12) (h14 : a1 14 = a 14) : OWR a1 W q u x t r = OWR a W q u x t r := by
  unfold OWR OWI FIT FTL CND
  rw [h10, h11, h12, h14]
theorem cmb_cg (h12 : a1 12 = a 12) : cmb a1 y z = cmb a y z := by unfold cmb; rw [h12]
theorem fnd_cg (h6 : a1 6 = a 6) (h8 : a1 8 = a 8) (h10 : a1 10 = a 10) (h11 : a1 11 = a 11) (h12 : a1 12 = a 12) (h14 : a1 14 = a 14) : ∀ (n : Nat) (W : Nat → Int) (t r : Int), fnd a1 q u x n W t r → fnd a q u x n W t r := by
  intro n
  induction n with
  | zero => intro W t r h; exact h
  | succ n ih =>
    intro W t r h
    rw [fnd_s, h6, h8] at h
    rw [fnd_s]
    obtain ⟨p1, p2, p3, p4⟩ := h
    refine ⟨fun k => ?_, fun k => ⟨fun c => ?_, fun c => ?_⟩, fun k => ?_, fun k => ?_⟩
    · obtain ⟨y, z, e1, e2, e3⟩ := p1 k
      rw [OWR_cg h10 h11 h12 h14] at e1
      rw [cmb_cg h12] at e3
      exact ⟨y, z, e1, ih _ _ _ e2, e3⟩
    · have e := (p2 k).1 c
      rw [OWR_cg h10 h11 h12 h14] at e
      exact e
    · exact ih _ _ _ ((p2 k).2 c)
    · obtain ⟨y, z, e1, e2, e3⟩ := p3 k
      rw [OWR_cg h10 h11 h12 h14] at e1
      rw [cmb_cg h12] at e3
      exact ⟨y, z, e1, ih _ _ _ e2, e3⟩
    · have e := p4 k
      rw [OWR_cg h10 h11 h12 h14] at e
      exact e
def CTD (a : Nat → Nat → Int) (q u x : Int) (n : Nat) (W : Nat → Int) (t f : Int) : Prop := ∃ y z, OWR a W q u x t y ∧ fnd a q u x n W (a 8 t.toNat) z ∧ f = cmb a y z
theorem CTD.mk (f1 : fr V1 [27] v a v1 a1) (f2 : fr V1 [27] v a v2 a2) (h1 : OWR a1 (a1 20) q u x t y) (h2 : fnd a2 q u x n (a2 20) (a 8 t.toNat) z) (hf : f = cmb a y z) : CTD a q u x n (a 20) t f := by
  refine hv2 (show a1 20 = a 20 from f1.2 20 rfl) (show a2 20 = a 20 from f2.2 20 rfl) (fun w1 w2 => ?_)
  rw [w1, OWR_cg (f1.2 10 rfl) (f1.2 11 rfl) (f1.2 12 rfl) (f1.2 14 rfl)] at h1
  rw [w2] at h2
  exact ⟨y, z, h1, fnd_cg (f2.2 6 rfl) (f2.2 8 rfl) (f2.2 10 rfl) (f2.2 11 rfl) (f2.2 12 rfl) (f2.2 14 rfl) n _ _ _ h2, hf⟩
theorem CTD.cg {A : List Nat} (f1 : fr V1 A v a v1 a1) (hA : ([6, 8, 10, 11, 12, 14] : List Nat).all (fun j => !A.contains j) = true) (h : CTD a1 q u x n W t f) : CTD a q u x n W t f := by
  have g : ∀ j, j ∈ ([6, 8, 10, 11, 12, 14] : List Nat) → a1 j = a j := fun j hj => f1.2 j (by have := List.all_eq_true.mp hA j hj; simpa using this)
  have g6 := g 6 (by decide); have g8 := g 8 (by decide); have g10 := g 10 (by decide); have g11 := g 11 (by decide); have g12 := g 12 (by decide); have g14 := g 14 (by decide)
  obtain ⟨y, z, e1, e2, e3⟩ := h
  rw [OWR_cg g10 g11 g12 g14] at e1
  rw [g8] at e2
  rw [cmb_cg g12] at e3
  exact ⟨y, z, e1, fnd_cg g6 g8 g10 g11 g12 g14 n _ _ _ e2, e3⟩
theorem fnd.k1 (h6 : a 6 t.toNat = 1) (h : CTD a q u x n W t f) : fnd a q u x (n + 1) W t f := ⟨fun _ => h, fun e => absurd e (by omega), fun e => absurd e (by omega), fun e => absurd e (by omega)⟩
theorem fnd.k2 (h6 : a 6 t.toNat = 2) (hc : isD (W x.toNat)) (h : OWR a W q u x t f) : fnd a q u x (n + 1) W t f := ⟨fun e => absurd e (by omega), fun _ => ⟨fun _ => h, fun e => absurd hc e⟩, fun e => absurd e (by omega), fun e => absurd e (by omega)⟩
theorem fnd.k2n (h6 : a 6 t.toNat = 2) (hc : ¬ isD (W x.toNat)) (h : fnd a q u x n W (a 8 t.toNat) f) : fnd a q u x (n + 1) W t f := ⟨fun e => absurd e (by omega), fun _ => ⟨fun e => absurd e hc, fun _ => h⟩, fun e => absurd e (by omega), fun e => absurd e (by omega)⟩
theorem fnd.k3 {Z : Nat → Int} (h6 : a 6 t.toNat = 3) (hZ : Z = va_up W x.toNat (sml (W x.toNat))) (h : CTD a q u x n Z t f) : fnd a q u x (n + 1) W t f := by
  subst hZ
  exact ⟨fun e => absurd e (by omega), fun e => absurd e (by omega), fun _ => h, fun e => absurd e (by omega)⟩
theorem fnd.k0 (h6 : a 6 t.toNat < 1 ∨ 3 < a 6 t.toNat) (h : OWR a W q u x t f) : fnd a q u x (n + 1) W t f := ⟨fun e => absurd e (by omega), fun e => absurd e (by omega), fun e => absurd e (by omega), fun _ => h⟩
theorem OWR.fx (f1 : fr V1 [27] v a v1 a1) (h1 : OWR a1 (a1 20) q u x t y) : OWR a (a 20) q u x t y := by
  have w1 : a1 20 = a 20 := f1.2 20 rfl
  rw [w1, OWR_cg (f1.2 10 rfl) (f1.2 11 rfl) (f1.2 12 rfl) (f1.2 14 rfl)] at h1
  exact h1
theorem fnd.fx (f1 : fr V1 [27] v a v1 a1) (h1 : fnd a1 q u x n (a1 20) t y) : fnd a q u x n (a 20) t y := by
  have w1 : a1 20 = a 20 := f1.2 20 rfl
  rw [w1] at h1
  exact fnd_cg (f1.2 6 rfl) (f1.2 8 rfl) (f1.2 10 rfl) (f1.2 11 rfl) (f1.2 12 rfl) (f1.2 14 rfl) n _ _ _ h1
end FNDS
set_option maxHeartbeats 4000000 in
set_option maxRecDepth 100000 in
theorem E_fits {l : Launch} {G : GT} {h0 : Nat} {ad ln : Nat → Nat} {v : Nat → Int} {a : Nat → Nat → Int}  {w q u x : Int} (hB : BX v a) (hr : 0 ≤ w ∧ w < 6000) (h12 : 1 ≤ a 12 w.toNat ∧ a 12 w.toNat ≤ 8) (hx : 0 ≤ q ∧ q ≤ x ∧ x < u ∧ u ≤ 500) : Mm l G yX12_fits cX12_fits 9 (some .boolean) 1 [.int (iI w), .int (iI q), .int (iI u), .int (iI x)] h0 ad ln v a 0 0 (fun r v2 a2 => ∃ f : Int, r = some (.int (iI f)) ∧ fr [] [] v a v2 a2 ∧ BX v2 a2 ∧ ((f = 0 ∨ f = 1) ∧ FTE f a q u x w)) := by
  refine Mm.mk (by decide) (Nat.le_of_ble_eq_true rfl) ?_
  intro p e s m args below meth c A C
  have fp0 : fr [] [] v a v a := fr.refl
  refine m_aload_n (j := 0) C dX12_fits_0 rfl ?_
  refine m_geta (k := 12) C dX12_fits_1 w6_71 (by decide) rfl ?_
  refine m_iload_n (j := 1) C dX12_fits_4 rfl ?_
  refine m_ald (k := 12) C dX12_fits_5 rfl rfl (by decide) (by omega) (by show _ < ((_ : Nat) : Int); simp only [mlen]; omega) (by decide) ?_
  have ra1 : 0 ≤ a 12 w.toNat ∧ a 12 w.toNat ≤ 8 := hB.2 12 (w.toNat)
  refine m_istore (lv2 := [(5, .int (iI (a 12 w.toNat))), (0, .ref h0), (1, .int (iI w)), (2, .int (iI q)), (3, .int (iI u)), (4, .int (iI x))]) C dX12_fits_6 (by decide) rfl ?_
  have Lp1 : ∀ (nn : Nat) (g k : Int) (vb1 : Nat → Int) (ab1 : Nat → Nat → Int), 9 - k < (nn : Int) → BX vb1 ab1 → fr [] [] v a vb1 ab1 → (g = 0 ∨ g = 1) → (0 ≤ k ∧ k ≤ a 12 w.toNat) → (g = 0 ∨ x + a 12 w.toNat ≤ u) → (FTG a (a 20) u x w k g) → mw p l e (rmq 1 0 0) s m args below meth c G A 9 (MQ below (Qm G A (fun rq Lq Eq => ∃ (vq : Nat → Int) (aq : Nat → Nat → Int), mI G h0 ad ln vq aq Lq Eq ∧ (fun r v2 a2 => ∃ f : Int, r = some (.int (iI f)) ∧ fr [] [] v a v2 a2 ∧ BX v2 a2 ∧ ((f = 0 ∨ f = 1) ∧ FTE f a q u x w)) rq vq aq)) args s 0 0 A) h0 ad ln vb1 ab1 0 0 27 [(6, .int (iI g)), (7, .int (iI k)), (5, .int (iI (a 12 w.toNat))), (0, .ref h0), (1, .int (iI w)), (2, .int (iI q)), (3, .int (iI u)), (4, .int (iI x))] [] := by
    intro nn
    induction nn with
    | zero =>
      intro g k vb1 ab1 hm bxb1 fpb1 hg hk hu hF
      obtain ⟨rfl, rfl⟩ := fpb1.eq
      exact absurd hm (by omega)
    | succ nn ih1 =>
      intro g k vb1 ab1 hm bxb1 fpb1 hg hk hu hF
      obtain ⟨rfl, rfl⟩ := fpb1.eq
      refine m_iload (j := 1) C dX12_fits_27 rfl ?_
      refine m_iload (j := 2) C dX12_fits_29 rfl ?_
      refine m_icmp_ge (tgt := 77) C ⟨by omega, by omega⟩ (r32_c (lo := 0) (hi := 8) ra1.1 ra1.2 (by decide) (by decide)) dX12_fits_31 (by decide) (fun c1 => ?_) (fun c1 => ?_)
      · refine m_iload (j := 0) C dX12_fits_77 rfl ?_
        refine m_if_ne (tgt := 84) C (r32_01 hg) dX12_fits_79 (by decide) (fun c2 => ?_) (fun c2 => ?_)
        · replace hg := (hg.resolve_left c2)
          replace hu := (hu.resolve_left c2)
          refine m_iload (j := 7) C dX12_fits_84 rfl ?_
          refine m_iload_n (j := 5) C dX12_fits_86 rfl ?_
          refine m_icmp_ne (tgt := 94) C ⟨by omega, by omega⟩ ⟨by omega, by omega⟩ dX12_fits_87 (by decide) (fun c3 => ?_) (fun c3 => ?_)
          · refine m_iconst C dX12_fits_94 ?_
            refine m_istore (lv2 := [(7, .int (iI 0)), (6, .int (iI g)), (5, .int (iI (a 12 w.toNat))), (0, .ref h0), (1, .int (iI w)), (2, .int (iI q)), (3, .int (iI u)), (4, .int (iI x))]) C dX12_fits_95 (by decide) rfl ?_
            refine m_iload (j := 7) C dX12_fits_97 rfl ?_
            refine m_iload (j := 2) C dX12_fits_99 rfl ?_
            refine m_iadd C dX12_fits_101 ?_
            refine m_iload_n (j := 6) C dX12_fits_102 rfl ?_
            refine m_icmp_ne (tgt := 110) C ⟨by omega, by omega⟩ ⟨by omega, by omega⟩ dX12_fits_103 (by decide) (fun c4 => ?_) (fun c4 => ?_)
            · refine m_iconst C dX12_fits_110 ?_
              refine m_istore (lv2 := [(8, .int (iI 0)), (7, .int (iI 0)), (6, .int (iI g)), (5, .int (iI (a 12 w.toNat))), (0, .ref h0), (1, .int (iI w)), (2, .int (iI q)), (3, .int (iI u)), (4, .int (iI x))]) C dX12_fits_111 (by decide) rfl ?_
              refine m_aload_n (j := 4) C dX12_fits_113 rfl ?_
              refine m_geta (k := 11) C dX12_fits_114 w6_70 (by decide) rfl ?_
              refine m_iload_n (j := 5) C dX12_fits_117 rfl ?_
              refine m_ald (k := 11) C dX12_fits_118 rfl rfl (by decide) (by omega) (by show _ < ((_ : Nat) : Int); simp only [mlen]; omega) (by decide) ?_
              have ra2 : (-2147483648) ≤ a 11 w.toNat ∧ a 11 w.toNat ≤ 2147483647 := bxb1.2 11 (w.toNat)
              rcases (show (a 11 w.toNat) = 0 ∨ (a 11 w.toNat) = 1 ∨ (a 11 w.toNat) = 2 ∨ (a 11 w.toNat) = 3 ∨ (a 11 w.toNat) = 4 ∨ ((a 11 w.toNat) < 0 ∨ 4 < (a 11 w.toNat)) by omega) with sw1 | sw1 | sw1 | sw1 | sw1 | sw1
              · refine m_tabIn (tgt := 152) (off := 33) C (r32_c (lo := (-2147483648)) (hi := 2147483647) ra2.1 ra2.2 (by decide) (by decide)) dX12_fits_119 (by omega) (by omega) (by rw [sw1]; rfl) (by decide) ?_
                refine m_iconst C dX12_fits_152 ?_
                exact m_zret C dX12_fits_153 rfl (Or.inr rfl) (Nat.le_of_ble_eq_true rfl) (Nat.le_of_ble_eq_true rfl) ⟨1, rfl, fpb1, bxb1, ⟨by omega, FTE.cy hF (by omega) (by omega) (by unfold CND isD isG isS; omega)⟩⟩
              · refine m_tabIn (tgt := 154) (off := 35) C (r32_c (lo := (-2147483648)) (hi := 2147483647) ra2.1 ra2.2 (by decide) (by decide)) dX12_fits_119 (by omega) (by omega) (by rw [sw1]; rfl) (by decide) ?_
                refine m_iload (j := 1) C dX12_fits_154 rfl ?_
                exact m_zret C dX12_fits_156 rfl (Or.inl rfl) (Nat.le_of_ble_eq_true rfl) (Nat.le_of_ble_eq_true rfl) ⟨0, rfl, fpb1, bxb1, ⟨by omega, FTE.cn (fun h => by unfold CND isD isG isS at h; omega)⟩⟩
              · refine m_tabIn (tgt := 157) (off := 38) C (r32_c (lo := (-2147483648)) (hi := 2147483647) ra2.1 ra2.2 (by decide) (by decide)) dX12_fits_119 (by omega) (by omega) (by rw [sw1]; rfl) (by decide) ?_
                refine m_iload (j := 1) C dX12_fits_157 rfl ?_
                refine m_if_ne (tgt := 171) C ⟨by decide, by decide⟩ dX12_fits_159 (by decide) (fun z => absurd z (by omega)) (fun _ => ?_)
                refine m_iload (j := 0) C dX12_fits_162 rfl ?_
                refine m_if_ne (tgt := 171) C ⟨by decide, by decide⟩ dX12_fits_164 (by decide) (fun z => absurd z (by omega)) (fun _ => ?_)
                refine m_iconst C dX12_fits_167 ?_
                refine m_goto (tgt := 172) C dX12_fits_168 (by decide) ?_
                exact m_zret C dX12_fits_172 rfl (Or.inr rfl) (Nat.le_of_ble_eq_true rfl) (Nat.le_of_ble_eq_true rfl) ⟨1, rfl, fpb1, bxb1, ⟨by omega, FTE.cy hF (by omega) (by omega) (by unfold CND isD isG isS; omega)⟩⟩
              · refine m_tabIn (tgt := 173) (off := 54) C (r32_c (lo := (-2147483648)) (hi := 2147483647) ra2.1 ra2.2 (by decide) (by decide)) dX12_fits_119 (by omega) (by omega) (by rw [sw1]; rfl) (by decide) ?_
                refine m_iload (j := 0) C dX12_fits_173 rfl ?_
                exact m_zret C dX12_fits_175 rfl (Or.inl rfl) (Nat.le_of_ble_eq_true rfl) (Nat.le_of_ble_eq_true rfl) ⟨0, rfl, fpb1, bxb1, ⟨by omega, FTE.cn (fun h => by unfold CND isD isG isS at h; omega)⟩⟩
              · refine m_tabIn (tgt := 176) (off := 57) C (r32_c (lo := (-2147483648)) (hi := 2147483647) ra2.1 ra2.2 (by decide) (by decide)) dX12_fits_119 (by omega) (by omega) (by rw [sw1]; rfl) (by decide) ?_
                refine m_iload (j := 1) C dX12_fits_176 rfl ?_
                refine m_if_eq (tgt := 190) C ⟨by decide, by decide⟩ dX12_fits_178 (by decide) (fun _ => ?_) (fun z => absurd z (by omega))
                refine m_iconst C dX12_fits_190 ?_
                exact m_zret C dX12_fits_191 rfl (Or.inl rfl) (Nat.le_of_ble_eq_true rfl) (Nat.le_of_ble_eq_true rfl) ⟨0, rfl, fpb1, bxb1, ⟨by omega, FTE.cn (fun h => by unfold CND isD isG isS at h; omega)⟩⟩
              · refine m_tabOut (tgt := 192) C (r32_c (lo := (-2147483648)) (hi := 2147483647) ra2.1 ra2.2 (by decide) (by decide)) dX12_fits_119 sw1 (by decide) ?_
                refine m_iload (j := 0) C dX12_fits_192 rfl ?_
                refine m_if_ne (tgt := 249) C ⟨by decide, by decide⟩ dX12_fits_194 (by decide) (fun z => absurd z (by omega)) (fun _ => ?_)
                refine m_aload_n (j := 4) C dX12_fits_197 rfl ?_
                refine m_geta (k := 20) C dX12_fits_198 w6_79 (by decide) rfl ?_
                refine m_iload (j := 8) C dX12_fits_201 rfl ?_
                refine m_iload (j := 3) C dX12_fits_203 rfl ?_
                refine m_iadd C dX12_fits_205 ?_
                refine m_ald (k := 20) C dX12_fits_206 rfl rfl (by decide) (by omega) (by show _ < ((_ : Nat) : Int); simp only [mlen]; omega) (by decide) ?_
                have ra3 : (-2147483648) ≤ a 20 (x + (a 12 w.toNat)).toNat ∧ a 20 (x + (a 12 w.toNat)).toNat ≤ 2147483647 := bxb1.2 20 ((x + (a 12 w.toNat)).toNat)
                refine m_callS (As := [.int (iI (a 20 (x + (a 12 w.toNat)).toNat))]) (rest := []) C (fun L E => s_isDigit (iI (a 20 (x + (a 12 w.toNat)).toNat))) dX12_fits_207 kS_X12_202 rfl rfl (Nat.le_of_ble_eq_true rfl) ⟨Nat.le_of_ble_eq_true rfl, Nat.le_of_ble_eq_true rfl⟩ ⟨Nat.le_of_ble_eq_true rfl, Nat.le_of_ble_eq_true rfl⟩ ?_
                rcases inn_c (x := a 20 (x + (a 12 w.toNat)).toNat) (lo := 48) (hi := 57) (r32_c (lo := (-2147483648)) (hi := 2147483647) ra3.1 ra3.2 (by decide) (by decide)) ⟨by decide, by decide⟩ ⟨by decide, by decide⟩ with ⟨h1a, h1b, h1e⟩ | ⟨h1a, h1e⟩
                · refine m_st (st2 := [.int (iI 1)]) (by rw [show inn (iI (a 20 (x + (a 12 w.toNat)).toNat)) 48 57 = iI 1 from h1e]) ?_
                  refine m_if_ne (tgt := 249) C ⟨by decide, by decide⟩ dX12_fits_210 (by decide) (fun _ => ?_) (fun z => absurd z (by omega))
                  refine m_iconst C dX12_fits_249 ?_
                  exact m_zret C dX12_fits_250 rfl (Or.inl rfl) (Nat.le_of_ble_eq_true rfl) (Nat.le_of_ble_eq_true rfl) ⟨0, rfl, fpb1, bxb1, ⟨by omega, FTE.cn (fun h => by unfold CND isD isG isS at h; omega)⟩⟩
                · refine m_st (st2 := [.int (iI 0)]) (by rw [show inn (iI (a 20 (x + (a 12 w.toNat)).toNat)) 48 57 = iI 0 from h1e]) ?_
                  refine m_if_ne (tgt := 249) C ⟨by decide, by decide⟩ dX12_fits_210 (by decide) (fun z => absurd z (by omega)) (fun _ => ?_)
                  refine m_aload_n (j := 4) C dX12_fits_213 rfl ?_
                  refine m_geta (k := 20) C dX12_fits_214 w6_79 (by decide) rfl ?_
                  refine m_iload (j := 8) C dX12_fits_217 rfl ?_
                  refine m_iload (j := 3) C dX12_fits_219 rfl ?_
                  refine m_iadd C dX12_fits_221 ?_
                  refine m_ald (k := 20) C dX12_fits_222 rfl rfl (by decide) (by omega) (by show _ < ((_ : Nat) : Int); simp only [mlen]; omega) (by decide) ?_
                  refine m_callS (As := [.int (iI (a 20 (x + (a 12 w.toNat)).toNat))]) (rest := []) C (fun L E => s_isGreat (iI (a 20 (x + (a 12 w.toNat)).toNat))) dX12_fits_223 kS_X12_205 rfl rfl (Nat.le_of_ble_eq_true rfl) ⟨Nat.le_of_ble_eq_true rfl, Nat.le_of_ble_eq_true rfl⟩ ⟨Nat.le_of_ble_eq_true rfl, Nat.le_of_ble_eq_true rfl⟩ ?_
                  rcases inn_c (x := a 20 (x + (a 12 w.toNat)).toNat) (lo := 65) (hi := 90) (r32_c (lo := (-2147483648)) (hi := 2147483647) ra3.1 ra3.2 (by decide) (by decide)) ⟨by decide, by decide⟩ ⟨by decide, by decide⟩ with ⟨h2a, h2b, h2e⟩ | ⟨h2a, h2e⟩
                  · refine m_st (st2 := [.int (iI 1)]) (by rw [show inn (iI (a 20 (x + (a 12 w.toNat)).toNat)) 65 90 = iI 1 from h2e]) ?_
                    refine m_if_ne (tgt := 249) C ⟨by decide, by decide⟩ dX12_fits_226 (by decide) (fun _ => ?_) (fun z => absurd z (by omega))
                    refine m_iconst C dX12_fits_249 ?_
                    exact m_zret C dX12_fits_250 rfl (Or.inl rfl) (Nat.le_of_ble_eq_true rfl) (Nat.le_of_ble_eq_true rfl) ⟨0, rfl, fpb1, bxb1, ⟨by omega, FTE.cn (fun h => by unfold CND isD isG isS at h; omega)⟩⟩
                  · refine m_st (st2 := [.int (iI 0)]) (by rw [show inn (iI (a 20 (x + (a 12 w.toNat)).toNat)) 65 90 = iI 0 from h2e]) ?_
                    refine m_if_ne (tgt := 249) C ⟨by decide, by decide⟩ dX12_fits_226 (by decide) (fun z => absurd z (by omega)) (fun _ => ?_)
                    refine m_aload_n (j := 4) C dX12_fits_229 rfl ?_
                    refine m_geta (k := 20) C dX12_fits_230 w6_79 (by decide) rfl ?_
                    refine m_iload (j := 8) C dX12_fits_233 rfl ?_
                    refine m_iload (j := 3) C dX12_fits_235 rfl ?_
                    refine m_iadd C dX12_fits_237 ?_
                    refine m_ald (k := 20) C dX12_fits_238 rfl rfl (by decide) (by omega) (by show _ < ((_ : Nat) : Int); simp only [mlen]; omega) (by decide) ?_
                    refine m_callS (As := [.int (iI (a 20 (x + (a 12 w.toNat)).toNat))]) (rest := []) C (fun L E => s_isSmall (iI (a 20 (x + (a 12 w.toNat)).toNat))) dX12_fits_239 kS_X12_208 rfl rfl (Nat.le_of_ble_eq_true rfl) ⟨Nat.le_of_ble_eq_true rfl, Nat.le_of_ble_eq_true rfl⟩ ⟨Nat.le_of_ble_eq_true rfl, Nat.le_of_ble_eq_true rfl⟩ ?_
                    rcases inn_c (x := a 20 (x + (a 12 w.toNat)).toNat) (lo := 97) (hi := 122) (r32_c (lo := (-2147483648)) (hi := 2147483647) ra3.1 ra3.2 (by decide) (by decide)) ⟨by decide, by decide⟩ ⟨by decide, by decide⟩ with ⟨h3a, h3b, h3e⟩ | ⟨h3a, h3e⟩
                    · refine m_st (st2 := [.int (iI 1)]) (by rw [show inn (iI (a 20 (x + (a 12 w.toNat)).toNat)) 97 122 = iI 1 from h3e]) ?_
                      refine m_if_ne (tgt := 249) C ⟨by decide, by decide⟩ dX12_fits_242 (by decide) (fun _ => ?_) (fun z => absurd z (by omega))
                      refine m_iconst C dX12_fits_249 ?_
                      exact m_zret C dX12_fits_250 rfl (Or.inl rfl) (Nat.le_of_ble_eq_true rfl) (Nat.le_of_ble_eq_true rfl) ⟨0, rfl, fpb1, bxb1, ⟨by omega, FTE.cn (fun h => by unfold CND isD isG isS at h; omega)⟩⟩
                    · refine m_st (st2 := [.int (iI 0)]) (by rw [show inn (iI (a 20 (x + (a 12 w.toNat)).toNat)) 97 122 = iI 0 from h3e]) ?_
                      refine m_if_ne (tgt := 249) C ⟨by decide, by decide⟩ dX12_fits_242 (by decide) (fun z => absurd z (by omega)) (fun _ => ?_)
                      refine m_iconst C dX12_fits_245 ?_
                      refine m_goto (tgt := 250) C dX12_fits_246 (by decide) ?_
                      exact m_zret C dX12_fits_250 rfl (Or.inr rfl) (Nat.le_of_ble_eq_true rfl) (Nat.le_of_ble_eq_true rfl) ⟨1, rfl, fpb1, bxb1, ⟨by omega, FTE.cy hF (by omega) (by omega) (by unfold CND isD isG isS; omega)⟩⟩
            · refine m_iconst C dX12_fits_106 ?_
              refine m_goto (tgt := 111) C dX12_fits_107 (by decide) ?_
              refine m_istore (lv2 := [(8, .int (iI 1)), (7, .int (iI 0)), (6, .int (iI g)), (5, .int (iI (a 12 w.toNat))), (0, .ref h0), (1, .int (iI w)), (2, .int (iI q)), (3, .int (iI u)), (4, .int (iI x))]) C dX12_fits_111 (by decide) rfl ?_
              refine m_aload_n (j := 4) C dX12_fits_113 rfl ?_
              refine m_geta (k := 11) C dX12_fits_114 w6_70 (by decide) rfl ?_
              refine m_iload_n (j := 5) C dX12_fits_117 rfl ?_
              refine m_ald (k := 11) C dX12_fits_118 rfl rfl (by decide) (by omega) (by show _ < ((_ : Nat) : Int); simp only [mlen]; omega) (by decide) ?_
              have ra4 : (-2147483648) ≤ a 11 w.toNat ∧ a 11 w.toNat ≤ 2147483647 := bxb1.2 11 (w.toNat)
              rcases (show (a 11 w.toNat) = 0 ∨ (a 11 w.toNat) = 1 ∨ (a 11 w.toNat) = 2 ∨ (a 11 w.toNat) = 3 ∨ (a 11 w.toNat) = 4 ∨ ((a 11 w.toNat) < 0 ∨ 4 < (a 11 w.toNat)) by omega) with sw2 | sw2 | sw2 | sw2 | sw2 | sw2
              · refine m_tabIn (tgt := 152) (off := 33) C (r32_c (lo := (-2147483648)) (hi := 2147483647) ra4.1 ra4.2 (by decide) (by decide)) dX12_fits_119 (by omega) (by omega) (by rw [sw2]; rfl) (by decide) ?_
                refine m_iconst C dX12_fits_152 ?_
                exact m_zret C dX12_fits_153 rfl (Or.inr rfl) (Nat.le_of_ble_eq_true rfl) (Nat.le_of_ble_eq_true rfl) ⟨1, rfl, fpb1, bxb1, ⟨by omega, FTE.cy hF (by omega) (by omega) (by unfold CND isD isG isS; omega)⟩⟩
              · refine m_tabIn (tgt := 154) (off := 35) C (r32_c (lo := (-2147483648)) (hi := 2147483647) ra4.1 ra4.2 (by decide) (by decide)) dX12_fits_119 (by omega) (by omega) (by rw [sw2]; rfl) (by decide) ?_
                refine m_iload (j := 1) C dX12_fits_154 rfl ?_
                exact m_zret C dX12_fits_156 rfl (Or.inl rfl) (Nat.le_of_ble_eq_true rfl) (Nat.le_of_ble_eq_true rfl) ⟨0, rfl, fpb1, bxb1, ⟨by omega, FTE.cn (fun h => by unfold CND isD isG isS at h; omega)⟩⟩
              · refine m_tabIn (tgt := 157) (off := 38) C (r32_c (lo := (-2147483648)) (hi := 2147483647) ra4.1 ra4.2 (by decide) (by decide)) dX12_fits_119 (by omega) (by omega) (by rw [sw2]; rfl) (by decide) ?_
                refine m_iload (j := 1) C dX12_fits_157 rfl ?_
                refine m_if_ne (tgt := 171) C ⟨by decide, by decide⟩ dX12_fits_159 (by decide) (fun z => absurd z (by omega)) (fun _ => ?_)
                refine m_iload (j := 0) C dX12_fits_162 rfl ?_
                refine m_if_ne (tgt := 171) C ⟨by decide, by decide⟩ dX12_fits_164 (by decide) (fun _ => ?_) (fun z => absurd z (by omega))
                refine m_iconst C dX12_fits_171 ?_
                exact m_zret C dX12_fits_172 rfl (Or.inl rfl) (Nat.le_of_ble_eq_true rfl) (Nat.le_of_ble_eq_true rfl) ⟨0, rfl, fpb1, bxb1, ⟨by omega, FTE.cn (fun h => by unfold CND isD isG isS at h; omega)⟩⟩
              · refine m_tabIn (tgt := 173) (off := 54) C (r32_c (lo := (-2147483648)) (hi := 2147483647) ra4.1 ra4.2 (by decide) (by decide)) dX12_fits_119 (by omega) (by omega) (by rw [sw2]; rfl) (by decide) ?_
                refine m_iload (j := 0) C dX12_fits_173 rfl ?_
                exact m_zret C dX12_fits_175 rfl (Or.inr rfl) (Nat.le_of_ble_eq_true rfl) (Nat.le_of_ble_eq_true rfl) ⟨1, rfl, fpb1, bxb1, ⟨by omega, FTE.cy hF (by omega) (by omega) (by unfold CND isD isG isS; omega)⟩⟩
              · refine m_tabIn (tgt := 176) (off := 57) C (r32_c (lo := (-2147483648)) (hi := 2147483647) ra4.1 ra4.2 (by decide) (by decide)) dX12_fits_119 (by omega) (by omega) (by rw [sw2]; rfl) (by decide) ?_
                refine m_iload (j := 1) C dX12_fits_176 rfl ?_
                refine m_if_eq (tgt := 190) C ⟨by decide, by decide⟩ dX12_fits_178 (by decide) (fun _ => ?_) (fun z => absurd z (by omega))
                refine m_iconst C dX12_fits_190 ?_
                exact m_zret C dX12_fits_191 rfl (Or.inl rfl) (Nat.le_of_ble_eq_true rfl) (Nat.le_of_ble_eq_true rfl) ⟨0, rfl, fpb1, bxb1, ⟨by omega, FTE.cn (fun h => by unfold CND isD isG isS at h; omega)⟩⟩
              · refine m_tabOut (tgt := 192) C (r32_c (lo := (-2147483648)) (hi := 2147483647) ra4.1 ra4.2 (by decide) (by decide)) dX12_fits_119 sw2 (by decide) ?_
                refine m_iload (j := 0) C dX12_fits_192 rfl ?_
                refine m_if_ne (tgt := 249) C ⟨by decide, by decide⟩ dX12_fits_194 (by decide) (fun _ => ?_) (fun z => absurd z (by omega))
                refine m_iconst C dX12_fits_249 ?_
                exact m_zret C dX12_fits_250 rfl (Or.inl rfl) (Nat.le_of_ble_eq_true rfl) (Nat.le_of_ble_eq_true rfl) ⟨0, rfl, fpb1, bxb1, ⟨by omega, FTE.cn (fun h => by unfold CND isD isG isS at h; omega)⟩⟩
          · refine m_iconst C dX12_fits_90 ?_
            refine m_goto (tgt := 95) C dX12_fits_91 (by decide) ?_
            refine m_istore (lv2 := [(7, .int (iI 1)), (6, .int (iI g)), (5, .int (iI (a 12 w.toNat))), (0, .ref h0), (1, .int (iI w)), (2, .int (iI q)), (3, .int (iI u)), (4, .int (iI x))]) C dX12_fits_95 (by decide) rfl ?_
            refine m_iload (j := 7) C dX12_fits_97 rfl ?_
            refine m_iload (j := 2) C dX12_fits_99 rfl ?_
            refine m_iadd C dX12_fits_101 ?_
            refine m_iload_n (j := 6) C dX12_fits_102 rfl ?_
            refine m_icmp_ne (tgt := 110) C ⟨by omega, by omega⟩ ⟨by omega, by omega⟩ dX12_fits_103 (by decide) (fun c5 => ?_) (fun c5 => ?_)
            · refine m_iconst C dX12_fits_110 ?_
              refine m_istore (lv2 := [(8, .int (iI 0)), (7, .int (iI 1)), (6, .int (iI g)), (5, .int (iI (a 12 w.toNat))), (0, .ref h0), (1, .int (iI w)), (2, .int (iI q)), (3, .int (iI u)), (4, .int (iI x))]) C dX12_fits_111 (by decide) rfl ?_
              refine m_aload_n (j := 4) C dX12_fits_113 rfl ?_
              refine m_geta (k := 11) C dX12_fits_114 w6_70 (by decide) rfl ?_
              refine m_iload_n (j := 5) C dX12_fits_117 rfl ?_
              refine m_ald (k := 11) C dX12_fits_118 rfl rfl (by decide) (by omega) (by show _ < ((_ : Nat) : Int); simp only [mlen]; omega) (by decide) ?_
              have ra5 : (-2147483648) ≤ a 11 w.toNat ∧ a 11 w.toNat ≤ 2147483647 := bxb1.2 11 (w.toNat)
              rcases (show (a 11 w.toNat) = 0 ∨ (a 11 w.toNat) = 1 ∨ (a 11 w.toNat) = 2 ∨ (a 11 w.toNat) = 3 ∨ (a 11 w.toNat) = 4 ∨ ((a 11 w.toNat) < 0 ∨ 4 < (a 11 w.toNat)) by omega) with sw3 | sw3 | sw3 | sw3 | sw3 | sw3
              · refine m_tabIn (tgt := 152) (off := 33) C (r32_c (lo := (-2147483648)) (hi := 2147483647) ra5.1 ra5.2 (by decide) (by decide)) dX12_fits_119 (by omega) (by omega) (by rw [sw3]; rfl) (by decide) ?_
                refine m_iconst C dX12_fits_152 ?_
                exact m_zret C dX12_fits_153 rfl (Or.inr rfl) (Nat.le_of_ble_eq_true rfl) (Nat.le_of_ble_eq_true rfl) ⟨1, rfl, fpb1, bxb1, ⟨by omega, FTE.cy hF (by omega) (by omega) (by unfold CND isD isG isS; omega)⟩⟩
              · refine m_tabIn (tgt := 154) (off := 35) C (r32_c (lo := (-2147483648)) (hi := 2147483647) ra5.1 ra5.2 (by decide) (by decide)) dX12_fits_119 (by omega) (by omega) (by rw [sw3]; rfl) (by decide) ?_
                refine m_iload (j := 1) C dX12_fits_154 rfl ?_
                exact m_zret C dX12_fits_156 rfl (Or.inr rfl) (Nat.le_of_ble_eq_true rfl) (Nat.le_of_ble_eq_true rfl) ⟨1, rfl, fpb1, bxb1, ⟨by omega, FTE.cy hF (by omega) (by omega) (by unfold CND isD isG isS; omega)⟩⟩
              · refine m_tabIn (tgt := 157) (off := 38) C (r32_c (lo := (-2147483648)) (hi := 2147483647) ra5.1 ra5.2 (by decide) (by decide)) dX12_fits_119 (by omega) (by omega) (by rw [sw3]; rfl) (by decide) ?_
                refine m_iload (j := 1) C dX12_fits_157 rfl ?_
                refine m_if_ne (tgt := 171) C ⟨by decide, by decide⟩ dX12_fits_159 (by decide) (fun _ => ?_) (fun z => absurd z (by omega))
                refine m_iconst C dX12_fits_171 ?_
                exact m_zret C dX12_fits_172 rfl (Or.inl rfl) (Nat.le_of_ble_eq_true rfl) (Nat.le_of_ble_eq_true rfl) ⟨0, rfl, fpb1, bxb1, ⟨by omega, FTE.cn (fun h => by unfold CND isD isG isS at h; omega)⟩⟩
              · refine m_tabIn (tgt := 173) (off := 54) C (r32_c (lo := (-2147483648)) (hi := 2147483647) ra5.1 ra5.2 (by decide) (by decide)) dX12_fits_119 (by omega) (by omega) (by rw [sw3]; rfl) (by decide) ?_
                refine m_iload (j := 0) C dX12_fits_173 rfl ?_
                exact m_zret C dX12_fits_175 rfl (Or.inl rfl) (Nat.le_of_ble_eq_true rfl) (Nat.le_of_ble_eq_true rfl) ⟨0, rfl, fpb1, bxb1, ⟨by omega, FTE.cn (fun h => by unfold CND isD isG isS at h; omega)⟩⟩
              · refine m_tabIn (tgt := 176) (off := 57) C (r32_c (lo := (-2147483648)) (hi := 2147483647) ra5.1 ra5.2 (by decide) (by decide)) dX12_fits_119 (by omega) (by omega) (by rw [sw3]; rfl) (by decide) ?_
                refine m_iload (j := 1) C dX12_fits_176 rfl ?_
                refine m_if_eq (tgt := 190) C ⟨by decide, by decide⟩ dX12_fits_178 (by decide) (fun z => absurd z (by omega)) (fun _ => ?_)
                refine m_iload (j := 0) C dX12_fits_181 rfl ?_
                refine m_if_eq (tgt := 190) C ⟨by decide, by decide⟩ dX12_fits_183 (by decide) (fun _ => ?_) (fun z => absurd z (by omega))
                refine m_iconst C dX12_fits_190 ?_
                exact m_zret C dX12_fits_191 rfl (Or.inl rfl) (Nat.le_of_ble_eq_true rfl) (Nat.le_of_ble_eq_true rfl) ⟨0, rfl, fpb1, bxb1, ⟨by omega, FTE.cn (fun h => by unfold CND isD isG isS at h; omega)⟩⟩
              · refine m_tabOut (tgt := 192) C (r32_c (lo := (-2147483648)) (hi := 2147483647) ra5.1 ra5.2 (by decide) (by decide)) dX12_fits_119 sw3 (by decide) ?_
                refine m_iload (j := 0) C dX12_fits_192 rfl ?_
                refine m_if_ne (tgt := 249) C ⟨by decide, by decide⟩ dX12_fits_194 (by decide) (fun z => absurd z (by omega)) (fun _ => ?_)
                refine m_aload_n (j := 4) C dX12_fits_197 rfl ?_
                refine m_geta (k := 20) C dX12_fits_198 w6_79 (by decide) rfl ?_
                refine m_iload (j := 8) C dX12_fits_201 rfl ?_
                refine m_iload (j := 3) C dX12_fits_203 rfl ?_
                refine m_iadd C dX12_fits_205 ?_
                refine m_ald (k := 20) C dX12_fits_206 rfl rfl (by decide) (by omega) (by show _ < ((_ : Nat) : Int); simp only [mlen]; omega) (by decide) ?_
                have ra6 : (-2147483648) ≤ a 20 (x + (a 12 w.toNat)).toNat ∧ a 20 (x + (a 12 w.toNat)).toNat ≤ 2147483647 := bxb1.2 20 ((x + (a 12 w.toNat)).toNat)
                refine m_callS (As := [.int (iI (a 20 (x + (a 12 w.toNat)).toNat))]) (rest := []) C (fun L E => s_isDigit (iI (a 20 (x + (a 12 w.toNat)).toNat))) dX12_fits_207 kS_X12_202 rfl rfl (Nat.le_of_ble_eq_true rfl) ⟨Nat.le_of_ble_eq_true rfl, Nat.le_of_ble_eq_true rfl⟩ ⟨Nat.le_of_ble_eq_true rfl, Nat.le_of_ble_eq_true rfl⟩ ?_
                rcases inn_c (x := a 20 (x + (a 12 w.toNat)).toNat) (lo := 48) (hi := 57) (r32_c (lo := (-2147483648)) (hi := 2147483647) ra6.1 ra6.2 (by decide) (by decide)) ⟨by decide, by decide⟩ ⟨by decide, by decide⟩ with ⟨h4a, h4b, h4e⟩ | ⟨h4a, h4e⟩
                · refine m_st (st2 := [.int (iI 1)]) (by rw [show inn (iI (a 20 (x + (a 12 w.toNat)).toNat)) 48 57 = iI 1 from h4e]) ?_
                  refine m_if_ne (tgt := 249) C ⟨by decide, by decide⟩ dX12_fits_210 (by decide) (fun _ => ?_) (fun z => absurd z (by omega))
                  refine m_iconst C dX12_fits_249 ?_
                  exact m_zret C dX12_fits_250 rfl (Or.inl rfl) (Nat.le_of_ble_eq_true rfl) (Nat.le_of_ble_eq_true rfl) ⟨0, rfl, fpb1, bxb1, ⟨by omega, FTE.cn (fun h => by unfold CND isD isG isS at h; omega)⟩⟩
                · refine m_st (st2 := [.int (iI 0)]) (by rw [show inn (iI (a 20 (x + (a 12 w.toNat)).toNat)) 48 57 = iI 0 from h4e]) ?_
                  refine m_if_ne (tgt := 249) C ⟨by decide, by decide⟩ dX12_fits_210 (by decide) (fun z => absurd z (by omega)) (fun _ => ?_)
                  refine m_aload_n (j := 4) C dX12_fits_213 rfl ?_
                  refine m_geta (k := 20) C dX12_fits_214 w6_79 (by decide) rfl ?_
                  refine m_iload (j := 8) C dX12_fits_217 rfl ?_
                  refine m_iload (j := 3) C dX12_fits_219 rfl ?_
                  refine m_iadd C dX12_fits_221 ?_
                  refine m_ald (k := 20) C dX12_fits_222 rfl rfl (by decide) (by omega) (by show _ < ((_ : Nat) : Int); simp only [mlen]; omega) (by decide) ?_
                  refine m_callS (As := [.int (iI (a 20 (x + (a 12 w.toNat)).toNat))]) (rest := []) C (fun L E => s_isGreat (iI (a 20 (x + (a 12 w.toNat)).toNat))) dX12_fits_223 kS_X12_205 rfl rfl (Nat.le_of_ble_eq_true rfl) ⟨Nat.le_of_ble_eq_true rfl, Nat.le_of_ble_eq_true rfl⟩ ⟨Nat.le_of_ble_eq_true rfl, Nat.le_of_ble_eq_true rfl⟩ ?_
                  rcases inn_c (x := a 20 (x + (a 12 w.toNat)).toNat) (lo := 65) (hi := 90) (r32_c (lo := (-2147483648)) (hi := 2147483647) ra6.1 ra6.2 (by decide) (by decide)) ⟨by decide, by decide⟩ ⟨by decide, by decide⟩ with ⟨h5a, h5b, h5e⟩ | ⟨h5a, h5e⟩
                  · refine m_st (st2 := [.int (iI 1)]) (by rw [show inn (iI (a 20 (x + (a 12 w.toNat)).toNat)) 65 90 = iI 1 from h5e]) ?_
                    refine m_if_ne (tgt := 249) C ⟨by decide, by decide⟩ dX12_fits_226 (by decide) (fun _ => ?_) (fun z => absurd z (by omega))
                    refine m_iconst C dX12_fits_249 ?_
                    exact m_zret C dX12_fits_250 rfl (Or.inl rfl) (Nat.le_of_ble_eq_true rfl) (Nat.le_of_ble_eq_true rfl) ⟨0, rfl, fpb1, bxb1, ⟨by omega, FTE.cn (fun h => by unfold CND isD isG isS at h; omega)⟩⟩
                  · refine m_st (st2 := [.int (iI 0)]) (by rw [show inn (iI (a 20 (x + (a 12 w.toNat)).toNat)) 65 90 = iI 0 from h5e]) ?_
                    refine m_if_ne (tgt := 249) C ⟨by decide, by decide⟩ dX12_fits_226 (by decide) (fun z => absurd z (by omega)) (fun _ => ?_)
                    refine m_aload_n (j := 4) C dX12_fits_229 rfl ?_
                    refine m_geta (k := 20) C dX12_fits_230 w6_79 (by decide) rfl ?_
                    refine m_iload (j := 8) C dX12_fits_233 rfl ?_
                    refine m_iload (j := 3) C dX12_fits_235 rfl ?_
                    refine m_iadd C dX12_fits_237 ?_
                    refine m_ald (k := 20) C dX12_fits_238 rfl rfl (by decide) (by omega) (by show _ < ((_ : Nat) : Int); simp only [mlen]; omega) (by decide) ?_
                    refine m_callS (As := [.int (iI (a 20 (x + (a 12 w.toNat)).toNat))]) (rest := []) C (fun L E => s_isSmall (iI (a 20 (x + (a 12 w.toNat)).toNat))) dX12_fits_239 kS_X12_208 rfl rfl (Nat.le_of_ble_eq_true rfl) ⟨Nat.le_of_ble_eq_true rfl, Nat.le_of_ble_eq_true rfl⟩ ⟨Nat.le_of_ble_eq_true rfl, Nat.le_of_ble_eq_true rfl⟩ ?_
                    rcases inn_c (x := a 20 (x + (a 12 w.toNat)).toNat) (lo := 97) (hi := 122) (r32_c (lo := (-2147483648)) (hi := 2147483647) ra6.1 ra6.2 (by decide) (by decide)) ⟨by decide, by decide⟩ ⟨by decide, by decide⟩ with ⟨h6a, h6b, h6e⟩ | ⟨h6a, h6e⟩
                    · refine m_st (st2 := [.int (iI 1)]) (by rw [show inn (iI (a 20 (x + (a 12 w.toNat)).toNat)) 97 122 = iI 1 from h6e]) ?_
                      refine m_if_ne (tgt := 249) C ⟨by decide, by decide⟩ dX12_fits_242 (by decide) (fun _ => ?_) (fun z => absurd z (by omega))
                      refine m_iconst C dX12_fits_249 ?_
                      exact m_zret C dX12_fits_250 rfl (Or.inl rfl) (Nat.le_of_ble_eq_true rfl) (Nat.le_of_ble_eq_true rfl) ⟨0, rfl, fpb1, bxb1, ⟨by omega, FTE.cn (fun h => by unfold CND isD isG isS at h; omega)⟩⟩
                    · refine m_st (st2 := [.int (iI 0)]) (by rw [show inn (iI (a 20 (x + (a 12 w.toNat)).toNat)) 97 122 = iI 0 from h6e]) ?_
                      refine m_if_ne (tgt := 249) C ⟨by decide, by decide⟩ dX12_fits_242 (by decide) (fun z => absurd z (by omega)) (fun _ => ?_)
                      refine m_iconst C dX12_fits_245 ?_
                      refine m_goto (tgt := 250) C dX12_fits_246 (by decide) ?_
                      exact m_zret C dX12_fits_250 rfl (Or.inr rfl) (Nat.le_of_ble_eq_true rfl) (Nat.le_of_ble_eq_true rfl) ⟨1, rfl, fpb1, bxb1, ⟨by omega, FTE.cy hF (by omega) (by omega) (by unfold CND isD isG isS; omega)⟩⟩
            · refine m_iconst C dX12_fits_106 ?_
              refine m_goto (tgt := 111) C dX12_fits_107 (by decide) ?_
              refine m_istore (lv2 := [(8, .int (iI 1)), (7, .int (iI 1)), (6, .int (iI g)), (5, .int (iI (a 12 w.toNat))), (0, .ref h0), (1, .int (iI w)), (2, .int (iI q)), (3, .int (iI u)), (4, .int (iI x))]) C dX12_fits_111 (by decide) rfl ?_
              refine m_aload_n (j := 4) C dX12_fits_113 rfl ?_
              refine m_geta (k := 11) C dX12_fits_114 w6_70 (by decide) rfl ?_
              refine m_iload_n (j := 5) C dX12_fits_117 rfl ?_
              refine m_ald (k := 11) C dX12_fits_118 rfl rfl (by decide) (by omega) (by show _ < ((_ : Nat) : Int); simp only [mlen]; omega) (by decide) ?_
              have ra7 : (-2147483648) ≤ a 11 w.toNat ∧ a 11 w.toNat ≤ 2147483647 := bxb1.2 11 (w.toNat)
              rcases (show (a 11 w.toNat) = 0 ∨ (a 11 w.toNat) = 1 ∨ (a 11 w.toNat) = 2 ∨ (a 11 w.toNat) = 3 ∨ (a 11 w.toNat) = 4 ∨ ((a 11 w.toNat) < 0 ∨ 4 < (a 11 w.toNat)) by omega) with sw4 | sw4 | sw4 | sw4 | sw4 | sw4
              · refine m_tabIn (tgt := 152) (off := 33) C (r32_c (lo := (-2147483648)) (hi := 2147483647) ra7.1 ra7.2 (by decide) (by decide)) dX12_fits_119 (by omega) (by omega) (by rw [sw4]; rfl) (by decide) ?_
                refine m_iconst C dX12_fits_152 ?_
                exact m_zret C dX12_fits_153 rfl (Or.inr rfl) (Nat.le_of_ble_eq_true rfl) (Nat.le_of_ble_eq_true rfl) ⟨1, rfl, fpb1, bxb1, ⟨by omega, FTE.cy hF (by omega) (by omega) (by unfold CND isD isG isS; omega)⟩⟩
              · refine m_tabIn (tgt := 154) (off := 35) C (r32_c (lo := (-2147483648)) (hi := 2147483647) ra7.1 ra7.2 (by decide) (by decide)) dX12_fits_119 (by omega) (by omega) (by rw [sw4]; rfl) (by decide) ?_
                refine m_iload (j := 1) C dX12_fits_154 rfl ?_
                exact m_zret C dX12_fits_156 rfl (Or.inr rfl) (Nat.le_of_ble_eq_true rfl) (Nat.le_of_ble_eq_true rfl) ⟨1, rfl, fpb1, bxb1, ⟨by omega, FTE.cy hF (by omega) (by omega) (by unfold CND isD isG isS; omega)⟩⟩
              · refine m_tabIn (tgt := 157) (off := 38) C (r32_c (lo := (-2147483648)) (hi := 2147483647) ra7.1 ra7.2 (by decide) (by decide)) dX12_fits_119 (by omega) (by omega) (by rw [sw4]; rfl) (by decide) ?_
                refine m_iload (j := 1) C dX12_fits_157 rfl ?_
                refine m_if_ne (tgt := 171) C ⟨by decide, by decide⟩ dX12_fits_159 (by decide) (fun _ => ?_) (fun z => absurd z (by omega))
                refine m_iconst C dX12_fits_171 ?_
                exact m_zret C dX12_fits_172 rfl (Or.inl rfl) (Nat.le_of_ble_eq_true rfl) (Nat.le_of_ble_eq_true rfl) ⟨0, rfl, fpb1, bxb1, ⟨by omega, FTE.cn (fun h => by unfold CND isD isG isS at h; omega)⟩⟩
              · refine m_tabIn (tgt := 173) (off := 54) C (r32_c (lo := (-2147483648)) (hi := 2147483647) ra7.1 ra7.2 (by decide) (by decide)) dX12_fits_119 (by omega) (by omega) (by rw [sw4]; rfl) (by decide) ?_
                refine m_iload (j := 0) C dX12_fits_173 rfl ?_
                exact m_zret C dX12_fits_175 rfl (Or.inr rfl) (Nat.le_of_ble_eq_true rfl) (Nat.le_of_ble_eq_true rfl) ⟨1, rfl, fpb1, bxb1, ⟨by omega, FTE.cy hF (by omega) (by omega) (by unfold CND isD isG isS; omega)⟩⟩
              · refine m_tabIn (tgt := 176) (off := 57) C (r32_c (lo := (-2147483648)) (hi := 2147483647) ra7.1 ra7.2 (by decide) (by decide)) dX12_fits_119 (by omega) (by omega) (by rw [sw4]; rfl) (by decide) ?_
                refine m_iload (j := 1) C dX12_fits_176 rfl ?_
                refine m_if_eq (tgt := 190) C ⟨by decide, by decide⟩ dX12_fits_178 (by decide) (fun z => absurd z (by omega)) (fun _ => ?_)
                refine m_iload (j := 0) C dX12_fits_181 rfl ?_
                refine m_if_eq (tgt := 190) C ⟨by decide, by decide⟩ dX12_fits_183 (by decide) (fun z => absurd z (by omega)) (fun _ => ?_)
                refine m_iconst C dX12_fits_186 ?_
                refine m_goto (tgt := 191) C dX12_fits_187 (by decide) ?_
                exact m_zret C dX12_fits_191 rfl (Or.inr rfl) (Nat.le_of_ble_eq_true rfl) (Nat.le_of_ble_eq_true rfl) ⟨1, rfl, fpb1, bxb1, ⟨by omega, FTE.cy hF (by omega) (by omega) (by unfold CND isD isG isS; omega)⟩⟩
              · refine m_tabOut (tgt := 192) C (r32_c (lo := (-2147483648)) (hi := 2147483647) ra7.1 ra7.2 (by decide) (by decide)) dX12_fits_119 sw4 (by decide) ?_
                refine m_iload (j := 0) C dX12_fits_192 rfl ?_
                refine m_if_ne (tgt := 249) C ⟨by decide, by decide⟩ dX12_fits_194 (by decide) (fun _ => ?_) (fun z => absurd z (by omega))
                refine m_iconst C dX12_fits_249 ?_
                exact m_zret C dX12_fits_250 rfl (Or.inl rfl) (Nat.le_of_ble_eq_true rfl) (Nat.le_of_ble_eq_true rfl) ⟨0, rfl, fpb1, bxb1, ⟨by omega, FTE.cn (fun h => by unfold CND isD isG isS at h; omega)⟩⟩
        · clear hg
          clear hu
          refine m_iconst C dX12_fits_82 ?_
          exact m_zret C dX12_fits_83 rfl (Or.inl rfl) (Nat.le_of_ble_eq_true rfl) (Nat.le_of_ble_eq_true rfl) ⟨0, rfl, fpb1, bxb1, ⟨by omega, FTE.no hF (by omega) (by omega)⟩⟩
      · refine m_iload (j := 0) C dX12_fits_34 rfl ?_
        refine m_if_eq (tgt := 77) C (r32_01 hg) dX12_fits_36 (by decide) (fun c6 => ?_) (fun c6 => ?_)
        · clear hg
          clear hu
          refine m_iload (j := 0) C dX12_fits_77 rfl ?_
          refine m_if_ne (tgt := 84) C ⟨by omega, by omega⟩ dX12_fits_79 (by decide) (fun z => absurd z (by omega)) (fun _ => ?_)
          refine m_iconst C dX12_fits_82 ?_
          exact m_zret C dX12_fits_83 rfl (Or.inl rfl) (Nat.le_of_ble_eq_true rfl) (Nat.le_of_ble_eq_true rfl) ⟨0, rfl, fpb1, bxb1, ⟨by omega, FTE.no hF (by omega) (by omega)⟩⟩
        · replace hg := (hg.resolve_left c6)
          replace hu := (hu.resolve_left c6)
          refine m_aload_n (j := 3) C dX12_fits_39 rfl ?_
          refine m_geta (k := 14) C dX12_fits_40 w6_73 (by decide) rfl ?_
          refine m_bipush (z := 8) C dX12_fits_43 (by decide) ?_
          refine m_iload_n (j := 4) C dX12_fits_45 rfl ?_
          refine m_imul C dX12_fits_46 ?_
          refine m_iload (j := 1) C dX12_fits_47 rfl ?_
          refine m_iadd C dX12_fits_49 ?_
          refine m_ald (k := 14) C dX12_fits_50 rfl rfl (by decide) (by omega) (by show _ < ((_ : Nat) : Int); simp only [mlen]; omega) (by decide) ?_
          have ra8 : 0 ≤ a 14 ((8 * w) + k).toNat ∧ a 14 ((8 * w) + k).toNat ≤ 125 := bxb1.2 14 (((8 * w) + k).toNat)
          refine m_aload_n (j := 3) C dX12_fits_51 rfl ?_
          refine m_geta (k := 20) C dX12_fits_52 w6_79 (by decide) rfl ?_
          refine m_iload (j := 7) C dX12_fits_55 rfl ?_
          refine m_iload (j := 1) C dX12_fits_57 rfl ?_
          refine m_iadd C dX12_fits_59 ?_
          refine m_ald (k := 20) C dX12_fits_60 rfl rfl (by decide) (by omega) (by show _ < ((_ : Nat) : Int); simp only [mlen]; omega) (by decide) ?_
          have ra9 : (-2147483648) ≤ a 20 (x + k).toNat ∧ a 20 (x + k).toNat ≤ 2147483647 := bxb1.2 20 ((x + k).toNat)
          refine m_icmp_ne (tgt := 68) C (r32_c (lo := 0) (hi := 125) ra8.1 ra8.2 (by decide) (by decide)) (r32_c (lo := (-2147483648)) (hi := 2147483647) ra9.1 ra9.2 (by decide) (by decide)) dX12_fits_61 (by decide) (fun c7 => ?_) (fun c7 => ?_)
          · refine m_iconst C dX12_fits_68 ?_
            refine m_istore (lv2 := [(6, .int (iI 0)), (7, .int (iI k)), (5, .int (iI (a 12 w.toNat))), (0, .ref h0), (1, .int (iI w)), (2, .int (iI q)), (3, .int (iI u)), (4, .int (iI x))]) C dX12_fits_69 (by decide) rfl ?_
            refine m_iinc (z := k) (j := 1) (lv2 := [(7, .int (iI (k + 1))), (6, .int (iI 0)), (5, .int (iI (a 12 w.toNat))), (0, .ref h0), (1, .int (iI w)), (2, .int (iI q)), (3, .int (iI u)), (4, .int (iI x))]) C dX12_fits_71 rfl (by decide) rfl ?_
            refine m_goto (tgt := 27) C dX12_fits_74 (by decide) ?_
            refine m_lv (lv2 := [(6, .int (iI 0)), (7, .int (iI (k + 1))), (5, .int (iI (a 12 w.toNat))), (0, .ref h0), (1, .int (iI w)), (2, .int (iI q)), (3, .int (iI u)), (4, .int (iI x))]) [1, 0, 2, 3, 4, 5, 6, 7] rfl ?_
            exact ih1  0 (k + 1) _ _ (by omega) bxb1 fpb1 (by omega) (by omega) (by omega) (FTG.step0 (by omega) (by omega))
          · refine m_iconst C dX12_fits_64 ?_
            refine m_goto (tgt := 69) C dX12_fits_65 (by decide) ?_
            refine m_istore (lv2 := [(6, .int (iI 1)), (7, .int (iI k)), (5, .int (iI (a 12 w.toNat))), (0, .ref h0), (1, .int (iI w)), (2, .int (iI q)), (3, .int (iI u)), (4, .int (iI x))]) C dX12_fits_69 (by decide) rfl ?_
            refine m_iinc (z := k) (j := 1) (lv2 := [(7, .int (iI (k + 1))), (6, .int (iI 1)), (5, .int (iI (a 12 w.toNat))), (0, .ref h0), (1, .int (iI w)), (2, .int (iI q)), (3, .int (iI u)), (4, .int (iI x))]) C dX12_fits_71 rfl (by decide) rfl ?_
            refine m_goto (tgt := 27) C dX12_fits_74 (by decide) ?_
            refine m_lv (lv2 := [(6, .int (iI 1)), (7, .int (iI (k + 1))), (5, .int (iI (a 12 w.toNat))), (0, .ref h0), (1, .int (iI w)), (2, .int (iI q)), (3, .int (iI u)), (4, .int (iI x))]) [1, 0, 2, 3, 4, 5, 6, 7] rfl ?_
            exact ih1  1 (k + 1) _ _ (by omega) bxb1 fpb1 (by omega) (by omega) (by omega) (hF.step1 (by omega) (by omega))
  refine m_iload (j := 5) C dX12_fits_8 rfl ?_
  refine m_iload (j := 0) C dX12_fits_10 rfl ?_
  refine m_iadd C dX12_fits_12 ?_
  refine m_iload_n (j := 4) C dX12_fits_13 rfl ?_
  refine m_icmp_gt (tgt := 21) C ⟨by omega, by omega⟩ ⟨by omega, by omega⟩ dX12_fits_14 (by decide) (fun c8 => ?_) (fun c8 => ?_)
  · refine m_iconst C dX12_fits_21 ?_
    refine m_istore (lv2 := [(6, .int (iI 0)), (5, .int (iI (a 12 w.toNat))), (0, .ref h0), (1, .int (iI w)), (2, .int (iI q)), (3, .int (iI u)), (4, .int (iI x))]) C dX12_fits_22 (by decide) rfl ?_
    refine m_iconst C dX12_fits_24 ?_
    refine m_istore (lv2 := [(7, .int (iI 0)), (6, .int (iI 0)), (5, .int (iI (a 12 w.toNat))), (0, .ref h0), (1, .int (iI w)), (2, .int (iI q)), (3, .int (iI u)), (4, .int (iI x))]) C dX12_fits_25 (by decide) rfl ?_
    refine m_lv (lv2 := [(6, .int (iI 0)), (7, .int (iI 0)), (5, .int (iI (a 12 w.toNat))), (0, .ref h0), (1, .int (iI w)), (2, .int (iI q)), (3, .int (iI u)), (4, .int (iI x))]) [1, 0, 2, 3, 4, 5, 6, 7] rfl ?_
    exact Lp1 10 0 0 _ _ (by omega) hB fp0 (by omega) (by omega) (by omega) (FTG.init0 (by omega))
  · refine m_iconst C dX12_fits_17 ?_
    refine m_goto (tgt := 22) C dX12_fits_18 (by decide) ?_
    refine m_istore (lv2 := [(6, .int (iI 1)), (5, .int (iI (a 12 w.toNat))), (0, .ref h0), (1, .int (iI w)), (2, .int (iI q)), (3, .int (iI u)), (4, .int (iI x))]) C dX12_fits_22 (by decide) rfl ?_
    refine m_iconst C dX12_fits_24 ?_
    refine m_istore (lv2 := [(7, .int (iI 0)), (6, .int (iI 1)), (5, .int (iI (a 12 w.toNat))), (0, .ref h0), (1, .int (iI w)), (2, .int (iI q)), (3, .int (iI u)), (4, .int (iI x))]) C dX12_fits_25 (by decide) rfl ?_
    refine m_lv (lv2 := [(6, .int (iI 1)), (7, .int (iI 0)), (5, .int (iI (a 12 w.toNat))), (0, .ref h0), (1, .int (iI w)), (2, .int (iI q)), (3, .int (iI u)), (4, .int (iI x))]) [1, 0, 2, 3, 4, 5, 6, 7] rfl ?_
    exact Lp1 10 1 0 _ _ (by omega) hB fp0 (by omega) (by omega) (by omega) (FTG.init1 (by omega))
set_option maxHeartbeats 4000000 in
set_option maxRecDepth 100000 in
theorem E_own {l : Launch} {G : GT} {h0 : Nat} {ad ln : Nat → Nat} {v : Nat → Int} {a : Nat → Nat → Int}  {t q u x : Int} (hB : BX v a) (hT : TBL v a) (ht : 0 ≤ t ∧ t < v 4) (hx : 0 ≤ q ∧ q ≤ x ∧ x < u ∧ u ≤ 500) : Mm l G yX12_own cX12_own 7 (some .int) 2 [.int (iI t), .int (iI q), .int (iI u), .int (iI x)] h0 ad ln v a 0 0 (fun r v2 a2 => ∃ f : Int, r = some (.int (iI f)) ∧ fr [] [] v a v2 a2 ∧ BX v2 a2 ∧ ((f = -1 ∨ (0 ≤ f ∧ f < 6000 ∧ (1 ≤ a 12 f.toNat ∧ a 12 f.toNat ≤ 8) ∧ (1 ≤ a 13 f.toNat ∧ a 13 f.toNat ≤ 4) ∧ x + a 12 f.toNat ≤ u)) ∧ OWR a (a 20) q u x t f)) := by
  refine Mm.mk (by decide) (Nat.le_of_ble_eq_true rfl) ?_
  intro p e s m args below meth c A C
  refine hv3 (show 0 ≤ v 4 ∧ v 4 ≤ 30 from hB.1 4) (show 0 ≤ a 10 t.toNat ∧ a 10 t.toNat ≤ 200 from hB.2 10 _) (show fr [] [] v a v a from fr.refl) (fun h30 r10 fp0 => ?_)
  refine m_iconst C dX12_own_0 ?_
  refine m_istore (lv2 := [(5, .int (iI (-1))), (0, .ref h0), (1, .int (iI t)), (2, .int (iI q)), (3, .int (iI u)), (4, .int (iI x))]) C dX12_own_1 (by decide) rfl ?_
  refine m_sipush (z := 200) C dX12_own_3 (by decide) ?_
  refine m_iload_n (j := 2) C dX12_own_6 rfl ?_
  refine m_imul C dX12_own_7 ?_
  refine m_istore (lv2 := [(6, .int (iI (200 * t))), (5, .int (iI (-1))), (0, .ref h0), (1, .int (iI t)), (2, .int (iI q)), (3, .int (iI u)), (4, .int (iI x))]) C dX12_own_8 (by decide) rfl ?_
  have Lp1 : ∀ (nn : Nat) (w1 k : Int) (vb1 : Nat → Int) (ab1 : Nat → Nat → Int), 200 * t + 201 - k < (nn : Int) → BX vb1 ab1 → fr [] [] v a vb1 ab1 → (200 * t ≤ k ∧ k ≤ 200 * t + a 10 t.toNat) → (w1 = -1 ∨ (200 * t ≤ w1 ∧ w1 < k)) → (OWI a (a 20) q u x t w1 k) → mw p l e (rmq 2 0 0) s m args below meth c G A 7 (MQ below (Qm G A (fun rq Lq Eq => ∃ (vq : Nat → Int) (aq : Nat → Nat → Int), mI G h0 ad ln vq aq Lq Eq ∧ (fun r v2 a2 => ∃ f : Int, r = some (.int (iI f)) ∧ fr [] [] v a v2 a2 ∧ BX v2 a2 ∧ ((f = -1 ∨ (0 ≤ f ∧ f < 6000 ∧ (1 ≤ a 12 f.toNat ∧ a 12 f.toNat ≤ 8) ∧ (1 ≤ a 13 f.toNat ∧ a 13 f.toNat ≤ 4) ∧ x + a 12 f.toNat ≤ u)) ∧ OWR a (a 20) q u x t f)) rq vq aq)) args s 0 0 A) h0 ad ln vb1 ab1 0 0 10 [(5, .int (iI w1)), (6, .int (iI k)), (0, .ref h0), (1, .int (iI t)), (2, .int (iI q)), (3, .int (iI u)), (4, .int (iI x))] [] := by
    intro nn
    induction nn with
    | zero =>
      intro w1 k vb1 ab1 hm bxb1 fpb1 hk hw hO
      obtain ⟨rfl, rfl⟩ := fpb1.eq
      exact absurd hm (by omega)
    | succ nn ih1 =>
      intro w1 k vb1 ab1 hm bxb1 fpb1 hk hw hO
      obtain ⟨rfl, rfl⟩ := fpb1.eq
      refine m_iload (j := 1) C dX12_own_10 rfl ?_
      refine m_sipush (z := 200) C dX12_own_12 (by decide) ?_
      refine m_iload_n (j := 3) C dX12_own_15 rfl ?_
      refine m_imul C dX12_own_16 ?_
      refine m_aload_n (j := 2) C dX12_own_17 rfl ?_
      refine m_geta (k := 10) C dX12_own_18 w6_69 (by decide) rfl ?_
      refine m_iload_n (j := 3) C dX12_own_21 rfl ?_
      refine m_ald (k := 10) C dX12_own_22 rfl rfl (by decide) (by omega) (by show _ < ((_ : Nat) : Int); simp only [mlen]; omega) (by decide) ?_
      have ra1 : 0 ≤ a 10 t.toNat ∧ a 10 t.toNat ≤ 200 := bxb1.2 10 (t.toNat)
      refine m_iadd C dX12_own_23 ?_
      refine m_icmp_ge (tgt := 72) C ⟨by omega, by omega⟩ ⟨by omega, by omega⟩ dX12_own_24 (by decide) (fun c1 => ?_) (fun c1 => ?_)
      · refine m_iload (j := 0) C dX12_own_72 rfl ?_
        exact m_iret C dX12_own_74 rfl (Nat.le_of_ble_eq_true rfl) (Nat.le_of_ble_eq_true rfl) ⟨w1, rfl, fpb1, bxb1, (show _ ∧ _ from have ho : OWR a (a 20) q u x t w1 := (by rw [show k = 200 * t + a 10 t.toNat by omega] at hO; exact hO); ⟨own_rg hT (by omega) (by omega) (by omega) (by omega) ho, ho⟩)⟩
      · have hr0 := (hT.2 t k (by omega) (by omega) (by omega) (by omega)).1
        refine m_iload (j := 0) C dX12_own_27 rfl ?_
        refine m_if_lt (tgt := 49) C ⟨by omega, by omega⟩ dX12_own_29 (by decide) (fun c2 => ?_) (fun c2 => ?_)
        · refine m_aload_n (j := 2) C dX12_own_49 rfl ?_
          refine m_iload (j := 1) C dX12_own_50 rfl ?_
          refine m_iload_n (j := 4) C dX12_own_52 rfl ?_
          refine m_iload_n (j := 5) C dX12_own_53 rfl ?_
          refine m_iload (j := 6) C dX12_own_54 rfl ?_
          have ra2 : 0 ≤ a 12 k.toNat ∧ a 12 k.toNat ≤ 8 := bxb1.2 12 (k.toNat)
          refine m_call (mc2 := 0) (ms2 := 0) (As := [.int (iI k), .int (iI q), .int (iI u), .int (iI x)]) (rest := []) C (E_fits (w := k) (q := q) (u := u) (x := x) bxb1 (by show 0 ≤ k ∧ k < 6000; omega) (by show 1 ≤ a 12 k.toNat ∧ a 12 k.toNat ≤ 8; omega) (by show 0 ≤ q ∧ q ≤ x ∧ x < u ∧ u ≤ 500; omega)) dX12_own_56 kV_X12_211 rfl ck_13 rfl (Nat.le_of_ble_eq_true rfl) ⟨Nat.le_of_ble_eq_true rfl, Nat.le_of_ble_eq_true rfl⟩ ⟨Nat.le_of_ble_eq_true rfl, Nat.le_of_ble_eq_true rfl⟩ (fun rh1 vh1 ah1 h1 => ?_)
          obtain ⟨f1, rfl, fn1, bn1, ex1⟩ := h1
          obtain ⟨rfl, rfl⟩ := fn1.eq
          obtain ⟨ex1, tl1⟩ := ex1
          have gf1 : f1 = 0 ∨ f1 = 1 := ex1
          refine m_st (st2 := [.int (iI f1)]) rfl ?_
          refine m_if_eq (tgt := 66) C (r32_01 gf1) dX12_own_59 (by decide) (fun c3 => ?_) (fun c3 => ?_)
          · clear gf1
            refine m_iinc (z := k) (j := 1) (lv2 := [(6, .int (iI (k + 1))), (5, .int (iI w1)), (0, .ref h0), (1, .int (iI t)), (2, .int (iI q)), (3, .int (iI u)), (4, .int (iI x))]) C dX12_own_66 rfl (by decide) rfl ?_
            refine m_goto (tgt := 10) C dX12_own_69 (by decide) ?_
            refine m_lv (lv2 := [(5, .int (iI w1)), (6, .int (iI (k + 1))), (0, .ref h0), (1, .int (iI t)), (2, .int (iI q)), (3, .int (iI u)), (4, .int (iI x))]) [1, 0, 2, 3, 4, 5, 6] rfl ?_
            exact ih1  w1 (k + 1) _ _ (by omega) bxb1 fpb1 (by omega) (by omega) (hO.miss (fun w => absurd (tl1.mpr w) (by omega)))
          · replace gf1 := (gf1.resolve_left c3)
            refine m_iload (j := 1) C dX12_own_62 rfl ?_
            refine m_istore (lv2 := [(5, .int (iI k)), (6, .int (iI k)), (0, .ref h0), (1, .int (iI t)), (2, .int (iI q)), (3, .int (iI u)), (4, .int (iI x))]) C dX12_own_64 (by decide) rfl ?_
            refine m_iinc (z := k) (j := 1) (lv2 := [(6, .int (iI (k + 1))), (5, .int (iI k)), (0, .ref h0), (1, .int (iI t)), (2, .int (iI q)), (3, .int (iI u)), (4, .int (iI x))]) C dX12_own_66 rfl (by decide) rfl ?_
            refine m_goto (tgt := 10) C dX12_own_69 (by decide) ?_
            refine m_lv (lv2 := [(5, .int (iI k)), (6, .int (iI (k + 1))), (0, .ref h0), (1, .int (iI t)), (2, .int (iI q)), (3, .int (iI u)), (4, .int (iI x))]) [1, 0, 2, 3, 4, 5, 6] rfl ?_
            exact ih1  k (k + 1) _ _ (by omega) bxb1 fpb1 (by omega) (by omega) (hO.hit (by omega) (by omega) (by omega) (tl1.mp (by omega)))
        · refine m_aload_n (j := 2) C dX12_own_32 rfl ?_
          refine m_geta (k := 12) C dX12_own_33 w6_71 (by decide) rfl ?_
          refine m_iload (j := 1) C dX12_own_36 rfl ?_
          refine m_ald (k := 12) C dX12_own_38 rfl rfl (by decide) (by omega) (by show _ < ((_ : Nat) : Int); simp only [mlen]; omega) (by decide) ?_
          have ra3 : 0 ≤ a 12 k.toNat ∧ a 12 k.toNat ≤ 8 := bxb1.2 12 (k.toNat)
          refine m_aload_n (j := 2) C dX12_own_39 rfl ?_
          refine m_geta (k := 12) C dX12_own_40 w6_71 (by decide) rfl ?_
          refine m_iload (j := 0) C dX12_own_43 rfl ?_
          refine m_ald (k := 12) C dX12_own_45 rfl rfl (by decide) (by omega) (by show _ < ((_ : Nat) : Int); simp only [mlen]; omega) (by decide) ?_
          have ra4 : 0 ≤ a 12 w1.toNat ∧ a 12 w1.toNat ≤ 8 := bxb1.2 12 (w1.toNat)
          refine m_icmp_le (tgt := 66) C (r32_c (lo := 0) (hi := 8) ra3.1 ra3.2 (by decide) (by decide)) (r32_c (lo := 0) (hi := 8) ra4.1 ra4.2 (by decide) (by decide)) dX12_own_46 (by decide) (fun c4 => ?_) (fun c4 => ?_)
          · refine m_iinc (z := k) (j := 1) (lv2 := [(6, .int (iI (k + 1))), (5, .int (iI w1)), (0, .ref h0), (1, .int (iI t)), (2, .int (iI q)), (3, .int (iI u)), (4, .int (iI x))]) C dX12_own_66 rfl (by decide) rfl ?_
            refine m_goto (tgt := 10) C dX12_own_69 (by decide) ?_
            refine m_lv (lv2 := [(5, .int (iI w1)), (6, .int (iI (k + 1))), (0, .ref h0), (1, .int (iI t)), (2, .int (iI q)), (3, .int (iI u)), (4, .int (iI x))]) [1, 0, 2, 3, 4, 5, 6] rfl ?_
            exact ih1  w1 (k + 1) _ _ (by omega) bxb1 fpb1 (by omega) (by omega) (hO.skip (by omega) (by omega) (by omega))
          · refine m_aload_n (j := 2) C dX12_own_49 rfl ?_
            refine m_iload (j := 1) C dX12_own_50 rfl ?_
            refine m_iload_n (j := 4) C dX12_own_52 rfl ?_
            refine m_iload_n (j := 5) C dX12_own_53 rfl ?_
            refine m_iload (j := 6) C dX12_own_54 rfl ?_
            refine m_call (mc2 := 0) (ms2 := 0) (As := [.int (iI k), .int (iI q), .int (iI u), .int (iI x)]) (rest := []) C (E_fits (w := k) (q := q) (u := u) (x := x) bxb1 (by show 0 ≤ k ∧ k < 6000; omega) (by show 1 ≤ a 12 k.toNat ∧ a 12 k.toNat ≤ 8; omega) (by show 0 ≤ q ∧ q ≤ x ∧ x < u ∧ u ≤ 500; omega)) dX12_own_56 kV_X12_211 rfl ck_13 rfl (Nat.le_of_ble_eq_true rfl) ⟨Nat.le_of_ble_eq_true rfl, Nat.le_of_ble_eq_true rfl⟩ ⟨Nat.le_of_ble_eq_true rfl, Nat.le_of_ble_eq_true rfl⟩ (fun rh2 vh2 ah2 h2 => ?_)
            obtain ⟨f2, rfl, fn2, bn2, ex2⟩ := h2
            obtain ⟨rfl, rfl⟩ := fn2.eq
            obtain ⟨ex2, tl2⟩ := ex2
            have gf2 : f2 = 0 ∨ f2 = 1 := ex2
            refine m_st (st2 := [.int (iI f2)]) rfl ?_
            refine m_if_eq (tgt := 66) C (r32_01 gf2) dX12_own_59 (by decide) (fun c5 => ?_) (fun c5 => ?_)
            · clear gf2
              refine m_iinc (z := k) (j := 1) (lv2 := [(6, .int (iI (k + 1))), (5, .int (iI w1)), (0, .ref h0), (1, .int (iI t)), (2, .int (iI q)), (3, .int (iI u)), (4, .int (iI x))]) C dX12_own_66 rfl (by decide) rfl ?_
              refine m_goto (tgt := 10) C dX12_own_69 (by decide) ?_
              refine m_lv (lv2 := [(5, .int (iI w1)), (6, .int (iI (k + 1))), (0, .ref h0), (1, .int (iI t)), (2, .int (iI q)), (3, .int (iI u)), (4, .int (iI x))]) [1, 0, 2, 3, 4, 5, 6] rfl ?_
              exact ih1  w1 (k + 1) _ _ (by omega) bxb1 fpb1 (by omega) (by omega) (hO.miss (fun w => absurd (tl2.mpr w) (by omega)))
            · replace gf2 := (gf2.resolve_left c5)
              refine m_iload (j := 1) C dX12_own_62 rfl ?_
              refine m_istore (lv2 := [(5, .int (iI k)), (6, .int (iI k)), (0, .ref h0), (1, .int (iI t)), (2, .int (iI q)), (3, .int (iI u)), (4, .int (iI x))]) C dX12_own_64 (by decide) rfl ?_
              refine m_iinc (z := k) (j := 1) (lv2 := [(6, .int (iI (k + 1))), (5, .int (iI k)), (0, .ref h0), (1, .int (iI t)), (2, .int (iI q)), (3, .int (iI u)), (4, .int (iI x))]) C dX12_own_66 rfl (by decide) rfl ?_
              refine m_goto (tgt := 10) C dX12_own_69 (by decide) ?_
              refine m_lv (lv2 := [(5, .int (iI k)), (6, .int (iI (k + 1))), (0, .ref h0), (1, .int (iI t)), (2, .int (iI q)), (3, .int (iI u)), (4, .int (iI x))]) [1, 0, 2, 3, 4, 5, 6] rfl ?_
              exact ih1  k (k + 1) _ _ (by omega) bxb1 fpb1 (by omega) (by omega) (hO.hit (by omega) (by omega) (by omega) (tl2.mp (by omega)))
  refine m_lv (lv2 := [(5, .int (iI (-1))), (6, .int (iI (200 * t))), (0, .ref h0), (1, .int (iI t)), (2, .int (iI q)), (3, .int (iI u)), (4, .int (iI x))]) [1, 0, 2, 3, 4, 5, 6] rfl ?_
  exact Lp1 202 (-1) (200 * t) _ _ (by omega) hB fp0 (by omega) (by omega) OWI.zero
def FindE (l : Launch) (G : GT) (h0 : Nat) (ad ln : Nat → Nat) (d n : Nat) (t : Int) : Prop := ∀ (v : Nat → Int) (a : Nat → Nat → Int) (q u x : Int), BX v a → TBL v a → t < v 4 → a 6 t.toNat ≤ 4 → (0 ≤ q ∧ q ≤ x ∧ x < u ∧ u ≤ 500) → Mm l G yX12_find cX12_find 7 (some .int) d [.int (iI t), .int (iI q), .int (iI u), .int (iI x)] h0 ad ln v a 0 0 (fun r v2 a2 => ∃ f : Int, r = some (.int (iI f)) ∧ fr [] [27] v a v2 a2 ∧ BX v2 a2 ∧ ((f = -1 ∨ (0 ≤ f ∧ f < 6000 ∧ (1 ≤ a 12 f.toNat ∧ a 12 f.toNat ≤ 8) ∧ (1 ≤ a 13 f.toNat ∧ a 13 f.toNat ≤ 4) ∧ x + a 12 f.toNat ≤ u)) ∧ fnd a q u x n (a 20) t f))
set_option maxHeartbeats 4000000 in
set_option maxRecDepth 100000 in
theorem E_contracted {l : Launch} {G : GT} {h0 : Nat} {ad ln : Nat → Nat} {v : Nat → Int} {a : Nat → Nat → Int} {d n : Nat} {t q u x : Int} (hB : BX v a) (hT : TBL v a) (ht : 0 ≤ t ∧ t < v 4) (h30 : v 4 ≤ 30) (hk : 1 ≤ a 6 t.toNat ∧ a 6 t.toNat ≤ 3) (hx : 0 ≤ q ∧ q ≤ x ∧ x < u ∧ u ≤ 500) (hd : 3 ≤ d) (hf : ∀ b : Int, 0 ≤ b → b < t → FindE l G h0 ad ln d n b) : Mm l G yX12_contracted cX12_contracted 7 (some .int) (d + 1) [.int (iI t), .int (iI q), .int (iI u), .int (iI x)] h0 ad ln v a 0 0 (fun r v2 a2 => ∃ f : Int, r = some (.int (iI f)) ∧ fr [] [27] v a v2 a2 ∧ BX v2 a2 ∧ ((f = -1 ∨ (0 ≤ f ∧ f < 6000 ∧ (1 ≤ a 12 f.toNat ∧ a 12 f.toNat ≤ 8) ∧ (1 ≤ a 13 f.toNat ∧ a 13 f.toNat ≤ 4) ∧ x + a 12 f.toNat ≤ u)) ∧ CTD a q u x n (a 20) t f)) := by
  refine Mm.mk (by decide) (Nat.le_of_ble_eq_true rfl) ?_
  intro p e s m args below meth c A C
  refine hv2 (hT.1 t (by omega) (by omega)) (show fr [] [27] v a v a from fr.refl) (fun ht0 fp0 => ?_)
  refine m_aload_n (j := 0) C dX12_contracted_0 rfl ?_
  refine m_geta (k := 27) C dX12_contracted_1 w6_86 (by decide) rfl ?_
  refine m_iconst C dX12_contracted_4 ?_
  refine m_dup2 C dX12_contracted_5 rfl rfl ?_
  refine m_ald (k := 27) C dX12_contracted_6 rfl rfl (by decide) (by decide) (by decide) (by decide) ?_
  have ra1 : (-2147483648) ≤ a 27 0 ∧ a 27 0 ≤ 2147483647 := hB.2 27 (0)
  refine m_st (st2 := [.int (iI (a 27 0)), .int (iI 0), .ref (ad 27)]) rfl ?_
  refine m_iconst C dX12_contracted_7 ?_
  refine m_iadd C dX12_contracted_8 ?_
  obtain ⟨zz1, hzz1, ezz1⟩ := iI_of (iI ((a 27 0) + 1))
  refine m_st (st2 := [.int (iI zz1), .int (iI 0), .ref (ad 27)]) (by rw [ezz1]) ?_
  refine m_ast (k := 27) C dX12_contracted_9 rfl rfl (by decide) (by decide) (by decide) (by decide) ?_
  refine hv2 (show BX v (up2 a 27 (0 : Int).toNat zz1) from hB.set (k := 27) (i := (0 : Int).toNat) (z := zz1) (show (-2147483648) ≤ zz1 ∧ zz1 ≤ 2147483647 by omega)) (fp0.set (k := 27) (i := (0 : Int).toNat) (z := zz1) rfl) (fun bq1 fq1 => ?_)
  refine m_aload_n (j := 0) C dX12_contracted_10 rfl ?_
  refine m_iload_n (j := 1) C dX12_contracted_11 rfl ?_
  refine m_iload_n (j := 2) C dX12_contracted_12 rfl ?_
  refine m_iload_n (j := 3) C dX12_contracted_13 rfl ?_
  refine m_iload (j := 4) C dX12_contracted_14 rfl ?_
  have rv1 : 0 ≤ v 4 ∧ v 4 ≤ 30 := bq1.1 4
  refine m_call (mc2 := 0) (ms2 := 0) (As := [.int (iI t), .int (iI q), .int (iI u), .int (iI x)]) (rest := []) C (E_own (t := t) (q := q) (u := u) (x := x) bq1 (hT.fr fq1 rfl rfl) (by show 0 ≤ t ∧ t < (v 4); omega) (by show 0 ≤ q ∧ q ≤ x ∧ x < u ∧ u ≤ 500; omega)) dX12_contracted_16 kV_X12_221 rfl ck_13 rfl (Nat.le_of_ble_eq_true rfl) ⟨by dsimp only [rmq]; omega, by dsimp only [rmq]; omega⟩ ⟨Nat.le_of_ble_eq_true rfl, Nat.le_of_ble_eq_true rfl⟩ (fun rh1 vh1 ah1 h1 => ?_)
  obtain ⟨f1, rfl, fn1, bn1, ex1⟩ := h1
  obtain ⟨rfl, rfl⟩ := fn1.eq
  obtain ⟨ex1, tl1⟩ := ex1
  refine hv3 (show f1 = -1 ∨ (0 ≤ f1 ∧ f1 < 6000 ∧ (1 ≤ a 12 f1.toNat ∧ a 12 f1.toNat ≤ 8) ∧ (1 ≤ a 13 f1.toNat ∧ a 13 f1.toNat ≤ 4) ∧ x + a 12 f1.toNat ≤ u) from ex1) (show 0 ≤ a 12 f1.toNat ∧ a 12 f1.toNat ≤ 8 from bq1.2 12 (f1.toNat)) (show 0 ≤ a 13 f1.toNat ∧ a 13 f1.toNat ≤ 4 from bq1.2 13 (f1.toNat)) (fun gf1 ra2 ra3 => ?_)
  refine m_st (st2 := [.int (iI f1)]) rfl ?_
  refine m_istore (lv2 := [(5, .int (iI f1)), (0, .ref h0), (1, .int (iI t)), (2, .int (iI q)), (3, .int (iI u)), (4, .int (iI x))]) C dX12_contracted_19 (by decide) rfl ?_
  refine m_aload_n (j := 1) C dX12_contracted_21 rfl ?_
  refine m_aload_n (j := 1) C dX12_contracted_22 rfl ?_
  refine m_geta (k := 8) C dX12_contracted_23 w6_67 (by decide) rfl ?_
  refine m_iload_n (j := 2) C dX12_contracted_26 rfl ?_
  refine m_ald (k := 8) C dX12_contracted_27 rfl rfl (by decide) (by omega) (by show _ < ((_ : Nat) : Int); simp only [mlen]; omega) (by decide) ?_
  have ra4 : (-1) ≤ a 8 t.toNat ∧ a 8 t.toNat ≤ 29 := bq1.2 8 (t.toNat)
  refine m_st (st2 := [.int (iI (a 8 t.toNat)), .ref h0]) (congrArg (fun z => Value.int (iI z) :: [.ref h0]) (congrFun (fq1.2 8 rfl) (t.toNat))) ?_
  refine m_iload_n (j := 3) C dX12_contracted_28 rfl ?_
  refine m_iload_n (j := 4) C dX12_contracted_29 rfl ?_
  refine m_iload (j := 5) C dX12_contracted_30 rfl ?_
  refine m_call (mc2 := 0) (ms2 := 0) (As := [.int (iI (a 8 t.toNat)), .int (iI q), .int (iI u), .int (iI x)]) (rest := []) C (hf (a 8 t.toNat) (by omega) (by omega) _ _ q u x bq1 (hT.fr fq1 rfl rfl) (by show a 8 t.toNat < v 4; omega) (by show a 6 (a 8 t.toNat).toNat ≤ 4; omega) (by omega)) dX12_contracted_32 kV_X12_218 rfl ck_13 rfl (Nat.le_of_ble_eq_true rfl) ⟨by dsimp only [rmq]; omega, by dsimp only [rmq]; omega⟩ ⟨Nat.le_of_ble_eq_true rfl, Nat.le_of_ble_eq_true rfl⟩ (fun rh2 vh2 ah2 h2 => ?_)
  obtain ⟨f2, rfl, fn2, bn2, ex2, tl2⟩ := h2
  refine hv2 (fq1.call fn2 rfl rfl) (show f2 = -1 ∨ (0 ≤ f2 ∧ f2 < 6000 ∧ (1 ≤ a 12 f2.toNat ∧ a 12 f2.toNat ≤ 8) ∧ (1 ≤ a 13 f2.toNat ∧ a 13 f2.toNat ≤ 4) ∧ x + a 12 f2.toNat ≤ u) from ex2) (fun fq3 ef2 => ?_)
  refine m_st (st2 := [.int (iI f2)]) rfl ?_
  refine m_istore (lv2 := [(6, .int (iI f2)), (5, .int (iI f1)), (0, .ref h0), (1, .int (iI t)), (2, .int (iI q)), (3, .int (iI u)), (4, .int (iI x))]) C dX12_contracted_35 (by decide) rfl ?_
  refine m_iload (j := 1) C dX12_contracted_37 rfl ?_
  refine m_if_lt (tgt := 64) C ⟨by omega, by omega⟩ dX12_contracted_39 (by decide) (fun c1 => ?_) (fun c1 => ?_)
  · replace gf1 := gf1.resolve_right (fun q => by omega)
    refine m_iload (j := 0) C dX12_contracted_64 rfl ?_
    refine m_goto (tgt := 71) C dX12_contracted_66 (by decide) ?_
    exact m_iret C dX12_contracted_71 rfl (Nat.le_of_ble_eq_true rfl) (Nat.le_of_ble_eq_true rfl) ⟨f2, rfl, fq3, bn2, ⟨by omega, CTD.mk fq1 fq1 tl1 tl2 (by unfold cmb; rw [if_pos (by omega)])⟩⟩
  · replace gf1 := gf1.resolve_left (fun q => by omega)
    refine m_iload (j := 0) C dX12_contracted_42 rfl ?_
    refine m_if_lt (tgt := 69) C ⟨by omega, by omega⟩ dX12_contracted_44 (by decide) (fun c2 => ?_) (fun c2 => ?_)
    · refine m_iload (j := 1) C dX12_contracted_69 rfl ?_
      exact m_iret C dX12_contracted_71 rfl (Nat.le_of_ble_eq_true rfl) (Nat.le_of_ble_eq_true rfl) ⟨f1, rfl, fq3, bn2, ⟨by omega, CTD.mk fq1 fq1 tl1 tl2 (by unfold cmb; rw [if_neg (by omega)])⟩⟩
    · refine m_aload_n (j := 2) C dX12_contracted_47 rfl ?_
      refine m_geta (k := 12) C dX12_contracted_48 w6_71 (by decide) rfl ?_
      refine m_iload (j := 0) C dX12_contracted_51 rfl ?_
      refine m_ald (k := 12) C dX12_contracted_53 rfl rfl (by decide) (by omega) (by show _ < ((_ : Nat) : Int); simp only [mlen]; omega) (by decide) ?_
      refine hv2 (show 0 ≤ ah2 12 f2.toNat ∧ ah2 12 f2.toNat ≤ 8 from bn2.2 12 (f2.toNat)) (show ah2 12 (f2.toNat) = a 12 (f2.toNat) from congrFun (fn2.2 12 rfl) (f2.toNat)) (fun ra5 ae1 => ?_)
      refine m_st (st2 := [.int (iI (a 12 f2.toNat))]) (congrArg (fun z => Value.int (iI z) :: []) (congrFun (fq3.2 12 rfl) (f2.toNat))) ?_
      refine m_aload_n (j := 2) C dX12_contracted_54 rfl ?_
      refine m_geta (k := 12) C dX12_contracted_55 w6_71 (by decide) rfl ?_
      refine m_iload (j := 1) C dX12_contracted_58 rfl ?_
      refine m_ald (k := 12) C dX12_contracted_60 rfl rfl (by decide) (by omega) (by show _ < ((_ : Nat) : Int); simp only [mlen]; omega) (by decide) ?_
      refine hv2 (show 0 ≤ ah2 12 f1.toNat ∧ ah2 12 f1.toNat ≤ 8 from bn2.2 12 (f1.toNat)) (show ah2 12 (f1.toNat) = a 12 (f1.toNat) from congrFun (fn2.2 12 rfl) (f1.toNat)) (fun ra6 ae2 => ?_)
      refine m_st (st2 := [.int (iI (a 12 f1.toNat)), .int (iI (a 12 f2.toNat))]) (congrArg (fun z => Value.int (iI z) :: [.int (iI (a 12 f2.toNat))]) (congrFun (fq3.2 12 rfl) (f1.toNat))) ?_
      refine m_icmp_le (tgt := 69) C ⟨by omega, by omega⟩ (r32_c (lo := 0) (hi := 8) ra2.1 ra2.2 (by decide) (by decide)) dX12_contracted_61 (by decide) (fun c3 => ?_) (fun c3 => ?_)
      · refine m_iload (j := 1) C dX12_contracted_69 rfl ?_
        exact m_iret C dX12_contracted_71 rfl (Nat.le_of_ble_eq_true rfl) (Nat.le_of_ble_eq_true rfl) ⟨f1, rfl, fq3, bn2, ⟨by omega, CTD.mk fq1 fq1 tl1 tl2 (by unfold cmb; rw [if_neg (by omega)])⟩⟩
      · refine m_iload (j := 0) C dX12_contracted_64 rfl ?_
        refine m_goto (tgt := 71) C dX12_contracted_66 (by decide) ?_
        exact m_iret C dX12_contracted_71 rfl (Nat.le_of_ble_eq_true rfl) (Nat.le_of_ble_eq_true rfl) ⟨f2, rfl, fq3, bn2, ⟨by omega, CTD.mk fq1 fq1 tl1 tl2 (by unfold cmb; rw [if_pos (by omega)])⟩⟩
theorem CTD.fx {V1 : List Nat} {v v1 : Nat → Int} {a a1 : Nat → Nat → Int} {q u x t f : Int} {n : Nat} (f1 : fr V1 [27] v a v1 a1) (h : CTD a1 q u x n (a1 20) t f) : CTD a q u x n (a 20) t f := by
  have w1 : a1 20 = a 20 := f1.2 20 rfl
  rw [w1] at h
  exact CTD.cg f1 rfl h
theorem sml_w {a1 : Nat → Nat → Int} {W : Nat → Int} {x z : Int} (h : a1 20 = W) (hz : z = sml (W x.toNat)) : up2 a1 20 x.toNat z 20 = va_up W x.toNat (sml (W x.toNat)) := by
  rw [← hz, ← h]
  funext j
  unfold up2 va_up
  rw [if_pos rfl]
set_option maxHeartbeats 4000000 in
set_option maxRecDepth 100000 in
theorem E_find1 {l : Launch} {G : GT} {h0 : Nat} {ad ln : Nat → Nat} {v : Nat → Int} {a : Nat → Nat → Int} {d n : Nat} {t q u x : Int} (hB : BX v a) (hT : TBL v a) (ht : 0 ≤ t ∧ t < v 4) (h4 : a 6 t.toNat ≤ 4) (hx : 0 ≤ q ∧ q ≤ x ∧ x < u ∧ u ≤ 500) (hd : 3 ≤ d) (hf : ∀ b : Int, 0 ≤ b → b < t → FindE l G h0 ad ln d n b) : Mm l G yX12_find cX12_find 7 (some .int) (d + 2) [.int (iI t), .int (iI q), .int (iI u), .int (iI x)] h0 ad ln v a 0 0 (fun r v2 a2 => ∃ f : Int, r = some (.int (iI f)) ∧ fr [] [27] v a v2 a2 ∧ BX v2 a2 ∧ ((f = -1 ∨ (0 ≤ f ∧ f < 6000 ∧ (1 ≤ a 12 f.toNat ∧ a 12 f.toNat ≤ 8) ∧ (1 ≤ a 13 f.toNat ∧ a 13 f.toNat ≤ 4) ∧ x + a 12 f.toNat ≤ u)) ∧ fnd a q u x (n + 1) (a 20) t f)) := by
  refine Mm.mk (by decide) (Nat.le_of_ble_eq_true rfl) ?_
  intro p e s m args below meth c A C
  refine hv2 (show 0 ≤ v 4 ∧ v 4 ≤ 30 from hB.1 4) (show fr [] [27] v a v a from fr.refl) (fun h30 fp0 => ?_)
  have ht0 := hT.1 t (by omega) (by omega)
  refine m_aload_n (j := 0) C dX12_find_0 rfl ?_
  refine m_geta (k := 27) C dX12_find_1 w6_86 (by decide) rfl ?_
  refine m_aload_n (j := 0) C dX12_find_4 rfl ?_
  refine m_geta (k := 6) C dX12_find_5 w6_65 (by decide) rfl ?_
  refine m_iload_n (j := 1) C dX12_find_8 rfl ?_
  refine m_ald (k := 6) C dX12_find_9 rfl rfl (by decide) (by omega) (by show _ < ((_ : Nat) : Int); simp only [mlen]; omega) (by decide) ?_
  have ra1 : 0 ≤ a 6 t.toNat ∧ a 6 t.toNat ≤ 5 := hB.2 6 (t.toNat)
  refine m_dup2 C dX12_find_10 rfl rfl ?_
  refine m_ald (k := 27) C dX12_find_11 rfl rfl (by decide) (by omega) (by show _ < ((_ : Nat) : Int); simp only [mlen]; omega) (by decide) ?_
  have ra2 : (-2147483648) ≤ a 27 (a 6 t.toNat).toNat ∧ a 27 (a 6 t.toNat).toNat ≤ 2147483647 := hB.2 27 ((a 6 t.toNat).toNat)
  refine m_iconst C dX12_find_12 ?_
  refine m_iadd C dX12_find_13 ?_
  obtain ⟨zz1, hzz1, ezz1⟩ := iI_of (iI ((a 27 (a 6 t.toNat).toNat) + 1))
  refine m_st (st2 := [.int (iI zz1), .int (iI (a 6 t.toNat)), .ref (ad 27)]) (by rw [ezz1]) ?_
  refine m_ast (k := 27) C dX12_find_14 rfl rfl (by decide) (by omega) (by show _ < ((_ : Nat) : Int); simp only [mlen]; omega) (by decide) ?_
  refine hv2 (show BX v (up2 a 27 (a 6 t.toNat).toNat zz1) from hB.set (k := 27) (i := (a 6 t.toNat).toNat) (z := zz1) (show (-2147483648) ≤ zz1 ∧ zz1 ≤ 2147483647 by omega)) (fp0.set (k := 27) (i := (a 6 t.toNat).toNat) (z := zz1) rfl) (fun bq1 fq1 => ?_)
  refine m_aload_n (j := 0) C dX12_find_15 rfl ?_
  refine m_geta (k := 6) C dX12_find_16 w6_65 (by decide) rfl ?_
  refine m_iload_n (j := 1) C dX12_find_19 rfl ?_
  refine m_ald (k := 6) C dX12_find_20 rfl rfl (by decide) (by omega) (by show _ < ((_ : Nat) : Int); simp only [mlen]; omega) (by decide) ?_
  refine m_st (st2 := [.int (iI (a 6 t.toNat))]) (congrArg (fun z => Value.int (iI z) :: []) (congrFun (fq1.2 6 rfl) (t.toNat))) ?_
  rcases (show (a 6 t.toNat) = 1 ∨ (a 6 t.toNat) = 2 ∨ (a 6 t.toNat) = 3 ∨ ((a 6 t.toNat) < 1 ∨ 3 < (a 6 t.toNat)) by omega) with sw1 | sw1 | sw1 | sw1
  · refine m_tabIn (tgt := 48) (off := 27) C (r32_c (lo := 0) (hi := 5) ra1.1 ra1.2 (by decide) (by decide)) dX12_find_21 (by omega) (by omega) (by rw [sw1]; rfl) (by decide) ?_
    refine m_aload_n (j := 0) C dX12_find_48 rfl ?_
    refine m_iload_n (j := 1) C dX12_find_49 rfl ?_
    refine m_iload_n (j := 2) C dX12_find_50 rfl ?_
    refine m_iload_n (j := 3) C dX12_find_51 rfl ?_
    refine m_iload (j := 4) C dX12_find_52 rfl ?_
    refine m_call (mc2 := 0) (ms2 := 0) (As := [.int (iI t), .int (iI q), .int (iI u), .int (iI x)]) (rest := []) C (E_contracted (t := t) (q := q) (u := u) (x := x) bq1 (hT.fr fq1 rfl rfl) (by show 0 ≤ t ∧ t < v 4; omega) (by show v 4 ≤ 30; omega) (by show 1 ≤ a 6 t.toNat ∧ a 6 t.toNat ≤ 3; omega) hx hd hf) dX12_find_54 kV_X12_215 rfl ck_13 rfl (Nat.le_of_ble_eq_true rfl) ⟨by dsimp only [rmq]; omega, by dsimp only [rmq]; omega⟩ ⟨Nat.le_of_ble_eq_true rfl, Nat.le_of_ble_eq_true rfl⟩ (fun rh1 vh1 ah1 h1 => ?_)
    obtain ⟨f1, rfl, fn1, bn1, ex1, tl1⟩ := h1
    refine hv2 (fq1.call fn1 rfl rfl) (show f1 = -1 ∨ (0 ≤ f1 ∧ f1 < 6000 ∧ (1 ≤ a 12 f1.toNat ∧ a 12 f1.toNat ≤ 8) ∧ (1 ≤ a 13 f1.toNat ∧ a 13 f1.toNat ≤ 4) ∧ x + a 12 f1.toNat ≤ u) from ex1) (fun fq2 ef1 => ?_)
    refine m_st (st2 := [.int (iI f1)]) rfl ?_
    exact m_iret C dX12_find_57 rfl (Nat.le_of_ble_eq_true rfl) (Nat.le_of_ble_eq_true rfl) ⟨f1, rfl, fq2, bn1, ⟨by omega, fnd.k1 (by omega) (CTD.fx fq1 tl1)⟩⟩
  · refine m_tabIn (tgt := 58) (off := 37) C (r32_c (lo := 0) (hi := 5) ra1.1 ra1.2 (by decide) (by decide)) dX12_find_21 (by omega) (by omega) (by rw [sw1]; rfl) (by decide) ?_
    refine m_aload_n (j := 0) C dX12_find_58 rfl ?_
    refine m_geta (k := 20) C dX12_find_59 w6_79 (by decide) rfl ?_
    refine m_iload (j := 4) C dX12_find_62 rfl ?_
    refine m_ald (k := 20) C dX12_find_64 rfl rfl (by decide) (by omega) (by show _ < ((_ : Nat) : Int); simp only [mlen]; omega) (by decide) ?_
    have ra3 : (-2147483648) ≤ a 20 x.toNat ∧ a 20 x.toNat ≤ 2147483647 := bq1.2 20 (x.toNat)
    refine m_st (st2 := [.int (iI (a 20 x.toNat))]) (congrArg (fun z => Value.int (iI z) :: []) (congrFun (fq1.2 20 rfl) (x.toNat))) ?_
    refine m_callS (As := [.int (iI (a 20 x.toNat))]) (rest := []) C (fun L E => s_isDigit (iI (a 20 x.toNat))) dX12_find_65 kS_X12_202 rfl rfl (Nat.le_of_ble_eq_true rfl) ⟨by dsimp only [rmq]; omega, by dsimp only [rmq]; omega⟩ ⟨Nat.le_of_ble_eq_true rfl, Nat.le_of_ble_eq_true rfl⟩ ?_
    rcases inn_c (x := a 20 x.toNat) (lo := 48) (hi := 57) (r32_c (lo := (-2147483648)) (hi := 2147483647) ra3.1 ra3.2 (by decide) (by decide)) ⟨by decide, by decide⟩ ⟨by decide, by decide⟩ with ⟨h2a, h2b, h2e⟩ | ⟨h2a, h2e⟩
    · refine m_st (st2 := [.int (iI 1)]) (by rw [show inn (iI (a 20 x.toNat)) 48 57 = iI 1 from h2e]) ?_
      refine m_if_ne (tgt := 86) C ⟨by decide, by decide⟩ dX12_find_68 (by decide) (fun _ => ?_) (fun z => absurd z (by omega))
      refine m_aload_n (j := 0) C dX12_find_86 rfl ?_
      refine m_geta (k := 27) C dX12_find_87 w6_86 (by decide) rfl ?_
      refine m_iconst C dX12_find_90 ?_
      refine m_dup2 C dX12_find_91 rfl rfl ?_
      refine m_ald (k := 27) C dX12_find_92 rfl rfl (by decide) (by decide) (by decide) (by decide) ?_
      have ra4 : (-2147483648) ≤ (up2 a 27 (a 6 t.toNat).toNat zz1) 27 0 ∧ (up2 a 27 (a 6 t.toNat).toNat zz1) 27 0 ≤ 2147483647 := bq1.2 27 (0)
      refine m_st (st2 := [.int (iI ((up2 a 27 (a 6 t.toNat).toNat zz1) 27 0)), .int (iI 0), .ref (ad 27)]) rfl ?_
      refine m_iconst C dX12_find_93 ?_
      refine m_iadd C dX12_find_94 ?_
      obtain ⟨zz2, hzz2, ezz2⟩ := iI_of (iI (((up2 a 27 (a 6 t.toNat).toNat zz1) 27 0) + 1))
      refine m_st (st2 := [.int (iI zz2), .int (iI 0), .ref (ad 27)]) (by rw [ezz2]) ?_
      refine m_ast (k := 27) C dX12_find_95 rfl rfl (by decide) (by decide) (by decide) (by decide) ?_
      refine hv2 (show BX v (up2 (up2 a 27 (a 6 t.toNat).toNat zz1) 27 (0 : Int).toNat zz2) from bq1.set (k := 27) (i := (0 : Int).toNat) (z := zz2) (show (-2147483648) ≤ zz2 ∧ zz2 ≤ 2147483647 by omega)) (fq1.set (k := 27) (i := (0 : Int).toNat) (z := zz2) rfl) (fun bq2 fq3 => ?_)
      refine m_aload_n (j := 0) C dX12_find_96 rfl ?_
      refine m_iload_n (j := 1) C dX12_find_97 rfl ?_
      refine m_iload_n (j := 2) C dX12_find_98 rfl ?_
      refine m_iload_n (j := 3) C dX12_find_99 rfl ?_
      refine m_iload (j := 4) C dX12_find_100 rfl ?_
      have rv1 : 0 ≤ v 4 ∧ v 4 ≤ 30 := bq2.1 4
      refine m_call (mc2 := 0) (ms2 := 0) (As := [.int (iI t), .int (iI q), .int (iI u), .int (iI x)]) (rest := []) C (E_own (t := t) (q := q) (u := u) (x := x) bq2 (hT.fr fq3 rfl rfl) (by show 0 ≤ t ∧ t < (v 4); omega) (by show 0 ≤ q ∧ q ≤ x ∧ x < u ∧ u ≤ 500; omega)) dX12_find_102 kV_X12_221 rfl ck_13 rfl (Nat.le_of_ble_eq_true rfl) ⟨by dsimp only [rmq]; omega, by dsimp only [rmq]; omega⟩ ⟨Nat.le_of_ble_eq_true rfl, Nat.le_of_ble_eq_true rfl⟩ (fun rh3 vh3 ah3 h3 => ?_)
      obtain ⟨f2, rfl, fn2, bn2, ex2⟩ := h3
      obtain ⟨rfl, rfl⟩ := fn2.eq
      obtain ⟨ex2, tl2⟩ := ex2
      refine hv3 (show f2 = -1 ∨ (0 ≤ f2 ∧ f2 < 6000 ∧ (1 ≤ a 12 f2.toNat ∧ a 12 f2.toNat ≤ 8) ∧ (1 ≤ a 13 f2.toNat ∧ a 13 f2.toNat ≤ 4) ∧ x + a 12 f2.toNat ≤ u) from ex2) (show 0 ≤ a 12 f2.toNat ∧ a 12 f2.toNat ≤ 8 from bq2.2 12 (f2.toNat)) (show 0 ≤ a 13 f2.toNat ∧ a 13 f2.toNat ≤ 4 from bq2.2 13 (f2.toNat)) (fun gf2 ra5 ra6 => ?_)
      refine m_st (st2 := [.int (iI f2)]) rfl ?_
      exact m_iret C dX12_find_105 rfl (Nat.le_of_ble_eq_true rfl) (Nat.le_of_ble_eq_true rfl) ⟨f2, rfl, fq3, bq2, ⟨by omega, fnd.k2 (by omega) (by unfold isD; omega) (OWR.fx fq3 tl2)⟩⟩
    · refine m_st (st2 := [.int (iI 0)]) (by rw [show inn (iI (a 20 x.toNat)) 48 57 = iI 0 from h2e]) ?_
      refine m_if_ne (tgt := 86) C ⟨by decide, by decide⟩ dX12_find_68 (by decide) (fun z => absurd z (by omega)) (fun _ => ?_)
      refine m_aload_n (j := 0) C dX12_find_71 rfl ?_
      refine m_aload_n (j := 0) C dX12_find_72 rfl ?_
      refine m_geta (k := 8) C dX12_find_73 w6_67 (by decide) rfl ?_
      refine m_iload_n (j := 1) C dX12_find_76 rfl ?_
      refine m_ald (k := 8) C dX12_find_77 rfl rfl (by decide) (by omega) (by show _ < ((_ : Nat) : Int); simp only [mlen]; omega) (by decide) ?_
      have ra7 : (-1) ≤ a 8 t.toNat ∧ a 8 t.toNat ≤ 29 := bq1.2 8 (t.toNat)
      refine m_st (st2 := [.int (iI (a 8 t.toNat)), .ref h0]) (congrArg (fun z => Value.int (iI z) :: [.ref h0]) (congrFun (fq1.2 8 rfl) (t.toNat))) ?_
      refine m_iload_n (j := 2) C dX12_find_78 rfl ?_
      refine m_iload_n (j := 3) C dX12_find_79 rfl ?_
      refine m_iload (j := 4) C dX12_find_80 rfl ?_
      refine m_call (mc2 := 0) (ms2 := 0) (As := [.int (iI (a 8 t.toNat)), .int (iI q), .int (iI u), .int (iI x)]) (rest := []) C (hf (a 8 t.toNat) (by omega) (by omega) _ _ q u x bq1 (hT.fr fq1 rfl rfl) (by show a 8 t.toNat < v 4; omega) (by show a 6 (a 8 t.toNat).toNat ≤ 4; omega) (by omega)) dX12_find_82 kV_X12_218 rfl ck_13 rfl (Nat.le_of_ble_eq_true rfl) ⟨by dsimp only [rmq]; omega, by dsimp only [rmq]; omega⟩ ⟨Nat.le_of_ble_eq_true rfl, Nat.le_of_ble_eq_true rfl⟩ (fun rh4 vh4 ah4 h4 => ?_)
      obtain ⟨f3, rfl, fn3, bn3, ex3, tl3⟩ := h4
      refine hv2 (fq1.call fn3 rfl rfl) (show f3 = -1 ∨ (0 ≤ f3 ∧ f3 < 6000 ∧ (1 ≤ a 12 f3.toNat ∧ a 12 f3.toNat ≤ 8) ∧ (1 ≤ a 13 f3.toNat ∧ a 13 f3.toNat ≤ 4) ∧ x + a 12 f3.toNat ≤ u) from ex3) (fun fq5 ef3 => ?_)
      refine m_st (st2 := [.int (iI f3)]) rfl ?_
      exact m_iret C dX12_find_85 rfl (Nat.le_of_ble_eq_true rfl) (Nat.le_of_ble_eq_true rfl) ⟨f3, rfl, fq5, bn3, ⟨by omega, fnd.k2n (by omega) (by unfold isD; omega) (fnd.fx fq1 tl3)⟩⟩
  · refine m_tabIn (tgt := 106) (off := 85) C (r32_c (lo := 0) (hi := 5) ra1.1 ra1.2 (by decide) (by decide)) dX12_find_21 (by omega) (by omega) (by rw [sw1]; rfl) (by decide) ?_
    refine m_aload_n (j := 0) C dX12_find_106 rfl ?_
    refine m_geta (k := 27) C dX12_find_107 w6_86 (by decide) rfl ?_
    refine m_iconst C dX12_find_110 ?_
    refine m_dup2 C dX12_find_111 rfl rfl ?_
    refine m_ald (k := 27) C dX12_find_112 rfl rfl (by decide) (by decide) (by decide) (by decide) ?_
    have ra8 : (-2147483648) ≤ (up2 a 27 (a 6 t.toNat).toNat zz1) 27 1 ∧ (up2 a 27 (a 6 t.toNat).toNat zz1) 27 1 ≤ 2147483647 := bq1.2 27 (1)
    refine m_st (st2 := [.int (iI ((up2 a 27 (a 6 t.toNat).toNat zz1) 27 1)), .int (iI 1), .ref (ad 27)]) rfl ?_
    refine m_iconst C dX12_find_113 ?_
    refine m_iadd C dX12_find_114 ?_
    obtain ⟨zz3, hzz3, ezz3⟩ := iI_of (iI (((up2 a 27 (a 6 t.toNat).toNat zz1) 27 1) + 1))
    refine m_st (st2 := [.int (iI zz3), .int (iI 1), .ref (ad 27)]) (by rw [ezz3]) ?_
    refine m_ast (k := 27) C dX12_find_115 rfl rfl (by decide) (by decide) (by decide) (by decide) ?_
    refine hv2 (show BX v (up2 (up2 a 27 (a 6 t.toNat).toNat zz1) 27 (1 : Int).toNat zz3) from bq1.set (k := 27) (i := (1 : Int).toNat) (z := zz3) (show (-2147483648) ≤ zz3 ∧ zz3 ≤ 2147483647 by omega)) (fq1.set (k := 27) (i := (1 : Int).toNat) (z := zz3) rfl) (fun bq3 fq6 => ?_)
    refine m_aload_n (j := 0) C dX12_find_116 rfl ?_
    refine m_geta (k := 20) C dX12_find_117 w6_79 (by decide) rfl ?_
    refine m_iload (j := 4) C dX12_find_120 rfl ?_
    refine m_ald (k := 20) C dX12_find_122 rfl rfl (by decide) (by omega) (by show _ < ((_ : Nat) : Int); simp only [mlen]; omega) (by decide) ?_
    have ra9 : (-2147483648) ≤ a 20 x.toNat ∧ a 20 x.toNat ≤ 2147483647 := bq3.2 20 (x.toNat)
    refine m_st (st2 := [.int (iI (a 20 x.toNat))]) (congrArg (fun z => Value.int (iI z) :: []) (congrFun (fq6.2 20 rfl) (x.toNat))) ?_
    refine m_istore (lv2 := [(5, .int (iI (a 20 x.toNat))), (0, .ref h0), (1, .int (iI t)), (2, .int (iI q)), (3, .int (iI u)), (4, .int (iI x))]) C dX12_find_123 (by decide) rfl ?_
    refine m_aload_n (j := 1) C dX12_find_125 rfl ?_
    refine m_geta (k := 20) C dX12_find_126 w6_79 (by decide) rfl ?_
    refine m_iload (j := 5) C dX12_find_129 rfl ?_
    refine m_iload (j := 0) C dX12_find_131 rfl ?_
    refine m_callS (As := [.int (iI (a 20 x.toNat))]) (rest := [.int (iI x), .ref (ad 20)]) C (fun L E => s_isGreat (iI (a 20 x.toNat))) dX12_find_133 kS_X12_205 rfl rfl (Nat.le_of_ble_eq_true rfl) ⟨by dsimp only [rmq]; omega, by dsimp only [rmq]; omega⟩ ⟨Nat.le_of_ble_eq_true rfl, Nat.le_of_ble_eq_true rfl⟩ ?_
    rcases inn_c (x := a 20 x.toNat) (lo := 65) (hi := 90) (r32_c (lo := (-2147483648)) (hi := 2147483647) ra9.1 ra9.2 (by decide) (by decide)) ⟨by decide, by decide⟩ ⟨by decide, by decide⟩ with ⟨h5a, h5b, h5e⟩ | ⟨h5a, h5e⟩
    · refine m_st (st2 := [.int (iI 1), .int (iI x), .ref (ad 20)]) (by rw [show inn (iI (a 20 x.toNat)) 65 90 = iI 1 from h5e]) ?_
      refine m_if_eq (tgt := 147) C ⟨by decide, by decide⟩ dX12_find_136 (by decide) (fun z => absurd z (by omega)) (fun _ => ?_)
      refine m_iload (j := 0) C dX12_find_139 rfl ?_
      refine m_bipush (z := 32) C dX12_find_141 (by decide) ?_
      refine m_iadd C dX12_find_143 ?_
      refine m_goto (tgt := 149) C dX12_find_144 (by decide) ?_
      refine m_ast (k := 20) C dX12_find_149 rfl rfl (by decide) (by omega) (by show _ < ((_ : Nat) : Int); simp only [mlen]; omega) (by decide) ?_
      refine hv2 (show BX v (up2 (up2 (up2 a 27 (a 6 t.toNat).toNat zz1) 27 (1 : Int).toNat zz3) 20 x.toNat ((a 20 x.toNat) + 32)) from bq3.set (k := 20) (i := x.toNat) (z := (a 20 x.toNat) + 32) (show (-2147483648) ≤ ((a 20 x.toNat) + 32) ∧ ((a 20 x.toNat) + 32) ≤ 2147483647 by omega)) (show fr [] [20, 27] v a v (up2 (up2 (up2 a 27 (a 6 t.toNat).toNat zz1) 27 (1 : Int).toNat zz3) 20 x.toNat ((a 20 x.toNat) + 32)) from ((fr.refl (V := []) (A := [20, 27])).call fq6 rfl rfl).set (k := 20) (i := x.toNat) (z := (a 20 x.toNat) + 32) rfl) (fun bq4 fw1 => ?_)
      refine m_aload_n (j := 1) C dX12_find_150 rfl ?_
      refine m_iload_n (j := 2) C dX12_find_151 rfl ?_
      refine m_iload_n (j := 3) C dX12_find_152 rfl ?_
      refine m_iload_n (j := 4) C dX12_find_153 rfl ?_
      refine m_iload (j := 5) C dX12_find_154 rfl ?_
      refine m_call (mc2 := 0) (ms2 := 0) (As := [.int (iI t), .int (iI q), .int (iI u), .int (iI x)]) (rest := []) C (E_contracted (t := t) (q := q) (u := u) (x := x) bq4 (hT.fr fw1 rfl rfl) (by show 0 ≤ t ∧ t < v 4; omega) (by show v 4 ≤ 30; omega) (by show 1 ≤ a 6 t.toNat ∧ a 6 t.toNat ≤ 3; omega) hx hd hf) dX12_find_156 kV_X12_215 rfl ck_13 rfl (Nat.le_of_ble_eq_true rfl) ⟨by dsimp only [rmq]; omega, by dsimp only [rmq]; omega⟩ ⟨Nat.le_of_ble_eq_true rfl, Nat.le_of_ble_eq_true rfl⟩ (fun rh6 vh6 ah6 h6 => ?_)
      obtain ⟨f4, rfl, fn4, bn4, ex4, tl4⟩ := h6
      have ef4 : f4 = -1 ∨ (0 ≤ f4 ∧ f4 < 6000 ∧ (1 ≤ a 12 f4.toNat ∧ a 12 f4.toNat ≤ 8) ∧ (1 ≤ a 13 f4.toNat ∧ a 13 f4.toNat ≤ 4) ∧ x + a 12 f4.toNat ≤ u) := ex4
      refine m_st (st2 := [.int (iI f4)]) rfl ?_
      refine m_istore (lv2 := [(6, .int (iI f4)), (5, .int (iI (a 20 x.toNat))), (0, .ref h0), (1, .int (iI t)), (2, .int (iI q)), (3, .int (iI u)), (4, .int (iI x))]) C dX12_find_159 (by decide) rfl ?_
      refine m_aload_n (j := 2) C dX12_find_161 rfl ?_
      refine m_geta (k := 20) C dX12_find_162 w6_79 (by decide) rfl ?_
      refine m_iload (j := 6) C dX12_find_165 rfl ?_
      refine m_iload (j := 1) C dX12_find_167 rfl ?_
      refine m_ast (k := 20) C dX12_find_169 rfl rfl (by decide) (by omega) (by show _ < ((_ : Nat) : Int); simp only [mlen]; omega) (by decide) ?_
      refine hv2 (show BX vh6 (up2 ah6 20 x.toNat (a 20 x.toNat)) from bn4.set (k := 20) (i := x.toNat) (z := a 20 x.toNat) (show (-2147483648) ≤ (a 20 x.toNat) ∧ (a 20 x.toNat) ≤ 2147483647 by omega)) (fq6.back fn4 rfl rfl (k := 20) (i := x.toNat) (y := a 20 x.toNat) rfl) (fun bq5 fq9 => ?_)
      refine m_iload (j := 0) C dX12_find_170 rfl ?_
      exact m_iret C dX12_find_172 rfl (Nat.le_of_ble_eq_true rfl) (Nat.le_of_ble_eq_true rfl) ⟨f4, rfl, fq9, bq5, ⟨by omega, fnd.k3 (by omega) (sml_w (fq6.2 20 rfl) (by unfold sml; rw [if_pos (by omega)])) (CTD.cg fw1 rfl tl4)⟩⟩
    · refine m_st (st2 := [.int (iI 0), .int (iI x), .ref (ad 20)]) (by rw [show inn (iI (a 20 x.toNat)) 65 90 = iI 0 from h5e]) ?_
      refine m_if_eq (tgt := 147) C ⟨by decide, by decide⟩ dX12_find_136 (by decide) (fun _ => ?_) (fun z => absurd z (by omega))
      refine m_iload (j := 0) C dX12_find_147 rfl ?_
      refine m_ast (k := 20) C dX12_find_149 rfl rfl (by decide) (by omega) (by show _ < ((_ : Nat) : Int); simp only [mlen]; omega) (by decide) ?_
      refine hv2 (show BX v (up2 (up2 (up2 a 27 (a 6 t.toNat).toNat zz1) 27 (1 : Int).toNat zz3) 20 x.toNat (a 20 x.toNat)) from bq3.set (k := 20) (i := x.toNat) (z := a 20 x.toNat) (show (-2147483648) ≤ (a 20 x.toNat) ∧ (a 20 x.toNat) ≤ 2147483647 by omega)) (show fr [] [20, 27] v a v (up2 (up2 (up2 a 27 (a 6 t.toNat).toNat zz1) 27 (1 : Int).toNat zz3) 20 x.toNat (a 20 x.toNat)) from ((fr.refl (V := []) (A := [20, 27])).call fq6 rfl rfl).set (k := 20) (i := x.toNat) (z := a 20 x.toNat) rfl) (fun bq6 fw2 => ?_)
      refine m_aload_n (j := 1) C dX12_find_150 rfl ?_
      refine m_iload_n (j := 2) C dX12_find_151 rfl ?_
      refine m_iload_n (j := 3) C dX12_find_152 rfl ?_
      refine m_iload_n (j := 4) C dX12_find_153 rfl ?_
      refine m_iload (j := 5) C dX12_find_154 rfl ?_
      refine m_call (mc2 := 0) (ms2 := 0) (As := [.int (iI t), .int (iI q), .int (iI u), .int (iI x)]) (rest := []) C (E_contracted (t := t) (q := q) (u := u) (x := x) bq6 (hT.fr fw2 rfl rfl) (by show 0 ≤ t ∧ t < v 4; omega) (by show v 4 ≤ 30; omega) (by show 1 ≤ a 6 t.toNat ∧ a 6 t.toNat ≤ 3; omega) hx hd hf) dX12_find_156 kV_X12_215 rfl ck_13 rfl (Nat.le_of_ble_eq_true rfl) ⟨by dsimp only [rmq]; omega, by dsimp only [rmq]; omega⟩ ⟨Nat.le_of_ble_eq_true rfl, Nat.le_of_ble_eq_true rfl⟩ (fun rh7 vh7 ah7 h7 => ?_)
      obtain ⟨f5, rfl, fn5, bn5, ex5, tl5⟩ := h7
      have ef5 : f5 = -1 ∨ (0 ≤ f5 ∧ f5 < 6000 ∧ (1 ≤ a 12 f5.toNat ∧ a 12 f5.toNat ≤ 8) ∧ (1 ≤ a 13 f5.toNat ∧ a 13 f5.toNat ≤ 4) ∧ x + a 12 f5.toNat ≤ u) := ex5
      refine m_st (st2 := [.int (iI f5)]) rfl ?_
      refine m_istore (lv2 := [(6, .int (iI f5)), (5, .int (iI (a 20 x.toNat))), (0, .ref h0), (1, .int (iI t)), (2, .int (iI q)), (3, .int (iI u)), (4, .int (iI x))]) C dX12_find_159 (by decide) rfl ?_
      refine m_aload_n (j := 2) C dX12_find_161 rfl ?_
      refine m_geta (k := 20) C dX12_find_162 w6_79 (by decide) rfl ?_
      refine m_iload (j := 6) C dX12_find_165 rfl ?_
      refine m_iload (j := 1) C dX12_find_167 rfl ?_
      refine m_ast (k := 20) C dX12_find_169 rfl rfl (by decide) (by omega) (by show _ < ((_ : Nat) : Int); simp only [mlen]; omega) (by decide) ?_
      refine hv2 (show BX vh7 (up2 ah7 20 x.toNat (a 20 x.toNat)) from bn5.set (k := 20) (i := x.toNat) (z := a 20 x.toNat) (show (-2147483648) ≤ (a 20 x.toNat) ∧ (a 20 x.toNat) ≤ 2147483647 by omega)) (fq6.back fn5 rfl rfl (k := 20) (i := x.toNat) (y := a 20 x.toNat) rfl) (fun bq7 fq12 => ?_)
      refine m_iload (j := 0) C dX12_find_170 rfl ?_
      exact m_iret C dX12_find_172 rfl (Nat.le_of_ble_eq_true rfl) (Nat.le_of_ble_eq_true rfl) ⟨f5, rfl, fq12, bq7, ⟨by omega, fnd.k3 (by omega) (sml_w (fq6.2 20 rfl) (by unfold sml; rw [if_neg (by omega)])) (CTD.cg fw2 rfl tl5)⟩⟩
  · refine m_tabOut (tgt := 173) C (r32_c (lo := 0) (hi := 5) ra1.1 ra1.2 (by decide) (by decide)) dX12_find_21 sw1 (by decide) ?_
    refine m_aload_n (j := 0) C dX12_find_173 rfl ?_
    refine m_iload_n (j := 1) C dX12_find_174 rfl ?_
    refine m_iload_n (j := 2) C dX12_find_175 rfl ?_
    refine m_iload_n (j := 3) C dX12_find_176 rfl ?_
    refine m_iload (j := 4) C dX12_find_177 rfl ?_
    have rv2 : 0 ≤ v 4 ∧ v 4 ≤ 30 := bq1.1 4
    refine m_call (mc2 := 0) (ms2 := 0) (As := [.int (iI t), .int (iI q), .int (iI u), .int (iI x)]) (rest := []) C (E_own (t := t) (q := q) (u := u) (x := x) bq1 (hT.fr fq1 rfl rfl) (by show 0 ≤ t ∧ t < (v 4); omega) (by show 0 ≤ q ∧ q ≤ x ∧ x < u ∧ u ≤ 500; omega)) dX12_find_179 kV_X12_221 rfl ck_13 rfl (Nat.le_of_ble_eq_true rfl) ⟨by dsimp only [rmq]; omega, by dsimp only [rmq]; omega⟩ ⟨Nat.le_of_ble_eq_true rfl, Nat.le_of_ble_eq_true rfl⟩ (fun rh8 vh8 ah8 h8 => ?_)
    obtain ⟨f6, rfl, fn6, bn6, ex6⟩ := h8
    obtain ⟨rfl, rfl⟩ := fn6.eq
    obtain ⟨ex6, tl6⟩ := ex6
    refine hv3 (show f6 = -1 ∨ (0 ≤ f6 ∧ f6 < 6000 ∧ (1 ≤ a 12 f6.toNat ∧ a 12 f6.toNat ≤ 8) ∧ (1 ≤ a 13 f6.toNat ∧ a 13 f6.toNat ≤ 4) ∧ x + a 12 f6.toNat ≤ u) from ex6) (show 0 ≤ a 12 f6.toNat ∧ a 12 f6.toNat ≤ 8 from bq1.2 12 (f6.toNat)) (show 0 ≤ a 13 f6.toNat ∧ a 13 f6.toNat ≤ 4 from bq1.2 13 (f6.toNat)) (fun gf6 ra10 ra11 => ?_)
    refine m_st (st2 := [.int (iI f6)]) rfl ?_
    exact m_iret C dX12_find_182 rfl (Nat.le_of_ble_eq_true rfl) (Nat.le_of_ble_eq_true rfl) ⟨f6, rfl, fq1, bq1, ⟨by omega, fnd.k0 (by omega) (OWR.fx fq1 tl6)⟩⟩
theorem E_findN {l : Launch} {G : GT} {h0 : Nat} {ad ln : Nat → Nat} : ∀ (n : Nat) (t : Int), 0 ≤ t → t < (n : Int) → FindE l G h0 ad ln (2 * n + 3) n t := by
  intro n
  induction n with
  | zero => intro t h1 h2; omega
  | succ n ih =>
    intro t h1 h2 v a q u x hB hT ht h4 hx
    exact E_find1 (d := 2 * n + 3) (n := n) hB hT ⟨h1, ht⟩ h4 hx (by omega) (fun b hb hb2 => ih b hb (by omega))
theorem E_find {l : Launch} {G : GT} {h0 : Nat} {ad ln : Nat → Nat} {v : Nat → Int} {a : Nat → Nat → Int} {t q u x : Int} (hB : BX v a) (hT : TBL v a) (ht : 0 ≤ t ∧ t < v 4) (h4 : a 6 t.toNat ≤ 4) (hx : 0 ≤ q ∧ q ≤ x ∧ x < u ∧ u ≤ 500) : Mm l G yX12_find cX12_find 7 (some .int) 63 [.int (iI t), .int (iI q), .int (iI u), .int (iI x)] h0 ad ln v a 0 0 (fun r v2 a2 => ∃ f : Int, r = some (.int (iI f)) ∧ fr [] [27] v a v2 a2 ∧ BX v2 a2 ∧ ((f = -1 ∨ (0 ≤ f ∧ f < 6000 ∧ (1 ≤ a 12 f.toNat ∧ a 12 f.toNat ≤ 8) ∧ (1 ≤ a 13 f.toNat ∧ a 13 f.toNat ≤ 4) ∧ x + a 12 f.toNat ≤ u)) ∧ fnd a q u x 30 (a 20) t f)) := E_findN 30 t ht.1 (by have := hB.1 4; have e : vhi 4 = 30 := rfl; omega) v a q u x hB hT ht.2 h4 hx
