section
def LTW (iv : Nat → Nat → Int) (rv : Nat → Nat → Option Nat) (s : Nat) (W : Nat → Int) (q u : Int) : Prop := ∀ lb, rv s 0 = some lb → ∀ j : Int, q ≤ j → j < u → iv lb j.toNat = W j.toNat
def FTX (ln : Nat → Nat) (iv : Nat → Nat → Int) (rv : Nat → Nat → Option Nat) (s w : Nat) (i f : Int) : Prop := ∀ a W R, ROWR ln iv rv a w R → 1 ≤ a 12 R → LTW iv rv s W (i + 1) (iv s 11) → a 14 (8 * R) = W i.toNat → (f = 1 ↔ FIT a W (iv s 10) (iv s 11) i (R : Int))
def FXI (iv : Nat → Nat → Int) (rv : Nat → Nat → Option Nat) (s w : Nat) (i k : Int) : Prop := ∀ l lb, rv w 1 = some l → rv s 0 = some lb → ∀ j : Int, 1 ≤ j → j < k → iv l j.toNat = iv lb (i + j).toNat
def BST (ln : Nat → Nat) (iv : Nat → Nat → Int) (rv : Nat → Nat → Option Nat) (a : Nat → Nat → Int) (r : Option Nat) (z : Int) : Prop := (r = none ∧ z = -1) ∨ ∃ w, r = some w ∧ 0 ≤ z ∧ ROWR ln iv rv a w z.toNat
def OWC (a : Nat → Nat → Int) (W : Nat → Int) (q u x t rb z k : Int) : Prop := ∃ y, OWI a W q u x t y (200 * t + k) ∧ z = cmb a rb y
def FOX (sk ln : Nat → Nat) (iv : Nat → Nat → Int) (rv : Nat → Nat → Option Nat) (s tb : Nat) (i x : Int) (r f : Option Nat) : Prop := ∀ v a W (t : Nat) (rb : Int), TRL sk ln iv rv v a → (t : Int) < v 4 → el rv (sk 22) t = some tb → LTW iv rv s W (i + 1) (iv s 11) → W i.toNat = x → -1 ≤ rb → BST ln iv rv a r rb → ∃ y, OWR a W (iv s 10) (iv s 11) i t y ∧ BST ln iv rv a f (cmb a rb y)
def FOI (sk ln : Nat → Nat) (iv : Nat → Nat → Int) (rv : Nat → Nat → Option Nat) (s tb : Nat) (i x : Int) (r bs : Option Nat) (lg k : Int) : Prop := ∀ v a W (t : Nat) (rb : Int), TRL sk ln iv rv v a → (t : Int) < v 4 → el rv (sk 22) t = some tb → LTW iv rv s W (i + 1) (iv s 11) → W i.toNat = x → -1 ≤ rb → BST ln iv rv a r rb → ∃ z, OWC a W (iv s 10) (iv s 11) i t rb z k ∧ BST ln iv rv a bs z ∧ ((bs = none ∧ lg = 0) ∨ ∃ w l, bs = some w ∧ rv w 1 = some l ∧ lg = ((ln l : Nat) : Int))
def FDX (sk ln : Nat → Nat) (iv : Nat → Nat → Int) (rv : Nat → Nat → Option Nat) (s tb : Nat) (i x : Int) (f : Option Nat) : Prop := ∀ v a W (t : Nat), TRL sk ln iv rv v a → (t : Int) < v 4 → a 6 t ≠ 5 → el rv (sk 22) t = some tb → LTW iv rv s W (i + 1) (iv s 11) → ∃ y, fnd a (iv s 10) (iv s 11) i 30 (va_up W i.toNat x) t y ∧ BST ln iv rv a f y
def FDI (sk ln : Nat → Nat) (iv : Nat → Nat → Int) (rv : Nat → Nat → Option Nat) (s tb : Nat) (i x : Int) (bs : Option Nat) (he : Int) (tq : Option Nat) : Prop := ∀ v a W (t : Nat), TRL sk ln iv rv v a → (t : Int) < v 4 → a 6 t ≠ 5 → el rv (sk 22) t = some tb → LTW iv rv s W (i + 1) (iv s 11) → ∃ rb t2, -1 ≤ rb ∧ BST ln iv rv a bs rb ∧ BASR sk rv (v 4).toNat tq t2 ∧ (0 ≤ t2 → a 6 t2.toNat ≠ 5) ∧ (tq = none → False) ∧ ∀ y, fnd a (iv s 10) (iv s 11) i 30 (va_up W i.toNat he) t2 y → fnd a (iv s 10) (iv s 11) i 30 (va_up W i.toNat x) t (cmb a rb y)
section FROW
variable {g : Nat} {sk : Nat → Nat} {L : List Nat} {cl ln : Nat → Nat} {iv iv2 : Nat → Nat → Int} {rv : Nat → Nat → Option Nat} {v : Nat → Int} {a : Nat → Nat → Int} {W : Nat → Int} {s w u tb b l lb c q4 : Nat} {R t : Nat} {i k x y z rb f lg he q n : Int} {r bs tq : Option Nat}
theorem LTW.up (h : LTW iv rv s W (i + 1) n) (h0 : 0 ≤ i) : LTW iv rv s (va_up W i.toNat x) (i + 1) n := fun lb hb j h1 h2 => by
  rw [va_up_ne _ _ (by omega)]; exact h lb hb j h1 h2
theorem vuu (W : Nat → Int) (i : Nat) (x y : Int) : va_up (va_up W i x) i y = va_up W i y := by
  funext j
  unfold va_up
  split <;> rfl
theorem FXI.zero : FXI iv rv s w i 1 := fun _ _ _ _ j h1 h2 => absurd h1 (by omega)
theorem FXI.step (h : FXI iv rv s w i k) (h1 : rv w 1 = some l) (h2 : rv s 0 = some lb) (e : iv l k.toNat = iv lb (i + k).toNat) : FXI iv rv s w i (k + 1) := fun l2 lb2 p1 p2 j j1 j2 => by
  by_cases c : j < k
  · exact h l2 lb2 p1 p2 j j1 c
  · rw [h1] at p1; cases p1
    rw [h2] at p2; cases p2
    rw [show j = k by omega]; exact e
theorem FTX.n1 (h1 : rv w 1 = some l) (h : iv s 11 < i + ((ln l : Nat) : Int)) : FTX ln iv rv s w i 0 := fun a W R hr _ _ _ => by
  obtain ⟨_, _, l', c', e3, _, e5, _⟩ := hr
  rw [h1] at e3; cases e3
  refine ⟨fun e => absurd e (by decide), fun e => ?_⟩
  have := e.1.1
  rw [Int.toNat_natCast] at this
  omega
theorem FTX.n2 (h1 : rv w 1 = some l) (h2 : rv s 0 = some lb) (hk : 1 ≤ k ∧ k < ((ln l : Nat) : Int)) (hu : i + ((ln l : Nat) : Int) ≤ iv s 11) (e : iv l k.toNat ≠ iv lb (i + k).toNat) : FTX ln iv rv s w i 0 := fun a W R hr _ hl _ => by
  obtain ⟨_, _, l', c', e3, _, e5, _, e7, _⟩ := hr
  rw [h1] at e3; cases e3
  refine ⟨fun e => absurd e (by decide), fun g => (e ?_).elim⟩
  have g1 := g.1.2 k (by omega) (by rw [Int.toNat_natCast]; omega)
  rw [(e7 k.toNat (by omega)).1, hl lb h2 (i + k) (by omega) (by omega), ← g1]
  exact congrArg (a 14) (by omega)
theorem FTX.cc (h : FXI iv rv s w i k) (h1 : rv w 1 = some l) (h2 : rv s 0 = some lb) (hk : ((ln l : Nat) : Int) ≤ k) (hu : i + ((ln l : Nat) : Int) ≤ iv s 11) (h3 : 0 ≤ iv w 3 ∧ iv w 3 ≤ 5) (hc : f = 1 ↔ (iv w 3 = 0 ∨ (iv w 3 = 1 ∧ i = iv s 10) ∨ (iv w 3 = 2 ∧ i ≠ iv s 10 ∧ i + ((ln l : Nat) : Int) ≠ iv s 11) ∨ (iv w 3 = 3 ∧ i + ((ln l : Nat) : Int) = iv s 11) ∨ (iv w 3 = 4 ∧ i = iv s 10 ∧ i + ((ln l : Nat) : Int) = iv s 11) ∨ (iv w 3 = 5 ∧ i + ((ln l : Nat) : Int) ≠ iv s 11 ∧ ¬ isD (iv lb (i + ((ln l : Nat) : Int)).toNat) ∧ ¬ isG (iv lb (i + ((ln l : Nat) : Int)).toNat) ∧ ¬ isS (iv lb (i + ((ln l : Nat) : Int)).toNat)))) : FTX ln iv rv s w i f := fun a W R hr hr1 hl hw0 => by
  obtain ⟨e1, _, l', c', e3, _, e5, _, e7, _⟩ := hr
  rw [h1] at e3; cases e3
  have ft : FTL a W (iv s 11) i (R : Int) (a 12 (R : Int).toNat) := by
    rw [FTL, Int.toNat_natCast]
    refine ⟨by omega, fun j j0 j1 => ?_⟩
    by_cases c0 : j = 0
    · subst c0
      rw [Int.add_zero, Int.add_zero, ← hw0]
      exact congrArg (a 14) (by omega)
    · have q1 := h l lb h1 h2 j (by omega) (by omega)
      rw [(e7 j.toNat (by omega)).1, hl lb h2 (i + j) (by omega) (by omega)] at q1
      rw [← q1]
      exact congrArg (a 14) (by omega)
  have cn : CND a W (iv s 10) (iv s 11) i (R : Int) ↔ f = 1 := by
    rw [hc]
    unfold CND
    rw [Int.toNat_natCast, ← e1, ← e5]
    by_cases c0 : i + ((ln l : Nat) : Int) = iv s 11
    · constructor
      · rintro (g | g | g | g | g | g)
        · exact Or.inl g
        · exact Or.inr (Or.inl g)
        · exact Or.inr (Or.inr (Or.inl g))
        · exact Or.inr (Or.inr (Or.inr (Or.inl g)))
        · exact Or.inr (Or.inr (Or.inr (Or.inr (Or.inl g))))
        · exact absurd c0 g.2.1
      · rintro (g | g | g | g | g | g)
        · exact Or.inl g
        · exact Or.inr (Or.inl g)
        · exact Or.inr (Or.inr (Or.inl g))
        · exact Or.inr (Or.inr (Or.inr (Or.inl g)))
        · exact Or.inr (Or.inr (Or.inr (Or.inr (Or.inl g))))
        · exact absurd c0 g.2.1
    · rw [hl lb h2 (i + ((ln l : Nat) : Int)) (by omega) (by omega)]
      constructor
      · rintro (g | g | g | g | g | g)
        · exact Or.inl g
        · exact Or.inr (Or.inl g)
        · exact Or.inr (Or.inr (Or.inl g))
        · exact Or.inr (Or.inr (Or.inr (Or.inl g)))
        · exact Or.inr (Or.inr (Or.inr (Or.inr (Or.inl g))))
        · exact Or.inr (Or.inr (Or.inr (Or.inr (Or.inr ⟨by omega, g.2⟩))))
      · rintro (g | g | g | g | g | g)
        · exact Or.inl g
        · exact Or.inr (Or.inl g)
        · exact Or.inr (Or.inr (Or.inl g))
        · exact Or.inr (Or.inr (Or.inr (Or.inl g)))
        · exact Or.inr (Or.inr (Or.inr (Or.inr (Or.inl g))))
        · exact Or.inr (Or.inr (Or.inr (Or.inr (Or.inr ⟨Or.inr (by omega), g.2⟩))))
  exact ⟨fun e => ⟨ft, cn.mpr e⟩, fun e => cn.mp e.2⟩
theorem cmb_n (h : -1 ≤ rb) : cmb a rb (-1) = rb := by
  unfold cmb
  split
  · omega
  · rfl
theorem cmb_0 : cmb a (-1) y = y := by
  unfold cmb
  rw [if_pos (Or.inl (by decide))]
theorem cmb_as (h1 : -1 ≤ x) (h2 : -1 ≤ y) (h3 : -1 ≤ z) : cmb a (cmb a x y) z = cmb a x (cmb a y z) := by
  unfold cmb
  repeat' split
  all_goals omega
theorem OWC.zero (h : -1 ≤ rb) : OWC a W q n i (t : Int) rb rb 0 := ⟨-1, by rw [Int.add_zero]; exact OWI.zero, (cmb_n h).symm⟩
theorem OWC.miss (h : OWC a W q n i (t : Int) rb z k) (hf : ¬ FIT a W q n i (200 * (t : Int) + k)) : OWC a W q n i (t : Int) rb z (k + 1) := by
  obtain ⟨y, h1, h2⟩ := h
  exact ⟨y, by rw [← Int.add_assoc]; exact h1.miss hf, h2⟩
theorem OWC.short (h : OWC a W q n i (t : Int) rb z k) (hk : 0 ≤ k) (hz : 0 ≤ z) (hl : a 12 (200 * (t : Int) + k).toNat ≤ a 12 z.toNat) : OWC a W q n i (t : Int) rb z (k + 1) := by
  obtain ⟨y, h1, h2⟩ := h
  by_cases hf : FIT a W q n i (200 * (t : Int) + k)
  · by_cases hy : y < 0 ∨ a 12 y.toNat < a 12 (200 * (t : Int) + k).toNat
    · refine ⟨200 * (t : Int) + k, by rw [← Int.add_assoc]; exact h1.hit (by omega) hy (by omega) hf, ?_⟩
      have r := h1.rg
      unfold cmb at h2 ⊢
      split at h2
      · subst h2
        omega
      · subst h2
        rw [if_neg (by omega)]
    · refine ⟨y, ?_, h2⟩
      have r := h1.rg
      rw [← Int.add_assoc]
      exact h1.skip (by omega) (by omega) (by omega)
  · exact ⟨y, by rw [← Int.add_assoc]; exact h1.miss hf, h2⟩
theorem OWC.hit (h : OWC a W q n i (t : Int) rb z k) (hk : 0 ≤ k) (hl : z < 0 ∨ a 12 z.toNat < a 12 (200 * (t : Int) + k).toNat) (hf : FIT a W q n i (200 * (t : Int) + k)) : OWC a W q n i (t : Int) rb (200 * (t : Int) + k) (k + 1) := by
  obtain ⟨y, h1, h2⟩ := h
  have r := h1.rg
  have e : cmb a rb (200 * (t : Int) + k) = 200 * (t : Int) + k ∧ (y < 0 ∨ a 12 y.toNat < a 12 (200 * (t : Int) + k).toNat) := by
    unfold cmb at h2 ⊢
    split at h2
    · subst h2
      refine ⟨?_, hl⟩
      rename_i c
      rw [if_pos (by omega)]
    · subst h2
      rename_i c
      refine ⟨by rw [if_pos (by omega)], by omega⟩
  exact ⟨_, by rw [← Int.add_assoc]; exact h1.hit (by omega) e.2 (by omega) hf, e.1.symm⟩
theorem TRL.ini {s5 xb : Nat} (h : TRL sk ln iv rv v a) (hi : (t : Int) < v 4) (ht : el rv (sk 22) t = some tb) (h5 : rv tb 5 = some s5) (hx : rv s5 1 = some xb) : iv s5 2 = a 10 t ∧ ∀ j : Nat, (j : Int) < a 10 t → iv xb j = a 14 (8 * (200 * t + j)) := by
  obtain ⟨_, ⟨o, h2⟩, _, _⟩ := h
  obtain ⟨t1, c1, c2⟩ := h2.1 t hi
  rw [ht] at c1; cases c1
  obtain ⟨q2, s6, x6, n6, ⟨_, e2, _, _⟩, _, _, ⟨e6, _⟩, _, e8, _⟩ := c2
  rw [h5] at e2; cases e2
  exact ⟨e6, fun j hj => e8 xb hx j (by rw [e6]; exact hj)⟩
theorem TRL.row (h : TRL sk ln iv rv v a) (hi : (t : Int) < v 4) (ht : el rv (sk 22) t = some tb) (h4 : rv tb 4 = some q4) (hk : 0 ≤ k ∧ k < iv q4 2) (hw : el rv q4 k.toNat = some w) : (k < a 10 t ∧ iv q4 2 = a 10 t) ∧ ROWR ln iv rv a w (200 * t + k.toNat) ∧ (1 ≤ a 12 (200 * t + k.toNat) ∧ a 12 (200 * t + k.toNat) ≤ 8) := by
  obtain ⟨_, _, q1, n1, ⟨c1, _, c3⟩, c4, _⟩ := h.tab hi ht
  rw [h4] at c1; cases c1
  obtain ⟨w', d1, d2⟩ := c4 k.toNat (by omega)
  rw [hw] at d1; cases d1
  have g := (h.2.2.1.2 t (200 * (t : Int) + k) (by omega) hi (by omega) (by rw [Int.toNat_natCast]; omega)).1
  rw [show (200 * (t : Int) + k).toNat = 200 * t + k.toNat by omega] at g
  exact ⟨⟨by omega, c3⟩, d2, g⟩
theorem FOI.i0 : FOI sk ln iv rv s tb i x none none 0 0 := fun v a W t rb hR ht he hl hw hrb hB => ⟨rb, OWC.zero hrb, hB, Or.inl ⟨rfl, rfl⟩⟩
theorem FOI.i1 (h1 : rv w 1 = some l) : FOI sk ln iv rv s tb i x (some w) (some w) ((ln l : Nat) : Int) 0 := fun v a W t rb hR ht he hl hw hrb hB => ⟨rb, OWC.zero hrb, hB, Or.inr ⟨w, l, rfl, h1, rfl⟩⟩
theorem FOI.lng {z0 : Int} (h2 : BST ln iv rv a bs z0) (h3 : (bs = none ∧ lg = 0) ∨ ∃ w l, bs = some w ∧ rv w 1 = some l ∧ lg = ((ln l : Nat) : Int)) : (z0 = -1 ∧ lg = 0) ∨ (0 ≤ z0 ∧ lg = a 12 z0.toNat) := by
  rcases h2 with ⟨p1, p2⟩ | ⟨w, p1, p2, p3⟩
  · rcases h3 with ⟨_, q2⟩ | ⟨w, l, q1, _⟩
    · exact Or.inl ⟨p2, q2⟩
    · rw [p1] at q1; cases q1
  · rcases h3 with ⟨q1, _⟩ | ⟨w, l, q1, q2, q3⟩
    · rw [p1] at q1; cases q1
    · rw [p1] at q1; cases q1
      obtain ⟨_, _, l', c', e3, _, e5, _⟩ := p3
      rw [q2] at e3; cases e3
      exact Or.inr ⟨p2, q3.trans e5⟩
theorem FOI.skip {s5 xb : Nat} (h : FOI sk ln iv rv s tb i x r bs lg k) (h5 : rv tb 5 = some s5) (hx5 : rv s5 1 = some xb) (hk : 0 ≤ k ∧ k < iv s5 2) (e : iv xb k.toNat ≠ x) : FOI sk ln iv rv s tb i x r bs lg (k + 1) := fun v a W t rb hR ht he hl hw hrb hB => by
  obtain ⟨z, h1, h2, h3⟩ := h v a W t rb hR ht he hl hw hrb hB
  obtain ⟨i1, i2⟩ := hR.ini ht he h5 hx5
  have g := (hR.2.2.1.2 t (200 * (t : Int) + k) (by omega) ht (by omega) (by rw [Int.toNat_natCast]; omega)).1
  refine ⟨z, h1.miss (fun hf => e ?_), h2, h3⟩
  have g1 := hf.1.2 0 (by omega) (by omega)
  rw [i2 k.toNat (by omega), ← hw]
  rw [Int.add_zero, Int.add_zero] at g1
  rw [← g1]
  exact congrArg (a 14) (by omega)
theorem FOI.short (h : FOI sk ln iv rv s tb i x r bs lg k) (h4 : rv tb 4 = some q4) (hk : 0 ≤ k ∧ k < iv q4 2) (hw4 : el rv q4 k.toNat = some w) (h1 : rv w 1 = some l) (hl0 : ((ln l : Nat) : Int) ≤ lg) : FOI sk ln iv rv s tb i x r bs lg (k + 1) := fun v a W t rb hR ht he hl hw hrb hB => by
  obtain ⟨z, p1, p2, p3⟩ := h v a W t rb hR ht he hl hw hrb hB
  obtain ⟨_, rr, r12⟩ := hR.row ht he h4 hk hw4
  obtain ⟨_, _, l', c', e3, _, e5, _⟩ := rr
  rw [h1] at e3; cases e3
  have g := FOI.lng p2 p3
  have ix : (200 * (t : Int) + k).toNat = 200 * t + k.toNat := by omega
  exact ⟨z, p1.short hk.1 (by omega) (by rw [ix]; omega), p2, p3⟩
theorem FOI.miss {s5 xb : Nat} (h : FOI sk ln iv rv s tb i x r bs lg k) (h4 : rv tb 4 = some q4) (hk : 0 ≤ k ∧ k < iv q4 2) (hw4 : el rv q4 k.toNat = some w) (h5 : rv tb 5 = some s5) (hx5 : rv s5 1 = some xb) (ex : iv xb k.toNat = x) (hF : FTX ln iv rv s w i f) (e : f ≠ 1) : FOI sk ln iv rv s tb i x r bs lg (k + 1) := fun v a W t rb hR ht he hl hw hrb hB => by
  obtain ⟨z, p1, p2, p3⟩ := h v a W t rb hR ht he hl hw hrb hB
  obtain ⟨kk, rr, r12⟩ := hR.row ht he h4 hk hw4
  obtain ⟨i1, i2⟩ := hR.ini ht he h5 hx5
  have q := hF a W _ rr r12.1 hl (by rw [hw, ← ex, i2 k.toNat (by omega)])
  rw [show (((200 * t + k.toNat : Nat)) : Int) = 200 * (t : Int) + k by omega] at q
  exact ⟨z, p1.miss (fun w => e (q.mpr w)), p2, p3⟩
theorem FOI.hit {s5 xb : Nat} (h : FOI sk ln iv rv s tb i x r bs lg k) (h4 : rv tb 4 = some q4) (hk : 0 ≤ k ∧ k < iv q4 2) (hw4 : el rv q4 k.toNat = some w) (h5 : rv tb 5 = some s5) (hx5 : rv s5 1 = some xb) (ex : iv xb k.toNat = x) (hF : FTX ln iv rv s w i f) (e : f = 1) (h1 : rv w 1 = some l) (hl0 : lg < ((ln l : Nat) : Int)) : FOI sk ln iv rv s tb i x r (some w) ((ln l : Nat) : Int) (k + 1) := fun v a W t rb hR ht he hl hw hrb hB => by
  obtain ⟨z, p1, p2, p3⟩ := h v a W t rb hR ht he hl hw hrb hB
  obtain ⟨kk, rr, r12⟩ := hR.row ht he h4 hk hw4
  obtain ⟨i1, i2⟩ := hR.ini ht he h5 hx5
  have q := hF a W _ rr r12.1 hl (by rw [hw, ← ex, i2 k.toNat (by omega)])
  have ix : (200 * (t : Int) + k).toNat = 200 * t + k.toNat := by omega
  rw [show (((200 * t + k.toNat : Nat)) : Int) = 200 * (t : Int) + k by omega] at q
  have g := FOI.lng p2 p3
  obtain ⟨_, _, l', c', e3, _, e5, _⟩ := id rr
  rw [h1] at e3; cases e3
  refine ⟨200 * (t : Int) + k, p1.hit hk.1 (by rw [ix]; omega) (q.mp e), Or.inr ⟨w, rfl, by omega, by rw [ix]; exact rr⟩, Or.inr ⟨w, l, rfl, h1, rfl⟩⟩
theorem FOI.fin (h : FOI sk ln iv rv s tb i x r bs lg k) (h4 : rv tb 4 = some q4) {s5 : Nat} (h5 : rv tb 5 = some s5) (hk : k = iv s5 2 ∨ k = iv q4 2) {xb : Nat} (hx5 : rv s5 1 = some xb) : FOX sk ln iv rv s tb i x r bs := fun v a W t rb hR ht he hl hw hrb hB => by
  obtain ⟨z, ⟨y, p1, p4⟩, p2, p3⟩ := h v a W t rb hR ht he hl hw hrb hB
  obtain ⟨i1, i2⟩ := hR.ini ht he h5 hx5
  obtain ⟨_, _, q1, n1, ⟨c1, _, c3⟩, c4, _⟩ := hR.tab ht he
  rw [h4] at c1; cases c1
  refine ⟨y, ?_, by rw [← p4]; exact p2⟩
  unfold OWR
  rw [Int.toNat_natCast]
  have hk2 : k = a 10 t := by
    rcases hk with e | e
    · exact e.trans i1
    · exact e.trans c3
  rw [hk2] at p1
  exact p1
theorem FDI.init : FDI sk ln iv rv s tb i x none x (some tb) := fun v a W t hR ht h5 he hl => ⟨-1, t, by decide, Or.inl ⟨rfl, rfl⟩, el_bas he (by have := hR.b0; omega), fun _ => by rw [Int.toNat_natCast]; exact h5, (fun e => by cases e), fun y hy => by rw [cmb_0]; exact hy⟩
theorem fnd_lower (hT : TBL v a) : ∀ (m : Nat) (W : Nat → Int) (z r : Int), z < v 4 → 0 ≤ z → fnd a q n i m W z r → ∀ m2 : Nat, z < (m2 : Int) → fnd a q n i m2 W z r := by
  intro m
  induction m with
  | zero => intro W z r _ _ h; exact False.elim h
  | succ m ih =>
    intro W z r h4 h0 h m2 hle
    have ht := hT.1 z h0 h4
    have t8 : 1 ≤ a 6 z.toNat → a 6 z.toNat ≤ 3 → 0 ≤ a 8 z.toNat ∧ a 8 z.toNat < v 4 ∧ a 8 z.toNat < z := by omega
    clear ht
    cases m2 with
    | zero => omega
    | succ m2 =>
      rw [fnd_s] at h
      rw [fnd_s]
      obtain ⟨p1, p2, p3, p4⟩ := h
      refine ⟨fun k => ?_, fun k => ⟨(p2 k).1, fun c => ih _ _ _ (t8 (by omega) (by omega)).2.1 (t8 (by omega) (by omega)).1 ((p2 k).2 c) m2 (by have q := (t8 (by omega) (by omega)).2.2; omega)⟩, fun k => ?_, p4⟩
      · obtain ⟨y, z2, e1, e2, e3⟩ := p1 k
        exact ⟨y, z2, e1, ih _ _ _ (t8 (by omega) (by omega)).2.1 (t8 (by omega) (by omega)).1 e2 m2 (by have q := (t8 (by omega) (by omega)).2.2; omega), e3⟩
      · obtain ⟨y, z2, e1, e2, e3⟩ := p3 k
        exact ⟨y, z2, e1, ih _ _ _ (t8 (by omega) (by omega)).2.1 (t8 (by omega) (by omega)).1 e2 m2 (by have q := (t8 (by omega) (by omega)).2.2; omega), e3⟩
theorem fnd_ge (hT : TBL v a) : ∀ (m : Nat) (W : Nat → Int) (z r : Int), z < v 4 → 0 ≤ z → fnd a q n i m W z r → r = -1 ∨ 0 ≤ r := by
  intro m
  induction m with
  | zero => intro W z r _ _ h; exact False.elim h
  | succ m ih =>
    intro W z r h4 h0 h
    have ht := hT.1 z h0 h4
    have t8 : 1 ≤ a 6 z.toNat → a 6 z.toNat ≤ 3 → 0 ≤ a 8 z.toNat ∧ a 8 z.toNat < v 4 := by omega
    have t6 : a 6 z.toNat ≠ 1 → a 6 z.toNat ≠ 2 → a 6 z.toNat ≠ 3 → a 6 z.toNat < 1 ∨ 3 < a 6 z.toNat := by omega
    clear ht
    have ow : ∀ (W : Nat → Int) (y : Int), OWR a W q n i z y → y = -1 ∨ 0 ≤ y := fun W y ho => by
      rcases ho.rg with e | e
      · exact Or.inl e
      · exact Or.inr (by omega)
    rw [fnd_s] at h
    obtain ⟨p1, p2, p3, p4⟩ := h
    by_cases k1 : a 6 z.toNat = 1
    · obtain ⟨y, z2, e1, e2, e3⟩ := p1 k1
      rw [e3]
      exact cmb_rg (P := fun r => r = -1 ∨ 0 ≤ r) (ow _ _ e1) (ih _ _ _ (t8 (by omega) (by omega)).2 (t8 (by omega) (by omega)).1 e2)
    · by_cases k2 : a 6 z.toNat = 2
      · by_cases c : isD (W i.toNat)
        · exact ow _ _ ((p2 k2).1 c)
        · exact ih _ _ _ (t8 (by omega) (by omega)).2 (t8 (by omega) (by omega)).1 ((p2 k2).2 c)
      · by_cases k3 : a 6 z.toNat = 3
        · obtain ⟨y, z2, e1, e2, e3⟩ := p3 k3
          rw [e3]
          exact cmb_rg (P := fun r => r = -1 ∨ 0 ≤ r) (ow _ _ e1) (ih _ _ _ (t8 (by omega) (by omega)).2 (t8 (by omega) (by omega)).1 e2)
        · exact ow _ _ (p4 (t6 k1 k2 k3))
theorem FDI.get (h : FDI sk ln iv rv s tb i x bs he (some b)) {v : Nat → Int} {a : Nat → Nat → Int} {W : Nat → Int} {t : Nat} (hR : TRL sk ln iv rv v a) (ht : (t : Int) < v 4) (h5 : a 6 t ≠ 5) (hl0 : el rv (sk 22) t = some tb) (hl : LTW iv rv s W (i + 1) (iv s 11)) : ∃ (rb : Int) (t2 : Nat), -1 ≤ rb ∧ BST ln iv rv a bs rb ∧ (t2 : Int) < v 4 ∧ el rv (sk 22) t2 = some b ∧ (iv b 0 = a 6 t2 ∧ a 6 t2 ≠ 5) ∧ BASR sk rv (v 4).toNat (rv b 2) (a 8 t2) ∧ ∀ y, fnd a (iv s 10) (iv s 11) i 30 (va_up W i.toNat he) t2 y → fnd a (iv s 10) (iv s 11) i 30 (va_up W i.toNat x) t (cmb a rb y) := by
  obtain ⟨rb, t2, p1, p2, p3, p4, _, p6⟩ := h v a W t hR ht h5 hl0 hl
  obtain ⟨q1, q2, q3⟩ := p3.tb hR
  have e : ((t2.toNat : Nat) : Int) = t2 := Int.toNat_of_nonneg q1
  obtain ⟨⟨c1, _⟩, ⟨c2, _⟩, _⟩ := hR.tab (i := t2.toNat) (by omega) q3
  refine ⟨rb, t2.toNat, p1, p2, by omega, q3, ⟨c1, p4 q1⟩, c2.up (by omega), fun y hy => p6 y ?_⟩
  rw [e] at hy; exact hy
theorem FDI.plain (h : FDI sk ln iv rv s tb i x bs he (some b)) (hO : FOX sk ln iv rv s b i he bs r) (h0 : iv b 0 = 0 ∨ iv b 0 = 4) (hi : 0 ≤ i) : FDX sk ln iv rv s tb i x r := fun v a W t hR ht h5 hl0 hl => by
  obtain ⟨rb, t2, p1, p2, p3, p4, p5, _, p7⟩ := h.get hR ht h5 hl0 hl
  obtain ⟨y, o1, o2⟩ := hO v a (va_up W i.toNat he) t2 rb hR p3 p4 (hl.up hi) (va_up_self _ _ _) p1 p2
  exact ⟨_, p7 y (fnd.k0 (n := 29) (by rw [Int.toNat_natCast]; omega) o1), o2⟩
theorem FDI.num (h : FDI sk ln iv rv s tb i x bs he (some b)) (hO : FOX sk ln iv rv s b i he bs r) (h0 : iv b 0 = 2) (hd : isD he) (hi : 0 ≤ i) : FDX sk ln iv rv s tb i x r := fun v a W t hR ht h5 hl0 hl => by
  obtain ⟨rb, t2, p1, p2, p3, p4, p5, _, p7⟩ := h.get hR ht h5 hl0 hl
  obtain ⟨y, o1, o2⟩ := hO v a (va_up W i.toNat he) t2 rb hR p3 p4 (hl.up hi) (va_up_self _ _ _) p1 p2
  exact ⟨_, p7 y (fnd.k2 (n := 29) (by rw [Int.toNat_natCast]; omega) (by rw [va_up_self]; exact hd) o1), o2⟩
theorem FDI.mk (hR : TRL sk ln iv rv v a) {t2 : Nat} (p3 : (t2 : Int) < v 4) (hk : 1 ≤ a 6 t2 ∧ a 6 t2 ≤ 3) (p6 : BASR sk rv (v 4).toNat tq (a 8 t2)) : (0 ≤ a 8 t2 → a 6 (a 8 t2).toNat ≠ 5) ∧ (tq = none → False) ∧ (0 ≤ a 8 t2 ∧ a 8 t2 < v 4 ∧ a 8 t2 < ((29 : Nat) : Int)) := by
  have g := hR.2.2.1.1 t2 (by omega) p3
  rw [Int.toNat_natCast] at g
  have h30 := hR.v30
  refine ⟨fun _ => by omega, fun e => ?_, by omega⟩
  subst e
  have := p6.no hR
  omega
theorem FDI.numn (h : FDI sk ln iv rv s tb i x bs he (some b)) (h0 : iv b 0 = 2) (hd : ¬ isD he) (h2 : rv b 2 = tq) : FDI sk ln iv rv s tb i x bs he tq := fun v a W t hR ht h5 hl0 hl => by
  obtain ⟨rb, t2, p1, p2, p3, p4, p5, p6, p7⟩ := h.get hR ht h5 hl0 hl
  rw [h2] at p6
  obtain ⟨m1, m2, m3⟩ := FDI.mk hR p3 (by omega) p6
  exact ⟨rb, a 8 t2, p1, p2, p6, m1, m2, fun y hy => p7 y (fnd.k2n (n := 29) (by rw [Int.toNat_natCast]; omega) (by rw [va_up_self]; exact hd) (by rw [Int.toNat_natCast]; exact fnd_lower hR.2.2.1 30 _ _ _ m3.2.1 m3.1 hy 29 m3.2.2))⟩
theorem BST.ge (h : BST ln iv rv a r z) : -1 ≤ z := by
  rcases h with ⟨_, e⟩ | ⟨_, _, e, _⟩ <;> omega
theorem FDI.con (h : FDI sk ln iv rv s tb i x bs he (some b)) (hO : FOX sk ln iv rv s b i he bs r) (h0 : iv b 0 ≠ 0 ∧ iv b 0 ≠ 2 ∧ iv b 0 ≠ 3 ∧ iv b 0 ≠ 4) (h2 : rv b 2 = tq) (hi : 0 ≤ i) : FDI sk ln iv rv s tb i x r he tq := fun v a W t hR ht h5 hl0 hl => by
  obtain ⟨rb, t2, p1, p2, p3, p4, p5, p6, p7⟩ := h.get hR ht h5 hl0 hl
  rw [h2] at p6
  have p8 := hR.2.2.1.1 t2 (by omega) p3
  rw [Int.toNat_natCast] at p8
  obtain ⟨m1, m2, m3⟩ := FDI.mk hR p3 (by omega) p6
  obtain ⟨y, o1, o2⟩ := hO v a (va_up W i.toNat he) t2 rb hR p3 p4 (hl.up hi) (va_up_self _ _ _) p1 p2
  refine ⟨_, a 8 t2, o2.ge, o2, p6, m1, m2, fun z hz => ?_⟩
  have oy := o1.rg
  have zy : -1 ≤ z := by
    rcases fnd_ge hR.2.2.1 30 _ _ _ m3.2.1 m3.1 hz with e | e <;> omega
  rw [cmb_as p1 (by omega) zy]
  exact p7 _ (fnd.k1 (n := 29) (by rw [Int.toNat_natCast]; omega) ⟨y, z, o1, by rw [Int.toNat_natCast]; exact fnd_lower hR.2.2.1 30 _ _ _ m3.2.1 m3.1 hz 29 m3.2.2, rfl⟩)
theorem FDI.sho (h : FDI sk ln iv rv s tb i x bs he (some b)) (hO : FOX sk ln iv rv s b i y bs r) (h0 : iv b 0 = 3) (hy : y = sml he) (h2 : rv b 2 = tq) (hi : 0 ≤ i) : FDI sk ln iv rv s tb i x r y tq := fun v a W t hR ht h5 hl0 hl => by
  subst hy
  obtain ⟨rb, t2, p1, p2, p3, p4, p5, p6, p7⟩ := h.get hR ht h5 hl0 hl
  rw [h2] at p6
  obtain ⟨m1, m2, m3⟩ := FDI.mk hR p3 (by omega) p6
  obtain ⟨y, o1, o2⟩ := hO v a (va_up W i.toNat (sml he)) t2 rb hR p3 p4 (hl.up hi) (va_up_self _ _ _) p1 p2
  refine ⟨_, a 8 t2, o2.ge, o2, p6, m1, m2, fun z hz => ?_⟩
  have oy := o1.rg
  have zy : -1 ≤ z := by
    rcases fnd_ge hR.2.2.1 30 _ _ _ m3.2.1 m3.1 hz with e | e <;> omega
  rw [cmb_as p1 (by omega) zy]
  exact p7 _ (fnd.k3 (n := 29) (by rw [Int.toNat_natCast]; omega) (by rw [va_up_self, vuu]) ⟨y, z, o1, by rw [Int.toNat_natCast]; exact fnd_lower hR.2.2.1 30 _ _ _ m3.2.1 m3.1 hz 29 m3.2.2, rfl⟩)
theorem FDI.fin0 (h : FDI sk ln iv rv s tb i x bs he none) : FDX sk ln iv rv s tb i x r := fun v a W t hR ht h5 hl0 hl => by
  obtain ⟨_, _, _, _, _, _, p, _⟩ := h v a W t hR ht h5 hl0 hl
  exact (p rfl).elim
end FROW
section FRN
variable {g : Nat} {sk : Nat → Nat} {L : List Nat} {cl ln : Nat → Nat} {iv iv1 iv2 iv3 : Nat → Nat → Int} {rv : Nat → Nat → Option Nat} {v : Nat → Int} {a : Nat → Nat → Int} {W : Nat → Int} {s w tb b : Nat} {R t : Nat} {i k x y z rb he q u : Int} {r f : Option Nat} {ls : List Nat}
theorem fT.sym {rv1 : Nat → Nat → Option Nat} (h : fT ls L cl iv rv iv1 rv1) : fT ls L cl iv1 rv1 iv rv := fun b hb hc => ⟨(h b hb hc).1.symm, (h b hb hc).2.symm⟩
theorem ROWR.ni (hW : WT g sk L cl ln iv rv) (hF : fT ls L cl iv rv iv1 rv) (h1 : kpl ls = true) (tw : ty L cl w 20) (h : ROWR ln iv rv a w R) : ROWR ln iv1 rv a w R := by
  have k := kpl_no h1
  obtain ⟨e1, e2, l, c, e3, e4, e5, e6, e7, e8⟩ := h
  obtain ⟨l', q1, tl⟩ := hW.ref tw 1 rfl rfl rfl
  rw [e3] at q1; cases q1
  obtain ⟨c', q2, tc⟩ := hW.ref tw 2 rfl rfl rfl
  rw [e4] at q2; cases q2
  refine hv2 (show ty L cl l 65 from tl) (show ty L cl c 66 from tc) (fun t65 t66 => ?_)
  refine ⟨(hF.i tw k.2.1 3).trans e1, (hF.i tw k.2.1 0).trans e2, l, c, e3, e4, e5, e6, fun j hj => ?_, fun j hj => ?_⟩
  · rw [hF.i t65 k.2.2.2.1 j]; exact e7 j hj
  · rw [hF.i t66 k.2.2.2.2.1 j]; exact e8 j hj
theorem BST.ni (hW : WT g sk L cl ln iv rv) (hF : fT ls L cl iv rv iv1 rv) (h1 : kpl ls = true) (tr : ∀ b, r = some b → ty L cl b 20) (h : BST ln iv rv a r z) : BST ln iv1 rv a r z := by
  rcases h with h | ⟨w, e1, e2, e3⟩
  · exact Or.inl h
  · exact Or.inr ⟨w, e1, e2, e3.ni hW hF h1 (tr w e1)⟩
theorem LTW.ni (hW : WT g sk L cl ln iv rv) (hF : fT ls L cl iv rv iv1 rv) (hc : ls.contains 50 = false) (ts : ty L cl s 15) (h : LTW iv rv s W q u) : LTW iv1 rv s W q u := fun lb hb j h1 h2 => by
  obtain ⟨b', q1, tb'⟩ := hW.ref ts 0 rfl rfl rfl
  rw [hb] at q1; cases q1
  have t50 : ty L cl lb 50 := tb'
  rw [hF.i t50 hc j.toNat]; exact h lb hb j h1 h2
theorem TRL.ni (hW : WT g sk L cl ln iv rv) (hS : SKL sk L cl) (hF : fT ls L cl iv rv iv1 rv) (h1 : kpl ls = true) (a1 : ls.contains 22 = false) (a2 : ls.contains 1000 = false) (a3 : ls.contains 23 = false) (a4 : ls.contains 1001 = false) (h : TRL sk ln iv rv v a) : TRL sk ln iv1 rv v a := h.qq (QT.of hW hS XT.refl hF h1 a1 a2 a3 a4)
theorem FOX.ni (hW : WT g sk L cl ln iv rv) (hS : SKL sk L cl) (hW1 : WT g sk L cl ln iv1 rv) (hF : fT [55] L cl iv rv iv1 rv) (ts : ty L cl s 15) (tr : ∀ b, r = some b → ty L cl b 20) (tf : ∀ b, f = some b → ty L cl b 20) (h : FOX sk ln iv1 rv s tb i x r f) : FOX sk ln iv rv s tb i x r f := fun v a W t rb hR ht he hl hw hrb hB => by
  refine hv2 (hF.i ts rfl 10) (hF.i ts rfl 11) (fun e10 e11 => ?_)
  obtain ⟨y, p1, p2⟩ := h v a W t rb (hR.ni hW hS hF rfl rfl rfl rfl rfl) ht he (by rw [e11]; exact hl.ni hW hF rfl ts) hw hrb (hB.ni hW hF rfl tr)
  rw [e10, e11] at p1
  exact ⟨y, p1, p2.ni hW1 hF.sym rfl tf⟩
end FRN
end
section
theorem sgn_i {t z : Int} (ht : R32 t) (hz : R32 z) (e : sgn (iI t) = iI z) : z = 1 ↔ (¬ isD t ∧ ¬ isG t ∧ ¬ isS t) := by
  refine hv2 (show ∀ n : Int, R32 n → ((iI t < iI n ↔ t < n) ∧ (iI n < iI t ↔ n < t)) from fun n hn => ⟨iI_lt ht hn, iI_lt hn ht⟩) (show sgn (iI t) = if iI t < iI 48 ∨ (iI 57 < iI t ∧ iI t < iI 65) ∨ (iI 90 < iI t ∧ iI t < iI 97) ∨ iI 122 < iI t then iI 1 else iI 0 from rfl) (fun k e0 => ?_)
  refine hv6 ((k 48 ⟨by decide, by decide⟩).1) ((k 57 ⟨by decide, by decide⟩).2) ((k 65 ⟨by decide, by decide⟩).1) ((k 90 ⟨by decide, by decide⟩).2) ((k 97 ⟨by decide, by decide⟩).1) ((k 122 ⟨by decide, by decide⟩).2) (fun a1 a2 a3 a4 a5 a6 => ?_)
  rw [e0] at e
  unfold isD isG isS
  split at e
  · rename_i c
    rw [a1, a2, a3, a4, a5, a6] at c
    have q := (iI_eq ⟨by decide, by decide⟩ hz).mp e
    exact ⟨fun _ => by omega, fun _ => q.symm⟩
  · rename_i c
    rw [a1, a2, a3, a4, a5, a6] at c
    have q := (iI_eq ⟨by decide, by decide⟩ hz).mp e
    exact ⟨fun w => by omega, fun w => by omega⟩
set_option maxHeartbeats 4000000 in
set_option maxRecDepth 100000 in
theorem G_fits {l : Launch} {G : GT} {mi : Nat} {sk : Nat → Nat} {L : List Nat} {cl ln : Nat → Nat} {iv : Nat → Nat → Int} {rv : Nat → Nat → Option Nat}  {a0 : Nat} {a1 : Nat} {i : Int} (hW : WT (g0 G) sk L cl ln iv rv) (hS : SKL sk L cl) (t_a0 : ty L cl a0 15) (t_a1 : ty L cl a1 20) (h_i : -2147483648 ≤ i ∧ i ≤ 2147483647) (hi : 0 ≤ i ∧ i ≤ 500) : Mc l G mi (Phi (g0 G) sk) PHM yX6_fits cX6_fits 6 (some .boolean) 1 [.ref a0, .ref a1, .int (iI i)] L cl ln iv rv 0 (fun v L2 cl2 ln2 iv2 rv2 => ∃ f : Int, v = some (.int (iI f)) ∧ L = L2 ∧ cl = cl2 ∧ ln = ln2 ∧ iv = iv2 ∧ rv = rv2 ∧ (f = 0 ∨ f = 1) ∧ (FTX ln iv rv a0 a1 i f)) := by
  refine Mc.mk (by decide) (Nat.le_of_ble_eq_true rfl) ?_
  intro p e s m args below meth c A C hM
  refine hv3 (Phi.le hW hS) (show XT L cl ln L cl ln from XT.refl) (show fT [] L cl iv rv iv rv from fT.refl) (fun hph hX0 hF0 => ?_)
  refine c_iload_n (j := 2) C dX6_fits_0 rfl ?_
  refine c_aload_n (j := 1) (x := a1) C dX6_fits_1 rfl ?_
  obtain ⟨rb1, rq1, trb1⟩ := hW.ref t_a1 1 rfl rfl rfl
  have lnrb1 : 0 ≤ ln rb1 ∧ ln rb1 ≤ 8 := hW.len trb1 rfl
  refine c_getr (k := 1) C ck_6 dX6_fits_2 w3_141 (by decide) t_a1 rfl rfl (by decide) rfl rq1 ?_
  refine c_st (st2 := [.ref rb1, .int (iI i)]) rfl ?_
  have ll1 : 0 ≤ ln rb1 ∧ ln rb1 ≤ 8 := hW.len trb1 rfl
  refine c_alenI C dX6_fits_5 trb1 rfl ?_
  refine c_iadd C dX6_fits_6 ?_
  refine c_istore_n (lv2 := [(3, .int (iI (i + ((ln rb1 : Nat) : Int)))), (0, .ref a0), (1, .ref a1), (2, .int (iI i))]) C dX6_fits_7 (by decide) rfl ?_
  refine c_iload_n (j := 0) C dX6_fits_8 rfl ?_
  refine c_aload_n (j := 1) (x := a0) C dX6_fits_9 rfl ?_
  have ri1 : 0 ≤ iv a0 11 ∧ iv a0 11 ≤ 500 := hW.int t_a0 11
  refine c_get (k := 11) C ck_7 dX6_fits_10 w1_153 (by decide) t_a0 rfl rfl (by decide) rfl ?_
  refine c_icmp_le (tgt := 18) C ⟨by omega, by omega⟩ (r32_c (lo := 0) (hi := 500) ri1.1 ri1.2 (by decide) (by decide)) dX6_fits_13 (by decide) (fun c1 => ?_) (fun c1 => ?_)
  · refine c_iconst C dX6_fits_18 ?_
    refine c_istore (lv2 := [(4, .int (iI 1)), (3, .int (iI (i + ((ln rb1 : Nat) : Int)))), (0, .ref a0), (1, .ref a1), (2, .int (iI i))]) C dX6_fits_19 (by decide) rfl ?_
    have Lp1 : ∀ (nn : Nat) (k : Int) , 10 - k < (nn : Int) → (1 ≤ k ∧ k ≤ 9) → (FXI iv rv a0 a1 i k) → cw p l e 1 ((PHM) + 0 - ((Phi (g0 G) sk) ln rv)) s m args below meth c G A 6 (MQ below (Qu G A (Qp G (Phi (g0 G) sk) ((Phi (g0 G) sk) ln rv) 0 (fun v L2 cl2 ln2 iv2 rv2 => ∃ f : Int, v = some (.int (iI f)) ∧ L = L2 ∧ cl = cl2 ∧ ln = ln2 ∧ iv = iv2 ∧ rv = rv2 ∧ (f = 0 ∨ f = 1) ∧ (FTX ln iv rv a0 a1 i f)))) args s (((PHM) + 0 - ((Phi (g0 G) sk) ln rv)) / 16) ((PHM) + 0 - ((Phi (g0 G) sk) ln rv)) A) (Phi (g0 G) sk) ((Phi (g0 G) sk) ln rv) L cl ln iv rv 0 21 [(4, .int (iI k)), (3, .int (iI (i + ((ln rb1 : Nat) : Int)))), (0, .ref a0), (1, .ref a1), (2, .int (iI i))] [] := by
      intro nn
      induction nn with
      | zero =>
        intro  k  hm   hk hF
        exact absurd hm (by omega)
      | succ nn ih1 =>
        intro  k  hm   hk hF
        refine c_iload (j := 0) C dX6_fits_21 rfl ?_
        refine c_aload_n (j := 3) (x := a1) C dX6_fits_23 rfl ?_
        refine c_getr (k := 1) C ck_6 dX6_fits_24 w3_141 (by decide) t_a1 rfl rfl (by decide) rfl rq1 ?_
        refine c_st (st2 := [.ref rb1, .int (iI k)]) rfl ?_
        refine c_alenI C dX6_fits_27 trb1 rfl ?_
        refine c_icmp_ge (tgt := 58) C (r32_c (lo := 1) (hi := 9) hk.1 hk.2 (by decide) (by decide)) ⟨by omega, by omega⟩ dX6_fits_28 (by decide) (fun c2 => ?_) (fun c2 => ?_)
        · refine c_iload_n (j := 4) C dX6_fits_58 rfl ?_
          refine c_aload_n (j := 2) (x := a0) C dX6_fits_59 rfl ?_
          have ri2 : 0 ≤ iv a0 10 ∧ iv a0 10 ≤ 500 := hW.int t_a0 10
          refine c_get (k := 10) C ck_7 dX6_fits_60 w1_152 (by decide) t_a0 rfl rfl (by decide) rfl ?_
          refine c_icmp_ne (tgt := 70) C ⟨by omega, by omega⟩ (r32_c (lo := 0) (hi := 500) ri2.1 ri2.2 (by decide) (by decide)) dX6_fits_63 (by decide) (fun c3 => ?_) (fun c3 => ?_)
          · refine c_iconst C dX6_fits_70 ?_
            refine c_istore (lv2 := [(4, .int (iI 0)), (3, .int (iI (i + ((ln rb1 : Nat) : Int)))), (0, .ref a0), (1, .ref a1), (2, .int (iI i))]) C dX6_fits_71 (by decide) rfl ?_
            refine c_iload_n (j := 1) C dX6_fits_73 rfl ?_
            refine c_aload_n (j := 2) (x := a0) C dX6_fits_74 rfl ?_
            refine c_get (k := 11) C ck_7 dX6_fits_75 w1_153 (by decide) t_a0 rfl rfl (by decide) rfl ?_
            refine c_icmp_ne (tgt := 85) C ⟨by omega, by omega⟩ (r32_c (lo := 0) (hi := 500) ri1.1 ri1.2 (by decide) (by decide)) dX6_fits_78 (by decide) (fun c4 => ?_) (fun c4 => ?_)
            · refine c_iconst C dX6_fits_85 ?_
              refine c_istore (lv2 := [(5, .int (iI 0)), (4, .int (iI 0)), (3, .int (iI (i + ((ln rb1 : Nat) : Int)))), (0, .ref a0), (1, .ref a1), (2, .int (iI i))]) C dX6_fits_86 (by decide) rfl ?_
              refine c_aload_n (j := 4) (x := a1) C dX6_fits_88 rfl ?_
              have ri3 : 0 ≤ iv a1 3 ∧ iv a1 3 ≤ 5 := hW.int t_a1 3
              refine c_get (k := 3) C ck_6 dX6_fits_89 w3_150 (by decide) t_a1 rfl rfl (by decide) rfl ?_
              rcases (show (iv a1 3) = 1 ∨ (iv a1 3) = 2 ∨ (iv a1 3) = 3 ∨ (iv a1 3) = 4 ∨ (iv a1 3) = 5 ∨ ((iv a1 3) < 1 ∨ 5 < (iv a1 3)) by omega) with sw1 | sw1 | sw1 | sw1 | sw1 | sw1
              · refine c_tabIn (tgt := 128) (off := 36) C (r32_c (lo := 0) (hi := 5) ri3.1 ri3.2 (by decide) (by decide)) dX6_fits_92 (by omega) (by omega) (by rw [sw1]; rfl) (by decide) ?_
                refine c_iload (j := 1) C dX6_fits_128 rfl ?_
                obtain ⟨lb0, hlb0, tlb0⟩ := hW.ref t_a0 0 rfl rfl rfl
                exact c_zret C dX6_fits_130 rfl (Or.inl rfl) (by decide) (rom0 hph hph (by decide)) ⟨0, rfl, rfl, rfl, rfl, rfl, rfl, (Or.inl rfl), (FTX.cc hF rq1 hlb0 (by omega) (by omega) (by omega) ⟨fun q => absurd q (by decide), fun q => by unfold isD isG isS at q; omega⟩)⟩
              · refine c_tabIn (tgt := 131) (off := 39) C (r32_c (lo := 0) (hi := 5) ri3.1 ri3.2 (by decide) (by decide)) dX6_fits_92 (by omega) (by omega) (by rw [sw1]; rfl) (by decide) ?_
                refine c_iload (j := 1) C dX6_fits_131 rfl ?_
                refine c_if_ne (tgt := 145) C ⟨by decide, by decide⟩ dX6_fits_133 (by decide) (fun z => absurd z (by omega)) (fun _ => ?_)
                refine c_iload (j := 0) C dX6_fits_136 rfl ?_
                refine c_if_ne (tgt := 145) C ⟨by decide, by decide⟩ dX6_fits_138 (by decide) (fun z => absurd z (by omega)) (fun _ => ?_)
                refine c_iconst C dX6_fits_141 ?_
                refine c_goto (tgt := 146) C dX6_fits_142 (by decide) ?_
                obtain ⟨lb0, hlb0, tlb0⟩ := hW.ref t_a0 0 rfl rfl rfl
                exact c_zret C dX6_fits_146 rfl (Or.inr rfl) (by decide) (rom0 hph hph (by decide)) ⟨1, rfl, rfl, rfl, rfl, rfl, rfl, (Or.inr rfl), (FTX.cc hF rq1 hlb0 (by omega) (by omega) (by omega) ⟨fun _ => by unfold isD isG isS; omega, fun _ => rfl⟩)⟩
              · refine c_tabIn (tgt := 147) (off := 55) C (r32_c (lo := 0) (hi := 5) ri3.1 ri3.2 (by decide) (by decide)) dX6_fits_92 (by omega) (by omega) (by rw [sw1]; rfl) (by decide) ?_
                refine c_iload (j := 0) C dX6_fits_147 rfl ?_
                obtain ⟨lb0, hlb0, tlb0⟩ := hW.ref t_a0 0 rfl rfl rfl
                exact c_zret C dX6_fits_149 rfl (Or.inl rfl) (by decide) (rom0 hph hph (by decide)) ⟨0, rfl, rfl, rfl, rfl, rfl, rfl, (Or.inl rfl), (FTX.cc hF rq1 hlb0 (by omega) (by omega) (by omega) ⟨fun q => absurd q (by decide), fun q => by unfold isD isG isS at q; omega⟩)⟩
              · refine c_tabIn (tgt := 150) (off := 58) C (r32_c (lo := 0) (hi := 5) ri3.1 ri3.2 (by decide) (by decide)) dX6_fits_92 (by omega) (by omega) (by rw [sw1]; rfl) (by decide) ?_
                refine c_iload (j := 1) C dX6_fits_150 rfl ?_
                refine c_if_eq (tgt := 164) C ⟨by decide, by decide⟩ dX6_fits_152 (by decide) (fun _ => ?_) (fun z => absurd z (by omega))
                refine c_iconst C dX6_fits_164 ?_
                obtain ⟨lb0, hlb0, tlb0⟩ := hW.ref t_a0 0 rfl rfl rfl
                exact c_zret C dX6_fits_165 rfl (Or.inl rfl) (by decide) (rom0 hph hph (by decide)) ⟨0, rfl, rfl, rfl, rfl, rfl, rfl, (Or.inl rfl), (FTX.cc hF rq1 hlb0 (by omega) (by omega) (by omega) ⟨fun q => absurd q (by decide), fun q => by unfold isD isG isS at q; omega⟩)⟩
              · refine c_tabIn (tgt := 166) (off := 74) C (r32_c (lo := 0) (hi := 5) ri3.1 ri3.2 (by decide) (by decide)) dX6_fits_92 (by omega) (by omega) (by rw [sw1]; rfl) (by decide) ?_
                refine c_iload (j := 0) C dX6_fits_166 rfl ?_
                refine c_if_ne (tgt := 187) C ⟨by decide, by decide⟩ dX6_fits_168 (by decide) (fun z => absurd z (by omega)) (fun _ => ?_)
                refine c_aload_n (j := 3) (x := a0) C dX6_fits_171 rfl ?_
                obtain ⟨rb2, rq2, trb2⟩ := hW.ref t_a0 0 rfl rfl rfl
                have lnrb2 : 500 ≤ ln rb2 ∧ ln rb2 ≤ 500 := hW.len trb2 rfl
                refine c_getr (k := 0) C ck_7 dX6_fits_172 w1_136 (by decide) t_a0 rfl rfl (by decide) rfl rq2 ?_
                refine c_st (st2 := [.ref rb2]) rfl ?_
                refine c_iload_n (j := 2) C dX6_fits_175 rfl ?_
                have ll2 : 500 ≤ ln rb2 ∧ ln rb2 ≤ 500 := hW.len trb2 rfl
                refine c_iald C dX6_fits_176 trb2 rfl (by omega) (by omega) (by omega) ?_
                have ri4 : (-2147483648) ≤ iv rb2 ((i + ((ln rb1 : Nat) : Int)).toNat) ∧ iv rb2 ((i + ((ln rb1 : Nat) : Int)).toNat) ≤ 2147483647 := hW.int trb2 ((i + ((ln rb1 : Nat) : Int)).toNat)
                refine c_callS0 (As := [.int (iI (iv rb2 (i + ((ln rb1 : Nat) : Int)).toNat))]) (rest := []) C (fun L E => s6_isSign (iI (iv rb2 (i + ((ln rb1 : Nat) : Int)).toNat))) dX6_fits_177 kS_X6_156 rfl rfl (Nat.le_of_ble_eq_true rfl) ⟨(Nat.le_of_ble_eq_true rfl), (Nat.le_of_ble_eq_true rfl)⟩ (rom0 hph hph (by decide)) ?_
                obtain ⟨sg1, hsg1, esg1⟩ := sgn_c (iI (iv rb2 (i + ((ln rb1 : Nat) : Int)).toNat))
                refine c_st (st2 := [.int (iI sg1)]) (by rw [esg1]) ?_
                refine c_if_eq (tgt := 187) C ⟨by omega, by omega⟩ dX6_fits_180 (by decide) (fun c5 => ?_) (fun c5 => ?_)
                · refine c_iconst C dX6_fits_187 ?_
                  have sq := sgn_i (by omega) (by omega) esg1
                  exact c_zret C dX6_fits_188 rfl (Or.inl rfl) (by decide) (rom0 hph hph (by decide)) ⟨0, rfl, rfl, rfl, rfl, rfl, rfl, (Or.inl rfl), (FTX.cc hF rq1 rq2 (by omega) (by omega) (by omega) ⟨fun q => absurd q (by decide), fun q => by
                      rcases q with q | q | q | q | q | q
                      · omega
                      · omega
                      · omega
                      · omega
                      · omega
                      · have q2 := sq.mpr q.2.2
                        omega⟩)⟩
                · refine c_iconst C dX6_fits_183 ?_
                  refine c_goto (tgt := 188) C dX6_fits_184 (by decide) ?_
                  have sq := sgn_i (by omega) (by omega) esg1
                  exact c_zret C dX6_fits_188 rfl (Or.inr rfl) (by decide) (rom0 hph hph (by decide)) ⟨1, rfl, rfl, rfl, rfl, rfl, rfl, (Or.inr rfl), (FTX.cc hF rq1 rq2 (by omega) (by omega) (by omega) ⟨fun _ => Or.inr (Or.inr (Or.inr (Or.inr (Or.inr ⟨by omega, by omega, sq.mp (by omega)⟩)))), fun _ => rfl⟩)⟩
              · refine c_tabOut (tgt := 189) C (r32_c (lo := 0) (hi := 5) ri3.1 ri3.2 (by decide) (by decide)) dX6_fits_92 sw1 (by decide) ?_
                refine c_iconst C dX6_fits_189 ?_
                obtain ⟨lb0, hlb0, tlb0⟩ := hW.ref t_a0 0 rfl rfl rfl
                exact c_zret C dX6_fits_190 rfl (Or.inr rfl) (by decide) (rom0 hph hph (by decide)) ⟨1, rfl, rfl, rfl, rfl, rfl, rfl, (Or.inr rfl), (FTX.cc hF rq1 hlb0 (by omega) (by omega) (by omega) ⟨fun _ => by unfold isD isG isS; omega, fun _ => rfl⟩)⟩
            · refine c_iconst C dX6_fits_81 ?_
              refine c_goto (tgt := 86) C dX6_fits_82 (by decide) ?_
              refine c_istore (lv2 := [(5, .int (iI 1)), (4, .int (iI 0)), (3, .int (iI (i + ((ln rb1 : Nat) : Int)))), (0, .ref a0), (1, .ref a1), (2, .int (iI i))]) C dX6_fits_86 (by decide) rfl ?_
              refine c_aload_n (j := 4) (x := a1) C dX6_fits_88 rfl ?_
              have ri5 : 0 ≤ iv a1 3 ∧ iv a1 3 ≤ 5 := hW.int t_a1 3
              refine c_get (k := 3) C ck_6 dX6_fits_89 w3_150 (by decide) t_a1 rfl rfl (by decide) rfl ?_
              rcases (show (iv a1 3) = 1 ∨ (iv a1 3) = 2 ∨ (iv a1 3) = 3 ∨ (iv a1 3) = 4 ∨ (iv a1 3) = 5 ∨ ((iv a1 3) < 1 ∨ 5 < (iv a1 3)) by omega) with sw2 | sw2 | sw2 | sw2 | sw2 | sw2
              · refine c_tabIn (tgt := 128) (off := 36) C (r32_c (lo := 0) (hi := 5) ri5.1 ri5.2 (by decide) (by decide)) dX6_fits_92 (by omega) (by omega) (by rw [sw2]; rfl) (by decide) ?_
                refine c_iload (j := 1) C dX6_fits_128 rfl ?_
                obtain ⟨lb0, hlb0, tlb0⟩ := hW.ref t_a0 0 rfl rfl rfl
                exact c_zret C dX6_fits_130 rfl (Or.inl rfl) (by decide) (rom0 hph hph (by decide)) ⟨0, rfl, rfl, rfl, rfl, rfl, rfl, (Or.inl rfl), (FTX.cc hF rq1 hlb0 (by omega) (by omega) (by omega) ⟨fun q => absurd q (by decide), fun q => by unfold isD isG isS at q; omega⟩)⟩
              · refine c_tabIn (tgt := 131) (off := 39) C (r32_c (lo := 0) (hi := 5) ri5.1 ri5.2 (by decide) (by decide)) dX6_fits_92 (by omega) (by omega) (by rw [sw2]; rfl) (by decide) ?_
                refine c_iload (j := 1) C dX6_fits_131 rfl ?_
                refine c_if_ne (tgt := 145) C ⟨by decide, by decide⟩ dX6_fits_133 (by decide) (fun z => absurd z (by omega)) (fun _ => ?_)
                refine c_iload (j := 0) C dX6_fits_136 rfl ?_
                refine c_if_ne (tgt := 145) C ⟨by decide, by decide⟩ dX6_fits_138 (by decide) (fun _ => ?_) (fun z => absurd z (by omega))
                refine c_iconst C dX6_fits_145 ?_
                obtain ⟨lb0, hlb0, tlb0⟩ := hW.ref t_a0 0 rfl rfl rfl
                exact c_zret C dX6_fits_146 rfl (Or.inl rfl) (by decide) (rom0 hph hph (by decide)) ⟨0, rfl, rfl, rfl, rfl, rfl, rfl, (Or.inl rfl), (FTX.cc hF rq1 hlb0 (by omega) (by omega) (by omega) ⟨fun q => absurd q (by decide), fun q => by unfold isD isG isS at q; omega⟩)⟩
              · refine c_tabIn (tgt := 147) (off := 55) C (r32_c (lo := 0) (hi := 5) ri5.1 ri5.2 (by decide) (by decide)) dX6_fits_92 (by omega) (by omega) (by rw [sw2]; rfl) (by decide) ?_
                refine c_iload (j := 0) C dX6_fits_147 rfl ?_
                obtain ⟨lb0, hlb0, tlb0⟩ := hW.ref t_a0 0 rfl rfl rfl
                exact c_zret C dX6_fits_149 rfl (Or.inr rfl) (by decide) (rom0 hph hph (by decide)) ⟨1, rfl, rfl, rfl, rfl, rfl, rfl, (Or.inr rfl), (FTX.cc hF rq1 hlb0 (by omega) (by omega) (by omega) ⟨fun _ => by unfold isD isG isS; omega, fun _ => rfl⟩)⟩
              · refine c_tabIn (tgt := 150) (off := 58) C (r32_c (lo := 0) (hi := 5) ri5.1 ri5.2 (by decide) (by decide)) dX6_fits_92 (by omega) (by omega) (by rw [sw2]; rfl) (by decide) ?_
                refine c_iload (j := 1) C dX6_fits_150 rfl ?_
                refine c_if_eq (tgt := 164) C ⟨by decide, by decide⟩ dX6_fits_152 (by decide) (fun _ => ?_) (fun z => absurd z (by omega))
                refine c_iconst C dX6_fits_164 ?_
                obtain ⟨lb0, hlb0, tlb0⟩ := hW.ref t_a0 0 rfl rfl rfl
                exact c_zret C dX6_fits_165 rfl (Or.inl rfl) (by decide) (rom0 hph hph (by decide)) ⟨0, rfl, rfl, rfl, rfl, rfl, rfl, (Or.inl rfl), (FTX.cc hF rq1 hlb0 (by omega) (by omega) (by omega) ⟨fun q => absurd q (by decide), fun q => by unfold isD isG isS at q; omega⟩)⟩
              · refine c_tabIn (tgt := 166) (off := 74) C (r32_c (lo := 0) (hi := 5) ri5.1 ri5.2 (by decide) (by decide)) dX6_fits_92 (by omega) (by omega) (by rw [sw2]; rfl) (by decide) ?_
                refine c_iload (j := 0) C dX6_fits_166 rfl ?_
                refine c_if_ne (tgt := 187) C ⟨by decide, by decide⟩ dX6_fits_168 (by decide) (fun _ => ?_) (fun z => absurd z (by omega))
                refine c_iconst C dX6_fits_187 ?_
                obtain ⟨lb0, hlb0, tlb0⟩ := hW.ref t_a0 0 rfl rfl rfl
                exact c_zret C dX6_fits_188 rfl (Or.inl rfl) (by decide) (rom0 hph hph (by decide)) ⟨0, rfl, rfl, rfl, rfl, rfl, rfl, (Or.inl rfl), (FTX.cc hF rq1 hlb0 (by omega) (by omega) (by omega) ⟨fun q => absurd q (by decide), fun q => by unfold isD isG isS at q; omega⟩)⟩
              · refine c_tabOut (tgt := 189) C (r32_c (lo := 0) (hi := 5) ri5.1 ri5.2 (by decide) (by decide)) dX6_fits_92 sw2 (by decide) ?_
                refine c_iconst C dX6_fits_189 ?_
                obtain ⟨lb0, hlb0, tlb0⟩ := hW.ref t_a0 0 rfl rfl rfl
                exact c_zret C dX6_fits_190 rfl (Or.inr rfl) (by decide) (rom0 hph hph (by decide)) ⟨1, rfl, rfl, rfl, rfl, rfl, rfl, (Or.inr rfl), (FTX.cc hF rq1 hlb0 (by omega) (by omega) (by omega) ⟨fun _ => by unfold isD isG isS; omega, fun _ => rfl⟩)⟩
          · refine c_iconst C dX6_fits_66 ?_
            refine c_goto (tgt := 71) C dX6_fits_67 (by decide) ?_
            refine c_istore (lv2 := [(4, .int (iI 1)), (3, .int (iI (i + ((ln rb1 : Nat) : Int)))), (0, .ref a0), (1, .ref a1), (2, .int (iI i))]) C dX6_fits_71 (by decide) rfl ?_
            refine c_iload_n (j := 1) C dX6_fits_73 rfl ?_
            refine c_aload_n (j := 2) (x := a0) C dX6_fits_74 rfl ?_
            refine c_get (k := 11) C ck_7 dX6_fits_75 w1_153 (by decide) t_a0 rfl rfl (by decide) rfl ?_
            refine c_icmp_ne (tgt := 85) C ⟨by omega, by omega⟩ (r32_c (lo := 0) (hi := 500) ri1.1 ri1.2 (by decide) (by decide)) dX6_fits_78 (by decide) (fun c6 => ?_) (fun c6 => ?_)
            · refine c_iconst C dX6_fits_85 ?_
              refine c_istore (lv2 := [(5, .int (iI 0)), (4, .int (iI 1)), (3, .int (iI (i + ((ln rb1 : Nat) : Int)))), (0, .ref a0), (1, .ref a1), (2, .int (iI i))]) C dX6_fits_86 (by decide) rfl ?_
              refine c_aload_n (j := 4) (x := a1) C dX6_fits_88 rfl ?_
              have ri6 : 0 ≤ iv a1 3 ∧ iv a1 3 ≤ 5 := hW.int t_a1 3
              refine c_get (k := 3) C ck_6 dX6_fits_89 w3_150 (by decide) t_a1 rfl rfl (by decide) rfl ?_
              rcases (show (iv a1 3) = 1 ∨ (iv a1 3) = 2 ∨ (iv a1 3) = 3 ∨ (iv a1 3) = 4 ∨ (iv a1 3) = 5 ∨ ((iv a1 3) < 1 ∨ 5 < (iv a1 3)) by omega) with sw3 | sw3 | sw3 | sw3 | sw3 | sw3
              · refine c_tabIn (tgt := 128) (off := 36) C (r32_c (lo := 0) (hi := 5) ri6.1 ri6.2 (by decide) (by decide)) dX6_fits_92 (by omega) (by omega) (by rw [sw3]; rfl) (by decide) ?_
                refine c_iload (j := 1) C dX6_fits_128 rfl ?_
                obtain ⟨lb0, hlb0, tlb0⟩ := hW.ref t_a0 0 rfl rfl rfl
                exact c_zret C dX6_fits_130 rfl (Or.inr rfl) (by decide) (rom0 hph hph (by decide)) ⟨1, rfl, rfl, rfl, rfl, rfl, rfl, (Or.inr rfl), (FTX.cc hF rq1 hlb0 (by omega) (by omega) (by omega) ⟨fun _ => by unfold isD isG isS; omega, fun _ => rfl⟩)⟩
              · refine c_tabIn (tgt := 131) (off := 39) C (r32_c (lo := 0) (hi := 5) ri6.1 ri6.2 (by decide) (by decide)) dX6_fits_92 (by omega) (by omega) (by rw [sw3]; rfl) (by decide) ?_
                refine c_iload (j := 1) C dX6_fits_131 rfl ?_
                refine c_if_ne (tgt := 145) C ⟨by decide, by decide⟩ dX6_fits_133 (by decide) (fun _ => ?_) (fun z => absurd z (by omega))
                refine c_iconst C dX6_fits_145 ?_
                obtain ⟨lb0, hlb0, tlb0⟩ := hW.ref t_a0 0 rfl rfl rfl
                exact c_zret C dX6_fits_146 rfl (Or.inl rfl) (by decide) (rom0 hph hph (by decide)) ⟨0, rfl, rfl, rfl, rfl, rfl, rfl, (Or.inl rfl), (FTX.cc hF rq1 hlb0 (by omega) (by omega) (by omega) ⟨fun q => absurd q (by decide), fun q => by unfold isD isG isS at q; omega⟩)⟩
              · refine c_tabIn (tgt := 147) (off := 55) C (r32_c (lo := 0) (hi := 5) ri6.1 ri6.2 (by decide) (by decide)) dX6_fits_92 (by omega) (by omega) (by rw [sw3]; rfl) (by decide) ?_
                refine c_iload (j := 0) C dX6_fits_147 rfl ?_
                obtain ⟨lb0, hlb0, tlb0⟩ := hW.ref t_a0 0 rfl rfl rfl
                exact c_zret C dX6_fits_149 rfl (Or.inl rfl) (by decide) (rom0 hph hph (by decide)) ⟨0, rfl, rfl, rfl, rfl, rfl, rfl, (Or.inl rfl), (FTX.cc hF rq1 hlb0 (by omega) (by omega) (by omega) ⟨fun q => absurd q (by decide), fun q => by unfold isD isG isS at q; omega⟩)⟩
              · refine c_tabIn (tgt := 150) (off := 58) C (r32_c (lo := 0) (hi := 5) ri6.1 ri6.2 (by decide) (by decide)) dX6_fits_92 (by omega) (by omega) (by rw [sw3]; rfl) (by decide) ?_
                refine c_iload (j := 1) C dX6_fits_150 rfl ?_
                refine c_if_eq (tgt := 164) C ⟨by decide, by decide⟩ dX6_fits_152 (by decide) (fun z => absurd z (by omega)) (fun _ => ?_)
                refine c_iload (j := 0) C dX6_fits_155 rfl ?_
                refine c_if_eq (tgt := 164) C ⟨by decide, by decide⟩ dX6_fits_157 (by decide) (fun _ => ?_) (fun z => absurd z (by omega))
                refine c_iconst C dX6_fits_164 ?_
                obtain ⟨lb0, hlb0, tlb0⟩ := hW.ref t_a0 0 rfl rfl rfl
                exact c_zret C dX6_fits_165 rfl (Or.inl rfl) (by decide) (rom0 hph hph (by decide)) ⟨0, rfl, rfl, rfl, rfl, rfl, rfl, (Or.inl rfl), (FTX.cc hF rq1 hlb0 (by omega) (by omega) (by omega) ⟨fun q => absurd q (by decide), fun q => by unfold isD isG isS at q; omega⟩)⟩
              · refine c_tabIn (tgt := 166) (off := 74) C (r32_c (lo := 0) (hi := 5) ri6.1 ri6.2 (by decide) (by decide)) dX6_fits_92 (by omega) (by omega) (by rw [sw3]; rfl) (by decide) ?_
                refine c_iload (j := 0) C dX6_fits_166 rfl ?_
                refine c_if_ne (tgt := 187) C ⟨by decide, by decide⟩ dX6_fits_168 (by decide) (fun z => absurd z (by omega)) (fun _ => ?_)
                refine c_aload_n (j := 3) (x := a0) C dX6_fits_171 rfl ?_
                obtain ⟨rb3, rq3, trb3⟩ := hW.ref t_a0 0 rfl rfl rfl
                have lnrb3 : 500 ≤ ln rb3 ∧ ln rb3 ≤ 500 := hW.len trb3 rfl
                refine c_getr (k := 0) C ck_7 dX6_fits_172 w1_136 (by decide) t_a0 rfl rfl (by decide) rfl rq3 ?_
                refine c_st (st2 := [.ref rb3]) rfl ?_
                refine c_iload_n (j := 2) C dX6_fits_175 rfl ?_
                have ll3 : 500 ≤ ln rb3 ∧ ln rb3 ≤ 500 := hW.len trb3 rfl
                refine c_iald C dX6_fits_176 trb3 rfl (by omega) (by omega) (by omega) ?_
                have ri7 : (-2147483648) ≤ iv rb3 ((i + ((ln rb1 : Nat) : Int)).toNat) ∧ iv rb3 ((i + ((ln rb1 : Nat) : Int)).toNat) ≤ 2147483647 := hW.int trb3 ((i + ((ln rb1 : Nat) : Int)).toNat)
                refine c_callS0 (As := [.int (iI (iv rb3 (i + ((ln rb1 : Nat) : Int)).toNat))]) (rest := []) C (fun L E => s6_isSign (iI (iv rb3 (i + ((ln rb1 : Nat) : Int)).toNat))) dX6_fits_177 kS_X6_156 rfl rfl (Nat.le_of_ble_eq_true rfl) ⟨(Nat.le_of_ble_eq_true rfl), (Nat.le_of_ble_eq_true rfl)⟩ (rom0 hph hph (by decide)) ?_
                obtain ⟨sg2, hsg2, esg2⟩ := sgn_c (iI (iv rb3 (i + ((ln rb1 : Nat) : Int)).toNat))
                refine c_st (st2 := [.int (iI sg2)]) (by rw [esg2]) ?_
                refine c_if_eq (tgt := 187) C ⟨by omega, by omega⟩ dX6_fits_180 (by decide) (fun c7 => ?_) (fun c7 => ?_)
                · refine c_iconst C dX6_fits_187 ?_
                  have sq := sgn_i (by omega) (by omega) esg2
                  exact c_zret C dX6_fits_188 rfl (Or.inl rfl) (by decide) (rom0 hph hph (by decide)) ⟨0, rfl, rfl, rfl, rfl, rfl, rfl, (Or.inl rfl), (FTX.cc hF rq1 rq3 (by omega) (by omega) (by omega) ⟨fun q => absurd q (by decide), fun q => by
                      rcases q with q | q | q | q | q | q
                      · omega
                      · omega
                      · omega
                      · omega
                      · omega
                      · have q2 := sq.mpr q.2.2
                        omega⟩)⟩
                · refine c_iconst C dX6_fits_183 ?_
                  refine c_goto (tgt := 188) C dX6_fits_184 (by decide) ?_
                  have sq := sgn_i (by omega) (by omega) esg2
                  exact c_zret C dX6_fits_188 rfl (Or.inr rfl) (by decide) (rom0 hph hph (by decide)) ⟨1, rfl, rfl, rfl, rfl, rfl, rfl, (Or.inr rfl), (FTX.cc hF rq1 rq3 (by omega) (by omega) (by omega) ⟨fun _ => Or.inr (Or.inr (Or.inr (Or.inr (Or.inr ⟨by omega, by omega, sq.mp (by omega)⟩)))), fun _ => rfl⟩)⟩
              · refine c_tabOut (tgt := 189) C (r32_c (lo := 0) (hi := 5) ri6.1 ri6.2 (by decide) (by decide)) dX6_fits_92 sw3 (by decide) ?_
                refine c_iconst C dX6_fits_189 ?_
                obtain ⟨lb0, hlb0, tlb0⟩ := hW.ref t_a0 0 rfl rfl rfl
                exact c_zret C dX6_fits_190 rfl (Or.inr rfl) (by decide) (rom0 hph hph (by decide)) ⟨1, rfl, rfl, rfl, rfl, rfl, rfl, (Or.inr rfl), (FTX.cc hF rq1 hlb0 (by omega) (by omega) (by omega) ⟨fun _ => by unfold isD isG isS; omega, fun _ => rfl⟩)⟩
            · refine c_iconst C dX6_fits_81 ?_
              refine c_goto (tgt := 86) C dX6_fits_82 (by decide) ?_
              refine c_istore (lv2 := [(5, .int (iI 1)), (4, .int (iI 1)), (3, .int (iI (i + ((ln rb1 : Nat) : Int)))), (0, .ref a0), (1, .ref a1), (2, .int (iI i))]) C dX6_fits_86 (by decide) rfl ?_
              refine c_aload_n (j := 4) (x := a1) C dX6_fits_88 rfl ?_
              have ri8 : 0 ≤ iv a1 3 ∧ iv a1 3 ≤ 5 := hW.int t_a1 3
              refine c_get (k := 3) C ck_6 dX6_fits_89 w3_150 (by decide) t_a1 rfl rfl (by decide) rfl ?_
              rcases (show (iv a1 3) = 1 ∨ (iv a1 3) = 2 ∨ (iv a1 3) = 3 ∨ (iv a1 3) = 4 ∨ (iv a1 3) = 5 ∨ ((iv a1 3) < 1 ∨ 5 < (iv a1 3)) by omega) with sw4 | sw4 | sw4 | sw4 | sw4 | sw4
              · refine c_tabIn (tgt := 128) (off := 36) C (r32_c (lo := 0) (hi := 5) ri8.1 ri8.2 (by decide) (by decide)) dX6_fits_92 (by omega) (by omega) (by rw [sw4]; rfl) (by decide) ?_
                refine c_iload (j := 1) C dX6_fits_128 rfl ?_
                obtain ⟨lb0, hlb0, tlb0⟩ := hW.ref t_a0 0 rfl rfl rfl
                exact c_zret C dX6_fits_130 rfl (Or.inr rfl) (by decide) (rom0 hph hph (by decide)) ⟨1, rfl, rfl, rfl, rfl, rfl, rfl, (Or.inr rfl), (FTX.cc hF rq1 hlb0 (by omega) (by omega) (by omega) ⟨fun _ => by unfold isD isG isS; omega, fun _ => rfl⟩)⟩
              · refine c_tabIn (tgt := 131) (off := 39) C (r32_c (lo := 0) (hi := 5) ri8.1 ri8.2 (by decide) (by decide)) dX6_fits_92 (by omega) (by omega) (by rw [sw4]; rfl) (by decide) ?_
                refine c_iload (j := 1) C dX6_fits_131 rfl ?_
                refine c_if_ne (tgt := 145) C ⟨by decide, by decide⟩ dX6_fits_133 (by decide) (fun _ => ?_) (fun z => absurd z (by omega))
                refine c_iconst C dX6_fits_145 ?_
                obtain ⟨lb0, hlb0, tlb0⟩ := hW.ref t_a0 0 rfl rfl rfl
                exact c_zret C dX6_fits_146 rfl (Or.inl rfl) (by decide) (rom0 hph hph (by decide)) ⟨0, rfl, rfl, rfl, rfl, rfl, rfl, (Or.inl rfl), (FTX.cc hF rq1 hlb0 (by omega) (by omega) (by omega) ⟨fun q => absurd q (by decide), fun q => by unfold isD isG isS at q; omega⟩)⟩
              · refine c_tabIn (tgt := 147) (off := 55) C (r32_c (lo := 0) (hi := 5) ri8.1 ri8.2 (by decide) (by decide)) dX6_fits_92 (by omega) (by omega) (by rw [sw4]; rfl) (by decide) ?_
                refine c_iload (j := 0) C dX6_fits_147 rfl ?_
                obtain ⟨lb0, hlb0, tlb0⟩ := hW.ref t_a0 0 rfl rfl rfl
                exact c_zret C dX6_fits_149 rfl (Or.inr rfl) (by decide) (rom0 hph hph (by decide)) ⟨1, rfl, rfl, rfl, rfl, rfl, rfl, (Or.inr rfl), (FTX.cc hF rq1 hlb0 (by omega) (by omega) (by omega) ⟨fun _ => by unfold isD isG isS; omega, fun _ => rfl⟩)⟩
              · refine c_tabIn (tgt := 150) (off := 58) C (r32_c (lo := 0) (hi := 5) ri8.1 ri8.2 (by decide) (by decide)) dX6_fits_92 (by omega) (by omega) (by rw [sw4]; rfl) (by decide) ?_
                refine c_iload (j := 1) C dX6_fits_150 rfl ?_
                refine c_if_eq (tgt := 164) C ⟨by decide, by decide⟩ dX6_fits_152 (by decide) (fun z => absurd z (by omega)) (fun _ => ?_)
                refine c_iload (j := 0) C dX6_fits_155 rfl ?_
                refine c_if_eq (tgt := 164) C ⟨by decide, by decide⟩ dX6_fits_157 (by decide) (fun z => absurd z (by omega)) (fun _ => ?_)
                refine c_iconst C dX6_fits_160 ?_
                refine c_goto (tgt := 165) C dX6_fits_161 (by decide) ?_
                obtain ⟨lb0, hlb0, tlb0⟩ := hW.ref t_a0 0 rfl rfl rfl
                exact c_zret C dX6_fits_165 rfl (Or.inr rfl) (by decide) (rom0 hph hph (by decide)) ⟨1, rfl, rfl, rfl, rfl, rfl, rfl, (Or.inr rfl), (FTX.cc hF rq1 hlb0 (by omega) (by omega) (by omega) ⟨fun _ => by unfold isD isG isS; omega, fun _ => rfl⟩)⟩
              · refine c_tabIn (tgt := 166) (off := 74) C (r32_c (lo := 0) (hi := 5) ri8.1 ri8.2 (by decide) (by decide)) dX6_fits_92 (by omega) (by omega) (by rw [sw4]; rfl) (by decide) ?_
                refine c_iload (j := 0) C dX6_fits_166 rfl ?_
                refine c_if_ne (tgt := 187) C ⟨by decide, by decide⟩ dX6_fits_168 (by decide) (fun _ => ?_) (fun z => absurd z (by omega))
                refine c_iconst C dX6_fits_187 ?_
                obtain ⟨lb0, hlb0, tlb0⟩ := hW.ref t_a0 0 rfl rfl rfl
                exact c_zret C dX6_fits_188 rfl (Or.inl rfl) (by decide) (rom0 hph hph (by decide)) ⟨0, rfl, rfl, rfl, rfl, rfl, rfl, (Or.inl rfl), (FTX.cc hF rq1 hlb0 (by omega) (by omega) (by omega) ⟨fun q => absurd q (by decide), fun q => by unfold isD isG isS at q; omega⟩)⟩
              · refine c_tabOut (tgt := 189) C (r32_c (lo := 0) (hi := 5) ri8.1 ri8.2 (by decide) (by decide)) dX6_fits_92 sw4 (by decide) ?_
                refine c_iconst C dX6_fits_189 ?_
                obtain ⟨lb0, hlb0, tlb0⟩ := hW.ref t_a0 0 rfl rfl rfl
                exact c_zret C dX6_fits_190 rfl (Or.inr rfl) (by decide) (rom0 hph hph (by decide)) ⟨1, rfl, rfl, rfl, rfl, rfl, rfl, (Or.inr rfl), (FTX.cc hF rq1 hlb0 (by omega) (by omega) (by omega) ⟨fun _ => by unfold isD isG isS; omega, fun _ => rfl⟩)⟩
        · refine c_aload_n (j := 3) (x := a1) C dX6_fits_31 rfl ?_
          refine c_getr (k := 1) C ck_6 dX6_fits_32 w3_141 (by decide) t_a1 rfl rfl (by decide) rfl rq1 ?_
          refine c_st (st2 := [.ref rb1]) rfl ?_
          refine c_iload (j := 0) C dX6_fits_35 rfl ?_
          refine c_iald C dX6_fits_37 trb1 rfl (by omega) (by omega) (by omega) ?_
          have ri9 : (-2147483648) ≤ iv rb1 k.toNat ∧ iv rb1 k.toNat ≤ 2147483647 := hW.int trb1 k.toNat
          refine c_aload_n (j := 2) (x := a0) C dX6_fits_38 rfl ?_
          obtain ⟨rb4, rq4, trb4⟩ := hW.ref t_a0 0 rfl rfl rfl
          have lnrb4 : 500 ≤ ln rb4 ∧ ln rb4 ≤ 500 := hW.len trb4 rfl
          refine c_getr (k := 0) C ck_7 dX6_fits_39 w1_136 (by decide) t_a0 rfl rfl (by decide) rfl rq4 ?_
          refine c_st (st2 := [.ref rb4, .int (iI (iv rb1 k.toNat))]) rfl ?_
          refine c_iload_n (j := 4) C dX6_fits_42 rfl ?_
          refine c_iload (j := 0) C dX6_fits_43 rfl ?_
          refine c_iadd C dX6_fits_45 ?_
          have ll4 : 500 ≤ ln rb4 ∧ ln rb4 ≤ 500 := hW.len trb4 rfl
          refine c_iald C dX6_fits_46 trb4 rfl (by omega) (by omega) (by omega) ?_
          have ri10 : (-2147483648) ≤ iv rb4 ((i + k).toNat) ∧ iv rb4 ((i + k).toNat) ≤ 2147483647 := hW.int trb4 ((i + k).toNat)
          refine c_icmp_eq (tgt := 52) C (r32_c (lo := (-2147483648)) (hi := 2147483647) ri9.1 ri9.2 (by decide) (by decide)) ⟨by omega, by omega⟩ dX6_fits_47 (by decide) (fun c8 => ?_) (fun c8 => ?_)
          · refine c_iinc (z := k) (j := 0) (lv2 := [(4, .int (iI (k + 1))), (3, .int (iI (i + ((ln rb1 : Nat) : Int)))), (0, .ref a0), (1, .ref a1), (2, .int (iI i))]) C dX6_fits_52 rfl (by decide) rfl ?_
            refine c_goto (tgt := 21) C dX6_fits_55 (by decide) ?_
            refine c_lv (lv2 := [(4, .int (iI (k + 1))), (3, .int (iI (i + ((ln rb1 : Nat) : Int)))), (0, .ref a0), (1, .ref a1), (2, .int (iI i))]) [0, 1, 2, 3, 4] rfl ?_
            exact ih1  (k + 1)  (by omega)   (by omega) (hF.step rq1 rq4 (by omega))
          · refine c_iconst C dX6_fits_50 ?_
            refine hv2 (show 0 ≤ iv a1 3 ∧ iv a1 3 ≤ 5 from hW.int t_a1 3) (show 0 ≤ iv a0 10 ∧ iv a0 10 ≤ 500 from hW.int t_a0 10) (fun ri11 ri12 => ?_)
            exact c_zret C dX6_fits_51 rfl (Or.inl rfl) (by decide) (rom0 hph hph (by decide)) ⟨0, rfl, rfl, rfl, rfl, rfl, rfl, (Or.inl rfl), (FTX.n2 (k := k) rq1 rq4 ⟨by omega, by omega⟩ (by omega) (by omega))⟩
    refine c_lv (lv2 := [(4, .int (iI 1)), (3, .int (iI (i + ((ln rb1 : Nat) : Int)))), (0, .ref a0), (1, .ref a1), (2, .int (iI i))]) [0, 1, 2, 3, 4] rfl ?_
    exact Lp1 10 1  (by omega)   (by omega) FXI.zero
  · refine c_iconst C dX6_fits_16 ?_
    refine hv2 (show 0 ≤ iv a1 3 ∧ iv a1 3 ≤ 5 from hW.int t_a1 3) (show 0 ≤ iv a0 10 ∧ iv a0 10 ≤ 500 from hW.int t_a0 10) (fun ri13 ri14 => ?_)
    exact c_zret C dX6_fits_17 rfl (Or.inl rfl) (by decide) (rom0 hph hph (by decide)) ⟨0, rfl, rfl, rfl, rfl, rfl, rfl, (Or.inl rfl), (FTX.n1 rq1 (by omega))⟩
set_option maxHeartbeats 4000000 in
set_option maxRecDepth 100000 in
theorem G_findOwn {l : Launch} {G : GT} {mi : Nat} {sk : Nat → Nat} {L : List Nat} {cl ln : Nat → Nat} {iv : Nat → Nat → Int} {rv : Nat → Nat → Option Nat}  {a0 : Nat} {a1 : Nat} {i : Int} {x : Int} {r : Option Nat} (hW : WT (g0 G) sk L cl ln iv rv) (hS : SKL sk L cl) (t_a0 : ty L cl a0 15) (t_a1 : ty L cl a1 100) (t_r : ∀ b, r = some b → ty L cl b 20) (h_i : -2147483648 ≤ i ∧ i ≤ 2147483647) (h_x : -2147483648 ≤ x ∧ x ≤ 2147483647) (hi : 0 ≤ i ∧ i ≤ 500) : Mc l G mi (Phi (g0 G) sk) PHM yX6_findOwn cX6_findOwn 11 (some (.object "DotPress$Row")) 3 [.ref a0, .ref a1, .int (iI i), .int (iI x), va_rf r] L cl ln iv rv 0 (fun v L2 cl2 ln2 iv2 rv2 => ∃ f : Option Nat, v = some ((va_rf f)) ∧ L = L2 ∧ cl = cl2 ∧ ln = ln2 ∧ iv = iv2 ∧ rv = rv2 ∧ (∀ b, f = some b → ty L2 cl2 b 20) ∧ (FOX sk ln iv rv a0 a1 i x r f)) := by
  refine Mc.mk (by decide) (by cases r <;> exact Nat.le_of_ble_eq_true rfl) ?_
  intro p e s m args below meth c A C hM
  have hph := Phi.le hW hS
  refine c_lveq (show lv_args 0 [.ref a0, .ref a1, .int (iI i), .int (iI x), va_rf r] = [(0, .ref a0), (1, .ref a1), (2, .int (iI i)), (3, .int (iI x)), (4, (va_rf r))] from by cases r <;> rfl) ?_
  refine hv2 (show XT L cl ln L cl ln from XT.refl) (show fT [] L cl iv rv iv rv from fT.refl) (fun hX0 hF0 => ?_)
  refine c_aloadr (j := 4) (r := r) C dX6_findOwn_0 rfl ?_
  refine c_astorer (r := r) (lv2 := [(5, (va_rf r)), (0, .ref a0), (1, .ref a1), (2, .int (iI i)), (3, .int (iI x)), (4, (va_rf r))]) C dX6_findOwn_2 (by decide) (by cases r <;> rfl) ?_
  refine c_aloadr (j := 0) (r := r) C dX6_findOwn_4 rfl ?_
  refine c_ifnonnull (r := r) (tgt := 13) C dX6_findOwn_6 (by decide) (fun ob1 oq1 => ?_) (fun oq1 => ?_)
  · subst oq1
    have tob1 := t_r ob1 rfl
    refine c_lv (lv2 := [(5, .ref ob1), (0, .ref a0), (1, .ref a1), (2, .int (iI i)), (3, .int (iI x)), (4, .ref ob1)]) [0, 1, 2, 3, 4, 5] rfl ?_
    refine c_st (st2 := []) rfl ?_
    refine c_aload (j := 0) (x := ob1) C dX6_findOwn_13 rfl ?_
    obtain ⟨rb1, rq1, trb1⟩ := hW.ref tob1 1 rfl rfl rfl
    have lnrb1 : 0 ≤ ln rb1 ∧ ln rb1 ≤ 8 := hW.len trb1 rfl
    refine c_getr (k := 1) C ck_6 dX6_findOwn_15 w3_141 (by decide) tob1 rfl rfl (by decide) rfl rq1 ?_
    refine c_st (st2 := [.ref rb1]) rfl ?_
    have ll1 : 0 ≤ ln rb1 ∧ ln rb1 ≤ 8 := hW.len trb1 rfl
    refine c_alenI C dX6_findOwn_18 trb1 rfl ?_
    refine c_istore (lv2 := [(6, .int (iI ((ln rb1 : Nat) : Int))), (5, .ref ob1), (0, .ref a0), (1, .ref a1), (2, .int (iI i)), (3, .int (iI x)), (4, .ref ob1)]) C dX6_findOwn_19 (by decide) rfl ?_
    refine c_aload_n (j := 3) (x := a1) C dX6_findOwn_21 rfl ?_
    obtain ⟨rb2, rq2, trb2⟩ := hW.ref t_a1 5 rfl rfl rfl
    refine c_getr (k := 5) C ck_10 dX6_findOwn_22 w2_191 (by decide) t_a1 rfl rfl (by decide) rfl rq2 ?_
    refine c_st (st2 := [.ref rb2]) rfl ?_
    have ri1 : 0 ≤ iv rb2 2 ∧ iv rb2 2 ≤ 200 := hW.int trb2 2
    refine c_get (k := 2) C ck_2 dX6_findOwn_25 w1_47 (by decide) trb2 rfl rfl (by decide) rfl ?_
    refine c_aload_n (j := 3) (x := a1) C dX6_findOwn_28 rfl ?_
    obtain ⟨rb3, rq3, trb3⟩ := hW.ref t_a1 4 rfl rfl rfl
    refine c_getr (k := 4) C ck_10 dX6_findOwn_29 w2_189 (by decide) t_a1 rfl rfl (by decide) rfl rq3 ?_
    refine c_st (st2 := [.ref rb3, .int (iI (iv rb2 2))]) rfl ?_
    have ri2 : 0 ≤ iv rb3 2 ∧ iv rb3 2 ≤ 200 := hW.int trb3 2
    refine d_callV (As := []) (rest := [.int (iI (iv rb2 2))]) C hM (C_size_26 (a0 := rb3) hW hS trb3  ) dX6_findOwn_32 kV_X6_134 rfl trb3 rfl rfl (by decide) ck_0 rfl (Nat.le_of_ble_eq_true rfl) ⟨(Nat.le_of_ble_eq_true rfl), (Nat.le_of_ble_eq_true rfl)⟩ hph hph (show 0 + 0 = 0 from rfl) (by decide) (fun rh1 Lh1 clh1 lnh1 ivh1 rvh1 h1 => ?_)
    obtain ⟨f1, rfl, rfl, rfl, rfl, rfl, rfl, rgf1, exf1⟩ := h1
    refine c_st (st2 := [.int (iI f1), .int (iI (iv rb2 2))]) rfl ?_
    have gf1 : f1 = iv rb3 2 := exf1
    obtain ⟨mn1, hmn1, emn1⟩ := mmin_c (x := iv rb2 2) (y := f1) (r32_c (lo := 0) (hi := 200) ri1.1 ri1.2 (by decide) (by decide)) ⟨by omega, by omega⟩
    refine c_mmin (w := iI mn1) C dX6_findOwn_35 w4_109 w2_129 w1_14 w2_130 (by decide) (rom0 hph hph (by decide)) (Nat.le_of_ble_eq_true rfl) emn1 ?_
    refine c_istore (lv2 := [(7, .int (iI mn1)), (6, .int (iI ((ln rb1 : Nat) : Int))), (5, .ref ob1), (0, .ref a0), (1, .ref a1), (2, .int (iI i)), (3, .int (iI x)), (4, .ref ob1)]) C dX6_findOwn_38 (by decide) rfl ?_
    refine c_aload_n (j := 4) (x := a1) C dX6_findOwn_40 rfl ?_
    refine c_getr (k := 5) C ck_10 dX6_findOwn_41 w2_191 (by decide) t_a1 rfl rfl (by decide) rfl rq2 ?_
    refine c_st (st2 := [.ref rb2]) rfl ?_
    obtain ⟨rb4, rq4, trb4⟩ := hW.ref trb2 1 rfl rfl rfl
    refine hv2 (show 16 ≤ ln rb4 ∧ ln rb4 ≤ 400 from hW.len trb4 rfl) (hW.isz trb2 rfl rfl rq4) (fun lnrb4 szrb4 => ?_)
    refine c_getr (k := 1) C ck_2 dX6_findOwn_44 w1_42 (by decide) trb2 rfl rfl (by decide) rfl rq4 ?_
    refine c_st (st2 := [.ref rb4]) rfl ?_
    refine c_astore (lv2 := [(8, .ref rb4), (7, .int (iI mn1)), (6, .int (iI ((ln rb1 : Nat) : Int))), (5, .ref ob1), (0, .ref a0), (1, .ref a1), (2, .int (iI i)), (3, .int (iI x)), (4, .ref ob1)]) C dX6_findOwn_47 (by decide) rfl ?_
    refine c_iconst C dX6_findOwn_49 ?_
    refine c_istore (lv2 := [(9, .int (iI 0)), (8, .ref rb4), (7, .int (iI mn1)), (6, .int (iI ((ln rb1 : Nat) : Int))), (5, .ref ob1), (0, .ref a0), (1, .ref a1), (2, .int (iI i)), (3, .int (iI x)), (4, .ref ob1)]) C dX6_findOwn_50 (by decide) rfl ?_
    have Lp1 : ∀ (nn : Nat) (bs : Option Nat) (lg k : Int) , 201 - k < (nn : Int) → (∀ b, bs = some b → ty L cl b 20) → (0 ≤ lg ∧ lg ≤ 8) → (0 ≤ k ∧ k ≤ mn1) → (FOI sk ln iv rv a0 a1 i x (some ob1) bs lg k) → cw p l e 3 ((PHM) + 0 - ((Phi (g0 G) sk) ln rv)) s m args below meth c G A 11 (MQ below (Qu G A (Qp G (Phi (g0 G) sk) ((Phi (g0 G) sk) ln rv) 0 (fun v L2 cl2 ln2 iv2 rv2 => ∃ f : Option Nat, v = some ((va_rf f)) ∧ L = L2 ∧ cl = cl2 ∧ ln = ln2 ∧ iv = iv2 ∧ rv = rv2 ∧ (∀ b, f = some b → ty L2 cl2 b 20) ∧ (FOX sk ln iv rv a0 a1 i x (some ob1) f)))) args s (((PHM) + 0 - ((Phi (g0 G) sk) ln rv)) / 16) ((PHM) + 0 - ((Phi (g0 G) sk) ln rv)) A) (Phi (g0 G) sk) ((Phi (g0 G) sk) ln rv) L cl ln iv rv 0 52 [(5, (va_rf bs)), (6, .int (iI lg)), (9, .int (iI k)), (8, .ref rb4), (7, .int (iI mn1)), (0, .ref a0), (1, .ref a1), (2, .int (iI i)), (3, .int (iI x)), (4, .ref ob1)] [] := by
      intro nn
      induction nn with
      | zero =>
        intro bs lg k  hm  ty_bs hlg hk hO
        exact absurd hm (by omega)
      | succ nn ih1 =>
        intro bs lg k  hm  ty_bs hlg hk hO
        refine c_iload (j := 2) C dX6_findOwn_52 rfl ?_
        refine c_iload (j := 4) C dX6_findOwn_54 rfl ?_
        refine c_icmp_ge (tgt := 124) C ⟨by omega, by omega⟩ ⟨by omega, by omega⟩ dX6_findOwn_56 (by decide) (fun c1 => ?_) (fun c1 => ?_)
        · refine c_aloadr (j := 0) (r := bs) C dX6_findOwn_124 rfl ?_
          exact c_aret (x := bs) C dX6_findOwn_126 rfl (Or.inl ⟨_, rfl⟩) (by decide) (rom0 hph hph (by decide)) ⟨bs, rfl, rfl, rfl, rfl, rfl, rfl, ty_bs, (hO.fin rq3 rq2 (by omega) rq4)⟩
        · refine c_aload (j := 3) (x := rb4) C dX6_findOwn_59 rfl ?_
          refine c_iload (j := 2) C dX6_findOwn_61 rfl ?_
          have ll2 : 16 ≤ ln rb4 ∧ ln rb4 ≤ 400 := hW.len trb4 rfl
          refine c_iald C dX6_findOwn_63 trb4 rfl (by omega) (by omega) (by omega) ?_
          have ri3 : (-2147483648) ≤ iv rb4 k.toNat ∧ iv rb4 k.toNat ≤ 2147483647 := hW.int trb4 k.toNat
          refine c_iload_n (j := 8) C dX6_findOwn_64 rfl ?_
          refine c_icmp_eq (tgt := 71) C (r32_c (lo := (-2147483648)) (hi := 2147483647) ri3.1 ri3.2 (by decide) (by decide)) ⟨by omega, by omega⟩ dX6_findOwn_65 (by decide) (fun c2 => ?_) (fun c2 => ?_)
          · refine c_aload_n (j := 6) (x := a1) C dX6_findOwn_71 rfl ?_
            refine c_getr (k := 4) C ck_10 dX6_findOwn_72 w2_189 (by decide) t_a1 rfl rfl (by decide) rfl rq3 ?_
            refine c_st (st2 := [.ref rb3]) rfl ?_
            refine c_iload (j := 2) C dX6_findOwn_75 rfl ?_
            refine d_callV (As := [.int (iI k)]) (rest := []) C hM (C_get_26 (a0 := rb3) (i := k) hW hS trb3 (by omega) (by show 0 ≤ k ∧ k < iv rb3 2; omega)) dX6_findOwn_77 kV_X6_145 rfl trb3 rfl rfl (by decide) ck_0 rfl (Nat.le_of_ble_eq_true rfl) ⟨(Nat.le_of_ble_eq_true rfl), (Nat.le_of_ble_eq_true rfl)⟩ hph hph (show 0 + 0 = 0 from rfl) (by decide) (fun rh2 Lh2 clh2 lnh2 ivh2 rvh2 h2 => ?_)
            obtain ⟨f2, rfl, rfl, rfl, rfl, rfl, rfl, rgf2, exf2⟩ := h2
            refine c_st (st2 := [.ref f2]) rfl ?_
            have gf2 : el rv rb3 k.toNat = some f2 := exf2
            refine c_cast C ck_6 dX6_findOwn_80 w4_111 w8_169t rgf2 rfl rfl (by decide) ?_
            refine c_astore (lv2 := [(10, .ref f2), (5, (va_rf bs)), (6, .int (iI lg)), (9, .int (iI k)), (8, .ref rb4), (7, .int (iI mn1)), (0, .ref a0), (1, .ref a1), (2, .int (iI i)), (3, .int (iI x)), (4, .ref ob1)]) C dX6_findOwn_83 (by decide) rfl ?_
            refine c_aload (j := 0) (x := f2) C dX6_findOwn_85 rfl ?_
            obtain ⟨rb5, rq5, trb5⟩ := hW.ref rgf2 1 rfl rfl rfl
            have lnrb5 : 0 ≤ ln rb5 ∧ ln rb5 ≤ 8 := hW.len trb5 rfl
            refine c_getr (k := 1) C ck_6 dX6_findOwn_87 w3_141 (by decide) rgf2 rfl rfl (by decide) rfl rq5 ?_
            refine c_st (st2 := [.ref rb5]) rfl ?_
            have ll3 : 0 ≤ ln rb5 ∧ ln rb5 ≤ 8 := hW.len trb5 rfl
            refine c_alenI C dX6_findOwn_90 trb5 rfl ?_
            refine c_iload (j := 2) C dX6_findOwn_91 rfl ?_
            refine c_icmp_le (tgt := 118) C ⟨by omega, by omega⟩ (r32_c (lo := 0) (hi := 8) hlg.1 hlg.2 (by decide) (by decide)) dX6_findOwn_93 (by decide) (fun c3 => ?_) (fun c3 => ?_)
            · refine c_iinc (z := k) (j := 3) (lv2 := [(9, .int (iI (k + 1))), (10, .ref f2), (5, (va_rf bs)), (6, .int (iI lg)), (8, .ref rb4), (7, .int (iI mn1)), (0, .ref a0), (1, .ref a1), (2, .int (iI i)), (3, .int (iI x)), (4, .ref ob1)]) C dX6_findOwn_118 rfl (by decide) rfl ?_
              refine c_goto (tgt := 52) C dX6_findOwn_121 (by decide) ?_
              refine c_lv (lv2 := [(5, (va_rf bs)), (6, .int (iI lg)), (9, .int (iI (k + 1))), (8, .ref rb4), (7, .int (iI mn1)), (0, .ref a0), (1, .ref a1), (2, .int (iI i)), (3, .int (iI x)), (4, .ref ob1)]) [2, 3, 0, 4, 5, 6, 7, 8, 9, 10] rfl ?_
              exact ih1  bs lg (k + 1)  (by omega)  ty_bs (by omega) (by omega) (hO.short rq3 ⟨by omega, by omega⟩ exf2 rq5 (by omega))
            · refine c_aload_n (j := 6) (x := a0) C dX6_findOwn_96 rfl ?_
              refine c_aload (j := 0) (x := f2) C dX6_findOwn_97 rfl ?_
              refine c_iload_n (j := 8) C dX6_findOwn_99 rfl ?_
              refine d_callV (As := [.ref f2, .int (iI i)]) (rest := []) C hM (G_fits (a0 := a0) (a1 := f2) (i := i) hW hS t_a0 rgf2 (by omega) (by show 0 ≤ i ∧ i ≤ 500; omega)) dX6_findOwn_100 kV_X6_149 rfl t_a0 rfl rfl (by decide) ck_7 rfl (Nat.le_of_ble_eq_true rfl) ⟨(Nat.le_of_ble_eq_true rfl), (Nat.le_of_ble_eq_true rfl)⟩ hph hph (show 0 + 0 = 0 from rfl) (by decide) (fun rh3 Lh3 clh3 lnh3 ivh3 rvh3 h3 => ?_)
              obtain ⟨f3, rfl, rfl, rfl, rfl, rfl, rfl, rgf3, exf3⟩ := h3
              refine c_st (st2 := [.int (iI f3)]) rfl ?_
              have gf3 : FTX ln iv rv a0 f2 i f3 := exf3
              refine c_if_eq (tgt := 118) C ⟨by omega, by omega⟩ dX6_findOwn_103 (by decide) (fun c4 => ?_) (fun c4 => ?_)
              · refine c_iinc (z := k) (j := 3) (lv2 := [(9, .int (iI (k + 1))), (10, .ref f2), (5, (va_rf bs)), (6, .int (iI lg)), (8, .ref rb4), (7, .int (iI mn1)), (0, .ref a0), (1, .ref a1), (2, .int (iI i)), (3, .int (iI x)), (4, .ref ob1)]) C dX6_findOwn_118 rfl (by decide) rfl ?_
                refine c_goto (tgt := 52) C dX6_findOwn_121 (by decide) ?_
                refine c_lv (lv2 := [(5, (va_rf bs)), (6, .int (iI lg)), (9, .int (iI (k + 1))), (8, .ref rb4), (7, .int (iI mn1)), (0, .ref a0), (1, .ref a1), (2, .int (iI i)), (3, .int (iI x)), (4, .ref ob1)]) [2, 3, 0, 4, 5, 6, 7, 8, 9, 10] rfl ?_
                exact ih1  bs lg (k + 1)  (by omega)  ty_bs (by omega) (by omega) (hO.miss rq3 ⟨by omega, by omega⟩ exf2 rq2 rq4 (by omega) gf3 (by omega))
              · refine c_aload (j := 0) (x := f2) C dX6_findOwn_106 rfl ?_
                refine c_astore (lv2 := [(5, .ref f2), (10, .ref f2), (6, .int (iI lg)), (9, .int (iI k)), (8, .ref rb4), (7, .int (iI mn1)), (0, .ref a0), (1, .ref a1), (2, .int (iI i)), (3, .int (iI x)), (4, .ref ob1)]) C dX6_findOwn_108 (by decide) rfl ?_
                refine c_aload (j := 1) (x := f2) C dX6_findOwn_110 rfl ?_
                refine c_getr (k := 1) C ck_6 dX6_findOwn_112 w3_141 (by decide) rgf2 rfl rfl (by decide) rfl rq5 ?_
                refine c_st (st2 := [.ref rb5]) rfl ?_
                refine c_alenI C dX6_findOwn_115 trb5 rfl ?_
                refine c_istore (lv2 := [(6, .int (iI ((ln rb5 : Nat) : Int))), (5, .ref f2), (10, .ref f2), (9, .int (iI k)), (8, .ref rb4), (7, .int (iI mn1)), (0, .ref a0), (1, .ref a1), (2, .int (iI i)), (3, .int (iI x)), (4, .ref ob1)]) C dX6_findOwn_116 (by decide) rfl ?_
                refine c_iinc (z := k) (j := 3) (lv2 := [(9, .int (iI (k + 1))), (6, .int (iI ((ln rb5 : Nat) : Int))), (5, .ref f2), (10, .ref f2), (8, .ref rb4), (7, .int (iI mn1)), (0, .ref a0), (1, .ref a1), (2, .int (iI i)), (3, .int (iI x)), (4, .ref ob1)]) C dX6_findOwn_118 rfl (by decide) rfl ?_
                refine c_goto (tgt := 52) C dX6_findOwn_121 (by decide) ?_
                refine c_lv (lv2 := [(5, .ref f2), (6, .int (iI ((ln rb5 : Nat) : Int))), (9, .int (iI (k + 1))), (8, .ref rb4), (7, .int (iI mn1)), (0, .ref a0), (1, .ref a1), (2, .int (iI i)), (3, .int (iI x)), (4, .ref ob1)]) [2, 1, 0, 4, 5, 6, 7, 8, 9, 10] rfl ?_
                exact ih1  (some f2) ((ln rb5 : Nat) : Int) (k + 1)  (by omega)  (fun _ q => by cases q; exact rgf2) (by omega) (by omega) (hO.hit rq3 ⟨by omega, by omega⟩ exf2 rq2 rq4 (by omega) gf3 (by omega) rq5 (by omega))
          · refine c_goto (tgt := 118) C dX6_findOwn_68 (by decide) ?_
            refine c_iinc (z := k) (j := 2) (lv2 := [(9, .int (iI (k + 1))), (5, (va_rf bs)), (6, .int (iI lg)), (8, .ref rb4), (7, .int (iI mn1)), (0, .ref a0), (1, .ref a1), (2, .int (iI i)), (3, .int (iI x)), (4, .ref ob1)]) C dX6_findOwn_118 rfl (by decide) rfl ?_
            refine c_goto (tgt := 52) C dX6_findOwn_121 (by decide) ?_
            refine c_lv (lv2 := [(5, (va_rf bs)), (6, .int (iI lg)), (9, .int (iI (k + 1))), (8, .ref rb4), (7, .int (iI mn1)), (0, .ref a0), (1, .ref a1), (2, .int (iI i)), (3, .int (iI x)), (4, .ref ob1)]) [1, 2, 0, 3, 4, 5, 6, 7, 8, 9] rfl ?_
            exact ih1  bs lg (k + 1)  (by omega)  ty_bs (by omega) (by omega) (hO.skip rq2 rq4 ⟨by omega, by omega⟩ (by omega))
    refine c_lv (lv2 := [(5, .ref ob1), (6, .int (iI ((ln rb1 : Nat) : Int))), (9, .int (iI 0)), (8, .ref rb4), (7, .int (iI mn1)), (0, .ref a0), (1, .ref a1), (2, .int (iI i)), (3, .int (iI x)), (4, .ref ob1)]) [4, 3, 0, 1, 2, 5, 6, 7, 8, 9] rfl ?_
    exact Lp1 202 (some ob1) ((ln rb1 : Nat) : Int) 0  (by omega)  (fun _ q => by cases q; exact tob1) (by omega) (by omega) (FOI.i1 rq1)
  · subst oq1
    refine c_lv (lv2 := [(5, .null), (0, .ref a0), (1, .ref a1), (2, .int (iI i)), (3, .int (iI x)), (4, .null)]) [0, 1, 2, 3, 4, 5] rfl ?_
    refine c_st (st2 := []) rfl ?_
    refine c_iconst C dX6_findOwn_9 ?_
    refine c_goto (tgt := 19) C dX6_findOwn_10 (by decide) ?_
    refine c_istore (lv2 := [(6, .int (iI 0)), (5, .null), (0, .ref a0), (1, .ref a1), (2, .int (iI i)), (3, .int (iI x)), (4, .null)]) C dX6_findOwn_19 (by decide) rfl ?_
    refine c_aload_n (j := 3) (x := a1) C dX6_findOwn_21 rfl ?_
    obtain ⟨rb6, rq6, trb6⟩ := hW.ref t_a1 5 rfl rfl rfl
    refine c_getr (k := 5) C ck_10 dX6_findOwn_22 w2_191 (by decide) t_a1 rfl rfl (by decide) rfl rq6 ?_
    refine c_st (st2 := [.ref rb6]) rfl ?_
    have ri4 : 0 ≤ iv rb6 2 ∧ iv rb6 2 ≤ 200 := hW.int trb6 2
    refine c_get (k := 2) C ck_2 dX6_findOwn_25 w1_47 (by decide) trb6 rfl rfl (by decide) rfl ?_
    refine c_aload_n (j := 3) (x := a1) C dX6_findOwn_28 rfl ?_
    obtain ⟨rb7, rq7, trb7⟩ := hW.ref t_a1 4 rfl rfl rfl
    refine c_getr (k := 4) C ck_10 dX6_findOwn_29 w2_189 (by decide) t_a1 rfl rfl (by decide) rfl rq7 ?_
    refine c_st (st2 := [.ref rb7, .int (iI (iv rb6 2))]) rfl ?_
    have ri5 : 0 ≤ iv rb7 2 ∧ iv rb7 2 ≤ 200 := hW.int trb7 2
    refine d_callV (As := []) (rest := [.int (iI (iv rb6 2))]) C hM (C_size_26 (a0 := rb7) hW hS trb7  ) dX6_findOwn_32 kV_X6_134 rfl trb7 rfl rfl (by decide) ck_0 rfl (Nat.le_of_ble_eq_true rfl) ⟨(Nat.le_of_ble_eq_true rfl), (Nat.le_of_ble_eq_true rfl)⟩ hph hph (show 0 + 0 = 0 from rfl) (by decide) (fun rh4 Lh4 clh4 lnh4 ivh4 rvh4 h4 => ?_)
    obtain ⟨f4, rfl, rfl, rfl, rfl, rfl, rfl, rgf4, exf4⟩ := h4
    refine c_st (st2 := [.int (iI f4), .int (iI (iv rb6 2))]) rfl ?_
    have gf4 : f4 = iv rb7 2 := exf4
    obtain ⟨mn2, hmn2, emn2⟩ := mmin_c (x := iv rb6 2) (y := f4) (r32_c (lo := 0) (hi := 200) ri4.1 ri4.2 (by decide) (by decide)) ⟨by omega, by omega⟩
    refine c_mmin (w := iI mn2) C dX6_findOwn_35 w4_109 w2_129 w1_14 w2_130 (by decide) (rom0 hph hph (by decide)) (Nat.le_of_ble_eq_true rfl) emn2 ?_
    refine c_istore (lv2 := [(7, .int (iI mn2)), (6, .int (iI 0)), (5, .null), (0, .ref a0), (1, .ref a1), (2, .int (iI i)), (3, .int (iI x)), (4, .null)]) C dX6_findOwn_38 (by decide) rfl ?_
    refine c_aload_n (j := 4) (x := a1) C dX6_findOwn_40 rfl ?_
    refine c_getr (k := 5) C ck_10 dX6_findOwn_41 w2_191 (by decide) t_a1 rfl rfl (by decide) rfl rq6 ?_
    refine c_st (st2 := [.ref rb6]) rfl ?_
    obtain ⟨rb8, rq8, trb8⟩ := hW.ref trb6 1 rfl rfl rfl
    refine hv2 (show 16 ≤ ln rb8 ∧ ln rb8 ≤ 400 from hW.len trb8 rfl) (hW.isz trb6 rfl rfl rq8) (fun lnrb8 szrb8 => ?_)
    refine c_getr (k := 1) C ck_2 dX6_findOwn_44 w1_42 (by decide) trb6 rfl rfl (by decide) rfl rq8 ?_
    refine c_st (st2 := [.ref rb8]) rfl ?_
    refine c_astore (lv2 := [(8, .ref rb8), (7, .int (iI mn2)), (6, .int (iI 0)), (5, .null), (0, .ref a0), (1, .ref a1), (2, .int (iI i)), (3, .int (iI x)), (4, .null)]) C dX6_findOwn_47 (by decide) rfl ?_
    refine c_iconst C dX6_findOwn_49 ?_
    refine c_istore (lv2 := [(9, .int (iI 0)), (8, .ref rb8), (7, .int (iI mn2)), (6, .int (iI 0)), (5, .null), (0, .ref a0), (1, .ref a1), (2, .int (iI i)), (3, .int (iI x)), (4, .null)]) C dX6_findOwn_50 (by decide) rfl ?_
    have Lp2 : ∀ (nn : Nat) (bs : Option Nat) (lg k : Int) , 201 - k < (nn : Int) → (∀ b, bs = some b → ty L cl b 20) → (0 ≤ lg ∧ lg ≤ 8) → (0 ≤ k ∧ k ≤ mn2) → (FOI sk ln iv rv a0 a1 i x none bs lg k) → cw p l e 3 ((PHM) + 0 - ((Phi (g0 G) sk) ln rv)) s m args below meth c G A 11 (MQ below (Qu G A (Qp G (Phi (g0 G) sk) ((Phi (g0 G) sk) ln rv) 0 (fun v L2 cl2 ln2 iv2 rv2 => ∃ f : Option Nat, v = some ((va_rf f)) ∧ L = L2 ∧ cl = cl2 ∧ ln = ln2 ∧ iv = iv2 ∧ rv = rv2 ∧ (∀ b, f = some b → ty L2 cl2 b 20) ∧ (FOX sk ln iv rv a0 a1 i x none f)))) args s (((PHM) + 0 - ((Phi (g0 G) sk) ln rv)) / 16) ((PHM) + 0 - ((Phi (g0 G) sk) ln rv)) A) (Phi (g0 G) sk) ((Phi (g0 G) sk) ln rv) L cl ln iv rv 0 52 [(5, (va_rf bs)), (6, .int (iI lg)), (9, .int (iI k)), (8, .ref rb8), (7, .int (iI mn2)), (0, .ref a0), (1, .ref a1), (2, .int (iI i)), (3, .int (iI x)), (4, .null)] [] := by
      intro nn
      induction nn with
      | zero =>
        intro bs lg k  hm  ty_bs hlg hk hO
        exact absurd hm (by omega)
      | succ nn ih2 =>
        intro bs lg k  hm  ty_bs hlg hk hO
        refine c_iload (j := 2) C dX6_findOwn_52 rfl ?_
        refine c_iload (j := 4) C dX6_findOwn_54 rfl ?_
        refine c_icmp_ge (tgt := 124) C ⟨by omega, by omega⟩ ⟨by omega, by omega⟩ dX6_findOwn_56 (by decide) (fun c5 => ?_) (fun c5 => ?_)
        · refine c_aloadr (j := 0) (r := bs) C dX6_findOwn_124 rfl ?_
          exact c_aret (x := bs) C dX6_findOwn_126 rfl (Or.inl ⟨_, rfl⟩) (by decide) (rom0 hph hph (by decide)) ⟨bs, rfl, rfl, rfl, rfl, rfl, rfl, ty_bs, (hO.fin rq7 rq6 (by omega) rq8)⟩
        · refine c_aload (j := 3) (x := rb8) C dX6_findOwn_59 rfl ?_
          refine c_iload (j := 2) C dX6_findOwn_61 rfl ?_
          have ll4 : 16 ≤ ln rb8 ∧ ln rb8 ≤ 400 := hW.len trb8 rfl
          refine c_iald C dX6_findOwn_63 trb8 rfl (by omega) (by omega) (by omega) ?_
          have ri6 : (-2147483648) ≤ iv rb8 k.toNat ∧ iv rb8 k.toNat ≤ 2147483647 := hW.int trb8 k.toNat
          refine c_iload_n (j := 8) C dX6_findOwn_64 rfl ?_
          refine c_icmp_eq (tgt := 71) C (r32_c (lo := (-2147483648)) (hi := 2147483647) ri6.1 ri6.2 (by decide) (by decide)) ⟨by omega, by omega⟩ dX6_findOwn_65 (by decide) (fun c6 => ?_) (fun c6 => ?_)
          · refine c_aload_n (j := 6) (x := a1) C dX6_findOwn_71 rfl ?_
            refine c_getr (k := 4) C ck_10 dX6_findOwn_72 w2_189 (by decide) t_a1 rfl rfl (by decide) rfl rq7 ?_
            refine c_st (st2 := [.ref rb7]) rfl ?_
            refine c_iload (j := 2) C dX6_findOwn_75 rfl ?_
            refine d_callV (As := [.int (iI k)]) (rest := []) C hM (C_get_26 (a0 := rb7) (i := k) hW hS trb7 (by omega) (by show 0 ≤ k ∧ k < iv rb7 2; omega)) dX6_findOwn_77 kV_X6_145 rfl trb7 rfl rfl (by decide) ck_0 rfl (Nat.le_of_ble_eq_true rfl) ⟨(Nat.le_of_ble_eq_true rfl), (Nat.le_of_ble_eq_true rfl)⟩ hph hph (show 0 + 0 = 0 from rfl) (by decide) (fun rh5 Lh5 clh5 lnh5 ivh5 rvh5 h5 => ?_)
            obtain ⟨f5, rfl, rfl, rfl, rfl, rfl, rfl, rgf5, exf5⟩ := h5
            refine c_st (st2 := [.ref f5]) rfl ?_
            have gf5 : el rv rb7 k.toNat = some f5 := exf5
            refine c_cast C ck_6 dX6_findOwn_80 w4_111 w8_169t rgf5 rfl rfl (by decide) ?_
            refine c_astore (lv2 := [(10, .ref f5), (5, (va_rf bs)), (6, .int (iI lg)), (9, .int (iI k)), (8, .ref rb8), (7, .int (iI mn2)), (0, .ref a0), (1, .ref a1), (2, .int (iI i)), (3, .int (iI x)), (4, .null)]) C dX6_findOwn_83 (by decide) rfl ?_
            refine c_aload (j := 0) (x := f5) C dX6_findOwn_85 rfl ?_
            obtain ⟨rb9, rq9, trb9⟩ := hW.ref rgf5 1 rfl rfl rfl
            have lnrb9 : 0 ≤ ln rb9 ∧ ln rb9 ≤ 8 := hW.len trb9 rfl
            refine c_getr (k := 1) C ck_6 dX6_findOwn_87 w3_141 (by decide) rgf5 rfl rfl (by decide) rfl rq9 ?_
            refine c_st (st2 := [.ref rb9]) rfl ?_
            have ll5 : 0 ≤ ln rb9 ∧ ln rb9 ≤ 8 := hW.len trb9 rfl
            refine c_alenI C dX6_findOwn_90 trb9 rfl ?_
            refine c_iload (j := 2) C dX6_findOwn_91 rfl ?_
            refine c_icmp_le (tgt := 118) C ⟨by omega, by omega⟩ (r32_c (lo := 0) (hi := 8) hlg.1 hlg.2 (by decide) (by decide)) dX6_findOwn_93 (by decide) (fun c7 => ?_) (fun c7 => ?_)
            · refine c_iinc (z := k) (j := 3) (lv2 := [(9, .int (iI (k + 1))), (10, .ref f5), (5, (va_rf bs)), (6, .int (iI lg)), (8, .ref rb8), (7, .int (iI mn2)), (0, .ref a0), (1, .ref a1), (2, .int (iI i)), (3, .int (iI x)), (4, .null)]) C dX6_findOwn_118 rfl (by decide) rfl ?_
              refine c_goto (tgt := 52) C dX6_findOwn_121 (by decide) ?_
              refine c_lv (lv2 := [(5, (va_rf bs)), (6, .int (iI lg)), (9, .int (iI (k + 1))), (8, .ref rb8), (7, .int (iI mn2)), (0, .ref a0), (1, .ref a1), (2, .int (iI i)), (3, .int (iI x)), (4, .null)]) [2, 3, 0, 4, 5, 6, 7, 8, 9, 10] rfl ?_
              exact ih2  bs lg (k + 1)  (by omega)  ty_bs (by omega) (by omega) (hO.short rq7 ⟨by omega, by omega⟩ exf5 rq9 (by omega))
            · refine c_aload_n (j := 6) (x := a0) C dX6_findOwn_96 rfl ?_
              refine c_aload (j := 0) (x := f5) C dX6_findOwn_97 rfl ?_
              refine c_iload_n (j := 8) C dX6_findOwn_99 rfl ?_
              refine d_callV (As := [.ref f5, .int (iI i)]) (rest := []) C hM (G_fits (a0 := a0) (a1 := f5) (i := i) hW hS t_a0 rgf5 (by omega) (by show 0 ≤ i ∧ i ≤ 500; omega)) dX6_findOwn_100 kV_X6_149 rfl t_a0 rfl rfl (by decide) ck_7 rfl (Nat.le_of_ble_eq_true rfl) ⟨(Nat.le_of_ble_eq_true rfl), (Nat.le_of_ble_eq_true rfl)⟩ hph hph (show 0 + 0 = 0 from rfl) (by decide) (fun rh6 Lh6 clh6 lnh6 ivh6 rvh6 h6 => ?_)
              obtain ⟨f6, rfl, rfl, rfl, rfl, rfl, rfl, rgf6, exf6⟩ := h6
              refine c_st (st2 := [.int (iI f6)]) rfl ?_
              have gf6 : FTX ln iv rv a0 f5 i f6 := exf6
              refine c_if_eq (tgt := 118) C ⟨by omega, by omega⟩ dX6_findOwn_103 (by decide) (fun c8 => ?_) (fun c8 => ?_)
              · refine c_iinc (z := k) (j := 3) (lv2 := [(9, .int (iI (k + 1))), (10, .ref f5), (5, (va_rf bs)), (6, .int (iI lg)), (8, .ref rb8), (7, .int (iI mn2)), (0, .ref a0), (1, .ref a1), (2, .int (iI i)), (3, .int (iI x)), (4, .null)]) C dX6_findOwn_118 rfl (by decide) rfl ?_
                refine c_goto (tgt := 52) C dX6_findOwn_121 (by decide) ?_
                refine c_lv (lv2 := [(5, (va_rf bs)), (6, .int (iI lg)), (9, .int (iI (k + 1))), (8, .ref rb8), (7, .int (iI mn2)), (0, .ref a0), (1, .ref a1), (2, .int (iI i)), (3, .int (iI x)), (4, .null)]) [2, 3, 0, 4, 5, 6, 7, 8, 9, 10] rfl ?_
                exact ih2  bs lg (k + 1)  (by omega)  ty_bs (by omega) (by omega) (hO.miss rq7 ⟨by omega, by omega⟩ exf5 rq6 rq8 (by omega) gf6 (by omega))
              · refine c_aload (j := 0) (x := f5) C dX6_findOwn_106 rfl ?_
                refine c_astore (lv2 := [(5, .ref f5), (10, .ref f5), (6, .int (iI lg)), (9, .int (iI k)), (8, .ref rb8), (7, .int (iI mn2)), (0, .ref a0), (1, .ref a1), (2, .int (iI i)), (3, .int (iI x)), (4, .null)]) C dX6_findOwn_108 (by decide) rfl ?_
                refine c_aload (j := 1) (x := f5) C dX6_findOwn_110 rfl ?_
                refine c_getr (k := 1) C ck_6 dX6_findOwn_112 w3_141 (by decide) rgf5 rfl rfl (by decide) rfl rq9 ?_
                refine c_st (st2 := [.ref rb9]) rfl ?_
                refine c_alenI C dX6_findOwn_115 trb9 rfl ?_
                refine c_istore (lv2 := [(6, .int (iI ((ln rb9 : Nat) : Int))), (5, .ref f5), (10, .ref f5), (9, .int (iI k)), (8, .ref rb8), (7, .int (iI mn2)), (0, .ref a0), (1, .ref a1), (2, .int (iI i)), (3, .int (iI x)), (4, .null)]) C dX6_findOwn_116 (by decide) rfl ?_
                refine c_iinc (z := k) (j := 3) (lv2 := [(9, .int (iI (k + 1))), (6, .int (iI ((ln rb9 : Nat) : Int))), (5, .ref f5), (10, .ref f5), (8, .ref rb8), (7, .int (iI mn2)), (0, .ref a0), (1, .ref a1), (2, .int (iI i)), (3, .int (iI x)), (4, .null)]) C dX6_findOwn_118 rfl (by decide) rfl ?_
                refine c_goto (tgt := 52) C dX6_findOwn_121 (by decide) ?_
                refine c_lv (lv2 := [(5, .ref f5), (6, .int (iI ((ln rb9 : Nat) : Int))), (9, .int (iI (k + 1))), (8, .ref rb8), (7, .int (iI mn2)), (0, .ref a0), (1, .ref a1), (2, .int (iI i)), (3, .int (iI x)), (4, .null)]) [2, 1, 0, 4, 5, 6, 7, 8, 9, 10] rfl ?_
                exact ih2  (some f5) ((ln rb9 : Nat) : Int) (k + 1)  (by omega)  (fun _ q => by cases q; exact rgf5) (by omega) (by omega) (hO.hit rq7 ⟨by omega, by omega⟩ exf5 rq6 rq8 (by omega) gf6 (by omega) rq9 (by omega))
          · refine c_goto (tgt := 118) C dX6_findOwn_68 (by decide) ?_
            refine c_iinc (z := k) (j := 2) (lv2 := [(9, .int (iI (k + 1))), (5, (va_rf bs)), (6, .int (iI lg)), (8, .ref rb8), (7, .int (iI mn2)), (0, .ref a0), (1, .ref a1), (2, .int (iI i)), (3, .int (iI x)), (4, .null)]) C dX6_findOwn_118 rfl (by decide) rfl ?_
            refine c_goto (tgt := 52) C dX6_findOwn_121 (by decide) ?_
            refine c_lv (lv2 := [(5, (va_rf bs)), (6, .int (iI lg)), (9, .int (iI (k + 1))), (8, .ref rb8), (7, .int (iI mn2)), (0, .ref a0), (1, .ref a1), (2, .int (iI i)), (3, .int (iI x)), (4, .null)]) [1, 2, 0, 3, 4, 5, 6, 7, 8, 9] rfl ?_
            exact ih2  bs lg (k + 1)  (by omega)  ty_bs (by omega) (by omega) (hO.skip rq6 rq8 ⟨by omega, by omega⟩ (by omega))
    refine c_lv (lv2 := [(5, .null), (6, .int (iI 0)), (9, .int (iI 0)), (8, .ref rb8), (7, .int (iI mn2)), (0, .ref a0), (1, .ref a1), (2, .int (iI i)), (3, .int (iI x)), (4, .null)]) [4, 3, 0, 1, 2, 5, 6, 7, 8, 9] rfl ?_
    exact Lp2 202 none 0 0  (by omega)  (fun _ q => by cases q) (by omega) (by omega) FOI.i0
set_option maxHeartbeats 4000000 in
set_option maxRecDepth 100000 in
theorem G_find {l : Launch} {G : GT} {mi : Nat} {sk : Nat → Nat} {L : List Nat} {cl ln : Nat → Nat} {iv : Nat → Nat → Int} {rv : Nat → Nat → Option Nat}  {a0 : Nat} {a1 : Nat} {i : Int} {x : Int} (hW : WT (g0 G) sk L cl ln iv rv) (hS : SKL sk L cl) (t_a0 : ty L cl a0 15) (t_a1 : ty L cl a1 100) (h_i : -2147483648 ≤ i ∧ i ≤ 2147483647) (h_x : -2147483648 ≤ x ∧ x ≤ 2147483647) (hi : 0 ≤ i ∧ i ≤ 500) : Mc l G mi (Phi (g0 G) sk) PHM yX6_find cX6_find 7 (some (.object "DotPress$Row")) 4 [.ref a0, .ref a1, .int (iI i), .int (iI x)] L cl ln iv rv 0 (fun v L2 cl2 ln2 iv2 rv2 => ∃ f : Option Nat, v = some ((va_rf f)) ∧ L = L2 ∧ cl = cl2 ∧ ln = ln2 ∧ rv = rv2 ∧ fT [55] L cl iv rv iv2 rv2 ∧ WT (g0 G) sk L2 cl2 ln2 iv2 rv2 ∧ (∀ b, f = some b → ty L2 cl2 b 20) ∧ (FDX sk ln iv rv a0 a1 i x f)) := by
  refine Mc.mk (by decide) (Nat.le_of_ble_eq_true rfl) ?_
  intro p e s m args below meth c A C hM
  refine hv3 (Phi.le hW hS) (show XT L cl ln L cl ln from XT.refl) (show fT [55] L cl iv rv iv rv from fT.refl) (fun hph hX0 hF0 => ?_)
  refine c_null C dX6_find_0 ?_
  refine c_astorer (r := none) (lv2 := [(4, .null), (0, .ref a0), (1, .ref a1), (2, .int (iI i)), (3, .int (iI x))]) C dX6_find_1 (by decide) rfl ?_
  refine c_iload_n (j := 4) C dX6_find_3 rfl ?_
  refine c_istore (lv2 := [(5, .int (iI x)), (4, .null), (0, .ref a0), (1, .ref a1), (2, .int (iI i)), (3, .int (iI x))]) C dX6_find_4 (by decide) rfl ?_
  refine c_aload_n (j := 3) (x := a1) C dX6_find_6 rfl ?_
  refine c_astore (lv2 := [(6, .ref a1), (5, .int (iI x)), (4, .null), (0, .ref a0), (1, .ref a1), (2, .int (iI i)), (3, .int (iI x))]) C dX6_find_7 (by decide) rfl ?_
  have Lp1 : ∀ (nn : Nat) (bs : Option Nat) (tq : Option Nat) (he rk : Int) (ivb1 : Nat → Nat → Int) , rk - 99 < (nn : Int) → WT (g0 G) sk L cl ln ivb1 rv → fT [55] L cl iv rv ivb1 rv → (∀ b, bs = some b → ty L cl b 20) → (∀ b, tq = some b → ty L cl b 100) → (-2147483648 ≤ he ∧ he ≤ 2147483647) → (99 ≤ rk) → (∀ b, tq = some b → ((cl b : Nat) : Int) ≤ rk) → (FDI sk ln iv rv a0 a1 i x bs he tq) → cw p l e 4 ((PHM) + 0 - ((Phi (g0 G) sk) ln rv)) s m args below meth c G A 7 (MQ below (Qu G A (Qp G (Phi (g0 G) sk) ((Phi (g0 G) sk) ln rv) 0 (fun v L2 cl2 ln2 iv2 rv2 => ∃ f : Option Nat, v = some ((va_rf f)) ∧ L = L2 ∧ cl = cl2 ∧ ln = ln2 ∧ rv = rv2 ∧ fT [55] L cl iv rv iv2 rv2 ∧ WT (g0 G) sk L2 cl2 ln2 iv2 rv2 ∧ (∀ b, f = some b → ty L2 cl2 b 20) ∧ (FDX sk ln iv rv a0 a1 i x f)))) args s (((PHM) + 0 - ((Phi (g0 G) sk) ln rv)) / 16) ((PHM) + 0 - ((Phi (g0 G) sk) ln rv)) A) (Phi (g0 G) sk) ((Phi (g0 G) sk) ln rv) L cl ln ivb1 rv 0 9 [(4, (va_rf bs)), (5, .int (iI he)), (6, (va_rf tq)), (0, .ref a0), (1, .ref a1), (2, .int (iI i)), (3, .int (iI x))] [] := by
    intro nn
    induction nn with
    | zero =>
      intro bs tq he rk ivb1 hm Wb1 Fb1 ty_bs ty_tq hhe h99 hrk hD
      exact absurd hm (by omega)
    | succ nn ih1 =>
      intro bs tq he rk ivb1 hm Wb1 Fb1 ty_bs ty_tq hhe h99 hrk hD
      refine c_aloadr (j := 2) (r := tq) C dX6_find_9 rfl ?_
      refine c_ifnull (r := tq) (tgt := 146) C dX6_find_11 (by decide) (fun oq1 => ?_) (fun ob1 oq1 => ?_)
      · subst oq1
        refine c_lv (lv2 := [(4, (va_rf bs)), (5, .int (iI he)), (6, .null), (0, .ref a0), (1, .ref a1), (2, .int (iI i)), (3, .int (iI x))]) [0, 1, 2, 3, 4, 5, 6] rfl ?_
        refine c_st (st2 := []) rfl ?_
        refine c_aloadr (j := 0) (r := bs) C dX6_find_146 rfl ?_
        exact c_aret (x := bs) C dX6_find_148 rfl (Or.inl ⟨_, rfl⟩) (by decide) (rom0 hph hph (by decide)) ⟨bs, rfl, rfl, rfl, rfl, rfl, Fb1, Wb1, ty_bs, hD.fin0⟩
      · subst oq1
        refine hv2 (ty_tq ob1 rfl) (hrk ob1 rfl) (fun tob1 hkob1 => ?_)
        have tgob1 := bt_100 tob1.2
        refine c_lv (lv2 := [(4, (va_rf bs)), (5, .int (iI he)), (6, .ref ob1), (0, .ref a0), (1, .ref a1), (2, .int (iI i)), (3, .int (iI x))]) [0, 1, 2, 3, 4, 5, 6] rfl ?_
        refine c_st (st2 := []) rfl ?_
        refine c_aload_n (j := 3) (x := a0) C dX6_find_14 rfl ?_
        refine c_aload (j := 2) (x := ob1) C dX6_find_15 rfl ?_
        refine hv2 (show (-2147483648) ≤ ivb1 ob1 0 ∧ ivb1 ob1 0 ≤ 2147483647 from Wb1.int tob1 0) (show ivb1 ob1 0 = iv ob1 0 from Fb1.i tob1 rfl 0) (fun ri1 ie1 => ?_)
        refine c_get (k := 0) C ck_10 dX6_find_17 w2_177 (by decide) tob1 rfl rfl (by decide) rfl ?_
        refine d_callV (As := [.int (iI (ivb1 ob1 0))]) (rest := []) C hM (C_countFind (a0 := a0) (i := ivb1 ob1 0) Wb1 hS t_a0 (by omega) ) dX6_find_20 kV_X6_119 rfl t_a0 rfl rfl (by decide) ck_7 rfl (Nat.le_of_ble_eq_true rfl) ⟨(Nat.le_of_ble_eq_true rfl), (Nat.le_of_ble_eq_true rfl)⟩ hph hph (show 0 + 0 = 0 from rfl) (by decide) (fun rh1 Lh1 clh1 lnh1 ivh1 rvh1 h1 => ?_)
        obtain ⟨rfl, rfl, rfl, rfl, rfl, fl1, W1, exf1⟩ := h1
        have F1 := Fb1.call hX0 fl1 rfl
        refine c_st (st2 := []) rfl ?_
        refine c_aload (j := 2) (x := ob1) C dX6_find_23 rfl ?_
        refine hv2 (show (-2147483648) ≤ ivh1 ob1 0 ∧ ivh1 ob1 0 ≤ 2147483647 from W1.int tob1 0) (show ivh1 ob1 0 = ivb1 ob1 0 from fl1.i tob1 rfl 0) (fun ri2 ie2 => ?_)
        refine c_get (k := 0) C ck_10 dX6_find_25 w2_177 (by decide) tob1 rfl rfl (by decide) rfl ?_
        refine c_if_eq (tgt := 40) C (r32_c (lo := (-2147483648)) (hi := 2147483647) ri2.1 ri2.2 (by decide) (by decide)) dX6_find_28 (by decide) (fun c1 => ?_) (fun c1 => ?_)
        · refine c_aload_n (j := 3) (x := a0) C dX6_find_40 rfl ?_
          refine c_aload (j := 2) (x := ob1) C dX6_find_41 rfl ?_
          refine c_iload_n (j := 5) C dX6_find_43 rfl ?_
          refine c_iload (j := 1) C dX6_find_44 rfl ?_
          refine c_aloadr (j := 0) (r := bs) C dX6_find_46 rfl ?_
          refine d_callV (As := [.ref ob1, .int (iI i), .int (iI he), (va_rf bs)]) (rest := []) C hM (G_findOwn (a0 := a0) (a1 := ob1) (i := i) (x := he) (r := bs) W1 hS t_a0 tob1 ty_bs (by omega) (by omega) (by show 0 ≤ i ∧ i ≤ 500; omega)) dX6_find_48 kV_X6_122 rfl t_a0 rfl rfl (by decide) ck_7 rfl (Nat.le_of_ble_eq_true rfl) ⟨(Nat.le_of_ble_eq_true rfl), (Nat.le_of_ble_eq_true rfl)⟩ hph hph (show 0 + 0 = 0 from rfl) (by decide) (fun rh2 Lh2 clh2 lnh2 ivh2 rvh2 h2 => ?_)
          obtain ⟨f2, rfl, rfl, rfl, rfl, rfl, rfl, rgf2, exf2⟩ := h2
          refine c_st (st2 := [(va_rf f2)]) rfl ?_
          have gf2 : FOX sk ln ivh1 rv a0 ob1 i he bs f2 := exf2
          exact c_aret (x := f2) C dX6_find_51 rfl (Or.inl ⟨_, rfl⟩) (by decide) (rom0 hph hph (by decide)) ⟨f2, rfl, rfl, rfl, rfl, rfl, F1, W1, rgf2, (hD.plain (FOX.ni hW hS W1 F1 t_a0 ty_bs rgf2 gf2) (by omega) (by omega))⟩
        · refine c_aload (j := 2) (x := ob1) C dX6_find_31 rfl ?_
          refine c_get (k := 0) C ck_10 dX6_find_33 w2_177 (by decide) tob1 rfl rfl (by decide) rfl ?_
          refine c_iconst C dX6_find_36 ?_
          refine c_icmp_ne (tgt := 52) C (r32_c (lo := (-2147483648)) (hi := 2147483647) ri2.1 ri2.2 (by decide) (by decide)) ⟨by decide, by decide⟩ dX6_find_37 (by decide) (fun c2 => ?_) (fun c2 => ?_)
          · refine c_aload (j := 2) (x := ob1) C dX6_find_52 rfl ?_
            refine c_get (k := 0) C ck_10 dX6_find_54 w2_177 (by decide) tob1 rfl rfl (by decide) rfl ?_
            refine c_iconst C dX6_find_57 ?_
            refine c_icmp_ne (tgt := 72) C (r32_c (lo := (-2147483648)) (hi := 2147483647) ri2.1 ri2.2 (by decide) (by decide)) ⟨by decide, by decide⟩ dX6_find_58 (by decide) (fun c3 => ?_) (fun c3 => ?_)
            · refine c_aload (j := 2) (x := ob1) C dX6_find_72 rfl ?_
              refine c_get (k := 0) C ck_10 dX6_find_74 w2_177 (by decide) tob1 rfl rfl (by decide) rfl ?_
              refine c_iconst C dX6_find_77 ?_
              refine c_icmp_ne (tgt := 106) C (r32_c (lo := (-2147483648)) (hi := 2147483647) ri2.1 ri2.2 (by decide) (by decide)) ⟨by decide, by decide⟩ dX6_find_78 (by decide) (fun c4 => ?_) (fun c4 => ?_)
              · refine c_aload_n (j := 3) (x := a0) C dX6_find_106 rfl ?_
                refine c_iconst C dX6_find_107 ?_
                refine d_callV (As := [.int (iI 0)]) (rest := []) C hM (C_countFind (a0 := a0) (i := 0) W1 hS t_a0 ⟨by decide, by decide⟩ ) dX6_find_108 kV_X6_119 rfl t_a0 rfl rfl (by decide) ck_7 rfl (Nat.le_of_ble_eq_true rfl) ⟨(Nat.le_of_ble_eq_true rfl), (Nat.le_of_ble_eq_true rfl)⟩ hph hph (show 0 + 0 = 0 from rfl) (by decide) (fun rh3 Lh3 clh3 lnh3 ivh3 rvh3 h3 => ?_)
                obtain ⟨rfl, rfl, rfl, rfl, rfl, fl3, W3, exf3⟩ := h3
                have F2 := F1.call hX0 fl3 rfl
                refine c_st (st2 := []) rfl ?_
                refine c_aload_n (j := 3) (x := a0) C dX6_find_111 rfl ?_
                refine c_aload (j := 2) (x := ob1) C dX6_find_112 rfl ?_
                refine c_iload_n (j := 5) C dX6_find_114 rfl ?_
                refine c_iload (j := 1) C dX6_find_115 rfl ?_
                refine c_aloadr (j := 0) (r := bs) C dX6_find_117 rfl ?_
                refine d_callV (As := [.ref ob1, .int (iI i), .int (iI he), (va_rf bs)]) (rest := []) C hM (G_findOwn (a0 := a0) (a1 := ob1) (i := i) (x := he) (r := bs) W3 hS t_a0 tob1 ty_bs (by omega) (by omega) (by show 0 ≤ i ∧ i ≤ 500; omega)) dX6_find_119 kV_X6_122 rfl t_a0 rfl rfl (by decide) ck_7 rfl (Nat.le_of_ble_eq_true rfl) ⟨(Nat.le_of_ble_eq_true rfl), (Nat.le_of_ble_eq_true rfl)⟩ hph hph (show 0 + 0 = 0 from rfl) (by decide) (fun rh4 Lh4 clh4 lnh4 ivh4 rvh4 h4 => ?_)
                obtain ⟨f4, rfl, rfl, rfl, rfl, rfl, rfl, rgf4, exf4⟩ := h4
                refine c_st (st2 := [(va_rf f4)]) rfl ?_
                have gf4 : FOX sk ln ivh3 rv a0 ob1 i he bs f4 := exf4
                refine c_astorer (r := f4) (lv2 := [(4, (va_rf f4)), (5, .int (iI he)), (6, .ref ob1), (0, .ref a0), (1, .ref a1), (2, .int (iI i)), (3, .int (iI x))]) C dX6_find_122 (by decide) rfl ?_
                refine c_aload (j := 2) (x := ob1) C dX6_find_124 rfl ?_
                refine hv2 (show (-2147483648) ≤ ivh3 ob1 0 ∧ ivh3 ob1 0 ≤ 2147483647 from W3.int tob1 0) (show ivh3 ob1 0 = ivh1 ob1 0 from fl3.i tob1 rfl 0) (fun ri3 ie3 => ?_)
                refine c_get (k := 0) C ck_10 dX6_find_126 w2_177 (by decide) tob1 rfl rfl (by decide) rfl ?_
                refine c_iconst C dX6_find_129 ?_
                refine c_icmp_ne (tgt := 136) C (r32_c (lo := (-2147483648)) (hi := 2147483647) ri3.1 ri3.2 (by decide) (by decide)) ⟨by decide, by decide⟩ dX6_find_130 (by decide) (fun c5 => ?_) (fun c5 => ?_)
                · refine c_aload (j := 2) (x := ob1) C dX6_find_136 rfl ?_
                  rcases W3.opt tob1 2 rfl rfl with ⟨nq1, _⟩ | ⟨nb1, nq1, tnb1⟩
                  · refine c_getr (k := 2) C ck_10 dX6_find_138 w2_182 (by decide) tob1 rfl rfl (by decide) rfl nq1 ?_
                    refine c_st (st2 := [.null]) rfl ?_
                    refine c_astorer (r := none) (lv2 := [(6, .null), (4, (va_rf f4)), (5, .int (iI he)), (0, .ref a0), (1, .ref a1), (2, .int (iI i)), (3, .int (iI x))]) C dX6_find_141 (by decide) rfl ?_
                    refine c_goto (tgt := 9) C dX6_find_143 (by decide) ?_
                    refine c_lv (lv2 := [(4, (va_rf f4)), (5, .int (iI he)), (6, .null), (0, .ref a0), (1, .ref a1), (2, .int (iI i)), (3, .int (iI x))]) [1, 2, 0, 3, 4, 5, 6] rfl ?_
                    exact ih1  f4 none he (rk - 1) _ (by omega) W3 F2 rgf4 (fun _ q => by cases q) (by omega) (by omega) (fun _ q => by cases q) (hD.con (FOX.ni hW hS W3 F2 t_a0 ty_bs rgf4 gf4) (by omega) nq1 (by omega))
                  · have rknb1 := W3.rank tob1 (k := 2) (by decide) nq1
                    refine c_getr (k := 2) C ck_10 dX6_find_138 w2_182 (by decide) tob1 rfl rfl (by decide) rfl nq1 ?_
                    refine c_st (st2 := [.ref nb1]) rfl ?_
                    refine c_astore (lv2 := [(6, .ref nb1), (4, (va_rf f4)), (5, .int (iI he)), (0, .ref a0), (1, .ref a1), (2, .int (iI i)), (3, .int (iI x))]) C dX6_find_141 (by decide) rfl ?_
                    refine c_goto (tgt := 9) C dX6_find_143 (by decide) ?_
                    have trnb1 := bt_100 tnb1.2
                    refine c_lv (lv2 := [(4, (va_rf f4)), (5, .int (iI he)), (6, .ref nb1), (0, .ref a0), (1, .ref a1), (2, .int (iI i)), (3, .int (iI x))]) [1, 2, 0, 3, 4, 5, 6] rfl ?_
                    exact ih1  f4 (some nb1) he (rk - 1) _ (by omega) W3 F2 rgf4 (fun _ q => by cases q; exact tnb1) (by omega) (by omega) (fun _ q => by cases q; omega) (hD.con (FOX.ni hW hS W3 F2 t_a0 ty_bs rgf4 gf4) (by omega) nq1 (by omega))
                · refine c_aloadr (j := 0) (r := f4) C dX6_find_133 rfl ?_
                  exact c_aret (x := f4) C dX6_find_135 rfl (Or.inl ⟨_, rfl⟩) (by decide) (rom0 hph hph (by decide)) ⟨f4, rfl, rfl, rfl, rfl, rfl, F2, W3, rgf4, (by exfalso; omega)⟩
              · refine c_aload_n (j := 3) (x := a0) C dX6_find_81 rfl ?_
                refine c_iconst C dX6_find_82 ?_
                refine d_callV (As := [.int (iI 1)]) (rest := []) C hM (C_countFind (a0 := a0) (i := 1) W1 hS t_a0 ⟨by decide, by decide⟩ ) dX6_find_83 kV_X6_119 rfl t_a0 rfl rfl (by decide) ck_7 rfl (Nat.le_of_ble_eq_true rfl) ⟨(Nat.le_of_ble_eq_true rfl), (Nat.le_of_ble_eq_true rfl)⟩ hph hph (show 0 + 0 = 0 from rfl) (by decide) (fun rh5 Lh5 clh5 lnh5 ivh5 rvh5 h5 => ?_)
                obtain ⟨rfl, rfl, rfl, rfl, rfl, fl5, W5, exf5⟩ := h5
                have F3 := F1.call hX0 fl5 rfl
                refine c_st (st2 := []) rfl ?_
                refine c_iload (j := 1) C dX6_find_86 rfl ?_
                refine c_callSN0 (As := [.int (iI he)]) (rest := []) C (fun L E => s11_isGreat (iI he)) dX6_find_88 kSN_X6_98 rfl rfl (Nat.le_of_ble_eq_true rfl) ⟨(Nat.le_of_ble_eq_true rfl), (Nat.le_of_ble_eq_true rfl)⟩ (rom0 hph hph (by decide)) ?_
                rcases inn_c (x := he) (lo := 65) (hi := 90) (r32_c (lo := (-2147483648)) (hi := 2147483647) hhe.1 hhe.2 (by decide) (by decide)) ⟨by decide, by decide⟩ ⟨by decide, by decide⟩ with ⟨hs1a, hs1b, hs1e⟩ | ⟨hs1a, hs1e⟩
                · refine c_st (st2 := [.int (iI 1)]) (by rw [show inn (iI he) 65 90 = iI 1 from hs1e]) ?_
                  refine c_if_eq (tgt := 102) C ⟨by decide, by decide⟩ dX6_find_91 (by decide) (fun z => absurd z (by omega)) (fun _ => ?_)
                  refine c_iload (j := 1) C dX6_find_94 rfl ?_
                  refine c_bipush (z := 32) C dX6_find_96 (by decide) ?_
                  refine c_iadd C dX6_find_98 ?_
                  refine c_goto (tgt := 104) C dX6_find_99 (by decide) ?_
                  refine c_istore (lv2 := [(5, .int (iI (he + 32))), (4, (va_rf bs)), (6, .ref ob1), (0, .ref a0), (1, .ref a1), (2, .int (iI i)), (3, .int (iI x))]) C dX6_find_104 (by decide) (by cases bs <;> rfl) ?_
                  refine c_aload_n (j := 3) (x := a0) C dX6_find_106 rfl ?_
                  refine c_iconst C dX6_find_107 ?_
                  refine d_callV (As := [.int (iI 0)]) (rest := []) C hM (C_countFind (a0 := a0) (i := 0) W5 hS t_a0 ⟨by decide, by decide⟩ ) dX6_find_108 kV_X6_119 rfl t_a0 rfl rfl (by decide) ck_7 rfl (Nat.le_of_ble_eq_true rfl) ⟨(Nat.le_of_ble_eq_true rfl), (Nat.le_of_ble_eq_true rfl)⟩ hph hph (show 0 + 0 = 0 from rfl) (by decide) (fun rh6 Lh6 clh6 lnh6 ivh6 rvh6 h6 => ?_)
                  obtain ⟨rfl, rfl, rfl, rfl, rfl, fl6, W6, exf6⟩ := h6
                  have F4 := F3.call hX0 fl6 rfl
                  refine c_st (st2 := []) rfl ?_
                  refine c_aload_n (j := 3) (x := a0) C dX6_find_111 rfl ?_
                  refine c_aload (j := 2) (x := ob1) C dX6_find_112 rfl ?_
                  refine c_iload_n (j := 5) C dX6_find_114 rfl ?_
                  refine c_iload (j := 0) C dX6_find_115 rfl ?_
                  refine c_aloadr (j := 1) (r := bs) C dX6_find_117 rfl ?_
                  refine d_callV (As := [.ref ob1, .int (iI i), .int (iI (he + 32)), (va_rf bs)]) (rest := []) C hM (G_findOwn (a0 := a0) (a1 := ob1) (i := i) (x := he + 32) (r := bs) W6 hS t_a0 tob1 ty_bs (by omega) (by omega) (by show 0 ≤ i ∧ i ≤ 500; omega)) dX6_find_119 kV_X6_122 rfl t_a0 rfl rfl (by decide) ck_7 rfl (Nat.le_of_ble_eq_true rfl) ⟨(Nat.le_of_ble_eq_true rfl), (Nat.le_of_ble_eq_true rfl)⟩ hph hph (show 0 + 0 = 0 from rfl) (by decide) (fun rh7 Lh7 clh7 lnh7 ivh7 rvh7 h7 => ?_)
                  obtain ⟨f7, rfl, rfl, rfl, rfl, rfl, rfl, rgf7, exf7⟩ := h7
                  refine c_st (st2 := [(va_rf f7)]) rfl ?_
                  have gf7 : FOX sk ln ivh6 rv a0 ob1 i (he + 32) bs f7 := exf7
                  refine c_astorer (r := f7) (lv2 := [(4, (va_rf f7)), (5, .int (iI (he + 32))), (6, .ref ob1), (0, .ref a0), (1, .ref a1), (2, .int (iI i)), (3, .int (iI x))]) C dX6_find_122 (by decide) rfl ?_
                  refine c_aload (j := 2) (x := ob1) C dX6_find_124 rfl ?_
                  refine hv3 (show (-2147483648) ≤ ivh6 ob1 0 ∧ ivh6 ob1 0 ≤ 2147483647 from W6.int tob1 0) (show ivh6 ob1 0 = ivh5 ob1 0 from fl6.i tob1 rfl 0) (show ivh5 ob1 0 = ivh1 ob1 0 from fl5.i tob1 rfl 0) (fun ri4 ie4 ie5 => ?_)
                  refine c_get (k := 0) C ck_10 dX6_find_126 w2_177 (by decide) tob1 rfl rfl (by decide) rfl ?_
                  refine c_iconst C dX6_find_129 ?_
                  refine c_icmp_ne (tgt := 136) C (r32_c (lo := (-2147483648)) (hi := 2147483647) ri4.1 ri4.2 (by decide) (by decide)) ⟨by decide, by decide⟩ dX6_find_130 (by decide) (fun c6 => ?_) (fun c6 => ?_)
                  · refine c_aload (j := 2) (x := ob1) C dX6_find_136 rfl ?_
                    rcases W6.opt tob1 2 rfl rfl with ⟨nq2, _⟩ | ⟨nb2, nq2, tnb2⟩
                    · refine c_getr (k := 2) C ck_10 dX6_find_138 w2_182 (by decide) tob1 rfl rfl (by decide) rfl nq2 ?_
                      refine c_st (st2 := [.null]) rfl ?_
                      refine c_astorer (r := none) (lv2 := [(6, .null), (4, (va_rf f7)), (5, .int (iI (he + 32))), (0, .ref a0), (1, .ref a1), (2, .int (iI i)), (3, .int (iI x))]) C dX6_find_141 (by decide) rfl ?_
                      refine c_goto (tgt := 9) C dX6_find_143 (by decide) ?_
                      refine c_lv (lv2 := [(4, (va_rf f7)), (5, .int (iI (he + 32))), (6, .null), (0, .ref a0), (1, .ref a1), (2, .int (iI i)), (3, .int (iI x))]) [1, 2, 0, 3, 4, 5, 6] rfl ?_
                      exact ih1  f7 none (he + 32) (rk - 1) _ (by omega) W6 F4 rgf7 (fun _ q => by cases q) (by omega) (by omega) (fun _ q => by cases q) (hD.sho (FOX.ni hW hS W6 F4 t_a0 ty_bs rgf7 gf7) (by omega) (by unfold sml; split <;> omega) nq2 (by omega))
                    · have rknb2 := W6.rank tob1 (k := 2) (by decide) nq2
                      refine c_getr (k := 2) C ck_10 dX6_find_138 w2_182 (by decide) tob1 rfl rfl (by decide) rfl nq2 ?_
                      refine c_st (st2 := [.ref nb2]) rfl ?_
                      refine c_astore (lv2 := [(6, .ref nb2), (4, (va_rf f7)), (5, .int (iI (he + 32))), (0, .ref a0), (1, .ref a1), (2, .int (iI i)), (3, .int (iI x))]) C dX6_find_141 (by decide) rfl ?_
                      refine c_goto (tgt := 9) C dX6_find_143 (by decide) ?_
                      have trnb2 := bt_100 tnb2.2
                      refine c_lv (lv2 := [(4, (va_rf f7)), (5, .int (iI (he + 32))), (6, .ref nb2), (0, .ref a0), (1, .ref a1), (2, .int (iI i)), (3, .int (iI x))]) [1, 2, 0, 3, 4, 5, 6] rfl ?_
                      exact ih1  f7 (some nb2) (he + 32) (rk - 1) _ (by omega) W6 F4 rgf7 (fun _ q => by cases q; exact tnb2) (by omega) (by omega) (fun _ q => by cases q; omega) (hD.sho (FOX.ni hW hS W6 F4 t_a0 ty_bs rgf7 gf7) (by omega) (by unfold sml; split <;> omega) nq2 (by omega))
                  · refine c_aloadr (j := 0) (r := f7) C dX6_find_133 rfl ?_
                    exact c_aret (x := f7) C dX6_find_135 rfl (Or.inl ⟨_, rfl⟩) (by decide) (rom0 hph hph (by decide)) ⟨f7, rfl, rfl, rfl, rfl, rfl, F4, W6, rgf7, (by exfalso; omega)⟩
                · refine c_st (st2 := [.int (iI 0)]) (by rw [show inn (iI he) 65 90 = iI 0 from hs1e]) ?_
                  refine c_if_eq (tgt := 102) C ⟨by decide, by decide⟩ dX6_find_91 (by decide) (fun _ => ?_) (fun z => absurd z (by omega))
                  refine c_iload (j := 1) C dX6_find_102 rfl ?_
                  refine c_istore (lv2 := [(5, .int (iI he)), (4, (va_rf bs)), (6, .ref ob1), (0, .ref a0), (1, .ref a1), (2, .int (iI i)), (3, .int (iI x))]) C dX6_find_104 (by decide) (by cases bs <;> rfl) ?_
                  refine c_aload_n (j := 3) (x := a0) C dX6_find_106 rfl ?_
                  refine c_iconst C dX6_find_107 ?_
                  refine d_callV (As := [.int (iI 0)]) (rest := []) C hM (C_countFind (a0 := a0) (i := 0) W5 hS t_a0 ⟨by decide, by decide⟩ ) dX6_find_108 kV_X6_119 rfl t_a0 rfl rfl (by decide) ck_7 rfl (Nat.le_of_ble_eq_true rfl) ⟨(Nat.le_of_ble_eq_true rfl), (Nat.le_of_ble_eq_true rfl)⟩ hph hph (show 0 + 0 = 0 from rfl) (by decide) (fun rh8 Lh8 clh8 lnh8 ivh8 rvh8 h8 => ?_)
                  obtain ⟨rfl, rfl, rfl, rfl, rfl, fl8, W8, exf8⟩ := h8
                  have F5 := F3.call hX0 fl8 rfl
                  refine c_st (st2 := []) rfl ?_
                  refine c_aload_n (j := 3) (x := a0) C dX6_find_111 rfl ?_
                  refine c_aload (j := 2) (x := ob1) C dX6_find_112 rfl ?_
                  refine c_iload_n (j := 5) C dX6_find_114 rfl ?_
                  refine c_iload (j := 0) C dX6_find_115 rfl ?_
                  refine c_aloadr (j := 1) (r := bs) C dX6_find_117 rfl ?_
                  refine d_callV (As := [.ref ob1, .int (iI i), .int (iI he), (va_rf bs)]) (rest := []) C hM (G_findOwn (a0 := a0) (a1 := ob1) (i := i) (x := he) (r := bs) W8 hS t_a0 tob1 ty_bs (by omega) (by omega) (by show 0 ≤ i ∧ i ≤ 500; omega)) dX6_find_119 kV_X6_122 rfl t_a0 rfl rfl (by decide) ck_7 rfl (Nat.le_of_ble_eq_true rfl) ⟨(Nat.le_of_ble_eq_true rfl), (Nat.le_of_ble_eq_true rfl)⟩ hph hph (show 0 + 0 = 0 from rfl) (by decide) (fun rh9 Lh9 clh9 lnh9 ivh9 rvh9 h9 => ?_)
                  obtain ⟨f9, rfl, rfl, rfl, rfl, rfl, rfl, rgf9, exf9⟩ := h9
                  refine c_st (st2 := [(va_rf f9)]) rfl ?_
                  have gf9 : FOX sk ln ivh8 rv a0 ob1 i he bs f9 := exf9
                  refine c_astorer (r := f9) (lv2 := [(4, (va_rf f9)), (5, .int (iI he)), (6, .ref ob1), (0, .ref a0), (1, .ref a1), (2, .int (iI i)), (3, .int (iI x))]) C dX6_find_122 (by decide) rfl ?_
                  refine c_aload (j := 2) (x := ob1) C dX6_find_124 rfl ?_
                  refine hv3 (show (-2147483648) ≤ ivh8 ob1 0 ∧ ivh8 ob1 0 ≤ 2147483647 from W8.int tob1 0) (show ivh8 ob1 0 = ivh5 ob1 0 from fl8.i tob1 rfl 0) (show ivh5 ob1 0 = ivh1 ob1 0 from fl5.i tob1 rfl 0) (fun ri5 ie6 ie7 => ?_)
                  refine c_get (k := 0) C ck_10 dX6_find_126 w2_177 (by decide) tob1 rfl rfl (by decide) rfl ?_
                  refine c_iconst C dX6_find_129 ?_
                  refine c_icmp_ne (tgt := 136) C (r32_c (lo := (-2147483648)) (hi := 2147483647) ri5.1 ri5.2 (by decide) (by decide)) ⟨by decide, by decide⟩ dX6_find_130 (by decide) (fun c7 => ?_) (fun c7 => ?_)
                  · refine c_aload (j := 2) (x := ob1) C dX6_find_136 rfl ?_
                    rcases W8.opt tob1 2 rfl rfl with ⟨nq3, _⟩ | ⟨nb3, nq3, tnb3⟩
                    · refine c_getr (k := 2) C ck_10 dX6_find_138 w2_182 (by decide) tob1 rfl rfl (by decide) rfl nq3 ?_
                      refine c_st (st2 := [.null]) rfl ?_
                      refine c_astorer (r := none) (lv2 := [(6, .null), (4, (va_rf f9)), (5, .int (iI he)), (0, .ref a0), (1, .ref a1), (2, .int (iI i)), (3, .int (iI x))]) C dX6_find_141 (by decide) rfl ?_
                      refine c_goto (tgt := 9) C dX6_find_143 (by decide) ?_
                      refine c_lv (lv2 := [(4, (va_rf f9)), (5, .int (iI he)), (6, .null), (0, .ref a0), (1, .ref a1), (2, .int (iI i)), (3, .int (iI x))]) [1, 2, 0, 3, 4, 5, 6] rfl ?_
                      exact ih1  f9 none he (rk - 1) _ (by omega) W8 F5 rgf9 (fun _ q => by cases q) (by omega) (by omega) (fun _ q => by cases q) (hD.sho (FOX.ni hW hS W8 F5 t_a0 ty_bs rgf9 gf9) (by omega) (by unfold sml; split <;> omega) nq3 (by omega))
                    · have rknb3 := W8.rank tob1 (k := 2) (by decide) nq3
                      refine c_getr (k := 2) C ck_10 dX6_find_138 w2_182 (by decide) tob1 rfl rfl (by decide) rfl nq3 ?_
                      refine c_st (st2 := [.ref nb3]) rfl ?_
                      refine c_astore (lv2 := [(6, .ref nb3), (4, (va_rf f9)), (5, .int (iI he)), (0, .ref a0), (1, .ref a1), (2, .int (iI i)), (3, .int (iI x))]) C dX6_find_141 (by decide) rfl ?_
                      refine c_goto (tgt := 9) C dX6_find_143 (by decide) ?_
                      have trnb3 := bt_100 tnb3.2
                      refine c_lv (lv2 := [(4, (va_rf f9)), (5, .int (iI he)), (6, .ref nb3), (0, .ref a0), (1, .ref a1), (2, .int (iI i)), (3, .int (iI x))]) [1, 2, 0, 3, 4, 5, 6] rfl ?_
                      exact ih1  f9 (some nb3) he (rk - 1) _ (by omega) W8 F5 rgf9 (fun _ q => by cases q; exact tnb3) (by omega) (by omega) (fun _ q => by cases q; omega) (hD.sho (FOX.ni hW hS W8 F5 t_a0 ty_bs rgf9 gf9) (by omega) (by unfold sml; split <;> omega) nq3 (by omega))
                  · refine c_aloadr (j := 0) (r := f9) C dX6_find_133 rfl ?_
                    exact c_aret (x := f9) C dX6_find_135 rfl (Or.inl ⟨_, rfl⟩) (by decide) (rom0 hph hph (by decide)) ⟨f9, rfl, rfl, rfl, rfl, rfl, F5, W8, rgf9, (by exfalso; omega)⟩
            · refine c_iload (j := 1) C dX6_find_61 rfl ?_
              refine c_callSN0 (As := [.int (iI he)]) (rest := []) C (fun L E => s11_isDigit (iI he)) dX6_find_63 kSN_X6_115 rfl rfl (Nat.le_of_ble_eq_true rfl) ⟨(Nat.le_of_ble_eq_true rfl), (Nat.le_of_ble_eq_true rfl)⟩ (rom0 hph hph (by decide)) ?_
              rcases inn_c (x := he) (lo := 48) (hi := 57) (r32_c (lo := (-2147483648)) (hi := 2147483647) hhe.1 hhe.2 (by decide) (by decide)) ⟨by decide, by decide⟩ ⟨by decide, by decide⟩ with ⟨hs2a, hs2b, hs2e⟩ | ⟨hs2a, hs2e⟩
              · refine c_st (st2 := [.int (iI 1)]) (by rw [show inn (iI he) 48 57 = iI 1 from hs2e]) ?_
                refine c_if_ne (tgt := 72) C ⟨by decide, by decide⟩ dX6_find_66 (by decide) (fun _ => ?_) (fun z => absurd z (by omega))
                refine c_aload (j := 2) (x := ob1) C dX6_find_72 rfl ?_
                refine c_get (k := 0) C ck_10 dX6_find_74 w2_177 (by decide) tob1 rfl rfl (by decide) rfl ?_
                refine c_iconst C dX6_find_77 ?_
                refine c_icmp_ne (tgt := 106) C (r32_c (lo := (-2147483648)) (hi := 2147483647) ri2.1 ri2.2 (by decide) (by decide)) ⟨by decide, by decide⟩ dX6_find_78 (by decide) (fun c8 => ?_) (fun c8 => ?_)
                · refine c_aload_n (j := 3) (x := a0) C dX6_find_106 rfl ?_
                  refine c_iconst C dX6_find_107 ?_
                  refine d_callV (As := [.int (iI 0)]) (rest := []) C hM (C_countFind (a0 := a0) (i := 0) W1 hS t_a0 ⟨by decide, by decide⟩ ) dX6_find_108 kV_X6_119 rfl t_a0 rfl rfl (by decide) ck_7 rfl (Nat.le_of_ble_eq_true rfl) ⟨(Nat.le_of_ble_eq_true rfl), (Nat.le_of_ble_eq_true rfl)⟩ hph hph (show 0 + 0 = 0 from rfl) (by decide) (fun rh10 Lh10 clh10 lnh10 ivh10 rvh10 h10 => ?_)
                  obtain ⟨rfl, rfl, rfl, rfl, rfl, fl10, W10, exf10⟩ := h10
                  have F6 := F1.call hX0 fl10 rfl
                  refine c_st (st2 := []) rfl ?_
                  refine c_aload_n (j := 3) (x := a0) C dX6_find_111 rfl ?_
                  refine c_aload (j := 2) (x := ob1) C dX6_find_112 rfl ?_
                  refine c_iload_n (j := 5) C dX6_find_114 rfl ?_
                  refine c_iload (j := 1) C dX6_find_115 rfl ?_
                  refine c_aloadr (j := 0) (r := bs) C dX6_find_117 rfl ?_
                  refine d_callV (As := [.ref ob1, .int (iI i), .int (iI he), (va_rf bs)]) (rest := []) C hM (G_findOwn (a0 := a0) (a1 := ob1) (i := i) (x := he) (r := bs) W10 hS t_a0 tob1 ty_bs (by omega) (by omega) (by show 0 ≤ i ∧ i ≤ 500; omega)) dX6_find_119 kV_X6_122 rfl t_a0 rfl rfl (by decide) ck_7 rfl (Nat.le_of_ble_eq_true rfl) ⟨(Nat.le_of_ble_eq_true rfl), (Nat.le_of_ble_eq_true rfl)⟩ hph hph (show 0 + 0 = 0 from rfl) (by decide) (fun rh11 Lh11 clh11 lnh11 ivh11 rvh11 h11 => ?_)
                  obtain ⟨f11, rfl, rfl, rfl, rfl, rfl, rfl, rgf11, exf11⟩ := h11
                  refine c_st (st2 := [(va_rf f11)]) rfl ?_
                  have gf11 : FOX sk ln ivh10 rv a0 ob1 i he bs f11 := exf11
                  refine c_astorer (r := f11) (lv2 := [(4, (va_rf f11)), (5, .int (iI he)), (6, .ref ob1), (0, .ref a0), (1, .ref a1), (2, .int (iI i)), (3, .int (iI x))]) C dX6_find_122 (by decide) rfl ?_
                  refine c_aload (j := 2) (x := ob1) C dX6_find_124 rfl ?_
                  refine hv2 (show (-2147483648) ≤ ivh10 ob1 0 ∧ ivh10 ob1 0 ≤ 2147483647 from W10.int tob1 0) (show ivh10 ob1 0 = ivh1 ob1 0 from fl10.i tob1 rfl 0) (fun ri6 ie8 => ?_)
                  refine c_get (k := 0) C ck_10 dX6_find_126 w2_177 (by decide) tob1 rfl rfl (by decide) rfl ?_
                  refine c_iconst C dX6_find_129 ?_
                  refine c_icmp_ne (tgt := 136) C (r32_c (lo := (-2147483648)) (hi := 2147483647) ri6.1 ri6.2 (by decide) (by decide)) ⟨by decide, by decide⟩ dX6_find_130 (by decide) (fun c9 => ?_) (fun c9 => ?_)
                  · refine c_aload (j := 2) (x := ob1) C dX6_find_136 rfl ?_
                    rcases W10.opt tob1 2 rfl rfl with ⟨nq4, _⟩ | ⟨nb4, nq4, tnb4⟩
                    · refine c_getr (k := 2) C ck_10 dX6_find_138 w2_182 (by decide) tob1 rfl rfl (by decide) rfl nq4 ?_
                      refine c_st (st2 := [.null]) rfl ?_
                      refine c_astorer (r := none) (lv2 := [(6, .null), (4, (va_rf f11)), (5, .int (iI he)), (0, .ref a0), (1, .ref a1), (2, .int (iI i)), (3, .int (iI x))]) C dX6_find_141 (by decide) rfl ?_
                      refine c_goto (tgt := 9) C dX6_find_143 (by decide) ?_
                      refine c_lv (lv2 := [(4, (va_rf f11)), (5, .int (iI he)), (6, .null), (0, .ref a0), (1, .ref a1), (2, .int (iI i)), (3, .int (iI x))]) [1, 2, 0, 3, 4, 5, 6] rfl ?_
                      exact ih1  f11 none he (rk - 1) _ (by omega) W10 F6 rgf11 (fun _ q => by cases q) (by omega) (by omega) (fun _ q => by cases q) (by exfalso; omega)
                    · have rknb4 := W10.rank tob1 (k := 2) (by decide) nq4
                      refine c_getr (k := 2) C ck_10 dX6_find_138 w2_182 (by decide) tob1 rfl rfl (by decide) rfl nq4 ?_
                      refine c_st (st2 := [.ref nb4]) rfl ?_
                      refine c_astore (lv2 := [(6, .ref nb4), (4, (va_rf f11)), (5, .int (iI he)), (0, .ref a0), (1, .ref a1), (2, .int (iI i)), (3, .int (iI x))]) C dX6_find_141 (by decide) rfl ?_
                      refine c_goto (tgt := 9) C dX6_find_143 (by decide) ?_
                      have trnb4 := bt_100 tnb4.2
                      refine c_lv (lv2 := [(4, (va_rf f11)), (5, .int (iI he)), (6, .ref nb4), (0, .ref a0), (1, .ref a1), (2, .int (iI i)), (3, .int (iI x))]) [1, 2, 0, 3, 4, 5, 6] rfl ?_
                      exact ih1  f11 (some nb4) he (rk - 1) _ (by omega) W10 F6 rgf11 (fun _ q => by cases q; exact tnb4) (by omega) (by omega) (fun _ q => by cases q; omega) (by exfalso; omega)
                  · refine c_aloadr (j := 0) (r := f11) C dX6_find_133 rfl ?_
                    exact c_aret (x := f11) C dX6_find_135 rfl (Or.inl ⟨_, rfl⟩) (by decide) (rom0 hph hph (by decide)) ⟨f11, rfl, rfl, rfl, rfl, rfl, F6, W10, rgf11, (hD.num (FOX.ni hW hS W10 F6 t_a0 ty_bs rgf11 gf11) (by omega) (by unfold isD; omega) (by omega))⟩
                · refine c_aload_n (j := 3) (x := a0) C dX6_find_81 rfl ?_
                  refine c_iconst C dX6_find_82 ?_
                  refine d_callV (As := [.int (iI 1)]) (rest := []) C hM (C_countFind (a0 := a0) (i := 1) W1 hS t_a0 ⟨by decide, by decide⟩ ) dX6_find_83 kV_X6_119 rfl t_a0 rfl rfl (by decide) ck_7 rfl (Nat.le_of_ble_eq_true rfl) ⟨(Nat.le_of_ble_eq_true rfl), (Nat.le_of_ble_eq_true rfl)⟩ hph hph (show 0 + 0 = 0 from rfl) (by decide) (fun rh12 Lh12 clh12 lnh12 ivh12 rvh12 h12 => ?_)
                  obtain ⟨rfl, rfl, rfl, rfl, rfl, fl12, W12, exf12⟩ := h12
                  have F7 := F1.call hX0 fl12 rfl
                  refine c_st (st2 := []) rfl ?_
                  refine c_iload (j := 1) C dX6_find_86 rfl ?_
                  refine c_callSN0 (As := [.int (iI he)]) (rest := []) C (fun L E => s11_isGreat (iI he)) dX6_find_88 kSN_X6_98 rfl rfl (Nat.le_of_ble_eq_true rfl) ⟨(Nat.le_of_ble_eq_true rfl), (Nat.le_of_ble_eq_true rfl)⟩ (rom0 hph hph (by decide)) ?_
                  rcases inn_c (x := he) (lo := 65) (hi := 90) (r32_c (lo := (-2147483648)) (hi := 2147483647) hhe.1 hhe.2 (by decide) (by decide)) ⟨by decide, by decide⟩ ⟨by decide, by decide⟩ with ⟨hs3a, hs3b, hs3e⟩ | ⟨hs3a, hs3e⟩
                  · refine c_st (st2 := [.int (iI 1)]) (by rw [show inn (iI he) 65 90 = iI 1 from hs3e]) ?_
                    refine c_if_eq (tgt := 102) C ⟨by decide, by decide⟩ dX6_find_91 (by decide) (fun z => absurd z (by omega)) (fun _ => ?_)
                    refine c_iload (j := 1) C dX6_find_94 rfl ?_
                    refine c_bipush (z := 32) C dX6_find_96 (by decide) ?_
                    refine c_iadd C dX6_find_98 ?_
                    refine c_goto (tgt := 104) C dX6_find_99 (by decide) ?_
                    refine c_istore (lv2 := [(5, .int (iI (he + 32))), (4, (va_rf bs)), (6, .ref ob1), (0, .ref a0), (1, .ref a1), (2, .int (iI i)), (3, .int (iI x))]) C dX6_find_104 (by decide) (by cases bs <;> rfl) ?_
                    refine c_aload_n (j := 3) (x := a0) C dX6_find_106 rfl ?_
                    refine c_iconst C dX6_find_107 ?_
                    refine d_callV (As := [.int (iI 0)]) (rest := []) C hM (C_countFind (a0 := a0) (i := 0) W12 hS t_a0 ⟨by decide, by decide⟩ ) dX6_find_108 kV_X6_119 rfl t_a0 rfl rfl (by decide) ck_7 rfl (Nat.le_of_ble_eq_true rfl) ⟨(Nat.le_of_ble_eq_true rfl), (Nat.le_of_ble_eq_true rfl)⟩ hph hph (show 0 + 0 = 0 from rfl) (by decide) (fun rh13 Lh13 clh13 lnh13 ivh13 rvh13 h13 => ?_)
                    obtain ⟨rfl, rfl, rfl, rfl, rfl, fl13, W13, exf13⟩ := h13
                    have F8 := F7.call hX0 fl13 rfl
                    refine c_st (st2 := []) rfl ?_
                    refine c_aload_n (j := 3) (x := a0) C dX6_find_111 rfl ?_
                    refine c_aload (j := 2) (x := ob1) C dX6_find_112 rfl ?_
                    refine c_iload_n (j := 5) C dX6_find_114 rfl ?_
                    refine c_iload (j := 0) C dX6_find_115 rfl ?_
                    refine c_aloadr (j := 1) (r := bs) C dX6_find_117 rfl ?_
                    refine d_callV (As := [.ref ob1, .int (iI i), .int (iI (he + 32)), (va_rf bs)]) (rest := []) C hM (G_findOwn (a0 := a0) (a1 := ob1) (i := i) (x := he + 32) (r := bs) W13 hS t_a0 tob1 ty_bs (by omega) (by omega) (by show 0 ≤ i ∧ i ≤ 500; omega)) dX6_find_119 kV_X6_122 rfl t_a0 rfl rfl (by decide) ck_7 rfl (Nat.le_of_ble_eq_true rfl) ⟨(Nat.le_of_ble_eq_true rfl), (Nat.le_of_ble_eq_true rfl)⟩ hph hph (show 0 + 0 = 0 from rfl) (by decide) (fun rh14 Lh14 clh14 lnh14 ivh14 rvh14 h14 => ?_)
                    obtain ⟨f14, rfl, rfl, rfl, rfl, rfl, rfl, rgf14, exf14⟩ := h14
                    refine c_st (st2 := [(va_rf f14)]) rfl ?_
                    have gf14 : FOX sk ln ivh13 rv a0 ob1 i (he + 32) bs f14 := exf14
                    refine c_astorer (r := f14) (lv2 := [(4, (va_rf f14)), (5, .int (iI (he + 32))), (6, .ref ob1), (0, .ref a0), (1, .ref a1), (2, .int (iI i)), (3, .int (iI x))]) C dX6_find_122 (by decide) rfl ?_
                    refine c_aload (j := 2) (x := ob1) C dX6_find_124 rfl ?_
                    refine hv3 (show (-2147483648) ≤ ivh13 ob1 0 ∧ ivh13 ob1 0 ≤ 2147483647 from W13.int tob1 0) (show ivh13 ob1 0 = ivh12 ob1 0 from fl13.i tob1 rfl 0) (show ivh12 ob1 0 = ivh1 ob1 0 from fl12.i tob1 rfl 0) (fun ri7 ie9 ie10 => ?_)
                    refine c_get (k := 0) C ck_10 dX6_find_126 w2_177 (by decide) tob1 rfl rfl (by decide) rfl ?_
                    refine c_iconst C dX6_find_129 ?_
                    refine c_icmp_ne (tgt := 136) C (r32_c (lo := (-2147483648)) (hi := 2147483647) ri7.1 ri7.2 (by decide) (by decide)) ⟨by decide, by decide⟩ dX6_find_130 (by decide) (fun c10 => ?_) (fun c10 => ?_)
                    · refine c_aload (j := 2) (x := ob1) C dX6_find_136 rfl ?_
                      rcases W13.opt tob1 2 rfl rfl with ⟨nq5, _⟩ | ⟨nb5, nq5, tnb5⟩
                      · refine c_getr (k := 2) C ck_10 dX6_find_138 w2_182 (by decide) tob1 rfl rfl (by decide) rfl nq5 ?_
                        refine c_st (st2 := [.null]) rfl ?_
                        refine c_astorer (r := none) (lv2 := [(6, .null), (4, (va_rf f14)), (5, .int (iI (he + 32))), (0, .ref a0), (1, .ref a1), (2, .int (iI i)), (3, .int (iI x))]) C dX6_find_141 (by decide) rfl ?_
                        refine c_goto (tgt := 9) C dX6_find_143 (by decide) ?_
                        refine c_lv (lv2 := [(4, (va_rf f14)), (5, .int (iI (he + 32))), (6, .null), (0, .ref a0), (1, .ref a1), (2, .int (iI i)), (3, .int (iI x))]) [1, 2, 0, 3, 4, 5, 6] rfl ?_
                        exact ih1  f14 none (he + 32) (rk - 1) _ (by omega) W13 F8 rgf14 (fun _ q => by cases q) (by omega) (by omega) (fun _ q => by cases q) (by exfalso; omega)
                      · have rknb5 := W13.rank tob1 (k := 2) (by decide) nq5
                        refine c_getr (k := 2) C ck_10 dX6_find_138 w2_182 (by decide) tob1 rfl rfl (by decide) rfl nq5 ?_
                        refine c_st (st2 := [.ref nb5]) rfl ?_
                        refine c_astore (lv2 := [(6, .ref nb5), (4, (va_rf f14)), (5, .int (iI (he + 32))), (0, .ref a0), (1, .ref a1), (2, .int (iI i)), (3, .int (iI x))]) C dX6_find_141 (by decide) rfl ?_
                        refine c_goto (tgt := 9) C dX6_find_143 (by decide) ?_
                        have trnb5 := bt_100 tnb5.2
                        refine c_lv (lv2 := [(4, (va_rf f14)), (5, .int (iI (he + 32))), (6, .ref nb5), (0, .ref a0), (1, .ref a1), (2, .int (iI i)), (3, .int (iI x))]) [1, 2, 0, 3, 4, 5, 6] rfl ?_
                        exact ih1  f14 (some nb5) (he + 32) (rk - 1) _ (by omega) W13 F8 rgf14 (fun _ q => by cases q; exact tnb5) (by omega) (by omega) (fun _ q => by cases q; omega) (by exfalso; omega)
                    · refine c_aloadr (j := 0) (r := f14) C dX6_find_133 rfl ?_
                      exact c_aret (x := f14) C dX6_find_135 rfl (Or.inl ⟨_, rfl⟩) (by decide) (rom0 hph hph (by decide)) ⟨f14, rfl, rfl, rfl, rfl, rfl, F8, W13, rgf14, (by exfalso; omega)⟩
                  · refine c_st (st2 := [.int (iI 0)]) (by rw [show inn (iI he) 65 90 = iI 0 from hs3e]) ?_
                    refine c_if_eq (tgt := 102) C ⟨by decide, by decide⟩ dX6_find_91 (by decide) (fun _ => ?_) (fun z => absurd z (by omega))
                    refine c_iload (j := 1) C dX6_find_102 rfl ?_
                    refine c_istore (lv2 := [(5, .int (iI he)), (4, (va_rf bs)), (6, .ref ob1), (0, .ref a0), (1, .ref a1), (2, .int (iI i)), (3, .int (iI x))]) C dX6_find_104 (by decide) (by cases bs <;> rfl) ?_
                    refine c_aload_n (j := 3) (x := a0) C dX6_find_106 rfl ?_
                    refine c_iconst C dX6_find_107 ?_
                    refine d_callV (As := [.int (iI 0)]) (rest := []) C hM (C_countFind (a0 := a0) (i := 0) W12 hS t_a0 ⟨by decide, by decide⟩ ) dX6_find_108 kV_X6_119 rfl t_a0 rfl rfl (by decide) ck_7 rfl (Nat.le_of_ble_eq_true rfl) ⟨(Nat.le_of_ble_eq_true rfl), (Nat.le_of_ble_eq_true rfl)⟩ hph hph (show 0 + 0 = 0 from rfl) (by decide) (fun rh15 Lh15 clh15 lnh15 ivh15 rvh15 h15 => ?_)
                    obtain ⟨rfl, rfl, rfl, rfl, rfl, fl15, W15, exf15⟩ := h15
                    have F9 := F7.call hX0 fl15 rfl
                    refine c_st (st2 := []) rfl ?_
                    refine c_aload_n (j := 3) (x := a0) C dX6_find_111 rfl ?_
                    refine c_aload (j := 2) (x := ob1) C dX6_find_112 rfl ?_
                    refine c_iload_n (j := 5) C dX6_find_114 rfl ?_
                    refine c_iload (j := 0) C dX6_find_115 rfl ?_
                    refine c_aloadr (j := 1) (r := bs) C dX6_find_117 rfl ?_
                    refine d_callV (As := [.ref ob1, .int (iI i), .int (iI he), (va_rf bs)]) (rest := []) C hM (G_findOwn (a0 := a0) (a1 := ob1) (i := i) (x := he) (r := bs) W15 hS t_a0 tob1 ty_bs (by omega) (by omega) (by show 0 ≤ i ∧ i ≤ 500; omega)) dX6_find_119 kV_X6_122 rfl t_a0 rfl rfl (by decide) ck_7 rfl (Nat.le_of_ble_eq_true rfl) ⟨(Nat.le_of_ble_eq_true rfl), (Nat.le_of_ble_eq_true rfl)⟩ hph hph (show 0 + 0 = 0 from rfl) (by decide) (fun rh16 Lh16 clh16 lnh16 ivh16 rvh16 h16 => ?_)
                    obtain ⟨f16, rfl, rfl, rfl, rfl, rfl, rfl, rgf16, exf16⟩ := h16
                    refine c_st (st2 := [(va_rf f16)]) rfl ?_
                    have gf16 : FOX sk ln ivh15 rv a0 ob1 i he bs f16 := exf16
                    refine c_astorer (r := f16) (lv2 := [(4, (va_rf f16)), (5, .int (iI he)), (6, .ref ob1), (0, .ref a0), (1, .ref a1), (2, .int (iI i)), (3, .int (iI x))]) C dX6_find_122 (by decide) rfl ?_
                    refine c_aload (j := 2) (x := ob1) C dX6_find_124 rfl ?_
                    refine hv3 (show (-2147483648) ≤ ivh15 ob1 0 ∧ ivh15 ob1 0 ≤ 2147483647 from W15.int tob1 0) (show ivh15 ob1 0 = ivh12 ob1 0 from fl15.i tob1 rfl 0) (show ivh12 ob1 0 = ivh1 ob1 0 from fl12.i tob1 rfl 0) (fun ri8 ie11 ie12 => ?_)
                    refine c_get (k := 0) C ck_10 dX6_find_126 w2_177 (by decide) tob1 rfl rfl (by decide) rfl ?_
                    refine c_iconst C dX6_find_129 ?_
                    refine c_icmp_ne (tgt := 136) C (r32_c (lo := (-2147483648)) (hi := 2147483647) ri8.1 ri8.2 (by decide) (by decide)) ⟨by decide, by decide⟩ dX6_find_130 (by decide) (fun c11 => ?_) (fun c11 => ?_)
                    · refine c_aload (j := 2) (x := ob1) C dX6_find_136 rfl ?_
                      rcases W15.opt tob1 2 rfl rfl with ⟨nq6, _⟩ | ⟨nb6, nq6, tnb6⟩
                      · refine c_getr (k := 2) C ck_10 dX6_find_138 w2_182 (by decide) tob1 rfl rfl (by decide) rfl nq6 ?_
                        refine c_st (st2 := [.null]) rfl ?_
                        refine c_astorer (r := none) (lv2 := [(6, .null), (4, (va_rf f16)), (5, .int (iI he)), (0, .ref a0), (1, .ref a1), (2, .int (iI i)), (3, .int (iI x))]) C dX6_find_141 (by decide) rfl ?_
                        refine c_goto (tgt := 9) C dX6_find_143 (by decide) ?_
                        refine c_lv (lv2 := [(4, (va_rf f16)), (5, .int (iI he)), (6, .null), (0, .ref a0), (1, .ref a1), (2, .int (iI i)), (3, .int (iI x))]) [1, 2, 0, 3, 4, 5, 6] rfl ?_
                        exact ih1  f16 none he (rk - 1) _ (by omega) W15 F9 rgf16 (fun _ q => by cases q) (by omega) (by omega) (fun _ q => by cases q) (by exfalso; omega)
                      · have rknb6 := W15.rank tob1 (k := 2) (by decide) nq6
                        refine c_getr (k := 2) C ck_10 dX6_find_138 w2_182 (by decide) tob1 rfl rfl (by decide) rfl nq6 ?_
                        refine c_st (st2 := [.ref nb6]) rfl ?_
                        refine c_astore (lv2 := [(6, .ref nb6), (4, (va_rf f16)), (5, .int (iI he)), (0, .ref a0), (1, .ref a1), (2, .int (iI i)), (3, .int (iI x))]) C dX6_find_141 (by decide) rfl ?_
                        refine c_goto (tgt := 9) C dX6_find_143 (by decide) ?_
                        have trnb6 := bt_100 tnb6.2
                        refine c_lv (lv2 := [(4, (va_rf f16)), (5, .int (iI he)), (6, .ref nb6), (0, .ref a0), (1, .ref a1), (2, .int (iI i)), (3, .int (iI x))]) [1, 2, 0, 3, 4, 5, 6] rfl ?_
                        exact ih1  f16 (some nb6) he (rk - 1) _ (by omega) W15 F9 rgf16 (fun _ q => by cases q; exact tnb6) (by omega) (by omega) (fun _ q => by cases q; omega) (by exfalso; omega)
                    · refine c_aloadr (j := 0) (r := f16) C dX6_find_133 rfl ?_
                      exact c_aret (x := f16) C dX6_find_135 rfl (Or.inl ⟨_, rfl⟩) (by decide) (rom0 hph hph (by decide)) ⟨f16, rfl, rfl, rfl, rfl, rfl, F9, W15, rgf16, (by exfalso; omega)⟩
              · refine c_st (st2 := [.int (iI 0)]) (by rw [show inn (iI he) 48 57 = iI 0 from hs2e]) ?_
                refine c_if_ne (tgt := 72) C ⟨by decide, by decide⟩ dX6_find_66 (by decide) (fun z => absurd z (by omega)) (fun _ => ?_)
                refine c_goto (tgt := 136) C dX6_find_69 (by decide) ?_
                refine c_aload (j := 2) (x := ob1) C dX6_find_136 rfl ?_
                rcases W1.opt tob1 2 rfl rfl with ⟨nq7, _⟩ | ⟨nb7, nq7, tnb7⟩
                · refine c_getr (k := 2) C ck_10 dX6_find_138 w2_182 (by decide) tob1 rfl rfl (by decide) rfl nq7 ?_
                  refine c_st (st2 := [.null]) rfl ?_
                  refine c_astorer (r := none) (lv2 := [(6, .null), (4, (va_rf bs)), (5, .int (iI he)), (0, .ref a0), (1, .ref a1), (2, .int (iI i)), (3, .int (iI x))]) C dX6_find_141 (by decide) rfl ?_
                  refine c_goto (tgt := 9) C dX6_find_143 (by decide) ?_
                  refine c_lv (lv2 := [(4, (va_rf bs)), (5, .int (iI he)), (6, .null), (0, .ref a0), (1, .ref a1), (2, .int (iI i)), (3, .int (iI x))]) [1, 2, 0, 3, 4, 5, 6] rfl ?_
                  exact ih1  bs none he (rk - 1) _ (by omega) W1 F1 ty_bs (fun _ q => by cases q) (by omega) (by omega) (fun _ q => by cases q) (hD.numn (by omega) (by unfold isD; omega) nq7)
                · have rknb7 := W1.rank tob1 (k := 2) (by decide) nq7
                  refine c_getr (k := 2) C ck_10 dX6_find_138 w2_182 (by decide) tob1 rfl rfl (by decide) rfl nq7 ?_
                  refine c_st (st2 := [.ref nb7]) rfl ?_
                  refine c_astore (lv2 := [(6, .ref nb7), (4, (va_rf bs)), (5, .int (iI he)), (0, .ref a0), (1, .ref a1), (2, .int (iI i)), (3, .int (iI x))]) C dX6_find_141 (by decide) rfl ?_
                  refine c_goto (tgt := 9) C dX6_find_143 (by decide) ?_
                  have trnb7 := bt_100 tnb7.2
                  refine c_lv (lv2 := [(4, (va_rf bs)), (5, .int (iI he)), (6, .ref nb7), (0, .ref a0), (1, .ref a1), (2, .int (iI i)), (3, .int (iI x))]) [1, 2, 0, 3, 4, 5, 6] rfl ?_
                  exact ih1  bs (some nb7) he (rk - 1) _ (by omega) W1 F1 ty_bs (fun _ q => by cases q; exact tnb7) (by omega) (by omega) (fun _ q => by cases q; omega) (hD.numn (by omega) (by unfold isD; omega) nq7)
          · refine c_aload_n (j := 3) (x := a0) C dX6_find_40 rfl ?_
            refine c_aload (j := 2) (x := ob1) C dX6_find_41 rfl ?_
            refine c_iload_n (j := 5) C dX6_find_43 rfl ?_
            refine c_iload (j := 1) C dX6_find_44 rfl ?_
            refine c_aloadr (j := 0) (r := bs) C dX6_find_46 rfl ?_
            refine d_callV (As := [.ref ob1, .int (iI i), .int (iI he), (va_rf bs)]) (rest := []) C hM (G_findOwn (a0 := a0) (a1 := ob1) (i := i) (x := he) (r := bs) W1 hS t_a0 tob1 ty_bs (by omega) (by omega) (by show 0 ≤ i ∧ i ≤ 500; omega)) dX6_find_48 kV_X6_122 rfl t_a0 rfl rfl (by decide) ck_7 rfl (Nat.le_of_ble_eq_true rfl) ⟨(Nat.le_of_ble_eq_true rfl), (Nat.le_of_ble_eq_true rfl)⟩ hph hph (show 0 + 0 = 0 from rfl) (by decide) (fun rh17 Lh17 clh17 lnh17 ivh17 rvh17 h17 => ?_)
            obtain ⟨f17, rfl, rfl, rfl, rfl, rfl, rfl, rgf17, exf17⟩ := h17
            refine c_st (st2 := [(va_rf f17)]) rfl ?_
            have gf17 : FOX sk ln ivh1 rv a0 ob1 i he bs f17 := exf17
            exact c_aret (x := f17) C dX6_find_51 rfl (Or.inl ⟨_, rfl⟩) (by decide) (rom0 hph hph (by decide)) ⟨f17, rfl, rfl, rfl, rfl, rfl, F1, W1, rgf17, (hD.plain (FOX.ni hW hS W1 F1 t_a0 ty_bs rgf17 gf17) (by omega) (by omega))⟩
  have tra1 := bt_100 t_a1.2
  refine c_lv (lv2 := [(4, .null), (5, .int (iI x)), (6, .ref a1), (0, .ref a0), (1, .ref a1), (2, .int (iI i)), (3, .int (iI x))]) [2, 1, 0, 3, 4, 5, 6] rfl ?_
  exact Lp1 31 none (some a1) x 129 _ (by omega) hW hF0 (fun _ q => by cases q) (fun _ q => by cases q; exact t_a1) (by omega) (by omega) (fun _ q => by cases q; omega) FDI.init
end
section
def PDH (iv : Nat → Nat → Int) (rv : Nat → Nat → Option Nat) (s : Nat) (l : List Int) : Prop := iv s 7 = ((l.length : Nat) : Int) ∧ ∀ cb, rv s 6 = some cb → ∀ (j : Nat) (d : Int), j < 200 → l[j]? = some d → iv cb j = d
def RCX (ln : Nat → Nat) (iv : Nat → Nat → Int) (rv : Nat → Nat → Option Nat) (r : Option Nat) (cs : List Int) : Prop := (r = none ∧ cs = []) ∨ ∃ w c, r = some w ∧ rv w 2 = some c ∧ cs = (List.range (ln c)).map (fun k => iv c k)
def PUX (ln : Nat → Nat) (iv : Nat → Nat → Int) (rv : Nat → Nat → Option Nat) (iv2 : Nat → Nat → Int) (s : Nat) (r : Option Nat) : Prop := ∀ l, PDH iv rv s l → ∀ cs, RCX ln iv rv r cs → PDH iv2 rv s (l ++ cs)
def PUK (ln : Nat → Nat) (iv : Nat → Nat → Int) (rv : Nat → Nat → Option Nat) (iv1 : Nat → Nat → Int) (s : Nat) (r : Option Nat) (k : Int) : Prop := ∀ w c, r = some w → rv w 2 = some c → k ≤ ((ln c : Nat) : Int) ∧ ∀ l, PDH iv rv s l → PDH iv1 rv s (l ++ (List.range k.toNat).map (fun j => iv c j))
def CTX (sk ln : Nat → Nat) (iv : Nat → Nat → Int) (rv : Nat → Nat → Option Nat) (s tb : Nat) (q u : Int) (v : Nat → Int) (a : Nat → Nat → Int) (W : Nat → Int) (t : Nat) : Prop := TRL sk ln iv rv v a ∧ (t : Int) < v 4 ∧ a 6 t ≠ 5 ∧ el rv (sk 22) t = some tb ∧ LTW iv rv s W q u
def NAX (sk ln : Nat → Nat) (iv : Nat → Nat → Int) (rv : Nat → Nat → Option Nat) (s tb : Nat) (i : Int) (f : Option Nat) : Prop := ∀ v a W t, CTX sk ln iv rv s tb (iv s 10) (iv s 11) v a W t → iv s 10 ≤ i → i < iv s 11 → RCX ln iv rv f (nbl a W t (iv s 10) i)
def NA0 (sk ln : Nat → Nat) (iv : Nat → Nat → Int) (rv : Nat → Nat → Option Nat) (s tb : Nat) (q u x : Int) (f : Option Nat) : Prop := ∀ v a W t, CTX sk ln iv rv s tb q u v a W t → RCX ln iv rv f (nbl a W t q x)
def FD0 (sk ln : Nat → Nat) (iv : Nat → Nat → Int) (rv : Nat → Nat → Option Nat) (s tb : Nat) (q u x b : Int) (f : Option Nat) : Prop := ∀ v a W t, CTX sk ln iv rv s tb q u v a W t → ∃ y, fnd a q u x 30 (va_up W x.toNat b) t y ∧ BST ln iv rv a f y
def PCX (sk ln : Nat → Nat) (iv : Nat → Nat → Int) (rv : Nat → Nat → Option Nat) (s tb : Nat) (q u x : Int) (ah : Option Nat) (w : Nat) : Prop := ∀ v a W t, CTX sk ln iv rv s tb q u v a W t → ∃ as ds lb, RCX ln iv rv ah as ∧ RCX ln iv rv (some w) ds ∧ rv w 1 = some lb ∧ 1 ≤ ln lb ∧ PC1 a W t q u x ((ln lb : Nat) : Int) (as ++ ds)
def NPX (sk ln : Nat → Nat) (iv : Nat → Nat → Int) (rv : Nat → Nat → Option Nat) (s tb : Nat) (q u x : Int) : Prop := ∀ v a W t, CTX sk ln iv rv s tb q u v a W t → ∀ l ds, ¬ PC1 a W t q u x l ds
def NCP (iv : Nat → Nat → Int) (rv : Nat → Nat → Option Nat) (tb : Nat) (b : Int) : Prop := ¬ isG b ∨ 2 < iv tb 0 ∨ ∃ n, rv tb 6 = some n ∧ rv n 0 = none
def PTS (a : Nat → Nat → Int) (W : Nat → Int) (t q u : Int) (ps : List (Int × List Int)) : Prop := ∃ y, ptp a W t q u q ps y ∧ u ≤ y
def STI (iv : Nat → Nat → Int) (rv : Nat → Nat → Option Nat) (s : Nat) (m : Int) (ps : List (Int × List Int)) (q x : Int) : Prop := (∀ j : Nat, x ≤ ((j : Nat) : Int) → bgn ps m j (-1) = -1) ∧ ∀ sb, rv s 3 = some sb → ∀ j : Nat, q ≤ ((j : Nat) : Int) → ((j : Nat) : Int) < x → j < 500 → iv sb j = bgn ps m j (-1)
def ST2 (iv : Nat → Nat → Int) (rv : Nat → Nat → Option Nat) (s : Nat) (m : Int) (ps : List (Int × List Int)) (q x n : Int) : Prop := (∀ j : Nat, x ≤ ((j : Nat) : Int) → bgn ps m j (-1) = -1) ∧ ∀ sb, rv s 3 = some sb → ∀ j : Nat, q ≤ ((j : Nat) : Int) → ((j : Nat) : Int) < x + n → j < 500 → iv sb j = if j = x.toNat then m + (((cls ps).length : Nat) : Int) else bgn ps m j (-1)
def STE (iv : Nat → Nat → Int) (rv : Nat → Nat → Option Nat) (s : Nat) (m : Int) (ps : List (Int × List Int)) (q u : Int) : Prop := ∀ sb, rv s 3 = some sb → ∀ j : Nat, q ≤ ((j : Nat) : Int) → ((j : Nat) : Int) < u → j < 500 → iv sb j = bgn ps m j (-1)
def MSK (iv : Nat → Nat → Int) (rv : Nat → Nat → Option Nat) (iv1 : Nat → Nat → Int) (s : Nat) (i k : Int) : Prop := ∀ sb, rv s 3 = some sb → ∀ j : Nat, j < 500 → iv1 sb j = if i ≤ ((j : Nat) : Int) ∧ ((j : Nat) : Int) < k then (if ((j : Nat) : Int) = i then iv s 7 else -1) else iv sb j
def MSX (iv : Nat → Nat → Int) (rv : Nat → Nat → Option Nat) (iv2 : Nat → Nat → Int) (s : Nat) (i n : Int) : Prop := MSK iv rv iv2 s i (i + n)
def SPX (sk ln : Nat → Nat) (iv : Nat → Nat → Int) (rv : Nat → Nat → Option Nat) (iv2 : Nat → Nat → Int) (s : Nat) (r : Option Nat) (q u f : Int) : Prop := ∀ tb, r = some tb → ∀ v a W t, CTX sk ln iv rv s tb q u v a W t → ∀ l0, PDH iv rv s l0 → (f = 0 → ∃ ps, PTS a W t q u ps ∧ (PDH iv2 rv s (l0 ++ cls ps) ∧ STE iv2 rv s ((l0.length : Nat) : Int) ps q u)) ∧ (f ≠ 0 → ¬ ∃ ps, PTS a W t q u ps ∧ (l0 ++ cls ps).length ≤ 200)
def SPI (sk ln : Nat → Nat) (iv : Nat → Nat → Int) (rv : Nat → Nat → Option Nat) (iv1 : Nat → Nat → Int) (s tb : Nat) (q u x : Int) : Prop := ∀ v a W t, CTX sk ln iv rv s tb q u v a W t → ∀ l0, PDH iv rv s l0 → ∃ pre, ptp a W t q u q pre x ∧ (PDH iv1 rv s (l0 ++ cls pre) ∧ STI iv1 rv s ((l0.length : Nat) : Int) pre q x)
def SPM (sk ln : Nat → Nat) (iv : Nat → Nat → Int) (rv : Nat → Nat → Option Nat) (iv1 : Nat → Nat → Int) (s tb : Nat) (q u x n : Int) : Prop := ∀ v a W t, CTX sk ln iv rv s tb q u v a W t → ∀ l0, PDH iv rv s l0 → ∃ pre, ptp a W t q u q pre x ∧ (PDH iv1 rv s (l0 ++ cls pre) ∧ ST2 iv1 rv s ((l0.length : Nat) : Int) pre q x n)
def SP2 (sk ln : Nat → Nat) (iv : Nat → Nat → Int) (rv : Nat → Nat → Option Nat) (iv1 : Nat → Nat → Int) (s tb : Nat) (q u x : Int) (w : Nat) : Prop := ∀ v a W t, CTX sk ln iv rv s tb q u v a W t → ∀ l0, PDH iv rv s l0 → ∃ pre cs lb, ptp a W t q u q pre x ∧ (rv w 1 = some lb ∧ 1 ≤ ln lb ∧ PC1 a W t q u x ((ln lb : Nat) : Int) cs) ∧ (PDH iv1 rv s ((l0 ++ cls pre) ++ cs) ∧ ST2 iv1 rv s ((l0.length : Nat) : Int) pre q x ((ln lb : Nat) : Int))
def STX (ln : Nat → Nat) (iv : Nat → Nat → Int) (rv : Nat → Nat → Option Nat) (iv2 : Nat → Nat → Int) (s : Nat) (r : Option Nat) (f : Int) : Prop := (r = none ∧ f = 7) ∨ (f = 0 ∧ (∃ w, r = some w) ∧ PUX ln iv rv iv2 s r)
section SROW
variable {g : Nat} {sk : Nat → Nat} {L : List Nat} {cl ln : Nat → Nat} {iv iv1 iv2 iv3 : Nat → Nat → Int} {rv : Nat → Nat → Option Nat} {v : Nat → Int} {a : Nat → Nat → Int} {W : Nat → Int} {s w tb c cb n lb : Nat} {t : Nat} {i k x y z q u m p b b2 f : Int} {r ah fo : Option Nat} {ls : List Nat} {l l0 cs ds : List Int}
theorem rgs {h : Nat → Int} (hk : 0 ≤ k) : (List.range (k + 1).toNat).map h = (List.range k.toNat).map h ++ [h k.toNat] := by
  rw [show (k + 1).toNat = k.toNat + 1 by omega, List.range_succ, List.map_append]; rfl
theorem PDH.app1 (h : PDH iv1 rv s l) (hl : iv2 s 7 = iv1 s 7 + 1) (ho : ∀ cb, rv s 6 = some cb → (∀ j : Nat, (j : Int) < iv1 s 7 → iv2 cb j = iv1 cb j) ∧ (iv1 s 7 < 200 → iv2 cb (iv1 s 7).toNat = z)) : PDH iv2 rv s (l ++ [z]) := by
  obtain ⟨h1, h2⟩ := h
  have e0 : (l ++ [z]).length = l.length + 1 := by rw [List.length_append]; rfl
  refine ⟨by omega, fun cb hb j d hj e => ?_⟩
  obtain ⟨o1, o2⟩ := ho cb hb
  by_cases c : j < l.length
  · rw [List.getElem?_append_left c] at e
    rw [o1 j (by omega)]; exact h2 cb hb j d hj e
  · rw [List.getElem?_append_right (by omega)] at e
    have e2 : j - l.length < 1 := gl_lt e
    rw [show j - l.length = 0 by omega] at e
    cases e
    rw [show j = (iv1 s 7).toNat by omega]; exact o2 (by omega)
theorem PDH.put1 {k : Nat} (h : PDH iv1 rv s l) (e : iv2 = up2 iv1 s k z) (hk : k ≠ 7) (hne : ∀ cb, rv s 6 = some cb → cb ≠ s) : PDH iv2 rv s l := by
  obtain ⟨h1, h2⟩ := h
  refine ⟨by rw [e, up2_j (fun q => hk q.symm)]; exact h1, fun cb hb j d hj e2 => ?_⟩
  rw [e, up2_k (hne cb hb)]; exact h2 cb hb j d hj e2
theorem s6ne (hW : WT g sk L cl ln iv rv) (ts : ty L cl s 15) : ∀ cb, rv s 6 = some cb → cb ≠ s := fun cb hb => by
  obtain ⟨b', q1, t6⟩ := hW.ref ts 6 rfl rfl rfl
  rw [hb] at q1; cases q1
  exact ne_ty t6 ts (by decide)
theorem PDH.ni (hW : WT g sk L cl ln iv1 rv) (hF : fT ls L cl iv1 rv iv2 rv) (ts : ty L cl s 15) (h15 : ls.contains 15 = false) (h54 : ls.contains 54 = false) (h : PDH iv1 rv s l) : PDH iv2 rv s l := by
  obtain ⟨h1, h2⟩ := h
  refine ⟨(hF.i ts h15 7).trans h1, fun cb hb j d hj e2 => ?_⟩
  obtain ⟨b', q1, t6⟩ := hW.ref ts 6 rfl rfl rfl
  rw [hb] at q1; cases q1
  have t54 : ty L cl cb 54 := t6
  rw [hF.i t54 h54 j]; exact h2 cb hb j d hj e2
theorem PUX.no : PUX ln iv rv iv s none := fun l h cs hc => by
  rcases hc with ⟨_, e⟩ | ⟨w, c, e, _⟩
  · rw [e, List.append_nil]; exact h
  · cases e
theorem PUK.zero : PUK ln iv rv iv s r 0 := fun w c _ _ => ⟨by omega, fun l h => by
  show PDH iv rv s (l ++ [])
  rw [List.append_nil]; exact h⟩
theorem PUK.put (h : PUK ln iv rv iv1 s (some w) k) (hk : 0 ≤ k) (h2 : rv w 2 = some c) (hlt : k < ((ln c : Nat) : Int)) (h6 : rv s 6 = some cb) (e1 : iv2 = up2 iv1 cb p.toNat z) (hp : p = iv1 s 7) (hz : z = iv c k.toNat) (e2 : iv3 = up2 iv2 s 7 y) (hy : y = iv1 s 7 + 1) (h7 : 0 ≤ iv1 s 7) (hne : ∀ cb, rv s 6 = some cb → cb ≠ s) : PUK ln iv rv iv3 s (some w) (k + 1) := fun w' c' q1 q2 => by
  cases q1
  rw [h2] at q2; cases q2
  refine ⟨by omega, fun l hl => ?_⟩
  have g := (h w c rfl h2).2 l hl
  rw [rgs hk, ← List.append_assoc]
  refine g.app1 (by rw [e2, up2_s]; exact hy) (fun cb' hb => ?_)
  rw [h6] at hb; cases hb
  have n1 := hne cb h6
  subst hp
  refine ⟨fun j hj => ?_, fun _ => ?_⟩
  · rw [e2, up2_k n1, e1, up2_j (by omega)]
  · rw [e2, up2_k n1, e1, up2_s]; exact hz
theorem PUK.inc (h : PUK ln iv rv iv1 s (some w) k) (hk : 0 ≤ k) (h2 : rv w 2 = some c) (hlt : k < ((ln c : Nat) : Int)) (e2 : iv3 = up2 iv1 s 7 y) (hy : y = iv1 s 7 + 1) (h200 : 200 ≤ iv1 s 7) (hne : ∀ cb, rv s 6 = some cb → cb ≠ s) : PUK ln iv rv iv3 s (some w) (k + 1) := fun w' c' q1 q2 => by
  cases q1
  rw [h2] at q2; cases q2
  refine ⟨by omega, fun l hl => ?_⟩
  have g := (h w c rfl h2).2 l hl
  rw [rgs hk, ← List.append_assoc]
  exact g.app1 (by rw [e2, up2_s]; exact hy) (fun cb hb => ⟨fun j hj => by rw [e2, up2_k (hne cb hb)], fun e => absurd e (by omega)⟩)
theorem PUX.fin (h : PUK ln iv rv iv1 s (some w) k) (h2 : rv w 2 = some c) (hk : ((ln c : Nat) : Int) ≤ k) : PUX ln iv rv iv1 s (some w) := fun l hl cs hc => by
  rcases hc with ⟨e, _⟩ | ⟨w', c', e, e2, e3⟩
  · cases e
  · cases e
    rw [h2] at e2; cases e2
    obtain ⟨g1, g2⟩ := h w c rfl h2
    have g := g2 l hl
    rw [show k.toNat = ln c by omega] at g
    rw [e3]; exact g
theorem RCX.ni (hW : WT g sk L cl ln iv rv) (hF : fT ls L cl iv rv iv1 rv) (h1 : kpl ls = true) (tr : ∀ b, r = some b → ty L cl b 20) (h : RCX ln iv rv r cs) : RCX ln iv1 rv r cs := by
  rcases h with h | ⟨w, c, e1, e2, e3⟩
  · exact Or.inl h
  · obtain ⟨c', q1, tc⟩ := hW.ref (tr w e1) 2 rfl rfl rfl
    rw [e2] at q1; cases q1
    have t66 : ty L cl c 66 := tc
    refine Or.inr ⟨w, c, e1, e2, ?_⟩
    rw [e3, show iv1 c = iv c from funext fun j => hF.i t66 (kpl_no h1).2.2.2.2.1 j]
theorem CTX.ni (hW : WT g sk L cl ln iv rv) (hS : SKL sk L cl) (hF : fT ls L cl iv rv iv1 rv) (h1 : kpl ls = true) (a1 : ls.contains 22 = false) (a2 : ls.contains 1000 = false) (a3 : ls.contains 23 = false) (a4 : ls.contains 1001 = false) (a5 : ls.contains 50 = false) (ts : ty L cl s 15) (h : CTX sk ln iv rv s tb q u v a W t) : CTX sk ln iv1 rv s tb q u v a W t := ⟨h.1.ni hW hS hF h1 a1 a2 a3 a4, h.2.1, h.2.2.1, h.2.2.2.1, h.2.2.2.2.ni hW hF a5 ts⟩
theorem NAX.mv (h : NAX sk ln iv1 rv s tb x fo) (hW : WT g sk L cl ln iv rv) (hS : SKL sk L cl) (hW1 : WT g sk L cl ln iv1 rv) (hF : fT [15, 53, 54, 55] L cl iv rv iv1 rv) (ts : ty L cl s 15) (tf : ∀ b, fo = some b → ty L cl b 20) (h10 : iv1 s 10 = q) (h11 : iv1 s 11 = u) (hx : q ≤ x ∧ x < u) : NA0 sk ln iv rv s tb q u x fo := fun v a W t hC => by
  subst h10
  subst h11
  exact (h v a W t (hC.ni hW hS hF rfl rfl rfl rfl rfl rfl ts) hx.1 hx.2).ni hW1 hF.sym rfl tf
theorem FDX.mv (h : FDX sk ln iv1 rv s tb x b fo) (hW : WT g sk L cl ln iv rv) (hS : SKL sk L cl) (hW1 : WT g sk L cl ln iv1 rv) (hF : fT [15, 53, 54, 55] L cl iv rv iv1 rv) (ts : ty L cl s 15) (tf : ∀ b, fo = some b → ty L cl b 20) (h10 : iv1 s 10 = q) (h11 : iv1 s 11 = u) (hx : q ≤ x ∧ x < u) : FD0 sk ln iv rv s tb q u x b fo := fun v a W t hC => by
  subst h10
  subst h11
  obtain ⟨p1, p2, p3, p4, p5⟩ := hC.ni hW hS hF rfl rfl rfl rfl rfl rfl ts
  obtain ⟨y, y1, y2⟩ := h v a W t p1 p2 p3 p4 (fun lb hb j h1 h2 => p5 lb hb j (by omega) h2)
  exact ⟨y, y1, y2.ni hW1 hF.sym rfl tf⟩
theorem BST.no (h : BST ln iv rv a none z) : z = -1 := by
  rcases h with ⟨_, e⟩ | ⟨w, e, _⟩
  · exact e
  · cases e
theorem BST.rc (h : BST ln iv rv a (some w) y) : RCX ln iv rv (some w) (RCL a y) ∧ (∃ lb, rv w 1 = some lb ∧ ((ln lb : Nat) : Int) = a 12 y.toNat) ∧ 0 ≤ y := by
  rcases h with ⟨e, _⟩ | ⟨w', e, e2, e3⟩
  · cases e
  · cases e
    obtain ⟨_, _, lb, c, q1, q2, q3, q4, _, q6⟩ := e3
    refine ⟨Or.inr ⟨w, c, rfl, q2, ?_⟩, ⟨lb, q1, q3⟩, e2⟩
    unfold RCL
    rw [show (a 13 y.toNat).toNat = ln c by omega]
    exact List.map_congr_left (fun k hk => (q6 k (List.mem_range.mp hk)).1.symm)
theorem CTX.wd (h : CTX sk ln iv rv s tb q u v a W t) (h0 : rv s 0 = some lb) (hx : q ≤ x ∧ x < u) : iv lb x.toNat = W x.toNat := h.2.2.2.2 lb h0 x hx.1 hx.2
theorem vus (h : b = W x.toNat) : va_up W x.toNat b = W := by
  funext j
  unfold va_up
  split
  · rename_i e; rw [e]; exact h
  · rfl
theorem CTX.t10 (hR : TRL sk ln iv rv v a) (h0 : 0 ≤ z) (h4 : z < v 4) : a 10 z.toNat ≤ 200 := by
  obtain ⟨tt, htt⟩ := hR.smt (i := z.toNat) (by omega)
  exact (hR.tab (i := z.toNat) (by omega) htt).1.2.2.2.2
theorem fnd_rg (hR : TRL sk ln iv rv v a) : ∀ (m : Nat) (W : Nat → Int) (z r : Int), z < v 4 → 0 ≤ z → fnd a q u i m W z r → FNP a u i r := by
  intro m
  induction m with
  | zero => intro W z r _ _ h; exact False.elim h
  | succ m ih =>
    intro W z r h4 h0 h
    have ht := hR.2.2.1.1 z h0 h4
    have t8 : 1 ≤ a 6 z.toNat → a 6 z.toNat ≤ 3 → 0 ≤ a 8 z.toNat ∧ a 8 z.toNat < v 4 := by omega
    have t6 : a 6 z.toNat ≠ 1 → a 6 z.toNat ≠ 2 → a 6 z.toNat ≠ 3 → a 6 z.toNat < 1 ∨ 3 < a 6 z.toNat := by omega
    clear ht
    have ow : ∀ (W : Nat → Int) (y : Int), OWR a W q u i z y → FNP a u i y := fun W y ho => own_rg hR.2.2.1 hR.v30 h0 h4 (CTX.t10 hR h0 h4) ho
    rw [fnd_s] at h
    obtain ⟨p1, p2, p3, p4⟩ := h
    by_cases k1 : a 6 z.toNat = 1
    · obtain ⟨y, z2, e1, e2, e3⟩ := p1 k1
      rw [e3]
      exact cmb_rg (P := fun r => FNP a u i r) (ow _ _ e1) (ih _ _ _ (t8 (by omega) (by omega)).2 (t8 (by omega) (by omega)).1 e2)
    · by_cases k2 : a 6 z.toNat = 2
      · by_cases c : isD (W i.toNat)
        · exact ow _ _ ((p2 k2).1 c)
        · exact ih _ _ _ (t8 (by omega) (by omega)).2 (t8 (by omega) (by omega)).1 ((p2 k2).2 c)
      · by_cases k3 : a 6 z.toNat = 3
        · obtain ⟨y, z2, e1, e2, e3⟩ := p3 k3
          rw [e3]
          exact cmb_rg (P := fun r => FNP a u i r) (ow _ _ e1) (ih _ _ _ (t8 (by omega) (by omega)).2 (t8 (by omega) (by omega)).1 e2)
        · exact ow _ _ (p4 (t6 k1 k2 k3))
theorem CTX.ind (h : CTX sk ln iv rv s tb q u v a W t) (h6 : rv tb 6 = some n) {j : Nat} (hj : j < 4) : INDR ln iv rv (rv n j) (j : Int) (a 16 (4 * t + j)) (fun k => a 17 (4 * (4 * t + j) + k)) := by
  obtain ⟨_, _, q1, n1, ⟨_, c2, _⟩, _, c5⟩ := h.1.tab h.2.1 h.2.2.2.1
  rw [h6] at c2; cases c2
  exact c5 j hj
theorem CTX.kind (h : CTX sk ln iv rv s tb q u v a W t) : iv tb 0 = a 6 t := (h.1.tab h.2.1 h.2.2.2.1).1.1
theorem INDR.rc {h : Nat → Int} (hi : INDR ln iv rv r z m h) : RCX ln iv rv r ((List.range m.toNat).map h) := by
  rcases hi with ⟨e1, e2⟩ | ⟨b, c, e1, _, e3, e4, _, e6⟩
  · exact Or.inl ⟨e1, by rw [e2]; rfl⟩
  · refine Or.inr ⟨b, c, e1, e3, ?_⟩
    rw [show m.toNat = ln c by omega]
    exact List.map_congr_left (fun k hk => (e6 k (List.mem_range.mp hk)).1.symm)
theorem ICL.nat {j : Nat} : ICL a (4 * (t : Int) + (j : Int)) = (List.range (a 16 (4 * t + j)).toNat).map (fun k => a 17 (4 * (4 * t + j) + k)) := by
  unfold ICL
  rw [show (4 * (t : Int) + (j : Int)).toNat = 4 * t + j by omega]
theorem NAX.no (h0 : rv s 0 = some lb) (hn : ¬ (iv tb 0 = 2 ∧ isD (iv lb i.toNat) ∧ (i ≤ iv s 10 ∨ ¬ isD (iv lb (i - 1).toNat)))) : NAX sk ln iv rv s tb i none := fun v a W t hC h1 h2 => Or.inl ⟨rfl, by
  unfold nbl
  rw [if_neg]
  intro w
  rw [Int.toNat_natCast, ← hC.kind, ← hC.wd h0 ⟨h1, h2⟩] at w
  refine hn ⟨w.1, w.2.1, ?_⟩
  rcases w.2.2 with e | e
  · exact Or.inl (by omega)
  · by_cases c : i ≤ iv s 10
    · exact Or.inl c
    · rw [← hC.wd (x := i - 1) h0 ⟨by omega, by omega⟩] at e
      exact Or.inr e⟩
theorem NAX.yes (h0 : rv s 0 = some lb) (hn : iv tb 0 = 2 ∧ isD (iv lb i.toNat) ∧ (i ≤ iv s 10 ∨ ¬ isD (iv lb (i - 1).toNat))) (h6 : rv tb 6 = some n) (hr : rv n 1 = r) : NAX sk ln iv rv s tb i r := fun v a W t hC h1 h2 => by
  have hi := (hC.ind h6 (j := 1) (by decide)).rc
  rw [hr] at hi
  have e : nbl a W t (iv s 10) i = ICL a (4 * (t : Int) + ((1 : Nat) : Int)) := by
    unfold nbl
    rw [if_pos]
    · rfl
    · rw [Int.toNat_natCast, ← hC.kind, ← hC.wd h0 ⟨h1, h2⟩]
      refine ⟨hn.1, hn.2.1, ?_⟩
      by_cases c : i ≤ iv s 10
      · exact Or.inl (by omega)
      · rcases hn.2.2 with e | e
        · exact absurd e c
        · rw [← hC.wd (x := i - 1) h0 ⟨by omega, by omega⟩]
          exact Or.inr e
  rw [e, ICL.nat]
  exact hi
theorem PCX.plain (na : NA0 sk ln iv rv s tb q u x ah) (fd : FD0 sk ln iv rv s tb q u x b (some w)) (h0 : rv s 0 = some lb) (hb : b = iv lb x.toNat) (hx : q ≤ x ∧ x < u) : PCX sk ln iv rv s tb q u x ah w := fun v a W t hC => by
  obtain ⟨y, f1, f2⟩ := fd v a W t hC
  rw [vus (hb.trans (hC.wd h0 hx))] at f1
  obtain ⟨r1, ⟨lb2, r2, r3⟩, r4⟩ := f2.rc
  have r5 := fnd_rg hC.1 30 W t y hC.2.1 (by omega) f1
  refine ⟨_, _, lb2, na v a W t hC, r1, r2, ?_, y, ⟨r4, r3⟩, Or.inl ⟨f1, rfl⟩⟩
  rcases r5 with e | ⟨_, _, e, _⟩ <;> omega
theorem PCX.cap (fd : FD0 sk ln iv rv s tb q u x b none) (fd2 : FD0 sk ln iv rv s tb q u x b2 (some w)) (h0 : rv s 0 = some lb) (hb : b = iv lb x.toNat) (hb2 : b2 = b + 32) (hg : isG b) (hk : iv tb 0 ≤ 2) (h6 : rv tb 6 = some n) (hr : rv n 0 = some cb) (hx : q ≤ x ∧ x < u) : PCX sk ln iv rv s tb q u x (some cb) w := fun v a W t hC => by
  obtain ⟨y, f1, f2⟩ := fd v a W t hC
  obtain ⟨y2, g1, g2⟩ := fd2 v a W t hC
  have ew := hb.trans (hC.wd h0 hx)
  rw [vus ew] at f1
  have e1 := f2.no
  subst e1
  obtain ⟨r1, ⟨lb2, r2, r3⟩, r4⟩ := g2.rc
  refine hv2 (fnd_rg hC.1 30 _ t y2 hC.2.1 (by omega) g1) (hC.ind h6 (j := 0) (by decide)) (fun r5 hi => ?_)
  rw [hr] at hi
  have hp : 0 < a 16 (4 * t + 0) := by
    rcases hi with ⟨e, _⟩ | ⟨_, _, _, _, _, _, e, _⟩
    · cases e
    · exact e
  have hI := hi.rc
  rw [← ICL.nat] at hI
  have nb : nbl a W t q x = [] := by
    unfold nbl
    rw [if_neg]
    intro e
    rw [← ew] at e
    have e2 := e.2.1
    unfold isD at e2
    unfold isG at hg
    omega
  refine ⟨_, _, lb2, hI, r1, r2, ?_, y2, ⟨r4, r3⟩, Or.inr ⟨f1, ⟨by rw [Int.toNat_natCast, ← hC.kind]; exact hk, by rw [← ew]; exact hg, ?_⟩, ?_, ?_⟩⟩
  · rcases r5 with e | ⟨_, _, e, _⟩ <;> omega
  · rw [show (4 * (t : Int) + 0).toNat = 4 * t + 0 by omega]; exact hp
  · rw [hb2, ew] at g1; exact g1
  · rw [nb, List.nil_append]; rfl
def CPX (iv : Nat → Nat → Int) (rv : Nat → Nat → Option Nat) (tb : Nat) (cp : Option Nat) : Prop := (2 < iv tb 0 ∧ cp = none) ∨ (iv tb 0 ≤ 2 ∧ ∃ n, rv tb 6 = some n ∧ rv n 0 = cp)
theorem CPX.no (h : CPX iv rv tb none) : NCP iv rv tb b := by
  rcases h with ⟨h1, _⟩ | ⟨_, n, h1, h2⟩
  · exact Or.inr (Or.inl h1)
  · exact Or.inr (Or.inr ⟨n, h1, h2⟩)
theorem PCX.cap2 (fd : FD0 sk ln iv rv s tb q u x b none) (fd2 : FD0 sk ln iv rv s tb q u x b2 (some w)) (h0 : rv s 0 = some lb) (hb : b = iv lb x.toNat) (hb2 : b2 = b + 32) (hg : isG b) (h : CPX iv rv tb (some cb)) (hx : q ≤ x ∧ x < u) : PCX sk ln iv rv s tb q u x (some cb) w := by
  rcases h with ⟨_, h1⟩ | ⟨hk, n, h1, h2⟩
  · cases h1
  · exact PCX.cap fd fd2 h0 hb hb2 hg hk h1 h2 hx
theorem NPX.no (fd : FD0 sk ln iv rv s tb q u x b none) (h0 : rv s 0 = some lb) (hb : b = iv lb x.toNat) (hx : q ≤ x ∧ x < u) (hn : NCP iv rv tb b) : NPX sk ln iv rv s tb q u x := fun v a W t hC l ds hp => by
  obtain ⟨y, f1, f2⟩ := fd v a W t hC
  have ew := hb.trans (hC.wd h0 hx)
  rw [vus ew] at f1
  have e1 := f2.no
  subst e1
  obtain ⟨r, ⟨p1, _⟩, p3⟩ := hp
  rcases p3 with ⟨p4, _⟩ | ⟨_, p5, _⟩
  · have e := fnd_uni hC.1.2.2.1 _ _ _ _ _ _ (by omega) hC.2.1 f1 p4
    omega
  · obtain ⟨c1, c2, c3⟩ := p5
    rw [Int.toNat_natCast, ← hC.kind] at c1
    rw [← ew] at c2
    rcases hn with e | e | ⟨n, n1, n2⟩
    · exact e c2
    · omega
    · have hi := hC.ind n1 (j := 0) (by decide)
      rw [n2] at hi
      rcases hi with ⟨_, e⟩ | ⟨_, _, e, _⟩
      · rw [show (4 * (t : Int) + 0).toNat = 4 * t + 0 by omega] at c3
        omega
      · cases e
theorem NPX.cap (fd : FD0 sk ln iv rv s tb q u x b none) (fd2 : FD0 sk ln iv rv s tb q u x b2 none) (h0 : rv s 0 = some lb) (hb : b = iv lb x.toNat) (hb2 : b2 = b + 32) (hx : q ≤ x ∧ x < u) : NPX sk ln iv rv s tb q u x := fun v a W t hC l ds hp => by
  obtain ⟨y, f1, f2⟩ := fd v a W t hC
  obtain ⟨y2, g1, g2⟩ := fd2 v a W t hC
  have ew := hb.trans (hC.wd h0 hx)
  rw [vus ew] at f1
  rw [hb2, ew] at g1
  refine hv2 (f2.no) (g2.no) (fun e1 e2 => ?_)
  subst e1
  subst e2
  obtain ⟨r, ⟨p1, _⟩, p3⟩ := hp
  rcases p3 with ⟨p4, _⟩ | ⟨_, _, p6, _⟩
  · have e := fnd_uni hC.1.2.2.1 _ _ _ _ _ _ (by omega) hC.2.1 f1 p4
    omega
  · have e := fnd_uni hC.1.2.2.1 _ _ _ _ _ _ (by omega) hC.2.1 g1 p6
    omega
theorem SPX.no : SPX sk ln iv rv iv2 s none q u f := fun tb e => by cases e
theorem SPI.init (e1 : iv1 = up2 iv s 10 y) (e2 : iv2 = up2 iv1 s 11 z) (hne : ∀ cb, rv s 6 = some cb → cb ≠ s) : SPI sk ln iv rv iv2 s tb q u q := fun v a W t hC l0 hl => ⟨[], rfl, by
  rw [show cls [] = [] from rfl, List.append_nil]
  exact (hl.put1 e1 (by decide) hne).put1 e2 (by decide) hne, fun _ _ => rfl, fun sb _ j h1 h2 _ => absurd h1 (by omega)⟩
theorem sb53 (hW : WT g sk L cl ln iv rv) (ts : ty L cl s 15) (hb : rv s 3 = some cb) : ty L cl cb 53 := by
  obtain ⟨b', q1, t3⟩ := hW.ref ts 3 rfl rfl rfl
  rw [hb] at q1; cases q1
  exact t3
theorem STI.ni {ps : List (Int × List Int)} (hW : WT g sk L cl ln iv1 rv) (hF : fT ls L cl iv1 rv iv2 rv) (ts : ty L cl s 15) (h53 : ls.contains 53 = false) (h : STI iv1 rv s m ps q x) : STI iv2 rv s m ps q x := ⟨h.1, fun sb hb j j1 j2 j3 => by
  rw [hF.i (sb53 hW ts hb) h53 j]
  exact h.2 sb hb j j1 j2 j3⟩
theorem ST2.ni {ps : List (Int × List Int)} (hW : WT g sk L cl ln iv1 rv) (hF : fT ls L cl iv1 rv iv2 rv) (ts : ty L cl s 15) (h53 : ls.contains 53 = false) (h : ST2 iv1 rv s m ps q x y) : ST2 iv2 rv s m ps q x y := ⟨h.1, fun sb hb j j1 j2 j3 => by
  rw [hF.i (sb53 hW ts hb) h53 j]
  exact h.2 sb hb j j1 j2 j3⟩
theorem MSK.zero : MSK iv rv iv s i i := fun sb hb j hj => by rw [if_neg (by omega)]
theorem MSK.step (h : MSK iv rv iv1 s i k) (h3 : rv s 3 = some cb) (e : iv2 = up2 iv1 cb k.toNat z) (hk : 0 ≤ i ∧ i ≤ k) (hz : (k = i ∧ z = iv s 7) ∨ (k ≠ i ∧ z = -1)) : MSK iv rv iv2 s i (k + 1) := fun sb hb j hj => by
  have g := h sb hb j hj
  rw [h3] at hb; cases hb
  by_cases c : ((j : Nat) : Int) = k
  · rw [e, show j = k.toNat by omega, up2_s, if_pos (by omega)]
    rcases hz with ⟨e1, e2⟩ | ⟨e1, e2⟩
    · rw [if_pos (by omega)]; exact e2
    · rw [if_neg (by omega)]; exact e2
  · rw [e, up2_j (by omega), g]
    by_cases c2 : i ≤ ((j : Nat) : Int) ∧ ((j : Nat) : Int) < k
    · rw [if_pos c2, if_pos (show i ≤ ((j : Nat) : Int) ∧ ((j : Nat) : Int) < k + 1 by omega)]
    · rw [if_neg c2, if_neg (by omega)]
theorem MSK.fin {y2 : Int} (h : MSK iv rv iv1 s i k) (hk : k ≤ i + y2 ∧ (i + y2 ≤ k ∨ 500 ≤ k)) : MSX iv rv iv1 s i y2 := fun sb hb j hj => by
  rw [h sb hb j hj]
  by_cases c2 : i ≤ ((j : Nat) : Int) ∧ ((j : Nat) : Int) < k
  · rw [if_pos c2, if_pos (show i ≤ ((j : Nat) : Int) ∧ ((j : Nat) : Int) < i + y2 by omega)]
  · rw [if_neg c2, if_neg (by omega)]
theorem SPI.ni (h : SPI sk ln iv rv iv1 s tb q u x) (hW : WT g sk L cl ln iv1 rv) (hF : fT ls L cl iv1 rv iv2 rv) (ts : ty L cl s 15) (h15 : ls.contains 15 = false) (h54 : ls.contains 54 = false) (h53 : ls.contains 53 = false) : SPI sk ln iv rv iv2 s tb q u x := fun v a W t hC l0 hl => by
  obtain ⟨pre, p1, p2⟩ := h v a W t hC l0 hl
  exact ⟨pre, p1, p2.1.ni hW hF ts h15 h54, p2.2.ni hW hF ts h53⟩
theorem SPI.mark (h : SPI sk ln iv rv iv1 s tb q u x) (hW : WT g sk L cl ln iv1 rv) (hF : fT ls L cl iv1 rv iv2 rv) (ts : ty L cl s 15) (h15 : ls.contains 15 = false) (h54 : ls.contains 54 = false) (hx : 0 ≤ x ∧ x < 500) (ms : MSX iv1 rv iv2 s x y) : SPM sk ln iv rv iv2 s tb q u x y := fun v a W t hC l0 hl => by
  obtain ⟨pre, p1, p2, p3, p4⟩ := h v a W t hC l0 hl
  refine ⟨pre, p1, p2.ni hW hF ts h15 h54, p3, fun sb hb j j1 j2 j3 => ?_⟩
  have e := p2.1
  rw [List.length_append] at e
  rw [ms sb hb j j3]
  by_cases c : x ≤ ((j : Nat) : Int)
  · rw [if_pos ⟨c, j2⟩]
    by_cases c2 : ((j : Nat) : Int) = x
    · rw [if_pos c2, if_pos (by omega), e]
      push_cast
      rfl
    · rw [if_neg c2, if_neg (by omega), p3 j c]
  · rw [if_neg (by omega), if_neg (by omega)]
    exact p4 sb hb j j1 (by omega) j3
theorem SPI.unk (h : SPI sk ln iv rv iv1 s tb q u x) (hn : NPX sk ln iv rv s tb q u x) (hx : x < u) (hf : f ≠ 0) : SPX sk ln iv rv iv2 s (some tb) q u f := fun tb' e v a W t hC l0 hl => by
  cases e
  refine ⟨fun e => absurd e hf, fun _ w => ?_⟩
  obtain ⟨pre, p1, _⟩ := h v a W t hC l0 hl
  obtain ⟨ps, ⟨y, w1, w2⟩, _⟩ := w
  obtain ⟨qs, k1, k2⟩ := ptp.ext hC.1.2.2.1 (by omega) hC.2.1 pre ps q y p1 w1 w2
  cases qs with
  | nil => cases k2; omega
  | cons p qs =>
    obtain ⟨_, _, l3, k5, _⟩ := k2
    exact hn v a W t hC _ _ k5
theorem SPM.two {ls2 : List Nat} {n1 : Int} (h : SPM sk ln iv rv iv1 s tb q u x n1) (hlb : rv w 1 = some lb) (hn : n1 = ((ln lb : Nat) : Int)) (hW1 : WT g sk L cl ln iv1 rv) (hW2 : WT g sk L cl ln iv2 rv) (ts : ty L cl s 15) (hP1 : fT ls L cl iv1 rv iv2 rv) (hP2 : fT ls2 L cl iv2 rv iv3 rv) (l53 : ls.contains 53 = false) (m53 : ls2.contains 53 = false) (hW : WT g sk L cl ln iv rv) (hF1 : fT [15, 53, 54, 55] L cl iv rv iv1 rv) (hF2 : fT [15, 53, 54, 55] L cl iv rv iv2 rv) (ta : ∀ b, ah = some b → ty L cl b 20) (tw : ty L cl w 20) (pc : PCX sk ln iv rv s tb q u x ah w) (p1 : PUX ln iv1 rv iv2 s ah) (p2 : PUX ln iv2 rv iv3 s (some w)) : SP2 sk ln iv rv iv3 s tb q u x w := fun v a W t hC l0 hl => by
  obtain ⟨pre, g1, g2⟩ := h v a W t hC l0 hl
  obtain ⟨as, ds, lb2, c1, c2, c3, c4, c5⟩ := pc v a W t hC
  have d1 := p1 _ g2.1 as (c1.ni hW hF1 rfl ta)
  have d2 := p2 _ d1 ds (c2.ni hW hF2 rfl (fun b e => by cases e; exact tw))
  rw [List.append_assoc] at d2
  refine ⟨pre, as ++ ds, lb2, g1, ⟨c3, c4, c5⟩, d2, ?_⟩
  rw [hlb] at c3; cases c3
  rw [← hn]
  exact (g2.2.ni hW1 hP1 ts l53).ni hW2 hP2 ts m53
theorem SP2.many (h : SP2 sk ln iv rv iv1 s tb q u x w) (hx : x < u) (hm : 200 < iv1 s 7) (hf : f ≠ 0) : SPX sk ln iv rv iv1 s (some tb) q u f := fun tb' e v a W t hC l0 hl => by
  cases e
  refine ⟨fun e => absurd e hf, fun _ w => ?_⟩
  obtain ⟨pre, cs, lb, p1, ⟨_, _, p2⟩, p3⟩ := h v a W t hC l0 hl
  obtain ⟨ps, ⟨y, w1, w2⟩, w3⟩ := w
  obtain ⟨qs, k1, k2⟩ := ptp.ext hC.1.2.2.1 (by omega) hC.2.1 pre ps q y p1 w1 w2
  cases qs with
  | nil => cases k2; omega
  | cons p qs =>
    obtain ⟨_, _, l3, k5, _⟩ := k2
    refine hv2 ((PC1.uni hC.1.2.2.1 (by omega) hC.2.1 p2 k5).2) (p3.1.1) (fun e w4 => ?_)
    rw [k1, cls_app, cls_cons, ← e] at w3
    simp only [List.length_append] at w3 w4
    omega
theorem SP2.next (h : SP2 sk ln iv rv iv1 s tb q u x w) (hx : x < u) (hx0 : 0 ≤ x) (h1 : rv w 1 = some lb) (hm : ((ln lb : Nat) : Int) < 1 ∨ y = x + ((ln lb : Nat) : Int)) : SPI sk ln iv rv iv1 s tb q u y := fun v a W t hC l0 hl => by
  obtain ⟨pre, cs, lb2, p1, ⟨c1, c2, p2⟩, p3⟩ := h v a W t hC l0 hl
  rw [h1] at c1; cases c1
  rw [show y = x + ((ln lb : Nat) : Int) by omega]
  obtain ⟨p3, p4, p5⟩ := p3
  refine ⟨pre ++ [(x, cs)], ptp.snoc pre q p1 hx p2, ?_, fun j hj => ?_, fun sb hb j j1 j2 j3 => ?_⟩
  · rw [cls_app, cls_one, ← List.append_assoc]
    exact p3
  · rw [bgn_snoc, if_neg (by omega)]
    exact p4 j (by omega)
  · rw [bgn_snoc]
    exact p5 sb hb j j1 j2 j3
theorem SPI.done (h : SPI sk ln iv rv iv1 s tb q u x) (hx : u ≤ x) : SPX sk ln iv rv iv1 s (some tb) q u 0 := fun tb' e v a W t hC l0 hl => by
  cases e
  obtain ⟨pre, p1, p2⟩ := h v a W t hC l0 hl
  exact ⟨fun _ => ⟨pre, ⟨x, p1, hx⟩, p2.1, fun sb hb j j1 j2 j3 => p2.2.2 sb hb j j1 (by omega) j3⟩, fun e => absurd rfl e⟩
end SROW
def CTB (sk ln : Nat → Nat) (iv : Nat → Nat → Int) (rv : Nat → Nat → Option Nat) (s tb : Nat) (v : Nat → Int) (a : Nat → Nat → Int) (W : Nat → Int) (t : Nat) : Prop := TRL sk ln iv rv v a ∧ (t : Int) < v 4 ∧ el rv (sk 22) t = some tb ∧ LTW iv rv s W 0 (iv s 4)
def SW0 (a : Nat → Nat → Int) (W : Nat → Int) (n t : Int) (cs : List Int) : Prop := (a 6 t.toNat ≠ 5 ∧ ∃ ps, PTS a W t 0 n ps ∧ cs = cls ps) ∨ (a 6 t.toNat = 5 ∧ ∃ js ps g x, jtp a W n t 0 0 js g x ∧ SEG a W n t g x n ps ∧ cs = jcl a t 0 js ++ cls ps)
def STF (iv : Nat → Nat → Int) (rv : Nat → Nat → Option Nat) (s : Nat) (a : Nat → Nat → Int) (W : Nat → Int) (n t : Int) (cs : List Int) : Prop := a 6 t.toNat ≠ 5 → ∃ ps, PTS a W t 0 n ps ∧ cs = cls ps ∧ STE iv rv s 0 ps 0 n
def SBF (sk ln : Nat → Nat) (iv : Nat → Nat → Int) (rv : Nat → Nat → Option Nat) (s tb : Nat) : Prop := ∀ v a W t, CTB sk ln iv rv s tb v a W t → ¬ ∃ cs, SW0 a W (iv s 4) t cs ∧ cs.length ≤ 200
def SBX (sk ln : Nat → Nat) (iv : Nat → Nat → Int) (rv : Nat → Nat → Option Nat) (iv2 : Nat → Nat → Int) (s tb : Nat) (f : Int) : Prop := ∀ v a W t, CTB sk ln iv rv s tb v a W t → (f = 0 → ∃ cs, SW0 a W (iv s 4) t cs ∧ cs.length ≤ 200 ∧ (PDH iv2 rv s cs ∧ STF iv2 rv s a W (iv s 4) t cs)) ∧ (f ≠ 0 → ¬ ∃ cs, SW0 a W (iv s 4) t cs ∧ cs.length ≤ 200)
def SBI (sk ln : Nat → Nat) (iv : Nat → Nat → Int) (rv : Nat → Nat → Option Nat) (iv1 : Nat → Nat → Int) (s tb : Nat) (g x y : Int) : Prop := ∀ v a W t, CTB sk ln iv rv s tb v a W t → (y ≤ iv s 4 → (a 6 t ≠ 5 → (x = 0 ∧ g = 0) ∧ PDH iv1 rv s []) ∧ (a 6 t = 5 → (0 ≤ x ∧ x ≤ y) ∧ NSG W (sgj g) x y ∧ ∃ js, jtp a W (iv s 4) t 0 0 js g x ∧ PDH iv1 rv s (jcl a t 0 js))) ∧ (iv s 4 < y → ∃ cs, SW0 a W (iv s 4) t cs ∧ (PDH iv1 rv s cs ∧ STF iv1 rv s a W (iv s 4) t cs))
def SBN (sk ln : Nat → Nat) (iv : Nat → Nat → Int) (rv : Nat → Nat → Option Nat) (iv1 : Nat → Nat → Int) (s tb : Nat) (g y f : Int) : Prop := (f = 0 → SBI sk ln iv rv iv1 s tb (1 - g) (y + 1) (y + 1)) ∧ (f ≠ 0 → SBF sk ln iv rv s tb)
def NTN (iv : Nat → Nat → Int) (rv : Nat → Nat → Option Nat) (s tb : Nat) (g y : Int) : Prop := iv tb 0 ≠ 5 ∨ ∃ lb, rv s 0 = some lb ∧ iv lb y.toNat ≠ sgj g
def TRN (iv : Nat → Nat → Int) (rv : Nat → Nat → Option Nat) (s tb : Nat) (g k tn : Int) (fs : Option Nat) : Prop := (tn = 1 → iv tb 0 = 5 ∧ k < iv s 4 ∧ ∃ lb, rv s 0 = some lb ∧ iv lb k.toNat = sgj g) ∧ (tn ≠ 1 → k = iv s 4) ∧ (iv tb 0 = 5 → fs = rv tb 2) ∧ (iv tb 0 ≠ 5 → fs = some tb)
section SBYS
variable {h : Nat} {sk : Nat → Nat} {L : List Nat} {cl ln : Nat → Nat} {iv iv1 iv2 iv3 : Nat → Nat → Int} {rv : Nat → Nat → Option Nat} {v : Nat → Int} {a : Nat → Nat → Int} {W : Nat → Int} {s tb n lb : Nat} {t : Nat} {g x y z m f f2 e0 g2 : Int} {r r2 : Option Nat} {cs ds : List Int} {js : List (Int × List (Int × List Int))}
theorem SWC.iff0 {t : Int} : SWC a W m t cs ↔ SW0 a W m t cs ∧ cs.length ≤ 200 := by
  constructor
  · intro hs
    rcases hs with ⟨h1, ps, ⟨⟨y, h2, h3⟩, h4⟩, h5⟩ | ⟨h1, h2, js, ps, g, x, h3, h4, h5⟩
    · exact ⟨Or.inl ⟨h1, ps, ⟨y, h2, h3⟩, h5⟩, by rw [h5]; omega⟩
    · exact ⟨Or.inr ⟨h1, js, ps, g, x, h3, h4, h5⟩, h2⟩
  · intro ⟨hs, hl⟩
    rcases hs with ⟨h1, ps, ⟨y, h2, h3⟩, h5⟩ | ⟨h1, js, ps, g, x, h3, h4, h5⟩
    · exact Or.inl ⟨h1, ps, ⟨⟨y, h2, h3⟩, by rw [h5] at hl; omega⟩, h5⟩
    · exact Or.inr ⟨h1, hl, js, ps, g, x, h3, h4, h5⟩
theorem SW0.uni {t : Int} (hT : TBL v a) (ht : 0 ≤ t ∧ t < v 4) (hs : SW0 a W m t cs) (h2 : SW0 a W m t ds) : cs = ds := by
  rcases hs with ⟨p1, ps, ⟨y, p2, p3⟩, p5⟩ | ⟨p1, js, ps, g, x, p3, p4, p5⟩
  · rcases h2 with ⟨_, qs, ⟨z, q2, q3⟩, q5⟩ | ⟨q1, _⟩
    · rw [p5, q5, ptp.uni hT ht.1 ht.2 p2 p3 q2 q3]
    · exact absurd q1 p1
  · rcases h2 with ⟨q1, _⟩ | ⟨_, ks, qs, g2, x2, q3, q4, q5⟩
    · exact absurd p1 q1
    · obtain ⟨ls, k1, k2⟩ := jtp.ext hT ht p1 js ks 0 0 g2 x2 qs p3 q3 q4
      have pk := prt.ok (g := g) hT ht p1
      cases ls with
      | nil =>
        obtain ⟨rfl, rfl⟩ := k2
        have e := SEG.uni hT pk.1.1 pk.1.2 p4 q4
        rw [List.append_nil] at k1
        rw [p5, q5, k1, e.2]
      | cons p ls =>
        obtain ⟨m1, m2, _, _⟩ := k2
        have e := SEG.uni hT pk.1.1 pk.1.2 p4 m1
        omega
theorem CTB.kind (hC : CTB sk ln iv rv s tb v a W t) : iv tb 0 = a 6 t := (hC.1.tab hC.2.1 hC.2.2.1).1.1
theorem CTB.ind (hC : CTB sk ln iv rv s tb v a W t) (h6 : rv tb 6 = some n) {j : Nat} (hj : j < 4) : INDR ln iv rv (rv n j) (j : Int) (a 16 (4 * t + j)) (fun k => a 17 (4 * (4 * t + j) + k)) := by
  obtain ⟨_, _, q1, n1, ⟨_, c2, _⟩, _, c5⟩ := hC.1.tab hC.2.1 hC.2.2.1
  rw [h6] at c2; cases c2
  exact c5 j hj
theorem CTB.tbt (hC : CTB sk ln iv rv s tb v a W t) : TBL v a ∧ (0 ≤ (t : Int) ∧ (t : Int) < v 4) := ⟨hC.1.2.2.1, by omega, hC.2.1⟩
theorem CTB.j5 (hC : CTB sk ln iv rv s tb v a W t) (hj : iv tb 0 = 5) : a 6 t = 5 ∧ a 6 (t : Int).toNat = 5 := by
  have e := hC.kind.symm.trans hj
  exact ⟨e, by rw [Int.toNat_natCast]; exact e⟩
theorem SBI.init (e : iv1 = up2 iv s 7 0) (h4 : 0 ≤ iv s 4) : SBI sk ln iv rv iv1 s tb 0 0 0 := fun v a W t hC => by
  have pd : PDH iv1 rv s [] := ⟨by rw [e, up2_s]; rfl, fun cb hb j d hj e => by simp at e⟩
  exact ⟨fun _ => ⟨fun _ => ⟨⟨rfl, rfl⟩, pd⟩, fun h5 => ⟨⟨Int.le_refl _, Int.le_refl _⟩, NSG.zero, [], ⟨rfl, rfl⟩, pd⟩⟩, fun e => absurd e (by omega)⟩
theorem SBI.re (hs : SBI sk ln iv rv iv1 s tb g x y) (hg : g = g2) : SBI sk ln iv rv iv1 s tb g2 x y := by
  subst hg
  exact hs
theorem SBI.skip (hs : SBI sk ln iv rv iv1 s tb g x y) (hy : y < iv s 4) (hy0 : 0 ≤ y) (hn : NTN iv rv s tb g y) : SBI sk ln iv rv iv1 s tb g x (y + 1) := fun v a W t hC => by
  obtain ⟨h1, h2⟩ := hs v a W t hC
  obtain ⟨h3, h4⟩ := h1 (by omega)
  refine ⟨fun _ => ⟨h3, fun h5 => ?_⟩, fun e => absurd e (by omega)⟩
  obtain ⟨p1, p2, p3⟩ := h4 h5
  refine ⟨⟨p1.1, by omega⟩, p2.step ?_, p3⟩
  rcases hn with e | ⟨lb, e1, e2⟩
  · exact absurd (hC.kind.trans h5) e
  · rw [← hC.2.2.2 lb e1 y hy0 hy]; exact e2
theorem SBI.fin (hs : SBI sk ln iv rv iv1 s tb g x y) (hk : iv s 4 < y) (hf : (200 < iv1 s 7 ∧ f ≠ 0) ∨ (iv1 s 7 ≤ 200 ∧ f = 0)) : SBX sk ln iv rv iv1 s tb f := fun v a W t hC => by
  obtain ⟨cs, c1, c2⟩ := (hs v a W t hC).2 hk
  have c3 := c2.1.1
  refine ⟨fun e => ⟨cs, c1, by omega, c2⟩, fun e w => ?_⟩
  obtain ⟨ds, d1, d2⟩ := w
  have q := SW0.uni hC.tbt.1 hC.tbt.2 c1 d1
  subst q
  omega
theorem SBX.fail (hs : SBF sk ln iv rv s tb) (hf : f ≠ 0) : SBX sk ln iv rv iv1 s tb f := fun v a W t hC => ⟨fun e => absurd e hf, fun _ => hs v a W t hC⟩
theorem SBN.bad (hs : SBI sk ln iv rv iv1 s tb g x y) (hn : iv tb 0 ≠ 5) (hg : g ≠ 0) (hk : y ≤ iv s 4) : SBN sk ln iv rv iv2 s tb g y f := by
  have no : ∀ v a W t, CTB sk ln iv rv s tb v a W t → False := fun v a W t hC => hg ((((hs v a W t hC).1 hk).1 (fun e => hn (hC.kind.trans e))).1.2)
  exact ⟨fun _ v a W t hC => (no v a W t hC).elim, fun _ v a W t hC => (no v a W t hC).elim⟩
theorem SBI.pl (hs : SBI sk ln iv rv iv1 s tb g x (iv s 4)) (hW : WT h sk L cl ln iv rv) (hS : SKL sk L cl) (hF : fT [15, 53, 54, 55] L cl iv rv iv1 rv) (ts : ty L cl s 15) (hn : iv tb 0 ≠ 5) (sp : SPX sk ln iv1 rv iv2 s (some tb) x (iv s 4) f) (hC : CTB sk ln iv rv s tb v a W t) : a 6 t ≠ 5 ∧ (f = 0 → ∃ ps, PTS a W t 0 (iv s 4) ps ∧ (PDH iv2 rv s (cls ps) ∧ STE iv2 rv s 0 ps 0 (iv s 4))) ∧ (f ≠ 0 → ¬ ∃ ps, PTS a W t 0 (iv s 4) ps ∧ (cls ps).length ≤ 200) := by
  have h5 : a 6 t ≠ 5 := fun e => hn (hC.kind.trans e)
  obtain ⟨⟨e1, _⟩, pd⟩ := ((hs v a W t hC).1 (Int.le_refl _)).1 h5
  subst e1
  have cx : CTX sk ln iv rv s tb 0 (iv s 4) v a W t := ⟨hC.1, hC.2.1, h5, hC.2.2.1, hC.2.2.2⟩
  have q := sp tb rfl v a W t (cx.ni hW hS hF rfl rfl rfl rfl rfl rfl ts) [] pd
  exact ⟨h5, q⟩
theorem SBN.plain (hs : SBI sk ln iv rv iv1 s tb g x y) (hW : WT h sk L cl ln iv rv) (hS : SKL sk L cl) (hF : fT [15, 53, 54, 55] L cl iv rv iv1 rv) (ts : ty L cl s 15) (hn : iv tb 0 ≠ 5) (hk : y = iv s 4) (hr : r = some tb) (sp : SPX sk ln iv1 rv iv2 s r x y f) : SBN sk ln iv rv iv2 s tb g y f := by
  subst hk
  subst hr
  refine ⟨fun e v a W t hC => ⟨fun e2 => absurd e2 (by omega), fun _ => ?_⟩, fun e v a W t hC w => ?_⟩
  · obtain ⟨h5, p1, _⟩ := hs.pl hW hS hF ts hn sp hC
    obtain ⟨ps, q1, q2⟩ := p1 e
    exact ⟨cls ps, Or.inl ⟨by rw [Int.toNat_natCast]; exact h5, ps, q1, rfl⟩, q2.1, fun _ => ⟨ps, q1, rfl, q2.2⟩⟩
  · obtain ⟨h5, _, p2⟩ := hs.pl hW hS hF ts hn sp hC
    obtain ⟨cs, w1, w2⟩ := w
    rcases w1 with ⟨_, ps, w3, w4⟩ | ⟨w1, _⟩
    · rw [w4] at w2
      exact p2 e ⟨ps, w3, w2⟩
    · rw [Int.toNat_natCast] at w1
      exact h5 w1
theorem prt_el (hC : CTB sk ln iv rv s tb v a W t) (h5 : a 6 t = 5) (hr : (g = 0 ∧ r = rv tb 2) ∨ (g = 1 ∧ r = rv tb 3)) : ∃ b, r = some b ∧ el rv (sk 22) (prt a t g).toNat = some b := by
  have T := hC.1.2.2.1.1 t (by omega) hC.2.1
  rw [Int.toNat_natCast] at T
  have t4 := hC.2.1
  obtain ⟨_, ⟨c2, c3⟩, _⟩ := hC.1.tab hC.2.1 hC.2.2.1
  rcases hr with ⟨g0, hr⟩ | ⟨g1, hr⟩
  · have e : prt a t g = a 8 t := by
      unfold prt
      rw [if_neg (by omega), Int.toNat_natCast]
    rw [e]
    obtain ⟨b, hb⟩ := hC.1.smt (i := (a 8 t).toNat) (by omega)
    refine ⟨b, ?_, hb⟩
    rcases c2 with ⟨c, _⟩ | ⟨_, _, c⟩
    · omega
    · rw [hr, c]; exact hb
  · have e : prt a t g = a 9 t := by
      unfold prt
      rw [if_pos g1, Int.toNat_natCast]
    rw [e]
    obtain ⟨b, hb⟩ := hC.1.smt (i := (a 9 t).toNat) (by omega)
    refine ⟨b, ?_, hb⟩
    rcases c3 with ⟨c, _⟩ | ⟨_, _, c⟩
    · omega
    · rw [hr, c]; exact hb
theorem SBI.jn (hs : SBI sk ln iv rv iv1 s tb g x y) (hW : WT h sk L cl ln iv rv) (hS : SKL sk L cl) (hF : fT [15, 53, 54, 55] L cl iv rv iv1 rv) (ts : ty L cl s 15) (hj : iv tb 0 = 5) (hr : (g = 0 ∧ r = rv tb 2) ∨ (g = 1 ∧ r = rv tb 3)) (hk : y ≤ iv s 4) (sp : SPX sk ln iv1 rv iv2 s r x y f) (hC : CTB sk ln iv rv s tb v a W t) : ∃ js, (0 ≤ x ∧ x ≤ y) ∧ NSG W (sgj g) x y ∧ jtp a W (iv s 4) t 0 0 js g x ∧ (f = 0 → ∃ ps, PTS a W (prt a t g) x y ps ∧ PDH iv2 rv s (jcl a t 0 js ++ cls ps)) ∧ (f ≠ 0 → ¬ ∃ ps, PTS a W (prt a t g) x y ps ∧ (jcl a t 0 js ++ cls ps).length ≤ 200) := by
  have h5 := hC.j5 hj
  obtain ⟨p1, p2, js, p3, p4⟩ := ((hs v a W t hC).1 hk).2 h5.1
  have pk := prt.ok (g := g) hC.tbt.1 hC.tbt.2 h5.2
  obtain ⟨b, b1, b2⟩ := prt_el hC h5.1 hr
  have e : (((prt a t g).toNat : Nat) : Int) = prt a t g := Int.toNat_of_nonneg pk.1.1
  have cx : CTX sk ln iv rv s b x y v a W (prt a t g).toNat := ⟨hC.1, by omega, by omega, b2, fun lb hb j h1 h2 => hC.2.2.2 lb hb j (by omega) (by omega)⟩
  have q := sp b b1 v a W _ (cx.ni hW hS hF rfl rfl rfl rfl rfl rfl ts) _ p4
  rw [e] at q
  refine ⟨js, p1, p2, p3, fun e2 => ?_, q.2⟩
  obtain ⟨ps, k1, k2⟩ := q.1 e2
  exact ⟨ps, k1, k2.1⟩
theorem SBJ.no {t : Int} (hT : TBL v a) (ht : 0 ≤ t ∧ t < v 4) (h5 : a 6 t.toNat = 5) (p3 : jtp a W m t 0 0 js g x) (hy : x ≤ y ∧ y ≤ m) (hN : NSG W (sgj g) x y) (he : y = m ∨ W y.toNat = sgj g) (no : (¬ ∃ ps, PTS a W (prt a t g) x y ps ∧ (jcl a t 0 js ++ cls ps).length ≤ 200) ∨ (y < m ∧ ¬ 0 < a 16 (ind4 t g).toNat)) : ¬ ∃ cs, SW0 a W m t cs ∧ cs.length ≤ 200 := fun w => by
  obtain ⟨cs, w1, len⟩ := w
  rcases w1 with ⟨w1, _⟩ | ⟨_, ks, qs, g3, x3, w2, w3, w4⟩
  · exact w1 h5
  · obtain ⟨ls, k1, k2⟩ := jtp.ext hT ht h5 js ks 0 0 g3 x3 qs p3 w2 w3
    obtain ⟨ps, zz, ⟨m1, m2⟩, m3, m4⟩ := seg_len hT ht h5 k2 w3 hy hN he
    rcases no with no | ⟨n1, n2⟩
    · refine no ⟨ps, ⟨zz, m1, m2⟩, ?_⟩
      rw [k1, jcl.app js ls 0 0 p3, List.append_assoc] at w4
      rw [w4, List.length_append] at len
      rw [List.length_append]; omega
    · rcases m4 with m4 | ⟨_, m5, _⟩
      · omega
      · exact n2 m5
theorem SBN.jfail (hs : SBI sk ln iv rv iv1 s tb g x y) (hW : WT h sk L cl ln iv rv) (hS : SKL sk L cl) (hF : fT [15, 53, 54, 55] L cl iv rv iv1 rv) (ts : ty L cl s 15) (hj : iv tb 0 = 5) (hr : (g = 0 ∧ r = rv tb 2) ∨ (g = 1 ∧ r = rv tb 3)) (hk : 0 ≤ y ∧ y ≤ iv s 4) (sp : SPX sk ln iv1 rv iv2 s r x y f) (he : y = iv s 4 ∨ ∃ lb, rv s 0 = some lb ∧ iv lb y.toNat = sgj g) (hf : f ≠ 0) : SBN sk ln iv rv iv3 s tb g y f := by
  refine ⟨fun e => absurd e hf, fun _ v a W t hC => ?_⟩
  obtain ⟨js, p1, p2, p3, _, p5⟩ := hs.jn hW hS hF ts hj hr hk.2 sp hC
  refine SBJ.no hC.tbt.1 hC.tbt.2 (hC.j5 hj).2 p3 ⟨p1.2, hk.2⟩ p2 ?_ (Or.inl (p5 hf))
  by_cases c : y = iv s 4
  · exact Or.inl c
  · rcases he with e | ⟨lb, e1, e2⟩
    · exact Or.inl e
    · exact Or.inr (by rw [← hC.2.2.2 lb e1 y hk.1 (by omega)]; exact e2)
theorem SBN.jlast (hs : SBI sk ln iv rv iv1 s tb g x y) (hW : WT h sk L cl ln iv rv) (hS : SKL sk L cl) (hF : fT [15, 53, 54, 55] L cl iv rv iv1 rv) (ts : ty L cl s 15) (hj : iv tb 0 = 5) (hr : (g = 0 ∧ r = rv tb 2) ∨ (g = 1 ∧ r = rv tb 3)) (hk : y = iv s 4) (sp : SPX sk ln iv1 rv iv2 s r x y f) (hf : f = 0) : SBN sk ln iv rv iv2 s tb g y f := by
  refine ⟨fun _ v a W t hC => ⟨fun e2 => absurd e2 (by omega), fun _ => ?_⟩, fun e => absurd hf e⟩
  obtain ⟨js, p1, p2, p3, p4, _⟩ := hs.jn hW hS hF ts hj hr (by omega) sp hC
  obtain ⟨ps, ⟨zz, q1, q2⟩, q3⟩ := p4 hf
  subst hk
  exact ⟨_, Or.inr ⟨(hC.j5 hj).2, js, ps, g, x, p3, ⟨⟨p1.2, Int.le_refl _⟩, p2, Or.inl rfl, zz, q1, q2⟩, rfl⟩, q3, fun c => absurd (hC.j5 hj).2 c⟩
theorem CTB.sign (hC : CTB sk ln iv rv s tb v a W t) (h6 : rv tb 6 = some n) (hr2 : (g = 0 ∧ rv n 2 = r2) ∨ (g = 1 ∧ rv n 3 = r2)) : RCX ln iv rv r2 (ICL a (ind4 t g)) ∧ (r2 = none → ¬ 0 < a 16 (ind4 (t : Int) g).toNat) ∧ ((∃ w, r2 = some w) → 0 < a 16 (ind4 (t : Int) g).toNat) := by
  have key : ∀ j : Nat, j < 4 → rv n j = r2 → ind4 (t : Int) g = 4 * (t : Int) + (j : Int) → RCX ln iv rv r2 (ICL a (ind4 t g)) ∧ (r2 = none → ¬ 0 < a 16 (ind4 (t : Int) g).toNat) ∧ ((∃ w, r2 = some w) → 0 < a 16 (ind4 (t : Int) g).toNat) := fun j hj e1 e2 => by
    have hi := hC.ind h6 hj
    rw [e1] at hi
    rw [e2, ICL.nat, show (4 * (t : Int) + (j : Int)).toNat = 4 * t + j by omega]
    refine ⟨hi.rc, fun e => ?_, fun e => ?_⟩
    · rcases hi with ⟨_, q⟩ | ⟨_, _, q, _⟩
      · omega
      · rw [e] at q; cases q
    · obtain ⟨w, e⟩ := e
      rcases hi with ⟨q, _⟩ | ⟨_, _, _, _, _, _, q, _⟩
      · rw [e] at q; cases q
      · exact q
  rcases hr2 with ⟨e1, e2⟩ | ⟨e1, e2⟩
  · exact key 2 (by decide) e2 (by unfold ind4; rw [if_neg (by omega)]; rfl)
  · exact key 3 (by decide) e2 (by unfold ind4; rw [if_pos e1]; rfl)
theorem SBN.jturn (hs : SBI sk ln iv rv iv1 s tb g x y) (hW : WT h sk L cl ln iv rv) (hS : SKL sk L cl) (hF : fT [15, 53, 54, 55] L cl iv rv iv1 rv) (ts : ty L cl s 15) (hj : iv tb 0 = 5) (hr : (g = 0 ∧ r = rv tb 2) ∨ (g = 1 ∧ r = rv tb 3)) (hk : 0 ≤ y ∧ y < iv s 4) (sp : SPX sk ln iv1 rv iv2 s r x y f) (he : ∃ lb, rv s 0 = some lb ∧ iv lb y.toNat = sgj g) (hf : f = 0) (hF2 : fT [15, 53, 54, 55] L cl iv rv iv2 rv) (h6 : rv tb 6 = some n) (hr2 : (g = 0 ∧ rv n 2 = r2) ∨ (g = 1 ∧ rv n 3 = r2)) (t2 : ∀ b, r2 = some b → ty L cl b 20) (st : STX ln iv2 rv iv3 s r2 f2) : SBN sk ln iv rv iv3 s tb g y f2 := by
  obtain ⟨lb, e1, e2⟩ := he
  have hg : g = 0 ∨ g = 1 := by
    rcases hr with ⟨e, _⟩ | ⟨e, _⟩
    · exact Or.inl e
    · exact Or.inr e
  refine ⟨fun e v a W t hC => ⟨fun _ => ⟨fun n5 => absurd (hC.j5 hj).1 n5, fun _ => ?_⟩, fun e3 => absurd e3 (by omega)⟩, fun e v a W t hC => ?_⟩
  · rcases st with ⟨_, q⟩ | ⟨_, w, pu⟩
    · omega
    · obtain ⟨js, p1, p2, p3, p4, _⟩ := hs.jn hW hS hF ts hj hr (by omega) sp hC
      obtain ⟨ps, ⟨zz, q1, q2⟩, q3⟩ := p4 hf
      obtain ⟨s1, _, s3⟩ := hC.sign h6 hr2
      refine hv2 (show W y.toNat = sgj g from by rw [← hC.2.2.2 lb e1 y hk.1 hk.2]; exact e2) (pu _ q3 _ (s1.ni hW hF2 rfl t2)) (fun ew pd => ?_)
      refine ⟨⟨by omega, Int.le_refl _⟩, NSG.zero, js ++ [(y, ps)], jtp.snoc js 0 0 p3 ⟨⟨p1.2, by omega⟩, p2, Or.inr ew, zz, q1, q2⟩ hk.2 (s3 w), ?_⟩
      rw [jcl.snoc hg js 0 0 p3, ← List.append_assoc]
      exact pd
  · rcases st with ⟨q, _⟩ | ⟨q, _⟩
    · obtain ⟨js, p1, p2, p3, p4, _⟩ := hs.jn hW hS hF ts hj hr (by omega) sp hC
      obtain ⟨_, s2, _⟩ := hC.sign h6 hr2
      have ew : W y.toNat = sgj g := by rw [← hC.2.2.2 lb e1 y hk.1 hk.2]; exact e2
      exact SBJ.no hC.tbt.1 hC.tbt.2 (hC.j5 hj).2 p3 ⟨p1.2, by omega⟩ p2 (Or.inr ew) (Or.inr ⟨hk.2, s2 q⟩)
    · exact absurd q e
end SBYS
end
section
set_option maxHeartbeats 4000000 in
set_option maxRecDepth 100000 in
theorem G_push {l : Launch} {G : GT} {mi : Nat} {sk : Nat → Nat} {L : List Nat} {cl ln : Nat → Nat} {iv : Nat → Nat → Int} {rv : Nat → Nat → Option Nat}  {a0 : Nat} {r : Option Nat} (hW : WT (g0 G) sk L cl ln iv rv) (hS : SKL sk L cl) (t_a0 : ty L cl a0 15) (t_r : ∀ b, r = some b → ty L cl b 20) (hc : iv a0 7 ≤ 90000) : Mc l G mi (Phi (g0 G) sk) PHM yX6_push cX6_push 3 none 0 [.ref a0, va_rf r] L cl ln iv rv 0 (fun v L2 cl2 ln2 iv2 rv2 => v = none ∧ L = L2 ∧ cl = cl2 ∧ ln = ln2 ∧ rv = rv2 ∧ fT [15, 54] L cl iv rv iv2 rv2 ∧ WT (g0 G) sk L2 cl2 ln2 iv2 rv2 ∧ ((iv2 a0 4 = iv a0 4 ∧ iv a0 7 ≤ iv2 a0 7 ∧ iv2 a0 7 ≤ iv a0 7 + 4 ∧ iv2 a0 10 = iv a0 10 ∧ iv2 a0 11 = iv a0 11) ∧ PUX ln iv rv iv2 a0 r)) := by
  refine Mc.mk (by decide) (by cases r <;> exact Nat.le_of_ble_eq_true rfl) ?_
  intro p e s m args below meth c A C hM
  have hph := Phi.le hW hS
  refine c_lveq (show lv_args 0 [.ref a0, va_rf r] = [(0, .ref a0), (1, (va_rf r))] from by cases r <;> rfl) ?_
  refine hv3 ((hW.int t_a0 7).1) (show XT L cl ln L cl ln from XT.refl) (show fT [15, 54] L cl iv rv iv rv from fT.refl) (fun hc0 hX0 hF0 => ?_)
  have hc00 : 0 ≤ iv a0 7 := hc0
  refine c_aloadr_n (j := 1) (r := r) C dX6_push_0 rfl ?_
  refine c_ifnonnull (r := r) (tgt := 5) C dX6_push_1 (by decide) (fun ob1 oq1 => ?_) (fun oq1 => ?_)
  · subst oq1
    have tob1 := t_r ob1 rfl
    refine c_lv (lv2 := [(0, .ref a0), (1, .ref ob1)]) [0, 1] rfl ?_
    refine c_st (st2 := []) rfl ?_
    refine c_iconst C dX6_push_5 ?_
    refine c_istore_n (lv2 := [(2, .int (iI 0)), (0, .ref a0), (1, .ref ob1)]) C dX6_push_6 (by decide) rfl ?_
    have Lp1 : ∀ (nn : Nat) (k : Int) (ivb1 : Nat → Nat → Int) , 5 - k < (nn : Int) → WT (g0 G) sk L cl ln ivb1 rv → fT [15, 54] L cl iv rv ivb1 rv → (0 ≤ k ∧ k ≤ 4) → (ivb1 a0 7 = iv a0 7 + k) → (ivb1 a0 4 = iv a0 4) → (0 ≤ iv a0 7) → (ivb1 a0 10 = iv a0 10 ∧ ivb1 a0 11 = iv a0 11) → (PUK ln iv rv ivb1 a0 (some ob1) k) → cw p l e 0 ((PHM) + 0 - ((Phi (g0 G) sk) ln rv)) s m args below meth c G A 3 (MQ below (Qu G A (Qp G (Phi (g0 G) sk) ((Phi (g0 G) sk) ln rv) 0 (fun v L2 cl2 ln2 iv2 rv2 => v = none ∧ L = L2 ∧ cl = cl2 ∧ ln = ln2 ∧ rv = rv2 ∧ fT [15, 54] L cl iv rv iv2 rv2 ∧ WT (g0 G) sk L2 cl2 ln2 iv2 rv2 ∧ ((iv2 a0 4 = iv a0 4 ∧ iv a0 7 ≤ iv2 a0 7 ∧ iv2 a0 7 ≤ iv a0 7 + 4 ∧ iv2 a0 10 = iv a0 10 ∧ iv2 a0 11 = iv a0 11) ∧ PUX ln iv rv iv2 a0 (some ob1))))) args s (((PHM) + 0 - ((Phi (g0 G) sk) ln rv)) / 16) ((PHM) + 0 - ((Phi (g0 G) sk) ln rv)) A) (Phi (g0 G) sk) ((Phi (g0 G) sk) ln rv) L cl ln ivb1 rv 0 7 [(2, .int (iI k)), (0, .ref a0), (1, .ref ob1)] [] := by
      intro nn
      induction nn with
      | zero =>
        intro  k ivb1 hm Wb1 Fb1  hk hc1 hc4 hc0 hc11 hK
        exact absurd hm (by omega)
      | succ nn ih1 =>
        intro  k ivb1 hm Wb1 Fb1  hk hc1 hc4 hc0 hc11 hK
        refine c_iload_n (j := 0) C dX6_push_7 rfl ?_
        refine c_aload_n (j := 2) (x := ob1) C dX6_push_8 rfl ?_
        obtain ⟨rb1, rq1, trb1⟩ := Wb1.ref tob1 2 rfl rfl rfl
        have lnrb1 : 1 ≤ ln rb1 ∧ ln rb1 ≤ 4 := Wb1.len trb1 rfl
        refine c_getr (k := 2) C ck_6 dX6_push_9 w3_145 (by decide) tob1 rfl rfl (by decide) rfl rq1 ?_
        refine c_st (st2 := [.ref rb1, .int (iI k)]) rfl ?_
        have ll1 : 1 ≤ ln rb1 ∧ ln rb1 ≤ 4 := Wb1.len trb1 rfl
        refine c_alenI C dX6_push_12 trb1 rfl ?_
        refine c_icmp_ge (tgt := 57) C (r32_c (lo := 0) (hi := 4) hk.1 hk.2 (by decide) (by decide)) ⟨by omega, by omega⟩ dX6_push_13 (by decide) (fun c1 => ?_) (fun c1 => ?_)
        · have ri1 : 0 ≤ ivb1 a0 4 ∧ ivb1 a0 4 ≤ 500 := Wb1.int t_a0 4
          refine hv3 (show 0 ≤ ivb1 a0 7 ∧ ivb1 a0 7 ≤ 100000 from Wb1.int t_a0 7) (show 0 ≤ ivb1 a0 10 ∧ ivb1 a0 10 ≤ 500 from Wb1.int t_a0 10) (show 0 ≤ ivb1 a0 11 ∧ ivb1 a0 11 ≤ 500 from Wb1.int t_a0 11) (fun ri2 ri3 ri4 => ?_)
          exact c_vret C dX6_push_57 rfl (by decide) (rom0 hph hph (by decide)) ⟨rfl, rfl, rfl, rfl, rfl, Fb1, Wb1, ⟨by omega, PUX.fin hK rq1 (by omega)⟩⟩
        · refine c_aload_n (j := 1) (x := a0) C dX6_push_16 rfl ?_
          have ri5 : 0 ≤ ivb1 a0 7 ∧ ivb1 a0 7 ≤ 100000 := Wb1.int t_a0 7
          refine c_get (k := 7) C ck_7 dX6_push_17 w1_147 (by decide) t_a0 rfl rfl (by decide) rfl ?_
          refine c_sipush (z := 200) C dX6_push_20 (by decide) ?_
          refine c_icmp_ge (tgt := 41) C (r32_c (lo := 0) (hi := 100000) ri5.1 ri5.2 (by decide) (by decide)) ⟨by decide, by decide⟩ dX6_push_23 (by decide) (fun c2 => ?_) (fun c2 => ?_)
          · refine c_aload_n (j := 1) (x := a0) C dX6_push_41 rfl ?_
            refine c_dup C dX6_push_42 rfl ?_
            refine c_get (k := 7) C ck_7 dX6_push_43 w1_147 (by decide) t_a0 rfl rfl (by decide) rfl ?_
            refine c_iconst C dX6_push_46 ?_
            refine c_iadd C dX6_push_47 ?_
            refine c_put (z := (ivb1 a0 7) + 1) (k := 7) C ck_7 dX6_push_48 w1_147 (by decide) rfl t_a0 rfl rfl (by decide) rfl (by rfl) (by rfl) (fun iv1 pq1 => ?_)
            refine hv2 (Wb1.puti pq1 t_a0 (show 0 ≤ ((ivb1 a0 7) + 1) ∧ ((ivb1 a0 7) + 1) ≤ 100000 by omega) rfl) (Fb1.puti hX0 pq1 t_a0 rfl) (fun W1 F1 => ?_)
            refine c_iinc (z := k) (j := 0) (lv2 := [(2, .int (iI (k + 1))), (0, .ref a0), (1, .ref ob1)]) C dX6_push_51 rfl (by decide) rfl ?_
            refine c_goto (tgt := 7) C dX6_push_54 (by decide) ?_
            refine hv8 (show 0 ≤ iv1 a0 7 ∧ iv1 a0 7 ≤ 100000 from W1.int t_a0 7) (show iv1 a0 7 = (ivb1 a0 7) + 1 from by rw [pq1]; exact up2_s) (show 0 ≤ iv1 a0 4 ∧ iv1 a0 4 ≤ 500 from W1.int t_a0 4) (show iv1 a0 4 = ivb1 a0 4 from by rw [pq1]; exact up2_j (by decide)) (show 0 ≤ iv1 a0 10 ∧ iv1 a0 10 ≤ 500 from W1.int t_a0 10) (show iv1 a0 10 = ivb1 a0 10 from by rw [pq1]; exact up2_j (by decide)) (show 0 ≤ iv1 a0 11 ∧ iv1 a0 11 ≤ 500 from W1.int t_a0 11) (show iv1 a0 11 = ivb1 a0 11 from by rw [pq1]; exact up2_j (by decide)) (fun ri6 ie6 ri7 ie7 ri8 ie9 ri9 ie11 => ?_)
            refine c_lv (lv2 := [(2, .int (iI (k + 1))), (0, .ref a0), (1, .ref ob1)]) [0, 1, 2] rfl ?_
            exact ih1  (k + 1) _ (by omega) W1 F1  (by omega) (by show iv1 a0 7 = iv a0 7 + (k + 1); omega) (ie7.trans hc4) (by omega) ⟨(ie9.trans hc11.1), (ie11.trans hc11.2)⟩ (hK.inc (by omega) rq1 (by omega) pq1 (by omega) (by omega) (s6ne hW t_a0))
          · refine c_aload_n (j := 1) (x := a0) C dX6_push_26 rfl ?_
            obtain ⟨rb2, rq2, trb2⟩ := Wb1.ref t_a0 6 rfl rfl rfl
            have lnrb2 : 200 ≤ ln rb2 ∧ ln rb2 ≤ 200 := Wb1.len trb2 rfl
            refine c_getr (k := 6) C ck_7 dX6_push_27 w1_144 (by decide) t_a0 rfl rfl (by decide) rfl rq2 ?_
            refine c_st (st2 := [.ref rb2]) rfl ?_
            refine c_aload_n (j := 1) (x := a0) C dX6_push_30 rfl ?_
            refine c_get (k := 7) C ck_7 dX6_push_31 w1_147 (by decide) t_a0 rfl rfl (by decide) rfl ?_
            refine c_aload_n (j := 2) (x := ob1) C dX6_push_34 rfl ?_
            refine c_getr (k := 2) C ck_6 dX6_push_35 w3_145 (by decide) tob1 rfl rfl (by decide) rfl rq1 ?_
            refine c_st (st2 := [.ref rb1, .int (iI (ivb1 a0 7)), .ref rb2]) rfl ?_
            refine c_iload_n (j := 0) C dX6_push_38 rfl ?_
            refine c_iald C dX6_push_39 trb1 rfl (by omega) (by omega) (by omega) ?_
            refine hv3 (show (-2147483648) ≤ ivb1 rb1 k.toNat ∧ ivb1 rb1 k.toNat ≤ 2147483647 from Wb1.int trb1 k.toNat) (show ivb1 rb1 k.toNat = iv rb1 k.toNat from Fb1.i trb1 rfl k.toNat) (show 200 ≤ ln rb2 ∧ ln rb2 ≤ 200 from Wb1.len trb2 rfl) (fun ri10 ie13 ll2 => ?_)
            refine c_iast (x := ivb1 rb1 k.toNat) C dX6_push_40 trb2 rfl (by omega) (by omega) (by omega) (fun iv2 pq2 => ?_)
            refine hv2 (Wb1.puti pq2 trb2 (show (-2147483648) ≤ (ivb1 rb1 k.toNat) ∧ (ivb1 rb1 k.toNat) ≤ 2147483647 by omega) rfl) (Fb1.puti hX0 pq2 trb2 rfl) (fun W2 F2 => ?_)
            refine c_aload_n (j := 1) (x := a0) C dX6_push_41 rfl ?_
            refine c_dup C dX6_push_42 rfl ?_
            refine hv2 (show 0 ≤ iv2 a0 7 ∧ iv2 a0 7 ≤ 100000 from W2.int t_a0 7) (show iv2 a0 7 = ivb1 a0 7 from by rw [pq2]; exact up2_k (ne_ty t_a0 trb2 (by decide))) (fun ri11 ie14 => ?_)
            refine c_get (k := 7) C ck_7 dX6_push_43 w1_147 (by decide) t_a0 rfl rfl (by decide) rfl ?_
            refine c_iconst C dX6_push_46 ?_
            refine c_iadd C dX6_push_47 ?_
            refine c_put (z := (iv2 a0 7) + 1) (k := 7) C ck_7 dX6_push_48 w1_147 (by decide) rfl t_a0 rfl rfl (by decide) rfl (by rfl) (by rfl) (fun iv3 pq3 => ?_)
            refine hv2 (W2.puti pq3 t_a0 (show 0 ≤ ((iv2 a0 7) + 1) ∧ ((iv2 a0 7) + 1) ≤ 100000 by omega) rfl) (F2.puti hX0 pq3 t_a0 rfl) (fun W3 F3 => ?_)
            refine c_iinc (z := k) (j := 0) (lv2 := [(2, .int (iI (k + 1))), (0, .ref a0), (1, .ref ob1)]) C dX6_push_51 rfl (by decide) rfl ?_
            refine c_goto (tgt := 7) C dX6_push_54 (by decide) ?_
            refine hv11 (show 0 ≤ iv3 a0 7 ∧ iv3 a0 7 ≤ 100000 from W3.int t_a0 7) (show iv3 a0 7 = (iv2 a0 7) + 1 from by rw [pq3]; exact up2_s) (show 0 ≤ iv3 a0 4 ∧ iv3 a0 4 ≤ 500 from W3.int t_a0 4) (show iv3 a0 4 = iv2 a0 4 from by rw [pq3]; exact up2_j (by decide)) (show iv2 a0 4 = ivb1 a0 4 from by rw [pq2]; exact up2_k (ne_ty t_a0 trb2 (by decide))) (show 0 ≤ iv3 a0 10 ∧ iv3 a0 10 ≤ 500 from W3.int t_a0 10) (show iv3 a0 10 = iv2 a0 10 from by rw [pq3]; exact up2_j (by decide)) (show iv2 a0 10 = ivb1 a0 10 from by rw [pq2]; exact up2_k (ne_ty t_a0 trb2 (by decide))) (show 0 ≤ iv3 a0 11 ∧ iv3 a0 11 ≤ 500 from W3.int t_a0 11) (show iv3 a0 11 = iv2 a0 11 from by rw [pq3]; exact up2_j (by decide)) (show iv2 a0 11 = ivb1 a0 11 from by rw [pq2]; exact up2_k (ne_ty t_a0 trb2 (by decide))) (fun ri12 ie15 ri13 ie16 ie17 ri14 ie19 ie20 ri15 ie22 ie23 => ?_)
            refine c_lv (lv2 := [(2, .int (iI (k + 1))), (0, .ref a0), (1, .ref ob1)]) [0, 1, 2] rfl ?_
            exact ih1  (k + 1) _ (by omega) W3 F3  (by omega) (by show iv3 a0 7 = iv a0 7 + (k + 1); omega) (ie16.trans (ie17.trans hc4)) (by omega) ⟨(ie19.trans (ie20.trans hc11.1)), (ie22.trans (ie23.trans hc11.2))⟩ (hK.put (by omega) rq1 (by omega) rq2 pq2 rfl (by omega) pq3 (by omega) (by omega) (s6ne hW t_a0))
    refine hv4 (show 0 ≤ iv a0 7 ∧ iv a0 7 ≤ 100000 from hW.int t_a0 7) (show 0 ≤ iv a0 4 ∧ iv a0 4 ≤ 500 from hW.int t_a0 4) (show 0 ≤ iv a0 10 ∧ iv a0 10 ≤ 500 from hW.int t_a0 10) (show 0 ≤ iv a0 11 ∧ iv a0 11 ≤ 500 from hW.int t_a0 11) (fun ri16 ri17 ri18 ri19 => ?_)
    refine c_lv (lv2 := [(2, .int (iI 0)), (0, .ref a0), (1, .ref ob1)]) [0, 1, 2] rfl ?_
    exact Lp1 6 0 _ (by omega) hW hF0  (by omega) (by show iv a0 7 = iv a0 7 + 0; omega) rfl (by omega) ⟨rfl, rfl⟩ PUK.zero
  · subst oq1
    refine c_lv (lv2 := [(0, .ref a0), (1, .null)]) [0, 1] rfl ?_
    refine c_st (st2 := []) rfl ?_
    refine hv4 (show 0 ≤ iv a0 4 ∧ iv a0 4 ≤ 500 from hW.int t_a0 4) (show 0 ≤ iv a0 7 ∧ iv a0 7 ≤ 100000 from hW.int t_a0 7) (show 0 ≤ iv a0 10 ∧ iv a0 10 ≤ 500 from hW.int t_a0 10) (show 0 ≤ iv a0 11 ∧ iv a0 11 ≤ 500 from hW.int t_a0 11) (fun ri20 ri21 ri22 ri23 => ?_)
    exact c_vret C dX6_push_4 rfl (by decide) (rom0 hph hph (by decide)) ⟨rfl, rfl, rfl, rfl, rfl, hF0, hW, ⟨by omega, PUX.no⟩⟩
set_option maxHeartbeats 4000000 in
set_option maxRecDepth 100000 in
theorem G_setTurn {l : Launch} {G : GT} {mi : Nat} {sk : Nat → Nat} {L : List Nat} {cl ln : Nat → Nat} {iv : Nat → Nat → Int} {rv : Nat → Nat → Option Nat}  {a0 : Nat} {r : Option Nat} {i : Int} (hW : WT (g0 G) sk L cl ln iv rv) (hS : SKL sk L cl) (t_a0 : ty L cl a0 15) (t_r : ∀ b, r = some b → ty L cl b 20) (h_i : -2147483648 ≤ i ∧ i ≤ 2147483647) (hc : iv a0 7 ≤ 90000) : Mc l G mi (Phi (g0 G) sk) PHM yX6_setTurn cX6_setTurn 3 (some .int) 1 [.ref a0, va_rf r, .int (iI i)] L cl ln iv rv 0 (fun v L2 cl2 ln2 iv2 rv2 => ∃ f : Int, v = some (.int (iI f)) ∧ L = L2 ∧ cl = cl2 ∧ ln = ln2 ∧ rv = rv2 ∧ fT [15, 54] L cl iv rv iv2 rv2 ∧ WT (g0 G) sk L2 cl2 ln2 iv2 rv2 ∧ (-2147483648 ≤ f ∧ f ≤ 2147483647) ∧ (((f = 0 ∨ f = 7) ∧ iv2 a0 4 = iv a0 4 ∧ iv a0 7 ≤ iv2 a0 7 ∧ iv2 a0 7 ≤ iv a0 7 + 4 ∧ iv2 a0 10 = iv a0 10 ∧ iv2 a0 11 = iv a0 11) ∧ STX ln iv rv iv2 a0 r f)) := by
  refine Mc.mk (by decide) (by cases r <;> exact Nat.le_of_ble_eq_true rfl) ?_
  intro p e s m args below meth c A C hM
  have hph := Phi.le hW hS
  refine c_lveq (show lv_args 0 [.ref a0, va_rf r, .int (iI i)] = [(0, .ref a0), (1, (va_rf r)), (2, .int (iI i))] from by cases r <;> rfl) ?_
  refine hv2 (show XT L cl ln L cl ln from XT.refl) (show fT [15, 54] L cl iv rv iv rv from fT.refl) (fun hX0 hF0 => ?_)
  refine c_aloadr_n (j := 1) (r := r) C dX6_setTurn_0 rfl ?_
  refine c_ifnonnull (r := r) (tgt := 12) C dX6_setTurn_1 (by decide) (fun ob1 oq1 => ?_) (fun oq1 => ?_)
  · subst oq1
    have tob1 := t_r ob1 rfl
    refine c_lv (lv2 := [(0, .ref a0), (1, .ref ob1), (2, .int (iI i))]) [0, 1, 2] rfl ?_
    refine c_st (st2 := []) rfl ?_
    refine c_aload_n (j := 0) (x := a0) C dX6_setTurn_12 rfl ?_
    refine c_aload_n (j := 1) (x := ob1) C dX6_setTurn_13 rfl ?_
    refine hv4 (show 0 ≤ iv a0 7 ∧ iv a0 7 ≤ 100000 from hW.int t_a0 7) (show 0 ≤ iv a0 4 ∧ iv a0 4 ≤ 500 from hW.int t_a0 4) (show 0 ≤ iv a0 10 ∧ iv a0 10 ≤ 500 from hW.int t_a0 10) (show 0 ≤ iv a0 11 ∧ iv a0 11 ≤ 500 from hW.int t_a0 11) (fun ri1 ri2 ri3 ri4 => ?_)
    refine d_callV (As := [.ref ob1]) (rest := []) C hM (G_push (a0 := a0) (r := (some ob1)) hW hS t_a0 (fun _ q => by cases q; exact tob1)  (by show iv a0 7 ≤ 90000; omega)) dX6_setTurn_14 kV_X6_86 rfl t_a0 rfl rfl (by decide) ck_7 rfl (Nat.le_of_ble_eq_true rfl) ⟨(Nat.le_of_ble_eq_true rfl), (Nat.le_of_ble_eq_true rfl)⟩ hph hph (show 0 + 0 = 0 from rfl) (by decide) (fun rh1 Lh1 clh1 lnh1 ivh1 rvh1 h1 => ?_)
    obtain ⟨rfl, rfl, rfl, rfl, rfl, fl1, W1, exf1⟩ := h1
    have F1 := hF0.call hX0 fl1 rfl
    refine c_st (st2 := []) rfl ?_
    refine hv5 (show 0 ≤ ivh1 a0 4 ∧ ivh1 a0 4 ≤ 500 from W1.int t_a0 4) (show 0 ≤ ivh1 a0 7 ∧ ivh1 a0 7 ≤ 100000 from W1.int t_a0 7) (show 0 ≤ ivh1 a0 10 ∧ ivh1 a0 10 ≤ 500 from W1.int t_a0 10) (show 0 ≤ ivh1 a0 11 ∧ ivh1 a0 11 ≤ 500 from W1.int t_a0 11) (show (ivh1 a0 4 = iv a0 4 ∧ iv a0 7 ≤ ivh1 a0 7 ∧ ivh1 a0 7 ≤ iv a0 7 + 4 ∧ ivh1 a0 10 = iv a0 10 ∧ ivh1 a0 11 = iv a0 11) ∧ PUX ln iv rv ivh1 a0 (some ob1) from exf1) (fun ri5 ri6 ri7 ri8 gf1 => ?_)
    refine c_iconst C dX6_setTurn_17 ?_
    exact c_iret C dX6_setTurn_18 rfl (by decide) (rom0 hph hph (by decide)) ⟨0, rfl, rfl, rfl, rfl, rfl, F1, W1, ⟨by decide, by decide⟩, ⟨by omega, Or.inr ⟨rfl, ⟨_, rfl⟩, gf1.2⟩⟩⟩
  · subst oq1
    refine c_lv (lv2 := [(0, .ref a0), (1, .null), (2, .int (iI i))]) [0, 1, 2] rfl ?_
    refine c_st (st2 := []) rfl ?_
    refine c_aload_n (j := 0) (x := a0) C dX6_setTurn_4 rfl ?_
    refine c_iload_n (j := 2) C dX6_setTurn_5 rfl ?_
    refine c_put (z := i) (k := 9) C ck_7 dX6_setTurn_6 w1_151 (by decide) rfl t_a0 rfl rfl (by decide) rfl (by rfl) (by rfl) (fun iv1 pq1 => ?_)
    refine hv2 (hW.puti pq1 t_a0 (show (-2147483648) ≤ i ∧ i ≤ 2147483647 by omega) rfl) (hF0.puti hX0 pq1 t_a0 rfl) (fun W2 F2 => ?_)
    refine c_bipush (z := 7) C dX6_setTurn_9 (by decide) ?_
    refine hv8 (show 0 ≤ iv1 a0 4 ∧ iv1 a0 4 ≤ 500 from W2.int t_a0 4) (show iv1 a0 4 = iv a0 4 from by rw [pq1]; exact up2_j (by decide)) (show 0 ≤ iv1 a0 7 ∧ iv1 a0 7 ≤ 100000 from W2.int t_a0 7) (show iv1 a0 7 = iv a0 7 from by rw [pq1]; exact up2_j (by decide)) (show 0 ≤ iv1 a0 10 ∧ iv1 a0 10 ≤ 500 from W2.int t_a0 10) (show iv1 a0 10 = iv a0 10 from by rw [pq1]; exact up2_j (by decide)) (show 0 ≤ iv1 a0 11 ∧ iv1 a0 11 ≤ 500 from W2.int t_a0 11) (show iv1 a0 11 = iv a0 11 from by rw [pq1]; exact up2_j (by decide)) (fun ri9 ie5 ri10 ie6 ri11 ie7 ri12 ie8 => ?_)
    exact c_iret C dX6_setTurn_11 rfl (by decide) (rom0 hph hph (by decide)) ⟨7, rfl, rfl, rfl, rfl, rfl, F2, W2, ⟨by decide, by decide⟩, ⟨by omega, Or.inl ⟨rfl, rfl⟩⟩⟩
set_option maxHeartbeats 4000000 in
set_option maxRecDepth 100000 in
theorem G_numberAhead {l : Launch} {G : GT} {mi : Nat} {sk : Nat → Nat} {L : List Nat} {cl ln : Nat → Nat} {iv : Nat → Nat → Int} {rv : Nat → Nat → Option Nat}  {a0 : Nat} {a1 : Nat} {i : Int} (hW : WT (g0 G) sk L cl ln iv rv) (hS : SKL sk L cl) (t_a0 : ty L cl a0 15) (t_a1 : ty L cl a1 100) (h_i : -2147483648 ≤ i ∧ i ≤ 2147483647) (hi : 0 ≤ i ∧ i < 500) : Mc l G mi (Phi (g0 G) sk) PHM yX6_numberAhead cX6_numberAhead 4 (some (.object "DotPress$Row")) 1 [.ref a0, .ref a1, .int (iI i)] L cl ln iv rv 0 (fun v L2 cl2 ln2 iv2 rv2 => ∃ f : Option Nat, v = some ((va_rf f)) ∧ L = L2 ∧ cl = cl2 ∧ ln = ln2 ∧ iv = iv2 ∧ rv = rv2 ∧ (∀ b, f = some b → ty L2 cl2 b 20) ∧ (NAX sk ln iv rv a0 a1 i f)) := by
  refine Mc.mk (by decide) (Nat.le_of_ble_eq_true rfl) ?_
  intro p e s m args below meth c A C hM
  refine hv3 (Phi.le hW hS) (show XT L cl ln L cl ln from XT.refl) (show fT [] L cl iv rv iv rv from fT.refl) (fun hph hX0 hF0 => ?_)
  refine c_aload_n (j := 0) (x := a0) C dX6_numberAhead_0 rfl ?_
  obtain ⟨rb1, rq1, trb1⟩ := hW.ref t_a0 0 rfl rfl rfl
  have lnrb1 : 500 ≤ ln rb1 ∧ ln rb1 ≤ 500 := hW.len trb1 rfl
  refine c_getr (k := 0) C ck_7 dX6_numberAhead_1 w1_136 (by decide) t_a0 rfl rfl (by decide) rfl rq1 ?_
  refine c_st (st2 := [.ref rb1]) rfl ?_
  refine c_iload_n (j := 2) C dX6_numberAhead_4 rfl ?_
  have ll1 : 500 ≤ ln rb1 ∧ ln rb1 ≤ 500 := hW.len trb1 rfl
  refine c_iald C dX6_numberAhead_5 trb1 rfl (by omega) (by omega) (by omega) ?_
  have ri1 : (-2147483648) ≤ iv rb1 i.toNat ∧ iv rb1 i.toNat ≤ 2147483647 := hW.int trb1 i.toNat
  refine c_callSN0 (As := [.int (iI (iv rb1 i.toNat))]) (rest := []) C (fun L E => s11_isDigit (iI (iv rb1 i.toNat))) dX6_numberAhead_6 kSN_X6_115 rfl rfl (Nat.le_of_ble_eq_true rfl) ⟨(Nat.le_of_ble_eq_true rfl), (Nat.le_of_ble_eq_true rfl)⟩ (rom0 hph hph (by decide)) ?_
  rcases inn_c (x := iv rb1 i.toNat) (lo := 48) (hi := 57) (r32_c (lo := (-2147483648)) (hi := 2147483647) ri1.1 ri1.2 (by decide) (by decide)) ⟨by decide, by decide⟩ ⟨by decide, by decide⟩ with ⟨hs1a, hs1b, hs1e⟩ | ⟨hs1a, hs1e⟩
  · refine c_st (st2 := [.int (iI 1)]) (by rw [show inn (iI (iv rb1 i.toNat)) 48 57 = iI 1 from hs1e]) ?_
    refine c_if_eq (tgt := 38) C ⟨by decide, by decide⟩ dX6_numberAhead_9 (by decide) (fun z => absurd z (by omega)) (fun _ => ?_)
    refine c_iload_n (j := 2) C dX6_numberAhead_12 rfl ?_
    refine c_aload_n (j := 0) (x := a0) C dX6_numberAhead_13 rfl ?_
    have ri2 : 0 ≤ iv a0 10 ∧ iv a0 10 ≤ 500 := hW.int t_a0 10
    refine c_get (k := 10) C ck_7 dX6_numberAhead_14 w1_152 (by decide) t_a0 rfl rfl (by decide) rfl ?_
    refine c_icmp_le (tgt := 34) C ⟨by omega, by omega⟩ (r32_c (lo := 0) (hi := 500) ri2.1 ri2.2 (by decide) (by decide)) dX6_numberAhead_17 (by decide) (fun c1 => ?_) (fun c1 => ?_)
    · refine c_iconst C dX6_numberAhead_34 ?_
      refine c_goto (tgt := 39) C dX6_numberAhead_35 (by decide) ?_
      refine c_istore_n (lv2 := [(3, .int (iI 1)), (0, .ref a0), (1, .ref a1), (2, .int (iI i))]) C dX6_numberAhead_39 (by decide) rfl ?_
      refine c_aload_n (j := 2) (x := a1) C dX6_numberAhead_40 rfl ?_
      have ri3 : (-2147483648) ≤ iv a1 0 ∧ iv a1 0 ≤ 2147483647 := hW.int t_a1 0
      refine c_get (k := 0) C ck_10 dX6_numberAhead_41 w2_177 (by decide) t_a1 rfl rfl (by decide) rfl ?_
      refine c_iconst C dX6_numberAhead_44 ?_
      refine c_icmp_ne (tgt := 61) C (r32_c (lo := (-2147483648)) (hi := 2147483647) ri3.1 ri3.2 (by decide) (by decide)) ⟨by decide, by decide⟩ dX6_numberAhead_45 (by decide) (fun c2 => ?_) (fun c2 => ?_)
      · refine c_null C dX6_numberAhead_61 ?_
        exact c_aret (x := none) C dX6_numberAhead_62 rfl (Or.inl ⟨_, rfl⟩) (by decide) (rom0 hph hph (by decide)) ⟨none, rfl, rfl, rfl, rfl, rfl, rfl, (fun _ q => by cases q), (NAX.no rq1 (by unfold isD; omega))⟩
      · refine c_iload_n (j := 0) C dX6_numberAhead_48 rfl ?_
        refine c_if_eq (tgt := 61) C ⟨by decide, by decide⟩ dX6_numberAhead_49 (by decide) (fun z => absurd z (by omega)) (fun _ => ?_)
        refine c_aload_n (j := 2) (x := a1) C dX6_numberAhead_52 rfl ?_
        obtain ⟨rb2, rq2, trb2⟩ := hW.ref t_a1 6 rfl rfl rfl
        have lnrb2 : 4 ≤ ln rb2 ∧ ln rb2 ≤ 4 := hW.len trb2 rfl
        refine c_getr (k := 6) C ck_10 dX6_numberAhead_53 w2_195 (by decide) t_a1 rfl rfl (by decide) rfl rq2 ?_
        refine c_st (st2 := [.ref rb2]) rfl ?_
        refine c_iconst C dX6_numberAhead_56 ?_
        have ll2 : 4 ≤ ln rb2 ∧ ln rb2 ≤ 4 := hW.len trb2 rfl
        rcases hW.opt trb2 ((1 : Int).toNat) rfl rfl with ⟨nq1, _⟩ | ⟨nb1, nq1, tnb1⟩
        · refine c_aaldR C dX6_numberAhead_57 trb2 rfl (by omega) (by omega) (by omega) nq1 ?_
          refine c_st (st2 := [.null]) rfl ?_
          refine c_goto (tgt := 62) C dX6_numberAhead_58 (by decide) ?_
          exact c_aret (x := none) C dX6_numberAhead_62 rfl (Or.inl ⟨_, rfl⟩) (by decide) (rom0 hph hph (by decide)) ⟨none, rfl, rfl, rfl, rfl, rfl, rfl, (fun _ q => by cases q), (NAX.yes rq1 (by unfold isD; omega) rq2 nq1)⟩
        · have tnb1 : ty L cl nb1 20 := tnb1
          refine c_aaldR C dX6_numberAhead_57 trb2 rfl (by omega) (by omega) (by omega) nq1 ?_
          refine c_st (st2 := [.ref nb1]) rfl ?_
          refine c_goto (tgt := 62) C dX6_numberAhead_58 (by decide) ?_
          exact c_aret (x := some nb1) C dX6_numberAhead_62 rfl (Or.inl ⟨_, rfl⟩) (by decide) (rom0 hph hph (by decide)) ⟨(some nb1), rfl, rfl, rfl, rfl, rfl, rfl, (fun _ q => by cases q; exact tnb1), (NAX.yes rq1 (by unfold isD; omega) rq2 nq1)⟩
    · refine c_aload_n (j := 0) (x := a0) C dX6_numberAhead_20 rfl ?_
      refine c_getr (k := 0) C ck_7 dX6_numberAhead_21 w1_136 (by decide) t_a0 rfl rfl (by decide) rfl rq1 ?_
      refine c_st (st2 := [.ref rb1]) rfl ?_
      refine c_iload_n (j := 2) C dX6_numberAhead_24 rfl ?_
      refine c_iconst C dX6_numberAhead_25 ?_
      refine c_isub C dX6_numberAhead_26 ?_
      refine c_iald C dX6_numberAhead_27 trb1 rfl (by omega) (by omega) (by omega) ?_
      have ri4 : (-2147483648) ≤ iv rb1 ((i - 1).toNat) ∧ iv rb1 ((i - 1).toNat) ≤ 2147483647 := hW.int trb1 ((i - 1).toNat)
      refine c_callSN0 (As := [.int (iI (iv rb1 (i - 1).toNat))]) (rest := []) C (fun L E => s11_isDigit (iI (iv rb1 (i - 1).toNat))) dX6_numberAhead_28 kSN_X6_115 rfl rfl (Nat.le_of_ble_eq_true rfl) ⟨(Nat.le_of_ble_eq_true rfl), (Nat.le_of_ble_eq_true rfl)⟩ (rom0 hph hph (by decide)) ?_
      rcases inn_c (x := iv rb1 (i - 1).toNat) (lo := 48) (hi := 57) ⟨by omega, by omega⟩ ⟨by decide, by decide⟩ ⟨by decide, by decide⟩ with ⟨hs2a, hs2b, hs2e⟩ | ⟨hs2a, hs2e⟩
      · refine c_st (st2 := [.int (iI 1)]) (by rw [show inn (iI (iv rb1 (i - 1).toNat)) 48 57 = iI 1 from hs2e]) ?_
        refine c_if_ne (tgt := 38) C ⟨by decide, by decide⟩ dX6_numberAhead_31 (by decide) (fun _ => ?_) (fun z => absurd z (by omega))
        refine c_iconst C dX6_numberAhead_38 ?_
        refine c_istore_n (lv2 := [(3, .int (iI 0)), (0, .ref a0), (1, .ref a1), (2, .int (iI i))]) C dX6_numberAhead_39 (by decide) rfl ?_
        refine c_aload_n (j := 2) (x := a1) C dX6_numberAhead_40 rfl ?_
        have ri5 : (-2147483648) ≤ iv a1 0 ∧ iv a1 0 ≤ 2147483647 := hW.int t_a1 0
        refine c_get (k := 0) C ck_10 dX6_numberAhead_41 w2_177 (by decide) t_a1 rfl rfl (by decide) rfl ?_
        refine c_iconst C dX6_numberAhead_44 ?_
        refine c_icmp_ne (tgt := 61) C (r32_c (lo := (-2147483648)) (hi := 2147483647) ri5.1 ri5.2 (by decide) (by decide)) ⟨by decide, by decide⟩ dX6_numberAhead_45 (by decide) (fun c3 => ?_) (fun c3 => ?_)
        · refine c_null C dX6_numberAhead_61 ?_
          exact c_aret (x := none) C dX6_numberAhead_62 rfl (Or.inl ⟨_, rfl⟩) (by decide) (rom0 hph hph (by decide)) ⟨none, rfl, rfl, rfl, rfl, rfl, rfl, (fun _ q => by cases q), (NAX.no rq1 (by unfold isD; omega))⟩
        · refine c_iload_n (j := 0) C dX6_numberAhead_48 rfl ?_
          refine c_if_eq (tgt := 61) C ⟨by decide, by decide⟩ dX6_numberAhead_49 (by decide) (fun _ => ?_) (fun z => absurd z (by omega))
          refine c_null C dX6_numberAhead_61 ?_
          exact c_aret (x := none) C dX6_numberAhead_62 rfl (Or.inl ⟨_, rfl⟩) (by decide) (rom0 hph hph (by decide)) ⟨none, rfl, rfl, rfl, rfl, rfl, rfl, (fun _ q => by cases q), (NAX.no rq1 (by unfold isD; omega))⟩
      · refine c_st (st2 := [.int (iI 0)]) (by rw [show inn (iI (iv rb1 (i - 1).toNat)) 48 57 = iI 0 from hs2e]) ?_
        refine c_if_ne (tgt := 38) C ⟨by decide, by decide⟩ dX6_numberAhead_31 (by decide) (fun z => absurd z (by omega)) (fun _ => ?_)
        refine c_iconst C dX6_numberAhead_34 ?_
        refine c_goto (tgt := 39) C dX6_numberAhead_35 (by decide) ?_
        refine c_istore_n (lv2 := [(3, .int (iI 1)), (0, .ref a0), (1, .ref a1), (2, .int (iI i))]) C dX6_numberAhead_39 (by decide) rfl ?_
        refine c_aload_n (j := 2) (x := a1) C dX6_numberAhead_40 rfl ?_
        have ri6 : (-2147483648) ≤ iv a1 0 ∧ iv a1 0 ≤ 2147483647 := hW.int t_a1 0
        refine c_get (k := 0) C ck_10 dX6_numberAhead_41 w2_177 (by decide) t_a1 rfl rfl (by decide) rfl ?_
        refine c_iconst C dX6_numberAhead_44 ?_
        refine c_icmp_ne (tgt := 61) C (r32_c (lo := (-2147483648)) (hi := 2147483647) ri6.1 ri6.2 (by decide) (by decide)) ⟨by decide, by decide⟩ dX6_numberAhead_45 (by decide) (fun c4 => ?_) (fun c4 => ?_)
        · refine c_null C dX6_numberAhead_61 ?_
          exact c_aret (x := none) C dX6_numberAhead_62 rfl (Or.inl ⟨_, rfl⟩) (by decide) (rom0 hph hph (by decide)) ⟨none, rfl, rfl, rfl, rfl, rfl, rfl, (fun _ q => by cases q), (NAX.no rq1 (by unfold isD; omega))⟩
        · refine c_iload_n (j := 0) C dX6_numberAhead_48 rfl ?_
          refine c_if_eq (tgt := 61) C ⟨by decide, by decide⟩ dX6_numberAhead_49 (by decide) (fun z => absurd z (by omega)) (fun _ => ?_)
          refine c_aload_n (j := 2) (x := a1) C dX6_numberAhead_52 rfl ?_
          obtain ⟨rb3, rq3, trb3⟩ := hW.ref t_a1 6 rfl rfl rfl
          have lnrb3 : 4 ≤ ln rb3 ∧ ln rb3 ≤ 4 := hW.len trb3 rfl
          refine c_getr (k := 6) C ck_10 dX6_numberAhead_53 w2_195 (by decide) t_a1 rfl rfl (by decide) rfl rq3 ?_
          refine c_st (st2 := [.ref rb3]) rfl ?_
          refine c_iconst C dX6_numberAhead_56 ?_
          have ll3 : 4 ≤ ln rb3 ∧ ln rb3 ≤ 4 := hW.len trb3 rfl
          rcases hW.opt trb3 ((1 : Int).toNat) rfl rfl with ⟨nq2, _⟩ | ⟨nb2, nq2, tnb2⟩
          · refine c_aaldR C dX6_numberAhead_57 trb3 rfl (by omega) (by omega) (by omega) nq2 ?_
            refine c_st (st2 := [.null]) rfl ?_
            refine c_goto (tgt := 62) C dX6_numberAhead_58 (by decide) ?_
            exact c_aret (x := none) C dX6_numberAhead_62 rfl (Or.inl ⟨_, rfl⟩) (by decide) (rom0 hph hph (by decide)) ⟨none, rfl, rfl, rfl, rfl, rfl, rfl, (fun _ q => by cases q), (NAX.yes rq1 (by unfold isD; omega) rq3 nq2)⟩
          · have tnb2 : ty L cl nb2 20 := tnb2
            refine c_aaldR C dX6_numberAhead_57 trb3 rfl (by omega) (by omega) (by omega) nq2 ?_
            refine c_st (st2 := [.ref nb2]) rfl ?_
            refine c_goto (tgt := 62) C dX6_numberAhead_58 (by decide) ?_
            exact c_aret (x := some nb2) C dX6_numberAhead_62 rfl (Or.inl ⟨_, rfl⟩) (by decide) (rom0 hph hph (by decide)) ⟨(some nb2), rfl, rfl, rfl, rfl, rfl, rfl, (fun _ q => by cases q; exact tnb2), (NAX.yes rq1 (by unfold isD; omega) rq3 nq2)⟩
  · refine c_st (st2 := [.int (iI 0)]) (by rw [show inn (iI (iv rb1 i.toNat)) 48 57 = iI 0 from hs1e]) ?_
    refine c_if_eq (tgt := 38) C ⟨by decide, by decide⟩ dX6_numberAhead_9 (by decide) (fun _ => ?_) (fun z => absurd z (by omega))
    refine c_iconst C dX6_numberAhead_38 ?_
    refine c_istore_n (lv2 := [(3, .int (iI 0)), (0, .ref a0), (1, .ref a1), (2, .int (iI i))]) C dX6_numberAhead_39 (by decide) rfl ?_
    refine c_aload_n (j := 2) (x := a1) C dX6_numberAhead_40 rfl ?_
    have ri7 : (-2147483648) ≤ iv a1 0 ∧ iv a1 0 ≤ 2147483647 := hW.int t_a1 0
    refine c_get (k := 0) C ck_10 dX6_numberAhead_41 w2_177 (by decide) t_a1 rfl rfl (by decide) rfl ?_
    refine c_iconst C dX6_numberAhead_44 ?_
    refine c_icmp_ne (tgt := 61) C (r32_c (lo := (-2147483648)) (hi := 2147483647) ri7.1 ri7.2 (by decide) (by decide)) ⟨by decide, by decide⟩ dX6_numberAhead_45 (by decide) (fun c5 => ?_) (fun c5 => ?_)
    · refine c_null C dX6_numberAhead_61 ?_
      have ri8 : 0 ≤ iv a0 10 ∧ iv a0 10 ≤ 500 := hW.int t_a0 10
      exact c_aret (x := none) C dX6_numberAhead_62 rfl (Or.inl ⟨_, rfl⟩) (by decide) (rom0 hph hph (by decide)) ⟨none, rfl, rfl, rfl, rfl, rfl, rfl, (fun _ q => by cases q), (NAX.no rq1 (by unfold isD; omega))⟩
    · refine c_iload_n (j := 0) C dX6_numberAhead_48 rfl ?_
      refine c_if_eq (tgt := 61) C ⟨by decide, by decide⟩ dX6_numberAhead_49 (by decide) (fun _ => ?_) (fun z => absurd z (by omega))
      refine c_null C dX6_numberAhead_61 ?_
      have ri9 : 0 ≤ iv a0 10 ∧ iv a0 10 ≤ 500 := hW.int t_a0 10
      exact c_aret (x := none) C dX6_numberAhead_62 rfl (Or.inl ⟨_, rfl⟩) (by decide) (rom0 hph hph (by decide)) ⟨none, rfl, rfl, rfl, rfl, rfl, rfl, (fun _ q => by cases q), (NAX.no rq1 (by unfold isD; omega))⟩
set_option maxHeartbeats 4000000 in
set_option maxRecDepth 100000 in
theorem G_markStart {l : Launch} {G : GT} {mi : Nat} {sk : Nat → Nat} {L : List Nat} {cl ln : Nat → Nat} {iv : Nat → Nat → Int} {rv : Nat → Nat → Option Nat}  {a0 : Nat} {i : Int} {n : Int} (hW : WT (g0 G) sk L cl ln iv rv) (hS : SKL sk L cl) (t_a0 : ty L cl a0 15) (h_i : -2147483648 ≤ i ∧ i ≤ 2147483647) (h_n : -2147483648 ≤ n ∧ n ≤ 2147483647) (hi : 0 ≤ i ∧ i ≤ 500 ∧ 0 ≤ n ∧ n ≤ 8) : Mc l G mi (Phi (g0 G) sk) PHM yX6_markStart cX6_markStart 4 none 0 [.ref a0, .int (iI i), .int (iI n)] L cl ln iv rv 0 (fun v L2 cl2 ln2 iv2 rv2 => v = none ∧ L = L2 ∧ cl = cl2 ∧ ln = ln2 ∧ rv = rv2 ∧ fT [53] L cl iv rv iv2 rv2 ∧ WT (g0 G) sk L2 cl2 ln2 iv2 rv2 ∧ (MSX iv rv iv2 a0 i n)) := by
  refine Mc.mk (by decide) (Nat.le_of_ble_eq_true rfl) ?_
  intro p e s m args below meth c A C hM
  refine hv3 (Phi.le hW hS) (show XT L cl ln L cl ln from XT.refl) (show fT [53] L cl iv rv iv rv from fT.refl) (fun hph hX0 hF0 => ?_)
  refine c_iload_n (j := 1) C dX6_markStart_0 rfl ?_
  refine c_istore_n (lv2 := [(3, .int (iI i)), (0, .ref a0), (1, .int (iI i)), (2, .int (iI n))]) C dX6_markStart_1 (by decide) rfl ?_
  have Lp1 : ∀ (nn : Nat) (k : Int) (ivb1 : Nat → Nat → Int) , i + 9 - k < (nn : Int) → WT (g0 G) sk L cl ln ivb1 rv → fT [53] L cl iv rv ivb1 rv → (i ≤ k ∧ k ≤ i + n) → (MSK iv rv ivb1 a0 i k) → cw p l e 0 ((PHM) + 0 - ((Phi (g0 G) sk) ln rv)) s m args below meth c G A 4 (MQ below (Qu G A (Qp G (Phi (g0 G) sk) ((Phi (g0 G) sk) ln rv) 0 (fun v L2 cl2 ln2 iv2 rv2 => v = none ∧ L = L2 ∧ cl = cl2 ∧ ln = ln2 ∧ rv = rv2 ∧ fT [53] L cl iv rv iv2 rv2 ∧ WT (g0 G) sk L2 cl2 ln2 iv2 rv2 ∧ (MSX iv rv iv2 a0 i n)))) args s (((PHM) + 0 - ((Phi (g0 G) sk) ln rv)) / 16) ((PHM) + 0 - ((Phi (g0 G) sk) ln rv)) A) (Phi (g0 G) sk) ((Phi (g0 G) sk) ln rv) L cl ln ivb1 rv 0 2 [(3, .int (iI k)), (0, .ref a0), (1, .int (iI i)), (2, .int (iI n))] [] := by
    intro nn
    induction nn with
    | zero =>
      intro  k ivb1 hm Wb1 Fb1  hk hM
      exact absurd hm (by omega)
    | succ nn ih1 =>
      intro  k ivb1 hm Wb1 Fb1  hk hM
      refine c_iload_n (j := 0) C dX6_markStart_2 rfl ?_
      refine c_iload_n (j := 2) C dX6_markStart_3 rfl ?_
      refine c_iload_n (j := 3) C dX6_markStart_4 rfl ?_
      refine c_iadd C dX6_markStart_5 ?_
      refine c_icmp_ge (tgt := 41) C ⟨by omega, by omega⟩ ⟨by omega, by omega⟩ dX6_markStart_6 (by decide) (fun c1 => ?_) (fun c1 => ?_)
      · exact c_vret C dX6_markStart_41 rfl (by decide) (rom0 hph hph (by decide)) ⟨rfl, rfl, rfl, rfl, rfl, Fb1, Wb1, (hM.fin ⟨by omega, by omega⟩)⟩
      · refine c_iload_n (j := 0) C dX6_markStart_9 rfl ?_
        refine c_sipush (z := 500) C dX6_markStart_10 (by decide) ?_
        refine c_icmp_ge (tgt := 41) C ⟨by omega, by omega⟩ ⟨by decide, by decide⟩ dX6_markStart_13 (by decide) (fun c2 => ?_) (fun c2 => ?_)
        · exact c_vret C dX6_markStart_41 rfl (by decide) (rom0 hph hph (by decide)) ⟨rfl, rfl, rfl, rfl, rfl, Fb1, Wb1, (hM.fin ⟨by omega, by omega⟩)⟩
        · refine c_aload_n (j := 1) (x := a0) C dX6_markStart_16 rfl ?_
          obtain ⟨rb1, rq1, trb1⟩ := Wb1.ref t_a0 3 rfl rfl rfl
          have lnrb1 : 500 ≤ ln rb1 ∧ ln rb1 ≤ 500 := Wb1.len trb1 rfl
          refine c_getr (k := 3) C ck_7 dX6_markStart_17 w1_139 (by decide) t_a0 rfl rfl (by decide) rfl rq1 ?_
          refine c_st (st2 := [.ref rb1]) rfl ?_
          refine c_iload_n (j := 0) C dX6_markStart_20 rfl ?_
          refine c_iload_n (j := 0) C dX6_markStart_21 rfl ?_
          refine c_iload_n (j := 2) C dX6_markStart_22 rfl ?_
          refine c_icmp_ne (tgt := 33) C ⟨by omega, by omega⟩ ⟨by omega, by omega⟩ dX6_markStart_23 (by decide) (fun c3 => ?_) (fun c3 => ?_)
          · refine c_iconst C dX6_markStart_33 ?_
            have ll1 : 500 ≤ ln rb1 ∧ ln rb1 ≤ 500 := Wb1.len trb1 rfl
            refine c_iast (x := (-1)) C dX6_markStart_34 trb1 rfl (by omega) (by omega) (by omega) (fun iv1 pq1 => ?_)
            refine hv2 (Wb1.puti pq1 trb1 (show (-2147483648) ≤ (-1) ∧ (-1) ≤ 2147483647 by omega) rfl) (Fb1.puti hX0 pq1 trb1 rfl) (fun W1 F1 => ?_)
            refine c_iinc (z := k) (j := 0) (lv2 := [(3, .int (iI (k + 1))), (0, .ref a0), (1, .int (iI i)), (2, .int (iI n))]) C dX6_markStart_35 rfl (by decide) rfl ?_
            refine c_goto (tgt := 2) C dX6_markStart_38 (by decide) ?_
            refine hv3 (show 0 ≤ iv1 a0 7 ∧ iv1 a0 7 ≤ 100000 from W1.int t_a0 7) (show iv1 a0 7 = ivb1 a0 7 from by rw [pq1]; exact up2_k (ne_ty t_a0 trb1 (by decide))) (show ivb1 a0 7 = iv a0 7 from Fb1.i t_a0 rfl 7) (fun ri1 ie1 ie2 => ?_)
            refine c_lv (lv2 := [(3, .int (iI (k + 1))), (0, .ref a0), (1, .int (iI i)), (2, .int (iI n))]) [0, 1, 2, 3] rfl ?_
            exact ih1  (k + 1) _ (by omega) W1 F1  (by omega) (hM.step rq1 pq1 ⟨by omega, by omega⟩ (by omega))
          · refine c_aload_n (j := 1) (x := a0) C dX6_markStart_26 rfl ?_
            refine hv2 (show 0 ≤ ivb1 a0 7 ∧ ivb1 a0 7 ≤ 100000 from Wb1.int t_a0 7) (show ivb1 a0 7 = iv a0 7 from Fb1.i t_a0 rfl 7) (fun ri2 ie3 => ?_)
            refine c_get (k := 7) C ck_7 dX6_markStart_27 w1_147 (by decide) t_a0 rfl rfl (by decide) rfl ?_
            refine c_goto (tgt := 34) C dX6_markStart_30 (by decide) ?_
            have ll2 : 500 ≤ ln rb1 ∧ ln rb1 ≤ 500 := Wb1.len trb1 rfl
            refine c_iast (x := ivb1 a0 7) C dX6_markStart_34 trb1 rfl (by omega) (by omega) (by omega) (fun iv2 pq2 => ?_)
            refine hv2 (Wb1.puti pq2 trb1 (show (-2147483648) ≤ (ivb1 a0 7) ∧ (ivb1 a0 7) ≤ 2147483647 by omega) rfl) (Fb1.puti hX0 pq2 trb1 rfl) (fun W2 F2 => ?_)
            refine c_iinc (z := k) (j := 0) (lv2 := [(3, .int (iI (k + 1))), (0, .ref a0), (1, .int (iI i)), (2, .int (iI n))]) C dX6_markStart_35 rfl (by decide) rfl ?_
            refine c_goto (tgt := 2) C dX6_markStart_38 (by decide) ?_
            refine hv2 (show 0 ≤ iv2 a0 7 ∧ iv2 a0 7 ≤ 100000 from W2.int t_a0 7) (show iv2 a0 7 = ivb1 a0 7 from by rw [pq2]; exact up2_k (ne_ty t_a0 trb1 (by decide))) (fun ri3 ie4 => ?_)
            refine c_lv (lv2 := [(3, .int (iI (k + 1))), (0, .ref a0), (1, .int (iI i)), (2, .int (iI n))]) [0, 1, 2, 3] rfl ?_
            exact ih1  (k + 1) _ (by omega) W2 F2  (by omega) (hM.step rq1 pq2 ⟨by omega, by omega⟩ (by omega))
  refine c_lv (lv2 := [(3, .int (iI i)), (0, .ref a0), (1, .int (iI i)), (2, .int (iI n))]) [0, 1, 2, 3] rfl ?_
  exact Lp1 510 i _ (by omega) hW hF0  (by omega) MSK.zero
set_option maxHeartbeats 4000000 in
set_option maxRecDepth 100000 in
theorem G_setPart {l : Launch} {G : GT} {mi : Nat} {sk : Nat → Nat} {L : List Nat} {cl ln : Nat → Nat} {iv : Nat → Nat → Int} {rv : Nat → Nat → Option Nat}  {a0 : Nat} {r : Option Nat} {i : Int} {n : Int} (hW : WT (g0 G) sk L cl ln iv rv) (hS : SKL sk L cl) (t_a0 : ty L cl a0 15) (t_r : ∀ b, r = some b → ty L cl b 100) (h_i : -2147483648 ≤ i ∧ i ≤ 2147483647) (h_n : -2147483648 ≤ n ∧ n ≤ 2147483647) (hi : 0 ≤ i ∧ i ≤ 500 ∧ 0 ≤ n ∧ n ≤ 500 ∧ iv a0 7 ≤ 50000) : Mc l G mi (Phi (g0 G) sk) PHM yX6_setPart cX6_setPart 9 (some .int) 5 [.ref a0, va_rf r, .int (iI i), .int (iI n)] L cl ln iv rv 0 (fun v L2 cl2 ln2 iv2 rv2 => ∃ f : Int, v = some (.int (iI f)) ∧ L = L2 ∧ cl = cl2 ∧ ln = ln2 ∧ rv = rv2 ∧ fT [15, 53, 54, 55] L cl iv rv iv2 rv2 ∧ WT (g0 G) sk L2 cl2 ln2 iv2 rv2 ∧ (-2147483648 ≤ f ∧ f ≤ 2147483647) ∧ (((f = 0 ∨ f = 6 ∨ f = 7) ∧ iv2 a0 4 = iv a0 4 ∧ iv2 a0 7 ≤ iv a0 7 + 208 ∧ (f = 0 → (iv2 a0 7 ≤ iv a0 7 ∨ iv2 a0 7 ≤ 200))) ∧ SPX sk ln iv rv iv2 a0 r i n f)) := by
  refine Mc.mk (by decide) (by cases r <;> exact Nat.le_of_ble_eq_true rfl) ?_
  intro p e s m args below meth c A C hM
  have hph := Phi.le hW hS
  refine c_lveq (show lv_args 0 [.ref a0, va_rf r, .int (iI i), .int (iI n)] = [(0, .ref a0), (1, (va_rf r)), (2, .int (iI i)), (3, .int (iI n))] from by cases r <;> rfl) ?_
  refine hv3 (show 0 ≤ iv a0 7 from (hW.int t_a0 7).1) (show XT L cl ln L cl ln from XT.refl) (show fT [15, 53, 54, 55] L cl iv rv iv rv from fT.refl) (fun hc00 hX0 hF0 => ?_)
  refine c_aloadr_n (j := 1) (r := r) C dX6_setPart_0 rfl ?_
  refine c_ifnonnull (r := r) (tgt := 6) C dX6_setPart_1 (by decide) (fun ob1 oq1 => ?_) (fun oq1 => ?_)
  · subst oq1
    have tob1 := t_r ob1 rfl
    refine c_lv (lv2 := [(0, .ref a0), (1, .ref ob1), (2, .int (iI i)), (3, .int (iI n))]) [0, 1, 2, 3] rfl ?_
    refine c_st (st2 := []) rfl ?_
    refine c_aload_n (j := 0) (x := a0) C dX6_setPart_6 rfl ?_
    refine c_iload_n (j := 2) C dX6_setPart_7 rfl ?_
    refine c_put (z := i) (k := 10) C ck_7 dX6_setPart_8 w1_152 (by decide) rfl t_a0 rfl rfl (by decide) rfl (by rfl) (by rfl) (fun iv1 pq1 => ?_)
    refine hv2 (hW.puti pq1 t_a0 (show 0 ≤ i ∧ i ≤ 500 by omega) rfl) (hF0.puti hX0 pq1 t_a0 rfl) (fun W1 F1 => ?_)
    refine c_aload_n (j := 0) (x := a0) C dX6_setPart_11 rfl ?_
    refine c_iload_n (j := 3) C dX6_setPart_12 rfl ?_
    refine c_put (z := n) (k := 11) C ck_7 dX6_setPart_13 w1_153 (by decide) rfl t_a0 rfl rfl (by decide) rfl (by rfl) (by rfl) (fun iv2 pq2 => ?_)
    refine hv2 (W1.puti pq2 t_a0 (show 0 ≤ n ∧ n ≤ 500 by omega) rfl) (F1.puti hX0 pq2 t_a0 rfl) (fun W2 F2 => ?_)
    have Lp1 : ∀ (nn : Nat) (cp : Option Nat) (aq : Int) (ivb1 : Nat → Nat → Int) , 509 - aq < (nn : Int) → WT (g0 G) sk L cl ln ivb1 rv → fT [15, 53, 54, 55] L cl iv rv ivb1 rv → (∀ b, cp = some b → ty L cl b 20) → (i ≤ aq ∧ aq ≤ 508) → (ivb1 a0 7 ≤ iv a0 7 ∨ ivb1 a0 7 ≤ 200) → (ivb1 a0 4 = iv a0 4) → (ivb1 a0 10 = i ∧ ivb1 a0 11 = n) → (SPI sk ln iv rv ivb1 a0 ob1 i n aq) → (CPX iv rv ob1 cp) → cw p l e 5 ((PHM) + 0 - ((Phi (g0 G) sk) ln rv)) s m args below meth c G A 9 (MQ below (Qu G A (Qp G (Phi (g0 G) sk) ((Phi (g0 G) sk) ln rv) 0 (fun v L2 cl2 ln2 iv2 rv2 => ∃ f : Int, v = some (.int (iI f)) ∧ L = L2 ∧ cl = cl2 ∧ ln = ln2 ∧ rv = rv2 ∧ fT [15, 53, 54, 55] L cl iv rv iv2 rv2 ∧ WT (g0 G) sk L2 cl2 ln2 iv2 rv2 ∧ (-2147483648 ≤ f ∧ f ≤ 2147483647) ∧ (((f = 0 ∨ f = 6 ∨ f = 7) ∧ iv2 a0 4 = iv a0 4 ∧ iv2 a0 7 ≤ iv a0 7 + 208 ∧ (f = 0 → (iv2 a0 7 ≤ iv a0 7 ∨ iv2 a0 7 ≤ 200))) ∧ SPX sk ln iv rv iv2 a0 (some ob1) i n f)))) args s (((PHM) + 0 - ((Phi (g0 G) sk) ln rv)) / 16) ((PHM) + 0 - ((Phi (g0 G) sk) ln rv)) A) (Phi (g0 G) sk) ((Phi (g0 G) sk) ln rv) L cl ln ivb1 rv 0 39 [(4, (va_rf cp)), (5, .int (iI aq)), (0, .ref a0), (1, .ref ob1), (2, .int (iI i)), (3, .int (iI n))] [] := by
      intro nn
      induction nn with
      | zero =>
        intro cp aq ivb1 hm Wb1 Fb1 ty_cp hat hc7 hc4 hc11 hI hCP
        exact absurd hm (by omega)
      | succ nn ih1 =>
        intro cp aq ivb1 hm Wb1 Fb1 ty_cp hat hc7 hc4 hc11 hI hCP
        refine c_iload (j := 1) C dX6_setPart_39 rfl ?_
        refine c_iload_n (j := 5) C dX6_setPart_41 rfl ?_
        refine c_icmp_ge (tgt := 179) C ⟨by omega, by omega⟩ ⟨by omega, by omega⟩ dX6_setPart_42 (by decide) (fun c1 => ?_) (fun c1 => ?_)
        · refine c_iconst C dX6_setPart_179 ?_
          refine hv4 (show 0 ≤ ivb1 a0 4 ∧ ivb1 a0 4 ≤ 500 from Wb1.int t_a0 4) (show 0 ≤ ivb1 a0 7 ∧ ivb1 a0 7 ≤ 100000 from Wb1.int t_a0 7) (show 0 ≤ ivb1 a0 10 ∧ ivb1 a0 10 ≤ 500 from Wb1.int t_a0 10) (show 0 ≤ ivb1 a0 11 ∧ ivb1 a0 11 ≤ 500 from Wb1.int t_a0 11) (fun ri1 ri2 ri3 ri4 => ?_)
          exact c_iret C dX6_setPart_180 rfl (by decide) (rom0 hph hph (by decide)) ⟨0, rfl, rfl, rfl, rfl, rfl, Fb1, Wb1, ⟨by decide, by decide⟩, ⟨by omega, hI.done (by omega)⟩⟩
        · refine c_aload_n (j := 2) (x := a0) C dX6_setPart_45 rfl ?_
          obtain ⟨rb1, rq1, trb1⟩ := Wb1.ref t_a0 0 rfl rfl rfl
          have lnrb1 : 500 ≤ ln rb1 ∧ ln rb1 ≤ 500 := Wb1.len trb1 rfl
          refine c_getr (k := 0) C ck_7 dX6_setPart_46 w1_136 (by decide) t_a0 rfl rfl (by decide) rfl rq1 ?_
          refine c_st (st2 := [.ref rb1]) rfl ?_
          refine c_iload (j := 1) C dX6_setPart_49 rfl ?_
          have ll1 : 500 ≤ ln rb1 ∧ ln rb1 ≤ 500 := Wb1.len trb1 rfl
          refine c_iald C dX6_setPart_51 trb1 rfl (by omega) (by omega) (by omega) ?_
          refine hv2 (show (-2147483648) ≤ ivb1 rb1 aq.toNat ∧ ivb1 rb1 aq.toNat ≤ 2147483647 from Wb1.int trb1 aq.toNat) (show ivb1 rb1 aq.toNat = iv rb1 aq.toNat from Fb1.i trb1 rfl aq.toNat) (fun ri5 ie5 => ?_)
          refine c_istore (lv2 := [(6, .int (iI (ivb1 rb1 aq.toNat))), (4, (va_rf cp)), (5, .int (iI aq)), (0, .ref a0), (1, .ref ob1), (2, .int (iI i)), (3, .int (iI n))]) C dX6_setPart_52 (by decide) rfl ?_
          refine c_aload_n (j := 3) (x := a0) C dX6_setPart_54 rfl ?_
          refine c_aload_n (j := 4) (x := ob1) C dX6_setPart_55 rfl ?_
          refine c_iload (j := 2) C dX6_setPart_56 rfl ?_
          refine d_callV (As := [.ref ob1, .int (iI aq)]) (rest := []) C hM (G_numberAhead (a0 := a0) (a1 := ob1) (i := aq) Wb1 hS t_a0 tob1 (by omega) (by show 0 ≤ aq ∧ aq < 500; omega)) dX6_setPart_58 kV_X6_90 rfl t_a0 rfl rfl (by decide) ck_7 rfl (Nat.le_of_ble_eq_true rfl) ⟨(Nat.le_of_ble_eq_true rfl), (Nat.le_of_ble_eq_true rfl)⟩ hph hph (show 0 + 0 = 0 from rfl) (by decide) (fun rh1 Lh1 clh1 lnh1 ivh1 rvh1 h1 => ?_)
          obtain ⟨f1, rfl, rfl, rfl, rfl, rfl, rfl, rgf1, exf1⟩ := h1
          refine c_st (st2 := [(va_rf f1)]) rfl ?_
          refine hv5 (show NAX sk ln ivb1 rv a0 ob1 aq f1 from exf1) (show 0 ≤ ivb1 a0 4 ∧ ivb1 a0 4 ≤ 500 from Wb1.int t_a0 4) (show 0 ≤ ivb1 a0 7 ∧ ivb1 a0 7 ≤ 100000 from Wb1.int t_a0 7) (show 0 ≤ ivb1 a0 10 ∧ ivb1 a0 10 ≤ 500 from Wb1.int t_a0 10) (show 0 ≤ ivb1 a0 11 ∧ ivb1 a0 11 ≤ 500 from Wb1.int t_a0 11) (fun gf1 ri6 ri7 ri8 ri9 => ?_)
          have naf1 : NA0 sk ln iv rv a0 ob1 i n aq f1 := NAX.mv gf1 hW hS Wb1 Fb1 t_a0 rgf1 (by omega) (by omega) ⟨by omega, by omega⟩
          refine c_astorer (r := f1) (lv2 := [(7, (va_rf f1)), (6, .int (iI (ivb1 rb1 aq.toNat))), (4, (va_rf cp)), (5, .int (iI aq)), (0, .ref a0), (1, .ref ob1), (2, .int (iI i)), (3, .int (iI n))]) C dX6_setPart_61 (by decide) rfl ?_
          refine c_aload_n (j := 4) (x := a0) C dX6_setPart_63 rfl ?_
          refine c_aload_n (j := 5) (x := ob1) C dX6_setPart_64 rfl ?_
          refine c_iload (j := 3) C dX6_setPart_65 rfl ?_
          refine c_iload (j := 1) C dX6_setPart_67 rfl ?_
          refine d_callV (As := [.ref ob1, .int (iI aq), .int (iI (ivb1 rb1 aq.toNat))]) (rest := []) C hM (G_find (a0 := a0) (a1 := ob1) (i := aq) (x := ivb1 rb1 aq.toNat) Wb1 hS t_a0 tob1 (by omega) (by omega) (by show 0 ≤ aq ∧ aq ≤ 500; omega)) dX6_setPart_69 kV_X6_94 rfl t_a0 rfl rfl (by decide) ck_7 rfl (Nat.le_of_ble_eq_true rfl) ⟨(Nat.le_of_ble_eq_true rfl), (Nat.le_of_ble_eq_true rfl)⟩ hph hph (show 0 + 0 = 0 from rfl) (by decide) (fun rh2 Lh2 clh2 lnh2 ivh2 rvh2 h2 => ?_)
          obtain ⟨f2, rfl, rfl, rfl, rfl, rfl, fl2, W4, rgf2, exf2⟩ := h2
          have F3 := Fb1.call hX0 fl2 rfl
          refine c_st (st2 := [(va_rf f2)]) rfl ?_
          refine hv2 (show FDX sk ln ivb1 rv a0 ob1 aq (ivb1 rb1 aq.toNat) f2 from exf2) (hI.ni Wb1 fl2 t_a0 rfl rfl rfl) (fun gf2 sif2 => ?_)
          have fdf2 : FD0 sk ln iv rv a0 ob1 i n aq (ivb1 rb1 aq.toNat) f2 := FDX.mv gf2 hW hS Wb1 Fb1 t_a0 rgf2 (by omega) (by omega) ⟨by omega, by omega⟩
          refine c_astorer (r := f2) (lv2 := [(8, (va_rf f2)), (7, (va_rf f1)), (6, .int (iI (ivb1 rb1 aq.toNat))), (4, (va_rf cp)), (5, .int (iI aq)), (0, .ref a0), (1, .ref ob1), (2, .int (iI i)), (3, .int (iI n))]) C dX6_setPart_72 (by decide) (by cases f1 <;> rfl) ?_
          refine c_aloadr (j := 0) (r := f2) C dX6_setPart_74 rfl ?_
          refine c_ifnonnull (r := f2) (tgt := 110) C dX6_setPart_76 (by decide) (fun ob2 oq2 => ?_) (fun oq2 => ?_)
          · subst oq2
            have tob2 := rgf2 ob2 rfl
            refine c_lv (lv2 := [(8, .ref ob2), (7, (va_rf f1)), (6, .int (iI (ivb1 rb1 aq.toNat))), (4, (va_rf cp)), (5, .int (iI aq)), (0, .ref a0), (1, .ref ob1), (2, .int (iI i)), (3, .int (iI n))]) [0, 1, 2, 3, 4, 5, 6, 7, 8] rfl ?_
            refine c_st (st2 := []) rfl ?_
            refine c_aload (j := 0) (x := ob2) C dX6_setPart_110 rfl ?_
            refine c_ifnonnull (r := (some ob2)) (tgt := 124) C dX6_setPart_112 (by decide) (fun _ _ => ?_) (fun q => by cases q)
            refine c_aload_n (j := 5) (x := a0) C dX6_setPart_124 rfl ?_
            refine c_iload (j := 4) C dX6_setPart_125 rfl ?_
            refine c_aload (j := 0) (x := ob2) C dX6_setPart_127 rfl ?_
            obtain ⟨rb2, rq2, trb2⟩ := W4.ref tob2 1 rfl rfl rfl
            have lnrb2 : 0 ≤ ln rb2 ∧ ln rb2 ≤ 8 := W4.len trb2 rfl
            refine c_getr (k := 1) C ck_6 dX6_setPart_129 w3_141 (by decide) tob2 rfl rfl (by decide) rfl rq2 ?_
            refine c_st (st2 := [.ref rb2, .int (iI aq), .ref a0]) rfl ?_
            have ll2 : 0 ≤ ln rb2 ∧ ln rb2 ≤ 8 := W4.len trb2 rfl
            refine c_alenI C dX6_setPart_132 trb2 rfl ?_
            refine d_callV (As := [.int (iI aq), .int (iI ((ln rb2 : Nat) : Int))]) (rest := []) C hM (G_markStart (a0 := a0) (i := aq) (n := ((ln rb2 : Nat) : Int)) W4 hS t_a0 (by omega) (by omega) (by show 0 ≤ aq ∧ aq ≤ 500 ∧ 0 ≤ ((ln rb2 : Nat) : Int) ∧ ((ln rb2 : Nat) : Int) ≤ 8; omega)) dX6_setPart_133 kV_X6_105 rfl t_a0 rfl rfl (by decide) ck_7 rfl (Nat.le_of_ble_eq_true rfl) ⟨(Nat.le_of_ble_eq_true rfl), (Nat.le_of_ble_eq_true rfl)⟩ hph hph (show 0 + 0 = 0 from rfl) (by decide) (fun rh3 Lh3 clh3 lnh3 ivh3 rvh3 h3 => ?_)
            obtain ⟨rfl, rfl, rfl, rfl, rfl, fl3, W5, exf3⟩ := h3
            have F4 := F3.call hX0 fl3 rfl
            refine c_st (st2 := []) rfl ?_
            have gf3 : MSX ivh2 rv ivh3 a0 aq ((ln rb2 : Nat) : Int) := exf3
            have sif3 := SPI.mark sif2 W4 fl3 t_a0 rfl rfl ⟨by omega, by omega⟩ gf3
            refine c_aload_n (j := 5) (x := a0) C dX6_setPart_136 rfl ?_
            refine c_aloadr (j := 1) (r := f1) C dX6_setPart_137 rfl ?_
            refine hv12 (show 0 ≤ ivh3 a0 7 ∧ ivh3 a0 7 ≤ 100000 from W5.int t_a0 7) (show ivh3 a0 7 = ivh2 a0 7 from fl3.i t_a0 rfl 7) (show ivh2 a0 7 = ivb1 a0 7 from fl2.i t_a0 rfl 7) (show 0 ≤ ivh3 a0 4 ∧ ivh3 a0 4 ≤ 500 from W5.int t_a0 4) (show ivh3 a0 4 = ivh2 a0 4 from fl3.i t_a0 rfl 4) (show ivh2 a0 4 = ivb1 a0 4 from fl2.i t_a0 rfl 4) (show 0 ≤ ivh3 a0 10 ∧ ivh3 a0 10 ≤ 500 from W5.int t_a0 10) (show ivh3 a0 10 = ivh2 a0 10 from fl3.i t_a0 rfl 10) (show ivh2 a0 10 = ivb1 a0 10 from fl2.i t_a0 rfl 10) (show 0 ≤ ivh3 a0 11 ∧ ivh3 a0 11 ≤ 500 from W5.int t_a0 11) (show ivh3 a0 11 = ivh2 a0 11 from fl3.i t_a0 rfl 11) (show ivh2 a0 11 = ivb1 a0 11 from fl2.i t_a0 rfl 11) (fun ri10 ie10 ie11 ri11 ie12 ie13 ri12 ie14 ie15 ri13 ie16 ie17 => ?_)
            refine d_callV (As := [(va_rf f1)]) (rest := []) C hM (G_push (a0 := a0) (r := f1) W5 hS t_a0 rgf1  (by show ivh3 a0 7 ≤ 90000; omega)) dX6_setPart_139 kV_X6_86 rfl t_a0 rfl rfl (by decide) ck_7 rfl (Nat.le_of_ble_eq_true rfl) ⟨(Nat.le_of_ble_eq_true rfl), (Nat.le_of_ble_eq_true rfl)⟩ hph hph (show 0 + 0 = 0 from rfl) (by decide) (fun rh4 Lh4 clh4 lnh4 ivh4 rvh4 h4 => ?_)
            obtain ⟨rfl, rfl, rfl, rfl, rfl, fl4, W6, exf4⟩ := h4
            have F5 := F4.call hX0 fl4 rfl
            refine c_st (st2 := []) rfl ?_
            refine hv5 (show 0 ≤ ivh4 a0 4 ∧ ivh4 a0 4 ≤ 500 from W6.int t_a0 4) (show 0 ≤ ivh4 a0 7 ∧ ivh4 a0 7 ≤ 100000 from W6.int t_a0 7) (show 0 ≤ ivh4 a0 10 ∧ ivh4 a0 10 ≤ 500 from W6.int t_a0 10) (show 0 ≤ ivh4 a0 11 ∧ ivh4 a0 11 ≤ 500 from W6.int t_a0 11) (show (ivh4 a0 4 = ivh3 a0 4 ∧ ivh3 a0 7 ≤ ivh4 a0 7 ∧ ivh4 a0 7 ≤ ivh3 a0 7 + 4 ∧ ivh4 a0 10 = ivh3 a0 10 ∧ ivh4 a0 11 = ivh3 a0 11) ∧ PUX ln ivh3 rv ivh4 a0 f1 from exf4) (fun ri14 ri15 ri16 ri17 gf4 => ?_)
            refine c_aload_n (j := 5) (x := a0) C dX6_setPart_142 rfl ?_
            refine c_aload (j := 0) (x := ob2) C dX6_setPart_143 rfl ?_
            refine d_callV (As := [.ref ob2]) (rest := []) C hM (G_push (a0 := a0) (r := (some ob2)) W6 hS t_a0 (fun _ q => by cases q; exact tob2)  (by show ivh4 a0 7 ≤ 90000; omega)) dX6_setPart_145 kV_X6_86 rfl t_a0 rfl rfl (by decide) ck_7 rfl (Nat.le_of_ble_eq_true rfl) ⟨(Nat.le_of_ble_eq_true rfl), (Nat.le_of_ble_eq_true rfl)⟩ hph hph (show 0 + 0 = 0 from rfl) (by decide) (fun rh5 Lh5 clh5 lnh5 ivh5 rvh5 h5 => ?_)
            obtain ⟨rfl, rfl, rfl, rfl, rfl, fl5, W7, exf5⟩ := h5
            have F6 := F5.call hX0 fl5 rfl
            refine c_st (st2 := []) rfl ?_
            refine hv11 (show 0 ≤ ivh5 a0 4 ∧ ivh5 a0 4 ≤ 500 from W7.int t_a0 4) (show 0 ≤ ivh5 a0 7 ∧ ivh5 a0 7 ≤ 100000 from W7.int t_a0 7) (show 0 ≤ ivh5 a0 10 ∧ ivh5 a0 10 ≤ 500 from W7.int t_a0 10) (show 0 ≤ ivh5 a0 11 ∧ ivh5 a0 11 ≤ 500 from W7.int t_a0 11) (show (ivh5 a0 4 = ivh4 a0 4 ∧ ivh4 a0 7 ≤ ivh5 a0 7 ∧ ivh5 a0 7 ≤ ivh4 a0 7 + 4 ∧ ivh5 a0 10 = ivh4 a0 10 ∧ ivh5 a0 11 = ivh4 a0 11) ∧ PUX ln ivh4 rv ivh5 a0 (some ob2) from exf5) (show (-2147483648) ≤ ivh5 ob1 0 ∧ ivh5 ob1 0 ≤ 2147483647 from W7.int tob1 0) (show ivh5 ob1 0 = ivh4 ob1 0 from fl5.i tob1 rfl 0) (show ivh4 ob1 0 = ivh3 ob1 0 from fl4.i tob1 rfl 0) (show ivh3 ob1 0 = ivh2 ob1 0 from fl3.i tob1 rfl 0) (show ivh2 ob1 0 = ivb1 ob1 0 from fl2.i tob1 rfl 0) (show ivb1 ob1 0 = iv ob1 0 from Fb1.i tob1 rfl 0) (fun ri18 ri19 ri20 ri21 gf5 ri22 ie26 ie27 ie28 ie29 ie30 => ?_)
            have s2f5 : SP2 sk ln iv rv ivh5 a0 ob1 i n aq ob2 := SPM.two sif3 rq2 rfl W5 W6 t_a0 fl4 fl5 rfl rfl hW F4 F5 rgf1 tob2 (PCX.plain naf1 fdf2 rq1 (by omega) ⟨by omega, by omega⟩) gf4.2 gf5.2
            refine c_aload_n (j := 5) (x := a0) C dX6_setPart_148 rfl ?_
            refine c_get (k := 7) C ck_7 dX6_setPart_149 w1_147 (by decide) t_a0 rfl rfl (by decide) rfl ?_
            refine c_sipush (z := 200) C dX6_setPart_152 (by decide) ?_
            refine c_icmp_le (tgt := 161) C (r32_c (lo := 0) (hi := 100000) ri19.1 ri19.2 (by decide) (by decide)) ⟨by decide, by decide⟩ dX6_setPart_155 (by decide) (fun c2 => ?_) (fun c2 => ?_)
            · refine c_iload (j := 4) C dX6_setPart_161 rfl ?_
              refine c_iconst C dX6_setPart_163 ?_
              refine c_aload (j := 0) (x := ob2) C dX6_setPart_164 rfl ?_
              refine c_getr (k := 1) C ck_6 dX6_setPart_166 w3_141 (by decide) tob2 rfl rfl (by decide) rfl rq2 ?_
              refine c_st (st2 := [.ref rb2, .int (iI 1), .int (iI aq)]) rfl ?_
              refine c_alenI C dX6_setPart_169 trb2 rfl ?_
              obtain ⟨mn1, hmn1, emn1⟩ := mmax_c (x := 1) (y := ((ln rb2 : Nat) : Int)) ⟨by decide, by decide⟩ ⟨by omega, by omega⟩
              refine c_mmax (w := iI mn1) C dX6_setPart_170 w4_130 w2_148 w1_14 w2_149 (by decide) (rom0 hph hph (by decide)) (Nat.le_of_ble_eq_true rfl) emn1 ?_
              refine c_iadd C dX6_setPart_173 ?_
              refine c_istore (lv2 := [(5, .int (iI (aq + mn1))), (8, .ref ob2), (7, (va_rf f1)), (6, .int (iI (ivb1 rb1 aq.toNat))), (4, (va_rf cp)), (0, .ref a0), (1, .ref ob1), (2, .int (iI i)), (3, .int (iI n))]) C dX6_setPart_174 (by decide) (by cases cp <;> rfl) ?_
              refine c_goto (tgt := 39) C dX6_setPart_176 (by decide) ?_
              refine c_lv (lv2 := [(4, (va_rf cp)), (5, .int (iI (aq + mn1))), (0, .ref a0), (1, .ref ob1), (2, .int (iI i)), (3, .int (iI n))]) [4, 0, 5, 6, 7, 8] rfl ?_
              exact ih1  cp (aq + mn1) _ (by omega) W7 F6 ty_cp (by omega) (by show ivh5 a0 7 ≤ iv a0 7 ∨ ivh5 a0 7 ≤ 200; omega) (by show ivh5 a0 4 = iv a0 4; omega) (by show ivh5 a0 10 = i ∧ ivh5 a0 11 = n; omega) (s2f5.next (by omega) (by omega) rq2 (by omega)) hCP
            · refine c_bipush (z := 6) C dX6_setPart_158 (by decide) ?_
              exact c_iret C dX6_setPart_160 rfl (by decide) (rom0 hph hph (by decide)) ⟨6, rfl, rfl, rfl, rfl, rfl, F6, W7, ⟨by decide, by decide⟩, ⟨by omega, s2f5.many (by omega) (by omega) (by decide)⟩⟩
          · subst oq2
            refine c_lv (lv2 := [(8, .null), (7, (va_rf f1)), (6, .int (iI (ivb1 rb1 aq.toNat))), (4, (va_rf cp)), (5, .int (iI aq)), (0, .ref a0), (1, .ref ob1), (2, .int (iI i)), (3, .int (iI n))]) [0, 1, 2, 3, 4, 5, 6, 7, 8] rfl ?_
            refine c_st (st2 := []) rfl ?_
            refine c_aloadr (j := 3) (r := cp) C dX6_setPart_79 rfl ?_
            refine c_ifnull (r := cp) (tgt := 110) C dX6_setPart_81 (by decide) (fun oq3 => ?_) (fun ob3 oq3 => ?_)
            · subst oq3
              refine c_lv (lv2 := [(8, .null), (7, (va_rf f1)), (6, .int (iI (ivb1 rb1 aq.toNat))), (4, .null), (5, .int (iI aq)), (0, .ref a0), (1, .ref ob1), (2, .int (iI i)), (3, .int (iI n))]) [0, 1, 2, 3, 4, 5, 6, 7, 8] rfl ?_
              refine c_st (st2 := []) rfl ?_
              refine c_aloadr (j := 0) (r := none) C dX6_setPart_110 rfl ?_
              refine c_st (st2 := [.null]) rfl ?_
              refine c_ifnonnull (r := none) (tgt := 124) C dX6_setPart_112 (by decide) (fun _ q => by cases q) (fun _ => ?_)
              refine c_aload_n (j := 5) (x := a0) C dX6_setPart_115 rfl ?_
              refine c_iload (j := 4) C dX6_setPart_116 rfl ?_
              refine c_put (z := aq) (k := 9) C ck_7 dX6_setPart_118 w1_151 (by decide) rfl t_a0 rfl rfl (by decide) rfl (by rfl) (by rfl) (fun iv3 pq3 => ?_)
              refine hv2 (W4.puti pq3 t_a0 (show (-2147483648) ≤ aq ∧ aq ≤ 2147483647 by omega) rfl) (F3.puti hX0 pq3 t_a0 rfl) (fun W8 F7 => ?_)
              refine c_bipush (z := 7) C dX6_setPart_121 (by decide) ?_
              refine hv16 (show 0 ≤ iv3 a0 4 ∧ iv3 a0 4 ≤ 500 from W8.int t_a0 4) (show iv3 a0 4 = ivh2 a0 4 from by rw [pq3]; exact up2_j (by decide)) (show ivh2 a0 4 = ivb1 a0 4 from fl2.i t_a0 rfl 4) (show 0 ≤ iv3 a0 7 ∧ iv3 a0 7 ≤ 100000 from W8.int t_a0 7) (show iv3 a0 7 = ivh2 a0 7 from by rw [pq3]; exact up2_j (by decide)) (show ivh2 a0 7 = ivb1 a0 7 from fl2.i t_a0 rfl 7) (show 0 ≤ iv3 a0 10 ∧ iv3 a0 10 ≤ 500 from W8.int t_a0 10) (show iv3 a0 10 = ivh2 a0 10 from by rw [pq3]; exact up2_j (by decide)) (show ivh2 a0 10 = ivb1 a0 10 from fl2.i t_a0 rfl 10) (show 0 ≤ iv3 a0 11 ∧ iv3 a0 11 ≤ 500 from W8.int t_a0 11) (show iv3 a0 11 = ivh2 a0 11 from by rw [pq3]; exact up2_j (by decide)) (show ivh2 a0 11 = ivb1 a0 11 from fl2.i t_a0 rfl 11) (show (-2147483648) ≤ iv3 ob1 0 ∧ iv3 ob1 0 ≤ 2147483647 from W8.int tob1 0) (show iv3 ob1 0 = ivh2 ob1 0 from by rw [pq3]; exact up2_k (ne_ty tob1 t_a0 (by decide))) (show ivh2 ob1 0 = ivb1 ob1 0 from fl2.i tob1 rfl 0) (show ivb1 ob1 0 = iv ob1 0 from Fb1.i tob1 rfl 0) (fun ri23 ie31 ie32 ri24 ie33 ie34 ri25 ie35 ie36 ri26 ie37 ie38 ri27 ie39 ie40 ie41 => ?_)
              exact c_iret C dX6_setPart_123 rfl (by decide) (rom0 hph hph (by decide)) ⟨7, rfl, rfl, rfl, rfl, rfl, F7, W8, ⟨by decide, by decide⟩, ⟨by omega, SPI.unk sif2 (NPX.no fdf2 rq1 (by omega) ⟨by omega, by omega⟩ (CPX.no hCP)) (by omega) (by decide)⟩⟩
            · subst oq3
              have tob3 := ty_cp ob3 rfl
              refine c_lv (lv2 := [(8, .null), (7, (va_rf f1)), (6, .int (iI (ivb1 rb1 aq.toNat))), (4, .ref ob3), (5, .int (iI aq)), (0, .ref a0), (1, .ref ob1), (2, .int (iI i)), (3, .int (iI n))]) [0, 1, 2, 3, 4, 5, 6, 7, 8] rfl ?_
              refine c_st (st2 := []) rfl ?_
              refine c_iload (j := 2) C dX6_setPart_84 rfl ?_
              refine c_callSN0 (As := [.int (iI (ivb1 rb1 aq.toNat))]) (rest := []) C (fun L E => s11_isGreat (iI (ivb1 rb1 aq.toNat))) dX6_setPart_86 kSN_X6_98 rfl rfl (Nat.le_of_ble_eq_true rfl) ⟨(Nat.le_of_ble_eq_true rfl), (Nat.le_of_ble_eq_true rfl)⟩ (rom0 hph hph (by decide)) ?_
              rcases inn_c (x := ivb1 rb1 aq.toNat) (lo := 65) (hi := 90) (r32_c (lo := (-2147483648)) (hi := 2147483647) ri5.1 ri5.2 (by decide) (by decide)) ⟨by decide, by decide⟩ ⟨by decide, by decide⟩ with ⟨hs1a, hs1b, hs1e⟩ | ⟨hs1a, hs1e⟩
              · refine c_st (st2 := [.int (iI 1)]) (by rw [show inn (iI (ivb1 rb1 aq.toNat)) 65 90 = iI 1 from hs1e]) ?_
                refine c_if_eq (tgt := 110) C ⟨by decide, by decide⟩ dX6_setPart_89 (by decide) (fun z => absurd z (by omega)) (fun _ => ?_)
                refine c_aload (j := 3) (x := ob3) C dX6_setPart_92 rfl ?_
                refine c_astore (lv2 := [(7, .ref ob3), (8, .null), (6, .int (iI (ivb1 rb1 aq.toNat))), (4, .ref ob3), (5, .int (iI aq)), (0, .ref a0), (1, .ref ob1), (2, .int (iI i)), (3, .int (iI n))]) C dX6_setPart_94 (by decide) rfl ?_
                refine c_aload_n (j := 5) (x := a0) C dX6_setPart_96 rfl ?_
                refine c_aload_n (j := 6) (x := ob1) C dX6_setPart_97 rfl ?_
                refine c_iload (j := 4) C dX6_setPart_98 rfl ?_
                refine c_iload (j := 2) C dX6_setPart_100 rfl ?_
                refine c_bipush (z := 32) C dX6_setPart_102 (by decide) ?_
                refine c_iadd C dX6_setPart_104 ?_
                refine hv8 (show 0 ≤ ivh2 a0 4 ∧ ivh2 a0 4 ≤ 500 from W4.int t_a0 4) (show ivh2 a0 4 = ivb1 a0 4 from fl2.i t_a0 rfl 4) (show 0 ≤ ivh2 a0 7 ∧ ivh2 a0 7 ≤ 100000 from W4.int t_a0 7) (show ivh2 a0 7 = ivb1 a0 7 from fl2.i t_a0 rfl 7) (show 0 ≤ ivh2 a0 10 ∧ ivh2 a0 10 ≤ 500 from W4.int t_a0 10) (show ivh2 a0 10 = ivb1 a0 10 from fl2.i t_a0 rfl 10) (show 0 ≤ ivh2 a0 11 ∧ ivh2 a0 11 ≤ 500 from W4.int t_a0 11) (show ivh2 a0 11 = ivb1 a0 11 from fl2.i t_a0 rfl 11) (fun ri28 ie42 ri29 ie43 ri30 ie44 ri31 ie45 => ?_)
                refine d_callV (As := [.ref ob1, .int (iI aq), .int (iI ((ivb1 rb1 aq.toNat) + 32))]) (rest := []) C hM (G_find (a0 := a0) (a1 := ob1) (i := aq) (x := (ivb1 rb1 aq.toNat) + 32) W4 hS t_a0 tob1 (by omega) (by omega) (by show 0 ≤ aq ∧ aq ≤ 500; omega)) dX6_setPart_105 kV_X6_94 rfl t_a0 rfl rfl (by decide) ck_7 rfl (Nat.le_of_ble_eq_true rfl) ⟨(Nat.le_of_ble_eq_true rfl), (Nat.le_of_ble_eq_true rfl)⟩ hph hph (show 0 + 0 = 0 from rfl) (by decide) (fun rh6 Lh6 clh6 lnh6 ivh6 rvh6 h6 => ?_)
                obtain ⟨f6, rfl, rfl, rfl, rfl, rfl, fl6, W9, rgf6, exf6⟩ := h6
                have F8 := F3.call hX0 fl6 rfl
                refine c_st (st2 := [(va_rf f6)]) rfl ?_
                refine hv2 (show FDX sk ln ivh2 rv a0 ob1 aq ((ivb1 rb1 aq.toNat) + 32) f6 from exf6) (sif2.ni W4 fl6 t_a0 rfl rfl rfl) (fun gf6 sif6 => ?_)
                have fdf6 : FD0 sk ln iv rv a0 ob1 i n aq ((ivb1 rb1 aq.toNat) + 32) f6 := FDX.mv gf6 hW hS W4 F3 t_a0 rgf6 (by omega) (by omega) ⟨by omega, by omega⟩
                refine c_astorer (r := f6) (lv2 := [(8, (va_rf f6)), (7, .ref ob3), (6, .int (iI (ivb1 rb1 aq.toNat))), (4, .ref ob3), (5, .int (iI aq)), (0, .ref a0), (1, .ref ob1), (2, .int (iI i)), (3, .int (iI n))]) C dX6_setPart_108 (by decide) rfl ?_
                refine c_aloadr (j := 0) (r := f6) C dX6_setPart_110 rfl ?_
                refine c_ifnonnull (r := f6) (tgt := 124) C dX6_setPart_112 (by decide) (fun ob4 oq4 => ?_) (fun oq4 => ?_)
                · subst oq4
                  have tob4 := rgf6 ob4 rfl
                  refine c_lv (lv2 := [(8, .ref ob4), (7, .ref ob3), (6, .int (iI (ivb1 rb1 aq.toNat))), (4, .ref ob3), (5, .int (iI aq)), (0, .ref a0), (1, .ref ob1), (2, .int (iI i)), (3, .int (iI n))]) [0, 1, 2, 3, 4, 5, 6, 7, 8] rfl ?_
                  refine c_st (st2 := []) rfl ?_
                  refine c_aload_n (j := 5) (x := a0) C dX6_setPart_124 rfl ?_
                  refine c_iload (j := 4) C dX6_setPart_125 rfl ?_
                  refine c_aload (j := 0) (x := ob4) C dX6_setPart_127 rfl ?_
                  obtain ⟨rb3, rq3, trb3⟩ := W9.ref tob4 1 rfl rfl rfl
                  have lnrb3 : 0 ≤ ln rb3 ∧ ln rb3 ≤ 8 := W9.len trb3 rfl
                  refine c_getr (k := 1) C ck_6 dX6_setPart_129 w3_141 (by decide) tob4 rfl rfl (by decide) rfl rq3 ?_
                  refine c_st (st2 := [.ref rb3, .int (iI aq), .ref a0]) rfl ?_
                  have ll3 : 0 ≤ ln rb3 ∧ ln rb3 ≤ 8 := W9.len trb3 rfl
                  refine c_alenI C dX6_setPart_132 trb3 rfl ?_
                  refine d_callV (As := [.int (iI aq), .int (iI ((ln rb3 : Nat) : Int))]) (rest := []) C hM (G_markStart (a0 := a0) (i := aq) (n := ((ln rb3 : Nat) : Int)) W9 hS t_a0 (by omega) (by omega) (by show 0 ≤ aq ∧ aq ≤ 500 ∧ 0 ≤ ((ln rb3 : Nat) : Int) ∧ ((ln rb3 : Nat) : Int) ≤ 8; omega)) dX6_setPart_133 kV_X6_105 rfl t_a0 rfl rfl (by decide) ck_7 rfl (Nat.le_of_ble_eq_true rfl) ⟨(Nat.le_of_ble_eq_true rfl), (Nat.le_of_ble_eq_true rfl)⟩ hph hph (show 0 + 0 = 0 from rfl) (by decide) (fun rh7 Lh7 clh7 lnh7 ivh7 rvh7 h7 => ?_)
                  obtain ⟨rfl, rfl, rfl, rfl, rfl, fl7, W10, exf7⟩ := h7
                  have F9 := F8.call hX0 fl7 rfl
                  refine c_st (st2 := []) rfl ?_
                  have gf7 : MSX ivh6 rv ivh7 a0 aq ((ln rb3 : Nat) : Int) := exf7
                  have sif7 := SPI.mark sif6 W9 fl7 t_a0 rfl rfl ⟨by omega, by omega⟩ gf7
                  refine c_aload_n (j := 5) (x := a0) C dX6_setPart_136 rfl ?_
                  refine c_aload (j := 1) (x := ob3) C dX6_setPart_137 rfl ?_
                  refine hv12 (show 0 ≤ ivh7 a0 7 ∧ ivh7 a0 7 ≤ 100000 from W10.int t_a0 7) (show ivh7 a0 7 = ivh6 a0 7 from fl7.i t_a0 rfl 7) (show ivh6 a0 7 = ivh2 a0 7 from fl6.i t_a0 rfl 7) (show 0 ≤ ivh7 a0 4 ∧ ivh7 a0 4 ≤ 500 from W10.int t_a0 4) (show ivh7 a0 4 = ivh6 a0 4 from fl7.i t_a0 rfl 4) (show ivh6 a0 4 = ivh2 a0 4 from fl6.i t_a0 rfl 4) (show 0 ≤ ivh7 a0 10 ∧ ivh7 a0 10 ≤ 500 from W10.int t_a0 10) (show ivh7 a0 10 = ivh6 a0 10 from fl7.i t_a0 rfl 10) (show ivh6 a0 10 = ivh2 a0 10 from fl6.i t_a0 rfl 10) (show 0 ≤ ivh7 a0 11 ∧ ivh7 a0 11 ≤ 500 from W10.int t_a0 11) (show ivh7 a0 11 = ivh6 a0 11 from fl7.i t_a0 rfl 11) (show ivh6 a0 11 = ivh2 a0 11 from fl6.i t_a0 rfl 11) (fun ri32 ie46 ie47 ri33 ie48 ie49 ri34 ie50 ie51 ri35 ie52 ie53 => ?_)
                  refine d_callV (As := [.ref ob3]) (rest := []) C hM (G_push (a0 := a0) (r := (some ob3)) W10 hS t_a0 (fun _ q => by cases q; exact tob3)  (by show ivh7 a0 7 ≤ 90000; omega)) dX6_setPart_139 kV_X6_86 rfl t_a0 rfl rfl (by decide) ck_7 rfl (Nat.le_of_ble_eq_true rfl) ⟨(Nat.le_of_ble_eq_true rfl), (Nat.le_of_ble_eq_true rfl)⟩ hph hph (show 0 + 0 = 0 from rfl) (by decide) (fun rh8 Lh8 clh8 lnh8 ivh8 rvh8 h8 => ?_)
                  obtain ⟨rfl, rfl, rfl, rfl, rfl, fl8, W11, exf8⟩ := h8
                  have F10 := F9.call hX0 fl8 rfl
                  refine c_st (st2 := []) rfl ?_
                  refine hv5 (show 0 ≤ ivh8 a0 4 ∧ ivh8 a0 4 ≤ 500 from W11.int t_a0 4) (show 0 ≤ ivh8 a0 7 ∧ ivh8 a0 7 ≤ 100000 from W11.int t_a0 7) (show 0 ≤ ivh8 a0 10 ∧ ivh8 a0 10 ≤ 500 from W11.int t_a0 10) (show 0 ≤ ivh8 a0 11 ∧ ivh8 a0 11 ≤ 500 from W11.int t_a0 11) (show (ivh8 a0 4 = ivh7 a0 4 ∧ ivh7 a0 7 ≤ ivh8 a0 7 ∧ ivh8 a0 7 ≤ ivh7 a0 7 + 4 ∧ ivh8 a0 10 = ivh7 a0 10 ∧ ivh8 a0 11 = ivh7 a0 11) ∧ PUX ln ivh7 rv ivh8 a0 (some ob3) from exf8) (fun ri36 ri37 ri38 ri39 gf8 => ?_)
                  refine c_aload_n (j := 5) (x := a0) C dX6_setPart_142 rfl ?_
                  refine c_aload (j := 0) (x := ob4) C dX6_setPart_143 rfl ?_
                  refine d_callV (As := [.ref ob4]) (rest := []) C hM (G_push (a0 := a0) (r := (some ob4)) W11 hS t_a0 (fun _ q => by cases q; exact tob4)  (by show ivh8 a0 7 ≤ 90000; omega)) dX6_setPart_145 kV_X6_86 rfl t_a0 rfl rfl (by decide) ck_7 rfl (Nat.le_of_ble_eq_true rfl) ⟨(Nat.le_of_ble_eq_true rfl), (Nat.le_of_ble_eq_true rfl)⟩ hph hph (show 0 + 0 = 0 from rfl) (by decide) (fun rh9 Lh9 clh9 lnh9 ivh9 rvh9 h9 => ?_)
                  obtain ⟨rfl, rfl, rfl, rfl, rfl, fl9, W12, exf9⟩ := h9
                  have F11 := F10.call hX0 fl9 rfl
                  refine c_st (st2 := []) rfl ?_
                  refine hv12 (show 0 ≤ ivh9 a0 4 ∧ ivh9 a0 4 ≤ 500 from W12.int t_a0 4) (show 0 ≤ ivh9 a0 7 ∧ ivh9 a0 7 ≤ 100000 from W12.int t_a0 7) (show 0 ≤ ivh9 a0 10 ∧ ivh9 a0 10 ≤ 500 from W12.int t_a0 10) (show 0 ≤ ivh9 a0 11 ∧ ivh9 a0 11 ≤ 500 from W12.int t_a0 11) (show (ivh9 a0 4 = ivh8 a0 4 ∧ ivh8 a0 7 ≤ ivh9 a0 7 ∧ ivh9 a0 7 ≤ ivh8 a0 7 + 4 ∧ ivh9 a0 10 = ivh8 a0 10 ∧ ivh9 a0 11 = ivh8 a0 11) ∧ PUX ln ivh8 rv ivh9 a0 (some ob4) from exf9) (show (-2147483648) ≤ ivh9 ob1 0 ∧ ivh9 ob1 0 ≤ 2147483647 from W12.int tob1 0) (show ivh9 ob1 0 = ivh8 ob1 0 from fl9.i tob1 rfl 0) (show ivh8 ob1 0 = ivh7 ob1 0 from fl8.i tob1 rfl 0) (show ivh7 ob1 0 = ivh6 ob1 0 from fl7.i tob1 rfl 0) (show ivh6 ob1 0 = ivh2 ob1 0 from fl6.i tob1 rfl 0) (show ivh2 ob1 0 = ivb1 ob1 0 from fl2.i tob1 rfl 0) (show ivb1 ob1 0 = iv ob1 0 from Fb1.i tob1 rfl 0) (fun ri40 ri41 ri42 ri43 gf9 ri44 ie62 ie63 ie64 ie65 ie66 ie67 => ?_)
                  have s2f9 : SP2 sk ln iv rv ivh9 a0 ob1 i n aq ob4 := SPM.two sif7 rq3 rfl W10 W11 t_a0 fl8 fl9 rfl rfl hW F9 F10 (fun _ q => by cases q; exact tob3) tob4 (PCX.cap2 fdf2 fdf6 rq1 (by omega) rfl (by unfold isG; omega) hCP ⟨by omega, by omega⟩) gf8.2 gf9.2
                  refine c_aload_n (j := 5) (x := a0) C dX6_setPart_148 rfl ?_
                  refine c_get (k := 7) C ck_7 dX6_setPart_149 w1_147 (by decide) t_a0 rfl rfl (by decide) rfl ?_
                  refine c_sipush (z := 200) C dX6_setPart_152 (by decide) ?_
                  refine c_icmp_le (tgt := 161) C (r32_c (lo := 0) (hi := 100000) ri41.1 ri41.2 (by decide) (by decide)) ⟨by decide, by decide⟩ dX6_setPart_155 (by decide) (fun c3 => ?_) (fun c3 => ?_)
                  · refine c_iload (j := 4) C dX6_setPart_161 rfl ?_
                    refine c_iconst C dX6_setPart_163 ?_
                    refine c_aload (j := 0) (x := ob4) C dX6_setPart_164 rfl ?_
                    refine c_getr (k := 1) C ck_6 dX6_setPart_166 w3_141 (by decide) tob4 rfl rfl (by decide) rfl rq3 ?_
                    refine c_st (st2 := [.ref rb3, .int (iI 1), .int (iI aq)]) rfl ?_
                    refine c_alenI C dX6_setPart_169 trb3 rfl ?_
                    obtain ⟨mn2, hmn2, emn2⟩ := mmax_c (x := 1) (y := ((ln rb3 : Nat) : Int)) ⟨by decide, by decide⟩ ⟨by omega, by omega⟩
                    refine c_mmax (w := iI mn2) C dX6_setPart_170 w4_130 w2_148 w1_14 w2_149 (by decide) (rom0 hph hph (by decide)) (Nat.le_of_ble_eq_true rfl) emn2 ?_
                    refine c_iadd C dX6_setPart_173 ?_
                    refine c_istore (lv2 := [(5, .int (iI (aq + mn2))), (8, .ref ob4), (7, .ref ob3), (6, .int (iI (ivb1 rb1 aq.toNat))), (4, .ref ob3), (0, .ref a0), (1, .ref ob1), (2, .int (iI i)), (3, .int (iI n))]) C dX6_setPart_174 (by decide) rfl ?_
                    refine c_goto (tgt := 39) C dX6_setPart_176 (by decide) ?_
                    refine c_lv (lv2 := [(4, .ref ob3), (5, .int (iI (aq + mn2))), (0, .ref a0), (1, .ref ob1), (2, .int (iI i)), (3, .int (iI n))]) [4, 0, 5, 6, 7, 8] rfl ?_
                    exact ih1  (some ob3) (aq + mn2) _ (by omega) W12 F11 (fun _ q => by cases q; exact tob3) (by omega) (by show ivh9 a0 7 ≤ iv a0 7 ∨ ivh9 a0 7 ≤ 200; omega) (by show ivh9 a0 4 = iv a0 4; omega) (by show ivh9 a0 10 = i ∧ ivh9 a0 11 = n; omega) (s2f9.next (by omega) (by omega) rq3 (by omega)) hCP
                  · refine c_bipush (z := 6) C dX6_setPart_158 (by decide) ?_
                    exact c_iret C dX6_setPart_160 rfl (by decide) (rom0 hph hph (by decide)) ⟨6, rfl, rfl, rfl, rfl, rfl, F11, W12, ⟨by decide, by decide⟩, ⟨by omega, s2f9.many (by omega) (by omega) (by decide)⟩⟩
                · subst oq4
                  refine c_lv (lv2 := [(8, .null), (7, .ref ob3), (6, .int (iI (ivb1 rb1 aq.toNat))), (4, .ref ob3), (5, .int (iI aq)), (0, .ref a0), (1, .ref ob1), (2, .int (iI i)), (3, .int (iI n))]) [0, 1, 2, 3, 4, 5, 6, 7, 8] rfl ?_
                  refine c_st (st2 := []) rfl ?_
                  refine c_aload_n (j := 5) (x := a0) C dX6_setPart_115 rfl ?_
                  refine c_iload (j := 4) C dX6_setPart_116 rfl ?_
                  refine c_put (z := aq) (k := 9) C ck_7 dX6_setPart_118 w1_151 (by decide) rfl t_a0 rfl rfl (by decide) rfl (by rfl) (by rfl) (fun iv4 pq4 => ?_)
                  refine hv2 (W9.puti pq4 t_a0 (show (-2147483648) ≤ aq ∧ aq ≤ 2147483647 by omega) rfl) (F8.puti hX0 pq4 t_a0 rfl) (fun W13 F12 => ?_)
                  refine c_bipush (z := 7) C dX6_setPart_121 (by decide) ?_
                  refine hv17 (show 0 ≤ iv4 a0 4 ∧ iv4 a0 4 ≤ 500 from W13.int t_a0 4) (show iv4 a0 4 = ivh6 a0 4 from by rw [pq4]; exact up2_j (by decide)) (show ivh6 a0 4 = ivh2 a0 4 from fl6.i t_a0 rfl 4) (show 0 ≤ iv4 a0 7 ∧ iv4 a0 7 ≤ 100000 from W13.int t_a0 7) (show iv4 a0 7 = ivh6 a0 7 from by rw [pq4]; exact up2_j (by decide)) (show ivh6 a0 7 = ivh2 a0 7 from fl6.i t_a0 rfl 7) (show 0 ≤ iv4 a0 10 ∧ iv4 a0 10 ≤ 500 from W13.int t_a0 10) (show iv4 a0 10 = ivh6 a0 10 from by rw [pq4]; exact up2_j (by decide)) (show ivh6 a0 10 = ivh2 a0 10 from fl6.i t_a0 rfl 10) (show 0 ≤ iv4 a0 11 ∧ iv4 a0 11 ≤ 500 from W13.int t_a0 11) (show iv4 a0 11 = ivh6 a0 11 from by rw [pq4]; exact up2_j (by decide)) (show ivh6 a0 11 = ivh2 a0 11 from fl6.i t_a0 rfl 11) (show (-2147483648) ≤ iv4 ob1 0 ∧ iv4 ob1 0 ≤ 2147483647 from W13.int tob1 0) (show iv4 ob1 0 = ivh6 ob1 0 from by rw [pq4]; exact up2_k (ne_ty tob1 t_a0 (by decide))) (show ivh6 ob1 0 = ivh2 ob1 0 from fl6.i tob1 rfl 0) (show ivh2 ob1 0 = ivb1 ob1 0 from fl2.i tob1 rfl 0) (show ivb1 ob1 0 = iv ob1 0 from Fb1.i tob1 rfl 0) (fun ri45 ie68 ie69 ri46 ie70 ie71 ri47 ie72 ie73 ri48 ie74 ie75 ri49 ie76 ie77 ie78 ie79 => ?_)
                  exact c_iret C dX6_setPart_123 rfl (by decide) (rom0 hph hph (by decide)) ⟨7, rfl, rfl, rfl, rfl, rfl, F12, W13, ⟨by decide, by decide⟩, ⟨by omega, SPI.unk sif6 (NPX.cap fdf2 fdf6 rq1 (by omega) rfl ⟨by omega, by omega⟩) (by omega) (by decide)⟩⟩
              · refine c_st (st2 := [.int (iI 0)]) (by rw [show inn (iI (ivb1 rb1 aq.toNat)) 65 90 = iI 0 from hs1e]) ?_
                refine c_if_eq (tgt := 110) C ⟨by decide, by decide⟩ dX6_setPart_89 (by decide) (fun _ => ?_) (fun z => absurd z (by omega))
                refine c_aloadr (j := 0) (r := none) C dX6_setPart_110 rfl ?_
                refine c_st (st2 := [.null]) rfl ?_
                refine c_ifnonnull (r := none) (tgt := 124) C dX6_setPart_112 (by decide) (fun _ q => by cases q) (fun _ => ?_)
                refine c_aload_n (j := 5) (x := a0) C dX6_setPart_115 rfl ?_
                refine c_iload (j := 4) C dX6_setPart_116 rfl ?_
                refine c_put (z := aq) (k := 9) C ck_7 dX6_setPart_118 w1_151 (by decide) rfl t_a0 rfl rfl (by decide) rfl (by rfl) (by rfl) (fun iv5 pq5 => ?_)
                refine hv2 (W4.puti pq5 t_a0 (show (-2147483648) ≤ aq ∧ aq ≤ 2147483647 by omega) rfl) (F3.puti hX0 pq5 t_a0 rfl) (fun W14 F13 => ?_)
                refine c_bipush (z := 7) C dX6_setPart_121 (by decide) ?_
                refine hv16 (show 0 ≤ iv5 a0 4 ∧ iv5 a0 4 ≤ 500 from W14.int t_a0 4) (show iv5 a0 4 = ivh2 a0 4 from by rw [pq5]; exact up2_j (by decide)) (show ivh2 a0 4 = ivb1 a0 4 from fl2.i t_a0 rfl 4) (show 0 ≤ iv5 a0 7 ∧ iv5 a0 7 ≤ 100000 from W14.int t_a0 7) (show iv5 a0 7 = ivh2 a0 7 from by rw [pq5]; exact up2_j (by decide)) (show ivh2 a0 7 = ivb1 a0 7 from fl2.i t_a0 rfl 7) (show 0 ≤ iv5 a0 10 ∧ iv5 a0 10 ≤ 500 from W14.int t_a0 10) (show iv5 a0 10 = ivh2 a0 10 from by rw [pq5]; exact up2_j (by decide)) (show ivh2 a0 10 = ivb1 a0 10 from fl2.i t_a0 rfl 10) (show 0 ≤ iv5 a0 11 ∧ iv5 a0 11 ≤ 500 from W14.int t_a0 11) (show iv5 a0 11 = ivh2 a0 11 from by rw [pq5]; exact up2_j (by decide)) (show ivh2 a0 11 = ivb1 a0 11 from fl2.i t_a0 rfl 11) (show (-2147483648) ≤ iv5 ob1 0 ∧ iv5 ob1 0 ≤ 2147483647 from W14.int tob1 0) (show iv5 ob1 0 = ivh2 ob1 0 from by rw [pq5]; exact up2_k (ne_ty tob1 t_a0 (by decide))) (show ivh2 ob1 0 = ivb1 ob1 0 from fl2.i tob1 rfl 0) (show ivb1 ob1 0 = iv ob1 0 from Fb1.i tob1 rfl 0) (fun ri50 ie80 ie81 ri51 ie82 ie83 ri52 ie84 ie85 ri53 ie86 ie87 ri54 ie88 ie89 ie90 => ?_)
                exact c_iret C dX6_setPart_123 rfl (by decide) (rom0 hph hph (by decide)) ⟨7, rfl, rfl, rfl, rfl, rfl, F13, W14, ⟨by decide, by decide⟩, ⟨by omega, SPI.unk sif2 (NPX.no fdf2 rq1 (by omega) ⟨by omega, by omega⟩ (Or.inl (by unfold isG; omega))) (by omega) (by decide)⟩⟩
    refine c_aload_n (j := 1) (x := ob1) C dX6_setPart_16 rfl ?_
    refine hv3 (show (-2147483648) ≤ iv2 ob1 0 ∧ iv2 ob1 0 ≤ 2147483647 from W2.int tob1 0) (show iv2 ob1 0 = iv1 ob1 0 from by rw [pq2]; exact up2_k (ne_ty tob1 t_a0 (by decide))) (show iv1 ob1 0 = iv ob1 0 from by rw [pq1]; exact up2_k (ne_ty tob1 t_a0 (by decide))) (fun ri55 ie91 ie92 => ?_)
    refine c_get (k := 0) C ck_10 dX6_setPart_17 w2_177 (by decide) tob1 rfl rfl (by decide) rfl ?_
    refine c_iconst C dX6_setPart_20 ?_
    refine c_icmp_gt (tgt := 33) C (r32_c (lo := (-2147483648)) (hi := 2147483647) ri55.1 ri55.2 (by decide) (by decide)) ⟨by decide, by decide⟩ dX6_setPart_21 (by decide) (fun c4 => ?_) (fun c4 => ?_)
    · refine c_null C dX6_setPart_33 ?_
      refine c_astorer (r := none) (lv2 := [(4, .null), (0, .ref a0), (1, .ref ob1), (2, .int (iI i)), (3, .int (iI n))]) C dX6_setPart_34 (by decide) rfl ?_
      refine c_iload_n (j := 3) C dX6_setPart_36 rfl ?_
      refine c_istore (lv2 := [(5, .int (iI i)), (4, .null), (0, .ref a0), (1, .ref ob1), (2, .int (iI i)), (3, .int (iI n))]) C dX6_setPart_37 (by decide) rfl ?_
      refine hv11 (show 0 ≤ iv2 a0 7 ∧ iv2 a0 7 ≤ 100000 from W2.int t_a0 7) (show iv2 a0 7 = iv1 a0 7 from by rw [pq2]; exact up2_j (by decide)) (show iv1 a0 7 = iv a0 7 from by rw [pq1]; exact up2_j (by decide)) (show 0 ≤ iv2 a0 4 ∧ iv2 a0 4 ≤ 500 from W2.int t_a0 4) (show iv2 a0 4 = iv1 a0 4 from by rw [pq2]; exact up2_j (by decide)) (show iv1 a0 4 = iv a0 4 from by rw [pq1]; exact up2_j (by decide)) (show 0 ≤ iv2 a0 10 ∧ iv2 a0 10 ≤ 500 from W2.int t_a0 10) (show iv2 a0 10 = iv1 a0 10 from by rw [pq2]; exact up2_j (by decide)) (show iv1 a0 10 = i from by rw [pq1]; exact up2_s) (show 0 ≤ iv2 a0 11 ∧ iv2 a0 11 ≤ 500 from W2.int t_a0 11) (show iv2 a0 11 = n from by rw [pq2]; exact up2_s) (fun ri56 ie93 ie94 ri57 ie95 ie96 ri58 ie97 ie98 ri59 ie99 => ?_)
      refine c_lv (lv2 := [(4, .null), (5, .int (iI i)), (0, .ref a0), (1, .ref ob1), (2, .int (iI i)), (3, .int (iI n))]) [1, 0, 2, 3, 4, 5] rfl ?_
      exact Lp1 511 none i _ (by omega) W2 F2 (fun _ q => by cases q) (by omega) (by show iv2 a0 7 ≤ iv a0 7 ∨ iv2 a0 7 ≤ 200; omega) (ie95.trans ie96) ⟨(ie97.trans ie98), ie99⟩ (SPI.init pq1 pq2 (s6ne hW t_a0)) (Or.inl ⟨by omega, rfl⟩)
    · refine c_aload_n (j := 1) (x := ob1) C dX6_setPart_24 rfl ?_
      obtain ⟨rb4, rq4, trb4⟩ := W2.ref tob1 6 rfl rfl rfl
      have lnrb4 : 4 ≤ ln rb4 ∧ ln rb4 ≤ 4 := W2.len trb4 rfl
      refine c_getr (k := 6) C ck_10 dX6_setPart_25 w2_195 (by decide) tob1 rfl rfl (by decide) rfl rq4 ?_
      refine c_st (st2 := [.ref rb4]) rfl ?_
      refine c_iconst C dX6_setPart_28 ?_
      have ll4 : 4 ≤ ln rb4 ∧ ln rb4 ≤ 4 := W2.len trb4 rfl
      obtain ⟨nb1, nq1, tnb1⟩ := opt_n (W2.opt trb4 ((0 : Int).toNat) rfl rfl)
      have tnb1 : ∀ b, nb1 = some b → ty L cl b 20 := tnb1
      refine c_aaldR C dX6_setPart_29 trb4 rfl (by omega) (by omega) (by omega) nq1 ?_
      refine c_st (st2 := [(va_rf nb1)]) rfl ?_
      refine c_goto (tgt := 34) C dX6_setPart_30 (by decide) ?_
      refine c_astorer (r := nb1) (lv2 := [(4, (va_rf nb1)), (0, .ref a0), (1, .ref ob1), (2, .int (iI i)), (3, .int (iI n))]) C dX6_setPart_34 (by decide) rfl ?_
      refine c_iload_n (j := 3) C dX6_setPart_36 rfl ?_
      refine c_istore (lv2 := [(5, .int (iI i)), (4, (va_rf nb1)), (0, .ref a0), (1, .ref ob1), (2, .int (iI i)), (3, .int (iI n))]) C dX6_setPart_37 (by decide) (by cases nb1 <;> rfl) ?_
      refine hv11 (show 0 ≤ iv2 a0 7 ∧ iv2 a0 7 ≤ 100000 from W2.int t_a0 7) (show iv2 a0 7 = iv1 a0 7 from by rw [pq2]; exact up2_j (by decide)) (show iv1 a0 7 = iv a0 7 from by rw [pq1]; exact up2_j (by decide)) (show 0 ≤ iv2 a0 4 ∧ iv2 a0 4 ≤ 500 from W2.int t_a0 4) (show iv2 a0 4 = iv1 a0 4 from by rw [pq2]; exact up2_j (by decide)) (show iv1 a0 4 = iv a0 4 from by rw [pq1]; exact up2_j (by decide)) (show 0 ≤ iv2 a0 10 ∧ iv2 a0 10 ≤ 500 from W2.int t_a0 10) (show iv2 a0 10 = iv1 a0 10 from by rw [pq2]; exact up2_j (by decide)) (show iv1 a0 10 = i from by rw [pq1]; exact up2_s) (show 0 ≤ iv2 a0 11 ∧ iv2 a0 11 ≤ 500 from W2.int t_a0 11) (show iv2 a0 11 = n from by rw [pq2]; exact up2_s) (fun ri60 ie100 ie101 ri61 ie102 ie103 ri62 ie104 ie105 ri63 ie106 => ?_)
      refine c_lv (lv2 := [(4, (va_rf nb1)), (5, .int (iI i)), (0, .ref a0), (1, .ref ob1), (2, .int (iI i)), (3, .int (iI n))]) [1, 0, 2, 3, 4, 5] rfl ?_
      exact Lp1 511 nb1 i _ (by omega) W2 F2 tnb1 (by omega) (by show iv2 a0 7 ≤ iv a0 7 ∨ iv2 a0 7 ≤ 200; omega) (ie102.trans ie103) ⟨(ie104.trans ie105), ie106⟩ (SPI.init pq1 pq2 (s6ne hW t_a0)) (Or.inr ⟨by omega, _, rq4, nq1⟩)
  · subst oq1
    refine c_lv (lv2 := [(0, .ref a0), (1, .null), (2, .int (iI i)), (3, .int (iI n))]) [0, 1, 2, 3] rfl ?_
    refine c_st (st2 := []) rfl ?_
    refine c_iconst C dX6_setPart_4 ?_
    refine hv4 (show 0 ≤ iv a0 4 ∧ iv a0 4 ≤ 500 from hW.int t_a0 4) (show 0 ≤ iv a0 7 ∧ iv a0 7 ≤ 100000 from hW.int t_a0 7) (show 0 ≤ iv a0 10 ∧ iv a0 10 ≤ 500 from hW.int t_a0 10) (show 0 ≤ iv a0 11 ∧ iv a0 11 ≤ 500 from hW.int t_a0 11) (fun ri64 ri65 ri66 ri67 => ?_)
    exact c_iret C dX6_setPart_5 rfl (by decide) (rom0 hph hph (by decide)) ⟨0, rfl, rfl, rfl, rfl, rfl, hF0, hW, ⟨by decide, by decide⟩, ⟨by omega, SPX.no⟩⟩
set_option maxHeartbeats 4000000 in
set_option maxRecDepth 100000 in
theorem G_setBy {l : Launch} {G : GT} {mi : Nat} {sk : Nat → Nat} {L : List Nat} {cl ln : Nat → Nat} {iv : Nat → Nat → Int} {rv : Nat → Nat → Option Nat}  {a0 : Nat} {a1 : Nat} (hW : WT (g0 G) sk L cl ln iv rv) (hS : SKL sk L cl) (t_a0 : ty L cl a0 15) (t_a1 : ty L cl a1 100)  : Mc l G mi (Phi (g0 G) sk) PHM yX6_setBy cX6_setBy 9 (some .int) 6 [.ref a0, .ref a1] L cl ln iv rv 0 (fun v L2 cl2 ln2 iv2 rv2 => ∃ f : Int, v = some (.int (iI f)) ∧ L = L2 ∧ cl = cl2 ∧ ln = ln2 ∧ rv = rv2 ∧ fT [15, 53, 54, 55] L cl iv rv iv2 rv2 ∧ WT (g0 G) sk L2 cl2 ln2 iv2 rv2 ∧ (-2147483648 ≤ f ∧ f ≤ 2147483647) ∧ (((f = 0 ∨ f = 6 ∨ f = 7) ∧ iv2 a0 4 = iv a0 4 ∧ (f = 0 → iv2 a0 7 ≤ 200)) ∧ SBX sk ln iv rv iv2 a0 a1 f)) := by
  refine Mc.mk (by decide) (Nat.le_of_ble_eq_true rfl) ?_
  intro p e s m args below meth c A C hM
  refine hv4 (Phi.le hW hS) (show XT L cl ln L cl ln from XT.refl) (show fT [15, 53, 54, 55] L cl iv rv iv rv from fT.refl) (show 0 ≤ iv a0 4 ∧ iv a0 4 ≤ 500 from hW.int t_a0 4) (fun hph hX0 hF0 ri1 => ?_)
  refine c_aload_n (j := 0) (x := a0) C dX6_setBy_0 rfl ?_
  refine c_iconst C dX6_setBy_1 ?_
  refine c_put (z := 0) (k := 7) C ck_7 dX6_setBy_2 w1_147 (by decide) rfl t_a0 rfl rfl (by decide) rfl (by rfl) (by rfl) (fun iv1 pq1 => ?_)
  refine hv2 (hW.puti pq1 t_a0 ⟨by decide, by decide⟩ rfl) (hF0.puti hX0 pq1 t_a0 rfl) (fun W1 F1 => ?_)
  refine c_aload_n (j := 1) (x := a1) C dX6_setBy_5 rfl ?_
  refine hv2 (show (-2147483648) ≤ iv1 a1 0 ∧ iv1 a1 0 ≤ 2147483647 from W1.int t_a1 0) (show iv1 a1 0 = iv a1 0 from by rw [pq1]; exact up2_k (ne_ty t_a1 t_a0 (by decide))) (fun ri2 ie1 => ?_)
  refine c_get (k := 0) C ck_10 dX6_setBy_6 w2_177 (by decide) t_a1 rfl rfl (by decide) rfl ?_
  refine c_iconst C dX6_setBy_9 ?_
  refine c_icmp_ne (tgt := 17) C (r32_c (lo := (-2147483648)) (hi := 2147483647) ri2.1 ri2.2 (by decide) (by decide)) ⟨by decide, by decide⟩ dX6_setBy_10 (by decide) (fun c1 => ?_) (fun c1 => ?_)
  · refine c_iconst C dX6_setBy_17 ?_
    refine c_istore_n (lv2 := [(2, .int (iI 0)), (0, .ref a0), (1, .ref a1)]) C dX6_setBy_18 (by decide) rfl ?_
    refine c_iconst C dX6_setBy_19 ?_
    refine c_istore_n (lv2 := [(3, .int (iI 0)), (2, .int (iI 0)), (0, .ref a0), (1, .ref a1)]) C dX6_setBy_20 (by decide) rfl ?_
    refine c_iconst C dX6_setBy_21 ?_
    refine c_istore (lv2 := [(4, .int (iI 0)), (3, .int (iI 0)), (2, .int (iI 0)), (0, .ref a0), (1, .ref a1)]) C dX6_setBy_22 (by decide) rfl ?_
    refine c_iconst C dX6_setBy_24 ?_
    refine c_istore (lv2 := [(5, .int (iI 0)), (4, .int (iI 0)), (3, .int (iI 0)), (2, .int (iI 0)), (0, .ref a0), (1, .ref a1)]) C dX6_setBy_25 (by decide) rfl ?_
    have Lp1 : ∀ (nn : Nat) (sc fr k : Int) (ivb1 : Nat → Nat → Int) , iv a0 4 + 2 - k < (nn : Int) → WT (g0 G) sk L cl ln ivb1 rv → fT [15, 53, 54, 55] L cl iv rv ivb1 rv → (sc = 0 ∨ sc = 1) → (0 ≤ fr ∧ fr ≤ k) → (0 ≤ k ∧ k ≤ iv a0 4 + 1) → (ivb1 a0 7 ≤ 200 + 4 * k) → (ivb1 a0 4 = iv a0 4) → (SBI sk ln iv rv ivb1 a0 a1 sc fr k) → cw p l e 6 ((PHM) + 0 - ((Phi (g0 G) sk) ln rv)) s m args below meth c G A 9 (MQ below (Qu G A (Qp G (Phi (g0 G) sk) ((Phi (g0 G) sk) ln rv) 0 (fun v L2 cl2 ln2 iv2 rv2 => ∃ f : Int, v = some (.int (iI f)) ∧ L = L2 ∧ cl = cl2 ∧ ln = ln2 ∧ rv = rv2 ∧ fT [15, 53, 54, 55] L cl iv rv iv2 rv2 ∧ WT (g0 G) sk L2 cl2 ln2 iv2 rv2 ∧ (-2147483648 ≤ f ∧ f ≤ 2147483647) ∧ (((f = 0 ∨ f = 6 ∨ f = 7) ∧ iv2 a0 4 = iv a0 4 ∧ (f = 0 → iv2 a0 7 ≤ 200)) ∧ SBX sk ln iv rv iv2 a0 a1 f)))) args s (((PHM) + 0 - ((Phi (g0 G) sk) ln rv)) / 16) ((PHM) + 0 - ((Phi (g0 G) sk) ln rv)) A) (Phi (g0 G) sk) ((Phi (g0 G) sk) ln rv) L cl ln ivb1 rv 0 27 [(3, .int (iI sc)), (4, .int (iI fr)), (5, .int (iI k)), (2, .int (iI 0)), (0, .ref a0), (1, .ref a1)] [] := by
      intro nn
      induction nn with
      | zero =>
        intro  sc fr k ivb1 hm Wb1 Fb1  hsc hfr hk hc7 hc4 hB
        exact absurd hm (by omega)
      | succ nn ih1 =>
        intro  sc fr k ivb1 hm Wb1 Fb1  hsc hfr hk hc7 hc4 hB
        refine c_iload (j := 2) C dX6_setBy_27 rfl ?_
        refine c_aload_n (j := 4) (x := a0) C dX6_setBy_29 rfl ?_
        have ri3 : 0 ≤ ivb1 a0 4 ∧ ivb1 a0 4 ≤ 500 := Wb1.int t_a0 4
        refine c_get (k := 4) C ck_7 dX6_setBy_30 w1_140 (by decide) t_a0 rfl rfl (by decide) rfl ?_
        refine c_icmp_gt (tgt := 193) C ⟨by omega, by omega⟩ (r32_c (lo := 0) (hi := 500) ri3.1 ri3.2 (by decide) (by decide)) dX6_setBy_33 (by decide) (fun c2 => ?_) (fun c2 => ?_)
        · refine c_aload_n (j := 4) (x := a0) C dX6_setBy_193 rfl ?_
          have ri4 : 0 ≤ ivb1 a0 7 ∧ ivb1 a0 7 ≤ 100000 := Wb1.int t_a0 7
          refine c_get (k := 7) C ck_7 dX6_setBy_194 w1_147 (by decide) t_a0 rfl rfl (by decide) rfl ?_
          refine c_sipush (z := 200) C dX6_setBy_197 (by decide) ?_
          refine c_icmp_le (tgt := 208) C (r32_c (lo := 0) (hi := 100000) ri4.1 ri4.2 (by decide) (by decide)) ⟨by decide, by decide⟩ dX6_setBy_200 (by decide) (fun c3 => ?_) (fun c3 => ?_)
          · refine c_iconst C dX6_setBy_208 ?_
            exact c_iret C dX6_setBy_209 rfl (by decide) (rom0 hph hph (by decide)) ⟨0, rfl, rfl, rfl, rfl, rfl, Fb1, Wb1, ⟨by decide, by decide⟩, ⟨by omega, hB.fin (by omega) (by omega)⟩⟩
          · refine c_bipush (z := 6) C dX6_setBy_203 (by decide) ?_
            refine c_goto (tgt := 209) C dX6_setBy_205 (by decide) ?_
            exact c_iret C dX6_setBy_209 rfl (by decide) (rom0 hph hph (by decide)) ⟨6, rfl, rfl, rfl, rfl, rfl, Fb1, Wb1, ⟨by decide, by decide⟩, ⟨by omega, hB.fin (by omega) (by omega)⟩⟩
        · have J1 : ∀ (fs : Option Nat) (tn : Int) (ivb2 : Nat → Nat → Int) , WT (g0 G) sk L cl ln ivb2 rv → fT [15, 53, 54, 55] L cl iv rv ivb2 rv → (∀ b, fs = some b → ty L cl b 100) → (tn = 0 ∨ tn = 1) → (k ≤ iv a0 4) → (tn = 1 → k < iv a0 4) → (ivb2 a0 7 ≤ 200 + 4 * k) → (ivb2 a0 4 = iv a0 4) → (TRN iv rv a0 a1 sc k tn fs) → (SBI sk ln iv rv ivb2 a0 a1 sc fr k) → cw p l e 6 ((PHM) + 0 - ((Phi (g0 G) sk) ln rv)) s m args below meth c G A 9 (MQ below (Qu G A (Qp G (Phi (g0 G) sk) ((Phi (g0 G) sk) ln rv) 0 (fun v L2 cl2 ln2 iv2 rv2 => ∃ f : Int, v = some (.int (iI f)) ∧ L = L2 ∧ cl = cl2 ∧ ln = ln2 ∧ rv = rv2 ∧ fT [15, 53, 54, 55] L cl iv rv iv2 rv2 ∧ WT (g0 G) sk L2 cl2 ln2 iv2 rv2 ∧ (-2147483648 ≤ f ∧ f ≤ 2147483647) ∧ (((f = 0 ∨ f = 6 ∨ f = 7) ∧ iv2 a0 4 = iv a0 4 ∧ (f = 0 → iv2 a0 7 ≤ 200)) ∧ SBX sk ln iv rv iv2 a0 a1 f)))) args s (((PHM) + 0 - ((Phi (g0 G) sk) ln rv)) / 16) ((PHM) + 0 - ((Phi (g0 G) sk) ln rv)) A) (Phi (g0 G) sk) ((Phi (g0 G) sk) ln rv) L cl ln ivb2 rv 0 108 [(6, .int (iI tn)), (7, (va_rf fs)), (3, .int (iI sc)), (4, .int (iI fr)), (5, .int (iI k)), (2, .int (iI 0)), (0, .ref a0), (1, .ref a1)] [] := by
            intro fs tn ivb2 Wb2 Fb2 ty_fs htn hki htk hd7 hd4 hTN hB2
            have J2 : ∀ (wy : Int) (ivb3 : Nat → Nat → Int) , WT (g0 G) sk L cl ln ivb3 rv → fT [15, 53, 54, 55] L cl iv rv ivb3 rv → (wy = 0 ∨ wy = 6 ∨ wy = 7) → (wy = 0 → ivb3 a0 7 ≤ 204 + 4 * k) → (ivb3 a0 4 = iv a0 4) → (SBN sk ln iv rv ivb3 a0 a1 sc k wy) → cw p l e 6 ((PHM) + 0 - ((Phi (g0 G) sk) ln rv)) s m args below meth c G A 9 (MQ below (Qu G A (Qp G (Phi (g0 G) sk) ((Phi (g0 G) sk) ln rv) 0 (fun v L2 cl2 ln2 iv2 rv2 => ∃ f : Int, v = some (.int (iI f)) ∧ L = L2 ∧ cl = cl2 ∧ ln = ln2 ∧ rv = rv2 ∧ fT [15, 53, 54, 55] L cl iv rv iv2 rv2 ∧ WT (g0 G) sk L2 cl2 ln2 iv2 rv2 ∧ (-2147483648 ≤ f ∧ f ≤ 2147483647) ∧ (((f = 0 ∨ f = 6 ∨ f = 7) ∧ iv2 a0 4 = iv a0 4 ∧ (f = 0 → iv2 a0 7 ≤ 200)) ∧ SBX sk ln iv rv iv2 a0 a1 f)))) args s (((PHM) + 0 - ((Phi (g0 G) sk) ln rv)) / 16) ((PHM) + 0 - ((Phi (g0 G) sk) ln rv)) A) (Phi (g0 G) sk) ((Phi (g0 G) sk) ln rv) L cl ln ivb3 rv 0 163 [(8, .int (iI wy)), (6, .int (iI tn)), (7, (va_rf fs)), (3, .int (iI sc)), (4, .int (iI fr)), (5, .int (iI k)), (2, .int (iI 0)), (0, .ref a0), (1, .ref a1)] [] := by
              intro  wy ivb3 Wb3 Fb3  hwy he7 he4 hP
              refine c_iload (j := 0) C dX6_setBy_163 rfl ?_
              refine c_if_eq (tgt := 171) C (r32_067 hwy) dX6_setBy_165 (by decide) (fun c4 => ?_) (fun c4 => ?_)
              · clear hwy
                replace he7 := (he7 c4)
                refine c_iload_n (j := 3) C dX6_setBy_171 rfl ?_
                refine c_if_ne (tgt := 179) C (r32_01 hsc) dX6_setBy_172 (by decide) (fun c5 => ?_) (fun c5 => ?_)
                · replace hsc := (hsc.resolve_left c5)
                  refine c_iconst C dX6_setBy_179 ?_
                  refine c_istore_n (lv2 := [(3, .int (iI 0)), (8, .int (iI wy)), (6, .int (iI tn)), (7, (va_rf fs)), (4, .int (iI fr)), (5, .int (iI k)), (2, .int (iI 0)), (0, .ref a0), (1, .ref a1)]) C dX6_setBy_180 (by decide) rfl ?_
                  refine c_iload (j := 5) C dX6_setBy_181 rfl ?_
                  refine c_iconst C dX6_setBy_183 ?_
                  refine c_iadd C dX6_setBy_184 ?_
                  refine c_istore (lv2 := [(4, .int (iI (k + 1))), (3, .int (iI 0)), (8, .int (iI wy)), (6, .int (iI tn)), (7, (va_rf fs)), (5, .int (iI k)), (2, .int (iI 0)), (0, .ref a0), (1, .ref a1)]) C dX6_setBy_185 (by decide) rfl ?_
                  refine c_iinc (z := k) (j := 5) (lv2 := [(5, .int (iI (k + 1))), (4, .int (iI (k + 1))), (3, .int (iI 0)), (8, .int (iI wy)), (6, .int (iI tn)), (7, (va_rf fs)), (2, .int (iI 0)), (0, .ref a0), (1, .ref a1)]) C dX6_setBy_187 rfl (by decide) rfl ?_
                  refine c_goto (tgt := 27) C dX6_setBy_190 (by decide) ?_
                  refine hv4 (show 0 ≤ ivb3 a0 7 ∧ ivb3 a0 7 ≤ 100000 from Wb3.int t_a0 7) (show 0 ≤ ivb3 a0 4 ∧ ivb3 a0 4 ≤ 500 from Wb3.int t_a0 4) (show (-2147483648) ≤ ivb3 a1 0 ∧ ivb3 a1 0 ≤ 2147483647 from Wb3.int t_a1 0) (show ivb3 a1 0 = iv a1 0 from Fb3.i t_a1 rfl 0) (fun ri5 ri6 ri7 ie6 => ?_)
                  refine c_lv (lv2 := [(3, .int (iI 0)), (4, .int (iI (k + 1))), (5, .int (iI (k + 1))), (2, .int (iI 0)), (0, .ref a0), (1, .ref a1)]) [2, 1, 0, 6, 7, 8] rfl ?_
                  exact ih1  0 (k + 1) (k + 1) _ (by omega) Wb3 Fb3  (by omega) (by omega) (by omega) (by show ivb3 a0 7 ≤ 200 + 4 * (k + 1); omega) he4 ((hP.1 (by omega)).re (by omega))
                · clear hsc
                  refine c_iconst C dX6_setBy_175 ?_
                  refine c_goto (tgt := 180) C dX6_setBy_176 (by decide) ?_
                  refine c_istore_n (lv2 := [(3, .int (iI 1)), (8, .int (iI wy)), (6, .int (iI tn)), (7, (va_rf fs)), (4, .int (iI fr)), (5, .int (iI k)), (2, .int (iI 0)), (0, .ref a0), (1, .ref a1)]) C dX6_setBy_180 (by decide) rfl ?_
                  refine c_iload (j := 5) C dX6_setBy_181 rfl ?_
                  refine c_iconst C dX6_setBy_183 ?_
                  refine c_iadd C dX6_setBy_184 ?_
                  refine c_istore (lv2 := [(4, .int (iI (k + 1))), (3, .int (iI 1)), (8, .int (iI wy)), (6, .int (iI tn)), (7, (va_rf fs)), (5, .int (iI k)), (2, .int (iI 0)), (0, .ref a0), (1, .ref a1)]) C dX6_setBy_185 (by decide) rfl ?_
                  refine c_iinc (z := k) (j := 5) (lv2 := [(5, .int (iI (k + 1))), (4, .int (iI (k + 1))), (3, .int (iI 1)), (8, .int (iI wy)), (6, .int (iI tn)), (7, (va_rf fs)), (2, .int (iI 0)), (0, .ref a0), (1, .ref a1)]) C dX6_setBy_187 rfl (by decide) rfl ?_
                  refine c_goto (tgt := 27) C dX6_setBy_190 (by decide) ?_
                  refine hv4 (show 0 ≤ ivb3 a0 7 ∧ ivb3 a0 7 ≤ 100000 from Wb3.int t_a0 7) (show 0 ≤ ivb3 a0 4 ∧ ivb3 a0 4 ≤ 500 from Wb3.int t_a0 4) (show (-2147483648) ≤ ivb3 a1 0 ∧ ivb3 a1 0 ≤ 2147483647 from Wb3.int t_a1 0) (show ivb3 a1 0 = iv a1 0 from Fb3.i t_a1 rfl 0) (fun ri8 ri9 ri10 ie9 => ?_)
                  refine c_lv (lv2 := [(3, .int (iI 1)), (4, .int (iI (k + 1))), (5, .int (iI (k + 1))), (2, .int (iI 0)), (0, .ref a0), (1, .ref a1)]) [2, 1, 0, 6, 7, 8] rfl ?_
                  exact ih1  1 (k + 1) (k + 1) _ (by omega) Wb3 Fb3  (by omega) (by omega) (by omega) (by show ivb3 a0 7 ≤ 200 + 4 * (k + 1); omega) he4 ((hP.1 (by omega)).re (by omega))
              · replace hwy := (hwy.resolve_left c4)
                clear he7
                refine c_iload (j := 0) C dX6_setBy_168 rfl ?_
                refine hv2 (show 0 ≤ ivb3 a0 4 ∧ ivb3 a0 4 ≤ 500 from Wb3.int t_a0 4) (show 0 ≤ ivb3 a0 7 ∧ ivb3 a0 7 ≤ 100000 from Wb3.int t_a0 7) (fun ri11 ri12 => ?_)
                exact c_iret C dX6_setBy_170 rfl (by decide) (rom0 hph hph (by decide)) ⟨wy, rfl, rfl, rfl, rfl, rfl, Fb3, Wb3, ⟨by omega, by omega⟩, ⟨by omega, SBX.fail (hP.2 (by omega)) (by omega)⟩⟩
            refine c_aload_n (j := 6) (x := a0) C dX6_setBy_108 rfl ?_
            refine c_iload_n (j := 2) C dX6_setBy_109 rfl ?_
            refine c_if_eq (tgt := 120) C (r32_01 hsc) dX6_setBy_110 (by decide) (fun c6 => ?_) (fun c6 => ?_)
            · clear hsc
              refine c_aloadr (j := 1) (r := fs) C dX6_setBy_120 rfl ?_
              refine c_iload (j := 3) C dX6_setBy_122 rfl ?_
              refine c_iload (j := 4) C dX6_setBy_124 rfl ?_
              refine hv4 (show (-2147483648) ≤ ivb2 a1 0 ∧ ivb2 a1 0 ≤ 2147483647 from Wb2.int t_a1 0) (show ivb2 a1 0 = iv a1 0 from Fb2.i t_a1 rfl 0) (show 0 ≤ ivb2 a0 7 ∧ ivb2 a0 7 ≤ 100000 from Wb2.int t_a0 7) (show 0 ≤ ivb2 a0 4 ∧ ivb2 a0 4 ≤ 500 from Wb2.int t_a0 4) (fun ri13 ie12 ri14 ri15 => ?_)
              refine d_callV (As := [(va_rf fs), .int (iI fr), .int (iI k)]) (rest := []) C hM (G_setPart (a0 := a0) (r := fs) (i := fr) (n := k) Wb2 hS t_a0 ty_fs (by omega) (by omega) (by show 0 ≤ fr ∧ fr ≤ 500 ∧ 0 ≤ k ∧ k ≤ 500 ∧ ivb2 a0 7 ≤ 50000; omega)) dX6_setBy_126 kV_X6_74 rfl t_a0 rfl rfl (by decide) ck_7 rfl (Nat.le_of_ble_eq_true rfl) ⟨(Nat.le_of_ble_eq_true rfl), (Nat.le_of_ble_eq_true rfl)⟩ hph hph (show 0 + 0 = 0 from rfl) (by decide) (fun rh1 Lh1 clh1 lnh1 ivh1 rvh1 h1 => ?_)
              obtain ⟨f1, rfl, rfl, rfl, rfl, rfl, fl1, W2, rgf1, exf1⟩ := h1
              have F2 := Fb2.call hX0 fl1 rfl
              refine c_st (st2 := [.int (iI f1)]) rfl ?_
              refine hv3 (show 0 ≤ ivh1 a0 4 ∧ ivh1 a0 4 ≤ 500 from W2.int t_a0 4) (show 0 ≤ ivh1 a0 7 ∧ ivh1 a0 7 ≤ 100000 from W2.int t_a0 7) (show ((f1 = 0 ∨ f1 = 6 ∨ f1 = 7) ∧ ivh1 a0 4 = ivb2 a0 4 ∧ ivh1 a0 7 ≤ ivb2 a0 7 + 208 ∧ (f1 = 0 → (ivh1 a0 7 ≤ ivb2 a0 7 ∨ ivh1 a0 7 ≤ 200))) ∧ SPX sk ln ivb2 rv ivh1 a0 fs fr k f1 from exf1) (fun ri16 ri17 gf1 => ?_)
              refine c_istore (lv2 := [(8, .int (iI f1)), (6, .int (iI tn)), (7, (va_rf fs)), (3, .int (iI sc)), (4, .int (iI fr)), (5, .int (iI k)), (2, .int (iI 0)), (0, .ref a0), (1, .ref a1)]) C dX6_setBy_129 (by decide) (by cases fs <;> rfl) ?_
              refine c_iload (j := 0) C dX6_setBy_131 rfl ?_
              refine c_if_ne (tgt := 163) C (r32_067 gf1.1.1) dX6_setBy_133 (by decide) (fun c7 => ?_) (fun c7 => ?_)
              · replace gf1 := (And.intro (And.intro (gf1.1.1.resolve_left c7) (And.intro gf1.1.2.1 (And.intro gf1.1.2.2.1 trivial))) gf1.2)
                refine hv2 (show (-2147483648) ≤ ivh1 a1 0 ∧ ivh1 a1 0 ≤ 2147483647 from W2.int t_a1 0) (show ivh1 a1 0 = ivb2 a1 0 from fl1.i t_a1 rfl 0) (fun ri18 ie17 => ?_)
                refine c_lv (lv2 := [(8, .int (iI f1)), (6, .int (iI tn)), (7, (va_rf fs)), (3, .int (iI sc)), (4, .int (iI fr)), (5, .int (iI k)), (2, .int (iI 0)), (0, .ref a0), (1, .ref a1)]) [0, 1, 2, 3, 4, 5, 6, 7, 8] rfl ?_
                exact J2  f1 _  W2 F2  (by omega) (by show f1 = 0 → ivh1 a0 7 ≤ 204 + 4 * k; omega) (by show ivh1 a0 4 = iv a0 4; omega) (SBN.plain hB2 hW hS Fb2 t_a0 (by omega) (hTN.2.1 (by have q := hTN.1; have q3 : tn ≠ 1 := fun e => absurd (q e).1 (by omega); exact q3)) (hTN.2.2.2 (by omega)) gf1.2)
              · replace gf1 := (And.intro (And.intro c7 (And.intro gf1.1.2.1 (And.intro gf1.1.2.2.1 (gf1.1.2.2.2 c7)))) gf1.2)
                refine c_iload (j := 1) C dX6_setBy_136 rfl ?_
                refine c_if_eq (tgt := 163) C (r32_01 htn) dX6_setBy_138 (by decide) (fun c8 => ?_) (fun c8 => ?_)
                · clear htn
                  clear htk
                  refine hv2 (show (-2147483648) ≤ ivh1 a1 0 ∧ ivh1 a1 0 ≤ 2147483647 from W2.int t_a1 0) (show ivh1 a1 0 = ivb2 a1 0 from fl1.i t_a1 rfl 0) (fun ri19 ie18 => ?_)
                  refine c_lv (lv2 := [(8, .int (iI f1)), (6, .int (iI tn)), (7, (va_rf fs)), (3, .int (iI sc)), (4, .int (iI fr)), (5, .int (iI k)), (2, .int (iI 0)), (0, .ref a0), (1, .ref a1)]) [0, 1, 2, 3, 4, 5, 6, 7, 8] rfl ?_
                  exact J2  f1 _  W2 F2  (by omega) (by show f1 = 0 → ivh1 a0 7 ≤ 204 + 4 * k; omega) (by show ivh1 a0 4 = iv a0 4; omega) (SBN.plain hB2 hW hS Fb2 t_a0 (by omega) (hTN.2.1 (by have q := hTN.1; have q3 : tn ≠ 1 := fun e => absurd (q e).1 (by omega); exact q3)) (hTN.2.2.2 (by omega)) gf1.2)
                · replace htn := (htn.resolve_left c8)
                  refine c_aload_n (j := 7) (x := a0) C dX6_setBy_141 rfl ?_
                  refine c_aload_n (j := 8) (x := a1) C dX6_setBy_142 rfl ?_
                  obtain ⟨rb1, rq1, trb1⟩ := W2.ref t_a1 6 rfl rfl rfl
                  have lnrb1 : 4 ≤ ln rb1 ∧ ln rb1 ≤ 4 := W2.len trb1 rfl
                  refine c_getr (k := 6) C ck_10 dX6_setBy_143 w2_195 (by decide) t_a1 rfl rfl (by decide) rfl rq1 ?_
                  refine c_st (st2 := [.ref rb1, .ref a0]) rfl ?_
                  refine c_iload_n (j := 3) C dX6_setBy_146 rfl ?_
                  refine c_if_eq (tgt := 154) C ⟨by omega, by omega⟩ dX6_setBy_147 (by decide) (fun _ => ?_) (fun z => absurd z (by omega))
                  refine c_iconst C dX6_setBy_154 ?_
                  have ll1 : 4 ≤ ln rb1 ∧ ln rb1 ≤ 4 := W2.len trb1 rfl
                  obtain ⟨nb1, nq1, tnb1⟩ := opt_n (W2.opt trb1 ((2 : Int).toNat) rfl rfl)
                  have tnb1 : ∀ b, nb1 = some b → ty L cl b 20 := tnb1
                  refine c_aaldR C dX6_setBy_155 trb1 rfl (by omega) (by omega) (by omega) nq1 ?_
                  refine c_st (st2 := [(va_rf nb1), .ref a0]) rfl ?_
                  refine c_iload (j := 5) C dX6_setBy_156 rfl ?_
                  refine hv2 (show 0 ≤ ivh1 a0 10 ∧ ivh1 a0 10 ≤ 500 from W2.int t_a0 10) (show 0 ≤ ivh1 a0 11 ∧ ivh1 a0 11 ≤ 500 from W2.int t_a0 11) (fun ri20 ri21 => ?_)
                  refine d_callV (As := [(va_rf nb1), .int (iI k)]) (rest := []) C hM (G_setTurn (a0 := a0) (r := nb1) (i := k) W2 hS t_a0 tnb1 (by omega) (by show ivh1 a0 7 ≤ 90000; omega)) dX6_setBy_158 kV_X6_82 rfl t_a0 rfl rfl (by decide) ck_7 rfl (Nat.le_of_ble_eq_true rfl) ⟨(Nat.le_of_ble_eq_true rfl), (Nat.le_of_ble_eq_true rfl)⟩ hph hph (show 0 + 0 = 0 from rfl) (by decide) (fun rh2 Lh2 clh2 lnh2 ivh2 rvh2 h2 => ?_)
                  obtain ⟨f2, rfl, rfl, rfl, rfl, rfl, fl2, W3, rgf2, exf2⟩ := h2
                  have F3 := F2.call hX0 fl2 rfl
                  refine c_st (st2 := [.int (iI f2)]) rfl ?_
                  refine hv5 (show 0 ≤ ivh2 a0 4 ∧ ivh2 a0 4 ≤ 500 from W3.int t_a0 4) (show 0 ≤ ivh2 a0 7 ∧ ivh2 a0 7 ≤ 100000 from W3.int t_a0 7) (show 0 ≤ ivh2 a0 10 ∧ ivh2 a0 10 ≤ 500 from W3.int t_a0 10) (show 0 ≤ ivh2 a0 11 ∧ ivh2 a0 11 ≤ 500 from W3.int t_a0 11) (show ((f2 = 0 ∨ f2 = 7) ∧ ivh2 a0 4 = ivh1 a0 4 ∧ ivh1 a0 7 ≤ ivh2 a0 7 ∧ ivh2 a0 7 ≤ ivh1 a0 7 + 4 ∧ ivh2 a0 10 = ivh1 a0 10 ∧ ivh2 a0 11 = ivh1 a0 11) ∧ STX ln ivh1 rv ivh2 a0 nb1 f2 from exf2) (fun ri22 ri23 ri24 ri25 gf2 => ?_)
                  refine c_istore (lv2 := [(8, .int (iI f2)), (6, .int (iI tn)), (7, (va_rf fs)), (3, .int (iI sc)), (4, .int (iI fr)), (5, .int (iI k)), (2, .int (iI 0)), (0, .ref a0), (1, .ref a1)]) C dX6_setBy_161 (by decide) (by cases fs <;> rfl) ?_
                  refine hv3 (show (-2147483648) ≤ ivh2 a1 0 ∧ ivh2 a1 0 ≤ 2147483647 from W3.int t_a1 0) (show ivh2 a1 0 = ivh1 a1 0 from fl2.i t_a1 rfl 0) (show ivh1 a1 0 = ivb2 a1 0 from fl1.i t_a1 rfl 0) (fun ri26 ie25 ie26 => ?_)
                  refine c_lv (lv2 := [(8, .int (iI f2)), (6, .int (iI tn)), (7, (va_rf fs)), (3, .int (iI sc)), (4, .int (iI fr)), (5, .int (iI k)), (2, .int (iI 0)), (0, .ref a0), (1, .ref a1)]) [0, 1, 2, 3, 4, 5, 6, 7, 8] rfl ?_
                  exact J2  f2 _  W3 F3  (by omega) (by show f2 = 0 → ivh2 a0 7 ≤ 204 + 4 * k; omega) (by show ivh2 a0 4 = iv a0 4; omega) (by exfalso; have q := (hTN.1 (by omega)).1; omega)
            · replace hsc := (hsc.resolve_left c6)
              refine c_aload_n (j := 7) (x := a1) C dX6_setBy_113 rfl ?_
              obtain ⟨nb2, nq2, tnb2⟩ := opt_n (Wb2.opt t_a1 3 rfl rfl)
              have tnb2 : ∀ b, nb2 = some b → ty L cl b 100 := tnb2
              refine c_getr (k := 3) C ck_10 dX6_setBy_114 w2_185 (by decide) t_a1 rfl rfl (by decide) rfl nq2 ?_
              refine c_st (st2 := [(va_rf nb2), .ref a0]) rfl ?_
              refine c_goto (tgt := 122) C dX6_setBy_117 (by decide) ?_
              refine c_iload (j := 3) C dX6_setBy_122 rfl ?_
              refine c_iload (j := 4) C dX6_setBy_124 rfl ?_
              refine hv4 (show (-2147483648) ≤ ivb2 a1 0 ∧ ivb2 a1 0 ≤ 2147483647 from Wb2.int t_a1 0) (show ivb2 a1 0 = iv a1 0 from Fb2.i t_a1 rfl 0) (show 0 ≤ ivb2 a0 7 ∧ ivb2 a0 7 ≤ 100000 from Wb2.int t_a0 7) (show 0 ≤ ivb2 a0 4 ∧ ivb2 a0 4 ≤ 500 from Wb2.int t_a0 4) (fun ri27 ie27 ri28 ri29 => ?_)
              refine d_callV (As := [(va_rf nb2), .int (iI fr), .int (iI k)]) (rest := []) C hM (G_setPart (a0 := a0) (r := nb2) (i := fr) (n := k) Wb2 hS t_a0 tnb2 (by omega) (by omega) (by show 0 ≤ fr ∧ fr ≤ 500 ∧ 0 ≤ k ∧ k ≤ 500 ∧ ivb2 a0 7 ≤ 50000; omega)) dX6_setBy_126 kV_X6_74 rfl t_a0 rfl rfl (by decide) ck_7 rfl (Nat.le_of_ble_eq_true rfl) ⟨(Nat.le_of_ble_eq_true rfl), (Nat.le_of_ble_eq_true rfl)⟩ hph hph (show 0 + 0 = 0 from rfl) (by decide) (fun rh3 Lh3 clh3 lnh3 ivh3 rvh3 h3 => ?_)
              obtain ⟨f3, rfl, rfl, rfl, rfl, rfl, fl3, W4, rgf3, exf3⟩ := h3
              have F4 := Fb2.call hX0 fl3 rfl
              refine c_st (st2 := [.int (iI f3)]) rfl ?_
              refine hv3 (show 0 ≤ ivh3 a0 4 ∧ ivh3 a0 4 ≤ 500 from W4.int t_a0 4) (show 0 ≤ ivh3 a0 7 ∧ ivh3 a0 7 ≤ 100000 from W4.int t_a0 7) (show ((f3 = 0 ∨ f3 = 6 ∨ f3 = 7) ∧ ivh3 a0 4 = ivb2 a0 4 ∧ ivh3 a0 7 ≤ ivb2 a0 7 + 208 ∧ (f3 = 0 → (ivh3 a0 7 ≤ ivb2 a0 7 ∨ ivh3 a0 7 ≤ 200))) ∧ SPX sk ln ivb2 rv ivh3 a0 nb2 fr k f3 from exf3) (fun ri30 ri31 gf3 => ?_)
              refine c_istore (lv2 := [(8, .int (iI f3)), (6, .int (iI tn)), (7, (va_rf fs)), (3, .int (iI sc)), (4, .int (iI fr)), (5, .int (iI k)), (2, .int (iI 0)), (0, .ref a0), (1, .ref a1)]) C dX6_setBy_129 (by decide) (by cases fs <;> rfl) ?_
              refine c_iload (j := 0) C dX6_setBy_131 rfl ?_
              refine c_if_ne (tgt := 163) C (r32_067 gf3.1.1) dX6_setBy_133 (by decide) (fun c9 => ?_) (fun c9 => ?_)
              · replace gf3 := (And.intro (And.intro (gf3.1.1.resolve_left c9) (And.intro gf3.1.2.1 (And.intro gf3.1.2.2.1 trivial))) gf3.2)
                refine hv2 (show (-2147483648) ≤ ivh3 a1 0 ∧ ivh3 a1 0 ≤ 2147483647 from W4.int t_a1 0) (show ivh3 a1 0 = ivb2 a1 0 from fl3.i t_a1 rfl 0) (fun ri32 ie32 => ?_)
                refine c_lv (lv2 := [(8, .int (iI f3)), (6, .int (iI tn)), (7, (va_rf fs)), (3, .int (iI sc)), (4, .int (iI fr)), (5, .int (iI k)), (2, .int (iI 0)), (0, .ref a0), (1, .ref a1)]) [0, 1, 2, 3, 4, 5, 6, 7, 8] rfl ?_
                exact J2  f3 _  W4 F4  (by omega) (by show f3 = 0 → ivh3 a0 7 ≤ 204 + 4 * k; omega) (by show ivh3 a0 4 = iv a0 4; omega) (SBN.bad hB2 (by omega) (by omega) (by omega))
              · replace gf3 := (And.intro (And.intro c9 (And.intro gf3.1.2.1 (And.intro gf3.1.2.2.1 (gf3.1.2.2.2 c9)))) gf3.2)
                refine c_iload (j := 1) C dX6_setBy_136 rfl ?_
                refine c_if_eq (tgt := 163) C (r32_01 htn) dX6_setBy_138 (by decide) (fun c10 => ?_) (fun c10 => ?_)
                · clear htn
                  clear htk
                  refine hv2 (show (-2147483648) ≤ ivh3 a1 0 ∧ ivh3 a1 0 ≤ 2147483647 from W4.int t_a1 0) (show ivh3 a1 0 = ivb2 a1 0 from fl3.i t_a1 rfl 0) (fun ri33 ie33 => ?_)
                  refine c_lv (lv2 := [(8, .int (iI f3)), (6, .int (iI tn)), (7, (va_rf fs)), (3, .int (iI sc)), (4, .int (iI fr)), (5, .int (iI k)), (2, .int (iI 0)), (0, .ref a0), (1, .ref a1)]) [0, 1, 2, 3, 4, 5, 6, 7, 8] rfl ?_
                  exact J2  f3 _  W4 F4  (by omega) (by show f3 = 0 → ivh3 a0 7 ≤ 204 + 4 * k; omega) (by show ivh3 a0 4 = iv a0 4; omega) (SBN.bad hB2 (by omega) (by omega) (by omega))
                · replace htn := (htn.resolve_left c10)
                  refine c_aload_n (j := 7) (x := a0) C dX6_setBy_141 rfl ?_
                  refine c_aload_n (j := 8) (x := a1) C dX6_setBy_142 rfl ?_
                  obtain ⟨rb2, rq2, trb2⟩ := W4.ref t_a1 6 rfl rfl rfl
                  have lnrb2 : 4 ≤ ln rb2 ∧ ln rb2 ≤ 4 := W4.len trb2 rfl
                  refine c_getr (k := 6) C ck_10 dX6_setBy_143 w2_195 (by decide) t_a1 rfl rfl (by decide) rfl rq2 ?_
                  refine c_st (st2 := [.ref rb2, .ref a0]) rfl ?_
                  refine c_iload_n (j := 3) C dX6_setBy_146 rfl ?_
                  refine c_if_eq (tgt := 154) C ⟨by omega, by omega⟩ dX6_setBy_147 (by decide) (fun z => absurd z (by omega)) (fun _ => ?_)
                  refine c_iconst C dX6_setBy_150 ?_
                  refine c_goto (tgt := 155) C dX6_setBy_151 (by decide) ?_
                  have ll2 : 4 ≤ ln rb2 ∧ ln rb2 ≤ 4 := W4.len trb2 rfl
                  obtain ⟨nb3, nq3, tnb3⟩ := opt_n (W4.opt trb2 ((3 : Int).toNat) rfl rfl)
                  have tnb3 : ∀ b, nb3 = some b → ty L cl b 20 := tnb3
                  refine c_aaldR C dX6_setBy_155 trb2 rfl (by omega) (by omega) (by omega) nq3 ?_
                  refine c_st (st2 := [(va_rf nb3), .ref a0]) rfl ?_
                  refine c_iload (j := 5) C dX6_setBy_156 rfl ?_
                  refine hv2 (show 0 ≤ ivh3 a0 10 ∧ ivh3 a0 10 ≤ 500 from W4.int t_a0 10) (show 0 ≤ ivh3 a0 11 ∧ ivh3 a0 11 ≤ 500 from W4.int t_a0 11) (fun ri34 ri35 => ?_)
                  refine d_callV (As := [(va_rf nb3), .int (iI k)]) (rest := []) C hM (G_setTurn (a0 := a0) (r := nb3) (i := k) W4 hS t_a0 tnb3 (by omega) (by show ivh3 a0 7 ≤ 90000; omega)) dX6_setBy_158 kV_X6_82 rfl t_a0 rfl rfl (by decide) ck_7 rfl (Nat.le_of_ble_eq_true rfl) ⟨(Nat.le_of_ble_eq_true rfl), (Nat.le_of_ble_eq_true rfl)⟩ hph hph (show 0 + 0 = 0 from rfl) (by decide) (fun rh4 Lh4 clh4 lnh4 ivh4 rvh4 h4 => ?_)
                  obtain ⟨f4, rfl, rfl, rfl, rfl, rfl, fl4, W5, rgf4, exf4⟩ := h4
                  have F5 := F4.call hX0 fl4 rfl
                  refine c_st (st2 := [.int (iI f4)]) rfl ?_
                  refine hv5 (show 0 ≤ ivh4 a0 4 ∧ ivh4 a0 4 ≤ 500 from W5.int t_a0 4) (show 0 ≤ ivh4 a0 7 ∧ ivh4 a0 7 ≤ 100000 from W5.int t_a0 7) (show 0 ≤ ivh4 a0 10 ∧ ivh4 a0 10 ≤ 500 from W5.int t_a0 10) (show 0 ≤ ivh4 a0 11 ∧ ivh4 a0 11 ≤ 500 from W5.int t_a0 11) (show ((f4 = 0 ∨ f4 = 7) ∧ ivh4 a0 4 = ivh3 a0 4 ∧ ivh3 a0 7 ≤ ivh4 a0 7 ∧ ivh4 a0 7 ≤ ivh3 a0 7 + 4 ∧ ivh4 a0 10 = ivh3 a0 10 ∧ ivh4 a0 11 = ivh3 a0 11) ∧ STX ln ivh3 rv ivh4 a0 nb3 f4 from exf4) (fun ri36 ri37 ri38 ri39 gf4 => ?_)
                  refine c_istore (lv2 := [(8, .int (iI f4)), (6, .int (iI tn)), (7, (va_rf fs)), (3, .int (iI sc)), (4, .int (iI fr)), (5, .int (iI k)), (2, .int (iI 0)), (0, .ref a0), (1, .ref a1)]) C dX6_setBy_161 (by decide) (by cases fs <;> rfl) ?_
                  refine hv3 (show (-2147483648) ≤ ivh4 a1 0 ∧ ivh4 a1 0 ≤ 2147483647 from W5.int t_a1 0) (show ivh4 a1 0 = ivh3 a1 0 from fl4.i t_a1 rfl 0) (show ivh3 a1 0 = ivb2 a1 0 from fl3.i t_a1 rfl 0) (fun ri40 ie40 ie41 => ?_)
                  refine c_lv (lv2 := [(8, .int (iI f4)), (6, .int (iI tn)), (7, (va_rf fs)), (3, .int (iI sc)), (4, .int (iI fr)), (5, .int (iI k)), (2, .int (iI 0)), (0, .ref a0), (1, .ref a1)]) [0, 1, 2, 3, 4, 5, 6, 7, 8] rfl ?_
                  exact J2  f4 _  W5 F5  (by omega) (by show f4 = 0 → ivh4 a0 7 ≤ 204 + 4 * k; omega) (by show ivh4 a0 4 = iv a0 4; omega) (by exfalso; have q := (hTN.1 (by omega)).1; omega)
          refine c_iload_n (j := 3) C dX6_setBy_36 rfl ?_
          refine c_if_eq (tgt := 74) C ⟨by decide, by decide⟩ dX6_setBy_37 (by decide) (fun _ => ?_) (fun z => absurd z (by omega))
          refine c_iconst C dX6_setBy_74 ?_
          refine c_istore (lv2 := [(6, .int (iI 0)), (3, .int (iI sc)), (4, .int (iI fr)), (5, .int (iI k)), (2, .int (iI 0)), (0, .ref a0), (1, .ref a1)]) C dX6_setBy_75 (by decide) rfl ?_
          refine c_iload (j := 3) C dX6_setBy_77 rfl ?_
          refine c_aload_n (j := 5) (x := a0) C dX6_setBy_79 rfl ?_
          refine c_get (k := 4) C ck_7 dX6_setBy_80 w1_140 (by decide) t_a0 rfl rfl (by decide) rfl ?_
          refine c_icmp_ge (tgt := 94) C ⟨by omega, by omega⟩ (r32_c (lo := 0) (hi := 500) ri3.1 ri3.2 (by decide) (by decide)) dX6_setBy_83 (by decide) (fun c11 => ?_) (fun c11 => ?_)
          · refine c_iload_n (j := 4) C dX6_setBy_94 rfl ?_
            refine c_if_eq (tgt := 105) C ⟨by decide, by decide⟩ dX6_setBy_95 (by decide) (fun _ => ?_) (fun z => absurd z (by omega))
            refine c_aload_n (j := 6) (x := a1) C dX6_setBy_105 rfl ?_
            refine c_astore (lv2 := [(7, .ref a1), (6, .int (iI 0)), (3, .int (iI sc)), (4, .int (iI fr)), (5, .int (iI k)), (2, .int (iI 0)), (0, .ref a0), (1, .ref a1)]) C dX6_setBy_106 (by decide) rfl ?_
            refine hv3 (show 0 ≤ ivb1 a0 7 ∧ ivb1 a0 7 ≤ 100000 from Wb1.int t_a0 7) (show (-2147483648) ≤ ivb1 a1 0 ∧ ivb1 a1 0 ≤ 2147483647 from Wb1.int t_a1 0) (show ivb1 a1 0 = iv a1 0 from Fb1.i t_a1 rfl 0) (fun ri41 ri42 ie43 => ?_)
            refine c_lv (lv2 := [(6, .int (iI 0)), (7, .ref a1), (3, .int (iI sc)), (4, .int (iI fr)), (5, .int (iI k)), (2, .int (iI 0)), (0, .ref a0), (1, .ref a1)]) [1, 0, 2, 3, 4, 5, 6, 7] rfl ?_
            exact J1  (some a1) 0 _  Wb1 Fb1 (fun _ q => by cases q; exact t_a1) (by omega) (by omega) (fun q => absurd q (by omega)) (by show ivb1 a0 7 ≤ 200 + 4 * k; omega) hc4 ⟨(fun q => absurd q (by decide)), (fun _ => by omega), (fun q => by exfalso; omega), (fun _ => rfl)⟩ hB
          · refine c_iload (j := 0) C dX6_setBy_86 rfl ?_
            refine c_if_ne (tgt := 94) C ⟨by decide, by decide⟩ dX6_setBy_88 (by decide) (fun z => absurd z (by omega)) (fun _ => ?_)
            refine c_goto (tgt := 187) C dX6_setBy_91 (by decide) ?_
            refine c_iinc (z := k) (j := 3) (lv2 := [(5, .int (iI (k + 1))), (6, .int (iI 0)), (3, .int (iI sc)), (4, .int (iI fr)), (2, .int (iI 0)), (0, .ref a0), (1, .ref a1)]) C dX6_setBy_187 rfl (by decide) rfl ?_
            refine c_goto (tgt := 27) C dX6_setBy_190 (by decide) ?_
            refine hv3 (show 0 ≤ ivb1 a0 7 ∧ ivb1 a0 7 ≤ 100000 from Wb1.int t_a0 7) (show (-2147483648) ≤ ivb1 a1 0 ∧ ivb1 a1 0 ≤ 2147483647 from Wb1.int t_a1 0) (show ivb1 a1 0 = iv a1 0 from Fb1.i t_a1 rfl 0) (fun ri43 ri44 ie45 => ?_)
            refine c_lv (lv2 := [(3, .int (iI sc)), (4, .int (iI fr)), (5, .int (iI (k + 1))), (2, .int (iI 0)), (0, .ref a0), (1, .ref a1)]) [2, 3, 0, 4, 5, 6] rfl ?_
            exact ih1  sc fr (k + 1) _ (by omega) Wb1 Fb1  (by omega) (by omega) (by omega) (by show ivb1 a0 7 ≤ 200 + 4 * (k + 1); omega) hc4 (hB.skip (by omega) (by omega) (Or.inl (by omega)))
    refine hv4 (show 0 ≤ iv1 a0 7 ∧ iv1 a0 7 ≤ 100000 from W1.int t_a0 7) (show iv1 a0 7 = 0 from by rw [pq1]; exact up2_s) (show 0 ≤ iv1 a0 4 ∧ iv1 a0 4 ≤ 500 from W1.int t_a0 4) (show iv1 a0 4 = iv a0 4 from by rw [pq1]; exact up2_j (by decide)) (fun ri45 ie46 ri46 ie47 => ?_)
    refine c_lv (lv2 := [(3, .int (iI 0)), (4, .int (iI 0)), (5, .int (iI 0)), (2, .int (iI 0)), (0, .ref a0), (1, .ref a1)]) [2, 1, 0, 3, 4, 5] rfl ?_
    exact Lp1 503 0 0 0 _ (by omega) W1 F1  (by omega) (by omega) (by omega) (by show iv1 a0 7 ≤ 200 + 4 * 0; omega) ie47 (SBI.init pq1 (by omega))
  · refine c_iconst C dX6_setBy_13 ?_
    refine c_goto (tgt := 18) C dX6_setBy_14 (by decide) ?_
    refine c_istore_n (lv2 := [(2, .int (iI 1)), (0, .ref a0), (1, .ref a1)]) C dX6_setBy_18 (by decide) rfl ?_
    refine c_iconst C dX6_setBy_19 ?_
    refine c_istore_n (lv2 := [(3, .int (iI 0)), (2, .int (iI 1)), (0, .ref a0), (1, .ref a1)]) C dX6_setBy_20 (by decide) rfl ?_
    refine c_iconst C dX6_setBy_21 ?_
    refine c_istore (lv2 := [(4, .int (iI 0)), (3, .int (iI 0)), (2, .int (iI 1)), (0, .ref a0), (1, .ref a1)]) C dX6_setBy_22 (by decide) rfl ?_
    refine c_iconst C dX6_setBy_24 ?_
    refine c_istore (lv2 := [(5, .int (iI 0)), (4, .int (iI 0)), (3, .int (iI 0)), (2, .int (iI 1)), (0, .ref a0), (1, .ref a1)]) C dX6_setBy_25 (by decide) rfl ?_
    have Lp2 : ∀ (nn : Nat) (sc fr k : Int) (ivb4 : Nat → Nat → Int) , iv a0 4 + 2 - k < (nn : Int) → WT (g0 G) sk L cl ln ivb4 rv → fT [15, 53, 54, 55] L cl iv rv ivb4 rv → (sc = 0 ∨ sc = 1) → (0 ≤ fr ∧ fr ≤ k) → (0 ≤ k ∧ k ≤ iv a0 4 + 1) → (ivb4 a0 7 ≤ 200 + 4 * k) → (ivb4 a0 4 = iv a0 4) → (SBI sk ln iv rv ivb4 a0 a1 sc fr k) → cw p l e 6 ((PHM) + 0 - ((Phi (g0 G) sk) ln rv)) s m args below meth c G A 9 (MQ below (Qu G A (Qp G (Phi (g0 G) sk) ((Phi (g0 G) sk) ln rv) 0 (fun v L2 cl2 ln2 iv2 rv2 => ∃ f : Int, v = some (.int (iI f)) ∧ L = L2 ∧ cl = cl2 ∧ ln = ln2 ∧ rv = rv2 ∧ fT [15, 53, 54, 55] L cl iv rv iv2 rv2 ∧ WT (g0 G) sk L2 cl2 ln2 iv2 rv2 ∧ (-2147483648 ≤ f ∧ f ≤ 2147483647) ∧ (((f = 0 ∨ f = 6 ∨ f = 7) ∧ iv2 a0 4 = iv a0 4 ∧ (f = 0 → iv2 a0 7 ≤ 200)) ∧ SBX sk ln iv rv iv2 a0 a1 f)))) args s (((PHM) + 0 - ((Phi (g0 G) sk) ln rv)) / 16) ((PHM) + 0 - ((Phi (g0 G) sk) ln rv)) A) (Phi (g0 G) sk) ((Phi (g0 G) sk) ln rv) L cl ln ivb4 rv 0 27 [(3, .int (iI sc)), (4, .int (iI fr)), (5, .int (iI k)), (2, .int (iI 1)), (0, .ref a0), (1, .ref a1)] [] := by
      intro nn
      induction nn with
      | zero =>
        intro  sc fr k ivb4 hm Wb4 Fb4  hsc hfr hk hc7 hc4 hB
        exact absurd hm (by omega)
      | succ nn ih2 =>
        intro  sc fr k ivb4 hm Wb4 Fb4  hsc hfr hk hc7 hc4 hB
        refine c_iload (j := 2) C dX6_setBy_27 rfl ?_
        refine c_aload_n (j := 4) (x := a0) C dX6_setBy_29 rfl ?_
        have ri47 : 0 ≤ ivb4 a0 4 ∧ ivb4 a0 4 ≤ 500 := Wb4.int t_a0 4
        refine c_get (k := 4) C ck_7 dX6_setBy_30 w1_140 (by decide) t_a0 rfl rfl (by decide) rfl ?_
        refine c_icmp_gt (tgt := 193) C ⟨by omega, by omega⟩ (r32_c (lo := 0) (hi := 500) ri47.1 ri47.2 (by decide) (by decide)) dX6_setBy_33 (by decide) (fun c12 => ?_) (fun c12 => ?_)
        · refine c_aload_n (j := 4) (x := a0) C dX6_setBy_193 rfl ?_
          have ri48 : 0 ≤ ivb4 a0 7 ∧ ivb4 a0 7 ≤ 100000 := Wb4.int t_a0 7
          refine c_get (k := 7) C ck_7 dX6_setBy_194 w1_147 (by decide) t_a0 rfl rfl (by decide) rfl ?_
          refine c_sipush (z := 200) C dX6_setBy_197 (by decide) ?_
          refine c_icmp_le (tgt := 208) C (r32_c (lo := 0) (hi := 100000) ri48.1 ri48.2 (by decide) (by decide)) ⟨by decide, by decide⟩ dX6_setBy_200 (by decide) (fun c13 => ?_) (fun c13 => ?_)
          · refine c_iconst C dX6_setBy_208 ?_
            exact c_iret C dX6_setBy_209 rfl (by decide) (rom0 hph hph (by decide)) ⟨0, rfl, rfl, rfl, rfl, rfl, Fb4, Wb4, ⟨by decide, by decide⟩, ⟨by omega, hB.fin (by omega) (by omega)⟩⟩
          · refine c_bipush (z := 6) C dX6_setBy_203 (by decide) ?_
            refine c_goto (tgt := 209) C dX6_setBy_205 (by decide) ?_
            exact c_iret C dX6_setBy_209 rfl (by decide) (rom0 hph hph (by decide)) ⟨6, rfl, rfl, rfl, rfl, rfl, Fb4, Wb4, ⟨by decide, by decide⟩, ⟨by omega, hB.fin (by omega) (by omega)⟩⟩
        · have J3 : ∀ (fs : Option Nat) (tn : Int) (ivb5 : Nat → Nat → Int) , WT (g0 G) sk L cl ln ivb5 rv → fT [15, 53, 54, 55] L cl iv rv ivb5 rv → (∀ b, fs = some b → ty L cl b 100) → (tn = 0 ∨ tn = 1) → (k ≤ iv a0 4) → (tn = 1 → k < iv a0 4) → (ivb5 a0 7 ≤ 200 + 4 * k) → (ivb5 a0 4 = iv a0 4) → (TRN iv rv a0 a1 sc k tn fs) → (SBI sk ln iv rv ivb5 a0 a1 sc fr k) → cw p l e 6 ((PHM) + 0 - ((Phi (g0 G) sk) ln rv)) s m args below meth c G A 9 (MQ below (Qu G A (Qp G (Phi (g0 G) sk) ((Phi (g0 G) sk) ln rv) 0 (fun v L2 cl2 ln2 iv2 rv2 => ∃ f : Int, v = some (.int (iI f)) ∧ L = L2 ∧ cl = cl2 ∧ ln = ln2 ∧ rv = rv2 ∧ fT [15, 53, 54, 55] L cl iv rv iv2 rv2 ∧ WT (g0 G) sk L2 cl2 ln2 iv2 rv2 ∧ (-2147483648 ≤ f ∧ f ≤ 2147483647) ∧ (((f = 0 ∨ f = 6 ∨ f = 7) ∧ iv2 a0 4 = iv a0 4 ∧ (f = 0 → iv2 a0 7 ≤ 200)) ∧ SBX sk ln iv rv iv2 a0 a1 f)))) args s (((PHM) + 0 - ((Phi (g0 G) sk) ln rv)) / 16) ((PHM) + 0 - ((Phi (g0 G) sk) ln rv)) A) (Phi (g0 G) sk) ((Phi (g0 G) sk) ln rv) L cl ln ivb5 rv 0 108 [(6, .int (iI tn)), (7, (va_rf fs)), (3, .int (iI sc)), (4, .int (iI fr)), (5, .int (iI k)), (2, .int (iI 1)), (0, .ref a0), (1, .ref a1)] [] := by
            intro fs tn ivb5 Wb5 Fb5 ty_fs htn hki htk hd7 hd4 hTN hB2
            have J4 : ∀ (wy : Int) (ivb6 : Nat → Nat → Int) , WT (g0 G) sk L cl ln ivb6 rv → fT [15, 53, 54, 55] L cl iv rv ivb6 rv → (wy = 0 ∨ wy = 6 ∨ wy = 7) → (wy = 0 → ivb6 a0 7 ≤ 204 + 4 * k) → (ivb6 a0 4 = iv a0 4) → (SBN sk ln iv rv ivb6 a0 a1 sc k wy) → cw p l e 6 ((PHM) + 0 - ((Phi (g0 G) sk) ln rv)) s m args below meth c G A 9 (MQ below (Qu G A (Qp G (Phi (g0 G) sk) ((Phi (g0 G) sk) ln rv) 0 (fun v L2 cl2 ln2 iv2 rv2 => ∃ f : Int, v = some (.int (iI f)) ∧ L = L2 ∧ cl = cl2 ∧ ln = ln2 ∧ rv = rv2 ∧ fT [15, 53, 54, 55] L cl iv rv iv2 rv2 ∧ WT (g0 G) sk L2 cl2 ln2 iv2 rv2 ∧ (-2147483648 ≤ f ∧ f ≤ 2147483647) ∧ (((f = 0 ∨ f = 6 ∨ f = 7) ∧ iv2 a0 4 = iv a0 4 ∧ (f = 0 → iv2 a0 7 ≤ 200)) ∧ SBX sk ln iv rv iv2 a0 a1 f)))) args s (((PHM) + 0 - ((Phi (g0 G) sk) ln rv)) / 16) ((PHM) + 0 - ((Phi (g0 G) sk) ln rv)) A) (Phi (g0 G) sk) ((Phi (g0 G) sk) ln rv) L cl ln ivb6 rv 0 163 [(8, .int (iI wy)), (6, .int (iI tn)), (7, (va_rf fs)), (3, .int (iI sc)), (4, .int (iI fr)), (5, .int (iI k)), (2, .int (iI 1)), (0, .ref a0), (1, .ref a1)] [] := by
              intro  wy ivb6 Wb6 Fb6  hwy he7 he4 hP
              refine c_iload (j := 0) C dX6_setBy_163 rfl ?_
              refine c_if_eq (tgt := 171) C (r32_067 hwy) dX6_setBy_165 (by decide) (fun c14 => ?_) (fun c14 => ?_)
              · clear hwy
                replace he7 := (he7 c14)
                refine c_iload_n (j := 3) C dX6_setBy_171 rfl ?_
                refine c_if_ne (tgt := 179) C (r32_01 hsc) dX6_setBy_172 (by decide) (fun c15 => ?_) (fun c15 => ?_)
                · replace hsc := (hsc.resolve_left c15)
                  refine c_iconst C dX6_setBy_179 ?_
                  refine c_istore_n (lv2 := [(3, .int (iI 0)), (8, .int (iI wy)), (6, .int (iI tn)), (7, (va_rf fs)), (4, .int (iI fr)), (5, .int (iI k)), (2, .int (iI 1)), (0, .ref a0), (1, .ref a1)]) C dX6_setBy_180 (by decide) rfl ?_
                  refine c_iload (j := 5) C dX6_setBy_181 rfl ?_
                  refine c_iconst C dX6_setBy_183 ?_
                  refine c_iadd C dX6_setBy_184 ?_
                  refine c_istore (lv2 := [(4, .int (iI (k + 1))), (3, .int (iI 0)), (8, .int (iI wy)), (6, .int (iI tn)), (7, (va_rf fs)), (5, .int (iI k)), (2, .int (iI 1)), (0, .ref a0), (1, .ref a1)]) C dX6_setBy_185 (by decide) rfl ?_
                  refine c_iinc (z := k) (j := 5) (lv2 := [(5, .int (iI (k + 1))), (4, .int (iI (k + 1))), (3, .int (iI 0)), (8, .int (iI wy)), (6, .int (iI tn)), (7, (va_rf fs)), (2, .int (iI 1)), (0, .ref a0), (1, .ref a1)]) C dX6_setBy_187 rfl (by decide) rfl ?_
                  refine c_goto (tgt := 27) C dX6_setBy_190 (by decide) ?_
                  refine hv4 (show 0 ≤ ivb6 a0 7 ∧ ivb6 a0 7 ≤ 100000 from Wb6.int t_a0 7) (show 0 ≤ ivb6 a0 4 ∧ ivb6 a0 4 ≤ 500 from Wb6.int t_a0 4) (show (-2147483648) ≤ ivb6 a1 0 ∧ ivb6 a1 0 ≤ 2147483647 from Wb6.int t_a1 0) (show ivb6 a1 0 = iv a1 0 from Fb6.i t_a1 rfl 0) (fun ri49 ri50 ri51 ie52 => ?_)
                  refine c_lv (lv2 := [(3, .int (iI 0)), (4, .int (iI (k + 1))), (5, .int (iI (k + 1))), (2, .int (iI 1)), (0, .ref a0), (1, .ref a1)]) [2, 1, 0, 6, 7, 8] rfl ?_
                  exact ih2  0 (k + 1) (k + 1) _ (by omega) Wb6 Fb6  (by omega) (by omega) (by omega) (by show ivb6 a0 7 ≤ 200 + 4 * (k + 1); omega) he4 ((hP.1 (by omega)).re (by omega))
                · clear hsc
                  refine c_iconst C dX6_setBy_175 ?_
                  refine c_goto (tgt := 180) C dX6_setBy_176 (by decide) ?_
                  refine c_istore_n (lv2 := [(3, .int (iI 1)), (8, .int (iI wy)), (6, .int (iI tn)), (7, (va_rf fs)), (4, .int (iI fr)), (5, .int (iI k)), (2, .int (iI 1)), (0, .ref a0), (1, .ref a1)]) C dX6_setBy_180 (by decide) rfl ?_
                  refine c_iload (j := 5) C dX6_setBy_181 rfl ?_
                  refine c_iconst C dX6_setBy_183 ?_
                  refine c_iadd C dX6_setBy_184 ?_
                  refine c_istore (lv2 := [(4, .int (iI (k + 1))), (3, .int (iI 1)), (8, .int (iI wy)), (6, .int (iI tn)), (7, (va_rf fs)), (5, .int (iI k)), (2, .int (iI 1)), (0, .ref a0), (1, .ref a1)]) C dX6_setBy_185 (by decide) rfl ?_
                  refine c_iinc (z := k) (j := 5) (lv2 := [(5, .int (iI (k + 1))), (4, .int (iI (k + 1))), (3, .int (iI 1)), (8, .int (iI wy)), (6, .int (iI tn)), (7, (va_rf fs)), (2, .int (iI 1)), (0, .ref a0), (1, .ref a1)]) C dX6_setBy_187 rfl (by decide) rfl ?_
                  refine c_goto (tgt := 27) C dX6_setBy_190 (by decide) ?_
                  refine hv4 (show 0 ≤ ivb6 a0 7 ∧ ivb6 a0 7 ≤ 100000 from Wb6.int t_a0 7) (show 0 ≤ ivb6 a0 4 ∧ ivb6 a0 4 ≤ 500 from Wb6.int t_a0 4) (show (-2147483648) ≤ ivb6 a1 0 ∧ ivb6 a1 0 ≤ 2147483647 from Wb6.int t_a1 0) (show ivb6 a1 0 = iv a1 0 from Fb6.i t_a1 rfl 0) (fun ri52 ri53 ri54 ie55 => ?_)
                  refine c_lv (lv2 := [(3, .int (iI 1)), (4, .int (iI (k + 1))), (5, .int (iI (k + 1))), (2, .int (iI 1)), (0, .ref a0), (1, .ref a1)]) [2, 1, 0, 6, 7, 8] rfl ?_
                  exact ih2  1 (k + 1) (k + 1) _ (by omega) Wb6 Fb6  (by omega) (by omega) (by omega) (by show ivb6 a0 7 ≤ 200 + 4 * (k + 1); omega) he4 ((hP.1 (by omega)).re (by omega))
              · replace hwy := (hwy.resolve_left c14)
                clear he7
                refine c_iload (j := 0) C dX6_setBy_168 rfl ?_
                refine hv2 (show 0 ≤ ivb6 a0 4 ∧ ivb6 a0 4 ≤ 500 from Wb6.int t_a0 4) (show 0 ≤ ivb6 a0 7 ∧ ivb6 a0 7 ≤ 100000 from Wb6.int t_a0 7) (fun ri55 ri56 => ?_)
                exact c_iret C dX6_setBy_170 rfl (by decide) (rom0 hph hph (by decide)) ⟨wy, rfl, rfl, rfl, rfl, rfl, Fb6, Wb6, ⟨by omega, by omega⟩, ⟨by omega, SBX.fail (hP.2 (by omega)) (by omega)⟩⟩
            refine c_aload_n (j := 6) (x := a0) C dX6_setBy_108 rfl ?_
            refine c_iload_n (j := 2) C dX6_setBy_109 rfl ?_
            refine c_if_eq (tgt := 120) C (r32_01 hsc) dX6_setBy_110 (by decide) (fun c16 => ?_) (fun c16 => ?_)
            · clear hsc
              refine c_aloadr (j := 1) (r := fs) C dX6_setBy_120 rfl ?_
              refine c_iload (j := 3) C dX6_setBy_122 rfl ?_
              refine c_iload (j := 4) C dX6_setBy_124 rfl ?_
              refine hv4 (show (-2147483648) ≤ ivb5 a1 0 ∧ ivb5 a1 0 ≤ 2147483647 from Wb5.int t_a1 0) (show ivb5 a1 0 = iv a1 0 from Fb5.i t_a1 rfl 0) (show 0 ≤ ivb5 a0 7 ∧ ivb5 a0 7 ≤ 100000 from Wb5.int t_a0 7) (show 0 ≤ ivb5 a0 4 ∧ ivb5 a0 4 ≤ 500 from Wb5.int t_a0 4) (fun ri57 ie58 ri58 ri59 => ?_)
              refine d_callV (As := [(va_rf fs), .int (iI fr), .int (iI k)]) (rest := []) C hM (G_setPart (a0 := a0) (r := fs) (i := fr) (n := k) Wb5 hS t_a0 ty_fs (by omega) (by omega) (by show 0 ≤ fr ∧ fr ≤ 500 ∧ 0 ≤ k ∧ k ≤ 500 ∧ ivb5 a0 7 ≤ 50000; omega)) dX6_setBy_126 kV_X6_74 rfl t_a0 rfl rfl (by decide) ck_7 rfl (Nat.le_of_ble_eq_true rfl) ⟨(Nat.le_of_ble_eq_true rfl), (Nat.le_of_ble_eq_true rfl)⟩ hph hph (show 0 + 0 = 0 from rfl) (by decide) (fun rh5 Lh5 clh5 lnh5 ivh5 rvh5 h5 => ?_)
              obtain ⟨f5, rfl, rfl, rfl, rfl, rfl, fl5, W6, rgf5, exf5⟩ := h5
              have F6 := Fb5.call hX0 fl5 rfl
              refine c_st (st2 := [.int (iI f5)]) rfl ?_
              refine hv3 (show 0 ≤ ivh5 a0 4 ∧ ivh5 a0 4 ≤ 500 from W6.int t_a0 4) (show 0 ≤ ivh5 a0 7 ∧ ivh5 a0 7 ≤ 100000 from W6.int t_a0 7) (show ((f5 = 0 ∨ f5 = 6 ∨ f5 = 7) ∧ ivh5 a0 4 = ivb5 a0 4 ∧ ivh5 a0 7 ≤ ivb5 a0 7 + 208 ∧ (f5 = 0 → (ivh5 a0 7 ≤ ivb5 a0 7 ∨ ivh5 a0 7 ≤ 200))) ∧ SPX sk ln ivb5 rv ivh5 a0 fs fr k f5 from exf5) (fun ri60 ri61 gf5 => ?_)
              refine c_istore (lv2 := [(8, .int (iI f5)), (6, .int (iI tn)), (7, (va_rf fs)), (3, .int (iI sc)), (4, .int (iI fr)), (5, .int (iI k)), (2, .int (iI 1)), (0, .ref a0), (1, .ref a1)]) C dX6_setBy_129 (by decide) (by cases fs <;> rfl) ?_
              refine c_iload (j := 0) C dX6_setBy_131 rfl ?_
              refine c_if_ne (tgt := 163) C (r32_067 gf5.1.1) dX6_setBy_133 (by decide) (fun c17 => ?_) (fun c17 => ?_)
              · replace gf5 := (And.intro (And.intro (gf5.1.1.resolve_left c17) (And.intro gf5.1.2.1 (And.intro gf5.1.2.2.1 trivial))) gf5.2)
                refine hv2 (show (-2147483648) ≤ ivh5 a1 0 ∧ ivh5 a1 0 ≤ 2147483647 from W6.int t_a1 0) (show ivh5 a1 0 = ivb5 a1 0 from fl5.i t_a1 rfl 0) (fun ri62 ie63 => ?_)
                refine c_lv (lv2 := [(8, .int (iI f5)), (6, .int (iI tn)), (7, (va_rf fs)), (3, .int (iI sc)), (4, .int (iI fr)), (5, .int (iI k)), (2, .int (iI 1)), (0, .ref a0), (1, .ref a1)]) [0, 1, 2, 3, 4, 5, 6, 7, 8] rfl ?_
                exact J4  f5 _  W6 F6  (by omega) (by show f5 = 0 → ivh5 a0 7 ≤ 204 + 4 * k; omega) (by show ivh5 a0 4 = iv a0 4; omega) (SBN.jfail hB2 hW hS Fb5 t_a0 (by omega) (Or.inl ⟨by omega, hTN.2.2.1 (by omega)⟩) ⟨by omega, by omega⟩ gf5.2 (by by_cases q : tn = 1; exact Or.inr (hTN.1 q).2.2; exact Or.inl (hTN.2.1 q)) (by omega))
              · replace gf5 := (And.intro (And.intro c17 (And.intro gf5.1.2.1 (And.intro gf5.1.2.2.1 (gf5.1.2.2.2 c17)))) gf5.2)
                refine c_iload (j := 1) C dX6_setBy_136 rfl ?_
                refine c_if_eq (tgt := 163) C (r32_01 htn) dX6_setBy_138 (by decide) (fun c18 => ?_) (fun c18 => ?_)
                · clear htn
                  clear htk
                  refine hv2 (show (-2147483648) ≤ ivh5 a1 0 ∧ ivh5 a1 0 ≤ 2147483647 from W6.int t_a1 0) (show ivh5 a1 0 = ivb5 a1 0 from fl5.i t_a1 rfl 0) (fun ri63 ie64 => ?_)
                  refine c_lv (lv2 := [(8, .int (iI f5)), (6, .int (iI tn)), (7, (va_rf fs)), (3, .int (iI sc)), (4, .int (iI fr)), (5, .int (iI k)), (2, .int (iI 1)), (0, .ref a0), (1, .ref a1)]) [0, 1, 2, 3, 4, 5, 6, 7, 8] rfl ?_
                  exact J4  f5 _  W6 F6  (by omega) (by show f5 = 0 → ivh5 a0 7 ≤ 204 + 4 * k; omega) (by show ivh5 a0 4 = iv a0 4; omega) (SBN.jlast hB2 hW hS Fb5 t_a0 (by omega) (Or.inl ⟨by omega, hTN.2.2.1 (by omega)⟩) (hTN.2.1 (by omega)) gf5.2 (by omega))
                · replace htn := (htn.resolve_left c18)
                  refine c_aload_n (j := 7) (x := a0) C dX6_setBy_141 rfl ?_
                  refine c_aload_n (j := 8) (x := a1) C dX6_setBy_142 rfl ?_
                  obtain ⟨rb3, rq3, trb3⟩ := W6.ref t_a1 6 rfl rfl rfl
                  have lnrb3 : 4 ≤ ln rb3 ∧ ln rb3 ≤ 4 := W6.len trb3 rfl
                  refine c_getr (k := 6) C ck_10 dX6_setBy_143 w2_195 (by decide) t_a1 rfl rfl (by decide) rfl rq3 ?_
                  refine c_st (st2 := [.ref rb3, .ref a0]) rfl ?_
                  refine c_iload_n (j := 3) C dX6_setBy_146 rfl ?_
                  refine c_if_eq (tgt := 154) C ⟨by omega, by omega⟩ dX6_setBy_147 (by decide) (fun _ => ?_) (fun z => absurd z (by omega))
                  refine c_iconst C dX6_setBy_154 ?_
                  have ll3 : 4 ≤ ln rb3 ∧ ln rb3 ≤ 4 := W6.len trb3 rfl
                  obtain ⟨nb4, nq4, tnb4⟩ := opt_n (W6.opt trb3 ((2 : Int).toNat) rfl rfl)
                  have tnb4 : ∀ b, nb4 = some b → ty L cl b 20 := tnb4
                  refine c_aaldR C dX6_setBy_155 trb3 rfl (by omega) (by omega) (by omega) nq4 ?_
                  refine c_st (st2 := [(va_rf nb4), .ref a0]) rfl ?_
                  refine c_iload (j := 5) C dX6_setBy_156 rfl ?_
                  refine hv2 (show 0 ≤ ivh5 a0 10 ∧ ivh5 a0 10 ≤ 500 from W6.int t_a0 10) (show 0 ≤ ivh5 a0 11 ∧ ivh5 a0 11 ≤ 500 from W6.int t_a0 11) (fun ri64 ri65 => ?_)
                  refine d_callV (As := [(va_rf nb4), .int (iI k)]) (rest := []) C hM (G_setTurn (a0 := a0) (r := nb4) (i := k) W6 hS t_a0 tnb4 (by omega) (by show ivh5 a0 7 ≤ 90000; omega)) dX6_setBy_158 kV_X6_82 rfl t_a0 rfl rfl (by decide) ck_7 rfl (Nat.le_of_ble_eq_true rfl) ⟨(Nat.le_of_ble_eq_true rfl), (Nat.le_of_ble_eq_true rfl)⟩ hph hph (show 0 + 0 = 0 from rfl) (by decide) (fun rh6 Lh6 clh6 lnh6 ivh6 rvh6 h6 => ?_)
                  obtain ⟨f6, rfl, rfl, rfl, rfl, rfl, fl6, W7, rgf6, exf6⟩ := h6
                  have F7 := F6.call hX0 fl6 rfl
                  refine c_st (st2 := [.int (iI f6)]) rfl ?_
                  refine hv5 (show 0 ≤ ivh6 a0 4 ∧ ivh6 a0 4 ≤ 500 from W7.int t_a0 4) (show 0 ≤ ivh6 a0 7 ∧ ivh6 a0 7 ≤ 100000 from W7.int t_a0 7) (show 0 ≤ ivh6 a0 10 ∧ ivh6 a0 10 ≤ 500 from W7.int t_a0 10) (show 0 ≤ ivh6 a0 11 ∧ ivh6 a0 11 ≤ 500 from W7.int t_a0 11) (show ((f6 = 0 ∨ f6 = 7) ∧ ivh6 a0 4 = ivh5 a0 4 ∧ ivh5 a0 7 ≤ ivh6 a0 7 ∧ ivh6 a0 7 ≤ ivh5 a0 7 + 4 ∧ ivh6 a0 10 = ivh5 a0 10 ∧ ivh6 a0 11 = ivh5 a0 11) ∧ STX ln ivh5 rv ivh6 a0 nb4 f6 from exf6) (fun ri66 ri67 ri68 ri69 gf6 => ?_)
                  refine c_istore (lv2 := [(8, .int (iI f6)), (6, .int (iI tn)), (7, (va_rf fs)), (3, .int (iI sc)), (4, .int (iI fr)), (5, .int (iI k)), (2, .int (iI 1)), (0, .ref a0), (1, .ref a1)]) C dX6_setBy_161 (by decide) (by cases fs <;> rfl) ?_
                  refine hv3 (show (-2147483648) ≤ ivh6 a1 0 ∧ ivh6 a1 0 ≤ 2147483647 from W7.int t_a1 0) (show ivh6 a1 0 = ivh5 a1 0 from fl6.i t_a1 rfl 0) (show ivh5 a1 0 = ivb5 a1 0 from fl5.i t_a1 rfl 0) (fun ri70 ie71 ie72 => ?_)
                  refine c_lv (lv2 := [(8, .int (iI f6)), (6, .int (iI tn)), (7, (va_rf fs)), (3, .int (iI sc)), (4, .int (iI fr)), (5, .int (iI k)), (2, .int (iI 1)), (0, .ref a0), (1, .ref a1)]) [0, 1, 2, 3, 4, 5, 6, 7, 8] rfl ?_
                  exact J4  f6 _  W7 F7  (by omega) (by show f6 = 0 → ivh6 a0 7 ≤ 204 + 4 * k; omega) (by show ivh6 a0 4 = iv a0 4; omega) (SBN.jturn hB2 hW hS Fb5 t_a0 (by omega) (Or.inl ⟨by omega, hTN.2.2.1 (by omega)⟩) ⟨by omega, by omega⟩ gf5.2 (hTN.1 (by omega)).2.2 (by omega) F6 rq3 (Or.inl ⟨by omega, nq4⟩) tnb4 gf6.2)
            · replace hsc := (hsc.resolve_left c16)
              refine c_aload_n (j := 7) (x := a1) C dX6_setBy_113 rfl ?_
              obtain ⟨nb5, nq5, tnb5⟩ := opt_n (Wb5.opt t_a1 3 rfl rfl)
              have tnb5 : ∀ b, nb5 = some b → ty L cl b 100 := tnb5
              refine c_getr (k := 3) C ck_10 dX6_setBy_114 w2_185 (by decide) t_a1 rfl rfl (by decide) rfl nq5 ?_
              refine c_st (st2 := [(va_rf nb5), .ref a0]) rfl ?_
              refine c_goto (tgt := 122) C dX6_setBy_117 (by decide) ?_
              refine c_iload (j := 3) C dX6_setBy_122 rfl ?_
              refine c_iload (j := 4) C dX6_setBy_124 rfl ?_
              refine hv4 (show (-2147483648) ≤ ivb5 a1 0 ∧ ivb5 a1 0 ≤ 2147483647 from Wb5.int t_a1 0) (show ivb5 a1 0 = iv a1 0 from Fb5.i t_a1 rfl 0) (show 0 ≤ ivb5 a0 7 ∧ ivb5 a0 7 ≤ 100000 from Wb5.int t_a0 7) (show 0 ≤ ivb5 a0 4 ∧ ivb5 a0 4 ≤ 500 from Wb5.int t_a0 4) (fun ri71 ie73 ri72 ri73 => ?_)
              refine d_callV (As := [(va_rf nb5), .int (iI fr), .int (iI k)]) (rest := []) C hM (G_setPart (a0 := a0) (r := nb5) (i := fr) (n := k) Wb5 hS t_a0 tnb5 (by omega) (by omega) (by show 0 ≤ fr ∧ fr ≤ 500 ∧ 0 ≤ k ∧ k ≤ 500 ∧ ivb5 a0 7 ≤ 50000; omega)) dX6_setBy_126 kV_X6_74 rfl t_a0 rfl rfl (by decide) ck_7 rfl (Nat.le_of_ble_eq_true rfl) ⟨(Nat.le_of_ble_eq_true rfl), (Nat.le_of_ble_eq_true rfl)⟩ hph hph (show 0 + 0 = 0 from rfl) (by decide) (fun rh7 Lh7 clh7 lnh7 ivh7 rvh7 h7 => ?_)
              obtain ⟨f7, rfl, rfl, rfl, rfl, rfl, fl7, W8, rgf7, exf7⟩ := h7
              have F8 := Fb5.call hX0 fl7 rfl
              refine c_st (st2 := [.int (iI f7)]) rfl ?_
              refine hv3 (show 0 ≤ ivh7 a0 4 ∧ ivh7 a0 4 ≤ 500 from W8.int t_a0 4) (show 0 ≤ ivh7 a0 7 ∧ ivh7 a0 7 ≤ 100000 from W8.int t_a0 7) (show ((f7 = 0 ∨ f7 = 6 ∨ f7 = 7) ∧ ivh7 a0 4 = ivb5 a0 4 ∧ ivh7 a0 7 ≤ ivb5 a0 7 + 208 ∧ (f7 = 0 → (ivh7 a0 7 ≤ ivb5 a0 7 ∨ ivh7 a0 7 ≤ 200))) ∧ SPX sk ln ivb5 rv ivh7 a0 nb5 fr k f7 from exf7) (fun ri74 ri75 gf7 => ?_)
              refine c_istore (lv2 := [(8, .int (iI f7)), (6, .int (iI tn)), (7, (va_rf fs)), (3, .int (iI sc)), (4, .int (iI fr)), (5, .int (iI k)), (2, .int (iI 1)), (0, .ref a0), (1, .ref a1)]) C dX6_setBy_129 (by decide) (by cases fs <;> rfl) ?_
              refine c_iload (j := 0) C dX6_setBy_131 rfl ?_
              refine c_if_ne (tgt := 163) C (r32_067 gf7.1.1) dX6_setBy_133 (by decide) (fun c19 => ?_) (fun c19 => ?_)
              · replace gf7 := (And.intro (And.intro (gf7.1.1.resolve_left c19) (And.intro gf7.1.2.1 (And.intro gf7.1.2.2.1 trivial))) gf7.2)
                refine hv2 (show (-2147483648) ≤ ivh7 a1 0 ∧ ivh7 a1 0 ≤ 2147483647 from W8.int t_a1 0) (show ivh7 a1 0 = ivb5 a1 0 from fl7.i t_a1 rfl 0) (fun ri76 ie78 => ?_)
                refine c_lv (lv2 := [(8, .int (iI f7)), (6, .int (iI tn)), (7, (va_rf fs)), (3, .int (iI sc)), (4, .int (iI fr)), (5, .int (iI k)), (2, .int (iI 1)), (0, .ref a0), (1, .ref a1)]) [0, 1, 2, 3, 4, 5, 6, 7, 8] rfl ?_
                exact J4  f7 _  W8 F8  (by omega) (by show f7 = 0 → ivh7 a0 7 ≤ 204 + 4 * k; omega) (by show ivh7 a0 4 = iv a0 4; omega) (SBN.jfail hB2 hW hS Fb5 t_a0 (by omega) (Or.inr ⟨by omega, nq5.symm⟩) ⟨by omega, by omega⟩ gf7.2 (by by_cases q : tn = 1; exact Or.inr (hTN.1 q).2.2; exact Or.inl (hTN.2.1 q)) (by omega))
              · replace gf7 := (And.intro (And.intro c19 (And.intro gf7.1.2.1 (And.intro gf7.1.2.2.1 (gf7.1.2.2.2 c19)))) gf7.2)
                refine c_iload (j := 1) C dX6_setBy_136 rfl ?_
                refine c_if_eq (tgt := 163) C (r32_01 htn) dX6_setBy_138 (by decide) (fun c20 => ?_) (fun c20 => ?_)
                · clear htn
                  clear htk
                  refine hv2 (show (-2147483648) ≤ ivh7 a1 0 ∧ ivh7 a1 0 ≤ 2147483647 from W8.int t_a1 0) (show ivh7 a1 0 = ivb5 a1 0 from fl7.i t_a1 rfl 0) (fun ri77 ie79 => ?_)
                  refine c_lv (lv2 := [(8, .int (iI f7)), (6, .int (iI tn)), (7, (va_rf fs)), (3, .int (iI sc)), (4, .int (iI fr)), (5, .int (iI k)), (2, .int (iI 1)), (0, .ref a0), (1, .ref a1)]) [0, 1, 2, 3, 4, 5, 6, 7, 8] rfl ?_
                  exact J4  f7 _  W8 F8  (by omega) (by show f7 = 0 → ivh7 a0 7 ≤ 204 + 4 * k; omega) (by show ivh7 a0 4 = iv a0 4; omega) (SBN.jlast hB2 hW hS Fb5 t_a0 (by omega) (Or.inr ⟨by omega, nq5.symm⟩) (hTN.2.1 (by omega)) gf7.2 (by omega))
                · replace htn := (htn.resolve_left c20)
                  refine c_aload_n (j := 7) (x := a0) C dX6_setBy_141 rfl ?_
                  refine c_aload_n (j := 8) (x := a1) C dX6_setBy_142 rfl ?_
                  obtain ⟨rb4, rq4, trb4⟩ := W8.ref t_a1 6 rfl rfl rfl
                  have lnrb4 : 4 ≤ ln rb4 ∧ ln rb4 ≤ 4 := W8.len trb4 rfl
                  refine c_getr (k := 6) C ck_10 dX6_setBy_143 w2_195 (by decide) t_a1 rfl rfl (by decide) rfl rq4 ?_
                  refine c_st (st2 := [.ref rb4, .ref a0]) rfl ?_
                  refine c_iload_n (j := 3) C dX6_setBy_146 rfl ?_
                  refine c_if_eq (tgt := 154) C ⟨by omega, by omega⟩ dX6_setBy_147 (by decide) (fun z => absurd z (by omega)) (fun _ => ?_)
                  refine c_iconst C dX6_setBy_150 ?_
                  refine c_goto (tgt := 155) C dX6_setBy_151 (by decide) ?_
                  have ll4 : 4 ≤ ln rb4 ∧ ln rb4 ≤ 4 := W8.len trb4 rfl
                  obtain ⟨nb6, nq6, tnb6⟩ := opt_n (W8.opt trb4 ((3 : Int).toNat) rfl rfl)
                  have tnb6 : ∀ b, nb6 = some b → ty L cl b 20 := tnb6
                  refine c_aaldR C dX6_setBy_155 trb4 rfl (by omega) (by omega) (by omega) nq6 ?_
                  refine c_st (st2 := [(va_rf nb6), .ref a0]) rfl ?_
                  refine c_iload (j := 5) C dX6_setBy_156 rfl ?_
                  refine hv2 (show 0 ≤ ivh7 a0 10 ∧ ivh7 a0 10 ≤ 500 from W8.int t_a0 10) (show 0 ≤ ivh7 a0 11 ∧ ivh7 a0 11 ≤ 500 from W8.int t_a0 11) (fun ri78 ri79 => ?_)
                  refine d_callV (As := [(va_rf nb6), .int (iI k)]) (rest := []) C hM (G_setTurn (a0 := a0) (r := nb6) (i := k) W8 hS t_a0 tnb6 (by omega) (by show ivh7 a0 7 ≤ 90000; omega)) dX6_setBy_158 kV_X6_82 rfl t_a0 rfl rfl (by decide) ck_7 rfl (Nat.le_of_ble_eq_true rfl) ⟨(Nat.le_of_ble_eq_true rfl), (Nat.le_of_ble_eq_true rfl)⟩ hph hph (show 0 + 0 = 0 from rfl) (by decide) (fun rh8 Lh8 clh8 lnh8 ivh8 rvh8 h8 => ?_)
                  obtain ⟨f8, rfl, rfl, rfl, rfl, rfl, fl8, W9, rgf8, exf8⟩ := h8
                  have F9 := F8.call hX0 fl8 rfl
                  refine c_st (st2 := [.int (iI f8)]) rfl ?_
                  refine hv5 (show 0 ≤ ivh8 a0 4 ∧ ivh8 a0 4 ≤ 500 from W9.int t_a0 4) (show 0 ≤ ivh8 a0 7 ∧ ivh8 a0 7 ≤ 100000 from W9.int t_a0 7) (show 0 ≤ ivh8 a0 10 ∧ ivh8 a0 10 ≤ 500 from W9.int t_a0 10) (show 0 ≤ ivh8 a0 11 ∧ ivh8 a0 11 ≤ 500 from W9.int t_a0 11) (show ((f8 = 0 ∨ f8 = 7) ∧ ivh8 a0 4 = ivh7 a0 4 ∧ ivh7 a0 7 ≤ ivh8 a0 7 ∧ ivh8 a0 7 ≤ ivh7 a0 7 + 4 ∧ ivh8 a0 10 = ivh7 a0 10 ∧ ivh8 a0 11 = ivh7 a0 11) ∧ STX ln ivh7 rv ivh8 a0 nb6 f8 from exf8) (fun ri80 ri81 ri82 ri83 gf8 => ?_)
                  refine c_istore (lv2 := [(8, .int (iI f8)), (6, .int (iI tn)), (7, (va_rf fs)), (3, .int (iI sc)), (4, .int (iI fr)), (5, .int (iI k)), (2, .int (iI 1)), (0, .ref a0), (1, .ref a1)]) C dX6_setBy_161 (by decide) (by cases fs <;> rfl) ?_
                  refine hv3 (show (-2147483648) ≤ ivh8 a1 0 ∧ ivh8 a1 0 ≤ 2147483647 from W9.int t_a1 0) (show ivh8 a1 0 = ivh7 a1 0 from fl8.i t_a1 rfl 0) (show ivh7 a1 0 = ivb5 a1 0 from fl7.i t_a1 rfl 0) (fun ri84 ie86 ie87 => ?_)
                  refine c_lv (lv2 := [(8, .int (iI f8)), (6, .int (iI tn)), (7, (va_rf fs)), (3, .int (iI sc)), (4, .int (iI fr)), (5, .int (iI k)), (2, .int (iI 1)), (0, .ref a0), (1, .ref a1)]) [0, 1, 2, 3, 4, 5, 6, 7, 8] rfl ?_
                  exact J4  f8 _  W9 F9  (by omega) (by show f8 = 0 → ivh8 a0 7 ≤ 204 + 4 * k; omega) (by show ivh8 a0 4 = iv a0 4; omega) (SBN.jturn hB2 hW hS Fb5 t_a0 (by omega) (Or.inr ⟨by omega, nq5.symm⟩) ⟨by omega, by omega⟩ gf7.2 (hTN.1 (by omega)).2.2 (by omega) F8 rq4 (Or.inr ⟨by omega, nq6⟩) tnb6 gf8.2)
          refine c_iload_n (j := 3) C dX6_setBy_36 rfl ?_
          refine c_if_eq (tgt := 74) C ⟨by decide, by decide⟩ dX6_setBy_37 (by decide) (fun z => absurd z (by omega)) (fun _ => ?_)
          refine c_iload (j := 2) C dX6_setBy_40 rfl ?_
          refine c_aload_n (j := 4) (x := a0) C dX6_setBy_42 rfl ?_
          refine c_get (k := 4) C ck_7 dX6_setBy_43 w1_140 (by decide) t_a0 rfl rfl (by decide) rfl ?_
          refine c_icmp_ge (tgt := 74) C ⟨by omega, by omega⟩ (r32_c (lo := 0) (hi := 500) ri47.1 ri47.2 (by decide) (by decide)) dX6_setBy_46 (by decide) (fun c21 => ?_) (fun c21 => ?_)
          · refine c_iconst C dX6_setBy_74 ?_
            refine c_istore (lv2 := [(6, .int (iI 0)), (3, .int (iI sc)), (4, .int (iI fr)), (5, .int (iI k)), (2, .int (iI 1)), (0, .ref a0), (1, .ref a1)]) C dX6_setBy_75 (by decide) rfl ?_
            refine c_iload (j := 3) C dX6_setBy_77 rfl ?_
            refine c_aload_n (j := 5) (x := a0) C dX6_setBy_79 rfl ?_
            refine c_get (k := 4) C ck_7 dX6_setBy_80 w1_140 (by decide) t_a0 rfl rfl (by decide) rfl ?_
            refine c_icmp_ge (tgt := 94) C ⟨by omega, by omega⟩ (r32_c (lo := 0) (hi := 500) ri47.1 ri47.2 (by decide) (by decide)) dX6_setBy_83 (by decide) (fun _ => ?_) (fun z => absurd z (by omega))
            refine c_iload_n (j := 4) C dX6_setBy_94 rfl ?_
            refine c_if_eq (tgt := 105) C ⟨by decide, by decide⟩ dX6_setBy_95 (by decide) (fun z => absurd z (by omega)) (fun _ => ?_)
            refine c_aload_n (j := 6) (x := a1) C dX6_setBy_98 rfl ?_
            obtain ⟨nb7, nq7, tnb7⟩ := opt_n (Wb4.opt t_a1 2 rfl rfl)
            have tnb7 : ∀ b, nb7 = some b → ty L cl b 100 := tnb7
            refine c_getr (k := 2) C ck_10 dX6_setBy_99 w2_182 (by decide) t_a1 rfl rfl (by decide) rfl nq7 ?_
            refine c_st (st2 := [(va_rf nb7)]) rfl ?_
            refine c_goto (tgt := 106) C dX6_setBy_102 (by decide) ?_
            refine c_astorer (r := nb7) (lv2 := [(7, (va_rf nb7)), (6, .int (iI 0)), (3, .int (iI sc)), (4, .int (iI fr)), (5, .int (iI k)), (2, .int (iI 1)), (0, .ref a0), (1, .ref a1)]) C dX6_setBy_106 (by decide) rfl ?_
            refine hv3 (show 0 ≤ ivb4 a0 7 ∧ ivb4 a0 7 ≤ 100000 from Wb4.int t_a0 7) (show (-2147483648) ≤ ivb4 a1 0 ∧ ivb4 a1 0 ≤ 2147483647 from Wb4.int t_a1 0) (show ivb4 a1 0 = iv a1 0 from Fb4.i t_a1 rfl 0) (fun ri85 ri86 ie89 => ?_)
            refine c_lv (lv2 := [(6, .int (iI 0)), (7, (va_rf nb7)), (3, .int (iI sc)), (4, .int (iI fr)), (5, .int (iI k)), (2, .int (iI 1)), (0, .ref a0), (1, .ref a1)]) [1, 0, 2, 3, 4, 5, 6, 7] rfl ?_
            exact J3  nb7 0 _  Wb4 Fb4 tnb7 (by omega) (by omega) (fun q => absurd q (by omega)) (by show ivb4 a0 7 ≤ 200 + 4 * k; omega) hc4 ⟨(fun q => absurd q (by decide)), (fun _ => by omega), (fun _ => nq7.symm), (fun q => by exfalso; omega)⟩ hB
          · refine c_aload_n (j := 4) (x := a0) C dX6_setBy_49 rfl ?_
            obtain ⟨rb5, rq5, trb5⟩ := Wb4.ref t_a0 0 rfl rfl rfl
            have lnrb5 : 500 ≤ ln rb5 ∧ ln rb5 ≤ 500 := Wb4.len trb5 rfl
            refine c_getr (k := 0) C ck_7 dX6_setBy_50 w1_136 (by decide) t_a0 rfl rfl (by decide) rfl rq5 ?_
            refine c_st (st2 := [.ref rb5]) rfl ?_
            refine c_iload (j := 2) C dX6_setBy_53 rfl ?_
            have ll5 : 500 ≤ ln rb5 ∧ ln rb5 ≤ 500 := Wb4.len trb5 rfl
            refine c_iald C dX6_setBy_55 trb5 rfl (by omega) (by omega) (by omega) ?_
            refine hv2 (show (-2147483648) ≤ ivb4 rb5 k.toNat ∧ ivb4 rb5 k.toNat ≤ 2147483647 from Wb4.int trb5 k.toNat) (show ivb4 rb5 k.toNat = iv rb5 k.toNat from Fb4.i trb5 rfl k.toNat) (fun ri87 ie90 => ?_)
            refine c_iload_n (j := 0) C dX6_setBy_56 rfl ?_
            refine c_if_eq (tgt := 65) C (r32_01 hsc) dX6_setBy_57 (by decide) (fun c22 => ?_) (fun c22 => ?_)
            · clear hsc
              refine c_bipush (z := 60) C dX6_setBy_65 (by decide) ?_
              refine c_icmp_ne (tgt := 74) C (r32_c (lo := (-2147483648)) (hi := 2147483647) ri87.1 ri87.2 (by decide) (by decide)) ⟨by decide, by decide⟩ dX6_setBy_67 (by decide) (fun c23 => ?_) (fun c23 => ?_)
              · refine c_iconst C dX6_setBy_74 ?_
                refine c_istore (lv2 := [(6, .int (iI 0)), (3, .int (iI sc)), (4, .int (iI fr)), (5, .int (iI k)), (2, .int (iI 1)), (0, .ref a0), (1, .ref a1)]) C dX6_setBy_75 (by decide) rfl ?_
                refine c_iload (j := 3) C dX6_setBy_77 rfl ?_
                refine c_aload_n (j := 5) (x := a0) C dX6_setBy_79 rfl ?_
                refine c_get (k := 4) C ck_7 dX6_setBy_80 w1_140 (by decide) t_a0 rfl rfl (by decide) rfl ?_
                refine c_icmp_ge (tgt := 94) C ⟨by omega, by omega⟩ (r32_c (lo := 0) (hi := 500) ri47.1 ri47.2 (by decide) (by decide)) dX6_setBy_83 (by decide) (fun z => absurd z (by omega)) (fun _ => ?_)
                refine c_iload (j := 0) C dX6_setBy_86 rfl ?_
                refine c_if_ne (tgt := 94) C ⟨by decide, by decide⟩ dX6_setBy_88 (by decide) (fun z => absurd z (by omega)) (fun _ => ?_)
                refine c_goto (tgt := 187) C dX6_setBy_91 (by decide) ?_
                refine c_iinc (z := k) (j := 3) (lv2 := [(5, .int (iI (k + 1))), (6, .int (iI 0)), (3, .int (iI sc)), (4, .int (iI fr)), (2, .int (iI 1)), (0, .ref a0), (1, .ref a1)]) C dX6_setBy_187 rfl (by decide) rfl ?_
                refine c_goto (tgt := 27) C dX6_setBy_190 (by decide) ?_
                refine hv3 (show 0 ≤ ivb4 a0 7 ∧ ivb4 a0 7 ≤ 100000 from Wb4.int t_a0 7) (show (-2147483648) ≤ ivb4 a1 0 ∧ ivb4 a1 0 ≤ 2147483647 from Wb4.int t_a1 0) (show ivb4 a1 0 = iv a1 0 from Fb4.i t_a1 rfl 0) (fun ri88 ri89 ie92 => ?_)
                refine c_lv (lv2 := [(3, .int (iI sc)), (4, .int (iI fr)), (5, .int (iI (k + 1))), (2, .int (iI 1)), (0, .ref a0), (1, .ref a1)]) [2, 3, 0, 4, 5, 6] rfl ?_
                exact ih2  sc fr (k + 1) _ (by omega) Wb4 Fb4  (by omega) (by omega) (by omega) (by show ivb4 a0 7 ≤ 200 + 4 * (k + 1); omega) hc4 (hB.skip (by omega) (by omega) (Or.inr ⟨_, rq5, (by unfold sgj; split <;> omega)⟩))
              · refine c_iconst C dX6_setBy_70 ?_
                refine c_goto (tgt := 75) C dX6_setBy_71 (by decide) ?_
                refine c_istore (lv2 := [(6, .int (iI 1)), (3, .int (iI sc)), (4, .int (iI fr)), (5, .int (iI k)), (2, .int (iI 1)), (0, .ref a0), (1, .ref a1)]) C dX6_setBy_75 (by decide) rfl ?_
                refine c_iload (j := 3) C dX6_setBy_77 rfl ?_
                refine c_aload_n (j := 5) (x := a0) C dX6_setBy_79 rfl ?_
                refine c_get (k := 4) C ck_7 dX6_setBy_80 w1_140 (by decide) t_a0 rfl rfl (by decide) rfl ?_
                refine c_icmp_ge (tgt := 94) C ⟨by omega, by omega⟩ (r32_c (lo := 0) (hi := 500) ri47.1 ri47.2 (by decide) (by decide)) dX6_setBy_83 (by decide) (fun z => absurd z (by omega)) (fun _ => ?_)
                refine c_iload (j := 0) C dX6_setBy_86 rfl ?_
                refine c_if_ne (tgt := 94) C ⟨by decide, by decide⟩ dX6_setBy_88 (by decide) (fun _ => ?_) (fun z => absurd z (by omega))
                refine c_iload_n (j := 4) C dX6_setBy_94 rfl ?_
                refine c_if_eq (tgt := 105) C ⟨by decide, by decide⟩ dX6_setBy_95 (by decide) (fun z => absurd z (by omega)) (fun _ => ?_)
                refine c_aload_n (j := 6) (x := a1) C dX6_setBy_98 rfl ?_
                obtain ⟨nb8, nq8, tnb8⟩ := opt_n (Wb4.opt t_a1 2 rfl rfl)
                have tnb8 : ∀ b, nb8 = some b → ty L cl b 100 := tnb8
                refine c_getr (k := 2) C ck_10 dX6_setBy_99 w2_182 (by decide) t_a1 rfl rfl (by decide) rfl nq8 ?_
                refine c_st (st2 := [(va_rf nb8)]) rfl ?_
                refine c_goto (tgt := 106) C dX6_setBy_102 (by decide) ?_
                refine c_astorer (r := nb8) (lv2 := [(7, (va_rf nb8)), (6, .int (iI 1)), (3, .int (iI sc)), (4, .int (iI fr)), (5, .int (iI k)), (2, .int (iI 1)), (0, .ref a0), (1, .ref a1)]) C dX6_setBy_106 (by decide) rfl ?_
                refine hv3 (show 0 ≤ ivb4 a0 7 ∧ ivb4 a0 7 ≤ 100000 from Wb4.int t_a0 7) (show (-2147483648) ≤ ivb4 a1 0 ∧ ivb4 a1 0 ≤ 2147483647 from Wb4.int t_a1 0) (show ivb4 a1 0 = iv a1 0 from Fb4.i t_a1 rfl 0) (fun ri90 ri91 ie94 => ?_)
                refine c_lv (lv2 := [(6, .int (iI 1)), (7, (va_rf nb8)), (3, .int (iI sc)), (4, .int (iI fr)), (5, .int (iI k)), (2, .int (iI 1)), (0, .ref a0), (1, .ref a1)]) [1, 0, 2, 3, 4, 5, 6, 7] rfl ?_
                exact J3  nb8 1 _  Wb4 Fb4 tnb8 (by omega) (by omega) (fun _ => by omega) (by show ivb4 a0 7 ≤ 200 + 4 * k; omega) hc4 ⟨(fun _ => ⟨by omega, by omega, _, rq5, (by unfold sgj; split <;> omega)⟩), (fun q => absurd rfl q), (fun _ => nq8.symm), (fun q => by exfalso; omega)⟩ hB
            · replace hsc := (hsc.resolve_left c22)
              refine c_bipush (z := 62) C dX6_setBy_60 (by decide) ?_
              refine c_goto (tgt := 67) C dX6_setBy_62 (by decide) ?_
              refine c_icmp_ne (tgt := 74) C (r32_c (lo := (-2147483648)) (hi := 2147483647) ri87.1 ri87.2 (by decide) (by decide)) ⟨by decide, by decide⟩ dX6_setBy_67 (by decide) (fun c24 => ?_) (fun c24 => ?_)
              · refine c_iconst C dX6_setBy_74 ?_
                refine c_istore (lv2 := [(6, .int (iI 0)), (3, .int (iI sc)), (4, .int (iI fr)), (5, .int (iI k)), (2, .int (iI 1)), (0, .ref a0), (1, .ref a1)]) C dX6_setBy_75 (by decide) rfl ?_
                refine c_iload (j := 3) C dX6_setBy_77 rfl ?_
                refine c_aload_n (j := 5) (x := a0) C dX6_setBy_79 rfl ?_
                refine c_get (k := 4) C ck_7 dX6_setBy_80 w1_140 (by decide) t_a0 rfl rfl (by decide) rfl ?_
                refine c_icmp_ge (tgt := 94) C ⟨by omega, by omega⟩ (r32_c (lo := 0) (hi := 500) ri47.1 ri47.2 (by decide) (by decide)) dX6_setBy_83 (by decide) (fun z => absurd z (by omega)) (fun _ => ?_)
                refine c_iload (j := 0) C dX6_setBy_86 rfl ?_
                refine c_if_ne (tgt := 94) C ⟨by decide, by decide⟩ dX6_setBy_88 (by decide) (fun z => absurd z (by omega)) (fun _ => ?_)
                refine c_goto (tgt := 187) C dX6_setBy_91 (by decide) ?_
                refine c_iinc (z := k) (j := 3) (lv2 := [(5, .int (iI (k + 1))), (6, .int (iI 0)), (3, .int (iI sc)), (4, .int (iI fr)), (2, .int (iI 1)), (0, .ref a0), (1, .ref a1)]) C dX6_setBy_187 rfl (by decide) rfl ?_
                refine c_goto (tgt := 27) C dX6_setBy_190 (by decide) ?_
                refine hv3 (show 0 ≤ ivb4 a0 7 ∧ ivb4 a0 7 ≤ 100000 from Wb4.int t_a0 7) (show (-2147483648) ≤ ivb4 a1 0 ∧ ivb4 a1 0 ≤ 2147483647 from Wb4.int t_a1 0) (show ivb4 a1 0 = iv a1 0 from Fb4.i t_a1 rfl 0) (fun ri92 ri93 ie96 => ?_)
                refine c_lv (lv2 := [(3, .int (iI sc)), (4, .int (iI fr)), (5, .int (iI (k + 1))), (2, .int (iI 1)), (0, .ref a0), (1, .ref a1)]) [2, 3, 0, 4, 5, 6] rfl ?_
                exact ih2  sc fr (k + 1) _ (by omega) Wb4 Fb4  (by omega) (by omega) (by omega) (by show ivb4 a0 7 ≤ 200 + 4 * (k + 1); omega) hc4 (hB.skip (by omega) (by omega) (Or.inr ⟨_, rq5, (by unfold sgj; split <;> omega)⟩))
              · refine c_iconst C dX6_setBy_70 ?_
                refine c_goto (tgt := 75) C dX6_setBy_71 (by decide) ?_
                refine c_istore (lv2 := [(6, .int (iI 1)), (3, .int (iI sc)), (4, .int (iI fr)), (5, .int (iI k)), (2, .int (iI 1)), (0, .ref a0), (1, .ref a1)]) C dX6_setBy_75 (by decide) rfl ?_
                refine c_iload (j := 3) C dX6_setBy_77 rfl ?_
                refine c_aload_n (j := 5) (x := a0) C dX6_setBy_79 rfl ?_
                refine c_get (k := 4) C ck_7 dX6_setBy_80 w1_140 (by decide) t_a0 rfl rfl (by decide) rfl ?_
                refine c_icmp_ge (tgt := 94) C ⟨by omega, by omega⟩ (r32_c (lo := 0) (hi := 500) ri47.1 ri47.2 (by decide) (by decide)) dX6_setBy_83 (by decide) (fun z => absurd z (by omega)) (fun _ => ?_)
                refine c_iload (j := 0) C dX6_setBy_86 rfl ?_
                refine c_if_ne (tgt := 94) C ⟨by decide, by decide⟩ dX6_setBy_88 (by decide) (fun _ => ?_) (fun z => absurd z (by omega))
                refine c_iload_n (j := 4) C dX6_setBy_94 rfl ?_
                refine c_if_eq (tgt := 105) C ⟨by decide, by decide⟩ dX6_setBy_95 (by decide) (fun z => absurd z (by omega)) (fun _ => ?_)
                refine c_aload_n (j := 6) (x := a1) C dX6_setBy_98 rfl ?_
                obtain ⟨nb9, nq9, tnb9⟩ := opt_n (Wb4.opt t_a1 2 rfl rfl)
                have tnb9 : ∀ b, nb9 = some b → ty L cl b 100 := tnb9
                refine c_getr (k := 2) C ck_10 dX6_setBy_99 w2_182 (by decide) t_a1 rfl rfl (by decide) rfl nq9 ?_
                refine c_st (st2 := [(va_rf nb9)]) rfl ?_
                refine c_goto (tgt := 106) C dX6_setBy_102 (by decide) ?_
                refine c_astorer (r := nb9) (lv2 := [(7, (va_rf nb9)), (6, .int (iI 1)), (3, .int (iI sc)), (4, .int (iI fr)), (5, .int (iI k)), (2, .int (iI 1)), (0, .ref a0), (1, .ref a1)]) C dX6_setBy_106 (by decide) rfl ?_
                refine hv3 (show 0 ≤ ivb4 a0 7 ∧ ivb4 a0 7 ≤ 100000 from Wb4.int t_a0 7) (show (-2147483648) ≤ ivb4 a1 0 ∧ ivb4 a1 0 ≤ 2147483647 from Wb4.int t_a1 0) (show ivb4 a1 0 = iv a1 0 from Fb4.i t_a1 rfl 0) (fun ri94 ri95 ie98 => ?_)
                refine c_lv (lv2 := [(6, .int (iI 1)), (7, (va_rf nb9)), (3, .int (iI sc)), (4, .int (iI fr)), (5, .int (iI k)), (2, .int (iI 1)), (0, .ref a0), (1, .ref a1)]) [1, 0, 2, 3, 4, 5, 6, 7] rfl ?_
                exact J3  nb9 1 _  Wb4 Fb4 tnb9 (by omega) (by omega) (fun _ => by omega) (by show ivb4 a0 7 ≤ 200 + 4 * k; omega) hc4 ⟨(fun _ => ⟨by omega, by omega, _, rq5, (by unfold sgj; split <;> omega)⟩), (fun q => absurd rfl q), (fun _ => nq9.symm), (fun q => by exfalso; omega)⟩ hB
    refine hv4 (show 0 ≤ iv1 a0 7 ∧ iv1 a0 7 ≤ 100000 from W1.int t_a0 7) (show iv1 a0 7 = 0 from by rw [pq1]; exact up2_s) (show 0 ≤ iv1 a0 4 ∧ iv1 a0 4 ≤ 500 from W1.int t_a0 4) (show iv1 a0 4 = iv a0 4 from by rw [pq1]; exact up2_j (by decide)) (fun ri96 ie99 ri97 ie100 => ?_)
    refine c_lv (lv2 := [(3, .int (iI 0)), (4, .int (iI 0)), (5, .int (iI 0)), (2, .int (iI 1)), (0, .ref a0), (1, .ref a1)]) [2, 1, 0, 3, 4, 5] rfl ?_
    exact Lp2 503 0 0 0 _ (by omega) W1 F1  (by omega) (by omega) (by omega) (by show iv1 a0 7 ≤ 200 + 4 * 0; omega) ie100 (SBI.init pq1 (by omega))
end
section
def PTL (iv : Nat → Nat → Int) (rv : Nat → Nat → Option Nat) (iv2 : Nat → Nat → Int) (s : Nat) (x : Int) : Prop := iv s 4 < 500 → iv2 s 4 = iv s 4 + 1 ∧ ∀ lb, rv s 0 = some lb → iv2 lb (iv s 4).toNat = x ∧ ∀ j : Nat, (j : Int) < iv s 4 → iv2 lb j = iv lb j
def HWD (iv : Nat → Nat → Int) (rv : Nat → Nat → Option Nat) (q : Nat) (fl : Int) : Prop := ∀ ss, CT iv rv q ss → (fl = 1 ↔ (iv q 2 ≤ 40 ∧ TLT ss (iv q 2)))
def HDX (sk ln : Nat → Nat) (iv : Nat → Nat → Int) (rv : Nat → Nat → Option Nat) (wd i f : Int) : Prop := ∀ v a, TRL sk ln iv rv v a → iv (sk 2) 2 = v 3 → CT iv rv (sk 2) (a 2) → wd = v 31 → HDS v a i f
def HDP (sk ln : Nat → Nat) (iv : Nat → Nat → Int) (rv : Nat → Nat → Option Nat) (i m : Int) : Prop := ∀ v a, TRL sk ln iv rv v a → iv (sk 2) 2 = v 3 → CT iv rv (sk 2) (a 2) → (v 3 ≤ 40 ∧ TLT (a 2) (v 3) ∧ WHL v a i) ∧ ∃ cs, SWC a (a 2) (v 3) i cs ∧ m = ((cs.length : Nat) : Int)
def LTA (sk ln : Nat → Nat) (iv : Nat → Nat → Int) (rv : Nat → Nat → Option Nat) (iv1 : Nat → Nat → Int) (rv1 : Nat → Nat → Option Nat) (k : Int) : Prop := ∀ ss, CT iv rv (sk 2) ss → LTW iv1 rv1 (sk 15) ss 0 k
section HROW
variable {h : Nat} {sk : Nat → Nat} {L L1 : List Nat} {cl ln cl1 ln1 : Nat → Nat} {iv iv1 iv2 iv3 iv4 iv5 : Nat → Nat → Int} {rv rv1 : Nat → Nat → Option Nat} {W : Nat → Int} {s lb pb bb i2 i3 b : Nat} {x y p k f fl f2 i wd m z2 z3 z4 : Int} {ls : List Nat}
theorem PTL.mk (h0 : rv s 0 = some lb) (e1 : iv1 = up2 iv lb p.toNat x) (e2 : iv2 = up2 iv1 pb i2 z2) (e3 : iv3 = up2 iv2 bb i3 z3) (e4 : iv4 = up2 iv3 s 5 z4) (e5 : iv5 = up2 iv4 s 4 y) (hp : p = iv s 4) (hy : y = iv s 4 + 1) (h4 : 0 ≤ iv s 4) (n1 : lb ≠ pb) (n2 : lb ≠ bb) (n3 : lb ≠ s) : PTL iv rv iv5 s x := fun _ => by
  refine ⟨by rw [e5, up2_s]; exact hy, fun lb' hb => ?_⟩
  rw [h0] at hb; cases hb
  subst hp
  refine ⟨?_, fun j hj => ?_⟩
  · rw [e5, up2_k n3, e4, up2_k n3, e3, up2_k n2, e2, up2_k n1, e1, up2_s]
  · rw [e5, up2_k n3, e4, up2_k n3, e3, up2_k n2, e2, up2_k n1, e1, up2_j (by omega)]
theorem PTL.full (h4 : 500 ≤ iv s 4) : PTL iv rv iv1 s x := fun e => absurd e (by omega)
theorem LTW.put (hl : LTW iv rv s W 0 k) (p : PTL iv rv iv2 s x) (h4 : iv s 4 = k) (hk : 0 ≤ k ∧ k < 500) (hx : x = W k.toNat) : LTW iv2 rv s W 0 (k + 1) := fun lb hb j h1 h2 => by
  obtain ⟨q1, q2⟩ := (p (by omega)).2 lb hb
  by_cases c : j < k
  · rw [q2 j.toNat (by omega)]; exact hl lb hb j h1 c
  · have e : iv2 lb k.toNat = x := by
      rw [← h4]; exact q1
    rw [show j = k by omega, e]; exact hx
theorem LTA.zero : LTA sk ln iv rv iv1 rv1 0 := fun ss hs lb hb j h1 h2 => absurd h1 (by omega)
theorem LTA.put (hl : LTA sk ln iv rv iv1 rv1 k) (p : PTL iv1 rv1 iv2 (sk 15) x) (h4 : iv1 (sk 15) 4 = k) (hk : 0 ≤ k ∧ k < 500) (hx : ∀ ss, CT iv rv (sk 2) ss → x = ss k.toNat) : LTA sk ln iv rv iv2 rv1 (k + 1) := fun ss hs => (hl ss hs).put p h4 hk (hx ss hs)
theorem LTA.ni (hl : LTA sk ln iv rv iv1 rv1 k) (hW : WT h sk L1 cl1 ln1 iv1 rv1) (hF : fT ls L1 cl1 iv1 rv1 iv2 rv1) (hc : ls.contains 50 = false) (ts : ty L1 cl1 (sk 15) 15) : LTA sk ln iv rv iv2 rv1 k := fun ss hs => (hl ss hs).ni hW hF hc ts
theorem HDX.bad (hw : HWD iv rv (sk 2) fl) (hf : fl ≠ 1) (e : f = -1) : HDX sk ln iv rv wd i f := fun v a hR h3 hc _ => HDS.bad (fun q => hf ((hw _ hc).mpr ⟨by omega, by rw [h3]; exact q.2⟩)) e
theorem HDX.nw (w : WOX sk ln1 iv1 rv1 i none) (hq : QT h sk L cl ln iv rv L1 cl1 ln1 iv1 rv1) (e : f = -1) : HDX sk ln iv rv wd i f := fun v a hR _ _ _ => HDS.nw (fun g => by
  rcases w v a (hR.qq hq) with ⟨_, q⟩ | ⟨b, q, _⟩
  · exact q g
  · cases q) e
theorem HDX.cb {v : Nat → Int} {a : Nat → Nat → Int} (w : WOX sk ln1 iv1 rv1 i (some b)) (hq : QT h sk L cl ln iv rv L1 cl1 ln1 iv1 rv1) (hl : LTA sk ln iv rv iv1 rv1 k) (h4 : iv1 (sk 15) 4 = k) (hk : k = iv (sk 2) 2) (hR : TRL sk ln iv rv v a) (h3 : iv (sk 2) 2 = v 3) (hc : CT iv rv (sk 2) (a 2)) : CTB sk ln1 iv1 rv1 (sk 15) b v a (a 2) i.toNat ∧ ((i.toNat : Nat) : Int) = i ∧ iv1 (sk 15) 4 = v 3 ∧ WHL v a i := by
  obtain ⟨p1, p2, p3⟩ := w.smt (hR.qq hq)
  exact ⟨⟨hR.qq hq, by omega, p2, by rw [h4]; exact hl _ hc⟩, by omega, by omega, p3⟩
theorem HDX.ns (w : WOX sk ln1 iv1 rv1 i (some b)) (hq : QT h sk L cl ln iv rv L1 cl1 ln1 iv1 rv1) (hl : LTA sk ln iv rv iv1 rv1 k) (h4 : iv1 (sk 15) 4 = k) (hk : k = iv (sk 2) 2) (sb : SBX sk ln1 iv1 rv1 iv2 (sk 15) b f2) (hf2 : f2 ≠ 0) (e : f = -1) : HDX sk ln iv rv wd i f := fun v a hR h3 hc _ => HDS.ns (fun g => by
  obtain ⟨c1, c2, c3, _⟩ := HDX.cb w hq hl h4 hk hR h3 hc
  obtain ⟨cs, g1⟩ := g
  have g2 := SWC.iff0.mp g1
  refine (sb v a _ _ c1).2 hf2 ⟨cs, ?_, g2.2⟩
  rw [c2, c3]; exact g2.1) e
theorem HDP.mk (w : WOX sk ln1 iv1 rv1 i (some b)) (hq : QT h sk L cl ln iv rv L1 cl1 ln1 iv1 rv1) (hl : LTA sk ln iv rv iv1 rv1 k) (h4 : iv1 (sk 15) 4 = k) (hk : k = iv (sk 2) 2) (hw : HWD iv rv (sk 2) fl) (hfl : fl = 1) (sb : SBX sk ln1 iv1 rv1 iv2 (sk 15) b f2) (hf2 : f2 = 0) (hm : m = iv2 (sk 15) 7) : HDP sk ln iv rv i m := fun v a hR h3 hc => by
  obtain ⟨c1, c2, c3, c4⟩ := HDX.cb w hq hl h4 hk hR h3 hc
  have d1 := (hw _ hc).mp hfl
  rw [h3] at d1
  obtain ⟨cs, s1, s2, s3⟩ := (sb v a _ _ c1).1 hf2
  rw [c2, c3] at s1
  exact ⟨⟨d1.1, d1.2, c4⟩, cs, SWC.iff0.mpr ⟨s1, s2⟩, hm.trans s3.1.1⟩
theorem HDX.ok (hp : HDP sk ln iv rv i m) (hf : (m ≤ wd ∧ f = m) ∨ (wd < m ∧ f = wd)) : HDX sk ln iv rv wd i f := fun v a hR h3 hc hw => by
  obtain ⟨p1, cs, p2, p3⟩ := hp v a hR h3 hc
  refine Or.inr ⟨p1, cs, p2, ?_⟩
  omega
end HROW
end
section
set_option maxHeartbeats 4000000 in
set_option maxRecDepth 100000 in
theorem G_wclear {l : Launch} {G : GT} {mi : Nat} {sk : Nat → Nat} {L : List Nat} {cl ln : Nat → Nat} {iv : Nat → Nat → Int} {rv : Nat → Nat → Option Nat}  {a0 : Nat} (hW : WT (g0 G) sk L cl ln iv rv) (hS : SKL sk L cl) (t_a0 : ty L cl a0 15)  : Mc l G mi (Phi (g0 G) sk) PHM yX6_clear cX6_clear 1 none 0 [.ref a0] L cl ln iv rv 0 (fun v L2 cl2 ln2 iv2 rv2 => v = none ∧ L = L2 ∧ cl = cl2 ∧ ln = ln2 ∧ rv = rv2 ∧ fT [15] L cl iv rv iv2 rv2 ∧ WT (g0 G) sk L2 cl2 ln2 iv2 rv2 ∧ (iv2 a0 4 = 0)) := by
  refine Mc.mk (by decide) (Nat.le_of_ble_eq_true rfl) ?_
  intro p e s m args below meth c A C hM
  refine hv3 (Phi.le hW hS) (show XT L cl ln L cl ln from XT.refl) (show fT [15] L cl iv rv iv rv from fT.refl) (fun hph hX0 hF0 => ?_)
  refine c_aload_n (j := 0) (x := a0) C dX6_clear_0 rfl ?_
  refine c_iconst C dX6_clear_1 ?_
  refine c_put (z := 0) (k := 4) C ck_7 dX6_clear_2 w1_140 (by decide) rfl t_a0 rfl rfl (by decide) rfl (by rfl) (by rfl) (fun iv1 pq1 => ?_)
  refine hv2 (hW.puti pq1 t_a0 ⟨by decide, by decide⟩ rfl) (hF0.puti hX0 pq1 t_a0 rfl) (fun W1 F1 => ?_)
  refine c_aload_n (j := 0) (x := a0) C dX6_clear_5 rfl ?_
  refine c_iconst C dX6_clear_6 ?_
  refine c_put (z := 0) (k := 5) C ck_7 dX6_clear_7 w1_143 (by decide) rfl t_a0 rfl rfl (by decide) rfl (by decide) (by decide) (fun iv2 pq2 => ?_)
  refine hv4 (W1.puti pq2 t_a0 ⟨by decide, by decide⟩ rfl) (F1.puti hX0 pq2 t_a0 rfl) (show iv2 a0 4 = iv1 a0 4 from by rw [pq2]; exact up2_j (by decide)) (show iv1 a0 4 = 0 from by rw [pq1]; exact up2_s) (fun W2 F2 ie1 ie2 => ?_)
  have ri1 : 0 ≤ iv2 a0 4 ∧ iv2 a0 4 ≤ 500 := W2.int t_a0 4
  exact c_vret C dX6_clear_10 rfl (by decide) (rom0 hph hph (by decide)) ⟨rfl, rfl, rfl, rfl, rfl, F2, W2, (by omega)⟩
set_option maxHeartbeats 4000000 in
set_option maxRecDepth 100000 in
theorem G_put {l : Launch} {G : GT} {mi : Nat} {sk : Nat → Nat} {L : List Nat} {cl ln : Nat → Nat} {iv : Nat → Nat → Int} {rv : Nat → Nat → Option Nat}  {a0 : Nat} {x : Int} {y : Int} (hW : WT (g0 G) sk L cl ln iv rv) (hS : SKL sk L cl) (t_a0 : ty L cl a0 15) (h_x : -2147483648 ≤ x ∧ x ≤ 2147483647) (h_y : -2147483648 ≤ y ∧ y ≤ 2147483647)  : Mc l G mi (Phi (g0 G) sk) PHM yX6_put cX6_put 3 none 0 [.ref a0, .int (iI x), .int (iI y)] L cl ln iv rv 0 (fun v L2 cl2 ln2 iv2 rv2 => v = none ∧ L = L2 ∧ cl = cl2 ∧ ln = ln2 ∧ rv = rv2 ∧ fT [15, 50, 51, 52] L cl iv rv iv2 rv2 ∧ WT (g0 G) sk L2 cl2 ln2 iv2 rv2 ∧ ((iv a0 4 < 500 → iv2 a0 4 = iv a0 4 + 1) ∧ PTL iv rv iv2 a0 x)) := by
  refine Mc.mk (by decide) (Nat.le_of_ble_eq_true rfl) ?_
  intro p e s m args below meth c A C hM
  refine hv3 (Phi.le hW hS) (show XT L cl ln L cl ln from XT.refl) (show fT [15, 50, 51, 52] L cl iv rv iv rv from fT.refl) (fun hph hX0 hF0 => ?_)
  refine c_aload_n (j := 0) (x := a0) C dX6_put_0 rfl ?_
  have ri1 : 0 ≤ iv a0 4 ∧ iv a0 4 ≤ 500 := hW.int t_a0 4
  refine c_get (k := 4) C ck_7 dX6_put_1 w1_140 (by decide) t_a0 rfl rfl (by decide) rfl ?_
  refine c_sipush (z := 500) C dX6_put_4 (by decide) ?_
  refine c_icmp_lt (tgt := 11) C (r32_c (lo := 0) (hi := 500) ri1.1 ri1.2 (by decide) (by decide)) ⟨by decide, by decide⟩ dX6_put_7 (by decide) (fun c1 => ?_) (fun c1 => ?_)
  · refine c_aload_n (j := 0) (x := a0) C dX6_put_11 rfl ?_
    obtain ⟨rb1, rq1, trb1⟩ := hW.ref t_a0 0 rfl rfl rfl
    have lnrb1 : 500 ≤ ln rb1 ∧ ln rb1 ≤ 500 := hW.len trb1 rfl
    refine c_getr (k := 0) C ck_7 dX6_put_12 w1_136 (by decide) t_a0 rfl rfl (by decide) rfl rq1 ?_
    refine c_st (st2 := [.ref rb1]) rfl ?_
    refine c_aload_n (j := 0) (x := a0) C dX6_put_15 rfl ?_
    refine c_get (k := 4) C ck_7 dX6_put_16 w1_140 (by decide) t_a0 rfl rfl (by decide) rfl ?_
    refine c_iload_n (j := 1) C dX6_put_19 rfl ?_
    have ll1 : 500 ≤ ln rb1 ∧ ln rb1 ≤ 500 := hW.len trb1 rfl
    refine c_iast (x := x) C dX6_put_20 trb1 rfl (by omega) (by omega) (by omega) (fun iv1 pq1 => ?_)
    refine hv2 (hW.puti pq1 trb1 (show (-2147483648) ≤ x ∧ x ≤ 2147483647 by omega) rfl) (hF0.puti hX0 pq1 trb1 rfl) (fun W1 F1 => ?_)
    refine c_aload_n (j := 0) (x := a0) C dX6_put_21 rfl ?_
    obtain ⟨rb2, rq2, trb2⟩ := W1.ref t_a0 1 rfl rfl rfl
    have lnrb2 : 500 ≤ ln rb2 ∧ ln rb2 ≤ 500 := W1.len trb2 rfl
    refine c_getr (k := 1) C ck_7 dX6_put_22 w1_137 (by decide) t_a0 rfl rfl (by decide) rfl rq2 ?_
    refine c_st (st2 := [.ref rb2]) rfl ?_
    refine c_aload_n (j := 0) (x := a0) C dX6_put_25 rfl ?_
    refine hv2 (show 0 ≤ iv1 a0 4 ∧ iv1 a0 4 ≤ 500 from W1.int t_a0 4) (show iv1 a0 4 = iv a0 4 from by rw [pq1]; exact up2_k (ne_ty t_a0 trb1 (by decide))) (fun ri2 ie1 => ?_)
    refine c_get (k := 4) C ck_7 dX6_put_26 w1_140 (by decide) t_a0 rfl rfl (by decide) rfl ?_
    refine c_iload_n (j := 2) C dX6_put_29 rfl ?_
    have ll2 : 500 ≤ ln rb2 ∧ ln rb2 ≤ 500 := W1.len trb2 rfl
    refine c_iast (x := y) C dX6_put_30 trb2 rfl (by omega) (by omega) (by omega) (fun iv2 pq2 => ?_)
    refine hv2 (W1.puti pq2 trb2 (show (-2147483648) ≤ y ∧ y ≤ 2147483647 by omega) rfl) (F1.puti hX0 pq2 trb2 rfl) (fun W2 F2 => ?_)
    refine c_aload_n (j := 0) (x := a0) C dX6_put_31 rfl ?_
    obtain ⟨rb3, rq3, trb3⟩ := W2.ref t_a0 2 rfl rfl rfl
    have lnrb3 : 500 ≤ ln rb3 ∧ ln rb3 ≤ 500 := W2.len trb3 rfl
    refine c_getr (k := 2) C ck_7 dX6_put_32 w1_138 (by decide) t_a0 rfl rfl (by decide) rfl rq3 ?_
    refine c_st (st2 := [.ref rb3]) rfl ?_
    refine c_aload_n (j := 0) (x := a0) C dX6_put_35 rfl ?_
    refine hv2 (show 0 ≤ iv2 a0 4 ∧ iv2 a0 4 ≤ 500 from W2.int t_a0 4) (show iv2 a0 4 = iv1 a0 4 from by rw [pq2]; exact up2_k (ne_ty t_a0 trb2 (by decide))) (fun ri3 ie2 => ?_)
    refine c_get (k := 4) C ck_7 dX6_put_36 w1_140 (by decide) t_a0 rfl rfl (by decide) rfl ?_
    refine c_aload_n (j := 0) (x := a0) C dX6_put_39 rfl ?_
    refine hv3 (show 0 ≤ iv2 a0 5 ∧ iv2 a0 5 ≤ 1 from W2.int t_a0 5) (show iv2 a0 5 = iv1 a0 5 from by rw [pq2]; exact up2_k (ne_ty t_a0 trb2 (by decide))) (show iv1 a0 5 = iv a0 5 from by rw [pq1]; exact up2_k (ne_ty t_a0 trb1 (by decide))) (fun ri4 ie3 ie4 => ?_)
    refine c_get (k := 5) C ck_7 dX6_put_40 w1_143 (by decide) t_a0 rfl rfl (by decide) rfl ?_
    have ll3 : 500 ≤ ln rb3 ∧ ln rb3 ≤ 500 := W2.len trb3 rfl
    refine c_zast (x := iv2 a0 5) C dX6_put_43 trb3 rfl (by omega) (by omega) (by omega) (by omega) (fun iv3 pq3 => ?_)
    refine hv2 (W2.puti pq3 trb3 (show 0 ≤ (iv2 a0 5) ∧ (iv2 a0 5) ≤ 1 by omega) rfl) (F2.puti hX0 pq3 trb3 rfl) (fun W3 F3 => ?_)
    refine c_aload_n (j := 0) (x := a0) C dX6_put_44 rfl ?_
    refine c_iconst C dX6_put_45 ?_
    refine c_put (z := 0) (k := 5) C ck_7 dX6_put_46 w1_143 (by decide) rfl t_a0 rfl rfl (by decide) rfl (by decide) (by decide) (fun iv4 pq4 => ?_)
    refine hv2 (W3.puti pq4 t_a0 ⟨by decide, by decide⟩ rfl) (F3.puti hX0 pq4 t_a0 rfl) (fun W4 F4 => ?_)
    refine c_aload_n (j := 0) (x := a0) C dX6_put_49 rfl ?_
    refine c_dup C dX6_put_50 rfl ?_
    refine hv3 (show 0 ≤ iv4 a0 4 ∧ iv4 a0 4 ≤ 500 from W4.int t_a0 4) (show iv4 a0 4 = iv3 a0 4 from by rw [pq4]; exact up2_j (by decide)) (show iv3 a0 4 = iv2 a0 4 from by rw [pq3]; exact up2_k (ne_ty t_a0 trb3 (by decide))) (fun ri5 ie5 ie6 => ?_)
    refine c_get (k := 4) C ck_7 dX6_put_51 w1_140 (by decide) t_a0 rfl rfl (by decide) rfl ?_
    refine c_iconst C dX6_put_54 ?_
    refine c_iadd C dX6_put_55 ?_
    refine c_put (z := (iv4 a0 4) + 1) (k := 4) C ck_7 dX6_put_56 w1_140 (by decide) rfl t_a0 rfl rfl (by decide) rfl (by rfl) (by rfl) (fun iv5 pq5 => ?_)
    refine hv3 (W4.puti pq5 t_a0 (show 0 ≤ ((iv4 a0 4) + 1) ∧ ((iv4 a0 4) + 1) ≤ 500 by omega) rfl) (F4.puti hX0 pq5 t_a0 rfl) (show iv5 a0 4 = (iv4 a0 4) + 1 from by rw [pq5]; exact up2_s) (fun W5 F5 ie7 => ?_)
    have ri6 : 0 ≤ iv5 a0 4 ∧ iv5 a0 4 ≤ 500 := W5.int t_a0 4
    exact c_vret C dX6_put_59 rfl (by decide) (rom0 hph hph (by decide)) ⟨rfl, rfl, rfl, rfl, rfl, F5, W5, ⟨by omega, PTL.mk rq1 pq1 pq2 pq3 pq4 pq5 rfl (by omega) (by omega) (ne_ty trb1 trb2 (by decide)) (ne_ty trb1 trb3 (by decide)) (ne_ty trb1 t_a0 (by decide))⟩⟩
  · exact c_vret C dX6_put_10 rfl (by decide) (rom0 hph hph (by decide)) ⟨rfl, rfl, rfl, rfl, rfl, hF0, hW, ⟨by omega, PTL.full (by omega)⟩⟩
end
section
def PWH (iv : Nat → Nat → Int) (rv : Nat → Nat → Option Nat) (s : Nat) (w : List (Int × Nat × Int)) : Prop := iv s 4 = ((w.length : Nat) : Int) ∧ ∀ lb pb bb, rv s 0 = some lb → rv s 1 = some pb → rv s 2 = some bb → ∀ (j : Nat) (x : Int × Nat × Int), w[j]? = some x → iv lb j = x.1 ∧ iv pb j = ((x.2.1 : Nat) : Int) ∧ (1 ≤ j → iv bb j = x.2.2)
def PT2 (iv : Nat → Nat → Int) (rv : Nat → Nat → Option Nat) (iv2 : Nat → Nat → Int) (s : Nat) (x y : Int) : Prop := iv s 4 < 500 → iv2 s 4 = iv s 4 + 1 ∧ iv2 s 5 = 0 ∧ ∀ lb pb bb, rv s 0 = some lb → rv s 1 = some pb → rv s 2 = some bb → (iv2 lb (iv s 4).toNat = x ∧ iv2 pb (iv s 4).toNat = y ∧ iv2 bb (iv s 4).toNat = iv s 5) ∧ ∀ j : Nat, (j : Int) < iv s 4 → iv2 lb j = iv lb j ∧ iv2 pb j = iv pb j ∧ iv2 bb j = iv bb j
def PTK (iv : Nat → Nat → Int) (rv : Nat → Nat → Option Nat) (iv1 : Nat → Nat → Int) (q c s : Nat) : Prop := ∀ tt, CT iv rv q tt → ∃ w, TKI tt (iv q 2) (iv c 0) (iv1 c 0) (iv1 s 5) w ∧ PWH iv1 rv s w
def PTN (iv : Nat → Nat → Int) (rv : Nat → Nat → Option Nat) (iv1 : Nat → Nat → Int) (q c s : Nat) : Prop := ∀ tt, CT iv rv q tt → ∃ w, TKI tt (iv q 2) (iv c 0) (iv1 c 0 + 1) (iv1 s 5) w ∧ PWH iv1 rv s w
def STP (iv : Nat → Nat → Int) (rv : Nat → Nat → Option Nat) (iv2 : Nat → Nat → Int) (q c s : Nat) (f : Int) : Prop := ∀ tt, CT iv rv q tt → (iv c 1 = 0 → (iv q 2 ≤ iv c 0 ∧ f = 0 ∧ iv2 c 0 = iv c 0 ∧ iv2 c 1 = 0) ∨ (iv c 0 < iv q 2 ∧ f = 1 ∧ iv2 c 1 = 1 ∧ ((tt (iv c 0).toNat = 94 ∧ iv2 c 0 = iv c 0 + 1 ∧ iv2 c 2 = 1) ∨ (tt (iv c 0).toNat ≠ 94 ∧ iv2 c 0 = iv c 0 ∧ iv2 c 2 = 0)))) ∧ (iv c 1 ≠ 0 → ∃ (P : Int) (w : List (Int × Nat × Int)), 0 ≤ P ∧ TWF tt (iv q 2) (iv c 0) = (P.toNat, w) ∧ iv2 c 2 = iv c 2 ∧ ((w.length ≠ 0 ∧ f = 2 ∧ iv2 c 0 = P ∧ iv2 c 1 = iv c 1 ∧ PWH iv2 rv s w) ∨ (w.length = 0 ∧ f = 3 ∧ iv2 c 0 = P + 1 ∧ iv2 c 1 = 0)))
section WROW
variable {h : Nat} {sk : Nat → Nat} {L : List Nat} {cl ln : Nat → Nat} {iv iv1 iv2 iv3 iv4 iv5 : Nat → Nat → Int} {rv : Nat → Nat → Option Nat} {s q c lb pb bb : Nat} {x y p b f z5 z4 p2 p3 : Int} {ls : List Nat} {w : List (Int × Nat × Int)} {tt : Nat → Int}
theorem PT2.mk (h0 : rv s 0 = some lb) (h1 : rv s 1 = some pb) (h2 : rv s 2 = some bb) (e1 : iv1 = up2 iv lb p.toNat x) (e2 : iv2 = up2 iv1 pb p2.toNat y) (e3 : iv3 = up2 iv2 bb p3.toNat b) (e4 : iv4 = up2 iv3 s 5 0) (e5 : iv5 = up2 iv4 s 4 z4) (hp : p = iv s 4) (hp2 : p2 = iv s 4) (hp3 : p3 = iv s 4) (hb : b = iv s 5) (hy : z4 = iv s 4 + 1) (h4 : 0 ≤ iv s 4) (n1 : lb ≠ pb) (n2 : lb ≠ bb) (n3 : lb ≠ s) (n4 : pb ≠ bb) (n5 : pb ≠ s) (n6 : bb ≠ s) : PT2 iv rv iv5 s x y := fun _ => by
  refine ⟨by rw [e5, up2_s]; exact hy, by rw [e5, up2_j (by decide), e4, up2_s], fun lb' pb' bb' g0 g1 g2 => ?_⟩
  rw [h0] at g0; cases g0
  rw [h1] at g1; cases g1
  rw [h2] at g2; cases g2
  subst hp
  subst hp2
  subst hp3
  refine hv3 (show ∀ j, iv5 lb j = up2 iv lb (iv s 4).toNat x lb j from fun j => by rw [e5, up2_k n3, e4, up2_k n3, e3, up2_k n2, e2, up2_k n1, e1]) (show ∀ j, iv5 pb j = up2 iv1 pb (iv s 4).toNat y pb j from fun j => by rw [e5, up2_k n5, e4, up2_k n5, e3, up2_k n4, e2]) (show ∀ j, iv5 bb j = up2 iv2 bb (iv s 4).toNat b bb j from fun j => by rw [e5, up2_k n6, e4, up2_k n6, e3]) (fun kl kp kb => ?_)
  refine ⟨⟨by rw [kl, up2_s], by rw [kp, up2_s], by rw [kb, up2_s]; exact hb⟩, fun j hj => ⟨by rw [kl, up2_j (by omega)], ?_, ?_⟩⟩
  · rw [kp, up2_j (by omega), e1, up2_k (fun e => n1 e.symm)]
  · rw [kb, up2_j (by omega), e2, up2_k (fun e => n4 e.symm), e1, up2_k (fun e => n2 e.symm)]
theorem PT2.full (h4 : 500 ≤ iv s 4) : PT2 iv rv iv1 s x y := fun e => absurd e (by omega)
theorem PWH.nil (h4 : iv s 4 = 0) : PWH iv rv s [] := ⟨h4, fun _ _ _ _ _ _ j x e => by simp at e⟩
theorem PWH.put (hw : PWH iv rv s w) (p : PT2 iv rv iv2 s x y) (hl : iv s 4 < 500) {pp : Nat} (hy : y = ((pp : Nat) : Int)) : PWH iv2 rv s (w ++ [(x, pp, iv s 5)]) := by
  obtain ⟨h1, h2⟩ := hw
  obtain ⟨p1, _, p3⟩ := p hl
  have e0 : (w ++ [(x, pp, iv s 5)]).length = w.length + 1 := by rw [List.length_append]; rfl
  refine ⟨by omega, fun lb pb bb g0 g1 g2 j z e => ?_⟩
  obtain ⟨⟨q1, q2, q3⟩, q4⟩ := p3 lb pb bb g0 g1 g2
  have lt := gl3 e
  by_cases c : j < w.length
  · rw [List.getElem?_append_left c] at e
    obtain ⟨k1, k2, k3⟩ := q4 j (by omega)
    rw [k1, k2, k3]
    exact h2 lb pb bb g0 g1 g2 j z e
  · rw [List.getElem?_append_right (by omega), show j - w.length = 0 by omega] at e
    cases e
    rw [show j = (iv s 4).toNat by omega]
    exact ⟨q1, q2.trans hy, fun _ => q3⟩
theorem PWH.ni (hW : WT h sk L cl ln iv1 rv) (hF : fT ls L cl iv1 rv iv2 rv) (ts : ty L cl s 15) (h5 : iv2 s 4 = iv1 s 4) (a0 : ls.contains 50 = false) (a1 : ls.contains 51 = false) (a2 : ls.contains 52 = false) (hw : PWH iv1 rv s w) : PWH iv2 rv s w := by
  obtain ⟨h1, h2⟩ := hw
  refine ⟨h5.trans h1, fun lb pb bb g0 g1 g2 j z e => ?_⟩
  obtain ⟨b0, q0, t0⟩ := hW.ref ts 0 rfl rfl rfl
  rw [g0] at q0; cases q0
  obtain ⟨b1, q1, t1⟩ := hW.ref ts 1 rfl rfl rfl
  rw [g1] at q1; cases q1
  obtain ⟨b2, q2, t2⟩ := hW.ref ts 2 rfl rfl rfl
  rw [g2] at q2; cases q2
  refine hv3 (show ty L cl lb 50 from t0) (show ty L cl pb 51 from t1) (show ty L cl bb 52 from t2) (fun t50 t51 t52 => ?_)
  rw [hF.i t50 a0 j, hF.i t51 a1 j, hF.i t52 a2 j]
  exact h2 lb pb bb g0 g1 g2 j z e
theorem PTK.init (hc : iv1 c 0 = iv c 0) (h4 : iv1 s 4 = 0) (h5 : iv1 s 5 = 0) : PTK iv rv iv1 q c s := fun tt _ => ⟨[], by rw [hc, h5]; exact TKI.init, PWH.nil h4⟩
theorem PTK.sp (hk : PTK iv rv iv1 q c s) (hT : ∀ tt, CT iv rv q tt → f = tt (iv1 c 0).toNat) (e : f = 32) (hp : 0 ≤ iv1 c 0 ∧ iv1 c 0 < iv q 2) (h4 : iv1 s 4 = 0) : PTN iv rv iv1 q c s := fun tt ht => by
  obtain ⟨w, k1, k2⟩ := hk tt ht
  have g := k2.1
  exact ⟨w, k1.sp hp ((hT tt ht).symm.trans e) (by omega), k2⟩
theorem PTK.til (hk : PTK iv rv iv1 q c s) (hT : ∀ tt, CT iv rv q tt → f = tt (iv1 c 0).toNat) (e : f = 126) (hp : 0 ≤ iv1 c 0 ∧ iv1 c 0 < iv q 2) (c0 : iv2 c 0 = iv1 c 0) (h5 : iv2 s 5 = 1) (hw : ∀ w, PWH iv1 rv s w → PWH iv2 rv s w) : PTN iv rv iv2 q c s := fun tt ht => by
  obtain ⟨w, k1, k2⟩ := hk tt ht
  refine ⟨w, ?_, hw w k2⟩
  rw [c0, h5]
  exact k1.til hp ((hT tt ht).symm.trans e)
theorem PTK.ltr {f0 : Int} (hk : PTK iv rv iv1 q c s) (hT0 : ∀ tt, CT iv rv q tt → f0 = tt (iv1 c 0).toNat) (hT : ∀ tt, CT iv rv q tt → f = tt (iv1 c 0).toNat) (e0 : f0 ≠ 10) (e1 : f ≠ 32) (e2 : f ≠ 126) (hp : 0 ≤ iv1 c 0 ∧ iv1 c 0 < iv q 2) (p : PT2 iv1 rv iv2 s f y) (hl : iv1 s 4 < 500) (hy : y = iv1 c 0) (c0 : iv2 c 0 = iv1 c 0) : PTN iv rv iv2 q c s := fun tt ht => by
  obtain ⟨w, k1, k2⟩ := hk tt ht
  have ef := hT tt ht
  have g := k1.ltr hp (by rw [← hT0 tt ht]; exact e0) (by rw [← ef]; exact e1) (by rw [← ef]; exact e2)
  have g2 := k2.put p hl (pp := (iv1 c 0).toNat) (by omega)
  rw [← ef] at g
  refine ⟨_, ?_, g2⟩
  rw [c0, (p hl).2.1]
  exact g
theorem PWH.upc {k : Nat} (hW : WT h sk L cl ln iv1 rv) (e : iv2 = up2 iv1 c k x) (tc : ty L cl c 14) (ts : ty L cl s 15) (hw : PWH iv1 rv s w) : PWH iv2 rv s w := by
  obtain ⟨h1, h2⟩ := hw
  have n0 : s ≠ c := ne_ty ts tc (by decide)
  refine ⟨by rw [e, up2_k n0]; exact h1, fun lb pb bb g0 g1 g2 j z e2 => ?_⟩
  obtain ⟨b0, q0, t0⟩ := hW.ref ts 0 rfl rfl rfl
  rw [g0] at q0; cases q0
  obtain ⟨b1, q1, t1⟩ := hW.ref ts 1 rfl rfl rfl
  rw [g1] at q1; cases q1
  obtain ⟨b2, q2, t2⟩ := hW.ref ts 2 rfl rfl rfl
  rw [g2] at q2; cases q2
  rw [e, up2_k (ne_ty t0 tc (by decide)), up2_k (ne_ty t1 tc (by decide)), up2_k (ne_ty t2 tc (by decide))]
  exact h2 lb pb bb g0 g1 g2 j z e2
theorem PTN.next (hk : PTN iv rv iv1 q c s) (hW : WT h sk L cl ln iv1 rv) (e : iv2 = up2 iv1 c 0 x) (hx : x = iv1 c 0 + 1) (tc : ty L cl c 14) (ts : ty L cl s 15) : PTK iv rv iv2 q c s := fun tt ht => by
  obtain ⟨w, k1, k2⟩ := hk tt ht
  refine ⟨w, ?_, k2.upc hW e tc ts⟩
  refine hv2 (show iv2 c 0 = iv1 c 0 + 1 from by rw [e, up2_s]; exact hx) (show iv2 s 5 = iv1 s 5 from by rw [e, up2_k (ne_ty ts tc (by decide))]) (fun e1 e2 => ?_)
  rw [e1, e2]
  exact k1
theorem STP.no (h1 : iv c 1 = 0) (hs : ∀ tt, CT iv rv q tt → (iv q 2 ≤ iv c 0 ∧ f = 0 ∧ iv2 c 0 = iv c 0 ∧ iv2 c 1 = 0) ∨ (iv c 0 < iv q 2 ∧ f = 1 ∧ iv2 c 1 = 1 ∧ ((tt (iv c 0).toNat = 94 ∧ iv2 c 0 = iv c 0 + 1 ∧ iv2 c 2 = 1) ∨ (tt (iv c 0).toNat ≠ 94 ∧ iv2 c 0 = iv c 0 ∧ iv2 c 2 = 0)))) : STP iv rv iv2 q c s f := fun tt ht => ⟨fun _ => hs tt ht, fun e => absurd h1 e⟩
theorem STP.sp (h1 : iv c 1 ≠ 0) (hk : PTK iv rv iv1 q c s) (hT : ∀ tt, CT iv rv q tt → x = tt (iv1 c 0).toNat) (e : x = 32) (hp : 0 ≤ iv1 c 0 ∧ iv1 c 0 < iv q 2) (h4 : 0 < iv1 s 4) (hf : f = 2) (hc1 : iv1 c 1 = iv c 1) (hc2 : iv1 c 2 = iv c 2) : STP iv rv iv1 q c s f := fun tt ht => ⟨fun e => absurd e h1, fun _ => by
  obtain ⟨w, k1, k2⟩ := hk tt ht
  have g := k2.1
  exact ⟨iv1 c 0, w, hp.1, k1.end2 hp ((hT tt ht).symm.trans e) (by omega), hc2, Or.inl ⟨by omega, hf, rfl, hc1, k2⟩⟩⟩
theorem STP.fin2 (h1 : iv c 1 ≠ 0) (hk : PTK iv rv iv1 q c s) (he : ∀ tt, CT iv rv q tt → iv q 2 ≤ iv1 c 0 ∨ tt (iv1 c 0).toNat = 10) (hp : 0 ≤ iv1 c 0) (h4 : 0 < iv1 s 4) (hf : f = 2) (hc1 : iv1 c 1 = iv c 1) (hc2 : iv1 c 2 = iv c 2) : STP iv rv iv1 q c s f := fun tt ht => ⟨fun e => absurd e h1, fun _ => by
  obtain ⟨w, k1, k2⟩ := hk tt ht
  have g := k2.1
  exact ⟨iv1 c 0, w, hp, k1.end1 hp (he tt ht), hc2, Or.inl ⟨by omega, hf, rfl, hc1, k2⟩⟩⟩
theorem STP.fin3 (h1 : iv c 1 ≠ 0) (hk : PTK iv rv iv1 q c s) (he : ∀ tt, CT iv rv q tt → iv q 2 ≤ iv1 c 0 ∨ tt (iv1 c 0).toNat = 10) (hp : 0 ≤ iv1 c 0) (h4 : iv1 s 4 ≤ 0) (hf : f = 3) (c0 : iv2 c 0 = iv1 c 0 + 1) (c1 : iv2 c 1 = 0) (hc2 : iv2 c 2 = iv c 2) : STP iv rv iv2 q c s f := fun tt ht => ⟨fun e => absurd e h1, fun _ => by
  obtain ⟨w, k1, k2⟩ := hk tt ht
  have g := k2.1
  exact ⟨iv1 c 0, w, hp, k1.end1 hp (he tt ht), hc2, Or.inr ⟨by omega, hf, c0, c1⟩⟩⟩
end WROW
end
section
set_option maxHeartbeats 4000000 in
set_option maxRecDepth 100000 in
theorem G_putBreak {l : Launch} {G : GT} {mi : Nat} {sk : Nat → Nat} {L : List Nat} {cl ln : Nat → Nat} {iv : Nat → Nat → Int} {rv : Nat → Nat → Option Nat}  {a0 : Nat} (hW : WT (g0 G) sk L cl ln iv rv) (hS : SKL sk L cl) (t_a0 : ty L cl a0 15)  : Mc l G mi (Phi (g0 G) sk) PHM yX6_putBreak cX6_putBreak 1 none 0 [.ref a0] L cl ln iv rv 0 (fun v L2 cl2 ln2 iv2 rv2 => v = none ∧ L = L2 ∧ cl = cl2 ∧ ln = ln2 ∧ rv = rv2 ∧ fT [15] L cl iv rv iv2 rv2 ∧ WT (g0 G) sk L2 cl2 ln2 iv2 rv2 ∧ (iv2 a0 4 = iv a0 4 ∧ iv2 a0 5 = 1)) := by
  refine Mc.mk (by decide) (Nat.le_of_ble_eq_true rfl) ?_
  intro p e s m args below meth c A C hM
  refine hv3 (Phi.le hW hS) (show XT L cl ln L cl ln from XT.refl) (show fT [15] L cl iv rv iv rv from fT.refl) (fun hph hX0 hF0 => ?_)
  refine c_aload_n (j := 0) (x := a0) C dX6_putBreak_0 rfl ?_
  refine c_iconst C dX6_putBreak_1 ?_
  refine c_put (z := 1) (k := 5) C ck_7 dX6_putBreak_2 w1_143 (by decide) rfl t_a0 rfl rfl (by decide) rfl (by decide) (by decide) (fun iv1 pq1 => ?_)
  refine hv4 (hW.puti pq1 t_a0 ⟨by decide, by decide⟩ rfl) (hF0.puti hX0 pq1 t_a0 rfl) (show iv1 a0 4 = iv a0 4 from by rw [pq1]; exact up2_j (by decide)) (show iv1 a0 5 = 1 from by rw [pq1]; exact up2_s) (fun W1 F1 ie1 ie2 => ?_)
  refine hv2 (show 0 ≤ iv1 a0 4 ∧ iv1 a0 4 ≤ 500 from W1.int t_a0 4) (show 0 ≤ iv1 a0 5 ∧ iv1 a0 5 ≤ 1 from W1.int t_a0 5) (fun ri1 ri2 => ?_)
  exact c_vret C dX6_putBreak_5 rfl (by decide) (rom0 hph hph (by decide)) ⟨rfl, rfl, rfl, rfl, rfl, F1, W1, (by omega)⟩
set_option maxHeartbeats 4000000 in
set_option maxRecDepth 100000 in
theorem G_wclear2 {l : Launch} {G : GT} {mi : Nat} {sk : Nat → Nat} {L : List Nat} {cl ln : Nat → Nat} {iv : Nat → Nat → Int} {rv : Nat → Nat → Option Nat}  {a0 : Nat} (hW : WT (g0 G) sk L cl ln iv rv) (hS : SKL sk L cl) (t_a0 : ty L cl a0 15)  : Mc l G mi (Phi (g0 G) sk) PHM yX6_clear cX6_clear 1 none 0 [.ref a0] L cl ln iv rv 0 (fun v L2 cl2 ln2 iv2 rv2 => v = none ∧ L = L2 ∧ cl = cl2 ∧ ln = ln2 ∧ rv = rv2 ∧ fT [15] L cl iv rv iv2 rv2 ∧ WT (g0 G) sk L2 cl2 ln2 iv2 rv2 ∧ (iv2 a0 4 = 0 ∧ iv2 a0 5 = 0)) := by
  refine Mc.mk (by decide) (Nat.le_of_ble_eq_true rfl) ?_
  intro p e s m args below meth c A C hM
  refine hv3 (Phi.le hW hS) (show XT L cl ln L cl ln from XT.refl) (show fT [15] L cl iv rv iv rv from fT.refl) (fun hph hX0 hF0 => ?_)
  refine c_aload_n (j := 0) (x := a0) C dX6_clear_0 rfl ?_
  refine c_iconst C dX6_clear_1 ?_
  refine c_put (z := 0) (k := 4) C ck_7 dX6_clear_2 w1_140 (by decide) rfl t_a0 rfl rfl (by decide) rfl (by rfl) (by rfl) (fun iv1 pq1 => ?_)
  refine hv2 (hW.puti pq1 t_a0 ⟨by decide, by decide⟩ rfl) (hF0.puti hX0 pq1 t_a0 rfl) (fun W1 F1 => ?_)
  refine c_aload_n (j := 0) (x := a0) C dX6_clear_5 rfl ?_
  refine c_iconst C dX6_clear_6 ?_
  refine c_put (z := 0) (k := 5) C ck_7 dX6_clear_7 w1_143 (by decide) rfl t_a0 rfl rfl (by decide) rfl (by decide) (by decide) (fun iv2 pq2 => ?_)
  refine hv5 (W1.puti pq2 t_a0 ⟨by decide, by decide⟩ rfl) (F1.puti hX0 pq2 t_a0 rfl) (show iv2 a0 4 = iv1 a0 4 from by rw [pq2]; exact up2_j (by decide)) (show iv1 a0 4 = 0 from by rw [pq1]; exact up2_s) (show iv2 a0 5 = 0 from by rw [pq2]; exact up2_s) (fun W2 F2 ie1 ie2 ie3 => ?_)
  refine hv2 (show 0 ≤ iv2 a0 4 ∧ iv2 a0 4 ≤ 500 from W2.int t_a0 4) (show 0 ≤ iv2 a0 5 ∧ iv2 a0 5 ≤ 1 from W2.int t_a0 5) (fun ri1 ri2 => ?_)
  exact c_vret C dX6_clear_10 rfl (by decide) (rom0 hph hph (by decide)) ⟨rfl, rfl, rfl, rfl, rfl, F2, W2, (by omega)⟩
set_option maxHeartbeats 4000000 in
set_option maxRecDepth 100000 in
theorem G_put2 {l : Launch} {G : GT} {mi : Nat} {sk : Nat → Nat} {L : List Nat} {cl ln : Nat → Nat} {iv : Nat → Nat → Int} {rv : Nat → Nat → Option Nat}  {a0 : Nat} {x : Int} {y : Int} (hW : WT (g0 G) sk L cl ln iv rv) (hS : SKL sk L cl) (t_a0 : ty L cl a0 15) (h_x : -2147483648 ≤ x ∧ x ≤ 2147483647) (h_y : -2147483648 ≤ y ∧ y ≤ 2147483647)  : Mc l G mi (Phi (g0 G) sk) PHM yX6_put cX6_put 3 none 0 [.ref a0, .int (iI x), .int (iI y)] L cl ln iv rv 0 (fun v L2 cl2 ln2 iv2 rv2 => v = none ∧ L = L2 ∧ cl = cl2 ∧ ln = ln2 ∧ rv = rv2 ∧ fT [15, 50, 51, 52] L cl iv rv iv2 rv2 ∧ WT (g0 G) sk L2 cl2 ln2 iv2 rv2 ∧ ((iv2 a0 4 ≤ iv a0 4 + 1) ∧ PT2 iv rv iv2 a0 x y)) := by
  refine Mc.mk (by decide) (Nat.le_of_ble_eq_true rfl) ?_
  intro p e s m args below meth c A C hM
  refine hv3 (Phi.le hW hS) (show XT L cl ln L cl ln from XT.refl) (show fT [15, 50, 51, 52] L cl iv rv iv rv from fT.refl) (fun hph hX0 hF0 => ?_)
  refine c_aload_n (j := 0) (x := a0) C dX6_put_0 rfl ?_
  have ri1 : 0 ≤ iv a0 4 ∧ iv a0 4 ≤ 500 := hW.int t_a0 4
  refine c_get (k := 4) C ck_7 dX6_put_1 w1_140 (by decide) t_a0 rfl rfl (by decide) rfl ?_
  refine c_sipush (z := 500) C dX6_put_4 (by decide) ?_
  refine c_icmp_lt (tgt := 11) C (r32_c (lo := 0) (hi := 500) ri1.1 ri1.2 (by decide) (by decide)) ⟨by decide, by decide⟩ dX6_put_7 (by decide) (fun c1 => ?_) (fun c1 => ?_)
  · refine c_aload_n (j := 0) (x := a0) C dX6_put_11 rfl ?_
    obtain ⟨rb1, rq1, trb1⟩ := hW.ref t_a0 0 rfl rfl rfl
    have lnrb1 : 500 ≤ ln rb1 ∧ ln rb1 ≤ 500 := hW.len trb1 rfl
    refine c_getr (k := 0) C ck_7 dX6_put_12 w1_136 (by decide) t_a0 rfl rfl (by decide) rfl rq1 ?_
    refine c_st (st2 := [.ref rb1]) rfl ?_
    refine c_aload_n (j := 0) (x := a0) C dX6_put_15 rfl ?_
    refine c_get (k := 4) C ck_7 dX6_put_16 w1_140 (by decide) t_a0 rfl rfl (by decide) rfl ?_
    refine c_iload_n (j := 1) C dX6_put_19 rfl ?_
    have ll1 : 500 ≤ ln rb1 ∧ ln rb1 ≤ 500 := hW.len trb1 rfl
    refine c_iast (x := x) C dX6_put_20 trb1 rfl (by omega) (by omega) (by omega) (fun iv1 pq1 => ?_)
    refine hv2 (hW.puti pq1 trb1 (show (-2147483648) ≤ x ∧ x ≤ 2147483647 by omega) rfl) (hF0.puti hX0 pq1 trb1 rfl) (fun W1 F1 => ?_)
    refine c_aload_n (j := 0) (x := a0) C dX6_put_21 rfl ?_
    obtain ⟨rb2, rq2, trb2⟩ := W1.ref t_a0 1 rfl rfl rfl
    have lnrb2 : 500 ≤ ln rb2 ∧ ln rb2 ≤ 500 := W1.len trb2 rfl
    refine c_getr (k := 1) C ck_7 dX6_put_22 w1_137 (by decide) t_a0 rfl rfl (by decide) rfl rq2 ?_
    refine c_st (st2 := [.ref rb2]) rfl ?_
    refine c_aload_n (j := 0) (x := a0) C dX6_put_25 rfl ?_
    refine hv2 (show 0 ≤ iv1 a0 4 ∧ iv1 a0 4 ≤ 500 from W1.int t_a0 4) (show iv1 a0 4 = iv a0 4 from by rw [pq1]; exact up2_k (ne_ty t_a0 trb1 (by decide))) (fun ri2 ie1 => ?_)
    refine c_get (k := 4) C ck_7 dX6_put_26 w1_140 (by decide) t_a0 rfl rfl (by decide) rfl ?_
    refine c_iload_n (j := 2) C dX6_put_29 rfl ?_
    have ll2 : 500 ≤ ln rb2 ∧ ln rb2 ≤ 500 := W1.len trb2 rfl
    refine c_iast (x := y) C dX6_put_30 trb2 rfl (by omega) (by omega) (by omega) (fun iv2 pq2 => ?_)
    refine hv2 (W1.puti pq2 trb2 (show (-2147483648) ≤ y ∧ y ≤ 2147483647 by omega) rfl) (F1.puti hX0 pq2 trb2 rfl) (fun W2 F2 => ?_)
    refine c_aload_n (j := 0) (x := a0) C dX6_put_31 rfl ?_
    obtain ⟨rb3, rq3, trb3⟩ := W2.ref t_a0 2 rfl rfl rfl
    have lnrb3 : 500 ≤ ln rb3 ∧ ln rb3 ≤ 500 := W2.len trb3 rfl
    refine c_getr (k := 2) C ck_7 dX6_put_32 w1_138 (by decide) t_a0 rfl rfl (by decide) rfl rq3 ?_
    refine c_st (st2 := [.ref rb3]) rfl ?_
    refine c_aload_n (j := 0) (x := a0) C dX6_put_35 rfl ?_
    refine hv2 (show 0 ≤ iv2 a0 4 ∧ iv2 a0 4 ≤ 500 from W2.int t_a0 4) (show iv2 a0 4 = iv1 a0 4 from by rw [pq2]; exact up2_k (ne_ty t_a0 trb2 (by decide))) (fun ri3 ie2 => ?_)
    refine c_get (k := 4) C ck_7 dX6_put_36 w1_140 (by decide) t_a0 rfl rfl (by decide) rfl ?_
    refine c_aload_n (j := 0) (x := a0) C dX6_put_39 rfl ?_
    refine hv3 (show 0 ≤ iv2 a0 5 ∧ iv2 a0 5 ≤ 1 from W2.int t_a0 5) (show iv2 a0 5 = iv1 a0 5 from by rw [pq2]; exact up2_k (ne_ty t_a0 trb2 (by decide))) (show iv1 a0 5 = iv a0 5 from by rw [pq1]; exact up2_k (ne_ty t_a0 trb1 (by decide))) (fun ri4 ie3 ie4 => ?_)
    refine c_get (k := 5) C ck_7 dX6_put_40 w1_143 (by decide) t_a0 rfl rfl (by decide) rfl ?_
    have ll3 : 500 ≤ ln rb3 ∧ ln rb3 ≤ 500 := W2.len trb3 rfl
    refine c_zast (x := iv2 a0 5) C dX6_put_43 trb3 rfl (by omega) (by omega) (by omega) (by omega) (fun iv3 pq3 => ?_)
    refine hv2 (W2.puti pq3 trb3 (show 0 ≤ (iv2 a0 5) ∧ (iv2 a0 5) ≤ 1 by omega) rfl) (F2.puti hX0 pq3 trb3 rfl) (fun W3 F3 => ?_)
    refine c_aload_n (j := 0) (x := a0) C dX6_put_44 rfl ?_
    refine c_iconst C dX6_put_45 ?_
    refine c_put (z := 0) (k := 5) C ck_7 dX6_put_46 w1_143 (by decide) rfl t_a0 rfl rfl (by decide) rfl (by decide) (by decide) (fun iv4 pq4 => ?_)
    refine hv2 (W3.puti pq4 t_a0 ⟨by decide, by decide⟩ rfl) (F3.puti hX0 pq4 t_a0 rfl) (fun W4 F4 => ?_)
    refine c_aload_n (j := 0) (x := a0) C dX6_put_49 rfl ?_
    refine c_dup C dX6_put_50 rfl ?_
    refine hv3 (show 0 ≤ iv4 a0 4 ∧ iv4 a0 4 ≤ 500 from W4.int t_a0 4) (show iv4 a0 4 = iv3 a0 4 from by rw [pq4]; exact up2_j (by decide)) (show iv3 a0 4 = iv2 a0 4 from by rw [pq3]; exact up2_k (ne_ty t_a0 trb3 (by decide))) (fun ri5 ie5 ie6 => ?_)
    refine c_get (k := 4) C ck_7 dX6_put_51 w1_140 (by decide) t_a0 rfl rfl (by decide) rfl ?_
    refine c_iconst C dX6_put_54 ?_
    refine c_iadd C dX6_put_55 ?_
    refine c_put (z := (iv4 a0 4) + 1) (k := 4) C ck_7 dX6_put_56 w1_140 (by decide) rfl t_a0 rfl rfl (by decide) rfl (by rfl) (by rfl) (fun iv5 pq5 => ?_)
    refine hv5 (W4.puti pq5 t_a0 (show 0 ≤ ((iv4 a0 4) + 1) ∧ ((iv4 a0 4) + 1) ≤ 500 by omega) rfl) (F4.puti hX0 pq5 t_a0 rfl) (show iv5 a0 4 = (iv4 a0 4) + 1 from by rw [pq5]; exact up2_s) (show iv5 a0 5 = iv4 a0 5 from by rw [pq5]; exact up2_j (by decide)) (show iv4 a0 5 = 0 from by rw [pq4]; exact up2_s) (fun W5 F5 ie7 ie8 ie9 => ?_)
    refine hv2 (show 0 ≤ iv5 a0 4 ∧ iv5 a0 4 ≤ 500 from W5.int t_a0 4) (show 0 ≤ iv5 a0 5 ∧ iv5 a0 5 ≤ 1 from W5.int t_a0 5) (fun ri6 ri7 => ?_)
    exact c_vret C dX6_put_59 rfl (by decide) (rom0 hph hph (by decide)) ⟨rfl, rfl, rfl, rfl, rfl, F5, W5, ⟨by omega, PT2.mk rq1 rq2 rq3 pq1 pq2 pq3 pq4 pq5 (by omega) (by omega) (by omega) (by omega) (by omega) (by omega) (ne_ty trb1 trb2 (by decide)) (ne_ty trb1 trb3 (by decide)) (ne_ty trb1 t_a0 (by decide)) (ne_ty trb2 trb3 (by decide)) (ne_ty trb2 t_a0 (by decide)) (ne_ty trb3 t_a0 (by decide))⟩⟩
  · have ri8 : 0 ≤ iv a0 5 ∧ iv a0 5 ≤ 1 := hW.int t_a0 5
    exact c_vret C dX6_put_10 rfl (by decide) (rom0 hph hph (by decide)) ⟨rfl, rfl, rfl, rfl, rfl, hF0, hW, ⟨by omega, PT2.full (by omega)⟩⟩
set_option maxHeartbeats 4000000 in
set_option maxRecDepth 100000 in
theorem G_enterLine {l : Launch} {G : GT} {mi : Nat} {sk : Nat → Nat} {L : List Nat} {cl ln : Nat → Nat} {iv : Nat → Nat → Int} {rv : Nat → Nat → Option Nat}  {a0 : Nat} {a1 : Nat} (hW : WT (g0 G) sk L cl ln iv rv) (hS : SKL sk L cl) (t_a0 : ty L cl a0 14) (t_a1 : ty L cl a1 3) (hs : 0 ≤ iv a0 0 ∧ iv a0 0 ≤ 501 ∧ (iv a0 1 = 0 ∨ iv a0 0 ≤ 500)) : Mc l G mi (Phi (g0 G) sk) PHM yX8_enterLine cX8_enterLine 2 (some .int) 1 [.ref a0, .ref a1] L cl ln iv rv 0 (fun v L2 cl2 ln2 iv2 rv2 => ∃ f : Int, v = some (.int (iI f)) ∧ L = L2 ∧ cl = cl2 ∧ ln = ln2 ∧ rv = rv2 ∧ fT [14] L cl iv rv iv2 rv2 ∧ WT (g0 G) sk L2 cl2 ln2 iv2 rv2 ∧ (-2147483648 ≤ f ∧ f ≤ 2147483647) ∧ (((f = 0 ∨ f = 1) ∧ 0 ≤ iv2 a0 0 ∧ iv2 a0 0 ≤ 501 ∧ (iv2 a0 1 = 0 ∨ iv2 a0 0 ≤ 500) ∧ (f = 0 ∨ (iv2 a0 1 = 1 ∧ iv a0 0 ≤ iv2 a0 0))) ∧ ∀ tt, CT iv rv a1 tt → (iv a1 2 ≤ iv a0 0 ∧ f = 0 ∧ iv2 a0 0 = iv a0 0 ∧ iv2 a0 1 = iv a0 1) ∨ (iv a0 0 < iv a1 2 ∧ f = 1 ∧ iv2 a0 1 = 1 ∧ ((tt (iv a0 0).toNat = 94 ∧ iv2 a0 0 = iv a0 0 + 1 ∧ iv2 a0 2 = 1) ∨ (tt (iv a0 0).toNat ≠ 94 ∧ iv2 a0 0 = iv a0 0 ∧ iv2 a0 2 = 0))))) := by
  refine Mc.mk (by decide) (Nat.le_of_ble_eq_true rfl) ?_
  intro p e s m args below meth c A C hM
  refine hv3 (Phi.le hW hS) (show XT L cl ln L cl ln from XT.refl) (show fT [14] L cl iv rv iv rv from fT.refl) (fun hph hX0 hF0 => ?_)
  refine c_aload_n (j := 0) (x := a0) C dX8_enterLine_0 rfl ?_
  have ri1 : (-2147483648) ≤ iv a0 0 ∧ iv a0 0 ≤ 2147483647 := hW.int t_a0 0
  refine c_get (k := 0) C ck_9 dX8_enterLine_1 w1_103 (by decide) t_a0 rfl rfl (by decide) rfl ?_
  refine c_aload_n (j := 1) (x := a1) C dX8_enterLine_4 rfl ?_
  have ri2 : 0 ≤ iv a1 2 ∧ iv a1 2 ≤ 500 := hW.int t_a1 2
  refine c_get (k := 2) C ck_2 dX8_enterLine_5 w1_45 (by decide) t_a1 rfl rfl (by decide) rfl ?_
  refine c_icmp_lt (tgt := 13) C (r32_c (lo := (-2147483648)) (hi := 2147483647) ri1.1 ri1.2 (by decide) (by decide)) (r32_c (lo := 0) (hi := 500) ri2.1 ri2.2 (by decide) (by decide)) dX8_enterLine_8 (by decide) (fun c1 => ?_) (fun c1 => ?_)
  · refine c_aload_n (j := 0) (x := a0) C dX8_enterLine_13 rfl ?_
    refine c_iconst C dX8_enterLine_14 ?_
    refine c_put (z := 1) (k := 1) C ck_9 dX8_enterLine_15 w1_104 (by decide) rfl t_a0 rfl rfl (by decide) rfl (by decide) (by decide) (fun iv1 pq1 => ?_)
    refine hv2 (hW.puti pq1 t_a0 ⟨by decide, by decide⟩ rfl) (hF0.puti hX0 pq1 t_a0 rfl) (fun W1 F1 => ?_)
    refine c_aload_n (j := 0) (x := a0) C dX8_enterLine_18 rfl ?_
    refine c_aload_n (j := 1) (x := a1) C dX8_enterLine_19 rfl ?_
    refine c_aload_n (j := 0) (x := a0) C dX8_enterLine_20 rfl ?_
    refine hv2 (show (-2147483648) ≤ iv1 a0 0 ∧ iv1 a0 0 ≤ 2147483647 from W1.int t_a0 0) (show iv1 a0 0 = iv a0 0 from by rw [pq1]; exact up2_j (by decide)) (fun ri3 ie1 => ?_)
    refine c_get (k := 0) C ck_9 dX8_enterLine_21 w1_103 (by decide) t_a0 rfl rfl (by decide) rfl ?_
    refine hv2 (show 0 ≤ iv1 a1 2 ∧ iv1 a1 2 ≤ 500 from W1.int t_a1 2) (show iv1 a1 2 = iv a1 2 from by rw [pq1]; exact up2_k (ne_ty t_a1 t_a0 (by decide))) (fun ri4 ie2 => ?_)
    refine d_callV (As := [.int (iI (iv1 a0 0))]) (rest := [.ref a0]) C hM (C_at_3 (a0 := a1) (i := iv1 a0 0) W1 hS t_a1 (by omega) ) dX8_enterLine_24 kV_X8_53 rfl t_a1 rfl rfl (by decide) ck_2 rfl (Nat.le_of_ble_eq_true rfl) ⟨(Nat.le_of_ble_eq_true rfl), (Nat.le_of_ble_eq_true rfl)⟩ hph hph (show 0 + 0 = 0 from rfl) (by decide) (fun rh1 Lh1 clh1 lnh1 ivh1 rvh1 h1 => ?_)
    obtain ⟨f1, rfl, rfl, rfl, rfl, rfl, rfl, rgf1, exf1⟩ := h1
    refine c_st (st2 := [.int (iI f1), .ref a0]) rfl ?_
    have gf1 : ((0 ≤ (iv1 a0 0) ∧ (iv1 a0 0) < iv1 a1 2) ∨ f1 = 0) ∧ ∀ ss, CT iv1 rv a1 ss → 0 ≤ (iv1 a0 0) → (iv1 a0 0) < iv1 a1 2 → f1 = ss (iv1 a0 0).toNat := exf1
    refine c_bipush (z := 94) C dX8_enterLine_27 (by decide) ?_
    refine c_icmp_ne (tgt := 36) C ⟨by omega, by omega⟩ ⟨by decide, by decide⟩ dX8_enterLine_29 (by decide) (fun c2 => ?_) (fun c2 => ?_)
    · refine c_iconst C dX8_enterLine_36 ?_
      refine c_put (z := 0) (k := 2) C ck_9 dX8_enterLine_37 w1_105 (by decide) rfl t_a0 rfl rfl (by decide) rfl (by decide) (by decide) (fun iv2 pq2 => ?_)
      refine hv2 (W1.puti pq2 t_a0 ⟨by decide, by decide⟩ rfl) (F1.puti hX0 pq2 t_a0 rfl) (fun W3 F2 => ?_)
      refine c_aload_n (j := 0) (x := a0) C dX8_enterLine_40 rfl ?_
      refine c_dup C dX8_enterLine_41 rfl ?_
      refine hv2 (show (-2147483648) ≤ iv2 a0 0 ∧ iv2 a0 0 ≤ 2147483647 from W3.int t_a0 0) (show iv2 a0 0 = iv1 a0 0 from by rw [pq2]; exact up2_j (by decide)) (fun ri5 ie3 => ?_)
      refine c_get (k := 0) C ck_9 dX8_enterLine_42 w1_103 (by decide) t_a0 rfl rfl (by decide) rfl ?_
      refine c_aload_n (j := 0) (x := a0) C dX8_enterLine_45 rfl ?_
      refine hv2 (show 0 ≤ iv2 a0 2 ∧ iv2 a0 2 ≤ 1 from W3.int t_a0 2) (show iv2 a0 2 = 0 from by rw [pq2]; exact up2_s) (fun ri6 ie4 => ?_)
      refine c_get (k := 2) C ck_9 dX8_enterLine_46 w1_105 (by decide) t_a0 rfl rfl (by decide) rfl ?_
      refine c_if_eq (tgt := 56) C (r32_c (lo := 0) (hi := 1) ri6.1 ri6.2 (by decide) (by decide)) dX8_enterLine_49 (by decide) (fun c3 => ?_) (fun c3 => ?_)
      · refine c_iconst C dX8_enterLine_56 ?_
        refine c_iadd C dX8_enterLine_57 ?_
        refine c_put (z := (iv2 a0 0) + 0) (k := 0) C ck_9 dX8_enterLine_58 w1_103 (by decide) rfl t_a0 rfl rfl (by decide) rfl (by rfl) (by rfl) (fun iv3 pq3 => ?_)
        refine hv2 (W3.puti pq3 t_a0 (show (-2147483648) ≤ ((iv2 a0 0) + 0) ∧ ((iv2 a0 0) + 0) ≤ 2147483647 by omega) rfl) (F2.puti hX0 pq3 t_a0 rfl) (fun W4 F3 => ?_)
        refine c_iconst C dX8_enterLine_61 ?_
        refine hv11 (show (-2147483648) ≤ iv3 a0 0 ∧ iv3 a0 0 ≤ 2147483647 from W4.int t_a0 0) (show iv3 a0 0 = (iv2 a0 0) + 0 from by rw [pq3]; exact up2_s) (show 0 ≤ iv3 a0 1 ∧ iv3 a0 1 ≤ 1 from W4.int t_a0 1) (show iv3 a0 1 = iv2 a0 1 from by rw [pq3]; exact up2_j (by decide)) (show iv2 a0 1 = iv1 a0 1 from by rw [pq2]; exact up2_j (by decide)) (show iv1 a0 1 = 1 from by rw [pq1]; exact up2_s) (show 0 ≤ iv3 a0 2 ∧ iv3 a0 2 ≤ 1 from W4.int t_a0 2) (show iv3 a0 2 = iv2 a0 2 from by rw [pq3]; exact up2_j (by decide)) (show 0 ≤ iv3 a1 2 ∧ iv3 a1 2 ≤ 500 from W4.int t_a1 2) (show iv3 a1 2 = iv2 a1 2 from by rw [pq3]; exact up2_k (ne_ty t_a1 t_a0 (by decide))) (show iv2 a1 2 = iv1 a1 2 from by rw [pq2]; exact up2_k (ne_ty t_a1 t_a0 (by decide))) (fun ri7 ie5 ri8 ie6 ie7 ie8 ri9 ie9 ri10 ie10 ie11 => ?_)
        exact c_iret C dX8_enterLine_62 rfl (by decide) (rom0 hph hph (by decide)) ⟨1, rfl, rfl, rfl, rfl, rfl, F3, W4, ⟨by decide, by decide⟩, ⟨by omega, fun tt ht => Or.inr ⟨by omega, by omega, by omega, by
            have e := gf1.2 tt (CT.frn ht W1 t_a1 F1 rfl rfl rfl rfl rfl) (by omega) (by omega)
            rw [show iv1 a0 0 = iv a0 0 by omega] at e
            rw [← e]
            omega⟩⟩⟩
      · refine c_iconst C dX8_enterLine_52 ?_
        refine c_goto (tgt := 57) C dX8_enterLine_53 (by decide) ?_
        refine c_iadd C dX8_enterLine_57 ?_
        refine c_put (z := (iv2 a0 0) + 1) (k := 0) C ck_9 dX8_enterLine_58 w1_103 (by decide) rfl t_a0 rfl rfl (by decide) rfl (by rfl) (by rfl) (fun iv4 pq4 => ?_)
        refine hv2 (W3.puti pq4 t_a0 (show (-2147483648) ≤ ((iv2 a0 0) + 1) ∧ ((iv2 a0 0) + 1) ≤ 2147483647 by omega) rfl) (F2.puti hX0 pq4 t_a0 rfl) (fun W5 F4 => ?_)
        refine c_iconst C dX8_enterLine_61 ?_
        refine hv11 (show (-2147483648) ≤ iv4 a0 0 ∧ iv4 a0 0 ≤ 2147483647 from W5.int t_a0 0) (show iv4 a0 0 = (iv2 a0 0) + 1 from by rw [pq4]; exact up2_s) (show 0 ≤ iv4 a0 1 ∧ iv4 a0 1 ≤ 1 from W5.int t_a0 1) (show iv4 a0 1 = iv2 a0 1 from by rw [pq4]; exact up2_j (by decide)) (show iv2 a0 1 = iv1 a0 1 from by rw [pq2]; exact up2_j (by decide)) (show iv1 a0 1 = 1 from by rw [pq1]; exact up2_s) (show 0 ≤ iv4 a0 2 ∧ iv4 a0 2 ≤ 1 from W5.int t_a0 2) (show iv4 a0 2 = iv2 a0 2 from by rw [pq4]; exact up2_j (by decide)) (show 0 ≤ iv4 a1 2 ∧ iv4 a1 2 ≤ 500 from W5.int t_a1 2) (show iv4 a1 2 = iv2 a1 2 from by rw [pq4]; exact up2_k (ne_ty t_a1 t_a0 (by decide))) (show iv2 a1 2 = iv1 a1 2 from by rw [pq2]; exact up2_k (ne_ty t_a1 t_a0 (by decide))) (fun ri11 ie12 ri12 ie13 ie14 ie15 ri13 ie16 ri14 ie17 ie18 => ?_)
        exact c_iret C dX8_enterLine_62 rfl (by decide) (rom0 hph hph (by decide)) ⟨1, rfl, rfl, rfl, rfl, rfl, F4, W5, ⟨by decide, by decide⟩, ⟨by omega, fun tt ht => Or.inr ⟨by omega, by omega, by omega, by
            have e := gf1.2 tt (CT.frn ht W1 t_a1 F1 rfl rfl rfl rfl rfl) (by omega) (by omega)
            rw [show iv1 a0 0 = iv a0 0 by omega] at e
            rw [← e]
            omega⟩⟩⟩
    · refine c_iconst C dX8_enterLine_32 ?_
      refine c_goto (tgt := 37) C dX8_enterLine_33 (by decide) ?_
      refine c_put (z := 1) (k := 2) C ck_9 dX8_enterLine_37 w1_105 (by decide) rfl t_a0 rfl rfl (by decide) rfl (by decide) (by decide) (fun iv5 pq5 => ?_)
      refine hv2 (W1.puti pq5 t_a0 ⟨by decide, by decide⟩ rfl) (F1.puti hX0 pq5 t_a0 rfl) (fun W6 F5 => ?_)
      refine c_aload_n (j := 0) (x := a0) C dX8_enterLine_40 rfl ?_
      refine c_dup C dX8_enterLine_41 rfl ?_
      refine hv2 (show (-2147483648) ≤ iv5 a0 0 ∧ iv5 a0 0 ≤ 2147483647 from W6.int t_a0 0) (show iv5 a0 0 = iv1 a0 0 from by rw [pq5]; exact up2_j (by decide)) (fun ri15 ie19 => ?_)
      refine c_get (k := 0) C ck_9 dX8_enterLine_42 w1_103 (by decide) t_a0 rfl rfl (by decide) rfl ?_
      refine c_aload_n (j := 0) (x := a0) C dX8_enterLine_45 rfl ?_
      refine hv2 (show 0 ≤ iv5 a0 2 ∧ iv5 a0 2 ≤ 1 from W6.int t_a0 2) (show iv5 a0 2 = 1 from by rw [pq5]; exact up2_s) (fun ri16 ie20 => ?_)
      refine c_get (k := 2) C ck_9 dX8_enterLine_46 w1_105 (by decide) t_a0 rfl rfl (by decide) rfl ?_
      refine c_if_eq (tgt := 56) C (r32_c (lo := 0) (hi := 1) ri16.1 ri16.2 (by decide) (by decide)) dX8_enterLine_49 (by decide) (fun c4 => ?_) (fun c4 => ?_)
      · refine c_iconst C dX8_enterLine_56 ?_
        refine c_iadd C dX8_enterLine_57 ?_
        refine c_put (z := (iv5 a0 0) + 0) (k := 0) C ck_9 dX8_enterLine_58 w1_103 (by decide) rfl t_a0 rfl rfl (by decide) rfl (by rfl) (by rfl) (fun iv6 pq6 => ?_)
        refine hv2 (W6.puti pq6 t_a0 (show (-2147483648) ≤ ((iv5 a0 0) + 0) ∧ ((iv5 a0 0) + 0) ≤ 2147483647 by omega) rfl) (F5.puti hX0 pq6 t_a0 rfl) (fun W7 F6 => ?_)
        refine c_iconst C dX8_enterLine_61 ?_
        refine hv11 (show (-2147483648) ≤ iv6 a0 0 ∧ iv6 a0 0 ≤ 2147483647 from W7.int t_a0 0) (show iv6 a0 0 = (iv5 a0 0) + 0 from by rw [pq6]; exact up2_s) (show 0 ≤ iv6 a0 1 ∧ iv6 a0 1 ≤ 1 from W7.int t_a0 1) (show iv6 a0 1 = iv5 a0 1 from by rw [pq6]; exact up2_j (by decide)) (show iv5 a0 1 = iv1 a0 1 from by rw [pq5]; exact up2_j (by decide)) (show iv1 a0 1 = 1 from by rw [pq1]; exact up2_s) (show 0 ≤ iv6 a0 2 ∧ iv6 a0 2 ≤ 1 from W7.int t_a0 2) (show iv6 a0 2 = iv5 a0 2 from by rw [pq6]; exact up2_j (by decide)) (show 0 ≤ iv6 a1 2 ∧ iv6 a1 2 ≤ 500 from W7.int t_a1 2) (show iv6 a1 2 = iv5 a1 2 from by rw [pq6]; exact up2_k (ne_ty t_a1 t_a0 (by decide))) (show iv5 a1 2 = iv1 a1 2 from by rw [pq5]; exact up2_k (ne_ty t_a1 t_a0 (by decide))) (fun ri17 ie21 ri18 ie22 ie23 ie24 ri19 ie25 ri20 ie26 ie27 => ?_)
        exact c_iret C dX8_enterLine_62 rfl (by decide) (rom0 hph hph (by decide)) ⟨1, rfl, rfl, rfl, rfl, rfl, F6, W7, ⟨by decide, by decide⟩, ⟨by omega, fun tt ht => Or.inr ⟨by omega, by omega, by omega, by
            have e := gf1.2 tt (CT.frn ht W1 t_a1 F1 rfl rfl rfl rfl rfl) (by omega) (by omega)
            rw [show iv1 a0 0 = iv a0 0 by omega] at e
            rw [← e]
            omega⟩⟩⟩
      · refine c_iconst C dX8_enterLine_52 ?_
        refine c_goto (tgt := 57) C dX8_enterLine_53 (by decide) ?_
        refine c_iadd C dX8_enterLine_57 ?_
        refine c_put (z := (iv5 a0 0) + 1) (k := 0) C ck_9 dX8_enterLine_58 w1_103 (by decide) rfl t_a0 rfl rfl (by decide) rfl (by rfl) (by rfl) (fun iv7 pq7 => ?_)
        refine hv2 (W6.puti pq7 t_a0 (show (-2147483648) ≤ ((iv5 a0 0) + 1) ∧ ((iv5 a0 0) + 1) ≤ 2147483647 by omega) rfl) (F5.puti hX0 pq7 t_a0 rfl) (fun W8 F7 => ?_)
        refine c_iconst C dX8_enterLine_61 ?_
        refine hv11 (show (-2147483648) ≤ iv7 a0 0 ∧ iv7 a0 0 ≤ 2147483647 from W8.int t_a0 0) (show iv7 a0 0 = (iv5 a0 0) + 1 from by rw [pq7]; exact up2_s) (show 0 ≤ iv7 a0 1 ∧ iv7 a0 1 ≤ 1 from W8.int t_a0 1) (show iv7 a0 1 = iv5 a0 1 from by rw [pq7]; exact up2_j (by decide)) (show iv5 a0 1 = iv1 a0 1 from by rw [pq5]; exact up2_j (by decide)) (show iv1 a0 1 = 1 from by rw [pq1]; exact up2_s) (show 0 ≤ iv7 a0 2 ∧ iv7 a0 2 ≤ 1 from W8.int t_a0 2) (show iv7 a0 2 = iv5 a0 2 from by rw [pq7]; exact up2_j (by decide)) (show 0 ≤ iv7 a1 2 ∧ iv7 a1 2 ≤ 500 from W8.int t_a1 2) (show iv7 a1 2 = iv5 a1 2 from by rw [pq7]; exact up2_k (ne_ty t_a1 t_a0 (by decide))) (show iv5 a1 2 = iv1 a1 2 from by rw [pq5]; exact up2_k (ne_ty t_a1 t_a0 (by decide))) (fun ri21 ie28 ri22 ie29 ie30 ie31 ri23 ie32 ri24 ie33 ie34 => ?_)
        exact c_iret C dX8_enterLine_62 rfl (by decide) (rom0 hph hph (by decide)) ⟨1, rfl, rfl, rfl, rfl, rfl, F7, W8, ⟨by decide, by decide⟩, ⟨by omega, fun tt ht => Or.inr ⟨by omega, by omega, by omega, by
            have e := gf1.2 tt (CT.frn ht W1 t_a1 F1 rfl rfl rfl rfl rfl) (by omega) (by omega)
            rw [show iv1 a0 0 = iv a0 0 by omega] at e
            rw [← e]
            omega⟩⟩⟩
  · refine c_iconst C dX8_enterLine_11 ?_
    refine hv2 (show 0 ≤ iv a0 1 ∧ iv a0 1 ≤ 1 from hW.int t_a0 1) (show 0 ≤ iv a0 2 ∧ iv a0 2 ≤ 1 from hW.int t_a0 2) (fun ri25 ri26 => ?_)
    exact c_iret C dX8_enterLine_12 rfl (by decide) (rom0 hph hph (by decide)) ⟨0, rfl, rfl, rfl, rfl, rfl, hF0, hW, ⟨by decide, by decide⟩, ⟨by omega, fun tt ht => Or.inl ⟨by omega, by omega, by omega, by omega⟩⟩⟩
set_option maxHeartbeats 4000000 in
set_option maxRecDepth 100000 in
theorem G_step {l : Launch} {G : GT} {mi : Nat} {sk : Nat → Nat} {L : List Nat} {cl ln : Nat → Nat} {iv : Nat → Nat → Int} {rv : Nat → Nat → Option Nat}  {a0 : Nat} {a1 : Nat} {a2 : Nat} (hW : WT (g0 G) sk L cl ln iv rv) (hS : SKL sk L cl) (t_a0 : ty L cl a0 14) (t_a1 : ty L cl a1 3) (t_a2 : ty L cl a2 15) (hs : 0 ≤ iv a0 0 ∧ iv a0 0 ≤ 501 ∧ (iv a0 1 = 0 ∨ iv a0 0 ≤ 500)) : Mc l G mi (Phi (g0 G) sk) PHM yX8_step cX8_step 4 (some .int) 2 [.ref a0, .ref a1, .ref a2] L cl ln iv rv 0 (fun v L2 cl2 ln2 iv2 rv2 => ∃ f : Int, v = some (.int (iI f)) ∧ L = L2 ∧ cl = cl2 ∧ ln = ln2 ∧ rv = rv2 ∧ fT [14, 15, 50, 51, 52] L cl iv rv iv2 rv2 ∧ WT (g0 G) sk L2 cl2 ln2 iv2 rv2 ∧ (-2147483648 ≤ f ∧ f ≤ 2147483647) ∧ (((0 ≤ f ∧ f ≤ 3) ∧ 0 ≤ iv2 a0 0 ∧ iv2 a0 0 ≤ 501 ∧ (iv2 a0 1 = 0 ∨ iv2 a0 0 ≤ 500) ∧ (f = 0 ∨ 2 * iv a0 0 + iv a0 1 < 2 * iv2 a0 0 + iv2 a0 1)) ∧ STP iv rv iv2 a1 a0 a2 f)) := by
  refine Mc.mk (by decide) (Nat.le_of_ble_eq_true rfl) ?_
  intro p e s m args below meth c A C hM
  refine hv9 (Phi.le hW hS) (show XT L cl ln L cl ln from XT.refl) (show fT [14, 15, 50, 51, 52] L cl iv rv iv rv from fT.refl) (show (-2147483648) ≤ iv a0 0 ∧ iv a0 0 ≤ 2147483647 from hW.int t_a0 0) (show 0 ≤ iv a0 1 ∧ iv a0 1 ≤ 1 from hW.int t_a0 1) (show 0 ≤ iv a0 2 ∧ iv a0 2 ≤ 1 from hW.int t_a0 2) (show 0 ≤ iv a2 4 ∧ iv a2 4 ≤ 500 from hW.int t_a2 4) (show 0 ≤ iv a2 5 ∧ iv a2 5 ≤ 1 from hW.int t_a2 5) (show 0 ≤ iv a1 2 ∧ iv a1 2 ≤ 500 from hW.int t_a1 2) (fun hph hX0 hF0 ri1 ri2 ri3 ri4 ri5 ri6 => ?_)
  refine c_aload_n (j := 0) (x := a0) C dX8_step_0 rfl ?_
  refine c_get (k := 1) C ck_9 dX8_step_1 w1_104 (by decide) t_a0 rfl rfl (by decide) rfl ?_
  refine c_if_ne (tgt := 13) C (r32_c (lo := 0) (hi := 1) ri2.1 ri2.2 (by decide) (by decide)) dX8_step_4 (by decide) (fun c1 => ?_) (fun c1 => ?_)
  · refine c_aload_n (j := 2) (x := a2) C dX8_step_13 rfl ?_
    refine d_callV (As := []) (rest := []) C hM (G_wclear2 (a0 := a2) hW hS t_a2  ) dX8_step_14 kV_X8_43 rfl t_a2 rfl rfl (by decide) ck_7 rfl (Nat.le_of_ble_eq_true rfl) ⟨(Nat.le_of_ble_eq_true rfl), (Nat.le_of_ble_eq_true rfl)⟩ hph hph (show 0 + 0 = 0 from rfl) (by decide) (fun rh1 Lh1 clh1 lnh1 ivh1 rvh1 h1 => ?_)
    obtain ⟨rfl, rfl, rfl, rfl, rfl, fl1, W1, exf1⟩ := h1
    have F1 := hF0.call hX0 fl1 rfl
    refine c_st (st2 := []) rfl ?_
    refine hv3 (show 0 ≤ ivh1 a2 4 ∧ ivh1 a2 4 ≤ 500 from W1.int t_a2 4) (show 0 ≤ ivh1 a2 5 ∧ ivh1 a2 5 ≤ 1 from W1.int t_a2 5) (show ivh1 a2 4 = 0 ∧ ivh1 a2 5 = 0 from exf1) (fun ri7 ri8 gf1 => ?_)
    have Lp1 : ∀ (nn : Nat) (ivb1 : Nat → Nat → Int) , 501 - ivb1 a0 0 < (nn : Int) → WT (g0 G) sk L cl ln ivb1 rv → fT [14, 15, 50, 51, 52] L cl iv rv ivb1 rv → (0 ≤ ivb1 a0 0 ∧ ivb1 a0 0 ≤ 500) → (ivb1 a0 1 = iv a0 1) → (ivb1 a2 4 ≤ ivb1 a0 0 - iv a0 0) → (ivb1 a0 2 = iv a0 2) → (PTK iv rv ivb1 a1 a0 a2) → cw p l e 2 ((PHM) + 0 - ((Phi (g0 G) sk) ln rv)) s m args below meth c G A 4 (MQ below (Qu G A (Qp G (Phi (g0 G) sk) ((Phi (g0 G) sk) ln rv) 0 (fun v L2 cl2 ln2 iv2 rv2 => ∃ f : Int, v = some (.int (iI f)) ∧ L = L2 ∧ cl = cl2 ∧ ln = ln2 ∧ rv = rv2 ∧ fT [14, 15, 50, 51, 52] L cl iv rv iv2 rv2 ∧ WT (g0 G) sk L2 cl2 ln2 iv2 rv2 ∧ (-2147483648 ≤ f ∧ f ≤ 2147483647) ∧ (((0 ≤ f ∧ f ≤ 3) ∧ 0 ≤ iv2 a0 0 ∧ iv2 a0 0 ≤ 501 ∧ (iv2 a0 1 = 0 ∨ iv2 a0 0 ≤ 500) ∧ (f = 0 ∨ 2 * iv a0 0 + iv a0 1 < 2 * iv2 a0 0 + iv2 a0 1)) ∧ STP iv rv iv2 a1 a0 a2 f)))) args s (((PHM) + 0 - ((Phi (g0 G) sk) ln rv)) / 16) ((PHM) + 0 - ((Phi (g0 G) sk) ln rv)) A) (Phi (g0 G) sk) ((Phi (g0 G) sk) ln rv) L cl ln ivb1 rv 0 17 [(0, .ref a0), (1, .ref a1), (2, .ref a2)] [] := by
      intro nn
      induction nn with
      | zero =>
        intro   ivb1 hm Wb1 Fb1  hat hin hst hc2 hK
        exact absurd hm (by omega)
      | succ nn ih1 =>
        intro   ivb1 hm Wb1 Fb1  hat hin hst hc2 hK
        refine c_aload_n (j := 0) (x := a0) C dX8_step_17 rfl ?_
        have ri9 : (-2147483648) ≤ ivb1 a0 0 ∧ ivb1 a0 0 ≤ 2147483647 := Wb1.int t_a0 0
        refine c_get (k := 0) C ck_9 dX8_step_18 w1_103 (by decide) t_a0 rfl rfl (by decide) rfl ?_
        refine c_aload_n (j := 1) (x := a1) C dX8_step_21 rfl ?_
        refine hv2 (show 0 ≤ ivb1 a1 2 ∧ ivb1 a1 2 ≤ 500 from Wb1.int t_a1 2) (show ivb1 a1 2 = iv a1 2 from Fb1.i t_a1 rfl 2) (fun ri10 ie4 => ?_)
        refine c_get (k := 2) C ck_2 dX8_step_22 w1_45 (by decide) t_a1 rfl rfl (by decide) rfl ?_
        refine c_icmp_ge (tgt := 106) C (r32_c (lo := (-2147483648)) (hi := 2147483647) ri9.1 ri9.2 (by decide) (by decide)) (r32_c (lo := 0) (hi := 500) ri10.1 ri10.2 (by decide) (by decide)) dX8_step_25 (by decide) (fun c2 => ?_) (fun c2 => ?_)
        · refine c_aload_n (j := 2) (x := a2) C dX8_step_106 rfl ?_
          have ri11 : 0 ≤ ivb1 a2 4 ∧ ivb1 a2 4 ≤ 500 := Wb1.int t_a2 4
          refine c_get (k := 4) C ck_7 dX8_step_107 w1_141 (by decide) t_a2 rfl rfl (by decide) rfl ?_
          refine c_if_le (tgt := 115) C (r32_c (lo := 0) (hi := 500) ri11.1 ri11.2 (by decide) (by decide)) dX8_step_110 (by decide) (fun c3 => ?_) (fun c3 => ?_)
          · refine c_aload_n (j := 0) (x := a0) C dX8_step_115 rfl ?_
            refine c_iconst C dX8_step_116 ?_
            refine c_put (z := 0) (k := 1) C ck_9 dX8_step_117 w1_104 (by decide) rfl t_a0 rfl rfl (by decide) rfl (by decide) (by decide) (fun iv1 pq1 => ?_)
            refine hv2 (Wb1.puti pq1 t_a0 ⟨by decide, by decide⟩ rfl) (Fb1.puti hX0 pq1 t_a0 rfl) (fun W2 F2 => ?_)
            refine c_aload_n (j := 0) (x := a0) C dX8_step_120 rfl ?_
            refine c_dup C dX8_step_121 rfl ?_
            refine hv2 (show (-2147483648) ≤ iv1 a0 0 ∧ iv1 a0 0 ≤ 2147483647 from W2.int t_a0 0) (show iv1 a0 0 = ivb1 a0 0 from by rw [pq1]; exact up2_j (by decide)) (fun ri12 ie6 => ?_)
            refine c_get (k := 0) C ck_9 dX8_step_122 w1_103 (by decide) t_a0 rfl rfl (by decide) rfl ?_
            refine c_iconst C dX8_step_125 ?_
            refine c_iadd C dX8_step_126 ?_
            refine c_put (z := (iv1 a0 0) + 1) (k := 0) C ck_9 dX8_step_127 w1_103 (by decide) rfl t_a0 rfl rfl (by decide) rfl (by rfl) (by rfl) (fun iv2 pq2 => ?_)
            refine hv2 (W2.puti pq2 t_a0 (show (-2147483648) ≤ ((iv1 a0 0) + 1) ∧ ((iv1 a0 0) + 1) ≤ 2147483647 by omega) rfl) (F2.puti hX0 pq2 t_a0 rfl) (fun W3 F3 => ?_)
            refine c_iconst C dX8_step_130 ?_
            refine hv17 (show (-2147483648) ≤ iv2 a0 0 ∧ iv2 a0 0 ≤ 2147483647 from W3.int t_a0 0) (show iv2 a0 0 = (iv1 a0 0) + 1 from by rw [pq2]; exact up2_s) (show 0 ≤ iv2 a0 1 ∧ iv2 a0 1 ≤ 1 from W3.int t_a0 1) (show iv2 a0 1 = iv1 a0 1 from by rw [pq2]; exact up2_j (by decide)) (show iv1 a0 1 = 0 from by rw [pq1]; exact up2_s) (show 0 ≤ iv2 a0 2 ∧ iv2 a0 2 ≤ 1 from W3.int t_a0 2) (show iv2 a0 2 = iv1 a0 2 from by rw [pq2]; exact up2_j (by decide)) (show iv1 a0 2 = ivb1 a0 2 from by rw [pq1]; exact up2_j (by decide)) (show 0 ≤ iv2 a2 4 ∧ iv2 a2 4 ≤ 500 from W3.int t_a2 4) (show iv2 a2 4 = iv1 a2 4 from by rw [pq2]; exact up2_k (ne_ty t_a2 t_a0 (by decide))) (show iv1 a2 4 = ivb1 a2 4 from by rw [pq1]; exact up2_k (ne_ty t_a2 t_a0 (by decide))) (show 0 ≤ iv2 a2 5 ∧ iv2 a2 5 ≤ 1 from W3.int t_a2 5) (show iv2 a2 5 = iv1 a2 5 from by rw [pq2]; exact up2_k (ne_ty t_a2 t_a0 (by decide))) (show iv1 a2 5 = ivb1 a2 5 from by rw [pq1]; exact up2_k (ne_ty t_a2 t_a0 (by decide))) (show 0 ≤ iv2 a1 2 ∧ iv2 a1 2 ≤ 500 from W3.int t_a1 2) (show iv2 a1 2 = iv1 a1 2 from by rw [pq2]; exact up2_k (ne_ty t_a1 t_a0 (by decide))) (show iv1 a1 2 = ivb1 a1 2 from by rw [pq1]; exact up2_k (ne_ty t_a1 t_a0 (by decide))) (fun ri13 ie7 ri14 ie8 ie9 ri15 ie10 ie11 ri16 ie13 ie14 ri17 ie15 ie16 ri18 ie18 ie19 => ?_)
            exact c_iret C dX8_step_131 rfl (by decide) (rom0 hph hph (by decide)) ⟨3, rfl, rfl, rfl, rfl, rfl, F3, W3, ⟨by decide, by decide⟩, ⟨by omega, STP.fin3 (by omega) hK (fun tt ht => Or.inl (by omega)) (by omega) (by omega) rfl (by omega) (by omega) (by omega)⟩⟩
          · refine c_iconst C dX8_step_113 ?_
            refine hv3 (show 0 ≤ ivb1 a0 1 ∧ ivb1 a0 1 ≤ 1 from Wb1.int t_a0 1) (show 0 ≤ ivb1 a0 2 ∧ ivb1 a0 2 ≤ 1 from Wb1.int t_a0 2) (show 0 ≤ ivb1 a2 5 ∧ ivb1 a2 5 ≤ 1 from Wb1.int t_a2 5) (fun ri19 ri20 ri21 => ?_)
            exact c_iret C dX8_step_114 rfl (by decide) (rom0 hph hph (by decide)) ⟨2, rfl, rfl, rfl, rfl, rfl, Fb1, Wb1, ⟨by decide, by decide⟩, ⟨by omega, STP.fin2 (by omega) hK (fun tt ht => Or.inl (by omega)) (by omega) (by omega) rfl (by omega) (by omega)⟩⟩
        · have J1 : ∀ (ivb2 : Nat → Nat → Int) , WT (g0 G) sk L cl ln ivb2 rv → fT [14, 15, 50, 51, 52] L cl iv rv ivb2 rv → (0 ≤ ivb2 a0 0 ∧ ivb2 a0 0 < iv a1 2) → (ivb2 a0 1 = iv a0 1) → (500 - ivb2 a0 0 < (nn : Int)) → (ivb2 a2 4 ≤ ivb2 a0 0 + 1 - iv a0 0) → (ivb2 a0 2 = iv a0 2) → (PTN iv rv ivb2 a1 a0 a2) → cw p l e 2 ((PHM) + 0 - ((Phi (g0 G) sk) ln rv)) s m args below meth c G A 4 (MQ below (Qu G A (Qp G (Phi (g0 G) sk) ((Phi (g0 G) sk) ln rv) 0 (fun v L2 cl2 ln2 iv2 rv2 => ∃ f : Int, v = some (.int (iI f)) ∧ L = L2 ∧ cl = cl2 ∧ ln = ln2 ∧ rv = rv2 ∧ fT [14, 15, 50, 51, 52] L cl iv rv iv2 rv2 ∧ WT (g0 G) sk L2 cl2 ln2 iv2 rv2 ∧ (-2147483648 ≤ f ∧ f ≤ 2147483647) ∧ (((0 ≤ f ∧ f ≤ 3) ∧ 0 ≤ iv2 a0 0 ∧ iv2 a0 0 ≤ 501 ∧ (iv2 a0 1 = 0 ∨ iv2 a0 0 ≤ 500) ∧ (f = 0 ∨ 2 * iv a0 0 + iv a0 1 < 2 * iv2 a0 0 + iv2 a0 1)) ∧ STP iv rv iv2 a1 a0 a2 f)))) args s (((PHM) + 0 - ((Phi (g0 G) sk) ln rv)) / 16) ((PHM) + 0 - ((Phi (g0 G) sk) ln rv)) A) (Phi (g0 G) sk) ((Phi (g0 G) sk) ln rv) L cl ln ivb2 rv 0 93 [(0, .ref a0), (1, .ref a1), (2, .ref a2)] [] := by
            intro   ivb2 Wb2 Fb2  hb hbi hbm hst2 hc3 hN
            refine c_aload_n (j := 0) (x := a0) C dX8_step_93 rfl ?_
            refine c_dup C dX8_step_94 rfl ?_
            have ri22 : (-2147483648) ≤ ivb2 a0 0 ∧ ivb2 a0 0 ≤ 2147483647 := Wb2.int t_a0 0
            refine c_get (k := 0) C ck_9 dX8_step_95 w1_103 (by decide) t_a0 rfl rfl (by decide) rfl ?_
            refine c_iconst C dX8_step_98 ?_
            refine c_iadd C dX8_step_99 ?_
            refine c_put (z := (ivb2 a0 0) + 1) (k := 0) C ck_9 dX8_step_100 w1_103 (by decide) rfl t_a0 rfl rfl (by decide) rfl (by rfl) (by rfl) (fun iv3 pq3 => ?_)
            refine hv2 (Wb2.puti pq3 t_a0 (show (-2147483648) ≤ ((ivb2 a0 0) + 1) ∧ ((ivb2 a0 0) + 1) ≤ 2147483647 by omega) rfl) (Fb2.puti hX0 pq3 t_a0 rfl) (fun W4 F4 => ?_)
            refine c_goto (tgt := 17) C dX8_step_103 (by decide) ?_
            refine hv13 (show (-2147483648) ≤ iv3 a0 0 ∧ iv3 a0 0 ≤ 2147483647 from W4.int t_a0 0) (show iv3 a0 0 = (ivb2 a0 0) + 1 from by rw [pq3]; exact up2_s) (show 0 ≤ iv3 a0 1 ∧ iv3 a0 1 ≤ 1 from W4.int t_a0 1) (show iv3 a0 1 = ivb2 a0 1 from by rw [pq3]; exact up2_j (by decide)) (show 0 ≤ iv3 a2 4 ∧ iv3 a2 4 ≤ 500 from W4.int t_a2 4) (show iv3 a2 4 = ivb2 a2 4 from by rw [pq3]; exact up2_k (ne_ty t_a2 t_a0 (by decide))) (show 0 ≤ iv3 a0 2 ∧ iv3 a0 2 ≤ 1 from W4.int t_a0 2) (show iv3 a0 2 = ivb2 a0 2 from by rw [pq3]; exact up2_j (by decide)) (show 0 ≤ iv3 a2 5 ∧ iv3 a2 5 ≤ 1 from W4.int t_a2 5) (show iv3 a2 5 = ivb2 a2 5 from by rw [pq3]; exact up2_k (ne_ty t_a2 t_a0 (by decide))) (show 0 ≤ iv3 a1 2 ∧ iv3 a1 2 ≤ 500 from W4.int t_a1 2) (show iv3 a1 2 = ivb2 a1 2 from by rw [pq3]; exact up2_k (ne_ty t_a1 t_a0 (by decide))) (show ivb2 a1 2 = iv a1 2 from Fb2.i t_a1 rfl 2) (fun ri23 ie24 ri24 ie25 ri25 ie27 ri26 ie29 ri27 ie31 ri28 ie33 ie34 => ?_)
            refine c_lv (lv2 := [(0, .ref a0), (1, .ref a1), (2, .ref a2)]) [0, 1, 2] rfl ?_
            exact ih1   _ (by omega) W4 F4  (by show 0 ≤ iv3 a0 0 ∧ iv3 a0 0 ≤ 500; omega) (ie25.trans hbi) (by show iv3 a2 4 ≤ iv3 a0 0 - iv a0 0; omega) (ie29.trans hc3) (hN.next Wb2 pq3 (by omega) t_a0 t_a2)
          refine c_aload_n (j := 1) (x := a1) C dX8_step_28 rfl ?_
          refine c_aload_n (j := 0) (x := a0) C dX8_step_29 rfl ?_
          refine c_get (k := 0) C ck_9 dX8_step_30 w1_103 (by decide) t_a0 rfl rfl (by decide) rfl ?_
          refine d_callV (As := [.int (iI (ivb1 a0 0))]) (rest := []) C hM (C_at_3 (a0 := a1) (i := ivb1 a0 0) Wb1 hS t_a1 (by omega) ) dX8_step_33 kV_X8_53 rfl t_a1 rfl rfl (by decide) ck_2 rfl (Nat.le_of_ble_eq_true rfl) ⟨(Nat.le_of_ble_eq_true rfl), (Nat.le_of_ble_eq_true rfl)⟩ hph hph (show 0 + 0 = 0 from rfl) (by decide) (fun rh2 Lh2 clh2 lnh2 ivh2 rvh2 h2 => ?_)
          obtain ⟨f2, rfl, rfl, rfl, rfl, rfl, rfl, rgf2, exf2⟩ := h2
          refine c_st (st2 := [.int (iI f2)]) rfl ?_
          have gf2 : ((0 ≤ (ivb1 a0 0) ∧ (ivb1 a0 0) < ivb1 a1 2) ∨ f2 = 0) ∧ ∀ ss, CT ivb1 rv a1 ss → 0 ≤ (ivb1 a0 0) → (ivb1 a0 0) < ivb1 a1 2 → f2 = ss (ivb1 a0 0).toNat := exf2
          refine c_bipush (z := 10) C dX8_step_36 (by decide) ?_
          refine c_icmp_eq (tgt := 106) C ⟨by omega, by omega⟩ ⟨by decide, by decide⟩ dX8_step_38 (by decide) (fun c4 => ?_) (fun c4 => ?_)
          · refine c_aload_n (j := 2) (x := a2) C dX8_step_106 rfl ?_
            have ri29 : 0 ≤ ivb1 a2 4 ∧ ivb1 a2 4 ≤ 500 := Wb1.int t_a2 4
            refine c_get (k := 4) C ck_7 dX8_step_107 w1_141 (by decide) t_a2 rfl rfl (by decide) rfl ?_
            refine c_if_le (tgt := 115) C (r32_c (lo := 0) (hi := 500) ri29.1 ri29.2 (by decide) (by decide)) dX8_step_110 (by decide) (fun c5 => ?_) (fun c5 => ?_)
            · refine c_aload_n (j := 0) (x := a0) C dX8_step_115 rfl ?_
              refine c_iconst C dX8_step_116 ?_
              refine c_put (z := 0) (k := 1) C ck_9 dX8_step_117 w1_104 (by decide) rfl t_a0 rfl rfl (by decide) rfl (by decide) (by decide) (fun iv4 pq4 => ?_)
              refine hv2 (Wb1.puti pq4 t_a0 ⟨by decide, by decide⟩ rfl) (Fb1.puti hX0 pq4 t_a0 rfl) (fun W6 F5 => ?_)
              refine c_aload_n (j := 0) (x := a0) C dX8_step_120 rfl ?_
              refine c_dup C dX8_step_121 rfl ?_
              refine hv2 (show (-2147483648) ≤ iv4 a0 0 ∧ iv4 a0 0 ≤ 2147483647 from W6.int t_a0 0) (show iv4 a0 0 = ivb1 a0 0 from by rw [pq4]; exact up2_j (by decide)) (fun ri30 ie36 => ?_)
              refine c_get (k := 0) C ck_9 dX8_step_122 w1_103 (by decide) t_a0 rfl rfl (by decide) rfl ?_
              refine c_iconst C dX8_step_125 ?_
              refine c_iadd C dX8_step_126 ?_
              refine c_put (z := (iv4 a0 0) + 1) (k := 0) C ck_9 dX8_step_127 w1_103 (by decide) rfl t_a0 rfl rfl (by decide) rfl (by rfl) (by rfl) (fun iv5 pq5 => ?_)
              refine hv2 (W6.puti pq5 t_a0 (show (-2147483648) ≤ ((iv4 a0 0) + 1) ∧ ((iv4 a0 0) + 1) ≤ 2147483647 by omega) rfl) (F5.puti hX0 pq5 t_a0 rfl) (fun W7 F6 => ?_)
              refine c_iconst C dX8_step_130 ?_
              refine hv17 (show (-2147483648) ≤ iv5 a0 0 ∧ iv5 a0 0 ≤ 2147483647 from W7.int t_a0 0) (show iv5 a0 0 = (iv4 a0 0) + 1 from by rw [pq5]; exact up2_s) (show 0 ≤ iv5 a0 1 ∧ iv5 a0 1 ≤ 1 from W7.int t_a0 1) (show iv5 a0 1 = iv4 a0 1 from by rw [pq5]; exact up2_j (by decide)) (show iv4 a0 1 = 0 from by rw [pq4]; exact up2_s) (show 0 ≤ iv5 a0 2 ∧ iv5 a0 2 ≤ 1 from W7.int t_a0 2) (show iv5 a0 2 = iv4 a0 2 from by rw [pq5]; exact up2_j (by decide)) (show iv4 a0 2 = ivb1 a0 2 from by rw [pq4]; exact up2_j (by decide)) (show 0 ≤ iv5 a2 4 ∧ iv5 a2 4 ≤ 500 from W7.int t_a2 4) (show iv5 a2 4 = iv4 a2 4 from by rw [pq5]; exact up2_k (ne_ty t_a2 t_a0 (by decide))) (show iv4 a2 4 = ivb1 a2 4 from by rw [pq4]; exact up2_k (ne_ty t_a2 t_a0 (by decide))) (show 0 ≤ iv5 a2 5 ∧ iv5 a2 5 ≤ 1 from W7.int t_a2 5) (show iv5 a2 5 = iv4 a2 5 from by rw [pq5]; exact up2_k (ne_ty t_a2 t_a0 (by decide))) (show iv4 a2 5 = ivb1 a2 5 from by rw [pq4]; exact up2_k (ne_ty t_a2 t_a0 (by decide))) (show 0 ≤ iv5 a1 2 ∧ iv5 a1 2 ≤ 500 from W7.int t_a1 2) (show iv5 a1 2 = iv4 a1 2 from by rw [pq5]; exact up2_k (ne_ty t_a1 t_a0 (by decide))) (show iv4 a1 2 = ivb1 a1 2 from by rw [pq4]; exact up2_k (ne_ty t_a1 t_a0 (by decide))) (fun ri31 ie37 ri32 ie38 ie39 ri33 ie40 ie41 ri34 ie43 ie44 ri35 ie45 ie46 ri36 ie48 ie49 => ?_)
              exact c_iret C dX8_step_131 rfl (by decide) (rom0 hph hph (by decide)) ⟨3, rfl, rfl, rfl, rfl, rfl, F6, W7, ⟨by decide, by decide⟩, ⟨by omega, STP.fin3 (by omega) hK (fun tt ht => Or.inr (by have e := gf2.2 tt (CT.frn ht Wb1 t_a1 Fb1 rfl rfl rfl rfl rfl) (by omega) (by omega); rw [← e]; omega)) (by omega) (by omega) rfl (by omega) (by omega) (by omega)⟩⟩
            · refine c_iconst C dX8_step_113 ?_
              refine hv3 (show 0 ≤ ivb1 a0 1 ∧ ivb1 a0 1 ≤ 1 from Wb1.int t_a0 1) (show 0 ≤ ivb1 a0 2 ∧ ivb1 a0 2 ≤ 1 from Wb1.int t_a0 2) (show 0 ≤ ivb1 a2 5 ∧ ivb1 a2 5 ≤ 1 from Wb1.int t_a2 5) (fun ri37 ri38 ri39 => ?_)
              exact c_iret C dX8_step_114 rfl (by decide) (rom0 hph hph (by decide)) ⟨2, rfl, rfl, rfl, rfl, rfl, Fb1, Wb1, ⟨by decide, by decide⟩, ⟨by omega, STP.fin2 (by omega) hK (fun tt ht => Or.inr (by have e := gf2.2 tt (CT.frn ht Wb1 t_a1 Fb1 rfl rfl rfl rfl rfl) (by omega) (by omega); rw [← e]; omega)) (by omega) (by omega) rfl (by omega) (by omega)⟩⟩
          · refine c_aload_n (j := 1) (x := a1) C dX8_step_41 rfl ?_
            refine c_aload_n (j := 0) (x := a0) C dX8_step_42 rfl ?_
            refine c_get (k := 0) C ck_9 dX8_step_43 w1_103 (by decide) t_a0 rfl rfl (by decide) rfl ?_
            refine d_callV (As := [.int (iI (ivb1 a0 0))]) (rest := []) C hM (C_at_3 (a0 := a1) (i := ivb1 a0 0) Wb1 hS t_a1 (by omega) ) dX8_step_46 kV_X8_53 rfl t_a1 rfl rfl (by decide) ck_2 rfl (Nat.le_of_ble_eq_true rfl) ⟨(Nat.le_of_ble_eq_true rfl), (Nat.le_of_ble_eq_true rfl)⟩ hph hph (show 0 + 0 = 0 from rfl) (by decide) (fun rh3 Lh3 clh3 lnh3 ivh3 rvh3 h3 => ?_)
            obtain ⟨f3, rfl, rfl, rfl, rfl, rfl, rfl, rgf3, exf3⟩ := h3
            refine c_st (st2 := [.int (iI f3)]) rfl ?_
            have gf3 : ((0 ≤ (ivb1 a0 0) ∧ (ivb1 a0 0) < ivb1 a1 2) ∨ f3 = 0) ∧ ∀ ss, CT ivb1 rv a1 ss → 0 ≤ (ivb1 a0 0) → (ivb1 a0 0) < ivb1 a1 2 → f3 = ss (ivb1 a0 0).toNat := exf3
            refine c_istore_n (lv2 := [(3, .int (iI f3)), (0, .ref a0), (1, .ref a1), (2, .ref a2)]) C dX8_step_49 (by decide) rfl ?_
            refine c_iload_n (j := 0) C dX8_step_50 rfl ?_
            refine c_bipush (z := 32) C dX8_step_51 (by decide) ?_
            refine c_icmp_ne (tgt := 65) C ⟨by omega, by omega⟩ ⟨by decide, by decide⟩ dX8_step_53 (by decide) (fun c6 => ?_) (fun c6 => ?_)
            · refine c_iload_n (j := 0) C dX8_step_65 rfl ?_
              refine c_bipush (z := 126) C dX8_step_66 (by decide) ?_
              refine c_icmp_ne (tgt := 78) C ⟨by omega, by omega⟩ ⟨by decide, by decide⟩ dX8_step_68 (by decide) (fun c7 => ?_) (fun c7 => ?_)
              · refine c_iload_n (j := 0) C dX8_step_78 rfl ?_
                refine c_bipush (z := 32) C dX8_step_79 (by decide) ?_
                refine c_icmp_eq (tgt := 93) C ⟨by omega, by omega⟩ ⟨by decide, by decide⟩ dX8_step_81 (by decide) (fun z => absurd z (by omega)) (fun _ => ?_)
                refine c_aload_n (j := 3) (x := a2) C dX8_step_84 rfl ?_
                refine c_iload_n (j := 0) C dX8_step_85 rfl ?_
                refine c_aload_n (j := 1) (x := a0) C dX8_step_86 rfl ?_
                refine c_get (k := 0) C ck_9 dX8_step_87 w1_103 (by decide) t_a0 rfl rfl (by decide) rfl ?_
                have ri40 : 0 ≤ ivb1 a2 4 ∧ ivb1 a2 4 ≤ 500 := Wb1.int t_a2 4
                refine d_callV (As := [.int (iI f3), .int (iI (ivb1 a0 0))]) (rest := []) C hM (G_put2 (a0 := a2) (x := f3) (y := ivb1 a0 0) Wb1 hS t_a2 (by omega) (by omega) ) dX8_step_90 kV_X8_60 rfl t_a2 rfl rfl (by decide) ck_7 rfl (Nat.le_of_ble_eq_true rfl) ⟨(Nat.le_of_ble_eq_true rfl), (Nat.le_of_ble_eq_true rfl)⟩ hph hph (show 0 + 0 = 0 from rfl) (by decide) (fun rh4 Lh4 clh4 lnh4 ivh4 rvh4 h4 => ?_)
                obtain ⟨rfl, rfl, rfl, rfl, rfl, fl4, W9, exf4⟩ := h4
                have F7 := Fb1.call hX0 fl4 rfl
                refine c_st (st2 := []) rfl ?_
                refine hv11 (show 0 ≤ ivh4 a2 4 ∧ ivh4 a2 4 ≤ 500 from W9.int t_a2 4) (show (ivh4 a2 4 ≤ ivb1 a2 4 + 1) ∧ PT2 ivb1 rv ivh4 a2 f3 (ivb1 a0 0) from exf4) (show (-2147483648) ≤ ivh4 a0 0 ∧ ivh4 a0 0 ≤ 2147483647 from W9.int t_a0 0) (show ivh4 a0 0 = ivb1 a0 0 from fl4.i t_a0 rfl 0) (show 0 ≤ ivh4 a0 1 ∧ ivh4 a0 1 ≤ 1 from W9.int t_a0 1) (show ivh4 a0 1 = ivb1 a0 1 from fl4.i t_a0 rfl 1) (show 0 ≤ ivh4 a0 2 ∧ ivh4 a0 2 ≤ 1 from W9.int t_a0 2) (show ivh4 a0 2 = ivb1 a0 2 from fl4.i t_a0 rfl 2) (show 0 ≤ ivh4 a2 5 ∧ ivh4 a2 5 ≤ 1 from W9.int t_a2 5) (show 0 ≤ ivh4 a1 2 ∧ ivh4 a1 2 ≤ 500 from W9.int t_a1 2) (show ivh4 a1 2 = ivb1 a1 2 from fl4.i t_a1 rfl 2) (fun ri41 gf4 ri42 ie55 ri43 ie56 ri44 ie58 ri45 ri46 ie61 => ?_)
                refine c_lv (lv2 := [(0, .ref a0), (1, .ref a1), (2, .ref a2)]) [1, 2, 3] rfl ?_
                exact J1   _  W9 F7  (by show 0 ≤ ivh4 a0 0 ∧ ivh4 a0 0 < iv a1 2; omega) (ie56.trans hin) (by show 500 - ivh4 a0 0 < (nn : Int); omega) (by show ivh4 a2 4 ≤ ivh4 a0 0 + 1 - iv a0 0; omega) (ie58.trans hc2) (hK.ltr (fun tt ht => gf2.2 tt (CT.frn ht Wb1 t_a1 Fb1 rfl rfl rfl rfl rfl) (by omega) (by omega)) (fun tt ht => gf3.2 tt (CT.frn ht Wb1 t_a1 Fb1 rfl rfl rfl rfl rfl) (by omega) (by omega)) (by omega) (by omega) (by omega) ⟨by omega, by omega⟩ gf4.2 (by omega) rfl (by omega))
              · refine c_aload_n (j := 3) (x := a2) C dX8_step_71 rfl ?_
                have ri47 : 0 ≤ ivb1 a2 4 ∧ ivb1 a2 4 ≤ 500 := Wb1.int t_a2 4
                refine d_callV (As := []) (rest := []) C hM (G_putBreak (a0 := a2) Wb1 hS t_a2  ) dX8_step_72 kV_X8_57 rfl t_a2 rfl rfl (by decide) ck_7 rfl (Nat.le_of_ble_eq_true rfl) ⟨(Nat.le_of_ble_eq_true rfl), (Nat.le_of_ble_eq_true rfl)⟩ hph hph (show 0 + 0 = 0 from rfl) (by decide) (fun rh5 Lh5 clh5 lnh5 ivh5 rvh5 h5 => ?_)
                obtain ⟨rfl, rfl, rfl, rfl, rfl, fl5, W10, exf5⟩ := h5
                have F8 := Fb1.call hX0 fl5 rfl
                refine c_st (st2 := []) rfl ?_
                refine hv3 (show 0 ≤ ivh5 a2 4 ∧ ivh5 a2 4 ≤ 500 from W10.int t_a2 4) (show 0 ≤ ivh5 a2 5 ∧ ivh5 a2 5 ≤ 1 from W10.int t_a2 5) (show ivh5 a2 4 = ivb1 a2 4 ∧ ivh5 a2 5 = 1 from exf5) (fun ri48 ri49 gf5 => ?_)
                refine c_goto (tgt := 93) C dX8_step_75 (by decide) ?_
                refine hv8 (show (-2147483648) ≤ ivh5 a0 0 ∧ ivh5 a0 0 ≤ 2147483647 from W10.int t_a0 0) (show ivh5 a0 0 = ivb1 a0 0 from fl5.i t_a0 rfl 0) (show 0 ≤ ivh5 a0 1 ∧ ivh5 a0 1 ≤ 1 from W10.int t_a0 1) (show ivh5 a0 1 = ivb1 a0 1 from fl5.i t_a0 rfl 1) (show 0 ≤ ivh5 a0 2 ∧ ivh5 a0 2 ≤ 1 from W10.int t_a0 2) (show ivh5 a0 2 = ivb1 a0 2 from fl5.i t_a0 rfl 2) (show 0 ≤ ivh5 a1 2 ∧ ivh5 a1 2 ≤ 500 from W10.int t_a1 2) (show ivh5 a1 2 = ivb1 a1 2 from fl5.i t_a1 rfl 2) (fun ri50 ie65 ri51 ie66 ri52 ie68 ri53 ie70 => ?_)
                refine c_lv (lv2 := [(0, .ref a0), (1, .ref a1), (2, .ref a2)]) [1, 2, 3] rfl ?_
                exact J1   _  W10 F8  (by show 0 ≤ ivh5 a0 0 ∧ ivh5 a0 0 < iv a1 2; omega) (ie66.trans hin) (by show 500 - ivh5 a0 0 < (nn : Int); omega) (by show ivh5 a2 4 ≤ ivh5 a0 0 + 1 - iv a0 0; omega) (ie68.trans hc2) (hK.til (fun tt ht => gf3.2 tt (CT.frn ht Wb1 t_a1 Fb1 rfl rfl rfl rfl rfl) (by omega) (by omega)) (by omega) ⟨by omega, by omega⟩ (by omega) (by omega) (fun w hw => hw.ni Wb1 fl5 t_a2 (by omega) rfl rfl rfl))
            · refine c_aload_n (j := 3) (x := a2) C dX8_step_56 rfl ?_
              have ri54 : 0 ≤ ivb1 a2 4 ∧ ivb1 a2 4 ≤ 500 := Wb1.int t_a2 4
              refine c_get (k := 4) C ck_7 dX8_step_57 w1_141 (by decide) t_a2 rfl rfl (by decide) rfl ?_
              refine c_if_le (tgt := 65) C (r32_c (lo := 0) (hi := 500) ri54.1 ri54.2 (by decide) (by decide)) dX8_step_60 (by decide) (fun c8 => ?_) (fun c8 => ?_)
              · refine c_iload_n (j := 0) C dX8_step_65 rfl ?_
                refine c_bipush (z := 126) C dX8_step_66 (by decide) ?_
                refine c_icmp_ne (tgt := 78) C ⟨by omega, by omega⟩ ⟨by decide, by decide⟩ dX8_step_68 (by decide) (fun c9 => ?_) (fun c9 => ?_)
                · refine c_iload_n (j := 0) C dX8_step_78 rfl ?_
                  refine c_bipush (z := 32) C dX8_step_79 (by decide) ?_
                  refine c_icmp_eq (tgt := 93) C ⟨by omega, by omega⟩ ⟨by decide, by decide⟩ dX8_step_81 (by decide) (fun _ => ?_) (fun z => absurd z (by omega))
                  refine hv3 (show 0 ≤ ivb1 a0 1 ∧ ivb1 a0 1 ≤ 1 from Wb1.int t_a0 1) (show 0 ≤ ivb1 a0 2 ∧ ivb1 a0 2 ≤ 1 from Wb1.int t_a0 2) (show 0 ≤ ivb1 a2 5 ∧ ivb1 a2 5 ≤ 1 from Wb1.int t_a2 5) (fun ri55 ri56 ri57 => ?_)
                  refine c_lv (lv2 := [(0, .ref a0), (1, .ref a1), (2, .ref a2)]) [1, 2, 3] rfl ?_
                  exact J1   _  Wb1 Fb1  (by show 0 ≤ ivb1 a0 0 ∧ ivb1 a0 0 < iv a1 2; omega) hin (by show 500 - ivb1 a0 0 < (nn : Int); omega) (by show ivb1 a2 4 ≤ ivb1 a0 0 + 1 - iv a0 0; omega) hc2 (hK.sp (fun tt ht => gf3.2 tt (CT.frn ht Wb1 t_a1 Fb1 rfl rfl rfl rfl rfl) (by omega) (by omega)) (by omega) ⟨by omega, by omega⟩ (by omega))
                · refine c_aload_n (j := 3) (x := a2) C dX8_step_71 rfl ?_
                  refine d_callV (As := []) (rest := []) C hM (G_putBreak (a0 := a2) Wb1 hS t_a2  ) dX8_step_72 kV_X8_57 rfl t_a2 rfl rfl (by decide) ck_7 rfl (Nat.le_of_ble_eq_true rfl) ⟨(Nat.le_of_ble_eq_true rfl), (Nat.le_of_ble_eq_true rfl)⟩ hph hph (show 0 + 0 = 0 from rfl) (by decide) (fun rh6 Lh6 clh6 lnh6 ivh6 rvh6 h6 => ?_)
                  obtain ⟨rfl, rfl, rfl, rfl, rfl, fl6, W11, exf6⟩ := h6
                  have F9 := Fb1.call hX0 fl6 rfl
                  refine c_st (st2 := []) rfl ?_
                  refine hv3 (show 0 ≤ ivh6 a2 4 ∧ ivh6 a2 4 ≤ 500 from W11.int t_a2 4) (show 0 ≤ ivh6 a2 5 ∧ ivh6 a2 5 ≤ 1 from W11.int t_a2 5) (show ivh6 a2 4 = ivb1 a2 4 ∧ ivh6 a2 5 = 1 from exf6) (fun ri58 ri59 gf6 => ?_)
                  refine c_goto (tgt := 93) C dX8_step_75 (by decide) ?_
                  refine hv8 (show (-2147483648) ≤ ivh6 a0 0 ∧ ivh6 a0 0 ≤ 2147483647 from W11.int t_a0 0) (show ivh6 a0 0 = ivb1 a0 0 from fl6.i t_a0 rfl 0) (show 0 ≤ ivh6 a0 1 ∧ ivh6 a0 1 ≤ 1 from W11.int t_a0 1) (show ivh6 a0 1 = ivb1 a0 1 from fl6.i t_a0 rfl 1) (show 0 ≤ ivh6 a0 2 ∧ ivh6 a0 2 ≤ 1 from W11.int t_a0 2) (show ivh6 a0 2 = ivb1 a0 2 from fl6.i t_a0 rfl 2) (show 0 ≤ ivh6 a1 2 ∧ ivh6 a1 2 ≤ 500 from W11.int t_a1 2) (show ivh6 a1 2 = ivb1 a1 2 from fl6.i t_a1 rfl 2) (fun ri60 ie77 ri61 ie78 ri62 ie80 ri63 ie82 => ?_)
                  refine c_lv (lv2 := [(0, .ref a0), (1, .ref a1), (2, .ref a2)]) [1, 2, 3] rfl ?_
                  exact J1   _  W11 F9  (by show 0 ≤ ivh6 a0 0 ∧ ivh6 a0 0 < iv a1 2; omega) (ie78.trans hin) (by show 500 - ivh6 a0 0 < (nn : Int); omega) (by show ivh6 a2 4 ≤ ivh6 a0 0 + 1 - iv a0 0; omega) (ie80.trans hc2) (hK.til (fun tt ht => gf3.2 tt (CT.frn ht Wb1 t_a1 Fb1 rfl rfl rfl rfl rfl) (by omega) (by omega)) (by omega) ⟨by omega, by omega⟩ (by omega) (by omega) (fun w hw => hw.ni Wb1 fl6 t_a2 (by omega) rfl rfl rfl))
              · refine c_iconst C dX8_step_63 ?_
                refine hv3 (show 0 ≤ ivb1 a0 1 ∧ ivb1 a0 1 ≤ 1 from Wb1.int t_a0 1) (show 0 ≤ ivb1 a0 2 ∧ ivb1 a0 2 ≤ 1 from Wb1.int t_a0 2) (show 0 ≤ ivb1 a2 5 ∧ ivb1 a2 5 ≤ 1 from Wb1.int t_a2 5) (fun ri64 ri65 ri66 => ?_)
                exact c_iret C dX8_step_64 rfl (by decide) (rom0 hph hph (by decide)) ⟨2, rfl, rfl, rfl, rfl, rfl, Fb1, Wb1, ⟨by decide, by decide⟩, ⟨by omega, STP.sp (by omega) hK (fun tt ht => gf3.2 tt (CT.frn ht Wb1 t_a1 Fb1 rfl rfl rfl rfl rfl) (by omega) (by omega)) (by omega) ⟨by omega, by omega⟩ (by omega) rfl (by omega) (by omega)⟩⟩
    refine hv8 (show (-2147483648) ≤ ivh1 a0 0 ∧ ivh1 a0 0 ≤ 2147483647 from W1.int t_a0 0) (show ivh1 a0 0 = iv a0 0 from fl1.i t_a0 rfl 0) (show 0 ≤ ivh1 a0 1 ∧ ivh1 a0 1 ≤ 1 from W1.int t_a0 1) (show ivh1 a0 1 = iv a0 1 from fl1.i t_a0 rfl 1) (show 0 ≤ ivh1 a0 2 ∧ ivh1 a0 2 ≤ 1 from W1.int t_a0 2) (show ivh1 a0 2 = iv a0 2 from fl1.i t_a0 rfl 2) (show 0 ≤ ivh1 a1 2 ∧ ivh1 a1 2 ≤ 500 from W1.int t_a1 2) (show ivh1 a1 2 = iv a1 2 from fl1.i t_a1 rfl 2) (fun ri67 ie86 ri68 ie87 ri69 ie88 ri70 ie89 => ?_)
    refine c_lv (lv2 := [(0, .ref a0), (1, .ref a1), (2, .ref a2)]) [0, 1, 2] rfl ?_
    exact Lp1 503  _ (by omega) W1 F1  (by show 0 ≤ ivh1 a0 0 ∧ ivh1 a0 0 ≤ 500; omega) ie87 (by show ivh1 a2 4 ≤ ivh1 a0 0 - iv a0 0; omega) ie88 (PTK.init (by omega) (by omega) (by omega))
  · refine c_aload_n (j := 0) (x := a0) C dX8_step_7 rfl ?_
    refine c_aload_n (j := 1) (x := a1) C dX8_step_8 rfl ?_
    refine d_callV (As := [.ref a1]) (rest := []) C hM (G_enterLine (a0 := a0) (a1 := a1) hW hS t_a0 t_a1  (by show 0 ≤ iv a0 0 ∧ iv a0 0 ≤ 501 ∧ (iv a0 1 = 0 ∨ iv a0 0 ≤ 500); omega)) dX8_step_9 kV_X8_39 rfl t_a0 rfl rfl (by decide) ck_9 rfl (Nat.le_of_ble_eq_true rfl) ⟨(Nat.le_of_ble_eq_true rfl), (Nat.le_of_ble_eq_true rfl)⟩ hph hph (show 0 + 0 = 0 from rfl) (by decide) (fun rh7 Lh7 clh7 lnh7 ivh7 rvh7 h7 => ?_)
    obtain ⟨f7, rfl, rfl, rfl, rfl, rfl, fl7, W12, rgf7, exf7⟩ := h7
    have F10 := hF0.call hX0 fl7 rfl
    refine c_st (st2 := [.int (iI f7)]) rfl ?_
    refine hv10 (show (-2147483648) ≤ ivh7 a0 0 ∧ ivh7 a0 0 ≤ 2147483647 from W12.int t_a0 0) (show 0 ≤ ivh7 a0 1 ∧ ivh7 a0 1 ≤ 1 from W12.int t_a0 1) (show 0 ≤ ivh7 a0 2 ∧ ivh7 a0 2 ≤ 1 from W12.int t_a0 2) (show ((f7 = 0 ∨ f7 = 1) ∧ 0 ≤ ivh7 a0 0 ∧ ivh7 a0 0 ≤ 501 ∧ (ivh7 a0 1 = 0 ∨ ivh7 a0 0 ≤ 500) ∧ (f7 = 0 ∨ (ivh7 a0 1 = 1 ∧ iv a0 0 ≤ ivh7 a0 0))) ∧ ∀ tt, CT iv rv a1 tt → (iv a1 2 ≤ iv a0 0 ∧ f7 = 0 ∧ ivh7 a0 0 = iv a0 0 ∧ ivh7 a0 1 = iv a0 1) ∨ (iv a0 0 < iv a1 2 ∧ f7 = 1 ∧ ivh7 a0 1 = 1 ∧ ((tt (iv a0 0).toNat = 94 ∧ ivh7 a0 0 = iv a0 0 + 1 ∧ ivh7 a0 2 = 1) ∨ (tt (iv a0 0).toNat ≠ 94 ∧ ivh7 a0 0 = iv a0 0 ∧ ivh7 a0 2 = 0))) from exf7) (show 0 ≤ ivh7 a2 4 ∧ ivh7 a2 4 ≤ 500 from W12.int t_a2 4) (show ivh7 a2 4 = iv a2 4 from fl7.i t_a2 rfl 4) (show 0 ≤ ivh7 a2 5 ∧ ivh7 a2 5 ≤ 1 from W12.int t_a2 5) (show ivh7 a2 5 = iv a2 5 from fl7.i t_a2 rfl 5) (show 0 ≤ ivh7 a1 2 ∧ ivh7 a1 2 ≤ 500 from W12.int t_a1 2) (show ivh7 a1 2 = iv a1 2 from fl7.i t_a1 rfl 2) (fun ri71 ri72 ri73 gf7 ri74 ie93 ri75 ie94 ri76 ie95 => ?_)
    exact c_iret C dX8_step_12 rfl (by decide) (rom0 hph hph (by decide)) ⟨f7, rfl, rfl, rfl, rfl, rfl, F10, W12, ⟨by omega, by omega⟩, ⟨by omega, STP.no (by omega) (fun tt ht => by
        rcases gf7.2 tt ht with ⟨q1, q2, q3, q4⟩ | q
        · exact Or.inl ⟨q1, q2, q3, by omega⟩
        · exact Or.inr q)⟩⟩
end
section
section VROW
variable {h : Nat} {sk : Nat → Nat} {L : List Nat} {cl ln : Nat → Nat} {iv iv1 iv2 iv3 : Nat → Nat → Int} {rv : Nat → Nat → Option Nat} {s c q b b2 : Nat} {T : Nat → Int} {N : Int} {a : Nat → Nat → Int} {v : Nat → Int} {x y k n n2 m p f cm cm2 i j wy wy2 t : Int} {ls : List Nat} {w : List (Int × Nat × Int)}
theorem PWH.ltw (hw : PWH iv rv s w) (hW : WT h sk L cl ln iv rv) (ts : ty L cl s 15) : LTW iv rv s (lts w) 0 (iv s 4) := fun lb hb j h1 h2 => by
  obtain ⟨g1, g2⟩ := hw
  obtain ⟨b1, q1, _⟩ := hW.ref ts 1 rfl rfl rfl
  obtain ⟨b2, q2, _⟩ := hW.ref ts 2 rfl rfl rfl
  have lt : j.toNat < w.length := by omega
  have g := (g2 lb b1 b2 hb q1 q2 j.toNat _ (List.getElem?_eq_getElem lt)).1
  rw [g]
  show _ = ((w[j.toNat]?).map (fun x => x.1)).getD 0
  (rw [List.getElem?_eq_getElem lt]) <;> rfl
end VROW
end
section
def LNE (iv : Nat → Nat → Int) (rv : Nat → Nat → Option Nat) (r : Nat) (xs : List Int) : Prop := iv r 1 = ((xs.length : Nat) : Int) ∧ ∀ cb, rv r 0 = some cb → ∀ (j : Nat) (x : Int), xs[j]? = some x → iv cb j = x
def LFR (L : List Nat) (cl : Nat → Nat) (iv : Nat → Nat → Int) (rv : Nat → Nat → Option Nat) (iv2 : Nat → Nat → Int) (r : Nat) : Prop := (∀ b, ty L cl b 19 → b ≠ r → iv2 b = iv b) ∧ ∀ b, ty L cl b 64 → rv r 0 ≠ some b → iv2 b = iv b
def LAX (iv : Nat → Nat → Int) (rv : Nat → Nat → Option Nat) (iv2 : Nat → Nat → Int) (r : Nat) (x : Int) : Prop := ∀ xs, LNE iv rv r xs → xs.length < 200 → LNE iv2 rv r (xs ++ [x])
def APK (iv : Nat → Nat → Int) (rv : Nat → Nat → Option Nat) (iv1 : Nat → Nat → Int) (r s : Nat) (i k : Int) : Prop := ∀ xs cs, LNE iv rv r xs → PDH iv rv s cs → cs.length ≤ 200 → k ≤ ((cs.length : Nat) : Int) → (((pql xs).length : Nat) : Int) + (k - i) ≤ 200 → LNE iv1 rv r (pql xs ++ sgm cs i.toNat (k - i).toNat)
def APX (iv : Nat → Nat → Int) (rv : Nat → Nat → Option Nat) (iv2 : Nat → Nat → Int) (r s : Nat) (i j : Int) : Prop := ∀ xs cs, LNE iv rv r xs → PDH iv rv s cs → cs.length ≤ 200 → i ≤ j → j ≤ ((cs.length : Nat) : Int) → (((pql xs).length : Nat) : Int) + (j - i) ≤ 200 → LNE iv2 rv r (pql xs ++ sgm cs i.toNat (j - i).toNat)
def ind (n : Int) (xs : List Int) : List Int := if n ≤ 0 ∨ xs.length = 0 ∨ 200 - ((xs.length : Nat) : Int) < n then xs else List.replicate n.toNat 0 ++ xs
def INX (iv : Nat → Nat → Int) (rv : Nat → Nat → Option Nat) (iv2 : Nat → Nat → Int) (r : Nat) (n : Int) : Prop := ∀ xs, LNE iv rv r xs → LNE iv2 rv r (ind n xs)
def INK (iv : Nat → Nat → Int) (rv : Nat → Nat → Option Nat) (iv1 : Nat → Nat → Int) (r : Nat) (n k : Int) : Prop := ∀ cb, rv r 0 = some cb → ∀ j : Nat, (((j : Nat) : Int) < k → iv1 cb j = 0) ∧ (n ≤ ((j : Nat) : Int) → ((j : Nat) : Int) < n + iv r 1 → iv1 cb j = iv cb (j - n.toNat))
def SBG (iv : Nat → Nat → Int) (rv : Nat → Nat → Option Nat) (s : Nat) (n : Nat) (st : Nat → Int) : Prop := ∀ sb, rv s 3 = some sb → ∀ j : Nat, j < n → iv sb j = st j
def MNO (st : Nat → Int) : Prop := ∀ i j : Nat, i < j → 0 ≤ st i → 0 ≤ st j → st i ≤ st j
def LBV (w : List (Int × Nat × Int)) (k : Int) (st : Nat → Int) (d r : Int) (n : Nat) : Int := if 0 ≤ lbk w k st d r n then lbk w k st d r n else d
def LBX (iv : Nat → Nat → Int) (rv : Nat → Nat → Option Nat) (s : Nat) (x i n f : Int) : Prop := ∀ w st, PWH iv rv s w → (x ≤ 3 → SBG iv rv s w.length st ∧ MNO st) → f = LBV w x st i (n + 1) w.length
def LBI (iv : Nat → Nat → Int) (rv : Nat → Nat → Option Nat) (s : Nat) (x i n k f : Int) : Prop := ∀ w st, PWH iv rv s w → (x ≤ 3 → SBG iv rv s w.length st ∧ MNO st) → f = LBV w x st i (n + 1) k.toNat
def LBO (iv : Nat → Nat → Int) (rv : Nat → Nat → Option Nat) (s : Nat) (i la n k o : Int) : Prop := ∀ w st, PWH iv rv s w → SBG iv rv s w.length st → (o = 1 ↔ (bks w k.toNat ≠ 0 ∧ la < st k.toNat ∧ st k.toNat - i ≤ n))
section LROW
variable {h : Nat} {sk : Nat → Nat} {L : List Nat} {cl ln : Nat → Nat} {iv iv1 iv2 iv3 : Nat → Nat → Int} {rv : Nat → Nat → Option Nat} {r s cb lb bb sb : Nat} {x y z p i k j n d f la o : Int} {xs ys cs : List Int} {w : List (Int × Nat × Int)} {st : Nat → Int} {ls : List Nat}
theorem LFR.refl : LFR L cl iv rv iv r := ⟨fun _ _ _ => rfl, fun _ _ _ => rfl⟩
theorem LFR.self {m : Nat} (h : LFR L cl iv rv iv1 r) (tr : ty L cl r 19) (e : iv2 = up2 iv1 r m z) : LFR L cl iv rv iv2 r := ⟨fun b tb hb => by
  funext q
  rw [e, up2_k hb, h.1 b tb hb], fun b tb hb => by
  funext q
  rw [e, up2_k (ne_ty tb tr (by decide)), h.2 b tb hb]⟩
theorem LFR.cell {m : Nat} (h : LFR L cl iv rv iv1 r) (h0 : rv r 0 = some cb) (tc : ty L cl cb 64) (e : iv2 = up2 iv1 cb m z) : LFR L cl iv rv iv2 r := ⟨fun b tb hb => by
  funext q
  rw [e, up2_k (ne_ty tb tc (by decide)), h.1 b tb hb], fun b tb hb => by
  funext q
  rw [e, up2_k (fun g => hb (by rw [g]; exact h0)), h.2 b tb hb]⟩
theorem LFR.copy {X : Nat → Int} (h : LFR L cl iv rv iv1 r) (h0 : rv r 0 = some cb) (tc : ty L cl cb 64) (e : iv2 = fun u m => if u = cb then X m else iv1 u m) : LFR L cl iv rv iv2 r := ⟨fun b tb hb => by
  funext q
  rw [e]
  show (if b = cb then X q else iv1 b q) = iv b q
  rw [if_neg (ne_ty tb tc (by decide)), h.1 b tb hb], fun b tb hb => by
  funext q
  rw [e]
  show (if b = cb then X q else iv1 b q) = iv b q
  rw [if_neg (fun g => hb (by rw [g]; exact h0)), h.2 b tb hb]⟩
theorem LFR.trans (h : LFR L cl iv rv iv1 r) (h2 : LFR L cl iv1 rv iv2 r) : LFR L cl iv rv iv2 r := ⟨fun b tb hb => (h2.1 b tb hb).trans (h.1 b tb hb), fun b tb hb => (h2.2 b tb hb).trans (h.2 b tb hb)⟩
theorem LNE.nil (h1 : iv r 1 = 0) : LNE iv rv r [] := ⟨h1, fun cb hb j x e => by simp at e⟩
theorem LAX.full (h1 : 200 ≤ iv r 1) : LAX iv rv iv1 r x := fun xs hl hx => by
  have e := hl.1
  omega
theorem LAX.mk (h0 : rv r 0 = some cb) (e1 : iv1 = up2 iv cb p.toNat x) (e2 : iv2 = up2 iv1 r 1 y) (hp : p = iv r 1) (hy : y = iv r 1 + 1) (hne : cb ≠ r) : LAX iv rv iv2 r x := fun xs hl hx => by
  obtain ⟨h1, h2⟩ := hl
  refine ⟨by rw [e2, up2_s, len1]; omega, fun cb' hb j z e => ?_⟩
  rw [h0] at hb; cases hb
  rcases ap1 e with ⟨c, e3⟩ | ⟨c, e3⟩
  · rw [e2, up2_k hne, e1, up2_j (by omega)]
    exact h2 cb h0 j z e3
  · rw [e2, up2_k hne, e1, show j = p.toNat by omega, up2_s]
    exact e3
theorem sgm_len {d : Nat} : ∀ m : Nat, (sgm cs d m).length = m := by
  intro m
  induction m with
  | zero => rfl
  | succ m ih => rw [sgm_s, len1, ih]
theorem pql_len : (pql xs).length = if xs.length = 0 then 0 else xs.length + 1 := by
  unfold pql
  split
  · rfl
  · exact len1
theorem APK.init0 (h1 : iv r 1 ≤ 0) : APK iv rv iv r s i i := fun xs cs hl hp h2 h3 h4 => by
  have e := hl.1
  have e0 : xs = [] := List.length_eq_zero_iff.mp (by omega)
  rw [e0] at hl ⊢
  rw [show (i - i).toNat = 0 by omega]
  exact hl
theorem APK.init1 (hx : LAX iv rv iv1 r 0) (h1 : 0 < iv r 1) : APK iv rv iv1 r s i i := fun xs cs hl hp h2 h3 h4 => by
  have e := hl.1
  have ep : pql xs = xs ++ [0] := by
    unfold pql
    rw [if_neg (by omega)]
  rw [show (i - i).toNat = 0 by omega]
  rw [ep, len1] at h4
  rw [ep]
  show LNE iv1 rv r ((xs ++ [0]) ++ [])
  rw [List.append_nil]
  exact hx xs hl (by omega)
theorem APK.step (h : APK iv rv iv1 r s i k) (hx : LAX iv1 rv iv2 r z) (h6 : rv s 6 = some cb) (hz : z = iv1 cb k.toNat) (he : iv1 cb k.toNat = iv cb k.toNat) (hk : 0 ≤ i ∧ i ≤ k ∧ k < 200) : APK iv rv iv2 r s i (k + 1) := fun xs cs hl hp h2 h3 h4 => by
  refine hv2 (h xs cs hl hp h2 (by omega) (by omega)) (show (pql xs ++ sgm cs i.toNat (k - i).toNat).length = (pql xs).length + (k - i).toNat from by rw [List.length_append, sgm_len]) (fun g ll => ?_)
  have g2 := hx _ g (by omega)
  rw [show (k + 1 - i).toNat = (k - i).toNat + 1 by omega, sgm_s, show i.toNat + (k - i).toNat = k.toNat by omega, ← List.append_assoc]
  have lt : k.toNat < cs.length := by omega
  have ec : (cs[k.toNat]?).getD 0 = z := by
    have e1 : cs[k.toNat]? = some (cs[k.toNat]'lt) := List.getElem?_eq_getElem lt
    have e2 := hp.2 cb h6 k.toNat _ (by omega) e1
    rw [e1, hz, he, e2]
    rfl
  rw [ec]
  exact g2
theorem APX.fin (h : APK iv rv iv1 r s i k) (hk : k = i ∨ k ≤ j) (hx : j ≤ k ∨ 200 ≤ k) : APX iv rv iv1 r s i j := fun xs cs hl hp h2 h3 h4 h5 => by
  have e : k = j := by omega
  subst e
  exact h xs cs hl hp h2 h4 h5
theorem INX.no (h1 : n ≤ 0 ∨ iv r 1 = 0 ∨ 200 - iv r 1 < n) : INX iv rv iv r n := fun xs hl => by
  have e := hl.1
  unfold ind
  rw [if_pos (by omega)]
  exact hl
theorem INK.init {q : Int} (h0 : rv r 0 = some cb) (e : iv1 = fun u m => if u = cb then (if n.toNat ≤ m ∧ m < n.toNat + q.toNat then iv cb ((0 : Int).toNat + (m - n.toNat)) else iv cb m) else iv u m) (hq : q = iv r 1) (h1 : 0 ≤ iv r 1) (hn : 0 ≤ n) : INK iv rv iv1 r n 0 := fun cb' hb j => by
  rw [h0] at hb; cases hb
  refine ⟨fun c => absurd c (by omega), fun c1 c2 => ?_⟩
  rw [e]
  show (if cb = cb then (if n.toNat ≤ j ∧ j < n.toNat + q.toNat then iv cb ((0 : Int).toNat + (j - n.toNat)) else iv cb j) else iv cb j) = _
  rw [if_pos rfl, if_pos (by omega), show (0 : Int).toNat + (j - n.toNat) = j - n.toNat by omega]
theorem INK.step (h : INK iv rv iv1 r n k) (h0 : rv r 0 = some cb) (e : iv2 = up2 iv1 cb k.toNat 0) (hk : 0 ≤ k ∧ k < n) : INK iv rv iv2 r n (k + 1) := fun cb' hb j => by
  have g := h cb' hb j
  rw [h0] at hb; cases hb
  refine ⟨fun c => ?_, fun c1 c2 => ?_⟩
  · by_cases c3 : ((j : Nat) : Int) = k
    · rw [e, show j = k.toNat by omega, up2_s]
    · rw [e, up2_j (by omega)]
      exact g.1 (by omega)
  · rw [e, up2_j (by omega)]
    exact g.2 c1 c2
theorem rep_get (m : Nat) : ∀ (j : Nat) (x : Int), (List.replicate m (0 : Int) ++ xs)[j]? = some x → (j < m ∧ x = 0) ∨ (m ≤ j ∧ xs[j - m]? = some x) := fun j x e => by
  by_cases c : j < m
  · rw [List.getElem?_append_left (by rw [List.length_replicate]; exact c)] at e
    have e2 : (List.replicate m (0 : Int))[j]? = some 0 := by
      rw [List.getElem?_replicate, if_pos c]
    rw [e2] at e
    cases e
    exact Or.inl ⟨c, rfl⟩
  · rw [List.getElem?_append_right (by rw [List.length_replicate]; omega), List.length_replicate] at e
    exact Or.inr ⟨by omega, e⟩
theorem INX.mk (h : INK iv rv iv1 r n n) (h0 : rv r 0 = some cb) (e : iv2 = up2 iv1 r 1 y) (hy : y = iv r 1 + n) (hne : cb ≠ r) (hn : 0 < n) (h1 : iv r 1 ≠ 0 ∧ n ≤ 200 - iv r 1) : INX iv rv iv2 r n := fun xs hl => by
  obtain ⟨l1, l2⟩ := hl
  unfold ind
  rw [if_neg (by omega)]
  refine ⟨by rw [e, up2_s, List.length_append, List.length_replicate]; omega, fun cb' hb j x ej => ?_⟩
  rw [h0] at hb; cases hb
  have g := h cb h0 j
  rw [e, up2_k hne]
  rcases rep_get n.toNat j x ej with ⟨c, e3⟩ | ⟨c, e3⟩
  · rw [g.1 (by omega), e3]
  · have lt := gl3 e3
    rw [g.2 (by omega) (by omega)]
    exact l2 cb h0 _ x e3
theorem ind_cen {wd : Int} (hl : (0 ≤ wd - ((xs.length : Nat) : Int) → n = (wd - ((xs.length : Nat) : Int)) / 2) ∧ (wd - ((xs.length : Nat) : Int) < 0 → n ≤ 0)) (hx : wd ≤ 100) : ind n xs = cen wd xs := by
  unfold ind cen
  by_cases c : xs.length = 0 ∨ wd ≤ ((xs.length : Nat) : Int)
  · rw [if_pos c, if_pos (by omega)]
  · rw [if_neg c]
    have e := hl.1 (by omega)
    by_cases c2 : n ≤ 0
    · rw [if_pos (Or.inl c2)]
      rw [show ((wd - ((xs.length : Nat) : Int)) / 2).toNat = 0 by omega]
      rfl
    · rw [if_neg (by omega), ← e]
theorem tdv_r : (0 ≤ x → x.tdiv 2 = x / 2) ∧ (x < 0 → x.tdiv 2 = -((-x) / 2)) := ⟨fun q => Int.tdiv_eq_ediv_of_nonneg q, fun q => by
  have e : x.tdiv 2 = -((-x).tdiv 2) := by rw [Int.neg_tdiv, Int.neg_neg]
  rw [e, Int.tdiv_eq_ediv_of_nonneg (by omega)]⟩
theorem dv2 (hx : -100000 ≤ x ∧ x ≤ 100000) : ∃ q : Int, (-100000 ≤ q ∧ q ≤ 100000) ∧ ((0 ≤ x → q = x / 2) ∧ (x < 0 → q ≤ 0)) ∧ iI x / iI 2 = iI q := by
  obtain ⟨t1, t2⟩ := tdv_r (x := x)
  have rg : -100000 ≤ x.tdiv 2 ∧ x.tdiv 2 ≤ 100000 := by
    by_cases c : 0 ≤ x
    · rw [t1 c]; omega
    · rw [t2 (by omega)]; omega
  refine ⟨x.tdiv 2, rg, ⟨t1, fun c => by rw [t2 c]; omega⟩, ?_⟩
  apply Int32.toInt_inj.mp
  rw [Int32.toInt_div, iI_int ⟨by omega, by omega⟩, iI_int ⟨by omega, by omega⟩, iI_int ⟨by omega, by omega⟩]
  exact Int.bmod_eq_of_le (by omega) (by omega)
theorem bks_at {m : Nat} {q : Int × Nat × Int} (e : w[m]? = some q) : bks w m = q.2.2 := by
  unfold bks
  rw [e]
  rfl
theorem PWH.at1 (hw : PWH iv rv s w) (h0 : rv s 0 = some lb) (hW : WT h sk L cl ln iv rv) (ts : ty L cl s 15) (hk : 0 ≤ k ∧ k < iv s 4) : iv lb k.toNat = lts w k.toNat := hw.ltw hW ts lb h0 k hk.1 hk.2
theorem PWH.bk (hw : PWH iv rv s w) (h2 : rv s 2 = some bb) (hW : WT h sk L cl ln iv rv) (ts : ty L cl s 15) (hk : 1 ≤ k ∧ k < iv s 4) : iv bb k.toNat = bks w k.toNat := by
  obtain ⟨b0, q0, _⟩ := hW.ref ts 0 rfl rfl rfl
  obtain ⟨b1, q1, _⟩ := hW.ref ts 1 rfl rfl rfl
  have e4 := hw.1
  have lt : k.toNat < w.length := by omega
  have e := List.getElem?_eq_getElem lt
  rw [bks_at e]
  exact (hw.2 b0 b1 bb q0 q1 h2 k.toNat _ e).2.2 (by omega)
theorem lbk_at {k : Int} {st : Nat → Int} {d r : Int} : ∀ m : Nat, 0 ≤ lbk w k st d r m → ∃ q, q < m ∧ (d < st q ∧ st q - d + 1 ≤ r) ∧ lbk w k st d r m = st q := by
  intro m
  induction m with
  | zero => intro c; exact absurd (show (0 : Int) ≤ -1 from c) (by decide)
  | succ m ih =>
    rw [lbk_s]
    split
    · rename_i c
      intro _
      exact ⟨m, by omega, ⟨c.2.2.1, c.2.2.2.1⟩, rfl⟩
    · intro c
      obtain ⟨q, q1, q2, q3⟩ := ih c
      exact ⟨q, by omega, q2, q3⟩
theorem lbk_no {k : Int} {st : Nat → Int} {d r : Int} (hk : ¬ (k ≤ 3 ∧ (k = 3 → 6 ≤ ((w.length : Nat) : Int)))) : ∀ m : Nat, lbk w k st d r m = -1 := by
  intro m
  induction m with
  | zero => rfl
  | succ m ih =>
    rw [lbk_s, if_neg, ih]
    intro c
    exact hk ⟨c.2.2.2.2.1, c.2.2.2.2.2.2⟩
theorem LBX.no (h1 : 3 < x ∨ (x = 3 ∧ iv s 4 < 6)) : LBX iv rv s x i n i := fun w st hw _ => by
  have e4 := hw.1
  unfold LBV
  rw [lbk_no (by omega), if_neg (by decide)]
theorem LBI.init : LBI iv rv s x i n 1 i := fun w st hw _ => by
  unfold LBV
  have e : lbk w x st i (n + 1) (1 : Int).toNat = -1 := by
    show lbk w x st i (n + 1) (0 + 1) = -1
    rw [lbk_s, if_neg (by omega)]
    rfl
  rw [e, if_neg (by decide)]
theorem LBI.fin (h : LBI iv rv s x i n k f) (hk : k = iv s 4 ∨ (k = 1 ∧ iv s 4 ≤ 1)) : LBX iv rv s x i n f := fun w st hw hs => by
  refine hv2 (hw.1) (h w st hw hs) (fun e4 g => ?_)
  by_cases c : k = iv s 4
  · rw [show k.toNat = w.length by omega] at g
    exact g
  · rw [g]
    have e1 : lbk w x st i (n + 1) k.toNat = -1 := by
      rw [show k.toNat = 0 + 1 by omega, lbk_s, if_neg (by omega)]
      rfl
    have e2 : lbk w x st i (n + 1) w.length = -1 := by
      rw [show w.length = 0 by omega]
      rfl
    unfold LBV
    rw [e1, e2]
theorem LBI.pass (h : LBI iv rv s x i n k la) (hk : 1 ≤ k ∧ k < iv s 4) (hno : ∀ w st, PWH iv rv s w → (x ≤ 3 → SBG iv rv s w.length st ∧ MNO st) → la = LBV w x st i (n + 1) k.toNat → ¬ (bks w k.toNat ≠ 0 ∧ i < st k.toNat ∧ st k.toNat - i + 1 ≤ n + 1 ∧ kok x ((w.length : Nat) : Int) (lts w (k.toNat - 1)) (lts w k.toNat)) ∨ la = st k.toNat) (hx : x ≤ 3) : LBI iv rv s x i n (k + 1) la := fun w st hw hs => by
  have g := h w st hw hs
  rcases hno w st hw hs g with c | c
  · have c9 : ¬ (1 ≤ k.toNat ∧ bks w k.toNat ≠ 0 ∧ i < st k.toNat ∧ st k.toNat - i + 1 ≤ n + 1 ∧ kok x ((w.length : Nat) : Int) (lts w (k.toNat - 1)) (lts w k.toNat)) := fun q => c q.2
    rw [g]
    unfold LBV
    rw [show (k + 1).toNat = k.toNat + 1 by omega, lbk_s, if_neg c9]
  · by_cases c2 : 1 ≤ k.toNat ∧ bks w k.toNat ≠ 0 ∧ i < st k.toNat ∧ st k.toNat - i + 1 ≤ n + 1 ∧ kok x ((w.length : Nat) : Int) (lts w (k.toNat - 1)) (lts w k.toNat)
    · unfold LBV
      rw [show (k + 1).toNat = k.toNat + 1 by omega, lbk_s, if_pos c2]
      by_cases c3 : 0 ≤ st k.toNat
      · rw [if_pos c3]
        exact c
      · rw [if_neg c3]
        unfold LBV at g
        split at g
        · omega
        · exact g
    · rw [g]
      unfold LBV
      rw [show (k + 1).toNat = k.toNat + 1 by omega, lbk_s, if_neg c2]
theorem LBI.nof (h : LBI iv rv s x i n k la) (hk : 1 ≤ k ∧ k < iv s 4) (hx : x ≤ 3) (ho : LBO iv rv s i la n k o) (hf : o ≠ 1) (hi : 0 ≤ i ∧ i ≤ la) : LBI iv rv s x i n (k + 1) la := by
  refine h.pass hk (fun w st hw hs g => ?_) hx
  have q := ho w st hw (hs hx).1
  by_cases c : bks w k.toNat ≠ 0 ∧ i < st k.toNat ∧ st k.toNat - i + 1 ≤ n + 1
  · refine Or.inr ?_
    have c2 : ¬ la < st k.toNat := fun c2 => hf (q.mpr ⟨c.1, c2, by omega⟩)
    have c3 : la ≤ st k.toNat := by
      rw [g]
      unfold LBV
      split
      · rename_i c4
        obtain ⟨q0, q1, q2, q3⟩ := lbk_at _ c4
        rw [q3]
        exact (hs hx).2 q0 k.toNat q1 (by omega) (by omega)
      · omega
    omega
  · exact Or.inl (fun q2 => c ⟨q2.1, q2.2.1, q2.2.2.1⟩)
theorem LBI.dig (hl : LBI iv rv s x i n k la) (hk : 1 ≤ k ∧ k < iv s 4) (hx : x = 2) (hW : WT h sk L cl ln iv rv) (ts : ty L cl s 15) (h0 : rv s 0 = some lb) (hd : isD (iv lb (k - 1).toNat) ∨ isD (iv lb k.toNat)) : LBI iv rv s x i n (k + 1) la := by
  refine hl.pass hk (fun w st hw hs g => Or.inl (fun q => ?_)) (by omega)
  refine hv2 (hw.at1 h0 hW ts (k := k) ⟨by omega, hk.2⟩) (q.2.2.2.2.1 hx) (fun e1 q2 => ?_)
  have e2 := hw.at1 h0 hW ts (k := k - 1) ⟨by omega, by omega⟩
  rw [show k.toNat - 1 = (k - 1).toNat by omega, ← e1, ← e2] at q2
  rcases hd with c | c
  · exact q2.1 c
  · exact q2.2 c
theorem LBI.take (hl : LBI iv rv s x i n k la) (hk : 1 ≤ k ∧ k < iv s 4) (hx : x ≤ 3 ∧ (x = 3 → 6 ≤ iv s 4)) (ho : LBO iv rv s i la n k o) (hf : o = 1) (hW : WT h sk L cl ln iv rv) (ts : ty L cl s 15) (h3 : rv s 3 = some sb) (hd : x = 2 → ∃ lb, rv s 0 = some lb ∧ ¬ isD (iv lb (k - 1).toNat) ∧ ¬ isD (iv lb k.toNat)) (hi : 0 ≤ i ∧ i ≤ la) : LBI iv rv s x i n (k + 1) (iv sb k.toNat) := fun w st hw hs => by
  refine hv2 ((ho w st hw (hs hx.1).1).mp hf) (hw.1) (fun q e4 => ?_)
  have es : iv sb k.toNat = st k.toNat := (hs hx.1).1 sb h3 k.toNat (by omega)
  have e9 : lbk w x st i (n + 1) (k + 1).toNat = st k.toNat := by
    rw [show (k + 1).toNat = k.toNat + 1 by omega, lbk_s, if_pos]
    refine ⟨by omega, q.1, by omega, by omega, hx.1, fun c => ?_, fun c => ?_⟩
    · obtain ⟨lb, h0, d1⟩ := hd c
      have e1 := hw.at1 h0 hW ts (k := k) ⟨by omega, hk.2⟩
      have e2 := hw.at1 h0 hW ts (k := k - 1) ⟨by omega, by omega⟩
      rw [show k.toNat - 1 = (k - 1).toNat by omega, ← e1, ← e2]
      exact d1
    · have := hx.2 c
      omega
  unfold LBV
  rw [e9, if_pos (by omega)]
  exact es
theorem LBO.mk (hW : WT h sk L cl ln iv rv) (ts : ty L cl s 15) (h2 : rv s 2 = some bb) (h3 : rv s 3 = some sb) (hk : 1 ≤ k ∧ k < iv s 4) (ho : (o = 1 ∧ iv bb k.toNat ≠ 0 ∧ la < iv sb k.toNat ∧ iv sb k.toNat - i ≤ n) ∨ (o ≠ 1 ∧ (iv bb k.toNat = 0 ∨ iv sb k.toNat ≤ la ∨ n < iv sb k.toNat - i))) : LBO iv rv s i la n k o := fun w st hw hs => by
  refine hv2 (hw.1) (hw.bk h2 hW ts hk) (fun e4 e1 => ?_)
  have e2 := hs sb h3 k.toNat (by omega)
  rw [← e1, ← e2]
  omega
theorem LBO.b0 (hW : WT h sk L cl ln iv rv) (ts : ty L cl s 15) (h2 : rv s 2 = some bb) (hk : 1 ≤ k ∧ k < iv s 4) (ho : o ≠ 1) (hb : iv bb k.toNat = 0) : LBO iv rv s i la n k o := fun w st hw hs => by
  have e1 := hw.bk h2 hW ts hk
  rw [← e1]
  omega
end LROW
end
