def LTW (iv : Nat → Nat → Int) (rv : Nat → Nat → Option Nat) (s : Nat) (W : Nat → Int) (q u : Int) : Prop := ∀ lb, rv s 0 = some lb → ∀ j : Int, q ≤ j → j < u → iv lb j.toNat = W j.toNat
def FTX (ln : Nat → Nat) (iv : Nat → Nat → Int) (rv : Nat → Nat → Option Nat) (s w : Nat) (i f : Int) : Prop := ∀ a W R, ROWR ln iv rv a w R → 1 ≤ a 12 R → LTW iv rv s W (i + 1) (iv s 11) → a 14 (8 * R) = W i.toNat → (f = 1 ↔ FIT a W (iv s 10) (iv s 11) i (R : Int))
def FXI (iv : Nat → Nat → Int) (rv : Nat → Nat → Option Nat) (s w : Nat) (i k : Int) : Prop := ∀ l lb, rv w 1 = some l → rv s 0 = some lb → ∀ j : Int, 1 ≤ j → j < k → iv l j.toNat = iv lb (i + j).toNat
def BST (ln : Nat → Nat) (iv : Nat → Nat → Int) (rv : Nat → Nat → Option Nat) (a : Nat → Nat → Int) (r : Option Nat) (z : Int) : Prop := (r = none ∧ z = -1) ∨ ∃ w, r = some w ∧ 0 ≤ z ∧ ROWR ln iv rv a w z.toNat
def OWC (a : Nat → Nat → Int) (W : Nat → Int) (q u x t rb z k : Int) : Prop := ∃ y, OWI a W q u x t y (200 * t + k) ∧ z = cmb a rb y
def FOX (sk ln : Nat → Nat) (iv : Nat → Nat → Int) (rv : Nat → Nat → Option Nat) (s tb : Nat) (i x : Int) (r f : Option Nat) : Prop := ∀ v a W (t : Nat) (rb : Int), TRL sk ln iv rv v a → (t : Int) < v 4 → el rv (sk 22) t = some tb → LTW iv rv s W (i + 1) (iv s 11) → W i.toNat = x → -1 ≤ rb → BST ln iv rv a r rb → ∃ y, OWR a W (iv s 10) (iv s 11) i t y ∧ BST ln iv rv a f (cmb a rb y)
def FOI (sk ln : Nat → Nat) (iv : Nat → Nat → Int) (rv : Nat → Nat → Option Nat) (s tb : Nat) (i x : Int) (r bs : Option Nat) (lg k : Int) : Prop := ∀ v a W (t : Nat) (rb : Int), TRL sk ln iv rv v a → (t : Int) < v 4 → el rv (sk 22) t = some tb → LTW iv rv s W (i + 1) (iv s 11) → W i.toNat = x → -1 ≤ rb → BST ln iv rv a r rb → ∃ z, OWC a W (iv s 10) (iv s 11) i t rb z k ∧ BST ln iv rv a bs z ∧ ((bs = none ∧ lg = 0) ∨ ∃ w l, bs = some w ∧ rv w 1 = some l ∧ lg = ((ln l : Nat) : Int))
def FDX (sk ln : Nat → Nat) (iv : Nat → Nat → Int) (rv : Nat → Nat → Option Nat) (s tb : Nat) (i x : Int) (f : Option Nat) : Prop := ∀ v a W (t : Nat), TRL sk ln iv rv v a → (t : Int) < v 4 → a 6 t ≠ 5 → el rv (sk 22) t = some tb → LTW iv rv s W (i + 1) (iv s 11) → ∃ y, fnd a (iv s 10) (iv s 11) i 30 (va_up W i.toNat x) t y ∧ BST ln iv rv a f y
def FDI (sk ln : Nat → Nat) (iv : Nat → Nat → Int) (rv : Nat → Nat → Option Nat) (s tb : Nat) (i x : Int) (bs : Option Nat) (he : Int) (tq : Option Nat) : Prop := ∀ v a W (t : Nat), TRL sk ln iv rv v a → (t : Int) < v 4 → a 6 t ≠ 5 → el rv (sk 22) t = some tb → LTW iv rv s W (i + 1) (iv s 11) → ∃ rb t2, -1 ≤ rb ∧ BST ln iv rv a bs rb ∧ BASR sk rv (v 4).toNat tq t2 ∧ (0 ≤ t2 → a 6 t2.toNat ≠ 5) ∧ (tq = none → False) ∧ ∀ y, fnd a (iv s 10) (iv s 11) i 30 (va_up W i.toNat he) t2 y → fnd a (iv s 10) (iv s 11) i 30 (va_up W i.toNat x) t (cmb a rb y)
section FROW
variable {g : Nat} {sk : Nat → Nat} {L : List Nat} {cl ln : Nat → Nat} {iv iv2 : Nat → Nat → Int} {rv : Nat → Nat → Option Nat} {v : Nat → Int} {a : Nat → Nat → Int} {W : Nat → Int} {s w u tb b l lb c q4 : Nat} {R t : Nat} {i k x y z rb f lg he q n : Int} {r bs tq : Option Nat}
theorem LTW.up (h : LTW iv rv s W (i + 1) n) (h0 : 0 ≤ i) : LTW iv rv s (va_up W i.toNat x) (i + 1) n := fun lb hb j h1 h2 => by
  rw [va_up_ne _ _ (by omega)]; exact h lb hb j h1 h2
theorem vuu (W : Nat → Int) (i : Nat) (x y : Int) : va_up (va_up W i x) i y = va_up W i y := by
  funext j
  unfold va_up
  split <;> rfl
theorem FXI.zero : FXI iv rv s w i 1 := fun _ _ _ _ j h1 h2 => absurd h1 (by omega)
theorem FXI.step (h : FXI iv rv s w i k) (h1 : rv w 1 = some l) (h2 : rv s 0 = some lb) (e : iv l k.toNat = iv lb (i + k).toNat) : FXI iv rv s w i (k + 1) := fun l2 lb2 p1 p2 j j1 j2 => by
  by_cases c : j < k
  · exact h l2 lb2 p1 p2 j j1 c
  · rw [h1] at p1; cases p1
    rw [h2] at p2; cases p2
    rw [show j = k by omega]; exact e
theorem FTX.n1 (h1 : rv w 1 = some l) (h : iv s 11 < i + ((ln l : Nat) : Int)) : FTX ln iv rv s w i 0 := fun a W R hr _ _ _ => by
  obtain ⟨_, _, l', c', e3, _, e5, _⟩ := hr
  rw [h1] at e3; cases e3
  refine ⟨fun e => absurd e (by decide), fun e => ?_⟩
  have := e.1.1
  rw [Int.toNat_natCast] at this
  omega
theorem FTX.n2 (h1 : rv w 1 = some l) (h2 : rv s 0 = some lb) (hk : 1 ≤ k ∧ k < ((ln l : Nat) : Int)) (hu : i + ((ln l : Nat) : Int) ≤ iv s 11) (e : iv l k.toNat ≠ iv lb (i + k).toNat) : FTX ln iv rv s w i 0 := fun a W R hr _ hl _ => by
  obtain ⟨_, _, l', c', e3, _, e5, _, e7, _⟩ := hr
  rw [h1] at e3; cases e3
  refine ⟨fun e => absurd e (by decide), fun g => (e ?_).elim⟩
  have g1 := g.1.2 k (by omega) (by rw [Int.toNat_natCast]; omega)
  rw [(e7 k.toNat (by omega)).1, hl lb h2 (i + k) (by omega) (by omega), ← g1]
  exact congrArg (a 14) (by omega)
theorem FTX.cc (h : FXI iv rv s w i k) (h1 : rv w 1 = some l) (h2 : rv s 0 = some lb) (hk : ((ln l : Nat) : Int) ≤ k) (hu : i + ((ln l : Nat) : Int) ≤ iv s 11) (h3 : 0 ≤ iv w 3 ∧ iv w 3 ≤ 5) (hc : f = 1 ↔ (iv w 3 = 0 ∨ (iv w 3 = 1 ∧ i = iv s 10) ∨ (iv w 3 = 2 ∧ i ≠ iv s 10 ∧ i + ((ln l : Nat) : Int) ≠ iv s 11) ∨ (iv w 3 = 3 ∧ i + ((ln l : Nat) : Int) = iv s 11) ∨ (iv w 3 = 4 ∧ i = iv s 10 ∧ i + ((ln l : Nat) : Int) = iv s 11) ∨ (iv w 3 = 5 ∧ i + ((ln l : Nat) : Int) ≠ iv s 11 ∧ ¬ isD (iv lb (i + ((ln l : Nat) : Int)).toNat) ∧ ¬ isG (iv lb (i + ((ln l : Nat) : Int)).toNat) ∧ ¬ isS (iv lb (i + ((ln l : Nat) : Int)).toNat)))) : FTX ln iv rv s w i f := fun a W R hr hr1 hl hw0 => by
  obtain ⟨e1, _, l', c', e3, _, e5, _, e7, _⟩ := hr
  rw [h1] at e3; cases e3
  have ft : FTL a W (iv s 11) i (R : Int) (a 12 (R : Int).toNat) := by
    rw [FTL, Int.toNat_natCast]
    refine ⟨by omega, fun j j0 j1 => ?_⟩
    by_cases c0 : j = 0
    · subst c0
      rw [Int.add_zero, Int.add_zero, ← hw0]
      exact congrArg (a 14) (by omega)
    · have q1 := h l lb h1 h2 j (by omega) (by omega)
      rw [(e7 j.toNat (by omega)).1, hl lb h2 (i + j) (by omega) (by omega)] at q1
      rw [← q1]
      exact congrArg (a 14) (by omega)
  have cn : CND a W (iv s 10) (iv s 11) i (R : Int) ↔ f = 1 := by
    rw [hc]
    unfold CND
    rw [Int.toNat_natCast, ← e1, ← e5]
    by_cases c0 : i + ((ln l : Nat) : Int) = iv s 11
    · constructor
      · rintro (g | g | g | g | g | g)
        · exact Or.inl g
        · exact Or.inr (Or.inl g)
        · exact Or.inr (Or.inr (Or.inl g))
        · exact Or.inr (Or.inr (Or.inr (Or.inl g)))
        · exact Or.inr (Or.inr (Or.inr (Or.inr (Or.inl g))))
        · exact absurd c0 g.2.1
      · rintro (g | g | g | g | g | g)
        · exact Or.inl g
        · exact Or.inr (Or.inl g)
        · exact Or.inr (Or.inr (Or.inl g))
        · exact Or.inr (Or.inr (Or.inr (Or.inl g)))
        · exact Or.inr (Or.inr (Or.inr (Or.inr (Or.inl g))))
        · exact absurd c0 g.2.1
    · rw [hl lb h2 (i + ((ln l : Nat) : Int)) (by omega) (by omega)]
      constructor
      · rintro (g | g | g | g | g | g)
        · exact Or.inl g
        · exact Or.inr (Or.inl g)
        · exact Or.inr (Or.inr (Or.inl g))
        · exact Or.inr (Or.inr (Or.inr (Or.inl g)))
        · exact Or.inr (Or.inr (Or.inr (Or.inr (Or.inl g))))
        · exact Or.inr (Or.inr (Or.inr (Or.inr (Or.inr ⟨by omega, g.2⟩))))
      · rintro (g | g | g | g | g | g)
        · exact Or.inl g
        · exact Or.inr (Or.inl g)
        · exact Or.inr (Or.inr (Or.inl g))
        · exact Or.inr (Or.inr (Or.inr (Or.inl g)))
        · exact Or.inr (Or.inr (Or.inr (Or.inr (Or.inl g))))
        · exact Or.inr (Or.inr (Or.inr (Or.inr (Or.inr ⟨Or.inr (by omega), g.2⟩))))
  exact ⟨fun e => ⟨ft, cn.mpr e⟩, fun e => cn.mp e.2⟩
theorem cmb_n (h : -1 ≤ rb) : cmb a rb (-1) = rb := by
  unfold cmb
  split
  · omega
  · rfl
theorem cmb_0 : cmb a (-1) y = y := by
  unfold cmb
  rw [if_pos (Or.inl (by decide))]
theorem cmb_as (h1 : -1 ≤ x) (h2 : -1 ≤ y) (h3 : -1 ≤ z) : cmb a (cmb a x y) z = cmb a x (cmb a y z) := by
  unfold cmb
  repeat' split
  all_goals omega
theorem OWC.zero (h : -1 ≤ rb) : OWC a W q n i (t : Int) rb rb 0 := ⟨-1, by rw [Int.add_zero]; exact OWI.zero, (cmb_n h).symm⟩
theorem OWC.miss (h : OWC a W q n i (t : Int) rb z k) (hf : ¬ FIT a W q n i (200 * (t : Int) + k)) : OWC a W q n i (t : Int) rb z (k + 1) := by
  obtain ⟨y, h1, h2⟩ := h
  exact ⟨y, by rw [← Int.add_assoc]; exact h1.miss hf, h2⟩
theorem OWC.short (h : OWC a W q n i (t : Int) rb z k) (hk : 0 ≤ k) (hz : 0 ≤ z) (hl : a 12 (200 * (t : Int) + k).toNat ≤ a 12 z.toNat) : OWC a W q n i (t : Int) rb z (k + 1) := by
  obtain ⟨y, h1, h2⟩ := h
  by_cases hf : FIT a W q n i (200 * (t : Int) + k)
  · by_cases hy : y < 0 ∨ a 12 y.toNat < a 12 (200 * (t : Int) + k).toNat
    · refine ⟨200 * (t : Int) + k, by rw [← Int.add_assoc]; exact h1.hit (by omega) hy (by omega) hf, ?_⟩
      have r := h1.rg
      unfold cmb at h2 ⊢
      split at h2
      · subst h2
        omega
      · subst h2
        rw [if_neg (by omega)]
    · refine ⟨y, ?_, h2⟩
      have r := h1.rg
      rw [← Int.add_assoc]
      exact h1.skip (by omega) (by omega) (by omega)
  · exact ⟨y, by rw [← Int.add_assoc]; exact h1.miss hf, h2⟩
theorem OWC.hit (h : OWC a W q n i (t : Int) rb z k) (hk : 0 ≤ k) (hl : z < 0 ∨ a 12 z.toNat < a 12 (200 * (t : Int) + k).toNat) (hf : FIT a W q n i (200 * (t : Int) + k)) : OWC a W q n i (t : Int) rb (200 * (t : Int) + k) (k + 1) := by
  obtain ⟨y, h1, h2⟩ := h
  have r := h1.rg
  have e : cmb a rb (200 * (t : Int) + k) = 200 * (t : Int) + k ∧ (y < 0 ∨ a 12 y.toNat < a 12 (200 * (t : Int) + k).toNat) := by
    unfold cmb at h2 ⊢
    split at h2
    · subst h2
      refine ⟨?_, hl⟩
      rename_i c
      rw [if_pos (by omega)]
    · subst h2
      rename_i c
      refine ⟨by rw [if_pos (by omega)], by omega⟩
  exact ⟨_, by rw [← Int.add_assoc]; exact h1.hit (by omega) e.2 (by omega) hf, e.1.symm⟩
theorem TRL.ini {s5 xb : Nat} (h : TRL sk ln iv rv v a) (hi : (t : Int) < v 4) (ht : el rv (sk 22) t = some tb) (h5 : rv tb 5 = some s5) (hx : rv s5 1 = some xb) : iv s5 2 = a 10 t ∧ ∀ j : Nat, (j : Int) < a 10 t → iv xb j = a 14 (8 * (200 * t + j)) := by
  obtain ⟨_, ⟨o, h2⟩, _, _⟩ := h
  obtain ⟨t1, c1, c2⟩ := h2.1 t hi
  rw [ht] at c1; cases c1
  obtain ⟨q2, s6, x6, n6, ⟨_, e2, _, _⟩, _, _, ⟨e6, _⟩, _, e8, _⟩ := c2
  rw [h5] at e2; cases e2
  exact ⟨e6, fun j hj => e8 xb hx j (by rw [e6]; exact hj)⟩
theorem TRL.row (h : TRL sk ln iv rv v a) (hi : (t : Int) < v 4) (ht : el rv (sk 22) t = some tb) (h4 : rv tb 4 = some q4) (hk : 0 ≤ k ∧ k < iv q4 2) (hw : el rv q4 k.toNat = some w) : (k < a 10 t ∧ iv q4 2 = a 10 t) ∧ ROWR ln iv rv a w (200 * t + k.toNat) ∧ (1 ≤ a 12 (200 * t + k.toNat) ∧ a 12 (200 * t + k.toNat) ≤ 8) := by
  obtain ⟨_, _, q1, n1, ⟨c1, _, c3⟩, c4, _⟩ := h.tab hi ht
  rw [h4] at c1; cases c1
  obtain ⟨w', d1, d2⟩ := c4 k.toNat (by omega)
  rw [hw] at d1; cases d1
  have g := (h.2.2.1.2 t (200 * (t : Int) + k) (by omega) hi (by omega) (by rw [Int.toNat_natCast]; omega)).1
  rw [show (200 * (t : Int) + k).toNat = 200 * t + k.toNat by omega] at g
  exact ⟨⟨by omega, c3⟩, d2, g⟩
theorem FOI.i0 : FOI sk ln iv rv s tb i x none none 0 0 := fun v a W t rb hR ht he hl hw hrb hB => ⟨rb, OWC.zero hrb, hB, Or.inl ⟨rfl, rfl⟩⟩
theorem FOI.i1 (h1 : rv w 1 = some l) : FOI sk ln iv rv s tb i x (some w) (some w) ((ln l : Nat) : Int) 0 := fun v a W t rb hR ht he hl hw hrb hB => ⟨rb, OWC.zero hrb, hB, Or.inr ⟨w, l, rfl, h1, rfl⟩⟩
theorem FOI.lng {z0 : Int} (h2 : BST ln iv rv a bs z0) (h3 : (bs = none ∧ lg = 0) ∨ ∃ w l, bs = some w ∧ rv w 1 = some l ∧ lg = ((ln l : Nat) : Int)) : (z0 = -1 ∧ lg = 0) ∨ (0 ≤ z0 ∧ lg = a 12 z0.toNat) := by
  rcases h2 with ⟨p1, p2⟩ | ⟨w, p1, p2, p3⟩
  · rcases h3 with ⟨_, q2⟩ | ⟨w, l, q1, _⟩
    · exact Or.inl ⟨p2, q2⟩
    · rw [p1] at q1; cases q1
  · rcases h3 with ⟨q1, _⟩ | ⟨w, l, q1, q2, q3⟩
    · rw [p1] at q1; cases q1
    · rw [p1] at q1; cases q1
      obtain ⟨_, _, l', c', e3, _, e5, _⟩ := p3
      rw [q2] at e3; cases e3
      exact Or.inr ⟨p2, q3.trans e5⟩
theorem FOI.skip {s5 xb : Nat} (h : FOI sk ln iv rv s tb i x r bs lg k) (h5 : rv tb 5 = some s5) (hx5 : rv s5 1 = some xb) (hk : 0 ≤ k ∧ k < iv s5 2) (e : iv xb k.toNat ≠ x) : FOI sk ln iv rv s tb i x r bs lg (k + 1) := fun v a W t rb hR ht he hl hw hrb hB => by
  obtain ⟨z, h1, h2, h3⟩ := h v a W t rb hR ht he hl hw hrb hB
  obtain ⟨i1, i2⟩ := hR.ini ht he h5 hx5
  have g := (hR.2.2.1.2 t (200 * (t : Int) + k) (by omega) ht (by omega) (by rw [Int.toNat_natCast]; omega)).1
  refine ⟨z, h1.miss (fun hf => e ?_), h2, h3⟩
  have g1 := hf.1.2 0 (by omega) (by omega)
  rw [i2 k.toNat (by omega), ← hw]
  rw [Int.add_zero, Int.add_zero] at g1
  rw [← g1]
  exact congrArg (a 14) (by omega)
theorem FOI.short (h : FOI sk ln iv rv s tb i x r bs lg k) (h4 : rv tb 4 = some q4) (hk : 0 ≤ k ∧ k < iv q4 2) (hw4 : el rv q4 k.toNat = some w) (h1 : rv w 1 = some l) (hl0 : ((ln l : Nat) : Int) ≤ lg) : FOI sk ln iv rv s tb i x r bs lg (k + 1) := fun v a W t rb hR ht he hl hw hrb hB => by
  obtain ⟨z, p1, p2, p3⟩ := h v a W t rb hR ht he hl hw hrb hB
  obtain ⟨_, rr, r12⟩ := hR.row ht he h4 hk hw4
  obtain ⟨_, _, l', c', e3, _, e5, _⟩ := rr
  rw [h1] at e3; cases e3
  have g := FOI.lng p2 p3
  have ix : (200 * (t : Int) + k).toNat = 200 * t + k.toNat := by omega
  exact ⟨z, p1.short hk.1 (by omega) (by rw [ix]; omega), p2, p3⟩
theorem FOI.miss {s5 xb : Nat} (h : FOI sk ln iv rv s tb i x r bs lg k) (h4 : rv tb 4 = some q4) (hk : 0 ≤ k ∧ k < iv q4 2) (hw4 : el rv q4 k.toNat = some w) (h5 : rv tb 5 = some s5) (hx5 : rv s5 1 = some xb) (ex : iv xb k.toNat = x) (hF : FTX ln iv rv s w i f) (e : f ≠ 1) : FOI sk ln iv rv s tb i x r bs lg (k + 1) := fun v a W t rb hR ht he hl hw hrb hB => by
  obtain ⟨z, p1, p2, p3⟩ := h v a W t rb hR ht he hl hw hrb hB
  obtain ⟨kk, rr, r12⟩ := hR.row ht he h4 hk hw4
  obtain ⟨i1, i2⟩ := hR.ini ht he h5 hx5
  have q := hF a W _ rr r12.1 hl (by rw [hw, ← ex, i2 k.toNat (by omega)])
  rw [show (((200 * t + k.toNat : Nat)) : Int) = 200 * (t : Int) + k by omega] at q
  exact ⟨z, p1.miss (fun w => e (q.mpr w)), p2, p3⟩
theorem FOI.hit {s5 xb : Nat} (h : FOI sk ln iv rv s tb i x r bs lg k) (h4 : rv tb 4 = some q4) (hk : 0 ≤ k ∧ k < iv q4 2) (hw4 : el rv q4 k.toNat = some w) (h5 : rv tb 5 = some s5) (hx5 : rv s5 1 = some xb) (ex : iv xb k.toNat = x) (hF : FTX ln iv rv s w i f) (e : f = 1) (h1 : rv w 1 = some l) (hl0 : lg < ((ln l : Nat) : Int)) : FOI sk ln iv rv s tb i x r (some w) ((ln l : Nat) : Int) (k + 1) := fun v a W t rb hR ht he hl hw hrb hB => by
  obtain ⟨z, p1, p2, p3⟩ := h v a W t rb hR ht he hl hw hrb hB
  obtain ⟨kk, rr, r12⟩ := hR.row ht he h4 hk hw4
  obtain ⟨i1, i2⟩ := hR.ini ht he h5 hx5
  have q := hF a W _ rr r12.1 hl (by rw [hw, ← ex, i2 k.toNat (by omega)])
  have ix : (200 * (t : Int) + k).toNat = 200 * t + k.toNat := by omega
  rw [show (((200 * t + k.toNat : Nat)) : Int) = 200 * (t : Int) + k by omega] at q
  have g := FOI.lng p2 p3
  obtain ⟨_, _, l', c', e3, _, e5, _⟩ := id rr
  rw [h1] at e3; cases e3
  refine ⟨200 * (t : Int) + k, p1.hit hk.1 (by rw [ix]; omega) (q.mp e), Or.inr ⟨w, rfl, by omega, by rw [ix]; exact rr⟩, Or.inr ⟨w, l, rfl, h1, rfl⟩⟩
theorem FOI.fin (h : FOI sk ln iv rv s tb i x r bs lg k) (h4 : rv tb 4 = some q4) {s5 : Nat} (h5 : rv tb 5 = some s5) (hk : k = iv s5 2 ∨ k = iv q4 2) {xb : Nat} (hx5 : rv s5 1 = some xb) : FOX sk ln iv rv s tb i x r bs := fun v a W t rb hR ht he hl hw hrb hB => by
  obtain ⟨z, ⟨y, p1, p4⟩, p2, p3⟩ := h v a W t rb hR ht he hl hw hrb hB
  obtain ⟨i1, i2⟩ := hR.ini ht he h5 hx5
  obtain ⟨_, _, q1, n1, ⟨c1, _, c3⟩, c4, _⟩ := hR.tab ht he
  rw [h4] at c1; cases c1
  refine ⟨y, ?_, by rw [← p4]; exact p2⟩
  unfold OWR
  rw [Int.toNat_natCast]
  have hk2 : k = a 10 t := by
    rcases hk with e | e
    · exact e.trans i1
    · exact e.trans c3
  rw [hk2] at p1
  exact p1
theorem FDI.init : FDI sk ln iv rv s tb i x none x (some tb) := fun v a W t hR ht h5 he hl => ⟨-1, t, by decide, Or.inl ⟨rfl, rfl⟩, el_bas he (by have := hR.b0; omega), fun _ => by rw [Int.toNat_natCast]; exact h5, (fun e => by cases e), fun y hy => by rw [cmb_0]; exact hy⟩
theorem fnd_lower (hT : TBL v a) : ∀ (m : Nat) (W : Nat → Int) (z r : Int), z < v 4 → 0 ≤ z → fnd a q n i m W z r → ∀ m2 : Nat, z < (m2 : Int) → fnd a q n i m2 W z r := by
  intro m
  induction m with
  | zero => intro W z r _ _ h; exact False.elim h
  | succ m ih =>
    intro W z r h4 h0 h m2 hle
    have ht := hT.1 z h0 h4
    have t8 : 1 ≤ a 6 z.toNat → a 6 z.toNat ≤ 3 → 0 ≤ a 8 z.toNat ∧ a 8 z.toNat < v 4 ∧ a 8 z.toNat < z := by omega
    clear ht
    cases m2 with
    | zero => omega
    | succ m2 =>
      rw [fnd_s] at h
      rw [fnd_s]
      obtain ⟨p1, p2, p3, p4⟩ := h
      refine ⟨fun k => ?_, fun k => ⟨(p2 k).1, fun c => ih _ _ _ (t8 (by omega) (by omega)).2.1 (t8 (by omega) (by omega)).1 ((p2 k).2 c) m2 (by have q := (t8 (by omega) (by omega)).2.2; omega)⟩, fun k => ?_, p4⟩
      · obtain ⟨y, z2, e1, e2, e3⟩ := p1 k
        exact ⟨y, z2, e1, ih _ _ _ (t8 (by omega) (by omega)).2.1 (t8 (by omega) (by omega)).1 e2 m2 (by have q := (t8 (by omega) (by omega)).2.2; omega), e3⟩
      · obtain ⟨y, z2, e1, e2, e3⟩ := p3 k
        exact ⟨y, z2, e1, ih _ _ _ (t8 (by omega) (by omega)).2.1 (t8 (by omega) (by omega)).1 e2 m2 (by have q := (t8 (by omega) (by omega)).2.2; omega), e3⟩
theorem fnd_ge (hT : TBL v a) : ∀ (m : Nat) (W : Nat → Int) (z r : Int), z < v 4 → 0 ≤ z → fnd a q n i m W z r → r = -1 ∨ 0 ≤ r := by
  intro m
  induction m with
  | zero => intro W z r _ _ h; exact False.elim h
  | succ m ih =>
    intro W z r h4 h0 h
    have ht := hT.1 z h0 h4
    have t8 : 1 ≤ a 6 z.toNat → a 6 z.toNat ≤ 3 → 0 ≤ a 8 z.toNat ∧ a 8 z.toNat < v 4 := by omega
    have t6 : a 6 z.toNat ≠ 1 → a 6 z.toNat ≠ 2 → a 6 z.toNat ≠ 3 → a 6 z.toNat < 1 ∨ 3 < a 6 z.toNat := by omega
    clear ht
    have ow : ∀ (W : Nat → Int) (y : Int), OWR a W q n i z y → y = -1 ∨ 0 ≤ y := fun W y ho => by
      rcases ho.rg with e | e
      · exact Or.inl e
      · exact Or.inr (by omega)
    rw [fnd_s] at h
    obtain ⟨p1, p2, p3, p4⟩ := h
    by_cases k1 : a 6 z.toNat = 1
    · obtain ⟨y, z2, e1, e2, e3⟩ := p1 k1
      rw [e3]
      exact cmb_rg (P := fun r => r = -1 ∨ 0 ≤ r) (ow _ _ e1) (ih _ _ _ (t8 (by omega) (by omega)).2 (t8 (by omega) (by omega)).1 e2)
    · by_cases k2 : a 6 z.toNat = 2
      · by_cases c : isD (W i.toNat)
        · exact ow _ _ ((p2 k2).1 c)
        · exact ih _ _ _ (t8 (by omega) (by omega)).2 (t8 (by omega) (by omega)).1 ((p2 k2).2 c)
      · by_cases k3 : a 6 z.toNat = 3
        · obtain ⟨y, z2, e1, e2, e3⟩ := p3 k3
          rw [e3]
          exact cmb_rg (P := fun r => r = -1 ∨ 0 ≤ r) (ow _ _ e1) (ih _ _ _ (t8 (by omega) (by omega)).2 (t8 (by omega) (by omega)).1 e2)
        · exact ow _ _ (p4 (t6 k1 k2 k3))
theorem FDI.get (h : FDI sk ln iv rv s tb i x bs he (some b)) {v : Nat → Int} {a : Nat → Nat → Int} {W : Nat → Int} {t : Nat} (hR : TRL sk ln iv rv v a) (ht : (t : Int) < v 4) (h5 : a 6 t ≠ 5) (hl0 : el rv (sk 22) t = some tb) (hl : LTW iv rv s W (i + 1) (iv s 11)) : ∃ (rb : Int) (t2 : Nat), -1 ≤ rb ∧ BST ln iv rv a bs rb ∧ (t2 : Int) < v 4 ∧ el rv (sk 22) t2 = some b ∧ (iv b 0 = a 6 t2 ∧ a 6 t2 ≠ 5) ∧ BASR sk rv (v 4).toNat (rv b 2) (a 8 t2) ∧ ∀ y, fnd a (iv s 10) (iv s 11) i 30 (va_up W i.toNat he) t2 y → fnd a (iv s 10) (iv s 11) i 30 (va_up W i.toNat x) t (cmb a rb y) := by
  obtain ⟨rb, t2, p1, p2, p3, p4, _, p6⟩ := h v a W t hR ht h5 hl0 hl
  obtain ⟨q1, q2, q3⟩ := p3.tb hR
  have e : ((t2.toNat : Nat) : Int) = t2 := Int.toNat_of_nonneg q1
  obtain ⟨⟨c1, _⟩, ⟨c2, _⟩, _⟩ := hR.tab (i := t2.toNat) (by omega) q3
  refine ⟨rb, t2.toNat, p1, p2, by omega, q3, ⟨c1, p4 q1⟩, c2.up (by omega), fun y hy => p6 y ?_⟩
  rw [e] at hy; exact hy
theorem FDI.plain (h : FDI sk ln iv rv s tb i x bs he (some b)) (hO : FOX sk ln iv rv s b i he bs r) (h0 : iv b 0 = 0 ∨ iv b 0 = 4) (hi : 0 ≤ i) : FDX sk ln iv rv s tb i x r := fun v a W t hR ht h5 hl0 hl => by
  obtain ⟨rb, t2, p1, p2, p3, p4, p5, _, p7⟩ := h.get hR ht h5 hl0 hl
  obtain ⟨y, o1, o2⟩ := hO v a (va_up W i.toNat he) t2 rb hR p3 p4 (hl.up hi) (va_up_self _ _ _) p1 p2
  exact ⟨_, p7 y (fnd.k0 (n := 29) (by rw [Int.toNat_natCast]; omega) o1), o2⟩
theorem FDI.num (h : FDI sk ln iv rv s tb i x bs he (some b)) (hO : FOX sk ln iv rv s b i he bs r) (h0 : iv b 0 = 2) (hd : isD he) (hi : 0 ≤ i) : FDX sk ln iv rv s tb i x r := fun v a W t hR ht h5 hl0 hl => by
  obtain ⟨rb, t2, p1, p2, p3, p4, p5, _, p7⟩ := h.get hR ht h5 hl0 hl
  obtain ⟨y, o1, o2⟩ := hO v a (va_up W i.toNat he) t2 rb hR p3 p4 (hl.up hi) (va_up_self _ _ _) p1 p2
  exact ⟨_, p7 y (fnd.k2 (n := 29) (by rw [Int.toNat_natCast]; omega) (by rw [va_up_self]; exact hd) o1), o2⟩
theorem FDI.mk (hR : TRL sk ln iv rv v a) {t2 : Nat} (p3 : (t2 : Int) < v 4) (hk : 1 ≤ a 6 t2 ∧ a 6 t2 ≤ 3) (p6 : BASR sk rv (v 4).toNat tq (a 8 t2)) : (0 ≤ a 8 t2 → a 6 (a 8 t2).toNat ≠ 5) ∧ (tq = none → False) ∧ (0 ≤ a 8 t2 ∧ a 8 t2 < v 4 ∧ a 8 t2 < ((29 : Nat) : Int)) := by
  have g := hR.2.2.1.1 t2 (by omega) p3
  rw [Int.toNat_natCast] at g
  have h30 := hR.v30
  refine ⟨fun _ => by omega, fun e => ?_, by omega⟩
  subst e
  have := p6.no hR
  omega
theorem FDI.numn (h : FDI sk ln iv rv s tb i x bs he (some b)) (h0 : iv b 0 = 2) (hd : ¬ isD he) (h2 : rv b 2 = tq) : FDI sk ln iv rv s tb i x bs he tq := fun v a W t hR ht h5 hl0 hl => by
  obtain ⟨rb, t2, p1, p2, p3, p4, p5, p6, p7⟩ := h.get hR ht h5 hl0 hl
  rw [h2] at p6
  obtain ⟨m1, m2, m3⟩ := FDI.mk hR p3 (by omega) p6
  exact ⟨rb, a 8 t2, p1, p2, p6, m1, m2, fun y hy => p7 y (fnd.k2n (n := 29) (by rw [Int.toNat_natCast]; omega) (by rw [va_up_self]; exact hd) (by rw [Int.toNat_natCast]; exact fnd_lower hR.2.2.1 30 _ _ _ m3.2.1 m3.1 hy 29 m3.2.2))⟩
theorem BST.ge (h : BST ln iv rv a r z) : -1 ≤ z := by
  rcases h with ⟨_, e⟩ | ⟨_, _, e, _⟩ <;> omega
theorem FDI.con (h : FDI sk ln iv rv s tb i x bs he (some b)) (hO : FOX sk ln iv rv s b i he bs r) (h0 : iv b 0 ≠ 0 ∧ iv b 0 ≠ 2 ∧ iv b 0 ≠ 3 ∧ iv b 0 ≠ 4) (h2 : rv b 2 = tq) (hi : 0 ≤ i) : FDI sk ln iv rv s tb i x r he tq := fun v a W t hR ht h5 hl0 hl => by
  obtain ⟨rb, t2, p1, p2, p3, p4, p5, p6, p7⟩ := h.get hR ht h5 hl0 hl
  rw [h2] at p6
  have p8 := hR.2.2.1.1 t2 (by omega) p3
  rw [Int.toNat_natCast] at p8
  obtain ⟨m1, m2, m3⟩ := FDI.mk hR p3 (by omega) p6
  obtain ⟨y, o1, o2⟩ := hO v a (va_up W i.toNat he) t2 rb hR p3 p4 (hl.up hi) (va_up_self _ _ _) p1 p2
  refine ⟨_, a 8 t2, o2.ge, o2, p6, m1, m2, fun z hz => ?_⟩
  have oy := o1.rg
  have zy : -1 ≤ z := by
    rcases fnd_ge hR.2.2.1 30 _ _ _ m3.2.1 m3.1 hz with e | e <;> omega
  rw [cmb_as p1 (by omega) zy]
  exact p7 _ (fnd.k1 (n := 29) (by rw [Int.toNat_natCast]; omega) ⟨y, z, o1, by rw [Int.toNat_natCast]; exact fnd_lower hR.2.2.1 30 _ _ _ m3.2.1 m3.1 hz 29 m3.2.2, rfl⟩)
theorem FDI.sho (h : FDI sk ln iv rv s tb i x bs he (some b)) (hO : FOX sk ln iv rv s b i y bs r) (h0 : iv b 0 = 3) (hy : y = sml he) (h2 : rv b 2 = tq) (hi : 0 ≤ i) : FDI sk ln iv rv s tb i x r y tq := fun v a W t hR ht h5 hl0 hl => by
  subst hy
  obtain ⟨rb, t2, p1, p2, p3, p4, p5, p6, p7⟩ := h.get hR ht h5 hl0 hl
  rw [h2] at p6
  obtain ⟨m1, m2, m3⟩ := FDI.mk hR p3 (by omega) p6
  obtain ⟨y, o1, o2⟩ := hO v a (va_up W i.toNat (sml he)) t2 rb hR p3 p4 (hl.up hi) (va_up_self _ _ _) p1 p2
  refine ⟨_, a 8 t2, o2.ge, o2, p6, m1, m2, fun z hz => ?_⟩
  have oy := o1.rg
  have zy : -1 ≤ z := by
    rcases fnd_ge hR.2.2.1 30 _ _ _ m3.2.1 m3.1 hz with e | e <;> omega
  rw [cmb_as p1 (by omega) zy]
  exact p7 _ (fnd.k3 (n := 29) (by rw [Int.toNat_natCast]; omega) (by rw [va_up_self, vuu]) ⟨y, z, o1, by rw [Int.toNat_natCast]; exact fnd_lower hR.2.2.1 30 _ _ _ m3.2.1 m3.1 hz 29 m3.2.2, rfl⟩)
theorem FDI.fin0 (h : FDI sk ln iv rv s tb i x bs he none) : FDX sk ln iv rv s tb i x r := fun v a W t hR ht h5 hl0 hl => by
  obtain ⟨_, _, _, _, _, _, p, _⟩ := h v a W t hR ht h5 hl0 hl
  exact (p rfl).elim
end FROW
section FRN
variable {g : Nat} {sk : Nat → Nat} {L : List Nat} {cl ln : Nat → Nat} {iv iv1 iv2 iv3 : Nat → Nat → Int} {rv : Nat → Nat → Option Nat} {v : Nat → Int} {a : Nat → Nat → Int} {W : Nat → Int} {s w tb b : Nat} {R t : Nat} {i k x y z rb he q u : Int} {r f : Option Nat} {ls : List Nat}
theorem fT.sym {rv1 : Nat → Nat → Option Nat} (h : fT ls L cl iv rv iv1 rv1) : fT ls L cl iv1 rv1 iv rv := fun b hb hc => ⟨(h b hb hc).1.symm, (h b hb hc).2.symm⟩
theorem ROWR.ni (hW : WT g sk L cl ln iv rv) (hF : fT ls L cl iv rv iv1 rv) (h1 : kpl ls = true) (tw : ty L cl w 20) (h : ROWR ln iv rv a w R) : ROWR ln iv1 rv a w R := by
  have k := kpl_no h1
  obtain ⟨e1, e2, l, c, e3, e4, e5, e6, e7, e8⟩ := h
  obtain ⟨l', q1, tl⟩ := hW.ref tw 1 rfl rfl rfl
  rw [e3] at q1; cases q1
  obtain ⟨c', q2, tc⟩ := hW.ref tw 2 rfl rfl rfl
  rw [e4] at q2; cases q2
  refine hv2 (show ty L cl l 65 from tl) (show ty L cl c 66 from tc) (fun t65 t66 => ?_)
  refine ⟨(hF.i tw k.2.1 3).trans e1, (hF.i tw k.2.1 0).trans e2, l, c, e3, e4, e5, e6, fun j hj => ?_, fun j hj => ?_⟩
  · rw [hF.i t65 k.2.2.2.1 j]; exact e7 j hj
  · rw [hF.i t66 k.2.2.2.2.1 j]; exact e8 j hj
theorem BST.ni (hW : WT g sk L cl ln iv rv) (hF : fT ls L cl iv rv iv1 rv) (h1 : kpl ls = true) (tr : ∀ b, r = some b → ty L cl b 20) (h : BST ln iv rv a r z) : BST ln iv1 rv a r z := by
  rcases h with h | ⟨w, e1, e2, e3⟩
  · exact Or.inl h
  · exact Or.inr ⟨w, e1, e2, e3.ni hW hF h1 (tr w e1)⟩
theorem LTW.ni (hW : WT g sk L cl ln iv rv) (hF : fT ls L cl iv rv iv1 rv) (hc : ls.contains 50 = false) (ts : ty L cl s 15) (h : LTW iv rv s W q u) : LTW iv1 rv s W q u := fun lb hb j h1 h2 => by
  obtain ⟨b', q1, tb'⟩ := hW.ref ts 0 rfl rfl rfl
  rw [hb] at q1; cases q1
  have t50 : ty L cl lb 50 := tb'
  rw [hF.i t50 hc j.toNat]; exact h lb hb j h1 h2
theorem TRL.ni (hW : WT g sk L cl ln iv rv) (hS : SKL sk L cl) (hF : fT ls L cl iv rv iv1 rv) (h1 : kpl ls = true) (a1 : ls.contains 22 = false) (a2 : ls.contains 1000 = false) (a3 : ls.contains 23 = false) (a4 : ls.contains 1001 = false) (h : TRL sk ln iv rv v a) : TRL sk ln iv1 rv v a := h.qq (QT.of hW hS XT.refl hF h1 a1 a2 a3 a4)
theorem FOX.ni (hW : WT g sk L cl ln iv rv) (hS : SKL sk L cl) (hW1 : WT g sk L cl ln iv1 rv) (hF : fT [55] L cl iv rv iv1 rv) (ts : ty L cl s 15) (tr : ∀ b, r = some b → ty L cl b 20) (tf : ∀ b, f = some b → ty L cl b 20) (h : FOX sk ln iv1 rv s tb i x r f) : FOX sk ln iv rv s tb i x r f := fun v a W t rb hR ht he hl hw hrb hB => by
  refine hv2 (hF.i ts rfl 10) (hF.i ts rfl 11) (fun e10 e11 => ?_)
  obtain ⟨y, p1, p2⟩ := h v a W t rb (hR.ni hW hS hF rfl rfl rfl rfl rfl) ht he (by rw [e11]; exact hl.ni hW hF rfl ts) hw hrb (hB.ni hW hF rfl tr)
  rw [e10, e11] at p1
  exact ⟨y, p1, p2.ni hW1 hF.sym rfl tf⟩
end FRN
