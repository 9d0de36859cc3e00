theorem LI.le {R : (Nat → Nat) → List Nat → (Nat → Nat) → (Nat → Nat) → (Nat → Nat → Int) → (Nat → Nat → Option Nat) → (Nat → Int) → (Nat → Nat → Int) → Prop} {G : GT} {h0 mm n n2 w w2 u : Nat} {Lx Lm : List Nat} {E : Nat → va_E} (h : LI R G h0 mm n n2 w u Lx Lm E) (hw : w ≤ w2) : LI R G h0 mm n n2 w2 u Lx Lm E := by
  obtain ⟨cl, ln, iv, rv, sk, ad, lnm, v, a, h1, h2, h3, h4, h5, h6⟩ := h
  exact ⟨cl, ln, iv, rv, sk, ad, lnm, v, a, h1, h2, h3, h4, by omega, h6⟩
theorem LI.mono {R R2 : (Nat → Nat) → List Nat → (Nat → Nat) → (Nat → Nat) → (Nat → Nat → Int) → (Nat → Nat → Option Nat) → (Nat → Int) → (Nat → Nat → Int) → Prop} {G : GT} {h0 mm n n2 w u : Nat} {Lx Lm : List Nat} {E : Nat → va_E} (h : LI R G h0 mm n n2 w u Lx Lm E) (hr : ∀ sk L cl ln iv rv v a, R sk L cl ln iv rv v a → R2 sk L cl ln iv rv v a) : LI R2 G h0 mm n n2 w u Lx Lm E := by
  obtain ⟨cl, ln, iv, rv, sk, ad, lnm, v, a, h1, h2, h3, h4, h5, h6⟩ := h
  exact ⟨cl, ln, iv, rv, sk, ad, lnm, v, a, h1, h2, h3, h4, h5, hr _ _ _ _ _ _ _ _ h6⟩
theorem LI.get {R : (Nat → Nat) → List Nat → (Nat → Nat) → (Nat → Nat) → (Nat → Nat → Int) → (Nat → Nat → Option Nat) → (Nat → Int) → (Nat → Nat → Int) → Prop} {G : GT} {h0 mm n n2 w u : Nat} {Lx Lm : List Nat} {E : Nat → va_E} {P : Prop} (h : LI R G h0 mm n n2 w u Lx Lm E) (hr : ∀ sk L cl ln iv rv v a, R sk L cl ln iv rv v a → P) : P := by
  obtain ⟨cl, ln, iv, rv, sk, ad, lnm, v, a, h1, h2, h3, h4, h5, h6⟩ := h
  exact hr _ _ _ _ _ _ _ _ h6
theorem LI.next {G : GT} {h0 mm n w u : Nat} {Lx Lm : List Nat} {E : Nat → va_E} (h : LI (REL h0) G h0 mm n n w u Lx Lm E) : LI (REL h0) G h0 mm (n + 1) (n + 1) w u Lx Lm E := by
  obtain ⟨cl, ln, iv, rv, sk, ad, lnm, v, a, h1, ⟨a1, a2, a3, a4, a5⟩, h3, ⟨b1, b2, b3, b4, b5⟩, h5, h6⟩ := h
  exact ⟨cl, ln, iv, rv, sk, ad, lnm, v, a, h1, ⟨a1, a2, a3, by push_cast; omega, a5⟩, h3, ⟨b1, b2, b3, b4, by push_cast; omega⟩, h5, h6⟩
