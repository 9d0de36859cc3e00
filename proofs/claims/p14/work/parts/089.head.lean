def AGW (W W2 : Nat → Int) (q u : Int) : Prop := ∀ j : Int, q ≤ j → j < u → W j.toNat = W2 j.toNat
def TLT (T : Nat → Int) (n : Int) : Prop := ∀ j : Int, 0 ≤ j → j < n → 33 ≤ T j.toNat ∧ T j.toNat ≤ 125
def HDS (v : Nat → Int) (a : Nat → Nat → Int) (t f : Int) : Prop := (¬ (v 3 ≤ 40 ∧ TLT (a 2) (v 3) ∧ WHL v a t ∧ ∃ cs, SWC a (a 2) (v 3) t cs) ∧ f = -1) ∨ ((v 3 ≤ 40 ∧ TLT (a 2) (v 3) ∧ WHL v a t) ∧ ∃ cs, SWC a (a 2) (v 3) t cs ∧ ((((cs.length : Nat) : Int) ≤ v 31 ∧ f = ((cs.length : Nat) : Int)) ∨ (v 31 < ((cs.length : Nat) : Int) ∧ f = v 31)))
section HEAD
variable {v v1 v2 v3 : Nat → Int} {a a1 a2 a3 : Nat → Nat → Int} {W W2 : Nat → Int} {q u x y z t r s k f f1 f2 I c g g2 x2 n l m : Int} {cs ds l0 : List Int} {ps qs : List (Int × List Int)} {js : List (Int × List (Int × List Int))}
theorem AGW.symm (h : AGW W W2 q u) : AGW W2 W q u := fun j h1 h2 => (h j h1 h2).symm
theorem AGW.up (h : AGW W W2 q u) (hx : q ≤ x) (h0 : 0 ≤ q) : AGW (va_up W x.toNat z) (va_up W2 x.toNat z) q u := fun j h1 h2 => by
  unfold va_up
  split
  · rfl
  · exact h j h1 h2
theorem AGW.sub (h : AGW W W2 q u) (h1 : q ≤ x) (h2 : y ≤ u) : AGW W W2 x y := fun j h3 h4 => h j (by omega) (by omega)
theorem FIT_w (h : AGW W W2 q u) (hx : q ≤ x) (h12 : 0 ≤ a 12 r.toNat) (hf : FIT a W q u x r) : FIT a W2 q u x r := by
  obtain ⟨⟨h1, h2⟩, h3⟩ := hf
  refine ⟨⟨h1, fun j j0 j1 => by rw [h2 j j0 j1]; exact h (x + j) (by omega) (by omega)⟩, ?_⟩
  unfold CND at h3 ⊢
  by_cases e : x + a 12 r.toNat = u
  · rcases h3 with h3 | h3 | h3 | h3 | h3 | h3
    · exact Or.inl h3
    · exact Or.inr (Or.inl h3)
    · exact Or.inr (Or.inr (Or.inl h3))
    · exact Or.inr (Or.inr (Or.inr (Or.inl h3)))
    · exact Or.inr (Or.inr (Or.inr (Or.inr (Or.inl h3))))
    · exact absurd e h3.2.1
  · rw [← h (x + a 12 r.toNat) (by omega) (by omega)]; exact h3
theorem OWR_w (h : AGW W W2 q u) (hx : q ≤ x) (h12 : ∀ i, 0 ≤ a 12 i) (ho : OWR a W q u x t r) : OWR a W2 q u x t r := by
  rcases ho with ⟨h1, h2⟩ | ⟨h1, h2, h3⟩
  · exact Or.inl ⟨h1, fun s s1 s2 w => h2 s s1 s2 (FIT_w h.symm hx (h12 _) w)⟩
  · exact Or.inr ⟨h1, FIT_w h hx (h12 _) h2, fun s s1 s2 w => h3 s s1 s2 (FIT_w h.symm hx (h12 _) w)⟩
theorem fnd_w (hx : 0 ≤ q ∧ q ≤ x ∧ x < u) (h12 : ∀ i, 0 ≤ a 12 i) : ∀ (n : Nat) (W W2 : Nat → Int) (t r : Int), AGW W W2 q u → fnd a q u x n W t r → fnd a q u x n W2 t r := by
  intro n
  induction n with
  | zero => intro W W2 t r _ h; exact h
  | succ n ih =>
    intro W W2 t r hw h
    have e := hw x hx.2.1 hx.2.2
    rw [fnd_s] at h
    rw [fnd_s, ← e]
    obtain ⟨p1, p2, p3, p4⟩ := h
    have hu := AGW.up (z := sml (W x.toNat)) hw hx.2.1 hx.1
    refine ⟨fun k => ?_, fun k => ⟨fun c => OWR_w hw hx.2.1 h12 ((p2 k).1 c), fun c => ih _ _ _ _ hw ((p2 k).2 c)⟩, fun k => ?_, fun k => OWR_w hw hx.2.1 h12 (p4 k)⟩
    · obtain ⟨y, z, e1, e2, e3⟩ := p1 k
      exact ⟨y, z, OWR_w hw hx.2.1 h12 e1, ih _ _ _ _ hw e2, e3⟩
    · obtain ⟨y, z, e1, e2, e3⟩ := p3 k
      exact ⟨y, z, OWR_w hu hx.2.1 h12 e1, ih _ _ _ _ hu e2, e3⟩
theorem nbl_w (hw : AGW W W2 q u) (hx : 0 ≤ q ∧ q ≤ x ∧ x < u) : nbl a W t q x = nbl a W2 t q x := by
  unfold nbl
  rw [hw x hx.2.1 hx.2.2]
  by_cases e : x = q
  · by_cases c : a 6 t.toNat = 2 ∧ isD (W2 x.toNat)
    · rw [if_pos ⟨c.1, c.2, Or.inl e⟩, if_pos ⟨c.1, c.2, Or.inl e⟩]
    · rw [if_neg (fun w => c ⟨w.1, w.2.1⟩), if_neg (fun w => c ⟨w.1, w.2.1⟩)]
  · rw [hw (x - 1) (by omega) (by omega)]
theorem PC1_w (hw : AGW W W2 q u) (hx : 0 ≤ q ∧ q ≤ x ∧ x < u) (h12 : ∀ i, 0 ≤ a 12 i) (hp : PC1 a W t q u x l cs) : PC1 a W2 t q u x l cs := by
  obtain ⟨r, p1, p3⟩ := hp
  refine ⟨r, p1, ?_⟩
  have e := hw x hx.2.1 hx.2.2
  rcases p3 with ⟨p4, p5⟩ | ⟨p4, p5, p6, p7⟩
  · rw [nbl_w hw hx] at p5
    exact Or.inl ⟨fnd_w hx h12 _ _ _ _ _ hw p4, p5⟩
  · rw [nbl_w hw hx] at p7
    rw [e] at p5
    have p8 := fnd_w hx h12 _ _ _ _ _ (AGW.up (z := W x.toNat + 32) hw hx.2.1 hx.1) p6
    rw [e] at p8
    exact Or.inr ⟨fnd_w hx h12 _ _ _ _ _ hw p4, p5, p8, p7⟩
theorem ptp_w (hw : AGW W W2 q u) (h0 : 0 ≤ q) (h12 : ∀ i, 0 ≤ a 12 i) : ∀ (ps : List (Int × List Int)) (x y : Int), q ≤ x → ptp a W t q u x ps y → ptp a W2 t q u x ps y := by
  intro ps
  induction ps with
  | nil => intro x y _ e; exact e
  | cons p ps ih =>
    intro x y hx e
    obtain ⟨h1, h2, l, h3, h4⟩ := e
    have h5 : 0 ≤ l := by
      obtain ⟨r, ⟨_, p2⟩, _⟩ := h3
      rw [p2]; exact h12 _
    exact ⟨h1, h2, l, PC1_w hw ⟨h0, hx, h1⟩ h12 h3, ih _ _ (by omega) h4⟩
theorem SEG_w (hw : AGW W W2 0 n) (h0 : 0 ≤ x) (h12 : ∀ i, 0 ≤ a 12 i) (h : SEG a W n t g x y ps) : SEG a W2 n t g x y ps := by
  obtain ⟨⟨p1, p2⟩, p3, p4, z, p5, p6⟩ := h
  refine ⟨⟨p1, p2⟩, fun j j1 j2 => ?_, ?_, z, ptp_w (hw.sub h0 p2) h0 h12 ps x z (Int.le_refl _) p5, p6⟩
  · rw [← hw j (by omega) (by omega)]; exact p3 j j1 j2
  · by_cases e : y = n
    · exact Or.inl e
    · rcases p4 with p4 | p4
      · exact Or.inl p4
      · exact Or.inr (by rw [← hw y (by omega) (by omega)]; exact p4)
theorem jtp_w (hw : AGW W W2 0 n) (h12 : ∀ i, 0 ≤ a 12 i) : ∀ (js : List (Int × List (Int × List Int))) (g x g2 x2 : Int), 0 ≤ x → jtp a W n t g x js g2 x2 → jtp a W2 n t g x js g2 x2 ∧ 0 ≤ x2 := by
  intro js
  induction js with
  | nil => intro g x g2 x2 h0 h; obtain ⟨rfl, rfl⟩ := h; exact ⟨⟨rfl, rfl⟩, h0⟩
  | cons p js ih =>
    intro g x g2 x2 h0 h
    obtain ⟨k1, k2, k3, k4⟩ := h
    have e := k1.1.1
    obtain ⟨m1, m2⟩ := ih _ _ _ _ (by omega) k4
    exact ⟨⟨SEG_w hw h0 h12 k1, k2, k3, m1⟩, m2⟩
theorem SWC_w (hw : AGW W W2 0 n) (h12 : ∀ i, 0 ≤ a 12 i) (h : SWC a W n t cs) : SWC a W2 n t cs := by
  rcases h with ⟨h1, ps, ⟨⟨y, h2, h3⟩, h4⟩, h5⟩ | ⟨h1, h2, js, ps, g, x, h3, h4, h5⟩
  · exact Or.inl ⟨h1, ps, ⟨⟨y, ptp_w hw (Int.le_refl _) h12 ps 0 y (Int.le_refl _) h2, h3⟩, h4⟩, h5⟩
  · obtain ⟨m1, m2⟩ := jtp_w hw h12 js 0 0 g x (Int.le_refl _) h3
    exact Or.inr ⟨h1, h2, js, ps, g, x, m1, SEG_w hw m2 h12 h4, h5⟩
theorem SWC.uni (hT : TBL v a) (ht : 0 ≤ t ∧ t < v 4) (h : SWC a W n t cs) (h2 : SWC a W n t ds) : cs = ds := by
  rcases h with ⟨p1, ps, ⟨⟨y, p2, p3⟩, p4⟩, p5⟩ | ⟨p1, p2, js, ps, g, x, p3, p4, p5⟩
  · rcases h2 with ⟨_, qs, ⟨⟨z, q2, q3⟩, q4⟩, q5⟩ | ⟨q1, _⟩
    · rw [p5, q5, ptp.uni hT ht.1 ht.2 p2 p3 q2 q3]
    · exact absurd q1 p1
  · rcases h2 with ⟨q1, _⟩ | ⟨_, q2, ks, qs, g2, x2, q3, q4, q5⟩
    · exact absurd p1 q1
    · obtain ⟨ls, k1, k2⟩ := jtp.ext hT ht p1 js ks 0 0 g2 x2 qs p3 q3 q4
      have pk := prt.ok (g := g) hT ht p1
      cases ls with
      | nil =>
        obtain ⟨rfl, rfl⟩ := k2
        have e := SEG.uni hT pk.1.1 pk.1.2 p4 q4
        rw [List.append_nil] at k1
        rw [p5, q5, k1, e.2]
      | cons p ls =>
        obtain ⟨m1, m2, _, _⟩ := k2
        have e := SEG.uni hT pk.1.1 pk.1.2 p4 m1
        omega
theorem SWC.nil (hT : TBL v a) (ht : 0 ≤ t ∧ t < v 4) : SWC a W 0 t [] := by
  by_cases h : a 6 t.toNat = 5
  · exact Or.inr ⟨h, by decide, [], [], 0, 0, ⟨rfl, rfl⟩, ⟨⟨Int.le_refl _, Int.le_refl _⟩, NSG.zero, Or.inl rfl, 0, rfl, Int.le_refl _⟩, rfl⟩
  · exact Or.inl ⟨h, [], ⟨⟨0, rfl, Int.le_refl _⟩, by decide⟩, rfl⟩
theorem HDS.uni (hT : TBL v a) (h : HDS v a t f1) (h2 : HDS v a t f2) : f1 = f2 := by
  rcases h with ⟨p1, p2⟩ | ⟨p1, cs, p2, p3⟩
  · rcases h2 with ⟨q1, q2⟩ | ⟨q1, ds, q2, _⟩
    · omega
    · exact absurd ⟨q1.1, q1.2.1, q1.2.2, ds, q2⟩ p1
  · rcases h2 with ⟨q1, q2⟩ | ⟨q1, ds, q2, q3⟩
    · exact absurd ⟨p1.1, p1.2.1, p1.2.2, cs, p2⟩ q1
    · have w := WHL.tr p1.2.2
      have e := SWC.uni hT ⟨w.1, w.2.1⟩ p2 q2
      subst e
      omega
end HEAD
section SWCG
variable {a a1 : Nat → Nat → Int} {W : Nat → Int} {n t g x y : Int} {cs : List Int} {ps : List (Int × List Int)}
theorem SEG_cg (h : TBE a1 a) (hs : SEG a1 W n t g x y ps) : SEG a W n t g x y ps := by
  obtain ⟨p1, p3, p4, z, p5, p6⟩ := hs
  have e : prt a1 t g = prt a t g := by unfold prt; rw [h 8 (by decide), h 9 (by decide)]
  rw [e] at p5
  exact ⟨p1, p3, p4, z, ptp_cg h _ _ _ p5, p6⟩
theorem jtp_cg (h : TBE a1 a) : ∀ (js : List (Int × List (Int × List Int))) (g x g2 x2 : Int), jtp a1 W n t g x js g2 x2 → jtp a W n t g x js g2 x2 := by
  intro js
  induction js with
  | nil => intro g x g2 x2 e; exact e
  | cons p js ih =>
    intro g x g2 x2 e
    obtain ⟨k1, k2, k3, k4⟩ := e
    rw [h 16 (by decide)] at k3
    exact ⟨SEG_cg h k1, k2, k3, ih _ _ _ _ k4⟩
theorem jcl_cg (h : TBE a1 a) : ∀ (js : List (Int × List (Int × List Int))) (g : Int), jcl a1 t g js = jcl a t g js := by
  intro js
  induction js with
  | nil => intro g; rfl
  | cons p js ih =>
    intro g
    show (cls p.2 ++ ICL a1 (ind4 t g)) ++ jcl a1 t (1 - g) js = (cls p.2 ++ ICL a (ind4 t g)) ++ jcl a t (1 - g) js
    rw [ih, ICL_cg (h 16 (by decide)) (h 17 (by decide))]
theorem SWC_cg (h : TBE a1 a) (hs : SWC a1 W n t cs) : SWC a W n t cs := by
  have h6 := h 6 (by decide)
  rcases hs with ⟨h1, ps, h2, h5⟩ | ⟨h1, h2, js, ps, g, x, h3, h4, h5⟩
  · rw [h6] at h1
    exact Or.inl ⟨h1, ps, SPS_cg h h2, h5⟩
  · rw [h6] at h1
    rw [jcl_cg h] at h5
    exact Or.inr ⟨h1, h2, js, ps, g, x, jtp_cg h _ _ _ _ _ h3, SEG_cg h h4, h5⟩
end SWCG
def TLG (T : Nat → Int) (n k g : Int) : Prop := g = 1 ↔ (n ≤ 40 ∧ TLT T k)
def WDK (W T : Nat → Int) (k : Int) : Prop := ∀ j : Int, 0 ≤ j → j < k → W j.toNat = T j.toNat
def HDR (v : Nat → Int) (a : Nat → Nat → Int) (t z : Int) : Prop := ∃ cs, SWC a (a 2) (v 3) t cs ∧ ((((cs.length : Nat) : Int) ≤ v 31 ∧ z = ((cs.length : Nat) : Int)) ∨ (v 31 < ((cs.length : Nat) : Int) ∧ z = v 31))
def HDC (v : Nat → Int) (a : Nat → Nat → Int) (t m : Int) : Prop := ∃ cs, SWC a (a 2) (v 3) t cs ∧ m = ((cs.length : Nat) : Int)
section HED2
variable {v v1 v2 v3 : Nat → Int} {a a1 a2 a3 : Nat → Nat → Int} {W W2 T : Nat → Int} {t k f f1 g n m z : Int} {i : Nat}
theorem TLG.init (h : g = 1 ↔ n ≤ 40) : TLG T n 0 g := ⟨fun e => ⟨h.mp e, fun j h1 h2 => absurd h1 (by omega)⟩, fun e => h.mpr e.1⟩
theorem TLG.step1 (h : TLG T n k g) (hg : g = 1) (e : 33 ≤ T k.toNat ∧ T k.toNat ≤ 125) : TLG T n (k + 1) 1 := ⟨fun _ => ⟨(h.mp hg).1, fun j h1 h2 => by
  by_cases w : j < k
  · exact (h.mp hg).2 j h1 w
  · rw [show j = k by omega]; exact e⟩, fun _ => rfl⟩
theorem TLG.step0 (h0 : 0 ≤ k) (e : ¬ (33 ≤ T k.toNat ∧ T k.toNat ≤ 125)) : TLG T n (k + 1) 0 := ⟨fun w => absurd w (by decide), fun w => absurd (w.2 k h0 (by omega)) e⟩
theorem TLG.no (h : TLG T n k g) (hg : g ≠ 1) (hk : k ≤ n) : ¬ (n ≤ 40 ∧ TLT T n) := fun w => hg (h.mpr ⟨w.1, fun j h1 h2 => w.2 j h1 (by omega)⟩)
theorem TLG.yes (h : TLG T n k g) (hg : g = 1) (hk : n ≤ k) : n ≤ 40 ∧ TLT T n := ⟨(h.mp hg).1, fun j h1 h2 => (h.mp hg).2 j h1 (by omega)⟩
theorem whl_cg (h4 : v1 4 = v 4) (h5 : a1 5 = a 5) (h6 : a1 6 = a 6) (h8 : a1 8 = a 8) (h9 : a1 9 = a 9) : ∀ (n : Nat) (t : Int), whl v1 a1 n t ↔ whl v a n t := by
  intro n
  induction n with
  | zero => intro t; exact Iff.rfl
  | succ n ih =>
    intro t
    show ((0 ≤ t ∧ t < v1 4 ∧ a1 5 t.toNat = 1) ∧ (a1 6 t.toNat = 5 → whl v1 a1 n (a1 8 t.toNat) ∧ whl v1 a1 n (a1 9 t.toNat)) ∧ (1 ≤ a1 6 t.toNat → a1 6 t.toNat ≤ 3 → whl v1 a1 n (a1 8 t.toNat))) ↔ ((0 ≤ t ∧ t < v 4 ∧ a 5 t.toNat = 1) ∧ (a 6 t.toNat = 5 → whl v a n (a 8 t.toNat) ∧ whl v a n (a 9 t.toNat)) ∧ (1 ≤ a 6 t.toNat → a 6 t.toNat ≤ 3 → whl v a n (a 8 t.toNat)))
    rw [h4, h5, h6, h8, h9, ih, ih]
theorem WHE.cg (h : WHE f v1 a1 31 t) (h4 : v1 4 = v 4) (h5 : a1 5 = a 5) (h6 : a1 6 = a 6) (h8 : a1 8 = a 8) (h9 : a1 9 = a 9) : f = 1 ↔ WHL v a t := h.trans (whl_cg h4 h5 h6 h8 h9 31 t)
theorem WDK.zero : WDK W T 0 := fun j h1 h2 => absurd h1 (by omega)
theorem WDK.step (h : WDK (a1 20) T k) (h0 : 0 ≤ k) (hz : z = T k.toNat) (h2 : a2 20 = up2 a1 20 k.toNat z 20) : WDK (a2 20) T (k + 1) := fun j h1 h3 => by
  rw [h2]
  by_cases w : j < k
  · rw [up2_j (by omega)]; exact h j h1 w
  · rw [show j = k by omega, up2_s]; exact hz
theorem HDC.set (hs : SWT v1 a1 v2 a2 t f) (e : f = 1) (hE : TBE a1 a) (hw : WDK (a1 20) (a 2) n) (hn : n = v 3) (h23 : v1 23 = v 3) (h12 : ∀ i, 0 ≤ a 12 i) (hm : m = v2 25) : HDC v a t m := by
  subst hn
  obtain ⟨cs, g1, g2⟩ := hs.2.1 e
  rw [h23] at g1
  exact ⟨cs, SWC_w hw h12 (SWC_cg hE g1), hm.trans g2.1⟩
theorem HDC.no (hs : SWT v1 a1 v2 a2 t f) (e : f ≠ 1) (hE : TBE a1 a) (hw : WDK (a1 20) (a 2) n) (hn : n = v 3) (h23 : v1 23 = v 3) (h12 : ∀ i, 0 ≤ a1 12 i) : ¬ ∃ cs, SWC a (a 2) (v 3) t cs := fun w => by
  subst hn
  obtain ⟨cs, g⟩ := w
  refine hs.2.2 e ⟨cs, ?_⟩
  rw [h23]
  exact SWC_w (W := a 2) (fun j h1 h2 => (hw j h1 h2).symm) h12 (SWC_cg hE.symm g)
theorem HDC.nil (hT : TBL v a) (ht : 0 ≤ t ∧ t < v 4) (hn : v 3 = 0) (hm : m = 0) : HDC v a t m := ⟨[], by rw [hn]; exact SWC.nil hT ht, hm⟩
theorem HDC.min (h : HDC v a t m) (hz : (z = m ∧ m ≤ v 31) ∨ (z = v 31 ∧ v 31 < m)) : HDR v a t z := by
  obtain ⟨cs, h1, h2⟩ := h
  exact ⟨cs, h1, by omega⟩
theorem HDS.bad (h : ¬ (v 3 ≤ 40 ∧ TLT (a 2) (v 3))) (hf : f = -1) : HDS v a t f := Or.inl ⟨fun w => h ⟨w.1, w.2.1⟩, hf⟩
theorem HDS.nw (h : ¬ WHL v a t) (hf : f = -1) : HDS v a t f := Or.inl ⟨fun w => h w.2.2.1, hf⟩
theorem HDS.ns (h : ¬ ∃ cs, SWC a (a 2) (v 3) t cs) (hf : f = -1) : HDS v a t f := Or.inl ⟨fun w => h w.2.2.2, hf⟩
theorem HDS.ok (h : v 3 ≤ 40 ∧ TLT (a 2) (v 3)) (hw : WHL v a t) (hr : HDR v a t z) (hf : f = z) : HDS v a t f := by
  subst hf
  exact Or.inr ⟨⟨h.1, h.2, hw⟩, hr⟩
end HED2
set_option maxHeartbeats 4000000 in
set_option maxRecDepth 100000 in
theorem N2_head {l : Launch} {G : GT} {h0 : Nat} {ad ln : Nat → Nat} {v : Nat → Int} {a : Nat → Nat → Int}  {t : Int} (hB : BX v a) (hT : TBL v a) (ht : -2147483648 ≤ t ∧ t ≤ 2147483647) : Mm l G yX12_head cX12_head 5 (some .int) 66 [.int (iI t)] h0 ad ln v a 0 0 (fun r v2 a2 => ∃ f : Int, r = some (.int (iI f)) ∧ fr [0, 1, 3, 23, 25, 28, 41] [20, 21, 24, 26, 27, 40] v a v2 a2 ∧ BX v2 a2 ∧ ((v2 3 = 0) ∧ HDS v a t f)) := by
  refine Mm.mk (by decide) (Nat.le_of_ble_eq_true rfl) ?_
  intro p e s m args below meth c A C
  have h30 : 0 ≤ v 4 ∧ v 4 ≤ 30 := hB.1 4
  have r31 : 1 ≤ v 31 ∧ v 31 ≤ 100 := hB.1 31
  have fp0 : fr [0, 1, 3, 23, 25, 28, 41] [20, 21, 24, 26, 27, 40] v a v a := fr.refl
  refine m_aload_n (j := 0) C dX12_head_0 rfl ?_
  have rv1 : 0 ≤ v 3 ∧ v 3 ≤ 3000 := hB.1 3
  refine m_call (mc2 := 0) (ms2 := 0) (As := []) (rest := []) C (B_taken  hB ) dX12_head_1 kV_X12_192 rfl ck_13 rfl (Nat.le_of_ble_eq_true rfl) ⟨Nat.le_of_ble_eq_true rfl, Nat.le_of_ble_eq_true rfl⟩ ⟨Nat.le_of_ble_eq_true rfl, Nat.le_of_ble_eq_true rfl⟩ (fun rh1 vh1 ah1 h1 => ?_)
  obtain ⟨f1, rfl, fn1, bn1, ex1⟩ := h1
  have fq1 := fp0.call fn1 rfl rfl
  have rv2 : 0 ≤ vh1 3 ∧ vh1 3 ≤ 3000 := bn1.1 3
  have gf1 : f1 = (v 3) ∧ (vh1 3) = 0 := ex1
  refine m_st (st2 := [.int (iI f1)]) rfl ?_
  refine m_istore_n (lv2 := [(2, .int (iI f1)), (0, .ref h0), (1, .int (iI t))]) C dX12_head_4 (by decide) rfl ?_
  refine m_iload_n (j := 0) C dX12_head_5 rfl ?_
  refine m_bipush (z := 40) C dX12_head_6 (by decide) ?_
  have J1 : ∀ (g : Int) (vb1 : Nat → Int) (ab1 : Nat → Nat → Int), BX vb1 ab1 → fr [0, 1, 3, 23, 25, 28, 41] [20, 21, 24, 26, 27, 40] v a vb1 ab1 → (g = 0 ∨ (g = 1 ∧ f1 ≤ 40)) → (vb1 3 = 0) → (g = 1 ↔ f1 ≤ 40) → mw p l e (rmq 66 0 0) s m args below meth c G A 5 (MQ below (Qm G A (fun rq Lq Eq => ∃ (vq : Nat → Int) (aq : Nat → Nat → Int), mI G h0 ad ln vq aq Lq Eq ∧ (fun r v2 a2 => ∃ f : Int, r = some (.int (iI f)) ∧ fr [0, 1, 3, 23, 25, 28, 41] [20, 21, 24, 26, 27, 40] v a v2 a2 ∧ BX v2 a2 ∧ ((v2 3 = 0) ∧ HDS v a t f)) rq vq aq)) args s 0 0 A) h0 ad ln vb1 ab1 0 0 16 [(2, .int (iI f1)), (0, .ref h0), (1, .int (iI t))] [.int (iI g)] := by
    intro g vb1 ab1 bxb1 fpb1 hg hz31 hgi
    refine m_istore_n (lv2 := [(3, .int (iI g)), (2, .int (iI f1)), (0, .ref h0), (1, .int (iI t))]) C dX12_head_16 (by decide) rfl ?_
    refine m_iconst C dX12_head_17 ?_
    refine m_istore (lv2 := [(4, .int (iI 0)), (3, .int (iI g)), (2, .int (iI f1)), (0, .ref h0), (1, .int (iI t))]) C dX12_head_18 (by decide) rfl ?_
    have Lp1 : ∀ (nn : Nat) (g1 k : Int) (vb2 : Nat → Int) (ab2 : Nat → Nat → Int), 3001 - k < (nn : Int) → BX vb2 ab2 → fr [0, 1, 3, 23, 25, 28, 41] [20, 21, 24, 26, 27, 40] v a vb2 ab2 → (g1 = 0 ∨ (g1 = 1 ∧ f1 ≤ 40)) → (0 ≤ k ∧ k ≤ f1) → (vb2 3 = 0) → (TLG (a 2) f1 k g1) → mw p l e (rmq 66 0 0) s m args below meth c G A 5 (MQ below (Qm G A (fun rq Lq Eq => ∃ (vq : Nat → Int) (aq : Nat → Nat → Int), mI G h0 ad ln vq aq Lq Eq ∧ (fun r v2 a2 => ∃ f : Int, r = some (.int (iI f)) ∧ fr [0, 1, 3, 23, 25, 28, 41] [20, 21, 24, 26, 27, 40] v a v2 a2 ∧ BX v2 a2 ∧ ((v2 3 = 0) ∧ HDS v a t f)) rq vq aq)) args s 0 0 A) h0 ad ln vb2 ab2 0 0 20 [(4, .int (iI k)), (3, .int (iI g1)), (2, .int (iI f1)), (0, .ref h0), (1, .int (iI t))] [] := by
      intro nn
      induction nn with
      | zero =>
        intro g1 k vb2 ab2 hm bxb2 fpb2 hg1 hk hz32 hL
        exact absurd hm (by omega)
      | succ nn ih1 =>
        intro g1 k vb2 ab2 hm bxb2 fpb2 hg1 hk hz32 hL
        refine m_iload (j := 0) C dX12_head_20 rfl ?_
        refine m_iload_n (j := 2) C dX12_head_22 rfl ?_
        refine m_icmp_ge (tgt := 47) C ⟨by omega, by omega⟩ ⟨by omega, by omega⟩ dX12_head_23 (by decide) (fun c1 => ?_) (fun c1 => ?_)
        · refine m_iload_n (j := 1) C dX12_head_47 rfl ?_
          refine m_if_ne (tgt := 58) C ⟨by omega, by omega⟩ dX12_head_48 (by decide) (fun c2 => ?_) (fun c2 => ?_)
          · refine m_aload_n (j := 3) C dX12_head_58 rfl ?_
            refine m_iload_n (j := 4) C dX12_head_59 rfl ?_
            have rv3 : 0 ≤ vb2 4 ∧ vb2 4 ≤ 30 := bxb2.1 4
            have ve1 : vb2 4 = v 4 := fpb2.1 4 rfl
            refine m_call (mc2 := 0) (ms2 := 0) (As := [.int (iI t)]) (rest := []) C (E_isWhole (t := t) bxb2 (hT.fr fpb2 rfl rfl) (by show -2147483648 ≤ t ∧ t ≤ 2147483647; omega)) dX12_head_60 kV_X12_171 rfl ck_13 rfl (Nat.le_of_ble_eq_true rfl) ⟨Nat.le_of_ble_eq_true rfl, Nat.le_of_ble_eq_true rfl⟩ ⟨Nat.le_of_ble_eq_true rfl, Nat.le_of_ble_eq_true rfl⟩ (fun rh2 vh2 ah2 h2 => ?_)
            obtain ⟨f2, rfl, fn2, bn2, ex2⟩ := h2
            obtain ⟨rfl, rfl⟩ := fn2.eq
            obtain ⟨ex2, tl1⟩ := ex2
            have gf2 : f2 = 0 ∨ (f2 = 1 ∧ 0 ≤ t ∧ t < (vb2 4)) := ex2
            refine m_st (st2 := [.int (iI f2)]) rfl ?_
            refine m_if_ne (tgt := 72) C ⟨by omega, by omega⟩ dX12_head_63 (by decide) (fun c3 => ?_) (fun c3 => ?_)
            · refine m_aload_n (j := 3) C dX12_head_72 rfl ?_
              refine m_iload_n (j := 2) C dX12_head_73 rfl ?_
              refine m_put (k := 23) (z := f1) C dX12_head_74 w6_82 (by decide) rfl rfl rfl ?_
              have bq1 : BX (va_up vb2 23 f1) ab2 := bxb2.put (k := 23) (z := f1) (show 0 ≤ f1 ∧ f1 ≤ 500 by omega)
              have fq3 := fpb2.put (k := 23) (z := f1) rfl
              refine m_iconst C dX12_head_77 ?_
              refine m_istore (lv2 := [(4, .int (iI 0)), (3, .int (iI g1)), (2, .int (iI f1)), (0, .ref h0), (1, .int (iI t))]) C dX12_head_78 (by decide) rfl ?_
              have Lp2 : ∀ (nn : Nat) (k1 : Int) (vb3 : Nat → Int) (ab3 : Nat → Nat → Int), 41 - k1 < (nn : Int) → BX vb3 ab3 → fr [0, 1, 3, 23, 25, 28, 41] [20, 21, 24, 26, 27, 40] v a vb3 ab3 → (0 ≤ k1 ∧ k1 ≤ f1) → (vb3 3 = 0) → (vb3 23 = v 3) → (WDK (ab3 20) (a 2) k1) → mw p l e (rmq 66 0 0) s m args below meth c G A 5 (MQ below (Qm G A (fun rq Lq Eq => ∃ (vq : Nat → Int) (aq : Nat → Nat → Int), mI G h0 ad ln vq aq Lq Eq ∧ (fun r v2 a2 => ∃ f : Int, r = some (.int (iI f)) ∧ fr [0, 1, 3, 23, 25, 28, 41] [20, 21, 24, 26, 27, 40] v a v2 a2 ∧ BX v2 a2 ∧ ((v2 3 = 0) ∧ HDS v a t f)) rq vq aq)) args s 0 0 A) h0 ad ln vb3 ab3 0 0 80 [(4, .int (iI k1)), (3, .int (iI g1)), (2, .int (iI f1)), (0, .ref h0), (1, .int (iI t))] [] := by
                intro nn
                induction nn with
                | zero =>
                  intro k1 vb3 ab3 hm bxb3 fpb3 hk1 hz33 hz23 hD
                  exact absurd hm (by omega)
                | succ nn ih2 =>
                  intro k1 vb3 ab3 hm bxb3 fpb3 hk1 hz33 hz23 hD
                  refine m_iload (j := 0) C dX12_head_80 rfl ?_
                  refine m_iload_n (j := 2) C dX12_head_82 rfl ?_
                  refine m_icmp_ge (tgt := 115) C ⟨by omega, by omega⟩ ⟨by omega, by omega⟩ dX12_head_83 (by decide) (fun c4 => ?_) (fun c4 => ?_)
                  · refine m_iload_n (j := 2) C dX12_head_115 rfl ?_
                    have J2 : ∀ (vb4 : Nat → Int) (ab4 : Nat → Nat → Int), BX vb4 ab4 → fr [0, 1, 3, 23, 25, 28, 41] [20, 21, 24, 26, 27, 40] v a vb4 ab4 → (vb4 25 ≤ 200) → (vb4 3 = 0) → (HDC v a t (vb4 25)) → mw p l e (rmq 66 0 0) s m args below meth c G A 5 (MQ below (Qm G A (fun rq Lq Eq => ∃ (vq : Nat → Int) (aq : Nat → Nat → Int), mI G h0 ad ln vq aq Lq Eq ∧ (fun r v2 a2 => ∃ f : Int, r = some (.int (iI f)) ∧ fr [0, 1, 3, 23, 25, 28, 41] [20, 21, 24, 26, 27, 40] v a v2 a2 ∧ BX v2 a2 ∧ ((v2 3 = 0) ∧ HDS v a t f)) rq vq aq)) args s 0 0 A) h0 ad ln vb4 ab4 0 0 140 [(4, .int (iI k1)), (3, .int (iI g1)), (2, .int (iI f1)), (0, .ref h0), (1, .int (iI t))] [] := by
                      intro  vb4 ab4 bxb4 fpb4 hm hz34 hC
                      refine m_aload_n (j := 3) C dX12_head_140 rfl ?_
                      refine m_aload_n (j := 3) C dX12_head_141 rfl ?_
                      have rv4 : 0 ≤ vb4 25 ∧ vb4 25 ≤ 208 := bxb4.1 25
                      refine m_get (k := 25) C dX12_head_142 w6_84 (by decide) rfl ?_
                      refine m_aload_n (j := 3) C dX12_head_145 rfl ?_
                      have rv5 : 1 ≤ vb4 31 ∧ vb4 31 ≤ 100 := bxb4.1 31
                      have ve2 : vb4 31 = v 31 := fpb4.1 31 rfl
                      refine m_get (k := 31) C dX12_head_146 w6_90 (by decide) rfl ?_
                      refine m_st (st2 := [.int (iI (v 31)), .int (iI (vb4 25)), .ref h0]) (congrArg (fun z => Value.int (iI z) :: [.int (iI (vb4 25)), .ref h0]) (fpb4.1 31 rfl)) ?_
                      obtain ⟨mn1, hmn1, emn1⟩ := mmin_c (x := vb4 25) (y := v 31) ⟨by omega, by omega⟩ ⟨by omega, by omega⟩
                      refine m_mmin (w := iI mn1) C dX12_head_149 w7_189 w2_129 w1_14 w2_130 ⟨Nat.le_of_ble_eq_true rfl, Nat.le_of_ble_eq_true rfl⟩ ⟨Nat.le_of_ble_eq_true rfl, Nat.le_of_ble_eq_true rfl⟩ (Nat.le_of_ble_eq_true rfl) emn1 ?_
                      refine m_put (k := 41) (z := mn1) C dX12_head_152 w6_100 (by decide) rfl rfl rfl ?_
                      have bq2 : BX (va_up vb4 41 mn1) ab4 := bxb4.put (k := 41) (z := mn1) (show 0 ≤ mn1 ∧ mn1 ≤ 200 by omega)
                      have fq4 := fpb4.put (k := 41) (z := mn1) rfl
                      refine m_iconst C dX12_head_155 ?_
                      refine m_istore (lv2 := [(4, .int (iI 0)), (3, .int (iI g1)), (2, .int (iI f1)), (0, .ref h0), (1, .int (iI t))]) C dX12_head_156 (by decide) rfl ?_
                      have Lp3 : ∀ (nn : Nat) (k2 : Int) (vb5 : Nat → Int) (ab5 : Nat → Nat → Int), 201 - k2 < (nn : Int) → BX vb5 ab5 → fr [0, 1, 3, 23, 25, 28, 41] [20, 21, 24, 26, 27, 40] v a vb5 ab5 → (0 ≤ k2 ∧ k2 ≤ 200) → (vb5 3 = 0) → (HDR v a t (vb5 41)) → mw p l e (rmq 66 0 0) s m args below meth c G A 5 (MQ below (Qm G A (fun rq Lq Eq => ∃ (vq : Nat → Int) (aq : Nat → Nat → Int), mI G h0 ad ln vq aq Lq Eq ∧ (fun r v2 a2 => ∃ f : Int, r = some (.int (iI f)) ∧ fr [0, 1, 3, 23, 25, 28, 41] [20, 21, 24, 26, 27, 40] v a v2 a2 ∧ BX v2 a2 ∧ ((v2 3 = 0) ∧ HDS v a t f)) rq vq aq)) args s 0 0 A) h0 ad ln vb5 ab5 0 0 158 [(4, .int (iI k2)), (3, .int (iI g1)), (2, .int (iI f1)), (0, .ref h0), (1, .int (iI t))] [] := by
                        intro nn
                        induction nn with
                        | zero =>
                          intro k2 vb5 ab5 hm bxb5 fpb5 hk2 hz35 hR2
                          exact absurd hm (by omega)
                        | succ nn ih3 =>
                          intro k2 vb5 ab5 hm bxb5 fpb5 hk2 hz35 hR2
                          refine m_iload (j := 0) C dX12_head_158 rfl ?_
                          refine m_aload_n (j := 3) C dX12_head_160 rfl ?_
                          have rv6 : 0 ≤ vb5 41 ∧ vb5 41 ≤ 200 := bxb5.1 41
                          refine m_get (k := 41) C dX12_head_161 w6_100 (by decide) rfl ?_
                          refine m_icmp_ge (tgt := 187) C ⟨by omega, by omega⟩ ⟨by omega, by omega⟩ dX12_head_164 (by decide) (fun c5 => ?_) (fun c5 => ?_)
                          · refine m_aload_n (j := 3) C dX12_head_187 rfl ?_
                            refine m_aload_n (j := 3) C dX12_head_188 rfl ?_
                            refine m_get (k := 41) C dX12_head_189 w6_100 (by decide) rfl ?_
                            refine m_call (mc2 := 0) (ms2 := 0) (As := [.int (iI (vb5 41))]) (rest := []) C (B_fine (x := vb5 41) bxb5 (by show -2147483648 ≤ (vb5 41) ∧ (vb5 41) ≤ 2147483647; omega)) dX12_head_192 kV_X12_158 rfl ck_13 rfl (Nat.le_of_ble_eq_true rfl) ⟨Nat.le_of_ble_eq_true rfl, Nat.le_of_ble_eq_true rfl⟩ ⟨Nat.le_of_ble_eq_true rfl, Nat.le_of_ble_eq_true rfl⟩ (fun rh3 vh3 ah3 h3 => ?_)
                            obtain ⟨f3, rfl, fn3, bn3, ex3⟩ := h3
                            have fq5 := fpb5.call fn3 rfl rfl
                            have gf3 : f3 = (vb5 41) := ex3
                            refine m_st (st2 := [.int (iI f3)]) rfl ?_
                            have rv7 : 0 ≤ vh3 3 ∧ vh3 3 ≤ 3000 := bn3.1 3
                            have ve3 : vh3 3 = vb5 3 := fn3.1 3 rfl
                            exact m_iret C dX12_head_195 rfl (Nat.le_of_ble_eq_true rfl) (Nat.le_of_ble_eq_true rfl) ⟨f3, rfl, fq5, bn3, ⟨(by show (vh3 3) = 0; omega), HDS.ok (by have q := hL.yes (by omega) (by omega); rw [show f1 = v 3 by omega] at q; exact q) ((tl1.cg (fpb2.1 4 rfl) (fpb2.2 5 rfl) (fpb2.2 6 rfl) (fpb2.2 8 rfl) (fpb2.2 9 rfl)).mp (by omega)) hR2 (by omega)⟩⟩
                          · refine m_aload_n (j := 3) C dX12_head_167 rfl ?_
                            refine m_geta (k := 40) C dX12_head_168 w6_99 (by decide) rfl ?_
                            refine m_iload (j := 0) C dX12_head_171 rfl ?_
                            refine m_aload_n (j := 3) C dX12_head_173 rfl ?_
                            refine m_geta (k := 24) C dX12_head_174 w6_83 (by decide) rfl ?_
                            refine m_iload (j := 0) C dX12_head_177 rfl ?_
                            refine m_ald (k := 24) C dX12_head_179 rfl rfl (by decide) (by omega) (by show _ < ((_ : Nat) : Int); simp only [mlen]; omega) (by decide) ?_
                            have ra1 : (-2147483648) ≤ ab5 24 k2.toNat ∧ ab5 24 k2.toNat ≤ 2147483647 := bxb5.2 24 (k2.toNat)
                            refine m_ast (k := 40) C dX12_head_180 rfl rfl (by decide) (by omega) (by show _ < ((_ : Nat) : Int); simp only [mlen]; omega) (by decide) ?_
                            have bq3 : BX vb5 (up2 ab5 40 k2.toNat (ab5 24 k2.toNat)) := bxb5.set (k := 40) (i := k2.toNat) (z := ab5 24 k2.toNat) (show (-2147483648) ≤ (ab5 24 k2.toNat) ∧ (ab5 24 k2.toNat) ≤ 2147483647 by omega)
                            have fq6 := fpb5.set (k := 40) (i := k2.toNat) (z := ab5 24 k2.toNat) rfl
                            refine m_iinc (z := k2) (j := 0) (lv2 := [(4, .int (iI (k2 + 1))), (3, .int (iI g1)), (2, .int (iI f1)), (0, .ref h0), (1, .int (iI t))]) C dX12_head_181 rfl (by decide) rfl ?_
                            refine m_goto (tgt := 158) C dX12_head_184 (by decide) ?_
                            have rv8 : 0 ≤ vb5 3 ∧ vb5 3 ≤ 3000 := bq3.1 3
                            refine m_lv (lv2 := [(4, .int (iI (k2 + 1))), (3, .int (iI g1)), (2, .int (iI f1)), (0, .ref h0), (1, .int (iI t))]) [0, 1, 2, 3, 4] rfl ?_
                            exact ih3  (k2 + 1) _ _ (by omega) bq3 fq6 (by omega) (by show (vb5 3) = 0; omega) hR2
                      have rv9 : 0 ≤ vb4 3 ∧ vb4 3 ≤ 3000 := bq2.1 3
                      refine m_lv (lv2 := [(4, .int (iI 0)), (3, .int (iI g1)), (2, .int (iI f1)), (0, .ref h0), (1, .int (iI t))]) [0, 1, 2, 3, 4] rfl ?_
                      exact Lp3 202 0 _ _ (by omega) bq2 fq4 (by omega) (by show (vb4 3) = 0; omega) (hC.min (by show (mn1 = (vb4 25) ∧ (vb4 25) ≤ v 31) ∨ (mn1 = v 31 ∧ v 31 < (vb4 25)); omega))
                    refine m_if_ne (tgt := 127) C ⟨by omega, by omega⟩ dX12_head_116 (by decide) (fun c6 => ?_) (fun c6 => ?_)
                    · refine m_aload_n (j := 3) C dX12_head_127 rfl ?_
                      refine m_iload_n (j := 4) C dX12_head_128 rfl ?_
                      have rv10 : 0 ≤ vb3 4 ∧ vb3 4 ≤ 30 := bxb3.1 4
                      have ve4 : vb3 4 = v 4 := fpb3.1 4 rfl
                      refine m_call (mc2 := 0) (ms2 := 0) (As := [.int (iI t)]) (rest := []) C (E_setWord (t := t) bxb3 (hT.fr fpb3 rfl rfl) (by show 0 ≤ t ∧ t < (vb3 4); omega)) dX12_head_129 kV_X12_267 rfl ck_13 rfl (Nat.le_of_ble_eq_true rfl) ⟨Nat.le_of_ble_eq_true rfl, Nat.le_of_ble_eq_true rfl⟩ ⟨Nat.le_of_ble_eq_true rfl, Nat.le_of_ble_eq_true rfl⟩ (fun rh4 vh4 ah4 h4 => ?_)
                      obtain ⟨f4, rfl, fn4, bn4, ex4⟩ := h4
                      have fq7 := fpb3.call fn4 rfl rfl
                      obtain ⟨ex4, tl2⟩ := ex4
                      have rv11 : 0 ≤ vh4 25 ∧ vh4 25 ≤ 208 := bn4.1 25
                      have gf4 : f4 = 0 ∨ (f4 = 1 ∧ (vh4 25) ≤ 200) := ex4
                      refine m_st (st2 := [.int (iI f4)]) rfl ?_
                      refine m_if_ne (tgt := 140) C ⟨by omega, by omega⟩ dX12_head_132 (by decide) (fun c7 => ?_) (fun c7 => ?_)
                      · have rv12 : 0 ≤ vh4 3 ∧ vh4 3 ≤ 3000 := bn4.1 3
                        have ve5 : vh4 3 = vb3 3 := fn4.1 3 rfl
                        refine m_lv (lv2 := [(4, .int (iI k1)), (3, .int (iI g1)), (2, .int (iI f1)), (0, .ref h0), (1, .int (iI t))]) [0, 1, 2, 3, 4] rfl ?_
                        exact J2   _ _  bn4 fq7 (by show (vh4 25) ≤ 200; omega) (by show (vh4 3) = 0; omega) (HDC.set tl2.1 (by omega) (TBE.fr fpb3 rfl) hD (by omega) hz23 (fun i => (hB.2 12 i).1) rfl)
                      · refine m_aload_n (j := 3) C dX12_head_135 rfl ?_
                        refine m_call (mc2 := 0) (ms2 := 0) (As := []) (rest := []) C (B_notSet  bn4 ) dX12_head_136 kV_X12_270 rfl ck_13 rfl (Nat.le_of_ble_eq_true rfl) ⟨Nat.le_of_ble_eq_true rfl, Nat.le_of_ble_eq_true rfl⟩ ⟨Nat.le_of_ble_eq_true rfl, Nat.le_of_ble_eq_true rfl⟩ (fun rh5 vh5 ah5 h5 => ?_)
                        obtain ⟨f5, rfl, fn5, bn5, ex5⟩ := h5
                        have fq8 := fq7.call fn5 rfl rfl
                        have gf5 : f5 = -1 := ex5
                        refine m_st (st2 := [.int (iI f5)]) rfl ?_
                        have rv13 : 0 ≤ vh5 3 ∧ vh5 3 ≤ 3000 := bn5.1 3
                        have ve6 : vh5 3 = vh4 3 := fn5.1 3 rfl
                        have ve7 : vh4 3 = vb3 3 := fn4.1 3 rfl
                        exact m_iret C dX12_head_139 rfl (Nat.le_of_ble_eq_true rfl) (Nat.le_of_ble_eq_true rfl) ⟨f5, rfl, fq8, bn5, ⟨(by show (vh5 3) = 0; omega), HDS.ns (HDC.no tl2.1 (by omega) (TBE.fr fpb3 rfl) hD (by omega) hz23 (fun i => (bxb3.2 12 i).1)) (by omega)⟩⟩
                    · refine m_aload_n (j := 3) C dX12_head_119 rfl ?_
                      refine m_iconst C dX12_head_120 ?_
                      refine m_put (k := 25) (z := 0) C dX12_head_121 w6_84 (by decide) rfl rfl rfl ?_
                      have bq4 : BX (va_up vb3 25 0) ab3 := bxb3.put (k := 25) (z := 0) ⟨by decide, by decide⟩
                      have fq9 := fpb3.put (k := 25) (z := 0) rfl
                      refine m_goto (tgt := 140) C dX12_head_124 (by decide) ?_
                      have rv14 : 0 ≤ vb3 3 ∧ vb3 3 ≤ 3000 := bq4.1 3
                      refine m_lv (lv2 := [(4, .int (iI k1)), (3, .int (iI g1)), (2, .int (iI f1)), (0, .ref h0), (1, .int (iI t))]) [0, 1, 2, 3, 4] rfl ?_
                      exact J2   _ _  bq4 fq9 (by show 0 ≤ 200; omega) (by show (vb3 3) = 0; omega) (HDC.nil hT (by omega) (by omega) rfl)
                  · refine m_aload_n (j := 3) C dX12_head_86 rfl ?_
                    refine m_geta (k := 20) C dX12_head_87 w6_79 (by decide) rfl ?_
                    refine m_iload (j := 0) C dX12_head_90 rfl ?_
                    refine m_aload_n (j := 3) C dX12_head_92 rfl ?_
                    refine m_geta (k := 2) C dX12_head_93 w6_61 (by decide) rfl ?_
                    refine m_iload (j := 0) C dX12_head_96 rfl ?_
                    refine m_ald (k := 2) C dX12_head_98 rfl rfl (by decide) (by omega) (by show _ < ((_ : Nat) : Int); simp only [mlen]; omega) (by decide) ?_
                    have ra2 : (-2147483648) ≤ ab3 2 k1.toNat ∧ ab3 2 k1.toNat ≤ 2147483647 := bxb3.2 2 (k1.toNat)
                    have ae1 : ab3 2 (k1.toNat) = a 2 (k1.toNat) := congrFun (fpb3.2 2 rfl) (k1.toNat)
                    refine m_st (st2 := [.int (iI (a 2 k1.toNat)), .int (iI k1), .ref (ad 20)]) (congrArg (fun z => Value.int (iI z) :: [.int (iI k1), .ref (ad 20)]) (congrFun (fpb3.2 2 rfl) (k1.toNat))) ?_
                    refine m_ast (k := 20) C dX12_head_99 rfl rfl (by decide) (by omega) (by show _ < ((_ : Nat) : Int); simp only [mlen]; omega) (by decide) ?_
                    have bq5 : BX vb3 (up2 ab3 20 k1.toNat (a 2 k1.toNat)) := bxb3.set (k := 20) (i := k1.toNat) (z := a 2 k1.toNat) (show (-2147483648) ≤ (a 2 k1.toNat) ∧ (a 2 k1.toNat) ≤ 2147483647 by omega)
                    have fq10 := fpb3.set (k := 20) (i := k1.toNat) (z := a 2 k1.toNat) rfl
                    refine m_aload_n (j := 3) C dX12_head_100 rfl ?_
                    refine m_geta (k := 21) C dX12_head_101 w6_80 (by decide) rfl ?_
                    refine m_iload (j := 0) C dX12_head_104 rfl ?_
                    refine m_iload (j := 0) C dX12_head_106 rfl ?_
                    refine m_ast (k := 21) C dX12_head_108 rfl rfl (by decide) (by omega) (by show _ < ((_ : Nat) : Int); simp only [mlen]; omega) (by decide) ?_
                    have bq6 : BX vb3 (up2 (up2 ab3 20 k1.toNat (a 2 k1.toNat)) 21 k1.toNat k1) := bq5.set (k := 21) (i := k1.toNat) (z := k1) (show (-2147483648) ≤ k1 ∧ k1 ≤ 2147483647 by omega)
                    have fq11 := fq10.set (k := 21) (i := k1.toNat) (z := k1) rfl
                    refine m_iinc (z := k1) (j := 0) (lv2 := [(4, .int (iI (k1 + 1))), (3, .int (iI g1)), (2, .int (iI f1)), (0, .ref h0), (1, .int (iI t))]) C dX12_head_109 rfl (by decide) rfl ?_
                    refine m_goto (tgt := 80) C dX12_head_112 (by decide) ?_
                    have rv15 : 0 ≤ vb3 3 ∧ vb3 3 ≤ 3000 := bq6.1 3
                    have rv16 : 0 ≤ vb3 23 ∧ vb3 23 ≤ 500 := bq6.1 23
                    refine m_lv (lv2 := [(4, .int (iI (k1 + 1))), (3, .int (iI g1)), (2, .int (iI f1)), (0, .ref h0), (1, .int (iI t))]) [0, 1, 2, 3, 4] rfl ?_
                    exact ih2  (k1 + 1) _ _ (by omega) bq6 fq11 (by omega) (by show (vb3 3) = 0; omega) (by show (vb3 23) = v 3; omega) (hD.step (by omega) rfl ((funext fun _ => up2_k (by decide))))
              have rv17 : 0 ≤ vb2 3 ∧ vb2 3 ≤ 3000 := bq1.1 3
              refine m_lv (lv2 := [(4, .int (iI 0)), (3, .int (iI g1)), (2, .int (iI f1)), (0, .ref h0), (1, .int (iI t))]) [0, 1, 2, 3, 4] rfl ?_
              exact Lp2 42 0 _ _ (by omega) bq1 fq3 (by omega) (by show (vb2 3) = 0; omega) (by show f1 = v 3; omega) WDK.zero
            · refine m_aload_n (j := 3) C dX12_head_66 rfl ?_
              refine m_iconst C dX12_head_67 ?_
              refine m_call (mc2 := 0) (ms2 := 0) (As := [.int (iI 3)]) (rest := []) C (B_bad (x := 3) bxb2 (by show -2147483648 ≤ (3 : Int) ∧ (3 : Int) ≤ 2147483647; omega)) dX12_head_68 kV_X12_154 rfl ck_13 rfl (Nat.le_of_ble_eq_true rfl) ⟨Nat.le_of_ble_eq_true rfl, Nat.le_of_ble_eq_true rfl⟩ ⟨Nat.le_of_ble_eq_true rfl, Nat.le_of_ble_eq_true rfl⟩ (fun rh6 vh6 ah6 h6 => ?_)
              obtain ⟨f6, rfl, fn6, bn6, ex6⟩ := h6
              have fq12 := fpb2.call fn6 rfl rfl
              have gf6 : f6 = -1 := ex6
              refine m_st (st2 := [.int (iI f6)]) rfl ?_
              have rv18 : 0 ≤ vh6 3 ∧ vh6 3 ≤ 3000 := bn6.1 3
              have ve8 : vh6 3 = vb2 3 := fn6.1 3 rfl
              exact m_iret C dX12_head_71 rfl (Nat.le_of_ble_eq_true rfl) (Nat.le_of_ble_eq_true rfl) ⟨f6, rfl, fq12, bn6, ⟨(by show (vh6 3) = 0; omega), HDS.nw (fun q => absurd ((tl1.cg (fpb2.1 4 rfl) (fpb2.2 5 rfl) (fpb2.2 6 rfl) (fpb2.2 8 rfl) (fpb2.2 9 rfl)).mpr q) (by omega)) (by omega)⟩⟩
          · refine m_aload_n (j := 3) C dX12_head_51 rfl ?_
            refine m_bipush (z := 6) C dX12_head_52 (by decide) ?_
            refine m_call (mc2 := 0) (ms2 := 0) (As := [.int (iI 6)]) (rest := []) C (B_bad (x := 6) bxb2 (by show -2147483648 ≤ (6 : Int) ∧ (6 : Int) ≤ 2147483647; omega)) dX12_head_54 kV_X12_154 rfl ck_13 rfl (Nat.le_of_ble_eq_true rfl) ⟨Nat.le_of_ble_eq_true rfl, Nat.le_of_ble_eq_true rfl⟩ ⟨Nat.le_of_ble_eq_true rfl, Nat.le_of_ble_eq_true rfl⟩ (fun rh7 vh7 ah7 h7 => ?_)
            obtain ⟨f7, rfl, fn7, bn7, ex7⟩ := h7
            have fq13 := fpb2.call fn7 rfl rfl
            have gf7 : f7 = -1 := ex7
            refine m_st (st2 := [.int (iI f7)]) rfl ?_
            have rv19 : 0 ≤ vh7 3 ∧ vh7 3 ≤ 3000 := bn7.1 3
            have ve9 : vh7 3 = vb2 3 := fn7.1 3 rfl
            exact m_iret C dX12_head_57 rfl (Nat.le_of_ble_eq_true rfl) (Nat.le_of_ble_eq_true rfl) ⟨f7, rfl, fq13, bn7, ⟨(by show (vh7 3) = 0; omega), HDS.bad (by have q := hL.no (by omega) (by omega); rw [show f1 = v 3 by omega] at q; exact q) (by omega)⟩⟩
        · refine m_iload_n (j := 1) C dX12_head_26 rfl ?_
          refine m_if_eq (tgt := 47) C ⟨by omega, by omega⟩ dX12_head_27 (by decide) (fun c8 => ?_) (fun c8 => ?_)
          · refine m_iload_n (j := 1) C dX12_head_47 rfl ?_
            refine m_if_ne (tgt := 58) C ⟨by omega, by omega⟩ dX12_head_48 (by decide) (fun c9 => ?_) (fun c9 => ?_)
            · refine m_aload_n (j := 3) C dX12_head_58 rfl ?_
              refine m_iload_n (j := 4) C dX12_head_59 rfl ?_
              have rv20 : 0 ≤ vb2 4 ∧ vb2 4 ≤ 30 := bxb2.1 4
              have ve10 : vb2 4 = v 4 := fpb2.1 4 rfl
              refine m_call (mc2 := 0) (ms2 := 0) (As := [.int (iI t)]) (rest := []) C (E_isWhole (t := t) bxb2 (hT.fr fpb2 rfl rfl) (by show -2147483648 ≤ t ∧ t ≤ 2147483647; omega)) dX12_head_60 kV_X12_171 rfl ck_13 rfl (Nat.le_of_ble_eq_true rfl) ⟨Nat.le_of_ble_eq_true rfl, Nat.le_of_ble_eq_true rfl⟩ ⟨Nat.le_of_ble_eq_true rfl, Nat.le_of_ble_eq_true rfl⟩ (fun rh8 vh8 ah8 h8 => ?_)
              obtain ⟨f8, rfl, fn8, bn8, ex8⟩ := h8
              obtain ⟨rfl, rfl⟩ := fn8.eq
              obtain ⟨ex8, tl3⟩ := ex8
              have gf8 : f8 = 0 ∨ (f8 = 1 ∧ 0 ≤ t ∧ t < (vb2 4)) := ex8
              refine m_st (st2 := [.int (iI f8)]) rfl ?_
              refine m_if_ne (tgt := 72) C ⟨by omega, by omega⟩ dX12_head_63 (by decide) (fun c10 => ?_) (fun c10 => ?_)
              · refine m_aload_n (j := 3) C dX12_head_72 rfl ?_
                refine m_iload_n (j := 2) C dX12_head_73 rfl ?_
                refine m_put (k := 23) (z := f1) C dX12_head_74 w6_82 (by decide) rfl rfl rfl ?_
                have bq7 : BX (va_up vb2 23 f1) ab2 := bxb2.put (k := 23) (z := f1) (show 0 ≤ f1 ∧ f1 ≤ 500 by omega)
                have fq15 := fpb2.put (k := 23) (z := f1) rfl
                refine m_iconst C dX12_head_77 ?_
                refine m_istore (lv2 := [(4, .int (iI 0)), (3, .int (iI g1)), (2, .int (iI f1)), (0, .ref h0), (1, .int (iI t))]) C dX12_head_78 (by decide) rfl ?_
                have Lp4 : ∀ (nn : Nat) (k1 : Int) (vb6 : Nat → Int) (ab6 : Nat → Nat → Int), 41 - k1 < (nn : Int) → BX vb6 ab6 → fr [0, 1, 3, 23, 25, 28, 41] [20, 21, 24, 26, 27, 40] v a vb6 ab6 → (0 ≤ k1 ∧ k1 ≤ f1) → (vb6 3 = 0) → (vb6 23 = v 3) → (WDK (ab6 20) (a 2) k1) → mw p l e (rmq 66 0 0) s m args below meth c G A 5 (MQ below (Qm G A (fun rq Lq Eq => ∃ (vq : Nat → Int) (aq : Nat → Nat → Int), mI G h0 ad ln vq aq Lq Eq ∧ (fun r v2 a2 => ∃ f : Int, r = some (.int (iI f)) ∧ fr [0, 1, 3, 23, 25, 28, 41] [20, 21, 24, 26, 27, 40] v a v2 a2 ∧ BX v2 a2 ∧ ((v2 3 = 0) ∧ HDS v a t f)) rq vq aq)) args s 0 0 A) h0 ad ln vb6 ab6 0 0 80 [(4, .int (iI k1)), (3, .int (iI g1)), (2, .int (iI f1)), (0, .ref h0), (1, .int (iI t))] [] := by
                  intro nn
                  induction nn with
                  | zero =>
                    intro k1 vb6 ab6 hm bxb6 fpb6 hk1 hz33 hz23 hD
                    exact absurd hm (by omega)
                  | succ nn ih4 =>
                    intro k1 vb6 ab6 hm bxb6 fpb6 hk1 hz33 hz23 hD
                    refine m_iload (j := 0) C dX12_head_80 rfl ?_
                    refine m_iload_n (j := 2) C dX12_head_82 rfl ?_
                    refine m_icmp_ge (tgt := 115) C ⟨by omega, by omega⟩ ⟨by omega, by omega⟩ dX12_head_83 (by decide) (fun c11 => ?_) (fun c11 => ?_)
                    · refine m_iload_n (j := 2) C dX12_head_115 rfl ?_
                      have J3 : ∀ (vb7 : Nat → Int) (ab7 : Nat → Nat → Int), BX vb7 ab7 → fr [0, 1, 3, 23, 25, 28, 41] [20, 21, 24, 26, 27, 40] v a vb7 ab7 → (vb7 25 ≤ 200) → (vb7 3 = 0) → (HDC v a t (vb7 25)) → mw p l e (rmq 66 0 0) s m args below meth c G A 5 (MQ below (Qm G A (fun rq Lq Eq => ∃ (vq : Nat → Int) (aq : Nat → Nat → Int), mI G h0 ad ln vq aq Lq Eq ∧ (fun r v2 a2 => ∃ f : Int, r = some (.int (iI f)) ∧ fr [0, 1, 3, 23, 25, 28, 41] [20, 21, 24, 26, 27, 40] v a v2 a2 ∧ BX v2 a2 ∧ ((v2 3 = 0) ∧ HDS v a t f)) rq vq aq)) args s 0 0 A) h0 ad ln vb7 ab7 0 0 140 [(4, .int (iI k1)), (3, .int (iI g1)), (2, .int (iI f1)), (0, .ref h0), (1, .int (iI t))] [] := by
                        intro  vb7 ab7 bxb7 fpb7 hm hz34 hC
                        refine m_aload_n (j := 3) C dX12_head_140 rfl ?_
                        refine m_aload_n (j := 3) C dX12_head_141 rfl ?_
                        have rv21 : 0 ≤ vb7 25 ∧ vb7 25 ≤ 208 := bxb7.1 25
                        refine m_get (k := 25) C dX12_head_142 w6_84 (by decide) rfl ?_
                        refine m_aload_n (j := 3) C dX12_head_145 rfl ?_
                        have rv22 : 1 ≤ vb7 31 ∧ vb7 31 ≤ 100 := bxb7.1 31
                        have ve11 : vb7 31 = v 31 := fpb7.1 31 rfl
                        refine m_get (k := 31) C dX12_head_146 w6_90 (by decide) rfl ?_
                        refine m_st (st2 := [.int (iI (v 31)), .int (iI (vb7 25)), .ref h0]) (congrArg (fun z => Value.int (iI z) :: [.int (iI (vb7 25)), .ref h0]) (fpb7.1 31 rfl)) ?_
                        obtain ⟨mn2, hmn2, emn2⟩ := mmin_c (x := vb7 25) (y := v 31) ⟨by omega, by omega⟩ ⟨by omega, by omega⟩
                        refine m_mmin (w := iI mn2) C dX12_head_149 w7_189 w2_129 w1_14 w2_130 ⟨Nat.le_of_ble_eq_true rfl, Nat.le_of_ble_eq_true rfl⟩ ⟨Nat.le_of_ble_eq_true rfl, Nat.le_of_ble_eq_true rfl⟩ (Nat.le_of_ble_eq_true rfl) emn2 ?_
                        refine m_put (k := 41) (z := mn2) C dX12_head_152 w6_100 (by decide) rfl rfl rfl ?_
                        have bq8 : BX (va_up vb7 41 mn2) ab7 := bxb7.put (k := 41) (z := mn2) (show 0 ≤ mn2 ∧ mn2 ≤ 200 by omega)
                        have fq16 := fpb7.put (k := 41) (z := mn2) rfl
                        refine m_iconst C dX12_head_155 ?_
                        refine m_istore (lv2 := [(4, .int (iI 0)), (3, .int (iI g1)), (2, .int (iI f1)), (0, .ref h0), (1, .int (iI t))]) C dX12_head_156 (by decide) rfl ?_
                        have Lp5 : ∀ (nn : Nat) (k2 : Int) (vb8 : Nat → Int) (ab8 : Nat → Nat → Int), 201 - k2 < (nn : Int) → BX vb8 ab8 → fr [0, 1, 3, 23, 25, 28, 41] [20, 21, 24, 26, 27, 40] v a vb8 ab8 → (0 ≤ k2 ∧ k2 ≤ 200) → (vb8 3 = 0) → (HDR v a t (vb8 41)) → mw p l e (rmq 66 0 0) s m args below meth c G A 5 (MQ below (Qm G A (fun rq Lq Eq => ∃ (vq : Nat → Int) (aq : Nat → Nat → Int), mI G h0 ad ln vq aq Lq Eq ∧ (fun r v2 a2 => ∃ f : Int, r = some (.int (iI f)) ∧ fr [0, 1, 3, 23, 25, 28, 41] [20, 21, 24, 26, 27, 40] v a v2 a2 ∧ BX v2 a2 ∧ ((v2 3 = 0) ∧ HDS v a t f)) rq vq aq)) args s 0 0 A) h0 ad ln vb8 ab8 0 0 158 [(4, .int (iI k2)), (3, .int (iI g1)), (2, .int (iI f1)), (0, .ref h0), (1, .int (iI t))] [] := by
                          intro nn
                          induction nn with
                          | zero =>
                            intro k2 vb8 ab8 hm bxb8 fpb8 hk2 hz35 hR2
                            exact absurd hm (by omega)
                          | succ nn ih5 =>
                            intro k2 vb8 ab8 hm bxb8 fpb8 hk2 hz35 hR2
                            refine m_iload (j := 0) C dX12_head_158 rfl ?_
                            refine m_aload_n (j := 3) C dX12_head_160 rfl ?_
                            have rv23 : 0 ≤ vb8 41 ∧ vb8 41 ≤ 200 := bxb8.1 41
                            refine m_get (k := 41) C dX12_head_161 w6_100 (by decide) rfl ?_
                            refine m_icmp_ge (tgt := 187) C ⟨by omega, by omega⟩ ⟨by omega, by omega⟩ dX12_head_164 (by decide) (fun c12 => ?_) (fun c12 => ?_)
                            · refine m_aload_n (j := 3) C dX12_head_187 rfl ?_
                              refine m_aload_n (j := 3) C dX12_head_188 rfl ?_
                              refine m_get (k := 41) C dX12_head_189 w6_100 (by decide) rfl ?_
                              refine m_call (mc2 := 0) (ms2 := 0) (As := [.int (iI (vb8 41))]) (rest := []) C (B_fine (x := vb8 41) bxb8 (by show -2147483648 ≤ (vb8 41) ∧ (vb8 41) ≤ 2147483647; omega)) dX12_head_192 kV_X12_158 rfl ck_13 rfl (Nat.le_of_ble_eq_true rfl) ⟨Nat.le_of_ble_eq_true rfl, Nat.le_of_ble_eq_true rfl⟩ ⟨Nat.le_of_ble_eq_true rfl, Nat.le_of_ble_eq_true rfl⟩ (fun rh9 vh9 ah9 h9 => ?_)
                              obtain ⟨f9, rfl, fn9, bn9, ex9⟩ := h9
                              have fq17 := fpb8.call fn9 rfl rfl
                              have gf9 : f9 = (vb8 41) := ex9
                              refine m_st (st2 := [.int (iI f9)]) rfl ?_
                              have rv24 : 0 ≤ vh9 3 ∧ vh9 3 ≤ 3000 := bn9.1 3
                              have ve12 : vh9 3 = vb8 3 := fn9.1 3 rfl
                              exact m_iret C dX12_head_195 rfl (Nat.le_of_ble_eq_true rfl) (Nat.le_of_ble_eq_true rfl) ⟨f9, rfl, fq17, bn9, ⟨(by show (vh9 3) = 0; omega), HDS.ok (by have q := hL.yes (by omega) (by omega); rw [show f1 = v 3 by omega] at q; exact q) ((tl3.cg (fpb2.1 4 rfl) (fpb2.2 5 rfl) (fpb2.2 6 rfl) (fpb2.2 8 rfl) (fpb2.2 9 rfl)).mp (by omega)) hR2 (by omega)⟩⟩
                            · refine m_aload_n (j := 3) C dX12_head_167 rfl ?_
                              refine m_geta (k := 40) C dX12_head_168 w6_99 (by decide) rfl ?_
                              refine m_iload (j := 0) C dX12_head_171 rfl ?_
                              refine m_aload_n (j := 3) C dX12_head_173 rfl ?_
                              refine m_geta (k := 24) C dX12_head_174 w6_83 (by decide) rfl ?_
                              refine m_iload (j := 0) C dX12_head_177 rfl ?_
                              refine m_ald (k := 24) C dX12_head_179 rfl rfl (by decide) (by omega) (by show _ < ((_ : Nat) : Int); simp only [mlen]; omega) (by decide) ?_
                              have ra3 : (-2147483648) ≤ ab8 24 k2.toNat ∧ ab8 24 k2.toNat ≤ 2147483647 := bxb8.2 24 (k2.toNat)
                              refine m_ast (k := 40) C dX12_head_180 rfl rfl (by decide) (by omega) (by show _ < ((_ : Nat) : Int); simp only [mlen]; omega) (by decide) ?_
                              have bq9 : BX vb8 (up2 ab8 40 k2.toNat (ab8 24 k2.toNat)) := bxb8.set (k := 40) (i := k2.toNat) (z := ab8 24 k2.toNat) (show (-2147483648) ≤ (ab8 24 k2.toNat) ∧ (ab8 24 k2.toNat) ≤ 2147483647 by omega)
                              have fq18 := fpb8.set (k := 40) (i := k2.toNat) (z := ab8 24 k2.toNat) rfl
                              refine m_iinc (z := k2) (j := 0) (lv2 := [(4, .int (iI (k2 + 1))), (3, .int (iI g1)), (2, .int (iI f1)), (0, .ref h0), (1, .int (iI t))]) C dX12_head_181 rfl (by decide) rfl ?_
                              refine m_goto (tgt := 158) C dX12_head_184 (by decide) ?_
                              have rv25 : 0 ≤ vb8 3 ∧ vb8 3 ≤ 3000 := bq9.1 3
                              refine m_lv (lv2 := [(4, .int (iI (k2 + 1))), (3, .int (iI g1)), (2, .int (iI f1)), (0, .ref h0), (1, .int (iI t))]) [0, 1, 2, 3, 4] rfl ?_
                              exact ih5  (k2 + 1) _ _ (by omega) bq9 fq18 (by omega) (by show (vb8 3) = 0; omega) hR2
                        have rv26 : 0 ≤ vb7 3 ∧ vb7 3 ≤ 3000 := bq8.1 3
                        refine m_lv (lv2 := [(4, .int (iI 0)), (3, .int (iI g1)), (2, .int (iI f1)), (0, .ref h0), (1, .int (iI t))]) [0, 1, 2, 3, 4] rfl ?_
                        exact Lp5 202 0 _ _ (by omega) bq8 fq16 (by omega) (by show (vb7 3) = 0; omega) (hC.min (by show (mn2 = (vb7 25) ∧ (vb7 25) ≤ v 31) ∨ (mn2 = v 31 ∧ v 31 < (vb7 25)); omega))
                      refine m_if_ne (tgt := 127) C ⟨by omega, by omega⟩ dX12_head_116 (by decide) (fun c13 => ?_) (fun c13 => ?_)
                      · refine m_aload_n (j := 3) C dX12_head_127 rfl ?_
                        refine m_iload_n (j := 4) C dX12_head_128 rfl ?_
                        have rv27 : 0 ≤ vb6 4 ∧ vb6 4 ≤ 30 := bxb6.1 4
                        have ve13 : vb6 4 = v 4 := fpb6.1 4 rfl
                        refine m_call (mc2 := 0) (ms2 := 0) (As := [.int (iI t)]) (rest := []) C (E_setWord (t := t) bxb6 (hT.fr fpb6 rfl rfl) (by show 0 ≤ t ∧ t < (vb6 4); omega)) dX12_head_129 kV_X12_267 rfl ck_13 rfl (Nat.le_of_ble_eq_true rfl) ⟨Nat.le_of_ble_eq_true rfl, Nat.le_of_ble_eq_true rfl⟩ ⟨Nat.le_of_ble_eq_true rfl, Nat.le_of_ble_eq_true rfl⟩ (fun rh10 vh10 ah10 h10 => ?_)
                        obtain ⟨f10, rfl, fn10, bn10, ex10⟩ := h10
                        have fq19 := fpb6.call fn10 rfl rfl
                        obtain ⟨ex10, tl4⟩ := ex10
                        have rv28 : 0 ≤ vh10 25 ∧ vh10 25 ≤ 208 := bn10.1 25
                        have gf10 : f10 = 0 ∨ (f10 = 1 ∧ (vh10 25) ≤ 200) := ex10
                        refine m_st (st2 := [.int (iI f10)]) rfl ?_
                        refine m_if_ne (tgt := 140) C ⟨by omega, by omega⟩ dX12_head_132 (by decide) (fun c14 => ?_) (fun c14 => ?_)
                        · have rv29 : 0 ≤ vh10 3 ∧ vh10 3 ≤ 3000 := bn10.1 3
                          have ve14 : vh10 3 = vb6 3 := fn10.1 3 rfl
                          refine m_lv (lv2 := [(4, .int (iI k1)), (3, .int (iI g1)), (2, .int (iI f1)), (0, .ref h0), (1, .int (iI t))]) [0, 1, 2, 3, 4] rfl ?_
                          exact J3   _ _  bn10 fq19 (by show (vh10 25) ≤ 200; omega) (by show (vh10 3) = 0; omega) (HDC.set tl4.1 (by omega) (TBE.fr fpb6 rfl) hD (by omega) hz23 (fun i => (hB.2 12 i).1) rfl)
                        · refine m_aload_n (j := 3) C dX12_head_135 rfl ?_
                          refine m_call (mc2 := 0) (ms2 := 0) (As := []) (rest := []) C (B_notSet  bn10 ) dX12_head_136 kV_X12_270 rfl ck_13 rfl (Nat.le_of_ble_eq_true rfl) ⟨Nat.le_of_ble_eq_true rfl, Nat.le_of_ble_eq_true rfl⟩ ⟨Nat.le_of_ble_eq_true rfl, Nat.le_of_ble_eq_true rfl⟩ (fun rh11 vh11 ah11 h11 => ?_)
                          obtain ⟨f11, rfl, fn11, bn11, ex11⟩ := h11
                          have fq20 := fq19.call fn11 rfl rfl
                          have gf11 : f11 = -1 := ex11
                          refine m_st (st2 := [.int (iI f11)]) rfl ?_
                          have rv30 : 0 ≤ vh11 3 ∧ vh11 3 ≤ 3000 := bn11.1 3
                          have ve15 : vh11 3 = vh10 3 := fn11.1 3 rfl
                          have ve16 : vh10 3 = vb6 3 := fn10.1 3 rfl
                          exact m_iret C dX12_head_139 rfl (Nat.le_of_ble_eq_true rfl) (Nat.le_of_ble_eq_true rfl) ⟨f11, rfl, fq20, bn11, ⟨(by show (vh11 3) = 0; omega), HDS.ns (HDC.no tl4.1 (by omega) (TBE.fr fpb6 rfl) hD (by omega) hz23 (fun i => (bxb6.2 12 i).1)) (by omega)⟩⟩
                      · refine m_aload_n (j := 3) C dX12_head_119 rfl ?_
                        refine m_iconst C dX12_head_120 ?_
                        refine m_put (k := 25) (z := 0) C dX12_head_121 w6_84 (by decide) rfl rfl rfl ?_
                        have bq10 : BX (va_up vb6 25 0) ab6 := bxb6.put (k := 25) (z := 0) ⟨by decide, by decide⟩
                        have fq21 := fpb6.put (k := 25) (z := 0) rfl
                        refine m_goto (tgt := 140) C dX12_head_124 (by decide) ?_
                        have rv31 : 0 ≤ vb6 3 ∧ vb6 3 ≤ 3000 := bq10.1 3
                        refine m_lv (lv2 := [(4, .int (iI k1)), (3, .int (iI g1)), (2, .int (iI f1)), (0, .ref h0), (1, .int (iI t))]) [0, 1, 2, 3, 4] rfl ?_
                        exact J3   _ _  bq10 fq21 (by show 0 ≤ 200; omega) (by show (vb6 3) = 0; omega) (HDC.nil hT (by omega) (by omega) rfl)
                    · refine m_aload_n (j := 3) C dX12_head_86 rfl ?_
                      refine m_geta (k := 20) C dX12_head_87 w6_79 (by decide) rfl ?_
                      refine m_iload (j := 0) C dX12_head_90 rfl ?_
                      refine m_aload_n (j := 3) C dX12_head_92 rfl ?_
                      refine m_geta (k := 2) C dX12_head_93 w6_61 (by decide) rfl ?_
                      refine m_iload (j := 0) C dX12_head_96 rfl ?_
                      refine m_ald (k := 2) C dX12_head_98 rfl rfl (by decide) (by omega) (by show _ < ((_ : Nat) : Int); simp only [mlen]; omega) (by decide) ?_
                      have ra4 : (-2147483648) ≤ ab6 2 k1.toNat ∧ ab6 2 k1.toNat ≤ 2147483647 := bxb6.2 2 (k1.toNat)
                      have ae2 : ab6 2 (k1.toNat) = a 2 (k1.toNat) := congrFun (fpb6.2 2 rfl) (k1.toNat)
                      refine m_st (st2 := [.int (iI (a 2 k1.toNat)), .int (iI k1), .ref (ad 20)]) (congrArg (fun z => Value.int (iI z) :: [.int (iI k1), .ref (ad 20)]) (congrFun (fpb6.2 2 rfl) (k1.toNat))) ?_
                      refine m_ast (k := 20) C dX12_head_99 rfl rfl (by decide) (by omega) (by show _ < ((_ : Nat) : Int); simp only [mlen]; omega) (by decide) ?_
                      have bq11 : BX vb6 (up2 ab6 20 k1.toNat (a 2 k1.toNat)) := bxb6.set (k := 20) (i := k1.toNat) (z := a 2 k1.toNat) (show (-2147483648) ≤ (a 2 k1.toNat) ∧ (a 2 k1.toNat) ≤ 2147483647 by omega)
                      have fq22 := fpb6.set (k := 20) (i := k1.toNat) (z := a 2 k1.toNat) rfl
                      refine m_aload_n (j := 3) C dX12_head_100 rfl ?_
                      refine m_geta (k := 21) C dX12_head_101 w6_80 (by decide) rfl ?_
                      refine m_iload (j := 0) C dX12_head_104 rfl ?_
                      refine m_iload (j := 0) C dX12_head_106 rfl ?_
                      refine m_ast (k := 21) C dX12_head_108 rfl rfl (by decide) (by omega) (by show _ < ((_ : Nat) : Int); simp only [mlen]; omega) (by decide) ?_
                      have bq12 : BX vb6 (up2 (up2 ab6 20 k1.toNat (a 2 k1.toNat)) 21 k1.toNat k1) := bq11.set (k := 21) (i := k1.toNat) (z := k1) (show (-2147483648) ≤ k1 ∧ k1 ≤ 2147483647 by omega)
                      have fq23 := fq22.set (k := 21) (i := k1.toNat) (z := k1) rfl
                      refine m_iinc (z := k1) (j := 0) (lv2 := [(4, .int (iI (k1 + 1))), (3, .int (iI g1)), (2, .int (iI f1)), (0, .ref h0), (1, .int (iI t))]) C dX12_head_109 rfl (by decide) rfl ?_
                      refine m_goto (tgt := 80) C dX12_head_112 (by decide) ?_
                      have rv32 : 0 ≤ vb6 3 ∧ vb6 3 ≤ 3000 := bq12.1 3
                      have rv33 : 0 ≤ vb6 23 ∧ vb6 23 ≤ 500 := bq12.1 23
                      refine m_lv (lv2 := [(4, .int (iI (k1 + 1))), (3, .int (iI g1)), (2, .int (iI f1)), (0, .ref h0), (1, .int (iI t))]) [0, 1, 2, 3, 4] rfl ?_
                      exact ih4  (k1 + 1) _ _ (by omega) bq12 fq23 (by omega) (by show (vb6 3) = 0; omega) (by show (vb6 23) = v 3; omega) (hD.step (by omega) rfl ((funext fun _ => up2_k (by decide))))
                have rv34 : 0 ≤ vb2 3 ∧ vb2 3 ≤ 3000 := bq7.1 3
                refine m_lv (lv2 := [(4, .int (iI 0)), (3, .int (iI g1)), (2, .int (iI f1)), (0, .ref h0), (1, .int (iI t))]) [0, 1, 2, 3, 4] rfl ?_
                exact Lp4 42 0 _ _ (by omega) bq7 fq15 (by omega) (by show (vb2 3) = 0; omega) (by show f1 = v 3; omega) WDK.zero
              · refine m_aload_n (j := 3) C dX12_head_66 rfl ?_
                refine m_iconst C dX12_head_67 ?_
                refine m_call (mc2 := 0) (ms2 := 0) (As := [.int (iI 3)]) (rest := []) C (B_bad (x := 3) bxb2 (by show -2147483648 ≤ (3 : Int) ∧ (3 : Int) ≤ 2147483647; omega)) dX12_head_68 kV_X12_154 rfl ck_13 rfl (Nat.le_of_ble_eq_true rfl) ⟨Nat.le_of_ble_eq_true rfl, Nat.le_of_ble_eq_true rfl⟩ ⟨Nat.le_of_ble_eq_true rfl, Nat.le_of_ble_eq_true rfl⟩ (fun rh12 vh12 ah12 h12 => ?_)
                obtain ⟨f12, rfl, fn12, bn12, ex12⟩ := h12
                have fq24 := fpb2.call fn12 rfl rfl
                have gf12 : f12 = -1 := ex12
                refine m_st (st2 := [.int (iI f12)]) rfl ?_
                have rv35 : 0 ≤ vh12 3 ∧ vh12 3 ≤ 3000 := bn12.1 3
                have ve17 : vh12 3 = vb2 3 := fn12.1 3 rfl
                exact m_iret C dX12_head_71 rfl (Nat.le_of_ble_eq_true rfl) (Nat.le_of_ble_eq_true rfl) ⟨f12, rfl, fq24, bn12, ⟨(by show (vh12 3) = 0; omega), HDS.nw (fun q => absurd ((tl3.cg (fpb2.1 4 rfl) (fpb2.2 5 rfl) (fpb2.2 6 rfl) (fpb2.2 8 rfl) (fpb2.2 9 rfl)).mpr q) (by omega)) (by omega)⟩⟩
            · refine m_aload_n (j := 3) C dX12_head_51 rfl ?_
              refine m_bipush (z := 6) C dX12_head_52 (by decide) ?_
              refine m_call (mc2 := 0) (ms2 := 0) (As := [.int (iI 6)]) (rest := []) C (B_bad (x := 6) bxb2 (by show -2147483648 ≤ (6 : Int) ∧ (6 : Int) ≤ 2147483647; omega)) dX12_head_54 kV_X12_154 rfl ck_13 rfl (Nat.le_of_ble_eq_true rfl) ⟨Nat.le_of_ble_eq_true rfl, Nat.le_of_ble_eq_true rfl⟩ ⟨Nat.le_of_ble_eq_true rfl, Nat.le_of_ble_eq_true rfl⟩ (fun rh13 vh13 ah13 h13 => ?_)
              obtain ⟨f13, rfl, fn13, bn13, ex13⟩ := h13
              have fq25 := fpb2.call fn13 rfl rfl
              have gf13 : f13 = -1 := ex13
              refine m_st (st2 := [.int (iI f13)]) rfl ?_
              have rv36 : 0 ≤ vh13 3 ∧ vh13 3 ≤ 3000 := bn13.1 3
              have ve18 : vh13 3 = vb2 3 := fn13.1 3 rfl
              exact m_iret C dX12_head_57 rfl (Nat.le_of_ble_eq_true rfl) (Nat.le_of_ble_eq_true rfl) ⟨f13, rfl, fq25, bn13, ⟨(by show (vh13 3) = 0; omega), HDS.bad (by have q := hL.no (by omega) (by omega); rw [show f1 = v 3 by omega] at q; exact q) (by omega)⟩⟩
          · refine m_aload_n (j := 3) C dX12_head_30 rfl ?_
            refine m_geta (k := 2) C dX12_head_31 w6_61 (by decide) rfl ?_
            refine m_iload (j := 0) C dX12_head_34 rfl ?_
            refine m_ald (k := 2) C dX12_head_36 rfl rfl (by decide) (by omega) (by show _ < ((_ : Nat) : Int); simp only [mlen]; omega) (by decide) ?_
            have ra5 : (-2147483648) ≤ ab2 2 k.toNat ∧ ab2 2 k.toNat ≤ 2147483647 := bxb2.2 2 (k.toNat)
            have ae3 : ab2 2 (k.toNat) = a 2 (k.toNat) := congrFun (fpb2.2 2 rfl) (k.toNat)
            refine m_st (st2 := [.int (iI (a 2 k.toNat))]) (congrArg (fun z => Value.int (iI z) :: []) (congrFun (fpb2.2 2 rfl) (k.toNat))) ?_
            refine m_callS (As := [.int (iI (a 2 k.toNat))]) (rest := []) C (fun L E => s_isLetter (iI (a 2 k.toNat))) dX12_head_37 kS_X12_199 rfl rfl (Nat.le_of_ble_eq_true rfl) ⟨Nat.le_of_ble_eq_true rfl, Nat.le_of_ble_eq_true rfl⟩ ⟨Nat.le_of_ble_eq_true rfl, Nat.le_of_ble_eq_true rfl⟩ ?_
            rcases inn_c (x := a 2 k.toNat) (lo := 33) (hi := 125) ⟨by omega, by omega⟩ ⟨by decide, by decide⟩ ⟨by decide, by decide⟩ with ⟨h14a, h14b, h14e⟩ | ⟨h14a, h14e⟩
            · refine m_st (st2 := [.int (iI 1)]) (by rw [show inn (iI (a 2 k.toNat)) 33 125 = iI 1 from h14e]) ?_
              refine m_istore_n (lv2 := [(3, .int (iI 1)), (4, .int (iI k)), (2, .int (iI f1)), (0, .ref h0), (1, .int (iI t))]) C dX12_head_40 (by decide) rfl ?_
              refine m_iinc (z := k) (j := 1) (lv2 := [(4, .int (iI (k + 1))), (3, .int (iI 1)), (2, .int (iI f1)), (0, .ref h0), (1, .int (iI t))]) C dX12_head_41 rfl (by decide) rfl ?_
              refine m_goto (tgt := 20) C dX12_head_44 (by decide) ?_
              have rv37 : 0 ≤ vb2 3 ∧ vb2 3 ≤ 3000 := bxb2.1 3
              refine m_lv (lv2 := [(4, .int (iI (k + 1))), (3, .int (iI 1)), (2, .int (iI f1)), (0, .ref h0), (1, .int (iI t))]) [0, 1, 2, 3, 4] rfl ?_
              exact ih1  1 (k + 1) _ _ (by omega) bxb2 fpb2 (by omega) (by omega) (by show (vb2 3) = 0; omega) (hL.step1 (by omega) (by omega))
            · refine m_st (st2 := [.int (iI 0)]) (by rw [show inn (iI (a 2 k.toNat)) 33 125 = iI 0 from h14e]) ?_
              refine m_istore_n (lv2 := [(3, .int (iI 0)), (4, .int (iI k)), (2, .int (iI f1)), (0, .ref h0), (1, .int (iI t))]) C dX12_head_40 (by decide) rfl ?_
              refine m_iinc (z := k) (j := 1) (lv2 := [(4, .int (iI (k + 1))), (3, .int (iI 0)), (2, .int (iI f1)), (0, .ref h0), (1, .int (iI t))]) C dX12_head_41 rfl (by decide) rfl ?_
              refine m_goto (tgt := 20) C dX12_head_44 (by decide) ?_
              have rv38 : 0 ≤ vb2 3 ∧ vb2 3 ≤ 3000 := bxb2.1 3
              refine m_lv (lv2 := [(4, .int (iI (k + 1))), (3, .int (iI 0)), (2, .int (iI f1)), (0, .ref h0), (1, .int (iI t))]) [0, 1, 2, 3, 4] rfl ?_
              exact ih1  0 (k + 1) _ _ (by omega) bxb2 fpb2 (by omega) (by omega) (by show (vb2 3) = 0; omega) (TLG.step0 (by omega) (by omega))
    have rv39 : 0 ≤ vb1 3 ∧ vb1 3 ≤ 3000 := bxb1.1 3
    refine m_lv (lv2 := [(4, .int (iI 0)), (3, .int (iI g)), (2, .int (iI f1)), (0, .ref h0), (1, .int (iI t))]) [0, 1, 2, 3, 4] rfl ?_
    exact Lp1 3002 g 0 _ _ (by omega) bxb1 fpb1 (by omega) (by omega) (by show (vb1 3) = 0; omega) (TLG.init (by omega))
  refine m_icmp_gt (tgt := 15) C ⟨by omega, by omega⟩ ⟨by decide, by decide⟩ dX12_head_8 (by decide) (fun c15 => ?_) (fun c15 => ?_)
  · refine m_iconst C dX12_head_15 ?_
    refine m_lv (lv2 := [(2, .int (iI f1)), (0, .ref h0), (1, .int (iI t))]) [0, 1, 2] rfl ?_
    exact J1  0 _ _  bn1 fq1 (by omega) (by show (vh1 3) = 0; omega) (by omega)
  · refine m_iconst C dX12_head_11 ?_
    refine m_goto (tgt := 16) C dX12_head_12 (by decide) ?_
    refine m_lv (lv2 := [(2, .int (iI f1)), (0, .ref h0), (1, .int (iI t))]) [0, 1, 2] rfl ?_
    exact J1  1 _ _  bn1 fq1 (by omega) (by show (vh1 3) = 0; omega) (by omega)
