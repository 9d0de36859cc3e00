def AGW (W W2 : Nat → Int) (q u : Int) : Prop := ∀ j : Int, q ≤ j → j < u → W j.toNat = W2 j.toNat
def TLT (T : Nat → Int) (n : Int) : Prop := ∀ j : Int, 0 ≤ j → j < n → 33 ≤ T j.toNat ∧ T j.toNat ≤ 125
def HDS (v : Nat → Int) (a : Nat → Nat → Int) (t f : Int) : Prop := (¬ (v 3 ≤ 40 ∧ TLT (a 2) (v 3) ∧ WHL v a t ∧ ∃ cs, SWC a (a 2) (v 3) t cs) ∧ f = -1) ∨ ((v 3 ≤ 40 ∧ TLT (a 2) (v 3) ∧ WHL v a t) ∧ ∃ cs, SWC a (a 2) (v 3) t cs ∧ ((((cs.length : Nat) : Int) ≤ v 31 ∧ f = ((cs.length : Nat) : Int)) ∨ (v 31 < ((cs.length : Nat) : Int) ∧ f = v 31)))
section HEAD
variable {v v1 v2 v3 : Nat → Int} {a a1 a2 a3 : Nat → Nat → Int} {W W2 : Nat → Int} {q u x y z t r s k f f1 f2 I c g g2 x2 n l m : Int} {cs ds l0 : List Int} {ps qs : List (Int × List Int)} {js : List (Int × List (Int × List Int))}
theorem AGW.symm (h : AGW W W2 q u) : AGW W2 W q u := fun j h1 h2 => (h j h1 h2).symm
theorem AGW.up (h : AGW W W2 q u) (hx : q ≤ x) (h0 : 0 ≤ q) : AGW (va_up W x.toNat z) (va_up W2 x.toNat z) q u := fun j h1 h2 => by
  unfold va_up
  split
  · rfl
  · exact h j h1 h2
theorem AGW.sub (h : AGW W W2 q u) (h1 : q ≤ x) (h2 : y ≤ u) : AGW W W2 x y := fun j h3 h4 => h j (by omega) (by omega)
theorem FIT_w (h : AGW W W2 q u) (hx : q ≤ x) (h12 : 0 ≤ a 12 r.toNat) (hf : FIT a W q u x r) : FIT a W2 q u x r := by
  obtain ⟨⟨h1, h2⟩, h3⟩ := hf
  refine ⟨⟨h1, fun j j0 j1 => by rw [h2 j j0 j1]; exact h (x + j) (by omega) (by omega)⟩, ?_⟩
  unfold CND at h3 ⊢
  by_cases e : x + a 12 r.toNat = u
  · rcases h3 with h3 | h3 | h3 | h3 | h3 | h3
    · exact Or.inl h3
    · exact Or.inr (Or.inl h3)
    · exact Or.inr (Or.inr (Or.inl h3))
    · exact Or.inr (Or.inr (Or.inr (Or.inl h3)))
    · exact Or.inr (Or.inr (Or.inr (Or.inr (Or.inl h3))))
    · exact absurd e h3.2.1
  · rw [← h (x + a 12 r.toNat) (by omega) (by omega)]; exact h3
theorem OWR_w (h : AGW W W2 q u) (hx : q ≤ x) (h12 : ∀ i, 0 ≤ a 12 i) (ho : OWR a W q u x t r) : OWR a W2 q u x t r := by
  rcases ho with ⟨h1, h2⟩ | ⟨h1, h2, h3⟩
  · exact Or.inl ⟨h1, fun s s1 s2 w => h2 s s1 s2 (FIT_w h.symm hx (h12 _) w)⟩
  · exact Or.inr ⟨h1, FIT_w h hx (h12 _) h2, fun s s1 s2 w => h3 s s1 s2 (FIT_w h.symm hx (h12 _) w)⟩
theorem fnd_w (hx : 0 ≤ q ∧ q ≤ x ∧ x < u) (h12 : ∀ i, 0 ≤ a 12 i) : ∀ (n : Nat) (W W2 : Nat → Int) (t r : Int), AGW W W2 q u → fnd a q u x n W t r → fnd a q u x n W2 t r := by
  intro n
  induction n with
  | zero => intro W W2 t r _ h; exact h
  | succ n ih =>
    intro W W2 t r hw h
    have e := hw x hx.2.1 hx.2.2
    rw [fnd_s] at h
    rw [fnd_s, ← e]
    obtain ⟨p1, p2, p3, p4⟩ := h
    have hu := AGW.up (z := sml (W x.toNat)) hw hx.2.1 hx.1
    refine ⟨fun k => ?_, fun k => ⟨fun c => OWR_w hw hx.2.1 h12 ((p2 k).1 c), fun c => ih _ _ _ _ hw ((p2 k).2 c)⟩, fun k => ?_, fun k => OWR_w hw hx.2.1 h12 (p4 k)⟩
    · obtain ⟨y, z, e1, e2, e3⟩ := p1 k
      exact ⟨y, z, OWR_w hw hx.2.1 h12 e1, ih _ _ _ _ hw e2, e3⟩
    · obtain ⟨y, z, e1, e2, e3⟩ := p3 k
      exact ⟨y, z, OWR_w hu hx.2.1 h12 e1, ih _ _ _ _ hu e2, e3⟩
theorem nbl_w (hw : AGW W W2 q u) (hx : 0 ≤ q ∧ q ≤ x ∧ x < u) : nbl a W t q x = nbl a W2 t q x := by
  unfold nbl
  rw [hw x hx.2.1 hx.2.2]
  by_cases e : x = q
  · by_cases c : a 6 t.toNat = 2 ∧ isD (W2 x.toNat)
    · rw [if_pos ⟨c.1, c.2, Or.inl e⟩, if_pos ⟨c.1, c.2, Or.inl e⟩]
    · rw [if_neg (fun w => c ⟨w.1, w.2.1⟩), if_neg (fun w => c ⟨w.1, w.2.1⟩)]
  · rw [hw (x - 1) (by omega) (by omega)]
theorem PC1_w (hw : AGW W W2 q u) (hx : 0 ≤ q ∧ q ≤ x ∧ x < u) (h12 : ∀ i, 0 ≤ a 12 i) (hp : PC1 a W t q u x l cs) : PC1 a W2 t q u x l cs := by
  obtain ⟨r, p1, p3⟩ := hp
  refine ⟨r, p1, ?_⟩
  have e := hw x hx.2.1 hx.2.2
  rcases p3 with ⟨p4, p5⟩ | ⟨p4, p5, p6, p7⟩
  · rw [nbl_w hw hx] at p5
    exact Or.inl ⟨fnd_w hx h12 _ _ _ _ _ hw p4, p5⟩
  · rw [nbl_w hw hx] at p7
    rw [e] at p5
    have p8 := fnd_w hx h12 _ _ _ _ _ (AGW.up (z := W x.toNat + 32) hw hx.2.1 hx.1) p6
    rw [e] at p8
    exact Or.inr ⟨fnd_w hx h12 _ _ _ _ _ hw p4, p5, p8, p7⟩
theorem ptp_w (hw : AGW W W2 q u) (h0 : 0 ≤ q) (h12 : ∀ i, 0 ≤ a 12 i) : ∀ (ps : List (Int × List Int)) (x y : Int), q ≤ x → ptp a W t q u x ps y → ptp a W2 t q u x ps y := by
  intro ps
  induction ps with
  | nil => intro x y _ e; exact e
  | cons p ps ih =>
    intro x y hx e
    obtain ⟨h1, h2, l, h3, h4⟩ := e
    have h5 : 0 ≤ l := by
      obtain ⟨r, ⟨_, p2⟩, _⟩ := h3
      rw [p2]; exact h12 _
    exact ⟨h1, h2, l, PC1_w hw ⟨h0, hx, h1⟩ h12 h3, ih _ _ (by omega) h4⟩
theorem SEG_w (hw : AGW W W2 0 n) (h0 : 0 ≤ x) (h12 : ∀ i, 0 ≤ a 12 i) (h : SEG a W n t g x y ps) : SEG a W2 n t g x y ps := by
  obtain ⟨⟨p1, p2⟩, p3, p4, z, p5, p6⟩ := h
  refine ⟨⟨p1, p2⟩, fun j j1 j2 => ?_, ?_, z, ptp_w (hw.sub h0 p2) h0 h12 ps x z (Int.le_refl _) p5, p6⟩
  · rw [← hw j (by omega) (by omega)]; exact p3 j j1 j2
  · by_cases e : y = n
    · exact Or.inl e
    · rcases p4 with p4 | p4
      · exact Or.inl p4
      · exact Or.inr (by rw [← hw y (by omega) (by omega)]; exact p4)
theorem jtp_w (hw : AGW W W2 0 n) (h12 : ∀ i, 0 ≤ a 12 i) : ∀ (js : List (Int × List (Int × List Int))) (g x g2 x2 : Int), 0 ≤ x → jtp a W n t g x js g2 x2 → jtp a W2 n t g x js g2 x2 ∧ 0 ≤ x2 := by
  intro js
  induction js with
  | nil => intro g x g2 x2 h0 h; obtain ⟨rfl, rfl⟩ := h; exact ⟨⟨rfl, rfl⟩, h0⟩
  | cons p js ih =>
    intro g x g2 x2 h0 h
    obtain ⟨k1, k2, k3, k4⟩ := h
    have e := k1.1.1
    obtain ⟨m1, m2⟩ := ih _ _ _ _ (by omega) k4
    exact ⟨⟨SEG_w hw h0 h12 k1, k2, k3, m1⟩, m2⟩
theorem SWC_w (hw : AGW W W2 0 n) (h12 : ∀ i, 0 ≤ a 12 i) (h : SWC a W n t cs) : SWC a W2 n t cs := by
  rcases h with ⟨h1, ps, ⟨⟨y, h2, h3⟩, h4⟩, h5⟩ | ⟨h1, h2, js, ps, g, x, h3, h4, h5⟩
  · exact Or.inl ⟨h1, ps, ⟨⟨y, ptp_w hw (Int.le_refl _) h12 ps 0 y (Int.le_refl _) h2, h3⟩, h4⟩, h5⟩
  · obtain ⟨m1, m2⟩ := jtp_w hw h12 js 0 0 g x (Int.le_refl _) h3
    exact Or.inr ⟨h1, h2, js, ps, g, x, m1, SEG_w hw m2 h12 h4, h5⟩
theorem SWC.uni (hT : TBL v a) (ht : 0 ≤ t ∧ t < v 4) (h : SWC a W n t cs) (h2 : SWC a W n t ds) : cs = ds := by
  rcases h with ⟨p1, ps, ⟨⟨y, p2, p3⟩, p4⟩, p5⟩ | ⟨p1, p2, js, ps, g, x, p3, p4, p5⟩
  · rcases h2 with ⟨_, qs, ⟨⟨z, q2, q3⟩, q4⟩, q5⟩ | ⟨q1, _⟩
    · rw [p5, q5, ptp.uni hT ht.1 ht.2 p2 p3 q2 q3]
    · exact absurd q1 p1
  · rcases h2 with ⟨q1, _⟩ | ⟨_, q2, ks, qs, g2, x2, q3, q4, q5⟩
    · exact absurd p1 q1
    · obtain ⟨ls, k1, k2⟩ := jtp.ext hT ht p1 js ks 0 0 g2 x2 qs p3 q3 q4
      have pk := prt.ok (g := g) hT ht p1
      cases ls with
      | nil =>
        obtain ⟨rfl, rfl⟩ := k2
        have e := SEG.uni hT pk.1.1 pk.1.2 p4 q4
        rw [List.append_nil] at k1
        rw [p5, q5, k1, e.2]
      | cons p ls =>
        obtain ⟨m1, m2, _, _⟩ := k2
        have e := SEG.uni hT pk.1.1 pk.1.2 p4 m1
        omega
theorem SWC.nil (hT : TBL v a) (ht : 0 ≤ t ∧ t < v 4) : SWC a W 0 t [] := by
  by_cases h : a 6 t.toNat = 5
  · exact Or.inr ⟨h, by decide, [], [], 0, 0, ⟨rfl, rfl⟩, ⟨⟨Int.le_refl _, Int.le_refl _⟩, NSG.zero, Or.inl rfl, 0, rfl, Int.le_refl _⟩, rfl⟩
  · exact Or.inl ⟨h, [], ⟨⟨0, rfl, Int.le_refl _⟩, by decide⟩, rfl⟩
theorem HDS.uni (hT : TBL v a) (h : HDS v a t f1) (h2 : HDS v a t f2) : f1 = f2 := by
  rcases h with ⟨p1, p2⟩ | ⟨p1, cs, p2, p3⟩
  · rcases h2 with ⟨q1, q2⟩ | ⟨q1, ds, q2, _⟩
    · omega
    · exact absurd ⟨q1.1, q1.2.1, q1.2.2, ds, q2⟩ p1
  · rcases h2 with ⟨q1, q2⟩ | ⟨q1, ds, q2, q3⟩
    · exact absurd ⟨p1.1, p1.2.1, p1.2.2, cs, p2⟩ q1
    · have w := WHL.tr p1.2.2
      have e := SWC.uni hT ⟨w.1, w.2.1⟩ p2 q2
      subst e
      omega
end HEAD
section SWCG
variable {a a1 : Nat → Nat → Int} {W : Nat → Int} {n t g x y : Int} {cs : List Int} {ps : List (Int × List Int)}
theorem SEG_cg (h : TBE a1 a) (hs : SEG a1 W n t g x y ps) : SEG a W n t g x y ps := by
  obtain ⟨p1, p3, p4, z, p5, p6⟩ := hs
  have e : prt a1 t g = prt a t g := by unfold prt; rw [h 8 (by decide), h 9 (by decide)]
  rw [e] at p5
  exact ⟨p1, p3, p4, z, ptp_cg h _ _ _ p5, p6⟩
theorem jtp_cg (h : TBE a1 a) : ∀ (js : List (Int × List (Int × List Int))) (g x g2 x2 : Int), jtp a1 W n t g x js g2 x2 → jtp a W n t g x js g2 x2 := by
  intro js
  induction js with
  | nil => intro g x g2 x2 e; exact e
  | cons p js ih =>
    intro g x g2 x2 e
    obtain ⟨k1, k2, k3, k4⟩ := e
    rw [h 16 (by decide)] at k3
    exact ⟨SEG_cg h k1, k2, k3, ih _ _ _ _ k4⟩
theorem jcl_cg (h : TBE a1 a) : ∀ (js : List (Int × List (Int × List Int))) (g : Int), jcl a1 t g js = jcl a t g js := by
  intro js
  induction js with
  | nil => intro g; rfl
  | cons p js ih =>
    intro g
    show (cls p.2 ++ ICL a1 (ind4 t g)) ++ jcl a1 t (1 - g) js = (cls p.2 ++ ICL a (ind4 t g)) ++ jcl a t (1 - g) js
    rw [ih, ICL_cg (h 16 (by decide)) (h 17 (by decide))]
theorem SWC_cg (h : TBE a1 a) (hs : SWC a1 W n t cs) : SWC a W n t cs := by
  have h6 := h 6 (by decide)
  rcases hs with ⟨h1, ps, h2, h5⟩ | ⟨h1, h2, js, ps, g, x, h3, h4, h5⟩
  · rw [h6] at h1
    exact Or.inl ⟨h1, ps, SPS_cg h h2, h5⟩
  · rw [h6] at h1
    rw [jcl_cg h] at h5
    exact Or.inr ⟨h1, h2, js, ps, g, x, jtp_cg h _ _ _ _ _ h3, SEG_cg h h4, h5⟩
end SWCG
def TLG (T : Nat → Int) (n k g : Int) : Prop := g = 1 ↔ (n ≤ 40 ∧ TLT T k)
def WDK (W T : Nat → Int) (k : Int) : Prop := ∀ j : Int, 0 ≤ j → j < k → W j.toNat = T j.toNat
def HDR (v : Nat → Int) (a : Nat → Nat → Int) (t z : Int) : Prop := ∃ cs, SWC a (a 2) (v 3) t cs ∧ ((((cs.length : Nat) : Int) ≤ v 31 ∧ z = ((cs.length : Nat) : Int)) ∨ (v 31 < ((cs.length : Nat) : Int) ∧ z = v 31))
def HDC (v : Nat → Int) (a : Nat → Nat → Int) (t m : Int) : Prop := ∃ cs, SWC a (a 2) (v 3) t cs ∧ m = ((cs.length : Nat) : Int)
section HED2
variable {v v1 v2 v3 : Nat → Int} {a a1 a2 a3 : Nat → Nat → Int} {W W2 T : Nat → Int} {t k f f1 g n m z : Int} {i : Nat}
theorem TLG.init (h : g = 1 ↔ n ≤ 40) : TLG T n 0 g := ⟨fun e => ⟨h.mp e, fun j h1 h2 => absurd h1 (by omega)⟩, fun e => h.mpr e.1⟩
theorem TLG.step1 (h : TLG T n k g) (hg : g = 1) (e : 33 ≤ T k.toNat ∧ T k.toNat ≤ 125) : TLG T n (k + 1) 1 := ⟨fun _ => ⟨(h.mp hg).1, fun j h1 h2 => by
  by_cases w : j < k
  · exact (h.mp hg).2 j h1 w
  · rw [show j = k by omega]; exact e⟩, fun _ => rfl⟩
theorem TLG.step0 (h0 : 0 ≤ k) (e : ¬ (33 ≤ T k.toNat ∧ T k.toNat ≤ 125)) : TLG T n (k + 1) 0 := ⟨fun w => absurd w (by decide), fun w => absurd (w.2 k h0 (by omega)) e⟩
theorem TLG.no (h : TLG T n k g) (hg : g ≠ 1) (hk : k ≤ n) : ¬ (n ≤ 40 ∧ TLT T n) := fun w => hg (h.mpr ⟨w.1, fun j h1 h2 => w.2 j h1 (by omega)⟩)
theorem TLG.yes (h : TLG T n k g) (hg : g = 1) (hk : n ≤ k) : n ≤ 40 ∧ TLT T n := ⟨(h.mp hg).1, fun j h1 h2 => (h.mp hg).2 j h1 (by omega)⟩
theorem whl_cg (h4 : v1 4 = v 4) (h5 : a1 5 = a 5) (h6 : a1 6 = a 6) (h8 : a1 8 = a 8) (h9 : a1 9 = a 9) : ∀ (n : Nat) (t : Int), whl v1 a1 n t ↔ whl v a n t := by
  intro n
  induction n with
  | zero => intro t; exact Iff.rfl
  | succ n ih =>
    intro t
    show ((0 ≤ t ∧ t < v1 4 ∧ a1 5 t.toNat = 1) ∧ (a1 6 t.toNat = 5 → whl v1 a1 n (a1 8 t.toNat) ∧ whl v1 a1 n (a1 9 t.toNat)) ∧ (1 ≤ a1 6 t.toNat → a1 6 t.toNat ≤ 3 → whl v1 a1 n (a1 8 t.toNat))) ↔ ((0 ≤ t ∧ t < v 4 ∧ a 5 t.toNat = 1) ∧ (a 6 t.toNat = 5 → whl v a n (a 8 t.toNat) ∧ whl v a n (a 9 t.toNat)) ∧ (1 ≤ a 6 t.toNat → a 6 t.toNat ≤ 3 → whl v a n (a 8 t.toNat)))
    rw [h4, h5, h6, h8, h9, ih, ih]
theorem WHE.cg (h : WHE f v1 a1 31 t) (h4 : v1 4 = v 4) (h5 : a1 5 = a 5) (h6 : a1 6 = a 6) (h8 : a1 8 = a 8) (h9 : a1 9 = a 9) : f = 1 ↔ WHL v a t := h.trans (whl_cg h4 h5 h6 h8 h9 31 t)
theorem WDK.zero : WDK W T 0 := fun j h1 h2 => absurd h1 (by omega)
theorem WDK.step (h : WDK (a1 20) T k) (h0 : 0 ≤ k) (hz : z = T k.toNat) (h2 : a2 20 = up2 a1 20 k.toNat z 20) : WDK (a2 20) T (k + 1) := fun j h1 h3 => by
  rw [h2]
  by_cases w : j < k
  · rw [up2_j (by omega)]; exact h j h1 w
  · rw [show j = k by omega, up2_s]; exact hz
theorem HDC.set (hs : SWT v1 a1 v2 a2 t f) (e : f = 1) (hE : TBE a1 a) (hw : WDK (a1 20) (a 2) n) (hn : n = v 3) (h23 : v1 23 = v 3) (h12 : ∀ i, 0 ≤ a 12 i) (hm : m = v2 25) : HDC v a t m := by
  subst hn
  obtain ⟨cs, g1, g2⟩ := hs.2.1 e
  rw [h23] at g1
  exact ⟨cs, SWC_w hw h12 (SWC_cg hE g1), hm.trans g2.1⟩
theorem HDC.no (hs : SWT v1 a1 v2 a2 t f) (e : f ≠ 1) (hE : TBE a1 a) (hw : WDK (a1 20) (a 2) n) (hn : n = v 3) (h23 : v1 23 = v 3) (h12 : ∀ i, 0 ≤ a1 12 i) : ¬ ∃ cs, SWC a (a 2) (v 3) t cs := fun w => by
  subst hn
  obtain ⟨cs, g⟩ := w
  refine hs.2.2 e ⟨cs, ?_⟩
  rw [h23]
  exact SWC_w (W := a 2) (fun j h1 h2 => (hw j h1 h2).symm) h12 (SWC_cg hE.symm g)
theorem HDC.nil (hT : TBL v a) (ht : 0 ≤ t ∧ t < v 4) (hn : v 3 = 0) (hm : m = 0) : HDC v a t m := ⟨[], by rw [hn]; exact SWC.nil hT ht, hm⟩
theorem HDC.min (h : HDC v a t m) (hz : (z = m ∧ m ≤ v 31) ∨ (z = v 31 ∧ v 31 < m)) : HDR v a t z := by
  obtain ⟨cs, h1, h2⟩ := h
  exact ⟨cs, h1, by omega⟩
theorem HDS.bad (h : ¬ (v 3 ≤ 40 ∧ TLT (a 2) (v 3))) (hf : f = -1) : HDS v a t f := Or.inl ⟨fun w => h ⟨w.1, w.2.1⟩, hf⟩
theorem HDS.nw (h : ¬ WHL v a t) (hf : f = -1) : HDS v a t f := Or.inl ⟨fun w => h w.2.2.1, hf⟩
theorem HDS.ns (h : ¬ ∃ cs, SWC a (a 2) (v 3) t cs) (hf : f = -1) : HDS v a t f := Or.inl ⟨fun w => h w.2.2.2, hf⟩
theorem HDS.ok (h : v 3 ≤ 40 ∧ TLT (a 2) (v 3)) (hw : WHL v a t) (hr : HDR v a t z) (hf : f = z) : HDS v a t f := by
  subst hf
  exact Or.inr ⟨⟨h.1, h.2, hw⟩, hr⟩
end HED2
