section
def AGW (W W2 : Nat → Int) (q u : Int) : Prop := ∀ j : Int, q ≤ j → j < u → W j.toNat = W2 j.toNat
section HEAD
variable {v v1 v2 v3 : Nat → Int} {a a1 a2 a3 : Nat → Nat → Int} {W W2 : Nat → Int} {q u x y z t r s k f f1 f2 I c g g2 x2 n l m : Int} {cs ds l0 : List Int} {ps qs : List (Int × List Int)} {js : List (Int × List (Int × List Int))}
theorem AGW.symm (h : AGW W W2 q u) : AGW W2 W q u := fun j h1 h2 => (h j h1 h2).symm
theorem AGW.up (h : AGW W W2 q u) (hx : q ≤ x) (h0 : 0 ≤ q) : AGW (va_up W x.toNat z) (va_up W2 x.toNat z) q u := fun j h1 h2 => by
  unfold va_up
  split
  · rfl
  · exact h j h1 h2
theorem AGW.sub (h : AGW W W2 q u) (h1 : q ≤ x) (h2 : y ≤ u) : AGW W W2 x y := fun j h3 h4 => h j (by omega) (by omega)
theorem FIT_w (h : AGW W W2 q u) (hx : q ≤ x) (h12 : 0 ≤ a 12 r.toNat) (hf : FIT a W q u x r) : FIT a W2 q u x r := by
  obtain ⟨⟨h1, h2⟩, h3⟩ := hf
  refine ⟨⟨h1, fun j j0 j1 => by rw [h2 j j0 j1]; exact h (x + j) (by omega) (by omega)⟩, ?_⟩
  unfold CND at h3 ⊢
  by_cases e : x + a 12 r.toNat = u
  · rcases h3 with h3 | h3 | h3 | h3 | h3 | h3
    · exact Or.inl h3
    · exact Or.inr (Or.inl h3)
    · exact Or.inr (Or.inr (Or.inl h3))
    · exact Or.inr (Or.inr (Or.inr (Or.inl h3)))
    · exact Or.inr (Or.inr (Or.inr (Or.inr (Or.inl h3))))
    · exact absurd e h3.2.1
  · rw [← h (x + a 12 r.toNat) (by omega) (by omega)]; exact h3
theorem OWR_w (h : AGW W W2 q u) (hx : q ≤ x) (h12 : ∀ i, 0 ≤ a 12 i) (ho : OWR a W q u x t r) : OWR a W2 q u x t r := by
  rcases ho with ⟨h1, h2⟩ | ⟨h1, h2, h3⟩
  · exact Or.inl ⟨h1, fun s s1 s2 w => h2 s s1 s2 (FIT_w h.symm hx (h12 _) w)⟩
  · exact Or.inr ⟨h1, FIT_w h hx (h12 _) h2, fun s s1 s2 w => h3 s s1 s2 (FIT_w h.symm hx (h12 _) w)⟩
theorem fnd_w (hx : 0 ≤ q ∧ q ≤ x ∧ x < u) (h12 : ∀ i, 0 ≤ a 12 i) : ∀ (n : Nat) (W W2 : Nat → Int) (t r : Int), AGW W W2 q u → fnd a q u x n W t r → fnd a q u x n W2 t r := by
  intro n
  induction n with
  | zero => intro W W2 t r _ h; exact h
  | succ n ih =>
    intro W W2 t r hw h
    have e := hw x hx.2.1 hx.2.2
    rw [fnd_s] at h
    rw [fnd_s, ← e]
    obtain ⟨p1, p2, p3, p4⟩ := h
    have hu := AGW.up (z := sml (W x.toNat)) hw hx.2.1 hx.1
    refine ⟨fun k => ?_, fun k => ⟨fun c => OWR_w hw hx.2.1 h12 ((p2 k).1 c), fun c => ih _ _ _ _ hw ((p2 k).2 c)⟩, fun k => ?_, fun k => OWR_w hw hx.2.1 h12 (p4 k)⟩
    · obtain ⟨y, z, e1, e2, e3⟩ := p1 k
      exact ⟨y, z, OWR_w hw hx.2.1 h12 e1, ih _ _ _ _ hw e2, e3⟩
    · obtain ⟨y, z, e1, e2, e3⟩ := p3 k
      exact ⟨y, z, OWR_w hu hx.2.1 h12 e1, ih _ _ _ _ hu e2, e3⟩
theorem nbl_w (hw : AGW W W2 q u) (hx : 0 ≤ q ∧ q ≤ x ∧ x < u) : nbl a W t q x = nbl a W2 t q x := by
  unfold nbl
  rw [hw x hx.2.1 hx.2.2]
  by_cases e : x = q
  · by_cases c : a 6 t.toNat = 2 ∧ isD (W2 x.toNat)
    · rw [if_pos ⟨c.1, c.2, Or.inl e⟩, if_pos ⟨c.1, c.2, Or.inl e⟩]
    · rw [if_neg (fun w => c ⟨w.1, w.2.1⟩), if_neg (fun w => c ⟨w.1, w.2.1⟩)]
  · rw [hw (x - 1) (by omega) (by omega)]
theorem PC1_w (hw : AGW W W2 q u) (hx : 0 ≤ q ∧ q ≤ x ∧ x < u) (h12 : ∀ i, 0 ≤ a 12 i) (hp : PC1 a W t q u x l cs) : PC1 a W2 t q u x l cs := by
  obtain ⟨r, p1, p3⟩ := hp
  refine ⟨r, p1, ?_⟩
  have e := hw x hx.2.1 hx.2.2
  rcases p3 with ⟨p4, p5⟩ | ⟨p4, p5, p6, p7⟩
  · rw [nbl_w hw hx] at p5
    exact Or.inl ⟨fnd_w hx h12 _ _ _ _ _ hw p4, p5⟩
  · rw [nbl_w hw hx] at p7
    rw [e] at p5
    have p8 := fnd_w hx h12 _ _ _ _ _ (AGW.up (z := W x.toNat + 32) hw hx.2.1 hx.1) p6
    rw [e] at p8
    exact Or.inr ⟨fnd_w hx h12 _ _ _ _ _ hw p4, p5, p8, p7⟩
theorem ptp_w (hw : AGW W W2 q u) (h0 : 0 ≤ q) (h12 : ∀ i, 0 ≤ a 12 i) : ∀ (ps : List (Int × List Int)) (x y : Int), q ≤ x → ptp a W t q u x ps y → ptp a W2 t q u x ps y := by
  intro ps
  induction ps with
  | nil => intro x y _ e; exact e
  | cons p ps ih =>
    intro x y hx e
    obtain ⟨h1, h2, l, h3, h4⟩ := e
    have h5 : 0 ≤ l := by
      obtain ⟨r, ⟨_, p2⟩, _⟩ := h3
      rw [p2]; exact h12 _
    exact ⟨h1, h2, l, PC1_w hw ⟨h0, hx, h1⟩ h12 h3, ih _ _ (by omega) h4⟩
theorem SEG_w (hw : AGW W W2 0 n) (h0 : 0 ≤ x) (h12 : ∀ i, 0 ≤ a 12 i) (h : SEG a W n t g x y ps) : SEG a W2 n t g x y ps := by
  obtain ⟨⟨p1, p2⟩, p3, p4, z, p5, p6⟩ := h
  refine ⟨⟨p1, p2⟩, fun j j1 j2 => ?_, ?_, z, ptp_w (hw.sub h0 p2) h0 h12 ps x z (Int.le_refl _) p5, p6⟩
  · rw [← hw j (by omega) (by omega)]; exact p3 j j1 j2
  · by_cases e : y = n
    · exact Or.inl e
    · rcases p4 with p4 | p4
      · exact Or.inl p4
      · exact Or.inr (by rw [← hw y (by omega) (by omega)]; exact p4)
theorem jtp_w (hw : AGW W W2 0 n) (h12 : ∀ i, 0 ≤ a 12 i) : ∀ (js : List (Int × List (Int × List Int))) (g x g2 x2 : Int), 0 ≤ x → jtp a W n t g x js g2 x2 → jtp a W2 n t g x js g2 x2 ∧ 0 ≤ x2 := by
  intro js
  induction js with
  | nil => intro g x g2 x2 h0 h; obtain ⟨rfl, rfl⟩ := h; exact ⟨⟨rfl, rfl⟩, h0⟩
  | cons p js ih =>
    intro g x g2 x2 h0 h
    obtain ⟨k1, k2, k3, k4⟩ := h
    have e := k1.1.1
    obtain ⟨m1, m2⟩ := ih _ _ _ _ (by omega) k4
    exact ⟨⟨SEG_w hw h0 h12 k1, k2, k3, m1⟩, m2⟩
theorem SWC_w (hw : AGW W W2 0 n) (h12 : ∀ i, 0 ≤ a 12 i) (h : SWC a W n t cs) : SWC a W2 n t cs := by
  rcases h with ⟨h1, ps, ⟨⟨y, h2, h3⟩, h4⟩, h5⟩ | ⟨h1, h2, js, ps, g, x, h3, h4, h5⟩
  · exact Or.inl ⟨h1, ps, ⟨⟨y, ptp_w hw (Int.le_refl _) h12 ps 0 y (Int.le_refl _) h2, h3⟩, h4⟩, h5⟩
  · obtain ⟨m1, m2⟩ := jtp_w hw h12 js 0 0 g x (Int.le_refl _) h3
    exact Or.inr ⟨h1, h2, js, ps, g, x, m1, SEG_w hw m2 h12 h4, h5⟩
theorem SWC.uni (hT : TBL v a) (ht : 0 ≤ t ∧ t < v 4) (h : SWC a W n t cs) (h2 : SWC a W n t ds) : cs = ds := by
  rcases h with ⟨p1, ps, ⟨⟨y, p2, p3⟩, p4⟩, p5⟩ | ⟨p1, p2, js, ps, g, x, p3, p4, p5⟩
  · rcases h2 with ⟨_, qs, ⟨⟨z, q2, q3⟩, q4⟩, q5⟩ | ⟨q1, _⟩
    · rw [p5, q5, ptp.uni hT ht.1 ht.2 p2 p3 q2 q3]
    · exact absurd q1 p1
  · rcases h2 with ⟨q1, _⟩ | ⟨_, q2, ks, qs, g2, x2, q3, q4, q5⟩
    · exact absurd p1 q1
    · obtain ⟨ls, k1, k2⟩ := jtp.ext hT ht p1 js ks 0 0 g2 x2 qs p3 q3 q4
      have pk := prt.ok (g := g) hT ht p1
      cases ls with
      | nil =>
        obtain ⟨rfl, rfl⟩ := k2
        have e := SEG.uni hT pk.1.1 pk.1.2 p4 q4
        rw [List.append_nil] at k1
        rw [p5, q5, k1, e.2]
      | cons p ls =>
        obtain ⟨m1, m2, _, _⟩ := k2
        have e := SEG.uni hT pk.1.1 pk.1.2 p4 m1
        omega
theorem SWC.nil (hT : TBL v a) (ht : 0 ≤ t ∧ t < v 4) : SWC a W 0 t [] := by
  by_cases h : a 6 t.toNat = 5
  · exact Or.inr ⟨h, by decide, [], [], 0, 0, ⟨rfl, rfl⟩, ⟨⟨Int.le_refl _, Int.le_refl _⟩, NSG.zero, Or.inl rfl, 0, rfl, Int.le_refl _⟩, rfl⟩
  · exact Or.inl ⟨h, [], ⟨⟨0, rfl, Int.le_refl _⟩, by decide⟩, rfl⟩
end HEAD
section SWCG
variable {a a1 : Nat → Nat → Int} {W : Nat → Int} {n t g x y : Int} {cs : List Int} {ps : List (Int × List Int)}
theorem SEG_cg (h : TBE a1 a) (hs : SEG a1 W n t g x y ps) : SEG a W n t g x y ps := by
  obtain ⟨p1, p3, p4, z, p5, p6⟩ := hs
  have e : prt a1 t g = prt a t g := by unfold prt; rw [h 8 (by decide), h 9 (by decide)]
  rw [e] at p5
  exact ⟨p1, p3, p4, z, ptp_cg h _ _ _ p5, p6⟩
theorem jtp_cg (h : TBE a1 a) : ∀ (js : List (Int × List (Int × List Int))) (g x g2 x2 : Int), jtp a1 W n t g x js g2 x2 → jtp a W n t g x js g2 x2 := by
  intro js
  induction js with
  | nil => intro g x g2 x2 e; exact e
  | cons p js ih =>
    intro g x g2 x2 e
    obtain ⟨k1, k2, k3, k4⟩ := e
    rw [h 16 (by decide)] at k3
    exact ⟨SEG_cg h k1, k2, k3, ih _ _ _ _ k4⟩
theorem jcl_cg (h : TBE a1 a) : ∀ (js : List (Int × List (Int × List Int))) (g : Int), jcl a1 t g js = jcl a t g js := by
  intro js
  induction js with
  | nil => intro g; rfl
  | cons p js ih =>
    intro g
    show (cls p.2 ++ ICL a1 (ind4 t g)) ++ jcl a1 t (1 - g) js = (cls p.2 ++ ICL a (ind4 t g)) ++ jcl a t (1 - g) js
    rw [ih, ICL_cg (h 16 (by decide)) (h 17 (by decide))]
theorem SWC_cg (h : TBE a1 a) (hs : SWC a1 W n t cs) : SWC a W n t cs := by
  have h6 := h 6 (by decide)
  rcases hs with ⟨h1, ps, h2, h5⟩ | ⟨h1, h2, js, ps, g, x, h3, h4, h5⟩
  · rw [h6] at h1
    exact Or.inl ⟨h1, ps, SPS_cg h h2, h5⟩
  · rw [h6] at h1
    rw [jcl_cg h] at h5
    exact Or.inr ⟨h1, h2, js, ps, g, x, jtp_cg h _ _ _ _ _ h3, SEG_cg h h4, h5⟩
end SWCG
section HED2
variable {v v1 v2 v3 : Nat → Int} {a a1 a2 a3 : Nat → Nat → Int} {W W2 T : Nat → Int} {t k f f1 g n m z : Int} {i : Nat}
theorem whl_cg (h4 : v1 4 = v 4) (h5 : a1 5 = a 5) (h6 : a1 6 = a 6) (h8 : a1 8 = a 8) (h9 : a1 9 = a 9) : ∀ (n : Nat) (t : Int), whl v1 a1 n t ↔ whl v a n t := by
  intro n
  induction n with
  | zero => intro t; exact Iff.rfl
  | succ n ih =>
    intro t
    show ((0 ≤ t ∧ t < v1 4 ∧ a1 5 t.toNat = 1) ∧ (a1 6 t.toNat = 5 → whl v1 a1 n (a1 8 t.toNat) ∧ whl v1 a1 n (a1 9 t.toNat)) ∧ (1 ≤ a1 6 t.toNat → a1 6 t.toNat ≤ 3 → whl v1 a1 n (a1 8 t.toNat))) ↔ ((0 ≤ t ∧ t < v 4 ∧ a 5 t.toNat = 1) ∧ (a 6 t.toNat = 5 → whl v a n (a 8 t.toNat) ∧ whl v a n (a 9 t.toNat)) ∧ (1 ≤ a 6 t.toNat → a 6 t.toNat ≤ 3 → whl v a n (a 8 t.toNat)))
    rw [h4, h5, h6, h8, h9, ih, ih]
theorem WHE.cg (h : WHE f v1 a1 31 t) (h4 : v1 4 = v 4) (h5 : a1 5 = a 5) (h6 : a1 6 = a 6) (h8 : a1 8 = a 8) (h9 : a1 9 = a 9) : f = 1 ↔ WHL v a t := h.trans (whl_cg h4 h5 h6 h8 h9 31 t)
end HED2
end
section
def tw (T : Nat → Int) (N : Nat) : Nat → Nat → Int → List (Int × Nat × Int) → Nat × List (Int × Nat × Int)
  | 0, p, _, w => (p, w)
  | n + 1, p, b, w => if N ≤ p ∨ T p = 10 then (p, w) else if T p = 32 then (if w.length = 0 then tw T N n (p + 1) b w else (p, w)) else if T p = 126 then tw T N n (p + 1) 1 w else tw T N n (p + 1) 0 (w ++ [(T p, p, b)])
def NNL (T : Nat → Int) (q u : Int) : Prop := ∀ j : Int, q ≤ j → j < u → T j.toNat ≠ 10
def LEX (T : Nat → Int) (N q f : Int) : Prop := NNL T q f ∧ (N ≤ f ∨ T f.toNat = 10)
def TKP (T : Nat → Int) (N q u : Int) : Prop := (q ≤ u ∧ u ≤ N) ∧ NNL T q u ∧ (u = N ∨ T u.toNat = 10)
def TWF (T : Nat → Int) (N q : Int) : Nat × List (Int × Nat × Int) := tw T N.toNat (N.toNat + 1 - q.toNat) q.toNat 0 []
def TKI (T : Nat → Int) (N q p b : Int) (w : List (Int × Nat × Int)) : Prop := ∃ n, N.toNat + 1 ≤ n + p.toNat ∧ TWF T N q = tw T N.toNat n p.toNat b w
def WDH (v : Nat → Int) (a : Nat → Nat → Int) (w : List (Int × Nat × Int)) : Prop := v 23 = ((w.length : Nat) : Int) ∧ ∀ (j : Nat) (x : Int × Nat × Int), w[j]? = some x → a 20 j = x.1 ∧ a 21 j = ((x.2.1 : Nat) : Int) ∧ (1 ≤ j → a 22 j = x.2.2)
def TKW (v : Nat → Int) (a : Nat → Nat → Int) (T : Nat → Int) (N q x : Int) : Prop := ∃ w b, TKI T N q x b w ∧ WDH v a w ∧ (1 ≤ w.length → a 22 w.length = b)
def TKX (T : Nat → Int) (N : Int) (v : Nat → Int) (a : Nat → Nat → Int) (q f : Int) : Prop := ∃ w, TWF T N q = (f.toNat, w) ∧ WDH v a w
section WORDS
variable {v v2 : Nat → Int} {a a1 : Nat → Nat → Int} {T : Nat → Int} {N q u p b f z y x l : Int} {w : List (Int × Nat × Int)} {i i2 i3 pp n M P : Nat}
theorem tw_s : tw T M (n + 1) P b w = if M ≤ P ∨ T P = 10 then (P, w) else if T P = 32 then (if w.length = 0 then tw T M n (P + 1) b w else (P, w)) else if T P = 126 then tw T M n (P + 1) 1 w else tw T M n (P + 1) 0 (w ++ [(T P, P, b)]) := rfl
theorem TKI.init : TKI T N q q 0 [] := ⟨_, by omega, rfl⟩
theorem TKI.unf (h : TKI T N q p b w) (hp : 0 ≤ p ∧ p < N) (hn : T p.toNat ≠ 10) : ∃ n, N.toNat + 1 ≤ n + (p + 1).toNat ∧ TWF T N q = if T p.toNat = 32 then (if w.length = 0 then tw T N.toNat n (p + 1).toNat b w else (p.toNat, w)) else if T p.toNat = 126 then tw T N.toNat n (p + 1).toNat 1 w else tw T N.toNat n (p + 1).toNat 0 (w ++ [(T p.toNat, p.toNat, b)]) := by
  obtain ⟨n, h1, h2⟩ := h
  cases n with
  | zero => omega
  | succ n =>
    refine ⟨n, by omega, ?_⟩
    have no : ¬ (N.toNat ≤ p.toNat ∨ T p.toNat = 10) := fun e => by
      rcases e with e | e
      · omega
      · exact hn e
    rw [h2, tw_s, if_neg no, show (p + 1).toNat = p.toNat + 1 by omega]
theorem TKI.sp (h : TKI T N q p b w) (hp : 0 ≤ p ∧ p < N) (e : T p.toNat = 32) (hw : w.length = 0) : TKI T N q (p + 1) b w := by
  obtain ⟨n, h1, h2⟩ := h.unf hp (by omega)
  rw [if_pos e, if_pos hw] at h2
  exact ⟨n, h1, h2⟩
theorem TKI.til (h : TKI T N q p b w) (hp : 0 ≤ p ∧ p < N) (e : T p.toNat = 126) : TKI T N q (p + 1) 1 w := by
  obtain ⟨n, h1, h2⟩ := h.unf hp (by omega)
  rw [if_neg (by omega), if_pos e] at h2
  exact ⟨n, h1, h2⟩
theorem TKI.ltr (h : TKI T N q p b w) (hp : 0 ≤ p ∧ p < N) (h0 : T p.toNat ≠ 10) (e1 : T p.toNat ≠ 32) (e2 : T p.toNat ≠ 126) : TKI T N q (p + 1) 0 (w ++ [(T p.toNat, p.toNat, b)]) := by
  obtain ⟨n, h1, h2⟩ := h.unf hp h0
  rw [if_neg e1, if_neg e2] at h2
  exact ⟨n, h1, h2⟩
theorem TKI.end1 (h : TKI T N q p b w) (hp : 0 ≤ p) (he : N ≤ p ∨ T p.toNat = 10) : TWF T N q = (p.toNat, w) := by
  obtain ⟨n, h1, h2⟩ := h
  rw [h2]
  cases n with
  | zero => rfl
  | succ n =>
    rw [tw_s, if_pos]
    rcases he with e | e
    · exact Or.inl (by omega)
    · exact Or.inr e
theorem TKI.end2 (h : TKI T N q p b w) (hp : 0 ≤ p ∧ p < N) (e : T p.toNat = 32) (hw : w.length ≠ 0) : TWF T N q = (p.toNat, w) := by
  obtain ⟨n, h1, h2⟩ := h.unf hp (by omega)
  rw [if_pos e, if_neg hw] at h2
  exact h2
theorem WDH.nil (h : v 23 = 0) : WDH v a [] := ⟨h, fun j x e => by simp at e⟩
theorem wnil (h : w.length = 0) : w = [] := List.length_eq_zero_iff.mp h
theorem gl3 {α : Type} {ls : List α} {d : α} {r : Nat} (h : ls[r]? = some d) : r < ls.length := by
  by_cases e : r < ls.length
  · exact e
  · rw [List.getElem?_eq_none (by omega)] at h; cases h
theorem WDH.push (h : WDH v a w) (hb : 1 ≤ w.length → a 22 w.length = b) (hi : i = w.length) (hi2 : i2 = w.length) (hi3 : i3 = w.length + 1) (hv : v2 23 = v 23 + 1) (hz : z = l) (hy : y = ((pp : Nat) : Int)) : WDH v2 (up2 (up2 (up2 a 20 i z) 21 i2 y) 22 i3 0) (w ++ [(l, pp, b)]) ∧ (1 ≤ (w ++ [(l, pp, b)]).length → up2 (up2 (up2 a 20 i z) 21 i2 y) 22 i3 0 22 (w ++ [(l, pp, b)]).length = 0) := by
  have e0 : (w ++ [(l, pp, b)]).length = w.length + 1 := by rw [List.length_append]; rfl
  subst hi
  subst hi2
  subst hi3
  subst hz
  subst hy
  obtain ⟨h1, h2⟩ := h
  refine ⟨⟨by omega, fun j x e => ?_⟩, fun _ => by rw [e0, up2_s]⟩
  have v20 : up2 (up2 (up2 a 20 w.length z) 21 w.length ((pp : Nat) : Int)) 22 (w.length + 1) 0 20 j = if j = w.length then z else a 20 j := by
    rw [up2_k (by decide), up2_k (by decide)]
    by_cases c : j = w.length
    · rw [c, up2_s, if_pos rfl]
    · rw [up2_j c, if_neg c]
  have v21 : up2 (up2 (up2 a 20 w.length z) 21 w.length ((pp : Nat) : Int)) 22 (w.length + 1) 0 21 j = if j = w.length then ((pp : Nat) : Int) else a 21 j := by
    rw [up2_k (by decide)]
    by_cases c : j = w.length
    · rw [c, up2_s, if_pos rfl]
    · rw [up2_j c, up2_k (by decide), if_neg c]
  have v22 : up2 (up2 (up2 a 20 w.length z) 21 w.length ((pp : Nat) : Int)) 22 (w.length + 1) 0 22 j = if j = w.length + 1 then 0 else a 22 j := by
    by_cases c : j = w.length + 1
    · rw [c, up2_s, if_pos rfl]
    · rw [up2_j c, up2_k (by decide), up2_k (by decide), if_neg c]
  rw [v20, v21, v22]
  have lt := gl3 e
  by_cases c : j < w.length
  · rw [List.getElem?_append_left c] at e
    rw [if_neg (by omega), if_neg (by omega), if_neg (by omega)]
    exact h2 j x e
  · rw [List.getElem?_append_right (by omega), show j - w.length = 0 by omega] at e
    cases e
    rw [if_pos (by omega), if_pos (by omega), if_neg (by omega)]
    refine ⟨rfl, rfl, fun q => ?_⟩
    rw [show j = w.length by omega]
    exact hb (by omega)
theorem TKW.init (h : v 23 = 0) : TKW v a T N q q := ⟨[], 0, TKI.init, WDH.nil h, fun e => absurd e (by decide)⟩
theorem TKW.sp (h : TKW v a T N q x) (hp : 0 ≤ x ∧ x < N) (e : T x.toNat = 32) (h23 : v 23 = 0) : TKW v a T N q (x + 1) := by
  obtain ⟨w, b, h1, h2, h3⟩ := h
  have h4 := h2.1
  exact ⟨w, b, h1.sp hp e (by omega), h2, h3⟩
theorem TKW.m0 (h : TKW v a T N q x) (h23 : v 23 = 0) : TKW v (up2 a 22 i z) T N q x := by
  obtain ⟨w, b, h1, h2, h3⟩ := h
  have h4 := h2.1
  have e := wnil (w := w) (by omega)
  subst e
  exact ⟨[], b, h1, WDH.nil h23, fun e => absurd e (by decide)⟩
theorem TKW.til (h : TKW v a T N q x) (hp : 0 ≤ x ∧ x < N) (e : T x.toNat = 126) (hi : i = (v 23).toNat) (hz : (0 < v 23 ∧ z = 1) ∨ (v 23 ≤ 0 ∧ z = 0)) : TKW v (up2 a 22 i z) T N q (x + 1) := by
  obtain ⟨w, b, h1, h2, h3⟩ := h
  have h4 := h2.1
  have ei : i = w.length := by omega
  subst ei
  refine ⟨w, 1, h1.til hp e, ⟨h4, fun j y g => ?_⟩, fun g => ?_⟩
  · have lt := gl3 g
    obtain ⟨k1, k2, k3⟩ := h2.2 j y g
    rw [up2_k (by decide), up2_k (by decide), up2_j (by omega)]
    exact ⟨k1, k2, k3⟩
  · rw [up2_s]; omega
theorem TKW.ltr (h : TKW v a T N q x) (hp : 0 ≤ x ∧ x < N) (h0 : T x.toNat ≠ 10) (e1 : T x.toNat ≠ 32) (e2 : T x.toNat ≠ 126) (hi : i = (v 23).toNat) (hi2 : i2 = (v 23).toNat) (hi3 : i3 = (v 23 + 1).toNat) (hv : v2 23 = v 23 + 1) (hz : z = T x.toNat) (hy : y = x) : TKW v2 (up2 (up2 (up2 a 20 i z) 21 i2 y) 22 i3 0) T N q (x + 1) := by
  obtain ⟨w, b, h1, h2, h3⟩ := h
  have h4 := h2.1
  obtain ⟨g1, g2⟩ := h2.push (v2 := v2) (l := T x.toNat) (pp := x.toNat) (i := i) (i2 := i2) (i3 := i3) (z := z) (y := y) h3 (by omega) (by omega) (by omega) hv hz (by omega)
  exact ⟨_, 0, h1.ltr hp h0 e1 e2, g1, g2⟩
theorem TKW.end1 (h : TKW v a T N q x) (hp : 0 ≤ x) (he : N ≤ x ∨ T x.toNat = 10) : TKX T N v a q x := by
  obtain ⟨w, b, h1, h2, h3⟩ := h
  exact ⟨w, h1.end1 hp he, h2⟩
theorem TKW.end2 (h : TKW v a T N q x) (hp : 0 ≤ x ∧ x < N) (e : T x.toNat = 32) (h23 : v 23 ≠ 0) : TKX T N v a q x := by
  obtain ⟨w, b, h1, h2, h3⟩ := h
  have h4 := h2.1
  exact ⟨w, h1.end2 hp e (by omega), h2⟩
theorem NNL.zero : NNL T q q := fun j h1 h2 => absurd h1 (by omega)
theorem NNL.step (h : NNL T q p) (e : T p.toNat ≠ 10) : NNL T q (p + 1) := fun j h1 h2 => by
  by_cases c : j < p
  · exact h j h1 c
  · rw [show j = p by omega]; exact e
theorem TKP.cg {T2 : Nat → Int} {N2 : Int} (h : TKP T N q u) (h29 : T2 = T) (h30 : N2 = N) : TKP T2 N2 q u := by
  subst h29
  subst h30
  exact h
end WORDS
set_option maxHeartbeats 4000000 in
set_option maxRecDepth 100000 in
theorem E_lineEnd {l : Launch} {G : GT} {h0 : Nat} {ad ln : Nat → Nat} {v : Nat → Int} {a : Nat → Nat → Int}  {q : Int} (hB : BX v a) (hq : 0 ≤ q ∧ q ≤ 1000) : Mm l G yX12_lineEnd cX12_lineEnd 3 (some .int) 0 [.int (iI q)] h0 ad ln v a 0 0 (fun r v2 a2 => ∃ f : Int, r = some (.int (iI f)) ∧ fr [] [] v a v2 a2 ∧ BX v2 a2 ∧ ((q ≤ f ∧ (f = q ∨ f ≤ v 30)) ∧ LEX (a 29) (v 30) q f)) := by
  refine Mm.mk (by decide) (Nat.le_of_ble_eq_true rfl) ?_
  intro p e s m args below meth c A C
  refine hv2 (show 0 ≤ v 30 ∧ v 30 ≤ 500 from hB.1 30) (show fr [] [] v a v a from fr.refl) (fun r30 fp0 => ?_)
  refine m_iload_n (j := 1) C dX12_lineEnd_0 rfl ?_
  refine m_istore_n (lv2 := [(2, .int (iI q)), (0, .ref h0), (1, .int (iI q))]) C dX12_lineEnd_1 (by decide) rfl ?_
  have Lp1 : ∀ (nn : Nat) (k : Int) (vb1 : Nat → Int) (ab1 : Nat → Nat → Int), 1001 - k < (nn : Int) → BX vb1 ab1 → fr [] [] v a vb1 ab1 → (q ≤ k ∧ k ≤ 1000 ∧ (k = q ∨ k ≤ v 30)) → (NNL (a 29) q k) → mw p l e (rmq 0 0 0) s m args below meth c G A 3 (MQ below (Qm G A (fun rq Lq Eq => ∃ (vq : Nat → Int) (aq : Nat → Nat → Int), mI G h0 ad ln vq aq Lq Eq ∧ (fun r v2 a2 => ∃ f : Int, r = some (.int (iI f)) ∧ fr [] [] v a v2 a2 ∧ BX v2 a2 ∧ ((q ≤ f ∧ (f = q ∨ f ≤ v 30)) ∧ LEX (a 29) (v 30) q f)) rq vq aq)) args s 0 0 A) h0 ad ln vb1 ab1 0 0 2 [(2, .int (iI k)), (0, .ref h0), (1, .int (iI q))] [] := by
    intro nn
    induction nn with
    | zero =>
      intro k vb1 ab1 hm bxb1 fpb1 hk hN
      obtain ⟨rfl, rfl⟩ := fpb1.eq
      exact absurd hm (by omega)
    | succ nn ih1 =>
      intro k vb1 ab1 hm bxb1 fpb1 hk hN
      obtain ⟨rfl, rfl⟩ := fpb1.eq
      refine m_iload_n (j := 0) C dX12_lineEnd_2 rfl ?_
      refine m_aload_n (j := 1) C dX12_lineEnd_3 rfl ?_
      have rv1 : 0 ≤ v 30 ∧ v 30 ≤ 500 := bxb1.1 30
      refine m_get (k := 30) C dX12_lineEnd_4 w6_89 (by decide) rfl ?_
      refine m_icmp_ge (tgt := 27) C ⟨by omega, by omega⟩ (r32_c (lo := 0) (hi := 500) rv1.1 rv1.2 (by decide) (by decide)) dX12_lineEnd_7 (by decide) (fun c1 => ?_) (fun c1 => ?_)
      · refine m_iload_n (j := 0) C dX12_lineEnd_27 rfl ?_
        exact m_iret C dX12_lineEnd_28 rfl (Nat.le_of_ble_eq_true rfl) (Nat.le_of_ble_eq_true rfl) ⟨k, rfl, fpb1, bxb1, ⟨by omega, hN, Or.inl (by omega)⟩⟩
      · refine m_aload_n (j := 1) C dX12_lineEnd_10 rfl ?_
        refine m_geta (k := 29) C dX12_lineEnd_11 w6_88 (by decide) rfl ?_
        refine m_iload_n (j := 0) C dX12_lineEnd_14 rfl ?_
        refine m_ald (k := 29) C dX12_lineEnd_15 rfl rfl (by decide) (by omega) (by show _ < ((_ : Nat) : Int); simp only [mlen]; omega) (by decide) ?_
        have ra1 : (-2147483648) ≤ a 29 k.toNat ∧ a 29 k.toNat ≤ 2147483647 := bxb1.2 29 (k.toNat)
        refine m_bipush (z := 10) C dX12_lineEnd_16 (by decide) ?_
        refine m_icmp_eq (tgt := 27) C (r32_c (lo := (-2147483648)) (hi := 2147483647) ra1.1 ra1.2 (by decide) (by decide)) ⟨by decide, by decide⟩ dX12_lineEnd_18 (by decide) (fun c2 => ?_) (fun c2 => ?_)
        · refine m_iload_n (j := 0) C dX12_lineEnd_27 rfl ?_
          exact m_iret C dX12_lineEnd_28 rfl (Nat.le_of_ble_eq_true rfl) (Nat.le_of_ble_eq_true rfl) ⟨k, rfl, fpb1, bxb1, ⟨by omega, hN, Or.inr (by omega)⟩⟩
        · refine m_iinc (z := k) (j := 0) (lv2 := [(2, .int (iI (k + 1))), (0, .ref h0), (1, .int (iI q))]) C dX12_lineEnd_21 rfl (by decide) rfl ?_
          refine m_goto (tgt := 2) C dX12_lineEnd_24 (by decide) ?_
          refine m_lv (lv2 := [(2, .int (iI (k + 1))), (0, .ref h0), (1, .int (iI q))]) [0, 1, 2] rfl ?_
          exact ih1  (k + 1) _ _ (by omega) bxb1 fpb1 (by omega) (hN.step (by omega))
  refine m_lv (lv2 := [(2, .int (iI q)), (0, .ref h0), (1, .int (iI q))]) [0, 1, 2] rfl ?_
  exact Lp1 1002 q _ _ (by omega) hB fp0 (by omega) NNL.zero
set_option maxHeartbeats 4000000 in
set_option maxRecDepth 100000 in
theorem E_takeWord {l : Launch} {G : GT} {h0 : Nat} {ad ln : Nat → Nat} {v : Nat → Int} {a : Nat → Nat → Int}  {q u : Int} (hB : BX v a) (hq : 0 ≤ q ∧ q ≤ 501) (hu : 0 ≤ u ∧ u ≤ 500) (hL : TKP (a 29) (v 30) q u) : Mm l G yX12_takeWord cX12_takeWord 4 (some .int) 0 [.int (iI q), .int (iI u)] h0 ad ln v a 0 0 (fun r v2 a2 => ∃ f : Int, r = some (.int (iI f)) ∧ fr [23] [20, 21, 22] v a v2 a2 ∧ BX v2 a2 ∧ (((f = q ∨ (q ≤ f ∧ f ≤ u)) ∧ v2 23 ≤ f - q) ∧ (TKX (a 29) (v 30) v2 a2 q f ∧ (v2 23 ≠ 0 ∨ f = u)))) := by
  refine Mm.mk (by decide) (Nat.le_of_ble_eq_true rfl) ?_
  intro p e s m args below meth c A C
  refine hv2 (hL.1) (show fr [23] [20, 21, 22] v a v a from fr.refl) (fun hL1 fp0 => ?_)
  refine m_iload_n (j := 1) C dX12_takeWord_0 rfl ?_
  refine m_istore_n (lv2 := [(3, .int (iI q)), (0, .ref h0), (1, .int (iI q)), (2, .int (iI u))]) C dX12_takeWord_1 (by decide) rfl ?_
  refine m_aload_n (j := 1) C dX12_takeWord_2 rfl ?_
  refine m_iconst C dX12_takeWord_3 ?_
  refine m_put (k := 23) (z := 0) C dX12_takeWord_4 w6_82 (by decide) rfl rfl rfl ?_
  refine hv2 (show BX (va_up v 23 0) a from hB.put (k := 23) (z := 0) ⟨by decide, by decide⟩) (fp0.put (k := 23) (z := 0) rfl) (fun bq1 fq1 => ?_)
  have Lp1 : ∀ (nn : Nat) (x : Int) (vb1 : Nat → Int) (ab1 : Nat → Nat → Int), 502 - x < (nn : Int) → BX vb1 ab1 → fr [23] [20, 21, 22] v a vb1 ab1 → (q ≤ x ∧ (x = q ∨ x ≤ u)) → (0 ≤ vb1 23 ∧ vb1 23 + q ≤ x) → (vb1 23 = 0 ∨ u ≤ x ∨ a 29 x.toNat = 32) → (TKW vb1 ab1 (a 29) (v 30) q x) → mw p l e (rmq 0 0 0) s m args below meth c G A 4 (MQ below (Qm G A (fun rq Lq Eq => ∃ (vq : Nat → Int) (aq : Nat → Nat → Int), mI G h0 ad ln vq aq Lq Eq ∧ (fun r v2 a2 => ∃ f : Int, r = some (.int (iI f)) ∧ fr [23] [20, 21, 22] v a v2 a2 ∧ BX v2 a2 ∧ (((f = q ∨ (q ≤ f ∧ f ≤ u)) ∧ v2 23 ≤ f - q) ∧ (TKX (a 29) (v 30) v2 a2 q f ∧ (v2 23 ≠ 0 ∨ f = u)))) rq vq aq)) args s 0 0 A) h0 ad ln vb1 ab1 0 0 7 [(3, .int (iI x)), (0, .ref h0), (1, .int (iI q)), (2, .int (iI u))] [] := by
    intro nn
    induction nn with
    | zero =>
      intro x vb1 ab1 hm bxb1 fpb1 hx h23 hsp hI
      exact absurd hm (by omega)
    | succ nn ih1 =>
      intro x vb1 ab1 hm bxb1 fpb1 hx h23 hsp hI
      refine m_iload_n (j := 0) C dX12_takeWord_7 rfl ?_
      refine m_iload_n (j := 3) C dX12_takeWord_8 rfl ?_
      refine m_icmp_ge (tgt := 150) C ⟨by omega, by omega⟩ ⟨by omega, by omega⟩ dX12_takeWord_9 (by decide) (fun c1 => ?_) (fun c1 => ?_)
      · refine m_iload_n (j := 0) C dX12_takeWord_150 rfl ?_
        have rv1 : 0 ≤ vb1 23 ∧ vb1 23 ≤ 500 := bxb1.1 23
        exact m_iret C dX12_takeWord_151 rfl (Nat.le_of_ble_eq_true rfl) (Nat.le_of_ble_eq_true rfl) ⟨x, rfl, fpb1, bxb1, ⟨(by show (x = q ∨ (q ≤ x ∧ x ≤ u)) ∧ vb1 23 ≤ x - q; omega), hI.end1 (by omega) (by have e : x = u := (by omega); rw [e]; rcases hL.2.2 with k | k; exact Or.inl (by omega); exact Or.inr k), Or.inr (by omega)⟩⟩
      · refine m_aload_n (j := 1) C dX12_takeWord_12 rfl ?_
        have rv2 : 0 ≤ vb1 23 ∧ vb1 23 ≤ 500 := bxb1.1 23
        refine m_get (k := 23) C dX12_takeWord_13 w6_82 (by decide) rfl ?_
        refine m_if_ne (tgt := 150) C (r32_c (lo := 0) (hi := 500) rv2.1 rv2.2 (by decide) (by decide)) dX12_takeWord_16 (by decide) (fun c2 => ?_) (fun c2 => ?_)
        · refine m_iload_n (j := 0) C dX12_takeWord_150 rfl ?_
          exact m_iret C dX12_takeWord_151 rfl (Nat.le_of_ble_eq_true rfl) (Nat.le_of_ble_eq_true rfl) ⟨x, rfl, fpb1, bxb1, ⟨(by show (x = q ∨ (q ≤ x ∧ x ≤ u)) ∧ vb1 23 ≤ x - q; omega), hI.end2 ⟨by omega, by omega⟩ (by omega) (by omega), Or.inl (by show (vb1 23) ≠ 0; omega)⟩⟩
        · have Lp2 : ∀ (nn : Nat) (z : Int) (vb2 : Nat → Int) (ab2 : Nat → Nat → Int), 502 - z < (nn : Int) → BX vb2 ab2 → fr [23] [20, 21, 22] v a vb2 ab2 → (x ≤ z ∧ z ≤ u) → (vb2 23 = 0) → (TKW vb2 ab2 (a 29) (v 30) q z) → mw p l e (rmq 0 0 0) s m args below meth c G A 4 (MQ below (Qm G A (fun rq Lq Eq => ∃ (vq : Nat → Int) (aq : Nat → Nat → Int), mI G h0 ad ln vq aq Lq Eq ∧ (fun r v2 a2 => ∃ f : Int, r = some (.int (iI f)) ∧ fr [23] [20, 21, 22] v a v2 a2 ∧ BX v2 a2 ∧ (((f = q ∨ (q ≤ f ∧ f ≤ u)) ∧ v2 23 ≤ f - q) ∧ (TKX (a 29) (v 30) v2 a2 q f ∧ (v2 23 ≠ 0 ∨ f = u)))) rq vq aq)) args s 0 0 A) h0 ad ln vb2 ab2 0 0 19 [(3, .int (iI z)), (0, .ref h0), (1, .int (iI q)), (2, .int (iI u))] [] := by
            intro nn
            induction nn with
            | zero =>
              intro z vb2 ab2 hm bxb2 fpb2 hz hz3 hI2
              exact absurd hm (by omega)
            | succ nn ih2 =>
              intro z vb2 ab2 hm bxb2 fpb2 hz hz3 hI2
              refine m_iload_n (j := 0) C dX12_takeWord_19 rfl ?_
              refine m_iload_n (j := 3) C dX12_takeWord_20 rfl ?_
              refine m_icmp_ge (tgt := 41) C ⟨by omega, by omega⟩ ⟨by omega, by omega⟩ dX12_takeWord_21 (by decide) (fun c3 => ?_) (fun c3 => ?_)
              · refine m_aload_n (j := 1) C dX12_takeWord_41 rfl ?_
                refine m_geta (k := 22) C dX12_takeWord_42 w6_81 (by decide) rfl ?_
                refine m_iconst C dX12_takeWord_45 ?_
                refine m_iconst C dX12_takeWord_46 ?_
                refine m_zast (k := 22) (w := 0) C dX12_takeWord_47 rfl rfl (by decide) (by decide) (by decide) (by decide) (by omega) ?_
                refine hv2 (show BX vb2 (up2 ab2 22 (0 : Int).toNat 0) from bxb2.set (k := 22) (i := (0 : Int).toNat) (z := 0) ⟨by decide, by decide⟩) (fpb2.set (k := 22) (i := (0 : Int).toNat) (z := 0) rfl) (fun bq2 fq2 => ?_)
                have Lp3 : ∀ (nn : Nat) (y : Int) (vb3 : Nat → Int) (ab3 : Nat → Nat → Int), 502 - y < (nn : Int) → BX vb3 ab3 → fr [23] [20, 21, 22] v a vb3 ab3 → (x ≤ y ∧ y ≤ u) → (0 ≤ vb3 23 ∧ vb3 23 + q ≤ y) → (x < y ∨ (y = x ∧ ¬ a 29 y.toNat = 32)) → (TKW vb3 ab3 (a 29) (v 30) q y) → mw p l e (rmq 0 0 0) s m args below meth c G A 4 (MQ below (Qm G A (fun rq Lq Eq => ∃ (vq : Nat → Int) (aq : Nat → Nat → Int), mI G h0 ad ln vq aq Lq Eq ∧ (fun r v2 a2 => ∃ f : Int, r = some (.int (iI f)) ∧ fr [23] [20, 21, 22] v a v2 a2 ∧ BX v2 a2 ∧ (((f = q ∨ (q ≤ f ∧ f ≤ u)) ∧ v2 23 ≤ f - q) ∧ (TKX (a 29) (v 30) v2 a2 q f ∧ (v2 23 ≠ 0 ∨ f = u)))) rq vq aq)) args s 0 0 A) h0 ad ln vb3 ab3 0 0 48 [(3, .int (iI y)), (0, .ref h0), (1, .int (iI q)), (2, .int (iI u))] [] := by
                  intro nn
                  induction nn with
                  | zero =>
                    intro y vb3 ab3 hm bxb3 fpb3 hy hy3 hy4 hI3
                    exact absurd hm (by omega)
                  | succ nn ih3 =>
                    intro y vb3 ab3 hm bxb3 fpb3 hy hy3 hy4 hI3
                    refine m_iload_n (j := 0) C dX12_takeWord_48 rfl ?_
                    refine m_iload_n (j := 3) C dX12_takeWord_49 rfl ?_
                    refine m_icmp_ge (tgt := 7) C ⟨by omega, by omega⟩ ⟨by omega, by omega⟩ dX12_takeWord_50 (by decide) (fun c4 => ?_) (fun c4 => ?_)
                    · have rv3 : 0 ≤ vb3 23 ∧ vb3 23 ≤ 500 := bxb3.1 23
                      refine m_lv (lv2 := [(3, .int (iI y)), (0, .ref h0), (1, .int (iI q)), (2, .int (iI u))]) [0, 1, 2, 3] rfl ?_
                      exact ih1  y _ _ (by omega) bxb3 fpb3 (by omega) (by show 0 ≤ (vb3 23) ∧ (vb3 23) + q ≤ y; omega) (Or.inr (Or.inl (by omega))) hI3
                    · refine m_aload_n (j := 1) C dX12_takeWord_53 rfl ?_
                      refine m_geta (k := 29) C dX12_takeWord_54 w6_88 (by decide) rfl ?_
                      refine m_iload_n (j := 0) C dX12_takeWord_57 rfl ?_
                      refine m_ald (k := 29) C dX12_takeWord_58 rfl rfl (by decide) (by omega) (by show _ < ((_ : Nat) : Int); simp only [mlen]; omega) (by decide) ?_
                      refine hv2 (show (-2147483648) ≤ ab3 29 y.toNat ∧ ab3 29 y.toNat ≤ 2147483647 from bxb3.2 29 (y.toNat)) (show ab3 29 (y.toNat) = a 29 (y.toNat) from congrFun (fpb3.2 29 rfl) (y.toNat)) (fun ra1 ae1 => ?_)
                      refine m_st (st2 := [.int (iI (a 29 y.toNat))]) (congrArg (fun z => Value.int (iI z) :: []) (congrFun (fpb3.2 29 rfl) (y.toNat))) ?_
                      refine m_bipush (z := 32) C dX12_takeWord_59 (by decide) ?_
                      refine m_icmp_eq (tgt := 7) C ⟨by omega, by omega⟩ ⟨by decide, by decide⟩ dX12_takeWord_61 (by decide) (fun c5 => ?_) (fun c5 => ?_)
                      · have rv4 : 0 ≤ vb3 23 ∧ vb3 23 ≤ 500 := bxb3.1 23
                        refine m_lv (lv2 := [(3, .int (iI y)), (0, .ref h0), (1, .int (iI q)), (2, .int (iI u))]) [0, 1, 2, 3] rfl ?_
                        exact ih1  y _ _ (by omega) bxb3 fpb3 (by omega) (by show 0 ≤ (vb3 23) ∧ (vb3 23) + q ≤ y; omega) (Or.inr (Or.inr (by omega))) hI3
                      · refine m_aload_n (j := 1) C dX12_takeWord_64 rfl ?_
                        refine m_geta (k := 29) C dX12_takeWord_65 w6_88 (by decide) rfl ?_
                        refine m_iload_n (j := 0) C dX12_takeWord_68 rfl ?_
                        refine m_ald (k := 29) C dX12_takeWord_69 rfl rfl (by decide) (by omega) (by show _ < ((_ : Nat) : Int); simp only [mlen]; omega) (by decide) ?_
                        refine m_st (st2 := [.int (iI (a 29 y.toNat))]) (congrArg (fun z => Value.int (iI z) :: []) (congrFun (fpb3.2 29 rfl) (y.toNat))) ?_
                        refine m_bipush (z := 126) C dX12_takeWord_70 (by decide) ?_
                        refine m_icmp_ne (tgt := 99) C ⟨by omega, by omega⟩ ⟨by decide, by decide⟩ dX12_takeWord_72 (by decide) (fun c6 => ?_) (fun c6 => ?_)
                        · refine m_aload_n (j := 1) C dX12_takeWord_99 rfl ?_
                          refine m_geta (k := 20) C dX12_takeWord_100 w6_79 (by decide) rfl ?_
                          refine m_aload_n (j := 1) C dX12_takeWord_103 rfl ?_
                          have rv5 : 0 ≤ vb3 23 ∧ vb3 23 ≤ 500 := bxb3.1 23
                          refine m_get (k := 23) C dX12_takeWord_104 w6_82 (by decide) rfl ?_
                          refine m_aload_n (j := 1) C dX12_takeWord_107 rfl ?_
                          refine m_geta (k := 29) C dX12_takeWord_108 w6_88 (by decide) rfl ?_
                          refine m_iload_n (j := 0) C dX12_takeWord_111 rfl ?_
                          refine m_ald (k := 29) C dX12_takeWord_112 rfl rfl (by decide) (by omega) (by show _ < ((_ : Nat) : Int); simp only [mlen]; omega) (by decide) ?_
                          refine m_st (st2 := [.int (iI (a 29 y.toNat)), .int (iI (vb3 23)), .ref (ad 20)]) (congrArg (fun z => Value.int (iI z) :: [.int (iI (vb3 23)), .ref (ad 20)]) (congrFun (fpb3.2 29 rfl) (y.toNat))) ?_
                          refine m_ast (k := 20) C dX12_takeWord_113 rfl rfl (by decide) rv5.1 (Int.lt_of_le_of_lt rv5.2 (by decide)) (by decide) ?_
                          refine hv2 (show BX vb3 (up2 ab3 20 (vb3 23).toNat (a 29 y.toNat)) from bxb3.set (k := 20) (i := (vb3 23).toNat) (z := a 29 y.toNat) (show (-2147483648) ≤ (a 29 y.toNat) ∧ (a 29 y.toNat) ≤ 2147483647 by omega)) (fpb3.set (k := 20) (i := (vb3 23).toNat) (z := a 29 y.toNat) rfl) (fun bq3 fq3 => ?_)
                          refine m_aload_n (j := 1) C dX12_takeWord_114 rfl ?_
                          refine m_geta (k := 21) C dX12_takeWord_115 w6_80 (by decide) rfl ?_
                          refine m_aload_n (j := 1) C dX12_takeWord_118 rfl ?_
                          refine m_get (k := 23) C dX12_takeWord_119 w6_82 (by decide) rfl ?_
                          refine m_iload_n (j := 0) C dX12_takeWord_122 rfl ?_
                          refine m_ast (k := 21) C dX12_takeWord_123 rfl rfl (by decide) rv5.1 (Int.lt_of_le_of_lt rv5.2 (by decide)) (by decide) ?_
                          refine hv2 (show BX vb3 (up2 (up2 ab3 20 (vb3 23).toNat (a 29 y.toNat)) 21 (vb3 23).toNat y) from bq3.set (k := 21) (i := (vb3 23).toNat) (z := y) (show (-2147483648) ≤ y ∧ y ≤ 2147483647 by omega)) (fq3.set (k := 21) (i := (vb3 23).toNat) (z := y) rfl) (fun bq4 fq4 => ?_)
                          refine m_aload_n (j := 1) C dX12_takeWord_124 rfl ?_
                          refine m_dup C dX12_takeWord_125 rfl ?_
                          refine m_get (k := 23) C dX12_takeWord_126 w6_82 (by decide) rfl ?_
                          refine m_iconst C dX12_takeWord_129 ?_
                          refine m_iadd C dX12_takeWord_130 ?_
                          refine m_put (k := 23) (z := (vb3 23) + 1) C dX12_takeWord_131 w6_82 (by decide) rfl rfl rfl ?_
                          refine hv2 (show BX (va_up vb3 23 ((vb3 23) + 1)) (up2 (up2 ab3 20 (vb3 23).toNat (a 29 y.toNat)) 21 (vb3 23).toNat y) from bq4.put (k := 23) (z := (vb3 23) + 1) (show 0 ≤ ((vb3 23) + 1) ∧ ((vb3 23) + 1) ≤ 500 by omega)) (fq4.put (k := 23) (z := (vb3 23) + 1) rfl) (fun bq5 fq5 => ?_)
                          refine m_aload_n (j := 1) C dX12_takeWord_134 rfl ?_
                          refine m_geta (k := 22) C dX12_takeWord_135 w6_81 (by decide) rfl ?_
                          refine m_aload_n (j := 1) C dX12_takeWord_138 rfl ?_
                          refine m_get (k := 23) C dX12_takeWord_139 w6_82 (by decide) rfl ?_
                          refine m_st (st2 := [.int (iI ((vb3 23) + 1)), .ref (ad 22)]) rfl ?_
                          refine m_iconst C dX12_takeWord_142 ?_
                          refine m_zast (k := 22) (w := 0) C dX12_takeWord_143 rfl rfl (by decide) (by omega) (by show _ < ((_ : Nat) : Int); simp only [mlen]; omega) (by decide) (by omega) ?_
                          refine hv2 (show BX (va_up vb3 23 ((vb3 23) + 1)) (up2 (up2 (up2 ab3 20 (vb3 23).toNat (a 29 y.toNat)) 21 (vb3 23).toNat y) 22 ((vb3 23) + 1).toNat 0) from bq5.set (k := 22) (i := ((vb3 23) + 1).toNat) (z := 0) ⟨by decide, by decide⟩) (fq5.set (k := 22) (i := ((vb3 23) + 1).toNat) (z := 0) rfl) (fun bq6 fq6 => ?_)
                          refine m_iinc (z := y) (j := 0) (lv2 := [(3, .int (iI (y + 1))), (0, .ref h0), (1, .int (iI q)), (2, .int (iI u))]) C dX12_takeWord_144 rfl (by decide) rfl ?_
                          refine m_goto (tgt := 48) C dX12_takeWord_147 (by decide) ?_
                          refine m_lv (lv2 := [(3, .int (iI (y + 1))), (0, .ref h0), (1, .int (iI q)), (2, .int (iI u))]) [0, 1, 2, 3] rfl ?_
                          exact ih3  (y + 1) _ _ (by omega) bq6 fq6 (by omega) (by show 0 ≤ ((vb3 23) + 1) ∧ ((vb3 23) + 1) + q ≤ (y + 1); omega) (by omega) (hI3.ltr ⟨by omega, by omega⟩ (hL.2.1 y (by omega) (by omega)) (by omega) (by omega) rfl rfl (by omega) (va_up_self _ _ _) (by omega) rfl)
                        · refine m_aload_n (j := 1) C dX12_takeWord_75 rfl ?_
                          refine m_geta (k := 22) C dX12_takeWord_76 w6_81 (by decide) rfl ?_
                          refine m_aload_n (j := 1) C dX12_takeWord_79 rfl ?_
                          have rv6 : 0 ≤ vb3 23 ∧ vb3 23 ≤ 500 := bxb3.1 23
                          refine m_get (k := 23) C dX12_takeWord_80 w6_82 (by decide) rfl ?_
                          refine m_aload_n (j := 1) C dX12_takeWord_83 rfl ?_
                          refine m_get (k := 23) C dX12_takeWord_84 w6_82 (by decide) rfl ?_
                          refine m_if_le (tgt := 94) C (r32_c (lo := 0) (hi := 500) rv6.1 rv6.2 (by decide) (by decide)) dX12_takeWord_87 (by decide) (fun c7 => ?_) (fun c7 => ?_)
                          · refine m_iconst C dX12_takeWord_94 ?_
                            refine m_zast (k := 22) (w := 0) C dX12_takeWord_95 rfl rfl (by decide) rv6.1 (Int.lt_of_le_of_lt rv6.2 (by decide)) (by decide) (by omega) ?_
                            refine hv2 (show BX vb3 (up2 ab3 22 (vb3 23).toNat 0) from bxb3.set (k := 22) (i := (vb3 23).toNat) (z := 0) ⟨by decide, by decide⟩) (fpb3.set (k := 22) (i := (vb3 23).toNat) (z := 0) rfl) (fun bq7 fq7 => ?_)
                            refine m_goto (tgt := 144) C dX12_takeWord_96 (by decide) ?_
                            refine m_iinc (z := y) (j := 0) (lv2 := [(3, .int (iI (y + 1))), (0, .ref h0), (1, .int (iI q)), (2, .int (iI u))]) C dX12_takeWord_144 rfl (by decide) rfl ?_
                            refine m_goto (tgt := 48) C dX12_takeWord_147 (by decide) ?_
                            refine m_lv (lv2 := [(3, .int (iI (y + 1))), (0, .ref h0), (1, .int (iI q)), (2, .int (iI u))]) [0, 1, 2, 3] rfl ?_
                            exact ih3  (y + 1) _ _ (by omega) bq7 fq7 (by omega) (by show 0 ≤ (vb3 23) ∧ (vb3 23) + q ≤ (y + 1); omega) (by omega) (hI3.til ⟨by omega, by omega⟩ (by omega) rfl (by omega))
                          · refine m_iconst C dX12_takeWord_90 ?_
                            refine m_goto (tgt := 95) C dX12_takeWord_91 (by decide) ?_
                            refine m_zast (k := 22) (w := 1) C dX12_takeWord_95 rfl rfl (by decide) rv6.1 (Int.lt_of_le_of_lt rv6.2 (by decide)) (by decide) (by omega) ?_
                            refine hv2 (show BX vb3 (up2 ab3 22 (vb3 23).toNat 1) from bxb3.set (k := 22) (i := (vb3 23).toNat) (z := 1) ⟨by decide, by decide⟩) (fpb3.set (k := 22) (i := (vb3 23).toNat) (z := 1) rfl) (fun bq8 fq8 => ?_)
                            refine m_goto (tgt := 144) C dX12_takeWord_96 (by decide) ?_
                            refine m_iinc (z := y) (j := 0) (lv2 := [(3, .int (iI (y + 1))), (0, .ref h0), (1, .int (iI q)), (2, .int (iI u))]) C dX12_takeWord_144 rfl (by decide) rfl ?_
                            refine m_goto (tgt := 48) C dX12_takeWord_147 (by decide) ?_
                            refine m_lv (lv2 := [(3, .int (iI (y + 1))), (0, .ref h0), (1, .int (iI q)), (2, .int (iI u))]) [0, 1, 2, 3] rfl ?_
                            exact ih3  (y + 1) _ _ (by omega) bq8 fq8 (by omega) (by show 0 ≤ (vb3 23) ∧ (vb3 23) + q ≤ (y + 1); omega) (by omega) (hI3.til ⟨by omega, by omega⟩ (by omega) rfl (by omega))
                have rv7 : 0 ≤ vb2 23 ∧ vb2 23 ≤ 500 := bq2.1 23
                refine m_lv (lv2 := [(3, .int (iI z)), (0, .ref h0), (1, .int (iI q)), (2, .int (iI u))]) [0, 1, 2, 3] rfl ?_
                exact Lp3 503 z _ _ (by omega) bq2 fq2 (by omega) (by show 0 ≤ (vb2 23) ∧ (vb2 23) + q ≤ z; omega) (by omega) (hI2.m0 (by omega))
              · refine m_aload_n (j := 1) C dX12_takeWord_24 rfl ?_
                refine m_geta (k := 29) C dX12_takeWord_25 w6_88 (by decide) rfl ?_
                refine m_iload_n (j := 0) C dX12_takeWord_28 rfl ?_
                refine m_ald (k := 29) C dX12_takeWord_29 rfl rfl (by decide) (by omega) (by show _ < ((_ : Nat) : Int); simp only [mlen]; omega) (by decide) ?_
                refine hv2 (show (-2147483648) ≤ ab2 29 z.toNat ∧ ab2 29 z.toNat ≤ 2147483647 from bxb2.2 29 (z.toNat)) (show ab2 29 (z.toNat) = a 29 (z.toNat) from congrFun (fpb2.2 29 rfl) (z.toNat)) (fun ra2 ae2 => ?_)
                refine m_st (st2 := [.int (iI (a 29 z.toNat))]) (congrArg (fun z => Value.int (iI z) :: []) (congrFun (fpb2.2 29 rfl) (z.toNat))) ?_
                refine m_bipush (z := 32) C dX12_takeWord_30 (by decide) ?_
                refine m_icmp_ne (tgt := 41) C ⟨by omega, by omega⟩ ⟨by decide, by decide⟩ dX12_takeWord_32 (by decide) (fun c8 => ?_) (fun c8 => ?_)
                · refine m_aload_n (j := 1) C dX12_takeWord_41 rfl ?_
                  refine m_geta (k := 22) C dX12_takeWord_42 w6_81 (by decide) rfl ?_
                  refine m_iconst C dX12_takeWord_45 ?_
                  refine m_iconst C dX12_takeWord_46 ?_
                  refine m_zast (k := 22) (w := 0) C dX12_takeWord_47 rfl rfl (by decide) (by decide) (by decide) (by decide) (by omega) ?_
                  refine hv2 (show BX vb2 (up2 ab2 22 (0 : Int).toNat 0) from bxb2.set (k := 22) (i := (0 : Int).toNat) (z := 0) ⟨by decide, by decide⟩) (fpb2.set (k := 22) (i := (0 : Int).toNat) (z := 0) rfl) (fun bq9 fq9 => ?_)
                  have Lp4 : ∀ (nn : Nat) (y : Int) (vb4 : Nat → Int) (ab4 : Nat → Nat → Int), 502 - y < (nn : Int) → BX vb4 ab4 → fr [23] [20, 21, 22] v a vb4 ab4 → (x ≤ y ∧ y ≤ u) → (0 ≤ vb4 23 ∧ vb4 23 + q ≤ y) → (x < y ∨ (y = x ∧ ¬ a 29 y.toNat = 32)) → (TKW vb4 ab4 (a 29) (v 30) q y) → mw p l e (rmq 0 0 0) s m args below meth c G A 4 (MQ below (Qm G A (fun rq Lq Eq => ∃ (vq : Nat → Int) (aq : Nat → Nat → Int), mI G h0 ad ln vq aq Lq Eq ∧ (fun r v2 a2 => ∃ f : Int, r = some (.int (iI f)) ∧ fr [23] [20, 21, 22] v a v2 a2 ∧ BX v2 a2 ∧ (((f = q ∨ (q ≤ f ∧ f ≤ u)) ∧ v2 23 ≤ f - q) ∧ (TKX (a 29) (v 30) v2 a2 q f ∧ (v2 23 ≠ 0 ∨ f = u)))) rq vq aq)) args s 0 0 A) h0 ad ln vb4 ab4 0 0 48 [(3, .int (iI y)), (0, .ref h0), (1, .int (iI q)), (2, .int (iI u))] [] := by
                    intro nn
                    induction nn with
                    | zero =>
                      intro y vb4 ab4 hm bxb4 fpb4 hy hy3 hy4 hI3
                      exact absurd hm (by omega)
                    | succ nn ih4 =>
                      intro y vb4 ab4 hm bxb4 fpb4 hy hy3 hy4 hI3
                      refine m_iload_n (j := 0) C dX12_takeWord_48 rfl ?_
                      refine m_iload_n (j := 3) C dX12_takeWord_49 rfl ?_
                      refine m_icmp_ge (tgt := 7) C ⟨by omega, by omega⟩ ⟨by omega, by omega⟩ dX12_takeWord_50 (by decide) (fun c9 => ?_) (fun c9 => ?_)
                      · have rv8 : 0 ≤ vb4 23 ∧ vb4 23 ≤ 500 := bxb4.1 23
                        refine m_lv (lv2 := [(3, .int (iI y)), (0, .ref h0), (1, .int (iI q)), (2, .int (iI u))]) [0, 1, 2, 3] rfl ?_
                        exact ih1  y _ _ (by omega) bxb4 fpb4 (by omega) (by show 0 ≤ (vb4 23) ∧ (vb4 23) + q ≤ y; omega) (Or.inr (Or.inl (by omega))) hI3
                      · refine m_aload_n (j := 1) C dX12_takeWord_53 rfl ?_
                        refine m_geta (k := 29) C dX12_takeWord_54 w6_88 (by decide) rfl ?_
                        refine m_iload_n (j := 0) C dX12_takeWord_57 rfl ?_
                        refine m_ald (k := 29) C dX12_takeWord_58 rfl rfl (by decide) (by omega) (by show _ < ((_ : Nat) : Int); simp only [mlen]; omega) (by decide) ?_
                        refine hv2 (show (-2147483648) ≤ ab4 29 y.toNat ∧ ab4 29 y.toNat ≤ 2147483647 from bxb4.2 29 (y.toNat)) (show ab4 29 (y.toNat) = a 29 (y.toNat) from congrFun (fpb4.2 29 rfl) (y.toNat)) (fun ra3 ae3 => ?_)
                        refine m_st (st2 := [.int (iI (a 29 y.toNat))]) (congrArg (fun z => Value.int (iI z) :: []) (congrFun (fpb4.2 29 rfl) (y.toNat))) ?_
                        refine m_bipush (z := 32) C dX12_takeWord_59 (by decide) ?_
                        refine m_icmp_eq (tgt := 7) C ⟨by omega, by omega⟩ ⟨by decide, by decide⟩ dX12_takeWord_61 (by decide) (fun c10 => ?_) (fun c10 => ?_)
                        · have rv9 : 0 ≤ vb4 23 ∧ vb4 23 ≤ 500 := bxb4.1 23
                          refine m_lv (lv2 := [(3, .int (iI y)), (0, .ref h0), (1, .int (iI q)), (2, .int (iI u))]) [0, 1, 2, 3] rfl ?_
                          exact ih1  y _ _ (by omega) bxb4 fpb4 (by omega) (by show 0 ≤ (vb4 23) ∧ (vb4 23) + q ≤ y; omega) (Or.inr (Or.inr (by omega))) hI3
                        · refine m_aload_n (j := 1) C dX12_takeWord_64 rfl ?_
                          refine m_geta (k := 29) C dX12_takeWord_65 w6_88 (by decide) rfl ?_
                          refine m_iload_n (j := 0) C dX12_takeWord_68 rfl ?_
                          refine m_ald (k := 29) C dX12_takeWord_69 rfl rfl (by decide) (by omega) (by show _ < ((_ : Nat) : Int); simp only [mlen]; omega) (by decide) ?_
                          refine m_st (st2 := [.int (iI (a 29 y.toNat))]) (congrArg (fun z => Value.int (iI z) :: []) (congrFun (fpb4.2 29 rfl) (y.toNat))) ?_
                          refine m_bipush (z := 126) C dX12_takeWord_70 (by decide) ?_
                          refine m_icmp_ne (tgt := 99) C ⟨by omega, by omega⟩ ⟨by decide, by decide⟩ dX12_takeWord_72 (by decide) (fun c11 => ?_) (fun c11 => ?_)
                          · refine m_aload_n (j := 1) C dX12_takeWord_99 rfl ?_
                            refine m_geta (k := 20) C dX12_takeWord_100 w6_79 (by decide) rfl ?_
                            refine m_aload_n (j := 1) C dX12_takeWord_103 rfl ?_
                            have rv10 : 0 ≤ vb4 23 ∧ vb4 23 ≤ 500 := bxb4.1 23
                            refine m_get (k := 23) C dX12_takeWord_104 w6_82 (by decide) rfl ?_
                            refine m_aload_n (j := 1) C dX12_takeWord_107 rfl ?_
                            refine m_geta (k := 29) C dX12_takeWord_108 w6_88 (by decide) rfl ?_
                            refine m_iload_n (j := 0) C dX12_takeWord_111 rfl ?_
                            refine m_ald (k := 29) C dX12_takeWord_112 rfl rfl (by decide) (by omega) (by show _ < ((_ : Nat) : Int); simp only [mlen]; omega) (by decide) ?_
                            refine m_st (st2 := [.int (iI (a 29 y.toNat)), .int (iI (vb4 23)), .ref (ad 20)]) (congrArg (fun z => Value.int (iI z) :: [.int (iI (vb4 23)), .ref (ad 20)]) (congrFun (fpb4.2 29 rfl) (y.toNat))) ?_
                            refine m_ast (k := 20) C dX12_takeWord_113 rfl rfl (by decide) rv10.1 (Int.lt_of_le_of_lt rv10.2 (by decide)) (by decide) ?_
                            refine hv2 (show BX vb4 (up2 ab4 20 (vb4 23).toNat (a 29 y.toNat)) from bxb4.set (k := 20) (i := (vb4 23).toNat) (z := a 29 y.toNat) (show (-2147483648) ≤ (a 29 y.toNat) ∧ (a 29 y.toNat) ≤ 2147483647 by omega)) (fpb4.set (k := 20) (i := (vb4 23).toNat) (z := a 29 y.toNat) rfl) (fun bq10 fq10 => ?_)
                            refine m_aload_n (j := 1) C dX12_takeWord_114 rfl ?_
                            refine m_geta (k := 21) C dX12_takeWord_115 w6_80 (by decide) rfl ?_
                            refine m_aload_n (j := 1) C dX12_takeWord_118 rfl ?_
                            refine m_get (k := 23) C dX12_takeWord_119 w6_82 (by decide) rfl ?_
                            refine m_iload_n (j := 0) C dX12_takeWord_122 rfl ?_
                            refine m_ast (k := 21) C dX12_takeWord_123 rfl rfl (by decide) rv10.1 (Int.lt_of_le_of_lt rv10.2 (by decide)) (by decide) ?_
                            refine hv2 (show BX vb4 (up2 (up2 ab4 20 (vb4 23).toNat (a 29 y.toNat)) 21 (vb4 23).toNat y) from bq10.set (k := 21) (i := (vb4 23).toNat) (z := y) (show (-2147483648) ≤ y ∧ y ≤ 2147483647 by omega)) (fq10.set (k := 21) (i := (vb4 23).toNat) (z := y) rfl) (fun bq11 fq11 => ?_)
                            refine m_aload_n (j := 1) C dX12_takeWord_124 rfl ?_
                            refine m_dup C dX12_takeWord_125 rfl ?_
                            refine m_get (k := 23) C dX12_takeWord_126 w6_82 (by decide) rfl ?_
                            refine m_iconst C dX12_takeWord_129 ?_
                            refine m_iadd C dX12_takeWord_130 ?_
                            refine m_put (k := 23) (z := (vb4 23) + 1) C dX12_takeWord_131 w6_82 (by decide) rfl rfl rfl ?_
                            refine hv2 (show BX (va_up vb4 23 ((vb4 23) + 1)) (up2 (up2 ab4 20 (vb4 23).toNat (a 29 y.toNat)) 21 (vb4 23).toNat y) from bq11.put (k := 23) (z := (vb4 23) + 1) (show 0 ≤ ((vb4 23) + 1) ∧ ((vb4 23) + 1) ≤ 500 by omega)) (fq11.put (k := 23) (z := (vb4 23) + 1) rfl) (fun bq12 fq12 => ?_)
                            refine m_aload_n (j := 1) C dX12_takeWord_134 rfl ?_
                            refine m_geta (k := 22) C dX12_takeWord_135 w6_81 (by decide) rfl ?_
                            refine m_aload_n (j := 1) C dX12_takeWord_138 rfl ?_
                            refine m_get (k := 23) C dX12_takeWord_139 w6_82 (by decide) rfl ?_
                            refine m_st (st2 := [.int (iI ((vb4 23) + 1)), .ref (ad 22)]) rfl ?_
                            refine m_iconst C dX12_takeWord_142 ?_
                            refine m_zast (k := 22) (w := 0) C dX12_takeWord_143 rfl rfl (by decide) (by omega) (by show _ < ((_ : Nat) : Int); simp only [mlen]; omega) (by decide) (by omega) ?_
                            refine hv2 (show BX (va_up vb4 23 ((vb4 23) + 1)) (up2 (up2 (up2 ab4 20 (vb4 23).toNat (a 29 y.toNat)) 21 (vb4 23).toNat y) 22 ((vb4 23) + 1).toNat 0) from bq12.set (k := 22) (i := ((vb4 23) + 1).toNat) (z := 0) ⟨by decide, by decide⟩) (fq12.set (k := 22) (i := ((vb4 23) + 1).toNat) (z := 0) rfl) (fun bq13 fq13 => ?_)
                            refine m_iinc (z := y) (j := 0) (lv2 := [(3, .int (iI (y + 1))), (0, .ref h0), (1, .int (iI q)), (2, .int (iI u))]) C dX12_takeWord_144 rfl (by decide) rfl ?_
                            refine m_goto (tgt := 48) C dX12_takeWord_147 (by decide) ?_
                            refine m_lv (lv2 := [(3, .int (iI (y + 1))), (0, .ref h0), (1, .int (iI q)), (2, .int (iI u))]) [0, 1, 2, 3] rfl ?_
                            exact ih4  (y + 1) _ _ (by omega) bq13 fq13 (by omega) (by show 0 ≤ ((vb4 23) + 1) ∧ ((vb4 23) + 1) + q ≤ (y + 1); omega) (by omega) (hI3.ltr ⟨by omega, by omega⟩ (hL.2.1 y (by omega) (by omega)) (by omega) (by omega) rfl rfl (by omega) (va_up_self _ _ _) (by omega) rfl)
                          · refine m_aload_n (j := 1) C dX12_takeWord_75 rfl ?_
                            refine m_geta (k := 22) C dX12_takeWord_76 w6_81 (by decide) rfl ?_
                            refine m_aload_n (j := 1) C dX12_takeWord_79 rfl ?_
                            have rv11 : 0 ≤ vb4 23 ∧ vb4 23 ≤ 500 := bxb4.1 23
                            refine m_get (k := 23) C dX12_takeWord_80 w6_82 (by decide) rfl ?_
                            refine m_aload_n (j := 1) C dX12_takeWord_83 rfl ?_
                            refine m_get (k := 23) C dX12_takeWord_84 w6_82 (by decide) rfl ?_
                            refine m_if_le (tgt := 94) C (r32_c (lo := 0) (hi := 500) rv11.1 rv11.2 (by decide) (by decide)) dX12_takeWord_87 (by decide) (fun c12 => ?_) (fun c12 => ?_)
                            · refine m_iconst C dX12_takeWord_94 ?_
                              refine m_zast (k := 22) (w := 0) C dX12_takeWord_95 rfl rfl (by decide) rv11.1 (Int.lt_of_le_of_lt rv11.2 (by decide)) (by decide) (by omega) ?_
                              refine hv2 (show BX vb4 (up2 ab4 22 (vb4 23).toNat 0) from bxb4.set (k := 22) (i := (vb4 23).toNat) (z := 0) ⟨by decide, by decide⟩) (fpb4.set (k := 22) (i := (vb4 23).toNat) (z := 0) rfl) (fun bq14 fq14 => ?_)
                              refine m_goto (tgt := 144) C dX12_takeWord_96 (by decide) ?_
                              refine m_iinc (z := y) (j := 0) (lv2 := [(3, .int (iI (y + 1))), (0, .ref h0), (1, .int (iI q)), (2, .int (iI u))]) C dX12_takeWord_144 rfl (by decide) rfl ?_
                              refine m_goto (tgt := 48) C dX12_takeWord_147 (by decide) ?_
                              refine m_lv (lv2 := [(3, .int (iI (y + 1))), (0, .ref h0), (1, .int (iI q)), (2, .int (iI u))]) [0, 1, 2, 3] rfl ?_
                              exact ih4  (y + 1) _ _ (by omega) bq14 fq14 (by omega) (by show 0 ≤ (vb4 23) ∧ (vb4 23) + q ≤ (y + 1); omega) (by omega) (hI3.til ⟨by omega, by omega⟩ (by omega) rfl (by omega))
                            · refine m_iconst C dX12_takeWord_90 ?_
                              refine m_goto (tgt := 95) C dX12_takeWord_91 (by decide) ?_
                              refine m_zast (k := 22) (w := 1) C dX12_takeWord_95 rfl rfl (by decide) rv11.1 (Int.lt_of_le_of_lt rv11.2 (by decide)) (by decide) (by omega) ?_
                              refine hv2 (show BX vb4 (up2 ab4 22 (vb4 23).toNat 1) from bxb4.set (k := 22) (i := (vb4 23).toNat) (z := 1) ⟨by decide, by decide⟩) (fpb4.set (k := 22) (i := (vb4 23).toNat) (z := 1) rfl) (fun bq15 fq15 => ?_)
                              refine m_goto (tgt := 144) C dX12_takeWord_96 (by decide) ?_
                              refine m_iinc (z := y) (j := 0) (lv2 := [(3, .int (iI (y + 1))), (0, .ref h0), (1, .int (iI q)), (2, .int (iI u))]) C dX12_takeWord_144 rfl (by decide) rfl ?_
                              refine m_goto (tgt := 48) C dX12_takeWord_147 (by decide) ?_
                              refine m_lv (lv2 := [(3, .int (iI (y + 1))), (0, .ref h0), (1, .int (iI q)), (2, .int (iI u))]) [0, 1, 2, 3] rfl ?_
                              exact ih4  (y + 1) _ _ (by omega) bq15 fq15 (by omega) (by show 0 ≤ (vb4 23) ∧ (vb4 23) + q ≤ (y + 1); omega) (by omega) (hI3.til ⟨by omega, by omega⟩ (by omega) rfl (by omega))
                  have rv12 : 0 ≤ vb2 23 ∧ vb2 23 ≤ 500 := bq9.1 23
                  refine m_lv (lv2 := [(3, .int (iI z)), (0, .ref h0), (1, .int (iI q)), (2, .int (iI u))]) [0, 1, 2, 3] rfl ?_
                  exact Lp4 503 z _ _ (by omega) bq9 fq9 (by omega) (by show 0 ≤ (vb2 23) ∧ (vb2 23) + q ≤ z; omega) (by omega) (hI2.m0 (by omega))
                · refine m_iinc (z := z) (j := 0) (lv2 := [(3, .int (iI (z + 1))), (0, .ref h0), (1, .int (iI q)), (2, .int (iI u))]) C dX12_takeWord_35 rfl (by decide) rfl ?_
                  refine m_goto (tgt := 19) C dX12_takeWord_38 (by decide) ?_
                  have rv13 : 0 ≤ vb2 23 ∧ vb2 23 ≤ 500 := bxb2.1 23
                  refine m_lv (lv2 := [(3, .int (iI (z + 1))), (0, .ref h0), (1, .int (iI q)), (2, .int (iI u))]) [0, 1, 2, 3] rfl ?_
                  exact ih2  (z + 1) _ _ (by omega) bxb2 fpb2 (by omega) (by show (vb2 23) = 0; omega) (hI2.sp ⟨by omega, by omega⟩ (by omega) (by omega))
          refine m_lv (lv2 := [(3, .int (iI x)), (0, .ref h0), (1, .int (iI q)), (2, .int (iI u))]) [0, 1, 2, 3] rfl ?_
          exact Lp2 503 x _ _ (by omega) bxb1 fpb1 (by omega) (by show (vb1 23) = 0; omega) hI
  refine m_lv (lv2 := [(3, .int (iI q)), (0, .ref h0), (1, .int (iI q)), (2, .int (iI u))]) [0, 1, 2, 3] rfl ?_
  exact Lp1 503 q _ _ (by omega) bq1 fq1 (by omega) (by show 0 ≤ 0 ∧ 0 + q ≤ q; omega) (Or.inl (va_up_self _ _ _)) (TKW.init (va_up_self _ _ _))
end
section
def nxt (T : Nat → Int) (N : Int) (s : Int × Nat × List (List (Int × Nat × Int))) : Int × Nat × List (List (Int × Nat × Int)) := if s.1 = 0 then (if N ≤ ((s.2.1 : Nat) : Int) then s else (1, s.2.1 + (if T s.2.1 = 94 then 1 else 0), s.2.2)) else (if (TWF T N ((s.2.1 : Nat) : Int)).2.length = 0 then (0, (TWF T N ((s.2.1 : Nat) : Int)).1 + 1, s.2.2) else (1, (TWF T N ((s.2.1 : Nat) : Int)).1, s.2.2 ++ [(TWF T N ((s.2.1 : Nat) : Int)).2]))
def itr (T : Nat → Int) (N : Int) : Nat → Int × Nat × List (List (Int × Nat × Int))
  | 0 => (0, 0, [])
  | k + 1 => nxt T N (itr T N k)
def RUN (T : Nat → Int) (N m : Int) (p : Int) (ws : List (List (Int × Nat × Int))) : Prop := 0 ≤ p ∧ ∃ k, itr T N k = (m, p.toNat, ws)
def lts (w : List (Int × Nat × Int)) : Nat → Int := fun j => ((w[j]?).map (fun x => x.1)).getD 0
def WST (a : Nat → Nat → Int) (t : Int) (w : List (Int × Nat × Int)) (cs : List Int) : Prop := SWC a (lts w) ((w.length : Nat) : Int) t cs
def ENDS (T : Nat → Int) (N : Int) (ws : List (List (Int × Nat × Int))) : Prop := ∃ p, RUN T N 0 p ws ∧ N ≤ p
section SAVE
variable {v v1 v2 : Nat → Int} {a a1 a2 : Nat → Nat → Int} {T : Nat → Int} {N q u p b f f1 f2 z x y m t n n1 n2 s : Int} {w : List (Int × Nat × Int)} {ws ws2 : List (List (Int × Nat × Int))} {k d : Nat} {cs : List Int}
theorem itr_s (k : Nat) : itr T N (k + 1) = nxt T N (itr T N k) := rfl
theorem nxt_ext (s : Int × Nat × List (List (Int × Nat × Int))) : ∃ r, (nxt T N s).2.2 = s.2.2 ++ r := by
  unfold nxt
  split
  · split
    · exact ⟨[], (List.append_nil _).symm⟩
    · exact ⟨[], (List.append_nil _).symm⟩
  · split
    · exact ⟨[], (List.append_nil _).symm⟩
    · exact ⟨_, rfl⟩
theorem itr_ext (k : Nat) : ∀ d : Nat, ∃ r, (itr T N (k + d)).2.2 = (itr T N k).2.2 ++ r := by
  intro d
  induction d with
  | zero => exact ⟨[], (List.append_nil _).symm⟩
  | succ d ih =>
    obtain ⟨r, h⟩ := ih
    obtain ⟨r2, h2⟩ := nxt_ext (T := T) (N := N) (itr T N (k + d))
    refine ⟨r ++ r2, ?_⟩
    rw [← Nat.add_assoc, itr_s, h2, h, List.append_assoc]
theorem itr_end {P : Nat} (h : itr T N k = (0, P, ws)) (hN : N ≤ ((P : Nat) : Int)) : ∀ d : Nat, itr T N (k + d) = (0, P, ws) := by
  intro d
  induction d with
  | zero => exact h
  | succ d ih =>
    rw [← Nat.add_assoc, itr_s, ih]
    unfold nxt
    rw [if_pos (by show (0 : Int) = 0; rfl), if_pos (by show N ≤ ((P : Nat) : Int); exact hN)]
theorem RUN.sub (h : RUN T N m p ws) (h2 : ENDS T N ws2) : ∃ r, ws2 = ws ++ r := by
  obtain ⟨_, k, e⟩ := h
  obtain ⟨p2, ⟨_, k2, e2⟩, hN⟩ := h2
  have e3 := itr_end e2 (by omega) k
  obtain ⟨r, h4⟩ := itr_ext (T := T) (N := N) k k2
  rw [Nat.add_comm k k2, e3, e] at h4
  exact ⟨r, h4⟩
theorem ENDS.uni (h : ENDS T N ws) (h2 : ENDS T N ws2) : ws = ws2 := by
  obtain ⟨p, g, gN⟩ := h
  obtain ⟨r, e⟩ := g.sub h2
  obtain ⟨p2, g2, gN2⟩ := h2
  obtain ⟨r2, e2⟩ := g2.sub ⟨p, g, gN⟩
  refine hv2 (congrArg List.length e) (congrArg List.length e2) (fun l1 l2 => ?_)
  rw [List.length_append] at l1 l2
  have z1 : r = [] := List.length_eq_zero_iff.mp (by omega)
  rw [e, z1, List.append_nil]
theorem RUN.zero : RUN T N 0 0 [] := ⟨Int.le_refl _, 0, rfl⟩
theorem RUN.enter (h : RUN T N 0 p ws) (hp : p < N) (hz : (T p.toNat = 94 ∧ z = p + 1) ∨ (T p.toNat ≠ 94 ∧ z = p)) : RUN T N 1 z ws := by
  obtain ⟨h0, k, e⟩ := h
  refine ⟨by omega, k + 1, ?_⟩
  rw [itr_s, e]
  unfold nxt
  rw [if_pos (by show (0 : Int) = 0; rfl), if_neg (by show ¬ N ≤ ((p.toNat : Nat) : Int); omega)]
  show ((1 : Int), p.toNat + (if T p.toNat = 94 then 1 else 0), ws) = (1, z.toNat, ws)
  rcases hz with ⟨e1, e2⟩ | ⟨e1, e2⟩
  · rw [if_pos e1, show z.toNat = p.toNat + 1 by omega]
  · rw [if_neg e1, show z.toNat = p.toNat + 0 by omega]
theorem nxt1 (P : Nat) (hP : ((P : Nat) : Int) = p) : nxt T N (1, P, ws) = if (TWF T N p).2.length = 0 then (0, (TWF T N p).1 + 1, ws) else (1, (TWF T N p).1, ws ++ [(TWF T N p).2]) := by
  subst hP
  unfold nxt
  rw [if_neg (by show ¬ (1 : Int) = 0; decide)]
theorem RUN.word (h : RUN T N 1 p ws) (hr : TWF T N p = (z.toNat, w)) (hz : 0 ≤ z) (hw : w.length ≠ 0) : RUN T N 1 z (ws ++ [w]) := by
  obtain ⟨h0, k, e⟩ := h
  refine hv2 (show (TWF T N p).2 = w from congrArg Prod.snd hr) (show (TWF T N p).1 = z.toNat from congrArg Prod.fst hr) (fun e3 e4 => ?_)
  refine ⟨hz, k + 1, ?_⟩
  rw [itr_s, e, nxt1 (p := p) p.toNat (by omega), e3, e4, if_neg hw]
theorem RUN.line (h : RUN T N 1 p ws) (hr : TWF T N p = (z.toNat, w)) (hz : 0 ≤ z) (hw : w.length = 0) : RUN T N 0 (z + 1) ws := by
  obtain ⟨h0, k, e⟩ := h
  refine hv2 (show (TWF T N p).2 = w from congrArg Prod.snd hr) (show (TWF T N p).1 = z.toNat from congrArg Prod.fst hr) (fun e3 e4 => ?_)
  refine ⟨by omega, k + 1, ?_⟩
  rw [itr_s, e, nxt1 (p := p) p.toNat (by omega), e3, e4, if_pos hw, show (z + 1).toNat = z.toNat + 1 by omega]
theorem SWC.len (h : SWC a (lts w) N t cs) : cs.length ≤ 200 := by
  rcases h with ⟨_, ps, ⟨_, h4⟩, h5⟩ | ⟨_, h2, _⟩
  · rw [h5]; omega
  · exact h2
theorem lts_w (h : WDH v a w) : AGW (a 20) (lts w) 0 ((w.length : Nat) : Int) := fun j h1 h2 => by
  have lt : j.toNat < w.length := by omega
  have g := (h.2 j.toNat _ (List.getElem?_eq_getElem lt)).1
  rw [g]
  show _ = ((w[j.toNat]?).map (fun x => x.1)).getD 0
  (rw [List.getElem?_eq_getElem lt]) <;> rfl
end SAVE
section SAV2
variable {v v1 v2 v3 : Nat → Int} {a a1 a2 a3 : Nat → Nat → Int} {T : Nat → Int} {N q u p b f f1 f2 z x y m t n n1 n2 s s2 k c : Int} {w : List (Int × Nat × Int)} {ws ws2 : List (List (Int × Nat × Int))} {cs : List Int}
theorem tw_len (M : Nat) : ∀ (n P : Nat) (b : Int) (w : List (Int × Nat × Int)), P ≤ (tw T M n P b w).1 ∧ (tw T M n P b w).2.length + P ≤ w.length + (tw T M n P b w).1 := by
  intro n
  induction n with
  | zero => intro P b w; exact ⟨Nat.le_refl _, Nat.le_refl _⟩
  | succ n ih =>
    intro P b w
    rw [tw_s]
    split
    · exact ⟨Nat.le_refl _, Nat.le_refl _⟩
    · split
      · split
        · have g := ih (P + 1) b w
          exact ⟨by omega, by omega⟩
        · exact ⟨Nat.le_refl _, Nat.le_refl _⟩
      · split
        · have g := ih (P + 1) 1 w
          exact ⟨by omega, by omega⟩
        · have g := ih (P + 1) 0 (w ++ [(T P, P, b)])
          have e0 : (w ++ [(T P, P, b)]).length = w.length + 1 := by rw [List.length_append]; rfl
          exact ⟨by omega, by omega⟩
theorem itr_len : ∀ k : Nat, (itr T N k).2.2.length ≤ (itr T N k).2.1 := by
  intro k
  induction k with
  | zero => exact Nat.le_refl _
  | succ k ih =>
    rw [itr_s]
    unfold nxt
    have g := tw_len (T := T) N.toNat (N.toNat + 1 - (((itr T N k).2.1 : Nat) : Int).toNat) (((itr T N k).2.1 : Nat) : Int).toNat 0 []
    have g2 : (itr T N k).2.1 ≤ (TWF T N (((itr T N k).2.1 : Nat) : Int)).1 ∧ (TWF T N (((itr T N k).2.1 : Nat) : Int)).2.length + (itr T N k).2.1 ≤ (TWF T N (((itr T N k).2.1 : Nat) : Int)).1 := by
      refine hv2 (g.1) (g.2) (fun g1 g3 => ?_)
      rw [Int.toNat_natCast] at g1 g3
      unfold TWF
      rw [Int.toNat_natCast]
      have e0 : ([] : List (Int × Nat × Int)).length = 0 := rfl
      exact ⟨g1, by omega⟩
    split
    · split
      · exact ih
      · show (itr T N k).2.2.length ≤ (itr T N k).2.1 + (if T (itr T N k).2.1 = 94 then 1 else 0)
        omega
    · split
      · show (itr T N k).2.2.length ≤ (TWF T N (((itr T N k).2.1 : Nat) : Int)).1 + 1
        omega
      · rename_i c
        show ((itr T N k).2.2 ++ [(TWF T N (((itr T N k).2.1 : Nat) : Int)).2]).length ≤ (TWF T N (((itr T N k).2.1 : Nat) : Int)).1
        have e0 : ((itr T N k).2.2 ++ [(TWF T N (((itr T N k).2.1 : Nat) : Int)).2]).length = (itr T N k).2.2.length + 1 := by rw [List.length_append]; rfl
        omega
theorem RUN.len (h : RUN T N m p ws) : ((ws.length : Nat) : Int) ≤ p := by
  obtain ⟨h0, k, e⟩ := h
  have g := itr_len (T := T) (N := N) k
  rw [e] at g
  have g2 : ws.length ≤ p.toNat := g
  omega
theorem SWT.wst (hs : SWT v1 a1 v2 a2 t f) (hE : TBE a1 a) (hw : WDH v1 a1 w) (h12 : ∀ i, 0 ≤ a 12 i) (h13 : ∀ i, 0 ≤ a1 12 i) : (f = 1 → ∃ cs, WST a t w cs ∧ v2 25 = ((cs.length : Nat) : Int)) ∧ (f ≠ 1 → ¬ ∃ cs, WST a t w cs) := by
  refine hv2 (lts_w hw) (hw.1) (fun ag e => ?_)
  refine ⟨fun q => ?_, fun q g => ?_⟩
  · obtain ⟨cs, g1, g2⟩ := hs.2.1 q
    rw [e] at g1
    exact ⟨cs, SWC_w ag h12 (SWC_cg hE g1), g2.1⟩
  · obtain ⟨cs, g1⟩ := g
    refine hs.2.2 q ⟨cs, ?_⟩
    rw [e]
    exact SWC_w (fun j h1 h2 => (ag j h1 h2).symm) h13 (SWC_cg hE.symm g1)
theorem LEX.tkp (h : LEX T N p u) (hu : p ≤ u ∧ (u = p ∨ u ≤ N)) (hp : p < N) (hz : (T p.toNat = 94 ∧ z = p + 1) ∨ (T p.toNat ≠ 94 ∧ z = p)) : TKP T N z u := by
  have hN : u ≤ N := by omega
  have h1 : z ≤ u := by
    rcases hz with ⟨e1, e2⟩ | ⟨_, e2⟩
    · by_cases c : p = u
      · subst c
        rcases h.2 with g | g
        · omega
        · omega
      · omega
    · omega
  refine ⟨⟨h1, hN⟩, fun j j1 j2 => h.1 j (by omega) j2, ?_⟩
  rcases h.2 with g | g
  · exact Or.inl (by omega)
  · exact Or.inr g
theorem TKP.sub (h : TKP T N q u) (hz : q ≤ z ∧ z ≤ u) : TKP T N z u := ⟨⟨hz.2, h.1.2⟩, fun j j1 j2 => h.2.1 j (by omega) j2, h.2.2⟩
end SAV2
end
section
def LNH (a : Nat → Nat → Int) (l : Nat) (xs : List Int) : Prop := a 37 l = ((xs.length : Nat) : Int) ∧ ∀ (j : Nat) (x : Int), xs[j]? = some x → a 38 (200 * l + j) = x
def DRH (v : Nat → Int) (a : Nat → Nat → Int) (D : List (List Int)) : Prop := v 39 = ((D.length : Nat) : Int) ∧ ∀ (l : Nat) (xs : List Int), D[l]? = some xs → LNH a l xs
def bks (w : List (Int × Nat × Int)) : Nat → Int := fun j => ((w[j]?).map (fun x => x.2.2)).getD 0
abbrev kok (k n c d : Int) : Prop := k ≤ 3 ∧ (k = 2 → ¬ isD c ∧ ¬ isD d) ∧ (k = 3 → 6 ≤ n)
def lbk (w : List (Int × Nat × Int)) (k : Int) (st : Nat → Int) (d r : Int) : Nat → Int
  | 0 => -1
  | i + 1 => if 1 ≤ i ∧ bks w i ≠ 0 ∧ d < st i ∧ st i - d + 1 ≤ r ∧ kok k ((w.length : Nat) : Int) (lts w (i - 1)) (lts w i) then st i else lbk w k st d r i
def pql (xs : List Int) : List Int := if xs.length = 0 then [] else xs ++ [0]
def sgm (cs : List Int) (d : Nat) : Nat → List Int
  | 0 => []
  | n + 1 => sgm cs d n ++ [(cs[d + n]?).getD 0]
def rom (wd : Int) (xs : List Int) : Int := if xs.length = 0 then wd else wd - (((xs.length : Nat) : Int) + 1)
def flw (br : Int → Int → Int) (wd hy : Int) (cs : List Int) : Nat → Nat → List (List Int) → List Int → Option (List (List Int))
  | 0, _, _, _ => none
  | n + 1, d, D, xs => if ((cs.length : Nat) : Int) - ((d : Nat) : Int) ≤ rom wd xs then some (D ++ [pql xs ++ sgm cs d (cs.length - d)]) else if 0 ≤ br ((d : Nat) : Int) (rom wd xs) then (if D.length + 1 < 200 then flw br wd hy cs n (br ((d : Nat) : Int) (rom wd xs)).toNat (D ++ [(pql xs ++ sgm cs d ((br ((d : Nat) : Int) (rom wd xs)).toNat - d)) ++ [hy]]) [] else none) else if xs.length = 0 then some (D ++ [pql xs ++ sgm cs d (cs.length - d)]) else if D.length + 1 < 200 then flw br wd hy cs n d (D ++ [xs]) [] else none
def cen (wd : Int) (xs : List Int) : List Int := if xs.length = 0 ∨ wd ≤ ((xs.length : Nat) : Int) then xs else List.replicate ((wd - ((xs.length : Nat) : Int)) / 2).toNat 0 ++ xs
def cnl (wd : Int) : Nat → List (List Int) → List (List Int)
  | _, [] => []
  | 0, xs :: D => cen wd xs :: cnl wd 0 D
  | b + 1, xs :: D => xs :: cnl wd b D
def NLX (v : Nat → Int) (a : Nat → Nat → Int) (v2 : Nat → Int) (a2 : Nat → Nat → Int) (f : Int) : Prop := ∀ D, DRH v a D → (f = 1 ∧ D.length < 200 ∧ DRH v2 a2 (D ++ [[]])) ∨ (f = 0 ∧ D.length = 200)
def PUC (v : Nat → Int) (a : Nat → Nat → Int) (v2 : Nat → Int) (a2 : Nat → Nat → Int) (x : Int) : Prop := ∀ D xs, DRH v a (D ++ [xs]) → DRH v2 a2 (D ++ [xs ++ [x]])
def BGT (a : Nat → Nat → Int) (t : Int) (w : List (Int × Nat × Int)) (cs : List Int) (st : Nat → Int) : Prop := a 6 t.toNat ≠ 5 → ∀ j : Nat, j < w.length → a 26 j = st j ∧ st j < ((cs.length : Nat) : Int)
def brk (a : Nat → Nat → Int) (t : Int) (w : List (Int × Nat × Int)) (st : Nat → Int) (d r : Int) : Int := lbk w (a 6 t.toNat) st d r w.length
def BRI (v : Nat → Int) (a : Nat → Nat → Int) (t q z k f : Int) : Prop := ∀ w cs st, WDH v a w → BGT a t w cs st → f = lbk w (a 6 t.toNat) st q z k.toNat
def BRQ (v : Nat → Int) (a : Nat → Nat → Int) (t q z f : Int) : Prop := ∀ w cs st, WDH v a w → BGT a t w cs st → f = brk a t w st q z
def FCX (v : Nat → Int) (a : Nat → Nat → Int) (t : Int) (D : List (List Int)) (xs : List Int) (cs : List Int) (w : List (Int × Nat × Int)) (st : Nat → Int) : Prop := DRH v a (D ++ [xs]) ∧ MDH v a cs ∧ WDH v a w ∧ BGT a t w cs st
def FLV (v : Nat → Int) (a : Nat → Nat → Int) (t : Int) (D : List (List Int)) (xs : List Int) (cs : List Int) (w : List (Int × Nat × Int)) (st : Nat → Int) : Option (List (List Int)) := flw (brk a t w st) (v 31) (v 33) cs 201 0 D xs
def FLR (v : Nat → Int) (a : Nat → Nat → Int) (t : Int) (D : List (List Int)) (xs : List Int) (cs : List Int) (w : List (Int × Nat × Int)) (st : Nat → Int) (x : Int) (D1 : List (List Int)) (x1 : List Int) : Prop := ∃ n, 201 ≤ n + D1.length ∧ FLV v a t D xs cs w st = flw (brk a t w st) (v 31) (v 33) cs n x.toNat D1 x1
def FL2 (v : Nat → Int) (a : Nat → Nat → Int) (v1 : Nat → Int) (a1 : Nat → Nat → Int) (t x : Int) : Prop := ∀ D xs cs w st, FCX v a t D xs cs w st → ∃ D1 x1, FLR v a t D xs cs w st x D1 x1 ∧ DRH v1 a1 (D1 ++ [x1])
def FL4 (v : Nat → Int) (a : Nat → Nat → Int) (v1 : Nat → Int) (a1 : Nat → Nat → Int) (t x h k : Int) : Prop := ∀ D xs cs w st, FCX v a t D xs cs w st → ∃ D1 x1, FLR v a t D xs cs w st x D1 x1 ∧ ((x1.length : Nat) : Int) = h ∧ DRH v1 a1 (D1 ++ [pql x1 ++ sgm cs x.toNat (k - x).toNat])
def FLT (v : Nat → Int) (a : Nat → Nat → Int) (v2 : Nat → Int) (a2 : Nat → Nat → Int) (t f : Int) : Prop := ∀ D xs cs w st, FCX v a t D xs cs w st → (f = 1 → ∃ D2, FLV v a t D xs cs w st = some D2 ∧ DRH v2 a2 D2) ∧ (f ≠ 1 → FLV v a t D xs cs w st = none)
def CN2 (v : Nat → Int) (a : Nat → Nat → Int) (v1 : Nat → Int) (a1 : Nat → Nat → Int) (q x : Int) : Prop := ∀ D, DRH v a D → v1 39 = ((D.length : Nat) : Int) ∧ ∀ (l : Nat) (xs : List Int), D[l]? = some xs → LNH a1 l (if q ≤ ((l : Nat) : Int) ∧ ((l : Nat) : Int) < x then cen (v 31) xs else xs)
section DRAF
variable {v v1 v2 v3 : Nat → Int} {a a1 a2 a3 : Nat → Nat → Int} {D D1 : List (List Int)} {xs ys cs x1 : List Int} {w : List (Int × Nat × Int)} {st : Nat → Int} {x z t q k f h y1 d r hy wd c : Int} {i n l b : Nat} {br : Int → Int → Int}
theorem ap1 {α : Type} {D : List α} {u m : α} {l : Nat} (h : (D ++ [u])[l]? = some m) : (l < D.length ∧ D[l]? = some m) ∨ (l = D.length ∧ u = m) := by
  by_cases c : l < D.length
  · rw [List.getElem?_append_left c] at h
    exact Or.inl ⟨c, h⟩
  · rw [List.getElem?_append_right (by omega)] at h
    refine hv2 (gl3 h) (show ([u] : List α).length = 1 from rfl) (fun lt e1 => ?_)
    have e2 : l - D.length = 0 := by omega
    rw [e2] at h
    cases h
    exact Or.inr ⟨by omega, rfl⟩
theorem ap2 {α : Type} {D : List α} {u : α} : (D ++ [u])[D.length]? = some u := by
  rw [List.getElem?_append_right (Nat.le_refl _), Nat.sub_self]
  rfl
theorem ap3 {α : Type} {D : List α} {u m : α} {l : Nat} (h : D[l]? = some m) : (D ++ [u])[l]? = some m := by
  rw [List.getElem?_append_left (gl3 h)]
  exact h
theorem len1 {α : Type} {D : List α} {u : α} : (D ++ [u]).length = D.length + 1 := by
  rw [List.length_append]
  rfl
theorem LNH.fr (h : LNH a l xs) (h37 : a2 37 l = a 37 l) (h38 : ∀ j : Nat, j < xs.length → a2 38 (200 * l + j) = a 38 (200 * l + j)) : LNH a2 l xs := ⟨h37.trans h.1, fun j x e => (h38 j (gl3 e)).trans (h.2 j x e)⟩
theorem DRH.fr (h : DRH v a D) (hv : v2 39 = v 39) (h37 : a2 37 = a 37) (h38 : a2 38 = a 38) : DRH v2 a2 D := ⟨hv.trans h.1, fun l xs e => (h.2 l xs e).fr (by rw [h37]) (fun j _ => by rw [h38])⟩
theorem DRH.put (h : DRH v a (D ++ [xs])) (hb : ∀ l, a 37 l ≤ 200) (hn : n = (v 39 - 1).toNat) (hi : i = (200 * (v 39 - 1) + a 37 n).toNat) (hz : z = a 37 n + 1) (hv : v2 39 = v 39) : DRH v2 (up2 (up2 a 38 i x) 37 n z) (D ++ [xs ++ [x]]) := by
  obtain ⟨h1, h2⟩ := h
  rw [len1] at h1
  have en : n = D.length := by omega
  obtain ⟨g1, g2⟩ := h2 D.length xs ap2
  rw [en] at hi hz
  have ei : i = 200 * D.length + xs.length := by omega
  refine ⟨by rw [len1]; omega, fun l ys e => ?_⟩
  rcases ap1 e with ⟨c, e⟩ | ⟨c, e⟩
  · obtain ⟨k1, k2⟩ := h2 l ys (ap3 e)
    have k3 := hb l
    refine ⟨by rw [up2_j (by omega), up2_k (by decide)]; exact k1, fun j y ej => ?_⟩
    have lt := gl3 ej
    rw [up2_k (by decide), up2_j (by omega)]
    exact k2 j y ej
  · subst e
    subst c
    refine ⟨by rw [en, up2_s, len1]; omega, fun j y ej => ?_⟩
    rcases ap1 ej with ⟨c, ej⟩ | ⟨c, ej⟩
    · rw [up2_k (by decide), up2_j (by omega)]
      exact g2 j y ej
    · subst ej
      rw [up2_k (by decide), show 200 * D.length + j = i by omega, up2_s]
theorem DRH.new (h : DRH v a D) (hn : n = (v 39).toNat) (hv : v2 39 = v 39 + 1) : DRH v2 (up2 a 37 n 0) (D ++ [[]]) := by
  obtain ⟨h1, h2⟩ := h
  refine ⟨by rw [len1]; omega, fun l ys e => ?_⟩
  rcases ap1 e with ⟨c, e⟩ | ⟨c, e⟩
  · exact (h2 l ys e).fr (up2_j (by omega)) (fun j _ => up2_k (by decide))
  · subst e
    exact ⟨by rw [show l = n by omega, up2_s]; rfl, fun j y ej => by simp at ej⟩
theorem PUC.mk {o : Option Value} (hB : BX v a) (h : o = none ∧ v = v2 ∧ a2 = up2 (up2 a 38 (200 * (v 39 - 1) + a 37 (v 39 - 1).toNat).toNat x) 37 (v 39 - 1).toNat (a 37 (v 39 - 1).toNat + 1)) : PUC v a v2 a2 x := fun D xs hD => by
  obtain ⟨_, e1, e2⟩ := h
  rw [e2, ← e1]
  exact hD.put (fun l => (hB.2 37 l).2) rfl rfl rfl rfl
theorem NLX.mk {o : Option Value} (h : ∃ f : Int, o = some (.int (iI f)) ∧ ((f = 1 ∧ v 39 < 200 ∧ v2 = va_up v 39 (v 39 + 1) ∧ a2 = up2 a 37 (v 39).toNat 0) ∨ (f = 0 ∧ v 39 = 200 ∧ v = v2 ∧ a = a2))) : ∃ f : Int, o = some (.int (iI f)) ∧ (f = 0 ∨ f = 1) ∧ NLX v a v2 a2 f := by
  obtain ⟨f, e, h⟩ := h
  refine ⟨f, e, ?_, fun D hD => ?_⟩
  · rcases h with ⟨e1, _⟩ | ⟨e1, _⟩
    · exact Or.inr e1
    · exact Or.inl e1
  · have e0 := hD.1
    rcases h with ⟨e1, e2, e3, e4⟩ | ⟨e1, e2, e3, e4⟩
    · refine Or.inl ⟨e1, by omega, ?_⟩
      rw [e4]
      exact hD.new rfl (by rw [e3]; exact va_up_self _ _ _)
    · exact Or.inr ⟨e1, by omega⟩
theorem WDH.lx (h : WDH v a w) (hj : n < w.length) : a 20 n = lts w n := by
  have g := (h.2 n _ (List.getElem?_eq_getElem hj)).1
  rw [g]
  show _ = ((w[n]?).map (fun x => x.1)).getD 0
  (rw [List.getElem?_eq_getElem hj]) <;> rfl
theorem WDH.bx (h : WDH v a w) (hj : n < w.length) (h1 : 1 ≤ n) : a 22 n = bks w n := by
  have g := (h.2 n _ (List.getElem?_eq_getElem hj)).2.2 h1
  rw [g]
  show _ = ((w[n]?).map (fun x => x.2.2)).getD 0
  (rw [List.getElem?_eq_getElem hj]) <;> rfl
theorem lbk_s {k : Int} (i : Nat) : lbk w k st d r (i + 1) = if 1 ≤ i ∧ bks w i ≠ 0 ∧ d < st i ∧ st i - d + 1 ≤ r ∧ kok k ((w.length : Nat) : Int) (lts w (i - 1)) (lts w i) then st i else lbk w k st d r i := rfl
theorem BRI.init : BRI v a t q z 1 (-1) := fun w cs st _ _ => by
  show (-1 : Int) = lbk w (a 6 t.toNat) st q z (0 + 1)
  rw [lbk_s, if_neg (fun e => absurd e.1 (by decide))]
  rfl
theorem BRI.hit (h : BRI v a t q z k x) (hk : 1 ≤ k ∧ k < v 23) (h22 : a 22 k.toNat ≠ 0) (h26 : q < a 26 k.toNat) (hz : a 26 k.toNat - q + 1 ≤ z) (hg : kok (a 6 t.toNat) (v 23) (a 20 (k - 1).toNat) (a 20 k.toNat)) (e : f = a 26 k.toNat) : BRI v a t q z (k + 1) f := fun w cs st hw hs => by
  have e0 := hw.1
  have lt : k.toNat < w.length := by omega
  obtain ⟨s1, _⟩ := hs (by have := hg.1; omega) k.toNat lt
  have hl := hw.lx lt
  have hl2 := hw.lx (n := k.toNat - 1) (by omega)
  have hb := hw.bx lt (by omega)
  rw [show (k + 1).toNat = k.toNat + 1 by omega, lbk_s, if_pos]
  · omega
  · rw [← hl, ← hl2, ← hb, ← s1, ← e0, show k.toNat - 1 = (k - 1).toNat by omega]
    exact ⟨by omega, h22, h26, hz, hg⟩
theorem BRI.miss (h : BRI v a t q z k x) (hk : 1 ≤ k ∧ k < v 23) (hn : ¬ (a 22 k.toNat ≠ 0 ∧ q < a 26 k.toNat ∧ a 26 k.toNat - q + 1 ≤ z ∧ kok (a 6 t.toNat) (v 23) (a 20 (k - 1).toNat) (a 20 k.toNat))) : BRI v a t q z (k + 1) x := fun w cs st hw hs => by
  have e0 := hw.1
  have lt : k.toNat < w.length := by omega
  have hl := hw.lx lt
  have hl2 := hw.lx (n := k.toNat - 1) (by omega)
  have hb := hw.bx lt (by omega)
  rw [show (k + 1).toNat = k.toNat + 1 by omega, lbk_s, if_neg]
  · exact h w cs st hw hs
  · intro g
    obtain ⟨g1, g2, g3, g4, g5⟩ := g
    obtain ⟨s1, _⟩ := hs (by have := g5.1; omega) k.toNat lt
    rw [← hl, ← hl2, ← e0, show k.toNat - 1 = (k - 1).toNat by omega] at g5
    rw [← hb] at g2
    rw [← s1] at g3 g4
    exact hn ⟨g2, g3, g4, g5⟩
theorem BRI.fin (h : BRI v a t q z k f) (hk : k = v 23 ∨ (k = 1 ∧ v 23 ≤ 1)) : BRQ v a t q z f := fun w cs st hw hs => by
  refine hv2 (hw.1) (h w cs st hw hs) (fun e0 g => ?_)
  rcases hk with e | ⟨e1, e2⟩
  · rw [show k.toNat = w.length by omega] at g
    exact g
  · have g2 := BRI.init (v := v) (a := a) (t := t) (q := q) (z := z) w cs st hw hs
    rw [e1] at g
    unfold brk
    cases e3 : w.length with
    | zero => rw [g, ← g2]; rfl
    | succ m =>
      have e4 : m = 0 := by omega
      subst e4
      exact g
theorem BRQ.fr (h : BRQ v1 a1 t q z f) (h23 : v1 23 = v 23) (h6 : a1 6 = a 6) (h20 : a1 20 = a 20) (h21 : a1 21 = a 21) (h22 : a1 22 = a 22) (h26 : a1 26 = a 26) : BRQ v a t q z f := fun w cs st hw hs => by
  have g := h w cs st ⟨h23.trans hw.1, fun j y e => by rw [h20, h21, h22]; exact hw.2 j y e⟩ (by unfold BGT; rw [h6, h26]; exact hs)
  unfold brk at g ⊢
  rw [h6] at g
  exact g
theorem lbk_val {k : Int} : ∀ i : Nat, lbk w k st d r i = -1 ∨ ∃ j : Nat, j < i ∧ lbk w k st d r i = st j ∧ (1 ≤ j ∧ bks w j ≠ 0 ∧ d < st j ∧ st j - d + 1 ≤ r ∧ kok k ((w.length : Nat) : Int) (lts w (j - 1)) (lts w j)) := by
  intro i
  induction i with
  | zero => exact Or.inl rfl
  | succ i ih =>
    rw [lbk_s]
    split
    · rename_i c
      exact Or.inr ⟨i, by omega, rfl, c⟩
    · rcases ih with e | ⟨j, h1, h2, h3⟩
      · exact Or.inl e
      · exact Or.inr ⟨j, by omega, h2, h3⟩
theorem brk_lt (hs : BGT a t w cs st) : brk a t w st d r = -1 ∨ (d < brk a t w st d r ∧ brk a t w st d r < ((cs.length : Nat) : Int)) := by
  unfold brk
  rcases lbk_val (w := w) (k := a 6 t.toNat) (st := st) (d := d) (r := r) w.length with e | ⟨j, h1, h2, h3⟩
  · exact Or.inl e
  · have g := (hs (by have := h3.2.2.2.2.1; omega) j h1).2
    refine Or.inr ⟨?_, ?_⟩
    · rw [h2]; exact h3.2.2.1
    · rw [h2]; exact g
theorem flw_s {m d : Nat} : flw br wd hy cs (m + 1) d D xs = if ((cs.length : Nat) : Int) - ((d : Nat) : Int) ≤ rom wd xs then some (D ++ [pql xs ++ sgm cs d (cs.length - d)]) else if 0 ≤ br ((d : Nat) : Int) (rom wd xs) then (if D.length + 1 < 200 then flw br wd hy cs m (br ((d : Nat) : Int) (rom wd xs)).toNat (D ++ [(pql xs ++ sgm cs d ((br ((d : Nat) : Int) (rom wd xs)).toNat - d)) ++ [hy]]) [] else none) else if xs.length = 0 then some (D ++ [pql xs ++ sgm cs d (cs.length - d)]) else if D.length + 1 < 200 then flw br wd hy cs m d (D ++ [xs]) [] else none := rfl
theorem sgm_s (d n : Nat) : sgm cs d (n + 1) = sgm cs d n ++ [(cs[d + n]?).getD 0] := rfl
theorem MDH.g (h : MDH v a cs) (hn : n < cs.length) : a 24 n = (cs[n]?).getD 0 := by
  rw [h.2 n _ (List.getElem?_eq_getElem hn), List.getElem?_eq_getElem hn]
  rfl
theorem FL2.init : FL2 v a v a t 0 := fun D xs cs w st h => ⟨D, xs, ⟨201, by omega, rfl⟩, h.1⟩
theorem FL2.at37 (h : FL2 v a v1 a1 t x) (hc : FCX v a t D xs cs w st) : ∃ D1 x1, FLR v a t D xs cs w st x D1 x1 ∧ DRH v1 a1 (D1 ++ [x1]) ∧ a1 37 (v1 39 - 1).toNat = ((x1.length : Nat) : Int) := by
  obtain ⟨D1, x1, g1, g2⟩ := h D xs cs w st hc
  refine ⟨D1, x1, g1, g2, ?_⟩
  have e := g2.1
  rw [len1] at e
  rw [show (v1 39 - 1).toNat = D1.length by omega]
  exact (g2.2 D1.length x1 ap2).1
theorem FL2.fr (h : FL2 v a v1 a1 t x) (hv : v2 39 = v1 39) (h37 : a2 37 = a1 37) (h38 : a2 38 = a1 38) : FL2 v a v2 a2 t x := fun D xs cs w st hc => by
  obtain ⟨D1, x1, g1, g2⟩ := h D xs cs w st hc
  exact ⟨D1, x1, g1, g2.fr hv h37 h38⟩
theorem FL2.b0 (h : FL2 v a v1 a1 t x) (e : a1 37 (v1 39 - 1).toNat = z) (hz : z ≤ 0) : FL4 v a v1 a1 t x z x := fun D xs cs w st hc => by
  obtain ⟨D1, x1, g1, g2, g3⟩ := h.at37 hc
  refine ⟨D1, x1, g1, by omega, ?_⟩
  have e0 : x1.length = 0 := by omega
  have e1 := List.length_eq_zero_iff.mp e0
  subst e1
  rw [show (x - x).toNat = 0 by omega]
  exact g2
theorem FL2.b1 (h : FL2 v a v1 a1 t x) (e : a1 37 (v1 39 - 1).toNat = z) (hz : 0 < z) (hp : PUC v1 a1 v2 a2 0) : FL4 v a v2 a2 t x z x := fun D xs cs w st hc => by
  obtain ⟨D1, x1, g1, g2, g3⟩ := h.at37 hc
  refine ⟨D1, x1, g1, by omega, ?_⟩
  have g4 := hp D1 x1 g2
  rw [show (x - x).toNat = 0 by omega]
  unfold pql
  rw [if_neg (by omega)]
  show DRH v2 a2 (D1 ++ [(x1 ++ [0]) ++ []])
  rw [List.append_nil]
  exact g4
theorem FL4.put (h : FL4 v a v1 a1 t x c k) (hx : 0 ≤ x) (hk : x ≤ k ∧ k < v 25) (hz : z = a 24 k.toNat) (hp : PUC v1 a1 v2 a2 z) : FL4 v a v2 a2 t x c (k + 1) := fun D xs cs w st hc => by
  obtain ⟨D1, x1, g1, g2, g3⟩ := h D xs cs w st hc
  refine ⟨D1, x1, g1, g2, ?_⟩
  refine hv2 (hc.2.1.1) (hp _ _ g3) (fun e0 g4 => ?_)
  have e1 := hc.2.1.g (n := k.toNat) (by omega)
  rw [show (k + 1 - x).toNat = (k - x).toNat + 1 by omega, sgm_s, show x.toNat + (k - x).toNat = k.toNat by omega, ← e1, ← hz, ← List.append_assoc]
  exact g4
theorem rom_h (e : ((xs.length : Nat) : Int) = h) (hz : (h = 0 ∧ z = wd) ∨ (0 < h ∧ z = wd - (h + 1))) : rom wd xs = z := by
  unfold rom
  split <;> omega
theorem FLR.run {x : Int} (h : FLR v a t D xs cs w st x D1 x1) (hD : D1.length + 1 ≤ 200) : ∃ n, 201 ≤ n + (D1.length + 1) ∧ FLV v a t D xs cs w st = flw (brk a t w st) (v 31) (v 33) cs (n + 1) x.toNat D1 x1 := by
  obtain ⟨n, h1, h2⟩ := h
  cases n with
  | zero => omega
  | succ n => exact ⟨n, by omega, h2⟩
theorem FLR.fits {x : Int} (h : FLR v a t D xs cs w st x D1 x1) (hD : D1.length + 1 ≤ 200) (hx : 0 ≤ x) (hr : rom (v 31) x1 = z) (hc : ((cs.length : Nat) : Int) - x ≤ z) : FLV v a t D xs cs w st = some (D1 ++ [pql x1 ++ sgm cs x.toNat (cs.length - x.toNat)]) := by
  obtain ⟨n, _, h2⟩ := h.run hD
  rw [h2, flw_s, if_pos (by omega)]
theorem FLR.long {x : Int} (h : FLR v a t D xs cs w st x D1 x1) (hD : D1.length + 1 ≤ 200) (hx : 0 ≤ x) (hr : rom (v 31) x1 = z) (hc : z < ((cs.length : Nat) : Int) - x) (hb : brk a t w st x z < 0) (h0 : x1.length = 0) : FLV v a t D xs cs w st = some (D1 ++ [pql x1 ++ sgm cs x.toNat (cs.length - x.toNat)]) := by
  obtain ⟨n, _, h2⟩ := h.run hD
  have ex : ((x.toNat : Nat) : Int) = x := Int.toNat_of_nonneg hx
  rw [h2, flw_s, if_neg (by omega), if_neg (by rw [hr, ex]; omega), if_pos h0]
theorem FLR.next {x : Int} (h : FLR v a t D xs cs w st x D1 x1) (hD : D1.length + 1 < 200) (hx : 0 ≤ x) (hr : rom (v 31) x1 = z) (hc : z < ((cs.length : Nat) : Int) - x) (hb : brk a t w st x z < 0) (h0 : x1.length ≠ 0) : FLR v a t D xs cs w st x (D1 ++ [x1]) [] := by
  obtain ⟨n, h1, h2⟩ := h.run (by omega)
  have ex : ((x.toNat : Nat) : Int) = x := Int.toNat_of_nonneg hx
  refine ⟨n, by rw [len1]; exact h1, ?_⟩
  rw [h2, flw_s, if_neg (by omega), if_neg (by rw [hr, ex]; omega), if_neg h0, if_pos hD]
theorem FLR.nroom {x : Int} (h : FLR v a t D xs cs w st x D1 x1) (hD : D1.length + 1 = 200) (hx : 0 ≤ x) (hr : rom (v 31) x1 = z) (hc : z < ((cs.length : Nat) : Int) - x) (hb : 0 ≤ brk a t w st x z ∨ x1.length ≠ 0) : FLV v a t D xs cs w st = none := by
  obtain ⟨n, _, h2⟩ := h.run (by omega)
  have ex : ((x.toNat : Nat) : Int) = x := Int.toNat_of_nonneg hx
  rw [h2, flw_s, if_neg (by omega)]
  by_cases c : 0 ≤ brk a t w st x z
  · rw [if_pos (by rw [hr, ex]; exact c), if_neg (by omega)]
  · rw [if_neg (by rw [hr, ex]; exact c), if_neg (by omega), if_neg (by omega)]
theorem FLR.part {x : Int} (h : FLR v a t D xs cs w st x D1 x1) (hD : D1.length + 1 < 200) (hx : 0 ≤ x) (hr : rom (v 31) x1 = z) (hc : z < ((cs.length : Nat) : Int) - x) (hb : brk a t w st x z = y1) (h0 : 0 ≤ y1) : FLR v a t D xs cs w st y1 (D1 ++ [(pql x1 ++ sgm cs x.toNat (y1.toNat - x.toNat)) ++ [v 33]]) [] := by
  obtain ⟨n, h1, h2⟩ := h.run (by omega)
  have ex : ((x.toNat : Nat) : Int) = x := Int.toNat_of_nonneg hx
  refine ⟨n, by rw [len1]; exact h1, ?_⟩
  rw [h2, flw_s, if_neg (by omega), hr, ex, hb, if_pos h0, if_pos hD]
theorem DRH.l200 (h : DRH v a (D ++ [xs])) (hv : v 39 ≤ 200) : D.length + 1 ≤ 200 := by
  have e := h.1
  rw [len1] at e
  omega
theorem FL4.fin (h : FL4 v a v1 a1 t x c y1) (hx : 0 ≤ x) (hv : v1 39 ≤ 200) (he : y1 = v 25) (hz : (c = 0 ∧ z = v 31) ∨ (0 < c ∧ z = v 31 - (c + 1))) (hy : v 25 - x ≤ z ∨ (z < v 25 - x ∧ ((c = 0 ∧ BRQ v a t x z (-1)) ∨ BRQ v a t x z y1))) : FLT v a v1 a1 t 1 := fun D xs cs w st hc => ⟨fun _ => by
  obtain ⟨D1, x1, g1, g2, g3⟩ := h D xs cs w st hc
  refine hv3 (hc.2.1.1) (g3.l200 hv) (rom_h (wd := v 31) g2 hz) (fun e0 hD hr => ?_)
  rw [show (y1 - x).toNat = cs.length - x.toNat by omega] at g3
  refine ⟨_, ?_, g3⟩
  rcases hy with q | ⟨q, q2⟩
  · exact g1.fits hD hx hr (by omega)
  · rcases q2 with ⟨q2, q3⟩ | q3
    · have e := q3 w cs st hc.2.2.1 hc.2.2.2
      exact g1.long hD hx hr (by omega) (by omega) (by omega)
    · have e := q3 w cs st hc.2.2.1 hc.2.2.2
      have g := brk_lt (d := x) (r := z) hc.2.2.2
      omega, fun e => absurd rfl e⟩
theorem FL4.hyp (h : FL4 v a v1 a1 t x c y1) (hx : 0 ≤ x) (hv : v1 39 ≤ 200) (hz : (c = 0 ∧ z = v 31) ∨ (0 < c ∧ z = v 31 - (c + 1))) (hc0 : z < v 25 - x) (hb : BRQ v a t x z y1) (hy0 : 0 ≤ y1) (hyp : hy = v 33) (hp : PUC v1 a1 v2 a2 hy) (hn : NLX v2 a2 v3 a3 f) (hf : f = 1) : FL2 v a v3 a3 t y1 := fun D xs cs w st hc => by
  obtain ⟨D1, x1, g1, g2, g3⟩ := h D xs cs w st hc
  refine hv5 (hc.2.1.1) (rom_h (wd := v 31) g2 hz) (hb w cs st hc.2.2.1 hc.2.2.2) (brk_lt (d := x) (r := z) hc.2.2.2) (hp _ _ g3) (fun e0 hr e g g4 => ?_)
  rcases hn _ g4 with ⟨_, n2, n3⟩ | ⟨n1, _⟩
  · rw [len1] at n2
    have g5 := g1.part n2 hx hr (by omega) e.symm hy0
    rw [← hyp, show y1.toNat - x.toNat = (y1 - x).toNat by omega] at g5
    exact ⟨_, _, g5, n3⟩
  · omega
theorem FL4.hno (h : FL4 v a v1 a1 t x c y1) (hx : 0 ≤ x) (hz : (c = 0 ∧ z = v 31) ∨ (0 < c ∧ z = v 31 - (c + 1))) (hc0 : z < v 25 - x) (hb : BRQ v a t x z y1) (hy0 : 0 ≤ y1) (hp : PUC v1 a1 v2 a2 hy) (hn : NLX v2 a2 v3 a3 f) (hf : f ≠ 1) : FLT v a v3 a3 t 0 := fun D xs cs w st hc => ⟨fun e => absurd e (by decide), fun _ => by
  obtain ⟨D1, x1, g1, g2, g3⟩ := h D xs cs w st hc
  refine hv3 (hc.2.1.1) (rom_h (wd := v 31) g2 hz) (hb w cs st hc.2.2.1 hc.2.2.2) (fun e0 hr e => ?_)
  rcases hn _ (hp _ _ g3) with ⟨n1, _⟩ | ⟨_, n2⟩
  · omega
  · rw [len1] at n2
    exact g1.nroom n2 hx hr (by omega) (Or.inl (by omega))⟩
theorem FL2.nl (h : FL2 v a v1 a1 t x) (hx : 0 ≤ x) (e37 : a1 37 (v1 39 - 1).toNat = c) (hz : (c = 0 ∧ z = v 31) ∨ (0 < c ∧ z = v 31 - (c + 1))) (h0 : c ≠ 0) (hc0 : z < v 25 - x) (hb : BRQ v a t x z y1) (hy0 : y1 < 0) (hn : NLX v1 a1 v3 a3 f) (hf : f = 1) : FL2 v a v3 a3 t x := fun D xs cs w st hc => by
  obtain ⟨D1, x1, g1, g2, g3⟩ := h.at37 hc
  refine hv2 (hc.2.1.1) (hb w cs st hc.2.2.1 hc.2.2.2) (fun e0 e => ?_)
  have hr := rom_h (xs := x1) (h := c) (wd := v 31) (by omega) hz
  rcases hn _ g2 with ⟨_, n2, n3⟩ | ⟨n1, _⟩
  · rw [len1] at n2
    exact ⟨_, _, g1.next n2 hx hr (by omega) (by omega) (by omega), n3⟩
  · omega
theorem FL2.nno (h : FL2 v a v1 a1 t x) (hx : 0 ≤ x) (e37 : a1 37 (v1 39 - 1).toNat = c) (hz : (c = 0 ∧ z = v 31) ∨ (0 < c ∧ z = v 31 - (c + 1))) (h0 : c ≠ 0) (hc0 : z < v 25 - x) (hn : NLX v1 a1 v3 a3 f) (hf : f ≠ 1) : FLT v a v3 a3 t 0 := fun D xs cs w st hc => ⟨fun e => absurd e (by decide), fun _ => by
  obtain ⟨D1, x1, g1, g2, g3⟩ := h.at37 hc
  have e0 := hc.2.1.1
  have hr := rom_h (xs := x1) (h := c) (wd := v 31) (by omega) hz
  rcases hn _ g2 with ⟨n1, _⟩ | ⟨_, n2⟩
  · omega
  · rw [len1] at n2
    exact g1.nroom n2 hx hr (by omega) (Or.inr (by omega))⟩
end DRAF
def CE6 (v : Nat → Int) (a : Nat → Nat → Int) (v1 : Nat → Int) (a1 : Nat → Nat → Int) (q x y k : Int) : Prop := ∀ D, DRH v a D → v1 39 = ((D.length : Nat) : Int) ∧ (∀ (l : Nat) (xs : List Int), D[l]? = some xs → l ≠ x.toNat → LNH a1 l (if q ≤ ((l : Nat) : Int) ∧ ((l : Nat) : Int) < x then cen (v 31) xs else xs)) ∧ ∀ xs, D[x.toNat]? = some xs → a1 37 x.toNat = ((xs.length : Nat) : Int) ∧ ∀ (j : Nat) (e : Int), xs[j]? = some e → (((j : Nat) : Int) ≤ k → a1 38 (200 * x.toNat + j) = e) ∧ (k < ((j : Nat) : Int) → a1 38 (200 * x.toNat + j + y.toNat) = e)
def CE7 (v : Nat → Int) (a : Nat → Nat → Int) (v1 : Nat → Int) (a1 : Nat → Nat → Int) (q x y k : Int) : Prop := ∀ D, DRH v a D → v1 39 = ((D.length : Nat) : Int) ∧ (∀ (l : Nat) (xs : List Int), D[l]? = some xs → l ≠ x.toNat → LNH a1 l (if q ≤ ((l : Nat) : Int) ∧ ((l : Nat) : Int) < x then cen (v 31) xs else xs)) ∧ ∀ xs, D[x.toNat]? = some xs → a1 37 x.toNat = ((xs.length : Nat) : Int) ∧ (∀ (j : Nat) (e : Int), xs[j]? = some e → a1 38 (200 * x.toNat + j + y.toNat) = e) ∧ ∀ j : Nat, ((j : Nat) : Int) < k → a1 38 (200 * x.toNat + j) = 0
def CNX (v : Nat → Int) (a : Nat → Nat → Int) (v2 : Nat → Int) (a2 : Nat → Nat → Int) (q : Int) : Prop := ∀ D, DRH v a D → DRH v2 a2 (cnl (v 31) q.toNat D)
section CENT
variable {v v1 v2 v3 : Nat → Int} {a a1 a2 a3 : Nat → Nat → Int} {D : List (List Int)} {xs : List Int} {x z q k y c wd : Int} {i l b : Nat}
theorem cnl_get : ∀ (D : List (List Int)) (b l : Nat), (cnl wd b D)[l]? = if b ≤ l then (D[l]?).map (cen wd) else D[l]? := by
  intro D
  induction D with
  | nil => intro b l; cases b <;> simp [cnl]
  | cons xs D ih =>
    intro b l
    cases b with
    | zero =>
      rw [if_pos (Nat.zero_le _)]
      cases l with
      | zero => rfl
      | succ l =>
        have g := ih 0 l
        rw [if_pos (Nat.zero_le _)] at g
        exact g
    | succ b =>
      cases l with
      | zero => rw [if_neg (by omega)]; rfl
      | succ l =>
        have g := ih b l
        show (cnl wd b D)[l]? = if b + 1 ≤ l + 1 then (D[l]?).map (cen wd) else D[l]?
        rw [g]
        by_cases c : b ≤ l
        · rw [if_pos c, if_pos (by omega)]
        · rw [if_neg c, if_neg (by omega)]
theorem cnl_len : ∀ (D : List (List Int)) (b : Nat), (cnl wd b D).length = D.length := by
  intro D
  induction D with
  | nil => intro b; cases b <;> rfl
  | cons xs D ih =>
    intro b
    cases b with
    | zero => exact congrArg (· + 1) (ih 0)
    | succ b => exact congrArg (· + 1) (ih b)
theorem CN2.init : CN2 v a v a q q := fun D h => ⟨h.1, fun l xs e => by
  rw [if_neg (by omega)]
  exact h.2 l xs e⟩
theorem CN2.fin (h : CN2 v a v1 a1 q x) (hq : 0 ≤ q) (hx : v1 39 ≤ x) : CNX v a v1 a1 q := fun D hD => by
  obtain ⟨h1, h2⟩ := h D hD
  refine ⟨by rw [cnl_len]; exact h1, fun l ys e => ?_⟩
  rw [cnl_get] at e
  by_cases c : q.toNat ≤ l
  · rw [if_pos c] at e
    cases e2 : D[l]? with
    | none => rw [e2] at e; cases e
    | some xs =>
      rw [e2] at e
      cases e
      refine hv2 (gl3 e2) (h2 l xs e2) (fun lt g => ?_)
      rw [if_pos (by omega)] at g
      exact g
  · rw [if_neg c] at e
    have g := h2 l ys e
    rw [if_neg (by omega)] at g
    exact g
theorem CN2.go (h : CN2 v a v1 a1 q x) (hx : 0 ≤ x) (hk : k = a1 37 x.toNat - 1) : CE6 v a v1 a1 q x y k := fun D hD => by
  obtain ⟨h1, h2⟩ := h D hD
  refine ⟨h1, fun l xs e _ => h2 l xs e, fun xs e => ?_⟩
  have g := h2 x.toNat xs e
  rw [if_neg (by omega)] at g
  refine ⟨g.1, fun j e0 ej => ⟨fun _ => g.2 j e0 ej, fun hj => ?_⟩⟩
  refine hv2 (gl3 ej) (g.1) (fun lt g1 => ?_)
  omega
theorem CE6.mv (h : CE6 v a v1 a1 q x y k) (hb : ∀ l, a1 37 l ≤ 200) (hx : 0 ≤ x) (hk : 0 ≤ k ∧ 0 ≤ y ∧ k + y < 200) (hi : i = (200 * x + k + y).toNat) (hz : z = a1 38 (200 * x + k).toNat) : CE6 v a v1 (up2 a1 38 i z) q x y (k - 1) := fun D hD => by
  obtain ⟨h1, h2, h3⟩ := h D hD
  have ei : i = 200 * x.toNat + k.toNat + y.toNat := by omega
  refine ⟨h1, fun l xs e ne => ?_, fun xs e => ?_⟩
  · have g := h2 l xs e ne
    refine hv2 (hb l) (g.1) (fun b1 g1 => ?_)
    exact g.fr (up2_k (by decide)) (fun j hj => up2_j (by omega))
  · obtain ⟨g1, g2⟩ := h3 xs e
    refine ⟨by rw [up2_k (by decide)]; exact g1, fun j e0 ej => ⟨fun hj => ?_, fun hj => ?_⟩⟩
    · rw [up2_j (by omega)]
      exact (g2 j e0 ej).1 (by omega)
    · by_cases c : ((j : Nat) : Int) = k
      · rw [show 200 * x.toNat + j + y.toNat = i by omega, up2_s, hz, show (200 * x + k).toNat = 200 * x.toNat + j by omega]
        exact (g2 j e0 ej).1 (by omega)
      · rw [up2_j (by omega)]
        exact (g2 j e0 ej).2 (by omega)
theorem CE6.zr (h : CE6 v a v1 a1 q x y k) (hk : k < 0) : CE7 v a v1 a1 q x y 0 := fun D hD => by
  obtain ⟨h1, h2, h3⟩ := h D hD
  refine ⟨h1, h2, fun xs e => ?_⟩
  obtain ⟨g1, g2⟩ := h3 xs e
  exact ⟨g1, fun j e0 ej => (g2 j e0 ej).2 (by omega), fun j hj => absurd hj (by omega)⟩
theorem CE7.mv (h : CE7 v a v1 a1 q x y k) (hb : ∀ l, a1 37 l ≤ 200) (hx : 0 ≤ x) (hk : 0 ≤ k ∧ k < y ∧ k < 200) (hi : i = (200 * x + k).toNat) : CE7 v a v1 (up2 a1 38 i 0) q x y (k + 1) := fun D hD => by
  obtain ⟨h1, h2, h3⟩ := h D hD
  have ei : i = 200 * x.toNat + k.toNat := by omega
  refine ⟨h1, fun l xs e ne => ?_, fun xs e => ?_⟩
  · have g := h2 l xs e ne
    refine hv2 (hb l) (g.1) (fun b1 g1 => ?_)
    exact g.fr (up2_k (by decide)) (fun j hj => up2_j (by omega))
  · obtain ⟨g1, g2, g3⟩ := h3 xs e
    refine ⟨by rw [up2_k (by decide)]; exact g1, fun j e0 ej => ?_, fun j hj => ?_⟩
    · rw [up2_j (by omega)]
      exact g2 j e0 ej
    · by_cases c : ((j : Nat) : Int) = k
      · rw [show 200 * x.toNat + j = i by omega, up2_s]
      · rw [up2_j (by omega)]
        exact g3 j (by omega)
theorem CE7.fin (h : CE7 v a v1 a1 q x y k) (hx : 0 ≤ x ∧ q ≤ x) (hk : k = y) (hy : 0 ≤ y) (hc : a1 37 x.toNat = c) (hy2 : ((c = 0 ∨ v 31 ≤ c) ∧ y = 0) ∨ (0 < c ∧ c < v 31 ∧ y = (v 31 - c) / 2)) (hi : i = x.toNat) (hz : z = c + y) : CN2 v a v1 (up2 a1 37 i z) q (x + 1) := fun D hD => by
  obtain ⟨h1, h2, h3⟩ := h D hD
  subst hi
  refine ⟨h1, fun l xs e => ?_⟩
  by_cases cl : l = x.toNat
  · subst cl
    obtain ⟨g1, g2, g3⟩ := h3 xs e
    rw [if_pos (by omega)]
    unfold cen
    rcases hy2 with ⟨e1, e2⟩ | ⟨e1, e2, e3⟩
    · rw [if_pos (by omega)]
      refine ⟨by rw [up2_s]; omega, fun j e0 ej => ?_⟩
      have g := g2 j e0 ej
      rw [show 200 * x.toNat + j + y.toNat = 200 * x.toNat + j by omega] at g
      rw [up2_k (by decide)]
      exact g
    · rw [if_neg (by omega)]
      have en : ((v 31 - ((xs.length : Nat) : Int)) / 2).toNat = y.toNat := by rw [show ((xs.length : Nat) : Int) = c by omega, ← e3]
      rw [en]
      refine ⟨by rw [up2_s, List.length_append, List.length_replicate]; omega, fun j e0 ej => ?_⟩
      rw [up2_k (by decide)]
      by_cases cj : j < y.toNat
      · rw [List.getElem?_append_left (by rw [List.length_replicate]; exact cj), List.getElem?_replicate, if_pos cj] at ej
        cases ej
        exact g3 j (by omega)
      · rw [List.getElem?_append_right (by rw [List.length_replicate]; omega), List.length_replicate] at ej
        have g := g2 (j - y.toNat) e0 ej
        rw [show 200 * x.toNat + (j - y.toNat) + y.toNat = 200 * x.toNat + j by omega] at g
        exact g
  · have g := h2 l xs e cl
    have g2 : LNH (up2 a1 37 x.toNat z) l (if q ≤ ((l : Nat) : Int) ∧ ((l : Nat) : Int) < x then cen (v 31) xs else xs) := g.fr (up2_j cl) (fun j _ => up2_k (by decide))
    by_cases c1 : q ≤ ((l : Nat) : Int) ∧ ((l : Nat) : Int) < x
    · rw [if_pos c1] at g2
      rw [if_pos (by omega)]
      exact g2
    · rw [if_neg c1] at g2
      rw [if_neg (by omega)]
      exact g2
end CENT
end
section
theorem W_newLine2 {v v2 : Nat → Int} {a a2 : Nat → Nat → Int} {r : Option Value}  (hB : BX v a)  (h : (fun r v2 a2 => ∃ f : Int, r = some (.int (iI f)) ∧ ((f = 1 ∧ v 39 < 200 ∧ v2 = va_up v 39 (v 39 + 1) ∧ a2 = up2 a 37 (v 39).toNat 0) ∨ (f = 0 ∧ v 39 = 200 ∧ v = v2 ∧ a = a2))) r v2 a2) : (fun r v2 a2 => ∃ f : Int, r = some (.int (iI f)) ∧ fr [39] [37] v a v2 a2 ∧ BX v2 a2 ∧ (((f = 1 ∧ v2 39 = v 39 + 1 ∧ a2 37 (v2 39 - 1).toNat = 0) ∨ f = 0) ∧ NLX v a v2 a2 f)) r v2 a2 := by
  obtain ⟨f, rfl, h⟩ := h
  have q39 : 0 ≤ v 39 ∧ v 39 ≤ 200 := hB.1 39
  rcases h with ⟨rfl, h1, rfl, rfl⟩ | ⟨rfl, h1, rfl, rfl⟩
  · refine ⟨1, rfl, ((fr.refl (V := [39]) (A := [37])).put (k := 39) rfl).set (k := 37) rfl, (hB.put (k := 39) (show 0 ≤ v 39 + 1 ∧ v 39 + 1 ≤ 200 by omega)).set (k := 37) (show (0 : Int) ≤ 0 ∧ (0 : Int) ≤ 200 by omega), Or.inl ⟨rfl, rfl, (by rw [show (va_up v 39 (v 39 + 1)) 39 - 1 = v 39 by rw [va_up_self]; omega]; exact up2_s)⟩, fun D hD => ?_⟩
    have e0 := hD.1
    exact Or.inl ⟨rfl, by omega, hD.new rfl (va_up_self _ _ _)⟩
  · refine ⟨0, rfl, fr.refl, hB, Or.inr rfl, fun D hD => ?_⟩
    have e0 := hD.1
    exact Or.inr ⟨rfl, by omega⟩
set_option maxHeartbeats 4000000 in
set_option maxRecDepth 100000 in
theorem E_breakOf {l : Launch} {G : GT} {h0 : Nat} {ad ln : Nat → Nat} {v : Nat → Int} {a : Nat → Nat → Int}  {t q z : Int} (hB : BX v a) (ht : 0 ≤ t ∧ t < 30) (hq : 0 ≤ q ∧ q ≤ 208) (hz : -200 ≤ z ∧ z ≤ 200) : Mm l G yX12_breakOf cX12_breakOf 7 (some .int) 1 [.int (iI t), .int (iI q), .int (iI z)] h0 ad ln v a 0 0 (fun r v2 a2 => ∃ f : Int, r = some (.int (iI f)) ∧ fr [] [] v a v2 a2 ∧ BX v2 a2 ∧ ((f = -1 ∨ (q < f ∧ f ≤ 208 ∧ f - q + 1 ≤ z)) ∧ BRQ v a t q z f)) := by
  refine Mm.mk (by decide) (Nat.le_of_ble_eq_true rfl) ?_
  intro p e s m args below meth c A C
  refine hv2 (show 0 ≤ v 23 ∧ v 23 ≤ 500 from hB.1 23) (show fr [] [] v a v a from fr.refl) (fun r23 fp0 => ?_)
  refine m_iconst C dX12_breakOf_0 ?_
  refine m_istore (lv2 := [(4, .int (iI (-1))), (0, .ref h0), (1, .int (iI t)), (2, .int (iI q)), (3, .int (iI z))]) C dX12_breakOf_1 (by decide) rfl ?_
  refine m_iconst C dX12_breakOf_3 ?_
  refine m_istore (lv2 := [(5, .int (iI 1)), (4, .int (iI (-1))), (0, .ref h0), (1, .int (iI t)), (2, .int (iI q)), (3, .int (iI z))]) C dX12_breakOf_4 (by decide) rfl ?_
  have Lp1 : ∀ (nn : Nat) (w1 k : Int) (vb1 : Nat → Int) (ab1 : Nat → Nat → Int), 502 - k < (nn : Int) → BX vb1 ab1 → fr [] [] v a vb1 ab1 → (w1 = -1 ∨ (q < w1 ∧ w1 ≤ 208 ∧ w1 - q + 1 ≤ z)) → (1 ≤ k ∧ k ≤ 501 ∧ (k = 1 ∨ k ≤ v 23)) → (BRI v a t q z k w1) → mw p l e (rmq 1 0 0) s m args below meth c G A 7 (MQ below (Qm G A (fun rq Lq Eq => ∃ (vq : Nat → Int) (aq : Nat → Nat → Int), mI G h0 ad ln vq aq Lq Eq ∧ (fun r v2 a2 => ∃ f : Int, r = some (.int (iI f)) ∧ fr [] [] v a v2 a2 ∧ BX v2 a2 ∧ ((f = -1 ∨ (q < f ∧ f ≤ 208 ∧ f - q + 1 ≤ z)) ∧ BRQ v a t q z f)) rq vq aq)) args s 0 0 A) h0 ad ln vb1 ab1 0 0 6 [(4, .int (iI w1)), (5, .int (iI k)), (0, .ref h0), (1, .int (iI t)), (2, .int (iI q)), (3, .int (iI z))] [] := by
    intro nn
    induction nn with
    | zero =>
      intro w1 k vb1 ab1 hm bxb1 fpb1 hw hk hI
      obtain ⟨rfl, rfl⟩ := fpb1.eq
      exact absurd hm (by omega)
    | succ nn ih1 =>
      intro w1 k vb1 ab1 hm bxb1 fpb1 hw hk hI
      obtain ⟨rfl, rfl⟩ := fpb1.eq
      refine m_iload (j := 1) C dX12_breakOf_6 rfl ?_
      refine m_aload_n (j := 2) C dX12_breakOf_8 rfl ?_
      have rv1 : 0 ≤ v 23 ∧ v 23 ≤ 500 := bxb1.1 23
      refine m_get (k := 23) C dX12_breakOf_9 w6_82 (by decide) rfl ?_
      refine m_icmp_ge (tgt := 148) C (r32_c (lo := 1) (hi := 501) hk.1 hk.2.1 (by decide) (by decide)) (r32_c (lo := 0) (hi := 500) rv1.1 rv1.2 (by decide) (by decide)) dX12_breakOf_12 (by decide) (fun c1 => ?_) (fun c1 => ?_)
      · refine m_iload (j := 0) C dX12_breakOf_148 rfl ?_
        exact m_iret C dX12_breakOf_150 rfl (Nat.le_of_ble_eq_true rfl) (Nat.le_of_ble_eq_true rfl) ⟨w1, rfl, fpb1, bxb1, ⟨hw, hI.fin (by omega)⟩⟩
      · refine m_aload_n (j := 2) C dX12_breakOf_15 rfl ?_
        refine m_geta (k := 22) C dX12_breakOf_16 w6_81 (by decide) rfl ?_
        refine m_iload (j := 1) C dX12_breakOf_19 rfl ?_
        refine m_zald (k := 22) C dX12_breakOf_21 rfl rfl (by decide) (Int.le_trans (by decide) hk.1) (Int.lt_of_le_of_lt hk.2.1 (by decide)) (by decide) ?_
        have ra1 : 0 ≤ a 22 k.toNat ∧ a 22 k.toNat ≤ 1 := bxb1.2 22 (k.toNat)
        refine m_if_eq (tgt := 142) C (r32_c (lo := 0) (hi := 1) ra1.1 ra1.2 (by decide) (by decide)) dX12_breakOf_22 (by decide) (fun c2 => ?_) (fun c2 => ?_)
        · refine m_iinc (z := k) (j := 1) (lv2 := [(5, .int (iI (k + 1))), (4, .int (iI w1)), (0, .ref h0), (1, .int (iI t)), (2, .int (iI q)), (3, .int (iI z))]) C dX12_breakOf_142 rfl (by decide) rfl ?_
          refine m_goto (tgt := 6) C dX12_breakOf_145 (by decide) ?_
          refine m_lv (lv2 := [(4, .int (iI w1)), (5, .int (iI (k + 1))), (0, .ref h0), (1, .int (iI t)), (2, .int (iI q)), (3, .int (iI z))]) [1, 0, 2, 3, 4, 5] rfl ?_
          exact ih1  w1 (k + 1) _ _ (by omega) bxb1 fpb1 (by omega) (by omega) (hI.miss ⟨by omega, by omega⟩ (fun e => absurd e.1 (by omega)))
        · refine m_aload_n (j := 2) C dX12_breakOf_25 rfl ?_
          refine m_geta (k := 26) C dX12_breakOf_26 w6_85 (by decide) rfl ?_
          refine m_iload (j := 1) C dX12_breakOf_29 rfl ?_
          refine m_ald (k := 26) C dX12_breakOf_31 rfl rfl (by decide) (Int.le_trans (by decide) hk.1) (Int.lt_of_le_of_lt hk.2.1 (by decide)) (by decide) ?_
          have ra2 : (-1) ≤ a 26 k.toNat ∧ a 26 k.toNat ≤ 208 := bxb1.2 26 (k.toNat)
          refine m_iload_n (j := 4) C dX12_breakOf_32 rfl ?_
          refine m_icmp_le (tgt := 142) C (r32_c (lo := (-1)) (hi := 208) ra2.1 ra2.2 (by decide) (by decide)) ⟨by omega, by omega⟩ dX12_breakOf_33 (by decide) (fun c3 => ?_) (fun c3 => ?_)
          · refine m_iinc (z := k) (j := 1) (lv2 := [(5, .int (iI (k + 1))), (4, .int (iI w1)), (0, .ref h0), (1, .int (iI t)), (2, .int (iI q)), (3, .int (iI z))]) C dX12_breakOf_142 rfl (by decide) rfl ?_
            refine m_goto (tgt := 6) C dX12_breakOf_145 (by decide) ?_
            refine m_lv (lv2 := [(4, .int (iI w1)), (5, .int (iI (k + 1))), (0, .ref h0), (1, .int (iI t)), (2, .int (iI q)), (3, .int (iI z))]) [1, 0, 2, 3, 4, 5] rfl ?_
            exact ih1  w1 (k + 1) _ _ (by omega) bxb1 fpb1 (by omega) (by omega) (hI.miss ⟨by omega, by omega⟩ (fun e => absurd e.2.1 (by omega)))
          · refine m_aload_n (j := 2) C dX12_breakOf_36 rfl ?_
            refine m_geta (k := 26) C dX12_breakOf_37 w6_85 (by decide) rfl ?_
            refine m_iload (j := 1) C dX12_breakOf_40 rfl ?_
            refine m_ald (k := 26) C dX12_breakOf_42 rfl rfl (by decide) (Int.le_trans (by decide) hk.1) (Int.lt_of_le_of_lt hk.2.1 (by decide)) (by decide) ?_
            refine m_iload_n (j := 4) C dX12_breakOf_43 rfl ?_
            refine m_isub C dX12_breakOf_44 ?_
            refine m_iconst C dX12_breakOf_45 ?_
            refine m_iadd C dX12_breakOf_46 ?_
            refine m_iload_n (j := 5) C dX12_breakOf_47 rfl ?_
            refine m_icmp_le (tgt := 54) C ⟨by omega, by omega⟩ ⟨by omega, by omega⟩ dX12_breakOf_48 (by decide) (fun c4 => ?_) (fun c4 => ?_)
            · have J1 : ∀ (g : Int) (vb2 : Nat → Int) (ab2 : Nat → Nat → Int), BX vb2 ab2 → fr [] [] v a vb2 ab2 → (g = 0 ∨ g = 1) → (g = 1 ↔ kok (a 6 t.toNat) (v 23) (a 20 (k - 1).toNat) (a 20 k.toNat)) → mw p l e (rmq 1 0 0) s m args below meth c G A 7 (MQ below (Qm G A (fun rq Lq Eq => ∃ (vq : Nat → Int) (aq : Nat → Nat → Int), mI G h0 ad ln vq aq Lq Eq ∧ (fun r v2 a2 => ∃ f : Int, r = some (.int (iI f)) ∧ fr [] [] v a v2 a2 ∧ BX v2 a2 ∧ ((f = -1 ∨ (q < f ∧ f ≤ 208 ∧ f - q + 1 ≤ z)) ∧ BRQ v a t q z f)) rq vq aq)) args s 0 0 A) h0 ad ln vb2 ab2 0 0 128 [(6, .int (iI g)), (4, .int (iI w1)), (5, .int (iI k)), (0, .ref h0), (1, .int (iI t)), (2, .int (iI q)), (3, .int (iI z))] [] := by
                intro g vb2 ab2 bxb2 fpb2 hg hg2
                obtain ⟨rfl, rfl⟩ := fpb2.eq
                refine m_iload (j := 0) C dX12_breakOf_128 rfl ?_
                refine m_if_eq (tgt := 142) C (r32_01 hg) dX12_breakOf_130 (by decide) (fun c5 => ?_) (fun c5 => ?_)
                · clear hg
                  refine m_iinc (z := k) (j := 2) (lv2 := [(5, .int (iI (k + 1))), (6, .int (iI g)), (4, .int (iI w1)), (0, .ref h0), (1, .int (iI t)), (2, .int (iI q)), (3, .int (iI z))]) C dX12_breakOf_142 rfl (by decide) rfl ?_
                  refine m_goto (tgt := 6) C dX12_breakOf_145 (by decide) ?_
                  refine m_lv (lv2 := [(4, .int (iI w1)), (5, .int (iI (k + 1))), (0, .ref h0), (1, .int (iI t)), (2, .int (iI q)), (3, .int (iI z))]) [2, 0, 3, 4, 5, 6] rfl ?_
                  exact ih1  w1 (k + 1) _ _ (by omega) bxb2 fpb2 (by omega) (by omega) (hI.miss ⟨by omega, by omega⟩ (fun e => absurd (hg2.mpr e.2.2.2) (by omega)))
                · replace hg := (hg.resolve_left c5)
                  refine m_aload_n (j := 3) C dX12_breakOf_133 rfl ?_
                  refine m_geta (k := 26) C dX12_breakOf_134 w6_85 (by decide) rfl ?_
                  refine m_iload (j := 2) C dX12_breakOf_137 rfl ?_
                  refine m_ald (k := 26) C dX12_breakOf_139 rfl rfl (by decide) (Int.le_trans (by decide) hk.1) (Int.lt_of_le_of_lt hk.2.1 (by decide)) (by decide) ?_
                  refine m_istore (lv2 := [(4, .int (iI (a 26 k.toNat))), (6, .int (iI g)), (5, .int (iI k)), (0, .ref h0), (1, .int (iI t)), (2, .int (iI q)), (3, .int (iI z))]) C dX12_breakOf_140 (by decide) rfl ?_
                  refine m_iinc (z := k) (j := 2) (lv2 := [(5, .int (iI (k + 1))), (4, .int (iI (a 26 k.toNat))), (6, .int (iI g)), (0, .ref h0), (1, .int (iI t)), (2, .int (iI q)), (3, .int (iI z))]) C dX12_breakOf_142 rfl (by decide) rfl ?_
                  refine m_goto (tgt := 6) C dX12_breakOf_145 (by decide) ?_
                  refine m_lv (lv2 := [(4, .int (iI (a 26 k.toNat))), (5, .int (iI (k + 1))), (0, .ref h0), (1, .int (iI t)), (2, .int (iI q)), (3, .int (iI z))]) [1, 0, 3, 4, 5, 6] rfl ?_
                  exact ih1  (a 26 k.toNat) (k + 1) _ _ (by omega) bxb2 fpb2 (by omega) (by omega) (hI.hit ⟨by omega, by omega⟩ (by omega) (by omega) (by omega) (hg2.mp (by omega)) rfl)
              refine m_aload_n (j := 2) C dX12_breakOf_54 rfl ?_
              refine m_geta (k := 6) C dX12_breakOf_55 w6_65 (by decide) rfl ?_
              refine m_iload_n (j := 3) C dX12_breakOf_58 rfl ?_
              refine m_ald (k := 6) C dX12_breakOf_59 rfl rfl (by decide) (by omega) (by show _ < ((_ : Nat) : Int); simp only [mlen]; omega) (by decide) ?_
              have ra3 : 0 ≤ a 6 t.toNat ∧ a 6 t.toNat ≤ 5 := bxb1.2 6 (t.toNat)
              refine m_iconst C dX12_breakOf_60 ?_
              refine m_icmp_gt (tgt := 125) C (r32_c (lo := 0) (hi := 5) ra3.1 ra3.2 (by decide) (by decide)) ⟨by decide, by decide⟩ dX12_breakOf_61 (by decide) (fun c6 => ?_) (fun c6 => ?_)
              · refine m_iconst C dX12_breakOf_125 ?_
                refine m_istore (lv2 := [(6, .int (iI 0)), (4, .int (iI w1)), (5, .int (iI k)), (0, .ref h0), (1, .int (iI t)), (2, .int (iI q)), (3, .int (iI z))]) C dX12_breakOf_126 (by decide) rfl ?_
                refine m_lv (lv2 := [(6, .int (iI 0)), (4, .int (iI w1)), (5, .int (iI k)), (0, .ref h0), (1, .int (iI t)), (2, .int (iI q)), (3, .int (iI z))]) [0, 1, 2, 3, 4, 5, 6] rfl ?_
                exact J1  0 _ _  bxb1 fpb1 (by omega) (by unfold kok isD; omega)
              · refine m_aload_n (j := 2) C dX12_breakOf_64 rfl ?_
                refine m_geta (k := 6) C dX12_breakOf_65 w6_65 (by decide) rfl ?_
                refine m_iload_n (j := 3) C dX12_breakOf_68 rfl ?_
                refine m_ald (k := 6) C dX12_breakOf_69 rfl rfl (by decide) (by omega) (by show _ < ((_ : Nat) : Int); simp only [mlen]; omega) (by decide) ?_
                refine m_iconst C dX12_breakOf_70 ?_
                refine m_icmp_ne (tgt := 102) C (r32_c (lo := 0) (hi := 5) ra3.1 ra3.2 (by decide) (by decide)) ⟨by decide, by decide⟩ dX12_breakOf_71 (by decide) (fun c7 => ?_) (fun c7 => ?_)
                · refine m_aload_n (j := 2) C dX12_breakOf_102 rfl ?_
                  refine m_geta (k := 6) C dX12_breakOf_103 w6_65 (by decide) rfl ?_
                  refine m_iload_n (j := 3) C dX12_breakOf_106 rfl ?_
                  refine m_ald (k := 6) C dX12_breakOf_107 rfl rfl (by decide) (by omega) (by show _ < ((_ : Nat) : Int); simp only [mlen]; omega) (by decide) ?_
                  refine m_iconst C dX12_breakOf_108 ?_
                  refine m_icmp_ne (tgt := 121) C (r32_c (lo := 0) (hi := 5) ra3.1 ra3.2 (by decide) (by decide)) ⟨by decide, by decide⟩ dX12_breakOf_109 (by decide) (fun c8 => ?_) (fun c8 => ?_)
                  · refine m_iconst C dX12_breakOf_121 ?_
                    refine m_goto (tgt := 126) C dX12_breakOf_122 (by decide) ?_
                    refine m_istore (lv2 := [(6, .int (iI 1)), (4, .int (iI w1)), (5, .int (iI k)), (0, .ref h0), (1, .int (iI t)), (2, .int (iI q)), (3, .int (iI z))]) C dX12_breakOf_126 (by decide) rfl ?_
                    refine m_lv (lv2 := [(6, .int (iI 1)), (4, .int (iI w1)), (5, .int (iI k)), (0, .ref h0), (1, .int (iI t)), (2, .int (iI q)), (3, .int (iI z))]) [0, 1, 2, 3, 4, 5, 6] rfl ?_
                    exact J1  1 _ _  bxb1 fpb1 (by omega) (by unfold kok isD; omega)
                  · refine m_aload_n (j := 2) C dX12_breakOf_112 rfl ?_
                    refine m_get (k := 23) C dX12_breakOf_113 w6_82 (by decide) rfl ?_
                    refine m_bipush (z := 6) C dX12_breakOf_116 (by decide) ?_
                    refine m_icmp_lt (tgt := 125) C (r32_c (lo := 0) (hi := 500) rv1.1 rv1.2 (by decide) (by decide)) ⟨by decide, by decide⟩ dX12_breakOf_118 (by decide) (fun c9 => ?_) (fun c9 => ?_)
                    · refine m_iconst C dX12_breakOf_125 ?_
                      refine m_istore (lv2 := [(6, .int (iI 0)), (4, .int (iI w1)), (5, .int (iI k)), (0, .ref h0), (1, .int (iI t)), (2, .int (iI q)), (3, .int (iI z))]) C dX12_breakOf_126 (by decide) rfl ?_
                      refine m_lv (lv2 := [(6, .int (iI 0)), (4, .int (iI w1)), (5, .int (iI k)), (0, .ref h0), (1, .int (iI t)), (2, .int (iI q)), (3, .int (iI z))]) [0, 1, 2, 3, 4, 5, 6] rfl ?_
                      exact J1  0 _ _  bxb1 fpb1 (by omega) (by unfold kok isD; omega)
                    · refine m_iconst C dX12_breakOf_121 ?_
                      refine m_goto (tgt := 126) C dX12_breakOf_122 (by decide) ?_
                      refine m_istore (lv2 := [(6, .int (iI 1)), (4, .int (iI w1)), (5, .int (iI k)), (0, .ref h0), (1, .int (iI t)), (2, .int (iI q)), (3, .int (iI z))]) C dX12_breakOf_126 (by decide) rfl ?_
                      refine m_lv (lv2 := [(6, .int (iI 1)), (4, .int (iI w1)), (5, .int (iI k)), (0, .ref h0), (1, .int (iI t)), (2, .int (iI q)), (3, .int (iI z))]) [0, 1, 2, 3, 4, 5, 6] rfl ?_
                      exact J1  1 _ _  bxb1 fpb1 (by omega) (by unfold kok isD; omega)
                · refine m_aload_n (j := 2) C dX12_breakOf_74 rfl ?_
                  refine m_geta (k := 20) C dX12_breakOf_75 w6_79 (by decide) rfl ?_
                  refine m_iload (j := 1) C dX12_breakOf_78 rfl ?_
                  refine m_iconst C dX12_breakOf_80 ?_
                  refine m_isub C dX12_breakOf_81 ?_
                  refine m_ald (k := 20) C dX12_breakOf_82 rfl rfl (by decide) (by omega) (by show _ < ((_ : Nat) : Int); simp only [mlen]; omega) (by decide) ?_
                  have ra4 : (-2147483648) ≤ a 20 (k - 1).toNat ∧ a 20 (k - 1).toNat ≤ 2147483647 := bxb1.2 20 ((k - 1).toNat)
                  refine m_callS (As := [.int (iI (a 20 (k - 1).toNat))]) (rest := []) C (fun L E => s_isDigit (iI (a 20 (k - 1).toNat))) dX12_breakOf_83 kS_X12_202 rfl rfl (Nat.le_of_ble_eq_true rfl) ⟨Nat.le_of_ble_eq_true rfl, Nat.le_of_ble_eq_true rfl⟩ ⟨Nat.le_of_ble_eq_true rfl, Nat.le_of_ble_eq_true rfl⟩ ?_
                  rcases inn_c (x := a 20 (k - 1).toNat) (lo := 48) (hi := 57) (r32_c (lo := (-2147483648)) (hi := 2147483647) ra4.1 ra4.2 (by decide) (by decide)) ⟨by decide, by decide⟩ ⟨by decide, by decide⟩ with ⟨h1a, h1b, h1e⟩ | ⟨h1a, h1e⟩
                  · refine m_st (st2 := [.int (iI 1)]) (by rw [show inn (iI (a 20 (k - 1).toNat)) 48 57 = iI 1 from h1e]) ?_
                    refine m_if_ne (tgt := 125) C ⟨by decide, by decide⟩ dX12_breakOf_86 (by decide) (fun _ => ?_) (fun z => absurd z (by omega))
                    refine m_iconst C dX12_breakOf_125 ?_
                    refine m_istore (lv2 := [(6, .int (iI 0)), (4, .int (iI w1)), (5, .int (iI k)), (0, .ref h0), (1, .int (iI t)), (2, .int (iI q)), (3, .int (iI z))]) C dX12_breakOf_126 (by decide) rfl ?_
                    refine m_lv (lv2 := [(6, .int (iI 0)), (4, .int (iI w1)), (5, .int (iI k)), (0, .ref h0), (1, .int (iI t)), (2, .int (iI q)), (3, .int (iI z))]) [0, 1, 2, 3, 4, 5, 6] rfl ?_
                    exact J1  0 _ _  bxb1 fpb1 (by omega) (by unfold kok isD; omega)
                  · refine m_st (st2 := [.int (iI 0)]) (by rw [show inn (iI (a 20 (k - 1).toNat)) 48 57 = iI 0 from h1e]) ?_
                    refine m_if_ne (tgt := 125) C ⟨by decide, by decide⟩ dX12_breakOf_86 (by decide) (fun z => absurd z (by omega)) (fun _ => ?_)
                    refine m_aload_n (j := 2) C dX12_breakOf_89 rfl ?_
                    refine m_geta (k := 20) C dX12_breakOf_90 w6_79 (by decide) rfl ?_
                    refine m_iload (j := 1) C dX12_breakOf_93 rfl ?_
                    refine m_ald (k := 20) C dX12_breakOf_95 rfl rfl (by decide) (Int.le_trans (by decide) hk.1) (Int.lt_of_le_of_lt hk.2.1 (by decide)) (by decide) ?_
                    have ra5 : (-2147483648) ≤ a 20 k.toNat ∧ a 20 k.toNat ≤ 2147483647 := bxb1.2 20 (k.toNat)
                    refine m_callS (As := [.int (iI (a 20 k.toNat))]) (rest := []) C (fun L E => s_isDigit (iI (a 20 k.toNat))) dX12_breakOf_96 kS_X12_202 rfl rfl (Nat.le_of_ble_eq_true rfl) ⟨Nat.le_of_ble_eq_true rfl, Nat.le_of_ble_eq_true rfl⟩ ⟨Nat.le_of_ble_eq_true rfl, Nat.le_of_ble_eq_true rfl⟩ ?_
                    rcases inn_c (x := a 20 k.toNat) (lo := 48) (hi := 57) (r32_c (lo := (-2147483648)) (hi := 2147483647) ra5.1 ra5.2 (by decide) (by decide)) ⟨by decide, by decide⟩ ⟨by decide, by decide⟩ with ⟨h2a, h2b, h2e⟩ | ⟨h2a, h2e⟩
                    · refine m_st (st2 := [.int (iI 1)]) (by rw [show inn (iI (a 20 k.toNat)) 48 57 = iI 1 from h2e]) ?_
                      refine m_if_ne (tgt := 125) C ⟨by decide, by decide⟩ dX12_breakOf_99 (by decide) (fun _ => ?_) (fun z => absurd z (by omega))
                      refine m_iconst C dX12_breakOf_125 ?_
                      refine m_istore (lv2 := [(6, .int (iI 0)), (4, .int (iI w1)), (5, .int (iI k)), (0, .ref h0), (1, .int (iI t)), (2, .int (iI q)), (3, .int (iI z))]) C dX12_breakOf_126 (by decide) rfl ?_
                      refine m_lv (lv2 := [(6, .int (iI 0)), (4, .int (iI w1)), (5, .int (iI k)), (0, .ref h0), (1, .int (iI t)), (2, .int (iI q)), (3, .int (iI z))]) [0, 1, 2, 3, 4, 5, 6] rfl ?_
                      exact J1  0 _ _  bxb1 fpb1 (by omega) (by unfold kok isD; omega)
                    · refine m_st (st2 := [.int (iI 0)]) (by rw [show inn (iI (a 20 k.toNat)) 48 57 = iI 0 from h2e]) ?_
                      refine m_if_ne (tgt := 125) C ⟨by decide, by decide⟩ dX12_breakOf_99 (by decide) (fun z => absurd z (by omega)) (fun _ => ?_)
                      refine m_aload_n (j := 2) C dX12_breakOf_102 rfl ?_
                      refine m_geta (k := 6) C dX12_breakOf_103 w6_65 (by decide) rfl ?_
                      refine m_iload_n (j := 3) C dX12_breakOf_106 rfl ?_
                      refine m_ald (k := 6) C dX12_breakOf_107 rfl rfl (by decide) (by omega) (by show _ < ((_ : Nat) : Int); simp only [mlen]; omega) (by decide) ?_
                      refine m_iconst C dX12_breakOf_108 ?_
                      refine m_icmp_ne (tgt := 121) C (r32_c (lo := 0) (hi := 5) ra3.1 ra3.2 (by decide) (by decide)) ⟨by decide, by decide⟩ dX12_breakOf_109 (by decide) (fun c10 => ?_) (fun c10 => ?_)
                      · refine m_iconst C dX12_breakOf_121 ?_
                        refine m_goto (tgt := 126) C dX12_breakOf_122 (by decide) ?_
                        refine m_istore (lv2 := [(6, .int (iI 1)), (4, .int (iI w1)), (5, .int (iI k)), (0, .ref h0), (1, .int (iI t)), (2, .int (iI q)), (3, .int (iI z))]) C dX12_breakOf_126 (by decide) rfl ?_
                        refine m_lv (lv2 := [(6, .int (iI 1)), (4, .int (iI w1)), (5, .int (iI k)), (0, .ref h0), (1, .int (iI t)), (2, .int (iI q)), (3, .int (iI z))]) [0, 1, 2, 3, 4, 5, 6] rfl ?_
                        exact J1  1 _ _  bxb1 fpb1 (by omega) (by unfold kok isD; omega)
                      · refine m_aload_n (j := 2) C dX12_breakOf_112 rfl ?_
                        refine m_get (k := 23) C dX12_breakOf_113 w6_82 (by decide) rfl ?_
                        refine m_bipush (z := 6) C dX12_breakOf_116 (by decide) ?_
                        refine m_icmp_lt (tgt := 125) C (r32_c (lo := 0) (hi := 500) rv1.1 rv1.2 (by decide) (by decide)) ⟨by decide, by decide⟩ dX12_breakOf_118 (by decide) (fun c11 => ?_) (fun c11 => ?_)
                        · refine m_iconst C dX12_breakOf_125 ?_
                          refine m_istore (lv2 := [(6, .int (iI 0)), (4, .int (iI w1)), (5, .int (iI k)), (0, .ref h0), (1, .int (iI t)), (2, .int (iI q)), (3, .int (iI z))]) C dX12_breakOf_126 (by decide) rfl ?_
                          refine m_lv (lv2 := [(6, .int (iI 0)), (4, .int (iI w1)), (5, .int (iI k)), (0, .ref h0), (1, .int (iI t)), (2, .int (iI q)), (3, .int (iI z))]) [0, 1, 2, 3, 4, 5, 6] rfl ?_
                          exact J1  0 _ _  bxb1 fpb1 (by omega) (by unfold kok isD; omega)
                        · refine m_iconst C dX12_breakOf_121 ?_
                          refine m_goto (tgt := 126) C dX12_breakOf_122 (by decide) ?_
                          refine m_istore (lv2 := [(6, .int (iI 1)), (4, .int (iI w1)), (5, .int (iI k)), (0, .ref h0), (1, .int (iI t)), (2, .int (iI q)), (3, .int (iI z))]) C dX12_breakOf_126 (by decide) rfl ?_
                          refine m_lv (lv2 := [(6, .int (iI 1)), (4, .int (iI w1)), (5, .int (iI k)), (0, .ref h0), (1, .int (iI t)), (2, .int (iI q)), (3, .int (iI z))]) [0, 1, 2, 3, 4, 5, 6] rfl ?_
                          exact J1  1 _ _  bxb1 fpb1 (by omega) (by unfold kok isD; omega)
            · refine m_goto (tgt := 142) C dX12_breakOf_51 (by decide) ?_
              refine m_iinc (z := k) (j := 1) (lv2 := [(5, .int (iI (k + 1))), (4, .int (iI w1)), (0, .ref h0), (1, .int (iI t)), (2, .int (iI q)), (3, .int (iI z))]) C dX12_breakOf_142 rfl (by decide) rfl ?_
              refine m_goto (tgt := 6) C dX12_breakOf_145 (by decide) ?_
              refine m_lv (lv2 := [(4, .int (iI w1)), (5, .int (iI (k + 1))), (0, .ref h0), (1, .int (iI t)), (2, .int (iI q)), (3, .int (iI z))]) [1, 0, 2, 3, 4, 5] rfl ?_
              exact ih1  w1 (k + 1) _ _ (by omega) bxb1 fpb1 (by omega) (by omega) (hI.miss ⟨by omega, by omega⟩ (fun e => absurd e.2.2.1 (by omega)))
  refine m_lv (lv2 := [(4, .int (iI (-1))), (5, .int (iI 1)), (0, .ref h0), (1, .int (iI t)), (2, .int (iI q)), (3, .int (iI z))]) [1, 0, 2, 3, 4, 5] rfl ?_
  exact Lp1 503 (-1) 1 _ _ (by omega) hB fp0 (by omega) (by omega) BRI.init
set_option maxHeartbeats 4000000 in
set_option maxRecDepth 100000 in
theorem E_flow {l : Launch} {G : GT} {h0 : Nat} {ad ln : Nat → Nat} {v : Nat → Int} {a : Nat → Nat → Int}  {t : Int} (hB : BX v a) (ht : 0 ≤ t ∧ t < 30) (h39 : 1 ≤ v 39) (h25 : 1 ≤ v 25 ∧ v 25 ≤ 200) : Mm l G yX12_flow cX12_flow 7 (some .boolean) 2 [.int (iI t)] h0 ad ln v a 0 0 (fun r v2 a2 => ∃ f : Int, r = some (.int (iI f)) ∧ fr [39] [37, 38] v a v2 a2 ∧ BX v2 a2 ∧ ((f = 0 ∨ (f = 1 ∧ 1 ≤ v2 39)) ∧ FLT v a v2 a2 t f)) := by
  refine Mm.mk (by decide) (Nat.le_of_ble_eq_true rfl) ?_
  intro p e s m args below meth c A C
  refine hv2 (show 1 ≤ v 31 ∧ v 31 ≤ 100 from hB.1 31) (show fr [39] [37, 38] v a v a from fr.refl) (fun r31 fp0 => ?_)
  refine m_iconst C dX12_flow_0 ?_
  refine m_istore_n (lv2 := [(2, .int (iI 0)), (0, .ref h0), (1, .int (iI t))]) C dX12_flow_1 (by decide) rfl ?_
  have Lp1 : ∀ (nn : Nat) (x : Int) (vb1 : Nat → Int) (ab1 : Nat → Nat → Int), 201 - vb1 39 < (nn : Int) → BX vb1 ab1 → fr [39] [37, 38] v a vb1 ab1 → (0 ≤ x ∧ x < v 25) → (1 ≤ vb1 39 ∧ vb1 39 ≤ 200) → (FL2 v a vb1 ab1 t x) → mw p l e (rmq 2 0 0) s m args below meth c G A 7 (MQ below (Qm G A (fun rq Lq Eq => ∃ (vq : Nat → Int) (aq : Nat → Nat → Int), mI G h0 ad ln vq aq Lq Eq ∧ (fun r v2 a2 => ∃ f : Int, r = some (.int (iI f)) ∧ fr [39] [37, 38] v a v2 a2 ∧ BX v2 a2 ∧ ((f = 0 ∨ (f = 1 ∧ 1 ≤ v2 39)) ∧ FLT v a v2 a2 t f)) rq vq aq)) args s 0 0 A) h0 ad ln vb1 ab1 0 0 2 [(2, .int (iI x)), (0, .ref h0), (1, .int (iI t))] [] := by
    intro nn
    induction nn with
    | zero =>
      intro x vb1 ab1 hm bxb1 fpb1 hx hn hI
      exact absurd hm (by omega)
    | succ nn ih1 =>
      intro x vb1 ab1 hm bxb1 fpb1 hx hn hI
      refine m_iload_n (j := 0) C dX12_flow_2 rfl ?_
      refine m_aload_n (j := 1) C dX12_flow_3 rfl ?_
      refine hv2 (show 0 ≤ vb1 25 ∧ vb1 25 ≤ 208 from bxb1.1 25) (show vb1 25 = v 25 from fpb1.1 25 rfl) (fun rv1 ve1 => ?_)
      refine m_get (k := 25) C dX12_flow_4 w6_84 (by decide) rfl ?_
      refine m_st (st2 := [.int (iI (v 25)), .int (iI x)]) (congrArg (fun z => Value.int (iI z) :: [.int (iI x)]) (fpb1.1 25 rfl)) ?_
      refine m_icmp_ge (tgt := 164) C ⟨by omega, by omega⟩ (r32_c (lo := 0) (hi := 208) (Int.le_trans rv1.1 (Int.le_of_eq ve1)) (Int.le_trans (Int.le_of_eq ve1.symm) rv1.2) (by decide) (by decide)) dX12_flow_7 (by decide) (fun c1 => ?_) (fun c1 => ?_)
      · refine m_iconst C dX12_flow_164 ?_
        exact m_zret C dX12_flow_165 rfl (Or.inr rfl) (Nat.le_of_ble_eq_true rfl) (Nat.le_of_ble_eq_true rfl) ⟨1, rfl, fpb1, bxb1, ⟨(Or.inr ⟨rfl, by show 1 ≤ vb1 39; omega⟩), absurd hx.2 (by omega)⟩⟩
      · refine m_aload_n (j := 1) C dX12_flow_10 rfl ?_
        refine m_geta (k := 37) C dX12_flow_11 w6_96 (by decide) rfl ?_
        refine m_aload_n (j := 1) C dX12_flow_14 rfl ?_
        have rv2 : 0 ≤ vb1 39 ∧ vb1 39 ≤ 200 := bxb1.1 39
        refine m_get (k := 39) C dX12_flow_15 w6_98 (by decide) rfl ?_
        refine m_iconst C dX12_flow_18 ?_
        refine m_isub C dX12_flow_19 ?_
        refine m_ald (k := 37) C dX12_flow_20 rfl rfl (by decide) (by omega) (by show _ < ((_ : Nat) : Int); simp only [mlen]; omega) (by decide) ?_
        have ra1 : 0 ≤ ab1 37 ((vb1 39) - 1).toNat ∧ ab1 37 ((vb1 39) - 1).toNat ≤ 200 := bxb1.2 37 (((vb1 39) - 1).toNat)
        refine m_istore_n (lv2 := [(3, .int (iI (ab1 37 ((vb1 39) - 1).toNat))), (2, .int (iI x)), (0, .ref h0), (1, .int (iI t))]) C dX12_flow_21 (by decide) rfl ?_
        have J1 : ∀ (h1 z1 : Int) (vb2 : Nat → Int) (ab2 : Nat → Nat → Int), BX vb2 ab2 → fr [39] [37, 38] v a vb2 ab2 → (0 ≤ h1 ∧ h1 ≤ 200 ∧ ((h1 = 0 ∧ z1 = v 31) ∨ (0 < h1 ∧ z1 = v 31 - (h1 + 1)))) → (vb2 39 = vb1 39) → (ab2 37 (vb2 39 - 1).toNat = h1) → (FL2 v a vb2 ab2 t x) → mw p l e (rmq 2 0 0) s m args below meth c G A 7 (MQ below (Qm G A (fun rq Lq Eq => ∃ (vq : Nat → Int) (aq : Nat → Nat → Int), mI G h0 ad ln vq aq Lq Eq ∧ (fun r v2 a2 => ∃ f : Int, r = some (.int (iI f)) ∧ fr [39] [37, 38] v a v2 a2 ∧ BX v2 a2 ∧ ((f = 0 ∨ (f = 1 ∧ 1 ≤ v2 39)) ∧ FLT v a v2 a2 t f)) rq vq aq)) args s 0 0 A) h0 ad ln vb2 ab2 0 0 40 [(4, .int (iI z1)), (3, .int (iI h1)), (2, .int (iI x)), (0, .ref h0), (1, .int (iI t))] [] := by
          intro h1 z1 vb2 ab2 bxb2 fpb2 hh hn1 hh1 hI40
          have J2 : ∀ (y : Int) (vb3 : Nat → Int) (ab3 : Nat → Nat → Int), BX vb3 ab3 → fr [39] [37, 38] v a vb3 ab3 → (y = -1 ∨ (y = v 25 ∧ v 25 - x ≤ z1) ∨ (x < y ∧ y ≤ 208 ∧ y - x + 1 ≤ z1)) → (vb3 39 = vb1 39) → (ab3 37 (vb3 39 - 1).toNat = h1) → (FL2 v a vb3 ab3 t x) → ((v 25 - x ≤ z1 ∧ y = v 25) ∨ (z1 < v 25 - x ∧ BRQ v a t x z1 y)) → mw p l e (rmq 2 0 0) s m args below meth c G A 7 (MQ below (Qm G A (fun rq Lq Eq => ∃ (vq : Nat → Int) (aq : Nat → Nat → Int), mI G h0 ad ln vq aq Lq Eq ∧ (fun r v2 a2 => ∃ f : Int, r = some (.int (iI f)) ∧ fr [39] [37, 38] v a v2 a2 ∧ BX v2 a2 ∧ ((f = 0 ∨ (f = 1 ∧ 1 ≤ v2 39)) ∧ FLT v a v2 a2 t f)) rq vq aq)) args s 0 0 A) h0 ad ln vb3 ab3 0 0 68 [(5, .int (iI y)), (4, .int (iI z1)), (3, .int (iI h1)), (2, .int (iI x)), (0, .ref h0), (1, .int (iI t))] [] := by
            intro y vb3 ab3 bxb3 fpb3 hy hn2 hh2 hI68 hyx
            have J3 : ∀ (y1 : Int) (vb4 : Nat → Int) (ab4 : Nat → Nat → Int), BX vb4 ab4 → fr [39] [37, 38] v a vb4 ab4 → ((h1 = 0 ∧ y1 = v 25) ∨ (y1 = v 25 ∧ v 25 - x ≤ z1) ∨ (x < y1 ∧ y1 ≤ 208 ∧ y1 - x + 1 ≤ z1)) → (vb4 39 = vb1 39) → (ab4 37 (vb4 39 - 1).toNat = h1) → (FL2 v a vb4 ab4 t x) → ((v 25 - x ≤ z1 ∧ y1 = v 25) ∨ (z1 < v 25 - x ∧ ((h1 = 0 ∧ y1 = v 25 ∧ BRQ v a t x z1 (-1)) ∨ (0 ≤ y1 ∧ BRQ v a t x z1 y1)))) → mw p l e (rmq 2 0 0) s m args below meth c G A 7 (MQ below (Qm G A (fun rq Lq Eq => ∃ (vq : Nat → Int) (aq : Nat → Nat → Int), mI G h0 ad ln vq aq Lq Eq ∧ (fun r v2 a2 => ∃ f : Int, r = some (.int (iI f)) ∧ fr [39] [37, 38] v a v2 a2 ∧ BX v2 a2 ∧ ((f = 0 ∨ (f = 1 ∧ 1 ≤ v2 39)) ∧ FLT v a v2 a2 t f)) rq vq aq)) args s 0 0 A) h0 ad ln vb4 ab4 0 0 88 [(5, .int (iI y1)), (4, .int (iI z1)), (3, .int (iI h1)), (2, .int (iI x)), (0, .ref h0), (1, .int (iI t))] [] := by
              intro y1 vb4 ab4 bxb4 fpb4 hy1 hn3 hh3 hI88 hyz
              have Lp2 : ∀ (nn : Nat) (k : Int) (vb5 : Nat → Int) (ab5 : Nat → Nat → Int), 210 - k < (nn : Int) → BX vb5 ab5 → fr [39] [37, 38] v a vb5 ab5 → (x ≤ k ∧ k ≤ 208) → (vb5 39 = vb1 39) → ((ab5 37 (vb5 39 - 1).toNat + (y1 - k) ≤ 199 ∨ (ab5 37 (vb5 39 - 1).toNat + (y1 - k) ≤ 200 ∧ y1 = v 25)) ∧ k ≤ y1) → (FL4 v a vb5 ab5 t x h1 k) → mw p l e (rmq 2 0 0) s m args below meth c G A 7 (MQ below (Qm G A (fun rq Lq Eq => ∃ (vq : Nat → Int) (aq : Nat → Nat → Int), mI G h0 ad ln vq aq Lq Eq ∧ (fun r v2 a2 => ∃ f : Int, r = some (.int (iI f)) ∧ fr [39] [37, 38] v a v2 a2 ∧ BX v2 a2 ∧ ((f = 0 ∨ (f = 1 ∧ 1 ≤ v2 39)) ∧ FLT v a v2 a2 t f)) rq vq aq)) args s 0 0 A) h0 ad ln vb5 ab5 0 0 100 [(6, .int (iI k)), (5, .int (iI y1)), (4, .int (iI z1)), (3, .int (iI h1)), (2, .int (iI x)), (0, .ref h0), (1, .int (iI t))] [] := by
                intro nn
                induction nn with
                | zero =>
                  intro k vb5 ab5 hm bxb5 fpb5 hk hn4 hh4 hf4
                  exact absurd hm (by omega)
                | succ nn ih2 =>
                  intro k vb5 ab5 hm bxb5 fpb5 hk hn4 hh4 hf4
                  refine m_iload (j := 0) C dX12_flow_100 rfl ?_
                  refine m_iload (j := 1) C dX12_flow_102 rfl ?_
                  refine m_icmp_ge (tgt := 124) C ⟨by omega, by omega⟩ ⟨by omega, by omega⟩ dX12_flow_104 (by decide) (fun c2 => ?_) (fun c2 => ?_)
                  · refine m_iload (j := 1) C dX12_flow_124 rfl ?_
                    refine m_aload_n (j := 5) C dX12_flow_126 rfl ?_
                    refine hv2 (show 0 ≤ vb5 25 ∧ vb5 25 ≤ 208 from bxb5.1 25) (show vb5 25 = v 25 from fpb5.1 25 rfl) (fun rv3 ve2 => ?_)
                    refine m_get (k := 25) C dX12_flow_127 w6_84 (by decide) rfl ?_
                    refine m_st (st2 := [.int (iI (v 25)), .int (iI y1)]) (congrArg (fun z => Value.int (iI z) :: [.int (iI y1)]) (fpb5.1 25 rfl)) ?_
                    refine m_icmp_ge (tgt := 141) C ⟨by omega, by omega⟩ (r32_c (lo := 0) (hi := 208) (Int.le_trans rv1.1 (Int.le_of_eq ve1)) (Int.le_trans (Int.le_of_eq ve1.symm) rv1.2) (by decide) (by decide)) dX12_flow_130 (by decide) (fun c3 => ?_) (fun c3 => ?_)
                    · refine m_iload (j := 1) C dX12_flow_141 rfl ?_
                      refine m_istore_n (lv2 := [(2, .int (iI y1)), (6, .int (iI k)), (5, .int (iI y1)), (4, .int (iI z1)), (3, .int (iI h1)), (0, .ref h0), (1, .int (iI t))]) C dX12_flow_143 (by decide) rfl ?_
                      refine m_iload_n (j := 0) C dX12_flow_144 rfl ?_
                      refine m_aload_n (j := 5) C dX12_flow_145 rfl ?_
                      refine m_get (k := 25) C dX12_flow_146 w6_84 (by decide) rfl ?_
                      refine m_st (st2 := [.int (iI (v 25)), .int (iI y1)]) (congrArg (fun z => Value.int (iI z) :: [.int (iI y1)]) (fpb5.1 25 rfl)) ?_
                      refine m_icmp_ge (tgt := 161) C ⟨by omega, by omega⟩ (r32_c (lo := 0) (hi := 208) (Int.le_trans rv1.1 (Int.le_of_eq ve1)) (Int.le_trans (Int.le_of_eq ve1.symm) rv1.2) (by decide) (by decide)) dX12_flow_149 (by decide) (fun _ => ?_) (fun z => absurd z (by omega))
                      refine m_goto (tgt := 2) C dX12_flow_161 (by decide) ?_
                      refine m_iload_n (j := 0) C dX12_flow_2 rfl ?_
                      refine m_aload_n (j := 5) C dX12_flow_3 rfl ?_
                      refine m_get (k := 25) C dX12_flow_4 w6_84 (by decide) rfl ?_
                      refine m_st (st2 := [.int (iI (v 25)), .int (iI y1)]) (congrArg (fun z => Value.int (iI z) :: [.int (iI y1)]) (fpb5.1 25 rfl)) ?_
                      refine m_icmp_ge (tgt := 164) C ⟨by omega, by omega⟩ (r32_c (lo := 0) (hi := 208) (Int.le_trans rv1.1 (Int.le_of_eq ve1)) (Int.le_trans (Int.le_of_eq ve1.symm) rv1.2) (by decide) (by decide)) dX12_flow_7 (by decide) (fun _ => ?_) (fun z => absurd z (by omega))
                      refine m_iconst C dX12_flow_164 ?_
                      exact m_zret C dX12_flow_165 rfl (Or.inr rfl) (Nat.le_of_ble_eq_true rfl) (Nat.le_of_ble_eq_true rfl) ⟨1, rfl, fpb5, bxb5, ⟨(Or.inr ⟨rfl, by show 1 ≤ vb5 39; omega⟩), FL4.fin (z := z1) hf4 (by omega) (by omega) (by omega) (by omega) (by rcases hyz with ⟨q1, _⟩ | ⟨q1, ⟨q2, _, q3⟩ | ⟨_, q3⟩⟩; exact Or.inl q1; exact Or.inr ⟨q1, Or.inl ⟨q2, q3⟩⟩; exact Or.inr ⟨q1, Or.inr (by rw [show k = y1 by omega]; exact q3)⟩)⟩⟩
                    · refine m_aload_n (j := 5) C dX12_flow_133 rfl ?_
                      refine m_aload_n (j := 5) C dX12_flow_134 rfl ?_
                      refine hv2 (show (-2147483648) ≤ vb5 33 ∧ vb5 33 ≤ 2147483647 from bxb5.1 33) (show vb5 33 = v 33 from fpb5.1 33 rfl) (fun rv4 ve3 => ?_)
                      refine m_get (k := 33) C dX12_flow_135 w6_92 (by decide) rfl ?_
                      refine m_st (st2 := [.int (iI (v 33)), .ref h0]) (congrArg (fun z => Value.int (iI z) :: [.ref h0]) (fpb5.1 33 rfl)) ?_
                      refine hv2 (show 0 ≤ vb5 39 ∧ vb5 39 ≤ 200 from bxb5.1 39) (show 0 ≤ ab5 37 (vb5 39 - 1).toNat ∧ ab5 37 (vb5 39 - 1).toNat ≤ 200 from bxb5.2 37 ((vb5 39 - 1).toNat)) (fun rv5 ra2 => ?_)
                      refine m_call (mc2 := 0) (ms2 := 0) (As := [.int (iI (v 33))]) (rest := []) C (M_putCell (x := v 33) bxb5.rg (by show 1 ≤ vb5 39 ∧ vb5 39 ≤ 200; omega) (by show 0 ≤ ab5 37 (vb5 39 - 1).toNat ∧ ab5 37 (vb5 39 - 1).toNat < 200; omega)) dX12_flow_138 kV_X12_253 rfl ck_13 rfl (Nat.le_of_ble_eq_true rfl) ⟨Nat.le_of_ble_eq_true rfl, Nat.le_of_ble_eq_true rfl⟩ ⟨Nat.le_of_ble_eq_true rfl, Nat.le_of_ble_eq_true rfl⟩ (fun rh2 vh2 ah2 h2 => ?_)
                      have px1 := PUC.mk bxb5 h2
                      obtain ⟨rfl, fn1, bn1, ex1⟩ := W_putCell bxb5 (by omega) (by show ab5 37 (vb5 39 - 1).toNat < 200; omega) h2
                      refine hv4 (fpb5.call fn1 rfl rfl) (show 0 ≤ vh2 39 ∧ vh2 39 ≤ 200 from bn1.1 39) (show vh2 39 = vb5 39 from fn1.1 39 rfl) (show ah2 37 (vb5 39 - 1).toNat = ab5 37 (vb5 39 - 1).toNat + 1 from ex1) (fun fq1 rv6 ve4 gex1 => ?_)
                      have jex1 : ah2 37 (vh2 39 - 1).toNat = ab5 37 (vb5 39 - 1).toNat + 1 := by rw [show vh2 39 = vb5 39 by omega]; exact ex1
                      refine m_st (st2 := []) rfl ?_
                      refine m_iload (j := 1) C dX12_flow_141 rfl ?_
                      refine m_istore_n (lv2 := [(2, .int (iI y1)), (6, .int (iI k)), (5, .int (iI y1)), (4, .int (iI z1)), (3, .int (iI h1)), (0, .ref h0), (1, .int (iI t))]) C dX12_flow_143 (by decide) rfl ?_
                      refine m_iload_n (j := 0) C dX12_flow_144 rfl ?_
                      refine m_aload_n (j := 5) C dX12_flow_145 rfl ?_
                      refine hv2 (show 0 ≤ vh2 25 ∧ vh2 25 ≤ 208 from bn1.1 25) (show vh2 25 = vb5 25 from fn1.1 25 rfl) (fun rv7 ve5 => ?_)
                      refine m_get (k := 25) C dX12_flow_146 w6_84 (by decide) rfl ?_
                      refine m_st (st2 := [.int (iI (v 25)), .int (iI y1)]) (congrArg (fun z => Value.int (iI z) :: [.int (iI y1)]) (fq1.1 25 rfl)) ?_
                      refine m_icmp_ge (tgt := 161) C ⟨by omega, by omega⟩ (r32_c (lo := 0) (hi := 208) (Int.le_trans rv1.1 (Int.le_of_eq ve1)) (Int.le_trans (Int.le_of_eq ve1.symm) rv1.2) (by decide) (by decide)) dX12_flow_149 (by decide) (fun z => absurd z (by omega)) (fun _ => ?_)
                      refine m_aload_n (j := 5) C dX12_flow_152 rfl ?_
                      refine m_call (mc2 := 0) (ms2 := 0) (As := []) (rest := []) C (M_newLine bn1.rg (bn1.1 39)) dX12_flow_153 kV_X12_257 rfl ck_13 rfl (Nat.le_of_ble_eq_true rfl) ⟨Nat.le_of_ble_eq_true rfl, Nat.le_of_ble_eq_true rfl⟩ ⟨Nat.le_of_ble_eq_true rfl, Nat.le_of_ble_eq_true rfl⟩ (fun rh3 vh3 ah3 h3 => ?_)
                      obtain ⟨f2, rfl, fn2, bn2, ex2, nx1⟩ := W_newLine2 bn1 h3
                      refine hv2 (fq1.call fn2 rfl rfl) (show (f2 = 1 ∧ vh3 39 = vh2 39 + 1 ∧ ah3 37 (vh3 39 - 1).toNat = 0) ∨ f2 = 0 from ex2) (fun fq2 gf2 => ?_)
                      refine m_st (st2 := [.int (iI f2)]) rfl ?_
                      refine m_if_ne (tgt := 161) C (r32_p0 gf2) dX12_flow_156 (by decide) (fun c4 => ?_) (fun c4 => ?_)
                      · replace gf2 := (gf2.resolve_right c4)
                        refine m_goto (tgt := 2) C dX12_flow_161 (by decide) ?_
                        have rv8 : 0 ≤ vh3 39 ∧ vh3 39 ≤ 200 := bn2.1 39
                        refine m_lv (lv2 := [(2, .int (iI y1)), (0, .ref h0), (1, .int (iI t))]) [0, 5, 6] rfl ?_
                        exact ih1  y1 _ _ (by omega) bn2 fq2 (by omega) (by show 1 ≤ (vh3 39) ∧ (vh3 39) ≤ 200; omega) (by have e := FL4.hyp (z := z1) hf4 (by omega) (by omega) (by omega) (by rcases hyz with ⟨_, q2⟩ | ⟨q1, _⟩; exact absurd q2 (by omega); exact q1) (by rcases hyz with ⟨_, q2⟩ | ⟨_, ⟨_, q2, _⟩ | ⟨_, q3⟩⟩; exact absurd q2 (by omega); exact absurd q2 (by omega); rw [show k = y1 by omega]; exact q3) (by omega) rfl px1 nx1 (by omega); rw [show k = y1 by omega] at e; exact e)
                      · clear gf2
                        refine m_iconst C dX12_flow_159 ?_
                        exact m_zret C dX12_flow_160 rfl (Or.inl rfl) (Nat.le_of_ble_eq_true rfl) (Nat.le_of_ble_eq_true rfl) ⟨0, rfl, fq2, bn2, ⟨Or.inl rfl, FL4.hno (z := z1) hf4 (by omega) (by omega) (by rcases hyz with ⟨_, q2⟩ | ⟨q1, _⟩; exact absurd q2 (by omega); exact q1) (by rcases hyz with ⟨_, q2⟩ | ⟨_, ⟨_, q2, _⟩ | ⟨_, q3⟩⟩; exact absurd q2 (by omega); exact absurd q2 (by omega); rw [show k = y1 by omega]; exact q3) (by omega) px1 nx1 (by omega)⟩⟩
                  · refine m_aload_n (j := 5) C dX12_flow_107 rfl ?_
                    refine m_aload_n (j := 5) C dX12_flow_108 rfl ?_
                    refine m_geta (k := 24) C dX12_flow_109 w6_83 (by decide) rfl ?_
                    refine m_iload (j := 0) C dX12_flow_112 rfl ?_
                    refine m_ald (k := 24) C dX12_flow_114 rfl rfl (by decide) (by omega) (by show _ < ((_ : Nat) : Int); simp only [mlen]; omega) (by decide) ?_
                    refine hv2 (show (-2147483648) ≤ ab5 24 k.toNat ∧ ab5 24 k.toNat ≤ 2147483647 from bxb5.2 24 (k.toNat)) (show ab5 24 (k.toNat) = a 24 (k.toNat) from congrFun (fpb5.2 24 rfl) (k.toNat)) (fun ra3 ae1 => ?_)
                    refine m_st (st2 := [.int (iI (a 24 k.toNat)), .ref h0]) (congrArg (fun z => Value.int (iI z) :: [.ref h0]) (congrFun (fpb5.2 24 rfl) (k.toNat))) ?_
                    refine hv2 (show 0 ≤ vb5 39 ∧ vb5 39 ≤ 200 from bxb5.1 39) (show 0 ≤ ab5 37 (vb5 39 - 1).toNat ∧ ab5 37 (vb5 39 - 1).toNat ≤ 200 from bxb5.2 37 ((vb5 39 - 1).toNat)) (fun rv9 ra4 => ?_)
                    refine m_call (mc2 := 0) (ms2 := 0) (As := [.int (iI (a 24 k.toNat))]) (rest := []) C (M_putCell (x := a 24 k.toNat) bxb5.rg (by show 1 ≤ vb5 39 ∧ vb5 39 ≤ 200; omega) (by show 0 ≤ ab5 37 (vb5 39 - 1).toNat ∧ ab5 37 (vb5 39 - 1).toNat < 200; omega)) dX12_flow_115 kV_X12_253 rfl ck_13 rfl (Nat.le_of_ble_eq_true rfl) ⟨Nat.le_of_ble_eq_true rfl, Nat.le_of_ble_eq_true rfl⟩ ⟨Nat.le_of_ble_eq_true rfl, Nat.le_of_ble_eq_true rfl⟩ (fun rh4 vh4 ah4 h4 => ?_)
                    have px2 := PUC.mk bxb5 h4
                    obtain ⟨rfl, fn3, bn3, ex3⟩ := W_putCell bxb5 (by omega) (by show ab5 37 (vb5 39 - 1).toNat < 200; omega) h4
                    refine hv4 (fpb5.call fn3 rfl rfl) (show 0 ≤ vh4 39 ∧ vh4 39 ≤ 200 from bn3.1 39) (show vh4 39 = vb5 39 from fn3.1 39 rfl) (show ah4 37 (vb5 39 - 1).toNat = ab5 37 (vb5 39 - 1).toNat + 1 from ex3) (fun fq3 rv10 ve6 gex3 => ?_)
                    have jex3 : ah4 37 (vh4 39 - 1).toNat = ab5 37 (vb5 39 - 1).toNat + 1 := by rw [show vh4 39 = vb5 39 by omega]; exact ex3
                    refine m_st (st2 := []) rfl ?_
                    refine m_iinc (z := k) (j := 0) (lv2 := [(6, .int (iI (k + 1))), (5, .int (iI y1)), (4, .int (iI z1)), (3, .int (iI h1)), (2, .int (iI x)), (0, .ref h0), (1, .int (iI t))]) C dX12_flow_118 rfl (by decide) rfl ?_
                    refine m_goto (tgt := 100) C dX12_flow_121 (by decide) ?_
                    have ra5 : 0 ≤ ah4 37 ((vh4 39) - 1).toNat ∧ ah4 37 ((vh4 39) - 1).toNat ≤ 200 := bn3.2 37 (((vh4 39) - 1).toNat)
                    refine m_lv (lv2 := [(6, .int (iI (k + 1))), (5, .int (iI y1)), (4, .int (iI z1)), (3, .int (iI h1)), (2, .int (iI x)), (0, .ref h0), (1, .int (iI t))]) [0, 1, 2, 3, 4, 5, 6] rfl ?_
                    exact ih2  (k + 1) _ _ (by omega) bn3 fq3 (by omega) (by show (vh4 39) = vb1 39; omega) (by show ((ah4 37 ((vh4 39) - 1).toNat) + (y1 - (k + 1)) ≤ 199 ∨ ((ah4 37 ((vh4 39) - 1).toNat) + (y1 - (k + 1)) ≤ 200 ∧ y1 = v 25)) ∧ (k + 1) ≤ y1; omega) (hf4.put (by omega) (by omega) rfl px2)
              refine m_iload_n (j := 2) C dX12_flow_88 rfl ?_
              refine m_if_le (tgt := 97) C (r32_c (lo := 0) (hi := 200) hh.1 hh.2.1 (by decide) (by decide)) dX12_flow_89 (by decide) (fun c5 => ?_) (fun c5 => ?_)
              · refine m_iload_n (j := 3) C dX12_flow_97 rfl ?_
                refine m_istore (lv2 := [(6, .int (iI x)), (5, .int (iI y1)), (4, .int (iI z1)), (3, .int (iI h1)), (2, .int (iI x)), (0, .ref h0), (1, .int (iI t))]) C dX12_flow_98 (by decide) rfl ?_
                refine hv2 (show 0 ≤ vb4 39 ∧ vb4 39 ≤ 200 from bxb4.1 39) (show 0 ≤ ab4 37 ((vb4 39) - 1).toNat ∧ ab4 37 ((vb4 39) - 1).toNat ≤ 200 from bxb4.2 37 (((vb4 39) - 1).toNat)) (fun rv11 ra6 => ?_)
                refine m_lv (lv2 := [(6, .int (iI x)), (5, .int (iI y1)), (4, .int (iI z1)), (3, .int (iI h1)), (2, .int (iI x)), (0, .ref h0), (1, .int (iI t))]) [0, 1, 2, 3, 4, 5, 6] rfl ?_
                exact Lp2 211 x _ _ (by omega) bxb4 fpb4 (by omega) (by show (vb4 39) = vb1 39; omega) (by show ((ab4 37 ((vb4 39) - 1).toNat) + (y1 - x) ≤ 199 ∨ ((ab4 37 ((vb4 39) - 1).toNat) + (y1 - x) ≤ 200 ∧ y1 = v 25)) ∧ x ≤ y1; omega) (FL2.b0 hI88 hh3 (by omega))
              · refine m_aload_n (j := 4) C dX12_flow_92 rfl ?_
                refine m_iconst C dX12_flow_93 ?_
                refine hv2 (show 0 ≤ vb4 39 ∧ vb4 39 ≤ 200 from bxb4.1 39) (show 0 ≤ ab4 37 (vb4 39 - 1).toNat ∧ ab4 37 (vb4 39 - 1).toNat ≤ 200 from bxb4.2 37 ((vb4 39 - 1).toNat)) (fun rv12 ra7 => ?_)
                refine m_call (mc2 := 0) (ms2 := 0) (As := [.int (iI 0)]) (rest := []) C (M_putCell (x := 0) bxb4.rg (by show 1 ≤ vb4 39 ∧ vb4 39 ≤ 200; omega) (by show 0 ≤ ab4 37 (vb4 39 - 1).toNat ∧ ab4 37 (vb4 39 - 1).toNat < 200; omega)) dX12_flow_94 kV_X12_253 rfl ck_13 rfl (Nat.le_of_ble_eq_true rfl) ⟨Nat.le_of_ble_eq_true rfl, Nat.le_of_ble_eq_true rfl⟩ ⟨Nat.le_of_ble_eq_true rfl, Nat.le_of_ble_eq_true rfl⟩ (fun rh5 vh5 ah5 h5 => ?_)
                have px3 := PUC.mk bxb4 h5
                obtain ⟨rfl, fn4, bn4, ex4⟩ := W_putCell bxb4 (by omega) (by show ab4 37 (vb4 39 - 1).toNat < 200; omega) h5
                refine hv4 (fpb4.call fn4 rfl rfl) (show 0 ≤ vh5 39 ∧ vh5 39 ≤ 200 from bn4.1 39) (show vh5 39 = vb4 39 from fn4.1 39 rfl) (show ah5 37 (vb4 39 - 1).toNat = ab4 37 (vb4 39 - 1).toNat + 1 from ex4) (fun fq4 rv13 ve7 gex4 => ?_)
                have jex4 : ah5 37 (vh5 39 - 1).toNat = ab4 37 (vb4 39 - 1).toNat + 1 := by rw [show vh5 39 = vb4 39 by omega]; exact ex4
                refine m_st (st2 := []) rfl ?_
                refine m_iload_n (j := 3) C dX12_flow_97 rfl ?_
                refine m_istore (lv2 := [(6, .int (iI x)), (5, .int (iI y1)), (4, .int (iI z1)), (3, .int (iI h1)), (2, .int (iI x)), (0, .ref h0), (1, .int (iI t))]) C dX12_flow_98 (by decide) rfl ?_
                have ra8 : 0 ≤ ah5 37 ((vh5 39) - 1).toNat ∧ ah5 37 ((vh5 39) - 1).toNat ≤ 200 := bn4.2 37 (((vh5 39) - 1).toNat)
                refine m_lv (lv2 := [(6, .int (iI x)), (5, .int (iI y1)), (4, .int (iI z1)), (3, .int (iI h1)), (2, .int (iI x)), (0, .ref h0), (1, .int (iI t))]) [0, 1, 2, 3, 4, 5, 6] rfl ?_
                exact Lp2 211 x _ _ (by omega) bn4 fq4 (by omega) (by show (vh5 39) = vb1 39; omega) (by show ((ah5 37 ((vh5 39) - 1).toNat) + (y1 - x) ≤ 199 ∨ ((ah5 37 ((vh5 39) - 1).toNat) + (y1 - x) ≤ 200 ∧ y1 = v 25)) ∧ x ≤ y1; omega) (FL2.b1 hI88 hh3 (by omega) px3)
            refine m_iload (j := 0) C dX12_flow_68 rfl ?_
            refine m_if_ge (tgt := 83) C ⟨by omega, by omega⟩ dX12_flow_70 (by decide) (fun c6 => ?_) (fun c6 => ?_)
            · refine m_iload (j := 0) C dX12_flow_83 rfl ?_
              refine m_if_lt (tgt := 144) C ⟨by omega, by omega⟩ dX12_flow_85 (by decide) (fun z => absurd z (by omega)) (fun _ => ?_)
              refine hv2 (show 0 ≤ vb3 39 ∧ vb3 39 ≤ 200 from bxb3.1 39) (show 0 ≤ ab3 37 ((vb3 39) - 1).toNat ∧ ab3 37 ((vb3 39) - 1).toNat ≤ 200 from bxb3.2 37 (((vb3 39) - 1).toNat)) (fun rv14 ra9 => ?_)
              refine m_lv (lv2 := [(5, .int (iI y)), (4, .int (iI z1)), (3, .int (iI h1)), (2, .int (iI x)), (0, .ref h0), (1, .int (iI t))]) [0, 1, 2, 3, 4, 5] rfl ?_
              exact J3  y _ _  bxb3 fpb3 (by omega) (by show (vb3 39) = vb1 39; omega) (by show (ab3 37 ((vb3 39) - 1).toNat) = h1; omega) hI68 (by rcases hyx with ⟨q1, q2⟩ | ⟨q1, q2⟩; exact Or.inl ⟨q1, q2⟩; exact Or.inr ⟨q1, Or.inr ⟨by omega, q2⟩⟩)
            · refine m_iload_n (j := 2) C dX12_flow_73 rfl ?_
              refine m_if_ne (tgt := 83) C (r32_c (lo := 0) (hi := 200) hh.1 hh.2.1 (by decide) (by decide)) dX12_flow_74 (by decide) (fun c7 => ?_) (fun c7 => ?_)
              · refine m_iload (j := 0) C dX12_flow_83 rfl ?_
                refine m_if_lt (tgt := 144) C ⟨by omega, by omega⟩ dX12_flow_85 (by decide) (fun _ => ?_) (fun z => absurd z (by omega))
                refine m_iload_n (j := 3) C dX12_flow_144 rfl ?_
                refine m_aload_n (j := 4) C dX12_flow_145 rfl ?_
                refine hv2 (show 0 ≤ vb3 25 ∧ vb3 25 ≤ 208 from bxb3.1 25) (show vb3 25 = v 25 from fpb3.1 25 rfl) (fun rv15 ve8 => ?_)
                refine m_get (k := 25) C dX12_flow_146 w6_84 (by decide) rfl ?_
                refine m_st (st2 := [.int (iI (v 25)), .int (iI x)]) (congrArg (fun z => Value.int (iI z) :: [.int (iI x)]) (fpb3.1 25 rfl)) ?_
                refine m_icmp_ge (tgt := 161) C ⟨by omega, by omega⟩ (r32_c (lo := 0) (hi := 208) (Int.le_trans rv1.1 (Int.le_of_eq ve1)) (Int.le_trans (Int.le_of_eq ve1.symm) rv1.2) (by decide) (by decide)) dX12_flow_149 (by decide) (fun z => absurd z (by omega)) (fun _ => ?_)
                refine m_aload_n (j := 4) C dX12_flow_152 rfl ?_
                refine m_call (mc2 := 0) (ms2 := 0) (As := []) (rest := []) C (M_newLine bxb3.rg (bxb3.1 39)) dX12_flow_153 kV_X12_257 rfl ck_13 rfl (Nat.le_of_ble_eq_true rfl) ⟨Nat.le_of_ble_eq_true rfl, Nat.le_of_ble_eq_true rfl⟩ ⟨Nat.le_of_ble_eq_true rfl, Nat.le_of_ble_eq_true rfl⟩ (fun rh6 vh6 ah6 h6 => ?_)
                obtain ⟨f5, rfl, fn5, bn5, ex5, nx2⟩ := W_newLine2 bxb3 h6
                refine hv2 (fpb3.call fn5 rfl rfl) (show (f5 = 1 ∧ vh6 39 = vb3 39 + 1 ∧ ah6 37 (vh6 39 - 1).toNat = 0) ∨ f5 = 0 from ex5) (fun fq5 gf5 => ?_)
                refine m_st (st2 := [.int (iI f5)]) rfl ?_
                refine m_if_ne (tgt := 161) C (r32_p0 gf5) dX12_flow_156 (by decide) (fun c8 => ?_) (fun c8 => ?_)
                · replace gf5 := (gf5.resolve_right c8)
                  refine m_goto (tgt := 2) C dX12_flow_161 (by decide) ?_
                  have rv16 : 0 ≤ vh6 39 ∧ vh6 39 ≤ 200 := bn5.1 39
                  refine m_lv (lv2 := [(2, .int (iI x)), (0, .ref h0), (1, .int (iI t))]) [3, 4, 5] rfl ?_
                  exact ih1  x _ _ (by omega) bn5 fq5 (by omega) (by show 1 ≤ (vh6 39) ∧ (vh6 39) ≤ 200; omega) (FL2.nl (z := z1) hI68 (by omega) hh2 (by omega) (by omega) (by rcases hyx with ⟨_, q⟩ | ⟨q, _⟩; exact absurd q (by omega); exact q) (by rcases hyx with ⟨_, q⟩ | ⟨_, q⟩; exact absurd q (by omega); exact q) (by omega) nx2 (by omega))
                · clear gf5
                  refine m_iconst C dX12_flow_159 ?_
                  exact m_zret C dX12_flow_160 rfl (Or.inl rfl) (Nat.le_of_ble_eq_true rfl) (Nat.le_of_ble_eq_true rfl) ⟨0, rfl, fq5, bn5, ⟨Or.inl rfl, FL2.nno (z := z1) hI68 (by omega) hh2 (by omega) (by omega) (by rcases hyx with ⟨_, q⟩ | ⟨q, _⟩; exact absurd q (by omega); exact q) nx2 (by omega)⟩⟩
              · refine m_aload_n (j := 4) C dX12_flow_77 rfl ?_
                refine hv2 (show 0 ≤ vb3 25 ∧ vb3 25 ≤ 208 from bxb3.1 25) (show vb3 25 = v 25 from fpb3.1 25 rfl) (fun rv17 ve9 => ?_)
                refine m_get (k := 25) C dX12_flow_78 w6_84 (by decide) rfl ?_
                refine m_st (st2 := [.int (iI (v 25))]) (congrArg (fun z => Value.int (iI z) :: []) (fpb3.1 25 rfl)) ?_
                refine m_istore (lv2 := [(5, .int (iI (v 25))), (4, .int (iI z1)), (3, .int (iI h1)), (2, .int (iI x)), (0, .ref h0), (1, .int (iI t))]) C dX12_flow_81 (by decide) rfl ?_
                refine m_iload (j := 0) C dX12_flow_83 rfl ?_
                refine m_if_lt (tgt := 144) C (r32_c (lo := 0) (hi := 208) (Int.le_trans rv1.1 (Int.le_of_eq ve1)) (Int.le_trans (Int.le_of_eq ve1.symm) rv1.2) (by decide) (by decide)) dX12_flow_85 (by decide) (fun c9 => ?_) (fun c9 => ?_)
                · refine m_iload_n (j := 3) C dX12_flow_144 rfl ?_
                  refine m_aload_n (j := 4) C dX12_flow_145 rfl ?_
                  refine m_get (k := 25) C dX12_flow_146 w6_84 (by decide) rfl ?_
                  refine m_st (st2 := [.int (iI (v 25)), .int (iI x)]) (congrArg (fun z => Value.int (iI z) :: [.int (iI x)]) (fpb3.1 25 rfl)) ?_
                  refine m_icmp_ge (tgt := 161) C ⟨by omega, by omega⟩ (r32_c (lo := 0) (hi := 208) (Int.le_trans rv1.1 (Int.le_of_eq ve1)) (Int.le_trans (Int.le_of_eq ve1.symm) rv1.2) (by decide) (by decide)) dX12_flow_149 (by decide) (fun z => absurd z (by omega)) (fun _ => ?_)
                  refine m_aload_n (j := 4) C dX12_flow_152 rfl ?_
                  refine m_call (mc2 := 0) (ms2 := 0) (As := []) (rest := []) C (M_newLine bxb3.rg (bxb3.1 39)) dX12_flow_153 kV_X12_257 rfl ck_13 rfl (Nat.le_of_ble_eq_true rfl) ⟨Nat.le_of_ble_eq_true rfl, Nat.le_of_ble_eq_true rfl⟩ ⟨Nat.le_of_ble_eq_true rfl, Nat.le_of_ble_eq_true rfl⟩ (fun rh7 vh7 ah7 h7 => ?_)
                  obtain ⟨f6, rfl, fn6, bn6, ex6, nx3⟩ := W_newLine2 bxb3 h7
                  refine hv2 (fpb3.call fn6 rfl rfl) (show (f6 = 1 ∧ vh7 39 = vb3 39 + 1 ∧ ah7 37 (vh7 39 - 1).toNat = 0) ∨ f6 = 0 from ex6) (fun fq6 gf6 => ?_)
                  refine m_st (st2 := [.int (iI f6)]) rfl ?_
                  refine m_if_ne (tgt := 161) C (r32_p0 gf6) dX12_flow_156 (by decide) (fun c10 => ?_) (fun c10 => ?_)
                  · replace gf6 := (gf6.resolve_right c10)
                    refine m_goto (tgt := 2) C dX12_flow_161 (by decide) ?_
                    have rv18 : 0 ≤ vh7 39 ∧ vh7 39 ≤ 200 := bn6.1 39
                    refine m_lv (lv2 := [(2, .int (iI x)), (0, .ref h0), (1, .int (iI t))]) [3, 4, 5] rfl ?_
                    exact ih1  x _ _ (by omega) bn6 fq6 (by omega) (by show 1 ≤ (vh7 39) ∧ (vh7 39) ≤ 200; omega) (FL2.nl (z := z1) hI68 (by omega) hh2 (by omega) (by omega) (by rcases hyx with ⟨_, q⟩ | ⟨q, _⟩; exact absurd q (by omega); exact q) (by rcases hyx with ⟨_, q⟩ | ⟨_, q⟩; exact absurd q (by omega); exact q) (by omega) nx3 (by omega))
                  · clear gf6
                    refine m_iconst C dX12_flow_159 ?_
                    exact m_zret C dX12_flow_160 rfl (Or.inl rfl) (Nat.le_of_ble_eq_true rfl) (Nat.le_of_ble_eq_true rfl) ⟨0, rfl, fq6, bn6, ⟨Or.inl rfl, FL2.nno (z := z1) hI68 (by omega) hh2 (by omega) (by omega) (by rcases hyx with ⟨_, q⟩ | ⟨q, _⟩; exact absurd q (by omega); exact q) nx3 (by omega)⟩⟩
                · have rv19 : 0 ≤ vb3 39 ∧ vb3 39 ≤ 200 := bxb3.1 39
                  have ra10 : 0 ≤ ab3 37 ((vb3 39) - 1).toNat ∧ ab3 37 ((vb3 39) - 1).toNat ≤ 200 := bxb3.2 37 (((vb3 39) - 1).toNat)
                  refine m_lv (lv2 := [(5, .int (iI (v 25))), (4, .int (iI z1)), (3, .int (iI h1)), (2, .int (iI x)), (0, .ref h0), (1, .int (iI t))]) [0, 1, 2, 3, 4, 5] rfl ?_
                  exact J3  (v 25) _ _  bxb3 fpb3 (by omega) (by show (vb3 39) = vb1 39; omega) (by show (ab3 37 ((vb3 39) - 1).toNat) = h1; omega) hI68 (by rcases hyx with ⟨q1, q2⟩ | ⟨q1, q2⟩; exact absurd q2 (by omega); exact Or.inr ⟨q1, Or.inl ⟨by omega, by omega, by rw [show y = -1 by omega] at q2; exact q2⟩⟩)
          refine m_aload_n (j := 3) C dX12_flow_40 rfl ?_
          refine hv2 (show 0 ≤ vb2 25 ∧ vb2 25 ≤ 208 from bxb2.1 25) (show vb2 25 = v 25 from fpb2.1 25 rfl) (fun rv20 ve10 => ?_)
          refine m_get (k := 25) C dX12_flow_41 w6_84 (by decide) rfl ?_
          refine m_st (st2 := [.int (iI (v 25))]) (congrArg (fun z => Value.int (iI z) :: []) (fpb2.1 25 rfl)) ?_
          refine m_iload_n (j := 2) C dX12_flow_44 rfl ?_
          refine m_isub C dX12_flow_45 ?_
          refine m_iload (j := 0) C dX12_flow_46 rfl ?_
          refine m_icmp_gt (tgt := 58) C ⟨by omega, by omega⟩ ⟨by omega, by omega⟩ dX12_flow_48 (by decide) (fun c11 => ?_) (fun c11 => ?_)
          · refine m_aload_n (j := 3) C dX12_flow_58 rfl ?_
            refine m_iload_n (j := 4) C dX12_flow_59 rfl ?_
            refine m_iload_n (j := 2) C dX12_flow_60 rfl ?_
            refine m_iload (j := 0) C dX12_flow_61 rfl ?_
            refine m_call (mc2 := 0) (ms2 := 0) (As := [.int (iI t), .int (iI x), .int (iI z1)]) (rest := []) C (E_breakOf (t := t) (q := x) (z := z1) bxb2 (by omega) (by omega) (by omega)) dX12_flow_63 kV_X12_249 rfl ck_13 rfl (Nat.le_of_ble_eq_true rfl) ⟨Nat.le_of_ble_eq_true rfl, Nat.le_of_ble_eq_true rfl⟩ ⟨Nat.le_of_ble_eq_true rfl, Nat.le_of_ble_eq_true rfl⟩ (fun rh8 vh8 ah8 h8 => ?_)
            obtain ⟨f7, rfl, fn7, bn7, ex7, bq1⟩ := h8
            obtain ⟨rfl, rfl⟩ := fn7.eq
            have gf7 : f7 = -1 ∨ (x < f7 ∧ f7 ≤ 208 ∧ f7 - x + 1 ≤ z1) := ex7
            refine m_st (st2 := [.int (iI f7)]) rfl ?_
            refine m_istore (lv2 := [(5, .int (iI f7)), (4, .int (iI z1)), (3, .int (iI h1)), (2, .int (iI x)), (0, .ref h0), (1, .int (iI t))]) C dX12_flow_66 (by decide) rfl ?_
            refine hv2 (show 0 ≤ vb2 39 ∧ vb2 39 ≤ 200 from bxb2.1 39) (show 0 ≤ ab2 37 ((vb2 39) - 1).toNat ∧ ab2 37 ((vb2 39) - 1).toNat ≤ 200 from bxb2.2 37 (((vb2 39) - 1).toNat)) (fun rv21 ra11 => ?_)
            refine m_lv (lv2 := [(5, .int (iI f7)), (4, .int (iI z1)), (3, .int (iI h1)), (2, .int (iI x)), (0, .ref h0), (1, .int (iI t))]) [0, 1, 2, 3, 4, 5] rfl ?_
            exact J2  f7 _ _  bxb2 fpb2 (by omega) (by show (vb2 39) = vb1 39; omega) (by show (ab2 37 ((vb2 39) - 1).toNat) = h1; omega) hI40 (Or.inr ⟨by omega, (BRQ.fr bq1 (fpb2.1 23 rfl) (fpb2.2 6 rfl) (fpb2.2 20 rfl) (fpb2.2 21 rfl) (fpb2.2 22 rfl) (fpb2.2 26 rfl))⟩)
          · refine m_aload_n (j := 3) C dX12_flow_51 rfl ?_
            refine m_get (k := 25) C dX12_flow_52 w6_84 (by decide) rfl ?_
            refine m_st (st2 := [.int (iI (v 25))]) (congrArg (fun z => Value.int (iI z) :: []) (fpb2.1 25 rfl)) ?_
            refine m_goto (tgt := 66) C dX12_flow_55 (by decide) ?_
            refine m_istore (lv2 := [(5, .int (iI (v 25))), (4, .int (iI z1)), (3, .int (iI h1)), (2, .int (iI x)), (0, .ref h0), (1, .int (iI t))]) C dX12_flow_66 (by decide) rfl ?_
            refine hv2 (show 0 ≤ vb2 39 ∧ vb2 39 ≤ 200 from bxb2.1 39) (show 0 ≤ ab2 37 ((vb2 39) - 1).toNat ∧ ab2 37 ((vb2 39) - 1).toNat ≤ 200 from bxb2.2 37 (((vb2 39) - 1).toNat)) (fun rv22 ra12 => ?_)
            refine m_lv (lv2 := [(5, .int (iI (v 25))), (4, .int (iI z1)), (3, .int (iI h1)), (2, .int (iI x)), (0, .ref h0), (1, .int (iI t))]) [0, 1, 2, 3, 4, 5] rfl ?_
            exact J2  (v 25) _ _  bxb2 fpb2 (by omega) (by show (vb2 39) = vb1 39; omega) (by show (ab2 37 ((vb2 39) - 1).toNat) = h1; omega) hI40 (Or.inl ⟨by omega, by omega⟩)
        refine m_aload_n (j := 2) C dX12_flow_22 rfl ?_
        refine hv2 (show 1 ≤ vb1 31 ∧ vb1 31 ≤ 100 from bxb1.1 31) (show vb1 31 = v 31 from fpb1.1 31 rfl) (fun rv23 ve11 => ?_)
        refine m_get (k := 31) C dX12_flow_23 w6_90 (by decide) rfl ?_
        refine m_st (st2 := [.int (iI (v 31))]) (congrArg (fun z => Value.int (iI z) :: []) (fpb1.1 31 rfl)) ?_
        refine m_iload_n (j := 0) C dX12_flow_26 rfl ?_
        refine m_if_ne (tgt := 34) C (r32_c (lo := 0) (hi := 200) ra1.1 ra1.2 (by decide) (by decide)) dX12_flow_27 (by decide) (fun c12 => ?_) (fun c12 => ?_)
        · refine m_iload_n (j := 0) C dX12_flow_34 rfl ?_
          refine m_iconst C dX12_flow_35 ?_
          refine m_iadd C dX12_flow_36 ?_
          refine m_isub C dX12_flow_37 ?_
          refine m_istore (lv2 := [(4, .int (iI ((v 31) - ((ab1 37 ((vb1 39) - 1).toNat) + 1)))), (3, .int (iI (ab1 37 ((vb1 39) - 1).toNat))), (2, .int (iI x)), (0, .ref h0), (1, .int (iI t))]) C dX12_flow_38 (by decide) rfl ?_
          refine m_lv (lv2 := [(4, .int (iI ((v 31) - ((ab1 37 ((vb1 39) - 1).toNat) + 1)))), (3, .int (iI (ab1 37 ((vb1 39) - 1).toNat))), (2, .int (iI x)), (0, .ref h0), (1, .int (iI t))]) [0, 1, 2, 3, 4] rfl ?_
          exact J1  (ab1 37 ((vb1 39) - 1).toNat) ((v 31) - ((ab1 37 ((vb1 39) - 1).toNat) + 1)) _ _  bxb1 fpb1 (by omega) (by show (vb1 39) = vb1 39; omega) (by show (ab1 37 ((vb1 39) - 1).toNat) = (ab1 37 ((vb1 39) - 1).toNat); omega) hI
        · refine m_iconst C dX12_flow_30 ?_
          refine m_goto (tgt := 37) C dX12_flow_31 (by decide) ?_
          refine m_isub C dX12_flow_37 ?_
          refine m_istore (lv2 := [(4, .int (iI ((v 31) - 0))), (3, .int (iI (ab1 37 ((vb1 39) - 1).toNat))), (2, .int (iI x)), (0, .ref h0), (1, .int (iI t))]) C dX12_flow_38 (by decide) rfl ?_
          refine m_lv (lv2 := [(4, .int (iI ((v 31) - 0))), (3, .int (iI (ab1 37 ((vb1 39) - 1).toNat))), (2, .int (iI x)), (0, .ref h0), (1, .int (iI t))]) [0, 1, 2, 3, 4] rfl ?_
          exact J1  (ab1 37 ((vb1 39) - 1).toNat) ((v 31) - 0) _ _  bxb1 fpb1 (by omega) (by show (vb1 39) = vb1 39; omega) (by show (ab1 37 ((vb1 39) - 1).toNat) = (ab1 37 ((vb1 39) - 1).toNat); omega) hI
  have rv24 : 0 ≤ v 39 ∧ v 39 ≤ 200 := hB.1 39
  refine m_lv (lv2 := [(2, .int (iI 0)), (0, .ref h0), (1, .int (iI t))]) [0, 1, 2] rfl ?_
  exact Lp1 202 0 _ _ (by omega) hB fp0 (by omega) (by show 1 ≤ (v 39) ∧ (v 39) ≤ 200; omega) FL2.init
set_option maxHeartbeats 4000000 in
set_option maxRecDepth 100000 in
theorem E_centre {l : Launch} {G : GT} {h0 : Nat} {ad ln : Nat → Nat} {v : Nat → Int} {a : Nat → Nat → Int}  {q : Int} (hB : BX v a) (hq : 0 ≤ q ∧ q ≤ 200) : Mm l G yX12_centre cX12_centre 5 none 0 [.int (iI q)] h0 ad ln v a 0 0 (fun r v2 a2 => r = none ∧ fr [] [37, 38] v a v2 a2 ∧ BX v2 a2 ∧ (CNX v a v2 a2 q)) := by
  refine Mm.mk (by decide) (Nat.le_of_ble_eq_true rfl) ?_
  intro p e s m args below meth c A C
  refine hv2 (show 1 ≤ v 31 ∧ v 31 ≤ 100 from hB.1 31) (show fr [] [37, 38] v a v a from fr.refl) (fun r31 fp0 => ?_)
  refine m_iload_n (j := 1) C dX12_centre_0 rfl ?_
  refine m_istore_n (lv2 := [(2, .int (iI q)), (0, .ref h0), (1, .int (iI q))]) C dX12_centre_1 (by decide) rfl ?_
  have Lp1 : ∀ (nn : Nat) (x : Int) (vb1 : Nat → Int) (ab1 : Nat → Nat → Int), 201 - x < (nn : Int) → BX vb1 ab1 → fr [] [37, 38] v a vb1 ab1 → (0 ≤ x ∧ x ≤ 200 ∧ q ≤ x) → (CN2 v a vb1 ab1 q x) → mw p l e (rmq 0 0 0) s m args below meth c G A 5 (MQ below (Qm G A (fun rq Lq Eq => ∃ (vq : Nat → Int) (aq : Nat → Nat → Int), mI G h0 ad ln vq aq Lq Eq ∧ (fun r v2 a2 => r = none ∧ fr [] [37, 38] v a v2 a2 ∧ BX v2 a2 ∧ (CNX v a v2 a2 q)) rq vq aq)) args s 0 0 A) h0 ad ln vb1 ab1 0 0 2 [(2, .int (iI x)), (0, .ref h0), (1, .int (iI q))] [] := by
    intro nn
    induction nn with
    | zero =>
      intro x vb1 ab1 hm bxb1 fpb1 hx hC
      exact absurd hm (by omega)
    | succ nn ih1 =>
      intro x vb1 ab1 hm bxb1 fpb1 hx hC
      refine m_iload_n (j := 0) C dX12_centre_2 rfl ?_
      refine m_aload_n (j := 1) C dX12_centre_3 rfl ?_
      refine hv2 (show 0 ≤ vb1 39 ∧ vb1 39 ≤ 200 from bxb1.1 39) (show vb1 39 = v 39 from fpb1.1 39 rfl) (fun rv1 ve1 => ?_)
      refine m_get (k := 39) C dX12_centre_4 w6_98 (by decide) rfl ?_
      refine m_st (st2 := [.int (iI (v 39)), .int (iI x)]) (congrArg (fun z => Value.int (iI z) :: [.int (iI x)]) (fpb1.1 39 rfl)) ?_
      refine m_icmp_ge (tgt := 144) C (r32_c (lo := 0) (hi := 200) hx.1 hx.2.1 (by decide) (by decide)) (r32_c (lo := 0) (hi := 200) (Int.le_trans rv1.1 (Int.le_of_eq ve1)) (Int.le_trans (Int.le_of_eq ve1.symm) rv1.2) (by decide) (by decide)) dX12_centre_7 (by decide) (fun c1 => ?_) (fun c1 => ?_)
      · exact m_vret C dX12_centre_144 rfl (Nat.le_of_ble_eq_true rfl) (Nat.le_of_ble_eq_true rfl) ⟨rfl, fpb1, bxb1, (hC.fin (by omega) (by omega))⟩
      · refine m_aload_n (j := 1) C dX12_centre_10 rfl ?_
        refine m_geta (k := 37) C dX12_centre_11 w6_96 (by decide) rfl ?_
        refine m_iload_n (j := 0) C dX12_centre_14 rfl ?_
        refine m_ald (k := 37) C dX12_centre_15 rfl rfl (by decide) (by omega) (by show _ < ((_ : Nat) : Int); simp only [mlen]; omega) (by decide) ?_
        have ra1 : 0 ≤ ab1 37 x.toNat ∧ ab1 37 x.toNat ≤ 200 := bxb1.2 37 (x.toNat)
        have J1 : ∀ (y : Int) (vb2 : Nat → Int) (ab2 : Nat → Nat → Int), BX vb2 ab2 → fr [] [37, 38] v a vb2 ab2 → (0 ≤ y ∧ ab2 37 x.toNat + y ≤ 200) → ((((ab2 37 x.toNat = 0 ∨ v 31 ≤ ab2 37 x.toNat) ∧ y = 0) ∨ (0 < ab2 37 x.toNat ∧ ab2 37 x.toNat < v 31 ∧ y = (v 31 - ab2 37 x.toNat) / 2))) → (CN2 v a vb2 ab2 q x) → mw p l e (rmq 0 0 0) s m args below meth c G A 5 (MQ below (Qm G A (fun rq Lq Eq => ∃ (vq : Nat → Int) (aq : Nat → Nat → Int), mI G h0 ad ln vq aq Lq Eq ∧ (fun r v2 a2 => r = none ∧ fr [] [37, 38] v a v2 a2 ∧ BX v2 a2 ∧ (CNX v a v2 a2 q)) rq vq aq)) args s 0 0 A) h0 ad ln vb2 ab2 0 0 49 [(2, .int (iI x)), (0, .ref h0), (1, .int (iI q))] [.int (iI y)] := by
          intro y vb2 ab2 bxb2 fpb2 hy hy2 hC1
          refine m_istore_n (lv2 := [(3, .int (iI y)), (2, .int (iI x)), (0, .ref h0), (1, .int (iI q))]) C dX12_centre_49 (by decide) rfl ?_
          refine m_aload_n (j := 2) C dX12_centre_50 rfl ?_
          refine m_geta (k := 37) C dX12_centre_51 w6_96 (by decide) rfl ?_
          refine m_iload_n (j := 1) C dX12_centre_54 rfl ?_
          refine m_ald (k := 37) C dX12_centre_55 rfl rfl (by decide) (by omega) (by show _ < ((_ : Nat) : Int); simp only [mlen]; omega) (by decide) ?_
          have ra2 : 0 ≤ ab2 37 x.toNat ∧ ab2 37 x.toNat ≤ 200 := bxb2.2 37 (x.toNat)
          refine m_iconst C dX12_centre_56 ?_
          refine m_isub C dX12_centre_57 ?_
          refine m_istore (lv2 := [(4, .int (iI ((ab2 37 x.toNat) - 1))), (3, .int (iI y)), (2, .int (iI x)), (0, .ref h0), (1, .int (iI q))]) C dX12_centre_58 (by decide) rfl ?_
          have Lp2 : ∀ (nn : Nat) (k : Int) (vb3 : Nat → Int) (ab3 : Nat → Nat → Int), k + 1 < (nn : Int) → BX vb3 ab3 → fr [] [37, 38] v a vb3 ab3 → (-1 ≤ k ∧ k < ab3 37 x.toNat ∧ ab3 37 x.toNat + y ≤ 200) → ((((ab3 37 x.toNat = 0 ∨ v 31 ≤ ab3 37 x.toNat) ∧ y = 0) ∨ (0 < ab3 37 x.toNat ∧ ab3 37 x.toNat < v 31 ∧ y = (v 31 - ab3 37 x.toNat) / 2))) → (CE6 v a vb3 ab3 q x y k) → mw p l e (rmq 0 0 0) s m args below meth c G A 5 (MQ below (Qm G A (fun rq Lq Eq => ∃ (vq : Nat → Int) (aq : Nat → Nat → Int), mI G h0 ad ln vq aq Lq Eq ∧ (fun r v2 a2 => r = none ∧ fr [] [37, 38] v a v2 a2 ∧ BX v2 a2 ∧ (CNX v a v2 a2 q)) rq vq aq)) args s 0 0 A) h0 ad ln vb3 ab3 0 0 60 [(4, .int (iI k)), (3, .int (iI y)), (2, .int (iI x)), (0, .ref h0), (1, .int (iI q))] [] := by
            intro nn
            induction nn with
            | zero =>
              intro k vb3 ab3 hm bxb3 fpb3 hk hy3 h6
              exact absurd hm (by omega)
            | succ nn ih2 =>
              intro k vb3 ab3 hm bxb3 fpb3 hk hy3 h6
              refine m_iload (j := 0) C dX12_centre_60 rfl ?_
              refine m_if_lt (tgt := 99) C ⟨by omega, by omega⟩ dX12_centre_62 (by decide) (fun c2 => ?_) (fun c2 => ?_)
              · refine m_iconst C dX12_centre_99 ?_
                refine m_istore (lv2 := [(4, .int (iI 0)), (3, .int (iI y)), (2, .int (iI x)), (0, .ref h0), (1, .int (iI q))]) C dX12_centre_100 (by decide) rfl ?_
                have Lp3 : ∀ (nn : Nat) (k1 : Int) (vb4 : Nat → Int) (ab4 : Nat → Nat → Int), 201 - k1 < (nn : Int) → BX vb4 ab4 → fr [] [37, 38] v a vb4 ab4 → (0 ≤ k1 ∧ k1 ≤ y ∧ k1 ≤ 200 ∧ ab4 37 x.toNat + y ≤ 200) → ((((ab4 37 x.toNat = 0 ∨ v 31 ≤ ab4 37 x.toNat) ∧ y = 0) ∨ (0 < ab4 37 x.toNat ∧ ab4 37 x.toNat < v 31 ∧ y = (v 31 - ab4 37 x.toNat) / 2))) → (CE7 v a vb4 ab4 q x y k1) → mw p l e (rmq 0 0 0) s m args below meth c G A 5 (MQ below (Qm G A (fun rq Lq Eq => ∃ (vq : Nat → Int) (aq : Nat → Nat → Int), mI G h0 ad ln vq aq Lq Eq ∧ (fun r v2 a2 => r = none ∧ fr [] [37, 38] v a v2 a2 ∧ BX v2 a2 ∧ (CNX v a v2 a2 q)) rq vq aq)) args s 0 0 A) h0 ad ln vb4 ab4 0 0 102 [(4, .int (iI k1)), (3, .int (iI y)), (2, .int (iI x)), (0, .ref h0), (1, .int (iI q))] [] := by
                  intro nn
                  induction nn with
                  | zero =>
                    intro k1 vb4 ab4 hm bxb4 fpb4 hk1 hy4 h7
                    exact absurd hm (by omega)
                  | succ nn ih3 =>
                    intro k1 vb4 ab4 hm bxb4 fpb4 hk1 hy4 h7
                    refine m_iload (j := 0) C dX12_centre_102 rfl ?_
                    refine m_iload_n (j := 1) C dX12_centre_104 rfl ?_
                    refine m_icmp_ge (tgt := 128) C (r32_c (lo := 0) (hi := 200) hk1.1 hk1.2.2.1 (by decide) (by decide)) ⟨by omega, by omega⟩ dX12_centre_105 (by decide) (fun c3 => ?_) (fun c3 => ?_)
                    · refine m_aload_n (j := 3) C dX12_centre_128 rfl ?_
                      refine m_geta (k := 37) C dX12_centre_129 w6_96 (by decide) rfl ?_
                      refine m_iload_n (j := 2) C dX12_centre_132 rfl ?_
                      refine m_dup2 C dX12_centre_133 rfl rfl ?_
                      refine m_ald (k := 37) C dX12_centre_134 rfl rfl (by decide) (by omega) (by show _ < ((_ : Nat) : Int); simp only [mlen]; omega) (by decide) ?_
                      have ra3 : 0 ≤ ab4 37 x.toNat ∧ ab4 37 x.toNat ≤ 200 := bxb4.2 37 (x.toNat)
                      refine m_iload_n (j := 1) C dX12_centre_135 rfl ?_
                      refine m_iadd C dX12_centre_136 ?_
                      refine m_ast (k := 37) C dX12_centre_137 rfl rfl (by decide) (by omega) (by show _ < ((_ : Nat) : Int); simp only [mlen]; omega) (by decide) ?_
                      refine hv2 (show BX vb4 (up2 ab4 37 x.toNat ((ab4 37 x.toNat) + y)) from bxb4.set (k := 37) (i := x.toNat) (z := (ab4 37 x.toNat) + y) (show 0 ≤ ((ab4 37 x.toNat) + y) ∧ ((ab4 37 x.toNat) + y) ≤ 200 by omega)) (fpb4.set (k := 37) (i := x.toNat) (z := (ab4 37 x.toNat) + y) rfl) (fun bq1 fq1 => ?_)
                      refine m_iinc (z := x) (j := 2) (lv2 := [(2, .int (iI (x + 1))), (4, .int (iI k1)), (3, .int (iI y)), (0, .ref h0), (1, .int (iI q))]) C dX12_centre_138 rfl (by decide) rfl ?_
                      refine m_goto (tgt := 2) C dX12_centre_141 (by decide) ?_
                      refine m_lv (lv2 := [(2, .int (iI (x + 1))), (0, .ref h0), (1, .int (iI q))]) [0, 3, 4] rfl ?_
                      exact ih1  (x + 1) _ _ (by omega) bq1 fq1 (by omega) (CE7.fin h7 ⟨by omega, by omega⟩ (by omega) (by omega) rfl (by omega) rfl rfl)
                    · refine m_aload_n (j := 3) C dX12_centre_108 rfl ?_
                      refine m_geta (k := 38) C dX12_centre_109 w6_97 (by decide) rfl ?_
                      refine m_sipush (z := 200) C dX12_centre_112 (by decide) ?_
                      refine m_iload_n (j := 2) C dX12_centre_115 rfl ?_
                      refine m_imul C dX12_centre_116 ?_
                      refine m_iload (j := 0) C dX12_centre_117 rfl ?_
                      refine m_iadd C dX12_centre_119 ?_
                      refine m_iconst C dX12_centre_120 ?_
                      refine m_ast (k := 38) C dX12_centre_121 rfl rfl (by decide) (by omega) (by show _ < ((_ : Nat) : Int); simp only [mlen]; omega) (by decide) ?_
                      refine hv2 (show BX vb4 (up2 ab4 38 ((200 * x) + k1).toNat 0) from bxb4.set (k := 38) (i := ((200 * x) + k1).toNat) (z := 0) ⟨by decide, by decide⟩) (fpb4.set (k := 38) (i := ((200 * x) + k1).toNat) (z := 0) rfl) (fun bq2 fq2 => ?_)
                      refine m_iinc (z := k1) (j := 0) (lv2 := [(4, .int (iI (k1 + 1))), (3, .int (iI y)), (2, .int (iI x)), (0, .ref h0), (1, .int (iI q))]) C dX12_centre_122 rfl (by decide) rfl ?_
                      refine m_goto (tgt := 102) C dX12_centre_125 (by decide) ?_
                      have ra4 : 0 ≤ ab4 37 x.toNat ∧ ab4 37 x.toNat ≤ 200 := bq2.2 37 (x.toNat)
                      refine m_lv (lv2 := [(4, .int (iI (k1 + 1))), (3, .int (iI y)), (2, .int (iI x)), (0, .ref h0), (1, .int (iI q))]) [0, 1, 2, 3, 4] rfl ?_
                      exact ih3  (k1 + 1) _ _ (by omega) bq2 fq2 (by show 0 ≤ (k1 + 1) ∧ (k1 + 1) ≤ y ∧ (k1 + 1) ≤ 200 ∧ (ab4 37 x.toNat) + y ≤ 200; omega) (by show ((((ab4 37 x.toNat) = 0 ∨ v 31 ≤ (ab4 37 x.toNat)) ∧ y = 0) ∨ (0 < (ab4 37 x.toNat) ∧ (ab4 37 x.toNat) < v 31 ∧ y = (v 31 - (ab4 37 x.toNat)) / 2)); omega) (h7.mv (fun l => (bxb4.2 37 l).2) (by omega) ⟨by omega, by omega, by omega⟩ rfl)
                have ra5 : 0 ≤ ab3 37 x.toNat ∧ ab3 37 x.toNat ≤ 200 := bxb3.2 37 (x.toNat)
                refine m_lv (lv2 := [(4, .int (iI 0)), (3, .int (iI y)), (2, .int (iI x)), (0, .ref h0), (1, .int (iI q))]) [0, 1, 2, 3, 4] rfl ?_
                exact Lp3 202 0 _ _ (by omega) bxb3 fpb3 (by show 0 ≤ 0 ∧ 0 ≤ y ∧ 0 ≤ 200 ∧ (ab3 37 x.toNat) + y ≤ 200; omega) (by show ((((ab3 37 x.toNat) = 0 ∨ v 31 ≤ (ab3 37 x.toNat)) ∧ y = 0) ∨ (0 < (ab3 37 x.toNat) ∧ (ab3 37 x.toNat) < v 31 ∧ y = (v 31 - (ab3 37 x.toNat)) / 2)); omega) (h6.zr (by omega))
              · refine m_aload_n (j := 3) C dX12_centre_65 rfl ?_
                refine m_geta (k := 38) C dX12_centre_66 w6_97 (by decide) rfl ?_
                refine m_sipush (z := 200) C dX12_centre_69 (by decide) ?_
                refine m_iload_n (j := 2) C dX12_centre_72 rfl ?_
                refine m_imul C dX12_centre_73 ?_
                refine m_iload (j := 0) C dX12_centre_74 rfl ?_
                refine m_iadd C dX12_centre_76 ?_
                refine m_iload_n (j := 1) C dX12_centre_77 rfl ?_
                refine m_iadd C dX12_centre_78 ?_
                refine m_aload_n (j := 3) C dX12_centre_79 rfl ?_
                refine m_geta (k := 38) C dX12_centre_80 w6_97 (by decide) rfl ?_
                refine m_sipush (z := 200) C dX12_centre_83 (by decide) ?_
                refine m_iload_n (j := 2) C dX12_centre_86 rfl ?_
                refine m_imul C dX12_centre_87 ?_
                refine m_iload (j := 0) C dX12_centre_88 rfl ?_
                refine m_iadd C dX12_centre_90 ?_
                refine m_ald (k := 38) C dX12_centre_91 rfl rfl (by decide) (by omega) (by show _ < ((_ : Nat) : Int); simp only [mlen]; omega) (by decide) ?_
                have ra6 : (-2147483648) ≤ ab3 38 ((200 * x) + k).toNat ∧ ab3 38 ((200 * x) + k).toNat ≤ 2147483647 := bxb3.2 38 (((200 * x) + k).toNat)
                refine m_ast (k := 38) C dX12_centre_92 rfl rfl (by decide) (by omega) (by show _ < ((_ : Nat) : Int); simp only [mlen]; omega) (by decide) ?_
                refine hv2 (show BX vb3 (up2 ab3 38 (((200 * x) + k) + y).toNat (ab3 38 ((200 * x) + k).toNat)) from bxb3.set (k := 38) (i := (((200 * x) + k) + y).toNat) (z := ab3 38 ((200 * x) + k).toNat) (show (-2147483648) ≤ (ab3 38 ((200 * x) + k).toNat) ∧ (ab3 38 ((200 * x) + k).toNat) ≤ 2147483647 by omega)) (fpb3.set (k := 38) (i := (((200 * x) + k) + y).toNat) (z := ab3 38 ((200 * x) + k).toNat) rfl) (fun bq3 fq3 => ?_)
                refine m_iinc (z := k) (j := 0) (lv2 := [(4, .int (iI (k + (-1)))), (3, .int (iI y)), (2, .int (iI x)), (0, .ref h0), (1, .int (iI q))]) C dX12_centre_93 rfl (by decide) rfl ?_
                refine m_goto (tgt := 60) C dX12_centre_96 (by decide) ?_
                have ra7 : 0 ≤ ab3 37 x.toNat ∧ ab3 37 x.toNat ≤ 200 := bq3.2 37 (x.toNat)
                refine m_lv (lv2 := [(4, .int (iI (k + (-1)))), (3, .int (iI y)), (2, .int (iI x)), (0, .ref h0), (1, .int (iI q))]) [0, 1, 2, 3, 4] rfl ?_
                exact ih2  (k + (-1)) _ _ (by omega) bq3 fq3 (by show -1 ≤ (k + (-1)) ∧ (k + (-1)) < (ab3 37 x.toNat) ∧ (ab3 37 x.toNat) + y ≤ 200; omega) (by show ((((ab3 37 x.toNat) = 0 ∨ v 31 ≤ (ab3 37 x.toNat)) ∧ y = 0) ∨ (0 < (ab3 37 x.toNat) ∧ (ab3 37 x.toNat) < v 31 ∧ y = (v 31 - (ab3 37 x.toNat)) / 2)); omega) (h6.mv (fun l => (bxb3.2 37 l).2) (by omega) ⟨by omega, by omega, by omega⟩ rfl rfl)
          refine m_lv (lv2 := [(4, .int (iI ((ab2 37 x.toNat) - 1))), (3, .int (iI y)), (2, .int (iI x)), (0, .ref h0), (1, .int (iI q))]) [0, 1, 2, 3, 4] rfl ?_
          exact Lp2 202 ((ab2 37 x.toNat) - 1) _ _ (by omega) bxb2 fpb2 (by show -1 ≤ ((ab2 37 x.toNat) - 1) ∧ ((ab2 37 x.toNat) - 1) < (ab2 37 x.toNat) ∧ (ab2 37 x.toNat) + y ≤ 200; omega) (by show ((((ab2 37 x.toNat) = 0 ∨ v 31 ≤ (ab2 37 x.toNat)) ∧ y = 0) ∨ (0 < (ab2 37 x.toNat) ∧ (ab2 37 x.toNat) < v 31 ∧ y = (v 31 - (ab2 37 x.toNat)) / 2)); omega) (hC1.go (by omega) rfl)
        refine m_if_eq (tgt := 32) C (r32_c (lo := 0) (hi := 200) ra1.1 ra1.2 (by decide) (by decide)) dX12_centre_16 (by decide) (fun c4 => ?_) (fun c4 => ?_)
        · refine m_iconst C dX12_centre_32 ?_
          refine m_goto (tgt := 49) C dX12_centre_33 (by decide) ?_
          refine m_lv (lv2 := [(2, .int (iI x)), (0, .ref h0), (1, .int (iI q))]) [0, 1, 2] rfl ?_
          exact J1  0 _ _  bxb1 fpb1 (by show 0 ≤ 0 ∧ (ab1 37 x.toNat) + 0 ≤ 200; omega) (by show ((((ab1 37 x.toNat) = 0 ∨ v 31 ≤ (ab1 37 x.toNat)) ∧ 0 = 0) ∨ (0 < (ab1 37 x.toNat) ∧ (ab1 37 x.toNat) < v 31 ∧ 0 = (v 31 - (ab1 37 x.toNat)) / 2)); omega) hC
        · refine m_aload_n (j := 1) C dX12_centre_19 rfl ?_
          refine m_geta (k := 37) C dX12_centre_20 w6_96 (by decide) rfl ?_
          refine m_iload_n (j := 0) C dX12_centre_23 rfl ?_
          refine m_ald (k := 37) C dX12_centre_24 rfl rfl (by decide) (by omega) (by show _ < ((_ : Nat) : Int); simp only [mlen]; omega) (by decide) ?_
          refine m_aload_n (j := 1) C dX12_centre_25 rfl ?_
          refine hv2 (show 1 ≤ vb1 31 ∧ vb1 31 ≤ 100 from bxb1.1 31) (show vb1 31 = v 31 from fpb1.1 31 rfl) (fun rv2 ve2 => ?_)
          refine m_get (k := 31) C dX12_centre_26 w6_90 (by decide) rfl ?_
          refine m_st (st2 := [.int (iI (v 31)), .int (iI (ab1 37 x.toNat))]) (congrArg (fun z => Value.int (iI z) :: [.int (iI (ab1 37 x.toNat))]) (fpb1.1 31 rfl)) ?_
          refine m_icmp_lt (tgt := 36) C (r32_c (lo := 0) (hi := 200) ra1.1 ra1.2 (by decide) (by decide)) (r32_c (lo := 1) (hi := 100) (Int.le_trans rv2.1 (Int.le_of_eq ve2)) (Int.le_trans (Int.le_of_eq ve2.symm) rv2.2) (by decide) (by decide)) dX12_centre_29 (by decide) (fun c5 => ?_) (fun c5 => ?_)
          · refine m_aload_n (j := 1) C dX12_centre_36 rfl ?_
            refine m_get (k := 31) C dX12_centre_37 w6_90 (by decide) rfl ?_
            refine m_st (st2 := [.int (iI (v 31))]) (congrArg (fun z => Value.int (iI z) :: []) (fpb1.1 31 rfl)) ?_
            refine m_aload_n (j := 1) C dX12_centre_40 rfl ?_
            refine m_geta (k := 37) C dX12_centre_41 w6_96 (by decide) rfl ?_
            refine m_iload_n (j := 0) C dX12_centre_44 rfl ?_
            refine m_ald (k := 37) C dX12_centre_45 rfl rfl (by decide) (by omega) (by show _ < ((_ : Nat) : Int); simp only [mlen]; omega) (by decide) ?_
            refine m_isub C dX12_centre_46 ?_
            refine m_iconst C dX12_centre_47 ?_
            obtain ⟨dq1, hdq1⟩ : ∃ q : Int, q = ((v 31) - (ab1 37 x.toNat)) / 2 := ⟨_, rfl⟩
            refine m_idiv (w := iI dq1) C dX12_centre_48 (iI_ne0 ⟨by omega, by omega⟩) (by rw [hdq1]; exact iI_div ⟨by omega, by omega⟩ ⟨by omega, by omega⟩) ?_
            refine m_lv (lv2 := [(2, .int (iI x)), (0, .ref h0), (1, .int (iI q))]) [0, 1, 2] rfl ?_
            exact J1  dq1 _ _  bxb1 fpb1 (by show 0 ≤ dq1 ∧ (ab1 37 x.toNat) + dq1 ≤ 200; omega) (by show ((((ab1 37 x.toNat) = 0 ∨ v 31 ≤ (ab1 37 x.toNat)) ∧ dq1 = 0) ∨ (0 < (ab1 37 x.toNat) ∧ (ab1 37 x.toNat) < v 31 ∧ dq1 = (v 31 - (ab1 37 x.toNat)) / 2)); omega) hC
          · refine m_iconst C dX12_centre_32 ?_
            refine m_goto (tgt := 49) C dX12_centre_33 (by decide) ?_
            refine m_lv (lv2 := [(2, .int (iI x)), (0, .ref h0), (1, .int (iI q))]) [0, 1, 2] rfl ?_
            exact J1  0 _ _  bxb1 fpb1 (by show 0 ≤ 0 ∧ (ab1 37 x.toNat) + 0 ≤ 200; omega) (by show ((((ab1 37 x.toNat) = 0 ∨ v 31 ≤ (ab1 37 x.toNat)) ∧ 0 = 0) ∨ (0 < (ab1 37 x.toNat) ∧ (ab1 37 x.toNat) < v 31 ∧ 0 = (v 31 - (ab1 37 x.toNat)) / 2)); omega) hC
  refine m_lv (lv2 := [(2, .int (iI q)), (0, .ref h0), (1, .int (iI q))]) [0, 1, 2] rfl ?_
  exact Lp1 202 q _ _ (by omega) hB fp0 (by omega) CN2.init
end
section
def nxe (T : Nat → Int) (N : Int) (s : Int × Nat × List (Int × List (Int × Nat × Int))) : Int × Nat × List (Int × List (Int × Nat × Int)) := if s.1 = 0 then (if N ≤ ((s.2.1 : Nat) : Int) then s else (if T s.2.1 = 94 then (2, s.2.1 + 1, (1, []) :: s.2.2) else (1, s.2.1, (1, []) :: s.2.2))) else (if (TWF T N ((s.2.1 : Nat) : Int)).2.length = 0 then (0, (TWF T N ((s.2.1 : Nat) : Int)).1 + 1, (if s.1 = 2 then 4 else 3, []) :: s.2.2) else (s.1, (TWF T N ((s.2.1 : Nat) : Int)).1, (2, (TWF T N ((s.2.1 : Nat) : Int)).2) :: s.2.2))
def evs (T : Nat → Int) (N : Int) : Nat → Int × Nat × List (Int × List (Int × Nat × Int))
  | 0 => (0, 0, [])
  | k + 1 => nxe T N (evs T N k)
def RNE (T : Nat → Int) (N m : Int) (p : Int) (es : List (Int × List (Int × Nat × Int))) : Prop := 0 ≤ p ∧ ∃ k, evs T N k = (m, p.toNat, es)
def ENDV (T : Nat → Int) (N : Int) (es : List (Int × List (Int × Nat × Int))) : Prop := ∃ p, RNE T N 0 p es ∧ N ≤ p
def WSS (a : Nat → Nat → Int) (t : Int) (w : List (Int × Nat × Int)) (cs : List Int) (st : Nat → Int) : Prop := WST a t w cs ∧ (a 6 t.toNat ≠ 5 → ∃ ps, SPS a (lts w) t 0 ((w.length : Nat) : Int) 0 ps ∧ cs = cls ps ∧ st = fun j => bgn ps 0 j (-1)) ∧ (a 6 t.toNat = 5 → st = fun _ => -1)
def STV (a : Nat → Nat → Int) (t wd hy : Int) (e : (Int × List (Int × Nat × Int))) (D0 : List (List Int)) (b0 : Nat) (D : List (List Int)) (b : Nat) : Prop := (e.1 = 1 ∧ D0.length < 200 ∧ D = D0 ++ [[]] ∧ b = D0.length) ∨ (e.1 = 2 ∧ (∃ D1 x1 cs st, D0 = D1 ++ [x1] ∧ WSS a t e.2 cs st ∧ flw (brk a t e.2 st) wd hy cs 201 0 D1 x1 = some D) ∧ b = b0) ∨ (e.1 = 3 ∧ D = D0 ∧ b = b0) ∨ (e.1 = 4 ∧ D = cnl wd b0 D0 ∧ b = b0)
def drs (a : Nat → Nat → Int) (t wd hy : Int) : List (Int × List (Int × Nat × Int)) → List (List Int) → Nat → Prop
  | [], D, b => D = [] ∧ b = 0
  | e :: es, D, b => ∃ D0 b0, drs a t wd hy es D0 b0 ∧ STV a t wd hy e D0 b0 D b
def BADV (T : Nat → Int) (N : Int) (a : Nat → Nat → Int) (t wd hy : Int) : Prop := ∃ m p es, RNE T N m p es ∧ ¬ ∃ D b, drs a t wd hy es D b
def SHH (v : Nat → Int) (a : Nat → Nat → Int) (D : List (List Int)) : Prop := v 36 = ((D.length : Nat) : Int) ∧ ∀ (l : Nat) (xs : List Int), D[l]? = some xs → a 34 l = ((xs.length : Nat) : Int) ∧ ∀ (j : Nat) (x : Int), xs[j]? = some x → a 35 (200 * l + j) = x
def SETD (v : Nat → Int) (a : Nat → Nat → Int) (t f : Int) (D : List (List Int)) : Prop := WHL v a t ∧ ∃ es b, ENDV (a 29) (v 30) es ∧ drs a t (v 31) (v 33) es D b ∧ f = ((D.length : Nat) : Int)
def SETN (v : Nat → Int) (a : Nat → Nat → Int) (t f : Int) : Prop := f = -1 ∧ (¬ WHL v a t ∨ (WHL v a t ∧ BADV (a 29) (v 30) a t (v 31) (v 33)))
def KSH (v : Nat → Int) (a : Nat → Nat → Int) (v2 : Nat → Int) (a2 : Nat → Nat → Int) : Prop := v2 36 = v 36 ∧ a2 34 = a 34 ∧ a2 35 = a 35
def SETX (v : Nat → Int) (a : Nat → Nat → Int) (v2 : Nat → Int) (a2 : Nat → Nat → Int) (t f : Int) : Prop := (SETN v a t f ∧ KSH v a v2 a2) ∨ ∃ D, SETD v a t f D ∧ SHH v2 a2 D
section EVNS
variable {v v1 v2 v3 : Nat → Int} {a a1 a2 a3 : Nat → Nat → Int} {T W : Nat → Int} {N q u p b f f1 f2 z x y m t n wd hy l r k : Int} {w : List (Int × Nat × Int)} {es es2 : List (Int × List (Int × Nat × Int))} {D D2 D0 : List (List Int)} {b0 b1 b2 : Nat} {cs ds xs : List Int} {st st2 : Nat → Int} {ps : List (Int × List Int)}
theorem snocx {α : Type} : ∀ D : List α, D.length ≠ 0 → ∃ D1 u, D = D1 ++ [u] := by
  intro D
  induction D with
  | nil => intro h; exact absurd rfl h
  | cons x D ih =>
    intro _
    by_cases c : D.length = 0
    · have e := List.length_eq_zero_iff.mp c
      subst e
      exact ⟨[], x, rfl⟩
    · obtain ⟨D1, u, e⟩ := ih c
      exact ⟨x :: D1, u, by rw [e]; rfl⟩
theorem app_inj {α : Type} {D1 D2 : List α} {u m : α} (h : D1 ++ [u] = D2 ++ [m]) : D1 = D2 ∧ u = m := by
  have h1 := congrArg List.length h
  rw [len1, len1] at h1
  have e := List.append_inj h (by omega)
  exact ⟨e.1, by have e2 := e.2; injection e2⟩
theorem evs_s (k : Nat) : evs T N (k + 1) = nxe T N (evs T N k) := rfl
theorem nxe_ext (s : Int × Nat × List (Int × List (Int × Nat × Int))) : ∃ r, (nxe T N s).2.2 = r ++ s.2.2 := by
  unfold nxe
  split
  · split
    · exact ⟨[], rfl⟩
    · split
      · exact ⟨[_], rfl⟩
      · exact ⟨[_], rfl⟩
  · split
    · exact ⟨[_], rfl⟩
    · exact ⟨[_], rfl⟩
theorem evs_ext (k : Nat) : ∀ d : Nat, ∃ r, (evs T N (k + d)).2.2 = r ++ (evs T N k).2.2 := by
  intro d
  induction d with
  | zero => exact ⟨[], rfl⟩
  | succ d ih =>
    obtain ⟨r, h⟩ := ih
    obtain ⟨r2, h2⟩ := nxe_ext (T := T) (N := N) (evs T N (k + d))
    refine ⟨r2 ++ r, ?_⟩
    rw [← Nat.add_assoc, evs_s, h2, h, List.append_assoc]
theorem evs_end {P k : Nat} (h : evs T N k = (0, P, es)) (hN : N ≤ ((P : Nat) : Int)) : ∀ d : Nat, evs T N (k + d) = (0, P, es) := by
  intro d
  induction d with
  | zero => exact h
  | succ d ih =>
    rw [← Nat.add_assoc, evs_s, ih]
    unfold nxe
    rw [if_pos (by show (0 : Int) = 0; rfl), if_pos (by show N ≤ ((P : Nat) : Int); exact hN)]
theorem RNE.sub (h : RNE T N m p es) (h2 : ENDV T N es2) : ∃ r, es2 = r ++ es := by
  obtain ⟨_, k, e⟩ := h
  obtain ⟨p2, ⟨_, k2, e2⟩, hN⟩ := h2
  have e3 := evs_end e2 (by omega) k
  obtain ⟨r, h4⟩ := evs_ext (T := T) (N := N) k k2
  rw [Nat.add_comm k k2, e3, e] at h4
  exact ⟨r, h4⟩
theorem ENDV.uni (h : ENDV T N es) (h2 : ENDV T N es2) : es = es2 := by
  obtain ⟨p, g, gN⟩ := h
  obtain ⟨p2, g2, gN2⟩ := h2
  obtain ⟨r, e⟩ := g.sub ⟨p2, g2, gN2⟩
  obtain ⟨r2, e2⟩ := g2.sub ⟨p, g, gN⟩
  refine hv2 (congrArg List.length e) (congrArg List.length e2) (fun l1 l2 => ?_)
  rw [List.length_append] at l1 l2
  have e0 : r = [] := List.length_eq_zero_iff.mp (by omega)
  rw [e, e0]
  rfl
theorem RNE.zero : RNE T N 0 0 [] := ⟨Int.le_refl _, 0, rfl⟩
theorem nxe0 (P : Nat) (hP : ((P : Nat) : Int) < N) : nxe T N (0, P, es) = if T P = 94 then (2, P + 1, (1, []) :: es) else (1, P, (1, []) :: es) := by
  unfold nxe
  rw [if_pos (by show (0 : Int) = 0; rfl), if_neg (by show ¬ N ≤ ((P : Nat) : Int); omega)]
theorem nxe1 (P : Nat) (hP : ((P : Nat) : Int) = p) (hm : m ≠ 0) : nxe T N (m, P, es) = if (TWF T N p).2.length = 0 then (0, (TWF T N p).1 + 1, (if m = 2 then 4 else 3, []) :: es) else (m, (TWF T N p).1, (2, (TWF T N p).2) :: es) := by
  subst hP
  unfold nxe
  rw [if_neg (by show ¬ m = 0; exact hm)]
theorem RNE.enter (h : RNE T N 0 p es) (hp : p < N) (hz : (T p.toNat = 94 ∧ z = p + 1 ∧ m = 2) ∨ (T p.toNat ≠ 94 ∧ z = p ∧ m = 1)) : RNE T N m z ((1, []) :: es) := by
  obtain ⟨h0, k, e⟩ := h
  refine ⟨by omega, k + 1, ?_⟩
  rw [evs_s, e, nxe0 (N := N) p.toNat (by omega)]
  rcases hz with ⟨e1, e2, e3⟩ | ⟨e1, e2, e3⟩
  · rw [if_pos e1, e3, show z.toNat = p.toNat + 1 by omega]
  · rw [if_neg e1, e3, e2]
theorem RNE.word (h : RNE T N m p es) (hm : m ≠ 0) (hr : TWF T N p = (z.toNat, w)) (hz : 0 ≤ z) (hw : w.length ≠ 0) : RNE T N m z ((2, w) :: es) := by
  obtain ⟨h0, k, e⟩ := h
  refine hv2 (show (TWF T N p).2 = w from congrArg Prod.snd hr) (show (TWF T N p).1 = z.toNat from congrArg Prod.fst hr) (fun e3 e4 => ?_)
  refine ⟨hz, k + 1, ?_⟩
  rw [evs_s, e, nxe1 (p := p) p.toNat (by omega) hm, e3, e4, if_neg hw]
theorem RNE.line (h : RNE T N m p es) (hm : m ≠ 0) (hr : TWF T N p = (z.toNat, w)) (hz : 0 ≤ z) (hw : w.length = 0) : RNE T N 0 (z + 1) ((if m = 2 then 4 else 3, []) :: es) := by
  obtain ⟨h0, k, e⟩ := h
  refine hv2 (show (TWF T N p).2 = w from congrArg Prod.snd hr) (show (TWF T N p).1 = z.toNat from congrArg Prod.fst hr) (fun e3 e4 => ?_)
  refine ⟨by omega, k + 1, ?_⟩
  rw [evs_s, e, nxe1 (p := p) p.toNat (by omega) hm, e3, e4, if_pos hw, show (z + 1).toNat = z.toNat + 1 by omega]
theorem ptp.uni2 (hT : TBL v a) (ht : 0 ≤ t ∧ t < v 4) {qs : List (Int × List Int)} (h : SPS a W t 0 n 0 ps) (h2 : SPS a W t 0 n 0 qs) : ps = qs := by
  obtain ⟨⟨y, h1, h3⟩, _⟩ := h
  obtain ⟨⟨z, g1, g3⟩, _⟩ := h2
  exact ptp.uni hT ht.1 ht.2 h1 h3 g1 g3
theorem WSS.uni (hT : TBL v a) (ht : 0 ≤ t ∧ t < v 4) (h : WSS a t w cs st) (h2 : WSS a t w ds st2) : cs = ds ∧ st = st2 := by
  obtain ⟨p1, p2, p3⟩ := h
  obtain ⟨q1, q2, q3⟩ := h2
  refine ⟨SWC.uni hT ht p1 q1, ?_⟩
  by_cases c : a 6 t.toNat = 5
  · rw [p3 c, q3 c]
  · obtain ⟨ps, k1, _, k3⟩ := p2 c
    obtain ⟨qs, j1, _, j3⟩ := q2 c
    rw [k3, j3, ptp.uni2 hT ht k1 j1]
theorem STV.uni {e : (Int × List (Int × Nat × Int))} {B1 B2 : Nat} (hT : TBL v a) (ht : 0 ≤ t ∧ t < v 4) (h : STV a t wd hy e D0 b0 D B1) (h2 : STV a t wd hy e D0 b0 D2 B2) : D = D2 ∧ B1 = B2 := by
  rcases h with ⟨e1, _, e2, e3⟩ | ⟨e1, ⟨D1, x1, cs, st, k1, k2, k3⟩, e3⟩ | ⟨e1, e2, e3⟩ | ⟨e1, e2, e3⟩ <;> rcases h2 with ⟨d1, _, d2, d3⟩ | ⟨d1, ⟨D3, x3, ds, st3, j1, j2, j3⟩, d3⟩ | ⟨d1, d2, d3⟩ | ⟨d1, d2, d3⟩
  · exact ⟨e2.trans d2.symm, e3.trans d3.symm⟩
  · omega
  · omega
  · omega
  · omega
  · obtain ⟨i1, i2⟩ := app_inj (k1.symm.trans j1)
    obtain ⟨c1, c2⟩ := WSS.uni hT ht k2 j2
    subst i1
    subst i2
    subst c1
    subst c2
    rw [k3] at j3
    injection j3 with j4
    exact ⟨j4, e3.trans d3.symm⟩
  · omega
  · omega
  · omega
  · omega
  · exact ⟨e2.trans d2.symm, e3.trans d3.symm⟩
  · omega
  · omega
  · omega
  · omega
  · exact ⟨e2.trans d2.symm, e3.trans d3.symm⟩
theorem drs.uni (hT : TBL v a) (ht : 0 ≤ t ∧ t < v 4) : ∀ (es : List (Int × List (Int × Nat × Int))) (D D2 : List (List Int)) (B1 B2 : Nat), drs a t wd hy es D B1 → drs a t wd hy es D2 B2 → D = D2 ∧ B1 = B2 := by
  intro es
  induction es with
  | nil =>
    intro D D2 B1 B2 h h2
    obtain ⟨e1, e2⟩ := h
    obtain ⟨d1, d2⟩ := h2
    exact ⟨e1.trans d1.symm, e2.trans d2.symm⟩
  | cons e es ih =>
    intro D D2 B1 B2 h h2
    obtain ⟨D3, b3, g1, g2⟩ := h
    obtain ⟨D4, b4, j1, j2⟩ := h2
    obtain ⟨i1, i2⟩ := ih D3 D4 b3 b4 g1 j1
    subst i1
    subst i2
    exact STV.uni hT ht g2 j2
theorem drs.tail : ∀ (rs : List (Int × List (Int × Nat × Int))) (es : List (Int × List (Int × Nat × Int))) (D : List (List Int)) (B : Nat), drs a t wd hy (rs ++ es) D B → ∃ D2 B2, drs a t wd hy es D2 B2 := by
  intro rs
  induction rs with
  | nil => intro es D B h; exact ⟨D, B, h⟩
  | cons e rs ih =>
    intro es D B h
    obtain ⟨D3, b3, g1, _⟩ := h
    exact ih es D3 b3 g1
theorem BADV.no {B : Nat} (h : BADV T N a t wd hy) (h2 : ENDV T N es) (h3 : drs a t wd hy es D B) : False := by
  obtain ⟨m, p, es1, g1, g2⟩ := h
  obtain ⟨r, e⟩ := g1.sub h2
  subst e
  exact g2 (drs.tail r es1 D B h3)
theorem SETD.uni (hT : TBL v a) (h : SETD v a t f1 D) (h2 : SETD v a t f2 D2) : f1 = f2 ∧ D = D2 := by
  obtain ⟨w1, es1, b1, p1, p2, p3⟩ := h
  obtain ⟨_, es3, b3, q1, q2, q3⟩ := h2
  refine hv2 (WHL.tr w1) (p1.uni q1) (fun ht e => ?_)
  subst e
  obtain ⟨e1, _⟩ := drs.uni hT ⟨ht.1, ht.2.1⟩ es1 D D2 b1 b3 p2 q2
  subst e1
  exact ⟨p3.trans q3.symm, rfl⟩
theorem SETN.no (h : SETN v a t f1) (h2 : SETD v a t f2 D) : False := by
  obtain ⟨_, g⟩ := h
  obtain ⟨w1, es1, b1, p1, p2, _⟩ := h2
  rcases g with g | ⟨_, g⟩
  · exact g w1
  · exact g.no p1 p2
theorem fnd_rng (hT : TBL v a) (h30 : v 4 ≤ 30) (h10 : ∀ i, a 10 i ≤ 200) : ∀ (n : Nat) (W : Nat → Int) (t r : Int), 0 ≤ t → t < v 4 → fnd a q u x n W t r → FNP a u x r := by
  intro n
  induction n with
  | zero => intro W t r _ _ h; exact False.elim h
  | succ n ih =>
    intro W t r h0 h4 h
    have ht := hT.1 t h0 h4
    have t8 : 1 ≤ a 6 t.toNat → a 6 t.toNat ≤ 3 → 0 ≤ a 8 t.toNat ∧ a 8 t.toNat < v 4 := by omega
    have t6 : a 6 t.toNat ≠ 1 → a 6 t.toNat ≠ 2 → a 6 t.toNat ≠ 3 → a 6 t.toNat < 1 ∨ 3 < a 6 t.toNat := by omega
    clear ht
    rw [fnd_s] at h
    obtain ⟨p1, p2, p3, p4⟩ := h
    by_cases k1 : a 6 t.toNat = 1
    · obtain ⟨y, z, e1, e2, e3⟩ := p1 k1
      rw [e3]
      exact cmb_rg (P := FNP a u x) (own_rg hT h30 h0 h4 (h10 _) e1) (ih W _ z (t8 (by omega) (by omega)).1 (t8 (by omega) (by omega)).2 e2)
    · by_cases k2 : a 6 t.toNat = 2
      · by_cases c : isD (W x.toNat)
        · exact own_rg hT h30 h0 h4 (h10 _) ((p2 k2).1 c)
        · exact ih W _ r (t8 (by omega) (by omega)).1 (t8 (by omega) (by omega)).2 ((p2 k2).2 c)
      · by_cases k3 : a 6 t.toNat = 3
        · obtain ⟨y, z, e1, e2, e3⟩ := p3 k3
          rw [e3]
          exact cmb_rg (P := FNP a u x) (own_rg hT h30 h0 h4 (h10 _) e1) (ih _ _ z (t8 (by omega) (by omega)).1 (t8 (by omega) (by omega)).2 e2)
        · exact own_rg hT h30 h0 h4 (h10 _) (p4 (t6 k1 k2 k3))
theorem PC1.rg (hT : TBL v a) (h30 : v 4 ≤ 30) (h10 : ∀ i, a 10 i ≤ 200) (ht : 0 ≤ t ∧ t < v 4) (h : PC1 a W t q u x l cs) : 1 ≤ l ∧ 1 ≤ cs.length := by
  obtain ⟨r, ⟨r0, e⟩, p⟩ := h
  rcases p with ⟨p4, p5⟩ | ⟨_, _, p6, p7⟩
  · have g := fnd_rng hT h30 h10 _ _ _ _ ht.1 ht.2 p4
    rcases g with g | ⟨g1, g2, g3, g4, g5⟩
    · omega
    · have e2 := RCL.len (a := a) (r := r) (by omega)
      rw [p5, List.length_append]
      omega
  · have g := fnd_rng hT h30 h10 _ _ _ _ ht.1 ht.2 p6
    rcases g with g | ⟨g1, g2, g3, g4, g5⟩
    · omega
    · have e2 := RCL.len (a := a) (r := r) (by omega)
      rw [p7, List.length_append]
      omega
theorem bgn_lt {i : Nat} : ∀ (ps : List (Int × List Int)) (m d : Int), (∀ p ∈ ps, 1 ≤ p.2.length) → d < m + (((cls ps).length : Nat) : Int) → bgn ps m i d < m + (((cls ps).length : Nat) : Int) := by
  intro ps
  induction ps with
  | nil => intro m d _ h; exact h
  | cons p ps ih =>
    intro m d hp h
    have e := hp p List.mem_cons_self
    rw [cls_cons, List.length_append] at h ⊢
    have g := ih (m + ((p.2.length : Nat) : Int)) (if i = p.1.toNat then m else d) (fun q hq => hp q (List.mem_cons_of_mem _ hq)) (by push_cast at h; split <;> omega)
    show bgn ps (m + ((p.2.length : Nat) : Int)) i (if i = p.1.toNat then m else d) < _
    push_cast
    omega
theorem ptp.ne (hl : ∀ x l cs, PC1 a W t q u x l cs → 1 ≤ l ∧ 1 ≤ cs.length) : ∀ (ps : List (Int × List Int)) (x y : Int), ptp a W t q u x ps y → ∀ p ∈ ps, 1 ≤ p.2.length := by
  intro ps
  induction ps with
  | nil => intro x y _ p hp; cases hp
  | cons p0 ps ih =>
    intro x y h p hp
    obtain ⟨_, _, l, h3, h4⟩ := h
    rcases List.mem_cons.mp hp with e | e
    · rw [e]; exact (hl x l _ h3).2
    · exact ih _ _ h4 p e
theorem ptp.mono (hl : ∀ x l cs, PC1 a W t q u x l cs → 1 ≤ l ∧ 1 ≤ cs.length) {i j : Nat} (hij : i < j) : ∀ (ps : List (Int × List Int)) (x m di dj : Int), ptp a W t q u x ps y → 0 ≤ x → 0 ≤ m → (0 ≤ di → 0 ≤ dj → di ≤ dj) → (x ≤ ((j : Nat) : Int) → dj = -1) → di ≤ m → dj ≤ m → 0 ≤ bgn ps m i di → 0 ≤ bgn ps m j dj → bgn ps m i di ≤ bgn ps m j dj := by
  intro ps
  induction ps with
  | nil => intro x m di dj _ _ _ c1 _ _ _ h1 h2; exact c1 h1 h2
  | cons p ps ih =>
    intro x m di dj h h0 hm c1 c2 c3 c4 h1 h2
    obtain ⟨_, e, l, h3, h4⟩ := h
    refine hv2 ((hl x l _ h3).1) (show p.1.toNat = x.toNat from by rw [e]) (fun l1 ex => ?_)
    refine ih (x + l) (m + ((p.2.length : Nat) : Int)) _ _ h4 (by omega) (by omega) ?_ ?_ ?_ ?_ h1 h2
    · intro g1 g2
      by_cases ci : i = p.1.toNat
      · rw [if_pos ci] at g1 ⊢
        rw [if_neg (by omega)] at g2 ⊢
        have := c2 (by omega)
        omega
      · rw [if_neg ci] at g1 ⊢
        by_cases cj : j = p.1.toNat
        · rw [if_pos cj]
          exact c3
        · rw [if_neg cj] at g2 ⊢
          exact c1 g1 g2
    · intro g
      rw [if_neg (by omega)]
      exact c2 (by omega)
    · split <;> omega
    · split <;> omega
theorem WSS.lt (hT : TBL v a) (h30 : v 4 ≤ 30) (h10 : ∀ i, a 10 i ≤ 200) (ht : 0 ≤ t ∧ t < v 4) (h : WSS a t w cs st) (h5 : a 6 t.toNat ≠ 5) (j : Nat) : st j < ((cs.length : Nat) : Int) := by
  obtain ⟨ps, ⟨⟨y, k1, _⟩, _⟩, k2, k3⟩ := h.2.1 h5
  rw [k3, k2]
  have g := bgn_lt (i := j) ps 0 (-1) (ptp.ne (fun x l cs hp => PC1.rg hT h30 h10 ht hp) ps 0 y k1) (by omega)
  rw [Int.zero_add] at g
  exact g
theorem WSS.mono (hT : TBL v a) (h30 : v 4 ≤ 30) (h10 : ∀ i, a 10 i ≤ 200) (ht : 0 ≤ t ∧ t < v 4) (h : WSS a t w cs st) (h5 : a 6 t.toNat ≠ 5) {i j : Nat} (hij : i < j) (h1 : 0 ≤ st i) (h2 : 0 ≤ st j) : st i ≤ st j := by
  obtain ⟨ps, ⟨⟨y, k1, _⟩, _⟩, k2, k3⟩ := h.2.1 h5
  rw [k3] at h1 h2 ⊢
  exact ptp.mono (fun x l cs hp => PC1.rg hT h30 h10 ht hp) hij ps 0 0 (-1) (-1) k1 (by omega) (by omega) (fun g => absurd g (by decide)) (fun _ => rfl) (by decide) (by decide) h1 h2
theorem SWT.wss (hs : SWT v1 a1 v2 a2 t f) (hb : SWB v1 a1 v2 a2 t f) (hf : f = 1) (hT : TBL v a) (h30 : v 4 ≤ 30) (h10 : ∀ i, a 10 i ≤ 200) (ht : 0 ≤ t ∧ t < v 4) (hE : TBE a1 a) (hw : WDH v1 a1 w) (h12 : ∀ i, 0 ≤ a 12 i) : ∃ cs st, WSS a t w cs st ∧ MDH v2 a2 cs ∧ (a 6 t.toNat ≠ 5 → ∀ j : Nat, j < w.length → a2 26 j = st j ∧ st j < ((cs.length : Nat) : Int)) := by
  refine hv3 (lts_w hw) (hw.1) (hE 6 (by decide)) (fun ag e e6 => ?_)
  obtain ⟨cs, g1, g2⟩ := hs.2.1 hf
  rw [e] at g1
  have ws : WST a t w cs := SWC_w ag h12 (SWC_cg hE g1)
  by_cases h5 : a 6 t.toNat = 5
  · exact ⟨cs, fun _ => -1, ⟨ws, fun c => absurd h5 c, fun _ => rfl⟩, g2, fun c => absurd h5 c⟩
  · obtain ⟨ps, k1, k2, k3⟩ := hb hf (by rw [e6]; exact h5)
    rw [e] at k1 k3
    have k4 := SPS_cg hE k1
    have k5 : SPS a (lts w) t 0 ((w.length : Nat) : Int) 0 ps := by
      obtain ⟨⟨y, j1, j2⟩, j3⟩ := k4
      exact ⟨⟨y, ptp_w ag (Int.le_refl _) h12 ps 0 y (Int.le_refl _) j1, j2⟩, j3⟩
    have ec : cs = cls ps := SWC.uni hT ht ws (Or.inl ⟨h5, ps, k5, rfl⟩)
    have wss : WSS a t w cs (fun j => bgn ps 0 j (-1)) := ⟨ws, fun _ => ⟨ps, k5, ec, rfl⟩, fun c => absurd c h5⟩
    exact ⟨cs, _, wss, g2, fun _ j hj => ⟨k3 j (by omega), wss.lt hT h30 h10 ht h5 j⟩⟩
theorem SWC.pos (hT : TBL v a) (h30 : v 4 ≤ 30) (h10 : ∀ i, a 10 i ≤ 200) (h16 : ∀ i, 0 ≤ a 16 i) (ht : 0 ≤ t ∧ t < v 4) (hn : 0 < n) (h : SWC a W n t cs) : 1 ≤ cs.length := by
  rcases h with ⟨_, ps, ⟨⟨y, k1, k2⟩, _⟩, k3⟩ | ⟨h5, _, js, ps, g, x, k1, k2, k3⟩
  · cases ps with
    | nil => cases k1; omega
    | cons p ps =>
      have g := ptp.ne (fun x l cs hp => PC1.rg hT h30 h10 ht hp) _ 0 y k1 p List.mem_cons_self
      rw [k3, cls_cons, List.length_append]
      omega
  · have tt := hT.1 t ht.1 ht.2
    cases js with
    | cons p js =>
      obtain ⟨_, _, k4, _⟩ := k1
      have e := ICL.len (a := a) (r := ind4 t 0) (h16 _)
      rw [k3]
      show 1 ≤ (((cls p.2 ++ ICL a (ind4 t 0)) ++ jcl a t (1 - 0) js) ++ cls ps).length
      rw [List.length_append, List.length_append, List.length_append]
      omega
    | nil =>
      obtain ⟨e1, e2⟩ := k1
      obtain ⟨_, _, _, z, j1, j2⟩ := k2
      cases ps with
      | nil => cases j1; omega
      | cons p ps =>
        have tp : 0 ≤ prt a t g ∧ prt a t g < v 4 := by
          unfold prt
          split <;> omega
        have g := ptp.ne (fun x l cs hp => PC1.rg hT h30 h10 tp hp) _ _ z j1 p List.mem_cons_self
        rw [k3, cls_cons, List.length_append, List.length_append]
        omega
theorem flw_len {br : Int → Int → Int} : ∀ (n d : Nat) (D : List (List Int)) (xs : List Int) (D2 : List (List Int)), flw br wd hy cs n d D xs = some D2 → D.length + 1 ≤ D2.length := by
  intro n
  induction n with
  | zero => intro d D xs D2 h; cases h
  | succ n ih =>
    intro d D xs D2 h
    rw [flw_s] at h
    split at h
    · injection h with h1
      rw [← h1, len1]
      exact Nat.le_refl _
    · split at h
      · split at h
        · have g := ih _ _ _ _ h
          rw [len1] at g
          omega
        · cases h
      · split at h
        · injection h with h1
          rw [← h1, len1]
          exact Nat.le_refl _
        · split at h
          · have g := ih _ _ _ _ h
            rw [len1] at g
            omega
          · cases h
end EVNS
def SE2 (v : Nat → Int) (a : Nat → Nat → Int) (v1 : Nat → Int) (a1 : Nat → Nat → Int) (t x : Int) : Prop := ∃ es D b, RNE (a 29) (v 30) 0 x es ∧ drs a t (v 31) (v 33) es D b ∧ DRH v1 a1 D
def SE3 (v : Nat → Int) (a : Nat → Nat → Int) (v1 : Nat → Int) (a1 : Nat → Nat → Int) (t g q p : Int) : Prop := ∃ es D b, RNE (a 29) (v 30) (1 + g) p es ∧ drs a t (v 31) (v 33) es D b ∧ DRH v1 a1 D ∧ ((b : Nat) : Int) = q ∧ b < D.length
def SE4 (v : Nat → Int) (a : Nat → Nat → Int) (v1 : Nat → Int) (a1 : Nat → Nat → Int) (t g q z : Int) : Prop := ∃ p w, SE3 v a v1 a1 t g q p ∧ TWF (a 29) (v 30) p = (z.toNat, w) ∧ WDH v1 a1 w
def SC1 (a1 : Nat → Nat → Int) (y : Int) : Prop := ∀ l : Nat, ((l : Nat) : Int) < y → a1 34 l = a1 37 l ∧ ∀ j : Nat, ((j : Nat) : Int) < a1 37 l → a1 35 (200 * l + j) = a1 38 (200 * l + j)
def SC2 (a1 : Nat → Nat → Int) (y z : Int) : Prop := SC1 a1 y ∧ a1 34 y.toNat = a1 37 y.toNat ∧ ∀ j : Nat, ((j : Nat) : Int) < z → a1 35 (200 * y.toNat + j) = a1 38 (200 * y.toNat + j)
def SE5 (v : Nat → Int) (a : Nat → Nat → Int) (v1 : Nat → Int) (a1 : Nat → Nat → Int) (t : Int) : Prop := ∃ es D b, ENDV (a 29) (v 30) es ∧ drs a t (v 31) (v 33) es D b ∧ DRH v1 a1 D ∧ v1 36 = v1 39
section RSET
variable {v v1 v2 v3 : Nat → Int} {a a1 a2 a3 : Nat → Nat → Int} {q u p b f f1 f2 z x y m t n g k c : Int} {w : List (Int × Nat × Int)} {es : List (Int × List (Int × Nat × Int))} {D : List (List Int)} {i i2 : Nat} {cs : List Int} {st : Nat → Int}
theorem SE2.init (h : v1 39 = 0) : SE2 v a v1 a1 t 0 := ⟨[], [], 0, RNE.zero, ⟨rfl, rfl⟩, h, fun l xs e => by simp at e⟩
theorem SE2.fr (h : SE2 v a v1 a1 t x) (hv : v2 39 = v1 39) (h37 : a2 37 = a1 37) (h38 : a2 38 = a1 38) : SE2 v a v2 a2 t x := by
  obtain ⟨es, D, b, h1, h2, h3⟩ := h
  exact ⟨es, D, b, h1, h2, h3.fr hv h37 h38⟩
theorem SE2.enter (h : SE2 v a v1 a1 t x) (hx : x < v 30) (hz : (a 29 x.toNat = 94 ∧ y = x + 1 ∧ g = 1) ∨ (a 29 x.toNat ≠ 94 ∧ y = x ∧ g = 0)) (hn : NLX v1 a1 v2 a2 f) (hf : f = 1) (h5 : q = v1 39) : SE3 v a v2 a2 t g q y := by
  obtain ⟨es, D, b, h1, h2, h3⟩ := h
  rcases hn D h3 with ⟨_, n2, n3⟩ | ⟨n1, _⟩
  · refine ⟨_, _, D.length, h1.enter hx (z := y) (m := 1 + g) (by omega), ⟨D, b, h2, Or.inl ⟨rfl, n2, rfl, rfl⟩⟩, n3, ?_, by rw [len1]; omega⟩
    rw [h5]
    exact h3.1.symm
  · omega
theorem SE2.nroom (h : SE2 v a v1 a1 t x) (hx : x < v 30) (hT : TBL v a) (ht : 0 ≤ t ∧ t < v 4) (hn : NLX v1 a1 v2 a2 f) (hf : f ≠ 1) : BADV (a 29) (v 30) a t (v 31) (v 33) := by
  obtain ⟨es, D, b, h1, h2, h3⟩ := h
  rcases hn D h3 with ⟨n1, _⟩ | ⟨_, n2⟩
  · exact absurd n1 hf
  · have no : ∀ D2 b2, ¬ drs a t (v 31) (v 33) ((1, []) :: es) D2 b2 := fun D2 b2 g => by
      obtain ⟨D0, b0, g1, g2⟩ := g
      obtain ⟨e1, _⟩ := drs.uni hT ht es D0 D b0 b g1 h2
      subst e1
      rcases g2 with ⟨_, q2, _⟩ | ⟨q1, _⟩ | ⟨q1, _⟩ | ⟨q1, _⟩
      · omega
      · exact absurd q1 (by decide)
      · exact absurd q1 (by decide)
      · exact absurd q1 (by decide)
    by_cases c : a 29 x.toNat = 94
    · exact ⟨2, x + 1, _, h1.enter hx (Or.inl ⟨c, rfl, rfl⟩), fun ⟨D2, b2, g⟩ => no D2 b2 g⟩
    · exact ⟨1, x, _, h1.enter hx (Or.inr ⟨c, rfl, rfl⟩), fun ⟨D2, b2, g⟩ => no D2 b2 g⟩
theorem SE3.take (h : SE3 v a v1 a1 t g q p) (hx : TKX (a 29) (v 30) v2 a2 p z) (hv : v2 39 = v1 39) (h37 : a2 37 = a1 37) (h38 : a2 38 = a1 38) : SE4 v a v2 a2 t g q z := by
  obtain ⟨w, h1, h2⟩ := hx
  obtain ⟨es, D, b, k1, k2, k3, k4, k5⟩ := h
  exact ⟨p, w, ⟨es, D, b, k1, k2, k3.fr hv h37 h38, k4, k5⟩, h1, h2⟩
theorem SE4.lineC (h : SE4 v a v1 a1 t g q z) (h23 : v1 23 = 0) (hz : 0 ≤ z) (hg : g = 1) (h31 : v1 31 = v 31) (hc : CNX v1 a1 v2 a2 q) : SE2 v a v2 a2 t (z + 1) := by
  obtain ⟨p, w, ⟨es, D, b, k1, k2, k3, k4, k5⟩, h1, h2⟩ := h
  have e := h2.1
  have g1 := k1.line (by omega) h1 hz (by omega)
  rw [if_pos (by omega)] at g1
  refine ⟨_, _, b, g1, ⟨D, b, k2, Or.inr (Or.inr (Or.inr ⟨rfl, rfl, rfl⟩))⟩, ?_⟩
  have g2 := hc D k3
  rw [h31, show q.toNat = b by omega] at g2
  exact g2
theorem SE4.lineN (h : SE4 v a v1 a1 t g q z) (h23 : v1 23 = 0) (hz : 0 ≤ z) (hg : g = 0) : SE2 v a v1 a1 t (z + 1) := by
  obtain ⟨p, w, ⟨es, D, b, k1, k2, k3, k4, k5⟩, h1, h2⟩ := h
  have e := h2.1
  have g1 := k1.line (by omega) h1 hz (by omega)
  rw [if_neg (by omega)] at g1
  exact ⟨_, _, b, g1, ⟨D, b, k2, Or.inr (Or.inr (Or.inl ⟨rfl, rfl, rfl⟩))⟩, k3⟩
theorem SE4.bad (h : SE4 v a v1 a1 t g q z) (hg : g = 0 ∨ g = 1) (hz : 0 ≤ z) (h23 : v1 23 ≠ 0) (hs : SWT v1 a1 v2 a2 t f) (hf : f ≠ 1) (hE : TBE a1 a) (h12 : ∀ i, 0 ≤ a 12 i) (h13 : ∀ i, 0 ≤ a1 12 i) : BADV (a 29) (v 30) a t (v 31) (v 33) := by
  obtain ⟨p, w, ⟨es, D, b, k1, k2, k3, k4, k5⟩, h1, h2⟩ := h
  have e := h2.1
  refine ⟨_, _, _, k1.word (by omega) h1 hz (by omega), fun ⟨D2, b2, D0, b0, _, j2⟩ => ?_⟩
  rcases j2 with ⟨q1, _⟩ | ⟨_, ⟨D1, x1, cs, st, _, j4, _⟩, _⟩ | ⟨q1, _⟩ | ⟨q1, _⟩
  · exact absurd (show (2 : Int) = 1 from q1) (by decide)
  · exact (hs.wst hE h2 h12 h13).2 hf ⟨cs, j4.1⟩
  · exact absurd (show (2 : Int) = 3 from q1) (by decide)
  · exact absurd (show (2 : Int) = 4 from q1) (by decide)
theorem SE4.flow (h : SE4 v a v1 a1 t g q z) (hg : g = 0 ∨ g = 1) (hz : 0 ≤ z) (h23 : v1 23 ≠ 0) (hT : TBL v a) (h30 : v 4 ≤ 30) (h10 : ∀ i, a 10 i ≤ 200) (ht : 0 ≤ t ∧ t < v 4) (hs : SWT v1 a1 v2 a2 t f1) (hb : SWB v1 a1 v2 a2 t f1) (hf : f1 = 1) (hE : TBE a1 a) (h12 : ∀ i, 0 ≤ a 12 i) (h6 : a2 6 = a 6) (h21 : a2 21 = a1 21) (h22 : a2 22 = a1 22) (v23 : v2 23 = v1 23) (v39 : v2 39 = v1 39) (h37 : a2 37 = a1 37) (h38 : a2 38 = a1 38) (v31 : v2 31 = v 31) (v33 : v2 33 = v 33) (hF : FLT v2 a2 v3 a3 t f2) : (f2 = 1 → SE3 v a v3 a3 t g q z) ∧ (f2 ≠ 1 → BADV (a 29) (v 30) a t (v 31) (v 33)) := by
  obtain ⟨p, w, ⟨es, D, b, k1, k2, k3, k4, k5⟩, h1, h2⟩ := h
  have e := h2.1
  obtain ⟨cs, st, w1, w2, w3⟩ := hs.wss hb hf hT h30 h10 ht hE h2 h12
  obtain ⟨D1, x1, eD⟩ := snocx D (by omega)
  have cx : FCX v2 a2 t D1 x1 cs w st := ⟨by rw [← eD]; exact k3.fr v39 h37 h38, w2, ⟨v23.trans e, fun j y ej => by rw [hs.1, h21, h22]; exact h2.2 j y ej⟩, by unfold BGT; rw [h6]; exact w3⟩
  obtain ⟨F1, F2⟩ := hF D1 x1 cs w st cx
  have eV : FLV v2 a2 t D1 x1 cs w st = flw (brk a t w st) (v 31) (v 33) cs 201 0 D1 x1 := by
    unfold FLV brk
    rw [h6, v31, v33]
  rw [eV] at F1 F2
  have rn := k1.word (by omega) h1 hz (by omega)
  refine ⟨fun c => ?_, fun c => ?_⟩
  · obtain ⟨D2, g1, g2⟩ := F1 c
    refine hv2 (flw_len _ _ _ _ _ g1) (congrArg List.length eD) (fun gl el => ?_)
    rw [len1] at el
    exact ⟨_, D2, b, rn, ⟨D, b, k2, Or.inr (Or.inl ⟨rfl, ⟨D1, x1, cs, st, eD, w1, g1⟩, rfl⟩)⟩, g2, k4, by omega⟩
  · have g1 := F2 c
    refine ⟨_, _, _, rn, fun ⟨D2, b2, D0, b0, j1, j2⟩ => ?_⟩
    obtain ⟨e1, _⟩ := drs.uni hT ht es D0 D b0 b j1 k2
    subst e1
    rcases j2 with ⟨q1, _⟩ | ⟨_, ⟨D3, x3, ds, s3, j3, j4, j5⟩, _⟩ | ⟨q1, _⟩ | ⟨q1, _⟩
    · exact absurd (show (2 : Int) = 1 from q1) (by decide)
    · obtain ⟨i1, i2⟩ := app_inj (eD.symm.trans j3)
      obtain ⟨c1, c2⟩ := WSS.uni hT ht w1 j4
      subst i1
      subst i2
      subst c1
      subst c2
      rw [g1] at j5
      cases j5
    · exact absurd (show (2 : Int) = 3 from q1) (by decide)
    · exact absurd (show (2 : Int) = 4 from q1) (by decide)
theorem SE2.fin (h : SE2 v a v1 a1 t x) (hx : v 30 ≤ x) (hv : v2 39 = v1 39) (h36 : v2 36 = v1 39) : SE5 v a v2 a1 t := by
  obtain ⟨es, D, b, h1, h2, h3⟩ := h
  exact ⟨es, D, b, ⟨x, h1, hx⟩, h2, h3.fr hv rfl rfl, by omega⟩
theorem SE5.fr (h : SE5 v a v1 a1 t) (h37 : a2 37 = a1 37) (h38 : a2 38 = a1 38) : SE5 v a v1 a2 t := by
  obtain ⟨es, D, b, h1, h2, h3, h4⟩ := h
  exact ⟨es, D, b, h1, h2, h3.fr rfl h37 h38, h4⟩
theorem SC1.init (hy : y = 0) : SC1 a1 y := fun l hl => absurd hl (by omega)
theorem SC1.go (h : SC1 a1 y) (hy : 0 ≤ y) (hi : i = y.toNat) (hz : z = a1 37 y.toNat) : SC2 (up2 a1 34 i z) y 0 := by
  subst hi
  refine ⟨fun l hl => ?_, ?_, fun j hj => absurd hj (by omega)⟩
  · obtain ⟨g1, g2⟩ := h l hl
    refine ⟨by rw [up2_j (by omega), up2_k (by decide)]; exact g1, fun j hj => ?_⟩
    rw [up2_k (by decide)] at hj
    rw [up2_k (by decide), up2_k (by decide)]
    exact g2 j hj
  · rw [up2_s, up2_k (by decide)]
    exact hz
theorem SC2.mv (h : SC2 a1 y k) (hb : ∀ l, a1 37 l ≤ 200) (hy : 0 ≤ y) (hk : 0 ≤ k ∧ k < 200) (hi : i = (200 * y + k).toNat) (hz : z = a1 38 (200 * y + k).toNat) : SC2 (up2 a1 35 i z) y (k + 1) := by
  obtain ⟨h1, h2, h3⟩ := h
  refine hv2 (show i = 200 * y.toNat + k.toNat from by omega) (show z = a1 38 i from by rw [hz, hi]) (fun ei ez => ?_)
  refine ⟨fun l hl => ?_, by rw [up2_k (by decide), up2_k (by decide)]; exact h2, fun j hj => ?_⟩
  · obtain ⟨g1, g2⟩ := h1 l hl
    have b1 := hb l
    refine ⟨by rw [up2_k (by decide), up2_k (by decide)]; exact g1, fun j hj => ?_⟩
    rw [up2_k (by decide)] at hj
    rw [up2_j (by omega), up2_k (by decide)]
    exact g2 j hj
  · by_cases c : ((j : Nat) : Int) = k
    · rw [show 200 * y.toNat + j = i by omega, up2_s, up2_k (by decide)]
      exact ez
    · rw [up2_j (by omega), up2_k (by decide)]
      exact h3 j (by omega)
theorem SC2.fin (h : SC2 a1 y k) (hy : 0 ≤ y) (hk : a1 37 y.toNat ≤ k) : SC1 a1 (y + 1) := fun l hl => by
  by_cases c : ((l : Nat) : Int) < y
  · exact h.1 l c
  · have e : l = y.toNat := by omega
    subst e
    exact ⟨h.2.1, fun j hj => h.2.2 j (by omega)⟩
theorem SETX.ok (hw : WHL v a t) (h : SE5 v a v1 a1 t) (hc : SC1 a1 y) (hy : v1 36 ≤ y) (hf : f = v1 36) (h36 : v2 36 = v1 36) (h34 : a2 34 = a1 34) (h35 : a2 35 = a1 35) : SETX v a v2 a2 t f := by
  obtain ⟨es, D, b, h1, h2, h3, h4⟩ := h
  have e := h3.1
  refine Or.inr ⟨D, ⟨hw, es, b, h1, h2, by omega⟩, by omega, fun l xs ex => ?_⟩
  have lt := gl3 ex
  obtain ⟨g1, g2⟩ := h3.2 l xs ex
  obtain ⟨c1, c2⟩ := hc l (by omega)
  rw [h34, h35]
  refine ⟨c1.trans g1, fun j z ej => ?_⟩
  have lj := gl3 ej
  rw [c2 j (by omega)]
  exact g2 j z ej
theorem SETX.n1 (h : ¬ WHL v a t) (hf : f = -1) (hk : KSH v a v2 a2) : SETX v a v2 a2 t f := Or.inl ⟨⟨hf, Or.inl h⟩, hk⟩
theorem SETX.n2 (hw : WHL v a t) (h : BADV (a 29) (v 30) a t (v 31) (v 33)) (hf : f = -1) (hk : KSH v a v2 a2) : SETX v a v2 a2 t f := Or.inl ⟨⟨hf, Or.inr ⟨hw, h⟩⟩, hk⟩
theorem KSH.refl : KSH v a v a := ⟨rfl, rfl, rfl⟩
theorem KSH.fr {V A : List Nat} (h : KSH v a v1 a1) (f1 : fr V A v1 a1 v2 a2) (h36 : V.contains 36 = false) (h34 : A.contains 34 = false) (h35 : A.contains 35 = false) : KSH v a v2 a2 := ⟨(f1.1 36 h36).trans h.1, (f1.2 34 h34).trans h.2.1, (f1.2 35 h35).trans h.2.2⟩
theorem SWT.pos (hs : SWT v1 a1 v2 a2 t f) (hf : f = 1) (hT : TBL v1 a1) (hB : BX v1 a1) (ht : 0 ≤ t ∧ t < v1 4) (hn : 0 < v1 23) : 1 ≤ v2 25 := by
  obtain ⟨cs, g1, g2⟩ := hs.2.1 hf
  refine hv2 (SWC.pos hT (hB.1 4).2 (fun i => (hB.2 10 i).2) (fun i => (hB.2 16 i).1) ht hn g1) (g2.1) (fun g e => ?_)
  omega
end RSET
set_option maxHeartbeats 4000000 in
set_option maxRecDepth 100000 in
theorem N2_set {l : Launch} {G : GT} {h0 : Nat} {ad ln : Nat → Nat} {v : Nat → Int} {a : Nat → Nat → Int}  {t : Int} (hB : BX v a) (hT : TBL v a) (ht : -2147483648 ≤ t ∧ t ≤ 2147483647) : Mm l G yX12_set cX12_set 7 (some .int) 66 [.int (iI t)] h0 ad ln v a 0 0 (fun r v2 a2 => ∃ f : Int, r = some (.int (iI f)) ∧ fr [0, 1, 23, 25, 28, 36, 39] [20, 21, 22, 24, 26, 27, 34, 35, 37, 38] v a v2 a2 ∧ BX v2 a2 ∧ (SETX v a v2 a2 t f)) := by
  refine Mm.mk (by decide) (Nat.le_of_ble_eq_true rfl) ?_
  intro p e s m args below meth c A C
  refine hv3 (show 0 ≤ v 4 ∧ v 4 ≤ 30 from hB.1 4) (show 0 ≤ v 30 ∧ v 30 ≤ 500 from hB.1 30) (show fr [0, 1, 23, 25, 28, 36, 39] [20, 21, 22, 24, 26, 27, 34, 35, 37, 38] v a v a from fr.refl) (fun h30 r30 fp0 => ?_)
  refine m_aload_n (j := 0) C dX12_set_0 rfl ?_
  refine m_iload_n (j := 1) C dX12_set_1 rfl ?_
  have rv1 : 0 ≤ v 4 ∧ v 4 ≤ 30 := hB.1 4
  refine m_call (mc2 := 0) (ms2 := 0) (As := [.int (iI t)]) (rest := []) C (E_isWhole (t := t) hB (hT.fr fp0 rfl rfl) (by show -2147483648 ≤ t ∧ t ≤ 2147483647; omega)) dX12_set_2 kV_X12_171 rfl ck_13 rfl (Nat.le_of_ble_eq_true rfl) ⟨Nat.le_of_ble_eq_true rfl, Nat.le_of_ble_eq_true rfl⟩ ⟨Nat.le_of_ble_eq_true rfl, Nat.le_of_ble_eq_true rfl⟩ (fun rh1 vh1 ah1 h1 => ?_)
  obtain ⟨f1, rfl, fn1, bn1, ex1⟩ := h1
  obtain ⟨rfl, rfl⟩ := fn1.eq
  obtain ⟨ex1, tl1⟩ := ex1
  have gf1 : f1 = 0 ∨ (f1 = 1 ∧ 0 ≤ t ∧ t < (v 4)) := ex1
  refine m_st (st2 := [.int (iI f1)]) rfl ?_
  refine m_if_ne (tgt := 14) C (r32_0p gf1) dX12_set_5 (by decide) (fun c1 => ?_) (fun c1 => ?_)
  · replace gf1 := (gf1.resolve_left c1)
    refine m_aload_n (j := 0) C dX12_set_14 rfl ?_
    refine m_iconst C dX12_set_15 ?_
    refine m_put (k := 39) (z := 0) C dX12_set_16 w6_98 (by decide) rfl rfl rfl ?_
    refine hv2 (show BX (va_up v 39 0) a from hB.put (k := 39) (z := 0) ⟨by decide, by decide⟩) (fp0.put (k := 39) (z := 0) rfl) (fun bq1 fq2 => ?_)
    refine m_iconst C dX12_set_19 ?_
    refine m_istore_n (lv2 := [(2, .int (iI 0)), (0, .ref h0), (1, .int (iI t))]) C dX12_set_20 (by decide) rfl ?_
    have Lp1 : ∀ (nn : Nat) (x : Int) (vb1 : Nat → Int) (ab1 : Nat → Nat → Int), 502 - x < (nn : Int) → BX vb1 ab1 → fr [0, 1, 23, 25, 28, 36, 39] [20, 21, 22, 24, 26, 27, 34, 35, 37, 38] v a vb1 ab1 → (0 ≤ x ∧ x ≤ 501) → (KSH v a vb1 ab1) → (SE2 v a vb1 ab1 t x) → mw p l e (rmq 66 0 0) s m args below meth c G A 7 (MQ below (Qm G A (fun rq Lq Eq => ∃ (vq : Nat → Int) (aq : Nat → Nat → Int), mI G h0 ad ln vq aq Lq Eq ∧ (fun r v2 a2 => ∃ f : Int, r = some (.int (iI f)) ∧ fr [0, 1, 23, 25, 28, 36, 39] [20, 21, 22, 24, 26, 27, 34, 35, 37, 38] v a v2 a2 ∧ BX v2 a2 ∧ (SETX v a v2 a2 t f)) rq vq aq)) args s 0 0 A) h0 ad ln vb1 ab1 0 0 21 [(2, .int (iI x)), (0, .ref h0), (1, .int (iI t))] [] := by
      intro nn
      induction nn with
      | zero =>
        intro x vb1 ab1 hm bxb1 fpb1 hx hK21 hS1
        exact absurd hm (by omega)
      | succ nn ih1 =>
        intro x vb1 ab1 hm bxb1 fpb1 hx hK21 hS1
        refine m_iload_n (j := 0) C dX12_set_21 rfl ?_
        refine m_aload_n (j := 1) C dX12_set_22 rfl ?_
        refine hv2 (show 0 ≤ vb1 30 ∧ vb1 30 ≤ 500 from bxb1.1 30) (show vb1 30 = v 30 from fpb1.1 30 rfl) (fun rv2 ve1 => ?_)
        refine m_get (k := 30) C dX12_set_23 w6_89 (by decide) rfl ?_
        refine m_st (st2 := [.int (iI (v 30)), .int (iI x)]) (congrArg (fun z => Value.int (iI z) :: [.int (iI x)]) (fpb1.1 30 rfl)) ?_
        refine m_icmp_ge (tgt := 157) C (r32_c (lo := 0) (hi := 501) hx.1 hx.2 (by decide) (by decide)) (r32_c (lo := 0) (hi := 500) (Int.le_trans rv2.1 (Int.le_of_eq ve1)) (Int.le_trans (Int.le_of_eq ve1.symm) rv2.2) (by decide) (by decide)) dX12_set_26 (by decide) (fun c2 => ?_) (fun c2 => ?_)
        · refine m_aload_n (j := 1) C dX12_set_157 rfl ?_
          refine m_aload_n (j := 1) C dX12_set_158 rfl ?_
          have rv3 : 0 ≤ vb1 39 ∧ vb1 39 ≤ 200 := bxb1.1 39
          refine m_get (k := 39) C dX12_set_159 w6_98 (by decide) rfl ?_
          refine m_put (k := 36) (z := vb1 39) C dX12_set_162 w6_95 (by decide) rfl rfl rfl ?_
          refine hv2 (show BX (va_up vb1 36 (vb1 39)) ab1 from bxb1.put (k := 36) (z := vb1 39) (show 0 ≤ (vb1 39) ∧ (vb1 39) ≤ 200 by omega)) (fpb1.put (k := 36) (z := vb1 39) rfl) (fun bq2 fq3 => ?_)
          refine m_iconst C dX12_set_165 ?_
          refine m_istore_n (lv2 := [(3, .int (iI 0)), (2, .int (iI x)), (0, .ref h0), (1, .int (iI t))]) C dX12_set_166 (by decide) rfl ?_
          have Lp2 : ∀ (nn : Nat) (y : Int) (vb2 : Nat → Int) (ab2 : Nat → Nat → Int), 201 - y < (nn : Int) → BX vb2 ab2 → fr [0, 1, 23, 25, 28, 36, 39] [20, 21, 22, 24, 26, 27, 34, 35, 37, 38] v a vb2 ab2 → (0 ≤ y ∧ y ≤ 200) → (SE5 v a vb2 ab2 t) → (SC1 ab2 y) → mw p l e (rmq 66 0 0) s m args below meth c G A 7 (MQ below (Qm G A (fun rq Lq Eq => ∃ (vq : Nat → Int) (aq : Nat → Nat → Int), mI G h0 ad ln vq aq Lq Eq ∧ (fun r v2 a2 => ∃ f : Int, r = some (.int (iI f)) ∧ fr [0, 1, 23, 25, 28, 36, 39] [20, 21, 22, 24, 26, 27, 34, 35, 37, 38] v a v2 a2 ∧ BX v2 a2 ∧ (SETX v a v2 a2 t f)) rq vq aq)) args s 0 0 A) h0 ad ln vb2 ab2 0 0 167 [(3, .int (iI y)), (2, .int (iI x)), (0, .ref h0), (1, .int (iI t))] [] := by
            intro nn
            induction nn with
            | zero =>
              intro y vb2 ab2 hm bxb2 fpb2 hy hS5 hC1
              exact absurd hm (by omega)
            | succ nn ih2 =>
              intro y vb2 ab2 hm bxb2 fpb2 hy hS5 hC1
              refine m_iload_n (j := 0) C dX12_set_167 rfl ?_
              refine m_aload_n (j := 2) C dX12_set_168 rfl ?_
              have rv4 : 0 ≤ vb2 36 ∧ vb2 36 ≤ 200 := bxb2.1 36
              refine m_get (k := 36) C dX12_set_169 w6_95 (by decide) rfl ?_
              refine m_icmp_ge (tgt := 239) C (r32_c (lo := 0) (hi := 200) hy.1 hy.2 (by decide) (by decide)) (r32_c (lo := 0) (hi := 200) rv4.1 rv4.2 (by decide) (by decide)) dX12_set_172 (by decide) (fun c3 => ?_) (fun c3 => ?_)
              · refine m_aload_n (j := 2) C dX12_set_239 rfl ?_
                refine m_aload_n (j := 2) C dX12_set_240 rfl ?_
                refine m_get (k := 36) C dX12_set_241 w6_95 (by decide) rfl ?_
                refine m_call (mc2 := 0) (ms2 := 0) (As := [.int (iI (vb2 36))]) (rest := []) C (B_fine (x := vb2 36) bxb2 (by show -2147483648 ≤ (vb2 36) ∧ (vb2 36) ≤ 2147483647; omega)) dX12_set_244 kV_X12_158 rfl ck_13 rfl (Nat.le_of_ble_eq_true rfl) ⟨Nat.le_of_ble_eq_true rfl, Nat.le_of_ble_eq_true rfl⟩ ⟨Nat.le_of_ble_eq_true rfl, Nat.le_of_ble_eq_true rfl⟩ (fun rh2 vh2 ah2 h2 => ?_)
                obtain ⟨f2, rfl, fn2, bn2, ex2⟩ := h2
                refine hv2 (fpb2.call fn2 rfl rfl) (show f2 = (vb2 36) from ex2) (fun fq4 gf2 => ?_)
                refine m_st (st2 := [.int (iI f2)]) rfl ?_
                exact m_iret C dX12_set_247 rfl (Nat.le_of_ble_eq_true rfl) (Nat.le_of_ble_eq_true rfl) ⟨f2, rfl, fq4, bn2, (SETX.ok (tl1.mp (by omega)) hS5 hC1 (by omega) (by omega) (fn2.1 36 rfl) (fn2.2 34 rfl) (fn2.2 35 rfl))⟩
              · refine m_aload_n (j := 2) C dX12_set_175 rfl ?_
                refine m_geta (k := 34) C dX12_set_176 w6_93 (by decide) rfl ?_
                refine m_iload_n (j := 0) C dX12_set_179 rfl ?_
                refine m_aload_n (j := 2) C dX12_set_180 rfl ?_
                refine m_geta (k := 37) C dX12_set_181 w6_96 (by decide) rfl ?_
                refine m_iload_n (j := 0) C dX12_set_184 rfl ?_
                refine m_ald (k := 37) C dX12_set_185 rfl rfl (by decide) (by omega) (by show _ < ((_ : Nat) : Int); simp only [mlen]; omega) (by decide) ?_
                have ra1 : 0 ≤ ab2 37 y.toNat ∧ ab2 37 y.toNat ≤ 200 := bxb2.2 37 (y.toNat)
                refine m_ast (k := 34) C dX12_set_186 rfl rfl (by decide) (by omega) (by show _ < ((_ : Nat) : Int); simp only [mlen]; omega) (by decide) ?_
                refine hv2 (show BX vb2 (up2 ab2 34 y.toNat (ab2 37 y.toNat)) from bxb2.set (k := 34) (i := y.toNat) (z := ab2 37 y.toNat) (show (-1) ≤ (ab2 37 y.toNat) ∧ (ab2 37 y.toNat) ≤ 200 by omega)) (fpb2.set (k := 34) (i := y.toNat) (z := ab2 37 y.toNat) rfl) (fun bq3 fq5 => ?_)
                refine m_iconst C dX12_set_187 ?_
                refine m_istore (lv2 := [(4, .int (iI 0)), (3, .int (iI y)), (2, .int (iI x)), (0, .ref h0), (1, .int (iI t))]) C dX12_set_188 (by decide) rfl ?_
                have Lp3 : ∀ (nn : Nat) (z : Int) (vb3 : Nat → Int) (ab3 : Nat → Nat → Int), 201 - z < (nn : Int) → BX vb3 ab3 → fr [0, 1, 23, 25, 28, 36, 39] [20, 21, 22, 24, 26, 27, 34, 35, 37, 38] v a vb3 ab3 → (0 ≤ z ∧ z ≤ 200) → (SE5 v a vb3 ab3 t) → (SC2 ab3 y z) → mw p l e (rmq 66 0 0) s m args below meth c G A 7 (MQ below (Qm G A (fun rq Lq Eq => ∃ (vq : Nat → Int) (aq : Nat → Nat → Int), mI G h0 ad ln vq aq Lq Eq ∧ (fun r v2 a2 => ∃ f : Int, r = some (.int (iI f)) ∧ fr [0, 1, 23, 25, 28, 36, 39] [20, 21, 22, 24, 26, 27, 34, 35, 37, 38] v a v2 a2 ∧ BX v2 a2 ∧ (SETX v a v2 a2 t f)) rq vq aq)) args s 0 0 A) h0 ad ln vb3 ab3 0 0 190 [(4, .int (iI z)), (3, .int (iI y)), (2, .int (iI x)), (0, .ref h0), (1, .int (iI t))] [] := by
                  intro nn
                  induction nn with
                  | zero =>
                    intro z vb3 ab3 hm bxb3 fpb3 hz hS6 hC2
                    exact absurd hm (by omega)
                  | succ nn ih3 =>
                    intro z vb3 ab3 hm bxb3 fpb3 hz hS6 hC2
                    refine m_iload (j := 0) C dX12_set_190 rfl ?_
                    refine m_aload_n (j := 3) C dX12_set_192 rfl ?_
                    refine m_geta (k := 37) C dX12_set_193 w6_96 (by decide) rfl ?_
                    refine m_iload_n (j := 1) C dX12_set_196 rfl ?_
                    refine m_ald (k := 37) C dX12_set_197 rfl rfl (by decide) (by omega) (by show _ < ((_ : Nat) : Int); simp only [mlen]; omega) (by decide) ?_
                    have ra2 : 0 ≤ ab3 37 y.toNat ∧ ab3 37 y.toNat ≤ 200 := bxb3.2 37 (y.toNat)
                    refine m_icmp_ge (tgt := 233) C (r32_c (lo := 0) (hi := 200) hz.1 hz.2 (by decide) (by decide)) (r32_c (lo := 0) (hi := 200) ra2.1 ra2.2 (by decide) (by decide)) dX12_set_198 (by decide) (fun c4 => ?_) (fun c4 => ?_)
                    · refine m_iinc (z := y) (j := 1) (lv2 := [(3, .int (iI (y + 1))), (4, .int (iI z)), (2, .int (iI x)), (0, .ref h0), (1, .int (iI t))]) C dX12_set_233 rfl (by decide) rfl ?_
                      refine m_goto (tgt := 167) C dX12_set_236 (by decide) ?_
                      refine m_lv (lv2 := [(3, .int (iI (y + 1))), (2, .int (iI x)), (0, .ref h0), (1, .int (iI t))]) [0, 2, 3, 4] rfl ?_
                      exact ih2  (y + 1) _ _ (by omega) bxb3 fpb3 (by omega) hS6 (SC2.fin hC2 (by omega) (by omega))
                    · refine m_aload_n (j := 3) C dX12_set_201 rfl ?_
                      refine m_geta (k := 35) C dX12_set_202 w6_94 (by decide) rfl ?_
                      refine m_sipush (z := 200) C dX12_set_205 (by decide) ?_
                      refine m_iload_n (j := 1) C dX12_set_208 rfl ?_
                      refine m_imul C dX12_set_209 ?_
                      refine m_iload (j := 0) C dX12_set_210 rfl ?_
                      refine m_iadd C dX12_set_212 ?_
                      refine m_aload_n (j := 3) C dX12_set_213 rfl ?_
                      refine m_geta (k := 38) C dX12_set_214 w6_97 (by decide) rfl ?_
                      refine m_sipush (z := 200) C dX12_set_217 (by decide) ?_
                      refine m_iload_n (j := 1) C dX12_set_220 rfl ?_
                      refine m_imul C dX12_set_221 ?_
                      refine m_iload (j := 0) C dX12_set_222 rfl ?_
                      refine m_iadd C dX12_set_224 ?_
                      refine m_ald (k := 38) C dX12_set_225 rfl rfl (by decide) (by omega) (by show _ < ((_ : Nat) : Int); simp only [mlen]; omega) (by decide) ?_
                      have ra3 : (-2147483648) ≤ ab3 38 ((200 * y) + z).toNat ∧ ab3 38 ((200 * y) + z).toNat ≤ 2147483647 := bxb3.2 38 (((200 * y) + z).toNat)
                      refine m_ast (k := 35) C dX12_set_226 rfl rfl (by decide) (by omega) (by show _ < ((_ : Nat) : Int); simp only [mlen]; omega) (by decide) ?_
                      refine hv2 (show BX vb3 (up2 ab3 35 ((200 * y) + z).toNat (ab3 38 ((200 * y) + z).toNat)) from bxb3.set (k := 35) (i := ((200 * y) + z).toNat) (z := ab3 38 ((200 * y) + z).toNat) (show (-2147483648) ≤ (ab3 38 ((200 * y) + z).toNat) ∧ (ab3 38 ((200 * y) + z).toNat) ≤ 2147483647 by omega)) (fpb3.set (k := 35) (i := ((200 * y) + z).toNat) (z := ab3 38 ((200 * y) + z).toNat) rfl) (fun bq4 fq6 => ?_)
                      refine m_iinc (z := z) (j := 0) (lv2 := [(4, .int (iI (z + 1))), (3, .int (iI y)), (2, .int (iI x)), (0, .ref h0), (1, .int (iI t))]) C dX12_set_227 rfl (by decide) rfl ?_
                      refine m_goto (tgt := 190) C dX12_set_230 (by decide) ?_
                      refine m_lv (lv2 := [(4, .int (iI (z + 1))), (3, .int (iI y)), (2, .int (iI x)), (0, .ref h0), (1, .int (iI t))]) [0, 1, 2, 3, 4] rfl ?_
                      exact ih3  (z + 1) _ _ (by omega) bq4 fq6 (by omega) (SE5.fr hS6 (funext fun _ => up2_k (by decide)) (funext fun _ => up2_k (by decide))) (SC2.mv hC2 (fun l => (bxb3.2 37 l).2) (by omega) ⟨by omega, by omega⟩ rfl rfl)
                refine m_lv (lv2 := [(4, .int (iI 0)), (3, .int (iI y)), (2, .int (iI x)), (0, .ref h0), (1, .int (iI t))]) [0, 1, 2, 3, 4] rfl ?_
                exact Lp3 202 0 _ _ (by omega) bq3 fq5 (by omega) (SE5.fr hS5 (funext fun _ => up2_k (by decide)) (funext fun _ => up2_k (by decide))) (SC1.go hC1 (by omega) rfl rfl)
          refine m_lv (lv2 := [(3, .int (iI 0)), (2, .int (iI x)), (0, .ref h0), (1, .int (iI t))]) [0, 1, 2, 3] rfl ?_
          exact Lp2 202 0 _ _ (by omega) bq2 fq3 (by omega) (SE2.fin hS1 (by omega) (va_up_ne _ _ (by decide)) (va_up_self _ _ _)) (SC1.init rfl)
        · refine m_aload_n (j := 1) C dX12_set_29 rfl ?_
          refine m_iload_n (j := 0) C dX12_set_30 rfl ?_
          refine m_call (mc2 := 0) (ms2 := 0) (As := [.int (iI x)]) (rest := []) C (E_lineEnd (q := x) bxb1 (by show 0 ≤ x ∧ x ≤ 1000; omega)) dX12_set_31 kV_X12_261 rfl ck_13 rfl (Nat.le_of_ble_eq_true rfl) ⟨Nat.le_of_ble_eq_true rfl, Nat.le_of_ble_eq_true rfl⟩ ⟨Nat.le_of_ble_eq_true rfl, Nat.le_of_ble_eq_true rfl⟩ (fun rh3 vh3 ah3 h3 => ?_)
          obtain ⟨f3, rfl, fn3, bn3, ex3⟩ := h3
          obtain ⟨rfl, rfl⟩ := fn3.eq
          obtain ⟨ex3, tl2⟩ := ex3
          refine hv2 (show x ≤ f3 ∧ (f3 = x ∨ f3 ≤ (vb1 30)) from ex3) (show LEX (a 29) (v 30) x f3 from (by have q1 := tl2; rw [fpb1.2 29 rfl, fpb1.1 30 rfl] at q1; exact q1)) (fun gf3 lef3 => ?_)
          refine m_st (st2 := [.int (iI f3)]) rfl ?_
          replace gf3 : x ≤ f3 ∧ f3 ≤ vb1 30 := by omega
          refine m_istore_n (lv2 := [(3, .int (iI f3)), (2, .int (iI x)), (0, .ref h0), (1, .int (iI t))]) C dX12_set_34 (by decide) rfl ?_
          refine m_aload_n (j := 2) C dX12_set_35 rfl ?_
          refine m_geta (k := 29) C dX12_set_36 w6_88 (by decide) rfl ?_
          refine m_iload_n (j := 1) C dX12_set_39 rfl ?_
          refine m_ald (k := 29) C dX12_set_40 rfl rfl (by decide) (by omega) (by show _ < ((_ : Nat) : Int); simp only [mlen]; omega) (by decide) ?_
          refine hv2 (show (-2147483648) ≤ ab1 29 x.toNat ∧ ab1 29 x.toNat ≤ 2147483647 from bxb1.2 29 (x.toNat)) (show ab1 29 (x.toNat) = a 29 (x.toNat) from congrFun (fpb1.2 29 rfl) (x.toNat)) (fun ra4 ae1 => ?_)
          refine m_st (st2 := [.int (iI (a 29 x.toNat))]) (congrArg (fun z => Value.int (iI z) :: []) (congrFun (fpb1.2 29 rfl) (x.toNat))) ?_
          refine m_bipush (z := 94) C dX12_set_41 (by decide) ?_
          have J1 : ∀ (g : Int) (vb4 : Nat → Int) (ab4 : Nat → Nat → Int), BX vb4 ab4 → fr [0, 1, 23, 25, 28, 36, 39] [20, 21, 22, 24, 26, 27, 34, 35, 37, 38] v a vb4 ab4 → (g = 0 ∨ g = 1) → (KSH v a vb4 ab4) → ((g = 1 ∧ a 29 x.toNat = 94) ∨ (g = 0 ∧ a 29 x.toNat ≠ 94)) → (SE2 v a vb4 ab4 t x) → mw p l e (rmq 66 0 0) s m args below meth c G A 7 (MQ below (Qm G A (fun rq Lq Eq => ∃ (vq : Nat → Int) (aq : Nat → Nat → Int), mI G h0 ad ln vq aq Lq Eq ∧ (fun r v2 a2 => ∃ f : Int, r = some (.int (iI f)) ∧ fr [0, 1, 23, 25, 28, 36, 39] [20, 21, 22, 24, 26, 27, 34, 35, 37, 38] v a v2 a2 ∧ BX v2 a2 ∧ (SETX v a v2 a2 t f)) rq vq aq)) args s 0 0 A) h0 ad ln vb4 ab4 0 0 51 [(3, .int (iI f3)), (2, .int (iI x)), (0, .ref h0), (1, .int (iI t))] [.int (iI g)] := by
            intro g vb4 ab4 bxb4 fpb4 hg hK51 hg2 hS2
            refine m_istore (lv2 := [(4, .int (iI g)), (3, .int (iI f3)), (2, .int (iI x)), (0, .ref h0), (1, .int (iI t))]) C dX12_set_51 (by decide) rfl ?_
            refine m_aload_n (j := 3) C dX12_set_53 rfl ?_
            have rv5 : 0 ≤ vb4 39 ∧ vb4 39 ≤ 200 := bxb4.1 39
            refine m_get (k := 39) C dX12_set_54 w6_98 (by decide) rfl ?_
            refine m_istore (lv2 := [(5, .int (iI (vb4 39))), (4, .int (iI g)), (3, .int (iI f3)), (2, .int (iI x)), (0, .ref h0), (1, .int (iI t))]) C dX12_set_57 (by decide) rfl ?_
            refine m_aload_n (j := 4) C dX12_set_59 rfl ?_
            refine m_call (mc2 := 0) (ms2 := 0) (As := []) (rest := []) C (M_newLine bxb4.rg (bxb4.1 39)) dX12_set_60 kV_X12_257 rfl ck_13 rfl (Nat.le_of_ble_eq_true rfl) ⟨Nat.le_of_ble_eq_true rfl, Nat.le_of_ble_eq_true rfl⟩ ⟨Nat.le_of_ble_eq_true rfl, Nat.le_of_ble_eq_true rfl⟩ (fun rh4 vh4 ah4 h4 => ?_)
            obtain ⟨f4, rfl, fn4, bn4, ex4, nx1⟩ := W_newLine2 bxb4 h4
            refine hv3 (fpb4.call fn4 rfl rfl) (show (f4 = 1 ∧ vh4 39 = vb4 39 + 1 ∧ ah4 37 (vh4 39 - 1).toNat = 0) ∨ f4 = 0 from ex4) (hK51.fr fn4 rfl rfl rfl) (fun fq8 gf4 ks1 => ?_)
            refine m_st (st2 := [.int (iI f4)]) rfl ?_
            refine m_if_ne (tgt := 73) C (r32_p0 gf4) dX12_set_63 (by decide) (fun c5 => ?_) (fun c5 => ?_)
            · replace gf4 := (gf4.resolve_right c5)
              refine m_aload_n (j := 4) C dX12_set_73 rfl ?_
              refine m_iload (j := 1) C dX12_set_74 rfl ?_
              have J2 : ∀ (y : Int) (vb5 : Nat → Int) (ab5 : Nat → Nat → Int), BX vb5 ab5 → fr [0, 1, 23, 25, 28, 36, 39] [20, 21, 22, 24, 26, 27, 34, 35, 37, 38] v a vb5 ab5 → (y = x ∨ y = x + 1) → (1 ≤ vb5 39) → (KSH v a vb5 ab5) → ((g = 1 ∧ y = x + 1) ∨ (g = 0 ∧ y = x)) → (SE3 v a vb5 ab5 t g (vb4 39) y) → mw p l e (rmq 66 0 0) s m args below meth c G A 7 (MQ below (Qm G A (fun rq Lq Eq => ∃ (vq : Nat → Int) (aq : Nat → Nat → Int), mI G h0 ad ln vq aq Lq Eq ∧ (fun r v2 a2 => ∃ f : Int, r = some (.int (iI f)) ∧ fr [0, 1, 23, 25, 28, 36, 39] [20, 21, 22, 24, 26, 27, 34, 35, 37, 38] v a v2 a2 ∧ BX v2 a2 ∧ (SETX v a v2 a2 t f)) rq vq aq)) args s 0 0 A) h0 ad ln vb5 ab5 0 0 86 [(5, .int (iI (vb4 39))), (4, .int (iI g)), (3, .int (iI f3)), (2, .int (iI x)), (0, .ref h0), (1, .int (iI t))] [.int (iI y), .ref h0] := by
                intro y vb5 ab5 bxb5 fpb5 hy hn hK86 hy2 hS3
                refine m_iload_n (j := 2) C dX12_set_86 rfl ?_
                refine hv4 (show 0 ≤ vb5 30 ∧ vb5 30 ≤ 500 from bxb5.1 30) (show vb5 30 = v 30 from fpb5.1 30 rfl) (show 0 ≤ vb5 23 ∧ vb5 23 ≤ 500 from bxb5.1 23) (show 0 ≤ vb5 39 ∧ vb5 39 ≤ 200 from bxb5.1 39) (fun rv6 ve2 rv7 rv8 => ?_)
                have tkp1 : TKP (a 29) (v 30) y f3 := LEX.tkp lef3 (by omega) (by omega) (by omega)
                refine m_call (mc2 := 0) (ms2 := 0) (As := [.int (iI y), .int (iI f3)]) (rest := []) C (E_takeWord (q := y) (u := f3) bxb5 (by omega) (by omega) (TKP.cg tkp1 (fpb5.2 29 rfl) (fpb5.1 30 rfl))) dX12_set_87 kV_X12_264 rfl ck_13 rfl (Nat.le_of_ble_eq_true rfl) ⟨Nat.le_of_ble_eq_true rfl, Nat.le_of_ble_eq_true rfl⟩ ⟨Nat.le_of_ble_eq_true rfl, Nat.le_of_ble_eq_true rfl⟩ (fun rh5 vh5 ah5 h5 => ?_)
                obtain ⟨f5, rfl, fn5, bn5, ex5, tl3⟩ := h5
                refine hv6 (fpb5.call fn5 rfl rfl) (show 0 ≤ vh5 23 ∧ vh5 23 ≤ 500 from bn5.1 23) (show (f5 = y ∨ (y ≤ f5 ∧ f5 ≤ f3)) ∧ (vh5 23) ≤ f5 - y from ex5) (show (vh5 23) ≠ 0 ∨ f5 = f3 from tl3.2) (show TKX (a 29) (v 30) vh5 ah5 y f5 from (by have q1 := tl3.1; rw [fpb5.2 29 rfl, fpb5.1 30 rfl] at q1; exact q1)) (hK86.fr fn5 rfl rfl rfl) (fun fq9 rv9 gf5 hf5 tk1 ks2 => ?_)
                have se1 := SE3.take hS3 tk1 (fn5.1 39 rfl) (fn5.2 37 rfl) (fn5.2 38 rfl)
                refine m_st (st2 := [.int (iI f5)]) rfl ?_
                refine m_istore (lv2 := [(6, .int (iI f5)), (5, .int (iI (vb4 39))), (4, .int (iI g)), (3, .int (iI f3)), (2, .int (iI x)), (0, .ref h0), (1, .int (iI t))]) C dX12_set_90 (by decide) rfl ?_
                have Lp4 : ∀ (nn : Nat) (w1 : Int) (vb6 : Nat → Int) (ab6 : Nat → Nat → Int), 1005 - 2 * w1 + min 1 (vb6 23) < (nn : Int) → BX vb6 ab6 → fr [0, 1, 23, 25, 28, 36, 39] [20, 21, 22, 24, 26, 27, 34, 35, 37, 38] v a vb6 ab6 → (0 ≤ w1 ∧ w1 ≤ 501) → (1 ≤ vb6 39) → (0 ≤ vb6 23 ∧ vb6 23 ≤ 500) → (y ≤ w1 ∧ w1 ≤ f3) → (vb6 23 ≠ 0 ∨ w1 = f3) → (KSH v a vb6 ab6) → (SE4 v a vb6 ab6 t g (vb4 39) w1) → mw p l e (rmq 66 0 0) s m args below meth c G A 7 (MQ below (Qm G A (fun rq Lq Eq => ∃ (vq : Nat → Int) (aq : Nat → Nat → Int), mI G h0 ad ln vq aq Lq Eq ∧ (fun r v2 a2 => ∃ f : Int, r = some (.int (iI f)) ∧ fr [0, 1, 23, 25, 28, 36, 39] [20, 21, 22, 24, 26, 27, 34, 35, 37, 38] v a v2 a2 ∧ BX v2 a2 ∧ (SETX v a v2 a2 t f)) rq vq aq)) args s 0 0 A) h0 ad ln vb6 ab6 0 0 92 [(6, .int (iI w1)), (5, .int (iI (vb4 39))), (4, .int (iI g)), (3, .int (iI f3)), (2, .int (iI x)), (0, .ref h0), (1, .int (iI t))] [] := by
                  intro nn
                  induction nn with
                  | zero =>
                    intro w1 vb6 ab6 hm bxb6 fpb6 hw hn2 h23 hwr hto hK92 hS4
                    clear hy hy2 hg2 gf5 hf5
                    exact absurd hm (by omega)
                  | succ nn ih4 =>
                    intro w1 vb6 ab6 hm bxb6 fpb6 hw hn2 h23 hwr hto hK92 hS4
                    clear hy hy2 hg2 gf5 hf5
                    refine m_aload_n (j := 5) C dX12_set_92 rfl ?_
                    have rv10 : 0 ≤ vb6 23 ∧ vb6 23 ≤ 500 := bxb6.1 23
                    refine m_get (k := 23) C dX12_set_93 w6_82 (by decide) rfl ?_
                    refine m_if_le (tgt := 139) C (r32_c (lo := 0) (hi := 500) rv10.1 rv10.2 (by decide) (by decide)) dX12_set_96 (by decide) (fun c6 => ?_) (fun c6 => ?_)
                    · refine m_iload (j := 2) C dX12_set_139 rfl ?_
                      refine m_if_eq (tgt := 150) C (r32_01 hg) dX12_set_141 (by decide) (fun c7 => ?_) (fun c7 => ?_)
                      · refine m_iload_n (j := 3) C dX12_set_150 rfl ?_
                        refine m_iconst C dX12_set_151 ?_
                        refine m_iadd C dX12_set_152 ?_
                        refine m_istore_n (lv2 := [(2, .int (iI (f3 + 1))), (6, .int (iI w1)), (5, .int (iI (vb4 39))), (4, .int (iI g)), (3, .int (iI f3)), (0, .ref h0), (1, .int (iI t))]) C dX12_set_153 (by decide) rfl ?_
                        refine m_goto (tgt := 21) C dX12_set_154 (by decide) ?_
                        refine m_lv (lv2 := [(2, .int (iI (f3 + 1))), (0, .ref h0), (1, .int (iI t))]) [0, 5, 6] rfl ?_
                        exact ih1  (f3 + 1) _ _ (by omega) bxb6 fpb6 (by omega) hK92 (by have e := SE4.lineN hS4 (by omega) (by omega) (by omega); rw [show w1 = f3 by omega] at e; exact e)
                      · refine m_aload_n (j := 5) C dX12_set_144 rfl ?_
                        refine m_iload (j := 1) C dX12_set_145 rfl ?_
                        refine m_call (mc2 := 0) (ms2 := 0) (As := [.int (iI (vb4 39))]) (rest := []) C (E_centre (q := vb4 39) bxb6 (by show 0 ≤ (vb4 39) ∧ (vb4 39) ≤ 200; omega)) dX12_set_147 kV_X12_276 rfl ck_13 rfl (Nat.le_of_ble_eq_true rfl) ⟨Nat.le_of_ble_eq_true rfl, Nat.le_of_ble_eq_true rfl⟩ ⟨Nat.le_of_ble_eq_true rfl, Nat.le_of_ble_eq_true rfl⟩ (fun rh6 vh6 ah6 h6 => ?_)
                        obtain ⟨rfl, fn6, bn6, ex6⟩ := h6
                        refine hv3 (fpb6.call fn6 rfl rfl) (ex6) (hK92.fr fn6 rfl rfl rfl) (fun fq10 tl4 ks3 => ?_)
                        refine m_st (st2 := []) rfl ?_
                        refine m_iload_n (j := 3) C dX12_set_150 rfl ?_
                        refine m_iconst C dX12_set_151 ?_
                        refine m_iadd C dX12_set_152 ?_
                        refine m_istore_n (lv2 := [(2, .int (iI (f3 + 1))), (6, .int (iI w1)), (5, .int (iI (vb4 39))), (4, .int (iI g)), (3, .int (iI f3)), (0, .ref h0), (1, .int (iI t))]) C dX12_set_153 (by decide) rfl ?_
                        refine m_goto (tgt := 21) C dX12_set_154 (by decide) ?_
                        refine m_lv (lv2 := [(2, .int (iI (f3 + 1))), (0, .ref h0), (1, .int (iI t))]) [0, 5, 6] rfl ?_
                        exact ih1  (f3 + 1) _ _ (by omega) bn6 fq10 (by omega) ks3 (by have e := SE4.lineC hS4 (by omega) (by omega) (by omega) (fpb6.1 31 rfl) tl4; rw [show w1 = f3 by omega] at e; exact e)
                    · refine m_aload_n (j := 5) C dX12_set_99 rfl ?_
                      refine m_iload_n (j := 6) C dX12_set_100 rfl ?_
                      refine hv2 (show 0 ≤ vb6 4 ∧ vb6 4 ≤ 30 from bxb6.1 4) (show vb6 4 = v 4 from fpb6.1 4 rfl) (fun rv11 ve3 => ?_)
                      refine m_call (mc2 := 0) (ms2 := 0) (As := [.int (iI t)]) (rest := []) C (E_setWord (t := t) bxb6 (hT.fr fpb6 rfl rfl) (by show 0 ≤ t ∧ t < (vb6 4); omega)) dX12_set_101 kV_X12_267 rfl ck_13 rfl (Nat.le_of_ble_eq_true rfl) ⟨Nat.le_of_ble_eq_true rfl, Nat.le_of_ble_eq_true rfl⟩ ⟨Nat.le_of_ble_eq_true rfl, Nat.le_of_ble_eq_true rfl⟩ (fun rh7 vh7 ah7 h7 => ?_)
                      obtain ⟨f7, rfl, fn7, bn7, ex7⟩ := h7
                      have fq11 := fpb6.call fn7 rfl rfl
                      obtain ⟨ex7, tl5⟩ := ex7
                      refine hv3 (show 0 ≤ vh7 25 ∧ vh7 25 ≤ 208 from bn7.1 25) (show f7 = 0 ∨ (f7 = 1 ∧ (vh7 25) ≤ 200) from ex7) (hK92.fr fn7 rfl rfl rfl) (fun rv12 gf7 ks4 => ?_)
                      have spf7 : f7 = 1 → 1 ≤ (vh7 25) := fun e => SWT.pos tl5.1 e (hT.fr fpb6 rfl rfl) bxb6 ⟨by omega, by have e4 := fpb6.1 4 rfl; omega⟩ (by omega)
                      refine m_st (st2 := [.int (iI f7)]) rfl ?_
                      refine m_if_ne (tgt := 112) C (r32_0p gf7) dX12_set_104 (by decide) (fun c8 => ?_) (fun c8 => ?_)
                      · replace gf7 := (gf7.resolve_left c8)
                        refine m_aload_n (j := 5) C dX12_set_112 rfl ?_
                        refine m_iload_n (j := 6) C dX12_set_113 rfl ?_
                        refine hv2 (show 0 ≤ vh7 39 ∧ vh7 39 ≤ 200 from bn7.1 39) (show vh7 39 = vb6 39 from fn7.1 39 rfl) (fun rv13 ve4 => ?_)
                        refine m_call (mc2 := 0) (ms2 := 0) (As := [.int (iI t)]) (rest := []) C (E_flow (t := t) bn7 (by show 0 ≤ t ∧ t < 30; omega) (by show 1 ≤ (vh7 39); omega) (by show 1 ≤ (vh7 25) ∧ (vh7 25) ≤ 200; omega)) dX12_set_114 kV_X12_273 rfl ck_13 rfl (Nat.le_of_ble_eq_true rfl) ⟨Nat.le_of_ble_eq_true rfl, Nat.le_of_ble_eq_true rfl⟩ ⟨Nat.le_of_ble_eq_true rfl, Nat.le_of_ble_eq_true rfl⟩ (fun rh8 vh8 ah8 h8 => ?_)
                        obtain ⟨f8, rfl, fn8, bn8, ex8⟩ := h8
                        have fq12 := fq11.call fn8 rfl rfl
                        obtain ⟨ex8, tl6⟩ := ex8
                        refine hv3 (show 0 ≤ vh8 39 ∧ vh8 39 ≤ 200 from bn8.1 39) (show f8 = 0 ∨ (f8 = 1 ∧ 1 ≤ (vh8 39)) from ex8) (ks4.fr fn8 rfl rfl rfl) (fun rv14 gf8 ks5 => ?_)
                        have fw1 := SE4.flow hS4 hg (by omega) (by omega) hT (hB.1 4).2 (fun i => (hB.2 10 i).2) ⟨by omega, by omega⟩ tl5.1 tl5.2 (by omega) (TBE.fr fpb6 rfl) (fun i => (hB.2 12 i).1) (fq11.2 6 rfl) (fn7.2 21 rfl) (fn7.2 22 rfl) (fn7.1 23 rfl) (fn7.1 39 rfl) (fn7.2 37 rfl) (fn7.2 38 rfl) (fq11.1 31 rfl) (fq11.1 33 rfl) tl6
                        refine m_st (st2 := [.int (iI f8)]) rfl ?_
                        refine m_if_ne (tgt := 127) C (r32_0p gf8) dX12_set_117 (by decide) (fun c9 => ?_) (fun c9 => ?_)
                        · replace gf8 := (gf8.resolve_left c9)
                          refine m_aload_n (j := 5) C dX12_set_127 rfl ?_
                          refine m_iload (j := 0) C dX12_set_128 rfl ?_
                          refine m_iload_n (j := 3) C dX12_set_130 rfl ?_
                          refine hv7 (show 0 ≤ vh8 30 ∧ vh8 30 ≤ 500 from bn8.1 30) (show vh8 30 = vh7 30 from fn8.1 30 rfl) (show vh7 30 = vb6 30 from fn7.1 30 rfl) (show vb6 30 = v 30 from fpb6.1 30 rfl) (show 0 ≤ vh8 23 ∧ vh8 23 ≤ 500 from bn8.1 23) (show vh8 23 = vh7 23 from fn8.1 23 rfl) (show vh7 23 = vb6 23 from fn7.1 23 rfl) (fun rv15 ve5 ve6 ve7 rv16 ve8 ve9 => ?_)
                          refine m_call (mc2 := 0) (ms2 := 0) (As := [.int (iI w1), .int (iI f3)]) (rest := []) C (E_takeWord (q := w1) (u := f3) bn8 (by omega) (by omega) (TKP.cg (tkp1.sub ⟨by omega, by omega⟩) (fq12.2 29 rfl) (fq12.1 30 rfl))) dX12_set_131 kV_X12_264 rfl ck_13 rfl (Nat.le_of_ble_eq_true rfl) ⟨Nat.le_of_ble_eq_true rfl, Nat.le_of_ble_eq_true rfl⟩ ⟨Nat.le_of_ble_eq_true rfl, Nat.le_of_ble_eq_true rfl⟩ (fun rh9 vh9 ah9 h9 => ?_)
                          obtain ⟨f9, rfl, fn9, bn9, ex9, tl7⟩ := h9
                          refine hv6 (fq12.call fn9 rfl rfl) (show 0 ≤ vh9 23 ∧ vh9 23 ≤ 500 from bn9.1 23) (show (f9 = w1 ∨ (w1 ≤ f9 ∧ f9 ≤ f3)) ∧ (vh9 23) ≤ f9 - w1 from ex9) (show (vh9 23) ≠ 0 ∨ f9 = f3 from tl7.2) (show TKX (a 29) (v 30) vh9 ah9 w1 f9 from (by have q1 := tl7.1; rw [fq12.2 29 rfl, fq12.1 30 rfl] at q1; exact q1)) (ks5.fr fn9 rfl rfl rfl) (fun fq13 rv17 gf9 hf9 tk2 ks6 => ?_)
                          have se2 := SE3.take (fw1.1 (by omega)) tk2 (fn9.1 39 rfl) (fn9.2 37 rfl) (fn9.2 38 rfl)
                          refine m_st (st2 := [.int (iI f9)]) rfl ?_
                          refine m_istore (lv2 := [(6, .int (iI f9)), (5, .int (iI (vb4 39))), (4, .int (iI g)), (3, .int (iI f3)), (2, .int (iI x)), (0, .ref h0), (1, .int (iI t))]) C dX12_set_134 (by decide) rfl ?_
                          refine m_goto (tgt := 92) C dX12_set_136 (by decide) ?_
                          refine hv2 (show 0 ≤ vh9 39 ∧ vh9 39 ≤ 200 from bn9.1 39) (show vh9 39 = vh8 39 from fn9.1 39 rfl) (fun rv18 ve10 => ?_)
                          refine m_lv (lv2 := [(6, .int (iI f9)), (5, .int (iI (vb4 39))), (4, .int (iI g)), (3, .int (iI f3)), (2, .int (iI x)), (0, .ref h0), (1, .int (iI t))]) [0, 1, 2, 3, 4, 5, 6] rfl ?_
                          exact ih4  f9 _ _ (by omega) bn9 fq13 (by omega) (by show 1 ≤ (vh9 39); omega) (by show 0 ≤ (vh9 23) ∧ (vh9 23) ≤ 500; omega) (by omega) (by show (vh9 23) ≠ 0 ∨ f9 = f3; omega) ks6 se2
                        · clear gf8
                          refine m_aload_n (j := 5) C dX12_set_120 rfl ?_
                          refine m_bipush (z := 6) C dX12_set_121 (by decide) ?_
                          refine m_call (mc2 := 0) (ms2 := 0) (As := [.int (iI 6)]) (rest := []) C (B_bad (x := 6) bn8 (by show -2147483648 ≤ (6 : Int) ∧ (6 : Int) ≤ 2147483647; omega)) dX12_set_123 kV_X12_154 rfl ck_13 rfl (Nat.le_of_ble_eq_true rfl) ⟨Nat.le_of_ble_eq_true rfl, Nat.le_of_ble_eq_true rfl⟩ ⟨Nat.le_of_ble_eq_true rfl, Nat.le_of_ble_eq_true rfl⟩ (fun rh10 vh10 ah10 h10 => ?_)
                          obtain ⟨f10, rfl, fn10, bn10, ex10⟩ := h10
                          refine hv2 (fq12.call fn10 rfl rfl) (show f10 = -1 from ex10) (fun fq14 gf10 => ?_)
                          refine m_st (st2 := [.int (iI f10)]) rfl ?_
                          exact m_iret C dX12_set_126 rfl (Nat.le_of_ble_eq_true rfl) (Nat.le_of_ble_eq_true rfl) ⟨f10, rfl, fq14, bn10, (SETX.n2 (tl1.mp (by omega)) (fw1.2 (by omega)) (by omega) (ks5.fr fn10 rfl rfl rfl))⟩
                      · clear gf7
                        refine m_aload_n (j := 5) C dX12_set_107 rfl ?_
                        refine m_call (mc2 := 0) (ms2 := 0) (As := []) (rest := []) C (B_notSet  bn7 ) dX12_set_108 kV_X12_270 rfl ck_13 rfl (Nat.le_of_ble_eq_true rfl) ⟨Nat.le_of_ble_eq_true rfl, Nat.le_of_ble_eq_true rfl⟩ ⟨Nat.le_of_ble_eq_true rfl, Nat.le_of_ble_eq_true rfl⟩ (fun rh11 vh11 ah11 h11 => ?_)
                        obtain ⟨f11, rfl, fn11, bn11, ex11⟩ := h11
                        refine hv2 (fq11.call fn11 rfl rfl) (show f11 = -1 from ex11) (fun fq15 gf11 => ?_)
                        refine m_st (st2 := [.int (iI f11)]) rfl ?_
                        exact m_iret C dX12_set_111 rfl (Nat.le_of_ble_eq_true rfl) (Nat.le_of_ble_eq_true rfl) ⟨f11, rfl, fq15, bn11, (SETX.n2 (tl1.mp (by omega)) (SE4.bad hS4 hg (by omega) (by omega) tl5.1 (by omega) (TBE.fr fpb6 rfl) (fun i => (hB.2 12 i).1) (fun i => (bxb6.2 12 i).1)) (by omega) (ks4.fr fn11 rfl rfl rfl))⟩
                refine hv2 (show 0 ≤ vh5 39 ∧ vh5 39 ≤ 200 from bn5.1 39) (show vh5 39 = vb5 39 from fn5.1 39 rfl) (fun rv19 ve11 => ?_)
                refine m_lv (lv2 := [(6, .int (iI f5)), (5, .int (iI (vb4 39))), (4, .int (iI g)), (3, .int (iI f3)), (2, .int (iI x)), (0, .ref h0), (1, .int (iI t))]) [0, 1, 2, 3, 4, 5, 6] rfl ?_
                exact Lp4 1010 f5 _ _ (by omega) bn5 fq9 (by omega) (by show 1 ≤ (vh5 39); omega) (by show 0 ≤ (vh5 23) ∧ (vh5 23) ≤ 500; omega) (by omega) (by show (vh5 23) ≠ 0 ∨ f5 = f3; omega) ks2 se1
              refine m_if_eq (tgt := 85) C (r32_01 hg) dX12_set_76 (by decide) (fun c10 => ?_) (fun c10 => ?_)
              · replace hg2 := (hg2.resolve_left (fun q => absurd (q.1.symm.trans c10) (by decide)))
                refine m_iload_n (j := 3) C dX12_set_85 rfl ?_
                have rv20 : 0 ≤ vh4 39 ∧ vh4 39 ≤ 200 := bn4.1 39
                refine m_lv (lv2 := [(5, .int (iI (vb4 39))), (4, .int (iI g)), (3, .int (iI f3)), (2, .int (iI x)), (0, .ref h0), (1, .int (iI t))]) [0, 1, 2, 3, 4, 5] rfl ?_
                exact J2  x _ _  bn4 fq8 (by omega) (by show 1 ≤ (vh4 39); omega) ks1 (by omega) (SE2.enter hS2 (by omega) (by omega) nx1 (by omega) rfl)
              · replace hg2 := (hg2.resolve_right (fun q => c10 q.1))
                refine m_iload_n (j := 3) C dX12_set_79 rfl ?_
                refine m_iconst C dX12_set_80 ?_
                refine m_iadd C dX12_set_81 ?_
                refine m_goto (tgt := 86) C dX12_set_82 (by decide) ?_
                have rv21 : 0 ≤ vh4 39 ∧ vh4 39 ≤ 200 := bn4.1 39
                refine m_lv (lv2 := [(5, .int (iI (vb4 39))), (4, .int (iI g)), (3, .int (iI f3)), (2, .int (iI x)), (0, .ref h0), (1, .int (iI t))]) [0, 1, 2, 3, 4, 5] rfl ?_
                exact J2  (x + 1) _ _  bn4 fq8 (by omega) (by show 1 ≤ (vh4 39); omega) ks1 (by omega) (SE2.enter hS2 (by omega) (by omega) nx1 (by omega) rfl)
            · clear gf4
              refine m_aload_n (j := 4) C dX12_set_66 rfl ?_
              refine m_bipush (z := 6) C dX12_set_67 (by decide) ?_
              refine m_call (mc2 := 0) (ms2 := 0) (As := [.int (iI 6)]) (rest := []) C (B_bad (x := 6) bn4 (by show -2147483648 ≤ (6 : Int) ∧ (6 : Int) ≤ 2147483647; omega)) dX12_set_69 kV_X12_154 rfl ck_13 rfl (Nat.le_of_ble_eq_true rfl) ⟨Nat.le_of_ble_eq_true rfl, Nat.le_of_ble_eq_true rfl⟩ ⟨Nat.le_of_ble_eq_true rfl, Nat.le_of_ble_eq_true rfl⟩ (fun rh12 vh12 ah12 h12 => ?_)
              obtain ⟨f12, rfl, fn12, bn12, ex12⟩ := h12
              refine hv2 (fq8.call fn12 rfl rfl) (show f12 = -1 from ex12) (fun fq16 gf12 => ?_)
              refine m_st (st2 := [.int (iI f12)]) rfl ?_
              exact m_iret C dX12_set_72 rfl (Nat.le_of_ble_eq_true rfl) (Nat.le_of_ble_eq_true rfl) ⟨f12, rfl, fq16, bn12, (SETX.n2 (tl1.mp (by omega)) (SE2.nroom hS2 (by omega) hT ⟨by omega, by omega⟩ nx1 (by omega)) (by omega) (ks1.fr fn12 rfl rfl rfl))⟩
          refine m_icmp_ne (tgt := 50) C ⟨by omega, by omega⟩ ⟨by decide, by decide⟩ dX12_set_43 (by decide) (fun c11 => ?_) (fun c11 => ?_)
          · refine m_iconst C dX12_set_50 ?_
            refine m_lv (lv2 := [(3, .int (iI f3)), (2, .int (iI x)), (0, .ref h0), (1, .int (iI t))]) [0, 1, 2, 3] rfl ?_
            exact J1  0 _ _  bxb1 fpb1 (by omega) hK21 (by omega) hS1
          · refine m_iconst C dX12_set_46 ?_
            refine m_goto (tgt := 51) C dX12_set_47 (by decide) ?_
            refine m_lv (lv2 := [(3, .int (iI f3)), (2, .int (iI x)), (0, .ref h0), (1, .int (iI t))]) [0, 1, 2, 3] rfl ?_
            exact J1  1 _ _  bxb1 fpb1 (by omega) hK21 (by omega) hS1
    refine m_lv (lv2 := [(2, .int (iI 0)), (0, .ref h0), (1, .int (iI t))]) [0, 1, 2] rfl ?_
    exact Lp1 503 0 _ _ (by omega) bq1 fq2 (by omega) ⟨va_up_ne _ _ (by decide), rfl, rfl⟩ (SE2.init (va_up_self _ _ _))
  · clear gf1
    refine m_aload_n (j := 0) C dX12_set_8 rfl ?_
    refine m_iconst C dX12_set_9 ?_
    refine m_call (mc2 := 0) (ms2 := 0) (As := [.int (iI 3)]) (rest := []) C (B_bad (x := 3) hB (by show -2147483648 ≤ (3 : Int) ∧ (3 : Int) ≤ 2147483647; omega)) dX12_set_10 kV_X12_154 rfl ck_13 rfl (Nat.le_of_ble_eq_true rfl) ⟨Nat.le_of_ble_eq_true rfl, Nat.le_of_ble_eq_true rfl⟩ ⟨Nat.le_of_ble_eq_true rfl, Nat.le_of_ble_eq_true rfl⟩ (fun rh13 vh13 ah13 h13 => ?_)
    obtain ⟨f13, rfl, fn13, bn13, ex13⟩ := h13
    refine hv2 (fp0.call fn13 rfl rfl) (show f13 = -1 from ex13) (fun fq17 gf13 => ?_)
    refine m_st (st2 := [.int (iI f13)]) rfl ?_
    exact m_iret C dX12_set_13 rfl (Nat.le_of_ble_eq_true rfl) (Nat.le_of_ble_eq_true rfl) ⟨f13, rfl, fq17, bn13, (SETX.n1 (fun q => absurd (tl1.mpr q) (by omega)) (by omega) ((KSH.refl (v := v) (a := a)).fr fn13 rfl rfl rfl))⟩
end
section
def rwe (E : List (Option (List Int))) (l : Int) : Option (Option (List Int)) := if 0 ≤ l then E[l.toNat]? else none
def RWA (a : Nat → Nat → Int) (l : Nat) (x : Option (List Int)) : Prop := (x = none ∧ a 34 l < 0) ∨ ∃ xs, x = some xs ∧ a 34 l = ((xs.length : Nat) : Int) ∧ ∀ (j : Nat) (y : Int), xs[j]? = some y → a 35 (200 * l + j) = y
def SHA (v : Nat → Int) (a : Nat → Nat → Int) (E : List (Option (List Int))) : Prop := v 36 = ((E.length : Nat) : Int) ∧ ∀ (l : Nat) (x : Option (List Int)), E[l]? = some x → RWA a l x
def mpr (n : Nat) (F : Nat → Int) : List Int := (List.range n).map F
def gd0 (xs : List Int) (j : Nat) : Int := (xs[j]?).getD 0
def LOSX (E : List (Option (List Int))) (l f : Int) (E2 : List (Option (List Int))) : Prop := ((∃ x, rwe E l = some x) ∧ E2 = E.set l.toNat none ∧ f = 1) ∨ (rwe E l = none ∧ E2 = E ∧ f = -1)
def CUTX (E : List (Option (List Int))) (l n f : Int) (E2 : List (Option (List Int))) : Prop := ((0 ≤ n ∧ n ≤ 200) ∧ ∃ xs, rwe E l = some (some xs) ∧ E2 = E.set l.toNat (some (mpr n.toNat (gd0 xs))) ∧ f = n) ∨ ((¬ ((0 ≤ n ∧ n ≤ 200) ∧ ∃ xs, rwe E l = some (some xs))) ∧ E2 = E ∧ f = -1)
def cpx (xs ys : List Int) (w x n : Nat) : List Int := mpr ys.length (fun j => if x ≤ j ∧ j < x + n then gd0 xs (w + (j - x)) else gd0 ys j)
def CPK (E : List (Option (List Int))) (q w u x n : Int) (xs ys : List Int) : Prop := rwe E q = some (some xs) ∧ rwe E u = some (some ys) ∧ 0 ≤ n ∧ 0 ≤ w ∧ 0 ≤ x ∧ w + n ≤ ((xs.length : Nat) : Int) ∧ x + n ≤ ((ys.length : Nat) : Int)
def CPRX (E : List (Option (List Int))) (q w u x n f : Int) (E2 : List (Option (List Int))) : Prop := (∃ xs ys, CPK E q w u x n xs ys ∧ E2 = E.set u.toNat (some (cpx xs ys w.toNat x.toNat n.toNat)) ∧ f = n) ∨ ((¬ ∃ xs ys, CPK E q w u x n xs ys) ∧ E2 = E ∧ f = -1)
def cst (E : List (Option (List Int))) (q u : Int) (E2 : List (Option (List Int))) : Prop := ∃ xs y, rwe E q = some (some xs) ∧ rwe E u = some y ∧ E2 = E.set u.toNat (some xs)
def cpn (E : List (Option (List Int))) (q u : Int) : Nat → List (Option (List Int)) → Prop
  | 0, E2 => E2 = E
  | k + 1, E2 => ∃ E1, cpn E q u k E1 ∧ cst E1 (q + ((k : Nat) : Int)) (u + ((k : Nat) : Int)) E2
def CPLX (E : List (Option (List Int))) (q u n c f : Int) (E2 : List (Option (List Int))) (c2 : Int) : Prop := ((n < 0 ∨ 10 < n) ∧ E2 = E ∧ f = -1 ∧ c2 = c) ∨ ((0 ≤ n ∧ n ≤ 10) ∧ ((cpn E q u n.toNat E2 ∧ f = n ∧ c2 = n) ∨ ∃ k : Nat, ((k : Nat) : Int) < n ∧ cpn E q u k E2 ∧ (¬ ∃ E3, cst E2 (q + ((k : Nat) : Int)) (u + ((k : Nat) : Int)) E3) ∧ f = -1 ∧ c2 = ((k : Nat) : Int)))
section CONT
variable {v v2 : Nat → Int} {a a2 : Nat → Nat → Int} {E E1 E2 E3 : List (Option (List Int))} {l i n q u w x f f1 f2 c c1 c2 : Int} {k : Nat} {xs ys : List Int}
theorem mpr_len {n : Nat} {F : Nat → Int} : (mpr n F).length = n := by
  unfold mpr
  rw [List.length_map, List.length_range]
theorem mpr_at {n j : Nat} {F : Nat → Int} {y : Int} (h : (mpr n F)[j]? = some y) : j < n ∧ y = F j := by
  have lt := gl3 h
  rw [mpr_len] at lt
  refine ⟨lt, ?_⟩
  unfold mpr at h
  rw [List.getElem?_map, List.getElem?_range lt] at h
  exact (Option.some.inj h).symm
theorem gd0_at {j : Nat} {y : Int} (h : xs[j]? = some y) : gd0 xs j = y := by
  unfold gd0
  rw [h]
  rfl
theorem gd0_out {j : Nat} (h : xs.length ≤ j) : gd0 xs j = 0 := by
  unfold gd0
  rw [List.getElem?_eq_none h]
  rfl
theorem gd0_lt {j : Nat} (h : j < xs.length) : xs[j]? = some (gd0 xs j) := by
  rw [gd0_at (List.getElem?_eq_getElem h)]
  exact List.getElem?_eq_getElem h
theorem rwl_lt {y : Option (List Int)} (h : rwe E l = some y) : 0 ≤ l ∧ l < ((E.length : Nat) : Int) ∧ E[l.toNat]? = some y := by
  unfold rwe at h
  by_cases c0 : 0 ≤ l
  · rw [if_pos c0] at h
    have lt := gl3 h
    exact ⟨c0, by omega, h⟩
  · rw [if_neg c0] at h
    cases h
theorem rwl_in (h0 : 0 ≤ l) (h : l < ((E.length : Nat) : Int)) : ∃ y, rwe E l = some y ∧ E[l.toNat]? = some y := by
  have lt : l.toNat < E.length := by omega
  refine ⟨_, ?_, List.getElem?_eq_getElem lt⟩
  unfold rwe
  rw [if_pos h0]
  exact List.getElem?_eq_getElem lt
theorem rwl_out (h : ¬ (0 ≤ l ∧ l < ((E.length : Nat) : Int))) : rwe E l = none := by
  unfold rwe
  by_cases c0 : 0 ≤ l
  · rw [if_pos c0]
    exact List.getElem?_eq_none (by omega)
  · rw [if_neg c0]
theorem SHA.off (h : SHA v a E) (hl : ¬ (0 ≤ l ∧ l < v 36)) : rwe E l = none := rwl_out (by have e := h.1; omega)
theorem SHA.on (h : SHA v a E) (h0 : 0 ≤ l) (hl : l < v 36) : ∃ y, rwe E l = some y ∧ RWA a l.toNat y := by
  obtain ⟨y, y1, y2⟩ := rwl_in (E := E) h0 (by have e := h.1; omega)
  exact ⟨y, y1, h.2 _ y y2⟩
theorem SHA.lack (h : SHA v a E) (h0 : 0 ≤ l) (hl : l < v 36) (hn : a 34 l.toNat < 0) : rwe E l = some none := by
  obtain ⟨y, y1, y2⟩ := h.on h0 hl
  rcases y2 with ⟨e, _⟩ | ⟨xs, _, e, _⟩
  · rw [y1, e]
  · omega
theorem SHA.have_ (h : SHA v a E) (h0 : 0 ≤ l) (hl : l < v 36) (hn : 0 ≤ a 34 l.toNat) : ∃ xs, rwe E l = some (some xs) ∧ a 34 l.toNat = ((xs.length : Nat) : Int) ∧ ∀ j : Nat, j < xs.length → a 35 (200 * l.toNat + j) = gd0 xs j := by
  obtain ⟨y, y1, y2⟩ := h.on h0 hl
  rcases y2 with ⟨_, e⟩ | ⟨xs, e1, e2, e3⟩
  · omega
  · exact ⟨xs, by rw [y1, e1], e2, fun j hj => e3 j _ (gd0_lt hj)⟩
theorem LOSX.uni (h : LOSX E l f1 E1) (h2 : LOSX E l f2 E2) : f1 = f2 ∧ E1 = E2 := by
  rcases h with ⟨⟨x, e1⟩, e2, e3⟩ | ⟨e1, e2, e3⟩ <;> rcases h2 with ⟨⟨y, d1⟩, d2, d3⟩ | ⟨d1, d2, d3⟩
  · exact ⟨e3.trans d3.symm, e2.trans d2.symm⟩
  · rw [e1] at d1
    cases d1
  · rw [e1] at d1
    cases d1
  · exact ⟨e3.trans d3.symm, e2.trans d2.symm⟩
theorem CUTX.uni (h : CUTX E l n f1 E1) (h2 : CUTX E l n f2 E2) : f1 = f2 ∧ E1 = E2 := by
  rcases h with ⟨e0, xs, e1, e2, e3⟩ | ⟨e1, e2, e3⟩ <;> rcases h2 with ⟨d0, ys, d1, d2, d3⟩ | ⟨d1, d2, d3⟩
  · rw [e1] at d1
    cases d1
    exact ⟨e3.trans d3.symm, e2.trans d2.symm⟩
  · exact absurd ⟨e0, xs, e1⟩ d1
  · exact absurd ⟨d0, ys, d1⟩ e1
  · exact ⟨e3.trans d3.symm, e2.trans d2.symm⟩
theorem CPRX.uni (h : CPRX E q w u x n f1 E1) (h2 : CPRX E q w u x n f2 E2) : f1 = f2 ∧ E1 = E2 := by
  rcases h with ⟨xs, ys, e1, e2, e3⟩ | ⟨e1, e2, e3⟩ <;> rcases h2 with ⟨zs, us, d1, d2, d3⟩ | ⟨d1, d2, d3⟩
  · have i1 := e1.1.symm.trans d1.1
    have i2 := e1.2.1.symm.trans d1.2.1
    cases i1
    cases i2
    exact ⟨e3.trans d3.symm, e2.trans d2.symm⟩
  · exact absurd ⟨xs, ys, e1⟩ d1
  · exact absurd ⟨zs, us, d1⟩ e1
  · exact ⟨e3.trans d3.symm, e2.trans d2.symm⟩
theorem cst.uni (h : cst E q u E1) (h2 : cst E q u E2) : E1 = E2 := by
  obtain ⟨xs, y, e1, e2, e3⟩ := h
  obtain ⟨ys, z, d1, d2, d3⟩ := h2
  rw [e1] at d1
  cases d1
  rw [e3, d3]
theorem cpn.uni : ∀ (k : Nat) (E1 E2 : List (Option (List Int))), cpn E q u k E1 → cpn E q u k E2 → E1 = E2 := by
  intro k
  induction k with
  | zero => intro E1 E2 h h2; exact h.trans h2.symm
  | succ k ih =>
    intro E1 E2 h h2
    obtain ⟨A, a1, a2⟩ := h
    obtain ⟨B, b1, b2⟩ := h2
    have e := ih A B a1 b1
    subst e
    exact cst.uni a2 b2
theorem cpn.less {m : Nat} (hm : k < m) : ∀ E1, cpn E q u m E1 → ∃ E2 E3, cpn E q u k E2 ∧ cst E2 (q + ((k : Nat) : Int)) (u + ((k : Nat) : Int)) E3 := by
  induction m with
  | zero => omega
  | succ m ih =>
    intro E1 h
    obtain ⟨A, a1, a2⟩ := h
    by_cases c0 : k = m
    · subst c0
      exact ⟨A, E1, a1, a2⟩
    · exact ih (by omega) A a1
theorem cpn.stop {m : Nat} (h1 : cpn E q u k E1) (n1 : ¬ ∃ E3, cst E1 (q + ((k : Nat) : Int)) (u + ((k : Nat) : Int)) E3) (h2 : cpn E q u m E2) (hm : k < m) : False := by
  obtain ⟨A, B, a1, a2⟩ := cpn.less hm E2 h2
  have e := cpn.uni k A E1 a1 h1
  subst e
  exact n1 ⟨B, a2⟩
theorem CPLX.uni (h : CPLX E q u n c f1 E1 c1) (h2 : CPLX E q u n c f2 E2 c2) : f1 = f2 ∧ E1 = E2 ∧ c1 = c2 := by
  rcases h with ⟨e0, e1, e2, e3⟩ | ⟨e0, ⟨e1, e2, e3⟩ | ⟨k, e1, e2, e3, e4, e5⟩⟩ <;> rcases h2 with ⟨d0, d1, d2, d3⟩ | ⟨d0, ⟨d1, d2, d3⟩ | ⟨m, d1, d2, d3, d4, d5⟩⟩
  · exact ⟨e2.trans d2.symm, e1.trans d1.symm, e3.trans d3.symm⟩
  · omega
  · omega
  · omega
  · exact ⟨e2.trans d2.symm, cpn.uni _ _ _ e1 d1, e3.trans d3.symm⟩
  · exact (cpn.stop d2 d3 e1 (by omega)).elim
  · omega
  · exact (cpn.stop e2 e3 d1 (by omega)).elim
  · by_cases c0 : k = m
    · subst c0
      exact ⟨e4.trans d4.symm, cpn.uni _ _ _ e2 d2, e5.trans d5.symm⟩
    · by_cases c3 : k < m
      · exact (cpn.stop e2 e3 d2 c3).elim
      · exact (cpn.stop d2 d3 e2 (by omega)).elim
end CONT
end
