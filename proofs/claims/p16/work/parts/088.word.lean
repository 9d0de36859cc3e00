def sgj (g : Int) : Int := if g = 1 then 62 else 60
def prt (a : Nat → Nat → Int) (t g : Int) : Int := if g = 1 then a 9 t.toNat else a 8 t.toNat
def ind4 (t g : Int) : Int := if g = 1 then 4 * t + 3 else 4 * t + 2
def NSG (W : Nat → Int) (c x y : Int) : Prop := ∀ j : Int, x ≤ j → j < y → W j.toNat ≠ c
def SEG (a : Nat → Nat → Int) (W : Nat → Int) (n t g x y : Int) (ps : List (Int × List Int)) : Prop := (x ≤ y ∧ y ≤ n) ∧ NSG W (sgj g) x y ∧ (y = n ∨ W y.toNat = sgj g) ∧ ∃ z, ptp a W (prt a t g) x y x ps z ∧ y ≤ z
def jtp (a : Nat → Nat → Int) (W : Nat → Int) (n t : Int) : Int → Int → List (Int × List (Int × List Int)) → Int → Int → Prop
  | g, x, [], g2, x2 => g = g2 ∧ x = x2
  | g, x, p :: js, g2, x2 => SEG a W n t g x p.1 p.2 ∧ p.1 < n ∧ 0 < a 16 (ind4 t g).toNat ∧ jtp a W n t (1 - g) (p.1 + 1) js g2 x2
def jcl (a : Nat → Nat → Int) (t : Int) : Int → List (Int × List (Int × List Int)) → List Int
  | _, [] => []
  | g, p :: js => (cls p.2 ++ ICL a (ind4 t g)) ++ jcl a t (1 - g) js
def SWC (a : Nat → Nat → Int) (W : Nat → Int) (n t : Int) (cs : List Int) : Prop := (a 6 t.toNat ≠ 5 ∧ ∃ ps, SPS a W t 0 n 0 ps ∧ cs = cls ps) ∨ (a 6 t.toNat = 5 ∧ cs.length ≤ 200 ∧ ∃ js ps g x, jtp a W n t 0 0 js g x ∧ SEG a W n t g x n ps ∧ cs = jcl a t 0 js ++ cls ps)
def SWT (v : Nat → Int) (a : Nat → Nat → Int) (v2 : Nat → Int) (a2 : Nat → Nat → Int) (t f : Int) : Prop := a2 20 = a 20 ∧ (f = 1 → ∃ cs, SWC a (a 20) (v 23) t cs ∧ MDH v2 a2 cs) ∧ (f ≠ 1 → ¬ ∃ cs, SWC a (a 20) (v 23) t cs)
def SWB (v : Nat → Int) (a : Nat → Nat → Int) (v2 : Nat → Int) (a2 : Nat → Nat → Int) (t f : Int) : Prop := f = 1 → a 6 t.toNat ≠ 5 → ∃ ps, SPS a (a 20) t 0 (v 23) 0 ps ∧ MDH v2 a2 (cls ps) ∧ ∀ j : Nat, ((j : Nat) : Int) < v 23 → a2 26 j = bgn ps 0 j (-1)
def JW (v : Nat → Int) (a : Nat → Nat → Int) (v2 : Nat → Int) (a2 : Nat → Nat → Int) (t g x : Int) : Prop := a2 20 = a 20 ∧ ∃ js, jtp a (a 20) (v 23) t 0 0 js g x ∧ MDH v2 a2 (jcl a t 0 js)
section WORD
variable {v v1 v2 v3 : Nat → Int} {V1 A1 : List Nat} {a a1 a2 a3 : Nat → Nat → Int} {W : Nat → Int} {q u x y z t r k f I c g g2 x2 n l m : Int} {cs ds l0 : List Int} {ps qs : List (Int × List Int)} {js : List (Int × List (Int × List Int))}
theorem RCL_cg (h13 : a1 13 = a 13) (h15 : a1 15 = a 15) : RCL a1 r = RCL a r := by unfold RCL; rw [h13, h15]
theorem nbl_cg (h6 : a1 6 = a 6) (h16 : a1 16 = a 16) (h17 : a1 17 = a 17) : nbl a1 W t q x = nbl a W t q x := by unfold nbl; rw [h6, ICL_cg h16 h17]
def TBE (a1 a : Nat → Nat → Int) : Prop := ∀ j, j ∈ ([6, 8, 9, 10, 11, 12, 13, 14, 15, 16, 17] : List Nat) → a1 j = a j
theorem TBE.fr {A1 : List Nat} (f1 : fr V1 A1 v a v1 a1) (hA : ([6, 8, 9, 10, 11, 12, 13, 14, 15, 16, 17] : List Nat).all (fun j => !A1.contains j) = true) : TBE a1 a := fun j hj => f1.2 j (by have := List.all_eq_true.mp hA j hj; simpa using this)
theorem TBE.symm (h : TBE a1 a) : TBE a a1 := fun j hj => (h j hj).symm
theorem PC1_cg (h : TBE a1 a) (hp : PC1 a1 W t q u x l cs) : PC1 a W t q u x l cs := by
  have g6 := h 6 (by decide); have g8 := h 8 (by decide); have g10 := h 10 (by decide); have g11 := h 11 (by decide); have g12 := h 12 (by decide); have g13 := h 13 (by decide); have g14 := h 14 (by decide); have g15 := h 15 (by decide); have g16 := h 16 (by decide); have g17 := h 17 (by decide)
  obtain ⟨r, ⟨p1, p2⟩, p3⟩ := hp
  rw [g12] at p2
  refine ⟨r, ⟨p1, p2⟩, ?_⟩
  rcases p3 with ⟨p4, p5⟩ | ⟨p4, p5, p6, p7⟩
  · rw [nbl_cg g6 g16 g17, RCL_cg g13 g15] at p5
    exact Or.inl ⟨fnd_cg g6 g8 g10 g11 g12 g14 _ _ _ _ p4, p5⟩
  · rw [nbl_cg g6 g16 g17, RCL_cg g13 g15, ICL_cg g16 g17] at p7
    rw [g6, g16] at p5
    exact Or.inr ⟨fnd_cg g6 g8 g10 g11 g12 g14 _ _ _ _ p4, p5, fnd_cg g6 g8 g10 g11 g12 g14 _ _ _ _ p6, p7⟩
theorem ptp_cg (h : TBE a1 a) : ∀ (ps : List (Int × List Int)) (x y : Int), ptp a1 W t q u x ps y → ptp a W t q u x ps y := by
  intro ps
  induction ps with
  | nil => intro x y e; exact e
  | cons p ps ih =>
    intro x y e
    obtain ⟨h1, h2, l, h3, h4⟩ := e
    exact ⟨h1, h2, l, PC1_cg h h3, ih _ _ h4⟩
theorem SPS_cg (h : TBE a1 a) (hp : SPS a1 W t q u m ps) : SPS a W t q u m ps := by
  obtain ⟨⟨y, h1, h2⟩, h3⟩ := hp
  exact ⟨⟨y, ptp_cg h _ _ _ h1, h2⟩, h3⟩
theorem SPT.use (h : SPT v1 a1 v2 a2 t q u f) (hE : TBE a1 a) (hw : a1 20 = W) (hl : MDH v1 a1 l0) : a2 20 = W ∧ (f = 1 → ∃ ps, SPS a W t q u l0.length ps ∧ MDH v2 a2 (l0 ++ cls ps)) ∧ (f ≠ 1 → ¬ ∃ ps, SPS a W t q u l0.length ps) := by
  obtain ⟨h1, h2⟩ := h
  obtain ⟨p1, p2⟩ := h2 l0 hl
  rw [hw] at p1 p2
  refine ⟨h1.trans hw, fun e => ?_, fun e w => p2 e ?_⟩
  · obtain ⟨ps, g1, g2⟩ := p1 e
    exact ⟨ps, SPS_cg hE g1, g2.1⟩
  · obtain ⟨ps, g1⟩ := w
    exact ⟨ps, SPS_cg hE.symm g1⟩
theorem ptp.uni (hT : TBL v a) (h0 : 0 ≤ t) (h4 : t < v 4) (h : ptp a W t q u x ps y) (hy : u ≤ y) (h2 : ptp a W t q u x qs z) (hz : u ≤ z) : ps = qs := by
  obtain ⟨rs, k1, k2⟩ := ptp.ext hT h0 h4 ps qs x z h h2 hz
  cases rs with
  | nil => rw [k1, List.append_nil]
  | cons p rs => have := k2.1; omega
theorem SEG.uni {y2 : Int} (hT : TBL v a) (h0 : 0 ≤ prt a t g) (h4 : prt a t g < v 4) (h : SEG a W n t g x y ps) (h2 : SEG a W n t g x y2 qs) : y = y2 ∧ ps = qs := by
  obtain ⟨⟨p1, p2⟩, p3, p4, z, p5, p6⟩ := h
  obtain ⟨⟨q1, q2⟩, q3, q4, z2, q5, q6⟩ := h2
  have e : y = y2 := by
    by_cases c : y < y2
    · rcases p4 with p4 | p4
      · omega
      · exact absurd p4 (q3 y p1 c)
    · by_cases c2 : y2 < y
      · rcases q4 with q4 | q4
        · omega
        · exact absurd q4 (p3 y2 q1 c2)
      · omega
  subst e
  exact ⟨rfl, ptp.uni hT h0 h4 p5 p6 q5 q6⟩
theorem prt.ok (hT : TBL v a) (ht : 0 ≤ t ∧ t < v 4) (h5 : a 6 t.toNat = 5) : (0 ≤ prt a t g ∧ prt a t g < v 4) ∧ a 6 (prt a t g).toNat ≤ 3 := by
  have h := hT.1 t ht.1 ht.2
  unfold prt
  split <;> omega
theorem jtp.snoc : ∀ (js : List (Int × List (Int × List Int))) (g0 x0 : Int), jtp a W n t g0 x0 js g x → SEG a W n t g x y ps → y < n → 0 < a 16 (ind4 t g).toNat → jtp a W n t g0 x0 (js ++ [(y, ps)]) (1 - g) (y + 1) := by
  intro js
  induction js with
  | nil => intro g0 x0 h h1 h2 h3; obtain ⟨rfl, rfl⟩ := h; exact ⟨h1, h2, h3, rfl, rfl⟩
  | cons p js ih =>
    intro g0 x0 h h1 h2 h3
    obtain ⟨k1, k2, k3, k4⟩ := h
    exact ⟨k1, k2, k3, ih _ _ k4 h1 h2 h3⟩
theorem jcl.snoc (hg : g = 0 ∨ g = 1) : ∀ (js : List (Int × List (Int × List Int))) (g0 x0 : Int), jtp a W n t g0 x0 js g x → jcl a t g0 (js ++ [(y, ps)]) = jcl a t g0 js ++ (cls ps ++ ICL a (ind4 t g)) := by
  intro js
  induction js with
  | nil => intro g0 x0 h; obtain ⟨rfl, rfl⟩ := h; show (cls ps ++ ICL a (ind4 t g0)) ++ [] = [] ++ _; rw [List.append_nil, List.nil_append]
  | cons p js ih =>
    intro g0 x0 h
    obtain ⟨k1, k2, k3, k4⟩ := h
    show (cls p.2 ++ ICL a (ind4 t g0)) ++ jcl a t (1 - g0) (js ++ [(y, ps)]) = ((cls p.2 ++ ICL a (ind4 t g0)) ++ jcl a t (1 - g0) js) ++ _
    rw [ih _ _ k4]
    exact (List.append_assoc _ _ _).symm
theorem jtp.ext (hT : TBL v a) (ht : 0 ≤ t ∧ t < v 4) (h5 : a 6 t.toNat = 5) : ∀ (js ks : List (Int × List (Int × List Int))) (g0 x0 g2 x2 : Int) (qs : List (Int × List Int)), jtp a W n t g0 x0 js g x → jtp a W n t g0 x0 ks g2 x2 → SEG a W n t g2 x2 n qs → ∃ ls, ks = js ++ ls ∧ jtp a W n t g x ls g2 x2 := by
  intro js
  induction js with
  | nil => intro ks g0 x0 g2 x2 qs h h2 _; obtain ⟨rfl, rfl⟩ := h; exact ⟨ks, rfl, h2⟩
  | cons p js ih =>
    intro ks g0 x0 g2 x2 qs h h2 hs
    obtain ⟨k1, k2, k3, k4⟩ := h
    have pk := prt.ok (g := g0) hT ht h5
    cases ks with
    | nil =>
      obtain ⟨rfl, rfl⟩ := h2
      have e := SEG.uni hT pk.1.1 pk.1.2 k1 hs
      omega
    | cons p2 ks =>
      obtain ⟨m1, m2, m3, m4⟩ := h2
      have e := SEG.uni hT pk.1.1 pk.1.2 k1 m1
      have e2 : p2 = p := Prod.ext e.1.symm e.2.symm
      subst e2
      obtain ⟨ls, w1, w2⟩ := ih ks _ _ g2 x2 qs k4 m4 hs
      exact ⟨ls, by rw [w1]; rfl, w2⟩
theorem jcl.app : ∀ (js ls : List (Int × List (Int × List Int))) (g0 x0 : Int), jtp a W n t g0 x0 js g x → jcl a t g0 (js ++ ls) = jcl a t g0 js ++ jcl a t g ls := by
  intro js
  induction js with
  | nil => intro ls g0 x0 h; obtain ⟨rfl, rfl⟩ := h; rfl
  | cons p js ih =>
    intro ls g0 x0 h
    obtain ⟨k1, k2, k3, k4⟩ := h
    show (cls p.2 ++ ICL a (ind4 t g0)) ++ jcl a t (1 - g0) (js ++ ls) = ((cls p.2 ++ ICL a (ind4 t g0)) ++ jcl a t (1 - g0) js) ++ _
    rw [ih _ _ _ k4]
    exact (List.append_assoc _ _ _).symm
theorem NSG.zero : NSG W c x x := fun j h1 h2 => absurd h1 (by omega)
theorem NSG.step (h : NSG W c x y) (e : W y.toNat ≠ c) : NSG W c x (y + 1) := fun j h1 h2 => by
  by_cases w : j < y
  · exact h j h1 w
  · rw [show j = y by omega]; exact e
theorem SWT.plain (h5 : a 6 t.toNat ≠ 5) (hE : TBE a1 a) (hw : a1 20 = a 20) (hl : MDH v1 a1 []) (hn : n = v 23) (h : SPT v1 a1 v2 a2 t 0 n f) : SWT v a v2 a2 t f := by
  obtain ⟨p1, p2, p3⟩ := h.use hE hw hl
  subst hn
  refine ⟨p1, fun e => ?_, fun e w => p3 e ?_⟩
  · obtain ⟨ps, g1, g2⟩ := p2 e
    exact ⟨cls ps, Or.inl ⟨h5, ps, g1, rfl⟩, g2⟩
  · obtain ⟨cs, w⟩ := w
    rcases w with ⟨_, ps, w1, _⟩ | ⟨w1, _⟩
    · exact ⟨ps, w1⟩
    · exact absurd w1 h5
theorem SWB.plain {k : Int} (hE : TBE a1 a) (hw : a1 20 = a 20) (hl : MDH v1 a1 []) (hn : n = v 23) (h : SPT v1 a1 v2 a2 t 0 n f) (h26 : ∀ j : Nat, ((j : Nat) : Int) < k → a1 26 j = -1) (hk : v 23 < k) : SWB v a v2 a2 t f := fun e _ => by
  subst hn
  obtain ⟨ps, g1, g2, g3⟩ := (h.2 [] hl).1 e
  rw [hw] at g1
  exact ⟨ps, SPS_cg hE g1, g2, fun j hj => (g3 j).trans (congrArg (bgn ps 0 j) (h26 j (by omega)))⟩
theorem JW.init (h5 : a 6 t.toNat = 5) (hw : a1 20 = a 20) (h25 : v1 25 = 0) : JW v a v1 a1 t 0 0 := ⟨hw, [], ⟨rfl, rfl⟩, h25, fun j d e => by
  have e2 : ([] : List Int)[j]? = some d := e
  simp at e2⟩
theorem JW.fail (h : JW v a v1 a1 t g x) (hT : TBL v a) (ht : 0 ≤ t ∧ t < v 4) (h5 : a 6 t.toNat = 5) (hw2 : a2 20 = a 20) (hno : ∀ js, jtp a (a 20) (v 23) t 0 0 js g x → MDH v1 a1 (jcl a t 0 js) → ∀ ls qs g2 x2, jtp a (a 20) (v 23) t g x ls g2 x2 → SEG a (a 20) (v 23) t g2 x2 (v 23) qs → ((jcl a t 0 js).length : Int) + (jcl a t g ls ++ cls qs).length ≤ 200 → False) : SWT v a v2 a2 t 0 := by
  refine ⟨hw2, fun e => absurd e (by decide), fun _ w => ?_⟩
  obtain ⟨_, js, g1, g2⟩ := h
  obtain ⟨cs, w⟩ := w
  rcases w with ⟨w, _⟩ | ⟨_, w1, ks, qs, g3, x3, w2, w3, w4⟩
  · exact w h5
  · obtain ⟨ls, k1, k2⟩ := jtp.ext hT ht h5 js ks 0 0 g3 x3 qs g1 w2 w3
    refine hno js g1 g2 ls qs g3 x3 k2 w3 ?_
    rw [k1, jcl.app js ls 0 0 g1, List.append_assoc] at w4
    rw [w4, List.length_append] at w1
    omega
theorem seg_len {ls : List (Int × List (Int × List Int))} {g3 x3 : Int} (hT : TBL v a) (ht : 0 ≤ t ∧ t < v 4) (h5 : a 6 t.toNat = 5) (hj : jtp a W n t g x ls g3 x3) (hs : SEG a W n t g3 x3 n qs) (hy : x ≤ y ∧ y ≤ n) (hN : NSG W (sgj g) x y) (he : y = n ∨ W y.toNat = sgj g) : ∃ ps z, (ptp a W (prt a t g) x y x ps z ∧ y ≤ z) ∧ ((cls ps).length ≤ (jcl a t g ls ++ cls qs).length) ∧ (y = n ∨ (y < n ∧ 0 < a 16 (ind4 t g).toNat ∧ (cls ps ++ ICL a (ind4 t g)).length ≤ (jcl a t g ls ++ cls qs).length)) := by
  cases ls with
  | nil =>
    obtain ⟨rfl, rfl⟩ := hj
    obtain ⟨⟨p1, p2⟩, p3, p4, z, p5, p6⟩ := hs
    have e : y = n := by
      rcases he with he | he
      · exact he
      · by_cases c : y < n
        · exact absurd he (p3 y hy.1 c)
        · omega
    subst e
    exact ⟨qs, z, ⟨p5, p6⟩, Nat.le_refl _, Or.inl rfl⟩
  | cons p ls =>
    obtain ⟨m1, m2, m3, m4⟩ := hj
    obtain ⟨⟨p1, p2⟩, p3, p4, z, p5, p6⟩ := m1
    have e : p.1 = y := by
      by_cases c : y < p.1
      · rcases he with he | he
        · omega
        · exact absurd he (p3 y hy.1 c)
      · by_cases c2 : p.1 < y
        · rcases p4 with p4 | p4
          · omega
          · exact absurd p4 (hN p.1 p1 c2)
        · omega
    subst e
    refine ⟨p.2, z, ⟨p5, p6⟩, ?_, Or.inr ⟨m2, m3, ?_⟩⟩
    · show _ ≤ (((cls p.2 ++ ICL a (ind4 t g)) ++ jcl a t (1 - g) ls) ++ cls qs).length
      simp only [List.length_append]; omega
    · show _ ≤ (((cls p.2 ++ ICL a (ind4 t g)) ++ jcl a t (1 - g) ls) ++ cls qs).length
      simp only [List.length_append]; omega
theorem JW.part (h : JW v a v1 a1 t g x) (hT : TBL v a) (ht : 0 ≤ t ∧ t < v 4) (h5 : a 6 t.toNat = 5) (hE : TBE a1 a) (hn : n = v 23) (hy : x ≤ y ∧ y ≤ n) (hN : NSG (a 20) (sgj g) x y) (he : y = n ∨ a 20 y.toNat = sgj g) (hp : z = prt a t g) (hs : SPT v1 a1 v2 a2 z x y f) (e : f ≠ 1) (hw : a3 20 = a2 20) : SWT v a v3 a3 t 0 := by
  subst hn
  subst hp
  have hw1 := h.1
  refine JW.fail h hT ht h5 (hw.trans (hs.1.trans hw1)) (fun js j1 j2 ls qs g2 x2 k1 k2 k3 => ?_)
  obtain ⟨ps, zz, ⟨m1, m2⟩, m3, _⟩ := seg_len hT ht h5 k1 k2 hy hN he
  exact (hs.use hE hw1 j2).2.2 e ⟨ps, ⟨zz, m1, m2⟩, by omega⟩
theorem JW.last (h : JW v a v1 a1 t g x) (h5 : a 6 t.toNat = 5) (hE : TBE a1 a) (hn : n = v 23) (hy : x ≤ n) (hN : NSG (a 20) (sgj g) x n) (hp : z = prt a t g) (hs : SPT v1 a1 v2 a2 z x n 1) : SWT v a v2 a2 t 1 := by
  subst hn
  subst hp
  obtain ⟨hw1, js, j1, j2⟩ := h
  obtain ⟨p1, p2, _⟩ := hs.use hE hw1 j2
  obtain ⟨ps, g1, g2⟩ := p2 rfl
  obtain ⟨⟨yy, g3, g4⟩, g5⟩ := g1
  refine ⟨p1, fun _ => ⟨jcl a t 0 js ++ cls ps, Or.inr ⟨h5, ?_, js, ps, g, x, j1, ⟨⟨hy, Int.le_refl _⟩, hN, Or.inl rfl, yy, g3, g4⟩, rfl⟩, g2⟩, fun e => absurd rfl e⟩
  rw [List.length_append]; omega
theorem JW.nosign (h : JW v a v1 a1 t g x) (hT : TBL v a) (ht : 0 ≤ t ∧ t < v 4) (h5 : a 6 t.toNat = 5) (hn : n = v 23) (hy : x ≤ y ∧ y < n) (hN : NSG (a 20) (sgj g) x y) (he : a 20 y.toNat = sgj g) (hi : ¬ 0 < a 16 (ind4 t g).toNat) (hw : a2 20 = a 20) : SWT v a v2 a2 t 0 := by
  subst hn
  refine JW.fail h hT ht h5 hw (fun js j1 j2 ls qs g2 x2 k1 k2 k3 => ?_)
  obtain ⟨ps, zz, _, _, m4⟩ := seg_len hT ht h5 k1 k2 ⟨hy.1, by omega⟩ hN (Or.inr he)
  rcases m4 with m4 | ⟨_, m5, _⟩
  · omega
  · exact hi m5
theorem JW.many (h : JW v a v1 a1 t g x) (hT : TBL v a) (ht : 0 ≤ t ∧ t < v 4) (h5 : a 6 t.toNat = 5) (hE : TBE a1 a) (hn : n = v 23) (hy : x ≤ y ∧ y < n) (hN : NSG (a 20) (sgj g) x y) (he : a 20 y.toNat = sgj g) (hp : z = prt a t g) (hs : SPT v1 a1 v2 a2 z x y 1) (h16 : 0 ≤ a 16 (ind4 t g).toNat) (hm : 200 < v2 25 + a 16 (ind4 t g).toNat) (hw : a3 20 = a2 20) : SWT v a v3 a3 t 0 := by
  subst hn
  subst hp
  refine hv2 (h.1) (prt.ok (g := g) hT ht h5) (fun hw1 pk => ?_)
  refine JW.fail h hT ht h5 (hw.trans (hs.1.trans hw1)) (fun js j1 j2 ls qs g2 x2 k1 k2 k3 => ?_)
  obtain ⟨ps, zz, ⟨m1, m2⟩, _, m4⟩ := seg_len hT ht h5 k1 k2 ⟨hy.1, by omega⟩ hN (Or.inr he)
  obtain ⟨_, p2, _⟩ := hs.use hE hw1 j2
  obtain ⟨ps2, ⟨⟨yy, q1, q2⟩, _⟩, q4⟩ := p2 rfl
  have e := ptp.uni hT pk.1.1 pk.1.2 m1 m2 q1 q2
  subst e
  have w := q4.1
  rw [List.length_append] at w
  have w3 := ICL.len h16
  rcases m4 with m4 | ⟨_, _, m6⟩
  · omega
  · rw [List.length_append] at m6
    push_cast at w
    omega
theorem JW.next (h : JW v a v1 a1 t g x) (hg : g = 0 ∨ g = 1) (hE : TBE a1 a) (hn : n = v 23) (hy : x ≤ y ∧ y < n) (hN : NSG (a 20) (sgj g) x y) (he : a 20 y.toNat = sgj g) (hi : 0 < a 16 (ind4 t g).toNat) (hp : z = prt a t g) (hs : SPT v1 a1 v2 a2 z x y 1) (hP : PIX v2 a2 v3 a3 I) (hI : I = ind4 t g) (h16 : a2 16 = a 16) (h17 : a2 17 = a 17) (h20 : a3 20 = a2 20) : JW v a v3 a3 t (1 - g) (y + 1) := by
  subst hn
  subst hp
  subst hI
  obtain ⟨hw1, js, j1, j2⟩ := h
  obtain ⟨p1, p2, _⟩ := hs.use hE hw1 j2
  obtain ⟨ps, ⟨⟨yy, q1, q2⟩, _⟩, q4⟩ := p2 rfl
  have q5 := hP _ q4
  rw [ICL_cg h16 h17] at q5
  refine ⟨h20.trans p1, js ++ [(y, ps)], jtp.snoc js 0 0 j1 ⟨⟨hy.1, by omega⟩, hN, Or.inr he, yy, q1, q2⟩ hy.2 hi, ?_⟩
  rw [jcl.snoc hg js 0 0 j1, ← List.append_assoc]
  exact q5
end WORD
theorem MDH.nil {v : Nat → Int} {a : Nat → Nat → Int} (h : v 25 = 0) : MDH v a [] := ⟨h, fun j d e => by simp at e⟩
theorem SPT.re {v1 v2 : Nat → Int} {a1 a2 : Nat → Nat → Int} {z x y y2 f f2 : Int} (h : SPT v1 a1 v2 a2 z x y f) (hy : y = y2) (hf : f = f2) : SPT v1 a1 v2 a2 z x y2 f2 := by
  subst hy
  subst hf
  exact h
theorem NSG.re {W : Nat → Int} {c x y y2 : Int} (h : NSG W c x y) (hy : y = y2) : NSG W c x y2 := by
  subst hy
  exact h
theorem JW.re {v v1 : Nat → Int} {a a1 : Nat → Nat → Int} {t g g2 x : Int} (h : JW v a v1 a1 t g x) (hg : g = g2) : JW v a v1 a1 t g2 x := by
  subst hg
  exact h
set_option maxHeartbeats 4000000 in
set_option maxRecDepth 100000 in
theorem E_setWord {l : Launch} {G : GT} {h0 : Nat} {ad ln : Nat → Nat} {v : Nat → Int} {a : Nat → Nat → Int}  {t : Int} (hB : BX v a) (hT : TBL v a) (ht : 0 ≤ t ∧ t < v 4) : Mm l G yX12_setWord cX12_setWord 7 (some .boolean) 65 [.int (iI t)] h0 ad ln v a 0 0 (fun r v2 a2 => ∃ f : Int, r = some (.int (iI f)) ∧ fr [25, 28] [20, 24, 26, 27] v a v2 a2 ∧ BX v2 a2 ∧ ((f = 0 ∨ (f = 1 ∧ v2 25 ≤ 200)) ∧ SWT v a v2 a2 t f ∧ SWB v a v2 a2 t f)) := by
  refine Mm.mk (by decide) (Nat.le_of_ble_eq_true rfl) ?_
  intro p e s m args below meth c A C
  refine hv3 (show 0 ≤ v 4 ∧ v 4 ≤ 30 from hB.1 4) (show 0 ≤ v 23 ∧ v 23 ≤ 500 from hB.1 23) (show fr [25, 28] [20, 24, 26, 27] v a v a from fr.refl) (fun h30 h23 fp0 => ?_)
  have ht0 := hT.1 t (by omega) (by omega)
  refine m_aload_n (j := 0) C dX12_setWord_0 rfl ?_
  refine m_iconst C dX12_setWord_1 ?_
  refine m_put (k := 25) (z := 0) C dX12_setWord_2 w6_84 (by decide) rfl rfl rfl ?_
  refine hv2 (show BX (va_up v 25 0) a from hB.put (k := 25) (z := 0) ⟨by decide, by decide⟩) (fp0.put (k := 25) (z := 0) rfl) (fun bq1 fq1 => ?_)
  refine m_iconst C dX12_setWord_5 ?_
  refine m_istore_n (lv2 := [(2, .int (iI 0)), (0, .ref h0), (1, .int (iI t))]) C dX12_setWord_6 (by decide) rfl ?_
  have Lp1 : ∀ (nn : Nat) (k : Int) (vb1 : Nat → Int) (ab1 : Nat → Nat → Int), 502 - k < (nn : Int) → BX vb1 ab1 → fr [25, 28] [20, 24, 26, 27] v a vb1 ab1 → (0 ≤ k ∧ k ≤ 501) → (vb1 25 = 0) → (ab1 20 = a 20) → (∀ j : Nat, ((j : Nat) : Int) < k → ab1 26 j = -1) → mw p l e (rmq 65 0 0) s m args below meth c G A 7 (MQ below (Qm G A (fun rq Lq Eq => ∃ (vq : Nat → Int) (aq : Nat → Nat → Int), mI G h0 ad ln vq aq Lq Eq ∧ (fun r v2 a2 => ∃ f : Int, r = some (.int (iI f)) ∧ fr [25, 28] [20, 24, 26, 27] v a v2 a2 ∧ BX v2 a2 ∧ ((f = 0 ∨ (f = 1 ∧ v2 25 ≤ 200)) ∧ SWT v a v2 a2 t f ∧ SWB v a v2 a2 t f)) rq vq aq)) args s 0 0 A) h0 ad ln vb1 ab1 0 0 7 [(2, .int (iI k)), (0, .ref h0), (1, .int (iI t))] [] := by
    intro nn
    induction nn with
    | zero =>
      intro k vb1 ab1 hm bxb1 fpb1 hk hb hw hb26
      exact absurd hm (by omega)
    | succ nn ih1 =>
      intro k vb1 ab1 hm bxb1 fpb1 hk hb hw hb26
      refine m_iload_n (j := 0) C dX12_setWord_7 rfl ?_
      refine m_aload_n (j := 1) C dX12_setWord_8 rfl ?_
      refine hv2 (show 0 ≤ vb1 23 ∧ vb1 23 ≤ 500 from bxb1.1 23) (show vb1 23 = v 23 from fpb1.1 23 rfl) (fun rv1 ve1 => ?_)
      refine m_get (k := 23) C dX12_setWord_9 w6_82 (by decide) rfl ?_
      refine m_st (st2 := [.int (iI (v 23)), .int (iI k)]) (congrArg (fun z => Value.int (iI z) :: [.int (iI k)]) (fpb1.1 23 rfl)) ?_
      refine m_icmp_gt (tgt := 28) C (r32_c (lo := 0) (hi := 501) hk.1 hk.2 (by decide) (by decide)) (r32_c (lo := 0) (hi := 500) (Int.le_trans rv1.1 (Int.le_of_eq ve1)) (Int.le_trans (Int.le_of_eq ve1.symm) rv1.2) (by decide) (by decide)) dX12_setWord_12 (by decide) (fun c1 => ?_) (fun c1 => ?_)
      · refine m_aload_n (j := 1) C dX12_setWord_28 rfl ?_
        refine m_geta (k := 6) C dX12_setWord_29 w6_65 (by decide) rfl ?_
        refine m_iload_n (j := 2) C dX12_setWord_32 rfl ?_
        refine m_ald (k := 6) C dX12_setWord_33 rfl rfl (by decide) (by omega) (by show _ < ((_ : Nat) : Int); simp only [mlen]; omega) (by decide) ?_
        refine hv2 (show 0 ≤ ab1 6 t.toNat ∧ ab1 6 t.toNat ≤ 5 from bxb1.2 6 (t.toNat)) (show ab1 6 (t.toNat) = a 6 (t.toNat) from congrFun (fpb1.2 6 rfl) (t.toNat)) (fun ra1 ae1 => ?_)
        refine m_st (st2 := [.int (iI (a 6 t.toNat))]) (congrArg (fun z => Value.int (iI z) :: []) (congrFun (fpb1.2 6 rfl) (t.toNat))) ?_
        refine m_iconst C dX12_setWord_34 ?_
        refine m_icmp_eq (tgt := 49) C ⟨by omega, by omega⟩ ⟨by decide, by decide⟩ dX12_setWord_35 (by decide) (fun c2 => ?_) (fun c2 => ?_)
        · refine m_iconst C dX12_setWord_49 ?_
          refine m_istore_n (lv2 := [(2, .int (iI 0)), (0, .ref h0), (1, .int (iI t))]) C dX12_setWord_50 (by decide) rfl ?_
          refine m_iconst C dX12_setWord_51 ?_
          refine m_istore_n (lv2 := [(3, .int (iI 0)), (2, .int (iI 0)), (0, .ref h0), (1, .int (iI t))]) C dX12_setWord_52 (by decide) rfl ?_
          have Lp2 : ∀ (nn : Nat) (g x : Int) (vb2 : Nat → Int) (ab2 : Nat → Nat → Int), 502 - x < (nn : Int) → BX vb2 ab2 → fr [25, 28] [20, 24, 26, 27] v a vb2 ab2 → (g = 0 ∨ g = 1) → (0 ≤ x ∧ x ≤ v 23) → (vb2 25 ≤ 200) → (JW v a vb2 ab2 t g x) → mw p l e (rmq 65 0 0) s m args below meth c G A 7 (MQ below (Qm G A (fun rq Lq Eq => ∃ (vq : Nat → Int) (aq : Nat → Nat → Int), mI G h0 ad ln vq aq Lq Eq ∧ (fun r v2 a2 => ∃ f : Int, r = some (.int (iI f)) ∧ fr [25, 28] [20, 24, 26, 27] v a v2 a2 ∧ BX v2 a2 ∧ ((f = 0 ∨ (f = 1 ∧ v2 25 ≤ 200)) ∧ SWT v a v2 a2 t f ∧ SWB v a v2 a2 t f)) rq vq aq)) args s 0 0 A) h0 ad ln vb2 ab2 0 0 53 [(2, .int (iI g)), (3, .int (iI x)), (0, .ref h0), (1, .int (iI t))] [] := by
            intro nn
            induction nn with
            | zero =>
              intro g x vb2 ab2 hm bxb2 fpb2 hg hq hb1 hJ
              exact absurd hm (by omega)
            | succ nn ih2 =>
              intro g x vb2 ab2 hm bxb2 fpb2 hg hq hb1 hJ
              refine m_iload_n (j := 1) C dX12_setWord_53 rfl ?_
              refine m_aload_n (j := 2) C dX12_setWord_54 rfl ?_
              refine hv2 (show 0 ≤ vb2 23 ∧ vb2 23 ≤ 500 from bxb2.1 23) (show vb2 23 = v 23 from fpb2.1 23 rfl) (fun rv2 ve2 => ?_)
              refine m_get (k := 23) C dX12_setWord_55 w6_82 (by decide) rfl ?_
              refine m_st (st2 := [.int (iI (v 23)), .int (iI x)]) (congrArg (fun z => Value.int (iI z) :: [.int (iI x)]) (fpb2.1 23 rfl)) ?_
              refine m_icmp_gt (tgt := 226) C ⟨by omega, by omega⟩ (r32_c (lo := 0) (hi := 500) (Int.le_trans rv1.1 (Int.le_of_eq ve1)) (Int.le_trans (Int.le_of_eq ve1.symm) rv1.2) (by decide) (by decide)) dX12_setWord_58 (by decide) (fun c3 => ?_) (fun c3 => ?_)
              · refine m_iconst C dX12_setWord_226 ?_
                have rv3 : 0 ≤ vb2 25 ∧ vb2 25 ≤ 208 := bxb2.1 25
                exact m_zret C dX12_setWord_227 rfl (Or.inr rfl) (Nat.le_of_ble_eq_true rfl) (Nat.le_of_ble_eq_true rfl) ⟨1, rfl, fpb2, bxb2, ⟨by omega, (by exfalso; omega), (by exfalso; omega)⟩⟩
              · have Lp3 : ∀ (nn : Nat) (sg y : Int) (vb3 : Nat → Int) (ab3 : Nat → Nat → Int), 502 - y < (nn : Int) → BX vb3 ab3 → fr [25, 28] [20, 24, 26, 27] v a vb3 ab3 → ((g = 1 ∧ sg = 62) ∨ (g = 0 ∧ sg = 60)) → (x ≤ y ∧ y ≤ v 23) → (vb3 25 ≤ 200) → (NSG (a 20) (sgj g) x y) → (JW v a vb3 ab3 t g x) → mw p l e (rmq 65 0 0) s m args below meth c G A 7 (MQ below (Qm G A (fun rq Lq Eq => ∃ (vq : Nat → Int) (aq : Nat → Nat → Int), mI G h0 ad ln vq aq Lq Eq ∧ (fun r v2 a2 => ∃ f : Int, r = some (.int (iI f)) ∧ fr [25, 28] [20, 24, 26, 27] v a v2 a2 ∧ BX v2 a2 ∧ ((f = 0 ∨ (f = 1 ∧ v2 25 ≤ 200)) ∧ SWT v a v2 a2 t f ∧ SWB v a v2 a2 t f)) rq vq aq)) args s 0 0 A) h0 ad ln vb3 ab3 0 0 77 [(5, .int (iI y)), (4, .int (iI sg)), (2, .int (iI g)), (3, .int (iI x)), (0, .ref h0), (1, .int (iI t))] [] := by
                  intro nn
                  induction nn with
                  | zero =>
                    intro sg y vb3 ab3 hm bxb3 fpb3 hs hy hb2 hN hJ2
                    have w77 := congrFun hJ2.1 y.toNat
                    exact absurd hm (by omega)
                  | succ nn ih3 =>
                    intro sg y vb3 ab3 hm bxb3 fpb3 hs hy hb2 hN hJ2
                    have w77 := congrFun hJ2.1 y.toNat
                    refine m_iload (j := 0) C dX12_setWord_77 rfl ?_
                    refine m_aload_n (j := 4) C dX12_setWord_79 rfl ?_
                    refine hv2 (show 0 ≤ vb3 23 ∧ vb3 23 ≤ 500 from bxb3.1 23) (show vb3 23 = v 23 from fpb3.1 23 rfl) (fun rv4 ve3 => ?_)
                    refine m_get (k := 23) C dX12_setWord_80 w6_82 (by decide) rfl ?_
                    refine m_st (st2 := [.int (iI (v 23)), .int (iI y)]) (congrArg (fun z => Value.int (iI z) :: [.int (iI y)]) (fpb3.1 23 rfl)) ?_
                    refine m_icmp_ge (tgt := 104) C ⟨by omega, by omega⟩ (r32_c (lo := 0) (hi := 500) (Int.le_trans rv1.1 (Int.le_of_eq ve1)) (Int.le_trans (Int.le_of_eq ve1.symm) rv1.2) (by decide) (by decide)) dX12_setWord_83 (by decide) (fun c4 => ?_) (fun c4 => ?_)
                    · refine m_aload_n (j := 4) C dX12_setWord_104 rfl ?_
                      refine m_iload_n (j := 2) C dX12_setWord_105 rfl ?_
                      refine m_if_eq (tgt := 118) C (r32_01 hg) dX12_setWord_106 (by decide) (fun c5 => ?_) (fun c5 => ?_)
                      · refine m_aload_n (j := 4) C dX12_setWord_118 rfl ?_
                        refine m_geta (k := 8) C dX12_setWord_119 w6_67 (by decide) rfl ?_
                        refine m_iload_n (j := 5) C dX12_setWord_122 rfl ?_
                        refine m_ald (k := 8) C dX12_setWord_123 rfl rfl (by decide) (by omega) (by show _ < ((_ : Nat) : Int); simp only [mlen]; omega) (by decide) ?_
                        refine hv2 (show (-1) ≤ ab3 8 t.toNat ∧ ab3 8 t.toNat ≤ 29 from bxb3.2 8 (t.toNat)) (show ab3 8 (t.toNat) = a 8 (t.toNat) from congrFun (fpb3.2 8 rfl) (t.toNat)) (fun ra2 ae2 => ?_)
                        refine m_st (st2 := [.int (iI (a 8 t.toNat)), .ref h0]) (congrArg (fun z => Value.int (iI z) :: [.ref h0]) (congrFun (fpb3.2 8 rfl) (t.toNat))) ?_
                        refine m_iload_n (j := 3) C dX12_setWord_124 rfl ?_
                        refine m_iload (j := 0) C dX12_setWord_125 rfl ?_
                        refine hv5 (show 0 ≤ vb3 4 ∧ vb3 4 ≤ 30 from bxb3.1 4) (show vb3 4 = v 4 from fpb3.1 4 rfl) (show 0 ≤ ab3 6 (a 8 t.toNat).toNat ∧ ab3 6 (a 8 t.toNat).toNat ≤ 5 from bxb3.2 6 ((a 8 t.toNat).toNat)) (show ab3 6 ((a 8 t.toNat).toNat) = a 6 ((a 8 t.toNat).toNat) from congrFun (fpb3.2 6 rfl) ((a 8 t.toNat).toNat)) (show 0 ≤ vb3 25 ∧ vb3 25 ≤ 208 from bxb3.1 25) (fun rv5 ve4 ra3 ae3 rv6 => ?_)
                        refine m_call (mc2 := 0) (ms2 := 0) (As := [.int (iI (a 8 t.toNat)), .int (iI x), .int (iI y)]) (rest := []) C (E_setPart (t := a 8 t.toNat) (q := x) (u := y) bxb3 (hT.fr fpb3 rfl rfl) (by show 0 ≤ (a 8 t.toNat) ∧ (a 8 t.toNat) < (vb3 4); omega) (by show ab3 6 (a 8 t.toNat).toNat ≤ 4; omega) (by show 0 ≤ x ∧ x ≤ y ∧ y ≤ 500; omega) (by show (vb3 25) ≤ 200; omega)) dX12_setWord_127 kV_X12_237 rfl ck_13 rfl (Nat.le_of_ble_eq_true rfl) ⟨Nat.le_of_ble_eq_true rfl, Nat.le_of_ble_eq_true rfl⟩ ⟨Nat.le_of_ble_eq_true rfl, Nat.le_of_ble_eq_true rfl⟩ (fun rh1 vh1 ah1 h1 => ?_)
                        obtain ⟨f1, rfl, fn1, bn1, ex1⟩ := h1
                        have fq2 := fpb3.call fn1 rfl rfl
                        obtain ⟨ex1, tl1⟩ := ex1
                        refine hv2 (show 0 ≤ vh1 25 ∧ vh1 25 ≤ 208 from bn1.1 25) (show f1 = 0 ∨ (f1 = 1 ∧ (vh1 25) ≤ 200) from ex1) (fun rv7 gf1 => ?_)
                        refine m_st (st2 := [.int (iI f1)]) rfl ?_
                        refine m_if_ne (tgt := 135) C (r32_0p gf1) dX12_setWord_130 (by decide) (fun c6 => ?_) (fun c6 => ?_)
                        · replace gf1 := (gf1.resolve_left c6)
                          refine m_iload (j := 0) C dX12_setWord_135 rfl ?_
                          refine m_aload_n (j := 4) C dX12_setWord_137 rfl ?_
                          refine hv2 (show 0 ≤ vh1 23 ∧ vh1 23 ≤ 500 from bn1.1 23) (show vh1 23 = vb3 23 from fn1.1 23 rfl) (fun rv8 ve5 => ?_)
                          refine m_get (k := 23) C dX12_setWord_138 w6_82 (by decide) rfl ?_
                          refine m_st (st2 := [.int (iI (v 23)), .int (iI y)]) (congrArg (fun z => Value.int (iI z) :: [.int (iI y)]) (fq2.1 23 rfl)) ?_
                          refine m_icmp_ne (tgt := 146) C ⟨by omega, by omega⟩ (r32_c (lo := 0) (hi := 500) (Int.le_trans rv1.1 (Int.le_of_eq ve1)) (Int.le_trans (Int.le_of_eq ve1.symm) rv1.2) (by decide) (by decide)) dX12_setWord_141 (by decide) (fun c7 => ?_) (fun c7 => ?_)
                          · refine m_iload_n (j := 2) C dX12_setWord_146 rfl ?_
                            refine m_if_eq (tgt := 154) C (r32_01 hg) dX12_setWord_147 (by decide) (fun _ => ?_) (fun z => absurd z (by omega))
                            refine m_iconst C dX12_setWord_154 ?_
                            refine m_istore (lv2 := [(6, .int (iI 2)), (5, .int (iI y)), (4, .int (iI sg)), (2, .int (iI g)), (3, .int (iI x)), (0, .ref h0), (1, .int (iI t))]) C dX12_setWord_155 (by decide) rfl ?_
                            refine m_aload_n (j := 5) C dX12_setWord_157 rfl ?_
                            refine m_geta (k := 16) C dX12_setWord_158 w6_75 (by decide) rfl ?_
                            refine m_iconst C dX12_setWord_161 ?_
                            refine m_iload_n (j := 6) C dX12_setWord_162 rfl ?_
                            refine m_imul C dX12_setWord_163 ?_
                            refine m_iload (j := 0) C dX12_setWord_164 rfl ?_
                            refine m_iadd C dX12_setWord_166 ?_
                            refine m_ald (k := 16) C dX12_setWord_167 rfl rfl (by decide) (by omega) (by show _ < ((_ : Nat) : Int); simp only [mlen]; omega) (by decide) ?_
                            refine hv3 (show 0 ≤ ah1 16 ((4 * t) + 2).toNat ∧ ah1 16 ((4 * t) + 2).toNat ≤ 4 from bn1.2 16 (((4 * t) + 2).toNat)) (show ah1 16 (((4 * t) + 2).toNat) = ab3 16 (((4 * t) + 2).toNat) from congrFun (fn1.2 16 rfl) (((4 * t) + 2).toNat)) (show ab3 16 (((4 * t) + 2).toNat) = a 16 (((4 * t) + 2).toNat) from congrFun (fpb3.2 16 rfl) (((4 * t) + 2).toNat)) (fun ra4 ae4 ae5 => ?_)
                            refine m_st (st2 := [.int (iI (a 16 ((4 * t) + 2).toNat))]) (congrArg (fun z => Value.int (iI z) :: []) (congrFun (fq2.2 16 rfl) (((4 * t) + 2).toNat))) ?_
                            refine m_if_ne (tgt := 184) C ⟨by omega, by omega⟩ dX12_setWord_168 (by decide) (fun c8 => ?_) (fun c8 => ?_)
                            · refine m_aload_n (j := 5) C dX12_setWord_184 rfl ?_
                              refine m_iload_n (j := 6) C dX12_setWord_185 rfl ?_
                              refine m_iload (j := 0) C dX12_setWord_186 rfl ?_
                              refine m_call (mc2 := 0) (ms2 := 0) (As := [.int (iI t), .int (iI 2)]) (rest := []) C (E_putIndicator (t := t) (w1 := 2) bn1 (by show 0 ≤ t ∧ t < 30; omega) (by show 0 ≤ (2 : Int) ∧ (2 : Int) ≤ 3; omega) (by show (vh1 25) ≤ 204; omega)) dX12_setWord_188 kV_X12_227 rfl ck_13 rfl (Nat.le_of_ble_eq_true rfl) ⟨Nat.le_of_ble_eq_true rfl, Nat.le_of_ble_eq_true rfl⟩ ⟨Nat.le_of_ble_eq_true rfl, Nat.le_of_ble_eq_true rfl⟩ (fun rh2 vh2 ah2 h2 => ?_)
                              obtain ⟨rfl, fn2, bn2, ex2⟩ := h2
                              have fq3 := fq2.call fn2 rfl rfl
                              obtain ⟨ex2, tl2⟩ := ex2
                              refine hv6 (show 0 ≤ vh2 25 ∧ vh2 25 ≤ 208 from bn2.1 25) (show (vh2 25) = (vh1 25) + ah1 16 (4 * t + (2 : Int)).toNat from ex2) (show 0 ≤ ah2 16 (4 * t + (2 : Int)).toNat ∧ ah2 16 (4 * t + (2 : Int)).toNat ≤ 4 from bn2.2 16 ((4 * t + (2 : Int)).toNat)) (show ah2 16 ((4 * t + (2 : Int)).toNat) = ah1 16 ((4 * t + (2 : Int)).toNat) from congrFun (fn2.2 16 rfl) ((4 * t + (2 : Int)).toNat)) (show ah1 16 ((4 * t + (2 : Int)).toNat) = ab3 16 ((4 * t + (2 : Int)).toNat) from congrFun (fn1.2 16 rfl) ((4 * t + (2 : Int)).toNat)) (show ab3 16 ((4 * t + (2 : Int)).toNat) = a 16 ((4 * t + (2 : Int)).toNat) from congrFun (fpb3.2 16 rfl) ((4 * t + (2 : Int)).toNat)) (fun rv9 gf2 ra5 ae6 ae7 ae8 => ?_)
                              refine m_st (st2 := []) rfl ?_
                              refine m_aload_n (j := 5) C dX12_setWord_191 rfl ?_
                              refine m_get (k := 25) C dX12_setWord_192 w6_84 (by decide) rfl ?_
                              refine m_sipush (z := 200) C dX12_setWord_195 (by decide) ?_
                              refine m_icmp_le (tgt := 208) C (r32_c (lo := 0) (hi := 208) rv9.1 rv9.2 (by decide) (by decide)) ⟨by decide, by decide⟩ dX12_setWord_198 (by decide) (fun c9 => ?_) (fun c9 => ?_)
                              · refine m_iload_n (j := 3) C dX12_setWord_208 rfl ?_
                                refine m_if_ne (tgt := 216) C (r32_01 hg) dX12_setWord_209 (by decide) (fun z => absurd z (by omega)) (fun _ => ?_)
                                refine m_iconst C dX12_setWord_212 ?_
                                refine m_goto (tgt := 217) C dX12_setWord_213 (by decide) ?_
                                refine m_istore_n (lv2 := [(2, .int (iI 1)), (6, .int (iI 2)), (5, .int (iI y)), (4, .int (iI sg)), (3, .int (iI x)), (0, .ref h0), (1, .int (iI t))]) C dX12_setWord_217 (by decide) rfl ?_
                                refine m_iload (j := 2) C dX12_setWord_218 rfl ?_
                                refine m_iconst C dX12_setWord_220 ?_
                                refine m_iadd C dX12_setWord_221 ?_
                                refine m_istore_n (lv2 := [(3, .int (iI (y + 1))), (2, .int (iI 1)), (6, .int (iI 2)), (5, .int (iI y)), (4, .int (iI sg)), (0, .ref h0), (1, .int (iI t))]) C dX12_setWord_222 (by decide) rfl ?_
                                refine m_goto (tgt := 53) C dX12_setWord_223 (by decide) ?_
                                refine m_lv (lv2 := [(2, .int (iI 1)), (3, .int (iI (y + 1))), (0, .ref h0), (1, .int (iI t))]) [1, 0, 5, 6] rfl ?_
                                exact ih2  1 (y + 1) _ _ (by omega) bn2 fq3 (by omega) (by omega) (by show vh2 25 ≤ 200; omega) (JW.re (JW.next hJ2 hg (TBE.fr fpb3 rfl) rfl ⟨by omega, by omega⟩ hN (show a 20 y.toNat = sgj g by unfold sgj; split <;> omega) (by unfold ind4; rw [if_neg (by omega)]; omega) (by unfold prt; rw [if_neg (by omega)]) (tl1.re rfl (by omega)) tl2 (by unfold ind4; rw [if_neg (by omega)]) (fq2.2 16 rfl) (fq2.2 17 rfl) (fn2.2 20 rfl)) (by omega))
                              · refine m_aload_n (j := 5) C dX12_setWord_201 rfl ?_
                                refine m_iconst C dX12_setWord_202 ?_
                                refine m_put (k := 28) (z := (-1)) C dX12_setWord_203 w6_87 (by decide) rfl rfl rfl ?_
                                refine hv2 (show BX (va_up vh2 28 (-1)) ah2 from bn2.put (k := 28) (z := (-1)) ⟨by decide, by decide⟩) (fq3.put (k := 28) (z := (-1)) rfl) (fun bq2 fq4 => ?_)
                                refine m_iconst C dX12_setWord_206 ?_
                                exact m_zret C dX12_setWord_207 rfl (Or.inl rfl) (Nat.le_of_ble_eq_true rfl) (Nat.le_of_ble_eq_true rfl) ⟨0, rfl, fq4, bq2, ⟨(Or.inl rfl), JW.many hJ2 hT ht (by omega) (TBE.fr fpb3 rfl) rfl ⟨by omega, by omega⟩ hN (show a 20 y.toNat = sgj g by unfold sgj; split <;> omega) (by unfold prt; rw [if_neg (by omega)]) (tl1.re rfl (by omega)) (by unfold ind4; rw [if_neg (by omega)]; omega) (by unfold ind4; rw [if_neg (by omega)]; omega) (fn2.2 20 rfl), (fun _ e => absurd e (by omega))⟩⟩
                            · refine m_aload_n (j := 5) C dX12_setWord_171 rfl ?_
                              refine m_aload_n (j := 5) C dX12_setWord_172 rfl ?_
                              refine m_geta (k := 21) C dX12_setWord_173 w6_80 (by decide) rfl ?_
                              refine m_iload (j := 1) C dX12_setWord_176 rfl ?_
                              refine m_ald (k := 21) C dX12_setWord_178 rfl rfl (by decide) (by omega) (by show _ < ((_ : Nat) : Int); simp only [mlen]; omega) (by decide) ?_
                              refine hv3 (show (-2147483648) ≤ ah1 21 y.toNat ∧ ah1 21 y.toNat ≤ 2147483647 from bn1.2 21 (y.toNat)) (show ah1 21 (y.toNat) = ab3 21 (y.toNat) from congrFun (fn1.2 21 rfl) (y.toNat)) (show ab3 21 (y.toNat) = a 21 (y.toNat) from congrFun (fpb3.2 21 rfl) (y.toNat)) (fun ra6 ae9 ae10 => ?_)
                              refine m_st (st2 := [.int (iI (a 21 y.toNat)), .ref h0]) (congrArg (fun z => Value.int (iI z) :: [.ref h0]) (congrFun (fq2.2 21 rfl) (y.toNat))) ?_
                              refine m_put (k := 28) (z := a 21 y.toNat) C dX12_setWord_179 w6_87 (by decide) rfl rfl rfl ?_
                              refine hv2 (show BX (va_up vh1 28 (a 21 y.toNat)) ah1 from bn1.put (k := 28) (z := a 21 y.toNat) (show (-2147483648) ≤ (a 21 y.toNat) ∧ (a 21 y.toNat) ≤ 2147483647 by omega)) (fq2.put (k := 28) (z := a 21 y.toNat) rfl) (fun bq3 fq5 => ?_)
                              refine m_iconst C dX12_setWord_182 ?_
                              exact m_zret C dX12_setWord_183 rfl (Or.inl rfl) (Nat.le_of_ble_eq_true rfl) (Nat.le_of_ble_eq_true rfl) ⟨0, rfl, fq5, bq3, ⟨(Or.inl rfl), JW.nosign hJ2 hT ht (by omega) rfl ⟨by omega, by omega⟩ hN (show a 20 y.toNat = sgj g by unfold sgj; split <;> omega) (by unfold ind4; rw [if_neg (by omega)]; omega) (tl1.1.trans hJ2.1), (fun _ e => absurd e (by omega))⟩⟩
                          · refine m_iconst C dX12_setWord_144 ?_
                            exact m_zret C dX12_setWord_145 rfl (Or.inr rfl) (Nat.le_of_ble_eq_true rfl) (Nat.le_of_ble_eq_true rfl) ⟨1, rfl, fq2, bn1, ⟨(Or.inr ⟨rfl, by show vh1 25 ≤ 200; omega⟩), JW.last hJ2 (by omega) (TBE.fr fpb3 rfl) rfl (by omega) (hN.re (by omega)) (by unfold prt; rw [if_neg (by omega)]) (tl1.re (by omega) (by omega)), (fun _ e => absurd e (by omega))⟩⟩
                        · clear gf1
                          refine m_iconst C dX12_setWord_133 ?_
                          exact m_zret C dX12_setWord_134 rfl (Or.inl rfl) (Nat.le_of_ble_eq_true rfl) (Nat.le_of_ble_eq_true rfl) ⟨0, rfl, fq2, bn1, ⟨(Or.inl rfl), JW.part hJ2 hT ht (by omega) (TBE.fr fpb3 rfl) rfl ⟨by omega, by omega⟩ hN (Or.inl (by omega)) (by unfold prt; rw [if_neg (by omega)]) tl1 (by omega) rfl, (fun _ e => absurd e (by omega))⟩⟩
                      · refine m_aload_n (j := 4) C dX12_setWord_109 rfl ?_
                        refine m_geta (k := 9) C dX12_setWord_110 w6_68 (by decide) rfl ?_
                        refine m_iload_n (j := 5) C dX12_setWord_113 rfl ?_
                        refine m_ald (k := 9) C dX12_setWord_114 rfl rfl (by decide) (by omega) (by show _ < ((_ : Nat) : Int); simp only [mlen]; omega) (by decide) ?_
                        refine hv2 (show (-1) ≤ ab3 9 t.toNat ∧ ab3 9 t.toNat ≤ 29 from bxb3.2 9 (t.toNat)) (show ab3 9 (t.toNat) = a 9 (t.toNat) from congrFun (fpb3.2 9 rfl) (t.toNat)) (fun ra7 ae11 => ?_)
                        refine m_st (st2 := [.int (iI (a 9 t.toNat)), .ref h0]) (congrArg (fun z => Value.int (iI z) :: [.ref h0]) (congrFun (fpb3.2 9 rfl) (t.toNat))) ?_
                        refine m_goto (tgt := 124) C dX12_setWord_115 (by decide) ?_
                        refine m_iload_n (j := 3) C dX12_setWord_124 rfl ?_
                        refine m_iload (j := 0) C dX12_setWord_125 rfl ?_
                        refine hv5 (show 0 ≤ vb3 4 ∧ vb3 4 ≤ 30 from bxb3.1 4) (show vb3 4 = v 4 from fpb3.1 4 rfl) (show 0 ≤ ab3 6 (a 9 t.toNat).toNat ∧ ab3 6 (a 9 t.toNat).toNat ≤ 5 from bxb3.2 6 ((a 9 t.toNat).toNat)) (show ab3 6 ((a 9 t.toNat).toNat) = a 6 ((a 9 t.toNat).toNat) from congrFun (fpb3.2 6 rfl) ((a 9 t.toNat).toNat)) (show 0 ≤ vb3 25 ∧ vb3 25 ≤ 208 from bxb3.1 25) (fun rv10 ve6 ra8 ae12 rv11 => ?_)
                        refine m_call (mc2 := 0) (ms2 := 0) (As := [.int (iI (a 9 t.toNat)), .int (iI x), .int (iI y)]) (rest := []) C (E_setPart (t := a 9 t.toNat) (q := x) (u := y) bxb3 (hT.fr fpb3 rfl rfl) (by show 0 ≤ (a 9 t.toNat) ∧ (a 9 t.toNat) < (vb3 4); omega) (by show ab3 6 (a 9 t.toNat).toNat ≤ 4; omega) (by show 0 ≤ x ∧ x ≤ y ∧ y ≤ 500; omega) (by show (vb3 25) ≤ 200; omega)) dX12_setWord_127 kV_X12_237 rfl ck_13 rfl (Nat.le_of_ble_eq_true rfl) ⟨Nat.le_of_ble_eq_true rfl, Nat.le_of_ble_eq_true rfl⟩ ⟨Nat.le_of_ble_eq_true rfl, Nat.le_of_ble_eq_true rfl⟩ (fun rh3 vh3 ah3 h3 => ?_)
                        obtain ⟨f3, rfl, fn3, bn3, ex3⟩ := h3
                        have fq6 := fpb3.call fn3 rfl rfl
                        obtain ⟨ex3, tl3⟩ := ex3
                        refine hv2 (show 0 ≤ vh3 25 ∧ vh3 25 ≤ 208 from bn3.1 25) (show f3 = 0 ∨ (f3 = 1 ∧ (vh3 25) ≤ 200) from ex3) (fun rv12 gf3 => ?_)
                        refine m_st (st2 := [.int (iI f3)]) rfl ?_
                        refine m_if_ne (tgt := 135) C (r32_0p gf3) dX12_setWord_130 (by decide) (fun c10 => ?_) (fun c10 => ?_)
                        · replace gf3 := (gf3.resolve_left c10)
                          refine m_iload (j := 0) C dX12_setWord_135 rfl ?_
                          refine m_aload_n (j := 4) C dX12_setWord_137 rfl ?_
                          refine hv2 (show 0 ≤ vh3 23 ∧ vh3 23 ≤ 500 from bn3.1 23) (show vh3 23 = vb3 23 from fn3.1 23 rfl) (fun rv13 ve7 => ?_)
                          refine m_get (k := 23) C dX12_setWord_138 w6_82 (by decide) rfl ?_
                          refine m_st (st2 := [.int (iI (v 23)), .int (iI y)]) (congrArg (fun z => Value.int (iI z) :: [.int (iI y)]) (fq6.1 23 rfl)) ?_
                          refine m_icmp_ne (tgt := 146) C ⟨by omega, by omega⟩ (r32_c (lo := 0) (hi := 500) (Int.le_trans rv1.1 (Int.le_of_eq ve1)) (Int.le_trans (Int.le_of_eq ve1.symm) rv1.2) (by decide) (by decide)) dX12_setWord_141 (by decide) (fun c11 => ?_) (fun c11 => ?_)
                          · refine m_iload_n (j := 2) C dX12_setWord_146 rfl ?_
                            refine m_if_eq (tgt := 154) C (r32_01 hg) dX12_setWord_147 (by decide) (fun z => absurd z (by omega)) (fun _ => ?_)
                            refine m_iconst C dX12_setWord_150 ?_
                            refine m_goto (tgt := 155) C dX12_setWord_151 (by decide) ?_
                            refine m_istore (lv2 := [(6, .int (iI 3)), (5, .int (iI y)), (4, .int (iI sg)), (2, .int (iI g)), (3, .int (iI x)), (0, .ref h0), (1, .int (iI t))]) C dX12_setWord_155 (by decide) rfl ?_
                            refine m_aload_n (j := 5) C dX12_setWord_157 rfl ?_
                            refine m_geta (k := 16) C dX12_setWord_158 w6_75 (by decide) rfl ?_
                            refine m_iconst C dX12_setWord_161 ?_
                            refine m_iload_n (j := 6) C dX12_setWord_162 rfl ?_
                            refine m_imul C dX12_setWord_163 ?_
                            refine m_iload (j := 0) C dX12_setWord_164 rfl ?_
                            refine m_iadd C dX12_setWord_166 ?_
                            refine m_ald (k := 16) C dX12_setWord_167 rfl rfl (by decide) (by omega) (by show _ < ((_ : Nat) : Int); simp only [mlen]; omega) (by decide) ?_
                            refine hv3 (show 0 ≤ ah3 16 ((4 * t) + 3).toNat ∧ ah3 16 ((4 * t) + 3).toNat ≤ 4 from bn3.2 16 (((4 * t) + 3).toNat)) (show ah3 16 (((4 * t) + 3).toNat) = ab3 16 (((4 * t) + 3).toNat) from congrFun (fn3.2 16 rfl) (((4 * t) + 3).toNat)) (show ab3 16 (((4 * t) + 3).toNat) = a 16 (((4 * t) + 3).toNat) from congrFun (fpb3.2 16 rfl) (((4 * t) + 3).toNat)) (fun ra9 ae13 ae14 => ?_)
                            refine m_st (st2 := [.int (iI (a 16 ((4 * t) + 3).toNat))]) (congrArg (fun z => Value.int (iI z) :: []) (congrFun (fq6.2 16 rfl) (((4 * t) + 3).toNat))) ?_
                            refine m_if_ne (tgt := 184) C ⟨by omega, by omega⟩ dX12_setWord_168 (by decide) (fun c12 => ?_) (fun c12 => ?_)
                            · refine m_aload_n (j := 5) C dX12_setWord_184 rfl ?_
                              refine m_iload_n (j := 6) C dX12_setWord_185 rfl ?_
                              refine m_iload (j := 0) C dX12_setWord_186 rfl ?_
                              refine m_call (mc2 := 0) (ms2 := 0) (As := [.int (iI t), .int (iI 3)]) (rest := []) C (E_putIndicator (t := t) (w1 := 3) bn3 (by show 0 ≤ t ∧ t < 30; omega) (by show 0 ≤ (3 : Int) ∧ (3 : Int) ≤ 3; omega) (by show (vh3 25) ≤ 204; omega)) dX12_setWord_188 kV_X12_227 rfl ck_13 rfl (Nat.le_of_ble_eq_true rfl) ⟨Nat.le_of_ble_eq_true rfl, Nat.le_of_ble_eq_true rfl⟩ ⟨Nat.le_of_ble_eq_true rfl, Nat.le_of_ble_eq_true rfl⟩ (fun rh4 vh4 ah4 h4 => ?_)
                              obtain ⟨rfl, fn4, bn4, ex4⟩ := h4
                              have fq7 := fq6.call fn4 rfl rfl
                              obtain ⟨ex4, tl4⟩ := ex4
                              refine hv6 (show 0 ≤ vh4 25 ∧ vh4 25 ≤ 208 from bn4.1 25) (show (vh4 25) = (vh3 25) + ah3 16 (4 * t + (3 : Int)).toNat from ex4) (show 0 ≤ ah4 16 (4 * t + (3 : Int)).toNat ∧ ah4 16 (4 * t + (3 : Int)).toNat ≤ 4 from bn4.2 16 ((4 * t + (3 : Int)).toNat)) (show ah4 16 ((4 * t + (3 : Int)).toNat) = ah3 16 ((4 * t + (3 : Int)).toNat) from congrFun (fn4.2 16 rfl) ((4 * t + (3 : Int)).toNat)) (show ah3 16 ((4 * t + (3 : Int)).toNat) = ab3 16 ((4 * t + (3 : Int)).toNat) from congrFun (fn3.2 16 rfl) ((4 * t + (3 : Int)).toNat)) (show ab3 16 ((4 * t + (3 : Int)).toNat) = a 16 ((4 * t + (3 : Int)).toNat) from congrFun (fpb3.2 16 rfl) ((4 * t + (3 : Int)).toNat)) (fun rv14 gf4 ra10 ae15 ae16 ae17 => ?_)
                              refine m_st (st2 := []) rfl ?_
                              refine m_aload_n (j := 5) C dX12_setWord_191 rfl ?_
                              refine m_get (k := 25) C dX12_setWord_192 w6_84 (by decide) rfl ?_
                              refine m_sipush (z := 200) C dX12_setWord_195 (by decide) ?_
                              refine m_icmp_le (tgt := 208) C (r32_c (lo := 0) (hi := 208) rv14.1 rv14.2 (by decide) (by decide)) ⟨by decide, by decide⟩ dX12_setWord_198 (by decide) (fun c13 => ?_) (fun c13 => ?_)
                              · refine m_iload_n (j := 3) C dX12_setWord_208 rfl ?_
                                refine m_if_ne (tgt := 216) C (r32_01 hg) dX12_setWord_209 (by decide) (fun _ => ?_) (fun z => absurd z (by omega))
                                refine m_iconst C dX12_setWord_216 ?_
                                refine m_istore_n (lv2 := [(2, .int (iI 0)), (6, .int (iI 3)), (5, .int (iI y)), (4, .int (iI sg)), (3, .int (iI x)), (0, .ref h0), (1, .int (iI t))]) C dX12_setWord_217 (by decide) rfl ?_
                                refine m_iload (j := 2) C dX12_setWord_218 rfl ?_
                                refine m_iconst C dX12_setWord_220 ?_
                                refine m_iadd C dX12_setWord_221 ?_
                                refine m_istore_n (lv2 := [(3, .int (iI (y + 1))), (2, .int (iI 0)), (6, .int (iI 3)), (5, .int (iI y)), (4, .int (iI sg)), (0, .ref h0), (1, .int (iI t))]) C dX12_setWord_222 (by decide) rfl ?_
                                refine m_goto (tgt := 53) C dX12_setWord_223 (by decide) ?_
                                refine m_lv (lv2 := [(2, .int (iI 0)), (3, .int (iI (y + 1))), (0, .ref h0), (1, .int (iI t))]) [1, 0, 5, 6] rfl ?_
                                exact ih2  0 (y + 1) _ _ (by omega) bn4 fq7 (by omega) (by omega) (by show vh4 25 ≤ 200; omega) (JW.re (JW.next hJ2 hg (TBE.fr fpb3 rfl) rfl ⟨by omega, by omega⟩ hN (show a 20 y.toNat = sgj g by unfold sgj; split <;> omega) (by unfold ind4; rw [if_pos (by omega)]; omega) (by unfold prt; rw [if_pos (by omega)]) (tl3.re rfl (by omega)) tl4 (by unfold ind4; rw [if_pos (by omega)]) (fq6.2 16 rfl) (fq6.2 17 rfl) (fn4.2 20 rfl)) (by omega))
                              · refine m_aload_n (j := 5) C dX12_setWord_201 rfl ?_
                                refine m_iconst C dX12_setWord_202 ?_
                                refine m_put (k := 28) (z := (-1)) C dX12_setWord_203 w6_87 (by decide) rfl rfl rfl ?_
                                refine hv2 (show BX (va_up vh4 28 (-1)) ah4 from bn4.put (k := 28) (z := (-1)) ⟨by decide, by decide⟩) (fq7.put (k := 28) (z := (-1)) rfl) (fun bq4 fq8 => ?_)
                                refine m_iconst C dX12_setWord_206 ?_
                                exact m_zret C dX12_setWord_207 rfl (Or.inl rfl) (Nat.le_of_ble_eq_true rfl) (Nat.le_of_ble_eq_true rfl) ⟨0, rfl, fq8, bq4, ⟨(Or.inl rfl), JW.many hJ2 hT ht (by omega) (TBE.fr fpb3 rfl) rfl ⟨by omega, by omega⟩ hN (show a 20 y.toNat = sgj g by unfold sgj; split <;> omega) (by unfold prt; rw [if_pos (by omega)]) (tl3.re rfl (by omega)) (by unfold ind4; rw [if_pos (by omega)]; omega) (by unfold ind4; rw [if_pos (by omega)]; omega) (fn4.2 20 rfl), (fun _ e => absurd e (by omega))⟩⟩
                            · refine m_aload_n (j := 5) C dX12_setWord_171 rfl ?_
                              refine m_aload_n (j := 5) C dX12_setWord_172 rfl ?_
                              refine m_geta (k := 21) C dX12_setWord_173 w6_80 (by decide) rfl ?_
                              refine m_iload (j := 1) C dX12_setWord_176 rfl ?_
                              refine m_ald (k := 21) C dX12_setWord_178 rfl rfl (by decide) (by omega) (by show _ < ((_ : Nat) : Int); simp only [mlen]; omega) (by decide) ?_
                              refine hv3 (show (-2147483648) ≤ ah3 21 y.toNat ∧ ah3 21 y.toNat ≤ 2147483647 from bn3.2 21 (y.toNat)) (show ah3 21 (y.toNat) = ab3 21 (y.toNat) from congrFun (fn3.2 21 rfl) (y.toNat)) (show ab3 21 (y.toNat) = a 21 (y.toNat) from congrFun (fpb3.2 21 rfl) (y.toNat)) (fun ra11 ae18 ae19 => ?_)
                              refine m_st (st2 := [.int (iI (a 21 y.toNat)), .ref h0]) (congrArg (fun z => Value.int (iI z) :: [.ref h0]) (congrFun (fq6.2 21 rfl) (y.toNat))) ?_
                              refine m_put (k := 28) (z := a 21 y.toNat) C dX12_setWord_179 w6_87 (by decide) rfl rfl rfl ?_
                              refine hv2 (show BX (va_up vh3 28 (a 21 y.toNat)) ah3 from bn3.put (k := 28) (z := a 21 y.toNat) (show (-2147483648) ≤ (a 21 y.toNat) ∧ (a 21 y.toNat) ≤ 2147483647 by omega)) (fq6.put (k := 28) (z := a 21 y.toNat) rfl) (fun bq5 fq9 => ?_)
                              refine m_iconst C dX12_setWord_182 ?_
                              exact m_zret C dX12_setWord_183 rfl (Or.inl rfl) (Nat.le_of_ble_eq_true rfl) (Nat.le_of_ble_eq_true rfl) ⟨0, rfl, fq9, bq5, ⟨(Or.inl rfl), JW.nosign hJ2 hT ht (by omega) rfl ⟨by omega, by omega⟩ hN (show a 20 y.toNat = sgj g by unfold sgj; split <;> omega) (by unfold ind4; rw [if_pos (by omega)]; omega) (tl3.1.trans hJ2.1), (fun _ e => absurd e (by omega))⟩⟩
                          · refine m_iconst C dX12_setWord_144 ?_
                            exact m_zret C dX12_setWord_145 rfl (Or.inr rfl) (Nat.le_of_ble_eq_true rfl) (Nat.le_of_ble_eq_true rfl) ⟨1, rfl, fq6, bn3, ⟨(Or.inr ⟨rfl, by show vh3 25 ≤ 200; omega⟩), JW.last hJ2 (by omega) (TBE.fr fpb3 rfl) rfl (by omega) (hN.re (by omega)) (by unfold prt; rw [if_pos (by omega)]) (tl3.re (by omega) (by omega)), (fun _ e => absurd e (by omega))⟩⟩
                        · clear gf3
                          refine m_iconst C dX12_setWord_133 ?_
                          exact m_zret C dX12_setWord_134 rfl (Or.inl rfl) (Nat.le_of_ble_eq_true rfl) (Nat.le_of_ble_eq_true rfl) ⟨0, rfl, fq6, bn3, ⟨(Or.inl rfl), JW.part hJ2 hT ht (by omega) (TBE.fr fpb3 rfl) rfl ⟨by omega, by omega⟩ hN (Or.inl (by omega)) (by unfold prt; rw [if_pos (by omega)]) tl3 (by omega) rfl, (fun _ e => absurd e (by omega))⟩⟩
                    · refine m_aload_n (j := 4) C dX12_setWord_86 rfl ?_
                      refine m_geta (k := 20) C dX12_setWord_87 w6_79 (by decide) rfl ?_
                      refine m_iload (j := 0) C dX12_setWord_90 rfl ?_
                      refine m_ald (k := 20) C dX12_setWord_92 rfl rfl (by decide) (by omega) (by show _ < ((_ : Nat) : Int); simp only [mlen]; omega) (by decide) ?_
                      have ra12 : (-2147483648) ≤ ab3 20 y.toNat ∧ ab3 20 y.toNat ≤ 2147483647 := bxb3.2 20 (y.toNat)
                      refine m_iload (j := 1) C dX12_setWord_93 rfl ?_
                      refine m_icmp_eq (tgt := 104) C (r32_c (lo := (-2147483648)) (hi := 2147483647) ra12.1 ra12.2 (by decide) (by decide)) ⟨by omega, by omega⟩ dX12_setWord_95 (by decide) (fun c14 => ?_) (fun c14 => ?_)
                      · refine m_aload_n (j := 4) C dX12_setWord_104 rfl ?_
                        refine m_iload_n (j := 2) C dX12_setWord_105 rfl ?_
                        refine m_if_eq (tgt := 118) C (r32_01 hg) dX12_setWord_106 (by decide) (fun c15 => ?_) (fun c15 => ?_)
                        · refine m_aload_n (j := 4) C dX12_setWord_118 rfl ?_
                          refine m_geta (k := 8) C dX12_setWord_119 w6_67 (by decide) rfl ?_
                          refine m_iload_n (j := 5) C dX12_setWord_122 rfl ?_
                          refine m_ald (k := 8) C dX12_setWord_123 rfl rfl (by decide) (by omega) (by show _ < ((_ : Nat) : Int); simp only [mlen]; omega) (by decide) ?_
                          refine hv2 (show (-1) ≤ ab3 8 t.toNat ∧ ab3 8 t.toNat ≤ 29 from bxb3.2 8 (t.toNat)) (show ab3 8 (t.toNat) = a 8 (t.toNat) from congrFun (fpb3.2 8 rfl) (t.toNat)) (fun ra13 ae20 => ?_)
                          refine m_st (st2 := [.int (iI (a 8 t.toNat)), .ref h0]) (congrArg (fun z => Value.int (iI z) :: [.ref h0]) (congrFun (fpb3.2 8 rfl) (t.toNat))) ?_
                          refine m_iload_n (j := 3) C dX12_setWord_124 rfl ?_
                          refine m_iload (j := 0) C dX12_setWord_125 rfl ?_
                          refine hv5 (show 0 ≤ vb3 4 ∧ vb3 4 ≤ 30 from bxb3.1 4) (show vb3 4 = v 4 from fpb3.1 4 rfl) (show 0 ≤ ab3 6 (a 8 t.toNat).toNat ∧ ab3 6 (a 8 t.toNat).toNat ≤ 5 from bxb3.2 6 ((a 8 t.toNat).toNat)) (show ab3 6 ((a 8 t.toNat).toNat) = a 6 ((a 8 t.toNat).toNat) from congrFun (fpb3.2 6 rfl) ((a 8 t.toNat).toNat)) (show 0 ≤ vb3 25 ∧ vb3 25 ≤ 208 from bxb3.1 25) (fun rv15 ve8 ra14 ae21 rv16 => ?_)
                          refine m_call (mc2 := 0) (ms2 := 0) (As := [.int (iI (a 8 t.toNat)), .int (iI x), .int (iI y)]) (rest := []) C (E_setPart (t := a 8 t.toNat) (q := x) (u := y) bxb3 (hT.fr fpb3 rfl rfl) (by show 0 ≤ (a 8 t.toNat) ∧ (a 8 t.toNat) < (vb3 4); omega) (by show ab3 6 (a 8 t.toNat).toNat ≤ 4; omega) (by show 0 ≤ x ∧ x ≤ y ∧ y ≤ 500; omega) (by show (vb3 25) ≤ 200; omega)) dX12_setWord_127 kV_X12_237 rfl ck_13 rfl (Nat.le_of_ble_eq_true rfl) ⟨Nat.le_of_ble_eq_true rfl, Nat.le_of_ble_eq_true rfl⟩ ⟨Nat.le_of_ble_eq_true rfl, Nat.le_of_ble_eq_true rfl⟩ (fun rh5 vh5 ah5 h5 => ?_)
                          obtain ⟨f5, rfl, fn5, bn5, ex5⟩ := h5
                          have fq10 := fpb3.call fn5 rfl rfl
                          obtain ⟨ex5, tl5⟩ := ex5
                          refine hv2 (show 0 ≤ vh5 25 ∧ vh5 25 ≤ 208 from bn5.1 25) (show f5 = 0 ∨ (f5 = 1 ∧ (vh5 25) ≤ 200) from ex5) (fun rv17 gf5 => ?_)
                          refine m_st (st2 := [.int (iI f5)]) rfl ?_
                          refine m_if_ne (tgt := 135) C (r32_0p gf5) dX12_setWord_130 (by decide) (fun c16 => ?_) (fun c16 => ?_)
                          · replace gf5 := (gf5.resolve_left c16)
                            refine m_iload (j := 0) C dX12_setWord_135 rfl ?_
                            refine m_aload_n (j := 4) C dX12_setWord_137 rfl ?_
                            refine hv2 (show 0 ≤ vh5 23 ∧ vh5 23 ≤ 500 from bn5.1 23) (show vh5 23 = vb3 23 from fn5.1 23 rfl) (fun rv18 ve9 => ?_)
                            refine m_get (k := 23) C dX12_setWord_138 w6_82 (by decide) rfl ?_
                            refine m_st (st2 := [.int (iI (v 23)), .int (iI y)]) (congrArg (fun z => Value.int (iI z) :: [.int (iI y)]) (fq10.1 23 rfl)) ?_
                            refine m_icmp_ne (tgt := 146) C ⟨by omega, by omega⟩ (r32_c (lo := 0) (hi := 500) (Int.le_trans rv1.1 (Int.le_of_eq ve1)) (Int.le_trans (Int.le_of_eq ve1.symm) rv1.2) (by decide) (by decide)) dX12_setWord_141 (by decide) (fun _ => ?_) (fun z => absurd z (by omega))
                            refine m_iload_n (j := 2) C dX12_setWord_146 rfl ?_
                            refine m_if_eq (tgt := 154) C (r32_01 hg) dX12_setWord_147 (by decide) (fun _ => ?_) (fun z => absurd z (by omega))
                            refine m_iconst C dX12_setWord_154 ?_
                            refine m_istore (lv2 := [(6, .int (iI 2)), (5, .int (iI y)), (4, .int (iI sg)), (2, .int (iI g)), (3, .int (iI x)), (0, .ref h0), (1, .int (iI t))]) C dX12_setWord_155 (by decide) rfl ?_
                            refine m_aload_n (j := 5) C dX12_setWord_157 rfl ?_
                            refine m_geta (k := 16) C dX12_setWord_158 w6_75 (by decide) rfl ?_
                            refine m_iconst C dX12_setWord_161 ?_
                            refine m_iload_n (j := 6) C dX12_setWord_162 rfl ?_
                            refine m_imul C dX12_setWord_163 ?_
                            refine m_iload (j := 0) C dX12_setWord_164 rfl ?_
                            refine m_iadd C dX12_setWord_166 ?_
                            refine m_ald (k := 16) C dX12_setWord_167 rfl rfl (by decide) (by omega) (by show _ < ((_ : Nat) : Int); simp only [mlen]; omega) (by decide) ?_
                            refine hv3 (show 0 ≤ ah5 16 ((4 * t) + 2).toNat ∧ ah5 16 ((4 * t) + 2).toNat ≤ 4 from bn5.2 16 (((4 * t) + 2).toNat)) (show ah5 16 (((4 * t) + 2).toNat) = ab3 16 (((4 * t) + 2).toNat) from congrFun (fn5.2 16 rfl) (((4 * t) + 2).toNat)) (show ab3 16 (((4 * t) + 2).toNat) = a 16 (((4 * t) + 2).toNat) from congrFun (fpb3.2 16 rfl) (((4 * t) + 2).toNat)) (fun ra15 ae22 ae23 => ?_)
                            refine m_st (st2 := [.int (iI (a 16 ((4 * t) + 2).toNat))]) (congrArg (fun z => Value.int (iI z) :: []) (congrFun (fq10.2 16 rfl) (((4 * t) + 2).toNat))) ?_
                            refine m_if_ne (tgt := 184) C ⟨by omega, by omega⟩ dX12_setWord_168 (by decide) (fun c17 => ?_) (fun c17 => ?_)
                            · refine m_aload_n (j := 5) C dX12_setWord_184 rfl ?_
                              refine m_iload_n (j := 6) C dX12_setWord_185 rfl ?_
                              refine m_iload (j := 0) C dX12_setWord_186 rfl ?_
                              refine m_call (mc2 := 0) (ms2 := 0) (As := [.int (iI t), .int (iI 2)]) (rest := []) C (E_putIndicator (t := t) (w1 := 2) bn5 (by show 0 ≤ t ∧ t < 30; omega) (by show 0 ≤ (2 : Int) ∧ (2 : Int) ≤ 3; omega) (by show (vh5 25) ≤ 204; omega)) dX12_setWord_188 kV_X12_227 rfl ck_13 rfl (Nat.le_of_ble_eq_true rfl) ⟨Nat.le_of_ble_eq_true rfl, Nat.le_of_ble_eq_true rfl⟩ ⟨Nat.le_of_ble_eq_true rfl, Nat.le_of_ble_eq_true rfl⟩ (fun rh6 vh6 ah6 h6 => ?_)
                              obtain ⟨rfl, fn6, bn6, ex6⟩ := h6
                              have fq11 := fq10.call fn6 rfl rfl
                              obtain ⟨ex6, tl6⟩ := ex6
                              refine hv6 (show 0 ≤ vh6 25 ∧ vh6 25 ≤ 208 from bn6.1 25) (show (vh6 25) = (vh5 25) + ah5 16 (4 * t + (2 : Int)).toNat from ex6) (show 0 ≤ ah6 16 (4 * t + (2 : Int)).toNat ∧ ah6 16 (4 * t + (2 : Int)).toNat ≤ 4 from bn6.2 16 ((4 * t + (2 : Int)).toNat)) (show ah6 16 ((4 * t + (2 : Int)).toNat) = ah5 16 ((4 * t + (2 : Int)).toNat) from congrFun (fn6.2 16 rfl) ((4 * t + (2 : Int)).toNat)) (show ah5 16 ((4 * t + (2 : Int)).toNat) = ab3 16 ((4 * t + (2 : Int)).toNat) from congrFun (fn5.2 16 rfl) ((4 * t + (2 : Int)).toNat)) (show ab3 16 ((4 * t + (2 : Int)).toNat) = a 16 ((4 * t + (2 : Int)).toNat) from congrFun (fpb3.2 16 rfl) ((4 * t + (2 : Int)).toNat)) (fun rv19 gf6 ra16 ae24 ae25 ae26 => ?_)
                              refine m_st (st2 := []) rfl ?_
                              refine m_aload_n (j := 5) C dX12_setWord_191 rfl ?_
                              refine m_get (k := 25) C dX12_setWord_192 w6_84 (by decide) rfl ?_
                              refine m_sipush (z := 200) C dX12_setWord_195 (by decide) ?_
                              refine m_icmp_le (tgt := 208) C (r32_c (lo := 0) (hi := 208) rv19.1 rv19.2 (by decide) (by decide)) ⟨by decide, by decide⟩ dX12_setWord_198 (by decide) (fun c18 => ?_) (fun c18 => ?_)
                              · refine m_iload_n (j := 3) C dX12_setWord_208 rfl ?_
                                refine m_if_ne (tgt := 216) C (r32_01 hg) dX12_setWord_209 (by decide) (fun z => absurd z (by omega)) (fun _ => ?_)
                                refine m_iconst C dX12_setWord_212 ?_
                                refine m_goto (tgt := 217) C dX12_setWord_213 (by decide) ?_
                                refine m_istore_n (lv2 := [(2, .int (iI 1)), (6, .int (iI 2)), (5, .int (iI y)), (4, .int (iI sg)), (3, .int (iI x)), (0, .ref h0), (1, .int (iI t))]) C dX12_setWord_217 (by decide) rfl ?_
                                refine m_iload (j := 2) C dX12_setWord_218 rfl ?_
                                refine m_iconst C dX12_setWord_220 ?_
                                refine m_iadd C dX12_setWord_221 ?_
                                refine m_istore_n (lv2 := [(3, .int (iI (y + 1))), (2, .int (iI 1)), (6, .int (iI 2)), (5, .int (iI y)), (4, .int (iI sg)), (0, .ref h0), (1, .int (iI t))]) C dX12_setWord_222 (by decide) rfl ?_
                                refine m_goto (tgt := 53) C dX12_setWord_223 (by decide) ?_
                                refine m_lv (lv2 := [(2, .int (iI 1)), (3, .int (iI (y + 1))), (0, .ref h0), (1, .int (iI t))]) [1, 0, 5, 6] rfl ?_
                                exact ih2  1 (y + 1) _ _ (by omega) bn6 fq11 (by omega) (by omega) (by show vh6 25 ≤ 200; omega) (JW.re (JW.next hJ2 hg (TBE.fr fpb3 rfl) rfl ⟨by omega, by omega⟩ hN (show a 20 y.toNat = sgj g by unfold sgj; split <;> omega) (by unfold ind4; rw [if_neg (by omega)]; omega) (by unfold prt; rw [if_neg (by omega)]) (tl5.re rfl (by omega)) tl6 (by unfold ind4; rw [if_neg (by omega)]) (fq10.2 16 rfl) (fq10.2 17 rfl) (fn6.2 20 rfl)) (by omega))
                              · refine m_aload_n (j := 5) C dX12_setWord_201 rfl ?_
                                refine m_iconst C dX12_setWord_202 ?_
                                refine m_put (k := 28) (z := (-1)) C dX12_setWord_203 w6_87 (by decide) rfl rfl rfl ?_
                                refine hv2 (show BX (va_up vh6 28 (-1)) ah6 from bn6.put (k := 28) (z := (-1)) ⟨by decide, by decide⟩) (fq11.put (k := 28) (z := (-1)) rfl) (fun bq6 fq12 => ?_)
                                refine m_iconst C dX12_setWord_206 ?_
                                exact m_zret C dX12_setWord_207 rfl (Or.inl rfl) (Nat.le_of_ble_eq_true rfl) (Nat.le_of_ble_eq_true rfl) ⟨0, rfl, fq12, bq6, ⟨(Or.inl rfl), JW.many hJ2 hT ht (by omega) (TBE.fr fpb3 rfl) rfl ⟨by omega, by omega⟩ hN (show a 20 y.toNat = sgj g by unfold sgj; split <;> omega) (by unfold prt; rw [if_neg (by omega)]) (tl5.re rfl (by omega)) (by unfold ind4; rw [if_neg (by omega)]; omega) (by unfold ind4; rw [if_neg (by omega)]; omega) (fn6.2 20 rfl), (fun _ e => absurd e (by omega))⟩⟩
                            · refine m_aload_n (j := 5) C dX12_setWord_171 rfl ?_
                              refine m_aload_n (j := 5) C dX12_setWord_172 rfl ?_
                              refine m_geta (k := 21) C dX12_setWord_173 w6_80 (by decide) rfl ?_
                              refine m_iload (j := 1) C dX12_setWord_176 rfl ?_
                              refine m_ald (k := 21) C dX12_setWord_178 rfl rfl (by decide) (by omega) (by show _ < ((_ : Nat) : Int); simp only [mlen]; omega) (by decide) ?_
                              refine hv3 (show (-2147483648) ≤ ah5 21 y.toNat ∧ ah5 21 y.toNat ≤ 2147483647 from bn5.2 21 (y.toNat)) (show ah5 21 (y.toNat) = ab3 21 (y.toNat) from congrFun (fn5.2 21 rfl) (y.toNat)) (show ab3 21 (y.toNat) = a 21 (y.toNat) from congrFun (fpb3.2 21 rfl) (y.toNat)) (fun ra17 ae27 ae28 => ?_)
                              refine m_st (st2 := [.int (iI (a 21 y.toNat)), .ref h0]) (congrArg (fun z => Value.int (iI z) :: [.ref h0]) (congrFun (fq10.2 21 rfl) (y.toNat))) ?_
                              refine m_put (k := 28) (z := a 21 y.toNat) C dX12_setWord_179 w6_87 (by decide) rfl rfl rfl ?_
                              refine hv2 (show BX (va_up vh5 28 (a 21 y.toNat)) ah5 from bn5.put (k := 28) (z := a 21 y.toNat) (show (-2147483648) ≤ (a 21 y.toNat) ∧ (a 21 y.toNat) ≤ 2147483647 by omega)) (fq10.put (k := 28) (z := a 21 y.toNat) rfl) (fun bq7 fq13 => ?_)
                              refine m_iconst C dX12_setWord_182 ?_
                              exact m_zret C dX12_setWord_183 rfl (Or.inl rfl) (Nat.le_of_ble_eq_true rfl) (Nat.le_of_ble_eq_true rfl) ⟨0, rfl, fq13, bq7, ⟨(Or.inl rfl), JW.nosign hJ2 hT ht (by omega) rfl ⟨by omega, by omega⟩ hN (show a 20 y.toNat = sgj g by unfold sgj; split <;> omega) (by unfold ind4; rw [if_neg (by omega)]; omega) (tl5.1.trans hJ2.1), (fun _ e => absurd e (by omega))⟩⟩
                          · clear gf5
                            refine m_iconst C dX12_setWord_133 ?_
                            exact m_zret C dX12_setWord_134 rfl (Or.inl rfl) (Nat.le_of_ble_eq_true rfl) (Nat.le_of_ble_eq_true rfl) ⟨0, rfl, fq10, bn5, ⟨(Or.inl rfl), JW.part hJ2 hT ht (by omega) (TBE.fr fpb3 rfl) rfl ⟨by omega, by omega⟩ hN (Or.inr (show a 20 y.toNat = sgj g by unfold sgj; split <;> omega)) (by unfold prt; rw [if_neg (by omega)]) tl5 (by omega) rfl, (fun _ e => absurd e (by omega))⟩⟩
                        · refine m_aload_n (j := 4) C dX12_setWord_109 rfl ?_
                          refine m_geta (k := 9) C dX12_setWord_110 w6_68 (by decide) rfl ?_
                          refine m_iload_n (j := 5) C dX12_setWord_113 rfl ?_
                          refine m_ald (k := 9) C dX12_setWord_114 rfl rfl (by decide) (by omega) (by show _ < ((_ : Nat) : Int); simp only [mlen]; omega) (by decide) ?_
                          refine hv2 (show (-1) ≤ ab3 9 t.toNat ∧ ab3 9 t.toNat ≤ 29 from bxb3.2 9 (t.toNat)) (show ab3 9 (t.toNat) = a 9 (t.toNat) from congrFun (fpb3.2 9 rfl) (t.toNat)) (fun ra18 ae29 => ?_)
                          refine m_st (st2 := [.int (iI (a 9 t.toNat)), .ref h0]) (congrArg (fun z => Value.int (iI z) :: [.ref h0]) (congrFun (fpb3.2 9 rfl) (t.toNat))) ?_
                          refine m_goto (tgt := 124) C dX12_setWord_115 (by decide) ?_
                          refine m_iload_n (j := 3) C dX12_setWord_124 rfl ?_
                          refine m_iload (j := 0) C dX12_setWord_125 rfl ?_
                          refine hv5 (show 0 ≤ vb3 4 ∧ vb3 4 ≤ 30 from bxb3.1 4) (show vb3 4 = v 4 from fpb3.1 4 rfl) (show 0 ≤ ab3 6 (a 9 t.toNat).toNat ∧ ab3 6 (a 9 t.toNat).toNat ≤ 5 from bxb3.2 6 ((a 9 t.toNat).toNat)) (show ab3 6 ((a 9 t.toNat).toNat) = a 6 ((a 9 t.toNat).toNat) from congrFun (fpb3.2 6 rfl) ((a 9 t.toNat).toNat)) (show 0 ≤ vb3 25 ∧ vb3 25 ≤ 208 from bxb3.1 25) (fun rv20 ve10 ra19 ae30 rv21 => ?_)
                          refine m_call (mc2 := 0) (ms2 := 0) (As := [.int (iI (a 9 t.toNat)), .int (iI x), .int (iI y)]) (rest := []) C (E_setPart (t := a 9 t.toNat) (q := x) (u := y) bxb3 (hT.fr fpb3 rfl rfl) (by show 0 ≤ (a 9 t.toNat) ∧ (a 9 t.toNat) < (vb3 4); omega) (by show ab3 6 (a 9 t.toNat).toNat ≤ 4; omega) (by show 0 ≤ x ∧ x ≤ y ∧ y ≤ 500; omega) (by show (vb3 25) ≤ 200; omega)) dX12_setWord_127 kV_X12_237 rfl ck_13 rfl (Nat.le_of_ble_eq_true rfl) ⟨Nat.le_of_ble_eq_true rfl, Nat.le_of_ble_eq_true rfl⟩ ⟨Nat.le_of_ble_eq_true rfl, Nat.le_of_ble_eq_true rfl⟩ (fun rh7 vh7 ah7 h7 => ?_)
                          obtain ⟨f7, rfl, fn7, bn7, ex7⟩ := h7
                          have fq14 := fpb3.call fn7 rfl rfl
                          obtain ⟨ex7, tl7⟩ := ex7
                          refine hv2 (show 0 ≤ vh7 25 ∧ vh7 25 ≤ 208 from bn7.1 25) (show f7 = 0 ∨ (f7 = 1 ∧ (vh7 25) ≤ 200) from ex7) (fun rv22 gf7 => ?_)
                          refine m_st (st2 := [.int (iI f7)]) rfl ?_
                          refine m_if_ne (tgt := 135) C (r32_0p gf7) dX12_setWord_130 (by decide) (fun c19 => ?_) (fun c19 => ?_)
                          · replace gf7 := (gf7.resolve_left c19)
                            refine m_iload (j := 0) C dX12_setWord_135 rfl ?_
                            refine m_aload_n (j := 4) C dX12_setWord_137 rfl ?_
                            refine hv2 (show 0 ≤ vh7 23 ∧ vh7 23 ≤ 500 from bn7.1 23) (show vh7 23 = vb3 23 from fn7.1 23 rfl) (fun rv23 ve11 => ?_)
                            refine m_get (k := 23) C dX12_setWord_138 w6_82 (by decide) rfl ?_
                            refine m_st (st2 := [.int (iI (v 23)), .int (iI y)]) (congrArg (fun z => Value.int (iI z) :: [.int (iI y)]) (fq14.1 23 rfl)) ?_
                            refine m_icmp_ne (tgt := 146) C ⟨by omega, by omega⟩ (r32_c (lo := 0) (hi := 500) (Int.le_trans rv1.1 (Int.le_of_eq ve1)) (Int.le_trans (Int.le_of_eq ve1.symm) rv1.2) (by decide) (by decide)) dX12_setWord_141 (by decide) (fun _ => ?_) (fun z => absurd z (by omega))
                            refine m_iload_n (j := 2) C dX12_setWord_146 rfl ?_
                            refine m_if_eq (tgt := 154) C (r32_01 hg) dX12_setWord_147 (by decide) (fun z => absurd z (by omega)) (fun _ => ?_)
                            refine m_iconst C dX12_setWord_150 ?_
                            refine m_goto (tgt := 155) C dX12_setWord_151 (by decide) ?_
                            refine m_istore (lv2 := [(6, .int (iI 3)), (5, .int (iI y)), (4, .int (iI sg)), (2, .int (iI g)), (3, .int (iI x)), (0, .ref h0), (1, .int (iI t))]) C dX12_setWord_155 (by decide) rfl ?_
                            refine m_aload_n (j := 5) C dX12_setWord_157 rfl ?_
                            refine m_geta (k := 16) C dX12_setWord_158 w6_75 (by decide) rfl ?_
                            refine m_iconst C dX12_setWord_161 ?_
                            refine m_iload_n (j := 6) C dX12_setWord_162 rfl ?_
                            refine m_imul C dX12_setWord_163 ?_
                            refine m_iload (j := 0) C dX12_setWord_164 rfl ?_
                            refine m_iadd C dX12_setWord_166 ?_
                            refine m_ald (k := 16) C dX12_setWord_167 rfl rfl (by decide) (by omega) (by show _ < ((_ : Nat) : Int); simp only [mlen]; omega) (by decide) ?_
                            refine hv3 (show 0 ≤ ah7 16 ((4 * t) + 3).toNat ∧ ah7 16 ((4 * t) + 3).toNat ≤ 4 from bn7.2 16 (((4 * t) + 3).toNat)) (show ah7 16 (((4 * t) + 3).toNat) = ab3 16 (((4 * t) + 3).toNat) from congrFun (fn7.2 16 rfl) (((4 * t) + 3).toNat)) (show ab3 16 (((4 * t) + 3).toNat) = a 16 (((4 * t) + 3).toNat) from congrFun (fpb3.2 16 rfl) (((4 * t) + 3).toNat)) (fun ra20 ae31 ae32 => ?_)
                            refine m_st (st2 := [.int (iI (a 16 ((4 * t) + 3).toNat))]) (congrArg (fun z => Value.int (iI z) :: []) (congrFun (fq14.2 16 rfl) (((4 * t) + 3).toNat))) ?_
                            refine m_if_ne (tgt := 184) C ⟨by omega, by omega⟩ dX12_setWord_168 (by decide) (fun c20 => ?_) (fun c20 => ?_)
                            · refine m_aload_n (j := 5) C dX12_setWord_184 rfl ?_
                              refine m_iload_n (j := 6) C dX12_setWord_185 rfl ?_
                              refine m_iload (j := 0) C dX12_setWord_186 rfl ?_
                              refine m_call (mc2 := 0) (ms2 := 0) (As := [.int (iI t), .int (iI 3)]) (rest := []) C (E_putIndicator (t := t) (w1 := 3) bn7 (by show 0 ≤ t ∧ t < 30; omega) (by show 0 ≤ (3 : Int) ∧ (3 : Int) ≤ 3; omega) (by show (vh7 25) ≤ 204; omega)) dX12_setWord_188 kV_X12_227 rfl ck_13 rfl (Nat.le_of_ble_eq_true rfl) ⟨Nat.le_of_ble_eq_true rfl, Nat.le_of_ble_eq_true rfl⟩ ⟨Nat.le_of_ble_eq_true rfl, Nat.le_of_ble_eq_true rfl⟩ (fun rh8 vh8 ah8 h8 => ?_)
                              obtain ⟨rfl, fn8, bn8, ex8⟩ := h8
                              have fq15 := fq14.call fn8 rfl rfl
                              obtain ⟨ex8, tl8⟩ := ex8
                              refine hv6 (show 0 ≤ vh8 25 ∧ vh8 25 ≤ 208 from bn8.1 25) (show (vh8 25) = (vh7 25) + ah7 16 (4 * t + (3 : Int)).toNat from ex8) (show 0 ≤ ah8 16 (4 * t + (3 : Int)).toNat ∧ ah8 16 (4 * t + (3 : Int)).toNat ≤ 4 from bn8.2 16 ((4 * t + (3 : Int)).toNat)) (show ah8 16 ((4 * t + (3 : Int)).toNat) = ah7 16 ((4 * t + (3 : Int)).toNat) from congrFun (fn8.2 16 rfl) ((4 * t + (3 : Int)).toNat)) (show ah7 16 ((4 * t + (3 : Int)).toNat) = ab3 16 ((4 * t + (3 : Int)).toNat) from congrFun (fn7.2 16 rfl) ((4 * t + (3 : Int)).toNat)) (show ab3 16 ((4 * t + (3 : Int)).toNat) = a 16 ((4 * t + (3 : Int)).toNat) from congrFun (fpb3.2 16 rfl) ((4 * t + (3 : Int)).toNat)) (fun rv24 gf8 ra21 ae33 ae34 ae35 => ?_)
                              refine m_st (st2 := []) rfl ?_
                              refine m_aload_n (j := 5) C dX12_setWord_191 rfl ?_
                              refine m_get (k := 25) C dX12_setWord_192 w6_84 (by decide) rfl ?_
                              refine m_sipush (z := 200) C dX12_setWord_195 (by decide) ?_
                              refine m_icmp_le (tgt := 208) C (r32_c (lo := 0) (hi := 208) rv24.1 rv24.2 (by decide) (by decide)) ⟨by decide, by decide⟩ dX12_setWord_198 (by decide) (fun c21 => ?_) (fun c21 => ?_)
                              · refine m_iload_n (j := 3) C dX12_setWord_208 rfl ?_
                                refine m_if_ne (tgt := 216) C (r32_01 hg) dX12_setWord_209 (by decide) (fun _ => ?_) (fun z => absurd z (by omega))
                                refine m_iconst C dX12_setWord_216 ?_
                                refine m_istore_n (lv2 := [(2, .int (iI 0)), (6, .int (iI 3)), (5, .int (iI y)), (4, .int (iI sg)), (3, .int (iI x)), (0, .ref h0), (1, .int (iI t))]) C dX12_setWord_217 (by decide) rfl ?_
                                refine m_iload (j := 2) C dX12_setWord_218 rfl ?_
                                refine m_iconst C dX12_setWord_220 ?_
                                refine m_iadd C dX12_setWord_221 ?_
                                refine m_istore_n (lv2 := [(3, .int (iI (y + 1))), (2, .int (iI 0)), (6, .int (iI 3)), (5, .int (iI y)), (4, .int (iI sg)), (0, .ref h0), (1, .int (iI t))]) C dX12_setWord_222 (by decide) rfl ?_
                                refine m_goto (tgt := 53) C dX12_setWord_223 (by decide) ?_
                                refine m_lv (lv2 := [(2, .int (iI 0)), (3, .int (iI (y + 1))), (0, .ref h0), (1, .int (iI t))]) [1, 0, 5, 6] rfl ?_
                                exact ih2  0 (y + 1) _ _ (by omega) bn8 fq15 (by omega) (by omega) (by show vh8 25 ≤ 200; omega) (JW.re (JW.next hJ2 hg (TBE.fr fpb3 rfl) rfl ⟨by omega, by omega⟩ hN (show a 20 y.toNat = sgj g by unfold sgj; split <;> omega) (by unfold ind4; rw [if_pos (by omega)]; omega) (by unfold prt; rw [if_pos (by omega)]) (tl7.re rfl (by omega)) tl8 (by unfold ind4; rw [if_pos (by omega)]) (fq14.2 16 rfl) (fq14.2 17 rfl) (fn8.2 20 rfl)) (by omega))
                              · refine m_aload_n (j := 5) C dX12_setWord_201 rfl ?_
                                refine m_iconst C dX12_setWord_202 ?_
                                refine m_put (k := 28) (z := (-1)) C dX12_setWord_203 w6_87 (by decide) rfl rfl rfl ?_
                                refine hv2 (show BX (va_up vh8 28 (-1)) ah8 from bn8.put (k := 28) (z := (-1)) ⟨by decide, by decide⟩) (fq15.put (k := 28) (z := (-1)) rfl) (fun bq8 fq16 => ?_)
                                refine m_iconst C dX12_setWord_206 ?_
                                exact m_zret C dX12_setWord_207 rfl (Or.inl rfl) (Nat.le_of_ble_eq_true rfl) (Nat.le_of_ble_eq_true rfl) ⟨0, rfl, fq16, bq8, ⟨(Or.inl rfl), JW.many hJ2 hT ht (by omega) (TBE.fr fpb3 rfl) rfl ⟨by omega, by omega⟩ hN (show a 20 y.toNat = sgj g by unfold sgj; split <;> omega) (by unfold prt; rw [if_pos (by omega)]) (tl7.re rfl (by omega)) (by unfold ind4; rw [if_pos (by omega)]; omega) (by unfold ind4; rw [if_pos (by omega)]; omega) (fn8.2 20 rfl), (fun _ e => absurd e (by omega))⟩⟩
                            · refine m_aload_n (j := 5) C dX12_setWord_171 rfl ?_
                              refine m_aload_n (j := 5) C dX12_setWord_172 rfl ?_
                              refine m_geta (k := 21) C dX12_setWord_173 w6_80 (by decide) rfl ?_
                              refine m_iload (j := 1) C dX12_setWord_176 rfl ?_
                              refine m_ald (k := 21) C dX12_setWord_178 rfl rfl (by decide) (by omega) (by show _ < ((_ : Nat) : Int); simp only [mlen]; omega) (by decide) ?_
                              refine hv3 (show (-2147483648) ≤ ah7 21 y.toNat ∧ ah7 21 y.toNat ≤ 2147483647 from bn7.2 21 (y.toNat)) (show ah7 21 (y.toNat) = ab3 21 (y.toNat) from congrFun (fn7.2 21 rfl) (y.toNat)) (show ab3 21 (y.toNat) = a 21 (y.toNat) from congrFun (fpb3.2 21 rfl) (y.toNat)) (fun ra22 ae36 ae37 => ?_)
                              refine m_st (st2 := [.int (iI (a 21 y.toNat)), .ref h0]) (congrArg (fun z => Value.int (iI z) :: [.ref h0]) (congrFun (fq14.2 21 rfl) (y.toNat))) ?_
                              refine m_put (k := 28) (z := a 21 y.toNat) C dX12_setWord_179 w6_87 (by decide) rfl rfl rfl ?_
                              refine hv2 (show BX (va_up vh7 28 (a 21 y.toNat)) ah7 from bn7.put (k := 28) (z := a 21 y.toNat) (show (-2147483648) ≤ (a 21 y.toNat) ∧ (a 21 y.toNat) ≤ 2147483647 by omega)) (fq14.put (k := 28) (z := a 21 y.toNat) rfl) (fun bq9 fq17 => ?_)
                              refine m_iconst C dX12_setWord_182 ?_
                              exact m_zret C dX12_setWord_183 rfl (Or.inl rfl) (Nat.le_of_ble_eq_true rfl) (Nat.le_of_ble_eq_true rfl) ⟨0, rfl, fq17, bq9, ⟨(Or.inl rfl), JW.nosign hJ2 hT ht (by omega) rfl ⟨by omega, by omega⟩ hN (show a 20 y.toNat = sgj g by unfold sgj; split <;> omega) (by unfold ind4; rw [if_pos (by omega)]; omega) (tl7.1.trans hJ2.1), (fun _ e => absurd e (by omega))⟩⟩
                          · clear gf7
                            refine m_iconst C dX12_setWord_133 ?_
                            exact m_zret C dX12_setWord_134 rfl (Or.inl rfl) (Nat.le_of_ble_eq_true rfl) (Nat.le_of_ble_eq_true rfl) ⟨0, rfl, fq14, bn7, ⟨(Or.inl rfl), JW.part hJ2 hT ht (by omega) (TBE.fr fpb3 rfl) rfl ⟨by omega, by omega⟩ hN (Or.inr (show a 20 y.toNat = sgj g by unfold sgj; split <;> omega)) (by unfold prt; rw [if_pos (by omega)]) tl7 (by omega) rfl, (fun _ e => absurd e (by omega))⟩⟩
                      · refine m_iinc (z := y) (j := 0) (lv2 := [(5, .int (iI (y + 1))), (4, .int (iI sg)), (2, .int (iI g)), (3, .int (iI x)), (0, .ref h0), (1, .int (iI t))]) C dX12_setWord_98 rfl (by decide) rfl ?_
                        refine m_goto (tgt := 77) C dX12_setWord_101 (by decide) ?_
                        have rv25 : 0 ≤ vb3 25 ∧ vb3 25 ≤ 208 := bxb3.1 25
                        refine m_lv (lv2 := [(5, .int (iI (y + 1))), (4, .int (iI sg)), (2, .int (iI g)), (3, .int (iI x)), (0, .ref h0), (1, .int (iI t))]) [0, 1, 2, 3, 4, 5] rfl ?_
                        exact ih3  sg (y + 1) _ _ (by omega) bxb3 fpb3 (by omega) (by omega) (by show vb3 25 ≤ 200; omega) (hN.step (by unfold sgj; split <;> omega)) hJ2
                refine m_iload_n (j := 0) C dX12_setWord_61 rfl ?_
                refine m_if_eq (tgt := 70) C (r32_01 hg) dX12_setWord_62 (by decide) (fun c22 => ?_) (fun c22 => ?_)
                · refine m_bipush (z := 60) C dX12_setWord_70 (by decide) ?_
                  refine m_istore (lv2 := [(4, .int (iI 60)), (2, .int (iI g)), (3, .int (iI x)), (0, .ref h0), (1, .int (iI t))]) C dX12_setWord_72 (by decide) rfl ?_
                  refine m_iload_n (j := 2) C dX12_setWord_74 rfl ?_
                  refine m_istore (lv2 := [(5, .int (iI x)), (4, .int (iI 60)), (2, .int (iI g)), (3, .int (iI x)), (0, .ref h0), (1, .int (iI t))]) C dX12_setWord_75 (by decide) rfl ?_
                  have rv26 : 0 ≤ vb2 25 ∧ vb2 25 ≤ 208 := bxb2.1 25
                  refine m_lv (lv2 := [(5, .int (iI x)), (4, .int (iI 60)), (2, .int (iI g)), (3, .int (iI x)), (0, .ref h0), (1, .int (iI t))]) [0, 1, 2, 3, 4, 5] rfl ?_
                  exact Lp3 503 60 x _ _ (by omega) bxb2 fpb2 (by omega) (by omega) (by show vb2 25 ≤ 200; omega) NSG.zero hJ
                · refine m_bipush (z := 62) C dX12_setWord_65 (by decide) ?_
                  refine m_goto (tgt := 72) C dX12_setWord_67 (by decide) ?_
                  refine m_istore (lv2 := [(4, .int (iI 62)), (2, .int (iI g)), (3, .int (iI x)), (0, .ref h0), (1, .int (iI t))]) C dX12_setWord_72 (by decide) rfl ?_
                  refine m_iload_n (j := 2) C dX12_setWord_74 rfl ?_
                  refine m_istore (lv2 := [(5, .int (iI x)), (4, .int (iI 62)), (2, .int (iI g)), (3, .int (iI x)), (0, .ref h0), (1, .int (iI t))]) C dX12_setWord_75 (by decide) rfl ?_
                  have rv27 : 0 ≤ vb2 25 ∧ vb2 25 ≤ 208 := bxb2.1 25
                  refine m_lv (lv2 := [(5, .int (iI x)), (4, .int (iI 62)), (2, .int (iI g)), (3, .int (iI x)), (0, .ref h0), (1, .int (iI t))]) [0, 1, 2, 3, 4, 5] rfl ?_
                  exact Lp3 503 62 x _ _ (by omega) bxb2 fpb2 (by omega) (by omega) (by show vb2 25 ≤ 200; omega) NSG.zero hJ
          have rv28 : 0 ≤ vb1 25 ∧ vb1 25 ≤ 208 := bxb1.1 25
          refine m_lv (lv2 := [(2, .int (iI 0)), (3, .int (iI 0)), (0, .ref h0), (1, .int (iI t))]) [1, 0, 2, 3] rfl ?_
          exact Lp2 503 0 0 _ _ (by omega) bxb1 fpb1 (by omega) (by omega) (by show vb1 25 ≤ 200; omega) (JW.init (by omega) hw hb)
        · refine m_aload_n (j := 1) C dX12_setWord_38 rfl ?_
          refine m_iload_n (j := 2) C dX12_setWord_39 rfl ?_
          refine m_iconst C dX12_setWord_40 ?_
          refine m_aload_n (j := 1) C dX12_setWord_41 rfl ?_
          refine m_get (k := 23) C dX12_setWord_42 w6_82 (by decide) rfl ?_
          refine m_st (st2 := [.int (iI (v 23)), .int (iI 0), .int (iI t), .ref h0]) (congrArg (fun z => Value.int (iI z) :: [.int (iI 0), .int (iI t), .ref h0]) (fpb1.1 23 rfl)) ?_
          refine hv3 (show 0 ≤ vb1 4 ∧ vb1 4 ≤ 30 from bxb1.1 4) (show vb1 4 = v 4 from fpb1.1 4 rfl) (show 0 ≤ vb1 25 ∧ vb1 25 ≤ 208 from bxb1.1 25) (fun rv29 ve12 rv30 => ?_)
          refine m_call (mc2 := 0) (ms2 := 0) (As := [.int (iI t), .int (iI 0), .int (iI (v 23))]) (rest := []) C (E_setPart (t := t) (q := 0) (u := v 23) bxb1 (hT.fr fpb1 rfl rfl) (by show 0 ≤ t ∧ t < (vb1 4); omega) (by show ab1 6 t.toNat ≤ 4; omega) (by show 0 ≤ (0 : Int) ∧ (0 : Int) ≤ (v 23) ∧ (v 23) ≤ 500; omega) (by show (vb1 25) ≤ 200; omega)) dX12_setWord_45 kV_X12_237 rfl ck_13 rfl (Nat.le_of_ble_eq_true rfl) ⟨Nat.le_of_ble_eq_true rfl, Nat.le_of_ble_eq_true rfl⟩ ⟨Nat.le_of_ble_eq_true rfl, Nat.le_of_ble_eq_true rfl⟩ (fun rh9 vh9 ah9 h9 => ?_)
          obtain ⟨f9, rfl, fn9, bn9, ex9⟩ := h9
          have fq18 := fpb1.call fn9 rfl rfl
          obtain ⟨ex9, tl9⟩ := ex9
          refine hv2 (show 0 ≤ vh9 25 ∧ vh9 25 ≤ 208 from bn9.1 25) (show f9 = 0 ∨ (f9 = 1 ∧ (vh9 25) ≤ 200) from ex9) (fun rv31 gf9 => ?_)
          refine m_st (st2 := [.int (iI f9)]) rfl ?_
          exact m_zret C dX12_setWord_48 rfl (by omega) (Nat.le_of_ble_eq_true rfl) (Nat.le_of_ble_eq_true rfl) ⟨f9, rfl, fq18, bn9, ⟨(by show f9 = 0 ∨ (f9 = 1 ∧ (vh9 25) ≤ 200); omega), SWT.plain (by omega) (TBE.fr fpb1 rfl) hw (MDH.nil hb) rfl tl9, (SWB.plain (TBE.fr fpb1 rfl) hw (MDH.nil hb) rfl tl9 hb26 (by omega))⟩⟩
      · refine m_aload_n (j := 1) C dX12_setWord_15 rfl ?_
        refine m_geta (k := 26) C dX12_setWord_16 w6_85 (by decide) rfl ?_
        refine m_iload_n (j := 0) C dX12_setWord_19 rfl ?_
        refine m_iconst C dX12_setWord_20 ?_
        refine m_ast (k := 26) C dX12_setWord_21 rfl rfl (by decide) hk.1 (Int.lt_of_le_of_lt hk.2 (by decide)) (by decide) ?_
        refine hv2 (show BX vb1 (up2 ab1 26 k.toNat (-1)) from bxb1.set (k := 26) (i := k.toNat) (z := (-1)) ⟨by decide, by decide⟩) (fpb1.set (k := 26) (i := k.toNat) (z := (-1)) rfl) (fun bq10 fq19 => ?_)
        refine m_iinc (z := k) (j := 0) (lv2 := [(2, .int (iI (k + 1))), (0, .ref h0), (1, .int (iI t))]) C dX12_setWord_22 rfl (by decide) rfl ?_
        refine m_goto (tgt := 7) C dX12_setWord_25 (by decide) ?_
        have rv32 : 0 ≤ vb1 25 ∧ vb1 25 ≤ 208 := bq10.1 25
        refine m_lv (lv2 := [(2, .int (iI (k + 1))), (0, .ref h0), (1, .int (iI t))]) [0, 1, 2] rfl ?_
        exact ih1  (k + 1) _ _ (by omega) bq10 fq19 (by omega) (by show (vb1 25) = 0; omega) ((funext fun _ => up2_k (by decide)).trans hw) (fun j hj => by unfold up2; rw [if_pos rfl]; split; rfl; exact hb26 j (by omega))
  refine m_lv (lv2 := [(2, .int (iI 0)), (0, .ref h0), (1, .int (iI t))]) [0, 1, 2] rfl ?_
  exact Lp1 503 0 _ _ (by omega) bq1 fq1 (by omega) (by show 0 = 0; omega) rfl (fun j hj => absurd hj (by omega))
