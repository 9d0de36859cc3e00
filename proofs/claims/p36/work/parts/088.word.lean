def sgj (g : Int) : Int := if g = 1 then 62 else 60
def prt (a : Nat → Nat → Int) (t g : Int) : Int := if g = 1 then a 9 t.toNat else a 8 t.toNat
def ind4 (t g : Int) : Int := if g = 1 then 4 * t + 3 else 4 * t + 2
def NSG (W : Nat → Int) (c x y : Int) : Prop := ∀ j : Int, x ≤ j → j < y → W j.toNat ≠ c
def SEG (a : Nat → Nat → Int) (W : Nat → Int) (n t g x y : Int) (ps : List (Int × List Int)) : Prop := (x ≤ y ∧ y ≤ n) ∧ NSG W (sgj g) x y ∧ (y = n ∨ W y.toNat = sgj g) ∧ ∃ z, ptp a W (prt a t g) x y x ps z ∧ y ≤ z
def jtp (a : Nat → Nat → Int) (W : Nat → Int) (n t : Int) : Int → Int → List (Int × List (Int × List Int)) → Int → Int → Prop
  | g, x, [], g2, x2 => g = g2 ∧ x = x2
  | g, x, p :: js, g2, x2 => SEG a W n t g x p.1 p.2 ∧ p.1 < n ∧ 0 < a 16 (ind4 t g).toNat ∧ jtp a W n t (1 - g) (p.1 + 1) js g2 x2
def jcl (a : Nat → Nat → Int) (t : Int) : Int → List (Int × List (Int × List Int)) → List Int
  | _, [] => []
  | g, p :: js => (cls p.2 ++ ICL a (ind4 t g)) ++ jcl a t (1 - g) js
def SWC (a : Nat → Nat → Int) (W : Nat → Int) (n t : Int) (cs : List Int) : Prop := (a 6 t.toNat ≠ 5 ∧ ∃ ps, SPS a W t 0 n 0 ps ∧ cs = cls ps) ∨ (a 6 t.toNat = 5 ∧ cs.length ≤ 200 ∧ ∃ js ps g x, jtp a W n t 0 0 js g x ∧ SEG a W n t g x n ps ∧ cs = jcl a t 0 js ++ cls ps)
def SWT (v : Nat → Int) (a : Nat → Nat → Int) (v2 : Nat → Int) (a2 : Nat → Nat → Int) (t f : Int) : Prop := a2 20 = a 20 ∧ (f = 1 → ∃ cs, SWC a (a 20) (v 23) t cs ∧ MDH v2 a2 cs) ∧ (f ≠ 1 → ¬ ∃ cs, SWC a (a 20) (v 23) t cs)
def JW (v : Nat → Int) (a : Nat → Nat → Int) (v2 : Nat → Int) (a2 : Nat → Nat → Int) (t g x : Int) : Prop := a2 20 = a 20 ∧ ∃ js, jtp a (a 20) (v 23) t 0 0 js g x ∧ MDH v2 a2 (jcl a t 0 js)
section WORD
variable {v v1 v2 v3 : Nat → Int} {V1 A1 : List Nat} {a a1 a2 a3 : Nat → Nat → Int} {W : Nat → Int} {q u x y z t r k f I c g g2 x2 n l m : Int} {cs ds l0 : List Int} {ps qs : List (Int × List Int)} {js : List (Int × List (Int × List Int))}
theorem RCL_cg (h13 : a1 13 = a 13) (h15 : a1 15 = a 15) : RCL a1 r = RCL a r := by unfold RCL; rw [h13, h15]
theorem nbl_cg (h6 : a1 6 = a 6) (h16 : a1 16 = a 16) (h17 : a1 17 = a 17) : nbl a1 W t q x = nbl a W t q x := by unfold nbl; rw [h6, ICL_cg h16 h17]
def TBE (a1 a : Nat → Nat → Int) : Prop := ∀ j, j ∈ ([6, 8, 9, 10, 11, 12, 13, 14, 15, 16, 17] : List Nat) → a1 j = a j
theorem TBE.fr {A1 : List Nat} (f1 : fr V1 A1 v a v1 a1) (hA : ([6, 8, 9, 10, 11, 12, 13, 14, 15, 16, 17] : List Nat).all (fun j => !A1.contains j) = true) : TBE a1 a := fun j hj => f1.2 j (by have := List.all_eq_true.mp hA j hj; simpa using this)
theorem TBE.symm (h : TBE a1 a) : TBE a a1 := fun j hj => (h j hj).symm
theorem PC1_cg (h : TBE a1 a) (hp : PC1 a1 W t q u x l cs) : PC1 a W t q u x l cs := by
  have g6 := h 6 (by decide); have g8 := h 8 (by decide); have g10 := h 10 (by decide); have g11 := h 11 (by decide); have g12 := h 12 (by decide); have g13 := h 13 (by decide); have g14 := h 14 (by decide); have g15 := h 15 (by decide); have g16 := h 16 (by decide); have g17 := h 17 (by decide)
  obtain ⟨r, ⟨p1, p2⟩, p3⟩ := hp
  rw [g12] at p2
  refine ⟨r, ⟨p1, p2⟩, ?_⟩
  rcases p3 with ⟨p4, p5⟩ | ⟨p4, p5, p6, p7⟩
  · rw [nbl_cg g6 g16 g17, RCL_cg g13 g15] at p5
    exact Or.inl ⟨fnd_cg g6 g8 g10 g11 g12 g14 _ _ _ _ p4, p5⟩
  · rw [nbl_cg g6 g16 g17, RCL_cg g13 g15, ICL_cg g16 g17] at p7
    rw [g6, g16] at p5
    exact Or.inr ⟨fnd_cg g6 g8 g10 g11 g12 g14 _ _ _ _ p4, p5, fnd_cg g6 g8 g10 g11 g12 g14 _ _ _ _ p6, p7⟩
theorem ptp_cg (h : TBE a1 a) : ∀ (ps : List (Int × List Int)) (x y : Int), ptp a1 W t q u x ps y → ptp a W t q u x ps y := by
  intro ps
  induction ps with
  | nil => intro x y e; exact e
  | cons p ps ih =>
    intro x y e
    obtain ⟨h1, h2, l, h3, h4⟩ := e
    exact ⟨h1, h2, l, PC1_cg h h3, ih _ _ h4⟩
theorem SPS_cg (h : TBE a1 a) (hp : SPS a1 W t q u m ps) : SPS a W t q u m ps := by
  obtain ⟨⟨y, h1, h2⟩, h3⟩ := hp
  exact ⟨⟨y, ptp_cg h _ _ _ h1, h2⟩, h3⟩
theorem SPT.use (h : SPT v1 a1 v2 a2 t q u f) (hE : TBE a1 a) (hw : a1 20 = W) (hl : MDH v1 a1 l0) : a2 20 = W ∧ (f = 1 → ∃ ps, SPS a W t q u l0.length ps ∧ MDH v2 a2 (l0 ++ cls ps)) ∧ (f ≠ 1 → ¬ ∃ ps, SPS a W t q u l0.length ps) := by
  obtain ⟨h1, h2⟩ := h
  obtain ⟨p1, p2⟩ := h2 l0 hl
  rw [hw] at p1 p2
  refine ⟨h1.trans hw, fun e => ?_, fun e w => p2 e ?_⟩
  · obtain ⟨ps, g1, g2⟩ := p1 e
    exact ⟨ps, SPS_cg hE g1, g2⟩
  · obtain ⟨ps, g1⟩ := w
    exact ⟨ps, SPS_cg hE.symm g1⟩
theorem ptp.uni (hT : TBL v a) (h0 : 0 ≤ t) (h4 : t < v 4) (h : ptp a W t q u x ps y) (hy : u ≤ y) (h2 : ptp a W t q u x qs z) (hz : u ≤ z) : ps = qs := by
  obtain ⟨rs, k1, k2⟩ := ptp.ext hT h0 h4 ps qs x z h h2 hz
  cases rs with
  | nil => rw [k1, List.append_nil]
  | cons p rs => have := k2.1; omega
theorem SEG.uni {y2 : Int} (hT : TBL v a) (h0 : 0 ≤ prt a t g) (h4 : prt a t g < v 4) (h : SEG a W n t g x y ps) (h2 : SEG a W n t g x y2 qs) : y = y2 ∧ ps = qs := by
  obtain ⟨⟨p1, p2⟩, p3, p4, z, p5, p6⟩ := h
  obtain ⟨⟨q1, q2⟩, q3, q4, z2, q5, q6⟩ := h2
  have e : y = y2 := by
    by_cases c : y < y2
    · rcases p4 with p4 | p4
      · omega
      · exact absurd p4 (q3 y p1 c)
    · by_cases c2 : y2 < y
      · rcases q4 with q4 | q4
        · omega
        · exact absurd q4 (p3 y2 q1 c2)
      · omega
  subst e
  exact ⟨rfl, ptp.uni hT h0 h4 p5 p6 q5 q6⟩
theorem prt.ok (hT : TBL v a) (ht : 0 ≤ t ∧ t < v 4) (h5 : a 6 t.toNat = 5) : (0 ≤ prt a t g ∧ prt a t g < v 4) ∧ a 6 (prt a t g).toNat ≤ 3 := by
  have h := hT.1 t ht.1 ht.2
  unfold prt
  split <;> omega
theorem jtp.snoc : ∀ (js : List (Int × List (Int × List Int))) (g0 x0 : Int), jtp a W n t g0 x0 js g x → SEG a W n t g x y ps → y < n → 0 < a 16 (ind4 t g).toNat → jtp a W n t g0 x0 (js ++ [(y, ps)]) (1 - g) (y + 1) := by
  intro js
  induction js with
  | nil => intro g0 x0 h h1 h2 h3; obtain ⟨rfl, rfl⟩ := h; exact ⟨h1, h2, h3, rfl, rfl⟩
  | cons p js ih =>
    intro g0 x0 h h1 h2 h3
    obtain ⟨k1, k2, k3, k4⟩ := h
    exact ⟨k1, k2, k3, ih _ _ k4 h1 h2 h3⟩
theorem jcl.snoc (hg : g = 0 ∨ g = 1) : ∀ (js : List (Int × List (Int × List Int))) (g0 x0 : Int), jtp a W n t g0 x0 js g x → jcl a t g0 (js ++ [(y, ps)]) = jcl a t g0 js ++ (cls ps ++ ICL a (ind4 t g)) := by
  intro js
  induction js with
  | nil => intro g0 x0 h; obtain ⟨rfl, rfl⟩ := h; show (cls ps ++ ICL a (ind4 t g0)) ++ [] = [] ++ _; rw [List.append_nil, List.nil_append]
  | cons p js ih =>
    intro g0 x0 h
    obtain ⟨k1, k2, k3, k4⟩ := h
    show (cls p.2 ++ ICL a (ind4 t g0)) ++ jcl a t (1 - g0) (js ++ [(y, ps)]) = ((cls p.2 ++ ICL a (ind4 t g0)) ++ jcl a t (1 - g0) js) ++ _
    rw [ih _ _ k4]
    exact (List.append_assoc _ _ _).symm
theorem jtp.ext (hT : TBL v a) (ht : 0 ≤ t ∧ t < v 4) (h5 : a 6 t.toNat = 5) : ∀ (js ks : List (Int × List (Int × List Int))) (g0 x0 g2 x2 : Int) (qs : List (Int × List Int)), jtp a W n t g0 x0 js g x → jtp a W n t g0 x0 ks g2 x2 → SEG a W n t g2 x2 n qs → ∃ ls, ks = js ++ ls ∧ jtp a W n t g x ls g2 x2 := by
  intro js
  induction js with
  | nil => intro ks g0 x0 g2 x2 qs h h2 _; obtain ⟨rfl, rfl⟩ := h; exact ⟨ks, rfl, h2⟩
  | cons p js ih =>
    intro ks g0 x0 g2 x2 qs h h2 hs
    obtain ⟨k1, k2, k3, k4⟩ := h
    have pk := prt.ok (g := g0) hT ht h5
    cases ks with
    | nil =>
      obtain ⟨rfl, rfl⟩ := h2
      have e := SEG.uni hT pk.1.1 pk.1.2 k1 hs
      omega
    | cons p2 ks =>
      obtain ⟨m1, m2, m3, m4⟩ := h2
      have e := SEG.uni hT pk.1.1 pk.1.2 k1 m1
      have e2 : p2 = p := Prod.ext e.1.symm e.2.symm
      subst e2
      obtain ⟨ls, w1, w2⟩ := ih ks _ _ g2 x2 qs k4 m4 hs
      exact ⟨ls, by rw [w1]; rfl, w2⟩
theorem jcl.app : ∀ (js ls : List (Int × List (Int × List Int))) (g0 x0 : Int), jtp a W n t g0 x0 js g x → jcl a t g0 (js ++ ls) = jcl a t g0 js ++ jcl a t g ls := by
  intro js
  induction js with
  | nil => intro ls g0 x0 h; obtain ⟨rfl, rfl⟩ := h; rfl
  | cons p js ih =>
    intro ls g0 x0 h
    obtain ⟨k1, k2, k3, k4⟩ := h
    show (cls p.2 ++ ICL a (ind4 t g0)) ++ jcl a t (1 - g0) (js ++ ls) = ((cls p.2 ++ ICL a (ind4 t g0)) ++ jcl a t (1 - g0) js) ++ _
    rw [ih _ _ _ k4]
    exact (List.append_assoc _ _ _).symm
theorem NSG.zero : NSG W c x x := fun j h1 h2 => absurd h1 (by omega)
theorem NSG.step (h : NSG W c x y) (e : W y.toNat ≠ c) : NSG W c x (y + 1) := fun j h1 h2 => by
  by_cases w : j < y
  · exact h j h1 w
  · rw [show j = y by omega]; exact e
theorem SWT.plain (h5 : a 6 t.toNat ≠ 5) (hE : TBE a1 a) (hw : a1 20 = a 20) (hl : MDH v1 a1 []) (hn : n = v 23) (h : SPT v1 a1 v2 a2 t 0 n f) : SWT v a v2 a2 t f := by
  obtain ⟨p1, p2, p3⟩ := h.use hE hw hl
  subst hn
  refine ⟨p1, fun e => ?_, fun e w => p3 e ?_⟩
  · obtain ⟨ps, g1, g2⟩ := p2 e
    exact ⟨cls ps, Or.inl ⟨h5, ps, g1, rfl⟩, g2⟩
  · obtain ⟨cs, w⟩ := w
    rcases w with ⟨_, ps, w1, _⟩ | ⟨w1, _⟩
    · exact ⟨ps, w1⟩
    · exact absurd w1 h5
theorem JW.init (h5 : a 6 t.toNat = 5) (hw : a1 20 = a 20) (h25 : v1 25 = 0) : JW v a v1 a1 t 0 0 := ⟨hw, [], ⟨rfl, rfl⟩, h25, fun j d e => by
  have e2 : ([] : List Int)[j]? = some d := e
  simp at e2⟩
theorem JW.fail (h : JW v a v1 a1 t g x) (hT : TBL v a) (ht : 0 ≤ t ∧ t < v 4) (h5 : a 6 t.toNat = 5) (hw2 : a2 20 = a 20) (hno : ∀ js, jtp a (a 20) (v 23) t 0 0 js g x → MDH v1 a1 (jcl a t 0 js) → ∀ ls qs g2 x2, jtp a (a 20) (v 23) t g x ls g2 x2 → SEG a (a 20) (v 23) t g2 x2 (v 23) qs → ((jcl a t 0 js).length : Int) + (jcl a t g ls ++ cls qs).length ≤ 200 → False) : SWT v a v2 a2 t 0 := by
  refine ⟨hw2, fun e => absurd e (by decide), fun _ w => ?_⟩
  obtain ⟨_, js, g1, g2⟩ := h
  obtain ⟨cs, w⟩ := w
  rcases w with ⟨w, _⟩ | ⟨_, w1, ks, qs, g3, x3, w2, w3, w4⟩
  · exact w h5
  · obtain ⟨ls, k1, k2⟩ := jtp.ext hT ht h5 js ks 0 0 g3 x3 qs g1 w2 w3
    refine hno js g1 g2 ls qs g3 x3 k2 w3 ?_
    rw [k1, jcl.app js ls 0 0 g1, List.append_assoc] at w4
    rw [w4, List.length_append] at w1
    omega
theorem seg_len {ls : List (Int × List (Int × List Int))} {g3 x3 : Int} (hT : TBL v a) (ht : 0 ≤ t ∧ t < v 4) (h5 : a 6 t.toNat = 5) (hj : jtp a W n t g x ls g3 x3) (hs : SEG a W n t g3 x3 n qs) (hy : x ≤ y ∧ y ≤ n) (hN : NSG W (sgj g) x y) (he : y = n ∨ W y.toNat = sgj g) : ∃ ps z, (ptp a W (prt a t g) x y x ps z ∧ y ≤ z) ∧ ((cls ps).length ≤ (jcl a t g ls ++ cls qs).length) ∧ (y = n ∨ (y < n ∧ 0 < a 16 (ind4 t g).toNat ∧ (cls ps ++ ICL a (ind4 t g)).length ≤ (jcl a t g ls ++ cls qs).length)) := by
  cases ls with
  | nil =>
    obtain ⟨rfl, rfl⟩ := hj
    obtain ⟨⟨p1, p2⟩, p3, p4, z, p5, p6⟩ := hs
    have e : y = n := by
      rcases he with he | he
      · exact he
      · by_cases c : y < n
        · exact absurd he (p3 y hy.1 c)
        · omega
    subst e
    exact ⟨qs, z, ⟨p5, p6⟩, Nat.le_refl _, Or.inl rfl⟩
  | cons p ls =>
    obtain ⟨m1, m2, m3, m4⟩ := hj
    obtain ⟨⟨p1, p2⟩, p3, p4, z, p5, p6⟩ := m1
    have e : p.1 = y := by
      by_cases c : y < p.1
      · rcases he with he | he
        · omega
        · exact absurd he (p3 y hy.1 c)
      · by_cases c2 : p.1 < y
        · rcases p4 with p4 | p4
          · omega
          · exact absurd p4 (hN p.1 p1 c2)
        · omega
    subst e
    refine ⟨p.2, z, ⟨p5, p6⟩, ?_, Or.inr ⟨m2, m3, ?_⟩⟩
    · show _ ≤ (((cls p.2 ++ ICL a (ind4 t g)) ++ jcl a t (1 - g) ls) ++ cls qs).length
      simp only [List.length_append]; omega
    · show _ ≤ (((cls p.2 ++ ICL a (ind4 t g)) ++ jcl a t (1 - g) ls) ++ cls qs).length
      simp only [List.length_append]; omega
theorem JW.many (h : JW v a v1 a1 t g x) (hT : TBL v a) (ht : 0 ≤ t ∧ t < v 4) (h5 : a 6 t.toNat = 5) (hE : TBE a1 a) (hn : n = v 23) (hy : x ≤ y ∧ y < n) (hN : NSG (a 20) (sgj g) x y) (he : a 20 y.toNat = sgj g) (hp : z = prt a t g) (hs : SPT v1 a1 v2 a2 z x y 1) (h16 : 0 ≤ a 16 (ind4 t g).toNat) (hm : 200 < v2 25 + a 16 (ind4 t g).toNat) (hw : a3 20 = a2 20) : SWT v a v3 a3 t 0 := by
  subst hn
  subst hp
  have hw1 := h.1
  have pk := prt.ok (g := g) hT ht h5
  refine JW.fail h hT ht h5 (hw.trans (hs.1.trans hw1)) (fun js j1 j2 ls qs g2 x2 k1 k2 k3 => ?_)
  obtain ⟨ps, zz, ⟨m1, m2⟩, _, m4⟩ := seg_len hT ht h5 k1 k2 ⟨hy.1, by omega⟩ hN (Or.inr he)
  obtain ⟨_, p2, _⟩ := hs.use hE hw1 j2
  obtain ⟨ps2, ⟨⟨yy, q1, q2⟩, _⟩, q4⟩ := p2 rfl
  have e := ptp.uni hT pk.1.1 pk.1.2 m1 m2 q1 q2
  subst e
  have w := q4.1
  rw [List.length_append] at w
  have w3 := ICL.len h16
  rcases m4 with m4 | ⟨_, _, m6⟩
  · omega
  · rw [List.length_append] at m6
    push_cast at w
    omega
theorem JW.next (h : JW v a v1 a1 t g x) (hg : g = 0 ∨ g = 1) (hE : TBE a1 a) (hn : n = v 23) (hy : x ≤ y ∧ y < n) (hN : NSG (a 20) (sgj g) x y) (he : a 20 y.toNat = sgj g) (hi : 0 < a 16 (ind4 t g).toNat) (hp : z = prt a t g) (hs : SPT v1 a1 v2 a2 z x y 1) (hP : PIX v2 a2 v3 a3 I) (hI : I = ind4 t g) (h16 : a2 16 = a 16) (h17 : a2 17 = a 17) (h20 : a3 20 = a2 20) : JW v a v3 a3 t (1 - g) (y + 1) := by
  subst hn
  subst hp
  subst hI
  obtain ⟨hw1, js, j1, j2⟩ := h
  obtain ⟨p1, p2, _⟩ := hs.use hE hw1 j2
  obtain ⟨ps, ⟨⟨yy, q1, q2⟩, _⟩, q4⟩ := p2 rfl
  have q5 := hP _ q4
  rw [ICL_cg h16 h17] at q5
  refine ⟨h20.trans p1, js ++ [(y, ps)], jtp.snoc js 0 0 j1 ⟨⟨hy.1, by omega⟩, hN, Or.inr he, yy, q1, q2⟩ hy.2 hi, ?_⟩
  rw [jcl.snoc hg js 0 0 j1, ← List.append_assoc]
  exact q5
end WORD
theorem MDH.nil {v : Nat → Int} {a : Nat → Nat → Int} (h : v 25 = 0) : MDH v a [] := ⟨h, fun j d e => by simp at e⟩
theorem SPT.re {v1 v2 : Nat → Int} {a1 a2 : Nat → Nat → Int} {z x y y2 f f2 : Int} (h : SPT v1 a1 v2 a2 z x y f) (hy : y = y2) (hf : f = f2) : SPT v1 a1 v2 a2 z x y2 f2 := by
  subst hy
  subst hf
  exact h
theorem NSG.re {W : Nat → Int} {c x y y2 : Int} (h : NSG W c x y) (hy : y = y2) : NSG W c x y2 := by
  subst hy
  exact h
theorem JW.re {v v1 : Nat → Int} {a a1 : Nat → Nat → Int} {t g g2 x : Int} (h : JW v a v1 a1 t g x) (hg : g = g2) : JW v a v1 a1 t g2 x := by
  subst hg
  exact h
