theorem stk_lt {s : Nat → Int} : ∀ (n : Nat) (T : Int) (R : Nat → Int), stk s n T R → ∀ k : Nat, k < n → (s (4 * k) = 1 ∨ s (4 * k) = 2) → 0 ≤ s (4 * k + 1) ∧ s (4 * k + 1) < T := by
  intro n
  induction n with
  | zero => intro T R _ k hk; exact absurd hk (by omega)
  | succ n ih =>
    intro T R h k hk hw
    obtain ⟨T0, R0, he, hs⟩ := h
    by_cases e : k = n
    · subst e
      rcases he with ⟨q1, _⟩ | ⟨_, q2, _⟩ | ⟨_, q2, _⟩ | ⟨q1, _⟩ | ⟨q1, _⟩
      · omega
      · exact q2
      · exact q2
      · omega
      · omega
    · have q := ih T0 R0 hs k (by omega) hw
      rcases he with ⟨_, _, q3, _⟩ | ⟨_, _, q3, _⟩ | ⟨_, _, _, q3, _⟩ | ⟨_, _, _, q3, _⟩ | ⟨_, _, _, q3, _⟩ <;> exact ⟨q.1, by omega⟩
theorem STK.lt {ln : Nat → Nat} {v : Nat → Int} {a : Nat → Nat → Int} (h : STK ln v a) (k : Nat) (hk : 4 * (k : Int) < v 19) (hw : a 18 (4 * k) = 1 ∨ a 18 (4 * k) = 2) : 0 ≤ a 18 (4 * k + 1) ∧ a 18 (4 * k + 1) < v 4 := by
  obtain ⟨_, _, n, hn, hs⟩ := h
  exact stk_lt n _ _ hs k (by omega) hw
def CHP (sk : Nat → Nat) (iv : Nat → Nat → Int) (rv : Nat → Nat → Option Nat) (v : Nat → Int) (a : Nat → Nat → Int) : Prop := ∀ k : Nat, (k : Int) < iv (sk 23) 2 → ∃ ch, el rv (sk 23) k = some ch ∧ iv ch 0 = a 18 (4 * k) ∧ ((a 18 (4 * k) = 1 ∨ a 18 (4 * k) = 2) → (0 ≤ a 18 (4 * k + 1) ∧ a 18 (4 * k + 1) < v 4) ∧ rv ch 1 = el rv (sk 22) (a 18 (4 * k + 1)).toNat)
def TBR (sk : Nat → Nat) (iv : Nat → Nat → Int) (rv : Nat → Nat → Option Nat) (v : Nat → Int) (a : Nat → Nat → Int) : Prop := ∀ i : Nat, (i : Int) < v 4 → ∃ t q, el rv (sk 22) i = some t ∧ rv t 4 = some q ∧ iv t 0 = a 6 i ∧ iv t 1 = a 7 i ∧ iv t 7 + a 5 i = 1 ∧ iv q 2 = a 10 i ∧ (a 7 i = 6 ∨ a 7 i = 8) ∧ (a 5 i = 0 ∨ a 5 i = 1) ∧ (0 ≤ a 10 i ∧ a 10 i ≤ 200)
def LNJ (sk : Nat → Nat) (rv : Nat → Nat → Option Nat) (n : Int) : Prop := ∀ i j t u q : Nat, (i : Int) < n → (j : Int) < n → el rv (sk 22) i = some t → el rv (sk 22) j = some u → rv t 4 = some q → rv u 4 = some q → i = j
def TABR (sk : Nat → Nat) (iv : Nat → Nat → Int) (rv : Nat → Nat → Option Nat) (v : Nat → Int) (a : Nat → Nat → Int) : Prop := iv (sk 22) 2 = v 4 ∧ TBR sk iv rv v a ∧ LNJ sk rv (v 4) ∧ 4 * iv (sk 23) 2 = v 19 ∧ CHP sk iv rv v a ∧ (0 ≤ v 4 ∧ v 4 ≤ 30) ∧ 0 ≤ v 19
section TABS
variable {sk : Nat → Nat} {iv iv2 : Nat → Nat → Int} {rv rv2 : Nat → Nat → Option Nat} {v v2 : Nat → Int} {a a2 : Nat → Nat → Int} {i : Int} {t : Nat}
theorem TABR.al (h : TABR sk iv rv v a) (ha : ALV sk iv rv i t) : (0 ≤ i ∧ i < v 4 ∧ a 5 i.toNat = 1) ∧ iv t 0 = a 6 i.toNat ∧ iv t 1 = a 7 i.toNat ∧ (iv t 1 = 6 ∨ iv t 1 = 8) ∧ ∃ q, rv t 4 = some q ∧ iv q 2 = a 10 i.toNat := by
  obtain ⟨h1, h2, _⟩ := h
  obtain ⟨a1, a2, a3, a4⟩ := ha
  obtain ⟨t2, q, b1, b2, b3, b4, b5, b6, b7, b8⟩ := h2 i.toNat (by omega)
  rw [a3] at b1; cases b1
  exact ⟨⟨a1, by omega, by omega⟩, b3, b4, by omega, q, b2, b6⟩
theorem TABR.la (h : TABR sk iv rv v a) (w1 : 0 ≤ i) (w2 : i < v 4) (w3 : a 5 i.toNat = 1) : ∃ t, ALV sk iv rv i t := by
  obtain ⟨g1, g2, _⟩ := h
  obtain ⟨t, q, b1, b2, b3, b4, b5, b6, b7, b8⟩ := g2 i.toNat (by omega)
  exact ⟨t, w1, by omega, b1, by omega⟩
theorem TABR.no (h : TABR sk iv rv v a) (w1 : 0 ≤ i) (w2 : i < v 4) (w3 : el rv (sk 22) i.toNat = some t) {j : Nat} {u : Nat} (hj : (j : Int) < v 4) (hu : el rv (sk 22) j = some u) (ne : j ≠ i.toNat) : u ≠ t ∧ ∀ q r, rv t 4 = some q → rv u 4 = some r → r ≠ q := by
  have key : ∀ q, rv t 4 = some q → rv u 4 = some q → False := fun q e1 e2 => ne (h.2.2.1 j i.toNat u t q hj (by omega) hu w3 e2 e1)
  obtain ⟨t2, q, b1, b2, _⟩ := h.2.1 i.toNat (by omega)
  rw [w3] at b1; cases b1
  refine ⟨fun e => ?_, fun q2 r e1 e2 e3 => ?_⟩
  · subst e; exact key q b2 b2
  · subst e3; exact key r e1 e2
theorem LNJ.keep {n n2 : Int} (h : LNJ sk rv n) (hn : n2 ≤ n) (he : ∀ i : Nat, (i : Int) < n2 → el rv2 (sk 22) i = el rv (sk 22) i) (h4 : ∀ i t : Nat, (i : Int) < n2 → el rv (sk 22) i = some t → rv2 t 4 = rv t 4) : LNJ sk rv2 n2 := by
  intro i j t u q hi hj ht hu e1 e2
  refine hv2 ((he i hi).symm.trans ht) ((he j hj).symm.trans hu) (fun ht2 hu2 => ?_)
  exact h i j t u q (by omega) (by omega) ht2 hu2 ((h4 i t hi ht2).symm.trans e1) ((h4 j u hj hu2).symm.trans e2)
theorem CHP.push {w tt cc dd : Int} {x : Option Nat} (h : CHP sk iv rv v a) (hn : iv (sk 22) 2 = v 4) (h19 : 4 * iv (sk 23) 2 = v 19) (h0 : 0 ≤ v 19) (h4 : v 4 ≤ v2 4) (ts : TS0 sk iv rv rv2) (hp : PPSH w x sk iv rv iv2 rv2) (hq : PSH v a v2 a2 w tt cc dd) (hx : (w = 1 ∨ w = 2) → (0 ≤ tt ∧ tt < v2 4) ∧ x = el rv2 (sk 22) tt.toNat) : CHP sk iv2 rv2 v2 a2 := by
  obtain ⟨r1, r2, ch, r3, r4, r5⟩ := hp
  obtain ⟨s1, s2, s3, s4, _⟩ := hq
  intro k hk
  by_cases e : (k : Int) < iv (sk 23) 2
  · obtain ⟨c, b1, b2, b3⟩ := h k e
    have g := r2 k e
    have g2 := g.2 c b1
    have z0 := s2 (4 * k) (by omega)
    have z1 := s2 (4 * k + 1) (by omega)
    refine ⟨c, g.1.trans b1, by rw [z0, g2.1]; exact b2, fun hw => ?_⟩
    rw [z0] at hw
    rw [z1]
    obtain ⟨e1, e2⟩ := b3 hw
    exact ⟨⟨e1.1, by omega⟩, g2.2.trans (e2.trans (ts _ (by omega)).symm)⟩
  · have ek : k = (iv (sk 23) 2).toNat := by omega
    have z0 : a2 18 (4 * k) = w := by rw [show 4 * k = (v 19).toNat by omega]; exact s3
    have z1 : a2 18 (4 * k + 1) = tt := by rw [show 4 * k + 1 = (v 19 + 1).toNat by omega]; exact s4
    refine ⟨ch, by rw [ek]; exact r3, by rw [z0]; exact r4, fun hw => ?_⟩
    rw [z0] at hw
    rw [z1]
    have g := hx hw
    exact ⟨g.1, r5.trans g.2⟩
theorem tab_same (h : TABR sk iv rv v a) (hp : PSAME sk iv rv iv2 rv2) (hq : TSAME v a v2 a2) : TABR sk iv2 rv2 v2 a2 := by
  obtain ⟨h1, h2, h3, h4, h5, h6, h7⟩ := h
  obtain ⟨p1, p2, ⟨p3, p4, p5⟩, p6⟩ := hp
  obtain ⟨q1, q2, q3, q4, q5, q6, q7, _⟩ := hq
  refine ⟨by omega, fun i hi => ?_, h3.keep (by omega) (fun i hi => p3 i (by omega)) (fun i t hi ht => (p4 i t (by omega) ht).2.2.2), by omega, fun k hk => ?_, by omega, by omega⟩
  · obtain ⟨t, q, b1, b2, b3, b4, b5, b6, b7, b8⟩ := h2 i (by omega)
    have c := p4 i t (by omega) b1
    have d := p5 i t q (by omega) b1 b2 trivial
    rw [q2, q3, q4, q5]
    exact ⟨t, q, (p3 i (by omega)).trans b1, c.2.2.2.trans b2, c.2.1.trans b3, c.2.2.1.trans b4, by rw [c.1 trivial]; exact b5, d.trans b6, b7, b8⟩
  · obtain ⟨ch, b1, b2, b3⟩ := h5 k (by omega)
    have c := p6 k (by omega)
    have d := c.2 ch b1
    rw [q7]
    refine ⟨ch, c.1.trans b1, d.1.trans b2, fun hw => ?_⟩
    obtain ⟨e1, e2⟩ := b3 hw
    exact ⟨⟨e1.1, by omega⟩, d.2.trans (e2.trans (p3 _ (by omega)).symm)⟩
theorem tab_new {k d bb ss : Int} (h : TABR sk iv rv v a) (hp : PNEW k d sk iv rv iv2 rv2) (hq : TNEW k d bb ss v a v2 a2) (hd : d = 6 ∨ d = 8) (hlt : v 4 ≠ 30) : TABR sk iv2 rv2 v2 a2 := by
  obtain ⟨h1, h2, h3, h4, h5, h6, h7⟩ := h
  obtain ⟨q, r, p1, p2, p3, p4, p5, p6, p7, p8, ⟨p9, p10, p11⟩, p12⟩ := hp
  obtain ⟨q1, q2, q3, q4, q5, q6, _⟩ := hq
  have old : ∀ j t w : Nat, (j : Int) < v 4 → el rv2 (sk 22) j = some t → rv2 t 4 = some w → el rv (sk 22) j = some t ∧ rv t 4 = some w := by
    intro j t w hj ht hw
    have ht2 := (p9 j (by omega)).symm.trans ht
    exact ⟨ht2, (p10 j t (by omega) ht2).2.2.2.symm.trans hw⟩
  have nw : ∀ j t w : Nat, ¬ (j : Int) < v 4 → (j : Int) < v2 4 → el rv2 (sk 22) j = some t → rv2 t 4 = some w → w = r := by
    intro j t w hj hj2 ht hw
    rw [show j = (iv (sk 22) 2).toNat by omega, p1] at ht
    cases ht
    rw [p5] at hw
    cases hw
    rfl
  refine ⟨by omega, fun i hi => ?_, fun i j t u w hi hj ht hu e1 e2 => ?_, by have := q6.1; have := p12.1; omega, h5.push h1 h4 h7 (by omega) p9 p12 q6 (fun hw => absurd hw (by omega)), by omega, by have := q6.1; omega⟩
  · rw [q2, q3, q4, q5]
    by_cases e : (i : Int) < v 4
    · obtain ⟨t, w, b1, b2, b3, b4, b5, b6, b7, b8⟩ := h2 i e
      have c := p10 i t (by omega) b1
      have dd := p11 i t w (by omega) b1 b2 trivial
      have ne : i ≠ (v 4).toNat := by omega
      rw [va_up_ne _ _ ne, va_up_ne _ _ ne, va_up_ne _ _ ne, va_up_ne _ _ ne]
      exact ⟨t, w, (p9 i (by omega)).trans b1, c.2.2.2.trans b2, c.2.1.trans b3, c.2.2.1.trans b4, by rw [c.1 trivial]; exact b5, dd.trans b6, b7, b8⟩
    · have ei : i = (v 4).toNat := by omega
      rw [ei, va_up_self, va_up_self, va_up_self, va_up_self]
      exact ⟨q, r, by rw [← h1]; exact p1, p5, p2, p3, by omega, p6, hd, Or.inr rfl, ⟨by decide, by decide⟩⟩
  · by_cases ei : (i : Int) < v 4
    · by_cases ej : (j : Int) < v 4
      · have o1 := old i t w ei ht e1
        have o2 := old j u w ej hu e2
        exact h3 i j t u w ei ej o1.1 o2.1 o1.2 o2.2
      · have o1 := old i t w ei ht e1
        have o2 := nw j u w ej hj hu e2
        subst o2
        exact absurd o1.2 (p7 i t (by omega) o1.1)
    · by_cases ej : (j : Int) < v 4
      · have o1 := old j u w ej hu e2
        have o2 := nw i t w ei hi ht e1
        subst o2
        exact absurd o1.2 (p7 j u (by omega) o1.1)
      · omega
theorem tab_drop (h : TABR sk iv rv v a) (ha : ALV sk iv rv i t) (hn : iv2 (sk 22) 2 = iv (sk 22) 2) (hp : PTAB (fun b => b ≠ t) (fun _ => True) sk iv rv iv2 rv2) (h7t : iv2 t 7 = 1) (hs : PPSH 1 (some t) sk iv rv iv2 rv2) (hq : TDRP i v a v2 a2) : TABR sk iv2 rv2 v2 a2 := by
  have no := fun {j u : Nat} => h.no (j := j) (u := u) ha.1 (h.al ha).1.2.1 ha.2.2.1
  obtain ⟨h1, h2, h3, h4, h5, h6, h7⟩ := h
  obtain ⟨p3, p4, p5⟩ := hp
  obtain ⟨q1, q2, q3, q4, q5, q6, _⟩ := hq
  obtain ⟨a1, a2', a3, a4⟩ := ha
  refine ⟨by omega, fun j hj => ?_, h3.keep (by omega) (fun i hi => p3 i (by omega)) (fun i t hi ht => (p4 i t (by omega) ht).2.2.2), by have := q6.1; have := hs.1; omega, h5.push h1 h4 h7 (by omega) p3 hs q6 (fun _ => ⟨⟨a1, by omega⟩, ((p3 i.toNat (by omega)).trans a3).symm⟩), by omega, by have := q6.1; omega⟩
  obtain ⟨u, w, b1, b2, b3, b4, b5, b6, b7, b8⟩ := h2 j (by omega)
  have c := p4 j u (by omega) b1
  have d := p5 j u w (by omega) b1 b2 trivial
  rw [q2, q3, q4, q5]
  by_cases e : j = i.toNat
  · have b1' := b1
    rw [e, a3] at b1'; cases b1'
    rw [e, va_up_self]
    rw [e] at b1 b3 b4 b6 b7 b8
    exact ⟨_, w, (p3 i.toNat (by omega)).trans b1, c.2.2.2.trans b2, c.2.1.trans b3, c.2.2.1.trans b4, by omega, d.trans b6, b7, Or.inl rfl, b8.2⟩
  · rw [va_up_ne _ _ e]
    have n1 := (no (by omega) b1 e).1
    exact ⟨u, w, (p3 j (by omega)).trans b1, c.2.2.2.trans b2, c.2.1.trans b3, c.2.2.1.trans b4, by rw [c.1 n1]; exact b5, d.trans b6, b7, b8⟩
theorem tab_rule {q : Nat} {xx nn : Int} (h : TABR sk iv rv v a) (ha : ALV sk iv rv i t) (h4t : rv t 4 = some q) (hn : iv2 (sk 22) 2 = iv (sk 22) 2) (hp : PTAB (fun _ => True) (fun b => b ≠ q) sk iv rv iv2 rv2) (hz : iv2 q 2 = iv q 2 + 1) (hlt : iv q 2 < 200) (hs : PPSH 2 (some t) sk iv rv iv2 rv2) (hq : TRUL i xx nn v a v2 a2) : TABR sk iv2 rv2 v2 a2 := by
  have no := fun {j u : Nat} => h.no (j := j) (u := u) ha.1 (h.al ha).1.2.1 ha.2.2.1
  obtain ⟨h1, h2, h3, h4, h5, h6, h7⟩ := h
  obtain ⟨p3, p4, p5⟩ := hp
  obtain ⟨q1, q2, q3, q4, q5, q6, _⟩ := hq
  obtain ⟨a1, a2', a3, a4⟩ := ha
  refine ⟨by omega, fun j hj => ?_, h3.keep (by omega) (fun i hi => p3 i (by omega)) (fun i t hi ht => (p4 i t (by omega) ht).2.2.2), by have := q6.1; have := hs.1; omega, h5.push h1 h4 h7 (by omega) p3 hs q6 (fun _ => ⟨⟨a1, by omega⟩, ((p3 i.toNat (by omega)).trans a3).symm⟩), by omega, by have := q6.1; omega⟩
  obtain ⟨u, w, b1, b2, b3, b4, b5, b6, b7, b8⟩ := h2 j (by omega)
  have c := p4 j u (by omega) b1
  rw [q2, q3, q4, q5]
  by_cases e : j = i.toNat
  · have b1' := b1
    rw [e, a3] at b1'; cases b1'
    rw [h4t] at b2; cases b2
    rw [e, va_up_self]
    rw [e] at b1 b3 b4 b5 b6 b7 b8
    exact ⟨_, _, (p3 i.toNat (by omega)).trans b1, c.2.2.2.trans h4t, c.2.1.trans b3, c.2.2.1.trans b4, by rw [c.1 trivial]; exact b5, by omega, b7, b8.1, by omega⟩
  · rw [va_up_ne _ _ e]
    have n1 := (no (by omega) b1 e).2 q w h4t b2
    exact ⟨u, w, (p3 j (by omega)).trans b1, c.2.2.2.trans b2, c.2.1.trans b3, c.2.2.1.trans b4, by rw [c.1 trivial]; exact b5, (p5 j u w (by omega) b1 b2 n1).trans b6, b7, b8⟩
theorem tab_oth {w x cc dd : Int} {y : Option Nat} (h : TABR sk iv rv v a) (hn : iv2 (sk 22) 2 = iv (sk 22) 2) (hp : PTAB (fun _ => True) (fun _ => True) sk iv rv iv2 rv2) (hs : PPSH w y sk iv rv iv2 rv2) (hq : TOTH w x cc dd v a v2 a2) (hw : w ≠ 1 ∧ w ≠ 2) : TABR sk iv2 rv2 v2 a2 := by
  obtain ⟨h1, h2, h3, h4, h5, h6, h7⟩ := h
  obtain ⟨p3, p4, p5⟩ := hp
  obtain ⟨q1, q2, q3, q4, q5, q6⟩ := hq
  refine ⟨by omega, fun j hj => ?_, h3.keep (by omega) (fun i hi => p3 i (by omega)) (fun i t hi ht => (p4 i t (by omega) ht).2.2.2), by have := q6.1; have := hs.1; omega, h5.push h1 h4 h7 (by omega) p3 hs q6 (fun e => absurd e (by omega)), by omega, by have := q6.1; omega⟩
  obtain ⟨u, q, b1, b2, b3, b4, b5, b6, b7, b8⟩ := h2 j (by omega)
  have c := p4 j u (by omega) b1
  rw [q2, q3, q4, q5]
  exact ⟨u, q, (p3 j (by omega)).trans b1, c.2.2.2.trans b2, c.2.1.trans b3, c.2.2.1.trans b4, by rw [c.1 trivial]; exact b5, (p5 j u q (by omega) b1 b2 trivial).trans b6, b7, b8⟩
theorem tab_undo {ln ln2 : Nat → Nat} {ch : Nat} (h : TABR sk iv rv v a) (hS : STK ln v a) (hS2 : STK ln2 v2 a2) (h0 : v 19 ≠ 0) (hc : el rv (sk 23) (iv (sk 23) 2 - 1).toNat = some ch) (hp : PUND ch sk iv rv iv2 rv2) (hq : TUND v a v2 a2) : TABR sk iv2 rv2 v2 a2 := by
  obtain ⟨_, T0, R0, hent, _⟩ := STK.pop hS h0
  have hh := h
  obtain ⟨h1, h2, h3, h4, h5, h6, h7⟩ := h
  obtain ⟨p1, p2, p3⟩ := hp
  obtain ⟨q1, q2, q3, q4, _, q5⟩ := hq
  obtain ⟨c, g1, g2, g3⟩ := h5 (iv (sk 23) 2 - 1).toNat (by omega)
  rw [hc] at g1; cases g1
  rw [show 4 * (iv (sk 23) 2 - 1).toNat = (v 19 - 4).toNat by omega] at g2 g3
  rw [show (v 19 - 4).toNat + 1 = (v 19 - 4 + 1).toNat by omega] at g3
  have chp : (∀ j : Nat, (j : Int) < v2 4 → el rv2 (sk 22) j = el rv (sk 22) j) → CHP sk iv2 rv2 v2 a2 := by
    intro he k hk
    obtain ⟨c, b1, b2, b3⟩ := h5 k (by omega)
    have g := p2 k (by omega)
    have g4 := g.2 c b1
    have lt := hS2.lt k (by omega)
    rw [q2] at lt ⊢
    refine ⟨c, g.1.trans b1, g4.1.trans b2, fun hw => ?_⟩
    have l2 := lt hw
    exact ⟨l2, g4.2.trans ((b3 hw).2.trans (he _ (by omega)).symm)⟩
  rcases q5 with ⟨w1, w2, w3, w4, _⟩ | ⟨w1, w2, w3, w4, _⟩ | ⟨w1, w2, w3, w4, _⟩ | ⟨w1, w2, w3, w4, _⟩ | ⟨w1, w2, w3, w4, _⟩
  · obtain ⟨e1, _, _⟩ := hent.e0 w1
    rcases p3 with ⟨d1, d2, d3, d4, d5⟩ | ⟨d1, _⟩ | ⟨d1, _⟩ | ⟨d1, _⟩
    · refine ⟨by omega, fun j hj => ?_, h3.keep (by omega) (fun i hi => d3 i (by omega)) (fun i t hi ht => (d4 i t (by omega) ht).2.2.2), by omega, chp (fun j hj => d3 j (by omega)), by omega, by omega⟩
      obtain ⟨u, q, b1, b2, b3, b4, b5, b6, b7, b8⟩ := h2 j (by omega)
      have c := d4 j u (by omega) b1
      rw [w3, w4, q3, q4]
      exact ⟨u, q, (d3 j (by omega)).trans b1, c.2.2.2.trans b2, c.2.1.trans b3, c.2.2.1.trans b4, by rw [c.1 trivial]; exact b5, (d5 j u q (by omega) b1 b2 trivial).trans b6, b7, b8⟩
    · omega
    · omega
    · omega
  · obtain ⟨e1, _, _⟩ := hent.e1 w1
    rcases p3 with ⟨d1, _⟩ | ⟨d1, t, d2, d3, ⟨d4, d5, d6⟩, d7⟩ | ⟨d1, _⟩ | ⟨d1, _⟩
    · omega
    · obtain ⟨_, x2⟩ := g3 (Or.inl w1)
      have x3 := (x2.symm.trans d2)
      have no := fun {j u : Nat} => hh.no (j := j) (u := u) e1.1 e1.2 x3
      refine ⟨by omega, fun j hj => ?_, h3.keep (by omega) (fun i hi => d4 i (by omega)) (fun i t hi ht => (d5 i t (by omega) ht).2.2.2), by omega, chp (fun j hj => d4 j (by omega)), by omega, by omega⟩
      obtain ⟨u, q, b1, b2, b3, b4, b5, b6, b7, b8⟩ := h2 j (by omega)
      have c := d5 j u (by omega) b1
      have d := d6 j u q (by omega) b1 b2 trivial
      rw [w3, w4, q3, q4]
      by_cases e : j = (a 18 (v 19 - 4 + 1).toNat).toNat
      · have b1' := b1
        rw [e, x3] at b1'; cases b1'
        rw [e, va_up_self]
        rw [e] at b1 b3 b4 b6 b7 b8
        exact ⟨_, _, (d4 _ (by omega)).trans b1, c.2.2.2.trans b2, c.2.1.trans b3, c.2.2.1.trans b4, by omega, d.trans b6, b7, Or.inr rfl, b8.2⟩
      · rw [va_up_ne _ _ e]
        exact ⟨u, q, (d4 j (by omega)).trans b1, c.2.2.2.trans b2, c.2.1.trans b3, c.2.2.1.trans b4, by rw [c.1 (no (by omega) b1 e).1]; exact b5, d.trans b6, b7, b8⟩
    · omega
    · omega
  · obtain ⟨e1, e2, _, _⟩ := hent.e2 w1
    rcases p3 with ⟨d1, _⟩ | ⟨d1, _⟩ | ⟨d1, t, r, d2, d8, d3, ⟨d4, d5, d6⟩, d7⟩ | ⟨d1, _⟩
    · omega
    · omega
    · obtain ⟨_, x2⟩ := g3 (Or.inr w1)
      have x3 := (x2.symm.trans d2)
      have no := fun {j u : Nat} => hh.no (j := j) (u := u) e1.1 e1.2 x3
      refine ⟨by omega, fun j hj => ?_, h3.keep (by omega) (fun i hi => d4 i (by omega)) (fun i t hi ht => (d5 i t (by omega) ht).2.2.2), by omega, chp (fun j hj => d4 j (by omega)), by omega, by omega⟩
      obtain ⟨u, q, b1, b2, b3, b4, b5, b6, b7, b8⟩ := h2 j (by omega)
      have c := d5 j u (by omega) b1
      rw [w3, w4, q3, q4]
      by_cases e : j = (a 18 (v 19 - 4 + 1).toNat).toNat
      · have b1' := b1
        rw [e, x3] at b1'; cases b1'
        rw [d8] at b2; cases b2
        rw [e, va_up_self]
        rw [e] at b1 b3 b4 b5 b6 b7 b8
        exact ⟨_, _, (d4 _ (by omega)).trans b1, c.2.2.2.trans d8, c.2.1.trans b3, c.2.2.1.trans b4, by rw [c.1 trivial]; exact b5, by omega, b7, b8.1, by omega⟩
      · rw [va_up_ne _ _ e]
        have n1 := (no (by omega) b1 e).2 r q d8 b2
        exact ⟨u, q, (d4 j (by omega)).trans b1, c.2.2.2.trans b2, c.2.1.trans b3, c.2.2.1.trans b4, by rw [c.1 trivial]; exact b5, (d6 j u q (by omega) b1 b2 n1).trans b6, b7, b8⟩
    · omega
  · rcases p3 with ⟨d1, _⟩ | ⟨d1, _⟩ | ⟨d1, _⟩ | ⟨d1, d3, ⟨d4, d5, d6⟩⟩
    · omega
    · omega
    · omega
    · refine ⟨by omega, fun j hj => ?_, h3.keep (by omega) (fun i hi => d4 i (by omega)) (fun i t hi ht => (d5 i t (by omega) ht).2.2.2), by omega, chp (fun j hj => d4 j (by omega)), by omega, by omega⟩
      obtain ⟨u, q, b1, b2, b3, b4, b5, b6, b7, b8⟩ := h2 j (by omega)
      have c := d5 j u (by omega) b1
      rw [w3, w4, q3, q4]
      exact ⟨u, q, (d4 j (by omega)).trans b1, c.2.2.2.trans b2, c.2.1.trans b3, c.2.2.1.trans b4, by rw [c.1 trivial]; exact b5, (d6 j u q (by omega) b1 b2 trivial).trans b6, b7, b8⟩
  · rcases p3 with ⟨d1, _⟩ | ⟨d1, _⟩ | ⟨d1, _⟩ | ⟨d1, d3, ⟨d4, d5, d6⟩⟩
    · omega
    · omega
    · omega
    · refine ⟨by omega, fun j hj => ?_, h3.keep (by omega) (fun i hi => d4 i (by omega)) (fun i t hi ht => (d5 i t (by omega) ht).2.2.2), by omega, chp (fun j hj => d4 j (by omega)), by omega, by omega⟩
      obtain ⟨u, q, b1, b2, b3, b4, b5, b6, b7, b8⟩ := h2 j (by omega)
      have c := d5 j u (by omega) b1
      rw [w3, w4, q3, q4]
      exact ⟨u, q, (d4 j (by omega)).trans b1, c.2.2.2.trans b2, c.2.1.trans b3, c.2.2.1.trans b4, by rw [c.1 trivial]; exact b5, (d6 j u q (by omega) b1 b2 trivial).trans b6, b7, b8⟩
theorem tab_zero (h1 : iv (sk 22) 2 = 0) (h2 : iv (sk 23) 2 = 0) (h3 : v 4 = 0) (h4 : v 19 = 0) : TABR sk iv rv v a := ⟨by omega, fun i hi => absurd hi (by omega), fun i j t u q hi => absurd hi (by omega), by omega, fun k hk => absurd hk (by omega), by omega, by omega⟩
theorem tbl_both {x y f1 f2 : Int} (h : TABR sk iv rv v a) (hp : PTBL x y i f1 sk iv rv iv2 rv2) (hq : ((f2 = -1 ∧ TSAME v a v2 a2 ∧ ¬ (0 ≤ x ∧ x ≤ 4 ∧ (y = 6 ∨ y = 8) ∧ v 4 ≠ 30 ∧ (x < 1 ∨ 3 < x ∨ (0 ≤ i ∧ i < v 4 ∧ a 5 i.toNat = 1 ∧ a 6 i.toNat ≤ 3)))) ∨ (f2 = v 4 ∧ (0 ≤ x ∧ x ≤ 4 ∧ (y = 6 ∨ y = 8) ∧ v 4 ≠ 30 ∧ (x < 1 ∨ 3 < x ∨ (0 ≤ i ∧ i < v 4 ∧ a 5 i.toNat = 1 ∧ a 6 i.toNat ≤ 3))) ∧ TNEW x y (if x < 1 ∨ 3 < x then -1 else i) (-1) v a v2 a2))) : f1 = f2 ∧ TABR sk iv2 rv2 v2 a2 := by
  refine hv2 (h.1) (h.2.2.2.2.2.1) (fun h1 h30 => ?_)
  rcases hp with ⟨p1, p2, p3⟩ | ⟨p1, ⟨p2, p4⟩, p3⟩ <;> rcases hq with ⟨q1, q2, q3⟩ | ⟨q1, q2, q3⟩
  · exact ⟨by omega, tab_same h p2 q2⟩
  · refine absurd ⟨⟨by omega, by omega, by omega, by omega⟩, ?_⟩ p3
    by_cases e : x < 1 ∨ 3 < x
    · rcases e with e | e
      · exact Or.inl e
      · exact Or.inr (Or.inl e)
    · have g : 0 ≤ i ∧ i < v 4 ∧ a 5 i.toNat = 1 ∧ a 6 i.toNat ≤ 3 := by omega
      obtain ⟨t, ht⟩ := h.la g.1 g.2.1 g.2.2.1
      exact Or.inr (Or.inr ⟨t, ht, by rw [(h.al ht).2.1]; exact g.2.2.2⟩)
  · refine absurd ?_ q3
    have g : x < 1 ∨ 3 < x ∨ (0 ≤ i ∧ i < v 4 ∧ a 5 i.toNat = 1 ∧ a 6 i.toNat ≤ 3) := by
      rcases p4 with e | e | ⟨t, ht, e⟩
      · exact Or.inl e
      · exact Or.inr (Or.inl e)
      · have w := h.al ht
        rw [w.2.1] at e
        exact Or.inr (Or.inr ⟨w.1.1, w.1.2.1, w.1.2.2, e⟩)
    clear p4 q3
    exact ⟨by omega, by omega, by omega, by omega, g⟩
  · clear p4
    exact ⟨by omega, tab_new h p3 q3 p2.2.2.1 (by omega)⟩
theorem joi_both {j f1 f2 : Int} (h : TABR sk iv rv v a) (hp : PJOI i j f1 sk iv rv iv2 rv2) (hq : ((f2 = -1 ∧ TSAME v a v2 a2 ∧ ¬ (0 ≤ i ∧ i < v 4 ∧ a 5 i.toNat = 1 ∧ a 6 i.toNat ≤ 3 ∧ 0 ≤ j ∧ j < v 4 ∧ a 5 j.toNat = 1 ∧ a 6 j.toNat ≤ 3 ∧ v 4 ≠ 30)) ∨ (f2 = v 4 ∧ (0 ≤ i ∧ i < v 4 ∧ a 5 i.toNat = 1 ∧ a 6 i.toNat ≤ 3 ∧ 0 ≤ j ∧ j < v 4 ∧ a 5 j.toNat = 1 ∧ a 6 j.toNat ≤ 3 ∧ v 4 ≠ 30) ∧ TNEW 5 (max (a 7 i.toNat) (a 7 j.toNat)) i j v a v2 a2))) : f1 = f2 ∧ TABR sk iv2 rv2 v2 a2 := by
  refine hv2 (h.1) (h.2.2.2.2.2.1) (fun h1 h30 => ?_)
  rcases hp with ⟨p1, p2, p3⟩ | ⟨p1, p2, t, u, ⟨ht, et⟩, ⟨hu, eu⟩, p3⟩ <;> rcases hq with ⟨q1, q2, q3⟩ | ⟨q1, q2, q3⟩
  · exact ⟨by omega, tab_same h p2 q2⟩
  · obtain ⟨t, ht⟩ := h.la (i := i) (by omega) (by omega) (by omega)
    obtain ⟨u, hu⟩ := h.la (i := j) (by omega) (by omega) (by omega)
    exact absurd ⟨by omega, ⟨t, ht, by rw [(h.al ht).2.1]; omega⟩, ⟨u, hu, by rw [(h.al hu).2.1]; omega⟩⟩ p3
  · have w := h.al ht
    have w2 := h.al hu
    rw [w.2.1] at et
    rw [w2.2.1] at eu
    exact absurd ⟨w.1.1, w.1.2.1, w.1.2.2, et, w2.1.1, w2.1.2.1, w2.1.2.2, eu, by omega⟩ q3
  · have w := h.al ht
    refine hv3 (h.al hu) (w.2.2.2.1) (w.2.2.1) (fun w2 d1 e1 => ?_)
    refine hv2 (w2.2.2.2.1) (w2.2.2.1) (fun d2 e2 => ?_)
    rw [e1, e2] at p3
    exact ⟨by omega, tab_new h p3 q3 (by omega) (by omega)⟩
theorem drp_both {f1 f2 : Int} (h : TABR sk iv rv v a) (hp : PDRP i f1 sk iv rv iv2 rv2) (hq : ((f2 = -1 ∧ TSAME v a v2 a2 ∧ ¬ (0 ≤ i ∧ i < v 4 ∧ a 5 i.toNat = 1)) ∨ (f2 = 1 ∧ (0 ≤ i ∧ i < v 4 ∧ a 5 i.toNat = 1) ∧ TDRP i v a v2 a2))) : f1 = f2 ∧ TABR sk iv2 rv2 v2 a2 := by
  rcases hp with ⟨p1, p2, p3⟩ | ⟨p1, t, ht, p2, p3, p4, p5⟩ <;> rcases hq with ⟨q1, q2, q3⟩ | ⟨q1, q2, q3⟩
  · exact ⟨by omega, tab_same h p2 q2⟩
  · obtain ⟨t, ht⟩ := h.la q2.1 q2.2.1 q2.2.2
    exact absurd ht (p3 t)
  · exact absurd (h.al ht).1 q3
  · exact ⟨by omega, tab_drop h ht p2 p3 p4 p5 q3⟩
theorem rul_both {x n f1 f2 : Int} (h : TABR sk iv rv v a) (hs : iv (sk 2) 2 = v 3) (hc : CT iv rv (sk 2) (a 2)) (hp : PRUL i x n f1 sk iv rv iv2 rv2) (hq : ((f2 = -1 ∧ TSAME v a v2 a2 ∧ ¬ ((0 ≤ i ∧ i < v 4 ∧ a 5 i.toNat = 1 ∧ a 6 i.toNat ≠ 5 ∧ 0 ≤ x ∧ x ≤ 5 ∧ 1 ≤ n ∧ n ≤ 8 ∧ 1 ≤ v 3 - n ∧ v 3 - n ≤ 4 ∧ a 10 i.toNat ≠ 200) ∧ ACL (a 2) n (v 3 - n) (DC (a 7 i.toNat)) ∧ LTK (a 2) n)) ∨ (f2 = a 10 i.toNat ∧ ((0 ≤ i ∧ i < v 4 ∧ a 5 i.toNat = 1 ∧ a 6 i.toNat ≠ 5 ∧ 0 ≤ x ∧ x ≤ 5 ∧ 1 ≤ n ∧ n ≤ 8 ∧ 1 ≤ v 3 - n ∧ v 3 - n ≤ 4 ∧ a 10 i.toNat ≠ 200) ∧ ACL (a 2) n (v 3 - n) (DC (a 7 i.toNat)) ∧ LTK (a 2) n) ∧ TRUL i x n v a v2 a2))) : f1 = f2 ∧ TABR sk iv2 rv2 v2 a2 := by
  rcases hp with ⟨p1, p2, p3⟩ | ⟨t, q, ht, h4, p1, p2, p3, p4, p5, p6⟩ <;> rcases hq with ⟨q1, q2, q3⟩ | ⟨q1, ⟨q2, q4, q5⟩, q3⟩
  · exact ⟨by omega, tab_same h p2 q2⟩
  · obtain ⟨t, ht⟩ := h.la (i := i) (by omega) (by omega) (by omega)
    obtain ⟨w1, w2, w3, w4, q, w5, w6⟩ := h.al ht
    obtain ⟨_, _, b1, b2, _, _, _, _, _, _, b9⟩ := h.2.1 i.toNat (by omega)
    refine absurd ⟨⟨by omega, by omega, by omega, by omega, by omega, by omega, by omega, by omega⟩, ?_, q5⟩ (p3 (a 2) t q hc ht w5 w4)
    rw [hs, w3]; exact q4
  · obtain ⟨w1, w2, w3, w4, q', w5, w6⟩ := h.al ht
    rw [h4] at w5; cases w5
    obtain ⟨⟨r1, r2, r3, r4, r5, r6, r7, r8⟩, r9, r10⟩ := p2 (a 2) hc w4
    rw [hs, w3] at r9
    exact absurd ⟨⟨w1.1, w1.2.1, w1.2.2, by omega, by omega, by omega, by omega, by omega, by omega, by omega, by omega⟩, r9, r10⟩ q3
  · obtain ⟨w1, w2, w3, w4, q', w5, w6⟩ := h.al ht
    rw [h4] at w5; cases w5
    obtain ⟨⟨r1, r2, r3, r4, r5, r6, r7, r8⟩, r9, r10⟩ := p2 (a 2) hc w4
    exact ⟨by omega, tab_rule h ht h4 p3 p4 p5 r8 p6 q3⟩
theorem cnd_both {r x f1 f2 : Int} (h : TABR sk iv rv v a) (hp : PCND i r x f1 sk iv rv iv2 rv2) (hq : ((f2 = -1 ∧ TSAME v a v2 a2 ∧ ¬ (0 ≤ i ∧ i < v 4 ∧ a 5 i.toNat = 1 ∧ a 6 i.toNat ≠ 5 ∧ 0 ≤ r ∧ r < a 10 i.toNat ∧ 0 ≤ x ∧ x ≤ 5)) ∨ (f2 = a 11 (200 * i + r).toNat ∧ (0 ≤ i ∧ i < v 4 ∧ a 5 i.toNat = 1 ∧ a 6 i.toNat ≠ 5 ∧ 0 ≤ r ∧ r < a 10 i.toNat ∧ 0 ≤ x ∧ x ≤ 5) ∧ TCND i r x v a v2 a2))) : TABR sk iv2 rv2 v2 a2 := by
  rcases hp with ⟨p1, p2, p3⟩ | ⟨t, q, ht, h4, p1, p3, p4, p6⟩ <;> rcases hq with ⟨q1, q2, q3⟩ | ⟨q1, q2, q3⟩
  · exact tab_same h p2 q2
  · obtain ⟨t, ht⟩ := h.la (i := i) (by omega) (by omega) (by omega)
    obtain ⟨w1, w2, w3, w4, q, w5, w6⟩ := h.al ht
    exact absurd ⟨by omega, by omega, by omega, by omega, by omega⟩ (p3 t q ht w5)
  · obtain ⟨w1, w2, w3, w4, q', w5, w6⟩ := h.al ht
    rw [h4] at w5; cases w5
    exact absurd ⟨w1.1, w1.2.1, w1.2.2, by omega, by omega, by omega, by omega, by omega⟩ q3
  · exact tab_oth h p3 p4 p6 q3.1 (by decide)
theorem ind_both {x f1 f2 : Int} (h : TABR sk iv rv v a) (hs : iv (sk 2) 2 = v 3) (hc : CT iv rv (sk 2) (a 2)) (hp : PIND i x f1 sk iv rv iv2 rv2) (hq : ((f2 = -1 ∧ TSAME v a v2 a2 ∧ ¬ ((0 ≤ x ∧ x ≤ 3 ∧ 0 ≤ i ∧ i < v 4 ∧ a 5 i.toNat = 1 ∧ ((x = 0 ∧ a 6 i.toNat ≤ 2) ∨ (x = 1 ∧ a 6 i.toNat = 2) ∨ (x ≠ 0 ∧ x ≠ 1 ∧ a 6 i.toNat = 5)) ∧ v 3 ≤ 4) ∧ ACL (a 2) 0 (v 3) (DC (a 7 i.toNat)) ∧ True)) ∨ (f2 = v 3 ∧ ((0 ≤ x ∧ x ≤ 3 ∧ 0 ≤ i ∧ i < v 4 ∧ a 5 i.toNat = 1 ∧ ((x = 0 ∧ a 6 i.toNat ≤ 2) ∨ (x = 1 ∧ a 6 i.toNat = 2) ∨ (x ≠ 0 ∧ x ≠ 1 ∧ a 6 i.toNat = 5)) ∧ v 3 ≤ 4) ∧ ACL (a 2) 0 (v 3) (DC (a 7 i.toNat)) ∧ True) ∧ TIND i x v a v2 a2))) : f1 = f2 ∧ TABR sk iv2 rv2 v2 a2 := by
  rcases hp with ⟨p1, p2, p3⟩ | ⟨p1, t, ht, p2, p3, p4, p6⟩ <;> rcases hq with ⟨q1, q2, q3⟩ | ⟨q1, ⟨q2, q4, _⟩, q3⟩
  · exact ⟨by omega, tab_same h p2 q2⟩
  · obtain ⟨t, ht⟩ := h.la (i := i) (by omega) (by omega) (by omega)
    obtain ⟨w1, w2, w3, w4, q, w5, w6⟩ := h.al ht
    refine absurd ⟨⟨by omega, by omega, by omega, by omega⟩, ?_⟩ (p3 (a 2) t hc ht w4)
    rw [hs, w3]; exact q4
  · obtain ⟨w1, w2, w3, w4, q', w5, w6⟩ := h.al ht
    obtain ⟨⟨r1, r2, r3, r4⟩, r9⟩ := p2 (a 2) hc w4
    rw [hs, w3] at r9
    exact absurd ⟨⟨by omega, by omega, w1.1, w1.2.1, w1.2.2, by omega, by omega⟩, r9, trivial⟩ q3
  · exact ⟨by omega, tab_oth h p3 p4 p6 q3.1 (by decide)⟩
theorem und_both {f1 f2 : Int} (h : TABR sk iv rv v a) (hp : PUNX f1 sk iv rv iv2 rv2) (hq : (∃ ln, STK ln v a) ∧ (∃ ln, STK ln v2 a2) ∧ ((v 19 = 0 ∧ f2 = 0 ∧ TSAME v a v2 a2) ∨ (v 19 ≠ 0 ∧ f2 = 1 ∧ TUND v a v2 a2))) : f1 = f2 ∧ TABR sk iv2 rv2 v2 a2 := by
  obtain ⟨⟨ln, s1⟩, ⟨ln2, s2⟩, hq⟩ := hq
  have h4 := h.2.2.2.1
  rcases hp with ⟨p1, p2, p3⟩ | ⟨p1, p2, ch, p3, p4⟩ <;> rcases hq with ⟨q1, q2, q3⟩ | ⟨q1, q2, q3⟩
  · exact ⟨by omega, tab_same h p3 q3⟩
  · omega
  · omega
  · exact ⟨by omega, tab_undo h s1 s2 q1 p3 p4 q3⟩
end TABS
