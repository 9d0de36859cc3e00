def nxe (T : Nat → Int) (N : Int) (s : Int × Nat × List (Int × List (Int × Nat × Int))) : Int × Nat × List (Int × List (Int × Nat × Int)) := if s.1 = 0 then (if N ≤ ((s.2.1 : Nat) : Int) then s else (if T s.2.1 = 94 then (2, s.2.1 + 1, (1, []) :: s.2.2) else (1, s.2.1, (1, []) :: s.2.2))) else (if (TWF T N ((s.2.1 : Nat) : Int)).2.length = 0 then (0, (TWF T N ((s.2.1 : Nat) : Int)).1 + 1, (if s.1 = 2 then 4 else 3, []) :: s.2.2) else (s.1, (TWF T N ((s.2.1 : Nat) : Int)).1, (2, (TWF T N ((s.2.1 : Nat) : Int)).2) :: s.2.2))
def evs (T : Nat → Int) (N : Int) : Nat → Int × Nat × List (Int × List (Int × Nat × Int))
  | 0 => (0, 0, [])
  | k + 1 => nxe T N (evs T N k)
def RNE (T : Nat → Int) (N m : Int) (p : Int) (es : List (Int × List (Int × Nat × Int))) : Prop := 0 ≤ p ∧ ∃ k, evs T N k = (m, p.toNat, es)
def ENDV (T : Nat → Int) (N : Int) (es : List (Int × List (Int × Nat × Int))) : Prop := ∃ p, RNE T N 0 p es ∧ N ≤ p
def WSS (a : Nat → Nat → Int) (t : Int) (w : List (Int × Nat × Int)) (cs : List Int) (st : Nat → Int) : Prop := WST a t w cs ∧ (a 6 t.toNat ≠ 5 → ∃ ps, SPS a (lts w) t 0 ((w.length : Nat) : Int) 0 ps ∧ cs = cls ps ∧ st = fun j => bgn ps 0 j (-1)) ∧ (a 6 t.toNat = 5 → st = fun _ => -1)
def STV (a : Nat → Nat → Int) (t wd hy : Int) (e : (Int × List (Int × Nat × Int))) (D0 : List (List Int)) (b0 : Nat) (D : List (List Int)) (b : Nat) : Prop := (e.1 = 1 ∧ D0.length < 200 ∧ D = D0 ++ [[]] ∧ b = D0.length) ∨ (e.1 = 2 ∧ (∃ D1 x1 cs st, D0 = D1 ++ [x1] ∧ WSS a t e.2 cs st ∧ flw (brk a t e.2 st) wd hy cs 201 0 D1 x1 = some D) ∧ b = b0) ∨ (e.1 = 3 ∧ D = D0 ∧ b = b0) ∨ (e.1 = 4 ∧ D = cnl wd b0 D0 ∧ b = b0)
def drs (a : Nat → Nat → Int) (t wd hy : Int) : List (Int × List (Int × Nat × Int)) → List (List Int) → Nat → Prop
  | [], D, b => D = [] ∧ b = 0
  | e :: es, D, b => ∃ D0 b0, drs a t wd hy es D0 b0 ∧ STV a t wd hy e D0 b0 D b
def BADV (T : Nat → Int) (N : Int) (a : Nat → Nat → Int) (t wd hy : Int) : Prop := ∃ m p es, RNE T N m p es ∧ ¬ ∃ D b, drs a t wd hy es D b
def SHH (v : Nat → Int) (a : Nat → Nat → Int) (D : List (List Int)) : Prop := v 36 = ((D.length : Nat) : Int) ∧ ∀ (l : Nat) (xs : List Int), D[l]? = some xs → a 34 l = ((xs.length : Nat) : Int) ∧ ∀ (j : Nat) (x : Int), xs[j]? = some x → a 35 (200 * l + j) = x
def SETD (v : Nat → Int) (a : Nat → Nat → Int) (t f : Int) (D : List (List Int)) : Prop := WHL v a t ∧ ∃ es b, ENDV (a 29) (v 30) es ∧ drs a t (v 31) (v 33) es D b ∧ f = ((D.length : Nat) : Int)
def SETN (v : Nat → Int) (a : Nat → Nat → Int) (t f : Int) : Prop := f = -1 ∧ (¬ WHL v a t ∨ (WHL v a t ∧ BADV (a 29) (v 30) a t (v 31) (v 33)))
def KSH (v : Nat → Int) (a : Nat → Nat → Int) (v2 : Nat → Int) (a2 : Nat → Nat → Int) : Prop := v2 36 = v 36 ∧ a2 34 = a 34 ∧ a2 35 = a 35
def SETX (v : Nat → Int) (a : Nat → Nat → Int) (v2 : Nat → Int) (a2 : Nat → Nat → Int) (t f : Int) : Prop := (SETN v a t f ∧ KSH v a v2 a2) ∨ ∃ D, SETD v a t f D ∧ SHH v2 a2 D
section EVNS
variable {v v1 v2 v3 : Nat → Int} {a a1 a2 a3 : Nat → Nat → Int} {T W : Nat → Int} {N q u p b f f1 f2 z x y m t n wd hy l r k : Int} {w : List (Int × Nat × Int)} {es es2 : List (Int × List (Int × Nat × Int))} {D D2 D0 : List (List Int)} {b0 b1 b2 : Nat} {cs ds xs : List Int} {st st2 : Nat → Int} {ps : List (Int × List Int)}
theorem snocx {α : Type} : ∀ D : List α, D.length ≠ 0 → ∃ D1 u, D = D1 ++ [u] := by
  intro D
  induction D with
  | nil => intro h; exact absurd rfl h
  | cons x D ih =>
    intro _
    by_cases c : D.length = 0
    · have e := List.length_eq_zero_iff.mp c
      subst e
      exact ⟨[], x, rfl⟩
    · obtain ⟨D1, u, e⟩ := ih c
      exact ⟨x :: D1, u, by rw [e]; rfl⟩
theorem app_inj {α : Type} {D1 D2 : List α} {u m : α} (h : D1 ++ [u] = D2 ++ [m]) : D1 = D2 ∧ u = m := by
  have h1 := congrArg List.length h
  rw [len1, len1] at h1
  have e := List.append_inj h (by omega)
  exact ⟨e.1, by have e2 := e.2; injection e2⟩
theorem evs_s (k : Nat) : evs T N (k + 1) = nxe T N (evs T N k) := rfl
theorem nxe_ext (s : Int × Nat × List (Int × List (Int × Nat × Int))) : ∃ r, (nxe T N s).2.2 = r ++ s.2.2 := by
  unfold nxe
  split
  · split
    · exact ⟨[], rfl⟩
    · split
      · exact ⟨[_], rfl⟩
      · exact ⟨[_], rfl⟩
  · split
    · exact ⟨[_], rfl⟩
    · exact ⟨[_], rfl⟩
theorem evs_ext (k : Nat) : ∀ d : Nat, ∃ r, (evs T N (k + d)).2.2 = r ++ (evs T N k).2.2 := by
  intro d
  induction d with
  | zero => exact ⟨[], rfl⟩
  | succ d ih =>
    obtain ⟨r, h⟩ := ih
    obtain ⟨r2, h2⟩ := nxe_ext (T := T) (N := N) (evs T N (k + d))
    refine ⟨r2 ++ r, ?_⟩
    rw [← Nat.add_assoc, evs_s, h2, h, List.append_assoc]
theorem evs_end {P k : Nat} (h : evs T N k = (0, P, es)) (hN : N ≤ ((P : Nat) : Int)) : ∀ d : Nat, evs T N (k + d) = (0, P, es) := by
  intro d
  induction d with
  | zero => exact h
  | succ d ih =>
    rw [← Nat.add_assoc, evs_s, ih]
    unfold nxe
    rw [if_pos (by show (0 : Int) = 0; rfl), if_pos (by show N ≤ ((P : Nat) : Int); exact hN)]
theorem RNE.sub (h : RNE T N m p es) (h2 : ENDV T N es2) : ∃ r, es2 = r ++ es := by
  obtain ⟨_, k, e⟩ := h
  obtain ⟨p2, ⟨_, k2, e2⟩, hN⟩ := h2
  have e3 := evs_end e2 (by omega) k
  obtain ⟨r, h4⟩ := evs_ext (T := T) (N := N) k k2
  rw [Nat.add_comm k k2, e3, e] at h4
  exact ⟨r, h4⟩
theorem ENDV.uni (h : ENDV T N es) (h2 : ENDV T N es2) : es = es2 := by
  obtain ⟨p, g, gN⟩ := h
  obtain ⟨p2, g2, gN2⟩ := h2
  obtain ⟨r, e⟩ := g.sub ⟨p2, g2, gN2⟩
  obtain ⟨r2, e2⟩ := g2.sub ⟨p, g, gN⟩
  have l1 := congrArg List.length e
  have l2 := congrArg List.length e2
  rw [List.length_append] at l1 l2
  have e0 : r = [] := List.length_eq_zero_iff.mp (by omega)
  rw [e, e0]
  rfl
theorem RNE.zero : RNE T N 0 0 [] := ⟨Int.le_refl _, 0, rfl⟩
theorem nxe0 (P : Nat) (hP : ((P : Nat) : Int) < N) : nxe T N (0, P, es) = if T P = 94 then (2, P + 1, (1, []) :: es) else (1, P, (1, []) :: es) := by
  unfold nxe
  rw [if_pos (by show (0 : Int) = 0; rfl), if_neg (by show ¬ N ≤ ((P : Nat) : Int); omega)]
theorem nxe1 (P : Nat) (hP : ((P : Nat) : Int) = p) (hm : m ≠ 0) : nxe T N (m, P, es) = if (TWF T N p).2.length = 0 then (0, (TWF T N p).1 + 1, (if m = 2 then 4 else 3, []) :: es) else (m, (TWF T N p).1, (2, (TWF T N p).2) :: es) := by
  subst hP
  unfold nxe
  rw [if_neg (by show ¬ m = 0; exact hm)]
theorem RNE.enter (h : RNE T N 0 p es) (hp : p < N) (hz : (T p.toNat = 94 ∧ z = p + 1 ∧ m = 2) ∨ (T p.toNat ≠ 94 ∧ z = p ∧ m = 1)) : RNE T N m z ((1, []) :: es) := by
  obtain ⟨h0, k, e⟩ := h
  refine ⟨by omega, k + 1, ?_⟩
  rw [evs_s, e, nxe0 (N := N) p.toNat (by omega)]
  rcases hz with ⟨e1, e2, e3⟩ | ⟨e1, e2, e3⟩
  · rw [if_pos e1, e3, show z.toNat = p.toNat + 1 by omega]
  · rw [if_neg e1, e3, e2]
theorem RNE.word (h : RNE T N m p es) (hm : m ≠ 0) (hr : TWF T N p = (z.toNat, w)) (hz : 0 ≤ z) (hw : w.length ≠ 0) : RNE T N m z ((2, w) :: es) := by
  obtain ⟨h0, k, e⟩ := h
  have e3 : (TWF T N p).2 = w := congrArg Prod.snd hr
  have e4 : (TWF T N p).1 = z.toNat := congrArg Prod.fst hr
  refine ⟨hz, k + 1, ?_⟩
  rw [evs_s, e, nxe1 (p := p) p.toNat (by omega) hm, e3, e4, if_neg hw]
theorem RNE.line (h : RNE T N m p es) (hm : m ≠ 0) (hr : TWF T N p = (z.toNat, w)) (hz : 0 ≤ z) (hw : w.length = 0) : RNE T N 0 (z + 1) ((if m = 2 then 4 else 3, []) :: es) := by
  obtain ⟨h0, k, e⟩ := h
  have e3 : (TWF T N p).2 = w := congrArg Prod.snd hr
  have e4 : (TWF T N p).1 = z.toNat := congrArg Prod.fst hr
  refine ⟨by omega, k + 1, ?_⟩
  rw [evs_s, e, nxe1 (p := p) p.toNat (by omega) hm, e3, e4, if_pos hw, show (z + 1).toNat = z.toNat + 1 by omega]
theorem ptp.uni2 (hT : TBL v a) (ht : 0 ≤ t ∧ t < v 4) {qs : List (Int × List Int)} (h : SPS a W t 0 n 0 ps) (h2 : SPS a W t 0 n 0 qs) : ps = qs := by
  obtain ⟨⟨y, h1, h3⟩, _⟩ := h
  obtain ⟨⟨z, g1, g3⟩, _⟩ := h2
  exact ptp.uni hT ht.1 ht.2 h1 h3 g1 g3
theorem WSS.uni (hT : TBL v a) (ht : 0 ≤ t ∧ t < v 4) (h : WSS a t w cs st) (h2 : WSS a t w ds st2) : cs = ds ∧ st = st2 := by
  obtain ⟨p1, p2, p3⟩ := h
  obtain ⟨q1, q2, q3⟩ := h2
  refine ⟨SWC.uni hT ht p1 q1, ?_⟩
  by_cases c : a 6 t.toNat = 5
  · rw [p3 c, q3 c]
  · obtain ⟨ps, k1, _, k3⟩ := p2 c
    obtain ⟨qs, j1, _, j3⟩ := q2 c
    rw [k3, j3, ptp.uni2 hT ht k1 j1]
theorem STV.uni {e : (Int × List (Int × Nat × Int))} {B1 B2 : Nat} (hT : TBL v a) (ht : 0 ≤ t ∧ t < v 4) (h : STV a t wd hy e D0 b0 D B1) (h2 : STV a t wd hy e D0 b0 D2 B2) : D = D2 ∧ B1 = B2 := by
  rcases h with ⟨e1, _, e2, e3⟩ | ⟨e1, ⟨D1, x1, cs, st, k1, k2, k3⟩, e3⟩ | ⟨e1, e2, e3⟩ | ⟨e1, e2, e3⟩ <;> rcases h2 with ⟨d1, _, d2, d3⟩ | ⟨d1, ⟨D3, x3, ds, st3, j1, j2, j3⟩, d3⟩ | ⟨d1, d2, d3⟩ | ⟨d1, d2, d3⟩
  · exact ⟨e2.trans d2.symm, e3.trans d3.symm⟩
  · omega
  · omega
  · omega
  · omega
  · obtain ⟨i1, i2⟩ := app_inj (k1.symm.trans j1)
    obtain ⟨c1, c2⟩ := WSS.uni hT ht k2 j2
    subst i1
    subst i2
    subst c1
    subst c2
    rw [k3] at j3
    injection j3 with j4
    exact ⟨j4, e3.trans d3.symm⟩
  · omega
  · omega
  · omega
  · omega
  · exact ⟨e2.trans d2.symm, e3.trans d3.symm⟩
  · omega
  · omega
  · omega
  · omega
  · exact ⟨e2.trans d2.symm, e3.trans d3.symm⟩
theorem drs.uni (hT : TBL v a) (ht : 0 ≤ t ∧ t < v 4) : ∀ (es : List (Int × List (Int × Nat × Int))) (D D2 : List (List Int)) (B1 B2 : Nat), drs a t wd hy es D B1 → drs a t wd hy es D2 B2 → D = D2 ∧ B1 = B2 := by
  intro es
  induction es with
  | nil =>
    intro D D2 B1 B2 h h2
    obtain ⟨e1, e2⟩ := h
    obtain ⟨d1, d2⟩ := h2
    exact ⟨e1.trans d1.symm, e2.trans d2.symm⟩
  | cons e es ih =>
    intro D D2 B1 B2 h h2
    obtain ⟨D3, b3, g1, g2⟩ := h
    obtain ⟨D4, b4, j1, j2⟩ := h2
    obtain ⟨i1, i2⟩ := ih D3 D4 b3 b4 g1 j1
    subst i1
    subst i2
    exact STV.uni hT ht g2 j2
theorem drs.tail : ∀ (rs : List (Int × List (Int × Nat × Int))) (es : List (Int × List (Int × Nat × Int))) (D : List (List Int)) (B : Nat), drs a t wd hy (rs ++ es) D B → ∃ D2 B2, drs a t wd hy es D2 B2 := by
  intro rs
  induction rs with
  | nil => intro es D B h; exact ⟨D, B, h⟩
  | cons e rs ih =>
    intro es D B h
    obtain ⟨D3, b3, g1, _⟩ := h
    exact ih es D3 b3 g1
theorem BADV.no {B : Nat} (h : BADV T N a t wd hy) (h2 : ENDV T N es) (h3 : drs a t wd hy es D B) : False := by
  obtain ⟨m, p, es1, g1, g2⟩ := h
  obtain ⟨r, e⟩ := g1.sub h2
  subst e
  exact g2 (drs.tail r es1 D B h3)
theorem SETD.uni (hT : TBL v a) (h : SETD v a t f1 D) (h2 : SETD v a t f2 D2) : f1 = f2 ∧ D = D2 := by
  obtain ⟨w1, es1, b1, p1, p2, p3⟩ := h
  obtain ⟨_, es3, b3, q1, q2, q3⟩ := h2
  have ht := WHL.tr w1
  have e := p1.uni q1
  subst e
  obtain ⟨e1, _⟩ := drs.uni hT ⟨ht.1, ht.2.1⟩ es1 D D2 b1 b3 p2 q2
  subst e1
  exact ⟨p3.trans q3.symm, rfl⟩
theorem SETN.no (h : SETN v a t f1) (h2 : SETD v a t f2 D) : False := by
  obtain ⟨_, g⟩ := h
  obtain ⟨w1, es1, b1, p1, p2, _⟩ := h2
  rcases g with g | ⟨_, g⟩
  · exact g w1
  · exact g.no p1 p2
theorem fnd_rng (hT : TBL v a) (h30 : v 4 ≤ 30) (h10 : ∀ i, a 10 i ≤ 200) : ∀ (n : Nat) (W : Nat → Int) (t r : Int), 0 ≤ t → t < v 4 → fnd a q u x n W t r → FNP a u x r := by
  intro n
  induction n with
  | zero => intro W t r _ _ h; exact False.elim h
  | succ n ih =>
    intro W t r h0 h4 h
    have ht := hT.1 t h0 h4
    have t8 : 1 ≤ a 6 t.toNat → a 6 t.toNat ≤ 3 → 0 ≤ a 8 t.toNat ∧ a 8 t.toNat < v 4 := by omega
    have t6 : a 6 t.toNat ≠ 1 → a 6 t.toNat ≠ 2 → a 6 t.toNat ≠ 3 → a 6 t.toNat < 1 ∨ 3 < a 6 t.toNat := by omega
    clear ht
    rw [fnd_s] at h
    obtain ⟨p1, p2, p3, p4⟩ := h
    by_cases k1 : a 6 t.toNat = 1
    · obtain ⟨y, z, e1, e2, e3⟩ := p1 k1
      rw [e3]
      exact cmb_rg (P := FNP a u x) (own_rg hT h30 h0 h4 (h10 _) e1) (ih W _ z (t8 (by omega) (by omega)).1 (t8 (by omega) (by omega)).2 e2)
    · by_cases k2 : a 6 t.toNat = 2
      · by_cases c : isD (W x.toNat)
        · exact own_rg hT h30 h0 h4 (h10 _) ((p2 k2).1 c)
        · exact ih W _ r (t8 (by omega) (by omega)).1 (t8 (by omega) (by omega)).2 ((p2 k2).2 c)
      · by_cases k3 : a 6 t.toNat = 3
        · obtain ⟨y, z, e1, e2, e3⟩ := p3 k3
          rw [e3]
          exact cmb_rg (P := FNP a u x) (own_rg hT h30 h0 h4 (h10 _) e1) (ih _ _ z (t8 (by omega) (by omega)).1 (t8 (by omega) (by omega)).2 e2)
        · exact own_rg hT h30 h0 h4 (h10 _) (p4 (t6 k1 k2 k3))
theorem PC1.rg (hT : TBL v a) (h30 : v 4 ≤ 30) (h10 : ∀ i, a 10 i ≤ 200) (ht : 0 ≤ t ∧ t < v 4) (h : PC1 a W t q u x l cs) : 1 ≤ l ∧ 1 ≤ cs.length := by
  obtain ⟨r, ⟨r0, e⟩, p⟩ := h
  rcases p with ⟨p4, p5⟩ | ⟨_, _, p6, p7⟩
  · have g := fnd_rng hT h30 h10 _ _ _ _ ht.1 ht.2 p4
    rcases g with g | ⟨g1, g2, g3, g4, g5⟩
    · omega
    · have e2 := RCL.len (a := a) (r := r) (by omega)
      rw [p5, List.length_append]
      omega
  · have g := fnd_rng hT h30 h10 _ _ _ _ ht.1 ht.2 p6
    rcases g with g | ⟨g1, g2, g3, g4, g5⟩
    · omega
    · have e2 := RCL.len (a := a) (r := r) (by omega)
      rw [p7, List.length_append]
      omega
theorem bgn_lt {i : Nat} : ∀ (ps : List (Int × List Int)) (m d : Int), (∀ p ∈ ps, 1 ≤ p.2.length) → d < m + (((cls ps).length : Nat) : Int) → bgn ps m i d < m + (((cls ps).length : Nat) : Int) := by
  intro ps
  induction ps with
  | nil => intro m d _ h; exact h
  | cons p ps ih =>
    intro m d hp h
    have e := hp p List.mem_cons_self
    rw [cls_cons, List.length_append] at h ⊢
    have g := ih (m + ((p.2.length : Nat) : Int)) (if i = p.1.toNat then m else d) (fun q hq => hp q (List.mem_cons_of_mem _ hq)) (by push_cast at h; split <;> omega)
    show bgn ps (m + ((p.2.length : Nat) : Int)) i (if i = p.1.toNat then m else d) < _
    push_cast
    omega
theorem ptp.ne (hl : ∀ x l cs, PC1 a W t q u x l cs → 1 ≤ l ∧ 1 ≤ cs.length) : ∀ (ps : List (Int × List Int)) (x y : Int), ptp a W t q u x ps y → ∀ p ∈ ps, 1 ≤ p.2.length := by
  intro ps
  induction ps with
  | nil => intro x y _ p hp; cases hp
  | cons p0 ps ih =>
    intro x y h p hp
    obtain ⟨_, _, l, h3, h4⟩ := h
    rcases List.mem_cons.mp hp with e | e
    · rw [e]; exact (hl x l _ h3).2
    · exact ih _ _ h4 p e
theorem ptp.mono (hl : ∀ x l cs, PC1 a W t q u x l cs → 1 ≤ l ∧ 1 ≤ cs.length) {i j : Nat} (hij : i < j) : ∀ (ps : List (Int × List Int)) (x m di dj : Int), ptp a W t q u x ps y → 0 ≤ x → 0 ≤ m → (0 ≤ di → 0 ≤ dj → di ≤ dj) → (x ≤ ((j : Nat) : Int) → dj = -1) → di ≤ m → dj ≤ m → 0 ≤ bgn ps m i di → 0 ≤ bgn ps m j dj → bgn ps m i di ≤ bgn ps m j dj := by
  intro ps
  induction ps with
  | nil => intro x m di dj _ _ _ c1 _ _ _ h1 h2; exact c1 h1 h2
  | cons p ps ih =>
    intro x m di dj h h0 hm c1 c2 c3 c4 h1 h2
    obtain ⟨_, e, l, h3, h4⟩ := h
    have l1 := (hl x l _ h3).1
    have ex : p.1.toNat = x.toNat := by rw [e]
    refine ih (x + l) (m + ((p.2.length : Nat) : Int)) _ _ h4 (by omega) (by omega) ?_ ?_ ?_ ?_ h1 h2
    · intro g1 g2
      by_cases ci : i = p.1.toNat
      · rw [if_pos ci] at g1 ⊢
        rw [if_neg (by omega)] at g2 ⊢
        have := c2 (by omega)
        omega
      · rw [if_neg ci] at g1 ⊢
        by_cases cj : j = p.1.toNat
        · rw [if_pos cj]
          exact c3
        · rw [if_neg cj] at g2 ⊢
          exact c1 g1 g2
    · intro g
      rw [if_neg (by omega)]
      exact c2 (by omega)
    · split <;> omega
    · split <;> omega
theorem WSS.lt (hT : TBL v a) (h30 : v 4 ≤ 30) (h10 : ∀ i, a 10 i ≤ 200) (ht : 0 ≤ t ∧ t < v 4) (h : WSS a t w cs st) (h5 : a 6 t.toNat ≠ 5) (j : Nat) : st j < ((cs.length : Nat) : Int) := by
  obtain ⟨ps, ⟨⟨y, k1, _⟩, _⟩, k2, k3⟩ := h.2.1 h5
  rw [k3, k2]
  have g := bgn_lt (i := j) ps 0 (-1) (ptp.ne (fun x l cs hp => PC1.rg hT h30 h10 ht hp) ps 0 y k1) (by omega)
  rw [Int.zero_add] at g
  exact g
theorem WSS.mono (hT : TBL v a) (h30 : v 4 ≤ 30) (h10 : ∀ i, a 10 i ≤ 200) (ht : 0 ≤ t ∧ t < v 4) (h : WSS a t w cs st) (h5 : a 6 t.toNat ≠ 5) {i j : Nat} (hij : i < j) (h1 : 0 ≤ st i) (h2 : 0 ≤ st j) : st i ≤ st j := by
  obtain ⟨ps, ⟨⟨y, k1, _⟩, _⟩, k2, k3⟩ := h.2.1 h5
  rw [k3] at h1 h2 ⊢
  exact ptp.mono (fun x l cs hp => PC1.rg hT h30 h10 ht hp) hij ps 0 0 (-1) (-1) k1 (by omega) (by omega) (fun g => absurd g (by decide)) (fun _ => rfl) (by decide) (by decide) h1 h2
theorem flw_len {br : Int → Int → Int} : ∀ (n d : Nat) (D : List (List Int)) (xs : List Int) (D2 : List (List Int)), flw br wd hy cs n d D xs = some D2 → D.length + 1 ≤ D2.length := by
  intro n
  induction n with
  | zero => intro d D xs D2 h; cases h
  | succ n ih =>
    intro d D xs D2 h
    rw [flw_s] at h
    split at h
    · injection h with h1
      rw [← h1, len1]
      exact Nat.le_refl _
    · split at h
      · split at h
        · have g := ih _ _ _ _ h
          rw [len1] at g
          omega
        · cases h
      · split at h
        · injection h with h1
          rw [← h1, len1]
          exact Nat.le_refl _
        · split at h
          · have g := ih _ _ _ _ h
            rw [len1] at g
            omega
          · cases h
end EVNS
def SE2 (v : Nat → Int) (a : Nat → Nat → Int) (v1 : Nat → Int) (a1 : Nat → Nat → Int) (t x : Int) : Prop := ∃ es D b, RNE (a 29) (v 30) 0 x es ∧ drs a t (v 31) (v 33) es D b ∧ DRH v1 a1 D
def SE3 (v : Nat → Int) (a : Nat → Nat → Int) (v1 : Nat → Int) (a1 : Nat → Nat → Int) (t g q p : Int) : Prop := ∃ es D b, RNE (a 29) (v 30) (1 + g) p es ∧ drs a t (v 31) (v 33) es D b ∧ DRH v1 a1 D ∧ ((b : Nat) : Int) = q ∧ b < D.length
def SE4 (v : Nat → Int) (a : Nat → Nat → Int) (v1 : Nat → Int) (a1 : Nat → Nat → Int) (t g q z : Int) : Prop := ∃ p w, SE3 v a v1 a1 t g q p ∧ TWF (a 29) (v 30) p = (z.toNat, w) ∧ WDH v1 a1 w
def SC1 (a1 : Nat → Nat → Int) (y : Int) : Prop := ∀ l : Nat, ((l : Nat) : Int) < y → a1 34 l = a1 37 l ∧ ∀ j : Nat, ((j : Nat) : Int) < a1 37 l → a1 35 (200 * l + j) = a1 38 (200 * l + j)
def SC2 (a1 : Nat → Nat → Int) (y z : Int) : Prop := SC1 a1 y ∧ a1 34 y.toNat = a1 37 y.toNat ∧ ∀ j : Nat, ((j : Nat) : Int) < z → a1 35 (200 * y.toNat + j) = a1 38 (200 * y.toNat + j)
def SE5 (v : Nat → Int) (a : Nat → Nat → Int) (v1 : Nat → Int) (a1 : Nat → Nat → Int) (t : Int) : Prop := ∃ es D b, ENDV (a 29) (v 30) es ∧ drs a t (v 31) (v 33) es D b ∧ DRH v1 a1 D ∧ v1 36 = v1 39
section RSET
variable {v v1 v2 v3 : Nat → Int} {a a1 a2 a3 : Nat → Nat → Int} {q u p b f f1 f2 z x y m t n g k c : Int} {w : List (Int × Nat × Int)} {es : List (Int × List (Int × Nat × Int))} {D : List (List Int)} {i i2 : Nat} {cs : List Int} {st : Nat → Int}
theorem SE2.init (h : v1 39 = 0) : SE2 v a v1 a1 t 0 := ⟨[], [], 0, RNE.zero, ⟨rfl, rfl⟩, h, fun l xs e => by simp at e⟩
theorem SE2.fr (h : SE2 v a v1 a1 t x) (hv : v2 39 = v1 39) (h37 : a2 37 = a1 37) (h38 : a2 38 = a1 38) : SE2 v a v2 a2 t x := by
  obtain ⟨es, D, b, h1, h2, h3⟩ := h
  exact ⟨es, D, b, h1, h2, h3.fr hv h37 h38⟩
theorem SE2.enter (h : SE2 v a v1 a1 t x) (hx : x < v 30) (hz : (a 29 x.toNat = 94 ∧ y = x + 1 ∧ g = 1) ∨ (a 29 x.toNat ≠ 94 ∧ y = x ∧ g = 0)) (hn : NLX v1 a1 v2 a2 f) (hf : f = 1) (h5 : q = v1 39) : SE3 v a v2 a2 t g q y := by
  obtain ⟨es, D, b, h1, h2, h3⟩ := h
  rcases hn D h3 with ⟨_, n2, n3⟩ | ⟨n1, _⟩
  · refine ⟨_, _, D.length, h1.enter hx (z := y) (m := 1 + g) (by omega), ⟨D, b, h2, Or.inl ⟨rfl, n2, rfl, rfl⟩⟩, n3, ?_, by rw [len1]; omega⟩
    rw [h5]
    exact h3.1.symm
  · omega
theorem SE3.take (h : SE3 v a v1 a1 t g q p) (hx : TKX (a 29) (v 30) v2 a2 p z) (hv : v2 39 = v1 39) (h37 : a2 37 = a1 37) (h38 : a2 38 = a1 38) : SE4 v a v2 a2 t g q z := by
  obtain ⟨w, h1, h2⟩ := hx
  obtain ⟨es, D, b, k1, k2, k3, k4, k5⟩ := h
  exact ⟨p, w, ⟨es, D, b, k1, k2, k3.fr hv h37 h38, k4, k5⟩, h1, h2⟩
theorem SE4.bad (h : SE4 v a v1 a1 t g q z) (hg : g = 0 ∨ g = 1) (hz : 0 ≤ z) (h23 : v1 23 ≠ 0) (hs : SWT v1 a1 v2 a2 t f) (hf : f ≠ 1) (hE : TBE a1 a) (h12 : ∀ i, 0 ≤ a 12 i) (h13 : ∀ i, 0 ≤ a1 12 i) : BADV (a 29) (v 30) a t (v 31) (v 33) := by
  obtain ⟨p, w, ⟨es, D, b, k1, k2, k3, k4, k5⟩, h1, h2⟩ := h
  have e := h2.1
  refine ⟨_, _, _, k1.word (by omega) h1 hz (by omega), fun ⟨D2, b2, D0, b0, _, j2⟩ => ?_⟩
  rcases j2 with ⟨q1, _⟩ | ⟨_, ⟨D1, x1, cs, st, _, j4, _⟩, _⟩ | ⟨q1, _⟩ | ⟨q1, _⟩
  · exact absurd (show (2 : Int) = 1 from q1) (by decide)
  · exact (hs.wst hE h2 h12 h13).2 hf ⟨cs, j4.1⟩
  · exact absurd (show (2 : Int) = 3 from q1) (by decide)
  · exact absurd (show (2 : Int) = 4 from q1) (by decide)
theorem SE2.fin (h : SE2 v a v1 a1 t x) (hx : v 30 ≤ x) (hv : v2 39 = v1 39) (h36 : v2 36 = v1 39) : SE5 v a v2 a1 t := by
  obtain ⟨es, D, b, h1, h2, h3⟩ := h
  exact ⟨es, D, b, ⟨x, h1, hx⟩, h2, h3.fr hv rfl rfl, by omega⟩
theorem SE5.fr (h : SE5 v a v1 a1 t) (h37 : a2 37 = a1 37) (h38 : a2 38 = a1 38) : SE5 v a v1 a2 t := by
  obtain ⟨es, D, b, h1, h2, h3, h4⟩ := h
  exact ⟨es, D, b, h1, h2, h3.fr rfl h37 h38, h4⟩
theorem SC1.init (hy : y = 0) : SC1 a1 y := fun l hl => absurd hl (by omega)
theorem SC1.go (h : SC1 a1 y) (hy : 0 ≤ y) (hi : i = y.toNat) (hz : z = a1 37 y.toNat) : SC2 (up2 a1 34 i z) y 0 := by
  subst hi
  refine ⟨fun l hl => ?_, ?_, fun j hj => absurd hj (by omega)⟩
  · obtain ⟨g1, g2⟩ := h l hl
    refine ⟨by rw [up2_j (by omega), up2_k (by decide)]; exact g1, fun j hj => ?_⟩
    rw [up2_k (by decide)] at hj
    rw [up2_k (by decide), up2_k (by decide)]
    exact g2 j hj
  · rw [up2_s, up2_k (by decide)]
    exact hz
theorem SC2.mv (h : SC2 a1 y k) (hb : ∀ l, a1 37 l ≤ 200) (hy : 0 ≤ y) (hk : 0 ≤ k ∧ k < 200) (hi : i = (200 * y + k).toNat) (hz : z = a1 38 (200 * y + k).toNat) : SC2 (up2 a1 35 i z) y (k + 1) := by
  obtain ⟨h1, h2, h3⟩ := h
  have ei : i = 200 * y.toNat + k.toNat := by omega
  have ez : z = a1 38 i := by rw [hz, hi]
  refine ⟨fun l hl => ?_, by rw [up2_k (by decide), up2_k (by decide)]; exact h2, fun j hj => ?_⟩
  · obtain ⟨g1, g2⟩ := h1 l hl
    have b1 := hb l
    refine ⟨by rw [up2_k (by decide), up2_k (by decide)]; exact g1, fun j hj => ?_⟩
    rw [up2_k (by decide)] at hj
    rw [up2_j (by omega), up2_k (by decide)]
    exact g2 j hj
  · by_cases c : ((j : Nat) : Int) = k
    · rw [show 200 * y.toNat + j = i by omega, up2_s, up2_k (by decide)]
      exact ez
    · rw [up2_j (by omega), up2_k (by decide)]
      exact h3 j (by omega)
theorem SC2.fin (h : SC2 a1 y k) (hy : 0 ≤ y) (hk : a1 37 y.toNat ≤ k) : SC1 a1 (y + 1) := fun l hl => by
  by_cases c : ((l : Nat) : Int) < y
  · exact h.1 l c
  · have e : l = y.toNat := by omega
    subst e
    exact ⟨h.2.1, fun j hj => h.2.2 j (by omega)⟩
theorem SETX.ok (hw : WHL v a t) (h : SE5 v a v1 a1 t) (hc : SC1 a1 y) (hy : v1 36 ≤ y) (hf : f = v1 36) (h36 : v2 36 = v1 36) (h34 : a2 34 = a1 34) (h35 : a2 35 = a1 35) : SETX v a v2 a2 t f := by
  obtain ⟨es, D, b, h1, h2, h3, h4⟩ := h
  have e := h3.1
  refine Or.inr ⟨D, ⟨hw, es, b, h1, h2, by omega⟩, by omega, fun l xs ex => ?_⟩
  have lt := gl3 ex
  obtain ⟨g1, g2⟩ := h3.2 l xs ex
  obtain ⟨c1, c2⟩ := hc l (by omega)
  rw [h34, h35]
  refine ⟨c1.trans g1, fun j z ej => ?_⟩
  have lj := gl3 ej
  rw [c2 j (by omega)]
  exact g2 j z ej
theorem SETX.n1 (h : ¬ WHL v a t) (hf : f = -1) (hk : KSH v a v2 a2) : SETX v a v2 a2 t f := Or.inl ⟨⟨hf, Or.inl h⟩, hk⟩
theorem SETX.n2 (hw : WHL v a t) (h : BADV (a 29) (v 30) a t (v 31) (v 33)) (hf : f = -1) (hk : KSH v a v2 a2) : SETX v a v2 a2 t f := Or.inl ⟨⟨hf, Or.inr ⟨hw, h⟩⟩, hk⟩
theorem KSH.refl : KSH v a v a := ⟨rfl, rfl, rfl⟩
theorem KSH.fr {V A : List Nat} (h : KSH v a v1 a1) (f1 : fr V A v1 a1 v2 a2) (h36 : V.contains 36 = false) (h34 : A.contains 34 = false) (h35 : A.contains 35 = false) : KSH v a v2 a2 := ⟨(f1.1 36 h36).trans h.1, (f1.2 34 h34).trans h.2.1, (f1.2 35 h35).trans h.2.2⟩
end RSET
