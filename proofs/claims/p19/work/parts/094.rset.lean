section
def nxe (T : Nat → Int) (N : Int) (s : Int × Nat × List (Int × List (Int × Nat × Int))) : Int × Nat × List (Int × List (Int × Nat × Int)) := if s.1 = 0 then (if N ≤ ((s.2.1 : Nat) : Int) then s else (if T s.2.1 = 94 then (2, s.2.1 + 1, (1, []) :: s.2.2) else (1, s.2.1, (1, []) :: s.2.2))) else (if (TWF T N ((s.2.1 : Nat) : Int)).2.length = 0 then (0, (TWF T N ((s.2.1 : Nat) : Int)).1 + 1, (if s.1 = 2 then 4 else 3, []) :: s.2.2) else (s.1, (TWF T N ((s.2.1 : Nat) : Int)).1, (2, (TWF T N ((s.2.1 : Nat) : Int)).2) :: s.2.2))
def evs (T : Nat → Int) (N : Int) : Nat → Int × Nat × List (Int × List (Int × Nat × Int))
  | 0 => (0, 0, [])
  | k + 1 => nxe T N (evs T N k)
def RNE (T : Nat → Int) (N m : Int) (p : Int) (es : List (Int × List (Int × Nat × Int))) : Prop := 0 ≤ p ∧ ∃ k, evs T N k = (m, p.toNat, es)
def ENDV (T : Nat → Int) (N : Int) (es : List (Int × List (Int × Nat × Int))) : Prop := ∃ p, RNE T N 0 p es ∧ N ≤ p
def WSS (a : Nat → Nat → Int) (t : Int) (w : List (Int × Nat × Int)) (cs : List Int) (st : Nat → Int) : Prop := WST a t w cs ∧ (a 6 t.toNat ≠ 5 → ∃ ps, SPS a (lts w) t 0 ((w.length : Nat) : Int) 0 ps ∧ cs = cls ps ∧ st = fun j => bgn ps 0 j (-1)) ∧ (a 6 t.toNat = 5 → st = fun _ => -1)
def STV (a : Nat → Nat → Int) (t wd hy : Int) (e : (Int × List (Int × Nat × Int))) (D0 : List (List Int)) (b0 : Nat) (D : List (List Int)) (b : Nat) : Prop := (e.1 = 1 ∧ D0.length < 200 ∧ D = D0 ++ [[]] ∧ b = D0.length) ∨ (e.1 = 2 ∧ (∃ D1 x1 cs st, D0 = D1 ++ [x1] ∧ WSS a t e.2 cs st ∧ flw (brk a t e.2 st) wd hy cs 201 0 D1 x1 = some D) ∧ b = b0) ∨ (e.1 = 3 ∧ D = D0 ∧ b = b0) ∨ (e.1 = 4 ∧ D = cnl wd b0 D0 ∧ b = b0)
def drs (a : Nat → Nat → Int) (t wd hy : Int) : List (Int × List (Int × Nat × Int)) → List (List Int) → Nat → Prop
  | [], D, b => D = [] ∧ b = 0
  | e :: es, D, b => ∃ D0 b0, drs a t wd hy es D0 b0 ∧ STV a t wd hy e D0 b0 D b
def BADV (T : Nat → Int) (N : Int) (a : Nat → Nat → Int) (t wd hy : Int) : Prop := ∃ m p es, RNE T N m p es ∧ ¬ ∃ D b, drs a t wd hy es D b
def SHH (v : Nat → Int) (a : Nat → Nat → Int) (D : List (List Int)) : Prop := v 36 = ((D.length : Nat) : Int) ∧ ∀ (l : Nat) (xs : List Int), D[l]? = some xs → a 34 l = ((xs.length : Nat) : Int) ∧ ∀ (j : Nat) (x : Int), xs[j]? = some x → a 35 (200 * l + j) = x
def SETD (v : Nat → Int) (a : Nat → Nat → Int) (t f : Int) (D : List (List Int)) : Prop := WHL v a t ∧ ∃ es b, ENDV (a 29) (v 30) es ∧ drs a t (v 31) (v 33) es D b ∧ f = ((D.length : Nat) : Int)
def SETN (v : Nat → Int) (a : Nat → Nat → Int) (t f : Int) : Prop := f = -1 ∧ (¬ WHL v a t ∨ (WHL v a t ∧ BADV (a 29) (v 30) a t (v 31) (v 33)))
def KSH (v : Nat → Int) (a : Nat → Nat → Int) (v2 : Nat → Int) (a2 : Nat → Nat → Int) : Prop := v2 36 = v 36 ∧ a2 34 = a 34 ∧ a2 35 = a 35
def SETX (v : Nat → Int) (a : Nat → Nat → Int) (v2 : Nat → Int) (a2 : Nat → Nat → Int) (t f : Int) : Prop := (SETN v a t f ∧ KSH v a v2 a2) ∨ ∃ D, SETD v a t f D ∧ SHH v2 a2 D
section EVNS
variable {v v1 v2 v3 : Nat → Int} {a a1 a2 a3 : Nat → Nat → Int} {T W : Nat → Int} {N q u p b f f1 f2 z x y m t n wd hy l r k : Int} {w : List (Int × Nat × Int)} {es es2 : List (Int × List (Int × Nat × Int))} {D D2 D0 : List (List Int)} {b0 b1 b2 : Nat} {cs ds xs : List Int} {st st2 : Nat → Int} {ps : List (Int × List Int)}
theorem snocx {α : Type} : ∀ D : List α, D.length ≠ 0 → ∃ D1 u, D = D1 ++ [u] := by
  intro D
  induction D with
  | nil => intro h; exact absurd rfl h
  | cons x D ih =>
    intro _
    by_cases c : D.length = 0
    · have e := List.length_eq_zero_iff.mp c
      subst e
      exact ⟨[], x, rfl⟩
    · obtain ⟨D1, u, e⟩ := ih c
      exact ⟨x :: D1, u, by rw [e]; rfl⟩
theorem app_inj {α : Type} {D1 D2 : List α} {u m : α} (h : D1 ++ [u] = D2 ++ [m]) : D1 = D2 ∧ u = m := by
  have h1 := congrArg List.length h
  rw [len1, len1] at h1
  have e := List.append_inj h (by omega)
  exact ⟨e.1, by have e2 := e.2; injection e2⟩
theorem evs_s (k : Nat) : evs T N (k + 1) = nxe T N (evs T N k) := rfl
theorem nxe_ext (s : Int × Nat × List (Int × List (Int × Nat × Int))) : ∃ r, (nxe T N s).2.2 = r ++ s.2.2 := by
  unfold nxe
  split
  · split
    · exact ⟨[], rfl⟩
    · split
      · exact ⟨[_], rfl⟩
      · exact ⟨[_], rfl⟩
  · split
    · exact ⟨[_], rfl⟩
    · exact ⟨[_], rfl⟩
theorem evs_ext (k : Nat) : ∀ d : Nat, ∃ r, (evs T N (k + d)).2.2 = r ++ (evs T N k).2.2 := by
  intro d
  induction d with
  | zero => exact ⟨[], rfl⟩
  | succ d ih =>
    obtain ⟨r, h⟩ := ih
    obtain ⟨r2, h2⟩ := nxe_ext (T := T) (N := N) (evs T N (k + d))
    refine ⟨r2 ++ r, ?_⟩
    rw [← Nat.add_assoc, evs_s, h2, h, List.append_assoc]
theorem evs_end {P k : Nat} (h : evs T N k = (0, P, es)) (hN : N ≤ ((P : Nat) : Int)) : ∀ d : Nat, evs T N (k + d) = (0, P, es) := by
  intro d
  induction d with
  | zero => exact h
  | succ d ih =>
    rw [← Nat.add_assoc, evs_s, ih]
    unfold nxe
    rw [if_pos (by show (0 : Int) = 0; rfl), if_pos (by show N ≤ ((P : Nat) : Int); exact hN)]
theorem RNE.sub (h : RNE T N m p es) (h2 : ENDV T N es2) : ∃ r, es2 = r ++ es := by
  obtain ⟨_, k, e⟩ := h
  obtain ⟨p2, ⟨_, k2, e2⟩, hN⟩ := h2
  have e3 := evs_end e2 (by omega) k
  obtain ⟨r, h4⟩ := evs_ext (T := T) (N := N) k k2
  rw [Nat.add_comm k k2, e3, e] at h4
  exact ⟨r, h4⟩
theorem ENDV.uni (h : ENDV T N es) (h2 : ENDV T N es2) : es = es2 := by
  obtain ⟨p, g, gN⟩ := h
  obtain ⟨p2, g2, gN2⟩ := h2
  obtain ⟨r, e⟩ := g.sub ⟨p2, g2, gN2⟩
  obtain ⟨r2, e2⟩ := g2.sub ⟨p, g, gN⟩
  refine hv2 (congrArg List.length e) (congrArg List.length e2) (fun l1 l2 => ?_)
  rw [List.length_append] at l1 l2
  have e0 : r = [] := List.length_eq_zero_iff.mp (by omega)
  rw [e, e0]
  rfl
theorem RNE.zero : RNE T N 0 0 [] := ⟨Int.le_refl _, 0, rfl⟩
theorem nxe0 (P : Nat) (hP : ((P : Nat) : Int) < N) : nxe T N (0, P, es) = if T P = 94 then (2, P + 1, (1, []) :: es) else (1, P, (1, []) :: es) := by
  unfold nxe
  rw [if_pos (by show (0 : Int) = 0; rfl), if_neg (by show ¬ N ≤ ((P : Nat) : Int); omega)]
theorem nxe1 (P : Nat) (hP : ((P : Nat) : Int) = p) (hm : m ≠ 0) : nxe T N (m, P, es) = if (TWF T N p).2.length = 0 then (0, (TWF T N p).1 + 1, (if m = 2 then 4 else 3, []) :: es) else (m, (TWF T N p).1, (2, (TWF T N p).2) :: es) := by
  subst hP
  unfold nxe
  rw [if_neg (by show ¬ m = 0; exact hm)]
theorem RNE.enter (h : RNE T N 0 p es) (hp : p < N) (hz : (T p.toNat = 94 ∧ z = p + 1 ∧ m = 2) ∨ (T p.toNat ≠ 94 ∧ z = p ∧ m = 1)) : RNE T N m z ((1, []) :: es) := by
  obtain ⟨h0, k, e⟩ := h
  refine ⟨by omega, k + 1, ?_⟩
  rw [evs_s, e, nxe0 (N := N) p.toNat (by omega)]
  rcases hz with ⟨e1, e2, e3⟩ | ⟨e1, e2, e3⟩
  · rw [if_pos e1, e3, show z.toNat = p.toNat + 1 by omega]
  · rw [if_neg e1, e3, e2]
theorem RNE.word (h : RNE T N m p es) (hm : m ≠ 0) (hr : TWF T N p = (z.toNat, w)) (hz : 0 ≤ z) (hw : w.length ≠ 0) : RNE T N m z ((2, w) :: es) := by
  obtain ⟨h0, k, e⟩ := h
  refine hv2 (show (TWF T N p).2 = w from congrArg Prod.snd hr) (show (TWF T N p).1 = z.toNat from congrArg Prod.fst hr) (fun e3 e4 => ?_)
  refine ⟨hz, k + 1, ?_⟩
  rw [evs_s, e, nxe1 (p := p) p.toNat (by omega) hm, e3, e4, if_neg hw]
theorem RNE.line (h : RNE T N m p es) (hm : m ≠ 0) (hr : TWF T N p = (z.toNat, w)) (hz : 0 ≤ z) (hw : w.length = 0) : RNE T N 0 (z + 1) ((if m = 2 then 4 else 3, []) :: es) := by
  obtain ⟨h0, k, e⟩ := h
  refine hv2 (show (TWF T N p).2 = w from congrArg Prod.snd hr) (show (TWF T N p).1 = z.toNat from congrArg Prod.fst hr) (fun e3 e4 => ?_)
  refine ⟨by omega, k + 1, ?_⟩
  rw [evs_s, e, nxe1 (p := p) p.toNat (by omega) hm, e3, e4, if_pos hw, show (z + 1).toNat = z.toNat + 1 by omega]
theorem ptp.uni2 (hT : TBL v a) (ht : 0 ≤ t ∧ t < v 4) {qs : List (Int × List Int)} (h : SPS a W t 0 n 0 ps) (h2 : SPS a W t 0 n 0 qs) : ps = qs := by
  obtain ⟨⟨y, h1, h3⟩, _⟩ := h
  obtain ⟨⟨z, g1, g3⟩, _⟩ := h2
  exact ptp.uni hT ht.1 ht.2 h1 h3 g1 g3
theorem WSS.uni (hT : TBL v a) (ht : 0 ≤ t ∧ t < v 4) (h : WSS a t w cs st) (h2 : WSS a t w ds st2) : cs = ds ∧ st = st2 := by
  obtain ⟨p1, p2, p3⟩ := h
  obtain ⟨q1, q2, q3⟩ := h2
  refine ⟨SWC.uni hT ht p1 q1, ?_⟩
  by_cases c : a 6 t.toNat = 5
  · rw [p3 c, q3 c]
  · obtain ⟨ps, k1, _, k3⟩ := p2 c
    obtain ⟨qs, j1, _, j3⟩ := q2 c
    rw [k3, j3, ptp.uni2 hT ht k1 j1]
theorem STV.uni {e : (Int × List (Int × Nat × Int))} {B1 B2 : Nat} (hT : TBL v a) (ht : 0 ≤ t ∧ t < v 4) (h : STV a t wd hy e D0 b0 D B1) (h2 : STV a t wd hy e D0 b0 D2 B2) : D = D2 ∧ B1 = B2 := by
  rcases h with ⟨e1, _, e2, e3⟩ | ⟨e1, ⟨D1, x1, cs, st, k1, k2, k3⟩, e3⟩ | ⟨e1, e2, e3⟩ | ⟨e1, e2, e3⟩ <;> rcases h2 with ⟨d1, _, d2, d3⟩ | ⟨d1, ⟨D3, x3, ds, st3, j1, j2, j3⟩, d3⟩ | ⟨d1, d2, d3⟩ | ⟨d1, d2, d3⟩
  · exact ⟨e2.trans d2.symm, e3.trans d3.symm⟩
  · omega
  · omega
  · omega
  · omega
  · obtain ⟨i1, i2⟩ := app_inj (k1.symm.trans j1)
    obtain ⟨c1, c2⟩ := WSS.uni hT ht k2 j2
    subst i1
    subst i2
    subst c1
    subst c2
    rw [k3] at j3
    injection j3 with j4
    exact ⟨j4, e3.trans d3.symm⟩
  · omega
  · omega
  · omega
  · omega
  · exact ⟨e2.trans d2.symm, e3.trans d3.symm⟩
  · omega
  · omega
  · omega
  · omega
  · exact ⟨e2.trans d2.symm, e3.trans d3.symm⟩
theorem drs.uni (hT : TBL v a) (ht : 0 ≤ t ∧ t < v 4) : ∀ (es : List (Int × List (Int × Nat × Int))) (D D2 : List (List Int)) (B1 B2 : Nat), drs a t wd hy es D B1 → drs a t wd hy es D2 B2 → D = D2 ∧ B1 = B2 := by
  intro es
  induction es with
  | nil =>
    intro D D2 B1 B2 h h2
    obtain ⟨e1, e2⟩ := h
    obtain ⟨d1, d2⟩ := h2
    exact ⟨e1.trans d1.symm, e2.trans d2.symm⟩
  | cons e es ih =>
    intro D D2 B1 B2 h h2
    obtain ⟨D3, b3, g1, g2⟩ := h
    obtain ⟨D4, b4, j1, j2⟩ := h2
    obtain ⟨i1, i2⟩ := ih D3 D4 b3 b4 g1 j1
    subst i1
    subst i2
    exact STV.uni hT ht g2 j2
theorem drs.tail : ∀ (rs : List (Int × List (Int × Nat × Int))) (es : List (Int × List (Int × Nat × Int))) (D : List (List Int)) (B : Nat), drs a t wd hy (rs ++ es) D B → ∃ D2 B2, drs a t wd hy es D2 B2 := by
  intro rs
  induction rs with
  | nil => intro es D B h; exact ⟨D, B, h⟩
  | cons e rs ih =>
    intro es D B h
    obtain ⟨D3, b3, g1, _⟩ := h
    exact ih es D3 b3 g1
theorem BADV.no {B : Nat} (h : BADV T N a t wd hy) (h2 : ENDV T N es) (h3 : drs a t wd hy es D B) : False := by
  obtain ⟨m, p, es1, g1, g2⟩ := h
  obtain ⟨r, e⟩ := g1.sub h2
  subst e
  exact g2 (drs.tail r es1 D B h3)
theorem SETD.uni (hT : TBL v a) (h : SETD v a t f1 D) (h2 : SETD v a t f2 D2) : f1 = f2 ∧ D = D2 := by
  obtain ⟨w1, es1, b1, p1, p2, p3⟩ := h
  obtain ⟨_, es3, b3, q1, q2, q3⟩ := h2
  refine hv2 (WHL.tr w1) (p1.uni q1) (fun ht e => ?_)
  subst e
  obtain ⟨e1, _⟩ := drs.uni hT ⟨ht.1, ht.2.1⟩ es1 D D2 b1 b3 p2 q2
  subst e1
  exact ⟨p3.trans q3.symm, rfl⟩
theorem SETN.no (h : SETN v a t f1) (h2 : SETD v a t f2 D) : False := by
  obtain ⟨_, g⟩ := h
  obtain ⟨w1, es1, b1, p1, p2, _⟩ := h2
  rcases g with g | ⟨_, g⟩
  · exact g w1
  · exact g.no p1 p2
theorem fnd_rng (hT : TBL v a) (h30 : v 4 ≤ 30) (h10 : ∀ i, a 10 i ≤ 200) : ∀ (n : Nat) (W : Nat → Int) (t r : Int), 0 ≤ t → t < v 4 → fnd a q u x n W t r → FNP a u x r := by
  intro n
  induction n with
  | zero => intro W t r _ _ h; exact False.elim h
  | succ n ih =>
    intro W t r h0 h4 h
    have ht := hT.1 t h0 h4
    have t8 : 1 ≤ a 6 t.toNat → a 6 t.toNat ≤ 3 → 0 ≤ a 8 t.toNat ∧ a 8 t.toNat < v 4 := by omega
    have t6 : a 6 t.toNat ≠ 1 → a 6 t.toNat ≠ 2 → a 6 t.toNat ≠ 3 → a 6 t.toNat < 1 ∨ 3 < a 6 t.toNat := by omega
    clear ht
    rw [fnd_s] at h
    obtain ⟨p1, p2, p3, p4⟩ := h
    by_cases k1 : a 6 t.toNat = 1
    · obtain ⟨y, z, e1, e2, e3⟩ := p1 k1
      rw [e3]
      exact cmb_rg (P := FNP a u x) (own_rg hT h30 h0 h4 (h10 _) e1) (ih W _ z (t8 (by omega) (by omega)).1 (t8 (by omega) (by omega)).2 e2)
    · by_cases k2 : a 6 t.toNat = 2
      · by_cases c : isD (W x.toNat)
        · exact own_rg hT h30 h0 h4 (h10 _) ((p2 k2).1 c)
        · exact ih W _ r (t8 (by omega) (by omega)).1 (t8 (by omega) (by omega)).2 ((p2 k2).2 c)
      · by_cases k3 : a 6 t.toNat = 3
        · obtain ⟨y, z, e1, e2, e3⟩ := p3 k3
          rw [e3]
          exact cmb_rg (P := FNP a u x) (own_rg hT h30 h0 h4 (h10 _) e1) (ih _ _ z (t8 (by omega) (by omega)).1 (t8 (by omega) (by omega)).2 e2)
        · exact own_rg hT h30 h0 h4 (h10 _) (p4 (t6 k1 k2 k3))
theorem PC1.rg (hT : TBL v a) (h30 : v 4 ≤ 30) (h10 : ∀ i, a 10 i ≤ 200) (ht : 0 ≤ t ∧ t < v 4) (h : PC1 a W t q u x l cs) : 1 ≤ l ∧ 1 ≤ cs.length := by
  obtain ⟨r, ⟨r0, e⟩, p⟩ := h
  rcases p with ⟨p4, p5⟩ | ⟨_, _, p6, p7⟩
  · have g := fnd_rng hT h30 h10 _ _ _ _ ht.1 ht.2 p4
    rcases g with g | ⟨g1, g2, g3, g4, g5⟩
    · omega
    · have e2 := RCL.len (a := a) (r := r) (by omega)
      rw [p5, List.length_append]
      omega
  · have g := fnd_rng hT h30 h10 _ _ _ _ ht.1 ht.2 p6
    rcases g with g | ⟨g1, g2, g3, g4, g5⟩
    · omega
    · have e2 := RCL.len (a := a) (r := r) (by omega)
      rw [p7, List.length_append]
      omega
theorem bgn_lt {i : Nat} : ∀ (ps : List (Int × List Int)) (m d : Int), (∀ p ∈ ps, 1 ≤ p.2.length) → d < m + (((cls ps).length : Nat) : Int) → bgn ps m i d < m + (((cls ps).length : Nat) : Int) := by
  intro ps
  induction ps with
  | nil => intro m d _ h; exact h
  | cons p ps ih =>
    intro m d hp h
    have e := hp p List.mem_cons_self
    rw [cls_cons, List.length_append] at h ⊢
    have g := ih (m + ((p.2.length : Nat) : Int)) (if i = p.1.toNat then m else d) (fun q hq => hp q (List.mem_cons_of_mem _ hq)) (by push_cast at h; split <;> omega)
    show bgn ps (m + ((p.2.length : Nat) : Int)) i (if i = p.1.toNat then m else d) < _
    push_cast
    omega
theorem ptp.ne (hl : ∀ x l cs, PC1 a W t q u x l cs → 1 ≤ l ∧ 1 ≤ cs.length) : ∀ (ps : List (Int × List Int)) (x y : Int), ptp a W t q u x ps y → ∀ p ∈ ps, 1 ≤ p.2.length := by
  intro ps
  induction ps with
  | nil => intro x y _ p hp; cases hp
  | cons p0 ps ih =>
    intro x y h p hp
    obtain ⟨_, _, l, h3, h4⟩ := h
    rcases List.mem_cons.mp hp with e | e
    · rw [e]; exact (hl x l _ h3).2
    · exact ih _ _ h4 p e
theorem ptp.mono (hl : ∀ x l cs, PC1 a W t q u x l cs → 1 ≤ l ∧ 1 ≤ cs.length) {i j : Nat} (hij : i < j) : ∀ (ps : List (Int × List Int)) (x m di dj : Int), ptp a W t q u x ps y → 0 ≤ x → 0 ≤ m → (0 ≤ di → 0 ≤ dj → di ≤ dj) → (x ≤ ((j : Nat) : Int) → dj = -1) → di ≤ m → dj ≤ m → 0 ≤ bgn ps m i di → 0 ≤ bgn ps m j dj → bgn ps m i di ≤ bgn ps m j dj := by
  intro ps
  induction ps with
  | nil => intro x m di dj _ _ _ c1 _ _ _ h1 h2; exact c1 h1 h2
  | cons p ps ih =>
    intro x m di dj h h0 hm c1 c2 c3 c4 h1 h2
    obtain ⟨_, e, l, h3, h4⟩ := h
    refine hv2 ((hl x l _ h3).1) (show p.1.toNat = x.toNat from by rw [e]) (fun l1 ex => ?_)
    refine ih (x + l) (m + ((p.2.length : Nat) : Int)) _ _ h4 (by omega) (by omega) ?_ ?_ ?_ ?_ h1 h2
    · intro g1 g2
      by_cases ci : i = p.1.toNat
      · rw [if_pos ci] at g1 ⊢
        rw [if_neg (by omega)] at g2 ⊢
        have := c2 (by omega)
        omega
      · rw [if_neg ci] at g1 ⊢
        by_cases cj : j = p.1.toNat
        · rw [if_pos cj]
          exact c3
        · rw [if_neg cj] at g2 ⊢
          exact c1 g1 g2
    · intro g
      rw [if_neg (by omega)]
      exact c2 (by omega)
    · split <;> omega
    · split <;> omega
theorem WSS.lt (hT : TBL v a) (h30 : v 4 ≤ 30) (h10 : ∀ i, a 10 i ≤ 200) (ht : 0 ≤ t ∧ t < v 4) (h : WSS a t w cs st) (h5 : a 6 t.toNat ≠ 5) (j : Nat) : st j < ((cs.length : Nat) : Int) := by
  obtain ⟨ps, ⟨⟨y, k1, _⟩, _⟩, k2, k3⟩ := h.2.1 h5
  rw [k3, k2]
  have g := bgn_lt (i := j) ps 0 (-1) (ptp.ne (fun x l cs hp => PC1.rg hT h30 h10 ht hp) ps 0 y k1) (by omega)
  rw [Int.zero_add] at g
  exact g
theorem WSS.mono (hT : TBL v a) (h30 : v 4 ≤ 30) (h10 : ∀ i, a 10 i ≤ 200) (ht : 0 ≤ t ∧ t < v 4) (h : WSS a t w cs st) (h5 : a 6 t.toNat ≠ 5) {i j : Nat} (hij : i < j) (h1 : 0 ≤ st i) (h2 : 0 ≤ st j) : st i ≤ st j := by
  obtain ⟨ps, ⟨⟨y, k1, _⟩, _⟩, k2, k3⟩ := h.2.1 h5
  rw [k3] at h1 h2 ⊢
  exact ptp.mono (fun x l cs hp => PC1.rg hT h30 h10 ht hp) hij ps 0 0 (-1) (-1) k1 (by omega) (by omega) (fun g => absurd g (by decide)) (fun _ => rfl) (by decide) (by decide) h1 h2
theorem SWT.wss (hs : SWT v1 a1 v2 a2 t f) (hb : SWB v1 a1 v2 a2 t f) (hf : f = 1) (hT : TBL v a) (h30 : v 4 ≤ 30) (h10 : ∀ i, a 10 i ≤ 200) (ht : 0 ≤ t ∧ t < v 4) (hE : TBE a1 a) (hw : WDH v1 a1 w) (h12 : ∀ i, 0 ≤ a 12 i) : ∃ cs st, WSS a t w cs st ∧ MDH v2 a2 cs ∧ (a 6 t.toNat ≠ 5 → ∀ j : Nat, j < w.length → a2 26 j = st j ∧ st j < ((cs.length : Nat) : Int)) := by
  refine hv3 (lts_w hw) (hw.1) (hE 6 (by decide)) (fun ag e e6 => ?_)
  obtain ⟨cs, g1, g2⟩ := hs.2.1 hf
  rw [e] at g1
  have ws : WST a t w cs := SWC_w ag h12 (SWC_cg hE g1)
  by_cases h5 : a 6 t.toNat = 5
  · exact ⟨cs, fun _ => -1, ⟨ws, fun c => absurd h5 c, fun _ => rfl⟩, g2, fun c => absurd h5 c⟩
  · obtain ⟨ps, k1, k2, k3⟩ := hb hf (by rw [e6]; exact h5)
    rw [e] at k1 k3
    have k4 := SPS_cg hE k1
    have k5 : SPS a (lts w) t 0 ((w.length : Nat) : Int) 0 ps := by
      obtain ⟨⟨y, j1, j2⟩, j3⟩ := k4
      exact ⟨⟨y, ptp_w ag (Int.le_refl _) h12 ps 0 y (Int.le_refl _) j1, j2⟩, j3⟩
    have ec : cs = cls ps := SWC.uni hT ht ws (Or.inl ⟨h5, ps, k5, rfl⟩)
    have wss : WSS a t w cs (fun j => bgn ps 0 j (-1)) := ⟨ws, fun _ => ⟨ps, k5, ec, rfl⟩, fun c => absurd c h5⟩
    exact ⟨cs, _, wss, g2, fun _ j hj => ⟨k3 j (by omega), wss.lt hT h30 h10 ht h5 j⟩⟩
theorem SWC.pos (hT : TBL v a) (h30 : v 4 ≤ 30) (h10 : ∀ i, a 10 i ≤ 200) (h16 : ∀ i, 0 ≤ a 16 i) (ht : 0 ≤ t ∧ t < v 4) (hn : 0 < n) (h : SWC a W n t cs) : 1 ≤ cs.length := by
  rcases h with ⟨_, ps, ⟨⟨y, k1, k2⟩, _⟩, k3⟩ | ⟨h5, _, js, ps, g, x, k1, k2, k3⟩
  · cases ps with
    | nil => cases k1; omega
    | cons p ps =>
      have g := ptp.ne (fun x l cs hp => PC1.rg hT h30 h10 ht hp) _ 0 y k1 p List.mem_cons_self
      rw [k3, cls_cons, List.length_append]
      omega
  · have tt := hT.1 t ht.1 ht.2
    cases js with
    | cons p js =>
      obtain ⟨_, _, k4, _⟩ := k1
      have e := ICL.len (a := a) (r := ind4 t 0) (h16 _)
      rw [k3]
      show 1 ≤ (((cls p.2 ++ ICL a (ind4 t 0)) ++ jcl a t (1 - 0) js) ++ cls ps).length
      rw [List.length_append, List.length_append, List.length_append]
      omega
    | nil =>
      obtain ⟨e1, e2⟩ := k1
      obtain ⟨_, _, _, z, j1, j2⟩ := k2
      cases ps with
      | nil => cases j1; omega
      | cons p ps =>
        have tp : 0 ≤ prt a t g ∧ prt a t g < v 4 := by
          unfold prt
          split <;> omega
        have g := ptp.ne (fun x l cs hp => PC1.rg hT h30 h10 tp hp) _ _ z j1 p List.mem_cons_self
        rw [k3, cls_cons, List.length_append, List.length_append]
        omega
theorem flw_len {br : Int → Int → Int} : ∀ (n d : Nat) (D : List (List Int)) (xs : List Int) (D2 : List (List Int)), flw br wd hy cs n d D xs = some D2 → D.length + 1 ≤ D2.length := by
  intro n
  induction n with
  | zero => intro d D xs D2 h; cases h
  | succ n ih =>
    intro d D xs D2 h
    rw [flw_s] at h
    split at h
    · injection h with h1
      rw [← h1, len1]
      exact Nat.le_refl _
    · split at h
      · split at h
        · have g := ih _ _ _ _ h
          rw [len1] at g
          omega
        · cases h
      · split at h
        · injection h with h1
          rw [← h1, len1]
          exact Nat.le_refl _
        · split at h
          · have g := ih _ _ _ _ h
            rw [len1] at g
            omega
          · cases h
end EVNS
def SE2 (v : Nat → Int) (a : Nat → Nat → Int) (v1 : Nat → Int) (a1 : Nat → Nat → Int) (t x : Int) : Prop := ∃ es D b, RNE (a 29) (v 30) 0 x es ∧ drs a t (v 31) (v 33) es D b ∧ DRH v1 a1 D
def SE3 (v : Nat → Int) (a : Nat → Nat → Int) (v1 : Nat → Int) (a1 : Nat → Nat → Int) (t g q p : Int) : Prop := ∃ es D b, RNE (a 29) (v 30) (1 + g) p es ∧ drs a t (v 31) (v 33) es D b ∧ DRH v1 a1 D ∧ ((b : Nat) : Int) = q ∧ b < D.length
def SE4 (v : Nat → Int) (a : Nat → Nat → Int) (v1 : Nat → Int) (a1 : Nat → Nat → Int) (t g q z : Int) : Prop := ∃ p w, SE3 v a v1 a1 t g q p ∧ TWF (a 29) (v 30) p = (z.toNat, w) ∧ WDH v1 a1 w
def SC1 (a1 : Nat → Nat → Int) (y : Int) : Prop := ∀ l : Nat, ((l : Nat) : Int) < y → a1 34 l = a1 37 l ∧ ∀ j : Nat, ((j : Nat) : Int) < a1 37 l → a1 35 (200 * l + j) = a1 38 (200 * l + j)
def SC2 (a1 : Nat → Nat → Int) (y z : Int) : Prop := SC1 a1 y ∧ a1 34 y.toNat = a1 37 y.toNat ∧ ∀ j : Nat, ((j : Nat) : Int) < z → a1 35 (200 * y.toNat + j) = a1 38 (200 * y.toNat + j)
def SE5 (v : Nat → Int) (a : Nat → Nat → Int) (v1 : Nat → Int) (a1 : Nat → Nat → Int) (t : Int) : Prop := ∃ es D b, ENDV (a 29) (v 30) es ∧ drs a t (v 31) (v 33) es D b ∧ DRH v1 a1 D ∧ v1 36 = v1 39
section RSET
variable {v v1 v2 v3 : Nat → Int} {a a1 a2 a3 : Nat → Nat → Int} {q u p b f f1 f2 z x y m t n g k c : Int} {w : List (Int × Nat × Int)} {es : List (Int × List (Int × Nat × Int))} {D : List (List Int)} {i i2 : Nat} {cs : List Int} {st : Nat → Int}
theorem SE2.init (h : v1 39 = 0) : SE2 v a v1 a1 t 0 := ⟨[], [], 0, RNE.zero, ⟨rfl, rfl⟩, h, fun l xs e => by simp at e⟩
theorem SE2.fr (h : SE2 v a v1 a1 t x) (hv : v2 39 = v1 39) (h37 : a2 37 = a1 37) (h38 : a2 38 = a1 38) : SE2 v a v2 a2 t x := by
  obtain ⟨es, D, b, h1, h2, h3⟩ := h
  exact ⟨es, D, b, h1, h2, h3.fr hv h37 h38⟩
theorem SE2.enter (h : SE2 v a v1 a1 t x) (hx : x < v 30) (hz : (a 29 x.toNat = 94 ∧ y = x + 1 ∧ g = 1) ∨ (a 29 x.toNat ≠ 94 ∧ y = x ∧ g = 0)) (hn : NLX v1 a1 v2 a2 f) (hf : f = 1) (h5 : q = v1 39) : SE3 v a v2 a2 t g q y := by
  obtain ⟨es, D, b, h1, h2, h3⟩ := h
  rcases hn D h3 with ⟨_, n2, n3⟩ | ⟨n1, _⟩
  · refine ⟨_, _, D.length, h1.enter hx (z := y) (m := 1 + g) (by omega), ⟨D, b, h2, Or.inl ⟨rfl, n2, rfl, rfl⟩⟩, n3, ?_, by rw [len1]; omega⟩
    rw [h5]
    exact h3.1.symm
  · omega
theorem SE2.nroom (h : SE2 v a v1 a1 t x) (hx : x < v 30) (hT : TBL v a) (ht : 0 ≤ t ∧ t < v 4) (hn : NLX v1 a1 v2 a2 f) (hf : f ≠ 1) : BADV (a 29) (v 30) a t (v 31) (v 33) := by
  obtain ⟨es, D, b, h1, h2, h3⟩ := h
  rcases hn D h3 with ⟨n1, _⟩ | ⟨_, n2⟩
  · exact absurd n1 hf
  · have no : ∀ D2 b2, ¬ drs a t (v 31) (v 33) ((1, []) :: es) D2 b2 := fun D2 b2 g => by
      obtain ⟨D0, b0, g1, g2⟩ := g
      obtain ⟨e1, _⟩ := drs.uni hT ht es D0 D b0 b g1 h2
      subst e1
      rcases g2 with ⟨_, q2, _⟩ | ⟨q1, _⟩ | ⟨q1, _⟩ | ⟨q1, _⟩
      · omega
      · exact absurd q1 (by decide)
      · exact absurd q1 (by decide)
      · exact absurd q1 (by decide)
    by_cases c : a 29 x.toNat = 94
    · exact ⟨2, x + 1, _, h1.enter hx (Or.inl ⟨c, rfl, rfl⟩), fun ⟨D2, b2, g⟩ => no D2 b2 g⟩
    · exact ⟨1, x, _, h1.enter hx (Or.inr ⟨c, rfl, rfl⟩), fun ⟨D2, b2, g⟩ => no D2 b2 g⟩
theorem SE3.take (h : SE3 v a v1 a1 t g q p) (hx : TKX (a 29) (v 30) v2 a2 p z) (hv : v2 39 = v1 39) (h37 : a2 37 = a1 37) (h38 : a2 38 = a1 38) : SE4 v a v2 a2 t g q z := by
  obtain ⟨w, h1, h2⟩ := hx
  obtain ⟨es, D, b, k1, k2, k3, k4, k5⟩ := h
  exact ⟨p, w, ⟨es, D, b, k1, k2, k3.fr hv h37 h38, k4, k5⟩, h1, h2⟩
theorem SE4.lineC (h : SE4 v a v1 a1 t g q z) (h23 : v1 23 = 0) (hz : 0 ≤ z) (hg : g = 1) (h31 : v1 31 = v 31) (hc : CNX v1 a1 v2 a2 q) : SE2 v a v2 a2 t (z + 1) := by
  obtain ⟨p, w, ⟨es, D, b, k1, k2, k3, k4, k5⟩, h1, h2⟩ := h
  have e := h2.1
  have g1 := k1.line (by omega) h1 hz (by omega)
  rw [if_pos (by omega)] at g1
  refine ⟨_, _, b, g1, ⟨D, b, k2, Or.inr (Or.inr (Or.inr ⟨rfl, rfl, rfl⟩))⟩, ?_⟩
  have g2 := hc D k3
  rw [h31, show q.toNat = b by omega] at g2
  exact g2
theorem SE4.lineN (h : SE4 v a v1 a1 t g q z) (h23 : v1 23 = 0) (hz : 0 ≤ z) (hg : g = 0) : SE2 v a v1 a1 t (z + 1) := by
  obtain ⟨p, w, ⟨es, D, b, k1, k2, k3, k4, k5⟩, h1, h2⟩ := h
  have e := h2.1
  have g1 := k1.line (by omega) h1 hz (by omega)
  rw [if_neg (by omega)] at g1
  exact ⟨_, _, b, g1, ⟨D, b, k2, Or.inr (Or.inr (Or.inl ⟨rfl, rfl, rfl⟩))⟩, k3⟩
theorem SE4.bad (h : SE4 v a v1 a1 t g q z) (hg : g = 0 ∨ g = 1) (hz : 0 ≤ z) (h23 : v1 23 ≠ 0) (hs : SWT v1 a1 v2 a2 t f) (hf : f ≠ 1) (hE : TBE a1 a) (h12 : ∀ i, 0 ≤ a 12 i) (h13 : ∀ i, 0 ≤ a1 12 i) : BADV (a 29) (v 30) a t (v 31) (v 33) := by
  obtain ⟨p, w, ⟨es, D, b, k1, k2, k3, k4, k5⟩, h1, h2⟩ := h
  have e := h2.1
  refine ⟨_, _, _, k1.word (by omega) h1 hz (by omega), fun ⟨D2, b2, D0, b0, _, j2⟩ => ?_⟩
  rcases j2 with ⟨q1, _⟩ | ⟨_, ⟨D1, x1, cs, st, _, j4, _⟩, _⟩ | ⟨q1, _⟩ | ⟨q1, _⟩
  · exact absurd (show (2 : Int) = 1 from q1) (by decide)
  · exact (hs.wst hE h2 h12 h13).2 hf ⟨cs, j4.1⟩
  · exact absurd (show (2 : Int) = 3 from q1) (by decide)
  · exact absurd (show (2 : Int) = 4 from q1) (by decide)
theorem SE4.flow (h : SE4 v a v1 a1 t g q z) (hg : g = 0 ∨ g = 1) (hz : 0 ≤ z) (h23 : v1 23 ≠ 0) (hT : TBL v a) (h30 : v 4 ≤ 30) (h10 : ∀ i, a 10 i ≤ 200) (ht : 0 ≤ t ∧ t < v 4) (hs : SWT v1 a1 v2 a2 t f1) (hb : SWB v1 a1 v2 a2 t f1) (hf : f1 = 1) (hE : TBE a1 a) (h12 : ∀ i, 0 ≤ a 12 i) (h6 : a2 6 = a 6) (h21 : a2 21 = a1 21) (h22 : a2 22 = a1 22) (v23 : v2 23 = v1 23) (v39 : v2 39 = v1 39) (h37 : a2 37 = a1 37) (h38 : a2 38 = a1 38) (v31 : v2 31 = v 31) (v33 : v2 33 = v 33) (hF : FLT v2 a2 v3 a3 t f2) : (f2 = 1 → SE3 v a v3 a3 t g q z) ∧ (f2 ≠ 1 → BADV (a 29) (v 30) a t (v 31) (v 33)) := by
  obtain ⟨p, w, ⟨es, D, b, k1, k2, k3, k4, k5⟩, h1, h2⟩ := h
  have e := h2.1
  obtain ⟨cs, st, w1, w2, w3⟩ := hs.wss hb hf hT h30 h10 ht hE h2 h12
  obtain ⟨D1, x1, eD⟩ := snocx D (by omega)
  have cx : FCX v2 a2 t D1 x1 cs w st := ⟨by rw [← eD]; exact k3.fr v39 h37 h38, w2, ⟨v23.trans e, fun j y ej => by rw [hs.1, h21, h22]; exact h2.2 j y ej⟩, by unfold BGT; rw [h6]; exact w3⟩
  obtain ⟨F1, F2⟩ := hF D1 x1 cs w st cx
  have eV : FLV v2 a2 t D1 x1 cs w st = flw (brk a t w st) (v 31) (v 33) cs 201 0 D1 x1 := by
    unfold FLV brk
    rw [h6, v31, v33]
  rw [eV] at F1 F2
  have rn := k1.word (by omega) h1 hz (by omega)
  refine ⟨fun c => ?_, fun c => ?_⟩
  · obtain ⟨D2, g1, g2⟩ := F1 c
    refine hv2 (flw_len _ _ _ _ _ g1) (congrArg List.length eD) (fun gl el => ?_)
    rw [len1] at el
    exact ⟨_, D2, b, rn, ⟨D, b, k2, Or.inr (Or.inl ⟨rfl, ⟨D1, x1, cs, st, eD, w1, g1⟩, rfl⟩)⟩, g2, k4, by omega⟩
  · have g1 := F2 c
    refine ⟨_, _, _, rn, fun ⟨D2, b2, D0, b0, j1, j2⟩ => ?_⟩
    obtain ⟨e1, _⟩ := drs.uni hT ht es D0 D b0 b j1 k2
    subst e1
    rcases j2 with ⟨q1, _⟩ | ⟨_, ⟨D3, x3, ds, s3, j3, j4, j5⟩, _⟩ | ⟨q1, _⟩ | ⟨q1, _⟩
    · exact absurd (show (2 : Int) = 1 from q1) (by decide)
    · obtain ⟨i1, i2⟩ := app_inj (eD.symm.trans j3)
      obtain ⟨c1, c2⟩ := WSS.uni hT ht w1 j4
      subst i1
      subst i2
      subst c1
      subst c2
      rw [g1] at j5
      cases j5
    · exact absurd (show (2 : Int) = 3 from q1) (by decide)
    · exact absurd (show (2 : Int) = 4 from q1) (by decide)
theorem SE2.fin (h : SE2 v a v1 a1 t x) (hx : v 30 ≤ x) (hv : v2 39 = v1 39) (h36 : v2 36 = v1 39) : SE5 v a v2 a1 t := by
  obtain ⟨es, D, b, h1, h2, h3⟩ := h
  exact ⟨es, D, b, ⟨x, h1, hx⟩, h2, h3.fr hv rfl rfl, by omega⟩
theorem SE5.fr (h : SE5 v a v1 a1 t) (h37 : a2 37 = a1 37) (h38 : a2 38 = a1 38) : SE5 v a v1 a2 t := by
  obtain ⟨es, D, b, h1, h2, h3, h4⟩ := h
  exact ⟨es, D, b, h1, h2, h3.fr rfl h37 h38, h4⟩
theorem SC1.init (hy : y = 0) : SC1 a1 y := fun l hl => absurd hl (by omega)
theorem SC1.go (h : SC1 a1 y) (hy : 0 ≤ y) (hi : i = y.toNat) (hz : z = a1 37 y.toNat) : SC2 (up2 a1 34 i z) y 0 := by
  subst hi
  refine ⟨fun l hl => ?_, ?_, fun j hj => absurd hj (by omega)⟩
  · obtain ⟨g1, g2⟩ := h l hl
    refine ⟨by rw [up2_j (by omega), up2_k (by decide)]; exact g1, fun j hj => ?_⟩
    rw [up2_k (by decide)] at hj
    rw [up2_k (by decide), up2_k (by decide)]
    exact g2 j hj
  · rw [up2_s, up2_k (by decide)]
    exact hz
theorem SC2.mv (h : SC2 a1 y k) (hb : ∀ l, a1 37 l ≤ 200) (hy : 0 ≤ y) (hk : 0 ≤ k ∧ k < 200) (hi : i = (200 * y + k).toNat) (hz : z = a1 38 (200 * y + k).toNat) : SC2 (up2 a1 35 i z) y (k + 1) := by
  obtain ⟨h1, h2, h3⟩ := h
  refine hv2 (show i = 200 * y.toNat + k.toNat from by omega) (show z = a1 38 i from by rw [hz, hi]) (fun ei ez => ?_)
  refine ⟨fun l hl => ?_, by rw [up2_k (by decide), up2_k (by decide)]; exact h2, fun j hj => ?_⟩
  · obtain ⟨g1, g2⟩ := h1 l hl
    have b1 := hb l
    refine ⟨by rw [up2_k (by decide), up2_k (by decide)]; exact g1, fun j hj => ?_⟩
    rw [up2_k (by decide)] at hj
    rw [up2_j (by omega), up2_k (by decide)]
    exact g2 j hj
  · by_cases c : ((j : Nat) : Int) = k
    · rw [show 200 * y.toNat + j = i by omega, up2_s, up2_k (by decide)]
      exact ez
    · rw [up2_j (by omega), up2_k (by decide)]
      exact h3 j (by omega)
theorem SC2.fin (h : SC2 a1 y k) (hy : 0 ≤ y) (hk : a1 37 y.toNat ≤ k) : SC1 a1 (y + 1) := fun l hl => by
  by_cases c : ((l : Nat) : Int) < y
  · exact h.1 l c
  · have e : l = y.toNat := by omega
    subst e
    exact ⟨h.2.1, fun j hj => h.2.2 j (by omega)⟩
theorem SETX.ok (hw : WHL v a t) (h : SE5 v a v1 a1 t) (hc : SC1 a1 y) (hy : v1 36 ≤ y) (hf : f = v1 36) (h36 : v2 36 = v1 36) (h34 : a2 34 = a1 34) (h35 : a2 35 = a1 35) : SETX v a v2 a2 t f := by
  obtain ⟨es, D, b, h1, h2, h3, h4⟩ := h
  have e := h3.1
  refine Or.inr ⟨D, ⟨hw, es, b, h1, h2, by omega⟩, by omega, fun l xs ex => ?_⟩
  have lt := gl3 ex
  obtain ⟨g1, g2⟩ := h3.2 l xs ex
  obtain ⟨c1, c2⟩ := hc l (by omega)
  rw [h34, h35]
  refine ⟨c1.trans g1, fun j z ej => ?_⟩
  have lj := gl3 ej
  rw [c2 j (by omega)]
  exact g2 j z ej
theorem SETX.n1 (h : ¬ WHL v a t) (hf : f = -1) (hk : KSH v a v2 a2) : SETX v a v2 a2 t f := Or.inl ⟨⟨hf, Or.inl h⟩, hk⟩
theorem SETX.n2 (hw : WHL v a t) (h : BADV (a 29) (v 30) a t (v 31) (v 33)) (hf : f = -1) (hk : KSH v a v2 a2) : SETX v a v2 a2 t f := Or.inl ⟨⟨hf, Or.inr ⟨hw, h⟩⟩, hk⟩
theorem KSH.refl : KSH v a v a := ⟨rfl, rfl, rfl⟩
theorem KSH.fr {V A : List Nat} (h : KSH v a v1 a1) (f1 : fr V A v1 a1 v2 a2) (h36 : V.contains 36 = false) (h34 : A.contains 34 = false) (h35 : A.contains 35 = false) : KSH v a v2 a2 := ⟨(f1.1 36 h36).trans h.1, (f1.2 34 h34).trans h.2.1, (f1.2 35 h35).trans h.2.2⟩
theorem SWT.pos (hs : SWT v1 a1 v2 a2 t f) (hf : f = 1) (hT : TBL v1 a1) (hB : BX v1 a1) (ht : 0 ≤ t ∧ t < v1 4) (hn : 0 < v1 23) : 1 ≤ v2 25 := by
  obtain ⟨cs, g1, g2⟩ := hs.2.1 hf
  refine hv2 (SWC.pos hT (hB.1 4).2 (fun i => (hB.2 10 i).2) (fun i => (hB.2 16 i).1) ht hn g1) (g2.1) (fun g e => ?_)
  omega
end RSET
set_option maxHeartbeats 4000000 in
set_option maxRecDepth 100000 in
theorem N2_set {l : Launch} {G : GT} {h0 : Nat} {ad ln : Nat → Nat} {v : Nat → Int} {a : Nat → Nat → Int}  {t : Int} (hB : BX v a) (hT : TBL v a) (ht : -2147483648 ≤ t ∧ t ≤ 2147483647) : Mm l G yX12_set cX12_set 7 (some .int) 66 [.int (iI t)] h0 ad ln v a 0 0 (fun r v2 a2 => ∃ f : Int, r = some (.int (iI f)) ∧ fr [0, 1, 23, 25, 28, 36, 39] [20, 21, 22, 24, 26, 27, 34, 35, 37, 38] v a v2 a2 ∧ BX v2 a2 ∧ (SETX v a v2 a2 t f)) := by
  refine Mm.mk (by decide) (Nat.le_of_ble_eq_true rfl) ?_
  intro p e s m args below meth c A C
  refine hv3 (show 0 ≤ v 4 ∧ v 4 ≤ 30 from hB.1 4) (show 0 ≤ v 30 ∧ v 30 ≤ 500 from hB.1 30) (show fr [0, 1, 23, 25, 28, 36, 39] [20, 21, 22, 24, 26, 27, 34, 35, 37, 38] v a v a from fr.refl) (fun h30 r30 fp0 => ?_)
  refine m_aload_n (j := 0) C dX12_set_0 rfl ?_
  refine m_iload_n (j := 1) C dX12_set_1 rfl ?_
  have rv1 : 0 ≤ v 4 ∧ v 4 ≤ 30 := hB.1 4
  refine m_call (mc2 := 0) (ms2 := 0) (As := [.int (iI t)]) (rest := []) C (E_isWhole (t := t) hB (hT.fr fp0 rfl rfl) (by show -2147483648 ≤ t ∧ t ≤ 2147483647; omega)) dX12_set_2 kV_X12_171 rfl ck_13 rfl (Nat.le_of_ble_eq_true rfl) ⟨Nat.le_of_ble_eq_true rfl, Nat.le_of_ble_eq_true rfl⟩ ⟨Nat.le_of_ble_eq_true rfl, Nat.le_of_ble_eq_true rfl⟩ (fun rh1 vh1 ah1 h1 => ?_)
  obtain ⟨f1, rfl, fn1, bn1, ex1⟩ := h1
  obtain ⟨rfl, rfl⟩ := fn1.eq
  obtain ⟨ex1, tl1⟩ := ex1
  have gf1 : f1 = 0 ∨ (f1 = 1 ∧ 0 ≤ t ∧ t < (v 4)) := ex1
  refine m_st (st2 := [.int (iI f1)]) rfl ?_
  refine m_if_ne (tgt := 14) C (r32_0p gf1) dX12_set_5 (by decide) (fun c1 => ?_) (fun c1 => ?_)
  · replace gf1 := (gf1.resolve_left c1)
    refine m_aload_n (j := 0) C dX12_set_14 rfl ?_
    refine m_iconst C dX12_set_15 ?_
    refine m_put (k := 39) (z := 0) C dX12_set_16 w6_98 (by decide) rfl rfl rfl ?_
    refine hv2 (show BX (va_up v 39 0) a from hB.put (k := 39) (z := 0) ⟨by decide, by decide⟩) (fp0.put (k := 39) (z := 0) rfl) (fun bq1 fq2 => ?_)
    refine m_iconst C dX12_set_19 ?_
    refine m_istore_n (lv2 := [(2, .int (iI 0)), (0, .ref h0), (1, .int (iI t))]) C dX12_set_20 (by decide) rfl ?_
    have Lp1 : ∀ (nn : Nat) (x : Int) (vb1 : Nat → Int) (ab1 : Nat → Nat → Int), 502 - x < (nn : Int) → BX vb1 ab1 → fr [0, 1, 23, 25, 28, 36, 39] [20, 21, 22, 24, 26, 27, 34, 35, 37, 38] v a vb1 ab1 → (0 ≤ x ∧ x ≤ 501) → (KSH v a vb1 ab1) → (SE2 v a vb1 ab1 t x) → mw p l e (rmq 66 0 0) s m args below meth c G A 7 (MQ below (Qm G A (fun rq Lq Eq => ∃ (vq : Nat → Int) (aq : Nat → Nat → Int), mI G h0 ad ln vq aq Lq Eq ∧ (fun r v2 a2 => ∃ f : Int, r = some (.int (iI f)) ∧ fr [0, 1, 23, 25, 28, 36, 39] [20, 21, 22, 24, 26, 27, 34, 35, 37, 38] v a v2 a2 ∧ BX v2 a2 ∧ (SETX v a v2 a2 t f)) rq vq aq)) args s 0 0 A) h0 ad ln vb1 ab1 0 0 21 [(2, .int (iI x)), (0, .ref h0), (1, .int (iI t))] [] := by
      intro nn
      induction nn with
      | zero =>
        intro x vb1 ab1 hm bxb1 fpb1 hx hK21 hS1
        exact absurd hm (by omega)
      | succ nn ih1 =>
        intro x vb1 ab1 hm bxb1 fpb1 hx hK21 hS1
        refine m_iload_n (j := 0) C dX12_set_21 rfl ?_
        refine m_aload_n (j := 1) C dX12_set_22 rfl ?_
        refine hv2 (show 0 ≤ vb1 30 ∧ vb1 30 ≤ 500 from bxb1.1 30) (show vb1 30 = v 30 from fpb1.1 30 rfl) (fun rv2 ve1 => ?_)
        refine m_get (k := 30) C dX12_set_23 w6_89 (by decide) rfl ?_
        refine m_st (st2 := [.int (iI (v 30)), .int (iI x)]) (congrArg (fun z => Value.int (iI z) :: [.int (iI x)]) (fpb1.1 30 rfl)) ?_
        refine m_icmp_ge (tgt := 157) C (r32_c (lo := 0) (hi := 501) hx.1 hx.2 (by decide) (by decide)) (r32_c (lo := 0) (hi := 500) (Int.le_trans rv2.1 (Int.le_of_eq ve1)) (Int.le_trans (Int.le_of_eq ve1.symm) rv2.2) (by decide) (by decide)) dX12_set_26 (by decide) (fun c2 => ?_) (fun c2 => ?_)
        · refine m_aload_n (j := 1) C dX12_set_157 rfl ?_
          refine m_aload_n (j := 1) C dX12_set_158 rfl ?_
          have rv3 : 0 ≤ vb1 39 ∧ vb1 39 ≤ 200 := bxb1.1 39
          refine m_get (k := 39) C dX12_set_159 w6_98 (by decide) rfl ?_
          refine m_put (k := 36) (z := vb1 39) C dX12_set_162 w6_95 (by decide) rfl rfl rfl ?_
          refine hv2 (show BX (va_up vb1 36 (vb1 39)) ab1 from bxb1.put (k := 36) (z := vb1 39) (show 0 ≤ (vb1 39) ∧ (vb1 39) ≤ 200 by omega)) (fpb1.put (k := 36) (z := vb1 39) rfl) (fun bq2 fq3 => ?_)
          refine m_iconst C dX12_set_165 ?_
          refine m_istore_n (lv2 := [(3, .int (iI 0)), (2, .int (iI x)), (0, .ref h0), (1, .int (iI t))]) C dX12_set_166 (by decide) rfl ?_
          have Lp2 : ∀ (nn : Nat) (y : Int) (vb2 : Nat → Int) (ab2 : Nat → Nat → Int), 201 - y < (nn : Int) → BX vb2 ab2 → fr [0, 1, 23, 25, 28, 36, 39] [20, 21, 22, 24, 26, 27, 34, 35, 37, 38] v a vb2 ab2 → (0 ≤ y ∧ y ≤ 200) → (SE5 v a vb2 ab2 t) → (SC1 ab2 y) → mw p l e (rmq 66 0 0) s m args below meth c G A 7 (MQ below (Qm G A (fun rq Lq Eq => ∃ (vq : Nat → Int) (aq : Nat → Nat → Int), mI G h0 ad ln vq aq Lq Eq ∧ (fun r v2 a2 => ∃ f : Int, r = some (.int (iI f)) ∧ fr [0, 1, 23, 25, 28, 36, 39] [20, 21, 22, 24, 26, 27, 34, 35, 37, 38] v a v2 a2 ∧ BX v2 a2 ∧ (SETX v a v2 a2 t f)) rq vq aq)) args s 0 0 A) h0 ad ln vb2 ab2 0 0 167 [(3, .int (iI y)), (2, .int (iI x)), (0, .ref h0), (1, .int (iI t))] [] := by
            intro nn
            induction nn with
            | zero =>
              intro y vb2 ab2 hm bxb2 fpb2 hy hS5 hC1
              exact absurd hm (by omega)
            | succ nn ih2 =>
              intro y vb2 ab2 hm bxb2 fpb2 hy hS5 hC1
              refine m_iload_n (j := 0) C dX12_set_167 rfl ?_
              refine m_aload_n (j := 2) C dX12_set_168 rfl ?_
              have rv4 : 0 ≤ vb2 36 ∧ vb2 36 ≤ 200 := bxb2.1 36
              refine m_get (k := 36) C dX12_set_169 w6_95 (by decide) rfl ?_
              refine m_icmp_ge (tgt := 239) C (r32_c (lo := 0) (hi := 200) hy.1 hy.2 (by decide) (by decide)) (r32_c (lo := 0) (hi := 200) rv4.1 rv4.2 (by decide) (by decide)) dX12_set_172 (by decide) (fun c3 => ?_) (fun c3 => ?_)
              · refine m_aload_n (j := 2) C dX12_set_239 rfl ?_
                refine m_aload_n (j := 2) C dX12_set_240 rfl ?_
                refine m_get (k := 36) C dX12_set_241 w6_95 (by decide) rfl ?_
                refine m_call (mc2 := 0) (ms2 := 0) (As := [.int (iI (vb2 36))]) (rest := []) C (B_fine (x := vb2 36) bxb2 (by show -2147483648 ≤ (vb2 36) ∧ (vb2 36) ≤ 2147483647; omega)) dX12_set_244 kV_X12_158 rfl ck_13 rfl (Nat.le_of_ble_eq_true rfl) ⟨Nat.le_of_ble_eq_true rfl, Nat.le_of_ble_eq_true rfl⟩ ⟨Nat.le_of_ble_eq_true rfl, Nat.le_of_ble_eq_true rfl⟩ (fun rh2 vh2 ah2 h2 => ?_)
                obtain ⟨f2, rfl, fn2, bn2, ex2⟩ := h2
                refine hv2 (fpb2.call fn2 rfl rfl) (show f2 = (vb2 36) from ex2) (fun fq4 gf2 => ?_)
                refine m_st (st2 := [.int (iI f2)]) rfl ?_
                exact m_iret C dX12_set_247 rfl (Nat.le_of_ble_eq_true rfl) (Nat.le_of_ble_eq_true rfl) ⟨f2, rfl, fq4, bn2, (SETX.ok (tl1.mp (by omega)) hS5 hC1 (by omega) (by omega) (fn2.1 36 rfl) (fn2.2 34 rfl) (fn2.2 35 rfl))⟩
              · refine m_aload_n (j := 2) C dX12_set_175 rfl ?_
                refine m_geta (k := 34) C dX12_set_176 w6_93 (by decide) rfl ?_
                refine m_iload_n (j := 0) C dX12_set_179 rfl ?_
                refine m_aload_n (j := 2) C dX12_set_180 rfl ?_
                refine m_geta (k := 37) C dX12_set_181 w6_96 (by decide) rfl ?_
                refine m_iload_n (j := 0) C dX12_set_184 rfl ?_
                refine m_ald (k := 37) C dX12_set_185 rfl rfl (by decide) (by omega) (by show _ < ((_ : Nat) : Int); simp only [mlen]; omega) (by decide) ?_
                have ra1 : 0 ≤ ab2 37 y.toNat ∧ ab2 37 y.toNat ≤ 200 := bxb2.2 37 (y.toNat)
                refine m_ast (k := 34) C dX12_set_186 rfl rfl (by decide) (by omega) (by show _ < ((_ : Nat) : Int); simp only [mlen]; omega) (by decide) ?_
                refine hv2 (show BX vb2 (up2 ab2 34 y.toNat (ab2 37 y.toNat)) from bxb2.set (k := 34) (i := y.toNat) (z := ab2 37 y.toNat) (show (-1) ≤ (ab2 37 y.toNat) ∧ (ab2 37 y.toNat) ≤ 200 by omega)) (fpb2.set (k := 34) (i := y.toNat) (z := ab2 37 y.toNat) rfl) (fun bq3 fq5 => ?_)
                refine m_iconst C dX12_set_187 ?_
                refine m_istore (lv2 := [(4, .int (iI 0)), (3, .int (iI y)), (2, .int (iI x)), (0, .ref h0), (1, .int (iI t))]) C dX12_set_188 (by decide) rfl ?_
                have Lp3 : ∀ (nn : Nat) (z : Int) (vb3 : Nat → Int) (ab3 : Nat → Nat → Int), 201 - z < (nn : Int) → BX vb3 ab3 → fr [0, 1, 23, 25, 28, 36, 39] [20, 21, 22, 24, 26, 27, 34, 35, 37, 38] v a vb3 ab3 → (0 ≤ z ∧ z ≤ 200) → (SE5 v a vb3 ab3 t) → (SC2 ab3 y z) → mw p l e (rmq 66 0 0) s m args below meth c G A 7 (MQ below (Qm G A (fun rq Lq Eq => ∃ (vq : Nat → Int) (aq : Nat → Nat → Int), mI G h0 ad ln vq aq Lq Eq ∧ (fun r v2 a2 => ∃ f : Int, r = some (.int (iI f)) ∧ fr [0, 1, 23, 25, 28, 36, 39] [20, 21, 22, 24, 26, 27, 34, 35, 37, 38] v a v2 a2 ∧ BX v2 a2 ∧ (SETX v a v2 a2 t f)) rq vq aq)) args s 0 0 A) h0 ad ln vb3 ab3 0 0 190 [(4, .int (iI z)), (3, .int (iI y)), (2, .int (iI x)), (0, .ref h0), (1, .int (iI t))] [] := by
                  intro nn
                  induction nn with
                  | zero =>
                    intro z vb3 ab3 hm bxb3 fpb3 hz hS6 hC2
                    exact absurd hm (by omega)
                  | succ nn ih3 =>
                    intro z vb3 ab3 hm bxb3 fpb3 hz hS6 hC2
                    refine m_iload (j := 0) C dX12_set_190 rfl ?_
                    refine m_aload_n (j := 3) C dX12_set_192 rfl ?_
                    refine m_geta (k := 37) C dX12_set_193 w6_96 (by decide) rfl ?_
                    refine m_iload_n (j := 1) C dX12_set_196 rfl ?_
                    refine m_ald (k := 37) C dX12_set_197 rfl rfl (by decide) (by omega) (by show _ < ((_ : Nat) : Int); simp only [mlen]; omega) (by decide) ?_
                    have ra2 : 0 ≤ ab3 37 y.toNat ∧ ab3 37 y.toNat ≤ 200 := bxb3.2 37 (y.toNat)
                    refine m_icmp_ge (tgt := 233) C (r32_c (lo := 0) (hi := 200) hz.1 hz.2 (by decide) (by decide)) (r32_c (lo := 0) (hi := 200) ra2.1 ra2.2 (by decide) (by decide)) dX12_set_198 (by decide) (fun c4 => ?_) (fun c4 => ?_)
                    · refine m_iinc (z := y) (j := 1) (lv2 := [(3, .int (iI (y + 1))), (4, .int (iI z)), (2, .int (iI x)), (0, .ref h0), (1, .int (iI t))]) C dX12_set_233 rfl (by decide) rfl ?_
                      refine m_goto (tgt := 167) C dX12_set_236 (by decide) ?_
                      refine m_lv (lv2 := [(3, .int (iI (y + 1))), (2, .int (iI x)), (0, .ref h0), (1, .int (iI t))]) [0, 2, 3, 4] rfl ?_
                      exact ih2  (y + 1) _ _ (by omega) bxb3 fpb3 (by omega) hS6 (SC2.fin hC2 (by omega) (by omega))
                    · refine m_aload_n (j := 3) C dX12_set_201 rfl ?_
                      refine m_geta (k := 35) C dX12_set_202 w6_94 (by decide) rfl ?_
                      refine m_sipush (z := 200) C dX12_set_205 (by decide) ?_
                      refine m_iload_n (j := 1) C dX12_set_208 rfl ?_
                      refine m_imul C dX12_set_209 ?_
                      refine m_iload (j := 0) C dX12_set_210 rfl ?_
                      refine m_iadd C dX12_set_212 ?_
                      refine m_aload_n (j := 3) C dX12_set_213 rfl ?_
                      refine m_geta (k := 38) C dX12_set_214 w6_97 (by decide) rfl ?_
                      refine m_sipush (z := 200) C dX12_set_217 (by decide) ?_
                      refine m_iload_n (j := 1) C dX12_set_220 rfl ?_
                      refine m_imul C dX12_set_221 ?_
                      refine m_iload (j := 0) C dX12_set_222 rfl ?_
                      refine m_iadd C dX12_set_224 ?_
                      refine m_ald (k := 38) C dX12_set_225 rfl rfl (by decide) (by omega) (by show _ < ((_ : Nat) : Int); simp only [mlen]; omega) (by decide) ?_
                      have ra3 : (-2147483648) ≤ ab3 38 ((200 * y) + z).toNat ∧ ab3 38 ((200 * y) + z).toNat ≤ 2147483647 := bxb3.2 38 (((200 * y) + z).toNat)
                      refine m_ast (k := 35) C dX12_set_226 rfl rfl (by decide) (by omega) (by show _ < ((_ : Nat) : Int); simp only [mlen]; omega) (by decide) ?_
                      refine hv2 (show BX vb3 (up2 ab3 35 ((200 * y) + z).toNat (ab3 38 ((200 * y) + z).toNat)) from bxb3.set (k := 35) (i := ((200 * y) + z).toNat) (z := ab3 38 ((200 * y) + z).toNat) (show (-2147483648) ≤ (ab3 38 ((200 * y) + z).toNat) ∧ (ab3 38 ((200 * y) + z).toNat) ≤ 2147483647 by omega)) (fpb3.set (k := 35) (i := ((200 * y) + z).toNat) (z := ab3 38 ((200 * y) + z).toNat) rfl) (fun bq4 fq6 => ?_)
                      refine m_iinc (z := z) (j := 0) (lv2 := [(4, .int (iI (z + 1))), (3, .int (iI y)), (2, .int (iI x)), (0, .ref h0), (1, .int (iI t))]) C dX12_set_227 rfl (by decide) rfl ?_
                      refine m_goto (tgt := 190) C dX12_set_230 (by decide) ?_
                      refine m_lv (lv2 := [(4, .int (iI (z + 1))), (3, .int (iI y)), (2, .int (iI x)), (0, .ref h0), (1, .int (iI t))]) [0, 1, 2, 3, 4] rfl ?_
                      exact ih3  (z + 1) _ _ (by omega) bq4 fq6 (by omega) (SE5.fr hS6 (funext fun _ => up2_k (by decide)) (funext fun _ => up2_k (by decide))) (SC2.mv hC2 (fun l => (bxb3.2 37 l).2) (by omega) ⟨by omega, by omega⟩ rfl rfl)
                refine m_lv (lv2 := [(4, .int (iI 0)), (3, .int (iI y)), (2, .int (iI x)), (0, .ref h0), (1, .int (iI t))]) [0, 1, 2, 3, 4] rfl ?_
                exact Lp3 202 0 _ _ (by omega) bq3 fq5 (by omega) (SE5.fr hS5 (funext fun _ => up2_k (by decide)) (funext fun _ => up2_k (by decide))) (SC1.go hC1 (by omega) rfl rfl)
          refine m_lv (lv2 := [(3, .int (iI 0)), (2, .int (iI x)), (0, .ref h0), (1, .int (iI t))]) [0, 1, 2, 3] rfl ?_
          exact Lp2 202 0 _ _ (by omega) bq2 fq3 (by omega) (SE2.fin hS1 (by omega) (va_up_ne _ _ (by decide)) (va_up_self _ _ _)) (SC1.init rfl)
        · refine m_aload_n (j := 1) C dX12_set_29 rfl ?_
          refine m_iload_n (j := 0) C dX12_set_30 rfl ?_
          refine m_call (mc2 := 0) (ms2 := 0) (As := [.int (iI x)]) (rest := []) C (E_lineEnd (q := x) bxb1 (by show 0 ≤ x ∧ x ≤ 1000; omega)) dX12_set_31 kV_X12_261 rfl ck_13 rfl (Nat.le_of_ble_eq_true rfl) ⟨Nat.le_of_ble_eq_true rfl, Nat.le_of_ble_eq_true rfl⟩ ⟨Nat.le_of_ble_eq_true rfl, Nat.le_of_ble_eq_true rfl⟩ (fun rh3 vh3 ah3 h3 => ?_)
          obtain ⟨f3, rfl, fn3, bn3, ex3⟩ := h3
          obtain ⟨rfl, rfl⟩ := fn3.eq
          obtain ⟨ex3, tl2⟩ := ex3
          refine hv2 (show x ≤ f3 ∧ (f3 = x ∨ f3 ≤ (vb1 30)) from ex3) (show LEX (a 29) (v 30) x f3 from (by have q1 := tl2; rw [fpb1.2 29 rfl, fpb1.1 30 rfl] at q1; exact q1)) (fun gf3 lef3 => ?_)
          refine m_st (st2 := [.int (iI f3)]) rfl ?_
          replace gf3 : x ≤ f3 ∧ f3 ≤ vb1 30 := by omega
          refine m_istore_n (lv2 := [(3, .int (iI f3)), (2, .int (iI x)), (0, .ref h0), (1, .int (iI t))]) C dX12_set_34 (by decide) rfl ?_
          refine m_aload_n (j := 2) C dX12_set_35 rfl ?_
          refine m_geta (k := 29) C dX12_set_36 w6_88 (by decide) rfl ?_
          refine m_iload_n (j := 1) C dX12_set_39 rfl ?_
          refine m_ald (k := 29) C dX12_set_40 rfl rfl (by decide) (by omega) (by show _ < ((_ : Nat) : Int); simp only [mlen]; omega) (by decide) ?_
          refine hv2 (show (-2147483648) ≤ ab1 29 x.toNat ∧ ab1 29 x.toNat ≤ 2147483647 from bxb1.2 29 (x.toNat)) (show ab1 29 (x.toNat) = a 29 (x.toNat) from congrFun (fpb1.2 29 rfl) (x.toNat)) (fun ra4 ae1 => ?_)
          refine m_st (st2 := [.int (iI (a 29 x.toNat))]) (congrArg (fun z => Value.int (iI z) :: []) (congrFun (fpb1.2 29 rfl) (x.toNat))) ?_
          refine m_bipush (z := 94) C dX12_set_41 (by decide) ?_
          have J1 : ∀ (g : Int) (vb4 : Nat → Int) (ab4 : Nat → Nat → Int), BX vb4 ab4 → fr [0, 1, 23, 25, 28, 36, 39] [20, 21, 22, 24, 26, 27, 34, 35, 37, 38] v a vb4 ab4 → (g = 0 ∨ g = 1) → (KSH v a vb4 ab4) → ((g = 1 ∧ a 29 x.toNat = 94) ∨ (g = 0 ∧ a 29 x.toNat ≠ 94)) → (SE2 v a vb4 ab4 t x) → mw p l e (rmq 66 0 0) s m args below meth c G A 7 (MQ below (Qm G A (fun rq Lq Eq => ∃ (vq : Nat → Int) (aq : Nat → Nat → Int), mI G h0 ad ln vq aq Lq Eq ∧ (fun r v2 a2 => ∃ f : Int, r = some (.int (iI f)) ∧ fr [0, 1, 23, 25, 28, 36, 39] [20, 21, 22, 24, 26, 27, 34, 35, 37, 38] v a v2 a2 ∧ BX v2 a2 ∧ (SETX v a v2 a2 t f)) rq vq aq)) args s 0 0 A) h0 ad ln vb4 ab4 0 0 51 [(3, .int (iI f3)), (2, .int (iI x)), (0, .ref h0), (1, .int (iI t))] [.int (iI g)] := by
            intro g vb4 ab4 bxb4 fpb4 hg hK51 hg2 hS2
            refine m_istore (lv2 := [(4, .int (iI g)), (3, .int (iI f3)), (2, .int (iI x)), (0, .ref h0), (1, .int (iI t))]) C dX12_set_51 (by decide) rfl ?_
            refine m_aload_n (j := 3) C dX12_set_53 rfl ?_
            have rv5 : 0 ≤ vb4 39 ∧ vb4 39 ≤ 200 := bxb4.1 39
            refine m_get (k := 39) C dX12_set_54 w6_98 (by decide) rfl ?_
            refine m_istore (lv2 := [(5, .int (iI (vb4 39))), (4, .int (iI g)), (3, .int (iI f3)), (2, .int (iI x)), (0, .ref h0), (1, .int (iI t))]) C dX12_set_57 (by decide) rfl ?_
            refine m_aload_n (j := 4) C dX12_set_59 rfl ?_
            refine m_call (mc2 := 0) (ms2 := 0) (As := []) (rest := []) C (M_newLine bxb4.rg (bxb4.1 39)) dX12_set_60 kV_X12_257 rfl ck_13 rfl (Nat.le_of_ble_eq_true rfl) ⟨Nat.le_of_ble_eq_true rfl, Nat.le_of_ble_eq_true rfl⟩ ⟨Nat.le_of_ble_eq_true rfl, Nat.le_of_ble_eq_true rfl⟩ (fun rh4 vh4 ah4 h4 => ?_)
            obtain ⟨f4, rfl, fn4, bn4, ex4, nx1⟩ := W_newLine2 bxb4 h4
            refine hv3 (fpb4.call fn4 rfl rfl) (show (f4 = 1 ∧ vh4 39 = vb4 39 + 1 ∧ ah4 37 (vh4 39 - 1).toNat = 0) ∨ f4 = 0 from ex4) (hK51.fr fn4 rfl rfl rfl) (fun fq8 gf4 ks1 => ?_)
            refine m_st (st2 := [.int (iI f4)]) rfl ?_
            refine m_if_ne (tgt := 73) C (r32_p0 gf4) dX12_set_63 (by decide) (fun c5 => ?_) (fun c5 => ?_)
            · replace gf4 := (gf4.resolve_right c5)
              refine m_aload_n (j := 4) C dX12_set_73 rfl ?_
              refine m_iload (j := 1) C dX12_set_74 rfl ?_
              have J2 : ∀ (y : Int) (vb5 : Nat → Int) (ab5 : Nat → Nat → Int), BX vb5 ab5 → fr [0, 1, 23, 25, 28, 36, 39] [20, 21, 22, 24, 26, 27, 34, 35, 37, 38] v a vb5 ab5 → (y = x ∨ y = x + 1) → (1 ≤ vb5 39) → (KSH v a vb5 ab5) → ((g = 1 ∧ y = x + 1) ∨ (g = 0 ∧ y = x)) → (SE3 v a vb5 ab5 t g (vb4 39) y) → mw p l e (rmq 66 0 0) s m args below meth c G A 7 (MQ below (Qm G A (fun rq Lq Eq => ∃ (vq : Nat → Int) (aq : Nat → Nat → Int), mI G h0 ad ln vq aq Lq Eq ∧ (fun r v2 a2 => ∃ f : Int, r = some (.int (iI f)) ∧ fr [0, 1, 23, 25, 28, 36, 39] [20, 21, 22, 24, 26, 27, 34, 35, 37, 38] v a v2 a2 ∧ BX v2 a2 ∧ (SETX v a v2 a2 t f)) rq vq aq)) args s 0 0 A) h0 ad ln vb5 ab5 0 0 86 [(5, .int (iI (vb4 39))), (4, .int (iI g)), (3, .int (iI f3)), (2, .int (iI x)), (0, .ref h0), (1, .int (iI t))] [.int (iI y), .ref h0] := by
                intro y vb5 ab5 bxb5 fpb5 hy hn hK86 hy2 hS3
                refine m_iload_n (j := 2) C dX12_set_86 rfl ?_
                refine hv4 (show 0 ≤ vb5 30 ∧ vb5 30 ≤ 500 from bxb5.1 30) (show vb5 30 = v 30 from fpb5.1 30 rfl) (show 0 ≤ vb5 23 ∧ vb5 23 ≤ 500 from bxb5.1 23) (show 0 ≤ vb5 39 ∧ vb5 39 ≤ 200 from bxb5.1 39) (fun rv6 ve2 rv7 rv8 => ?_)
                have tkp1 : TKP (a 29) (v 30) y f3 := LEX.tkp lef3 (by omega) (by omega) (by omega)
                refine m_call (mc2 := 0) (ms2 := 0) (As := [.int (iI y), .int (iI f3)]) (rest := []) C (E_takeWord (q := y) (u := f3) bxb5 (by omega) (by omega) (TKP.cg tkp1 (fpb5.2 29 rfl) (fpb5.1 30 rfl))) dX12_set_87 kV_X12_264 rfl ck_13 rfl (Nat.le_of_ble_eq_true rfl) ⟨Nat.le_of_ble_eq_true rfl, Nat.le_of_ble_eq_true rfl⟩ ⟨Nat.le_of_ble_eq_true rfl, Nat.le_of_ble_eq_true rfl⟩ (fun rh5 vh5 ah5 h5 => ?_)
                obtain ⟨f5, rfl, fn5, bn5, ex5, tl3⟩ := h5
                refine hv6 (fpb5.call fn5 rfl rfl) (show 0 ≤ vh5 23 ∧ vh5 23 ≤ 500 from bn5.1 23) (show (f5 = y ∨ (y ≤ f5 ∧ f5 ≤ f3)) ∧ (vh5 23) ≤ f5 - y from ex5) (show (vh5 23) ≠ 0 ∨ f5 = f3 from tl3.2) (show TKX (a 29) (v 30) vh5 ah5 y f5 from (by have q1 := tl3.1; rw [fpb5.2 29 rfl, fpb5.1 30 rfl] at q1; exact q1)) (hK86.fr fn5 rfl rfl rfl) (fun fq9 rv9 gf5 hf5 tk1 ks2 => ?_)
                have se1 := SE3.take hS3 tk1 (fn5.1 39 rfl) (fn5.2 37 rfl) (fn5.2 38 rfl)
                refine m_st (st2 := [.int (iI f5)]) rfl ?_
                refine m_istore (lv2 := [(6, .int (iI f5)), (5, .int (iI (vb4 39))), (4, .int (iI g)), (3, .int (iI f3)), (2, .int (iI x)), (0, .ref h0), (1, .int (iI t))]) C dX12_set_90 (by decide) rfl ?_
                have Lp4 : ∀ (nn : Nat) (w1 : Int) (vb6 : Nat → Int) (ab6 : Nat → Nat → Int), 1005 - 2 * w1 + min 1 (vb6 23) < (nn : Int) → BX vb6 ab6 → fr [0, 1, 23, 25, 28, 36, 39] [20, 21, 22, 24, 26, 27, 34, 35, 37, 38] v a vb6 ab6 → (0 ≤ w1 ∧ w1 ≤ 501) → (1 ≤ vb6 39) → (0 ≤ vb6 23 ∧ vb6 23 ≤ 500) → (y ≤ w1 ∧ w1 ≤ f3) → (vb6 23 ≠ 0 ∨ w1 = f3) → (KSH v a vb6 ab6) → (SE4 v a vb6 ab6 t g (vb4 39) w1) → mw p l e (rmq 66 0 0) s m args below meth c G A 7 (MQ below (Qm G A (fun rq Lq Eq => ∃ (vq : Nat → Int) (aq : Nat → Nat → Int), mI G h0 ad ln vq aq Lq Eq ∧ (fun r v2 a2 => ∃ f : Int, r = some (.int (iI f)) ∧ fr [0, 1, 23, 25, 28, 36, 39] [20, 21, 22, 24, 26, 27, 34, 35, 37, 38] v a v2 a2 ∧ BX v2 a2 ∧ (SETX v a v2 a2 t f)) rq vq aq)) args s 0 0 A) h0 ad ln vb6 ab6 0 0 92 [(6, .int (iI w1)), (5, .int (iI (vb4 39))), (4, .int (iI g)), (3, .int (iI f3)), (2, .int (iI x)), (0, .ref h0), (1, .int (iI t))] [] := by
                  intro nn
                  induction nn with
                  | zero =>
                    intro w1 vb6 ab6 hm bxb6 fpb6 hw hn2 h23 hwr hto hK92 hS4
                    clear hy hy2 hg2 gf5 hf5
                    exact absurd hm (by omega)
                  | succ nn ih4 =>
                    intro w1 vb6 ab6 hm bxb6 fpb6 hw hn2 h23 hwr hto hK92 hS4
                    clear hy hy2 hg2 gf5 hf5
                    refine m_aload_n (j := 5) C dX12_set_92 rfl ?_
                    have rv10 : 0 ≤ vb6 23 ∧ vb6 23 ≤ 500 := bxb6.1 23
                    refine m_get (k := 23) C dX12_set_93 w6_82 (by decide) rfl ?_
                    refine m_if_le (tgt := 139) C (r32_c (lo := 0) (hi := 500) rv10.1 rv10.2 (by decide) (by decide)) dX12_set_96 (by decide) (fun c6 => ?_) (fun c6 => ?_)
                    · refine m_iload (j := 2) C dX12_set_139 rfl ?_
                      refine m_if_eq (tgt := 150) C (r32_01 hg) dX12_set_141 (by decide) (fun c7 => ?_) (fun c7 => ?_)
                      · refine m_iload_n (j := 3) C dX12_set_150 rfl ?_
                        refine m_iconst C dX12_set_151 ?_
                        refine m_iadd C dX12_set_152 ?_
                        refine m_istore_n (lv2 := [(2, .int (iI (f3 + 1))), (6, .int (iI w1)), (5, .int (iI (vb4 39))), (4, .int (iI g)), (3, .int (iI f3)), (0, .ref h0), (1, .int (iI t))]) C dX12_set_153 (by decide) rfl ?_
                        refine m_goto (tgt := 21) C dX12_set_154 (by decide) ?_
                        refine m_lv (lv2 := [(2, .int (iI (f3 + 1))), (0, .ref h0), (1, .int (iI t))]) [0, 5, 6] rfl ?_
                        exact ih1  (f3 + 1) _ _ (by omega) bxb6 fpb6 (by omega) hK92 (by have e := SE4.lineN hS4 (by omega) (by omega) (by omega); rw [show w1 = f3 by omega] at e; exact e)
                      · refine m_aload_n (j := 5) C dX12_set_144 rfl ?_
                        refine m_iload (j := 1) C dX12_set_145 rfl ?_
                        refine m_call (mc2 := 0) (ms2 := 0) (As := [.int (iI (vb4 39))]) (rest := []) C (E_centre (q := vb4 39) bxb6 (by show 0 ≤ (vb4 39) ∧ (vb4 39) ≤ 200; omega)) dX12_set_147 kV_X12_276 rfl ck_13 rfl (Nat.le_of_ble_eq_true rfl) ⟨Nat.le_of_ble_eq_true rfl, Nat.le_of_ble_eq_true rfl⟩ ⟨Nat.le_of_ble_eq_true rfl, Nat.le_of_ble_eq_true rfl⟩ (fun rh6 vh6 ah6 h6 => ?_)
                        obtain ⟨rfl, fn6, bn6, ex6⟩ := h6
                        refine hv3 (fpb6.call fn6 rfl rfl) (ex6) (hK92.fr fn6 rfl rfl rfl) (fun fq10 tl4 ks3 => ?_)
                        refine m_st (st2 := []) rfl ?_
                        refine m_iload_n (j := 3) C dX12_set_150 rfl ?_
                        refine m_iconst C dX12_set_151 ?_
                        refine m_iadd C dX12_set_152 ?_
                        refine m_istore_n (lv2 := [(2, .int (iI (f3 + 1))), (6, .int (iI w1)), (5, .int (iI (vb4 39))), (4, .int (iI g)), (3, .int (iI f3)), (0, .ref h0), (1, .int (iI t))]) C dX12_set_153 (by decide) rfl ?_
                        refine m_goto (tgt := 21) C dX12_set_154 (by decide) ?_
                        refine m_lv (lv2 := [(2, .int (iI (f3 + 1))), (0, .ref h0), (1, .int (iI t))]) [0, 5, 6] rfl ?_
                        exact ih1  (f3 + 1) _ _ (by omega) bn6 fq10 (by omega) ks3 (by have e := SE4.lineC hS4 (by omega) (by omega) (by omega) (fpb6.1 31 rfl) tl4; rw [show w1 = f3 by omega] at e; exact e)
                    · refine m_aload_n (j := 5) C dX12_set_99 rfl ?_
                      refine m_iload_n (j := 6) C dX12_set_100 rfl ?_
                      refine hv2 (show 0 ≤ vb6 4 ∧ vb6 4 ≤ 30 from bxb6.1 4) (show vb6 4 = v 4 from fpb6.1 4 rfl) (fun rv11 ve3 => ?_)
                      refine m_call (mc2 := 0) (ms2 := 0) (As := [.int (iI t)]) (rest := []) C (E_setWord (t := t) bxb6 (hT.fr fpb6 rfl rfl) (by show 0 ≤ t ∧ t < (vb6 4); omega)) dX12_set_101 kV_X12_267 rfl ck_13 rfl (Nat.le_of_ble_eq_true rfl) ⟨Nat.le_of_ble_eq_true rfl, Nat.le_of_ble_eq_true rfl⟩ ⟨Nat.le_of_ble_eq_true rfl, Nat.le_of_ble_eq_true rfl⟩ (fun rh7 vh7 ah7 h7 => ?_)
                      obtain ⟨f7, rfl, fn7, bn7, ex7⟩ := h7
                      have fq11 := fpb6.call fn7 rfl rfl
                      obtain ⟨ex7, tl5⟩ := ex7
                      refine hv3 (show 0 ≤ vh7 25 ∧ vh7 25 ≤ 208 from bn7.1 25) (show f7 = 0 ∨ (f7 = 1 ∧ (vh7 25) ≤ 200) from ex7) (hK92.fr fn7 rfl rfl rfl) (fun rv12 gf7 ks4 => ?_)
                      have spf7 : f7 = 1 → 1 ≤ (vh7 25) := fun e => SWT.pos tl5.1 e (hT.fr fpb6 rfl rfl) bxb6 ⟨by omega, by have e4 := fpb6.1 4 rfl; omega⟩ (by omega)
                      refine m_st (st2 := [.int (iI f7)]) rfl ?_
                      refine m_if_ne (tgt := 112) C (r32_0p gf7) dX12_set_104 (by decide) (fun c8 => ?_) (fun c8 => ?_)
                      · replace gf7 := (gf7.resolve_left c8)
                        refine m_aload_n (j := 5) C dX12_set_112 rfl ?_
                        refine m_iload_n (j := 6) C dX12_set_113 rfl ?_
                        refine hv2 (show 0 ≤ vh7 39 ∧ vh7 39 ≤ 200 from bn7.1 39) (show vh7 39 = vb6 39 from fn7.1 39 rfl) (fun rv13 ve4 => ?_)
                        refine m_call (mc2 := 0) (ms2 := 0) (As := [.int (iI t)]) (rest := []) C (E_flow (t := t) bn7 (by show 0 ≤ t ∧ t < 30; omega) (by show 1 ≤ (vh7 39); omega) (by show 1 ≤ (vh7 25) ∧ (vh7 25) ≤ 200; omega)) dX12_set_114 kV_X12_273 rfl ck_13 rfl (Nat.le_of_ble_eq_true rfl) ⟨Nat.le_of_ble_eq_true rfl, Nat.le_of_ble_eq_true rfl⟩ ⟨Nat.le_of_ble_eq_true rfl, Nat.le_of_ble_eq_true rfl⟩ (fun rh8 vh8 ah8 h8 => ?_)
                        obtain ⟨f8, rfl, fn8, bn8, ex8⟩ := h8
                        have fq12 := fq11.call fn8 rfl rfl
                        obtain ⟨ex8, tl6⟩ := ex8
                        refine hv3 (show 0 ≤ vh8 39 ∧ vh8 39 ≤ 200 from bn8.1 39) (show f8 = 0 ∨ (f8 = 1 ∧ 1 ≤ (vh8 39)) from ex8) (ks4.fr fn8 rfl rfl rfl) (fun rv14 gf8 ks5 => ?_)
                        have fw1 := SE4.flow hS4 hg (by omega) (by omega) hT (hB.1 4).2 (fun i => (hB.2 10 i).2) ⟨by omega, by omega⟩ tl5.1 tl5.2 (by omega) (TBE.fr fpb6 rfl) (fun i => (hB.2 12 i).1) (fq11.2 6 rfl) (fn7.2 21 rfl) (fn7.2 22 rfl) (fn7.1 23 rfl) (fn7.1 39 rfl) (fn7.2 37 rfl) (fn7.2 38 rfl) (fq11.1 31 rfl) (fq11.1 33 rfl) tl6
                        refine m_st (st2 := [.int (iI f8)]) rfl ?_
                        refine m_if_ne (tgt := 127) C (r32_0p gf8) dX12_set_117 (by decide) (fun c9 => ?_) (fun c9 => ?_)
                        · replace gf8 := (gf8.resolve_left c9)
                          refine m_aload_n (j := 5) C dX12_set_127 rfl ?_
                          refine m_iload (j := 0) C dX12_set_128 rfl ?_
                          refine m_iload_n (j := 3) C dX12_set_130 rfl ?_
                          refine hv7 (show 0 ≤ vh8 30 ∧ vh8 30 ≤ 500 from bn8.1 30) (show vh8 30 = vh7 30 from fn8.1 30 rfl) (show vh7 30 = vb6 30 from fn7.1 30 rfl) (show vb6 30 = v 30 from fpb6.1 30 rfl) (show 0 ≤ vh8 23 ∧ vh8 23 ≤ 500 from bn8.1 23) (show vh8 23 = vh7 23 from fn8.1 23 rfl) (show vh7 23 = vb6 23 from fn7.1 23 rfl) (fun rv15 ve5 ve6 ve7 rv16 ve8 ve9 => ?_)
                          refine m_call (mc2 := 0) (ms2 := 0) (As := [.int (iI w1), .int (iI f3)]) (rest := []) C (E_takeWord (q := w1) (u := f3) bn8 (by omega) (by omega) (TKP.cg (tkp1.sub ⟨by omega, by omega⟩) (fq12.2 29 rfl) (fq12.1 30 rfl))) dX12_set_131 kV_X12_264 rfl ck_13 rfl (Nat.le_of_ble_eq_true rfl) ⟨Nat.le_of_ble_eq_true rfl, Nat.le_of_ble_eq_true rfl⟩ ⟨Nat.le_of_ble_eq_true rfl, Nat.le_of_ble_eq_true rfl⟩ (fun rh9 vh9 ah9 h9 => ?_)
                          obtain ⟨f9, rfl, fn9, bn9, ex9, tl7⟩ := h9
                          refine hv6 (fq12.call fn9 rfl rfl) (show 0 ≤ vh9 23 ∧ vh9 23 ≤ 500 from bn9.1 23) (show (f9 = w1 ∨ (w1 ≤ f9 ∧ f9 ≤ f3)) ∧ (vh9 23) ≤ f9 - w1 from ex9) (show (vh9 23) ≠ 0 ∨ f9 = f3 from tl7.2) (show TKX (a 29) (v 30) vh9 ah9 w1 f9 from (by have q1 := tl7.1; rw [fq12.2 29 rfl, fq12.1 30 rfl] at q1; exact q1)) (ks5.fr fn9 rfl rfl rfl) (fun fq13 rv17 gf9 hf9 tk2 ks6 => ?_)
                          have se2 := SE3.take (fw1.1 (by omega)) tk2 (fn9.1 39 rfl) (fn9.2 37 rfl) (fn9.2 38 rfl)
                          refine m_st (st2 := [.int (iI f9)]) rfl ?_
                          refine m_istore (lv2 := [(6, .int (iI f9)), (5, .int (iI (vb4 39))), (4, .int (iI g)), (3, .int (iI f3)), (2, .int (iI x)), (0, .ref h0), (1, .int (iI t))]) C dX12_set_134 (by decide) rfl ?_
                          refine m_goto (tgt := 92) C dX12_set_136 (by decide) ?_
                          refine hv2 (show 0 ≤ vh9 39 ∧ vh9 39 ≤ 200 from bn9.1 39) (show vh9 39 = vh8 39 from fn9.1 39 rfl) (fun rv18 ve10 => ?_)
                          refine m_lv (lv2 := [(6, .int (iI f9)), (5, .int (iI (vb4 39))), (4, .int (iI g)), (3, .int (iI f3)), (2, .int (iI x)), (0, .ref h0), (1, .int (iI t))]) [0, 1, 2, 3, 4, 5, 6] rfl ?_
                          exact ih4  f9 _ _ (by omega) bn9 fq13 (by omega) (by show 1 ≤ (vh9 39); omega) (by show 0 ≤ (vh9 23) ∧ (vh9 23) ≤ 500; omega) (by omega) (by show (vh9 23) ≠ 0 ∨ f9 = f3; omega) ks6 se2
                        · clear gf8
                          refine m_aload_n (j := 5) C dX12_set_120 rfl ?_
                          refine m_bipush (z := 6) C dX12_set_121 (by decide) ?_
                          refine m_call (mc2 := 0) (ms2 := 0) (As := [.int (iI 6)]) (rest := []) C (B_bad (x := 6) bn8 (by show -2147483648 ≤ (6 : Int) ∧ (6 : Int) ≤ 2147483647; omega)) dX12_set_123 kV_X12_154 rfl ck_13 rfl (Nat.le_of_ble_eq_true rfl) ⟨Nat.le_of_ble_eq_true rfl, Nat.le_of_ble_eq_true rfl⟩ ⟨Nat.le_of_ble_eq_true rfl, Nat.le_of_ble_eq_true rfl⟩ (fun rh10 vh10 ah10 h10 => ?_)
                          obtain ⟨f10, rfl, fn10, bn10, ex10⟩ := h10
                          refine hv2 (fq12.call fn10 rfl rfl) (show f10 = -1 from ex10) (fun fq14 gf10 => ?_)
                          refine m_st (st2 := [.int (iI f10)]) rfl ?_
                          exact m_iret C dX12_set_126 rfl (Nat.le_of_ble_eq_true rfl) (Nat.le_of_ble_eq_true rfl) ⟨f10, rfl, fq14, bn10, (SETX.n2 (tl1.mp (by omega)) (fw1.2 (by omega)) (by omega) (ks5.fr fn10 rfl rfl rfl))⟩
                      · clear gf7
                        refine m_aload_n (j := 5) C dX12_set_107 rfl ?_
                        refine m_call (mc2 := 0) (ms2 := 0) (As := []) (rest := []) C (B_notSet  bn7 ) dX12_set_108 kV_X12_270 rfl ck_13 rfl (Nat.le_of_ble_eq_true rfl) ⟨Nat.le_of_ble_eq_true rfl, Nat.le_of_ble_eq_true rfl⟩ ⟨Nat.le_of_ble_eq_true rfl, Nat.le_of_ble_eq_true rfl⟩ (fun rh11 vh11 ah11 h11 => ?_)
                        obtain ⟨f11, rfl, fn11, bn11, ex11⟩ := h11
                        refine hv2 (fq11.call fn11 rfl rfl) (show f11 = -1 from ex11) (fun fq15 gf11 => ?_)
                        refine m_st (st2 := [.int (iI f11)]) rfl ?_
                        exact m_iret C dX12_set_111 rfl (Nat.le_of_ble_eq_true rfl) (Nat.le_of_ble_eq_true rfl) ⟨f11, rfl, fq15, bn11, (SETX.n2 (tl1.mp (by omega)) (SE4.bad hS4 hg (by omega) (by omega) tl5.1 (by omega) (TBE.fr fpb6 rfl) (fun i => (hB.2 12 i).1) (fun i => (bxb6.2 12 i).1)) (by omega) (ks4.fr fn11 rfl rfl rfl))⟩
                refine hv2 (show 0 ≤ vh5 39 ∧ vh5 39 ≤ 200 from bn5.1 39) (show vh5 39 = vb5 39 from fn5.1 39 rfl) (fun rv19 ve11 => ?_)
                refine m_lv (lv2 := [(6, .int (iI f5)), (5, .int (iI (vb4 39))), (4, .int (iI g)), (3, .int (iI f3)), (2, .int (iI x)), (0, .ref h0), (1, .int (iI t))]) [0, 1, 2, 3, 4, 5, 6] rfl ?_
                exact Lp4 1010 f5 _ _ (by omega) bn5 fq9 (by omega) (by show 1 ≤ (vh5 39); omega) (by show 0 ≤ (vh5 23) ∧ (vh5 23) ≤ 500; omega) (by omega) (by show (vh5 23) ≠ 0 ∨ f5 = f3; omega) ks2 se1
              refine m_if_eq (tgt := 85) C (r32_01 hg) dX12_set_76 (by decide) (fun c10 => ?_) (fun c10 => ?_)
              · replace hg2 := (hg2.resolve_left (fun q => absurd (q.1.symm.trans c10) (by decide)))
                refine m_iload_n (j := 3) C dX12_set_85 rfl ?_
                have rv20 : 0 ≤ vh4 39 ∧ vh4 39 ≤ 200 := bn4.1 39
                refine m_lv (lv2 := [(5, .int (iI (vb4 39))), (4, .int (iI g)), (3, .int (iI f3)), (2, .int (iI x)), (0, .ref h0), (1, .int (iI t))]) [0, 1, 2, 3, 4, 5] rfl ?_
                exact J2  x _ _  bn4 fq8 (by omega) (by show 1 ≤ (vh4 39); omega) ks1 (by omega) (SE2.enter hS2 (by omega) (by omega) nx1 (by omega) rfl)
              · replace hg2 := (hg2.resolve_right (fun q => c10 q.1))
                refine m_iload_n (j := 3) C dX12_set_79 rfl ?_
                refine m_iconst C dX12_set_80 ?_
                refine m_iadd C dX12_set_81 ?_
                refine m_goto (tgt := 86) C dX12_set_82 (by decide) ?_
                have rv21 : 0 ≤ vh4 39 ∧ vh4 39 ≤ 200 := bn4.1 39
                refine m_lv (lv2 := [(5, .int (iI (vb4 39))), (4, .int (iI g)), (3, .int (iI f3)), (2, .int (iI x)), (0, .ref h0), (1, .int (iI t))]) [0, 1, 2, 3, 4, 5] rfl ?_
                exact J2  (x + 1) _ _  bn4 fq8 (by omega) (by show 1 ≤ (vh4 39); omega) ks1 (by omega) (SE2.enter hS2 (by omega) (by omega) nx1 (by omega) rfl)
            · clear gf4
              refine m_aload_n (j := 4) C dX12_set_66 rfl ?_
              refine m_bipush (z := 6) C dX12_set_67 (by decide) ?_
              refine m_call (mc2 := 0) (ms2 := 0) (As := [.int (iI 6)]) (rest := []) C (B_bad (x := 6) bn4 (by show -2147483648 ≤ (6 : Int) ∧ (6 : Int) ≤ 2147483647; omega)) dX12_set_69 kV_X12_154 rfl ck_13 rfl (Nat.le_of_ble_eq_true rfl) ⟨Nat.le_of_ble_eq_true rfl, Nat.le_of_ble_eq_true rfl⟩ ⟨Nat.le_of_ble_eq_true rfl, Nat.le_of_ble_eq_true rfl⟩ (fun rh12 vh12 ah12 h12 => ?_)
              obtain ⟨f12, rfl, fn12, bn12, ex12⟩ := h12
              refine hv2 (fq8.call fn12 rfl rfl) (show f12 = -1 from ex12) (fun fq16 gf12 => ?_)
              refine m_st (st2 := [.int (iI f12)]) rfl ?_
              exact m_iret C dX12_set_72 rfl (Nat.le_of_ble_eq_true rfl) (Nat.le_of_ble_eq_true rfl) ⟨f12, rfl, fq16, bn12, (SETX.n2 (tl1.mp (by omega)) (SE2.nroom hS2 (by omega) hT ⟨by omega, by omega⟩ nx1 (by omega)) (by omega) (ks1.fr fn12 rfl rfl rfl))⟩
          refine m_icmp_ne (tgt := 50) C ⟨by omega, by omega⟩ ⟨by decide, by decide⟩ dX12_set_43 (by decide) (fun c11 => ?_) (fun c11 => ?_)
          · refine m_iconst C dX12_set_50 ?_
            refine m_lv (lv2 := [(3, .int (iI f3)), (2, .int (iI x)), (0, .ref h0), (1, .int (iI t))]) [0, 1, 2, 3] rfl ?_
            exact J1  0 _ _  bxb1 fpb1 (by omega) hK21 (by omega) hS1
          · refine m_iconst C dX12_set_46 ?_
            refine m_goto (tgt := 51) C dX12_set_47 (by decide) ?_
            refine m_lv (lv2 := [(3, .int (iI f3)), (2, .int (iI x)), (0, .ref h0), (1, .int (iI t))]) [0, 1, 2, 3] rfl ?_
            exact J1  1 _ _  bxb1 fpb1 (by omega) hK21 (by omega) hS1
    refine m_lv (lv2 := [(2, .int (iI 0)), (0, .ref h0), (1, .int (iI t))]) [0, 1, 2] rfl ?_
    exact Lp1 503 0 _ _ (by omega) bq1 fq2 (by omega) ⟨va_up_ne _ _ (by decide), rfl, rfl⟩ (SE2.init (va_up_self _ _ _))
  · clear gf1
    refine m_aload_n (j := 0) C dX12_set_8 rfl ?_
    refine m_iconst C dX12_set_9 ?_
    refine m_call (mc2 := 0) (ms2 := 0) (As := [.int (iI 3)]) (rest := []) C (B_bad (x := 3) hB (by show -2147483648 ≤ (3 : Int) ∧ (3 : Int) ≤ 2147483647; omega)) dX12_set_10 kV_X12_154 rfl ck_13 rfl (Nat.le_of_ble_eq_true rfl) ⟨Nat.le_of_ble_eq_true rfl, Nat.le_of_ble_eq_true rfl⟩ ⟨Nat.le_of_ble_eq_true rfl, Nat.le_of_ble_eq_true rfl⟩ (fun rh13 vh13 ah13 h13 => ?_)
    obtain ⟨f13, rfl, fn13, bn13, ex13⟩ := h13
    refine hv2 (fp0.call fn13 rfl rfl) (show f13 = -1 from ex13) (fun fq17 gf13 => ?_)
    refine m_st (st2 := [.int (iI f13)]) rfl ?_
    exact m_iret C dX12_set_13 rfl (Nat.le_of_ble_eq_true rfl) (Nat.le_of_ble_eq_true rfl) ⟨f13, rfl, fq17, bn13, (SETX.n1 (fun q => absurd (tl1.mpr q) (by omega)) (by omega) ((KSH.refl (v := v) (a := a)).fr fn13 rfl rfl rfl))⟩
end
section
def rwe (E : List (Option (List Int))) (l : Int) : Option (Option (List Int)) := if 0 ≤ l then E[l.toNat]? else none
def RWA (a : Nat → Nat → Int) (l : Nat) (x : Option (List Int)) : Prop := (x = none ∧ a 34 l < 0) ∨ ∃ xs, x = some xs ∧ a 34 l = ((xs.length : Nat) : Int) ∧ ∀ (j : Nat) (y : Int), xs[j]? = some y → a 35 (200 * l + j) = y
def SHA (v : Nat → Int) (a : Nat → Nat → Int) (E : List (Option (List Int))) : Prop := v 36 = ((E.length : Nat) : Int) ∧ ∀ (l : Nat) (x : Option (List Int)), E[l]? = some x → RWA a l x
def mpr (n : Nat) (F : Nat → Int) : List Int := (List.range n).map F
def gd0 (xs : List Int) (j : Nat) : Int := (xs[j]?).getD 0
def CELX (E : List (Option (List Int))) (l i f : Int) : Prop := (∃ xs, rwe E l = some (some xs) ∧ (0 ≤ i ∧ i < ((xs.length : Nat) : Int)) ∧ f = gd0 xs i.toNat) ∨ ((¬ ∃ xs, rwe E l = some (some xs) ∧ (0 ≤ i ∧ i < ((xs.length : Nat) : Int))) ∧ f = -1)
def LOSX (E : List (Option (List Int))) (l f : Int) (E2 : List (Option (List Int))) : Prop := ((∃ x, rwe E l = some x) ∧ E2 = E.set l.toNat none ∧ f = 1) ∨ (rwe E l = none ∧ E2 = E ∧ f = -1)
def CUTX (E : List (Option (List Int))) (l n f : Int) (E2 : List (Option (List Int))) : Prop := ((0 ≤ n ∧ n ≤ 200) ∧ ∃ xs, rwe E l = some (some xs) ∧ E2 = E.set l.toNat (some (mpr n.toNat (gd0 xs))) ∧ f = n) ∨ ((¬ ((0 ≤ n ∧ n ≤ 200) ∧ ∃ xs, rwe E l = some (some xs))) ∧ E2 = E ∧ f = -1)
def cpx (xs ys : List Int) (w x n : Nat) : List Int := mpr ys.length (fun j => if x ≤ j ∧ j < x + n then gd0 xs (w + (j - x)) else gd0 ys j)
def CPK (E : List (Option (List Int))) (q w u x n : Int) (xs ys : List Int) : Prop := rwe E q = some (some xs) ∧ rwe E u = some (some ys) ∧ 0 ≤ n ∧ 0 ≤ w ∧ 0 ≤ x ∧ w + n ≤ ((xs.length : Nat) : Int) ∧ x + n ≤ ((ys.length : Nat) : Int)
def CPRX (E : List (Option (List Int))) (q w u x n f : Int) (E2 : List (Option (List Int))) : Prop := (∃ xs ys, CPK E q w u x n xs ys ∧ E2 = E.set u.toNat (some (cpx xs ys w.toNat x.toNat n.toNat)) ∧ f = n) ∨ ((¬ ∃ xs ys, CPK E q w u x n xs ys) ∧ E2 = E ∧ f = -1)
def cst (E : List (Option (List Int))) (q u : Int) (E2 : List (Option (List Int))) : Prop := ∃ xs y, rwe E q = some (some xs) ∧ rwe E u = some y ∧ E2 = E.set u.toNat (some xs)
def cpn (E : List (Option (List Int))) (q u : Int) : Nat → List (Option (List Int)) → Prop
  | 0, E2 => E2 = E
  | k + 1, E2 => ∃ E1, cpn E q u k E1 ∧ cst E1 (q + ((k : Nat) : Int)) (u + ((k : Nat) : Int)) E2
def CPLX (E : List (Option (List Int))) (q u n c f : Int) (E2 : List (Option (List Int))) (c2 : Int) : Prop := ((n < 0 ∨ 10 < n) ∧ E2 = E ∧ f = -1 ∧ c2 = c) ∨ ((0 ≤ n ∧ n ≤ 10) ∧ ((cpn E q u n.toNat E2 ∧ f = n ∧ c2 = n) ∨ ∃ k : Nat, ((k : Nat) : Int) < n ∧ cpn E q u k E2 ∧ (¬ ∃ E3, cst E2 (q + ((k : Nat) : Int)) (u + ((k : Nat) : Int)) E3) ∧ f = -1 ∧ c2 = ((k : Nat) : Int)))
section CONT
variable {v v2 : Nat → Int} {a a2 : Nat → Nat → Int} {E E1 E2 E3 : List (Option (List Int))} {l i n q u w x f f1 f2 c c1 c2 : Int} {k : Nat} {xs ys : List Int}
theorem mpr_len {n : Nat} {F : Nat → Int} : (mpr n F).length = n := by
  unfold mpr
  rw [List.length_map, List.length_range]
theorem mpr_at {n j : Nat} {F : Nat → Int} {y : Int} (h : (mpr n F)[j]? = some y) : j < n ∧ y = F j := by
  have lt := gl3 h
  rw [mpr_len] at lt
  refine ⟨lt, ?_⟩
  unfold mpr at h
  rw [List.getElem?_map, List.getElem?_range lt] at h
  exact (Option.some.inj h).symm
theorem gd0_at {j : Nat} {y : Int} (h : xs[j]? = some y) : gd0 xs j = y := by
  unfold gd0
  rw [h]
  rfl
theorem gd0_out {j : Nat} (h : xs.length ≤ j) : gd0 xs j = 0 := by
  unfold gd0
  rw [List.getElem?_eq_none h]
  rfl
theorem gd0_lt {j : Nat} (h : j < xs.length) : xs[j]? = some (gd0 xs j) := by
  rw [gd0_at (List.getElem?_eq_getElem h)]
  exact List.getElem?_eq_getElem h
theorem rwl_lt {y : Option (List Int)} (h : rwe E l = some y) : 0 ≤ l ∧ l < ((E.length : Nat) : Int) ∧ E[l.toNat]? = some y := by
  unfold rwe at h
  by_cases c0 : 0 ≤ l
  · rw [if_pos c0] at h
    have lt := gl3 h
    exact ⟨c0, by omega, h⟩
  · rw [if_neg c0] at h
    cases h
theorem rwl_in (h0 : 0 ≤ l) (h : l < ((E.length : Nat) : Int)) : ∃ y, rwe E l = some y ∧ E[l.toNat]? = some y := by
  have lt : l.toNat < E.length := by omega
  refine ⟨_, ?_, List.getElem?_eq_getElem lt⟩
  unfold rwe
  rw [if_pos h0]
  exact List.getElem?_eq_getElem lt
theorem rwl_out (h : ¬ (0 ≤ l ∧ l < ((E.length : Nat) : Int))) : rwe E l = none := by
  unfold rwe
  by_cases c0 : 0 ≤ l
  · rw [if_pos c0]
    exact List.getElem?_eq_none (by omega)
  · rw [if_neg c0]
theorem SHA.off (h : SHA v a E) (hl : ¬ (0 ≤ l ∧ l < v 36)) : rwe E l = none := rwl_out (by have e := h.1; omega)
theorem SHA.on (h : SHA v a E) (h0 : 0 ≤ l) (hl : l < v 36) : ∃ y, rwe E l = some y ∧ RWA a l.toNat y := by
  obtain ⟨y, y1, y2⟩ := rwl_in (E := E) h0 (by have e := h.1; omega)
  exact ⟨y, y1, h.2 _ y y2⟩
theorem SHA.lack (h : SHA v a E) (h0 : 0 ≤ l) (hl : l < v 36) (hn : a 34 l.toNat < 0) : rwe E l = some none := by
  obtain ⟨y, y1, y2⟩ := h.on h0 hl
  rcases y2 with ⟨e, _⟩ | ⟨xs, _, e, _⟩
  · rw [y1, e]
  · omega
theorem SHA.have_ (h : SHA v a E) (h0 : 0 ≤ l) (hl : l < v 36) (hn : 0 ≤ a 34 l.toNat) : ∃ xs, rwe E l = some (some xs) ∧ a 34 l.toNat = ((xs.length : Nat) : Int) ∧ ∀ j : Nat, j < xs.length → a 35 (200 * l.toNat + j) = gd0 xs j := by
  obtain ⟨y, y1, y2⟩ := h.on h0 hl
  rcases y2 with ⟨_, e⟩ | ⟨xs, e1, e2, e3⟩
  · omega
  · exact ⟨xs, by rw [y1, e1], e2, fun j hj => e3 j _ (gd0_lt hj)⟩
theorem CELX.uni (h : CELX E l i f1) (h2 : CELX E l i f2) : f1 = f2 := by
  rcases h with ⟨xs, e1, e2, e3⟩ | ⟨e1, e2⟩ <;> rcases h2 with ⟨ys, d1, d2, d3⟩ | ⟨d1, d2⟩
  · rw [e1] at d1
    cases d1
    rw [e3, d3]
  · exact absurd ⟨xs, e1, e2⟩ d1
  · exact absurd ⟨ys, d1, d2⟩ e1
  · omega
theorem LOSX.uni (h : LOSX E l f1 E1) (h2 : LOSX E l f2 E2) : f1 = f2 ∧ E1 = E2 := by
  rcases h with ⟨⟨x, e1⟩, e2, e3⟩ | ⟨e1, e2, e3⟩ <;> rcases h2 with ⟨⟨y, d1⟩, d2, d3⟩ | ⟨d1, d2, d3⟩
  · exact ⟨e3.trans d3.symm, e2.trans d2.symm⟩
  · rw [e1] at d1
    cases d1
  · rw [e1] at d1
    cases d1
  · exact ⟨e3.trans d3.symm, e2.trans d2.symm⟩
theorem CUTX.uni (h : CUTX E l n f1 E1) (h2 : CUTX E l n f2 E2) : f1 = f2 ∧ E1 = E2 := by
  rcases h with ⟨e0, xs, e1, e2, e3⟩ | ⟨e1, e2, e3⟩ <;> rcases h2 with ⟨d0, ys, d1, d2, d3⟩ | ⟨d1, d2, d3⟩
  · rw [e1] at d1
    cases d1
    exact ⟨e3.trans d3.symm, e2.trans d2.symm⟩
  · exact absurd ⟨e0, xs, e1⟩ d1
  · exact absurd ⟨d0, ys, d1⟩ e1
  · exact ⟨e3.trans d3.symm, e2.trans d2.symm⟩
theorem CPRX.uni (h : CPRX E q w u x n f1 E1) (h2 : CPRX E q w u x n f2 E2) : f1 = f2 ∧ E1 = E2 := by
  rcases h with ⟨xs, ys, e1, e2, e3⟩ | ⟨e1, e2, e3⟩ <;> rcases h2 with ⟨zs, us, d1, d2, d3⟩ | ⟨d1, d2, d3⟩
  · have i1 := e1.1.symm.trans d1.1
    have i2 := e1.2.1.symm.trans d1.2.1
    cases i1
    cases i2
    exact ⟨e3.trans d3.symm, e2.trans d2.symm⟩
  · exact absurd ⟨xs, ys, e1⟩ d1
  · exact absurd ⟨zs, us, d1⟩ e1
  · exact ⟨e3.trans d3.symm, e2.trans d2.symm⟩
theorem cst.uni (h : cst E q u E1) (h2 : cst E q u E2) : E1 = E2 := by
  obtain ⟨xs, y, e1, e2, e3⟩ := h
  obtain ⟨ys, z, d1, d2, d3⟩ := h2
  rw [e1] at d1
  cases d1
  rw [e3, d3]
theorem cpn.uni : ∀ (k : Nat) (E1 E2 : List (Option (List Int))), cpn E q u k E1 → cpn E q u k E2 → E1 = E2 := by
  intro k
  induction k with
  | zero => intro E1 E2 h h2; exact h.trans h2.symm
  | succ k ih =>
    intro E1 E2 h h2
    obtain ⟨A, a1, a2⟩ := h
    obtain ⟨B, b1, b2⟩ := h2
    have e := ih A B a1 b1
    subst e
    exact cst.uni a2 b2
theorem cpn.less {m : Nat} (hm : k < m) : ∀ E1, cpn E q u m E1 → ∃ E2 E3, cpn E q u k E2 ∧ cst E2 (q + ((k : Nat) : Int)) (u + ((k : Nat) : Int)) E3 := by
  induction m with
  | zero => omega
  | succ m ih =>
    intro E1 h
    obtain ⟨A, a1, a2⟩ := h
    by_cases c0 : k = m
    · subst c0
      exact ⟨A, E1, a1, a2⟩
    · exact ih (by omega) A a1
theorem cpn.stop {m : Nat} (h1 : cpn E q u k E1) (n1 : ¬ ∃ E3, cst E1 (q + ((k : Nat) : Int)) (u + ((k : Nat) : Int)) E3) (h2 : cpn E q u m E2) (hm : k < m) : False := by
  obtain ⟨A, B, a1, a2⟩ := cpn.less hm E2 h2
  have e := cpn.uni k A E1 a1 h1
  subst e
  exact n1 ⟨B, a2⟩
theorem CPLX.uni (h : CPLX E q u n c f1 E1 c1) (h2 : CPLX E q u n c f2 E2 c2) : f1 = f2 ∧ E1 = E2 ∧ c1 = c2 := by
  rcases h with ⟨e0, e1, e2, e3⟩ | ⟨e0, ⟨e1, e2, e3⟩ | ⟨k, e1, e2, e3, e4, e5⟩⟩ <;> rcases h2 with ⟨d0, d1, d2, d3⟩ | ⟨d0, ⟨d1, d2, d3⟩ | ⟨m, d1, d2, d3, d4, d5⟩⟩
  · exact ⟨e2.trans d2.symm, e1.trans d1.symm, e3.trans d3.symm⟩
  · omega
  · omega
  · omega
  · exact ⟨e2.trans d2.symm, cpn.uni _ _ _ e1 d1, e3.trans d3.symm⟩
  · exact (cpn.stop d2 d3 e1 (by omega)).elim
  · omega
  · exact (cpn.stop e2 e3 d1 (by omega)).elim
  · by_cases c0 : k = m
    · subst c0
      exact ⟨e4.trans d4.symm, cpn.uni _ _ _ e2 d2, e5.trans d5.symm⟩
    · by_cases c3 : k < m
      · exact (cpn.stop e2 e3 d2 c3).elim
      · exact (cpn.stop d2 d3 e2 (by omega)).elim
end CONT
end
section
def CLA (v : Nat → Int) (a : Nat → Nat → Int) (l i f : Int) : Prop := ∀ E, SHA v a E → CELX E l i f
def LSA (v : Nat → Int) (a : Nat → Nat → Int) (v2 : Nat → Int) (a2 : Nat → Nat → Int) (l f : Int) : Prop := ∀ E, SHA v a E → ∃ E2, LOSX E l f E2 ∧ SHA v2 a2 E2
def CTA (v : Nat → Int) (a : Nat → Nat → Int) (v2 : Nat → Int) (a2 : Nat → Nat → Int) (l n f : Int) : Prop := ∀ E, SHA v a E → ∃ E2, CUTX E l n f E2 ∧ SHA v2 a2 E2
def CT1 (a : Nat → Nat → Int) (a1 : Nat → Nat → Int) (l k : Int) : Prop := a1 34 = a 34 ∧ ∀ j : Nat, a1 35 j = if 200 * l + a 34 l.toNat ≤ ((j : Nat) : Int) ∧ ((j : Nat) : Int) < 200 * l + k then 0 else a 35 j
def CRA (v : Nat → Int) (a : Nat → Nat → Int) (v2 : Nat → Int) (a2 : Nat → Nat → Int) (q w u x n f : Int) : Prop := ∀ E, SHA v a E → ∃ E2, CPRX E q w u x n f E2 ∧ SHA v2 a2 E2
def CR1 (a : Nat → Nat → Int) (a1 : Nat → Nat → Int) (p t n g k : Int) : Prop := a1 34 = a 34 ∧ ∀ j : Nat, a1 35 j = if (g = 0 ∧ t ≤ ((j : Nat) : Int) ∧ ((j : Nat) : Int) < t + k) ∨ (g ≠ 0 ∧ t + (n - k) ≤ ((j : Nat) : Int) ∧ ((j : Nat) : Int) < t + n) then a 35 (((j : Nat) : Int) - t + p).toNat else a 35 j
def KSA (v : Nat → Int) (a : Nat → Nat → Int) (v2 : Nat → Int) (a2 : Nat → Nat → Int) : Prop := v2 36 = v 36 ∧ a2 34 = a 34 ∧ a2 35 = a 35
section RSHT
variable {v v1 v2 : Nat → Int} {a a1 a2 a3 : Nat → Nat → Int} {E E2 : List (Option (List Int))} {l i n q u w x f k z p t g : Int} {m m2 : Nat} {y : Option (List Int)} {xs ys : List Int}
theorem SHA.cg (h : SHA v a E) (hk : KSA v a v2 a2) : SHA v2 a2 E := by
  obtain ⟨k1, k2, k3⟩ := hk
  refine ⟨k1.trans h.1, fun l x e => ?_⟩
  unfold RWA
  rw [k2, k3]
  exact h.2 l x e
theorem SHA.set (h : SHA v a E) (hb : ∀ j, a 34 j ≤ 200) (h0 : 0 ≤ l ∧ l < v 36) (h36 : v2 36 = v 36) (hr : RWA a2 l.toNat y) (ho : ∀ j : Nat, j ≠ l.toNat → a2 34 j = a 34 j ∧ ∀ o : Nat, o < 200 → a2 35 (200 * j + o) = a 35 (200 * j + o)) : SHA v2 a2 (E.set l.toNat y) := by
  obtain ⟨h1, h2⟩ := h
  refine ⟨by rw [List.length_set]; omega, fun j x e => ?_⟩
  rw [List.getElem?_set] at e
  by_cases c : l.toNat = j
  · rw [if_pos c] at e
    split at e
    · cases e
      rw [← c]
      exact hr
    · cases e
  · rw [if_neg c] at e
    obtain ⟨o1, o2⟩ := ho j (fun e2 => c e2.symm)
    rcases h2 j x e with ⟨d1, d2⟩ | ⟨xs, d1, d2, d3⟩
    · exact Or.inl ⟨d1, by omega⟩
    · refine Or.inr ⟨xs, d1, by omega, fun o z ez => ?_⟩
      refine hv2 (gl3 ez) (hb j) (fun lt b => ?_)
      rw [o2 o (by omega)]
      exact d3 o z ez
theorem SHA.fault (h : SHA v a E) (hl : ¬ (0 ≤ l ∧ l < v 36) ∨ ((0 ≤ l ∧ l < v 36) ∧ a 34 l.toNat < 0)) : ¬ ∃ xs, rwe E l = some (some xs) := fun e => by
  obtain ⟨xs, e⟩ := e
  rcases hl with c | ⟨c1, c2⟩
  · rw [h.off c] at e
    cases e
  · rw [h.lack c1.1 c1.2 c2] at e
    cases e
theorem CLA.bad (hl : ¬ (0 ≤ l ∧ l < v 36) ∨ ((0 ≤ l ∧ l < v 36) ∧ a 34 l.toNat < 0)) (hf : f = -1) : CLA v a l i f := fun E h => Or.inr ⟨fun ⟨xs, e, _⟩ => h.fault hl ⟨xs, e⟩, hf⟩
theorem CLA.out (h0 : 0 ≤ l) (hl : l < v 36) (hn : 0 ≤ a 34 l.toNat) (hi : ¬ (0 ≤ i ∧ i < a 34 l.toNat)) (hf : f = -1) : CLA v a l i f := fun E h => by
  obtain ⟨xs, e1, e2, _⟩ := h.have_ h0 hl hn
  refine Or.inr ⟨fun ⟨ys, d1, d2⟩ => ?_, hf⟩
  rw [e1] at d1
  cases d1
  omega
theorem CLA.ok (h0 : 0 ≤ l) (hl : l < v 36) (hn : 0 ≤ a 34 l.toNat) (hi : 0 ≤ i ∧ i < a 34 l.toNat) (hf : f = a 35 (200 * l + i).toNat) : CLA v a l i f := fun E h => by
  obtain ⟨xs, e1, e2, e3⟩ := h.have_ h0 hl hn
  refine Or.inl ⟨xs, e1, by omega, ?_⟩
  rw [hf, ← e3 i.toNat (by omega), show (200 * l + i).toNat = 200 * l.toNat + i.toNat by omega]
theorem LSA.bad (hl : ¬ (0 ≤ l ∧ l < v 36)) (hf : f = -1) (hk : KSA v a v2 a2) : LSA v a v2 a2 l f := fun E h => ⟨E, Or.inr ⟨h.off hl, rfl, hf⟩, h.cg hk⟩
theorem LSA.ok (hb : ∀ j, a 34 j ≤ 200) (h0 : 0 ≤ l ∧ l < v 36) (hf : f = 1) (h36 : v2 36 = v 36) (h34 : a2 34 = up2 a 34 l.toNat (-1) 34) (h35 : a2 35 = up2 a 34 l.toNat (-1) 35) : LSA v a v2 a2 l f := fun E h => by
  obtain ⟨y, y1, _⟩ := h.on h0.1 h0.2
  refine ⟨_, Or.inl ⟨⟨y, y1⟩, rfl, hf⟩, h.set hb h0 h36 (Or.inl ⟨rfl, ?_⟩) (fun j hj => ⟨?_, fun o _ => ?_⟩)⟩
  · rw [h34, up2_s]
    decide
  · rw [h34, up2_j hj]
  · rw [h35, up2_k (by decide)]
theorem CT1.zero (hk : k = a 34 l.toNat) : CT1 a a l k := ⟨rfl, fun j => by rw [if_neg (by omega)]⟩
theorem CT1.step (h : CT1 a a1 l k) (hk : a 34 l.toNat ≤ k ∧ 0 ≤ 200 * l + k) (hm : m = (200 * l + k).toNat) : CT1 a (up2 a1 35 m 0) l (k + 1) := by
  obtain ⟨h1, h2⟩ := h
  refine ⟨by rw [← h1]; funext j; exact up2_k (by decide), fun j => ?_⟩
  by_cases c : j = m
  · rw [c, up2_s, if_pos (by omega)]
  · rw [up2_j c, h2 j]
    by_cases c2 : 200 * l + a 34 l.toNat ≤ ((j : Nat) : Int) ∧ ((j : Nat) : Int) < 200 * l + k
    · rw [if_pos c2, if_pos (by omega)]
    · rw [if_neg c2, if_neg (by omega)]
theorem CTA.bad (hl : (n < 0 ∨ 200 < n) ∨ (¬ (0 ≤ l ∧ l < v 36) ∨ ((0 ≤ l ∧ l < v 36) ∧ a 34 l.toNat < 0))) (hf : f = -1) (hk : KSA v a v2 a2) : CTA v a v2 a2 l n f := fun E h => by
  refine ⟨E, Or.inr ⟨fun ⟨c, xs, e⟩ => ?_, rfl, hf⟩, h.cg hk⟩
  rcases hl with c2 | c2
  · omega
  · exact h.fault c2 ⟨xs, e⟩
theorem CTA.ok (hb : ∀ j, a 34 j ≤ 200) (h0 : 0 ≤ l ∧ l < v 36) (hn : 0 ≤ n ∧ n ≤ 200) (hp : 0 ≤ a 34 l.toNat) (hc : CT1 a a1 l k) (hk : (k = a 34 l.toNat ∨ k ≤ n) ∧ n ≤ k) (hf : f = n) (h36 : v2 36 = v 36) (h34 : a2 34 = up2 a1 34 l.toNat n 34) (h35 : a2 35 = up2 a1 34 l.toNat n 35) : CTA v a v2 a2 l n f := fun E h => by
  obtain ⟨xs, e1, e2, e3⟩ := h.have_ h0.1 h0.2 hp
  obtain ⟨c1, c2⟩ := hc
  have b := hb l.toNat
  refine ⟨_, Or.inl ⟨hn, xs, e1, rfl, hf⟩, h.set hb h0 h36 (Or.inr ⟨_, rfl, ?_, fun j y ey => ?_⟩) (fun j hj => ⟨?_, fun o ho => ?_⟩)⟩
  · rw [h34, up2_s, mpr_len]
    omega
  · obtain ⟨m1, m2⟩ := mpr_at ey
    rw [h35, up2_k (by decide), c2, m2]
    by_cases c : j < xs.length
    · rw [if_neg (by omega)]
      exact e3 j c
    · rw [if_pos (by omega), gd0_out (by omega)]
  · rw [h34, up2_j hj, c1]
  · rw [h35, up2_k (by decide), c2, if_neg (by omega)]
theorem CR1.zero (hk : k = 0) (h34 : a1 34 = a 34 ∧ a1 35 = a 35) : CR1 a a1 p t n g k := ⟨h34.1, fun j => by rw [if_neg (by omega), h34.2]⟩
theorem CR1.step (h : CR1 a a1 p t n g k) (hg : (g = 0 ∧ z = k) ∨ (g = 1 ∧ z = n - 1 - k)) (hk : 0 ≤ k ∧ k < n) (hp : 0 ≤ p ∧ 0 ≤ t) (ho : (g = 1 ∧ p < t) ∨ (g = 0 ∧ (t ≤ p ∨ t + n ≤ p ∨ p + n ≤ t))) (hm : m = (t + z).toNat) (hm2 : m2 = (p + z).toNat) : CR1 a (up2 a1 35 m (a1 35 m2)) p t n g (k + 1) := by
  obtain ⟨h1, h2⟩ := h
  refine ⟨by rw [← h1]; funext j; exact up2_k (by decide), fun j => ?_⟩
  by_cases c : j = m
  · rw [c, up2_s, if_pos (by omega), h2 m2, if_neg (by omega), show ((m : Nat) : Int) - t + p = ((m2 : Nat) : Int) by omega, Int.toNat_natCast]
  · rw [up2_j c, h2 j]
    by_cases c2 : (g = 0 ∧ t ≤ ((j : Nat) : Int) ∧ ((j : Nat) : Int) < t + k) ∨ (g ≠ 0 ∧ t + (n - k) ≤ ((j : Nat) : Int) ∧ ((j : Nat) : Int) < t + n)
    · rw [if_pos c2, if_pos (by omega)]
    · rw [if_neg c2, if_neg (by omega)]
theorem CRA.bad (hf : f = -1) (hk : KSA v a v2 a2) (hn : ¬ (((0 ≤ q ∧ q < v 36) ∧ 0 ≤ a 34 q.toNat) ∧ ((0 ≤ u ∧ u < v 36) ∧ 0 ≤ a 34 u.toNat) ∧ 0 ≤ n ∧ 0 ≤ w ∧ 0 ≤ x ∧ w + n ≤ a 34 q.toNat ∧ x + n ≤ a 34 u.toNat)) : CRA v a v2 a2 q w u x n f := fun E h => by
  refine ⟨E, Or.inr ⟨fun ⟨xs, ys, e1, e2, e3, e4, e5, e6, e7⟩ => hn ?_, rfl, hf⟩, h.cg hk⟩
  have k : ∀ l zs, rwe E l = some (some zs) → (0 ≤ l ∧ l < v 36) ∧ a 34 l.toNat = ((zs.length : Nat) : Int) := fun l zs e => by
    obtain ⟨r1, r2, r3⟩ := rwl_lt e
    refine ⟨⟨r1, by have q := h.1; omega⟩, ?_⟩
    rcases h.2 _ _ r3 with ⟨d, _⟩ | ⟨ws, d1, d2, _⟩
    · cases d
    · cases d1
      exact d2
  obtain ⟨a1, a2⟩ := k q xs e1
  obtain ⟨b1, b2⟩ := k u ys e2
  exact ⟨⟨a1, by omega⟩, ⟨b1, by omega⟩, e3, e4, e5, by omega, by omega⟩
theorem CRA.ok (hb : ∀ j, a 34 j ≤ 200) (hq : (0 ≤ q ∧ q < v 36) ∧ 0 ≤ a 34 q.toNat) (hu : (0 ≤ u ∧ u < v 36) ∧ 0 ≤ a 34 u.toNat) (hn : 0 ≤ n) (hw : 0 ≤ w) (hx : 0 ≤ x) (h1 : w + n ≤ a 34 q.toNat) (h2 : x + n ≤ a 34 u.toNat) (hc : CR1 a a1 (200 * q + w) (200 * u + x) n g k) (hk : k = n) (hf : f = n) (h36 : v2 36 = v 36) (h34 : a2 34 = a1 34) (h35 : a2 35 = a1 35) : CRA v a v2 a2 q w u x n f := fun E h => by
  obtain ⟨xs, e1, e2, e3⟩ := h.have_ hq.1.1 hq.1.2 hq.2
  obtain ⟨ys, d1, d2, d3⟩ := h.have_ hu.1.1 hu.1.2 hu.2
  obtain ⟨c1, c2⟩ := hc
  refine hv2 (hb u.toNat) (hb q.toNat) (fun b b3 => ?_)
  refine ⟨_, Or.inl ⟨xs, ys, ⟨e1, d1, hn, hw, hx, by omega, by omega⟩, rfl, hf⟩, h.set hb hu.1 h36 (Or.inr ⟨_, rfl, ?_, fun j y ey => ?_⟩) (fun j hj => ⟨?_, fun o ho => ?_⟩)⟩
  · unfold cpx
    rw [h34, c1, mpr_len]
    exact d2
  · unfold cpx at ey
    obtain ⟨m1, m2⟩ := mpr_at ey
    rw [h35, c2, m2]
    by_cases c : x.toNat ≤ j ∧ j < x.toNat + n.toNat
    · rw [if_pos (by omega), if_pos c, ← e3 _ (by omega)]
      congr 1
      omega
    · rw [if_neg (by omega), if_neg c]
      exact d3 j m1
  · rw [h34, c1]
  · rw [h35, c2, if_neg (by omega)]
end RSHT
set_option maxHeartbeats 4000000 in
set_option maxRecDepth 100000 in
theorem N2_cell {l : Launch} {G : GT} {h0 : Nat} {ad ln : Nat → Nat} {v : Nat → Int} {a : Nat → Nat → Int}  {l0 i : Int} (hB : BX v a) (hl0 : -2147483648 ≤ l0 ∧ l0 ≤ 2147483647) (hi : -2147483648 ≤ i ∧ i ≤ 2147483647) : Mm l G yX12_cell cX12_cell 3 (some .int) 2 [.int (iI l0), .int (iI i)] h0 ad ln v a 0 0 (fun r v2 a2 => ∃ f : Int, r = some (.int (iI f)) ∧ fr [0, 1] [] v a v2 a2 ∧ BX v2 a2 ∧ (CLA v a l0 i f)) := by
  refine Mm.mk (by decide) (Nat.le_of_ble_eq_true rfl) ?_
  intro p e s m args below meth c A C
  have fp0 : fr [0, 1] [] v a v a := fr.refl
  refine m_aload_n (j := 0) C dX12_cell_0 rfl ?_
  refine m_iload_n (j := 1) C dX12_cell_1 rfl ?_
  have rv1 : 0 ≤ v 36 ∧ v 36 ≤ 200 := hB.1 36
  refine m_call (mc2 := 0) (ms2 := 0) (As := [.int (iI l0)]) (rest := []) C (M_lineFault (l0 := l0) hB.rg ⟨by omega, by omega⟩ ⟨hB.1 36, hB.2 34⟩) dX12_cell_2 kV_X12_294 rfl ck_13 rfl (Nat.le_of_ble_eq_true rfl) ⟨Nat.le_of_ble_eq_true rfl, Nat.le_of_ble_eq_true rfl⟩ ⟨Nat.le_of_ble_eq_true rfl, Nat.le_of_ble_eq_true rfl⟩ (fun rh1 vh1 ah1 h1 => ?_)
  obtain ⟨f1, rfl, hf1, rfl, rfl⟩ := h1
  refine hv2 (show (f1 = 2 ∧ ¬ (0 ≤ l0 ∧ l0 < (v 36))) ∨ (f1 = 1 ∧ 0 ≤ l0 ∧ l0 < (v 36) ∧ a 34 l0.toNat < 0) ∨ (f1 = 0 ∧ 0 ≤ l0 ∧ l0 < (v 36) ∧ 0 ≤ a 34 l0.toNat) from hf1) (show (-1) ≤ a 34 l0.toNat ∧ a 34 l0.toNat ≤ 200 from hB.2 34 (l0.toNat)) (fun gf1 ra1 => ?_)
  refine m_st (st2 := [.int (iI f1)]) rfl ?_
  refine m_if_le (tgt := 18) C ⟨by omega, by omega⟩ dX12_cell_5 (by decide) (fun c1 => ?_) (fun c1 => ?_)
  · refine m_iload_n (j := 2) C dX12_cell_18 rfl ?_
    refine m_iconst C dX12_cell_19 ?_
    refine m_aload_n (j := 0) C dX12_cell_20 rfl ?_
    refine m_geta (k := 34) C dX12_cell_21 w6_93 (by decide) rfl ?_
    refine m_iload_n (j := 1) C dX12_cell_24 rfl ?_
    refine m_ald (k := 34) C dX12_cell_25 rfl rfl (by decide) (by omega) (by show _ < ((_ : Nat) : Int); simp only [mlen]; omega) (by decide) ?_
    refine m_iconst C dX12_cell_26 ?_
    refine m_isub C dX12_cell_27 ?_
    refine m_callS (As := [.int (iI i), .int (iI 0), .int (iI ((a 34 l0.toNat) - 1))]) (rest := []) C (fun L E => s_isIn (iI i) (iI 0) (iI ((a 34 l0.toNat) - 1))) dX12_cell_28 kS_X12_174 rfl rfl (Nat.le_of_ble_eq_true rfl) ⟨Nat.le_of_ble_eq_true rfl, Nat.le_of_ble_eq_true rfl⟩ ⟨Nat.le_of_ble_eq_true rfl, Nat.le_of_ble_eq_true rfl⟩ ?_
    rcases inn_c (x := i) (lo := 0) (hi := (a 34 l0.toNat) - 1) ⟨by omega, by omega⟩ ⟨by decide, by decide⟩ ⟨by omega, by omega⟩ with ⟨h2a, h2b, h2e⟩ | ⟨h2a, h2e⟩
    · refine m_st (st2 := [.int (iI 1)]) (by rw [h2e]) ?_
      refine m_if_eq (tgt := 53) C ⟨by decide, by decide⟩ dX12_cell_31 (by decide) (fun z => absurd z (by omega)) (fun _ => ?_)
      refine m_aload_n (j := 0) C dX12_cell_34 rfl ?_
      refine m_aload_n (j := 0) C dX12_cell_35 rfl ?_
      refine m_geta (k := 35) C dX12_cell_36 w6_94 (by decide) rfl ?_
      refine m_sipush (z := 200) C dX12_cell_39 (by decide) ?_
      refine m_iload_n (j := 1) C dX12_cell_42 rfl ?_
      refine m_imul C dX12_cell_43 ?_
      refine m_iload_n (j := 2) C dX12_cell_44 rfl ?_
      refine m_iadd C dX12_cell_45 ?_
      refine m_ald (k := 35) C dX12_cell_46 rfl rfl (by decide) (by omega) (by show _ < ((_ : Nat) : Int); simp only [mlen]; omega) (by decide) ?_
      have ra2 : (-2147483648) ≤ a 35 ((200 * l0) + i).toNat ∧ a 35 ((200 * l0) + i).toNat ≤ 2147483647 := hB.2 35 (((200 * l0) + i).toNat)
      refine m_call (mc2 := 0) (ms2 := 0) (As := [.int (iI (a 35 ((200 * l0) + i).toNat))]) (rest := []) C (B_fine (x := a 35 ((200 * l0) + i).toNat) hB (by show -2147483648 ≤ (a 35 ((200 * l0) + i).toNat) ∧ (a 35 ((200 * l0) + i).toNat) ≤ 2147483647; omega)) dX12_cell_47 kV_X12_158 rfl ck_13 rfl (Nat.le_of_ble_eq_true rfl) ⟨Nat.le_of_ble_eq_true rfl, Nat.le_of_ble_eq_true rfl⟩ ⟨Nat.le_of_ble_eq_true rfl, Nat.le_of_ble_eq_true rfl⟩ (fun rh3 vh3 ah3 h3 => ?_)
      obtain ⟨f2, rfl, fn1, bn1, ex1⟩ := h3
      refine hv2 (fp0.call fn1 rfl rfl) (show f2 = (a 35 ((200 * l0) + i).toNat) from ex1) (fun fq1 gf2 => ?_)
      refine m_st (st2 := [.int (iI f2)]) rfl ?_
      refine m_goto (tgt := 58) C dX12_cell_50 (by decide) ?_
      exact m_iret C dX12_cell_58 rfl (Nat.le_of_ble_eq_true rfl) (Nat.le_of_ble_eq_true rfl) ⟨f2, rfl, fq1, bn1, (CLA.ok (by omega) (by omega) (by omega) ⟨by omega, by omega⟩ (by omega))⟩
    · refine m_st (st2 := [.int (iI 0)]) (by rw [h2e]) ?_
      refine m_if_eq (tgt := 53) C ⟨by decide, by decide⟩ dX12_cell_31 (by decide) (fun _ => ?_) (fun z => absurd z (by omega))
      refine m_aload_n (j := 0) C dX12_cell_53 rfl ?_
      refine m_iconst C dX12_cell_54 ?_
      refine m_call (mc2 := 0) (ms2 := 0) (As := [.int (iI 2)]) (rest := []) C (B_bad (x := 2) hB (by show -2147483648 ≤ (2 : Int) ∧ (2 : Int) ≤ 2147483647; omega)) dX12_cell_55 kV_X12_154 rfl ck_13 rfl (Nat.le_of_ble_eq_true rfl) ⟨Nat.le_of_ble_eq_true rfl, Nat.le_of_ble_eq_true rfl⟩ ⟨Nat.le_of_ble_eq_true rfl, Nat.le_of_ble_eq_true rfl⟩ (fun rh4 vh4 ah4 h4 => ?_)
      obtain ⟨f3, rfl, fn2, bn2, ex2⟩ := h4
      refine hv2 (fp0.call fn2 rfl rfl) (show f3 = -1 from ex2) (fun fq2 gf3 => ?_)
      refine m_st (st2 := [.int (iI f3)]) rfl ?_
      exact m_iret C dX12_cell_58 rfl (Nat.le_of_ble_eq_true rfl) (Nat.le_of_ble_eq_true rfl) ⟨f3, rfl, fq2, bn2, (CLA.out (by omega) (by omega) (by omega) (by omega) (by omega))⟩
  · refine m_aload_n (j := 0) C dX12_cell_8 rfl ?_
    refine m_aload_n (j := 0) C dX12_cell_9 rfl ?_
    refine m_iload_n (j := 1) C dX12_cell_10 rfl ?_
    refine m_call (mc2 := 0) (ms2 := 0) (As := [.int (iI l0)]) (rest := [.ref h0]) C (M_lineFault (l0 := l0) hB.rg ⟨by omega, by omega⟩ ⟨hB.1 36, hB.2 34⟩) dX12_cell_11 kV_X12_294 rfl ck_13 rfl (Nat.le_of_ble_eq_true rfl) ⟨Nat.le_of_ble_eq_true rfl, Nat.le_of_ble_eq_true rfl⟩ ⟨Nat.le_of_ble_eq_true rfl, Nat.le_of_ble_eq_true rfl⟩ (fun rh5 vh5 ah5 h5 => ?_)
    obtain ⟨f4, rfl, hf4, rfl, rfl⟩ := h5
    have gf4 : (f4 = 2 ∧ ¬ (0 ≤ l0 ∧ l0 < (v 36))) ∨ (f4 = 1 ∧ 0 ≤ l0 ∧ l0 < (v 36) ∧ a 34 l0.toNat < 0) ∨ (f4 = 0 ∧ 0 ≤ l0 ∧ l0 < (v 36) ∧ 0 ≤ a 34 l0.toNat) := hf4
    refine m_st (st2 := [.int (iI f4), .ref h0]) rfl ?_
    refine m_call (mc2 := 0) (ms2 := 0) (As := [.int (iI f4)]) (rest := []) C (B_bad (x := f4) hB (by show -2147483648 ≤ f4 ∧ f4 ≤ 2147483647; omega)) dX12_cell_14 kV_X12_154 rfl ck_13 rfl (Nat.le_of_ble_eq_true rfl) ⟨Nat.le_of_ble_eq_true rfl, Nat.le_of_ble_eq_true rfl⟩ ⟨Nat.le_of_ble_eq_true rfl, Nat.le_of_ble_eq_true rfl⟩ (fun rh6 vh6 ah6 h6 => ?_)
    obtain ⟨f5, rfl, fn3, bn3, ex3⟩ := h6
    refine hv2 (fp0.call fn3 rfl rfl) (show f5 = -1 from ex3) (fun fq3 gf5 => ?_)
    refine m_st (st2 := [.int (iI f5)]) rfl ?_
    exact m_iret C dX12_cell_17 rfl (Nat.le_of_ble_eq_true rfl) (Nat.le_of_ble_eq_true rfl) ⟨f5, rfl, fq3, bn3, (CLA.bad (by omega) (by omega))⟩
set_option maxHeartbeats 4000000 in
set_option maxRecDepth 100000 in
theorem N2_lose {l : Launch} {G : GT} {h0 : Nat} {ad ln : Nat → Nat} {v : Nat → Int} {a : Nat → Nat → Int}  {l0 : Int} (hB : BX v a) (hl0 : -2147483648 ≤ l0 ∧ l0 ≤ 2147483647) : Mm l G yX12_lose cX12_lose 2 (some .int) 2 [.int (iI l0)] h0 ad ln v a 0 0 (fun r v2 a2 => ∃ f : Int, r = some (.int (iI f)) ∧ fr [0, 1] [34] v a v2 a2 ∧ BX v2 a2 ∧ (LSA v a v2 a2 l0 f)) := by
  refine Mm.mk (by decide) (Nat.le_of_ble_eq_true rfl) ?_
  intro p e s m args below meth c A C
  have fp0 : fr [0, 1] [34] v a v a := fr.refl
  refine m_iload_n (j := 1) C dX12_lose_0 rfl ?_
  refine m_iconst C dX12_lose_1 ?_
  refine m_aload_n (j := 0) C dX12_lose_2 rfl ?_
  have rv1 : 0 ≤ v 36 ∧ v 36 ≤ 200 := hB.1 36
  refine m_get (k := 36) C dX12_lose_3 w6_95 (by decide) rfl ?_
  refine m_iconst C dX12_lose_6 ?_
  refine m_isub C dX12_lose_7 ?_
  refine m_callS (As := [.int (iI l0), .int (iI 0), .int (iI ((v 36) - 1))]) (rest := []) C (fun L E => s_isIn (iI l0) (iI 0) (iI ((v 36) - 1))) dX12_lose_8 kS_X12_174 rfl rfl (Nat.le_of_ble_eq_true rfl) ⟨Nat.le_of_ble_eq_true rfl, Nat.le_of_ble_eq_true rfl⟩ ⟨Nat.le_of_ble_eq_true rfl, Nat.le_of_ble_eq_true rfl⟩ ?_
  rcases inn_c (x := l0) (lo := 0) (hi := (v 36) - 1) ⟨by omega, by omega⟩ ⟨by decide, by decide⟩ ⟨by omega, by omega⟩ with ⟨h1a, h1b, h1e⟩ | ⟨h1a, h1e⟩
  · refine m_st (st2 := [.int (iI 1)]) (by rw [h1e]) ?_
    refine m_if_ne (tgt := 20) C ⟨by decide, by decide⟩ dX12_lose_11 (by decide) (fun _ => ?_) (fun z => absurd z (by omega))
    refine m_aload_n (j := 0) C dX12_lose_20 rfl ?_
    refine m_geta (k := 34) C dX12_lose_21 w6_93 (by decide) rfl ?_
    refine m_iload_n (j := 1) C dX12_lose_24 rfl ?_
    refine m_iconst C dX12_lose_25 ?_
    refine m_ast (k := 34) C dX12_lose_26 rfl rfl (by decide) (by omega) (by show _ < ((_ : Nat) : Int); simp only [mlen]; omega) (by decide) ?_
    refine hv2 (show BX v (up2 a 34 l0.toNat (-1)) from hB.set (k := 34) (i := l0.toNat) (z := (-1)) ⟨by decide, by decide⟩) (fp0.set (k := 34) (i := l0.toNat) (z := (-1)) rfl) (fun bq1 fq1 => ?_)
    refine m_aload_n (j := 0) C dX12_lose_27 rfl ?_
    refine m_iconst C dX12_lose_28 ?_
    refine m_call (mc2 := 0) (ms2 := 0) (As := [.int (iI 1)]) (rest := []) C (B_fine (x := 1) bq1 (by show -2147483648 ≤ (1 : Int) ∧ (1 : Int) ≤ 2147483647; omega)) dX12_lose_29 kV_X12_158 rfl ck_13 rfl (Nat.le_of_ble_eq_true rfl) ⟨Nat.le_of_ble_eq_true rfl, Nat.le_of_ble_eq_true rfl⟩ ⟨Nat.le_of_ble_eq_true rfl, Nat.le_of_ble_eq_true rfl⟩ (fun rh2 vh2 ah2 h2 => ?_)
    obtain ⟨f1, rfl, fn1, bn1, ex1⟩ := h2
    refine hv2 (fq1.call fn1 rfl rfl) (show f1 = (1 : Int) from ex1) (fun fq2 gf1 => ?_)
    refine m_st (st2 := [.int (iI f1)]) rfl ?_
    exact m_iret C dX12_lose_32 rfl (Nat.le_of_ble_eq_true rfl) (Nat.le_of_ble_eq_true rfl) ⟨f1, rfl, fq2, bn1, (LSA.ok (fun j => (hB.2 34 j).2) ⟨by omega, by omega⟩ (by omega) (fn1.1 36 rfl) (fn1.2 34 rfl) (fn1.2 35 rfl))⟩
  · refine m_st (st2 := [.int (iI 0)]) (by rw [h1e]) ?_
    refine m_if_ne (tgt := 20) C ⟨by decide, by decide⟩ dX12_lose_11 (by decide) (fun z => absurd z (by omega)) (fun _ => ?_)
    refine m_aload_n (j := 0) C dX12_lose_14 rfl ?_
    refine m_iconst C dX12_lose_15 ?_
    refine m_call (mc2 := 0) (ms2 := 0) (As := [.int (iI 2)]) (rest := []) C (B_bad (x := 2) hB (by show -2147483648 ≤ (2 : Int) ∧ (2 : Int) ≤ 2147483647; omega)) dX12_lose_16 kV_X12_154 rfl ck_13 rfl (Nat.le_of_ble_eq_true rfl) ⟨Nat.le_of_ble_eq_true rfl, Nat.le_of_ble_eq_true rfl⟩ ⟨Nat.le_of_ble_eq_true rfl, Nat.le_of_ble_eq_true rfl⟩ (fun rh3 vh3 ah3 h3 => ?_)
    obtain ⟨f2, rfl, fn2, bn2, ex2⟩ := h3
    refine hv2 (fp0.call fn2 rfl rfl) (show f2 = -1 from ex2) (fun fq3 gf2 => ?_)
    refine m_st (st2 := [.int (iI f2)]) rfl ?_
    exact m_iret C dX12_lose_19 rfl (Nat.le_of_ble_eq_true rfl) (Nat.le_of_ble_eq_true rfl) ⟨f2, rfl, fq3, bn2, (LSA.bad (by omega) (by omega) ⟨fn2.1 36 rfl, fn2.2 34 rfl, fn2.2 35 rfl⟩)⟩
set_option maxHeartbeats 4000000 in
set_option maxRecDepth 100000 in
theorem N2_cut {l : Launch} {G : GT} {h0 : Nat} {ad ln : Nat → Nat} {v : Nat → Int} {a : Nat → Nat → Int}  {l0 n1 : Int} (hB : BX v a) (hl0 : -2147483648 ≤ l0 ∧ l0 ≤ 2147483647) (hn1 : -2147483648 ≤ n1 ∧ n1 ≤ 2147483647) : Mm l G yX12_cut cX12_cut 4 (some .int) 2 [.int (iI l0), .int (iI n1)] h0 ad ln v a 0 0 (fun r v2 a2 => ∃ f : Int, r = some (.int (iI f)) ∧ fr [0, 1] [34, 35] v a v2 a2 ∧ BX v2 a2 ∧ (CTA v a v2 a2 l0 n1 f)) := by
  refine Mm.mk (by decide) (Nat.le_of_ble_eq_true rfl) ?_
  intro p e s m args below meth c A C
  refine hv2 (show 0 ≤ v 36 ∧ v 36 ≤ 200 from hB.1 36) (show fr [0, 1] [34, 35] v a v a from fr.refl) (fun r36 fp0 => ?_)
  refine m_iload_n (j := 2) C dX12_cut_0 rfl ?_
  refine m_sipush (z := 200) C dX12_cut_1 (by decide) ?_
  refine m_icmp_le (tgt := 14) C ⟨by omega, by omega⟩ ⟨by decide, by decide⟩ dX12_cut_4 (by decide) (fun c1 => ?_) (fun c1 => ?_)
  · refine m_iload_n (j := 2) C dX12_cut_14 rfl ?_
    refine m_if_ge (tgt := 24) C ⟨by omega, by omega⟩ dX12_cut_15 (by decide) (fun c2 => ?_) (fun c2 => ?_)
    · refine m_aload_n (j := 0) C dX12_cut_24 rfl ?_
      refine m_iload_n (j := 1) C dX12_cut_25 rfl ?_
      have rv1 : 0 ≤ v 36 ∧ v 36 ≤ 200 := hB.1 36
      refine m_call (mc2 := 0) (ms2 := 0) (As := [.int (iI l0)]) (rest := []) C (M_lineFault (l0 := l0) hB.rg ⟨by omega, by omega⟩ ⟨hB.1 36, hB.2 34⟩) dX12_cut_26 kV_X12_294 rfl ck_13 rfl (Nat.le_of_ble_eq_true rfl) ⟨Nat.le_of_ble_eq_true rfl, Nat.le_of_ble_eq_true rfl⟩ ⟨Nat.le_of_ble_eq_true rfl, Nat.le_of_ble_eq_true rfl⟩ (fun rh1 vh1 ah1 h1 => ?_)
      obtain ⟨f1, rfl, hf1, rfl, rfl⟩ := h1
      refine hv2 (show (f1 = 2 ∧ ¬ (0 ≤ l0 ∧ l0 < (v 36))) ∨ (f1 = 1 ∧ 0 ≤ l0 ∧ l0 < (v 36) ∧ a 34 l0.toNat < 0) ∨ (f1 = 0 ∧ 0 ≤ l0 ∧ l0 < (v 36) ∧ 0 ≤ a 34 l0.toNat) from hf1) (show (-1) ≤ a 34 l0.toNat ∧ a 34 l0.toNat ≤ 200 from hB.2 34 (l0.toNat)) (fun gf1 ra1 => ?_)
      refine m_st (st2 := [.int (iI f1)]) rfl ?_
      refine m_if_le (tgt := 42) C ⟨by omega, by omega⟩ dX12_cut_29 (by decide) (fun c3 => ?_) (fun c3 => ?_)
      · refine m_aload_n (j := 0) C dX12_cut_42 rfl ?_
        refine m_geta (k := 34) C dX12_cut_43 w6_93 (by decide) rfl ?_
        refine m_iload_n (j := 1) C dX12_cut_46 rfl ?_
        refine m_ald (k := 34) C dX12_cut_47 rfl rfl (by decide) (by omega) (by show _ < ((_ : Nat) : Int); simp only [mlen]; omega) (by decide) ?_
        refine m_istore_n (lv2 := [(3, .int (iI (a 34 l0.toNat))), (0, .ref h0), (1, .int (iI l0)), (2, .int (iI n1))]) C dX12_cut_48 (by decide) rfl ?_
        have Lp1 : ∀ (nn : Nat) (k : Int) (vb1 : Nat → Int) (ab1 : Nat → Nat → Int), 201 - k < (nn : Int) → BX vb1 ab1 → fr [0, 1] [34, 35] v a vb1 ab1 → (0 ≤ k ∧ (k ≤ n1 ∨ k ≤ 200)) → ((k = a 34 l0.toNat ∨ k ≤ n1) ∧ a 34 l0.toNat ≤ k) → (CT1 a ab1 l0 k) → mw p l e (rmq 2 0 0) s m args below meth c G A 4 (MQ below (Qm G A (fun rq Lq Eq => ∃ (vq : Nat → Int) (aq : Nat → Nat → Int), mI G h0 ad ln vq aq Lq Eq ∧ (fun r v2 a2 => ∃ f : Int, r = some (.int (iI f)) ∧ fr [0, 1] [34, 35] v a v2 a2 ∧ BX v2 a2 ∧ (CTA v a v2 a2 l0 n1 f)) rq vq aq)) args s 0 0 A) h0 ad ln vb1 ab1 0 0 49 [(3, .int (iI k)), (0, .ref h0), (1, .int (iI l0)), (2, .int (iI n1))] [] := by
          intro nn
          induction nn with
          | zero =>
            intro k vb1 ab1 hm bxb1 fpb1 hk hk2 hC
            exact absurd hm (by omega)
          | succ nn ih1 =>
            intro k vb1 ab1 hm bxb1 fpb1 hk hk2 hC
            refine m_iload_n (j := 0) C dX12_cut_49 rfl ?_
            refine m_iload_n (j := 3) C dX12_cut_50 rfl ?_
            refine m_icmp_ge (tgt := 73) C ⟨by omega, by omega⟩ ⟨by omega, by omega⟩ dX12_cut_51 (by decide) (fun c4 => ?_) (fun c4 => ?_)
            · refine m_aload_n (j := 1) C dX12_cut_73 rfl ?_
              refine m_geta (k := 34) C dX12_cut_74 w6_93 (by decide) rfl ?_
              refine m_iload_n (j := 2) C dX12_cut_77 rfl ?_
              refine m_iload_n (j := 3) C dX12_cut_78 rfl ?_
              refine m_ast (k := 34) C dX12_cut_79 rfl rfl (by decide) (by omega) (by show _ < ((_ : Nat) : Int); simp only [mlen]; omega) (by decide) ?_
              refine hv2 (show BX vb1 (up2 ab1 34 l0.toNat n1) from bxb1.set (k := 34) (i := l0.toNat) (z := n1) (show (-1) ≤ n1 ∧ n1 ≤ 200 by omega)) (fpb1.set (k := 34) (i := l0.toNat) (z := n1) rfl) (fun bq1 fq1 => ?_)
              refine m_aload_n (j := 1) C dX12_cut_80 rfl ?_
              refine m_iload_n (j := 3) C dX12_cut_81 rfl ?_
              refine m_call (mc2 := 0) (ms2 := 0) (As := [.int (iI n1)]) (rest := []) C (B_fine (x := n1) bq1 (by show -2147483648 ≤ n1 ∧ n1 ≤ 2147483647; omega)) dX12_cut_82 kV_X12_158 rfl ck_13 rfl (Nat.le_of_ble_eq_true rfl) ⟨Nat.le_of_ble_eq_true rfl, Nat.le_of_ble_eq_true rfl⟩ ⟨Nat.le_of_ble_eq_true rfl, Nat.le_of_ble_eq_true rfl⟩ (fun rh2 vh2 ah2 h2 => ?_)
              obtain ⟨f2, rfl, fn1, bn1, ex1⟩ := h2
              refine hv2 (fq1.call fn1 rfl rfl) (show f2 = n1 from ex1) (fun fq2 gf2 => ?_)
              refine m_st (st2 := [.int (iI f2)]) rfl ?_
              exact m_iret C dX12_cut_85 rfl (Nat.le_of_ble_eq_true rfl) (Nat.le_of_ble_eq_true rfl) ⟨f2, rfl, fq2, bn1, (CTA.ok (fun j => (hB.2 34 j).2) ⟨by omega, by omega⟩ ⟨by omega, by omega⟩ (by omega) hC (by omega) (by omega) (fq2.1 36 rfl) (fn1.2 34 rfl) (fn1.2 35 rfl))⟩
            · refine m_aload_n (j := 1) C dX12_cut_54 rfl ?_
              refine m_geta (k := 35) C dX12_cut_55 w6_94 (by decide) rfl ?_
              refine m_sipush (z := 200) C dX12_cut_58 (by decide) ?_
              refine m_iload_n (j := 2) C dX12_cut_61 rfl ?_
              refine m_imul C dX12_cut_62 ?_
              refine m_iload_n (j := 0) C dX12_cut_63 rfl ?_
              refine m_iadd C dX12_cut_64 ?_
              refine m_iconst C dX12_cut_65 ?_
              refine m_ast (k := 35) C dX12_cut_66 rfl rfl (by decide) (by omega) (by show _ < ((_ : Nat) : Int); simp only [mlen]; omega) (by decide) ?_
              refine hv2 (show BX vb1 (up2 ab1 35 ((200 * l0) + k).toNat 0) from bxb1.set (k := 35) (i := ((200 * l0) + k).toNat) (z := 0) ⟨by decide, by decide⟩) (fpb1.set (k := 35) (i := ((200 * l0) + k).toNat) (z := 0) rfl) (fun bq2 fq3 => ?_)
              refine m_iinc (z := k) (j := 0) (lv2 := [(3, .int (iI (k + 1))), (0, .ref h0), (1, .int (iI l0)), (2, .int (iI n1))]) C dX12_cut_67 rfl (by decide) rfl ?_
              refine m_goto (tgt := 49) C dX12_cut_70 (by decide) ?_
              refine m_lv (lv2 := [(3, .int (iI (k + 1))), (0, .ref h0), (1, .int (iI l0)), (2, .int (iI n1))]) [0, 1, 2, 3] rfl ?_
              exact ih1  (k + 1) _ _ (by omega) bq2 fq3 (by omega) (by omega) (CT1.step hC ⟨by omega, by omega⟩ rfl)
        refine m_lv (lv2 := [(3, .int (iI (a 34 l0.toNat))), (0, .ref h0), (1, .int (iI l0)), (2, .int (iI n1))]) [0, 1, 2, 3] rfl ?_
        exact Lp1 202 (a 34 l0.toNat) _ _ (by omega) hB fp0 (by omega) (by omega) (CT1.zero rfl)
      · refine m_aload_n (j := 0) C dX12_cut_32 rfl ?_
        refine m_aload_n (j := 0) C dX12_cut_33 rfl ?_
        refine m_iload_n (j := 1) C dX12_cut_34 rfl ?_
        refine m_call (mc2 := 0) (ms2 := 0) (As := [.int (iI l0)]) (rest := [.ref h0]) C (M_lineFault (l0 := l0) hB.rg ⟨by omega, by omega⟩ ⟨hB.1 36, hB.2 34⟩) dX12_cut_35 kV_X12_294 rfl ck_13 rfl (Nat.le_of_ble_eq_true rfl) ⟨Nat.le_of_ble_eq_true rfl, Nat.le_of_ble_eq_true rfl⟩ ⟨Nat.le_of_ble_eq_true rfl, Nat.le_of_ble_eq_true rfl⟩ (fun rh3 vh3 ah3 h3 => ?_)
        obtain ⟨f3, rfl, hf3, rfl, rfl⟩ := h3
        have gf3 : (f3 = 2 ∧ ¬ (0 ≤ l0 ∧ l0 < (v 36))) ∨ (f3 = 1 ∧ 0 ≤ l0 ∧ l0 < (v 36) ∧ a 34 l0.toNat < 0) ∨ (f3 = 0 ∧ 0 ≤ l0 ∧ l0 < (v 36) ∧ 0 ≤ a 34 l0.toNat) := hf3
        refine m_st (st2 := [.int (iI f3), .ref h0]) rfl ?_
        refine m_call (mc2 := 0) (ms2 := 0) (As := [.int (iI f3)]) (rest := []) C (B_bad (x := f3) hB (by show -2147483648 ≤ f3 ∧ f3 ≤ 2147483647; omega)) dX12_cut_38 kV_X12_154 rfl ck_13 rfl (Nat.le_of_ble_eq_true rfl) ⟨Nat.le_of_ble_eq_true rfl, Nat.le_of_ble_eq_true rfl⟩ ⟨Nat.le_of_ble_eq_true rfl, Nat.le_of_ble_eq_true rfl⟩ (fun rh4 vh4 ah4 h4 => ?_)
        obtain ⟨f4, rfl, fn2, bn2, ex2⟩ := h4
        refine hv2 (fp0.call fn2 rfl rfl) (show f4 = -1 from ex2) (fun fq4 gf4 => ?_)
        refine m_st (st2 := [.int (iI f4)]) rfl ?_
        exact m_iret C dX12_cut_41 rfl (Nat.le_of_ble_eq_true rfl) (Nat.le_of_ble_eq_true rfl) ⟨f4, rfl, fq4, bn2, (CTA.bad (by omega) (by omega) ⟨fn2.1 36 rfl, fn2.2 34 rfl, fn2.2 35 rfl⟩)⟩
    · refine m_aload_n (j := 0) C dX12_cut_18 rfl ?_
      refine m_iconst C dX12_cut_19 ?_
      refine m_call (mc2 := 0) (ms2 := 0) (As := [.int (iI 5)]) (rest := []) C (B_bad (x := 5) hB (by show -2147483648 ≤ (5 : Int) ∧ (5 : Int) ≤ 2147483647; omega)) dX12_cut_20 kV_X12_154 rfl ck_13 rfl (Nat.le_of_ble_eq_true rfl) ⟨Nat.le_of_ble_eq_true rfl, Nat.le_of_ble_eq_true rfl⟩ ⟨Nat.le_of_ble_eq_true rfl, Nat.le_of_ble_eq_true rfl⟩ (fun rh5 vh5 ah5 h5 => ?_)
      obtain ⟨f5, rfl, fn3, bn3, ex3⟩ := h5
      refine hv2 (fp0.call fn3 rfl rfl) (show f5 = -1 from ex3) (fun fq5 gf5 => ?_)
      refine m_st (st2 := [.int (iI f5)]) rfl ?_
      exact m_iret C dX12_cut_23 rfl (Nat.le_of_ble_eq_true rfl) (Nat.le_of_ble_eq_true rfl) ⟨f5, rfl, fq5, bn3, (CTA.bad (by omega) (by omega) ⟨fn3.1 36 rfl, fn3.2 34 rfl, fn3.2 35 rfl⟩)⟩
  · refine m_aload_n (j := 0) C dX12_cut_7 rfl ?_
    refine m_bipush (z := 6) C dX12_cut_8 (by decide) ?_
    refine m_call (mc2 := 0) (ms2 := 0) (As := [.int (iI 6)]) (rest := []) C (B_bad (x := 6) hB (by show -2147483648 ≤ (6 : Int) ∧ (6 : Int) ≤ 2147483647; omega)) dX12_cut_10 kV_X12_154 rfl ck_13 rfl (Nat.le_of_ble_eq_true rfl) ⟨Nat.le_of_ble_eq_true rfl, Nat.le_of_ble_eq_true rfl⟩ ⟨Nat.le_of_ble_eq_true rfl, Nat.le_of_ble_eq_true rfl⟩ (fun rh6 vh6 ah6 h6 => ?_)
    obtain ⟨f6, rfl, fn4, bn4, ex4⟩ := h6
    refine hv2 (fp0.call fn4 rfl rfl) (show f6 = -1 from ex4) (fun fq6 gf6 => ?_)
    refine m_st (st2 := [.int (iI f6)]) rfl ?_
    exact m_iret C dX12_cut_13 rfl (Nat.le_of_ble_eq_true rfl) (Nat.le_of_ble_eq_true rfl) ⟨f6, rfl, fq6, bn4, (CTA.bad (by omega) (by omega) ⟨fn4.1 36 rfl, fn4.2 34 rfl, fn4.2 35 rfl⟩)⟩
set_option maxHeartbeats 4000000 in
set_option maxRecDepth 100000 in
theorem N2_copyRow {l : Launch} {G : GT} {h0 : Nat} {ad ln : Nat → Nat} {v : Nat → Int} {a : Nat → Nat → Int}  {q w1 u x n1 : Int} (hB : BX v a) (hq : -2147483648 ≤ q ∧ q ≤ 2147483647) (hw1 : -2147483648 ≤ w1 ∧ w1 ≤ 2147483647) (hu : -2147483648 ≤ u ∧ u ≤ 2147483647) (hx : -2147483648 ≤ x ∧ x ≤ 2147483647) (hn1 : -2147483648 ≤ n1 ∧ n1 ≤ 2147483647) : Mm l G yX12_copyRow cX12_copyRow 11 (some .int) 1 [.int (iI q), .int (iI w1), .int (iI u), .int (iI x), .int (iI n1)] h0 ad ln v a 0 0 (fun r v2 a2 => ∃ f : Int, r = some (.int (iI f)) ∧ fr [0, 1] [35] v a v2 a2 ∧ BX v2 a2 ∧ (CRA v a v2 a2 q w1 u x n1 f)) := by
  refine Mm.mk (by decide) (Nat.le_of_ble_eq_true rfl) ?_
  intro p e s m args below meth c A C
  refine hv2 (show 0 ≤ v 36 ∧ v 36 ≤ 200 from hB.1 36) (show fr [0, 1] [35] v a v a from fr.refl) (fun r36 fp0 => ?_)
  refine m_iload_n (j := 1) C dX12_copyRow_0 rfl ?_
  refine m_iconst C dX12_copyRow_1 ?_
  refine m_aload_n (j := 0) C dX12_copyRow_2 rfl ?_
  have rv1 : 0 ≤ v 36 ∧ v 36 ≤ 200 := hB.1 36
  refine m_get (k := 36) C dX12_copyRow_3 w6_95 (by decide) rfl ?_
  refine m_iconst C dX12_copyRow_6 ?_
  refine m_isub C dX12_copyRow_7 ?_
  refine m_callS (As := [.int (iI q), .int (iI 0), .int (iI ((v 36) - 1))]) (rest := []) C (fun L E => s_isIn (iI q) (iI 0) (iI ((v 36) - 1))) dX12_copyRow_8 kS_X12_174 rfl rfl (Nat.le_of_ble_eq_true rfl) ⟨Nat.le_of_ble_eq_true rfl, Nat.le_of_ble_eq_true rfl⟩ ⟨Nat.le_of_ble_eq_true rfl, Nat.le_of_ble_eq_true rfl⟩ ?_
  rcases inn_c (x := q) (lo := 0) (hi := (v 36) - 1) ⟨by omega, by omega⟩ ⟨by decide, by decide⟩ ⟨by omega, by omega⟩ with ⟨h1a, h1b, h1e⟩ | ⟨h1a, h1e⟩
  · refine m_st (st2 := [.int (iI 1)]) (by rw [h1e]) ?_
    refine m_if_eq (tgt := 28) C ⟨by decide, by decide⟩ dX12_copyRow_11 (by decide) (fun z => absurd z (by omega)) (fun _ => ?_)
    refine m_iload_n (j := 3) C dX12_copyRow_14 rfl ?_
    refine m_iconst C dX12_copyRow_15 ?_
    refine m_aload_n (j := 0) C dX12_copyRow_16 rfl ?_
    refine m_get (k := 36) C dX12_copyRow_17 w6_95 (by decide) rfl ?_
    refine m_iconst C dX12_copyRow_20 ?_
    refine m_isub C dX12_copyRow_21 ?_
    refine m_callS (As := [.int (iI u), .int (iI 0), .int (iI ((v 36) - 1))]) (rest := []) C (fun L E => s_isIn (iI u) (iI 0) (iI ((v 36) - 1))) dX12_copyRow_22 kS_X12_174 rfl rfl (Nat.le_of_ble_eq_true rfl) ⟨Nat.le_of_ble_eq_true rfl, Nat.le_of_ble_eq_true rfl⟩ ⟨Nat.le_of_ble_eq_true rfl, Nat.le_of_ble_eq_true rfl⟩ ?_
    rcases inn_c (x := u) (lo := 0) (hi := (v 36) - 1) ⟨by omega, by omega⟩ ⟨by decide, by decide⟩ ⟨by omega, by omega⟩ with ⟨h2a, h2b, h2e⟩ | ⟨h2a, h2e⟩
    · refine m_st (st2 := [.int (iI 1)]) (by rw [h2e]) ?_
      refine m_if_ne (tgt := 34) C ⟨by decide, by decide⟩ dX12_copyRow_25 (by decide) (fun _ => ?_) (fun z => absurd z (by omega))
      refine m_aload_n (j := 0) C dX12_copyRow_34 rfl ?_
      refine m_geta (k := 34) C dX12_copyRow_35 w6_93 (by decide) rfl ?_
      refine m_iload_n (j := 1) C dX12_copyRow_38 rfl ?_
      refine m_ald (k := 34) C dX12_copyRow_39 rfl rfl (by decide) (by omega) (by show _ < ((_ : Nat) : Int); simp only [mlen]; omega) (by decide) ?_
      have ra1 : (-1) ≤ a 34 q.toNat ∧ a 34 q.toNat ≤ 200 := hB.2 34 (q.toNat)
      refine m_if_lt (tgt := 52) C (r32_c (lo := (-1)) (hi := 200) ra1.1 ra1.2 (by decide) (by decide)) dX12_copyRow_40 (by decide) (fun c1 => ?_) (fun c1 => ?_)
      · refine m_aload_n (j := 0) C dX12_copyRow_52 rfl ?_
        refine m_iconst C dX12_copyRow_53 ?_
        refine m_call (mc2 := 0) (ms2 := 0) (As := [.int (iI 1)]) (rest := []) C (B_bad (x := 1) hB (by show -2147483648 ≤ (1 : Int) ∧ (1 : Int) ≤ 2147483647; omega)) dX12_copyRow_54 kV_X12_154 rfl ck_13 rfl (Nat.le_of_ble_eq_true rfl) ⟨Nat.le_of_ble_eq_true rfl, Nat.le_of_ble_eq_true rfl⟩ ⟨Nat.le_of_ble_eq_true rfl, Nat.le_of_ble_eq_true rfl⟩ (fun rh3 vh3 ah3 h3 => ?_)
        obtain ⟨f1, rfl, fn1, bn1, ex1⟩ := h3
        refine hv2 (fp0.call fn1 rfl rfl) (show f1 = -1 from ex1) (fun fq1 gf1 => ?_)
        refine m_st (st2 := [.int (iI f1)]) rfl ?_
        exact m_iret C dX12_copyRow_57 rfl (Nat.le_of_ble_eq_true rfl) (Nat.le_of_ble_eq_true rfl) ⟨f1, rfl, fq1, bn1, (CRA.bad (by omega) ⟨fn1.1 36 rfl, fn1.2 34 rfl, fn1.2 35 rfl⟩ (by omega))⟩
      · refine m_aload_n (j := 0) C dX12_copyRow_43 rfl ?_
        refine m_geta (k := 34) C dX12_copyRow_44 w6_93 (by decide) rfl ?_
        refine m_iload_n (j := 3) C dX12_copyRow_47 rfl ?_
        refine m_ald (k := 34) C dX12_copyRow_48 rfl rfl (by decide) (by omega) (by show _ < ((_ : Nat) : Int); simp only [mlen]; omega) (by decide) ?_
        have ra2 : (-1) ≤ a 34 u.toNat ∧ a 34 u.toNat ≤ 200 := hB.2 34 (u.toNat)
        refine m_if_ge (tgt := 58) C (r32_c (lo := (-1)) (hi := 200) ra2.1 ra2.2 (by decide) (by decide)) dX12_copyRow_49 (by decide) (fun c2 => ?_) (fun c2 => ?_)
        · refine m_iload (j := 5) C dX12_copyRow_58 rfl ?_
          refine m_if_lt (tgt := 99) C ⟨by omega, by omega⟩ dX12_copyRow_60 (by decide) (fun c3 => ?_) (fun c3 => ?_)
          · refine m_aload_n (j := 0) C dX12_copyRow_99 rfl ?_
            refine m_iconst C dX12_copyRow_100 ?_
            refine m_call (mc2 := 0) (ms2 := 0) (As := [.int (iI 2)]) (rest := []) C (B_bad (x := 2) hB (by show -2147483648 ≤ (2 : Int) ∧ (2 : Int) ≤ 2147483647; omega)) dX12_copyRow_101 kV_X12_154 rfl ck_13 rfl (Nat.le_of_ble_eq_true rfl) ⟨Nat.le_of_ble_eq_true rfl, Nat.le_of_ble_eq_true rfl⟩ ⟨Nat.le_of_ble_eq_true rfl, Nat.le_of_ble_eq_true rfl⟩ (fun rh4 vh4 ah4 h4 => ?_)
            obtain ⟨f2, rfl, fn2, bn2, ex2⟩ := h4
            refine hv2 (fp0.call fn2 rfl rfl) (show f2 = -1 from ex2) (fun fq2 gf2 => ?_)
            refine m_st (st2 := [.int (iI f2)]) rfl ?_
            exact m_iret C dX12_copyRow_104 rfl (Nat.le_of_ble_eq_true rfl) (Nat.le_of_ble_eq_true rfl) ⟨f2, rfl, fq2, bn2, (CRA.bad (by omega) ⟨fn2.1 36 rfl, fn2.2 34 rfl, fn2.2 35 rfl⟩ (by omega))⟩
          · refine m_iload_n (j := 2) C dX12_copyRow_63 rfl ?_
            refine m_if_lt (tgt := 99) C ⟨by omega, by omega⟩ dX12_copyRow_64 (by decide) (fun c4 => ?_) (fun c4 => ?_)
            · refine m_aload_n (j := 0) C dX12_copyRow_99 rfl ?_
              refine m_iconst C dX12_copyRow_100 ?_
              refine m_call (mc2 := 0) (ms2 := 0) (As := [.int (iI 2)]) (rest := []) C (B_bad (x := 2) hB (by show -2147483648 ≤ (2 : Int) ∧ (2 : Int) ≤ 2147483647; omega)) dX12_copyRow_101 kV_X12_154 rfl ck_13 rfl (Nat.le_of_ble_eq_true rfl) ⟨Nat.le_of_ble_eq_true rfl, Nat.le_of_ble_eq_true rfl⟩ ⟨Nat.le_of_ble_eq_true rfl, Nat.le_of_ble_eq_true rfl⟩ (fun rh5 vh5 ah5 h5 => ?_)
              obtain ⟨f3, rfl, fn3, bn3, ex3⟩ := h5
              refine hv2 (fp0.call fn3 rfl rfl) (show f3 = -1 from ex3) (fun fq3 gf3 => ?_)
              refine m_st (st2 := [.int (iI f3)]) rfl ?_
              exact m_iret C dX12_copyRow_104 rfl (Nat.le_of_ble_eq_true rfl) (Nat.le_of_ble_eq_true rfl) ⟨f3, rfl, fq3, bn3, (CRA.bad (by omega) ⟨fn3.1 36 rfl, fn3.2 34 rfl, fn3.2 35 rfl⟩ (by omega))⟩
            · refine m_iload (j := 4) C dX12_copyRow_67 rfl ?_
              refine m_if_lt (tgt := 99) C ⟨by omega, by omega⟩ dX12_copyRow_69 (by decide) (fun c5 => ?_) (fun c5 => ?_)
              · refine m_aload_n (j := 0) C dX12_copyRow_99 rfl ?_
                refine m_iconst C dX12_copyRow_100 ?_
                refine m_call (mc2 := 0) (ms2 := 0) (As := [.int (iI 2)]) (rest := []) C (B_bad (x := 2) hB (by show -2147483648 ≤ (2 : Int) ∧ (2 : Int) ≤ 2147483647; omega)) dX12_copyRow_101 kV_X12_154 rfl ck_13 rfl (Nat.le_of_ble_eq_true rfl) ⟨Nat.le_of_ble_eq_true rfl, Nat.le_of_ble_eq_true rfl⟩ ⟨Nat.le_of_ble_eq_true rfl, Nat.le_of_ble_eq_true rfl⟩ (fun rh6 vh6 ah6 h6 => ?_)
                obtain ⟨f4, rfl, fn4, bn4, ex4⟩ := h6
                refine hv2 (fp0.call fn4 rfl rfl) (show f4 = -1 from ex4) (fun fq4 gf4 => ?_)
                refine m_st (st2 := [.int (iI f4)]) rfl ?_
                exact m_iret C dX12_copyRow_104 rfl (Nat.le_of_ble_eq_true rfl) (Nat.le_of_ble_eq_true rfl) ⟨f4, rfl, fq4, bn4, (CRA.bad (by omega) ⟨fn4.1 36 rfl, fn4.2 34 rfl, fn4.2 35 rfl⟩ (by omega))⟩
              · refine m_iload (j := 5) C dX12_copyRow_72 rfl ?_
                refine m_aload_n (j := 0) C dX12_copyRow_74 rfl ?_
                refine m_geta (k := 34) C dX12_copyRow_75 w6_93 (by decide) rfl ?_
                refine m_iload_n (j := 1) C dX12_copyRow_78 rfl ?_
                refine m_ald (k := 34) C dX12_copyRow_79 rfl rfl (by decide) (by omega) (by show _ < ((_ : Nat) : Int); simp only [mlen]; omega) (by decide) ?_
                refine m_iload_n (j := 2) C dX12_copyRow_80 rfl ?_
                refine m_isub C dX12_copyRow_81 ?_
                refine m_icmp_gt (tgt := 99) C ⟨by omega, by omega⟩ ⟨by omega, by omega⟩ dX12_copyRow_82 (by decide) (fun c6 => ?_) (fun c6 => ?_)
                · refine m_aload_n (j := 0) C dX12_copyRow_99 rfl ?_
                  refine m_iconst C dX12_copyRow_100 ?_
                  refine m_call (mc2 := 0) (ms2 := 0) (As := [.int (iI 2)]) (rest := []) C (B_bad (x := 2) hB (by show -2147483648 ≤ (2 : Int) ∧ (2 : Int) ≤ 2147483647; omega)) dX12_copyRow_101 kV_X12_154 rfl ck_13 rfl (Nat.le_of_ble_eq_true rfl) ⟨Nat.le_of_ble_eq_true rfl, Nat.le_of_ble_eq_true rfl⟩ ⟨Nat.le_of_ble_eq_true rfl, Nat.le_of_ble_eq_true rfl⟩ (fun rh7 vh7 ah7 h7 => ?_)
                  obtain ⟨f5, rfl, fn5, bn5, ex5⟩ := h7
                  refine hv2 (fp0.call fn5 rfl rfl) (show f5 = -1 from ex5) (fun fq5 gf5 => ?_)
                  refine m_st (st2 := [.int (iI f5)]) rfl ?_
                  exact m_iret C dX12_copyRow_104 rfl (Nat.le_of_ble_eq_true rfl) (Nat.le_of_ble_eq_true rfl) ⟨f5, rfl, fq5, bn5, (CRA.bad (by omega) ⟨fn5.1 36 rfl, fn5.2 34 rfl, fn5.2 35 rfl⟩ (by omega))⟩
                · refine m_iload (j := 5) C dX12_copyRow_85 rfl ?_
                  refine m_aload_n (j := 0) C dX12_copyRow_87 rfl ?_
                  refine m_geta (k := 34) C dX12_copyRow_88 w6_93 (by decide) rfl ?_
                  refine m_iload_n (j := 3) C dX12_copyRow_91 rfl ?_
                  refine m_ald (k := 34) C dX12_copyRow_92 rfl rfl (by decide) (by omega) (by show _ < ((_ : Nat) : Int); simp only [mlen]; omega) (by decide) ?_
                  refine m_iload (j := 4) C dX12_copyRow_93 rfl ?_
                  refine m_isub C dX12_copyRow_95 ?_
                  refine m_icmp_le (tgt := 105) C ⟨by omega, by omega⟩ ⟨by omega, by omega⟩ dX12_copyRow_96 (by decide) (fun c7 => ?_) (fun c7 => ?_)
                  · refine m_sipush (z := 200) C dX12_copyRow_105 (by decide) ?_
                    refine m_iload_n (j := 1) C dX12_copyRow_108 rfl ?_
                    refine m_imul C dX12_copyRow_109 ?_
                    refine m_iload_n (j := 2) C dX12_copyRow_110 rfl ?_
                    refine m_iadd C dX12_copyRow_111 ?_
                    refine m_istore (lv2 := [(6, .int (iI ((200 * q) + w1))), (0, .ref h0), (1, .int (iI q)), (2, .int (iI w1)), (3, .int (iI u)), (4, .int (iI x)), (5, .int (iI n1))]) C dX12_copyRow_112 (by decide) rfl ?_
                    refine m_sipush (z := 200) C dX12_copyRow_114 (by decide) ?_
                    refine m_iload_n (j := 4) C dX12_copyRow_117 rfl ?_
                    refine m_imul C dX12_copyRow_118 ?_
                    refine m_iload (j := 5) C dX12_copyRow_119 rfl ?_
                    refine m_iadd C dX12_copyRow_121 ?_
                    refine m_istore (lv2 := [(7, .int (iI ((200 * u) + x))), (6, .int (iI ((200 * q) + w1))), (0, .ref h0), (1, .int (iI q)), (2, .int (iI w1)), (3, .int (iI u)), (4, .int (iI x)), (5, .int (iI n1))]) C dX12_copyRow_122 (by decide) rfl ?_
                    refine m_iload_n (j := 3) C dX12_copyRow_124 rfl ?_
                    refine m_iload_n (j := 5) C dX12_copyRow_125 rfl ?_
                    have J1 : ∀ (g : Int) (vb1 : Nat → Int) (ab1 : Nat → Nat → Int), BX vb1 ab1 → fr [0, 1] [35] v a vb1 ab1 → (g = 0 ∨ g = 1) → ((g = 1 ∧ q = u ∧ w1 < x) ∨ (g = 0 ∧ (q ≠ u ∨ x ≤ w1))) → (ab1 34 = a 34 ∧ ab1 35 = a 35) → mw p l e (rmq 1 0 0) s m args below meth c G A 11 (MQ below (Qm G A (fun rq Lq Eq => ∃ (vq : Nat → Int) (aq : Nat → Nat → Int), mI G h0 ad ln vq aq Lq Eq ∧ (fun r v2 a2 => ∃ f : Int, r = some (.int (iI f)) ∧ fr [0, 1] [35] v a v2 a2 ∧ BX v2 a2 ∧ (CRA v a v2 a2 q w1 u x n1 f)) rq vq aq)) args s 0 0 A) h0 ad ln vb1 ab1 0 0 140 [(7, .int (iI ((200 * u) + x))), (6, .int (iI ((200 * q) + w1))), (0, .ref h0), (1, .int (iI q)), (2, .int (iI w1)), (3, .int (iI u)), (4, .int (iI x)), (5, .int (iI n1))] [.int (iI g)] := by
                      intro g vb1 ab1 bxb1 fpb1 hg hg2 hKK
                      refine m_istore (lv2 := [(8, .int (iI g)), (7, .int (iI ((200 * u) + x))), (6, .int (iI ((200 * q) + w1))), (0, .ref h0), (1, .int (iI q)), (2, .int (iI w1)), (3, .int (iI u)), (4, .int (iI x)), (5, .int (iI n1))]) C dX12_copyRow_140 (by decide) rfl ?_
                      refine m_iconst C dX12_copyRow_142 ?_
                      refine m_istore (lv2 := [(9, .int (iI 0)), (8, .int (iI g)), (7, .int (iI ((200 * u) + x))), (6, .int (iI ((200 * q) + w1))), (0, .ref h0), (1, .int (iI q)), (2, .int (iI w1)), (3, .int (iI u)), (4, .int (iI x)), (5, .int (iI n1))]) C dX12_copyRow_143 (by decide) rfl ?_
                      have Lp1 : ∀ (nn : Nat) (i1 : Int) (vb2 : Nat → Int) (ab2 : Nat → Nat → Int), 201 - i1 < (nn : Int) → BX vb2 ab2 → fr [0, 1] [35] v a vb2 ab2 → (0 ≤ i1 ∧ i1 ≤ n1) → ((g = 1 ∧ q = u ∧ w1 < x) ∨ (g = 0 ∧ (q ≠ u ∨ x ≤ w1))) → (CR1 a ab2 (200 * q + w1) (200 * u + x) n1 g i1) → mw p l e (rmq 1 0 0) s m args below meth c G A 11 (MQ below (Qm G A (fun rq Lq Eq => ∃ (vq : Nat → Int) (aq : Nat → Nat → Int), mI G h0 ad ln vq aq Lq Eq ∧ (fun r v2 a2 => ∃ f : Int, r = some (.int (iI f)) ∧ fr [0, 1] [35] v a v2 a2 ∧ BX v2 a2 ∧ (CRA v a v2 a2 q w1 u x n1 f)) rq vq aq)) args s 0 0 A) h0 ad ln vb2 ab2 0 0 145 [(9, .int (iI i1)), (8, .int (iI g)), (7, .int (iI ((200 * u) + x))), (6, .int (iI ((200 * q) + w1))), (0, .ref h0), (1, .int (iI q)), (2, .int (iI w1)), (3, .int (iI u)), (4, .int (iI x)), (5, .int (iI n1))] [] := by
                        intro nn
                        induction nn with
                        | zero =>
                          intro i1 vb2 ab2 hm bxb2 fpb2 hi hg3 hC
                          exact absurd hm (by omega)
                        | succ nn ih1 =>
                          intro i1 vb2 ab2 hm bxb2 fpb2 hi hg3 hC
                          refine m_iload (j := 0) C dX12_copyRow_145 rfl ?_
                          refine m_iload (j := 9) C dX12_copyRow_147 rfl ?_
                          refine m_icmp_ge (tgt := 197) C ⟨by omega, by omega⟩ ⟨by omega, by omega⟩ dX12_copyRow_149 (by decide) (fun c8 => ?_) (fun c8 => ?_)
                          · refine m_aload_n (j := 4) C dX12_copyRow_197 rfl ?_
                            refine m_iload (j := 9) C dX12_copyRow_198 rfl ?_
                            refine m_call (mc2 := 0) (ms2 := 0) (As := [.int (iI n1)]) (rest := []) C (B_fine (x := n1) bxb2 (by show -2147483648 ≤ n1 ∧ n1 ≤ 2147483647; omega)) dX12_copyRow_200 kV_X12_158 rfl ck_13 rfl (Nat.le_of_ble_eq_true rfl) ⟨Nat.le_of_ble_eq_true rfl, Nat.le_of_ble_eq_true rfl⟩ ⟨Nat.le_of_ble_eq_true rfl, Nat.le_of_ble_eq_true rfl⟩ (fun rh8 vh8 ah8 h8 => ?_)
                            obtain ⟨f6, rfl, fn6, bn6, ex6⟩ := h8
                            refine hv2 (fpb2.call fn6 rfl rfl) (show f6 = n1 from ex6) (fun fq6 gf6 => ?_)
                            refine m_st (st2 := [.int (iI f6)]) rfl ?_
                            exact m_iret C dX12_copyRow_203 rfl (Nat.le_of_ble_eq_true rfl) (Nat.le_of_ble_eq_true rfl) ⟨f6, rfl, fq6, bn6, (CRA.ok (fun j => (hB.2 34 j).2) ⟨⟨by omega, by omega⟩, by omega⟩ ⟨⟨by omega, by omega⟩, by omega⟩ (by omega) (by omega) (by omega) (by omega) (by omega) hC (by omega) (by omega) (fq6.1 36 rfl) (fn6.2 34 rfl) (fn6.2 35 rfl))⟩
                          · refine m_iload (j := 1) C dX12_copyRow_152 rfl ?_
                            have J2 : ∀ (k : Int) (vb3 : Nat → Int) (ab3 : Nat → Nat → Int), BX vb3 ab3 → fr [0, 1] [35] v a vb3 ab3 → (0 ≤ k ∧ k < n1) → ((g = 0 ∧ k = i1) ∨ (g = 1 ∧ k = n1 - 1 - i1)) → (CR1 a ab3 (200 * q + w1) (200 * u + x) n1 g i1) → mw p l e (rmq 1 0 0) s m args below meth c G A 11 (MQ below (Qm G A (fun rq Lq Eq => ∃ (vq : Nat → Int) (aq : Nat → Nat → Int), mI G h0 ad ln vq aq Lq Eq ∧ (fun r v2 a2 => ∃ f : Int, r = some (.int (iI f)) ∧ fr [0, 1] [35] v a v2 a2 ∧ BX v2 a2 ∧ (CRA v a v2 a2 q w1 u x n1 f)) rq vq aq)) args s 0 0 A) h0 ad ln vb3 ab3 0 0 169 [(9, .int (iI i1)), (8, .int (iI g)), (7, .int (iI ((200 * u) + x))), (6, .int (iI ((200 * q) + w1))), (0, .ref h0), (1, .int (iI q)), (2, .int (iI w1)), (3, .int (iI u)), (4, .int (iI x)), (5, .int (iI n1))] [.int (iI k)] := by
                              intro k vb3 ab3 bxb3 fpb3 hk hkg hC2
                              refine m_istore (lv2 := [(10, .int (iI k)), (9, .int (iI i1)), (8, .int (iI g)), (7, .int (iI ((200 * u) + x))), (6, .int (iI ((200 * q) + w1))), (0, .ref h0), (1, .int (iI q)), (2, .int (iI w1)), (3, .int (iI u)), (4, .int (iI x)), (5, .int (iI n1))]) C dX12_copyRow_169 (by decide) rfl ?_
                              refine m_aload_n (j := 5) C dX12_copyRow_171 rfl ?_
                              refine m_geta (k := 35) C dX12_copyRow_172 w6_94 (by decide) rfl ?_
                              refine m_iload (j := 3) C dX12_copyRow_175 rfl ?_
                              refine m_iload (j := 0) C dX12_copyRow_177 rfl ?_
                              refine m_iadd C dX12_copyRow_179 ?_
                              refine m_aload_n (j := 5) C dX12_copyRow_180 rfl ?_
                              refine m_geta (k := 35) C dX12_copyRow_181 w6_94 (by decide) rfl ?_
                              refine m_iload (j := 4) C dX12_copyRow_184 rfl ?_
                              refine m_iload (j := 0) C dX12_copyRow_186 rfl ?_
                              refine m_iadd C dX12_copyRow_188 ?_
                              refine m_ald (k := 35) C dX12_copyRow_189 rfl rfl (by decide) (by omega) (by show _ < ((_ : Nat) : Int); simp only [mlen]; omega) (by decide) ?_
                              have ra3 : (-2147483648) ≤ ab3 35 (((200 * q) + w1) + k).toNat ∧ ab3 35 (((200 * q) + w1) + k).toNat ≤ 2147483647 := bxb3.2 35 ((((200 * q) + w1) + k).toNat)
                              refine m_ast (k := 35) C dX12_copyRow_190 rfl rfl (by decide) (by omega) (by show _ < ((_ : Nat) : Int); simp only [mlen]; omega) (by decide) ?_
                              refine hv2 (show BX vb3 (up2 ab3 35 (((200 * u) + x) + k).toNat (ab3 35 (((200 * q) + w1) + k).toNat)) from bxb3.set (k := 35) (i := (((200 * u) + x) + k).toNat) (z := ab3 35 (((200 * q) + w1) + k).toNat) (show (-2147483648) ≤ (ab3 35 (((200 * q) + w1) + k).toNat) ∧ (ab3 35 (((200 * q) + w1) + k).toNat) ≤ 2147483647 by omega)) (fpb3.set (k := 35) (i := (((200 * u) + x) + k).toNat) (z := ab3 35 (((200 * q) + w1) + k).toNat) rfl) (fun bq1 fq7 => ?_)
                              refine m_iinc (z := i1) (j := 1) (lv2 := [(9, .int (iI (i1 + 1))), (10, .int (iI k)), (8, .int (iI g)), (7, .int (iI ((200 * u) + x))), (6, .int (iI ((200 * q) + w1))), (0, .ref h0), (1, .int (iI q)), (2, .int (iI w1)), (3, .int (iI u)), (4, .int (iI x)), (5, .int (iI n1))]) C dX12_copyRow_191 rfl (by decide) rfl ?_
                              refine m_goto (tgt := 145) C dX12_copyRow_194 (by decide) ?_
                              refine m_lv (lv2 := [(9, .int (iI (i1 + 1))), (8, .int (iI g)), (7, .int (iI ((200 * u) + x))), (6, .int (iI ((200 * q) + w1))), (0, .ref h0), (1, .int (iI q)), (2, .int (iI w1)), (3, .int (iI u)), (4, .int (iI x)), (5, .int (iI n1))]) [0, 2, 3, 4, 5, 6, 7, 8, 9, 10] rfl ?_
                              exact ih1  (i1 + 1) _ _ (by omega) bq1 fq7 (by omega) (by omega) (CR1.step hC2 (by omega) ⟨by omega, by omega⟩ ⟨by omega, by omega⟩ (by omega) rfl rfl)
                            refine m_if_eq (tgt := 167) C (r32_01 hg) dX12_copyRow_154 (by decide) (fun c9 => ?_) (fun c9 => ?_)
                            · clear hg
                              replace hg2 := (hg2.resolve_left (fun q => absurd (q.1.symm.trans c9) (by decide)))
                              refine m_iload (j := 0) C dX12_copyRow_167 rfl ?_
                              refine m_lv (lv2 := [(9, .int (iI i1)), (8, .int (iI g)), (7, .int (iI ((200 * u) + x))), (6, .int (iI ((200 * q) + w1))), (0, .ref h0), (1, .int (iI q)), (2, .int (iI w1)), (3, .int (iI u)), (4, .int (iI x)), (5, .int (iI n1))]) [0, 1, 2, 3, 4, 5, 6, 7, 8, 9] rfl ?_
                              exact J2  i1 _ _  bxb2 fpb2 (by omega) (by omega) hC
                            · replace hg := (hg.resolve_left c9)
                              replace hg2 := (hg2.resolve_right (fun q => c9 q.1))
                              refine m_iload (j := 9) C dX12_copyRow_157 rfl ?_
                              refine m_iconst C dX12_copyRow_159 ?_
                              refine m_isub C dX12_copyRow_160 ?_
                              refine m_iload (j := 0) C dX12_copyRow_161 rfl ?_
                              refine m_isub C dX12_copyRow_163 ?_
                              refine m_goto (tgt := 169) C dX12_copyRow_164 (by decide) ?_
                              refine m_lv (lv2 := [(9, .int (iI i1)), (8, .int (iI g)), (7, .int (iI ((200 * u) + x))), (6, .int (iI ((200 * q) + w1))), (0, .ref h0), (1, .int (iI q)), (2, .int (iI w1)), (3, .int (iI u)), (4, .int (iI x)), (5, .int (iI n1))]) [0, 1, 2, 3, 4, 5, 6, 7, 8, 9] rfl ?_
                              exact J2  ((n1 - 1) - i1) _ _  bxb2 fpb2 (by omega) (by omega) hC
                      refine m_lv (lv2 := [(9, .int (iI 0)), (8, .int (iI g)), (7, .int (iI ((200 * u) + x))), (6, .int (iI ((200 * q) + w1))), (0, .ref h0), (1, .int (iI q)), (2, .int (iI w1)), (3, .int (iI u)), (4, .int (iI x)), (5, .int (iI n1))]) [0, 1, 2, 3, 4, 5, 6, 7, 8, 9] rfl ?_
                      exact Lp1 202 0 _ _ (by omega) bxb1 fpb1 (by omega) (by omega) (CR1.zero rfl hKK)
                    refine m_icmp_ne (tgt := 139) C ⟨by omega, by omega⟩ ⟨by omega, by omega⟩ dX12_copyRow_126 (by decide) (fun c10 => ?_) (fun c10 => ?_)
                    · refine m_iconst C dX12_copyRow_139 ?_
                      refine m_lv (lv2 := [(7, .int (iI ((200 * u) + x))), (6, .int (iI ((200 * q) + w1))), (0, .ref h0), (1, .int (iI q)), (2, .int (iI w1)), (3, .int (iI u)), (4, .int (iI x)), (5, .int (iI n1))]) [0, 1, 2, 3, 4, 5, 6, 7] rfl ?_
                      exact J1  0 _ _  hB fp0 (by omega) (by omega) ⟨rfl, rfl⟩
                    · refine m_iload_n (j := 4) C dX12_copyRow_129 rfl ?_
                      refine m_iload (j := 6) C dX12_copyRow_130 rfl ?_
                      refine m_icmp_ge (tgt := 139) C ⟨by omega, by omega⟩ ⟨by omega, by omega⟩ dX12_copyRow_132 (by decide) (fun c11 => ?_) (fun c11 => ?_)
                      · refine m_iconst C dX12_copyRow_139 ?_
                        refine m_lv (lv2 := [(7, .int (iI ((200 * u) + x))), (6, .int (iI ((200 * q) + w1))), (0, .ref h0), (1, .int (iI q)), (2, .int (iI w1)), (3, .int (iI u)), (4, .int (iI x)), (5, .int (iI n1))]) [0, 1, 2, 3, 4, 5, 6, 7] rfl ?_
                        exact J1  0 _ _  hB fp0 (by omega) (by omega) ⟨rfl, rfl⟩
                      · refine m_iconst C dX12_copyRow_135 ?_
                        refine m_goto (tgt := 140) C dX12_copyRow_136 (by decide) ?_
                        refine m_lv (lv2 := [(7, .int (iI ((200 * u) + x))), (6, .int (iI ((200 * q) + w1))), (0, .ref h0), (1, .int (iI q)), (2, .int (iI w1)), (3, .int (iI u)), (4, .int (iI x)), (5, .int (iI n1))]) [0, 1, 2, 3, 4, 5, 6, 7] rfl ?_
                        exact J1  1 _ _  hB fp0 (by omega) (by omega) ⟨rfl, rfl⟩
                  · refine m_aload_n (j := 0) C dX12_copyRow_99 rfl ?_
                    refine m_iconst C dX12_copyRow_100 ?_
                    refine m_call (mc2 := 0) (ms2 := 0) (As := [.int (iI 2)]) (rest := []) C (B_bad (x := 2) hB (by show -2147483648 ≤ (2 : Int) ∧ (2 : Int) ≤ 2147483647; omega)) dX12_copyRow_101 kV_X12_154 rfl ck_13 rfl (Nat.le_of_ble_eq_true rfl) ⟨Nat.le_of_ble_eq_true rfl, Nat.le_of_ble_eq_true rfl⟩ ⟨Nat.le_of_ble_eq_true rfl, Nat.le_of_ble_eq_true rfl⟩ (fun rh9 vh9 ah9 h9 => ?_)
                    obtain ⟨f7, rfl, fn7, bn7, ex7⟩ := h9
                    refine hv2 (fp0.call fn7 rfl rfl) (show f7 = -1 from ex7) (fun fq8 gf7 => ?_)
                    refine m_st (st2 := [.int (iI f7)]) rfl ?_
                    exact m_iret C dX12_copyRow_104 rfl (Nat.le_of_ble_eq_true rfl) (Nat.le_of_ble_eq_true rfl) ⟨f7, rfl, fq8, bn7, (CRA.bad (by omega) ⟨fn7.1 36 rfl, fn7.2 34 rfl, fn7.2 35 rfl⟩ (by omega))⟩
        · refine m_aload_n (j := 0) C dX12_copyRow_52 rfl ?_
          refine m_iconst C dX12_copyRow_53 ?_
          refine m_call (mc2 := 0) (ms2 := 0) (As := [.int (iI 1)]) (rest := []) C (B_bad (x := 1) hB (by show -2147483648 ≤ (1 : Int) ∧ (1 : Int) ≤ 2147483647; omega)) dX12_copyRow_54 kV_X12_154 rfl ck_13 rfl (Nat.le_of_ble_eq_true rfl) ⟨Nat.le_of_ble_eq_true rfl, Nat.le_of_ble_eq_true rfl⟩ ⟨Nat.le_of_ble_eq_true rfl, Nat.le_of_ble_eq_true rfl⟩ (fun rh10 vh10 ah10 h10 => ?_)
          obtain ⟨f8, rfl, fn8, bn8, ex8⟩ := h10
          refine hv2 (fp0.call fn8 rfl rfl) (show f8 = -1 from ex8) (fun fq9 gf8 => ?_)
          refine m_st (st2 := [.int (iI f8)]) rfl ?_
          exact m_iret C dX12_copyRow_57 rfl (Nat.le_of_ble_eq_true rfl) (Nat.le_of_ble_eq_true rfl) ⟨f8, rfl, fq9, bn8, (CRA.bad (by omega) ⟨fn8.1 36 rfl, fn8.2 34 rfl, fn8.2 35 rfl⟩ (by omega))⟩
    · refine m_st (st2 := [.int (iI 0)]) (by rw [h2e]) ?_
      refine m_if_ne (tgt := 34) C ⟨by decide, by decide⟩ dX12_copyRow_25 (by decide) (fun z => absurd z (by omega)) (fun _ => ?_)
      refine m_aload_n (j := 0) C dX12_copyRow_28 rfl ?_
      refine m_iconst C dX12_copyRow_29 ?_
      refine m_call (mc2 := 0) (ms2 := 0) (As := [.int (iI 2)]) (rest := []) C (B_bad (x := 2) hB (by show -2147483648 ≤ (2 : Int) ∧ (2 : Int) ≤ 2147483647; omega)) dX12_copyRow_30 kV_X12_154 rfl ck_13 rfl (Nat.le_of_ble_eq_true rfl) ⟨Nat.le_of_ble_eq_true rfl, Nat.le_of_ble_eq_true rfl⟩ ⟨Nat.le_of_ble_eq_true rfl, Nat.le_of_ble_eq_true rfl⟩ (fun rh11 vh11 ah11 h11 => ?_)
      obtain ⟨f9, rfl, fn9, bn9, ex9⟩ := h11
      refine hv2 (fp0.call fn9 rfl rfl) (show f9 = -1 from ex9) (fun fq10 gf9 => ?_)
      refine m_st (st2 := [.int (iI f9)]) rfl ?_
      exact m_iret C dX12_copyRow_33 rfl (Nat.le_of_ble_eq_true rfl) (Nat.le_of_ble_eq_true rfl) ⟨f9, rfl, fq10, bn9, (CRA.bad (by omega) ⟨fn9.1 36 rfl, fn9.2 34 rfl, fn9.2 35 rfl⟩ (by omega))⟩
  · refine m_st (st2 := [.int (iI 0)]) (by rw [h1e]) ?_
    refine m_if_eq (tgt := 28) C ⟨by decide, by decide⟩ dX12_copyRow_11 (by decide) (fun _ => ?_) (fun z => absurd z (by omega))
    refine m_aload_n (j := 0) C dX12_copyRow_28 rfl ?_
    refine m_iconst C dX12_copyRow_29 ?_
    refine m_call (mc2 := 0) (ms2 := 0) (As := [.int (iI 2)]) (rest := []) C (B_bad (x := 2) hB (by show -2147483648 ≤ (2 : Int) ∧ (2 : Int) ≤ 2147483647; omega)) dX12_copyRow_30 kV_X12_154 rfl ck_13 rfl (Nat.le_of_ble_eq_true rfl) ⟨Nat.le_of_ble_eq_true rfl, Nat.le_of_ble_eq_true rfl⟩ ⟨Nat.le_of_ble_eq_true rfl, Nat.le_of_ble_eq_true rfl⟩ (fun rh12 vh12 ah12 h12 => ?_)
    obtain ⟨f10, rfl, fn10, bn10, ex10⟩ := h12
    refine hv2 (fp0.call fn10 rfl rfl) (show f10 = -1 from ex10) (fun fq11 gf10 => ?_)
    refine m_st (st2 := [.int (iI f10)]) rfl ?_
    exact m_iret C dX12_copyRow_33 rfl (Nat.le_of_ble_eq_true rfl) (Nat.le_of_ble_eq_true rfl) ⟨f10, rfl, fq11, bn10, (CRA.bad (by omega) ⟨fn10.1 36 rfl, fn10.2 34 rfl, fn10.2 35 rfl⟩ (by omega))⟩
def CPA (v : Nat → Int) (a : Nat → Nat → Int) (v2 : Nat → Int) (a2 : Nat → Nat → Int) (q u n f : Int) : Prop := ∀ E, SHA v a E → ∃ E2, CPLX E q u n (v 42) f E2 (v2 42) ∧ SHA v2 a2 E2
def CL1 (v : Nat → Int) (a : Nat → Nat → Int) (v1 : Nat → Int) (a1 : Nat → Nat → Int) (q u k : Int) : Prop := ∀ E, SHA v a E → ∃ E1, cpn E q u k.toNat E1 ∧ SHA v1 a1 E1
def CL2 (v : Nat → Int) (a : Nat → Nat → Int) (v1 : Nat → Int) (a1 : Nat → Nat → Int) (q u k x y i : Int) : Prop := ∃ a3, CL1 v a v1 a3 q u k ∧ (∀ j, a3 34 j ≤ 200) ∧ (∀ j : Nat, a1 34 j = if j = y.toNat then a3 34 x.toNat else a3 34 j) ∧ 0 ≤ a3 34 x.toNat ∧ ∀ j : Nat, a1 35 j = if 200 * y ≤ ((j : Nat) : Int) ∧ ((j : Nat) : Int) < 200 * y + i then a3 35 (((j : Nat) : Int) - 200 * y + 200 * x).toNat else a3 35 j
section CPLS
variable {v v1 v2 v3 : Nat → Int} {a a1 a2 : Nat → Nat → Int} {E E2 : List (Option (List Int))} {q u n f k x y z i : Int} {m m2 : Nat}
theorem CL1.zero (hk : k = 0) (h : KSA v a v1 a1) : CL1 v a v1 a1 q u k := fun E hE => ⟨E, by rw [hk]; rfl, hE.cg h⟩
theorem CL1.fr (h : CL1 v a v1 a1 q u k) (hk : KSA v1 a1 v2 a2) : CL1 v a v2 a2 q u k := fun E hE => by
  obtain ⟨E1, e1, e2⟩ := h E hE
  exact ⟨E1, e1, e2.cg hk⟩
theorem CL1.go (h : CL1 v a v1 a1 q u k) (hb : ∀ j, a1 34 j ≤ 200) (hm : m = y.toNat) (hz : z = a1 34 x.toNat) (hx : 0 ≤ a1 34 x.toNat) : CL2 v a v1 (up2 a1 34 m z) q u k x y 0 := by
  refine ⟨a1, h, hb, fun j => ?_, hx, fun j => ?_⟩
  · subst hm
    by_cases c : j = y.toNat
    · rw [c, up2_s, if_pos rfl]
      exact hz
    · rw [up2_j c, if_neg c]
  · rw [if_neg (by omega), up2_k (by decide)]
theorem CL2.step (h : CL2 v a v1 a1 q u k x y i) (hx : 0 ≤ x ∧ 0 ≤ y) (hi : 0 ≤ i ∧ i < 200) (hm : m = (200 * y + i).toNat) (hm2 : m2 = (200 * x + i).toNat) : CL2 v a v1 (up2 a1 35 m (a1 35 m2)) q u k x y (i + 1) := by
  obtain ⟨a3, h1, hb, h2, h3, h4⟩ := h
  refine ⟨a3, h1, hb, fun j => by rw [up2_k (by decide)]; exact h2 j, h3, fun j => ?_⟩
  by_cases c : j = m
  · rw [c, up2_s, if_pos (by omega), h4 m2, if_neg (by omega), show ((m : Nat) : Int) - 200 * y + 200 * x = ((m2 : Nat) : Int) by omega, Int.toNat_natCast]
  · rw [up2_j c, h4 j]
    by_cases c2 : 200 * y ≤ ((j : Nat) : Int) ∧ ((j : Nat) : Int) < 200 * y + i
    · rw [if_pos c2, if_pos (by omega)]
    · rw [if_neg c2, if_neg (by omega)]
theorem CL2.fin (h : CL2 v a v1 a1 q u k x y i) (hk : 0 ≤ k) (hx : x = q + k) (hy : y = u + k) (h0 : (0 ≤ x ∧ x < v1 36) ∧ (0 ≤ y ∧ y < v1 36)) (hi : a1 34 x.toNat ≤ i ∧ i ≤ 200) (h36 : v2 36 = v1 36) : CL1 v a v2 a1 q u (k + 1) := fun E hE => by
  obtain ⟨a3, h1, hb, h2, h3, h4⟩ := h
  obtain ⟨E1, e1, e2⟩ := h1 E hE
  obtain ⟨xs, d1, d2, d3⟩ := e2.have_ h0.1.1 h0.1.2 h3
  obtain ⟨yy, d4, _⟩ := e2.on h0.2.1 h0.2.2
  have ex : a1 34 x.toNat = a3 34 x.toNat := by
    rw [h2 x.toNat]
    split
    · rfl
    · rfl
  have b := hb x.toNat
  refine ⟨E1.set y.toNat (some xs), ?_, e2.set hb h0.2 h36 (Or.inr ⟨xs, rfl, ?_, fun j z ez => ?_⟩) (fun j hj => ⟨?_, fun o ho => ?_⟩)⟩
  · rw [show (k + 1).toNat = k.toNat + 1 by omega]
    refine ⟨E1, e1, xs, yy, ?_, ?_, ?_⟩
    · rw [show q + ((k.toNat : Nat) : Int) = x by omega]
      exact d1
    · rw [show u + ((k.toNat : Nat) : Int) = y by omega]
      exact d4
    · rw [show u + ((k.toNat : Nat) : Int) = y by omega]
  · rw [h2, if_pos rfl]
    exact d2
  · have lt := gl3 ez
    rw [h4, if_pos (by omega), show (((200 * y.toNat + j : Nat) : Int) - 200 * y + 200 * x).toNat = 200 * x.toNat + j by omega, d3 j lt]
    exact gd0_at ez
  · rw [h2, if_neg hj]
  · rw [h4, if_neg (by omega)]
theorem CPA.bad0 (hn : n < 0 ∨ 10 < n) (hf : f = -1) (h42 : v2 42 = v 42) (hk : KSA v a v2 a2) : CPA v a v2 a2 q u n f := fun E hE => ⟨E, Or.inl ⟨hn, rfl, hf, h42⟩, hE.cg hk⟩
theorem CPA.stop (h : CL1 v a v1 a1 q u k) (hk : 0 ≤ k ∧ k < n) (hn : n ≤ 10) (hx : x = q + k) (hy : y = u + k) (hw : ¬ ((0 ≤ x ∧ x < v1 36) ∧ (0 ≤ y ∧ y < v1 36)) ∨ ((0 ≤ x ∧ x < v1 36) ∧ a1 34 x.toNat < 0)) (hf : f = -1) (h42 : v2 42 = k) (hs : KSA v1 a1 v2 a2) : CPA v a v2 a2 q u n f := fun E hE => by
  obtain ⟨E1, e1, e2⟩ := h E hE
  refine ⟨E1, Or.inr ⟨⟨by omega, hn⟩, Or.inr ⟨k.toNat, by omega, e1, fun ⟨E3, xs, yy, c1, c2, _⟩ => ?_, hf, by omega⟩⟩, e2.cg hs⟩
  rw [show q + ((k.toNat : Nat) : Int) = x by omega] at c1
  rw [show u + ((k.toNat : Nat) : Int) = y by omega] at c2
  rcases hw with c | ⟨c, c3⟩
  · obtain ⟨r1, r2, _⟩ := rwl_lt c1
    obtain ⟨r3, r4, _⟩ := rwl_lt c2
    have e := e2.1
    exact c ⟨⟨r1, by omega⟩, r3, by omega⟩
  · exact e2.fault (Or.inr ⟨c, c3⟩) ⟨xs, c1⟩
theorem CPA.ok (h : CL1 v a v1 a1 q u k) (hk : k = n) (hn : 0 ≤ n ∧ n ≤ 10) (hf : f = n) (h42 : v2 42 = n) (hs : KSA v1 a1 v2 a2) : CPA v a v2 a2 q u n f := fun E hE => by
  obtain ⟨E1, e1, e2⟩ := h E hE
  rw [hk] at e1
  exact ⟨E1, Or.inr ⟨hn, Or.inl ⟨e1, hf, h42⟩⟩, e2.cg hs⟩
end CPLS
set_option maxHeartbeats 4000000 in
set_option maxRecDepth 100000 in
theorem N2_copyLines {l : Launch} {G : GT} {h0 : Nat} {ad ln : Nat → Nat} {v : Nat → Int} {a : Nat → Nat → Int}  {q u n1 : Int} (hB : BX v a) (hq : -2147483648 ≤ q ∧ q ≤ 2147483647) (hu : -2147483648 ≤ u ∧ u ≤ 2147483647) (hn1 : -2147483648 ≤ n1 ∧ n1 ≤ 2147483647) : Mm l G yX12_copyLines cX12_copyLines 10 (some .int) 1 [.int (iI q), .int (iI u), .int (iI n1)] h0 ad ln v a 0 0 (fun r v2 a2 => ∃ f : Int, r = some (.int (iI f)) ∧ fr [0, 1, 42] [34, 35] v a v2 a2 ∧ BX v2 a2 ∧ (CPA v a v2 a2 q u n1 f)) := by
  refine Mm.mk (by decide) (Nat.le_of_ble_eq_true rfl) ?_
  intro p e s m args below meth c A C
  refine hv2 (show 0 ≤ v 36 ∧ v 36 ≤ 200 from hB.1 36) (show fr [0, 1, 42] [34, 35] v a v a from fr.refl) (fun r36 fp0 => ?_)
  refine m_iload_n (j := 3) C dX12_copyLines_0 rfl ?_
  refine m_bipush (z := 10) C dX12_copyLines_1 (by decide) ?_
  refine m_icmp_le (tgt := 13) C ⟨by omega, by omega⟩ ⟨by decide, by decide⟩ dX12_copyLines_3 (by decide) (fun c1 => ?_) (fun c1 => ?_)
  · refine m_iload_n (j := 3) C dX12_copyLines_13 rfl ?_
    refine m_if_ge (tgt := 23) C ⟨by omega, by omega⟩ dX12_copyLines_14 (by decide) (fun c2 => ?_) (fun c2 => ?_)
    · refine m_aload_n (j := 0) C dX12_copyLines_23 rfl ?_
      refine m_iconst C dX12_copyLines_24 ?_
      refine m_put (k := 42) (z := 0) C dX12_copyLines_25 w6_101 (by decide) rfl rfl rfl ?_
      refine hv2 (show BX (va_up v 42 0) a from hB.put (k := 42) (z := 0) ⟨by decide, by decide⟩) (fp0.put (k := 42) (z := 0) rfl) (fun bq1 fq1 => ?_)
      refine m_iconst C dX12_copyLines_28 ?_
      refine m_istore (lv2 := [(4, .int (iI 0)), (0, .ref h0), (1, .int (iI q)), (2, .int (iI u)), (3, .int (iI n1))]) C dX12_copyLines_29 (by decide) rfl ?_
      have Lp1 : ∀ (nn : Nat) (k : Int) (vb1 : Nat → Int) (ab1 : Nat → Nat → Int), 11 - k < (nn : Int) → BX vb1 ab1 → fr [0, 1, 42] [34, 35] v a vb1 ab1 → (0 ≤ k ∧ k ≤ n1) → (vb1 42 = k) → (vb1 36 = v 36) → (CL1 v a vb1 ab1 q u k) → mw p l e (rmq 1 0 0) s m args below meth c G A 10 (MQ below (Qm G A (fun rq Lq Eq => ∃ (vq : Nat → Int) (aq : Nat → Nat → Int), mI G h0 ad ln vq aq Lq Eq ∧ (fun r v2 a2 => ∃ f : Int, r = some (.int (iI f)) ∧ fr [0, 1, 42] [34, 35] v a v2 a2 ∧ BX v2 a2 ∧ (CPA v a v2 a2 q u n1 f)) rq vq aq)) args s 0 0 A) h0 ad ln vb1 ab1 0 0 31 [(4, .int (iI k)), (0, .ref h0), (1, .int (iI q)), (2, .int (iI u)), (3, .int (iI n1))] [] := by
        intro nn
        induction nn with
        | zero =>
          intro k vb1 ab1 hm bxb1 fpb1 hk hc h36 hA
          exact absurd hm (by omega)
        | succ nn ih1 =>
          intro k vb1 ab1 hm bxb1 fpb1 hk hc h36 hA
          refine m_iload (j := 0) C dX12_copyLines_31 rfl ?_
          refine m_iload_n (j := 4) C dX12_copyLines_33 rfl ?_
          refine m_icmp_ge (tgt := 196) C ⟨by omega, by omega⟩ ⟨by omega, by omega⟩ dX12_copyLines_34 (by decide) (fun c3 => ?_) (fun c3 => ?_)
          · refine m_aload_n (j := 1) C dX12_copyLines_196 rfl ?_
            refine m_iload_n (j := 4) C dX12_copyLines_197 rfl ?_
            refine m_call (mc2 := 0) (ms2 := 0) (As := [.int (iI n1)]) (rest := []) C (B_fine (x := n1) bxb1 (by show -2147483648 ≤ n1 ∧ n1 ≤ 2147483647; omega)) dX12_copyLines_198 kV_X12_158 rfl ck_13 rfl (Nat.le_of_ble_eq_true rfl) ⟨Nat.le_of_ble_eq_true rfl, Nat.le_of_ble_eq_true rfl⟩ ⟨Nat.le_of_ble_eq_true rfl, Nat.le_of_ble_eq_true rfl⟩ (fun rh1 vh1 ah1 h1 => ?_)
            obtain ⟨f1, rfl, fn1, bn1, ex1⟩ := h1
            refine hv2 (fpb1.call fn1 rfl rfl) (show f1 = n1 from ex1) (fun fq2 gf1 => ?_)
            refine m_st (st2 := [.int (iI f1)]) rfl ?_
            refine hv2 (show (-2147483648) ≤ vh1 42 ∧ vh1 42 ≤ 2147483647 from bn1.1 42) (show vh1 42 = vb1 42 from fn1.1 42 rfl) (fun rv1 ve1 => ?_)
            exact m_iret C dX12_copyLines_201 rfl (Nat.le_of_ble_eq_true rfl) (Nat.le_of_ble_eq_true rfl) ⟨f1, rfl, fq2, bn1, (CPA.ok hA (by omega) ⟨by omega, by omega⟩ (by omega) (by omega) ⟨fn1.1 36 rfl, fn1.2 34 rfl, fn1.2 35 rfl⟩)⟩
          · refine m_iload_n (j := 2) C dX12_copyLines_37 rfl ?_
            refine m_i2l (w := lI q) C dX12_copyLines_38 (lI_of ⟨by omega, by omega⟩) ?_
            refine m_iload (j := 0) C dX12_copyLines_39 rfl ?_
            refine m_i2l (w := lI k) C dX12_copyLines_41 (lI_of ⟨by omega, by omega⟩) ?_
            refine m_ladd (w := lI (q + k)) C dX12_copyLines_42 (lI_add _ _) ?_
            refine m_lstore (lv2 := [(5, .long (lI (q + k))), (4, .int (iI k)), (0, .ref h0), (1, .int (iI q)), (2, .int (iI u)), (3, .int (iI n1))]) C dX12_copyLines_43 (by decide) rfl ?_
            refine m_iload_n (j := 4) C dX12_copyLines_45 rfl ?_
            refine m_i2l (w := lI u) C dX12_copyLines_46 (lI_of ⟨by omega, by omega⟩) ?_
            refine m_iload (j := 1) C dX12_copyLines_47 rfl ?_
            refine m_i2l (w := lI k) C dX12_copyLines_49 (lI_of ⟨by omega, by omega⟩) ?_
            refine m_ladd (w := lI (u + k)) C dX12_copyLines_50 (lI_add _ _) ?_
            refine m_lstore (lv2 := [(7, .long (lI (u + k))), (5, .long (lI (q + k))), (4, .int (iI k)), (0, .ref h0), (1, .int (iI q)), (2, .int (iI u)), (3, .int (iI n1))]) C dX12_copyLines_51 (by decide) rfl ?_
            refine m_lload (j := 1) C dX12_copyLines_53 rfl ?_
            refine m_lconst (w := lI 0) C dX12_copyLines_55 rfl ?_
            obtain ⟨lc1, hlc1, elc1⟩ := lcmp_c (x := (q + k)) (y := 0) ⟨by omega, by omega⟩ ⟨by omega, by omega⟩
            refine m_lcmp (w := iI lc1) C dX12_copyLines_56 elc1 ?_
            refine m_if_lt (tgt := 89) C ⟨by omega, by omega⟩ dX12_copyLines_57 (by decide) (fun c4 => ?_) (fun c4 => ?_)
            · refine m_aload_n (j := 3) C dX12_copyLines_89 rfl ?_
              refine m_iconst C dX12_copyLines_90 ?_
              refine m_call (mc2 := 0) (ms2 := 0) (As := [.int (iI 2)]) (rest := []) C (B_bad (x := 2) bxb1 (by show -2147483648 ≤ (2 : Int) ∧ (2 : Int) ≤ 2147483647; omega)) dX12_copyLines_91 kV_X12_154 rfl ck_13 rfl (Nat.le_of_ble_eq_true rfl) ⟨Nat.le_of_ble_eq_true rfl, Nat.le_of_ble_eq_true rfl⟩ ⟨Nat.le_of_ble_eq_true rfl, Nat.le_of_ble_eq_true rfl⟩ (fun rh2 vh2 ah2 h2 => ?_)
              obtain ⟨f2, rfl, fn2, bn2, ex2⟩ := h2
              refine hv2 (fpb1.call fn2 rfl rfl) (show f2 = -1 from ex2) (fun fq3 gf2 => ?_)
              refine m_st (st2 := [.int (iI f2)]) rfl ?_
              refine hv2 (show (-2147483648) ≤ vh2 42 ∧ vh2 42 ≤ 2147483647 from bn2.1 42) (show vh2 42 = vb1 42 from fn2.1 42 rfl) (fun rv2 ve2 => ?_)
              exact m_iret C dX12_copyLines_94 rfl (Nat.le_of_ble_eq_true rfl) (Nat.le_of_ble_eq_true rfl) ⟨f2, rfl, fq3, bn2, (CPA.stop hA ⟨by omega, by omega⟩ (by omega) rfl rfl (by omega) (by omega) (by omega) ⟨fn2.1 36 rfl, fn2.2 34 rfl, fn2.2 35 rfl⟩)⟩
            · refine m_lload (j := 1) C dX12_copyLines_60 rfl ?_
              refine m_aload_n (j := 3) C dX12_copyLines_62 rfl ?_
              refine hv2 (show 0 ≤ vb1 36 ∧ vb1 36 ≤ 200 from bxb1.1 36) (show vb1 36 = v 36 from fpb1.1 36 rfl) (fun rv3 ve3 => ?_)
              refine m_get (k := 36) C dX12_copyLines_63 w6_95 (by decide) rfl ?_
              refine m_st (st2 := [.int (iI (v 36)), .long (lI (q + k))]) (congrArg (fun z => Value.int (iI z) :: [.long (lI (q + k))]) (fpb1.1 36 rfl)) ?_
              refine m_i2l (w := lI (v 36)) C dX12_copyLines_66 (lI_of ⟨by omega, by omega⟩) ?_
              obtain ⟨lc2, hlc2, elc2⟩ := lcmp_c (x := (q + k)) (y := (v 36)) ⟨by omega, by omega⟩ ⟨by omega, by omega⟩
              refine m_lcmp (w := iI lc2) C dX12_copyLines_67 elc2 ?_
              refine m_if_ge (tgt := 89) C ⟨by omega, by omega⟩ dX12_copyLines_68 (by decide) (fun c5 => ?_) (fun c5 => ?_)
              · refine m_aload_n (j := 3) C dX12_copyLines_89 rfl ?_
                refine m_iconst C dX12_copyLines_90 ?_
                refine m_call (mc2 := 0) (ms2 := 0) (As := [.int (iI 2)]) (rest := []) C (B_bad (x := 2) bxb1 (by show -2147483648 ≤ (2 : Int) ∧ (2 : Int) ≤ 2147483647; omega)) dX12_copyLines_91 kV_X12_154 rfl ck_13 rfl (Nat.le_of_ble_eq_true rfl) ⟨Nat.le_of_ble_eq_true rfl, Nat.le_of_ble_eq_true rfl⟩ ⟨Nat.le_of_ble_eq_true rfl, Nat.le_of_ble_eq_true rfl⟩ (fun rh3 vh3 ah3 h3 => ?_)
                obtain ⟨f3, rfl, fn3, bn3, ex3⟩ := h3
                refine hv2 (fpb1.call fn3 rfl rfl) (show f3 = -1 from ex3) (fun fq4 gf3 => ?_)
                refine m_st (st2 := [.int (iI f3)]) rfl ?_
                refine hv2 (show (-2147483648) ≤ vh3 42 ∧ vh3 42 ≤ 2147483647 from bn3.1 42) (show vh3 42 = vb1 42 from fn3.1 42 rfl) (fun rv4 ve4 => ?_)
                exact m_iret C dX12_copyLines_94 rfl (Nat.le_of_ble_eq_true rfl) (Nat.le_of_ble_eq_true rfl) ⟨f3, rfl, fq4, bn3, (CPA.stop hA ⟨by omega, by omega⟩ (by omega) rfl rfl (by omega) (by omega) (by omega) ⟨fn3.1 36 rfl, fn3.2 34 rfl, fn3.2 35 rfl⟩)⟩
              · refine m_lload (j := 0) C dX12_copyLines_71 rfl ?_
                refine m_lconst (w := lI 0) C dX12_copyLines_73 rfl ?_
                obtain ⟨lc3, hlc3, elc3⟩ := lcmp_c (x := (u + k)) (y := 0) ⟨by omega, by omega⟩ ⟨by omega, by omega⟩
                refine m_lcmp (w := iI lc3) C dX12_copyLines_74 elc3 ?_
                refine m_if_lt (tgt := 89) C ⟨by omega, by omega⟩ dX12_copyLines_75 (by decide) (fun c6 => ?_) (fun c6 => ?_)
                · refine m_aload_n (j := 3) C dX12_copyLines_89 rfl ?_
                  refine m_iconst C dX12_copyLines_90 ?_
                  refine m_call (mc2 := 0) (ms2 := 0) (As := [.int (iI 2)]) (rest := []) C (B_bad (x := 2) bxb1 (by show -2147483648 ≤ (2 : Int) ∧ (2 : Int) ≤ 2147483647; omega)) dX12_copyLines_91 kV_X12_154 rfl ck_13 rfl (Nat.le_of_ble_eq_true rfl) ⟨Nat.le_of_ble_eq_true rfl, Nat.le_of_ble_eq_true rfl⟩ ⟨Nat.le_of_ble_eq_true rfl, Nat.le_of_ble_eq_true rfl⟩ (fun rh4 vh4 ah4 h4 => ?_)
                  obtain ⟨f4, rfl, fn4, bn4, ex4⟩ := h4
                  refine hv2 (fpb1.call fn4 rfl rfl) (show f4 = -1 from ex4) (fun fq5 gf4 => ?_)
                  refine m_st (st2 := [.int (iI f4)]) rfl ?_
                  refine hv2 (show (-2147483648) ≤ vh4 42 ∧ vh4 42 ≤ 2147483647 from bn4.1 42) (show vh4 42 = vb1 42 from fn4.1 42 rfl) (fun rv5 ve5 => ?_)
                  exact m_iret C dX12_copyLines_94 rfl (Nat.le_of_ble_eq_true rfl) (Nat.le_of_ble_eq_true rfl) ⟨f4, rfl, fq5, bn4, (CPA.stop hA ⟨by omega, by omega⟩ (by omega) rfl rfl (by omega) (by omega) (by omega) ⟨fn4.1 36 rfl, fn4.2 34 rfl, fn4.2 35 rfl⟩)⟩
                · refine m_lload (j := 0) C dX12_copyLines_78 rfl ?_
                  refine m_aload_n (j := 3) C dX12_copyLines_80 rfl ?_
                  refine m_get (k := 36) C dX12_copyLines_81 w6_95 (by decide) rfl ?_
                  refine m_st (st2 := [.int (iI (v 36)), .long (lI (u + k))]) (congrArg (fun z => Value.int (iI z) :: [.long (lI (u + k))]) (fpb1.1 36 rfl)) ?_
                  refine m_i2l (w := lI (v 36)) C dX12_copyLines_84 (lI_of ⟨by omega, by omega⟩) ?_
                  obtain ⟨lc4, hlc4, elc4⟩ := lcmp_c (x := (u + k)) (y := (v 36)) ⟨by omega, by omega⟩ ⟨by omega, by omega⟩
                  refine m_lcmp (w := iI lc4) C dX12_copyLines_85 elc4 ?_
                  refine m_if_lt (tgt := 95) C ⟨by omega, by omega⟩ dX12_copyLines_86 (by decide) (fun c7 => ?_) (fun c7 => ?_)
                  · refine m_aload_n (j := 3) C dX12_copyLines_95 rfl ?_
                    refine m_geta (k := 34) C dX12_copyLines_96 w6_93 (by decide) rfl ?_
                    refine m_lload (j := 1) C dX12_copyLines_99 rfl ?_
                    refine m_l2i (w := iI (q + k)) C dX12_copyLines_101 (lI_i _) ?_
                    refine m_ald (k := 34) C dX12_copyLines_102 rfl rfl (by decide) (by omega) (by show _ < ((_ : Nat) : Int); simp only [mlen]; omega) (by decide) ?_
                    have ra1 : (-1) ≤ ab1 34 (q + k).toNat ∧ ab1 34 (q + k).toNat ≤ 200 := bxb1.2 34 ((q + k).toNat)
                    refine m_if_ge (tgt := 112) C (r32_c (lo := (-1)) (hi := 200) ra1.1 ra1.2 (by decide) (by decide)) dX12_copyLines_103 (by decide) (fun c8 => ?_) (fun c8 => ?_)
                    · refine m_aload_n (j := 3) C dX12_copyLines_112 rfl ?_
                      refine m_geta (k := 34) C dX12_copyLines_113 w6_93 (by decide) rfl ?_
                      refine m_lload (j := 0) C dX12_copyLines_116 rfl ?_
                      refine m_l2i (w := iI (u + k)) C dX12_copyLines_118 (lI_i _) ?_
                      refine m_aload_n (j := 3) C dX12_copyLines_119 rfl ?_
                      refine m_geta (k := 34) C dX12_copyLines_120 w6_93 (by decide) rfl ?_
                      refine m_lload (j := 1) C dX12_copyLines_123 rfl ?_
                      refine m_l2i (w := iI (q + k)) C dX12_copyLines_125 (lI_i _) ?_
                      refine m_ald (k := 34) C dX12_copyLines_126 rfl rfl (by decide) (by omega) (by show _ < ((_ : Nat) : Int); simp only [mlen]; omega) (by decide) ?_
                      refine m_ast (k := 34) C dX12_copyLines_127 rfl rfl (by decide) (by omega) (by show _ < ((_ : Nat) : Int); simp only [mlen]; omega) (by decide) ?_
                      refine hv2 (show BX vb1 (up2 ab1 34 (u + k).toNat (ab1 34 (q + k).toNat)) from bxb1.set (k := 34) (i := (u + k).toNat) (z := ab1 34 (q + k).toNat) (show (-1) ≤ (ab1 34 (q + k).toNat) ∧ (ab1 34 (q + k).toNat) ≤ 200 by omega)) (fpb1.set (k := 34) (i := (u + k).toNat) (z := ab1 34 (q + k).toNat) rfl) (fun bq2 fq6 => ?_)
                      refine m_iconst C dX12_copyLines_128 ?_
                      refine m_istore (lv2 := [(9, .int (iI 0)), (7, .long (lI (u + k))), (5, .long (lI (q + k))), (4, .int (iI k)), (0, .ref h0), (1, .int (iI q)), (2, .int (iI u)), (3, .int (iI n1))]) C dX12_copyLines_129 (by decide) rfl ?_
                      have Lp2 : ∀ (nn : Nat) (i1 : Int) (vb2 : Nat → Int) (ab2 : Nat → Nat → Int), 201 - i1 < (nn : Int) → BX vb2 ab2 → fr [0, 1, 42] [34, 35] v a vb2 ab2 → (0 ≤ i1 ∧ i1 ≤ 200) → (vb2 42 = k) → (vb2 36 = v 36) → (CL2 v a vb2 ab2 q u k (q + k) (u + k) i1) → mw p l e (rmq 1 0 0) s m args below meth c G A 10 (MQ below (Qm G A (fun rq Lq Eq => ∃ (vq : Nat → Int) (aq : Nat → Nat → Int), mI G h0 ad ln vq aq Lq Eq ∧ (fun r v2 a2 => ∃ f : Int, r = some (.int (iI f)) ∧ fr [0, 1, 42] [34, 35] v a v2 a2 ∧ BX v2 a2 ∧ (CPA v a v2 a2 q u n1 f)) rq vq aq)) args s 0 0 A) h0 ad ln vb2 ab2 0 0 131 [(9, .int (iI i1)), (7, .long (lI (u + k))), (5, .long (lI (q + k))), (4, .int (iI k)), (0, .ref h0), (1, .int (iI q)), (2, .int (iI u)), (3, .int (iI n1))] [] := by
                        intro nn
                        induction nn with
                        | zero =>
                          intro i1 vb2 ab2 hm bxb2 fpb2 hi hc2 h36b hD
                          exact absurd hm (by omega)
                        | succ nn ih2 =>
                          intro i1 vb2 ab2 hm bxb2 fpb2 hi hc2 h36b hD
                          refine m_iload (j := 0) C dX12_copyLines_131 rfl ?_
                          refine m_aload_n (j := 4) C dX12_copyLines_133 rfl ?_
                          refine m_geta (k := 34) C dX12_copyLines_134 w6_93 (by decide) rfl ?_
                          refine m_lload (j := 2) C dX12_copyLines_137 rfl ?_
                          refine m_l2i (w := iI (q + k)) C dX12_copyLines_139 (lI_i _) ?_
                          refine m_ald (k := 34) C dX12_copyLines_140 rfl rfl (by decide) (by omega) (by show _ < ((_ : Nat) : Int); simp only [mlen]; omega) (by decide) ?_
                          have ra2 : (-1) ≤ ab2 34 (q + k).toNat ∧ ab2 34 (q + k).toNat ≤ 200 := bxb2.2 34 ((q + k).toNat)
                          refine m_icmp_ge (tgt := 180) C (r32_c (lo := 0) (hi := 200) hi.1 hi.2 (by decide) (by decide)) (r32_c (lo := (-1)) (hi := 200) ra2.1 ra2.2 (by decide) (by decide)) dX12_copyLines_141 (by decide) (fun c9 => ?_) (fun c9 => ?_)
                          · refine m_aload_n (j := 4) C dX12_copyLines_180 rfl ?_
                            refine m_dup C dX12_copyLines_181 rfl ?_
                            have rv6 : (-2147483648) ≤ vb2 42 ∧ vb2 42 ≤ 2147483647 := bxb2.1 42
                            refine m_get (k := 42) C dX12_copyLines_182 w6_101 (by decide) rfl ?_
                            refine m_iconst C dX12_copyLines_185 ?_
                            refine m_iadd C dX12_copyLines_186 ?_
                            refine m_put (k := 42) (z := (vb2 42) + 1) C dX12_copyLines_187 w6_101 (by decide) rfl rfl rfl ?_
                            refine hv2 (show BX (va_up vb2 42 ((vb2 42) + 1)) ab2 from bxb2.put (k := 42) (z := (vb2 42) + 1) (show (-2147483648) ≤ ((vb2 42) + 1) ∧ ((vb2 42) + 1) ≤ 2147483647 by omega)) (fpb2.put (k := 42) (z := (vb2 42) + 1) rfl) (fun bq3 fq7 => ?_)
                            refine m_iinc (z := k) (j := 3) (lv2 := [(4, .int (iI (k + 1))), (9, .int (iI i1)), (7, .long (lI (u + k))), (5, .long (lI (q + k))), (0, .ref h0), (1, .int (iI q)), (2, .int (iI u)), (3, .int (iI n1))]) C dX12_copyLines_190 rfl (by decide) rfl ?_
                            refine m_goto (tgt := 31) C dX12_copyLines_193 (by decide) ?_
                            refine hv2 (show 0 ≤ vb2 36 ∧ vb2 36 ≤ 200 from bq3.1 36) (show vb2 36 = v 36 from fpb2.1 36 rfl) (fun rv7 ve6 => ?_)
                            refine m_lv (lv2 := [(4, .int (iI (k + 1))), (0, .ref h0), (1, .int (iI q)), (2, .int (iI u)), (3, .int (iI n1))]) [0, 4, 5, 6, 7] rfl ?_
                            exact ih1  (k + 1) _ _ (by omega) bq3 fq7 (by omega) (by show ((vb2 42) + 1) = (k + 1); omega) (by show (vb2 36) = v 36; omega) (CL2.fin hD (by omega) rfl rfl ⟨⟨by omega, by omega⟩, by omega, by omega⟩ ⟨by omega, by omega⟩ (va_up_ne _ _ (by decide)))
                          · refine m_aload_n (j := 4) C dX12_copyLines_144 rfl ?_
                            refine m_geta (k := 35) C dX12_copyLines_145 w6_94 (by decide) rfl ?_
                            refine m_sipush (z := 200) C dX12_copyLines_148 (by decide) ?_
                            refine m_lload (j := 1) C dX12_copyLines_151 rfl ?_
                            refine m_l2i (w := iI (u + k)) C dX12_copyLines_153 (lI_i _) ?_
                            refine m_imul C dX12_copyLines_154 ?_
                            refine m_iload (j := 0) C dX12_copyLines_155 rfl ?_
                            refine m_iadd C dX12_copyLines_157 ?_
                            refine m_aload_n (j := 4) C dX12_copyLines_158 rfl ?_
                            refine m_geta (k := 35) C dX12_copyLines_159 w6_94 (by decide) rfl ?_
                            refine m_sipush (z := 200) C dX12_copyLines_162 (by decide) ?_
                            refine m_lload (j := 2) C dX12_copyLines_165 rfl ?_
                            refine m_l2i (w := iI (q + k)) C dX12_copyLines_167 (lI_i _) ?_
                            refine m_imul C dX12_copyLines_168 ?_
                            refine m_iload (j := 0) C dX12_copyLines_169 rfl ?_
                            refine m_iadd C dX12_copyLines_171 ?_
                            refine m_ald (k := 35) C dX12_copyLines_172 rfl rfl (by decide) (by omega) (by show _ < ((_ : Nat) : Int); simp only [mlen]; omega) (by decide) ?_
                            have ra3 : (-2147483648) ≤ ab2 35 ((200 * (q + k)) + i1).toNat ∧ ab2 35 ((200 * (q + k)) + i1).toNat ≤ 2147483647 := bxb2.2 35 (((200 * (q + k)) + i1).toNat)
                            refine m_ast (k := 35) C dX12_copyLines_173 rfl rfl (by decide) (by omega) (by show _ < ((_ : Nat) : Int); simp only [mlen]; omega) (by decide) ?_
                            refine hv2 (show BX vb2 (up2 ab2 35 ((200 * (u + k)) + i1).toNat (ab2 35 ((200 * (q + k)) + i1).toNat)) from bxb2.set (k := 35) (i := ((200 * (u + k)) + i1).toNat) (z := ab2 35 ((200 * (q + k)) + i1).toNat) (show (-2147483648) ≤ (ab2 35 ((200 * (q + k)) + i1).toNat) ∧ (ab2 35 ((200 * (q + k)) + i1).toNat) ≤ 2147483647 by omega)) (fpb2.set (k := 35) (i := ((200 * (u + k)) + i1).toNat) (z := ab2 35 ((200 * (q + k)) + i1).toNat) rfl) (fun bq4 fq8 => ?_)
                            refine m_iinc (z := i1) (j := 0) (lv2 := [(9, .int (iI (i1 + 1))), (7, .long (lI (u + k))), (5, .long (lI (q + k))), (4, .int (iI k)), (0, .ref h0), (1, .int (iI q)), (2, .int (iI u)), (3, .int (iI n1))]) C dX12_copyLines_174 rfl (by decide) rfl ?_
                            refine m_goto (tgt := 131) C dX12_copyLines_177 (by decide) ?_
                            refine hv3 (show (-2147483648) ≤ vb2 42 ∧ vb2 42 ≤ 2147483647 from bq4.1 42) (show 0 ≤ vb2 36 ∧ vb2 36 ≤ 200 from bq4.1 36) (show vb2 36 = v 36 from fpb2.1 36 rfl) (fun rv8 rv9 ve7 => ?_)
                            refine m_lv (lv2 := [(9, .int (iI (i1 + 1))), (7, .long (lI (u + k))), (5, .long (lI (q + k))), (4, .int (iI k)), (0, .ref h0), (1, .int (iI q)), (2, .int (iI u)), (3, .int (iI n1))]) [0, 1, 2, 3, 4, 5, 6, 7] rfl ?_
                            exact ih2  (i1 + 1) _ _ (by omega) bq4 fq8 (by omega) (by show (vb2 42) = k; omega) (by show (vb2 36) = v 36; omega) (CL2.step hD ⟨by omega, by omega⟩ ⟨by omega, by omega⟩ rfl rfl)
                      have rv10 : (-2147483648) ≤ vb1 42 ∧ vb1 42 ≤ 2147483647 := bq2.1 42
                      refine m_lv (lv2 := [(9, .int (iI 0)), (7, .long (lI (u + k))), (5, .long (lI (q + k))), (4, .int (iI k)), (0, .ref h0), (1, .int (iI q)), (2, .int (iI u)), (3, .int (iI n1))]) [0, 1, 2, 3, 4, 5, 6, 7] rfl ?_
                      exact Lp2 202 0 _ _ (by omega) bq2 fq6 (by omega) (by show (vb1 42) = k; omega) (by show (vb1 36) = v 36; omega) (CL1.go hA (fun j => (bxb1.2 34 j).2) rfl rfl (by omega))
                    · refine m_aload_n (j := 3) C dX12_copyLines_106 rfl ?_
                      refine m_iconst C dX12_copyLines_107 ?_
                      refine m_call (mc2 := 0) (ms2 := 0) (As := [.int (iI 1)]) (rest := []) C (B_bad (x := 1) bxb1 (by show -2147483648 ≤ (1 : Int) ∧ (1 : Int) ≤ 2147483647; omega)) dX12_copyLines_108 kV_X12_154 rfl ck_13 rfl (Nat.le_of_ble_eq_true rfl) ⟨Nat.le_of_ble_eq_true rfl, Nat.le_of_ble_eq_true rfl⟩ ⟨Nat.le_of_ble_eq_true rfl, Nat.le_of_ble_eq_true rfl⟩ (fun rh5 vh5 ah5 h5 => ?_)
                      obtain ⟨f5, rfl, fn5, bn5, ex5⟩ := h5
                      refine hv2 (fpb1.call fn5 rfl rfl) (show f5 = -1 from ex5) (fun fq9 gf5 => ?_)
                      refine m_st (st2 := [.int (iI f5)]) rfl ?_
                      refine hv2 (show (-2147483648) ≤ vh5 42 ∧ vh5 42 ≤ 2147483647 from bn5.1 42) (show vh5 42 = vb1 42 from fn5.1 42 rfl) (fun rv11 ve8 => ?_)
                      exact m_iret C dX12_copyLines_111 rfl (Nat.le_of_ble_eq_true rfl) (Nat.le_of_ble_eq_true rfl) ⟨f5, rfl, fq9, bn5, (CPA.stop hA ⟨by omega, by omega⟩ (by omega) rfl rfl (by omega) (by omega) (by omega) ⟨fn5.1 36 rfl, fn5.2 34 rfl, fn5.2 35 rfl⟩)⟩
                  · refine m_aload_n (j := 3) C dX12_copyLines_89 rfl ?_
                    refine m_iconst C dX12_copyLines_90 ?_
                    refine m_call (mc2 := 0) (ms2 := 0) (As := [.int (iI 2)]) (rest := []) C (B_bad (x := 2) bxb1 (by show -2147483648 ≤ (2 : Int) ∧ (2 : Int) ≤ 2147483647; omega)) dX12_copyLines_91 kV_X12_154 rfl ck_13 rfl (Nat.le_of_ble_eq_true rfl) ⟨Nat.le_of_ble_eq_true rfl, Nat.le_of_ble_eq_true rfl⟩ ⟨Nat.le_of_ble_eq_true rfl, Nat.le_of_ble_eq_true rfl⟩ (fun rh6 vh6 ah6 h6 => ?_)
                    obtain ⟨f6, rfl, fn6, bn6, ex6⟩ := h6
                    refine hv2 (fpb1.call fn6 rfl rfl) (show f6 = -1 from ex6) (fun fq10 gf6 => ?_)
                    refine m_st (st2 := [.int (iI f6)]) rfl ?_
                    refine hv2 (show (-2147483648) ≤ vh6 42 ∧ vh6 42 ≤ 2147483647 from bn6.1 42) (show vh6 42 = vb1 42 from fn6.1 42 rfl) (fun rv12 ve9 => ?_)
                    exact m_iret C dX12_copyLines_94 rfl (Nat.le_of_ble_eq_true rfl) (Nat.le_of_ble_eq_true rfl) ⟨f6, rfl, fq10, bn6, (CPA.stop hA ⟨by omega, by omega⟩ (by omega) rfl rfl (by omega) (by omega) (by omega) ⟨fn6.1 36 rfl, fn6.2 34 rfl, fn6.2 35 rfl⟩)⟩
      have rv13 : 0 ≤ v 36 ∧ v 36 ≤ 200 := bq1.1 36
      refine m_lv (lv2 := [(4, .int (iI 0)), (0, .ref h0), (1, .int (iI q)), (2, .int (iI u)), (3, .int (iI n1))]) [0, 1, 2, 3, 4] rfl ?_
      exact Lp1 12 0 _ _ (by omega) bq1 fq1 (by omega) (by show 0 = 0; omega) (by show (v 36) = v 36; omega) (CL1.zero rfl ⟨va_up_ne _ _ (by decide), rfl, rfl⟩)
    · refine m_aload_n (j := 0) C dX12_copyLines_17 rfl ?_
      refine m_iconst C dX12_copyLines_18 ?_
      refine m_call (mc2 := 0) (ms2 := 0) (As := [.int (iI 5)]) (rest := []) C (B_bad (x := 5) hB (by show -2147483648 ≤ (5 : Int) ∧ (5 : Int) ≤ 2147483647; omega)) dX12_copyLines_19 kV_X12_154 rfl ck_13 rfl (Nat.le_of_ble_eq_true rfl) ⟨Nat.le_of_ble_eq_true rfl, Nat.le_of_ble_eq_true rfl⟩ ⟨Nat.le_of_ble_eq_true rfl, Nat.le_of_ble_eq_true rfl⟩ (fun rh7 vh7 ah7 h7 => ?_)
      obtain ⟨f7, rfl, fn7, bn7, ex7⟩ := h7
      refine hv2 (fp0.call fn7 rfl rfl) (show f7 = -1 from ex7) (fun fq11 gf7 => ?_)
      refine m_st (st2 := [.int (iI f7)]) rfl ?_
      refine hv2 (show (-2147483648) ≤ vh7 42 ∧ vh7 42 ≤ 2147483647 from bn7.1 42) (show vh7 42 = v 42 from fn7.1 42 rfl) (fun rv14 ve10 => ?_)
      exact m_iret C dX12_copyLines_22 rfl (Nat.le_of_ble_eq_true rfl) (Nat.le_of_ble_eq_true rfl) ⟨f7, rfl, fq11, bn7, (CPA.bad0 (by omega) (by omega) (by omega) ⟨fn7.1 36 rfl, fn7.2 34 rfl, fn7.2 35 rfl⟩)⟩
  · refine m_aload_n (j := 0) C dX12_copyLines_6 rfl ?_
    refine m_bipush (z := 6) C dX12_copyLines_7 (by decide) ?_
    refine m_call (mc2 := 0) (ms2 := 0) (As := [.int (iI 6)]) (rest := []) C (B_bad (x := 6) hB (by show -2147483648 ≤ (6 : Int) ∧ (6 : Int) ≤ 2147483647; omega)) dX12_copyLines_9 kV_X12_154 rfl ck_13 rfl (Nat.le_of_ble_eq_true rfl) ⟨Nat.le_of_ble_eq_true rfl, Nat.le_of_ble_eq_true rfl⟩ ⟨Nat.le_of_ble_eq_true rfl, Nat.le_of_ble_eq_true rfl⟩ (fun rh8 vh8 ah8 h8 => ?_)
    obtain ⟨f8, rfl, fn8, bn8, ex8⟩ := h8
    refine hv2 (fp0.call fn8 rfl rfl) (show f8 = -1 from ex8) (fun fq12 gf8 => ?_)
    refine m_st (st2 := [.int (iI f8)]) rfl ?_
    refine hv2 (show (-2147483648) ≤ vh8 42 ∧ vh8 42 ≤ 2147483647 from bn8.1 42) (show vh8 42 = v 42 from fn8.1 42 rfl) (fun rv15 ve11 => ?_)
    exact m_iret C dX12_copyLines_12 rfl (Nat.le_of_ble_eq_true rfl) (Nat.le_of_ble_eq_true rfl) ⟨f8, rfl, fq12, bn8, (CPA.bad0 (by omega) (by omega) (by omega) ⟨fn8.1 36 rfl, fn8.2 34 rfl, fn8.2 35 rfl⟩)⟩
def bcs (s : Int32) : List Int → Int32
  | [] => s
  | x :: xs => bcs (s + bcn (iI x)) xs
def emb (E : List (Option (List Int))) (q wd : Int) : Nat → Int32 → Prop
  | 0, s => s = 0
  | k + 1, s => ∃ s0, emb E q wd k s0 ∧ ((rwe E (q + ((k : Nat) : Int)) = some none ∧ s = s0) ∨ ∃ xs, rwe E (q + ((k : Nat) : Int)) = some (some xs) ∧ ((xs.length : Nat) : Int) ≤ wd ∧ s = bcs s0 xs)
def EMS (E : List (Option (List Int))) (q wd : Int) (k : Nat) (s : Int32) (f : Int) : Prop := (rwe E (q + ((k : Nat) : Int)) = none ∧ f = -1) ∨ ∃ xs, rwe E (q + ((k : Nat) : Int)) = some (some xs) ∧ wd < ((xs.length : Nat) : Int) ∧ iI f = s
def EMBX (E : List (Option (List Int))) (q n wd : Int) (c : Int32) (f : Int) (c2 : Int32) : Prop := ((n < 0 ∨ 200 < n) ∧ f = -1 ∧ c2 = c) ∨ ((0 ≤ n ∧ n ≤ 200) ∧ ((emb E q wd n.toNat (iI f) ∧ c2 = c + iI n) ∨ ∃ (k : Nat) (s : Int32), ((k : Nat) : Int) < n ∧ emb E q wd k s ∧ EMS E q wd k s f ∧ c2 = c + iI (((k : Nat) : Int) + 1)))
def EMA (v : Nat → Int) (a : Nat → Nat → Int) (v2 : Nat → Int) (q n f : Int) : Prop := ∀ E, SHA v a E → EMBX E q n (v 31) (iI (v 43)) f (iI (v2 43))
def EM1 (v : Nat → Int) (a : Nat → Nat → Int) (q k s : Int) : Prop := ∀ E, SHA v a E → emb E q (v 31) k.toNat (iI s)
def EM2 (v : Nat → Int) (a : Nat → Nat → Int) (q k i s : Int) : Prop := ∃ s0, EM1 v a q k s0 ∧ iI s = bcs (iI s0) (mpr i.toNat (fun j => a 35 (200 * (q + k) + ((j : Nat) : Int)).toNat))
section EMBS
variable {v v1 v2 : Nat → Int} {a : Nat → Nat → Int} {E : List (Option (List Int))} {q n f f1 f2 wd k i z x y s1 s2 : Int} {c c1 c2 s t : Int32} {xs : List Int}
theorem bcs_snoc : ∀ (xs : List Int) (s : Int32) (x : Int), bcs s (xs ++ [x]) = bcs s xs + bcn (iI x) := by
  intro xs
  induction xs with
  | nil => intro s x; rfl
  | cons y xs ih => intro s x; exact ih (s + bcn (iI y)) x
theorem bcs_add : ∀ (xs : List Int) (s : Int32), bcs s xs = s + bcs 0 xs := by
  intro xs
  induction xs with
  | nil => intro s; exact (Int32.add_zero s).symm
  | cons y xs ih =>
    intro s
    show bcs (s + bcn (iI y)) xs = s + bcs (0 + bcn (iI y)) xs
    rw [ih (s + bcn (iI y)), ih (0 + bcn (iI y)), Int32.zero_add, Int32.add_assoc]
theorem emb.uni : ∀ (k : Nat) (s t : Int32), emb E q wd k s → emb E q wd k t → s = t := by
  intro k
  induction k with
  | zero => intro s t h h2; exact h.trans h2.symm
  | succ k ih =>
    intro s t h h2
    obtain ⟨s0, a1, a2⟩ := h
    obtain ⟨t0, b1, b2⟩ := h2
    have e := ih s0 t0 a1 b1
    rcases a2 with ⟨e1, e2⟩ | ⟨xs, e1, _, e2⟩ <;> rcases b2 with ⟨d1, d2⟩ | ⟨ys, d1, _, d2⟩
    · rw [e2, d2, e]
    · rw [e1] at d1; cases d1
    · rw [e1] at d1; cases d1
    · rw [e1] at d1; cases d1
      rw [e2, d2, e]
theorem emb.less {k m : Nat} (hm : k < m) : ∀ s, emb E q wd m s → rwe E (q + ((k : Nat) : Int)) = some none ∨ ∃ xs, rwe E (q + ((k : Nat) : Int)) = some (some xs) ∧ ((xs.length : Nat) : Int) ≤ wd := by
  induction m with
  | zero => omega
  | succ m ih =>
    intro s h
    obtain ⟨s0, a1, a2⟩ := h
    by_cases c0 : k = m
    · subst c0
      rcases a2 with ⟨e1, _⟩ | ⟨xs, e1, e2, _⟩
      · exact Or.inl e1
      · exact Or.inr ⟨xs, e1, e2⟩
    · exact ih (by omega) s0 a1
theorem emb.stop {k m : Nat} (h1 : EMS E q wd k s f) (h2 : emb E q wd m t) (hm : k < m) : False := by
  rcases h1 with ⟨e, _⟩ | ⟨xs, e, e2, _⟩ <;> rcases emb.less hm t h2 with d | ⟨ys, d, d2⟩
  · rw [e] at d; cases d
  · rw [e] at d; cases d
  · rw [e] at d; cases d
  · rw [e] at d; cases d
    omega
theorem EMBX.uni (h : EMBX E q n wd c f1 c1) (h2 : EMBX E q n wd c f2 c2) : iI f1 = iI f2 ∧ c1 = c2 := by
  rcases h with ⟨e0, e1, e2⟩ | ⟨e0, ⟨e1, e2⟩ | ⟨k, s, e1, e2, e3, e4⟩⟩ <;> rcases h2 with ⟨d0, d1, d2⟩ | ⟨d0, ⟨d1, d2⟩ | ⟨m, t, d1, d2, d3, d4⟩⟩
  · exact ⟨by rw [e1, d1], e2.trans d2.symm⟩
  · omega
  · omega
  · omega
  · exact ⟨emb.uni _ _ _ e1 d1, e2.trans d2.symm⟩
  · exact (emb.stop d3 e1 (by omega)).elim
  · omega
  · exact (emb.stop e3 d1 (by omega)).elim
  · by_cases c0 : k = m
    · subst c0
      have es := emb.uni k s t e2 d2
      refine ⟨?_, e4.trans d4.symm⟩
      rcases e3 with ⟨g1, g2⟩ | ⟨xs, g1, _, g2⟩ <;> rcases d3 with ⟨b1, b2⟩ | ⟨ys, b1, _, b2⟩
      · rw [g2, b2]
      · rw [g1] at b1; cases b1
      · rw [g1] at b1; cases b1
      · rw [g2, b2, es]
    · by_cases c3 : k < m
      · exact (emb.stop e3 d2 c3).elim
      · exact (emb.stop d3 e2 (by omega)).elim
theorem EM1.zero (hk : k = 0) (hs : s1 = 0) : EM1 v a q k s1 := fun E hE => by
  rw [hk, hs]
  rfl
theorem EM1.go (h : EM1 v a q k s1) (hi : i = 0) : EM2 v a q k i s1 := ⟨s1, h, by rw [hi]; rfl⟩
theorem EM2.step (h : EM2 v a q k i s1) (hi : 0 ≤ i) (hx : x = a 35 (200 * (q + k) + i).toNat) (hz : bcn (iI x) = iI z) (hy : iI (s1 + z) = iI y) : EM2 v a q k (i + 1) y := by
  obtain ⟨s0, g1, g2⟩ := h
  refine ⟨s0, g1, ?_⟩
  rw [show (i + 1).toNat = i.toNat + 1 by omega]
  have e : mpr (i.toNat + 1) (fun j => a 35 (200 * (q + k) + ((j : Nat) : Int)).toNat) = mpr i.toNat (fun j => a 35 (200 * (q + k) + ((j : Nat) : Int)).toNat) ++ [a 35 (200 * (q + k) + ((i.toNat : Nat) : Int)).toNat] := by
    unfold mpr
    rw [List.range_succ, List.map_append]
    rfl
  have ea : iI (s1 + z) = iI s1 + iI z := Int32.ofInt_add s1 z
  rw [e, bcs_snoc, ← g2, ← hy, ea, show ((i.toNat : Nat) : Int) = i by omega, ← hx, hz]
theorem EM2.fin (h : EM2 v a q k i s1) (hk : 0 ≤ k) (h0 : 0 ≤ q + k ∧ q + k < v 36) (hw : a 34 (q + k).toNat ≤ v 31) (hi : (i = 0 ∧ a 34 (q + k).toNat ≤ 0) ∨ i = a 34 (q + k).toNat) : EM1 v a q (k + 1) s1 := fun E hE => by
  obtain ⟨s0, g1, g2⟩ := h
  rw [show (k + 1).toNat = k.toNat + 1 by omega]
  refine ⟨iI s0, g1 E hE, ?_⟩
  rw [show q + ((k.toNat : Nat) : Int) = q + k by omega]
  by_cases c0 : a 34 (q + k).toNat < 0
  · refine Or.inl ⟨hE.lack h0.1 h0.2 c0, ?_⟩
    rw [g2, show i.toNat = 0 by omega]
    rfl
  · obtain ⟨xs, e1, e2, e3⟩ := hE.have_ h0.1 h0.2 (by omega)
    refine Or.inr ⟨xs, e1, by omega, ?_⟩
    rw [g2]
    congr 1
    refine List.ext_getElem? (fun j => ?_)
    by_cases cj : j < xs.length
    · have lt : j < (mpr i.toNat (fun j => a 35 (200 * (q + k) + ((j : Nat) : Int)).toNat)).length := by rw [mpr_len]; omega
      rw [gd0_lt cj]
      have g := List.getElem?_eq_getElem lt
      rw [g]
      obtain ⟨_, m2⟩ := mpr_at g
      rw [m2, ← e3 j cj, show (200 * (q + k) + ((j : Nat) : Int)).toNat = 200 * (q + k).toNat + j by omega]
    · have l1 : (mpr i.toNat (fun j => a 35 (200 * (q + k) + ((j : Nat) : Int)).toNat)).length ≤ j := by
        rw [mpr_len]
        omega
      rw [List.getElem?_eq_none l1, List.getElem?_eq_none (show xs.length ≤ j by omega)]
theorem EMA.bad (hn : n < 0 ∨ 200 < n) (hf : f = -1) (h43 : v2 43 = v 43) : EMA v a v2 q n f := fun E hE => Or.inl ⟨hn, hf, by rw [h43]⟩
theorem EMA.ok (h : EM1 v a q k s1) (hk : k = n) (hn : 0 ≤ n ∧ n ≤ 200) (hf : f = s1) (hc : iI (v2 43) = iI (v 43) + iI k) : EMA v a v2 q n f := fun E hE => by
  have g := h E hE
  rw [hk, ← hf] at g
  rw [hk] at hc
  exact Or.inr ⟨hn, Or.inl ⟨g, hc⟩⟩
theorem EMA.stop (h : EM1 v a q k s1) (hk : 0 ≤ k ∧ k < n) (hn : n ≤ 200) (hc : iI (v2 43) = iI (v 43) + iI (k + 1)) (hx : (¬ (0 ≤ q + k ∧ q + k < v 36) ∧ f = -1) ∨ ((0 ≤ q + k ∧ q + k < v 36) ∧ v 31 < a 34 (q + k).toNat ∧ f = s1)) (h31 : 1 ≤ v 31) : EMA v a v2 q n f := fun E hE => by
  refine Or.inr ⟨⟨by omega, hn⟩, Or.inr ⟨k.toNat, iI s1, by omega, h E hE, ?_, by rw [hc, show ((k.toNat : Nat) : Int) = k by omega]⟩⟩
  unfold EMS
  rw [show q + ((k.toNat : Nat) : Int) = q + k by omega]
  rcases hx with ⟨e1, e2⟩ | ⟨e1, e2, e3⟩
  · exact Or.inl ⟨hE.off e1, e2⟩
  · obtain ⟨xs, d1, d2, _⟩ := hE.have_ e1.1 e1.2 (by omega)
    exact Or.inr ⟨xs, d1, by omega, by rw [e3]⟩
theorem cnt_s {c0 w0 w1 k z : Int} (h : iI w0 = iI c0 + iI k) (e : iI (w0 + 1) = iI z) (h2 : w1 = z) : iI w1 = iI c0 + iI (k + 1) := by
  refine hv2 (show iI (w0 + 1) = iI w0 + iI 1 from Int32.ofInt_add w0 1) (show iI (k + 1) = iI k + iI 1 from Int32.ofInt_add k 1) (fun e1 e2 => ?_)
  rw [h2, ← e, e1, h, e2, Int32.add_assoc]
theorem cnt_0 {c0 k : Int} (hk : k = 0) : iI c0 = iI c0 + iI k := by
  rw [hk]
  exact (Int32.add_zero _).symm
end EMBS
set_option maxHeartbeats 4000000 in
set_option maxRecDepth 100000 in
theorem N2_emboss {l : Launch} {G : GT} {h0 : Nat} {ad ln : Nat → Nat} {v : Nat → Int} {a : Nat → Nat → Int}  {q n1 : Int} (hB : BX v a) (hq : -2147483648 ≤ q ∧ q ≤ 2147483647) (hn1 : -2147483648 ≤ n1 ∧ n1 ≤ 2147483647) : Mm l G yX12_emboss cX12_emboss 9 (some .int) 1 [.int (iI q), .int (iI n1)] h0 ad ln v a 0 0 (fun r v2 a2 => ∃ f : Int, r = some (.int (iI f)) ∧ fr [0, 1, 43] [] v a v2 a2 ∧ BX v2 a2 ∧ (EMA v a v2 q n1 f)) := by
  refine Mm.mk (by decide) (Nat.le_of_ble_eq_true rfl) ?_
  intro p e s m args below meth c A C
  refine hv2 (show 0 ≤ v 36 ∧ v 36 ≤ 200 from hB.1 36) (show fr [0, 1, 43] [] v a v a from fr.refl) (fun r36 fp0 => ?_)
  refine m_iload_n (j := 2) C dX12_emboss_0 rfl ?_
  refine m_sipush (z := 200) C dX12_emboss_1 (by decide) ?_
  refine m_icmp_le (tgt := 14) C ⟨by omega, by omega⟩ ⟨by decide, by decide⟩ dX12_emboss_4 (by decide) (fun c1 => ?_) (fun c1 => ?_)
  · refine m_iload_n (j := 2) C dX12_emboss_14 rfl ?_
    refine m_if_ge (tgt := 24) C ⟨by omega, by omega⟩ dX12_emboss_15 (by decide) (fun c2 => ?_) (fun c2 => ?_)
    · refine m_iconst C dX12_emboss_24 ?_
      refine m_istore_n (lv2 := [(3, .int (iI 0)), (0, .ref h0), (1, .int (iI q)), (2, .int (iI n1))]) C dX12_emboss_25 (by decide) rfl ?_
      refine m_iconst C dX12_emboss_26 ?_
      refine m_istore (lv2 := [(4, .int (iI 0)), (3, .int (iI 0)), (0, .ref h0), (1, .int (iI q)), (2, .int (iI n1))]) C dX12_emboss_27 (by decide) rfl ?_
      have Lp1 : ∀ (nn : Nat) (s1 k : Int) (vb1 : Nat → Int) (ab1 : Nat → Nat → Int), 201 - k < (nn : Int) → BX vb1 ab1 → fr [0, 1, 43] [] v a vb1 ab1 → (-2147483648 ≤ s1 ∧ s1 ≤ 2147483647) → (0 ≤ k ∧ k ≤ n1) → (iI (vb1 43) = iI (v 43) + iI k) → (EM1 v a q k s1) → mw p l e (rmq 1 0 0) s m args below meth c G A 9 (MQ below (Qm G A (fun rq Lq Eq => ∃ (vq : Nat → Int) (aq : Nat → Nat → Int), mI G h0 ad ln vq aq Lq Eq ∧ (fun r v2 a2 => ∃ f : Int, r = some (.int (iI f)) ∧ fr [0, 1, 43] [] v a v2 a2 ∧ BX v2 a2 ∧ (EMA v a v2 q n1 f)) rq vq aq)) args s 0 0 A) h0 ad ln vb1 ab1 0 0 29 [(4, .int (iI k)), (3, .int (iI s1)), (0, .ref h0), (1, .int (iI q)), (2, .int (iI n1))] [] := by
        intro nn
        induction nn with
        | zero =>
          intro s1 k vb1 ab1 hm bxb1 fpb1 hs hk h43 hE
          exact absurd hm (by omega)
        | succ nn ih1 =>
          intro s1 k vb1 ab1 hm bxb1 fpb1 hs hk h43 hE
          refine m_iload (j := 0) C dX12_emboss_29 rfl ?_
          refine m_iload_n (j := 4) C dX12_emboss_31 rfl ?_
          refine m_icmp_ge (tgt := 142) C ⟨by omega, by omega⟩ ⟨by omega, by omega⟩ dX12_emboss_32 (by decide) (fun c3 => ?_) (fun c3 => ?_)
          · refine m_aload_n (j := 2) C dX12_emboss_142 rfl ?_
            refine m_iload_n (j := 1) C dX12_emboss_143 rfl ?_
            refine m_call (mc2 := 0) (ms2 := 0) (As := [.int (iI s1)]) (rest := []) C (B_fine (x := s1) bxb1 (by show -2147483648 ≤ s1 ∧ s1 ≤ 2147483647; omega)) dX12_emboss_144 kV_X12_158 rfl ck_13 rfl (Nat.le_of_ble_eq_true rfl) ⟨Nat.le_of_ble_eq_true rfl, Nat.le_of_ble_eq_true rfl⟩ ⟨Nat.le_of_ble_eq_true rfl, Nat.le_of_ble_eq_true rfl⟩ (fun rh1 vh1 ah1 h1 => ?_)
            obtain ⟨f1, rfl, fn1, bn1, ex1⟩ := h1
            refine hv2 (fpb1.call fn1 rfl rfl) (show f1 = s1 from ex1) (fun fq1 gf1 => ?_)
            refine m_st (st2 := [.int (iI f1)]) rfl ?_
            refine hv2 (show (-2147483648) ≤ vh1 43 ∧ vh1 43 ≤ 2147483647 from bn1.1 43) (show vh1 43 = vb1 43 from fn1.1 43 rfl) (fun rv1 ve1 => ?_)
            exact m_iret C dX12_emboss_147 rfl (Nat.le_of_ble_eq_true rfl) (Nat.le_of_ble_eq_true rfl) ⟨f1, rfl, fq1, bn1, (EMA.ok hE (by omega) ⟨by omega, by omega⟩ (by omega) (by rw [fn1.1 43 rfl]; exact h43))⟩
          · refine m_iload_n (j := 3) C dX12_emboss_35 rfl ?_
            refine m_i2l (w := lI q) C dX12_emboss_36 (lI_of ⟨by omega, by omega⟩) ?_
            refine m_iload (j := 0) C dX12_emboss_37 rfl ?_
            refine m_i2l (w := lI k) C dX12_emboss_39 (lI_of ⟨by omega, by omega⟩) ?_
            refine m_ladd (w := lI (q + k)) C dX12_emboss_40 (lI_add _ _) ?_
            refine m_lstore (lv2 := [(5, .long (lI (q + k))), (4, .int (iI k)), (3, .int (iI s1)), (0, .ref h0), (1, .int (iI q)), (2, .int (iI n1))]) C dX12_emboss_41 (by decide) rfl ?_
            refine m_aload_n (j := 3) C dX12_emboss_43 rfl ?_
            refine m_dup C dX12_emboss_44 rfl ?_
            have rv2 : (-2147483648) ≤ vb1 43 ∧ vb1 43 ≤ 2147483647 := bxb1.1 43
            refine m_get (k := 43) C dX12_emboss_45 w6_102 (by decide) rfl ?_
            refine m_iconst C dX12_emboss_48 ?_
            refine m_iadd C dX12_emboss_49 ?_
            obtain ⟨zz1, hzz1, ezz1⟩ := iI_of (iI ((vb1 43) + 1))
            refine m_st (st2 := [.int (iI zz1), .ref h0]) (by rw [ezz1]) ?_
            refine m_put (k := 43) (z := zz1) C dX12_emboss_50 w6_102 (by decide) rfl rfl rfl ?_
            refine hv2 (show BX (va_up vb1 43 zz1) ab1 from bxb1.put (k := 43) (z := zz1) (show (-2147483648) ≤ zz1 ∧ zz1 ≤ 2147483647 by omega)) (fpb1.put (k := 43) (z := zz1) rfl) (fun bq1 fq2 => ?_)
            refine m_lload (j := 0) C dX12_emboss_53 rfl ?_
            refine m_lconst (w := lI 0) C dX12_emboss_55 rfl ?_
            obtain ⟨lc1, hlc1, elc1⟩ := lcmp_c (x := (q + k)) (y := 0) ⟨by omega, by omega⟩ ⟨by omega, by omega⟩
            refine m_lcmp (w := iI lc1) C dX12_emboss_56 elc1 ?_
            refine m_if_lt (tgt := 71) C ⟨by omega, by omega⟩ dX12_emboss_57 (by decide) (fun c4 => ?_) (fun c4 => ?_)
            · refine m_aload_n (j := 3) C dX12_emboss_71 rfl ?_
              refine m_iconst C dX12_emboss_72 ?_
              refine m_call (mc2 := 0) (ms2 := 0) (As := [.int (iI 2)]) (rest := []) C (B_bad (x := 2) bq1 (by show -2147483648 ≤ (2 : Int) ∧ (2 : Int) ≤ 2147483647; omega)) dX12_emboss_73 kV_X12_154 rfl ck_13 rfl (Nat.le_of_ble_eq_true rfl) ⟨Nat.le_of_ble_eq_true rfl, Nat.le_of_ble_eq_true rfl⟩ ⟨Nat.le_of_ble_eq_true rfl, Nat.le_of_ble_eq_true rfl⟩ (fun rh2 vh2 ah2 h2 => ?_)
              obtain ⟨f2, rfl, fn2, bn2, ex2⟩ := h2
              refine hv2 (fq2.call fn2 rfl rfl) (show f2 = -1 from ex2) (fun fq3 gf2 => ?_)
              refine m_st (st2 := [.int (iI f2)]) rfl ?_
              refine hv2 (show (-2147483648) ≤ vh2 43 ∧ vh2 43 ≤ 2147483647 from bn2.1 43) (show vh2 43 = zz1 from fn2.1 43 rfl) (fun rv3 ve2 => ?_)
              exact m_iret C dX12_emboss_76 rfl (Nat.le_of_ble_eq_true rfl) (Nat.le_of_ble_eq_true rfl) ⟨f2, rfl, fq3, bn2, (EMA.stop hE ⟨by omega, by omega⟩ (by omega) (cnt_s h43 ezz1 ((fn2.1 43 rfl).trans (va_up_self _ _ _))) (by omega) (hB.1 31).1)⟩
            · refine m_lload (j := 0) C dX12_emboss_60 rfl ?_
              refine m_aload_n (j := 3) C dX12_emboss_62 rfl ?_
              refine hv2 (show 0 ≤ vb1 36 ∧ vb1 36 ≤ 200 from bq1.1 36) (show vb1 36 = v 36 from fpb1.1 36 rfl) (fun rv4 ve3 => ?_)
              refine m_get (k := 36) C dX12_emboss_63 w6_95 (by decide) rfl ?_
              refine m_st (st2 := [.int (iI (v 36)), .long (lI (q + k))]) (congrArg (fun z => Value.int (iI z) :: [.long (lI (q + k))]) (fq2.1 36 rfl)) ?_
              refine m_i2l (w := lI (v 36)) C dX12_emboss_66 (lI_of ⟨by omega, by omega⟩) ?_
              obtain ⟨lc2, hlc2, elc2⟩ := lcmp_c (x := (q + k)) (y := (v 36)) ⟨by omega, by omega⟩ ⟨by omega, by omega⟩
              refine m_lcmp (w := iI lc2) C dX12_emboss_67 elc2 ?_
              refine m_if_lt (tgt := 77) C ⟨by omega, by omega⟩ dX12_emboss_68 (by decide) (fun c5 => ?_) (fun c5 => ?_)
              · refine m_aload_n (j := 3) C dX12_emboss_77 rfl ?_
                refine m_geta (k := 34) C dX12_emboss_78 w6_93 (by decide) rfl ?_
                refine m_lload (j := 0) C dX12_emboss_81 rfl ?_
                refine m_l2i (w := iI (q + k)) C dX12_emboss_83 (lI_i _) ?_
                refine m_ald (k := 34) C dX12_emboss_84 rfl rfl (by decide) (by omega) (by show _ < ((_ : Nat) : Int); simp only [mlen]; omega) (by decide) ?_
                refine hv2 (show (-1) ≤ ab1 34 (q + k).toNat ∧ ab1 34 (q + k).toNat ≤ 200 from bq1.2 34 ((q + k).toNat)) (show ab1 34 ((q + k).toNat) = a 34 ((q + k).toNat) from congrFun (fpb1.2 34 rfl) ((q + k).toNat)) (fun ra1 ae1 => ?_)
                refine m_st (st2 := [.int (iI (a 34 (q + k).toNat))]) (congrArg (fun z => Value.int (iI z) :: []) (congrFun (fq2.2 34 rfl) ((q + k).toNat))) ?_
                refine m_istore (lv2 := [(7, .int (iI (a 34 (q + k).toNat))), (5, .long (lI (q + k))), (4, .int (iI k)), (3, .int (iI s1)), (0, .ref h0), (1, .int (iI q)), (2, .int (iI n1))]) C dX12_emboss_85 (by decide) rfl ?_
                refine m_iload (j := 0) C dX12_emboss_87 rfl ?_
                refine m_aload_n (j := 4) C dX12_emboss_89 rfl ?_
                refine hv2 (show 1 ≤ vb1 31 ∧ vb1 31 ≤ 100 from bq1.1 31) (show vb1 31 = v 31 from fpb1.1 31 rfl) (fun rv5 ve4 => ?_)
                refine m_get (k := 31) C dX12_emboss_90 w6_90 (by decide) rfl ?_
                refine m_st (st2 := [.int (iI (v 31)), .int (iI (a 34 (q + k).toNat))]) (congrArg (fun z => Value.int (iI z) :: [.int (iI (a 34 (q + k).toNat))]) (fq2.1 31 rfl)) ?_
                refine m_icmp_le (tgt := 99) C ⟨by omega, by omega⟩ (r32_c (lo := 1) (hi := 100) (Int.le_trans rv5.1 (Int.le_of_eq ve4)) (Int.le_trans (Int.le_of_eq ve4.symm) rv5.2) (by decide) (by decide)) dX12_emboss_93 (by decide) (fun c6 => ?_) (fun c6 => ?_)
                · refine m_iconst C dX12_emboss_99 ?_
                  refine m_istore (lv2 := [(8, .int (iI 0)), (7, .int (iI (a 34 (q + k).toNat))), (5, .long (lI (q + k))), (4, .int (iI k)), (3, .int (iI s1)), (0, .ref h0), (1, .int (iI q)), (2, .int (iI n1))]) C dX12_emboss_100 (by decide) rfl ?_
                  have Lp2 : ∀ (nn : Nat) (s2 i1 : Int) (vb2 : Nat → Int) (ab2 : Nat → Nat → Int), 201 - i1 < (nn : Int) → BX vb2 ab2 → fr [0, 1, 43] [] v a vb2 ab2 → (-2147483648 ≤ s2 ∧ s2 ≤ 2147483647) → (0 ≤ i1 ∧ i1 ≤ 200 ∧ (i1 = 0 ∨ i1 ≤ a 34 (q + k).toNat)) → (iI (vb2 43) = iI (v 43) + iI (k + 1)) → (EM2 v a q k i1 s2) → mw p l e (rmq 1 0 0) s m args below meth c G A 9 (MQ below (Qm G A (fun rq Lq Eq => ∃ (vq : Nat → Int) (aq : Nat → Nat → Int), mI G h0 ad ln vq aq Lq Eq ∧ (fun r v2 a2 => ∃ f : Int, r = some (.int (iI f)) ∧ fr [0, 1, 43] [] v a v2 a2 ∧ BX v2 a2 ∧ (EMA v a v2 q n1 f)) rq vq aq)) args s 0 0 A) h0 ad ln vb2 ab2 0 0 102 [(8, .int (iI i1)), (3, .int (iI s2)), (7, .int (iI (a 34 (q + k).toNat))), (5, .long (lI (q + k))), (4, .int (iI k)), (0, .ref h0), (1, .int (iI q)), (2, .int (iI n1))] [] := by
                    intro nn
                    induction nn with
                    | zero =>
                      intro s2 i1 vb2 ab2 hm bxb2 fpb2 hs2 hi h43b hD
                      exact absurd hm (by omega)
                    | succ nn ih2 =>
                      intro s2 i1 vb2 ab2 hm bxb2 fpb2 hs2 hi h43b hD
                      refine m_iload (j := 0) C dX12_emboss_102 rfl ?_
                      refine m_iload (j := 2) C dX12_emboss_104 rfl ?_
                      refine m_icmp_ge (tgt := 136) C (r32_c (lo := 0) (hi := 200) hi.1 hi.2.1 (by decide) (by decide)) ⟨by omega, by omega⟩ dX12_emboss_106 (by decide) (fun c7 => ?_) (fun c7 => ?_)
                      · refine m_iinc (z := k) (j := 4) (lv2 := [(4, .int (iI (k + 1))), (8, .int (iI i1)), (3, .int (iI s2)), (7, .int (iI (a 34 (q + k).toNat))), (5, .long (lI (q + k))), (0, .ref h0), (1, .int (iI q)), (2, .int (iI n1))]) C dX12_emboss_136 rfl (by decide) rfl ?_
                        refine m_goto (tgt := 29) C dX12_emboss_139 (by decide) ?_
                        have rv6 : (-2147483648) ≤ vb2 43 ∧ vb2 43 ≤ 2147483647 := bxb2.1 43
                        refine m_lv (lv2 := [(4, .int (iI (k + 1))), (3, .int (iI s2)), (0, .ref h0), (1, .int (iI q)), (2, .int (iI n1))]) [0, 2, 5, 6, 7] rfl ?_
                        exact ih1  s2 (k + 1) _ _ (by omega) bxb2 fpb2 (by omega) (by omega) h43b (EM2.fin hD (by omega) ⟨by omega, by omega⟩ (by omega) (by omega))
                      · refine m_iload_n (j := 1) C dX12_emboss_109 rfl ?_
                        refine m_aload_n (j := 5) C dX12_emboss_110 rfl ?_
                        refine m_geta (k := 35) C dX12_emboss_111 w6_94 (by decide) rfl ?_
                        refine m_sipush (z := 200) C dX12_emboss_114 (by decide) ?_
                        refine m_lload (j := 3) C dX12_emboss_117 rfl ?_
                        refine m_l2i (w := iI (q + k)) C dX12_emboss_119 (lI_i _) ?_
                        refine m_imul C dX12_emboss_120 ?_
                        refine m_iload (j := 0) C dX12_emboss_121 rfl ?_
                        refine m_iadd C dX12_emboss_123 ?_
                        refine m_ald (k := 35) C dX12_emboss_124 rfl rfl (by decide) (by omega) (by show _ < ((_ : Nat) : Int); simp only [mlen]; omega) (by decide) ?_
                        refine hv2 (show (-2147483648) ≤ ab2 35 ((200 * (q + k)) + i1).toNat ∧ ab2 35 ((200 * (q + k)) + i1).toNat ≤ 2147483647 from bxb2.2 35 (((200 * (q + k)) + i1).toNat)) (show ab2 35 (((200 * (q + k)) + i1).toNat) = a 35 (((200 * (q + k)) + i1).toNat) from congrFun (fpb2.2 35 rfl) (((200 * (q + k)) + i1).toNat)) (fun ra2 ae2 => ?_)
                        refine m_st (st2 := [.int (iI (a 35 ((200 * (q + k)) + i1).toNat)), .int (iI s2)]) (congrArg (fun z => Value.int (iI z) :: [.int (iI s2)]) (congrFun (fpb2.2 35 rfl) (((200 * (q + k)) + i1).toNat))) ?_
                        refine m_callS (As := [.int (iI (a 35 ((200 * (q + k)) + i1).toNat))]) (rest := [.int (iI s2)]) C (fun L E => s_bitCount (iI (a 35 ((200 * (q + k)) + i1).toNat))) dX12_emboss_125 kS_X12_309 rfl rfl (Nat.le_of_ble_eq_true rfl) ⟨Nat.le_of_ble_eq_true rfl, Nat.le_of_ble_eq_true rfl⟩ ⟨Nat.le_of_ble_eq_true rfl, Nat.le_of_ble_eq_true rfl⟩ ?_
                        obtain ⟨zz2, hzz2, ezz2⟩ := iI_of (bcn (iI (a 35 ((200 * (q + k)) + i1).toNat)))
                        · refine m_st (st2 := [.int (iI zz2), .int (iI s2)]) (by rw [ezz2]) ?_
                          refine m_iadd C dX12_emboss_128 ?_
                          obtain ⟨zz3, hzz3, ezz3⟩ := iI_of (iI (s2 + zz2))
                          refine m_st (st2 := [.int (iI zz3)]) (by rw [ezz3]) ?_
                          refine m_istore_n (lv2 := [(3, .int (iI zz3)), (8, .int (iI i1)), (7, .int (iI (a 34 (q + k).toNat))), (5, .long (lI (q + k))), (4, .int (iI k)), (0, .ref h0), (1, .int (iI q)), (2, .int (iI n1))]) C dX12_emboss_129 (by decide) rfl ?_
                          refine m_iinc (z := i1) (j := 1) (lv2 := [(8, .int (iI (i1 + 1))), (3, .int (iI zz3)), (7, .int (iI (a 34 (q + k).toNat))), (5, .long (lI (q + k))), (4, .int (iI k)), (0, .ref h0), (1, .int (iI q)), (2, .int (iI n1))]) C dX12_emboss_130 rfl (by decide) rfl ?_
                          refine m_goto (tgt := 102) C dX12_emboss_133 (by decide) ?_
                          have rv7 : (-2147483648) ≤ vb2 43 ∧ vb2 43 ≤ 2147483647 := bxb2.1 43
                          refine m_lv (lv2 := [(8, .int (iI (i1 + 1))), (3, .int (iI zz3)), (7, .int (iI (a 34 (q + k).toNat))), (5, .long (lI (q + k))), (4, .int (iI k)), (0, .ref h0), (1, .int (iI q)), (2, .int (iI n1))]) [0, 1, 2, 3, 4, 5, 6, 7] rfl ?_
                          exact ih2  zz3 (i1 + 1) _ _ (by omega) bxb2 fpb2 (by omega) (by omega) h43b (EM2.step hD (by omega) rfl ezz2 ezz3)
                  refine m_lv (lv2 := [(8, .int (iI 0)), (3, .int (iI s1)), (7, .int (iI (a 34 (q + k).toNat))), (5, .long (lI (q + k))), (4, .int (iI k)), (0, .ref h0), (1, .int (iI q)), (2, .int (iI n1))]) [0, 4, 1, 2, 3, 5, 6, 7] rfl ?_
                  exact Lp2 202 s1 0 _ _ (by omega) bq1 fq2 (by omega) (by omega) (cnt_s h43 ezz1 (va_up_self _ _ _)) (EM1.go hE rfl)
                · refine m_goto (tgt := 142) C dX12_emboss_96 (by decide) ?_
                  refine m_aload_n (j := 4) C dX12_emboss_142 rfl ?_
                  refine m_iload_n (j := 3) C dX12_emboss_143 rfl ?_
                  refine m_call (mc2 := 0) (ms2 := 0) (As := [.int (iI s1)]) (rest := []) C (B_fine (x := s1) bq1 (by show -2147483648 ≤ s1 ∧ s1 ≤ 2147483647; omega)) dX12_emboss_144 kV_X12_158 rfl ck_13 rfl (Nat.le_of_ble_eq_true rfl) ⟨Nat.le_of_ble_eq_true rfl, Nat.le_of_ble_eq_true rfl⟩ ⟨Nat.le_of_ble_eq_true rfl, Nat.le_of_ble_eq_true rfl⟩ (fun rh4 vh4 ah4 h4 => ?_)
                  obtain ⟨f3, rfl, fn3, bn3, ex3⟩ := h4
                  refine hv2 (fq2.call fn3 rfl rfl) (show f3 = s1 from ex3) (fun fq4 gf3 => ?_)
                  refine m_st (st2 := [.int (iI f3)]) rfl ?_
                  refine hv2 (show (-2147483648) ≤ vh4 43 ∧ vh4 43 ≤ 2147483647 from bn3.1 43) (show vh4 43 = zz1 from fn3.1 43 rfl) (fun rv8 ve5 => ?_)
                  exact m_iret C dX12_emboss_147 rfl (Nat.le_of_ble_eq_true rfl) (Nat.le_of_ble_eq_true rfl) ⟨f3, rfl, fq4, bn3, (EMA.stop hE ⟨by omega, by omega⟩ (by omega) (cnt_s h43 ezz1 ((fn3.1 43 rfl).trans (va_up_self _ _ _))) (by omega) (hB.1 31).1)⟩
              · refine m_aload_n (j := 3) C dX12_emboss_71 rfl ?_
                refine m_iconst C dX12_emboss_72 ?_
                refine m_call (mc2 := 0) (ms2 := 0) (As := [.int (iI 2)]) (rest := []) C (B_bad (x := 2) bq1 (by show -2147483648 ≤ (2 : Int) ∧ (2 : Int) ≤ 2147483647; omega)) dX12_emboss_73 kV_X12_154 rfl ck_13 rfl (Nat.le_of_ble_eq_true rfl) ⟨Nat.le_of_ble_eq_true rfl, Nat.le_of_ble_eq_true rfl⟩ ⟨Nat.le_of_ble_eq_true rfl, Nat.le_of_ble_eq_true rfl⟩ (fun rh5 vh5 ah5 h5 => ?_)
                obtain ⟨f4, rfl, fn4, bn4, ex4⟩ := h5
                refine hv2 (fq2.call fn4 rfl rfl) (show f4 = -1 from ex4) (fun fq5 gf4 => ?_)
                refine m_st (st2 := [.int (iI f4)]) rfl ?_
                refine hv2 (show (-2147483648) ≤ vh5 43 ∧ vh5 43 ≤ 2147483647 from bn4.1 43) (show vh5 43 = zz1 from fn4.1 43 rfl) (fun rv9 ve6 => ?_)
                exact m_iret C dX12_emboss_76 rfl (Nat.le_of_ble_eq_true rfl) (Nat.le_of_ble_eq_true rfl) ⟨f4, rfl, fq5, bn4, (EMA.stop hE ⟨by omega, by omega⟩ (by omega) (cnt_s h43 ezz1 ((fn4.1 43 rfl).trans (va_up_self _ _ _))) (by omega) (hB.1 31).1)⟩
      have rv10 : (-2147483648) ≤ v 43 ∧ v 43 ≤ 2147483647 := hB.1 43
      refine m_lv (lv2 := [(4, .int (iI 0)), (3, .int (iI 0)), (0, .ref h0), (1, .int (iI q)), (2, .int (iI n1))]) [0, 1, 2, 3, 4] rfl ?_
      exact Lp1 202 0 0 _ _ (by omega) hB fp0 (by omega) (by omega) (cnt_0 rfl) (EM1.zero rfl rfl)
    · refine m_aload_n (j := 0) C dX12_emboss_18 rfl ?_
      refine m_iconst C dX12_emboss_19 ?_
      refine m_call (mc2 := 0) (ms2 := 0) (As := [.int (iI 5)]) (rest := []) C (B_bad (x := 5) hB (by show -2147483648 ≤ (5 : Int) ∧ (5 : Int) ≤ 2147483647; omega)) dX12_emboss_20 kV_X12_154 rfl ck_13 rfl (Nat.le_of_ble_eq_true rfl) ⟨Nat.le_of_ble_eq_true rfl, Nat.le_of_ble_eq_true rfl⟩ ⟨Nat.le_of_ble_eq_true rfl, Nat.le_of_ble_eq_true rfl⟩ (fun rh6 vh6 ah6 h6 => ?_)
      obtain ⟨f5, rfl, fn5, bn5, ex5⟩ := h6
      refine hv2 (fp0.call fn5 rfl rfl) (show f5 = -1 from ex5) (fun fq6 gf5 => ?_)
      refine m_st (st2 := [.int (iI f5)]) rfl ?_
      refine hv2 (show (-2147483648) ≤ vh6 43 ∧ vh6 43 ≤ 2147483647 from bn5.1 43) (show vh6 43 = v 43 from fn5.1 43 rfl) (fun rv11 ve7 => ?_)
      exact m_iret C dX12_emboss_23 rfl (Nat.le_of_ble_eq_true rfl) (Nat.le_of_ble_eq_true rfl) ⟨f5, rfl, fq6, bn5, (EMA.bad (by omega) (by omega) (fn5.1 43 rfl))⟩
  · refine m_aload_n (j := 0) C dX12_emboss_7 rfl ?_
    refine m_bipush (z := 6) C dX12_emboss_8 (by decide) ?_
    refine m_call (mc2 := 0) (ms2 := 0) (As := [.int (iI 6)]) (rest := []) C (B_bad (x := 6) hB (by show -2147483648 ≤ (6 : Int) ∧ (6 : Int) ≤ 2147483647; omega)) dX12_emboss_10 kV_X12_154 rfl ck_13 rfl (Nat.le_of_ble_eq_true rfl) ⟨Nat.le_of_ble_eq_true rfl, Nat.le_of_ble_eq_true rfl⟩ ⟨Nat.le_of_ble_eq_true rfl, Nat.le_of_ble_eq_true rfl⟩ (fun rh7 vh7 ah7 h7 => ?_)
    obtain ⟨f6, rfl, fn6, bn6, ex6⟩ := h7
    refine hv2 (fp0.call fn6 rfl rfl) (show f6 = -1 from ex6) (fun fq7 gf6 => ?_)
    refine m_st (st2 := [.int (iI f6)]) rfl ?_
    refine hv2 (show (-2147483648) ≤ vh7 43 ∧ vh7 43 ≤ 2147483647 from bn6.1 43) (show vh7 43 = v 43 from fn6.1 43 rfl) (fun rv12 ve8 => ?_)
    exact m_iret C dX12_emboss_13 rfl (Nat.le_of_ble_eq_true rfl) (Nat.le_of_ble_eq_true rfl) ⟨f6, rfl, fq7, bn6, (EMA.bad (by omega) (by omega) (fn6.1 43 rfl))⟩
end
section
def opg (h t : Int) : Int := if 0 < h ∧ 2 ≤ t then t - 1 else t
def PAGX (E : List (Option (List Int))) (h t : Int) (HD : Nat → Int) (p l i f : Int) : Prop := if ¬ (0 ≤ p ∧ p < (((E.length : Nat) : Int) + opg h t - 1) / opg h t) ∨ ¬ (0 ≤ l ∧ l < t) then f = -1 else if (0 < h ∧ 2 ≤ t) ∧ l = 0 then (if 0 ≤ i ∧ i < h then f = HD i.toNat else f = -1) else CELX E (p * opg h t + (l - (if 0 < h ∧ 2 ≤ t then 1 else 0))) i f
def PGS (v : Nat → Int) (f : Int) : Prop := f = (v 36 + opg (v 41) (v 32) - 1) / opg (v 41) (v 32)
def PGA (v : Nat → Int) (a : Nat → Nat → Int) (p l i f : Int) : Prop := ∀ E, SHA v a E → PAGX E (v 41) (v 32) (a 40) p l i f
section RPAG
variable {v v1 v2 : Nat → Int} {a a1 a2 : Nat → Nat → Int} {E : List (Option (List Int))} {h t p l i f f1 f2 g x y z o k : Int} {HD : Nat → Int}
theorem opg_of (ho : (0 < h ∧ 2 ≤ t ∧ o = t - 1) ∨ (¬ (0 < h ∧ 2 ≤ t) ∧ o = t)) : o = opg h t := by
  unfold opg
  split <;> omega
theorem PAGX.uni (h1 : PAGX E h t HD p l i f1) (h2 : PAGX E h t HD p l i f2) : f1 = f2 := by
  unfold PAGX at h1 h2
  by_cases c1 : ¬ (0 ≤ p ∧ p < (((E.length : Nat) : Int) + opg h t - 1) / opg h t) ∨ ¬ (0 ≤ l ∧ l < t)
  · rw [if_pos c1] at h1 h2
    rw [h1, h2]
  · rw [if_neg c1] at h1 h2
    by_cases c2 : (0 < h ∧ 2 ≤ t) ∧ l = 0
    · rw [if_pos c2] at h1 h2
      by_cases c3 : 0 ≤ i ∧ i < h
      · rw [if_pos c3] at h1 h2
        rw [h1, h2]
      · rw [if_neg c3] at h1 h2
        rw [h1, h2]
    · rw [if_neg c2] at h1 h2
      exact CELX.uni h1 h2
theorem PAGX.out {pg : Int} (hg : pg = (((E.length : Nat) : Int) + opg h t - 1) / opg h t) (hn : ¬ (0 ≤ p ∧ p < pg) ∨ ¬ (0 ≤ l ∧ l < t)) (hf : f = -1) : PAGX E h t HD p l i f := by
  subst hg
  unfold PAGX
  rw [if_pos hn]
  exact hf
theorem PAGX.hd {pg : Int} (hg : pg = (((E.length : Nat) : Int) + opg h t - 1) / opg h t) (hp : 0 ≤ p ∧ p < pg) (hl : l = 0) (hh : 0 < h ∧ 2 ≤ t) (hi : 0 ≤ i ∧ i < h) (hf : f = HD i.toNat) : PAGX E h t HD p l i f := by
  subst hg
  unfold PAGX
  rw [if_neg (fun q => by rcases q with q | q; exact q hp; exact q ⟨by omega, by omega⟩), if_pos ⟨hh, hl⟩, if_pos hi]
  exact hf
theorem PAGX.hn {pg : Int} (hg : pg = (((E.length : Nat) : Int) + opg h t - 1) / opg h t) (hp : 0 ≤ p ∧ p < pg) (hl : l = 0) (hh : 0 < h ∧ 2 ≤ t) (hi : ¬ (0 ≤ i ∧ i < h)) (hf : f = -1) : PAGX E h t HD p l i f := by
  subst hg
  unfold PAGX
  rw [if_neg (fun q => by rcases q with q | q; exact q hp; exact q ⟨by omega, by omega⟩), if_pos ⟨hh, hl⟩, if_neg hi]
  exact hf
theorem PAGX.ce {pg : Int} (hg : pg = (((E.length : Nat) : Int) + opg h t - 1) / opg h t) (hp : 0 ≤ p ∧ p < pg) (hl : 0 ≤ l ∧ l < t) (hn : ¬ ((0 < h ∧ 2 ≤ t) ∧ l = 0)) (ho : o = opg h t) (hz : z = p * o + k) (hk : (0 < h ∧ 2 ≤ t ∧ k = l - 1) ∨ (¬ (0 < h ∧ 2 ≤ t) ∧ k = l)) (hc : CELX E z i f) : PAGX E h t HD p l i f := by
  subst hg
  unfold PAGX
  rw [if_neg (fun q => by rcases q with q | q; exact q hp; exact q hl), if_neg hn]
  have e : p * opg h t + (l - (if 0 < h ∧ 2 ≤ t then 1 else 0)) = z := by
    rw [hz, ho]
    split <;> omega
  rw [e]
  exact hc
theorem PGS.mk (h : f = (v 36 + x - 1) / y) (g1 : (0 < v 41 ∧ 2 ≤ v 32 ∧ x = v 32 - 1) ∨ (¬ (0 < v 41 ∧ 2 ≤ v 32) ∧ x = v 32)) (g2 : (0 < v 41 ∧ 2 ≤ v 32 ∧ y = v 32 - 1) ∨ (¬ (0 < v 41 ∧ 2 ≤ v 32) ∧ y = v 32)) : PGS v f := by
  unfold PGS
  rw [h, opg_of g1, opg_of g2]
theorem PGS.le (hg : PGS v x) (hE : SHA v a E) : x = (((E.length : Nat) : Int) + opg (v 41) (v 32) - 1) / opg (v 41) (v 32) := by
  rw [← hE.1]
  exact hg
theorem PGA.out (hg : PGS v x) (hn : ¬ (0 ≤ p ∧ p < x) ∨ ¬ (0 ≤ l ∧ l < v 32)) (hf : f = -1) : PGA v a p l i f := fun _ hE => PAGX.out (hg.le hE) hn hf
theorem PGA.hd (hg : PGS v x) (hp : 0 ≤ p ∧ p < x) (hl : l = 0) (hh : 0 < v 41 ∧ 2 ≤ v 32) (hi : 0 ≤ i ∧ i < v 41) (hf : f = a 40 i.toNat) : PGA v a p l i f := fun _ hE => PAGX.hd (hg.le hE) hp hl hh hi hf
theorem PGA.hn (hg : PGS v x) (hp : 0 ≤ p ∧ p < x) (hl : l = 0) (hh : 0 < v 41 ∧ 2 ≤ v 32) (hi : ¬ (0 ≤ i ∧ i < v 41)) (hf : f = -1) : PGA v a p l i f := fun _ hE => PAGX.hn (hg.le hE) hp hl hh hi hf
theorem PGA.ce (hg : PGS v x) (hp : 0 ≤ p ∧ p < x) (hl : 0 ≤ l ∧ l < v 32) (hn : ¬ ((0 < v 41 ∧ 2 ≤ v 32) ∧ l = 0)) (ho : (0 < v 41 ∧ 2 ≤ v 32 ∧ o = v 32 - 1) ∨ (¬ (0 < v 41 ∧ 2 ≤ v 32) ∧ o = v 32)) (hz : z = p * o + k) (hk : (0 < v 41 ∧ 2 ≤ v 32 ∧ k = l - 1) ∨ (¬ (0 < v 41 ∧ 2 ≤ v 32) ∧ k = l)) (hc : CLA v a z i f) : PGA v a p l i f := fun _ hE => PAGX.ce (hg.le hE) hp hl hn (opg_of ho) hz hk (hc _ hE)
theorem mulb (h1 : 0 ≤ p ∧ p ≤ 249) (h2 : 0 ≤ o ∧ o ≤ 50) : 0 ≤ p * o ∧ p * o ≤ 12450 := by
  refine ⟨Int.mul_nonneg h1.1 h2.1, ?_⟩
  have e1 : p * o ≤ 249 * o := Int.mul_le_mul_of_nonneg_right h1.2 h2.1
  omega
theorem wrp1 (e : iI (l - 1) = iI z) (hz : -2147483648 ≤ z ∧ z ≤ 2147483647) (hl : -2147483648 ≤ l ∧ l ≤ 2147483647) : (z = l - 1 ∧ -2147483648 < l) ∨ (l = -2147483648 ∧ z = 2147483647) := by
  by_cases c : l = -2147483648
  · refine Or.inr ⟨c, ?_⟩
    subst c
    have e2 := congrArg Int32.toInt e
    rw [iI_int (z := z) ⟨by omega, by omega⟩] at e2
    rw [← e2]
    decide
  · refine Or.inl ⟨?_, by omega⟩
    have e2 := congrArg Int32.toInt e
    rw [iI_int ⟨by omega, by omega⟩, iI_int ⟨by omega, by omega⟩] at e2
    omega
end RPAG
set_option maxHeartbeats 4000000 in
set_option maxRecDepth 100000 in
theorem E_hasHead {l : Launch} {G : GT} {h0 : Nat} {ad ln : Nat → Nat} {v : Nat → Int} {a : Nat → Nat → Int}  (hB : BX v a)  : Mm l G yX12_hasHead cX12_hasHead 1 (some .boolean) 0 [] h0 ad ln v a 0 0 (fun r v2 a2 => ∃ f : Int, r = some (.int (iI f)) ∧ fr [] [] v a v2 a2 ∧ BX v2 a2 ∧ ((f = 1 ∧ 0 < v 41 ∧ 2 ≤ v 32) ∨ (f = 0 ∧ ¬ (0 < v 41 ∧ 2 ≤ v 32)))) := by
  refine Mm.mk (by decide) (Nat.le_of_ble_eq_true rfl) ?_
  intro p e s m args below meth c A C
  have fp0 : fr [] [] v a v a := fr.refl
  refine m_aload_n (j := 0) C dX12_hasHead_0 rfl ?_
  have rv1 : 0 ≤ v 41 ∧ v 41 ≤ 200 := hB.1 41
  refine m_get (k := 41) C dX12_hasHead_1 w6_100 (by decide) rfl ?_
  refine m_if_le (tgt := 19) C (r32_c (lo := 0) (hi := 200) rv1.1 rv1.2 (by decide) (by decide)) dX12_hasHead_4 (by decide) (fun c1 => ?_) (fun c1 => ?_)
  · refine m_iconst C dX12_hasHead_19 ?_
    exact m_zret C dX12_hasHead_20 rfl (Or.inl rfl) (Nat.le_of_ble_eq_true rfl) (Nat.le_of_ble_eq_true rfl) ⟨0, rfl, fp0, hB, (by omega)⟩
  · refine m_aload_n (j := 0) C dX12_hasHead_7 rfl ?_
    have rv2 : 1 ≤ v 32 ∧ v 32 ≤ 50 := hB.1 32
    refine m_get (k := 32) C dX12_hasHead_8 w6_91 (by decide) rfl ?_
    refine m_iconst C dX12_hasHead_11 ?_
    refine m_icmp_lt (tgt := 19) C (r32_c (lo := 1) (hi := 50) rv2.1 rv2.2 (by decide) (by decide)) ⟨by decide, by decide⟩ dX12_hasHead_12 (by decide) (fun c2 => ?_) (fun c2 => ?_)
    · refine m_iconst C dX12_hasHead_19 ?_
      exact m_zret C dX12_hasHead_20 rfl (Or.inl rfl) (Nat.le_of_ble_eq_true rfl) (Nat.le_of_ble_eq_true rfl) ⟨0, rfl, fp0, hB, (by omega)⟩
    · refine m_iconst C dX12_hasHead_15 ?_
      refine m_goto (tgt := 20) C dX12_hasHead_16 (by decide) ?_
      exact m_zret C dX12_hasHead_20 rfl (Or.inr rfl) (Nat.le_of_ble_eq_true rfl) (Nat.le_of_ble_eq_true rfl) ⟨1, rfl, fp0, hB, (by omega)⟩
set_option maxHeartbeats 4000000 in
set_option maxRecDepth 100000 in
theorem E_onPage {l : Launch} {G : GT} {h0 : Nat} {ad ln : Nat → Nat} {v : Nat → Int} {a : Nat → Nat → Int}  (hB : BX v a)  : Mm l G yX12_onPage cX12_onPage 1 (some .int) 1 [] h0 ad ln v a 0 0 (fun r v2 a2 => ∃ f : Int, r = some (.int (iI f)) ∧ fr [] [] v a v2 a2 ∧ BX v2 a2 ∧ ((0 < v 41 ∧ 2 ≤ v 32 ∧ f = v 32 - 1) ∨ (¬ (0 < v 41 ∧ 2 ≤ v 32) ∧ f = v 32))) := by
  refine Mm.mk (by decide) (Nat.le_of_ble_eq_true rfl) ?_
  intro p e s m args below meth c A C
  have fp0 : fr [] [] v a v a := fr.refl
  refine m_aload_n (j := 0) C dX12_onPage_0 rfl ?_
  refine hv2 (show 0 ≤ v 41 ∧ v 41 ≤ 200 from hB.1 41) (show 1 ≤ v 32 ∧ v 32 ≤ 50 from hB.1 32) (fun rv1 rv2 => ?_)
  refine m_call (mc2 := 0) (ms2 := 0) (As := []) (rest := []) C (E_hasHead  hB ) dX12_onPage_1 kV_X12_288 rfl ck_13 rfl (Nat.le_of_ble_eq_true rfl) ⟨Nat.le_of_ble_eq_true rfl, Nat.le_of_ble_eq_true rfl⟩ ⟨Nat.le_of_ble_eq_true rfl, Nat.le_of_ble_eq_true rfl⟩ (fun rh1 vh1 ah1 h1 => ?_)
  obtain ⟨f1, rfl, fn1, bn1, ex1⟩ := h1
  obtain ⟨rfl, rfl⟩ := fn1.eq
  have gf1 : (f1 = 1 ∧ 0 < (v 41) ∧ 2 ≤ (v 32)) ∨ (f1 = 0 ∧ ¬ (0 < (v 41) ∧ 2 ≤ (v 32))) := ex1
  refine m_st (st2 := [.int (iI f1)]) rfl ?_
  refine m_if_eq (tgt := 16) C (r32_qp gf1) dX12_onPage_4 (by decide) (fun c1 => ?_) (fun c1 => ?_)
  · replace gf1 := (gf1.resolve_left (fun q => absurd (q.1.symm.trans c1) (by decide)))
    refine m_aload_n (j := 0) C dX12_onPage_16 rfl ?_
    refine m_get (k := 32) C dX12_onPage_17 w6_91 (by decide) rfl ?_
    exact m_iret C dX12_onPage_20 rfl (Nat.le_of_ble_eq_true rfl) (Nat.le_of_ble_eq_true rfl) ⟨(v 32), rfl, fp0, hB, (by omega)⟩
  · replace gf1 := (gf1.resolve_right (fun q => c1 q.1))
    refine m_aload_n (j := 0) C dX12_onPage_7 rfl ?_
    refine m_get (k := 32) C dX12_onPage_8 w6_91 (by decide) rfl ?_
    refine m_iconst C dX12_onPage_11 ?_
    refine m_isub C dX12_onPage_12 ?_
    refine m_goto (tgt := 20) C dX12_onPage_13 (by decide) ?_
    exact m_iret C dX12_onPage_20 rfl (Nat.le_of_ble_eq_true rfl) (Nat.le_of_ble_eq_true rfl) ⟨((v 32) - 1), rfl, fp0, hB, (by omega)⟩
set_option maxHeartbeats 4000000 in
set_option maxRecDepth 100000 in
theorem E_pages {l : Launch} {G : GT} {h0 : Nat} {ad ln : Nat → Nat} {v : Nat → Int} {a : Nat → Nat → Int}  (hB : BX v a)  : Mm l G yX12_pages cX12_pages 1 (some .int) 2 [] h0 ad ln v a 0 0 (fun r v2 a2 => ∃ f : Int, r = some (.int (iI f)) ∧ fr [] [] v a v2 a2 ∧ BX v2 a2 ∧ ((0 ≤ f ∧ f ≤ 249) ∧ PGS v f)) := by
  refine Mm.mk (by decide) (Nat.le_of_ble_eq_true rfl) ?_
  intro p e s m args below meth c A C
  refine hv3 (show 1 ≤ v 32 ∧ v 32 ≤ 50 from hB.1 32) (show 0 ≤ v 36 ∧ v 36 ≤ 200 from hB.1 36) (show fr [] [] v a v a from fr.refl) (fun r32 r36 fp0 => ?_)
  refine m_aload_n (j := 0) C dX12_pages_0 rfl ?_
  have rv1 : 0 ≤ v 36 ∧ v 36 ≤ 200 := hB.1 36
  refine m_get (k := 36) C dX12_pages_1 w6_95 (by decide) rfl ?_
  refine m_aload_n (j := 0) C dX12_pages_4 rfl ?_
  refine hv2 (show 0 ≤ v 41 ∧ v 41 ≤ 200 from hB.1 41) (show 1 ≤ v 32 ∧ v 32 ≤ 50 from hB.1 32) (fun rv2 rv3 => ?_)
  refine m_call (mc2 := 0) (ms2 := 0) (As := []) (rest := [.int (iI (v 36))]) C (E_onPage  hB ) dX12_pages_5 kV_X12_291 rfl ck_13 rfl (Nat.le_of_ble_eq_true rfl) ⟨Nat.le_of_ble_eq_true rfl, Nat.le_of_ble_eq_true rfl⟩ ⟨Nat.le_of_ble_eq_true rfl, Nat.le_of_ble_eq_true rfl⟩ (fun rh1 vh1 ah1 h1 => ?_)
  obtain ⟨f1, rfl, fn1, bn1, ex1⟩ := h1
  obtain ⟨rfl, rfl⟩ := fn1.eq
  have gf1 : (0 < (v 41) ∧ 2 ≤ (v 32) ∧ f1 = (v 32) - 1) ∨ (¬ (0 < (v 41) ∧ 2 ≤ (v 32)) ∧ f1 = (v 32)) := ex1
  refine m_st (st2 := [.int (iI f1), .int (iI (v 36))]) rfl ?_
  refine m_iadd C dX12_pages_8 ?_
  refine m_iconst C dX12_pages_9 ?_
  refine m_isub C dX12_pages_10 ?_
  refine m_aload_n (j := 0) C dX12_pages_11 rfl ?_
  refine m_call (mc2 := 0) (ms2 := 0) (As := []) (rest := [.int (iI (((v 36) + f1) - 1))]) C (E_onPage  hB ) dX12_pages_12 kV_X12_291 rfl ck_13 rfl (Nat.le_of_ble_eq_true rfl) ⟨Nat.le_of_ble_eq_true rfl, Nat.le_of_ble_eq_true rfl⟩ ⟨Nat.le_of_ble_eq_true rfl, Nat.le_of_ble_eq_true rfl⟩ (fun rh2 vh2 ah2 h2 => ?_)
  obtain ⟨f2, rfl, fn2, bn2, ex2⟩ := h2
  obtain ⟨rfl, rfl⟩ := fn2.eq
  have gf2 : (0 < (v 41) ∧ 2 ≤ (v 32) ∧ f2 = (v 32) - 1) ∨ (¬ (0 < (v 41) ∧ 2 ≤ (v 32)) ∧ f2 = (v 32)) := ex2
  refine m_st (st2 := [.int (iI f2), .int (iI (((v 36) + f1) - 1))]) rfl ?_
  obtain ⟨dq1, hdq1⟩ : ∃ q : Int, q = (((v 36) + f1) - 1) / f2 := ⟨_, rfl⟩
  have rdq1 := ediv_r (x := ((v 36) + f1) - 1) (y := f2) (by omega) (by omega)
  rw [← hdq1] at rdq1
  refine m_idiv (w := iI dq1) C dX12_pages_15 (iI_ne0 ⟨by omega, by omega⟩) (by rw [hdq1]; exact iI_div ⟨by omega, by omega⟩ ⟨by omega, by omega⟩) ?_
  exact m_iret C dX12_pages_16 rfl (Nat.le_of_ble_eq_true rfl) (Nat.le_of_ble_eq_true rfl) ⟨dq1, rfl, fp0, hB, ⟨by omega, PGS.mk hdq1 gf1 gf2⟩⟩
set_option maxHeartbeats 4000000 in
set_option maxRecDepth 100000 in
theorem N2_page {l : Launch} {G : GT} {h0 : Nat} {ad ln : Nat → Nat} {v : Nat → Int} {a : Nat → Nat → Int}  {q w1 i : Int} (hB : BX v a) (hq : -2147483648 ≤ q ∧ q ≤ 2147483647) (hw1 : -2147483648 ≤ w1 ∧ w1 ≤ 2147483647) (hi : -2147483648 ≤ i ∧ i ≤ 2147483647) : Mm l G yX12_page cX12_page 5 (some .int) 3 [.int (iI q), .int (iI w1), .int (iI i)] h0 ad ln v a 0 0 (fun r v2 a2 => ∃ f : Int, r = some (.int (iI f)) ∧ fr [0, 1] [] v a v2 a2 ∧ BX v2 a2 ∧ (PGA v a q w1 i f)) := by
  refine Mm.mk (by decide) (Nat.le_of_ble_eq_true rfl) ?_
  intro p e s m args below meth c A C
  refine hv2 (show 1 ≤ v 32 ∧ v 32 ≤ 50 from hB.1 32) (show fr [0, 1] [] v a v a from fr.refl) (fun r32 fp0 => ?_)
  refine m_iload_n (j := 1) C dX12_page_0 rfl ?_
  refine m_iconst C dX12_page_1 ?_
  refine m_aload_n (j := 0) C dX12_page_2 rfl ?_
  refine m_call (mc2 := 0) (ms2 := 0) (As := []) (rest := [.int (iI 0), .int (iI q)]) C (E_pages  hB ) dX12_page_3 kV_X12_297 rfl ck_13 rfl (Nat.le_of_ble_eq_true rfl) ⟨Nat.le_of_ble_eq_true rfl, Nat.le_of_ble_eq_true rfl⟩ ⟨Nat.le_of_ble_eq_true rfl, Nat.le_of_ble_eq_true rfl⟩ (fun rh1 vh1 ah1 h1 => ?_)
  obtain ⟨f1, rfl, fn1, bn1, ex1⟩ := h1
  obtain ⟨rfl, rfl⟩ := fn1.eq
  obtain ⟨ex1, tl1⟩ := ex1
  have gf1 : 0 ≤ f1 ∧ f1 ≤ 249 := ex1
  refine m_st (st2 := [.int (iI f1), .int (iI 0), .int (iI q)]) rfl ?_
  refine m_iconst C dX12_page_6 ?_
  refine m_isub C dX12_page_7 ?_
  refine m_callS (As := [.int (iI q), .int (iI 0), .int (iI (f1 - 1))]) (rest := []) C (fun L E => s_isIn (iI q) (iI 0) (iI (f1 - 1))) dX12_page_8 kS_X12_174 rfl rfl (Nat.le_of_ble_eq_true rfl) ⟨Nat.le_of_ble_eq_true rfl, Nat.le_of_ble_eq_true rfl⟩ ⟨Nat.le_of_ble_eq_true rfl, Nat.le_of_ble_eq_true rfl⟩ ?_
  rcases inn_c (x := q) (lo := 0) (hi := f1 - 1) ⟨by omega, by omega⟩ ⟨by decide, by decide⟩ ⟨by omega, by omega⟩ with ⟨h2a, h2b, h2e⟩ | ⟨h2a, h2e⟩
  · refine m_st (st2 := [.int (iI 1)]) (by rw [h2e]) ?_
    refine m_if_ne (tgt := 20) C ⟨by decide, by decide⟩ dX12_page_11 (by decide) (fun _ => ?_) (fun z => absurd z (by omega))
    refine m_aload_n (j := 0) C dX12_page_20 rfl ?_
    refine hv2 (show 0 ≤ v 41 ∧ v 41 ≤ 200 from hB.1 41) (show 1 ≤ v 32 ∧ v 32 ≤ 50 from hB.1 32) (fun rv1 rv2 => ?_)
    refine m_call (mc2 := 0) (ms2 := 0) (As := []) (rest := []) C (E_hasHead  hB ) dX12_page_21 kV_X12_288 rfl ck_13 rfl (Nat.le_of_ble_eq_true rfl) ⟨Nat.le_of_ble_eq_true rfl, Nat.le_of_ble_eq_true rfl⟩ ⟨Nat.le_of_ble_eq_true rfl, Nat.le_of_ble_eq_true rfl⟩ (fun rh3 vh3 ah3 h3 => ?_)
    obtain ⟨f2, rfl, fn2, bn2, ex2⟩ := h3
    obtain ⟨rfl, rfl⟩ := fn2.eq
    have gf2 : (f2 = 1 ∧ 0 < (v 41) ∧ 2 ≤ (v 32)) ∨ (f2 = 0 ∧ ¬ (0 < (v 41) ∧ 2 ≤ (v 32))) := ex2
    refine m_st (st2 := [.int (iI f2)]) rfl ?_
    refine m_if_eq (tgt := 64) C (r32_qp gf2) dX12_page_24 (by decide) (fun c1 => ?_) (fun c1 => ?_)
    · replace gf2 := (gf2.resolve_left (fun q => absurd (q.1.symm.trans c1) (by decide)))
      refine m_aload_n (j := 0) C dX12_page_64 rfl ?_
      refine m_call (mc2 := 0) (ms2 := 0) (As := []) (rest := []) C (E_hasHead  hB ) dX12_page_65 kV_X12_288 rfl ck_13 rfl (Nat.le_of_ble_eq_true rfl) ⟨Nat.le_of_ble_eq_true rfl, Nat.le_of_ble_eq_true rfl⟩ ⟨Nat.le_of_ble_eq_true rfl, Nat.le_of_ble_eq_true rfl⟩ (fun rh4 vh4 ah4 h4 => ?_)
      obtain ⟨f3, rfl, fn3, bn3, ex3⟩ := h4
      obtain ⟨rfl, rfl⟩ := fn3.eq
      have gf3 : (f3 = 1 ∧ 0 < (v 41) ∧ 2 ≤ (v 32)) ∨ (f3 = 0 ∧ ¬ (0 < (v 41) ∧ 2 ≤ (v 32))) := ex3
      refine m_st (st2 := [.int (iI f3)]) rfl ?_
      refine m_if_eq (tgt := 77) C (r32_qp gf3) dX12_page_68 (by decide) (fun c2 => ?_) (fun c2 => ?_)
      · replace gf3 := (gf3.resolve_left (fun q => absurd (q.1.symm.trans c2) (by decide)))
        refine m_iload_n (j := 2) C dX12_page_77 rfl ?_
        refine m_istore (lv2 := [(4, .int (iI w1)), (0, .ref h0), (1, .int (iI q)), (2, .int (iI w1)), (3, .int (iI i))]) C dX12_page_78 (by decide) rfl ?_
        refine m_iload (j := 0) C dX12_page_80 rfl ?_
        refine m_iconst C dX12_page_82 ?_
        refine m_aload_n (j := 1) C dX12_page_83 rfl ?_
        refine m_call (mc2 := 0) (ms2 := 0) (As := []) (rest := [.int (iI 0), .int (iI w1)]) C (E_onPage  hB ) dX12_page_84 kV_X12_291 rfl ck_13 rfl (Nat.le_of_ble_eq_true rfl) ⟨Nat.le_of_ble_eq_true rfl, Nat.le_of_ble_eq_true rfl⟩ ⟨Nat.le_of_ble_eq_true rfl, Nat.le_of_ble_eq_true rfl⟩ (fun rh5 vh5 ah5 h5 => ?_)
        obtain ⟨f4, rfl, fn4, bn4, ex4⟩ := h5
        obtain ⟨rfl, rfl⟩ := fn4.eq
        have gf4 : (0 < (v 41) ∧ 2 ≤ (v 32) ∧ f4 = (v 32) - 1) ∨ (¬ (0 < (v 41) ∧ 2 ≤ (v 32)) ∧ f4 = (v 32)) := ex4
        refine m_st (st2 := [.int (iI f4), .int (iI 0), .int (iI w1)]) rfl ?_
        refine m_iconst C dX12_page_87 ?_
        refine m_isub C dX12_page_88 ?_
        refine m_callS (As := [.int (iI w1), .int (iI 0), .int (iI (f4 - 1))]) (rest := []) C (fun L E => s_isIn (iI w1) (iI 0) (iI (f4 - 1))) dX12_page_89 kS_X12_174 rfl rfl (Nat.le_of_ble_eq_true rfl) ⟨Nat.le_of_ble_eq_true rfl, Nat.le_of_ble_eq_true rfl⟩ ⟨Nat.le_of_ble_eq_true rfl, Nat.le_of_ble_eq_true rfl⟩ ?_
        rcases inn_c (x := w1) (lo := 0) (hi := f4 - 1) ⟨by omega, by omega⟩ ⟨by decide, by decide⟩ ⟨by omega, by omega⟩ with ⟨h6a, h6b, h6e⟩ | ⟨h6a, h6e⟩
        · refine m_st (st2 := [.int (iI 1)]) (by rw [h6e]) ?_
          refine m_if_ne (tgt := 101) C ⟨by decide, by decide⟩ dX12_page_92 (by decide) (fun _ => ?_) (fun z => absurd z (by omega))
          refine m_aload_n (j := 1) C dX12_page_101 rfl ?_
          refine m_iload_n (j := 2) C dX12_page_102 rfl ?_
          refine m_aload_n (j := 1) C dX12_page_103 rfl ?_
          refine m_call (mc2 := 0) (ms2 := 0) (As := []) (rest := [.int (iI q), .ref h0]) C (E_onPage  hB ) dX12_page_104 kV_X12_291 rfl ck_13 rfl (Nat.le_of_ble_eq_true rfl) ⟨Nat.le_of_ble_eq_true rfl, Nat.le_of_ble_eq_true rfl⟩ ⟨Nat.le_of_ble_eq_true rfl, Nat.le_of_ble_eq_true rfl⟩ (fun rh7 vh7 ah7 h7 => ?_)
          obtain ⟨f5, rfl, fn5, bn5, ex5⟩ := h7
          obtain ⟨rfl, rfl⟩ := fn5.eq
          have gf5 : (0 < (v 41) ∧ 2 ≤ (v 32) ∧ f5 = (v 32) - 1) ∨ (¬ (0 < (v 41) ∧ 2 ≤ (v 32)) ∧ f5 = (v 32)) := ex5
          refine m_st (st2 := [.int (iI f5), .int (iI q), .ref h0]) rfl ?_
          have mb9 := mulb (p := q) (o := f5) ⟨by omega, by omega⟩ ⟨by omega, by omega⟩
          refine m_imul C dX12_page_107 ?_
          refine m_iload (j := 0) C dX12_page_108 rfl ?_
          refine m_iadd C dX12_page_110 ?_
          refine m_iload_n (j := 4) C dX12_page_111 rfl ?_
          refine m_call (mc2 := 0) (ms2 := 0) (As := [.int (iI ((q * f5) + w1)), .int (iI i)]) (rest := []) C (N2_cell (l0 := (q * f5) + w1) (i := i) hB (by show -2147483648 ≤ ((q * f5) + w1) ∧ ((q * f5) + w1) ≤ 2147483647; omega) (by show -2147483648 ≤ i ∧ i ≤ 2147483647; omega)) dX12_page_112 kV_X12_300 rfl ck_13 rfl (Nat.le_of_ble_eq_true rfl) ⟨Nat.le_of_ble_eq_true rfl, Nat.le_of_ble_eq_true rfl⟩ ⟨Nat.le_of_ble_eq_true rfl, Nat.le_of_ble_eq_true rfl⟩ (fun rh8 vh8 ah8 h8 => ?_)
          obtain ⟨f6, rfl, fn6, bn6, ex6⟩ := h8
          refine hv2 (fp0.call fn6 rfl rfl) (ex6) (fun fq6 tl2 => ?_)
          refine m_st (st2 := [.int (iI f6)]) rfl ?_
          exact m_iret C dX12_page_115 rfl (Nat.le_of_ble_eq_true rfl) (Nat.le_of_ble_eq_true rfl) ⟨f6, rfl, fq6, bn6, (PGA.ce tl1 ⟨by omega, by omega⟩ ⟨by omega, by omega⟩ (by omega) gf5 rfl (by omega) tl2)⟩
        · refine m_st (st2 := [.int (iI 0)]) (by rw [h6e]) ?_
          refine m_if_ne (tgt := 101) C ⟨by decide, by decide⟩ dX12_page_92 (by decide) (fun z => absurd z (by omega)) (fun _ => ?_)
          refine m_aload_n (j := 1) C dX12_page_95 rfl ?_
          refine m_iconst C dX12_page_96 ?_
          refine m_call (mc2 := 0) (ms2 := 0) (As := [.int (iI 2)]) (rest := []) C (B_bad (x := 2) hB (by show -2147483648 ≤ (2 : Int) ∧ (2 : Int) ≤ 2147483647; omega)) dX12_page_97 kV_X12_154 rfl ck_13 rfl (Nat.le_of_ble_eq_true rfl) ⟨Nat.le_of_ble_eq_true rfl, Nat.le_of_ble_eq_true rfl⟩ ⟨Nat.le_of_ble_eq_true rfl, Nat.le_of_ble_eq_true rfl⟩ (fun rh9 vh9 ah9 h9 => ?_)
          obtain ⟨f7, rfl, fn7, bn7, ex7⟩ := h9
          refine hv2 (fp0.call fn7 rfl rfl) (show f7 = -1 from ex7) (fun fq7 gf7 => ?_)
          refine m_st (st2 := [.int (iI f7)]) rfl ?_
          exact m_iret C dX12_page_100 rfl (Nat.le_of_ble_eq_true rfl) (Nat.le_of_ble_eq_true rfl) ⟨f7, rfl, fq7, bn7, (PGA.out tl1 (by omega) (by omega))⟩
      · replace gf3 := (gf3.resolve_right (fun q => c2 q.1))
        refine m_iload_n (j := 2) C dX12_page_71 rfl ?_
        refine m_iconst C dX12_page_72 ?_
        refine m_isub C dX12_page_73 ?_
        refine m_goto (tgt := 78) C dX12_page_74 (by decide) ?_
        obtain ⟨zz1, hzz1, ezz1⟩ := iI_of (iI (w1 - 1))
        refine m_st (st2 := [.int (iI zz1)]) (by rw [ezz1]) ?_
        have wzzz1 := wrp1 (l := w1) ezz1 ⟨by omega, by omega⟩ ⟨by omega, by omega⟩
        refine m_istore (lv2 := [(4, .int (iI zz1)), (0, .ref h0), (1, .int (iI q)), (2, .int (iI w1)), (3, .int (iI i))]) C dX12_page_78 (by decide) rfl ?_
        refine m_iload (j := 0) C dX12_page_80 rfl ?_
        refine m_iconst C dX12_page_82 ?_
        refine m_aload_n (j := 1) C dX12_page_83 rfl ?_
        refine m_call (mc2 := 0) (ms2 := 0) (As := []) (rest := [.int (iI 0), .int (iI zz1)]) C (E_onPage  hB ) dX12_page_84 kV_X12_291 rfl ck_13 rfl (Nat.le_of_ble_eq_true rfl) ⟨Nat.le_of_ble_eq_true rfl, Nat.le_of_ble_eq_true rfl⟩ ⟨Nat.le_of_ble_eq_true rfl, Nat.le_of_ble_eq_true rfl⟩ (fun rh10 vh10 ah10 h10 => ?_)
        obtain ⟨f8, rfl, fn8, bn8, ex8⟩ := h10
        obtain ⟨rfl, rfl⟩ := fn8.eq
        have gf8 : (0 < (v 41) ∧ 2 ≤ (v 32) ∧ f8 = (v 32) - 1) ∨ (¬ (0 < (v 41) ∧ 2 ≤ (v 32)) ∧ f8 = (v 32)) := ex8
        refine m_st (st2 := [.int (iI f8), .int (iI 0), .int (iI zz1)]) rfl ?_
        refine m_iconst C dX12_page_87 ?_
        refine m_isub C dX12_page_88 ?_
        refine m_callS (As := [.int (iI zz1), .int (iI 0), .int (iI (f8 - 1))]) (rest := []) C (fun L E => s_isIn (iI zz1) (iI 0) (iI (f8 - 1))) dX12_page_89 kS_X12_174 rfl rfl (Nat.le_of_ble_eq_true rfl) ⟨Nat.le_of_ble_eq_true rfl, Nat.le_of_ble_eq_true rfl⟩ ⟨Nat.le_of_ble_eq_true rfl, Nat.le_of_ble_eq_true rfl⟩ ?_
        rcases inn_c (x := zz1) (lo := 0) (hi := f8 - 1) ⟨by omega, by omega⟩ ⟨by decide, by decide⟩ ⟨by omega, by omega⟩ with ⟨h11a, h11b, h11e⟩ | ⟨h11a, h11e⟩
        · refine m_st (st2 := [.int (iI 1)]) (by rw [h11e]) ?_
          refine m_if_ne (tgt := 101) C ⟨by decide, by decide⟩ dX12_page_92 (by decide) (fun _ => ?_) (fun z => absurd z (by omega))
          refine m_aload_n (j := 1) C dX12_page_101 rfl ?_
          refine m_iload_n (j := 2) C dX12_page_102 rfl ?_
          refine m_aload_n (j := 1) C dX12_page_103 rfl ?_
          refine m_call (mc2 := 0) (ms2 := 0) (As := []) (rest := [.int (iI q), .ref h0]) C (E_onPage  hB ) dX12_page_104 kV_X12_291 rfl ck_13 rfl (Nat.le_of_ble_eq_true rfl) ⟨Nat.le_of_ble_eq_true rfl, Nat.le_of_ble_eq_true rfl⟩ ⟨Nat.le_of_ble_eq_true rfl, Nat.le_of_ble_eq_true rfl⟩ (fun rh12 vh12 ah12 h12 => ?_)
          obtain ⟨f9, rfl, fn9, bn9, ex9⟩ := h12
          obtain ⟨rfl, rfl⟩ := fn9.eq
          have gf9 : (0 < (v 41) ∧ 2 ≤ (v 32) ∧ f9 = (v 32) - 1) ∨ (¬ (0 < (v 41) ∧ 2 ≤ (v 32)) ∧ f9 = (v 32)) := ex9
          refine m_st (st2 := [.int (iI f9), .int (iI q), .ref h0]) rfl ?_
          have mb9 := mulb (p := q) (o := f9) ⟨by omega, by omega⟩ ⟨by omega, by omega⟩
          refine m_imul C dX12_page_107 ?_
          refine m_iload (j := 0) C dX12_page_108 rfl ?_
          refine m_iadd C dX12_page_110 ?_
          refine m_iload_n (j := 4) C dX12_page_111 rfl ?_
          refine m_call (mc2 := 0) (ms2 := 0) (As := [.int (iI ((q * f9) + zz1)), .int (iI i)]) (rest := []) C (N2_cell (l0 := (q * f9) + zz1) (i := i) hB (by show -2147483648 ≤ ((q * f9) + zz1) ∧ ((q * f9) + zz1) ≤ 2147483647; omega) (by show -2147483648 ≤ i ∧ i ≤ 2147483647; omega)) dX12_page_112 kV_X12_300 rfl ck_13 rfl (Nat.le_of_ble_eq_true rfl) ⟨Nat.le_of_ble_eq_true rfl, Nat.le_of_ble_eq_true rfl⟩ ⟨Nat.le_of_ble_eq_true rfl, Nat.le_of_ble_eq_true rfl⟩ (fun rh13 vh13 ah13 h13 => ?_)
          obtain ⟨f10, rfl, fn10, bn10, ex10⟩ := h13
          refine hv2 (fp0.call fn10 rfl rfl) (ex10) (fun fq10 tl3 => ?_)
          refine m_st (st2 := [.int (iI f10)]) rfl ?_
          exact m_iret C dX12_page_115 rfl (Nat.le_of_ble_eq_true rfl) (Nat.le_of_ble_eq_true rfl) ⟨f10, rfl, fq10, bn10, (PGA.ce tl1 ⟨by omega, by omega⟩ ⟨by omega, by omega⟩ (by omega) gf9 rfl (by omega) tl3)⟩
        · refine m_st (st2 := [.int (iI 0)]) (by rw [h11e]) ?_
          refine m_if_ne (tgt := 101) C ⟨by decide, by decide⟩ dX12_page_92 (by decide) (fun z => absurd z (by omega)) (fun _ => ?_)
          refine m_aload_n (j := 1) C dX12_page_95 rfl ?_
          refine m_iconst C dX12_page_96 ?_
          refine m_call (mc2 := 0) (ms2 := 0) (As := [.int (iI 2)]) (rest := []) C (B_bad (x := 2) hB (by show -2147483648 ≤ (2 : Int) ∧ (2 : Int) ≤ 2147483647; omega)) dX12_page_97 kV_X12_154 rfl ck_13 rfl (Nat.le_of_ble_eq_true rfl) ⟨Nat.le_of_ble_eq_true rfl, Nat.le_of_ble_eq_true rfl⟩ ⟨Nat.le_of_ble_eq_true rfl, Nat.le_of_ble_eq_true rfl⟩ (fun rh14 vh14 ah14 h14 => ?_)
          obtain ⟨f11, rfl, fn11, bn11, ex11⟩ := h14
          refine hv2 (fp0.call fn11 rfl rfl) (show f11 = -1 from ex11) (fun fq11 gf11 => ?_)
          refine m_st (st2 := [.int (iI f11)]) rfl ?_
          exact m_iret C dX12_page_100 rfl (Nat.le_of_ble_eq_true rfl) (Nat.le_of_ble_eq_true rfl) ⟨f11, rfl, fq11, bn11, (PGA.out tl1 (by omega) (by omega))⟩
    · replace gf2 := (gf2.resolve_right (fun q => c1 q.1))
      refine m_iload_n (j := 2) C dX12_page_27 rfl ?_
      refine m_if_ne (tgt := 64) C ⟨by omega, by omega⟩ dX12_page_28 (by decide) (fun c3 => ?_) (fun c3 => ?_)
      · refine m_aload_n (j := 0) C dX12_page_64 rfl ?_
        refine m_call (mc2 := 0) (ms2 := 0) (As := []) (rest := []) C (E_hasHead  hB ) dX12_page_65 kV_X12_288 rfl ck_13 rfl (Nat.le_of_ble_eq_true rfl) ⟨Nat.le_of_ble_eq_true rfl, Nat.le_of_ble_eq_true rfl⟩ ⟨Nat.le_of_ble_eq_true rfl, Nat.le_of_ble_eq_true rfl⟩ (fun rh15 vh15 ah15 h15 => ?_)
        obtain ⟨f12, rfl, fn12, bn12, ex12⟩ := h15
        obtain ⟨rfl, rfl⟩ := fn12.eq
        have gf12 : (f12 = 1 ∧ 0 < (v 41) ∧ 2 ≤ (v 32)) ∨ (f12 = 0 ∧ ¬ (0 < (v 41) ∧ 2 ≤ (v 32))) := ex12
        refine m_st (st2 := [.int (iI f12)]) rfl ?_
        refine m_if_eq (tgt := 77) C (r32_qp gf12) dX12_page_68 (by decide) (fun c4 => ?_) (fun c4 => ?_)
        · replace gf12 := (gf12.resolve_left (fun q => absurd (q.1.symm.trans c4) (by decide)))
          refine m_iload_n (j := 2) C dX12_page_77 rfl ?_
          refine m_istore (lv2 := [(4, .int (iI w1)), (0, .ref h0), (1, .int (iI q)), (2, .int (iI w1)), (3, .int (iI i))]) C dX12_page_78 (by decide) rfl ?_
          refine m_iload (j := 0) C dX12_page_80 rfl ?_
          refine m_iconst C dX12_page_82 ?_
          refine m_aload_n (j := 1) C dX12_page_83 rfl ?_
          refine m_call (mc2 := 0) (ms2 := 0) (As := []) (rest := [.int (iI 0), .int (iI w1)]) C (E_onPage  hB ) dX12_page_84 kV_X12_291 rfl ck_13 rfl (Nat.le_of_ble_eq_true rfl) ⟨Nat.le_of_ble_eq_true rfl, Nat.le_of_ble_eq_true rfl⟩ ⟨Nat.le_of_ble_eq_true rfl, Nat.le_of_ble_eq_true rfl⟩ (fun rh16 vh16 ah16 h16 => ?_)
          obtain ⟨f13, rfl, fn13, bn13, ex13⟩ := h16
          obtain ⟨rfl, rfl⟩ := fn13.eq
          have gf13 : (0 < (v 41) ∧ 2 ≤ (v 32) ∧ f13 = (v 32) - 1) ∨ (¬ (0 < (v 41) ∧ 2 ≤ (v 32)) ∧ f13 = (v 32)) := ex13
          refine m_st (st2 := [.int (iI f13), .int (iI 0), .int (iI w1)]) rfl ?_
          refine m_iconst C dX12_page_87 ?_
          refine m_isub C dX12_page_88 ?_
          refine m_callS (As := [.int (iI w1), .int (iI 0), .int (iI (f13 - 1))]) (rest := []) C (fun L E => s_isIn (iI w1) (iI 0) (iI (f13 - 1))) dX12_page_89 kS_X12_174 rfl rfl (Nat.le_of_ble_eq_true rfl) ⟨Nat.le_of_ble_eq_true rfl, Nat.le_of_ble_eq_true rfl⟩ ⟨Nat.le_of_ble_eq_true rfl, Nat.le_of_ble_eq_true rfl⟩ ?_
          rcases inn_c (x := w1) (lo := 0) (hi := f13 - 1) ⟨by omega, by omega⟩ ⟨by decide, by decide⟩ ⟨by omega, by omega⟩ with ⟨h17a, h17b, h17e⟩ | ⟨h17a, h17e⟩
          · refine m_st (st2 := [.int (iI 1)]) (by rw [h17e]) ?_
            refine m_if_ne (tgt := 101) C ⟨by decide, by decide⟩ dX12_page_92 (by decide) (fun _ => ?_) (fun z => absurd z (by omega))
            refine m_aload_n (j := 1) C dX12_page_101 rfl ?_
            refine m_iload_n (j := 2) C dX12_page_102 rfl ?_
            refine m_aload_n (j := 1) C dX12_page_103 rfl ?_
            refine m_call (mc2 := 0) (ms2 := 0) (As := []) (rest := [.int (iI q), .ref h0]) C (E_onPage  hB ) dX12_page_104 kV_X12_291 rfl ck_13 rfl (Nat.le_of_ble_eq_true rfl) ⟨Nat.le_of_ble_eq_true rfl, Nat.le_of_ble_eq_true rfl⟩ ⟨Nat.le_of_ble_eq_true rfl, Nat.le_of_ble_eq_true rfl⟩ (fun rh18 vh18 ah18 h18 => ?_)
            obtain ⟨f14, rfl, fn14, bn14, ex14⟩ := h18
            obtain ⟨rfl, rfl⟩ := fn14.eq
            have gf14 : (0 < (v 41) ∧ 2 ≤ (v 32) ∧ f14 = (v 32) - 1) ∨ (¬ (0 < (v 41) ∧ 2 ≤ (v 32)) ∧ f14 = (v 32)) := ex14
            refine m_st (st2 := [.int (iI f14), .int (iI q), .ref h0]) rfl ?_
            have mb9 := mulb (p := q) (o := f14) ⟨by omega, by omega⟩ ⟨by omega, by omega⟩
            refine m_imul C dX12_page_107 ?_
            refine m_iload (j := 0) C dX12_page_108 rfl ?_
            refine m_iadd C dX12_page_110 ?_
            refine m_iload_n (j := 4) C dX12_page_111 rfl ?_
            refine m_call (mc2 := 0) (ms2 := 0) (As := [.int (iI ((q * f14) + w1)), .int (iI i)]) (rest := []) C (N2_cell (l0 := (q * f14) + w1) (i := i) hB (by show -2147483648 ≤ ((q * f14) + w1) ∧ ((q * f14) + w1) ≤ 2147483647; omega) (by show -2147483648 ≤ i ∧ i ≤ 2147483647; omega)) dX12_page_112 kV_X12_300 rfl ck_13 rfl (Nat.le_of_ble_eq_true rfl) ⟨Nat.le_of_ble_eq_true rfl, Nat.le_of_ble_eq_true rfl⟩ ⟨Nat.le_of_ble_eq_true rfl, Nat.le_of_ble_eq_true rfl⟩ (fun rh19 vh19 ah19 h19 => ?_)
            obtain ⟨f15, rfl, fn15, bn15, ex15⟩ := h19
            refine hv2 (fp0.call fn15 rfl rfl) (ex15) (fun fq15 tl4 => ?_)
            refine m_st (st2 := [.int (iI f15)]) rfl ?_
            exact m_iret C dX12_page_115 rfl (Nat.le_of_ble_eq_true rfl) (Nat.le_of_ble_eq_true rfl) ⟨f15, rfl, fq15, bn15, (PGA.ce tl1 ⟨by omega, by omega⟩ ⟨by omega, by omega⟩ (by omega) gf14 rfl (by omega) tl4)⟩
          · refine m_st (st2 := [.int (iI 0)]) (by rw [h17e]) ?_
            refine m_if_ne (tgt := 101) C ⟨by decide, by decide⟩ dX12_page_92 (by decide) (fun z => absurd z (by omega)) (fun _ => ?_)
            refine m_aload_n (j := 1) C dX12_page_95 rfl ?_
            refine m_iconst C dX12_page_96 ?_
            refine m_call (mc2 := 0) (ms2 := 0) (As := [.int (iI 2)]) (rest := []) C (B_bad (x := 2) hB (by show -2147483648 ≤ (2 : Int) ∧ (2 : Int) ≤ 2147483647; omega)) dX12_page_97 kV_X12_154 rfl ck_13 rfl (Nat.le_of_ble_eq_true rfl) ⟨Nat.le_of_ble_eq_true rfl, Nat.le_of_ble_eq_true rfl⟩ ⟨Nat.le_of_ble_eq_true rfl, Nat.le_of_ble_eq_true rfl⟩ (fun rh20 vh20 ah20 h20 => ?_)
            obtain ⟨f16, rfl, fn16, bn16, ex16⟩ := h20
            refine hv2 (fp0.call fn16 rfl rfl) (show f16 = -1 from ex16) (fun fq16 gf16 => ?_)
            refine m_st (st2 := [.int (iI f16)]) rfl ?_
            exact m_iret C dX12_page_100 rfl (Nat.le_of_ble_eq_true rfl) (Nat.le_of_ble_eq_true rfl) ⟨f16, rfl, fq16, bn16, (PGA.out tl1 (by omega) (by omega))⟩
        · replace gf12 := (gf12.resolve_right (fun q => c4 q.1))
          refine m_iload_n (j := 2) C dX12_page_71 rfl ?_
          refine m_iconst C dX12_page_72 ?_
          refine m_isub C dX12_page_73 ?_
          refine m_goto (tgt := 78) C dX12_page_74 (by decide) ?_
          obtain ⟨zz2, hzz2, ezz2⟩ := iI_of (iI (w1 - 1))
          refine m_st (st2 := [.int (iI zz2)]) (by rw [ezz2]) ?_
          have wzzz2 := wrp1 (l := w1) ezz2 ⟨by omega, by omega⟩ ⟨by omega, by omega⟩
          refine m_istore (lv2 := [(4, .int (iI zz2)), (0, .ref h0), (1, .int (iI q)), (2, .int (iI w1)), (3, .int (iI i))]) C dX12_page_78 (by decide) rfl ?_
          refine m_iload (j := 0) C dX12_page_80 rfl ?_
          refine m_iconst C dX12_page_82 ?_
          refine m_aload_n (j := 1) C dX12_page_83 rfl ?_
          refine m_call (mc2 := 0) (ms2 := 0) (As := []) (rest := [.int (iI 0), .int (iI zz2)]) C (E_onPage  hB ) dX12_page_84 kV_X12_291 rfl ck_13 rfl (Nat.le_of_ble_eq_true rfl) ⟨Nat.le_of_ble_eq_true rfl, Nat.le_of_ble_eq_true rfl⟩ ⟨Nat.le_of_ble_eq_true rfl, Nat.le_of_ble_eq_true rfl⟩ (fun rh21 vh21 ah21 h21 => ?_)
          obtain ⟨f17, rfl, fn17, bn17, ex17⟩ := h21
          obtain ⟨rfl, rfl⟩ := fn17.eq
          have gf17 : (0 < (v 41) ∧ 2 ≤ (v 32) ∧ f17 = (v 32) - 1) ∨ (¬ (0 < (v 41) ∧ 2 ≤ (v 32)) ∧ f17 = (v 32)) := ex17
          refine m_st (st2 := [.int (iI f17), .int (iI 0), .int (iI zz2)]) rfl ?_
          refine m_iconst C dX12_page_87 ?_
          refine m_isub C dX12_page_88 ?_
          refine m_callS (As := [.int (iI zz2), .int (iI 0), .int (iI (f17 - 1))]) (rest := []) C (fun L E => s_isIn (iI zz2) (iI 0) (iI (f17 - 1))) dX12_page_89 kS_X12_174 rfl rfl (Nat.le_of_ble_eq_true rfl) ⟨Nat.le_of_ble_eq_true rfl, Nat.le_of_ble_eq_true rfl⟩ ⟨Nat.le_of_ble_eq_true rfl, Nat.le_of_ble_eq_true rfl⟩ ?_
          rcases inn_c (x := zz2) (lo := 0) (hi := f17 - 1) ⟨by omega, by omega⟩ ⟨by decide, by decide⟩ ⟨by omega, by omega⟩ with ⟨h22a, h22b, h22e⟩ | ⟨h22a, h22e⟩
          · refine m_st (st2 := [.int (iI 1)]) (by rw [h22e]) ?_
            refine m_if_ne (tgt := 101) C ⟨by decide, by decide⟩ dX12_page_92 (by decide) (fun _ => ?_) (fun z => absurd z (by omega))
            refine m_aload_n (j := 1) C dX12_page_101 rfl ?_
            refine m_iload_n (j := 2) C dX12_page_102 rfl ?_
            refine m_aload_n (j := 1) C dX12_page_103 rfl ?_
            refine m_call (mc2 := 0) (ms2 := 0) (As := []) (rest := [.int (iI q), .ref h0]) C (E_onPage  hB ) dX12_page_104 kV_X12_291 rfl ck_13 rfl (Nat.le_of_ble_eq_true rfl) ⟨Nat.le_of_ble_eq_true rfl, Nat.le_of_ble_eq_true rfl⟩ ⟨Nat.le_of_ble_eq_true rfl, Nat.le_of_ble_eq_true rfl⟩ (fun rh23 vh23 ah23 h23 => ?_)
            obtain ⟨f18, rfl, fn18, bn18, ex18⟩ := h23
            obtain ⟨rfl, rfl⟩ := fn18.eq
            have gf18 : (0 < (v 41) ∧ 2 ≤ (v 32) ∧ f18 = (v 32) - 1) ∨ (¬ (0 < (v 41) ∧ 2 ≤ (v 32)) ∧ f18 = (v 32)) := ex18
            refine m_st (st2 := [.int (iI f18), .int (iI q), .ref h0]) rfl ?_
            have mb9 := mulb (p := q) (o := f18) ⟨by omega, by omega⟩ ⟨by omega, by omega⟩
            refine m_imul C dX12_page_107 ?_
            refine m_iload (j := 0) C dX12_page_108 rfl ?_
            refine m_iadd C dX12_page_110 ?_
            refine m_iload_n (j := 4) C dX12_page_111 rfl ?_
            refine m_call (mc2 := 0) (ms2 := 0) (As := [.int (iI ((q * f18) + zz2)), .int (iI i)]) (rest := []) C (N2_cell (l0 := (q * f18) + zz2) (i := i) hB (by show -2147483648 ≤ ((q * f18) + zz2) ∧ ((q * f18) + zz2) ≤ 2147483647; omega) (by show -2147483648 ≤ i ∧ i ≤ 2147483647; omega)) dX12_page_112 kV_X12_300 rfl ck_13 rfl (Nat.le_of_ble_eq_true rfl) ⟨Nat.le_of_ble_eq_true rfl, Nat.le_of_ble_eq_true rfl⟩ ⟨Nat.le_of_ble_eq_true rfl, Nat.le_of_ble_eq_true rfl⟩ (fun rh24 vh24 ah24 h24 => ?_)
            obtain ⟨f19, rfl, fn19, bn19, ex19⟩ := h24
            refine hv2 (fp0.call fn19 rfl rfl) (ex19) (fun fq19 tl5 => ?_)
            refine m_st (st2 := [.int (iI f19)]) rfl ?_
            exact m_iret C dX12_page_115 rfl (Nat.le_of_ble_eq_true rfl) (Nat.le_of_ble_eq_true rfl) ⟨f19, rfl, fq19, bn19, (PGA.ce tl1 ⟨by omega, by omega⟩ ⟨by omega, by omega⟩ (by omega) gf18 rfl (by omega) tl5)⟩
          · refine m_st (st2 := [.int (iI 0)]) (by rw [h22e]) ?_
            refine m_if_ne (tgt := 101) C ⟨by decide, by decide⟩ dX12_page_92 (by decide) (fun z => absurd z (by omega)) (fun _ => ?_)
            refine m_aload_n (j := 1) C dX12_page_95 rfl ?_
            refine m_iconst C dX12_page_96 ?_
            refine m_call (mc2 := 0) (ms2 := 0) (As := [.int (iI 2)]) (rest := []) C (B_bad (x := 2) hB (by show -2147483648 ≤ (2 : Int) ∧ (2 : Int) ≤ 2147483647; omega)) dX12_page_97 kV_X12_154 rfl ck_13 rfl (Nat.le_of_ble_eq_true rfl) ⟨Nat.le_of_ble_eq_true rfl, Nat.le_of_ble_eq_true rfl⟩ ⟨Nat.le_of_ble_eq_true rfl, Nat.le_of_ble_eq_true rfl⟩ (fun rh25 vh25 ah25 h25 => ?_)
            obtain ⟨f20, rfl, fn20, bn20, ex20⟩ := h25
            refine hv2 (fp0.call fn20 rfl rfl) (show f20 = -1 from ex20) (fun fq20 gf20 => ?_)
            refine m_st (st2 := [.int (iI f20)]) rfl ?_
            exact m_iret C dX12_page_100 rfl (Nat.le_of_ble_eq_true rfl) (Nat.le_of_ble_eq_true rfl) ⟨f20, rfl, fq20, bn20, (PGA.out tl1 (by omega) (by omega))⟩
      · refine m_iload_n (j := 3) C dX12_page_31 rfl ?_
        refine m_iconst C dX12_page_32 ?_
        refine m_aload_n (j := 0) C dX12_page_33 rfl ?_
        refine m_get (k := 41) C dX12_page_34 w6_100 (by decide) rfl ?_
        refine m_iconst C dX12_page_37 ?_
        refine m_isub C dX12_page_38 ?_
        refine m_callS (As := [.int (iI i), .int (iI 0), .int (iI ((v 41) - 1))]) (rest := []) C (fun L E => s_isIn (iI i) (iI 0) (iI ((v 41) - 1))) dX12_page_39 kS_X12_174 rfl rfl (Nat.le_of_ble_eq_true rfl) ⟨Nat.le_of_ble_eq_true rfl, Nat.le_of_ble_eq_true rfl⟩ ⟨Nat.le_of_ble_eq_true rfl, Nat.le_of_ble_eq_true rfl⟩ ?_
        rcases inn_c (x := i) (lo := 0) (hi := (v 41) - 1) ⟨by omega, by omega⟩ ⟨by decide, by decide⟩ ⟨by omega, by omega⟩ with ⟨h26a, h26b, h26e⟩ | ⟨h26a, h26e⟩
        · refine m_st (st2 := [.int (iI 1)]) (by rw [h26e]) ?_
          refine m_if_eq (tgt := 58) C ⟨by decide, by decide⟩ dX12_page_42 (by decide) (fun z => absurd z (by omega)) (fun _ => ?_)
          refine m_aload_n (j := 0) C dX12_page_45 rfl ?_
          refine m_aload_n (j := 0) C dX12_page_46 rfl ?_
          refine m_geta (k := 40) C dX12_page_47 w6_99 (by decide) rfl ?_
          refine m_iload_n (j := 3) C dX12_page_50 rfl ?_
          refine m_ald (k := 40) C dX12_page_51 rfl rfl (by decide) (by omega) (by show _ < ((_ : Nat) : Int); simp only [mlen]; omega) (by decide) ?_
          have ra1 : (-2147483648) ≤ a 40 i.toNat ∧ a 40 i.toNat ≤ 2147483647 := hB.2 40 (i.toNat)
          refine m_call (mc2 := 0) (ms2 := 0) (As := [.int (iI (a 40 i.toNat))]) (rest := []) C (B_fine (x := a 40 i.toNat) hB (by show -2147483648 ≤ (a 40 i.toNat) ∧ (a 40 i.toNat) ≤ 2147483647; omega)) dX12_page_52 kV_X12_158 rfl ck_13 rfl (Nat.le_of_ble_eq_true rfl) ⟨Nat.le_of_ble_eq_true rfl, Nat.le_of_ble_eq_true rfl⟩ ⟨Nat.le_of_ble_eq_true rfl, Nat.le_of_ble_eq_true rfl⟩ (fun rh27 vh27 ah27 h27 => ?_)
          obtain ⟨f21, rfl, fn21, bn21, ex21⟩ := h27
          refine hv2 (fp0.call fn21 rfl rfl) (show f21 = (a 40 i.toNat) from ex21) (fun fq21 gf21 => ?_)
          refine m_st (st2 := [.int (iI f21)]) rfl ?_
          refine m_goto (tgt := 63) C dX12_page_55 (by decide) ?_
          exact m_iret C dX12_page_63 rfl (Nat.le_of_ble_eq_true rfl) (Nat.le_of_ble_eq_true rfl) ⟨f21, rfl, fq21, bn21, (PGA.hd tl1 ⟨by omega, by omega⟩ (by omega) ⟨by omega, by omega⟩ ⟨by omega, by omega⟩ (by omega))⟩
        · refine m_st (st2 := [.int (iI 0)]) (by rw [h26e]) ?_
          refine m_if_eq (tgt := 58) C ⟨by decide, by decide⟩ dX12_page_42 (by decide) (fun _ => ?_) (fun z => absurd z (by omega))
          refine m_aload_n (j := 0) C dX12_page_58 rfl ?_
          refine m_iconst C dX12_page_59 ?_
          refine m_call (mc2 := 0) (ms2 := 0) (As := [.int (iI 2)]) (rest := []) C (B_bad (x := 2) hB (by show -2147483648 ≤ (2 : Int) ∧ (2 : Int) ≤ 2147483647; omega)) dX12_page_60 kV_X12_154 rfl ck_13 rfl (Nat.le_of_ble_eq_true rfl) ⟨Nat.le_of_ble_eq_true rfl, Nat.le_of_ble_eq_true rfl⟩ ⟨Nat.le_of_ble_eq_true rfl, Nat.le_of_ble_eq_true rfl⟩ (fun rh28 vh28 ah28 h28 => ?_)
          obtain ⟨f22, rfl, fn22, bn22, ex22⟩ := h28
          refine hv2 (fp0.call fn22 rfl rfl) (show f22 = -1 from ex22) (fun fq22 gf22 => ?_)
          refine m_st (st2 := [.int (iI f22)]) rfl ?_
          exact m_iret C dX12_page_63 rfl (Nat.le_of_ble_eq_true rfl) (Nat.le_of_ble_eq_true rfl) ⟨f22, rfl, fq22, bn22, (PGA.hn tl1 ⟨by omega, by omega⟩ (by omega) ⟨by omega, by omega⟩ (by omega) (by omega))⟩
  · refine m_st (st2 := [.int (iI 0)]) (by rw [h2e]) ?_
    refine m_if_ne (tgt := 20) C ⟨by decide, by decide⟩ dX12_page_11 (by decide) (fun z => absurd z (by omega)) (fun _ => ?_)
    refine m_aload_n (j := 0) C dX12_page_14 rfl ?_
    refine m_iconst C dX12_page_15 ?_
    refine m_call (mc2 := 0) (ms2 := 0) (As := [.int (iI 2)]) (rest := []) C (B_bad (x := 2) hB (by show -2147483648 ≤ (2 : Int) ∧ (2 : Int) ≤ 2147483647; omega)) dX12_page_16 kV_X12_154 rfl ck_13 rfl (Nat.le_of_ble_eq_true rfl) ⟨Nat.le_of_ble_eq_true rfl, Nat.le_of_ble_eq_true rfl⟩ ⟨Nat.le_of_ble_eq_true rfl, Nat.le_of_ble_eq_true rfl⟩ (fun rh29 vh29 ah29 h29 => ?_)
    obtain ⟨f23, rfl, fn23, bn23, ex23⟩ := h29
    refine hv2 (fp0.call fn23 rfl rfl) (show f23 = -1 from ex23) (fun fq23 gf23 => ?_)
    refine m_st (st2 := [.int (iI f23)]) rfl ?_
    exact m_iret C dX12_page_19 rfl (Nat.le_of_ble_eq_true rfl) (Nat.le_of_ble_eq_true rfl) ⟨f23, rfl, fq23, bn23, (PGA.out tl1 (by omega) (by omega))⟩
def HD4 (v : Nat → Int) (a : Nat → Nat → Int) (v1 : Nat → Int) (a1 : Nat → Nat → Int) (t : Int) : Prop := ∃ cs, SWC a (a 2) (v 3) t cs ∧ MDH v1 a1 cs
def HD5 (v : Nat → Int) (a : Nat → Nat → Int) (v1 : Nat → Int) (a1 : Nat → Nat → Int) (t k : Int) : Prop := ∃ cs, SWC a (a 2) (v 3) t cs ∧ MDH v1 a1 cs ∧ ((((cs.length : Nat) : Int) ≤ v 31 ∧ v1 41 = ((cs.length : Nat) : Int)) ∨ (v 31 < ((cs.length : Nat) : Int) ∧ v1 41 = v 31)) ∧ ∀ j : Nat, ((j : Nat) : Int) < k → a1 40 j = (cs[j]?).getD 0
def HDT (v : Nat → Int) (a : Nat → Nat → Int) (v2 : Nat → Int) (a2 : Nat → Nat → Int) (t f : Int) : Prop := (f = -1 ∧ v2 41 = v 41 ∧ a2 40 = a 40) ∨ (0 ≤ f ∧ v2 41 = f ∧ ∃ cs, SWC a (a 2) (v 3) t cs ∧ ∀ j : Nat, ((j : Nat) : Int) < f → a2 40 j = (cs[j]?).getD 0)
section HED4
variable {v v1 v2 v3 : Nat → Int} {a a1 a2 a3 : Nat → Nat → Int} {t k f n z y : Int} {i : Nat}
theorem HD4.set (hs : SWT v1 a1 v2 a2 t f) (e : f = 1) (hE : TBE a1 a) (hw : WDK (a1 20) (a 2) n) (hn : n = v 3) (h23 : v1 23 = v 3) (h12 : ∀ i, 0 ≤ a 12 i) : HD4 v a v2 a2 t := by
  subst hn
  obtain ⟨cs, g1, g2⟩ := hs.2.1 e
  rw [h23] at g1
  exact ⟨cs, SWC_w hw h12 (SWC_cg hE g1), g2⟩
theorem HD4.nil (hT : TBL v a) (ht : 0 ≤ t ∧ t < v 4) (hn : v 3 = 0) (hm : v1 25 = 0) : HD4 v a v1 a1 t := ⟨[], by rw [hn]; exact SWC.nil hT ht, hm, fun j x e => by simp at e⟩
theorem HD4.go (h : HD4 v a v1 a1 t) (hm : z = v1 25) (hz : (y = z ∧ z ≤ v 31) ∨ (y = v 31 ∧ v 31 < z)) (h41 : v2 41 = y) (h25 : v2 25 = v1 25) (h24 : a2 24 = a1 24) : HD5 v a v2 a2 t 0 := by
  obtain ⟨cs, h1, h2⟩ := h
  have e := h2.1
  refine ⟨cs, h1, h2.fr h25 h24, by omega, fun j hj => absurd hj (by omega)⟩
theorem HD5.step (h : HD5 v a v1 a1 t k) (hk : 0 ≤ k ∧ k < v1 41) : HD5 v a v1 (up2 a1 40 k.toNat (a1 24 k.toNat)) t (k + 1) := by
  obtain ⟨cs, h1, h2, h3, h4⟩ := h
  have e := h2.1
  refine ⟨cs, h1, h2.fr rfl (funext fun _ => up2_k (by decide)), h3, fun j hj => ?_⟩
  by_cases c : ((j : Nat) : Int) < k
  · rw [up2_j (by omega)]
    exact h4 j c
  · rw [show j = k.toNat by omega, up2_s]
    exact h2.g (by omega)
theorem HDT.ok (h : HD5 v a v1 a1 t k) (hk : v1 41 ≤ k) (hf : f = v1 41) (h31 : 0 ≤ v 31) (h41 : v2 41 = v1 41) (h40 : a2 40 = a1 40) : HDT v a v2 a2 t f := by
  obtain ⟨cs, h1, h2, h3, h4⟩ := h
  refine Or.inr ⟨by omega, by omega, cs, h1, fun j hj => ?_⟩
  rw [h40]
  exact h4 j (by omega)
theorem HD5.hdr (h : HD5 v a v1 a1 t k) : HDR v a t (v1 41) := by
  obtain ⟨cs, h1, h2, h3, h4⟩ := h
  exact ⟨cs, h1, by omega⟩
end HED4
set_option maxHeartbeats 4000000 in
set_option maxRecDepth 100000 in
theorem N3_head {l : Launch} {G : GT} {h0 : Nat} {ad ln : Nat → Nat} {v : Nat → Int} {a : Nat → Nat → Int}  {t : Int} (hB : BX v a) (hT : TBL v a) (ht : -2147483648 ≤ t ∧ t ≤ 2147483647) : Mm l G yX12_head cX12_head 5 (some .int) 66 [.int (iI t)] h0 ad ln v a 0 0 (fun r v2 a2 => ∃ f : Int, r = some (.int (iI f)) ∧ fr [0, 1, 3, 23, 25, 28, 41] [20, 21, 24, 26, 27, 40] v a v2 a2 ∧ BX v2 a2 ∧ ((v2 3 = 0) ∧ HDS v a t f ∧ HDT v a v2 a2 t f)) := by
  refine Mm.mk (by decide) (Nat.le_of_ble_eq_true rfl) ?_
  intro p e s m args below meth c A C
  refine hv3 (show 0 ≤ v 4 ∧ v 4 ≤ 30 from hB.1 4) (show 1 ≤ v 31 ∧ v 31 ≤ 100 from hB.1 31) (show fr [0, 1, 3, 23, 25, 28, 41] [20, 21, 24, 26, 27, 40] v a v a from fr.refl) (fun h30 r31 fp0 => ?_)
  refine m_aload_n (j := 0) C dX12_head_0 rfl ?_
  have rv1 : 0 ≤ v 3 ∧ v 3 ≤ 3000 := hB.1 3
  refine m_call (mc2 := 0) (ms2 := 0) (As := []) (rest := []) C (B_taken  hB ) dX12_head_1 kV_X12_192 rfl ck_13 rfl (Nat.le_of_ble_eq_true rfl) ⟨Nat.le_of_ble_eq_true rfl, Nat.le_of_ble_eq_true rfl⟩ ⟨Nat.le_of_ble_eq_true rfl, Nat.le_of_ble_eq_true rfl⟩ (fun rh1 vh1 ah1 h1 => ?_)
  obtain ⟨f1, rfl, fn1, bn1, ex1⟩ := h1
  refine hv3 (fp0.call fn1 rfl rfl) (show 0 ≤ vh1 3 ∧ vh1 3 ≤ 3000 from bn1.1 3) (show f1 = (v 3) ∧ (vh1 3) = 0 from ex1) (fun fq1 rv2 gf1 => ?_)
  refine m_st (st2 := [.int (iI f1)]) rfl ?_
  refine m_istore_n (lv2 := [(2, .int (iI f1)), (0, .ref h0), (1, .int (iI t))]) C dX12_head_4 (by decide) rfl ?_
  refine m_iload_n (j := 0) C dX12_head_5 rfl ?_
  refine m_bipush (z := 40) C dX12_head_6 (by decide) ?_
  have J1 : ∀ (g : Int) (vb1 : Nat → Int) (ab1 : Nat → Nat → Int), BX vb1 ab1 → fr [0, 1, 3, 23, 25, 28, 41] [20, 21, 24, 26, 27, 40] v a vb1 ab1 → (g = 0 ∨ (g = 1 ∧ f1 ≤ 40)) → (vb1 3 = 0) → (g = 1 ↔ f1 ≤ 40) → (vb1 41 = v 41 ∧ ab1 40 = a 40) → mw p l e (rmq 66 0 0) s m args below meth c G A 5 (MQ below (Qm G A (fun rq Lq Eq => ∃ (vq : Nat → Int) (aq : Nat → Nat → Int), mI G h0 ad ln vq aq Lq Eq ∧ (fun r v2 a2 => ∃ f : Int, r = some (.int (iI f)) ∧ fr [0, 1, 3, 23, 25, 28, 41] [20, 21, 24, 26, 27, 40] v a v2 a2 ∧ BX v2 a2 ∧ ((v2 3 = 0) ∧ HDS v a t f ∧ HDT v a v2 a2 t f)) rq vq aq)) args s 0 0 A) h0 ad ln vb1 ab1 0 0 16 [(2, .int (iI f1)), (0, .ref h0), (1, .int (iI t))] [.int (iI g)] := by
    intro g vb1 ab1 bxb1 fpb1 hg hz31 hgi hK16
    refine m_istore_n (lv2 := [(3, .int (iI g)), (2, .int (iI f1)), (0, .ref h0), (1, .int (iI t))]) C dX12_head_16 (by decide) rfl ?_
    refine m_iconst C dX12_head_17 ?_
    refine m_istore (lv2 := [(4, .int (iI 0)), (3, .int (iI g)), (2, .int (iI f1)), (0, .ref h0), (1, .int (iI t))]) C dX12_head_18 (by decide) rfl ?_
    have Lp1 : ∀ (nn : Nat) (g1 k : Int) (vb2 : Nat → Int) (ab2 : Nat → Nat → Int), 3001 - k < (nn : Int) → BX vb2 ab2 → fr [0, 1, 3, 23, 25, 28, 41] [20, 21, 24, 26, 27, 40] v a vb2 ab2 → (g1 = 0 ∨ (g1 = 1 ∧ f1 ≤ 40)) → (0 ≤ k ∧ k ≤ f1) → (vb2 3 = 0) → (TLG (a 2) f1 k g1) → (vb2 41 = v 41 ∧ ab2 40 = a 40) → mw p l e (rmq 66 0 0) s m args below meth c G A 5 (MQ below (Qm G A (fun rq Lq Eq => ∃ (vq : Nat → Int) (aq : Nat → Nat → Int), mI G h0 ad ln vq aq Lq Eq ∧ (fun r v2 a2 => ∃ f : Int, r = some (.int (iI f)) ∧ fr [0, 1, 3, 23, 25, 28, 41] [20, 21, 24, 26, 27, 40] v a v2 a2 ∧ BX v2 a2 ∧ ((v2 3 = 0) ∧ HDS v a t f ∧ HDT v a v2 a2 t f)) rq vq aq)) args s 0 0 A) h0 ad ln vb2 ab2 0 0 20 [(4, .int (iI k)), (3, .int (iI g1)), (2, .int (iI f1)), (0, .ref h0), (1, .int (iI t))] [] := by
      intro nn
      induction nn with
      | zero =>
        intro g1 k vb2 ab2 hm bxb2 fpb2 hg1 hk hz32 hL hK20
        exact absurd hm (by omega)
      | succ nn ih1 =>
        intro g1 k vb2 ab2 hm bxb2 fpb2 hg1 hk hz32 hL hK20
        refine m_iload (j := 0) C dX12_head_20 rfl ?_
        refine m_iload_n (j := 2) C dX12_head_22 rfl ?_
        refine m_icmp_ge (tgt := 47) C ⟨by omega, by omega⟩ ⟨by omega, by omega⟩ dX12_head_23 (by decide) (fun c1 => ?_) (fun c1 => ?_)
        · refine m_iload_n (j := 1) C dX12_head_47 rfl ?_
          refine m_if_ne (tgt := 58) C ⟨by omega, by omega⟩ dX12_head_48 (by decide) (fun c2 => ?_) (fun c2 => ?_)
          · replace hg1 := (hg1.resolve_left c2)
            refine m_aload_n (j := 3) C dX12_head_58 rfl ?_
            refine m_iload_n (j := 4) C dX12_head_59 rfl ?_
            refine hv2 (show 0 ≤ vb2 4 ∧ vb2 4 ≤ 30 from bxb2.1 4) (show vb2 4 = v 4 from fpb2.1 4 rfl) (fun rv3 ve1 => ?_)
            refine m_call (mc2 := 0) (ms2 := 0) (As := [.int (iI t)]) (rest := []) C (E_isWhole (t := t) bxb2 (hT.fr fpb2 rfl rfl) (by show -2147483648 ≤ t ∧ t ≤ 2147483647; omega)) dX12_head_60 kV_X12_171 rfl ck_13 rfl (Nat.le_of_ble_eq_true rfl) ⟨Nat.le_of_ble_eq_true rfl, Nat.le_of_ble_eq_true rfl⟩ ⟨Nat.le_of_ble_eq_true rfl, Nat.le_of_ble_eq_true rfl⟩ (fun rh2 vh2 ah2 h2 => ?_)
            obtain ⟨f2, rfl, fn2, bn2, ex2⟩ := h2
            obtain ⟨rfl, rfl⟩ := fn2.eq
            obtain ⟨ex2, tl1⟩ := ex2
            have gf2 : f2 = 0 ∨ (f2 = 1 ∧ 0 ≤ t ∧ t < (vb2 4)) := ex2
            refine m_st (st2 := [.int (iI f2)]) rfl ?_
            refine m_if_ne (tgt := 72) C (r32_0p gf2) dX12_head_63 (by decide) (fun c3 => ?_) (fun c3 => ?_)
            · replace gf2 := (gf2.resolve_left c3)
              refine m_aload_n (j := 3) C dX12_head_72 rfl ?_
              refine m_iload_n (j := 2) C dX12_head_73 rfl ?_
              refine m_put (k := 23) (z := f1) C dX12_head_74 w6_82 (by decide) rfl rfl rfl ?_
              refine hv2 (show BX (va_up vb2 23 f1) ab2 from bxb2.put (k := 23) (z := f1) (show 0 ≤ f1 ∧ f1 ≤ 500 by omega)) (fpb2.put (k := 23) (z := f1) rfl) (fun bq1 fq3 => ?_)
              refine m_iconst C dX12_head_77 ?_
              refine m_istore (lv2 := [(4, .int (iI 0)), (3, .int (iI g1)), (2, .int (iI f1)), (0, .ref h0), (1, .int (iI t))]) C dX12_head_78 (by decide) rfl ?_
              have Lp2 : ∀ (nn : Nat) (k1 : Int) (vb3 : Nat → Int) (ab3 : Nat → Nat → Int), 41 - k1 < (nn : Int) → BX vb3 ab3 → fr [0, 1, 3, 23, 25, 28, 41] [20, 21, 24, 26, 27, 40] v a vb3 ab3 → (0 ≤ k1 ∧ k1 ≤ f1) → (vb3 3 = 0) → (vb3 23 = v 3) → (WDK (ab3 20) (a 2) k1) → (vb3 41 = v 41 ∧ ab3 40 = a 40) → mw p l e (rmq 66 0 0) s m args below meth c G A 5 (MQ below (Qm G A (fun rq Lq Eq => ∃ (vq : Nat → Int) (aq : Nat → Nat → Int), mI G h0 ad ln vq aq Lq Eq ∧ (fun r v2 a2 => ∃ f : Int, r = some (.int (iI f)) ∧ fr [0, 1, 3, 23, 25, 28, 41] [20, 21, 24, 26, 27, 40] v a v2 a2 ∧ BX v2 a2 ∧ ((v2 3 = 0) ∧ HDS v a t f ∧ HDT v a v2 a2 t f)) rq vq aq)) args s 0 0 A) h0 ad ln vb3 ab3 0 0 80 [(4, .int (iI k1)), (3, .int (iI g1)), (2, .int (iI f1)), (0, .ref h0), (1, .int (iI t))] [] := by
                intro nn
                induction nn with
                | zero =>
                  intro k1 vb3 ab3 hm bxb3 fpb3 hk1 hz33 hz23 hD hK80
                  exact absurd hm (by omega)
                | succ nn ih2 =>
                  intro k1 vb3 ab3 hm bxb3 fpb3 hk1 hz33 hz23 hD hK80
                  refine m_iload (j := 0) C dX12_head_80 rfl ?_
                  refine m_iload_n (j := 2) C dX12_head_82 rfl ?_
                  refine m_icmp_ge (tgt := 115) C ⟨by omega, by omega⟩ ⟨by omega, by omega⟩ dX12_head_83 (by decide) (fun c4 => ?_) (fun c4 => ?_)
                  · refine m_iload_n (j := 2) C dX12_head_115 rfl ?_
                    have J2 : ∀ (vb4 : Nat → Int) (ab4 : Nat → Nat → Int), BX vb4 ab4 → fr [0, 1, 3, 23, 25, 28, 41] [20, 21, 24, 26, 27, 40] v a vb4 ab4 → (vb4 25 ≤ 200) → (vb4 3 = 0) → (HD4 v a vb4 ab4 t) → mw p l e (rmq 66 0 0) s m args below meth c G A 5 (MQ below (Qm G A (fun rq Lq Eq => ∃ (vq : Nat → Int) (aq : Nat → Nat → Int), mI G h0 ad ln vq aq Lq Eq ∧ (fun r v2 a2 => ∃ f : Int, r = some (.int (iI f)) ∧ fr [0, 1, 3, 23, 25, 28, 41] [20, 21, 24, 26, 27, 40] v a v2 a2 ∧ BX v2 a2 ∧ ((v2 3 = 0) ∧ HDS v a t f ∧ HDT v a v2 a2 t f)) rq vq aq)) args s 0 0 A) h0 ad ln vb4 ab4 0 0 140 [(4, .int (iI k1)), (3, .int (iI g1)), (2, .int (iI f1)), (0, .ref h0), (1, .int (iI t))] [] := by
                      intro  vb4 ab4 bxb4 fpb4 hm hz34 hC
                      refine m_aload_n (j := 3) C dX12_head_140 rfl ?_
                      refine m_aload_n (j := 3) C dX12_head_141 rfl ?_
                      have rv4 : 0 ≤ vb4 25 ∧ vb4 25 ≤ 208 := bxb4.1 25
                      refine m_get (k := 25) C dX12_head_142 w6_84 (by decide) rfl ?_
                      refine m_aload_n (j := 3) C dX12_head_145 rfl ?_
                      refine hv2 (show 1 ≤ vb4 31 ∧ vb4 31 ≤ 100 from bxb4.1 31) (show vb4 31 = v 31 from fpb4.1 31 rfl) (fun rv5 ve2 => ?_)
                      refine m_get (k := 31) C dX12_head_146 w6_90 (by decide) rfl ?_
                      refine m_st (st2 := [.int (iI (v 31)), .int (iI (vb4 25)), .ref h0]) (congrArg (fun z => Value.int (iI z) :: [.int (iI (vb4 25)), .ref h0]) (fpb4.1 31 rfl)) ?_
                      obtain ⟨mn1, hmn1, emn1⟩ := mmin_c (x := vb4 25) (y := v 31) ⟨by omega, by omega⟩ ⟨by omega, by omega⟩
                      refine m_mmin (w := iI mn1) C dX12_head_149 w7_189 w2_129 w1_14 w2_130 ⟨Nat.le_of_ble_eq_true rfl, Nat.le_of_ble_eq_true rfl⟩ ⟨Nat.le_of_ble_eq_true rfl, Nat.le_of_ble_eq_true rfl⟩ (Nat.le_of_ble_eq_true rfl) emn1 ?_
                      refine m_put (k := 41) (z := mn1) C dX12_head_152 w6_100 (by decide) rfl rfl rfl ?_
                      refine hv2 (show BX (va_up vb4 41 mn1) ab4 from bxb4.put (k := 41) (z := mn1) (show 0 ≤ mn1 ∧ mn1 ≤ 200 by omega)) (fpb4.put (k := 41) (z := mn1) rfl) (fun bq2 fq4 => ?_)
                      refine m_iconst C dX12_head_155 ?_
                      refine m_istore (lv2 := [(4, .int (iI 0)), (3, .int (iI g1)), (2, .int (iI f1)), (0, .ref h0), (1, .int (iI t))]) C dX12_head_156 (by decide) rfl ?_
                      have Lp3 : ∀ (nn : Nat) (k2 : Int) (vb5 : Nat → Int) (ab5 : Nat → Nat → Int), 201 - k2 < (nn : Int) → BX vb5 ab5 → fr [0, 1, 3, 23, 25, 28, 41] [20, 21, 24, 26, 27, 40] v a vb5 ab5 → (0 ≤ k2 ∧ k2 ≤ 200) → (vb5 3 = 0) → (HD5 v a vb5 ab5 t k2) → mw p l e (rmq 66 0 0) s m args below meth c G A 5 (MQ below (Qm G A (fun rq Lq Eq => ∃ (vq : Nat → Int) (aq : Nat → Nat → Int), mI G h0 ad ln vq aq Lq Eq ∧ (fun r v2 a2 => ∃ f : Int, r = some (.int (iI f)) ∧ fr [0, 1, 3, 23, 25, 28, 41] [20, 21, 24, 26, 27, 40] v a v2 a2 ∧ BX v2 a2 ∧ ((v2 3 = 0) ∧ HDS v a t f ∧ HDT v a v2 a2 t f)) rq vq aq)) args s 0 0 A) h0 ad ln vb5 ab5 0 0 158 [(4, .int (iI k2)), (3, .int (iI g1)), (2, .int (iI f1)), (0, .ref h0), (1, .int (iI t))] [] := by
                        intro nn
                        induction nn with
                        | zero =>
                          intro k2 vb5 ab5 hm bxb5 fpb5 hk2 hz35 hR2
                          exact absurd hm (by omega)
                        | succ nn ih3 =>
                          intro k2 vb5 ab5 hm bxb5 fpb5 hk2 hz35 hR2
                          refine m_iload (j := 0) C dX12_head_158 rfl ?_
                          refine m_aload_n (j := 3) C dX12_head_160 rfl ?_
                          have rv6 : 0 ≤ vb5 41 ∧ vb5 41 ≤ 200 := bxb5.1 41
                          refine m_get (k := 41) C dX12_head_161 w6_100 (by decide) rfl ?_
                          refine m_icmp_ge (tgt := 187) C (r32_c (lo := 0) (hi := 200) hk2.1 hk2.2 (by decide) (by decide)) (r32_c (lo := 0) (hi := 200) rv6.1 rv6.2 (by decide) (by decide)) dX12_head_164 (by decide) (fun c5 => ?_) (fun c5 => ?_)
                          · refine m_aload_n (j := 3) C dX12_head_187 rfl ?_
                            refine m_aload_n (j := 3) C dX12_head_188 rfl ?_
                            refine m_get (k := 41) C dX12_head_189 w6_100 (by decide) rfl ?_
                            refine m_call (mc2 := 0) (ms2 := 0) (As := [.int (iI (vb5 41))]) (rest := []) C (B_fine (x := vb5 41) bxb5 (by show -2147483648 ≤ (vb5 41) ∧ (vb5 41) ≤ 2147483647; omega)) dX12_head_192 kV_X12_158 rfl ck_13 rfl (Nat.le_of_ble_eq_true rfl) ⟨Nat.le_of_ble_eq_true rfl, Nat.le_of_ble_eq_true rfl⟩ ⟨Nat.le_of_ble_eq_true rfl, Nat.le_of_ble_eq_true rfl⟩ (fun rh3 vh3 ah3 h3 => ?_)
                            obtain ⟨f3, rfl, fn3, bn3, ex3⟩ := h3
                            refine hv2 (fpb5.call fn3 rfl rfl) (show f3 = (vb5 41) from ex3) (fun fq5 gf3 => ?_)
                            refine m_st (st2 := [.int (iI f3)]) rfl ?_
                            refine hv2 (show 0 ≤ vh3 3 ∧ vh3 3 ≤ 3000 from bn3.1 3) (show vh3 3 = vb5 3 from fn3.1 3 rfl) (fun rv7 ve3 => ?_)
                            exact m_iret C dX12_head_195 rfl (Nat.le_of_ble_eq_true rfl) (Nat.le_of_ble_eq_true rfl) ⟨f3, rfl, fq5, bn3, ⟨(by show (vh3 3) = 0; omega), HDS.ok (by have q := hL.yes (by omega) (by omega); rw [show f1 = v 3 by omega] at q; exact q) ((tl1.cg (fpb2.1 4 rfl) (fpb2.2 5 rfl) (fpb2.2 6 rfl) (fpb2.2 8 rfl) (fpb2.2 9 rfl)).mp (by omega)) hR2.hdr (by omega), HDT.ok hR2 (by omega) (by omega) (by omega) (fn3.1 41 rfl) (fn3.2 40 rfl)⟩⟩
                          · refine m_aload_n (j := 3) C dX12_head_167 rfl ?_
                            refine m_geta (k := 40) C dX12_head_168 w6_99 (by decide) rfl ?_
                            refine m_iload (j := 0) C dX12_head_171 rfl ?_
                            refine m_aload_n (j := 3) C dX12_head_173 rfl ?_
                            refine m_geta (k := 24) C dX12_head_174 w6_83 (by decide) rfl ?_
                            refine m_iload (j := 0) C dX12_head_177 rfl ?_
                            refine m_ald (k := 24) C dX12_head_179 rfl rfl (by decide) hk2.1 (Int.lt_of_le_of_lt hk2.2 (by decide)) (by decide) ?_
                            have ra1 : (-2147483648) ≤ ab5 24 k2.toNat ∧ ab5 24 k2.toNat ≤ 2147483647 := bxb5.2 24 (k2.toNat)
                            refine m_ast (k := 40) C dX12_head_180 rfl rfl (by decide) (by omega) (by show _ < ((_ : Nat) : Int); simp only [mlen]; omega) (by decide) ?_
                            refine hv2 (show BX vb5 (up2 ab5 40 k2.toNat (ab5 24 k2.toNat)) from bxb5.set (k := 40) (i := k2.toNat) (z := ab5 24 k2.toNat) (show (-2147483648) ≤ (ab5 24 k2.toNat) ∧ (ab5 24 k2.toNat) ≤ 2147483647 by omega)) (fpb5.set (k := 40) (i := k2.toNat) (z := ab5 24 k2.toNat) rfl) (fun bq3 fq6 => ?_)
                            refine m_iinc (z := k2) (j := 0) (lv2 := [(4, .int (iI (k2 + 1))), (3, .int (iI g1)), (2, .int (iI f1)), (0, .ref h0), (1, .int (iI t))]) C dX12_head_181 rfl (by decide) rfl ?_
                            refine m_goto (tgt := 158) C dX12_head_184 (by decide) ?_
                            have rv8 : 0 ≤ vb5 3 ∧ vb5 3 ≤ 3000 := bq3.1 3
                            refine m_lv (lv2 := [(4, .int (iI (k2 + 1))), (3, .int (iI g1)), (2, .int (iI f1)), (0, .ref h0), (1, .int (iI t))]) [0, 1, 2, 3, 4] rfl ?_
                            exact ih3  (k2 + 1) _ _ (by omega) bq3 fq6 (by omega) (by show (vb5 3) = 0; omega) (hR2.step ⟨by omega, by omega⟩)
                      have rv9 : 0 ≤ vb4 3 ∧ vb4 3 ≤ 3000 := bq2.1 3
                      refine m_lv (lv2 := [(4, .int (iI 0)), (3, .int (iI g1)), (2, .int (iI f1)), (0, .ref h0), (1, .int (iI t))]) [0, 1, 2, 3, 4] rfl ?_
                      exact Lp3 202 0 _ _ (by omega) bq2 fq4 (by omega) (by show (vb4 3) = 0; omega) (hC.go (z := (vb4 25)) (y := mn1) rfl (by show (mn1 = (vb4 25) ∧ (vb4 25) ≤ v 31) ∨ (mn1 = v 31 ∧ v 31 < (vb4 25)); omega) rfl rfl rfl)
                    refine m_if_ne (tgt := 127) C ⟨by omega, by omega⟩ dX12_head_116 (by decide) (fun c6 => ?_) (fun c6 => ?_)
                    · refine m_aload_n (j := 3) C dX12_head_127 rfl ?_
                      refine m_iload_n (j := 4) C dX12_head_128 rfl ?_
                      refine hv2 (show 0 ≤ vb3 4 ∧ vb3 4 ≤ 30 from bxb3.1 4) (show vb3 4 = v 4 from fpb3.1 4 rfl) (fun rv10 ve4 => ?_)
                      refine m_call (mc2 := 0) (ms2 := 0) (As := [.int (iI t)]) (rest := []) C (E_setWord (t := t) bxb3 (hT.fr fpb3 rfl rfl) (by show 0 ≤ t ∧ t < (vb3 4); omega)) dX12_head_129 kV_X12_267 rfl ck_13 rfl (Nat.le_of_ble_eq_true rfl) ⟨Nat.le_of_ble_eq_true rfl, Nat.le_of_ble_eq_true rfl⟩ ⟨Nat.le_of_ble_eq_true rfl, Nat.le_of_ble_eq_true rfl⟩ (fun rh4 vh4 ah4 h4 => ?_)
                      obtain ⟨f4, rfl, fn4, bn4, ex4⟩ := h4
                      have fq7 := fpb3.call fn4 rfl rfl
                      obtain ⟨ex4, tl2⟩ := ex4
                      refine hv2 (show 0 ≤ vh4 25 ∧ vh4 25 ≤ 208 from bn4.1 25) (show f4 = 0 ∨ (f4 = 1 ∧ (vh4 25) ≤ 200) from ex4) (fun rv11 gf4 => ?_)
                      refine m_st (st2 := [.int (iI f4)]) rfl ?_
                      refine m_if_ne (tgt := 140) C (r32_0p gf4) dX12_head_132 (by decide) (fun c7 => ?_) (fun c7 => ?_)
                      · replace gf4 := (gf4.resolve_left c7)
                        refine hv2 (show 0 ≤ vh4 3 ∧ vh4 3 ≤ 3000 from bn4.1 3) (show vh4 3 = vb3 3 from fn4.1 3 rfl) (fun rv12 ve5 => ?_)
                        refine m_lv (lv2 := [(4, .int (iI k1)), (3, .int (iI g1)), (2, .int (iI f1)), (0, .ref h0), (1, .int (iI t))]) [0, 1, 2, 3, 4] rfl ?_
                        exact J2   _ _  bn4 fq7 (by show (vh4 25) ≤ 200; omega) (by show (vh4 3) = 0; omega) (HD4.set tl2.1 (by omega) (TBE.fr fpb3 rfl) hD (by omega) hz23 (fun i => (hB.2 12 i).1))
                      · clear gf4
                        refine m_aload_n (j := 3) C dX12_head_135 rfl ?_
                        refine m_call (mc2 := 0) (ms2 := 0) (As := []) (rest := []) C (B_notSet  bn4 ) dX12_head_136 kV_X12_270 rfl ck_13 rfl (Nat.le_of_ble_eq_true rfl) ⟨Nat.le_of_ble_eq_true rfl, Nat.le_of_ble_eq_true rfl⟩ ⟨Nat.le_of_ble_eq_true rfl, Nat.le_of_ble_eq_true rfl⟩ (fun rh5 vh5 ah5 h5 => ?_)
                        obtain ⟨f5, rfl, fn5, bn5, ex5⟩ := h5
                        refine hv2 (fq7.call fn5 rfl rfl) (show f5 = -1 from ex5) (fun fq8 gf5 => ?_)
                        refine m_st (st2 := [.int (iI f5)]) rfl ?_
                        refine hv6 (show 0 ≤ vh5 3 ∧ vh5 3 ≤ 3000 from bn5.1 3) (show vh5 3 = vh4 3 from fn5.1 3 rfl) (show vh4 3 = vb3 3 from fn4.1 3 rfl) (show 0 ≤ vh5 41 ∧ vh5 41 ≤ 200 from bn5.1 41) (show vh5 41 = vh4 41 from fn5.1 41 rfl) (show vh4 41 = vb3 41 from fn4.1 41 rfl) (fun rv13 ve6 ve7 rv14 ve8 ve9 => ?_)
                        exact m_iret C dX12_head_139 rfl (Nat.le_of_ble_eq_true rfl) (Nat.le_of_ble_eq_true rfl) ⟨f5, rfl, fq8, bn5, ⟨(by show (vh5 3) = 0; omega), HDS.ns (HDC.no tl2.1 (by omega) (TBE.fr fpb3 rfl) hD (by omega) hz23 (fun i => (bxb3.2 12 i).1)) (by omega), Or.inl ⟨by omega, ⟨by show (vh5 41) = v 41; have q := hK80.1; omega, (Eq.trans (show ah5 40 = ah4 40 from fn5.2 40 rfl) (Eq.trans (show ah4 40 = ab3 40 from fn4.2 40 rfl) hK80.2))⟩⟩⟩⟩
                    · refine m_aload_n (j := 3) C dX12_head_119 rfl ?_
                      refine m_iconst C dX12_head_120 ?_
                      refine m_put (k := 25) (z := 0) C dX12_head_121 w6_84 (by decide) rfl rfl rfl ?_
                      refine hv2 (show BX (va_up vb3 25 0) ab3 from bxb3.put (k := 25) (z := 0) ⟨by decide, by decide⟩) (fpb3.put (k := 25) (z := 0) rfl) (fun bq4 fq9 => ?_)
                      refine m_goto (tgt := 140) C dX12_head_124 (by decide) ?_
                      have rv15 : 0 ≤ vb3 3 ∧ vb3 3 ≤ 3000 := bq4.1 3
                      refine m_lv (lv2 := [(4, .int (iI k1)), (3, .int (iI g1)), (2, .int (iI f1)), (0, .ref h0), (1, .int (iI t))]) [0, 1, 2, 3, 4] rfl ?_
                      exact J2   _ _  bq4 fq9 (by show 0 ≤ 200; omega) (by show (vb3 3) = 0; omega) (HD4.nil hT (by omega) (by omega) (by show 0 = 0; omega))
                  · refine m_aload_n (j := 3) C dX12_head_86 rfl ?_
                    refine m_geta (k := 20) C dX12_head_87 w6_79 (by decide) rfl ?_
                    refine m_iload (j := 0) C dX12_head_90 rfl ?_
                    refine m_aload_n (j := 3) C dX12_head_92 rfl ?_
                    refine m_geta (k := 2) C dX12_head_93 w6_61 (by decide) rfl ?_
                    refine m_iload (j := 0) C dX12_head_96 rfl ?_
                    refine m_ald (k := 2) C dX12_head_98 rfl rfl (by decide) (by omega) (by show _ < ((_ : Nat) : Int); simp only [mlen]; omega) (by decide) ?_
                    refine hv2 (show (-2147483648) ≤ ab3 2 k1.toNat ∧ ab3 2 k1.toNat ≤ 2147483647 from bxb3.2 2 (k1.toNat)) (show ab3 2 (k1.toNat) = a 2 (k1.toNat) from congrFun (fpb3.2 2 rfl) (k1.toNat)) (fun ra2 ae1 => ?_)
                    refine m_st (st2 := [.int (iI (a 2 k1.toNat)), .int (iI k1), .ref (ad 20)]) (congrArg (fun z => Value.int (iI z) :: [.int (iI k1), .ref (ad 20)]) (congrFun (fpb3.2 2 rfl) (k1.toNat))) ?_
                    refine m_ast (k := 20) C dX12_head_99 rfl rfl (by decide) (by omega) (by show _ < ((_ : Nat) : Int); simp only [mlen]; omega) (by decide) ?_
                    refine hv2 (show BX vb3 (up2 ab3 20 k1.toNat (a 2 k1.toNat)) from bxb3.set (k := 20) (i := k1.toNat) (z := a 2 k1.toNat) (show (-2147483648) ≤ (a 2 k1.toNat) ∧ (a 2 k1.toNat) ≤ 2147483647 by omega)) (fpb3.set (k := 20) (i := k1.toNat) (z := a 2 k1.toNat) rfl) (fun bq5 fq10 => ?_)
                    refine m_aload_n (j := 3) C dX12_head_100 rfl ?_
                    refine m_geta (k := 21) C dX12_head_101 w6_80 (by decide) rfl ?_
                    refine m_iload (j := 0) C dX12_head_104 rfl ?_
                    refine m_iload (j := 0) C dX12_head_106 rfl ?_
                    refine m_ast (k := 21) C dX12_head_108 rfl rfl (by decide) (by omega) (by show _ < ((_ : Nat) : Int); simp only [mlen]; omega) (by decide) ?_
                    refine hv2 (show BX vb3 (up2 (up2 ab3 20 k1.toNat (a 2 k1.toNat)) 21 k1.toNat k1) from bq5.set (k := 21) (i := k1.toNat) (z := k1) (show (-2147483648) ≤ k1 ∧ k1 ≤ 2147483647 by omega)) (fq10.set (k := 21) (i := k1.toNat) (z := k1) rfl) (fun bq6 fq11 => ?_)
                    refine m_iinc (z := k1) (j := 0) (lv2 := [(4, .int (iI (k1 + 1))), (3, .int (iI g1)), (2, .int (iI f1)), (0, .ref h0), (1, .int (iI t))]) C dX12_head_109 rfl (by decide) rfl ?_
                    refine m_goto (tgt := 80) C dX12_head_112 (by decide) ?_
                    refine hv3 (show 0 ≤ vb3 3 ∧ vb3 3 ≤ 3000 from bq6.1 3) (show 0 ≤ vb3 23 ∧ vb3 23 ≤ 500 from bq6.1 23) (show 0 ≤ vb3 41 ∧ vb3 41 ≤ 200 from bq6.1 41) (fun rv16 rv17 rv18 => ?_)
                    refine m_lv (lv2 := [(4, .int (iI (k1 + 1))), (3, .int (iI g1)), (2, .int (iI f1)), (0, .ref h0), (1, .int (iI t))]) [0, 1, 2, 3, 4] rfl ?_
                    exact ih2  (k1 + 1) _ _ (by omega) bq6 fq11 (by omega) (by show (vb3 3) = 0; omega) (by show (vb3 23) = v 3; omega) (hD.step (by omega) rfl ((funext fun _ => up2_k (by decide)))) ⟨by show (vb3 41) = v 41; have q := hK80.1; omega, (Eq.trans (show (up2 (up2 ab3 20 k1.toNat (a 2 k1.toNat)) 21 k1.toNat k1) 40 = ab3 40 from rfl) hK80.2)⟩
              refine hv2 (show 0 ≤ vb2 3 ∧ vb2 3 ≤ 3000 from bq1.1 3) (show 0 ≤ vb2 41 ∧ vb2 41 ≤ 200 from bq1.1 41) (fun rv19 rv20 => ?_)
              refine m_lv (lv2 := [(4, .int (iI 0)), (3, .int (iI g1)), (2, .int (iI f1)), (0, .ref h0), (1, .int (iI t))]) [0, 1, 2, 3, 4] rfl ?_
              exact Lp2 42 0 _ _ (by omega) bq1 fq3 (by omega) (by show (vb2 3) = 0; omega) (by show f1 = v 3; omega) WDK.zero ⟨by show (vb2 41) = v 41; have q := hK20.1; omega, hK20.2⟩
            · clear gf2
              refine m_aload_n (j := 3) C dX12_head_66 rfl ?_
              refine m_iconst C dX12_head_67 ?_
              refine m_call (mc2 := 0) (ms2 := 0) (As := [.int (iI 3)]) (rest := []) C (B_bad (x := 3) bxb2 (by show -2147483648 ≤ (3 : Int) ∧ (3 : Int) ≤ 2147483647; omega)) dX12_head_68 kV_X12_154 rfl ck_13 rfl (Nat.le_of_ble_eq_true rfl) ⟨Nat.le_of_ble_eq_true rfl, Nat.le_of_ble_eq_true rfl⟩ ⟨Nat.le_of_ble_eq_true rfl, Nat.le_of_ble_eq_true rfl⟩ (fun rh6 vh6 ah6 h6 => ?_)
              obtain ⟨f6, rfl, fn6, bn6, ex6⟩ := h6
              refine hv2 (fpb2.call fn6 rfl rfl) (show f6 = -1 from ex6) (fun fq12 gf6 => ?_)
              refine m_st (st2 := [.int (iI f6)]) rfl ?_
              refine hv4 (show 0 ≤ vh6 3 ∧ vh6 3 ≤ 3000 from bn6.1 3) (show vh6 3 = vb2 3 from fn6.1 3 rfl) (show 0 ≤ vh6 41 ∧ vh6 41 ≤ 200 from bn6.1 41) (show vh6 41 = vb2 41 from fn6.1 41 rfl) (fun rv21 ve10 rv22 ve11 => ?_)
              exact m_iret C dX12_head_71 rfl (Nat.le_of_ble_eq_true rfl) (Nat.le_of_ble_eq_true rfl) ⟨f6, rfl, fq12, bn6, ⟨(by show (vh6 3) = 0; omega), HDS.nw (fun q => absurd ((tl1.cg (fpb2.1 4 rfl) (fpb2.2 5 rfl) (fpb2.2 6 rfl) (fpb2.2 8 rfl) (fpb2.2 9 rfl)).mpr q) (by omega)) (by omega), Or.inl ⟨by omega, ⟨by show (vh6 41) = v 41; have q := hK20.1; omega, (Eq.trans (show ah6 40 = ab2 40 from fn6.2 40 rfl) hK20.2)⟩⟩⟩⟩
          · clear hg1
            refine m_aload_n (j := 3) C dX12_head_51 rfl ?_
            refine m_bipush (z := 6) C dX12_head_52 (by decide) ?_
            refine m_call (mc2 := 0) (ms2 := 0) (As := [.int (iI 6)]) (rest := []) C (B_bad (x := 6) bxb2 (by show -2147483648 ≤ (6 : Int) ∧ (6 : Int) ≤ 2147483647; omega)) dX12_head_54 kV_X12_154 rfl ck_13 rfl (Nat.le_of_ble_eq_true rfl) ⟨Nat.le_of_ble_eq_true rfl, Nat.le_of_ble_eq_true rfl⟩ ⟨Nat.le_of_ble_eq_true rfl, Nat.le_of_ble_eq_true rfl⟩ (fun rh7 vh7 ah7 h7 => ?_)
            obtain ⟨f7, rfl, fn7, bn7, ex7⟩ := h7
            refine hv2 (fpb2.call fn7 rfl rfl) (show f7 = -1 from ex7) (fun fq13 gf7 => ?_)
            refine m_st (st2 := [.int (iI f7)]) rfl ?_
            refine hv4 (show 0 ≤ vh7 3 ∧ vh7 3 ≤ 3000 from bn7.1 3) (show vh7 3 = vb2 3 from fn7.1 3 rfl) (show 0 ≤ vh7 41 ∧ vh7 41 ≤ 200 from bn7.1 41) (show vh7 41 = vb2 41 from fn7.1 41 rfl) (fun rv23 ve12 rv24 ve13 => ?_)
            exact m_iret C dX12_head_57 rfl (Nat.le_of_ble_eq_true rfl) (Nat.le_of_ble_eq_true rfl) ⟨f7, rfl, fq13, bn7, ⟨(by show (vh7 3) = 0; omega), HDS.bad (by have q := hL.no (by omega) (by omega); rw [show f1 = v 3 by omega] at q; exact q) (by omega), Or.inl ⟨by omega, ⟨by show (vh7 41) = v 41; have q := hK20.1; omega, (Eq.trans (show ah7 40 = ab2 40 from fn7.2 40 rfl) hK20.2)⟩⟩⟩⟩
        · refine m_iload_n (j := 1) C dX12_head_26 rfl ?_
          refine m_if_eq (tgt := 47) C ⟨by omega, by omega⟩ dX12_head_27 (by decide) (fun c8 => ?_) (fun c8 => ?_)
          · clear hg1
            refine m_iload_n (j := 1) C dX12_head_47 rfl ?_
            refine m_if_ne (tgt := 58) C ⟨by omega, by omega⟩ dX12_head_48 (by decide) (fun z => absurd z (by omega)) (fun _ => ?_)
            refine m_aload_n (j := 3) C dX12_head_51 rfl ?_
            refine m_bipush (z := 6) C dX12_head_52 (by decide) ?_
            refine m_call (mc2 := 0) (ms2 := 0) (As := [.int (iI 6)]) (rest := []) C (B_bad (x := 6) bxb2 (by show -2147483648 ≤ (6 : Int) ∧ (6 : Int) ≤ 2147483647; omega)) dX12_head_54 kV_X12_154 rfl ck_13 rfl (Nat.le_of_ble_eq_true rfl) ⟨Nat.le_of_ble_eq_true rfl, Nat.le_of_ble_eq_true rfl⟩ ⟨Nat.le_of_ble_eq_true rfl, Nat.le_of_ble_eq_true rfl⟩ (fun rh8 vh8 ah8 h8 => ?_)
            obtain ⟨f8, rfl, fn8, bn8, ex8⟩ := h8
            refine hv2 (fpb2.call fn8 rfl rfl) (show f8 = -1 from ex8) (fun fq14 gf8 => ?_)
            refine m_st (st2 := [.int (iI f8)]) rfl ?_
            refine hv4 (show 0 ≤ vh8 3 ∧ vh8 3 ≤ 3000 from bn8.1 3) (show vh8 3 = vb2 3 from fn8.1 3 rfl) (show 0 ≤ vh8 41 ∧ vh8 41 ≤ 200 from bn8.1 41) (show vh8 41 = vb2 41 from fn8.1 41 rfl) (fun rv25 ve14 rv26 ve15 => ?_)
            exact m_iret C dX12_head_57 rfl (Nat.le_of_ble_eq_true rfl) (Nat.le_of_ble_eq_true rfl) ⟨f8, rfl, fq14, bn8, ⟨(by show (vh8 3) = 0; omega), HDS.bad (by have q := hL.no (by omega) (by omega); rw [show f1 = v 3 by omega] at q; exact q) (by omega), Or.inl ⟨by omega, ⟨by show (vh8 41) = v 41; have q := hK20.1; omega, (Eq.trans (show ah8 40 = ab2 40 from fn8.2 40 rfl) hK20.2)⟩⟩⟩⟩
          · replace hg1 := (hg1.resolve_left c8)
            refine m_aload_n (j := 3) C dX12_head_30 rfl ?_
            refine m_geta (k := 2) C dX12_head_31 w6_61 (by decide) rfl ?_
            refine m_iload (j := 0) C dX12_head_34 rfl ?_
            refine m_ald (k := 2) C dX12_head_36 rfl rfl (by decide) (by omega) (by show _ < ((_ : Nat) : Int); simp only [mlen]; omega) (by decide) ?_
            refine hv2 (show (-2147483648) ≤ ab2 2 k.toNat ∧ ab2 2 k.toNat ≤ 2147483647 from bxb2.2 2 (k.toNat)) (show ab2 2 (k.toNat) = a 2 (k.toNat) from congrFun (fpb2.2 2 rfl) (k.toNat)) (fun ra3 ae2 => ?_)
            refine m_st (st2 := [.int (iI (a 2 k.toNat))]) (congrArg (fun z => Value.int (iI z) :: []) (congrFun (fpb2.2 2 rfl) (k.toNat))) ?_
            refine m_callS (As := [.int (iI (a 2 k.toNat))]) (rest := []) C (fun L E => s_isLetter (iI (a 2 k.toNat))) dX12_head_37 kS_X12_199 rfl rfl (Nat.le_of_ble_eq_true rfl) ⟨Nat.le_of_ble_eq_true rfl, Nat.le_of_ble_eq_true rfl⟩ ⟨Nat.le_of_ble_eq_true rfl, Nat.le_of_ble_eq_true rfl⟩ ?_
            rcases inn_c (x := a 2 k.toNat) (lo := 33) (hi := 125) ⟨by omega, by omega⟩ ⟨by decide, by decide⟩ ⟨by decide, by decide⟩ with ⟨h9a, h9b, h9e⟩ | ⟨h9a, h9e⟩
            · refine m_st (st2 := [.int (iI 1)]) (by rw [show inn (iI (a 2 k.toNat)) 33 125 = iI 1 from h9e]) ?_
              refine m_istore_n (lv2 := [(3, .int (iI 1)), (4, .int (iI k)), (2, .int (iI f1)), (0, .ref h0), (1, .int (iI t))]) C dX12_head_40 (by decide) rfl ?_
              refine m_iinc (z := k) (j := 1) (lv2 := [(4, .int (iI (k + 1))), (3, .int (iI 1)), (2, .int (iI f1)), (0, .ref h0), (1, .int (iI t))]) C dX12_head_41 rfl (by decide) rfl ?_
              refine m_goto (tgt := 20) C dX12_head_44 (by decide) ?_
              refine hv2 (show 0 ≤ vb2 3 ∧ vb2 3 ≤ 3000 from bxb2.1 3) (show 0 ≤ vb2 41 ∧ vb2 41 ≤ 200 from bxb2.1 41) (fun rv27 rv28 => ?_)
              refine m_lv (lv2 := [(4, .int (iI (k + 1))), (3, .int (iI 1)), (2, .int (iI f1)), (0, .ref h0), (1, .int (iI t))]) [0, 1, 2, 3, 4] rfl ?_
              exact ih1  1 (k + 1) _ _ (by omega) bxb2 fpb2 (by omega) (by omega) (by show (vb2 3) = 0; omega) (hL.step1 (by omega) (by omega)) ⟨by show (vb2 41) = v 41; have q := hK20.1; omega, hK20.2⟩
            · refine m_st (st2 := [.int (iI 0)]) (by rw [show inn (iI (a 2 k.toNat)) 33 125 = iI 0 from h9e]) ?_
              refine m_istore_n (lv2 := [(3, .int (iI 0)), (4, .int (iI k)), (2, .int (iI f1)), (0, .ref h0), (1, .int (iI t))]) C dX12_head_40 (by decide) rfl ?_
              refine m_iinc (z := k) (j := 1) (lv2 := [(4, .int (iI (k + 1))), (3, .int (iI 0)), (2, .int (iI f1)), (0, .ref h0), (1, .int (iI t))]) C dX12_head_41 rfl (by decide) rfl ?_
              refine m_goto (tgt := 20) C dX12_head_44 (by decide) ?_
              refine hv2 (show 0 ≤ vb2 3 ∧ vb2 3 ≤ 3000 from bxb2.1 3) (show 0 ≤ vb2 41 ∧ vb2 41 ≤ 200 from bxb2.1 41) (fun rv29 rv30 => ?_)
              refine m_lv (lv2 := [(4, .int (iI (k + 1))), (3, .int (iI 0)), (2, .int (iI f1)), (0, .ref h0), (1, .int (iI t))]) [0, 1, 2, 3, 4] rfl ?_
              exact ih1  0 (k + 1) _ _ (by omega) bxb2 fpb2 (by omega) (by omega) (by show (vb2 3) = 0; omega) (TLG.step0 (by omega) (by omega)) ⟨by show (vb2 41) = v 41; have q := hK20.1; omega, hK20.2⟩
    refine hv2 (show 0 ≤ vb1 3 ∧ vb1 3 ≤ 3000 from bxb1.1 3) (show 0 ≤ vb1 41 ∧ vb1 41 ≤ 200 from bxb1.1 41) (fun rv31 rv32 => ?_)
    refine m_lv (lv2 := [(4, .int (iI 0)), (3, .int (iI g)), (2, .int (iI f1)), (0, .ref h0), (1, .int (iI t))]) [0, 1, 2, 3, 4] rfl ?_
    exact Lp1 3002 g 0 _ _ (by omega) bxb1 fpb1 (by omega) (by omega) (by show (vb1 3) = 0; omega) (TLG.init (by omega)) ⟨by show (vb1 41) = v 41; have q := hK16.1; omega, hK16.2⟩
  refine m_icmp_gt (tgt := 15) C ⟨by omega, by omega⟩ ⟨by decide, by decide⟩ dX12_head_8 (by decide) (fun c9 => ?_) (fun c9 => ?_)
  · refine m_iconst C dX12_head_15 ?_
    refine hv2 (show 0 ≤ vh1 41 ∧ vh1 41 ≤ 200 from bn1.1 41) (show vh1 41 = v 41 from fn1.1 41 rfl) (fun rv33 ve16 => ?_)
    refine m_lv (lv2 := [(2, .int (iI f1)), (0, .ref h0), (1, .int (iI t))]) [0, 1, 2] rfl ?_
    exact J1  0 _ _  bn1 fq1 (by omega) (by show (vh1 3) = 0; omega) (by omega) ⟨by show (vh1 41) = v 41; omega, (show ah1 40 = a 40 from fn1.2 40 rfl)⟩
  · refine m_iconst C dX12_head_11 ?_
    refine m_goto (tgt := 16) C dX12_head_12 (by decide) ?_
    refine hv2 (show 0 ≤ vh1 41 ∧ vh1 41 ≤ 200 from bn1.1 41) (show vh1 41 = v 41 from fn1.1 41 rfl) (fun rv34 ve17 => ?_)
    refine m_lv (lv2 := [(2, .int (iI f1)), (0, .ref h0), (1, .int (iI t))]) [0, 1, 2] rfl ?_
    exact J1  1 _ _  bn1 fq1 (by omega) (by show (vh1 3) = 0; omega) (by omega) ⟨by show (vh1 41) = v 41; omega, (show ah1 40 = a 40 from fn1.2 40 rfl)⟩
end
section
def KMQ (W : Nat) (Z K : List (List Int)) (m : Int) : Prop := K = Z.take W ∧ ((m = 1 ∧ W < Z.length) ∨ (m = 0 ∧ Z.length ≤ W))
section GSEM
variable {a a1 : Nat → Nat → Int} {l0 l1 : List Int} {C : Nat → Int} {F : Int32} {n p g h d x y m1 m2 : Int} {f f2 : Option Int → List (List Int)} {l : List (Option Int)} {o : Option Int} {X Y Z K K2 : List (List Int)} {w u : List Int} {k W : Nat} {P : Prop}
theorem KMQ.init : KMQ W [] [] 0 := ⟨by rw [List.take_nil], Or.inr ⟨rfl, Nat.zero_le _⟩⟩
theorem KMQ.len (hk : KMQ W Z K x) (hx : x ≠ 1) : K = Z ∧ K.length ≤ W := by
  obtain ⟨e, q⟩ := hk
  rcases q with ⟨q1, q2⟩ | ⟨q1, q2⟩
  · exact absurd q1 hx
  · have e2 : K = Z := by rw [e, List.take_of_length_le q2]
    exact ⟨e2, by rw [e2]; exact q2⟩
theorem KMQ.push (hk : KMQ W Z K x) (hx : x ≠ 1) (hl : K.length < W) : KMQ W (Z ++ [w]) (K ++ [w]) 0 := by
  obtain ⟨e, _⟩ := hk.len hx
  subst e
  have q : (K ++ [w]).length ≤ W := by
    rw [List.length_append]
    show K.length + 1 ≤ W
    omega
  exact ⟨by rw [List.take_of_length_le q], Or.inr ⟨rfl, q⟩⟩
theorem KMQ.full (hk : KMQ W Z K x) (hx : x ≠ 1) (hl : K.length = W) : KMQ W (Z ++ [w]) K 1 := by
  obtain ⟨e, _⟩ := hk.len hx
  subst e
  refine ⟨by rw [List.take_append_of_le_length (by omega), List.take_of_length_le (by omega)], Or.inl ⟨rfl, ?_⟩⟩
  rw [List.length_append]
  show W < K.length + 1
  omega
theorem KMQ.uni (h1 : KMQ W Z K m1) (h2 : KMQ W Z K2 m2) : K = K2 ∧ m1 = m2 := by
  refine ⟨h1.1.trans h2.1.symm, ?_⟩
  rcases h1.2 with ⟨q1, q2⟩ | ⟨q1, q2⟩ <;> rcases h2.2 with ⟨q3, q4⟩ | ⟨q3, q4⟩ <;> omega
end GSEM
end
section
def KLQ (v : Nat → Int) (a : Nat → Nat → Int) (K : List (List Int)) : Prop := v 60 = ((K.length : Nat) : Int) ∧ ∀ (k : Nat) (w : List Int), K[k]? = some w → a 59 k = ((w.length : Nat) : Int) ∧ w.length ≤ 808 ∧ ∀ (j : Nat) (x : Int), w[j]? = some x → a 58 (808 * k + j) = x
def KPS (v : Nat → Int) (a : Nat → Nat → Int) (Z : List (List Int)) : Prop := ∃ K, KMQ (v 64).toNat Z K (v 61) ∧ KLQ v a K
section GGOS
variable {v v1 v2 v3 v4 : Nat → Int} {a a0 a1 a2 a3 a4 : Nat → Nat → Int} {l0 l1 : List Int} {C : Nat → Int} {x y k g h f pt r d z i j nx cp : Int} {V A : List Nat} {Z K : List (List Int)} {w u : List Int}
theorem KPS.cg (hk : KPS v a Z) (e60 : v1 60 = v 60) (e61 : v1 61 = v 61) (e64 : v1 64 = v 64) (e58 : a1 58 = a 58) (e59 : a1 59 = a 59) : KPS v1 a1 Z := by
  obtain ⟨K, k1, k2, k3⟩ := hk
  exact ⟨K, by rw [e61, e64]; exact k1, e60.trans k2, fun k w e => by rw [e58, e59]; exact k3 k w e⟩
end GGOS
end
section
def hs (H : Heap) : Nat := (H.toList.map (fun c => c.slots.size)).sum
def mu (H : Heap) : Nat := 16 * H.size + hs H
theorem sbn_hs {s t : State} {locs : List Loc} {k n : Nat} (h : s.sameButNew t locs k n) : hs t.heap = hs s.heap + ((t.heap.toList.drop s.heap.size).map (·.slots.size)).sum := by
  obtain ⟨-, h2, -, -, -, h6⟩ := h
  have e : (t.heap.toList.take s.heap.size).map (fun c => c.slots.size) = s.heap.toList.map (fun c => c.slots.size) := by
    apply List.ext_getElem?
    intro i
    rw [List.getElem?_map, List.getElem?_map]
    by_cases hi : i < s.heap.size
    · rw [List.getElem?_take_of_lt hi]
      obtain ⟨c2, g1, -, g3, -⟩ := h6 i s.heap[i] (Array.getElem?_eq_getElem hi)
      rw [Array.getElem?_toList, Array.getElem?_toList, g1, Array.getElem?_eq_getElem hi]
      exact congrArg some g3
    · rw [List.getElem?_eq_none (by rw [List.length_take, Array.length_toList]; omega), List.getElem?_eq_none (by rw [Array.length_toList]; omega)]
  unfold hs
  rw [← e, ← List.sum_append, ← List.map_append, List.take_append_drop]
section MUS
variable {p : Program} {l : Launch} {e : Env} {R : Room} {s : State} {m : MethodId} {args : Array Value} {below : List Frame} {meth : Method} {c : Code} {T : State} {locs : List Loc} {kc ks : Nat}
theorem stand_mu (X : Stand p l e R s m args below meth c T locs kc ks) : mu T.heap ≤ mu s.heap + (16 * kc + ks) := by
  have h := X.same
  refine hv3 (show hs T.heap = hs s.heap + ((T.heap.toList.drop s.heap.size).map (·.slots.size)).sum from sbn_hs (t := T.setVm s.vm) h) (show T.heap.size ≤ s.heap.size + kc from h.2.2.1) (show ((T.heap.toList.drop s.heap.size).map (·.slots.size)).sum ≤ ks from h.2.2.2.2.1) (fun h1 h2 h3 => ?_)
  unfold mu
  rw [h1]
  omega
theorem stand_narrow (X : Stand p l e R s m args below meth c T locs kc ks) {u : Nat} (hu : mu T.heap ≤ mu s.heap + u) : ∃ kc2 ks2 : Nat, 16 * kc2 + ks2 ≤ u ∧ Stand p l e R s m args below meth c T locs kc2 ks2 := by
  have h := X.same
  refine hv2 (show hs T.heap = hs s.heap + ((T.heap.toList.drop s.heap.size).map (·.slots.size)).sum from sbn_hs (t := T.setVm s.vm) h) (show s.heap.size ≤ T.heap.size from h.2.1) (fun h1 h2 => ?_)
  refine ⟨T.heap.size - s.heap.size, ((T.heap.toList.drop s.heap.size).map (·.slots.size)).sum, ?_, { X with same := ⟨h.1, h.2.1, ?_, h.2.2.2.1, Nat.le_refl _, h.2.2.2.2.2⟩ }⟩
  · unfold mu at hu; omega
  · show T.heap.size ≤ s.heap.size + (T.heap.size - s.heap.size); omega
end MUS
abbrev PU : Type := Option Value → List Nat → (Nat → va_E) → Nat → Prop
def Qu (G : GT) (A : Nat → Prop) (Post : PU) : Array Value → State → Outcome → State → Prop := fun _ st oc t => (∃ (v : Option Value) (L2 : List Nat) (E2 : Nat → va_E) (u : Nat), oc = .returned v ∧ Post v L2 E2 u ∧ mu t.heap ≤ mu st.heap + u ∧ va_P G.1 vwCl (va_pl L2 E2) t.heap ∧ va_D A (va_pl L2 E2)) ∧ va_F A st t
abbrev rmu (d r : Nat) : Room := { frames := d, cells := r / 16, slots := r, locals := 64 * d }
def Mir (mi : Nat) (U : State) : Prop := va_Mi "[Ljava/lang/Object;" mi U ∧ va_Dc U
theorem Mir.warm {mi : Nat} {s U : State} (h : Mir mi s) (hW : s.WarmedH U.vm) : Mir mi U := ⟨va_Mi.moved hW.alike h.1, va_Dc.moved hW.alike h.2⟩
def Pcu (G : GT) (mi : Nat) (L : List Nat) (E : Nat → va_E) (sz : Nat) (U : State) : Prop := Pcq G L E sz U ∧ Mir mi U
def Mu (l : Launch) (G : GT) (mi : Nat) (y : MethodName) (cc : ByteArray) (n : Nat) (ret : Option FieldType) (d : Nat) (av : List Value) (L : List Nat) (E : Nat → va_E) (r : Nat) (Post : PU) : Prop :=
  ∀ sz : Nat, Met l y (.code y cc n ret :: lw_g) (rmu d r) (va_Pc av (Pcu G mi L E sz)) (Qu G (va_A (va_pl L E) sz) Post) (r / 16) r (va_A (va_pl L E) sz)

def wu (p : Program) (l : Launch) (e : Env) (d0 r0 : Nat) (s : State) (m : MethodId) (args : Array Value) (below : List Frame) (meth : Method) (c : Code) (G : GT) (A : Nat → Prop) (nL : Nat) (Q : State → Prop) (L : List Nat) (E : Nat → va_E) (u pc : Nat) (lv : List (Nat × Value)) (st : List Value) : Prop := ∀ kc ks : Nat, 16 * kc + ks ≤ u → wq p l e (rmu d0 r0) s m args below meth c G A nL Q L E kc ks pc lv st
theorem Pcu.blind {G : GT} {mi : Nat} {L : List Nat} {E : Nat → va_E} {sz : Nat} {av : List Value} : FrameBlind (va_Pc av (Pcu G mi L E sz)) := by
  intro a U g mk q
  have h1 := Pcq.blind (G := G) (L := L) (E := E) (sz := sz) (av := av) a U g mk ⟨q.1, q.2.1⟩
  exact ⟨h1.1, h1.2, va_Mi.moved (u := U) (U := U.calling g mk a) (Vm.Alike.refl U.vm) q.2.2.1, va_Dc.moved (u := U) (U := U.calling g mk a) (Vm.Alike.refl U.vm) q.2.2.2⟩
section UQ
variable {p : Program} {l : Launch} {e : Env} {d0 r0 : Nat} {s : State} {m : MethodId} {args : Array Value} {below : List Frame} {meth : Method} {c : Code} {cc : ByteArray} {y : MethodName} {ret : Option FieldType} {G : GT} {A : Nat → Prop} {nL mi : Nat} {Q : State → Prop} {L : List Nat} {E : Nat → va_E} {u pc : Nat} {lv : List (Nat × Value)} {st : List Value} {Post : PU}
theorem Mu.mk {n d r : Nat} {av : List Value} (hy : plainName y.cls = true) (hn : (lg_sl av).length ≤ n) (body : ∀ (p : Program) (e : Env) (s : State) (m : MethodId) (args : Array Value) (below : List Frame) (meth : Method) (c : Code) (A : Nat → Prop), Cq p s m args meth c cc y ret G A n → Mir mi s → wu p l e d r s m args below meth c G A n (MQ below (Qu G A Post) args s (r / 16) r A) L E 0 0 (lv_args 0 av) []) : Mu l G mi y cc n ret d av L E r Post := by
  intro sz
  refine Met.ofW (cc := cc) (maxL := n) (ret := ret) hy rfl ?_
  intro p e s m args below meth c s₁ B hml hv
  obtain ⟨rfl, ⟨hsz, hP, hK, hD0, hZ, hN⟩, hM⟩ := hv
  subst hsz
  refine hv2 (atoms_spec (ws := .code y cc n ret :: lw_g) B.pre) (lv_entry av (n := n) hn) (fun hts hl => ?_)
  rw [lg_entry_eq]
  have hown := findClass_of_methodNamed B.named
  exact body p e s m _ below meth c _ ⟨B.exec, B.bytes, hml, hown, fun w hw => hts w (List.mem_cons_of_mem _ hw), hK, fun q h => Or.inr h, hZ, B.returns, B.notSynchronized, (name_of_methodNamed B.named B.method).1, hN⟩ hM 0 0 (Nat.le_refl _) s.heap [] _ hP hD0.self va_S.rf hl
theorem u_after (C : Cq p s m args meth c cc y ret G A nL) {r2 kc ks : Nat} {a2 : Array Value} {st0 rest : List Value} {P2 : PU} {H : Heap} {locs : List Loc} {ls : Array Slot} (hu : 16 * kc + ks ≤ u) (hD : va_D A (va_pl L E)) (hS : va_S A s.heap H locs) (hl : lv_has ls nL lv) (hr : va_Run p l e (rmu d0 r0) s m args below meth c H locs kc ks (r2 / 16) r2 (F0 m pc ls st0) rest (Qu G (va_A (va_pl L E) H.size) P2 a2) (va_A (va_pl L E) H.size)) (kk : ∀ (v : Option Value) (L2 : List Nat) (E2 : Nat → va_E) (u2 : Nat), P2 v L2 E2 u2 → wu p l e d0 r0 s m args below meth c G A nL Q L2 E2 (u + u2) (pc + 3) lv (v.toList ++ rest)) : W p l e (rmu d0 r0) s m args below meth c H locs kc ks Q (F0 m pc ls st0) := by
  have hF := pl_free hD hS C.2.2.2.2.2.2.1
  intro T hT X
  obtain ⟨v, st₀, t, T', Lc, h0, X', hL, e1, e2, ⟨⟨v', L', E', u2, hv, hp, hm, hP', hD'⟩, hz, hk⟩, stp⟩ := hr T hT X
  cases hv
  have hmu := stand_mu X
  rw [hT] at hmu
  rw [h0] at hz hk hm
  obtain ⟨kc2, ks2, hn, X''⟩ := stand_narrow X' (u := u + u2) (by rw [e1]; omega)
  have hS1 : va_S A s.heap T'.heap (locs ++ Lc) := ⟨Nat.le_trans hS.1 (by rw [e1]; exact hz), fun q h1 h2 => by rw [e1, hk q (Nat.lt_of_lt_of_le h1 hS.1) (fun z => h2 (hF q z))]; exact hS.2.1 q h1 h2, fun q hq => by
      rcases List.mem_append.mp hq with h | h
      · exact hS.2.2 q h
      · exact hF _ (hL q h)⟩
  obtain ⟨t2, a1, b1⟩ := kk v L' E' u2 hp kc2 ks2 hn T'.heap (locs ++ Lc) ls (by rw [e1]; exact hP') (hD'.weaken (fun _ q _ h => hF q.1 h)) hS1 hl T' rfl X''
  exact ⟨t2, stp t2 a1, b1⟩
theorem u_room {kc ks u r2 r0 : Nat} (h : 16 * kc + ks ≤ u) (hr : u + r2 ≤ r0) : kc + r2 / 16 ≤ r0 / 16 ∧ ks + r2 ≤ r0 := ⟨by omega, by omega⟩
theorem u_callV (C : Cq p s m args meth c cc y ret G A nL) (hM : Mir mi s) {y2 : MethodName} {cc2 : ByteArray} {n2 d2 r2 idx k2 : Nat} {P2 : PU} {As rest : List Value} {b ci N : Nat} {ret2 : Option FieldType} {T : u_T} {ty : Nat → FieldType} {f : Nat → Value} (M : Mu l G mi y2 cc2 n2 ret2 d2 (.ref b :: As) L E r2 P2) (d : decode cc pc = .ok (.invokevirtual idx, 3)) (hw : Wv y.cls idx y2 cc2 n2 ret2 k2) (hk : As.length = k2) (hb : b ∈ L) (hE : E b = ob ci N f) (ck : Ck ci y2.cls T N ty) (hst : st = As.reverse ++ .ref b :: rest) (hcat : (rest.map fun v => v.category).sum ≤ 8) (hR : d2 + 1 ≤ d0 ∧ 8 + (n2 + 11) + 64 * d2 ≤ 64 * d0) (hf : u + r2 ≤ r0) (kk : ∀ (v : Option Value) (L2 : List Nat) (E2 : Nat → va_E) (u2 : Nat), P2 v L2 E2 u2 → wu p l e d0 r0 s m args below meth c G A nL Q L2 E2 (u + u2) (pc + 3) lv (v.toList ++ rest)) : wu p l e d0 r0 s m args below meth c G A nL Q L E u pc lv st := by
  intro kc ks hu H locs ls hP hD hS hl
  subst hst
  obtain ⟨q0, hq⟩ := pl_at (E := E) hb
  obtain ⟨⟨w1, w2, w3, w4⟩, w5, w6⟩ := hw
  have hts := C.2.2.2.2.1
  exact u_after C hu hD hS hl (va_runV (As := As) (rest := rest) (Ts := lw_g) ⟨C.1, C.2.1, C.2.2.1, C.2.2.2.1, hts⟩ (M H.size) ⟨callB_of k2 hts (lw_goodIn w3) rfl rfl rfl (hts _ w2) (hts _ w1) w4 hR, hts _ w5, hts _ w6⟩ ⟨Pcu.blind, va_recv C.2.2.2.2.2.1 hP (ci := ci) (q0 := q0) ck.1 (by rw [hq, hE]; rfl), fun U hU hW => ⟨rfl, ⟨by rw [hU], by rw [hU]; exact hP, va_K.moved hW.alike C.2.2.2.2.2.1, hD.weaken (fun _ _ _ _ => trivial), C.2.2.2.2.2.2.2.1.pass hS (pl_free hD hS C.2.2.2.2.2.2.1) hW.alike hU, C.2.2.2.2.2.2.2.2.2.2.2.warm hW⟩, hM.warm hW⟩⟩ rfl hk hl.1 rfl (lv_room hcat) d (u_room hu hf)) kk
theorem u_callI (C : Cq p s m args meth c cc y ret G A nL) (hM : Mir mi s) {y2 : MethodName} {cc2 : ByteArray} {n2 d2 r2 idx k2 : Nat} {P2 : PU} {As rest : List Value} {b : Nat} (M : Mu l G mi y2 cc2 n2 none d2 (.ref b :: As) L E r2 P2) (d : decode cc pc = .ok (.invokespecial idx, 3)) (hw : Wi y.cls idx y2 cc2 n2 k2) (hk : As.length = k2) (hst : st = As.reverse ++ .ref b :: rest) (hcat : (rest.map fun v => v.category).sum ≤ 8) (hR : d2 + 1 ≤ d0 ∧ 8 + (n2 + 11) + 64 * d2 ≤ 64 * d0) (hf : u + r2 ≤ r0) (kk : ∀ (v : Option Value) (L2 : List Nat) (E2 : Nat → va_E) (u2 : Nat), P2 v L2 E2 u2 → wu p l e d0 r0 s m args below meth c G A nL Q L2 E2 (u + u2) (pc + 3) lv (v.toList ++ rest)) : wu p l e d0 r0 s m args below meth c G A nL Q L E u pc lv st := by
  intro kc ks hu H locs ls hP hD hS hl
  subst hst
  obtain ⟨⟨w1, w2, w3, w4⟩, w5, w6⟩ := hw
  have hts := C.2.2.2.2.1
  exact u_after C hu hD hS hl (va_runI (As := As) (rest := rest) (Ts := lw_g) ⟨C.1, C.2.1, C.2.2.1, C.2.2.2.1, hts⟩ (M H.size) ⟨callB_of k2 hts (lw_goodIn w3) rfl rfl rfl (hts _ w2) (hts _ w1) w4 hR, w5, hts _ w6⟩ ⟨Pcu.blind, fun U hU hW => ⟨rfl, ⟨by rw [hU], by rw [hU]; exact hP, va_K.moved hW.alike C.2.2.2.2.2.1, hD.weaken (fun _ _ _ _ => trivial), C.2.2.2.2.2.2.2.1.pass hS (pl_free hD hS C.2.2.2.2.2.2.1) hW.alike hU, C.2.2.2.2.2.2.2.2.2.2.2.warm hW⟩, hM.warm hW⟩⟩ rfl hk hl.1 rfl (lv_room hcat) d (u_room hu hf)) kk
theorem u_callS (C : Cq p s m args meth c cc y ret G A nL) (hM : Mir mi s) {y2 : MethodName} {cc2 : ByteArray} {n2 d2 r2 idx k2 : Nat} {P2 : PU} {As rest : List Value} {ret2 : Option FieldType} (M : Mu l G mi y2 cc2 n2 ret2 d2 As L E r2 P2) (d : decode cc pc = .ok (.invokestatic idx, 3)) (hw : Ws y.cls idx y2 cc2 n2 ret2 k2) (hk : As.length = k2) (hst : st = As.reverse ++ rest) (hcat : (rest.map fun v => v.category).sum ≤ 8) (hR : d2 + 1 ≤ d0 ∧ 8 + (n2 + 11) + 64 * d2 ≤ 64 * d0) (hf : u + r2 ≤ r0) (kk : ∀ (v : Option Value) (L2 : List Nat) (E2 : Nat → va_E) (u2 : Nat), P2 v L2 E2 u2 → wu p l e d0 r0 s m args below meth c G A nL Q L2 E2 (u + u2) (pc + 3) lv (v.toList ++ rest)) : wu p l e d0 r0 s m args below meth c G A nL Q L E u pc lv st := by
  intro kc ks hu H locs ls hP hD hS hl
  subst hst
  obtain ⟨⟨w1, w2, w3, w4⟩, w5⟩ := hw
  have hts := C.2.2.2.2.1
  exact u_after C hu hD hS hl (va_runS (As := As) (rest := rest) (Ts := lw_g) ⟨C.1, C.2.1, C.2.2.1, C.2.2.2.1, hts⟩ (M H.size) ⟨callB_of k2 hts (lw_goodIn w3) rfl rfl rfl (hts _ w2) (hts _ w1) w4 hR, hts _ w5⟩ ⟨Pcu.blind, fun U hU hW => ⟨rfl, ⟨by rw [hU], by rw [hU]; exact hP, va_K.moved hW.alike C.2.2.2.2.2.1, hD.weaken (fun _ _ _ _ => trivial), C.2.2.2.2.2.2.2.1.pass hS (pl_free hD hS C.2.2.2.2.2.2.1) hW.alike hU, C.2.2.2.2.2.2.2.2.2.2.2.warm hW⟩, hM.warm hW⟩⟩ rfl hk hl.1 rfl (lv_room hcat) d (u_room hu hf)) kk
theorem u_callIN (C : Cq p s m args meth c cc y ret G A nL) (hM : Mir mi s) {y2 : MethodName} {cc2 : ByteArray} {n2 d2 r2 idx k2 : Nat} {P2 : PU} {As rest : List Value} {b : Nat} {host : String} (M : Mu l G mi y2 cc2 n2 none d2 (.ref b :: As) L E r2 P2) (d : decode cc pc = .ok (.invokespecial idx, 3)) (hw : Wn y.cls idx y2 host cc2 n2 k2) (hk : As.length = k2) (hst : st = As.reverse ++ .ref b :: rest) (hcat : (rest.map fun v => v.category).sum ≤ 8) (hR : d2 + 1 ≤ d0 ∧ 8 + (n2 + 11) + 64 * d2 ≤ 64 * d0) (hf : u + r2 ≤ r0) (kk : ∀ (v : Option Value) (L2 : List Nat) (E2 : Nat → va_E) (u2 : Nat), P2 v L2 E2 u2 → wu p l e d0 r0 s m args below meth c G A nL Q L2 E2 (u + u2) (pc + 3) lv (v.toList ++ rest)) : wu p l e d0 r0 s m args below meth c G A nL Q L E u pc lv st := by
  intro kc ks hu H locs ls hP hD hS hl
  subst hst
  obtain ⟨⟨w1, w2, w3, w4⟩, w5, w6⟩ := hw
  have hts := C.2.2.2.2.1
  exact u_after C hu hD hS hl (va_runIN (As := As) (rest := rest) (Ts := lw_g) ⟨C.1, C.2.1, C.2.2.1, C.2.2.2.1, hts⟩ (M H.size) ⟨va_cnB k2 hts (lw_goodIn w3) rfl rfl rfl (C.2.2.2.2.2.2.2.2.2.2.2.1 _ _ _ _ w1) (hts _ w2) w4 hR, w5, hts _ w6⟩ ⟨Pcu.blind, fun U hU hW => ⟨rfl, ⟨by rw [hU], by rw [hU]; exact hP, va_K.moved hW.alike C.2.2.2.2.2.1, hD.weaken (fun _ _ _ _ => trivial), C.2.2.2.2.2.2.2.1.pass hS (pl_free hD hS C.2.2.2.2.2.2.1) hW.alike hU, C.2.2.2.2.2.2.2.2.2.2.2.warm hW⟩, hM.warm hW⟩⟩ rfl hk hl.1 rfl (lv_room hcat) d (u_room hu hf)) kk
theorem u_wid {kc ks u r0 : Nat} (h : 16 * kc + ks ≤ u) (hr : u ≤ r0) : kc ≤ r0 / 16 ∧ ks ≤ r0 := ⟨by omega, by omega⟩
theorem u_iret (C : Cq p s m args meth c cc y ret G A nL) {v : Int32} (d : decode cc pc = .ok (.ireturn, 1)) (hr : ret = some .int) (hur : u ≤ r0) (hp : Post (some (.int v)) L E u) : wu p l e d0 r0 s m args below meth c G A nL (MQ below (Qu G A Post) args s (r0 / 16) r0 A) L E u pc lv [.int v] := by
  intro kc ks hu H locs ls hP hD hS hl T hT X
  have hmu := stand_mu X
  rw [hT] at hmu
  refine W.widen (u_wid hu hur).1 (u_wid hu hur).2 ?_ T hT X
  exact W.iret C.1 C.2.1 (C.2.2.2.2.2.2.2.2.1.trans hr) (fun t ht hW => ⟨⟨_, L, E, u, rfl, hp, by rw [ht]; omega, by rw [ht]; exact hP, hD⟩, hS.F ht⟩) hS.2.2 d C.2.2.2.2.2.2.2.2.2.1
theorem u_zret (C : Cq p s m args meth c cc y ret G A nL) {v : Int32} (d : decode cc pc = .ok (.ireturn, 1)) (hr : ret = some .boolean) (hn : narrow .boolean (.int v) = .int v) (hur : u ≤ r0) (hp : Post (some (.int v)) L E u) : wu p l e d0 r0 s m args below meth c G A nL (MQ below (Qu G A Post) args s (r0 / 16) r0 A) L E u pc lv [.int v] := by
  intro kc ks hu H locs ls hP hD hS hl T hT X
  have hmu := stand_mu X
  rw [hT] at hmu
  refine W.widen (u_wid hu hur).1 (u_wid hu hur).2 ?_ T hT X
  exact W.zret C.1 C.2.1 (C.2.2.2.2.2.2.2.2.1.trans hr) hn (fun t ht hW => ⟨⟨_, L, E, u, rfl, hp, by rw [ht]; omega, by rw [ht]; exact hP, hD⟩, hS.F ht⟩) hS.2.2 d C.2.2.2.2.2.2.2.2.2.1
theorem u_vret (C : Cq p s m args meth c cc y ret G A nL) (d : decode cc pc = .ok (.return_, 1)) (hr : ret = none) (hur : u ≤ r0) (hp : Post none L E u) : wu p l e d0 r0 s m args below meth c G A nL (MQ below (Qu G A Post) args s (r0 / 16) r0 A) L E u pc lv [] := by
  intro kc ks hu H locs ls hP hD hS hl T hT X
  have hmu := stand_mu X
  rw [hT] at hmu
  refine W.widen (u_wid hu hur).1 (u_wid hu hur).2 ?_ T hT X
  exact W.vret C.1 C.2.1 (C.2.2.2.2.2.2.2.2.1.trans hr) (fun t ht hW => ⟨⟨_, L, E, u, rfl, hp, by rw [ht]; omega, by rw [ht]; exact hP, hD⟩, hS.F ht⟩) hS.2.2 d C.2.2.2.2.2.2.2.2.2.1
theorem u_aret (C : Cq p s m args meth c cc y ret G A nL) {v : Value} {rt : FieldType} (d : decode cc pc = .ok (.areturn, 1)) (hr : ret = some rt) (hrt : (∃ n, rt = .object n) ∨ ∃ t, rt = .array t) (hv : v = .null ∨ ∃ a, v = .ref a) (hur : u ≤ r0) (hp : Post (some v) L E u) : wu p l e d0 r0 s m args below meth c G A nL (MQ below (Qu G A Post) args s (r0 / 16) r0 A) L E u pc lv [v] := by
  intro kc ks hu H locs ls hP hD hS hl T hT X
  have hmu := stand_mu X
  rw [hT] at hmu
  refine W.widen (u_wid hu hur).1 (u_wid hu hur).2 ?_ T hT X
  exact W.aret C.1 C.2.1 (C.2.2.2.2.2.2.2.2.1.trans hr) hrt hv (fun t ht hW => ⟨⟨_, L, E, u, rfl, hp, by rw [ht]; omega, by rw [ht]; exact hP, hD⟩, hS.F ht⟩) hS.2.2 d C.2.2.2.2.2.2.2.2.2.1
end UQ
end
section
def bt (t : Nat) : Nat := if t < 100 then (if t = 28 then 18 else if t = 69 then 67 else t) else if t < 130 then 100 else if t < 1000 then t else 1000 + t % 5
def kd (T : Nat) : Nat := match T with
  | 1 => 12
  | 2 => 2
  | 3 => 2
  | 4 => 2
  | 5 => 2
  | 6 => 2
  | 7 => 2
  | 8 => 2
  | 9 => 2
  | 10 => 2
  | 11 => 2
  | 12 => 2
  | 13 => 11
  | 14 => 9
  | 15 => 7
  | 16 => 4
  | 17 => 5
  | 18 => 8
  | 19 => 3
  | 20 => 6
  | 21 => 1
  | 22 => 0
  | 23 => 0
  | 24 => 0
  | 25 => 0
  | 26 => 0
  | 52 => 21
  | 56 => 21
  | 59 => 21
  | 67 => 22
  | 68 => 23
  | 100 => 10
  | 200 => 0
  | 201 => 1
  | 202 => 2
  | 203 => 3
  | 204 => 4
  | 205 => 5
  | 206 => 6
  | 207 => 7
  | 208 => 8
  | 209 => 9
  | 210 => 10
  | 211 => 11
  | 212 => 12
  | 213 => 22
  | 1000 => 24
  | 1001 => 24
  | 1002 => 24
  | 1003 => 24
  | 1004 => 24
  | _ => 20
def nf (ci : Nat) : Nat := match ci with
  | 0 => 3
  | 1 => 4
  | 2 => 3
  | 3 => 3
  | 4 => 8
  | 5 => 11
  | 6 => 4
  | 7 => 12
  | 8 => 3
  | 9 => 8
  | 10 => 8
  | 11 => 2
  | _ => 19
def rf (ci k : Nat) : Bool := (match ci with
  | 0 => [1]
  | 1 => [1, 2]
  | 2 => [1]
  | 3 => [0]
  | 4 => [0, 1, 2, 3, 4, 5, 6]
  | 5 => [0, 1, 2, 3, 4, 7, 8]
  | 6 => [1, 2]
  | 7 => [0, 1, 2, 3, 6, 8]
  | 8 => [0]
  | 9 => [3, 4, 6]
  | 10 => [2, 3, 4, 5, 6]
  | 11 => [0, 1]
  | _ => [0, 1, 2, 3, 4, 5, 6, 7, 8, 9, 10] : List Nat).contains k
def ofv (ci : Nat) (i : Nat → Int) (r : Nat → Option Nat) : Nat → Value := fun k => if rf ci k = true then va_rf (r k) else .int (iI (i k))
def enc (G : GT) (cl ln : Nat → Nat) (iv : Nat → Nat → Int) (rv : Nat → Nat → Option Nat) (a : Nat) : va_E := if kd (bt (cl a)) < 13 then ob (kd (bt (cl a))) (nf (kd (bt (cl a)))) (ofv (kd (bt (cl a))) (iv a) (rv a)) else if kd (bt (cl a)) = 20 then aI G (ln a) (fun j => iI (iv a j)) else if kd (bt (cl a)) = 21 then aZ G (ln a) (fun j => iI (iv a j)) else if kd (bt (cl a)) = 22 then aL G (ln a) (rv a) else if kd (bt (cl a)) = 23 then aR G (ln a) (rv a) else aO G (ln a) (rv a)
def ty (L : List Nat) (cl : Nat → Nat) (a T : Nat) : Prop := a ∈ L ∧ bt (cl a) = T
def upr (rv : Nat → Nat → Option Nat) (a k : Nat) (x : Option Nat) : Nat → Nat → Option Nat := fun b j => if b = a then (if j = k then x else rv b j) else rv b j
def up0 {α : Type} (f : Nat → Nat → α) (q : Nat) (x : α) : Nat → Nat → α := fun b j => if b = q then x else f b j
theorem upr_s {rv : Nat → Nat → Option Nat} {a k : Nat} {x : Option Nat} : upr rv a k x a k = x := by unfold upr; rw [if_pos rfl, if_pos rfl]
theorem upr_a {rv : Nat → Nat → Option Nat} {a k b : Nat} {x : Option Nat} (h : b ≠ a) : upr rv a k x b = rv b := by funext j; unfold upr; rw [if_neg h]
theorem upr_j {rv : Nat → Nat → Option Nat} {a k b j : Nat} {x : Option Nat} (h : j ≠ k) : upr rv a k x b j = rv b j := by unfold upr; simp [h]
theorem upi_a {iv : Nat → Nat → Int} {a k b : Nat} {x : Int} (h : b ≠ a) : up2 iv a k x b = iv b := by funext j; exact up2_k h
theorem up0_s {α : Type} {f : Nat → Nat → α} {q : Nat} {x : α} {j : Nat} : up0 f q x q j = x := by unfold up0; rw [if_pos rfl]
theorem up0_a {α : Type} {f : Nat → Nat → α} {q b : Nat} {x : α} (h : b ≠ q) : up0 f q x b = f b := by funext j; unfold up0; rw [if_neg h]
theorem ofv_i {ci k : Nat} {i : Nat → Int} {r : Nat → Option Nat} (h : rf ci k = false) : ofv ci i r k = .int (iI (i k)) := by unfold ofv; rw [h]; rfl
theorem ofv_r {ci k : Nat} {i : Nat → Int} {r : Nat → Option Nat} (h : rf ci k = true) : ofv ci i r k = va_rf (r k) := by unfold ofv; rw [h]; rfl
section ENC
variable {G : GT} {cl ln : Nat → Nat} {iv : Nat → Nat → Int} {rv : Nat → Nat → Option Nat} {a T ci N : Nat} {L : List Nat}
theorem enc_ob (ha : ty L cl a T) (hT : kd T = ci) (hN : nf ci = N) (h13 : ci < 13) : enc G cl ln iv rv a = ob ci N (ofv ci (iv a) (rv a)) := by unfold enc; rw [ha.2, hT, if_pos h13, hN]
theorem enc_I (ha : ty L cl a T) (hT : kd T = 20) : enc G cl ln iv rv a = aI G (ln a) (fun j => iI (iv a j)) := by unfold enc; rw [ha.2, hT]; rfl
theorem enc_Z (ha : ty L cl a T) (hT : kd T = 21) : enc G cl ln iv rv a = aZ G (ln a) (fun j => iI (iv a j)) := by unfold enc; rw [ha.2, hT]; rfl
theorem enc_L (ha : ty L cl a T) (hT : kd T = 22) : enc G cl ln iv rv a = aL G (ln a) (rv a) := by unfold enc; rw [ha.2, hT]; rfl
theorem enc_R (ha : ty L cl a T) (hT : kd T = 23) : enc G cl ln iv rv a = aR G (ln a) (rv a) := by unfold enc; rw [ha.2, hT]; rfl
theorem enc_O (ha : ty L cl a T) (hT : kd T = 24) : enc G cl ln iv rv a = aO G (ln a) (rv a) := by unfold enc; rw [ha.2, hT]; rfl
theorem enc_ext {cl2 ln2 : Nat → Nat} {iv2 : Nat → Nat → Int} {rv2 : Nat → Nat → Option Nat} (h1 : kd (bt (cl2 a)) = kd (bt (cl a))) (h2 : ln2 a = ln a) (h3 : iv2 a = iv a) (h4 : rv2 a = rv a) : enc G cl2 ln2 iv2 rv2 a = enc G cl ln iv rv a := by unfold enc; rw [h1, h2, h3, h4]
theorem enc_up {cl2 ln2 : Nat → Nat} {iv2 : Nat → Nat → Int} {rv2 : Nat → Nat → Option Nat} {x : va_E} (h : ∀ b, b ≠ a → cl2 b = cl b ∧ ln2 b = ln b ∧ iv2 b = iv b ∧ rv2 b = rv b) (hx : enc G cl2 ln2 iv2 rv2 a = x) : va_up (enc G cl ln iv rv) a x = enc G cl2 ln2 iv2 rv2 := by
  funext b
  by_cases e : b = a
  · subst e; rw [va_up_self, hx]
  · rw [va_up_ne _ _ e]
    obtain ⟨q1, q2, q3, q4⟩ := h b e
    exact (enc_ext (by rw [q1]) q2 q3 q4).symm
theorem enc_put {k : Nat} {z : Int} (ha : ty L cl a T) (hT : kd T = ci) (hN : nf ci = N) (h13 : ci < 13) (hr : rf ci k = false) : va_up (enc G cl ln iv rv) a (ob ci N (va_up (ofv ci (iv a) (rv a)) k (.int (iI z)))) = enc G cl ln (up2 iv a k z) rv := by
  refine enc_up (fun b hb => ⟨rfl, rfl, upi_a hb, rfl⟩) ?_
  rw [enc_ob ha hT hN h13]
  congr 1
  funext j
  by_cases e : j = k
  · subst e; rw [va_up_self, ofv_i hr, up2_s]
  · rw [va_up_ne _ _ e]; unfold ofv; rw [up2_j e]
theorem enc_putr {k : Nat} {x : Option Nat} (ha : ty L cl a T) (hT : kd T = ci) (hN : nf ci = N) (h13 : ci < 13) (hr : rf ci k = true) : va_up (enc G cl ln iv rv) a (ob ci N (va_up (ofv ci (iv a) (rv a)) k (va_rf x))) = enc G cl ln iv (upr rv a k x) := by
  refine enc_up (fun b hb => ⟨rfl, rfl, rfl, upr_a hb⟩) ?_
  rw [enc_ob ha hT hN h13]
  congr 1
  funext j
  by_cases e : j = k
  · subst e; rw [va_up_self, ofv_r hr, upr_s]
  · rw [va_up_ne _ _ e]; unfold ofv; rw [upr_j e]
theorem enc_ast {k : Nat} {z : Int} (ha : ty L cl a T) (hT : kd T = 20) : va_up (enc G cl ln iv rv) a (aI G (ln a) (fun j => if j = k then iI z else iI (iv a j))) = enc G cl ln (up2 iv a k z) rv := by
  refine enc_up (fun b hb => ⟨rfl, rfl, upi_a hb, rfl⟩) ?_
  rw [enc_I ha hT]
  congr 1
  funext j
  by_cases e : j = k
  · subst e; rw [if_pos rfl, up2_s]
  · rw [if_neg e, up2_j e]
theorem enc_zst {k : Nat} {z : Int} (ha : ty L cl a T) (hT : kd T = 21) : va_up (enc G cl ln iv rv) a (aZ G (ln a) (fun j => if j = k then iI z else iI (iv a j))) = enc G cl ln (up2 iv a k z) rv := by
  refine enc_up (fun b hb => ⟨rfl, rfl, upi_a hb, rfl⟩) ?_
  rw [enc_Z ha hT]
  congr 1
  funext j
  by_cases e : j = k
  · subst e; rw [if_pos rfl, up2_s]
  · rw [if_neg e, up2_j e]
theorem upr_up {k : Nat} {x : Option Nat} : upr rv a k x a = va_up (rv a) k x := by
  funext j
  by_cases e : j = k
  · subst e; rw [upr_s, va_up_self]
  · rw [upr_j e, va_up_ne _ _ e]
theorem enc_rst {k : Nat} {x : Option Nat} {mk : (Nat → Option Nat) → va_E} (hm : ∀ r2 : Nat → Nat → Option Nat, enc G cl ln iv r2 a = mk (r2 a)) : va_up (enc G cl ln iv rv) a (mk (va_up (rv a) k x)) = enc G cl ln iv (upr rv a k x) := by
  refine enc_up (fun b hb => ⟨rfl, rfl, rfl, upr_a hb⟩) ?_
  rw [hm, upr_up]
end ENC
theorem ob_ext {ci N : Nat} {f g : Nat → Value} (h : ∀ j, j < N → f j = g j) : ob ci N f = ob ci N g := by
  unfold ob
  congr 2
  exact List.map_congr_left (fun j hj => h j (List.mem_range.mp hj))
abbrev PF : Type := (Nat → Nat) → (Nat → Nat → Option Nat) → Nat
def cw (p : Program) (l : Launch) (e : Env) (d0 r0 : Nat) (s : State) (m : MethodId) (args : Array Value) (below : List Frame) (meth : Method) (c : Code) (G : GT) (A : Nat → Prop) (nL : Nat) (Q : State → Prop) (Pf : PF) (ph : Nat) (L : List Nat) (cl ln : Nat → Nat) (iv : Nat → Nat → Int) (rv : Nat → Nat → Option Nat) (K pc : Nat) (lv : List (Nat × Value)) (st : List Value) : Prop := ∀ u : Nat, u + ph ≤ Pf ln rv + K → wu p l e d0 r0 s m args below meth c G A nL Q L (enc G cl ln iv rv) u pc lv st
abbrev PC : Type := Option Value → List Nat → (Nat → Nat) → (Nat → Nat) → (Nat → Nat → Int) → (Nat → Nat → Option Nat) → Prop
def Qp (G : GT) (Pf : PF) (ph c0 : Nat) (Post : PC) : PU := fun v L2 E2 u => ∃ (cl2 ln2 : Nat → Nat) (iv2 : Nat → Nat → Int) (rv2 : Nat → Nat → Option Nat), E2 = enc G cl2 ln2 iv2 rv2 ∧ u + ph ≤ Pf ln2 rv2 + c0 ∧ Post v L2 cl2 ln2 iv2 rv2
def Mc (l : Launch) (G : GT) (mi : Nat) (Pf : PF) (pm : Nat) (y : MethodName) (cc : ByteArray) (n : Nat) (ret : Option FieldType) (d : Nat) (av : List Value) (L : List Nat) (cl ln : Nat → Nat) (iv : Nat → Nat → Int) (rv : Nat → Nat → Option Nat) (c0 : Nat) (Post : PC) : Prop := Mu l G mi y cc n ret d av L (enc G cl ln iv rv) (pm + c0 - Pf ln rv) (Qp G Pf (Pf ln rv) c0 Post)
section CQ
variable {p : Program} {l : Launch} {e : Env} {d0 r0 : Nat} {s : State} {m : MethodId} {args : Array Value} {below : List Frame} {meth : Method} {c : Code} {cc : ByteArray} {y : MethodName} {ret : Option FieldType} {G : GT} {A : Nat → Prop} {nL mi : Nat} {Q : State → Prop} {Pf : PF} {ph : Nat} {L : List Nat} {cl ln : Nat → Nat} {iv : Nat → Nat → Int} {rv : Nat → Nat → Option Nat} {K pc : Nat} {lv : List (Nat × Value)} {st : List Value}
theorem c_iconst (C : Cq p s m args meth c cc y ret G A nL) {n : Int} (d : decode cc pc = .ok (.iconst n, 1))  (k : cw p l e d0 r0 s m args below meth c G A nL Q Pf ph L cl ln iv rv K (pc + 1) lv (.int (iI n) :: st)) : cw p l e d0 r0 s m args below meth c G A nL Q Pf ph L cl ln iv rv K pc lv st := fun uu huu kc ks hkk => q_iconst C d rfl (k uu huu kc ks hkk)
theorem c_bipush (C : Cq p s m args meth c cc y ret G A nL) {n z : Int} (d : decode cc pc = .ok (.bipush n, 2)) (hz : (Int8.ofInt n).toInt32 = iI z) (k : cw p l e d0 r0 s m args below meth c G A nL Q Pf ph L cl ln iv rv K (pc + 2) lv (.int (iI z) :: st)) : cw p l e d0 r0 s m args below meth c G A nL Q Pf ph L cl ln iv rv K pc lv st := fun uu huu kc ks hkk => q_bipush C d hz (k uu huu kc ks hkk)
theorem c_sipush (C : Cq p s m args meth c cc y ret G A nL) {n z : Int} (d : decode cc pc = .ok (.sipush n, 3)) (hz : (Int16.ofInt n).toInt32 = iI z) (k : cw p l e d0 r0 s m args below meth c G A nL Q Pf ph L cl ln iv rv K (pc + 3) lv (.int (iI z) :: st)) : cw p l e d0 r0 s m args below meth c G A nL Q Pf ph L cl ln iv rv K pc lv st := fun uu huu kc ks hkk => q_sipush C d hz (k uu huu kc ks hkk)
theorem c_ldc (C : Cq p s m args meth c cc y ret G A nL) {idx : Nat} {x : Int32} {z : Int} (d : decode cc pc = .ok (.ldc idx, 2)) (hc : Cond.constant y.cls idx x ∈ lw_g) (hz : x = iI z) (k : cw p l e d0 r0 s m args below meth c G A nL Q Pf ph L cl ln iv rv K (pc + 2) lv (.int (iI z) :: st)) : cw p l e d0 r0 s m args below meth c G A nL Q Pf ph L cl ln iv rv K pc lv st := fun uu huu kc ks hkk => q_ldc C d hc (hz ▸ k uu huu kc ks hkk)
theorem c_iload_n (C : Cq p s m args meth c cc y ret G A nL) {i : Fin 4} {j : Nat} {x : Int32} (d : decode cc pc = .ok (.iload_n i, 1)) (hj : lv[j]? = some ((i : Nat), .int x)) (k : cw p l e d0 r0 s m args below meth c G A nL Q Pf ph L cl ln iv rv K (pc + 1) lv (.int x :: st)) : cw p l e d0 r0 s m args below meth c G A nL Q Pf ph L cl ln iv rv K pc lv st := fun uu huu kc ks hkk => q_iload_n C d hj (k uu huu kc ks hkk)
theorem c_iload (C : Cq p s m args meth c cc y ret G A nL) {i j : Nat} {x : Int32} (d : decode cc pc = .ok (.iload i, 2)) (hj : lv[j]? = some (i, .int x)) (k : cw p l e d0 r0 s m args below meth c G A nL Q Pf ph L cl ln iv rv K (pc + 2) lv (.int x :: st)) : cw p l e d0 r0 s m args below meth c G A nL Q Pf ph L cl ln iv rv K pc lv st := fun uu huu kc ks hkk => q_iload C d hj (k uu huu kc ks hkk)
theorem c_aload_n (C : Cq p s m args meth c cc y ret G A nL) {i : Fin 4} {j : Nat} {x : Nat} (d : decode cc pc = .ok (.aload_n i, 1)) (hj : lv[j]? = some ((i : Nat), .ref x)) (k : cw p l e d0 r0 s m args below meth c G A nL Q Pf ph L cl ln iv rv K (pc + 1) lv (.ref x :: st)) : cw p l e d0 r0 s m args below meth c G A nL Q Pf ph L cl ln iv rv K pc lv st := fun uu huu kc ks hkk => q_aload_n C d hj (k uu huu kc ks hkk)
theorem c_aload (C : Cq p s m args meth c cc y ret G A nL) {i j : Nat} {x : Nat} (d : decode cc pc = .ok (.aload i, 2)) (hj : lv[j]? = some (i, .ref x)) (k : cw p l e d0 r0 s m args below meth c G A nL Q Pf ph L cl ln iv rv K (pc + 2) lv (.ref x :: st)) : cw p l e d0 r0 s m args below meth c G A nL Q Pf ph L cl ln iv rv K pc lv st := fun uu huu kc ks hkk => q_aload C d hj (k uu huu kc ks hkk)
theorem c_istore_n (C : Cq p s m args meth c cc y ret G A nL) {i : Fin 4} {x : Int32} {lv2 : List (Nat × Value)} (d : decode cc pc = .ok (.istore_n i, 1)) (hn : (i : Nat) < nL) (hl : ((i : Nat), Value.int x) :: lv.filter (fun q => !(q.1 == (i : Nat)) && !(q.1 + 1 == (i : Nat) && q.2.category == 2)) = lv2) (k : cw p l e d0 r0 s m args below meth c G A nL Q Pf ph L cl ln iv rv K (pc + 1) lv2 st) : cw p l e d0 r0 s m args below meth c G A nL Q Pf ph L cl ln iv rv K pc lv (Value.int x :: st) := fun uu huu kc ks hkk => q_istore_n C d hn hl (k uu huu kc ks hkk)
theorem c_istore (C : Cq p s m args meth c cc y ret G A nL) {i : Nat} {x : Int32} {lv2 : List (Nat × Value)} (d : decode cc pc = .ok (.istore i, 2)) (hn : i < nL) (hl : (i, Value.int x) :: lv.filter (fun q => !(q.1 == i) && !(q.1 + 1 == i && q.2.category == 2)) = lv2) (k : cw p l e d0 r0 s m args below meth c G A nL Q Pf ph L cl ln iv rv K (pc + 2) lv2 st) : cw p l e d0 r0 s m args below meth c G A nL Q Pf ph L cl ln iv rv K pc lv (Value.int x :: st) := fun uu huu kc ks hkk => q_istore C d hn hl (k uu huu kc ks hkk)
theorem c_astore_n (C : Cq p s m args meth c cc y ret G A nL) {i : Fin 4} {x : Nat} {lv2 : List (Nat × Value)} (d : decode cc pc = .ok (.astore_n i, 1)) (hn : (i : Nat) < nL) (hl : ((i : Nat), Value.ref x) :: lv.filter (fun q => !(q.1 == (i : Nat)) && !(q.1 + 1 == (i : Nat) && q.2.category == 2)) = lv2) (k : cw p l e d0 r0 s m args below meth c G A nL Q Pf ph L cl ln iv rv K (pc + 1) lv2 st) : cw p l e d0 r0 s m args below meth c G A nL Q Pf ph L cl ln iv rv K pc lv (Value.ref x :: st) := fun uu huu kc ks hkk => q_astore_n C d hn hl (k uu huu kc ks hkk)
theorem c_astore (C : Cq p s m args meth c cc y ret G A nL) {i : Nat} {x : Nat} {lv2 : List (Nat × Value)} (d : decode cc pc = .ok (.astore i, 2)) (hn : i < nL) (hl : (i, Value.ref x) :: lv.filter (fun q => !(q.1 == i) && !(q.1 + 1 == i && q.2.category == 2)) = lv2) (k : cw p l e d0 r0 s m args below meth c G A nL Q Pf ph L cl ln iv rv K (pc + 2) lv2 st) : cw p l e d0 r0 s m args below meth c G A nL Q Pf ph L cl ln iv rv K pc lv (Value.ref x :: st) := fun uu huu kc ks hkk => q_astore C d hn hl (k uu huu kc ks hkk)
theorem c_iinc (C : Cq p s m args meth c cc y ret G A nL) {i j : Nat} {n z : Int} {lv2 : List (Nat × Value)} (d : decode cc pc = .ok (.iinc i n, 3)) (hj : lv[j]? = some (i, .int (iI z))) (hn : i < nL) (hl : (i, Value.int (iI (z + n))) :: lv.filter (fun q => !(q.1 == i) && !(q.1 + 1 == i && q.2.category == 2)) = lv2) (k : cw p l e d0 r0 s m args below meth c G A nL Q Pf ph L cl ln iv rv K (pc + 3) lv2 st) : cw p l e d0 r0 s m args below meth c G A nL Q Pf ph L cl ln iv rv K pc lv st := fun uu huu kc ks hkk => q_iinc C d hj (Int32.ofInt_add z n).symm hn hl (k uu huu kc ks hkk)
theorem c_iadd (C : Cq p s m args meth c cc y ret G A nL) {x z : Int} (d : decode cc pc = .ok (.iadd, 1))  (k : cw p l e d0 r0 s m args below meth c G A nL Q Pf ph L cl ln iv rv K (pc + 1) lv (.int (iI (x + z)) :: st)) : cw p l e d0 r0 s m args below meth c G A nL Q Pf ph L cl ln iv rv K pc lv (.int (iI z) :: .int (iI x) :: st) := fun uu huu kc ks hkk => q_iadd C d (Int32.ofInt_add x z).symm (k uu huu kc ks hkk)
theorem c_isub (C : Cq p s m args meth c cc y ret G A nL) {x z : Int} (d : decode cc pc = .ok (.isub, 1))  (k : cw p l e d0 r0 s m args below meth c G A nL Q Pf ph L cl ln iv rv K (pc + 1) lv (.int (iI (x - z)) :: st)) : cw p l e d0 r0 s m args below meth c G A nL Q Pf ph L cl ln iv rv K pc lv (.int (iI z) :: .int (iI x) :: st) := fun uu huu kc ks hkk => q_isub C d (Int32.ofInt_sub x z).symm (k uu huu kc ks hkk)
theorem c_imul (C : Cq p s m args meth c cc y ret G A nL) {x z : Int} (d : decode cc pc = .ok (.imul, 1))  (k : cw p l e d0 r0 s m args below meth c G A nL Q Pf ph L cl ln iv rv K (pc + 1) lv (.int (iI (x * z)) :: st)) : cw p l e d0 r0 s m args below meth c G A nL Q Pf ph L cl ln iv rv K pc lv (.int (iI z) :: .int (iI x) :: st) := fun uu huu kc ks hkk => q_imul C d (Int32.ofInt_mul x z).symm (k uu huu kc ks hkk)
theorem c_iand (C : Cq p s m args meth c cc y ret G A nL) {x y2 w : Int32} (d : decode cc pc = .ok (.iand, 1)) (hv : x &&& y2 = w) (k : cw p l e d0 r0 s m args below meth c G A nL Q Pf ph L cl ln iv rv K (pc + 1) lv (.int w :: st)) : cw p l e d0 r0 s m args below meth c G A nL Q Pf ph L cl ln iv rv K pc lv (.int y2 :: .int x :: st) := fun uu huu kc ks hkk => q_iand C d hv (k uu huu kc ks hkk)
theorem c_ior (C : Cq p s m args meth c cc y ret G A nL) {x y2 w : Int32} (d : decode cc pc = .ok (.ior, 1)) (hv : x ||| y2 = w) (k : cw p l e d0 r0 s m args below meth c G A nL Q Pf ph L cl ln iv rv K (pc + 1) lv (.int w :: st)) : cw p l e d0 r0 s m args below meth c G A nL Q Pf ph L cl ln iv rv K pc lv (.int y2 :: .int x :: st) := fun uu huu kc ks hkk => q_ior C d hv (k uu huu kc ks hkk)
theorem c_ixor (C : Cq p s m args meth c cc y ret G A nL) {x y2 w : Int32} (d : decode cc pc = .ok (.ixor, 1)) (hv : x ^^^ y2 = w) (k : cw p l e d0 r0 s m args below meth c G A nL Q Pf ph L cl ln iv rv K (pc + 1) lv (.int w :: st)) : cw p l e d0 r0 s m args below meth c G A nL Q Pf ph L cl ln iv rv K pc lv (.int y2 :: .int x :: st) := fun uu huu kc ks hkk => q_ixor C d hv (k uu huu kc ks hkk)
theorem c_ishl (C : Cq p s m args meth c cc y ret G A nL) {x y2 w : Int32} (d : decode cc pc = .ok (.ishl, 1)) (hv : x <<< (y2 &&& 31) = w) (k : cw p l e d0 r0 s m args below meth c G A nL Q Pf ph L cl ln iv rv K (pc + 1) lv (.int w :: st)) : cw p l e d0 r0 s m args below meth c G A nL Q Pf ph L cl ln iv rv K pc lv (.int y2 :: .int x :: st) := fun uu huu kc ks hkk => q_ishl C d hv (k uu huu kc ks hkk)
theorem c_ishr (C : Cq p s m args meth c cc y ret G A nL) {x y2 w : Int32} (d : decode cc pc = .ok (.ishr, 1)) (hv : x >>> (y2 &&& 31) = w) (k : cw p l e d0 r0 s m args below meth c G A nL Q Pf ph L cl ln iv rv K (pc + 1) lv (.int w :: st)) : cw p l e d0 r0 s m args below meth c G A nL Q Pf ph L cl ln iv rv K pc lv (.int y2 :: .int x :: st) := fun uu huu kc ks hkk => q_ishr C d hv (k uu huu kc ks hkk)
theorem c_iushr (C : Cq p s m args meth c cc y ret G A nL) {x y2 w : Int32} (d : decode cc pc = .ok (.iushr, 1)) (hv : (x.toUInt32 >>> (y2.toUInt32 &&& Int32.toUInt32 31)).toInt32 = w) (k : cw p l e d0 r0 s m args below meth c G A nL Q Pf ph L cl ln iv rv K (pc + 1) lv (.int w :: st)) : cw p l e d0 r0 s m args below meth c G A nL Q Pf ph L cl ln iv rv K pc lv (.int y2 :: .int x :: st) := fun uu huu kc ks hkk => q_iushr C d hv (k uu huu kc ks hkk)
theorem c_idiv (C : Cq p s m args meth c cc y ret G A nL) {x y2 w : Int32} (d : decode cc pc = .ok (.idiv, 1)) (hne : ¬ y2 = 0) (hv : x / y2 = w) (k : cw p l e d0 r0 s m args below meth c G A nL Q Pf ph L cl ln iv rv K (pc + 1) lv (.int w :: st)) : cw p l e d0 r0 s m args below meth c G A nL Q Pf ph L cl ln iv rv K pc lv (.int y2 :: .int x :: st) := fun uu huu kc ks hkk => q_idiv C d hne hv (k uu huu kc ks hkk)
theorem c_ineg (C : Cq p s m args meth c cc y ret G A nL) {z : Int} (d : decode cc pc = .ok (.ineg, 1))  (k : cw p l e d0 r0 s m args below meth c G A nL Q Pf ph L cl ln iv rv K (pc + 1) lv (.int (iI (-z)) :: st)) : cw p l e d0 r0 s m args below meth c G A nL Q Pf ph L cl ln iv rv K pc lv (.int (iI z) :: st) := fun uu huu kc ks hkk => q_ineg C d (Int32.ofInt_neg z).symm (k uu huu kc ks hkk)
theorem c_dup (C : Cq p s m args meth c cc y ret G A nL) {u : Value} (d : decode cc pc = .ok (.dup, 1)) (hu : u.category = 1) (k : cw p l e d0 r0 s m args below meth c G A nL Q Pf ph L cl ln iv rv K (pc + 1) lv (u :: u :: st)) : cw p l e d0 r0 s m args below meth c G A nL Q Pf ph L cl ln iv rv K pc lv (u :: st) := fun uu huu kc ks hkk => q_dup C d hu (k uu huu kc ks hkk)
theorem c_pop (C : Cq p s m args meth c cc y ret G A nL) {u : Value} (d : decode cc pc = .ok (.pop, 1)) (hu : u.category = 1) (k : cw p l e d0 r0 s m args below meth c G A nL Q Pf ph L cl ln iv rv K (pc + 1) lv st) : cw p l e d0 r0 s m args below meth c G A nL Q Pf ph L cl ln iv rv K pc lv (u :: st) := fun uu huu kc ks hkk => q_pop C d hu (k uu huu kc ks hkk)
theorem c_dup2 (C : Cq p s m args meth c cc y ret G A nL) {u w : Value} (d : decode cc pc = .ok (.dup2, 1)) (hu : u.category = 1) (hw : w.category = 1) (k : cw p l e d0 r0 s m args below meth c G A nL Q Pf ph L cl ln iv rv K (pc + 1) lv (u :: w :: u :: w :: st)) : cw p l e d0 r0 s m args below meth c G A nL Q Pf ph L cl ln iv rv K pc lv (u :: w :: st) := fun uu huu kc ks hkk => q_dup2 C d hu hw (k uu huu kc ks hkk)
theorem c_goto (C : Cq p s m args meth c cc y ret G A nL) {off : Int} {tgt : Nat} (d : decode cc pc = .ok (.goto off, 3)) (ht : (pc : Int) + off = (tgt : Int)) (k : cw p l e d0 r0 s m args below meth c G A nL Q Pf ph L cl ln iv rv K tgt lv st) : cw p l e d0 r0 s m args below meth c G A nL Q Pf ph L cl ln iv rv K pc lv st := fun uu huu kc ks hkk => q_goto C d ht (k uu huu kc ks hkk)
theorem c_icmp_eq (C : Cq p s m args meth c cc y ret G A nL) {x z off : Int} {tgt : Nat} (hx : R32 x) (hz : R32 z) (d : decode cc pc = .ok (.if_icmp .eq off, 3)) (ht : (pc : Int) + off = (tgt : Int)) (kt : x = z → cw p l e d0 r0 s m args below meth c G A nL Q Pf ph L cl ln iv rv K tgt lv st) (kf : ¬ x = z → cw p l e d0 r0 s m args below meth c G A nL Q Pf ph L cl ln iv rv K (pc + 3) lv st) : cw p l e d0 r0 s m args below meth c G A nL Q Pf ph L cl ln iv rv K pc lv (.int (iI z) :: .int (iI x) :: st) := fun uu huu kc ks hkk => q_icmp_eq C d ht (fun q => kt ((iI_eq hx hz).mp q) uu huu kc ks hkk) (fun q => kf (fun r => q ((iI_eq hx hz).mpr r)) uu huu kc ks hkk)
theorem c_if_eq (C : Cq p s m args meth c cc y ret G A nL) {x off : Int} {tgt : Nat} (hx : R32 x) (d : decode cc pc = .ok (.ifCond .eq off, 3)) (ht : (pc : Int) + off = (tgt : Int)) (kt : x = 0 → cw p l e d0 r0 s m args below meth c G A nL Q Pf ph L cl ln iv rv K tgt lv st) (kf : ¬ x = 0 → cw p l e d0 r0 s m args below meth c G A nL Q Pf ph L cl ln iv rv K (pc + 3) lv st) : cw p l e d0 r0 s m args below meth c G A nL Q Pf ph L cl ln iv rv K pc lv (.int (iI x) :: st) := fun uu huu kc ks hkk => q_if_eq C d ht (fun q => kt ((iI_eq hx R32_0).mp q) uu huu kc ks hkk) (fun q => kf (fun r => q ((iI_eq hx R32_0).mpr r)) uu huu kc ks hkk)
theorem c_icmp_ne (C : Cq p s m args meth c cc y ret G A nL) {x z off : Int} {tgt : Nat} (hx : R32 x) (hz : R32 z) (d : decode cc pc = .ok (.if_icmp .ne off, 3)) (ht : (pc : Int) + off = (tgt : Int)) (kt : ¬ x = z → cw p l e d0 r0 s m args below meth c G A nL Q Pf ph L cl ln iv rv K tgt lv st) (kf : x = z → cw p l e d0 r0 s m args below meth c G A nL Q Pf ph L cl ln iv rv K (pc + 3) lv st) : cw p l e d0 r0 s m args below meth c G A nL Q Pf ph L cl ln iv rv K pc lv (.int (iI z) :: .int (iI x) :: st) := fun uu huu kc ks hkk => q_icmp_ne C d ht (fun q => kt (fun r => q ((iI_eq hx hz).mpr r)) uu huu kc ks hkk) (fun q => kf ((iI_eq hx hz).mp q) uu huu kc ks hkk)
theorem c_if_ne (C : Cq p s m args meth c cc y ret G A nL) {x off : Int} {tgt : Nat} (hx : R32 x) (d : decode cc pc = .ok (.ifCond .ne off, 3)) (ht : (pc : Int) + off = (tgt : Int)) (kt : ¬ x = 0 → cw p l e d0 r0 s m args below meth c G A nL Q Pf ph L cl ln iv rv K tgt lv st) (kf : x = 0 → cw p l e d0 r0 s m args below meth c G A nL Q Pf ph L cl ln iv rv K (pc + 3) lv st) : cw p l e d0 r0 s m args below meth c G A nL Q Pf ph L cl ln iv rv K pc lv (.int (iI x) :: st) := fun uu huu kc ks hkk => q_if_ne C d ht (fun q => kt (fun r => q ((iI_eq hx R32_0).mpr r)) uu huu kc ks hkk) (fun q => kf ((iI_eq hx R32_0).mp q) uu huu kc ks hkk)
theorem c_icmp_lt (C : Cq p s m args meth c cc y ret G A nL) {x z off : Int} {tgt : Nat} (hx : R32 x) (hz : R32 z) (d : decode cc pc = .ok (.if_icmp .lt off, 3)) (ht : (pc : Int) + off = (tgt : Int)) (kt : x < z → cw p l e d0 r0 s m args below meth c G A nL Q Pf ph L cl ln iv rv K tgt lv st) (kf : ¬ x < z → cw p l e d0 r0 s m args below meth c G A nL Q Pf ph L cl ln iv rv K (pc + 3) lv st) : cw p l e d0 r0 s m args below meth c G A nL Q Pf ph L cl ln iv rv K pc lv (.int (iI z) :: .int (iI x) :: st) := fun uu huu kc ks hkk => q_icmp_lt C d ht (fun q => kt ((iI_lt hx hz).mp q) uu huu kc ks hkk) (fun q => kf (fun r => q ((iI_lt hx hz).mpr r)) uu huu kc ks hkk)
theorem c_if_lt (C : Cq p s m args meth c cc y ret G A nL) {x off : Int} {tgt : Nat} (hx : R32 x) (d : decode cc pc = .ok (.ifCond .lt off, 3)) (ht : (pc : Int) + off = (tgt : Int)) (kt : x < 0 → cw p l e d0 r0 s m args below meth c G A nL Q Pf ph L cl ln iv rv K tgt lv st) (kf : ¬ x < 0 → cw p l e d0 r0 s m args below meth c G A nL Q Pf ph L cl ln iv rv K (pc + 3) lv st) : cw p l e d0 r0 s m args below meth c G A nL Q Pf ph L cl ln iv rv K pc lv (.int (iI x) :: st) := fun uu huu kc ks hkk => q_if_lt C d ht (fun q => kt ((iI_lt hx R32_0).mp q) uu huu kc ks hkk) (fun q => kf (fun r => q ((iI_lt hx R32_0).mpr r)) uu huu kc ks hkk)
theorem c_icmp_ge (C : Cq p s m args meth c cc y ret G A nL) {x z off : Int} {tgt : Nat} (hx : R32 x) (hz : R32 z) (d : decode cc pc = .ok (.if_icmp .ge off, 3)) (ht : (pc : Int) + off = (tgt : Int)) (kt : z ≤ x → cw p l e d0 r0 s m args below meth c G A nL Q Pf ph L cl ln iv rv K tgt lv st) (kf : ¬ z ≤ x → cw p l e d0 r0 s m args below meth c G A nL Q Pf ph L cl ln iv rv K (pc + 3) lv st) : cw p l e d0 r0 s m args below meth c G A nL Q Pf ph L cl ln iv rv K pc lv (.int (iI z) :: .int (iI x) :: st) := fun uu huu kc ks hkk => q_icmp_ge C d ht (fun q => kt ((iI_le hz hx).mp q) uu huu kc ks hkk) (fun q => kf (fun r => q ((iI_le hz hx).mpr r)) uu huu kc ks hkk)
theorem c_if_ge (C : Cq p s m args meth c cc y ret G A nL) {x off : Int} {tgt : Nat} (hx : R32 x) (d : decode cc pc = .ok (.ifCond .ge off, 3)) (ht : (pc : Int) + off = (tgt : Int)) (kt : 0 ≤ x → cw p l e d0 r0 s m args below meth c G A nL Q Pf ph L cl ln iv rv K tgt lv st) (kf : ¬ 0 ≤ x → cw p l e d0 r0 s m args below meth c G A nL Q Pf ph L cl ln iv rv K (pc + 3) lv st) : cw p l e d0 r0 s m args below meth c G A nL Q Pf ph L cl ln iv rv K pc lv (.int (iI x) :: st) := fun uu huu kc ks hkk => q_if_ge C d ht (fun q => kt ((iI_le R32_0 hx).mp q) uu huu kc ks hkk) (fun q => kf (fun r => q ((iI_le R32_0 hx).mpr r)) uu huu kc ks hkk)
theorem c_icmp_gt (C : Cq p s m args meth c cc y ret G A nL) {x z off : Int} {tgt : Nat} (hx : R32 x) (hz : R32 z) (d : decode cc pc = .ok (.if_icmp .gt off, 3)) (ht : (pc : Int) + off = (tgt : Int)) (kt : z < x → cw p l e d0 r0 s m args below meth c G A nL Q Pf ph L cl ln iv rv K tgt lv st) (kf : ¬ z < x → cw p l e d0 r0 s m args below meth c G A nL Q Pf ph L cl ln iv rv K (pc + 3) lv st) : cw p l e d0 r0 s m args below meth c G A nL Q Pf ph L cl ln iv rv K pc lv (.int (iI z) :: .int (iI x) :: st) := fun uu huu kc ks hkk => q_icmp_gt C d ht (fun q => kt ((iI_lt hz hx).mp q) uu huu kc ks hkk) (fun q => kf (fun r => q ((iI_lt hz hx).mpr r)) uu huu kc ks hkk)
theorem c_if_gt (C : Cq p s m args meth c cc y ret G A nL) {x off : Int} {tgt : Nat} (hx : R32 x) (d : decode cc pc = .ok (.ifCond .gt off, 3)) (ht : (pc : Int) + off = (tgt : Int)) (kt : 0 < x → cw p l e d0 r0 s m args below meth c G A nL Q Pf ph L cl ln iv rv K tgt lv st) (kf : ¬ 0 < x → cw p l e d0 r0 s m args below meth c G A nL Q Pf ph L cl ln iv rv K (pc + 3) lv st) : cw p l e d0 r0 s m args below meth c G A nL Q Pf ph L cl ln iv rv K pc lv (.int (iI x) :: st) := fun uu huu kc ks hkk => q_if_gt C d ht (fun q => kt ((iI_lt R32_0 hx).mp q) uu huu kc ks hkk) (fun q => kf (fun r => q ((iI_lt R32_0 hx).mpr r)) uu huu kc ks hkk)
theorem c_icmp_le (C : Cq p s m args meth c cc y ret G A nL) {x z off : Int} {tgt : Nat} (hx : R32 x) (hz : R32 z) (d : decode cc pc = .ok (.if_icmp .le off, 3)) (ht : (pc : Int) + off = (tgt : Int)) (kt : x ≤ z → cw p l e d0 r0 s m args below meth c G A nL Q Pf ph L cl ln iv rv K tgt lv st) (kf : ¬ x ≤ z → cw p l e d0 r0 s m args below meth c G A nL Q Pf ph L cl ln iv rv K (pc + 3) lv st) : cw p l e d0 r0 s m args below meth c G A nL Q Pf ph L cl ln iv rv K pc lv (.int (iI z) :: .int (iI x) :: st) := fun uu huu kc ks hkk => q_icmp_le C d ht (fun q => kt ((iI_le hx hz).mp q) uu huu kc ks hkk) (fun q => kf (fun r => q ((iI_le hx hz).mpr r)) uu huu kc ks hkk)
theorem c_if_le (C : Cq p s m args meth c cc y ret G A nL) {x off : Int} {tgt : Nat} (hx : R32 x) (d : decode cc pc = .ok (.ifCond .le off, 3)) (ht : (pc : Int) + off = (tgt : Int)) (kt : x ≤ 0 → cw p l e d0 r0 s m args below meth c G A nL Q Pf ph L cl ln iv rv K tgt lv st) (kf : ¬ x ≤ 0 → cw p l e d0 r0 s m args below meth c G A nL Q Pf ph L cl ln iv rv K (pc + 3) lv st) : cw p l e d0 r0 s m args below meth c G A nL Q Pf ph L cl ln iv rv K pc lv (.int (iI x) :: st) := fun uu huu kc ks hkk => q_if_le C d ht (fun q => kt ((iI_le hx R32_0).mp q) uu huu kc ks hkk) (fun q => kf (fun r => q ((iI_le hx R32_0).mpr r)) uu huu kc ks hkk)
theorem c_st {st2 : List Value} (h : st = st2) (k : cw p l e d0 r0 s m args below meth c G A nL Q Pf ph L cl ln iv rv K pc lv st2) : cw p l e d0 r0 s m args below meth c G A nL Q Pf ph L cl ln iv rv K pc lv st := by subst h; exact k
theorem c_lv {lv2 : List (Nat × Value)} (ps : List Nat) (hl : lv_pick lv ps = lv2) (k : cw p l e d0 r0 s m args below meth c G A nL Q Pf ph L cl ln iv rv K pc lv2 st) : cw p l e d0 r0 s m args below meth c G A nL Q Pf ph L cl ln iv rv K pc lv st := fun u hu kc ks hk H locs ls hP hD hS hv => k u hu kc ks hk H locs ls hP hD hS (lv_sub hv ps hl)
theorem c_K {K2 : Nat} (h : K ≤ K2) (k : cw p l e d0 r0 s m args below meth c G A nL Q Pf ph L cl ln iv rv K2 pc lv st) : cw p l e d0 r0 s m args below meth c G A nL Q Pf ph L cl ln iv rv K pc lv st := fun u hu => k u (by omega)
theorem c_g0 (C : Cq p s m args meth c cc y ret G A nL) (k : (∀ b ∈ L, b ≠ g0 G) → cw p l e d0 r0 s m args below meth c G A nL Q Pf ph L cl ln iv rv K pc lv st) : cw p l e d0 r0 s m args below meth c G A nL Q Pf ph L cl ln iv rv K pc lv st := by
  intro u hu kc ks hk H locs ls hP hD hS hl
  refine k ?_ u hu kc ks hk H locs ls hP hD hS hl
  intro b hb e
  obtain ⟨q0, hq⟩ := pl_at (E := enc G cl ln iv rv) hb
  obtain ⟨_, _, _, _, _, _, _, hn⟩ := C.2.2.2.2.2.2.2.1.2
  exact hn (e ▸ hD.2 q0 _ hq)
theorem c_null (C : Cq p s m args meth c cc y ret G A nL) (d : decode cc pc = .ok (.aconst_null, 1)) (k : cw p l e d0 r0 s m args below meth c G A nL Q Pf ph L cl ln iv rv K (pc + 1) lv (.null :: st)) : cw p l e d0 r0 s m args below meth c G A nL Q Pf ph L cl ln iv rv K pc lv st := fun u hu kc ks hk => q_null C d (k u hu kc ks hk)
theorem c_aloadr_n (C : Cq p s m args meth c cc y ret G A nL) {i : Fin 4} {j : Nat} {r : Option Nat} (d : decode cc pc = .ok (.aload_n i, 1)) (hj : lv[j]? = some ((i : Nat), va_rf r)) (k : cw p l e d0 r0 s m args below meth c G A nL Q Pf ph L cl ln iv rv K (pc + 1) lv (va_rf r :: st)) : cw p l e d0 r0 s m args below meth c G A nL Q Pf ph L cl ln iv rv K pc lv st := by
  cases r with
  | none => exact fun u hu kc ks hk => q_aload_nN C d hj (k u hu kc ks hk)
  | some x => exact fun u hu kc ks hk => q_aload_n C d hj (k u hu kc ks hk)
theorem c_aloadr (C : Cq p s m args meth c cc y ret G A nL) {i j : Nat} {r : Option Nat} (d : decode cc pc = .ok (.aload i, 2)) (hj : lv[j]? = some (i, va_rf r)) (k : cw p l e d0 r0 s m args below meth c G A nL Q Pf ph L cl ln iv rv K (pc + 2) lv (va_rf r :: st)) : cw p l e d0 r0 s m args below meth c G A nL Q Pf ph L cl ln iv rv K pc lv st := by
  cases r with
  | none => exact fun u hu kc ks hk => q_aloadN C d hj (k u hu kc ks hk)
  | some x => exact fun u hu kc ks hk => q_aload C d hj (k u hu kc ks hk)
theorem c_astorer_n (C : Cq p s m args meth c cc y ret G A nL) {i : Fin 4} {r : Option Nat} {lv2 : List (Nat × Value)} (d : decode cc pc = .ok (.astore_n i, 1)) (hn : (i : Nat) < nL) (hl : ((i : Nat), va_rf r) :: lv.filter (fun q => !(q.1 == (i : Nat)) && !(q.1 + 1 == (i : Nat) && q.2.category == 2)) = lv2) (k : cw p l e d0 r0 s m args below meth c G A nL Q Pf ph L cl ln iv rv K (pc + 1) lv2 st) : cw p l e d0 r0 s m args below meth c G A nL Q Pf ph L cl ln iv rv K pc lv (va_rf r :: st) := by
  cases r with
  | none => exact fun u hu kc ks hk => q_astore_nN C d hn hl (k u hu kc ks hk)
  | some x => exact fun u hu kc ks hk => q_astore_n C d hn hl (k u hu kc ks hk)
theorem c_astorer (C : Cq p s m args meth c cc y ret G A nL) {i : Nat} {r : Option Nat} {lv2 : List (Nat × Value)} (d : decode cc pc = .ok (.astore i, 2)) (hn : i < nL) (hl : (i, va_rf r) :: lv.filter (fun q => !(q.1 == i) && !(q.1 + 1 == i && q.2.category == 2)) = lv2) (k : cw p l e d0 r0 s m args below meth c G A nL Q Pf ph L cl ln iv rv K (pc + 2) lv2 st) : cw p l e d0 r0 s m args below meth c G A nL Q Pf ph L cl ln iv rv K pc lv (va_rf r :: st) := by
  cases r with
  | none => exact fun u hu kc ks hk => q_astoreN C d hn hl (k u hu kc ks hk)
  | some x => exact fun u hu kc ks hk => q_astore C d hn hl (k u hu kc ks hk)
theorem c_get (C : Cq p s m args meth c cc y ret G A nL) {a k idx ci N T : Nat} {Cn : String} {TT : u_T} {tyy : Nat → FieldType} (ck : Ck ci Cn TT N tyy) (d : decode cc pc = .ok (.getfield idx, 3)) (lk : Cond.fieldLink y.cls idx (TT k).1 (TT k).2.1 (TT k).2.2.1 ∈ lw_g) (hk : k < N) (ha : ty L cl a T) (hT : kd T = ci) (hN : nf ci = N) (h13 : ci < 13) (hr : rf ci k = false) (kk : cw p l e d0 r0 s m args below meth c G A nL Q Pf ph L cl ln iv rv K (pc + 3) lv (.int (iI (iv a k)) :: st)) : cw p l e d0 r0 s m args below meth c G A nL Q Pf ph L cl ln iv rv K pc lv (.ref a :: st) := fun u hu kc ks hh => q_get (k := k) C ck d lk hk ha.1 (enc_ob ha hT hN h13) (ofv_i hr) (kk u hu kc ks hh)
theorem c_getr (C : Cq p s m args meth c cc y ret G A nL) {a k idx ci N T : Nat} {Cn : String} {TT : u_T} {tyy : Nat → FieldType} {x : Option Nat} (ck : Ck ci Cn TT N tyy) (d : decode cc pc = .ok (.getfield idx, 3)) (lk : Cond.fieldLink y.cls idx (TT k).1 (TT k).2.1 (TT k).2.2.1 ∈ lw_g) (hk : k < N) (ha : ty L cl a T) (hT : kd T = ci) (hN : nf ci = N) (h13 : ci < 13) (hr : rf ci k = true) (hx : rv a k = x) (kk : cw p l e d0 r0 s m args below meth c G A nL Q Pf ph L cl ln iv rv K (pc + 3) lv (va_rf x :: st)) : cw p l e d0 r0 s m args below meth c G A nL Q Pf ph L cl ln iv rv K pc lv (.ref a :: st) := fun u hu kc ks hh => q_get (k := k) C ck d lk hk ha.1 (enc_ob ha hT hN h13) (by rw [ofv_r hr, hx]) (kk u hu kc ks hh)
theorem c_put (C : Cq p s m args meth c cc y ret G A nL) {a k idx ci N T : Nat} {Cn : String} {TT : u_T} {tyy : Nat → FieldType} {z : Int} (ck : Ck ci Cn TT N tyy) (d : decode cc pc = .ok (.putfield idx, 3)) (lk : Cond.fieldLink y.cls idx (TT k).1 (TT k).2.1 (TT k).2.2.1 ∈ lw_g) (hk : k < N) (hfin : (TT k).2.2.2 = false) (ha : ty L cl a T) (hT : kd T = ci) (hN : nf ci = N) (h13 : ci < 13) (hr : rf ci k = false) (hn : narrow (tyy k) (.int (iI z)) = .int (iI z)) (hfit : fits (tyy k) (.int (iI z)) = true) (kk : ∀ iv2, iv2 = up2 iv a k z → cw p l e d0 r0 s m args below meth c G A nL Q Pf ph L cl ln iv2 rv K (pc + 3) lv st) : cw p l e d0 r0 s m args below meth c G A nL Q Pf ph L cl ln iv rv K pc lv (.int (iI z) :: .ref a :: st) := fun u hu kc ks hh => q_put (k := k) C ck d lk hk hfin ha.1 (enc_ob ha hT hN h13) hn hfit (by rw [enc_put ha hT hN h13 hr]; exact kk _ rfl u hu kc ks hh)
theorem c_putF (C : Cq p s m args meth c cc y ret G A nL) {a k idx ci N T : Nat} {Cn : String} {TT : u_T} {tyy : Nat → FieldType} {z : Int} (ck : Ck ci Cn TT N tyy) (d : decode cc pc = .ok (.putfield idx, 3)) (lk : Cond.fieldLink y.cls idx (TT k).1 (TT k).2.1 (TT k).2.2.1 ∈ lw_g) (hk : k < N) (hfin : (TT k).2.2.2 = true) (hi : y.name = "<init>") (hd : (TT k).1 = y.cls) (ha : ty L cl a T) (hT : kd T = ci) (hN : nf ci = N) (h13 : ci < 13) (hr : rf ci k = false) (hn : narrow (tyy k) (.int (iI z)) = .int (iI z)) (hfit : fits (tyy k) (.int (iI z)) = true) (kk : ∀ iv2, iv2 = up2 iv a k z → cw p l e d0 r0 s m args below meth c G A nL Q Pf ph L cl ln iv2 rv K (pc + 3) lv st) : cw p l e d0 r0 s m args below meth c G A nL Q Pf ph L cl ln iv rv K pc lv (.int (iI z) :: .ref a :: st) := fun u hu kc ks hh => q_putF (k := k) C ck d lk hk hfin hi hd ha.1 (enc_ob ha hT hN h13) hn hfit (by rw [enc_put ha hT hN h13 hr]; exact kk _ rfl u hu kc ks hh)
theorem c_putrF (C : Cq p s m args meth c cc y ret G A nL) {a k idx ci N T : Nat} {Cn : String} {TT : u_T} {tyy : Nat → FieldType} {x : Option Nat} (ck : Ck ci Cn TT N tyy) (d : decode cc pc = .ok (.putfield idx, 3)) (lk : Cond.fieldLink y.cls idx (TT k).1 (TT k).2.1 (TT k).2.2.1 ∈ lw_g) (hk : k < N) (hfin : (TT k).2.2.2 = true) (hi : y.name = "<init>") (hd : (TT k).1 = y.cls) (ha : ty L cl a T) (hT : kd T = ci) (hN : nf ci = N) (h13 : ci < 13) (hr : rf ci k = true) (hn : narrow (tyy k) (va_rf x) = va_rf x) (hfit : fits (tyy k) (va_rf x) = true) (kk : ∀ rv2, rv2 = upr rv a k x → ∃ K2 : Nat, Pf ln rv + K ≤ Pf ln rv2 + K2 ∧ cw p l e d0 r0 s m args below meth c G A nL Q Pf ph L cl ln iv rv2 K2 (pc + 3) lv st) : cw p l e d0 r0 s m args below meth c G A nL Q Pf ph L cl ln iv rv K pc lv (va_rf x :: .ref a :: st) := fun u hu kc ks hh => q_putF (k := k) C ck d lk hk hfin hi hd ha.1 (enc_ob ha hT hN h13) hn hfit (by rw [enc_putr ha hT hN h13 hr]; obtain ⟨K2, h1, h2⟩ := kk _ rfl; exact h2 u (by omega) kc ks hh)
theorem c_putr (C : Cq p s m args meth c cc y ret G A nL) {a k idx ci N T : Nat} {Cn : String} {TT : u_T} {tyy : Nat → FieldType} {x : Option Nat} (ck : Ck ci Cn TT N tyy) (d : decode cc pc = .ok (.putfield idx, 3)) (lk : Cond.fieldLink y.cls idx (TT k).1 (TT k).2.1 (TT k).2.2.1 ∈ lw_g) (hk : k < N) (hfin : (TT k).2.2.2 = false) (ha : ty L cl a T) (hT : kd T = ci) (hN : nf ci = N) (h13 : ci < 13) (hr : rf ci k = true) (hn : narrow (tyy k) (va_rf x) = va_rf x) (hfit : fits (tyy k) (va_rf x) = true) (kk : ∀ rv2, rv2 = upr rv a k x → ∃ K2 : Nat, Pf ln rv + K ≤ Pf ln rv2 + K2 ∧ cw p l e d0 r0 s m args below meth c G A nL Q Pf ph L cl ln iv rv2 K2 (pc + 3) lv st) : cw p l e d0 r0 s m args below meth c G A nL Q Pf ph L cl ln iv rv K pc lv (va_rf x :: .ref a :: st) := fun u hu kc ks hh => q_put (k := k) C ck d lk hk hfin ha.1 (enc_ob ha hT hN h13) hn hfit (by rw [enc_putr ha hT hN h13 hr]; obtain ⟨K2, h1, h2⟩ := kk _ rfl; exact h2 u (by omega) kc ks hh)
theorem c_iald (C : Cq p s m args meth c cc y ret G A nL) {a T : Nat} {z : Int} (d : decode cc pc = .ok (.iaload, 1)) (ha : ty L cl a T) (hT : kd T = 20) (h1 : 0 ≤ z) (h2 : z < (ln a : Nat)) (hm : ln a ≤ 1000000) (kk : cw p l e d0 r0 s m args below meth c G A nL Q Pf ph L cl ln iv rv K (pc + 1) lv (.int (iI (iv a z.toNat)) :: st)) : cw p l e d0 r0 s m args below meth c G A nL Q Pf ph L cl ln iv rv K pc lv (.int (iI z) :: .ref a :: st) := fun u hu kc ks hh => q_iald C d ha.1 (enc_I ha hT) (iI_in ⟨by omega, by omega⟩ h1 h2) (by rw [iI_cl ⟨by omega, by omega⟩]) (kk u hu kc ks hh)
theorem c_zald (C : Cq p s m args meth c cc y ret G A nL) {a T : Nat} {z : Int} (d : decode cc pc = .ok (.baload, 1)) (ha : ty L cl a T) (hT : kd T = 21) (h1 : 0 ≤ z) (h2 : z < (ln a : Nat)) (hm : ln a ≤ 1000000) (kk : cw p l e d0 r0 s m args below meth c G A nL Q Pf ph L cl ln iv rv K (pc + 1) lv (.int (iI (iv a z.toNat)) :: st)) : cw p l e d0 r0 s m args below meth c G A nL Q Pf ph L cl ln iv rv K pc lv (.int (iI z) :: .ref a :: st) := fun u hu kc ks hh => q_zald C d ha.1 (enc_Z ha hT) (iI_in ⟨by omega, by omega⟩ h1 h2) (by rw [iI_cl ⟨by omega, by omega⟩]) (kk u hu kc ks hh)
theorem c_iast (C : Cq p s m args meth c cc y ret G A nL) {a T : Nat} {z x : Int} (d : decode cc pc = .ok (.iastore, 1)) (ha : ty L cl a T) (hT : kd T = 20) (h1 : 0 ≤ z) (h2 : z < (ln a : Nat)) (hm : ln a ≤ 1000000) (kk : ∀ iv2, iv2 = up2 iv a z.toNat x → cw p l e d0 r0 s m args below meth c G A nL Q Pf ph L cl ln iv2 rv K (pc + 1) lv st) : cw p l e d0 r0 s m args below meth c G A nL Q Pf ph L cl ln iv rv K pc lv (.int (iI x) :: .int (iI z) :: .ref a :: st) := by
  intro u hu kc ks hh
  refine q_iast C d ha.1 (enc_I ha hT) (iI_in ⟨by omega, by omega⟩ h1 h2) ?_
  rw [iI_cl ⟨by omega, by omega⟩]
  have e : upd (fun j => iI (iv a j)) z.toNat (iI x) = fun j => if j = z.toNat then iI x else iI (iv a j) := by funext j; unfold upd; rfl
  rw [e, enc_ast ha hT]
  exact kk _ rfl u hu kc ks hh
theorem c_zast (C : Cq p s m args meth c cc y ret G A nL) {a T : Nat} {z x : Int} (d : decode cc pc = .ok (.bastore, 1)) (ha : ty L cl a T) (hT : kd T = 21) (h1 : 0 ≤ z) (h2 : z < (ln a : Nat)) (hm : ln a ≤ 1000000) (hx : x = 0 ∨ x = 1) (kk : ∀ iv2, iv2 = up2 iv a z.toNat x → cw p l e d0 r0 s m args below meth c G A nL Q Pf ph L cl ln iv2 rv K (pc + 1) lv st) : cw p l e d0 r0 s m args below meth c G A nL Q Pf ph L cl ln iv rv K pc lv (.int (iI x) :: .int (iI z) :: .ref a :: st) := by
  intro u hu kc ks hh
  refine q_zast2 C d ha.1 (enc_Z ha hT) (iI_in ⟨by omega, by omega⟩ h1 h2) ?_
  rw [iI_cl ⟨by omega, by omega⟩, nar_b hx]
  have e : upd (fun j => iI (iv a j)) z.toNat (iI x) = fun j => if j = z.toNat then iI x else iI (iv a j) := by funext j; unfold upd; rfl
  rw [e, enc_zst ha hT]
  exact kk _ rfl u hu kc ks hh
theorem c_alenI (C : Cq p s m args meth c cc y ret G A nL) {a T : Nat} (d : decode cc pc = .ok (.arraylength, 1)) (ha : ty L cl a T) (hT : kd T = 20) (kk : cw p l e d0 r0 s m args below meth c G A nL Q Pf ph L cl ln iv rv K (pc + 1) lv (.int (iI ((ln a : Nat) : Int)) :: st)) : cw p l e d0 r0 s m args below meth c G A nL Q Pf ph L cl ln iv rv K pc lv (.ref a :: st) := fun u hu kc ks hh => q_alenI C d ha.1 (enc_I ha hT) Int32.ofInt_eq_ofNat.symm (kk u hu kc ks hh)
theorem c_alenO (C : Cq p s m args meth c cc y ret G A nL) {a T : Nat} (d : decode cc pc = .ok (.arraylength, 1)) (ha : ty L cl a T) (hT : kd T = 24) (kk : cw p l e d0 r0 s m args below meth c G A nL Q Pf ph L cl ln iv rv K (pc + 1) lv (.int (iI ((ln a : Nat) : Int)) :: st)) : cw p l e d0 r0 s m args below meth c G A nL Q Pf ph L cl ln iv rv K pc lv (.ref a :: st) := fun u hu kc ks hh => q_alenO C d ha.1 (enc_O ha hT) Int32.ofInt_eq_ofNat.symm (kk u hu kc ks hh)
theorem c_aaldL (C : Cq p s m args meth c cc y ret G A nL) {a T : Nat} {z : Int} {x : Option Nat} (d : decode cc pc = .ok (.aaload, 1)) (ha : ty L cl a T) (hT : kd T = 22) (h1 : 0 ≤ z) (h2 : z < (ln a : Nat)) (hm : ln a ≤ 1000000) (hx : rv a z.toNat = x) (kk : cw p l e d0 r0 s m args below meth c G A nL Q Pf ph L cl ln iv rv K (pc + 1) lv (va_rf x :: st)) : cw p l e d0 r0 s m args below meth c G A nL Q Pf ph L cl ln iv rv K pc lv (.int (iI z) :: .ref a :: st) := fun u hu kc ks hh => q_aaldL C d ha.1 (enc_L ha hT) (iI_in ⟨by omega, by omega⟩ h1 h2) (by rw [iI_cl ⟨by omega, by omega⟩, hx]) (kk u hu kc ks hh)
theorem c_aaldR (C : Cq p s m args meth c cc y ret G A nL) {a T : Nat} {z : Int} {x : Option Nat} (d : decode cc pc = .ok (.aaload, 1)) (ha : ty L cl a T) (hT : kd T = 23) (h1 : 0 ≤ z) (h2 : z < (ln a : Nat)) (hm : ln a ≤ 1000000) (hx : rv a z.toNat = x) (kk : cw p l e d0 r0 s m args below meth c G A nL Q Pf ph L cl ln iv rv K (pc + 1) lv (va_rf x :: st)) : cw p l e d0 r0 s m args below meth c G A nL Q Pf ph L cl ln iv rv K pc lv (.int (iI z) :: .ref a :: st) := fun u hu kc ks hh => q_aaldR C d ha.1 (enc_R ha hT) (iI_in ⟨by omega, by omega⟩ h1 h2) (by rw [iI_cl ⟨by omega, by omega⟩, hx]) (kk u hu kc ks hh)
theorem c_aaldO (C : Cq p s m args meth c cc y ret G A nL) {a T : Nat} {z : Int} {x : Option Nat} (d : decode cc pc = .ok (.aaload, 1)) (ha : ty L cl a T) (hT : kd T = 24) (h1 : 0 ≤ z) (h2 : z < (ln a : Nat)) (hm : ln a ≤ 1000000) (hx : rv a z.toNat = x) (kk : cw p l e d0 r0 s m args below meth c G A nL Q Pf ph L cl ln iv rv K (pc + 1) lv (va_rf x :: st)) : cw p l e d0 r0 s m args below meth c G A nL Q Pf ph L cl ln iv rv K pc lv (.int (iI z) :: .ref a :: st) := fun u hu kc ks hh => q_aaldO C d ha.1 (enc_O ha hT) (iI_in ⟨by omega, by omega⟩ h1 h2) (by rw [iI_cl ⟨by omega, by omega⟩, hx]) (kk u hu kc ks hh)
end CQ
section CQ2
variable {p : Program} {l : Launch} {e : Env} {s : State} {m : MethodId} {args : Array Value} {below : List Frame} {meth : Method} {c : Code} {cc : ByteArray} {y : MethodName} {ret : Option FieldType} {G : GT} {A : Nat → Prop} {nL mi : Nat} {Q : State → Prop} {L : List Nat} {E : Nat → va_E} {R : Room} {kc ks pc : Nat} {lv : List (Nat × Value)} {st : List Value}
theorem q_aastN (C : Cq p s m args meth c cc y ret G A nL) {a n t0 : Nat} {Cn : String} {cA : ClassId} {f : Nat → Option Nat} {i : Int32} (d : decode cc pc = .ok (.aastore, 1)) (ha : a ∈ L) (ht : (gT G)[t0]? = some (cA, .object Cn)) (hE : E a = .inl (cA, n, .inr (.inr (.inr (.inr f))))) (hin : vp_in i n) (kk : wq p l e R s m args below meth c G A nL Q L (va_up E a (.inl (cA, n, .inr (.inr (.inr (.inr (va_up f i.toNatClampNeg none))))))) kc ks (pc + 1) lv st) : wq p l e R s m args below meth c G A nL Q L E kc ks pc lv (.null :: .int i :: .ref a :: st) := by
  intro H locs ls hP hD hS hl
  obtain ⟨q0, hq⟩ := pl_at (E := E) ha
  refine va_astqN C.1 C.2.1 C.2.2.2.2.2.1 hP hD hS q0 t0 (by rw [hq, hE]) ht hin d (fun H1 locs1 hP1 hD1 hS1 => ?_)
  rw [pl_set hD ha hq] at hP1 hD1
  exact kk H1 locs1 ls hP1 hD1 hS1 hl
theorem q_aastC (C : Cq p s m args meth c cc y ret G A nL) {a b n t0 ci N : Nat} {cA : ClassId} {Cn : String} {TT : u_T} {tyy : Nat → FieldType} {f : Nat → Option Nat} {g : Nat → Value} {i : Int32} (ck : Ck ci Cn TT N tyy) (d : decode cc pc = .ok (.aastore, 1)) (ha : a ∈ L) (ht : (gT G)[t0]? = some (cA, .object Cn)) (hE : E a = .inl (cA, n, .inr (.inr (.inr (.inr f))))) (hb : b ∈ L) (hEb : E b = ob ci N g) (hin : vp_in i n) (kk : wq p l e R s m args below meth c G A nL Q L (va_up E a (.inl (cA, n, .inr (.inr (.inr (.inr (va_up f i.toNatClampNeg (some b)))))))) kc ks (pc + 1) lv st) : wq p l e R s m args below meth c G A nL Q L E kc ks pc lv (.ref b :: .int i :: .ref a :: st) := by
  intro H locs ls hP hD hS hl
  obtain ⟨q0, hq⟩ := pl_at (E := E) ha
  obtain ⟨q1, hq1⟩ := pl_at (E := E) hb
  refine va_astq C.1 C.2.1 C.2.2.2.2.2.1 hP hD hS q0 t0 q1 ci (r := (Cn, TT, N)) (by rw [hq, hE]) ht (by rw [hq1, hEb]; rfl) ck.1 hin d (fun H1 locs1 hP1 hD1 hS1 => ?_)
  rw [pl_set hD ha hq] at hP1 hD1
  exact kk H1 locs1 ls hP1 hD1 hS1 hl
end CQ2
section CQ3
variable {p : Program} {l : Launch} {e : Env} {d0 r0 : Nat} {s : State} {m : MethodId} {args : Array Value} {below : List Frame} {meth : Method} {c : Code} {cc : ByteArray} {y : MethodName} {ret : Option FieldType} {G : GT} {A : Nat → Prop} {nL mi : Nat} {Q : State → Prop} {Pf : PF} {ph : Nat} {L : List Nat} {cl ln : Nat → Nat} {iv : Nat → Nat → Int} {rv : Nat → Nat → Option Nat} {K pc : Nat} {lv : List (Nat × Value)} {st : List Value}
theorem c_aastL (C : Cq p s m args meth c cc y ret G A nL) {a b T T2 ci N : Nat} {z : Int} {TT : u_T} {tyy : Nat → FieldType} (ck : Ck ci RX2 TT N tyy) (d : decode cc pc = .ok (.aastore, 1)) (ha : ty L cl a T) (hT : kd T = 22) (hb : ty L cl b T2) (hT2 : kd T2 = ci) (hN : nf ci = N) (h13 : ci < 13) (h1 : 0 ≤ z) (h2 : z < (ln a : Nat)) (hm : ln a ≤ 1000000) (kk : ∀ rv2, rv2 = upr rv a z.toNat (some b) → ∃ K2 : Nat, Pf ln rv + K ≤ Pf ln rv2 + K2 ∧ cw p l e d0 r0 s m args below meth c G A nL Q Pf ph L cl ln iv rv2 K2 (pc + 1) lv st) : cw p l e d0 r0 s m args below meth c G A nL Q Pf ph L cl ln iv rv K pc lv (.ref b :: .int (iI z) :: .ref a :: st) := by
  intro u hu kc ks hh
  refine q_aastC (t0 := 2) (cA := G.2.2.2.1) C ck d ha.1 rfl (enc_L ha hT) hb.1 (enc_ob hb hT2 hN h13) (iI_in ⟨by omega, by omega⟩ h1 h2) ?_
  rw [iI_cl ⟨by omega, by omega⟩]
  obtain ⟨K2, g1, g2⟩ := kk _ rfl
  refine hv2 (enc_rst (G := G) (cl := cl) (ln := ln) (iv := iv) (rv := rv) (k := z.toNat) (x := some b) (mk := fun f => aL G (ln a) f) (fun r2 => enc_L (rv := r2) ha hT)) (show aL G (ln a) (va_up (rv a) z.toNat (some b)) = Sum.inl (G.2.2.2.1, ln a, .inr (.inr (.inr (.inr (va_up (rv a) z.toNat (some b)))))) from rfl) (fun e e2 => ?_)
  rw [← e2, e]
  exact g2 u (by omega) kc ks hh
theorem c_aastR (C : Cq p s m args meth c cc y ret G A nL) {a b T T2 ci N : Nat} {z : Int} {TT : u_T} {tyy : Nat → FieldType} (ck : Ck ci RX5 TT N tyy) (d : decode cc pc = .ok (.aastore, 1)) (ha : ty L cl a T) (hT : kd T = 23) (hb : ty L cl b T2) (hT2 : kd T2 = ci) (hN : nf ci = N) (h13 : ci < 13) (h1 : 0 ≤ z) (h2 : z < (ln a : Nat)) (hm : ln a ≤ 1000000) (kk : ∀ rv2, rv2 = upr rv a z.toNat (some b) → ∃ K2 : Nat, Pf ln rv + K ≤ Pf ln rv2 + K2 ∧ cw p l e d0 r0 s m args below meth c G A nL Q Pf ph L cl ln iv rv2 K2 (pc + 1) lv st) : cw p l e d0 r0 s m args below meth c G A nL Q Pf ph L cl ln iv rv K pc lv (.ref b :: .int (iI z) :: .ref a :: st) := by
  intro u hu kc ks hh
  refine q_aastC (t0 := 3) (cA := G.2.2.2.2.1) C ck d ha.1 rfl (enc_R ha hT) hb.1 (enc_ob hb hT2 hN h13) (iI_in ⟨by omega, by omega⟩ h1 h2) ?_
  rw [iI_cl ⟨by omega, by omega⟩]
  obtain ⟨K2, g1, g2⟩ := kk _ rfl
  refine hv2 (enc_rst (G := G) (cl := cl) (ln := ln) (iv := iv) (rv := rv) (k := z.toNat) (x := some b) (mk := fun f => aR G (ln a) f) (fun r2 => enc_R (rv := r2) ha hT)) (show aR G (ln a) (va_up (rv a) z.toNat (some b)) = Sum.inl (G.2.2.2.2.1, ln a, .inr (.inr (.inr (.inr (va_up (rv a) z.toNat (some b)))))) from rfl) (fun e e2 => ?_)
  rw [← e2, e]
  exact g2 u (by omega) kc ks hh
theorem c_aastNR (C : Cq p s m args meth c cc y ret G A nL) {a T : Nat} {z : Int} (d : decode cc pc = .ok (.aastore, 1)) (ha : ty L cl a T) (hT : kd T = 23) (h1 : 0 ≤ z) (h2 : z < (ln a : Nat)) (hm : ln a ≤ 1000000) (kk : ∀ rv2, rv2 = upr rv a z.toNat none → ∃ K2 : Nat, Pf ln rv + K ≤ Pf ln rv2 + K2 ∧ cw p l e d0 r0 s m args below meth c G A nL Q Pf ph L cl ln iv rv2 K2 (pc + 1) lv st) : cw p l e d0 r0 s m args below meth c G A nL Q Pf ph L cl ln iv rv K pc lv (.null :: .int (iI z) :: .ref a :: st) := by
  intro u hu kc ks hh
  refine q_aastN (t0 := 3) (cA := G.2.2.2.2.1) (Cn := RX5) C d ha.1 rfl (enc_R ha hT) (iI_in ⟨by omega, by omega⟩ h1 h2) ?_
  rw [iI_cl ⟨by omega, by omega⟩]
  obtain ⟨K2, g1, g2⟩ := kk _ rfl
  refine hv2 (enc_rst (G := G) (cl := cl) (ln := ln) (iv := iv) (rv := rv) (k := z.toNat) (x := none) (mk := fun f => aR G (ln a) f) (fun r2 => enc_R (rv := r2) ha hT)) (show aR G (ln a) (va_up (rv a) z.toNat none) = Sum.inl (G.2.2.2.2.1, ln a, .inr (.inr (.inr (.inr (va_up (rv a) z.toNat none))))) from rfl) (fun e e2 => ?_)
  rw [← e2, e]
  exact g2 u (by omega) kc ks hh
theorem c_aastO (C : Cq p s m args meth c cc y ret G A nL) {a b T T2 ci N : Nat} {z : Int} {Cn : String} {TT : u_T} {tyy : Nat → FieldType} (ck : Ck ci Cn TT N tyy) (hc : Cond.castable Cn "java/lang/Object" ∈ lw_tbl) (d : decode cc pc = .ok (.aastore, 1)) (ha : ty L cl a T) (hT : kd T = 24) (hb : ty L cl b T2) (hT2 : kd T2 = ci) (hN : nf ci = N) (h13 : ci < 13) (h1 : 0 ≤ z) (h2 : z < (ln a : Nat)) (hm : ln a ≤ 1000000) (kk : ∀ rv2, rv2 = upr rv a z.toNat (some b) → ∃ K2 : Nat, Pf ln rv + K ≤ Pf ln rv2 + K2 ∧ cw p l e d0 r0 s m args below meth c G A nL Q Pf ph L cl ln iv rv2 K2 (pc + 1) lv st) : cw p l e d0 r0 s m args below meth c G A nL Q Pf ph L cl ln iv rv K pc lv (.ref b :: .int (iI z) :: .ref a :: st) := by
  intro u hu kc ks hh
  refine q_aastO C ck d hc ha.1 (enc_O ha hT) hb.1 (enc_ob hb hT2 hN h13) (iI_in ⟨by omega, by omega⟩ h1 h2) ?_
  rw [iI_cl ⟨by omega, by omega⟩]
  obtain ⟨K2, g1, g2⟩ := kk _ rfl
  rw [enc_rst (G := G) (cl := cl) (ln := ln) (iv := iv) (rv := rv) (k := z.toNat) (x := some b) (mk := fun f => aO G (ln a) f) (fun r2 => enc_O (rv := r2) ha hT)]
  exact g2 u (by omega) kc ks hh
theorem c_aastNO (C : Cq p s m args meth c cc y ret G A nL) {a T : Nat} {z : Int} (d : decode cc pc = .ok (.aastore, 1)) (ha : ty L cl a T) (hT : kd T = 24) (h1 : 0 ≤ z) (h2 : z < (ln a : Nat)) (hm : ln a ≤ 1000000) (kk : ∀ rv2, rv2 = upr rv a z.toNat none → ∃ K2 : Nat, Pf ln rv + K ≤ Pf ln rv2 + K2 ∧ cw p l e d0 r0 s m args below meth c G A nL Q Pf ph L cl ln iv rv2 K2 (pc + 1) lv st) : cw p l e d0 r0 s m args below meth c G A nL Q Pf ph L cl ln iv rv K pc lv (.null :: .int (iI z) :: .ref a :: st) := by
  intro u hu kc ks hh
  refine q_aastN (t0 := 4) (cA := G.2.2.2.2.2.1) (Cn := "java/lang/Object") C d ha.1 rfl (enc_O ha hT) (iI_in ⟨by omega, by omega⟩ h1 h2) ?_
  rw [iI_cl ⟨by omega, by omega⟩]
  obtain ⟨K2, g1, g2⟩ := kk _ rfl
  refine hv2 (enc_rst (G := G) (cl := cl) (ln := ln) (iv := iv) (rv := rv) (k := z.toNat) (x := none) (mk := fun f => aO G (ln a) f) (fun r2 => enc_O (rv := r2) ha hT)) (show aO G (ln a) (va_up (rv a) z.toNat none) = Sum.inl (G.2.2.2.2.2.1, ln a, .inr (.inr (.inr (.inr (va_up (rv a) z.toNat none))))) from rfl) (fun e e2 => ?_)
  rw [← e2, e]
  exact g2 u (by omega) kc ks hh
theorem c_cast (C : Cq p s m args meth c cc y ret G A nL) {a T ci N idx : Nat} {Cn nm : String} {TT : u_T} {tyy : Nat → FieldType} (ck : Ck ci Cn TT N tyy) (d : decode cc pc = .ok (.checkcast idx, 3)) (lk : Cond.classLink y.cls idx nm ∈ lw_g) (hc : Cond.castable Cn nm ∈ lw_tbl) (ha : ty L cl a T) (hT : kd T = ci) (hN : nf ci = N) (h13 : ci < 13) (kk : cw p l e d0 r0 s m args below meth c G A nL Q Pf ph L cl ln iv rv K (pc + 3) lv (.ref a :: st)) : cw p l e d0 r0 s m args below meth c G A nL Q Pf ph L cl ln iv rv K pc lv (.ref a :: st) := by
  intro u hu kc ks hh H locs ls hP hD hS hl
  obtain ⟨q0, hq⟩ := pl_at (E := enc G cl ln iv rv) ha.1
  exact va_castY C.1 C.2.1 C.2.2.2.1 (C.2.2.2.2.1 _ lk) (C.2.2.2.2.2.2.2.2.2.2.2.2.1 _ _ hc) (va_recv C.2.2.2.2.2.1 hP (ci := ci) (q0 := q0) ck.1 (by rw [hq, enc_ob ha hT hN h13]; rfl)) d (kk u hu kc ks hh H locs ls hP hD hS hl)
theorem c_tabIn (C : Cq p s m args meth c cc y ret G A nL) {dflt lo hi z off : Int} {offs : Array Int} {len tgt : Nat} (hz : R32 z) (d : decode cc pc = .ok (.tableswitch dflt lo hi offs, len)) (h1 : ¬ z < lo) (h2 : ¬ hi < z) (ho : offs[(z - lo).toNat]? = some off) (ht : (pc : Int) + off = (tgt : Int)) (k : cw p l e d0 r0 s m args below meth c G A nL Q Pf ph L cl ln iv rv K tgt lv st) : cw p l e d0 r0 s m args below meth c G A nL Q Pf ph L cl ln iv rv K pc lv (.int (iI z) :: st) := fun uu huu kc ks hkk H locs ls hP hD hS hl => lv_tableIn C.1 C.2.1 d (by rw [iI_int hz]; exact h1) (by rw [iI_int hz]; exact h2) (by rw [iI_int hz]; exact ho) ht (k uu huu kc ks hkk H locs ls hP hD hS hl)
theorem c_tabOut (C : Cq p s m args meth c cc y ret G A nL) {dflt lo hi z : Int} {offs : Array Int} {len tgt : Nat} (hz : R32 z) (d : decode cc pc = .ok (.tableswitch dflt lo hi offs, len)) (h1 : z < lo ∨ hi < z) (ht : (pc : Int) + dflt = (tgt : Int)) (k : cw p l e d0 r0 s m args below meth c G A nL Q Pf ph L cl ln iv rv K tgt lv st) : cw p l e d0 r0 s m args below meth c G A nL Q Pf ph L cl ln iv rv K pc lv (.int (iI z) :: st) := fun uu huu kc ks hkk H locs ls hP hD hS hl => lv_tableOut C.1 C.2.1 d (by rw [iI_int hz]; exact h1) ht (k uu huu kc ks hkk H locs ls hP hD hS hl)
theorem c_dup_x1 (C : Cq p s m args meth c cc y ret G A nL) {v w : Value} (d : decode cc pc = .ok (.dup_x1, 1)) (hv : v.category = 1) (hw : w.category = 1) (k : cw p l e d0 r0 s m args below meth c G A nL Q Pf ph L cl ln iv rv K (pc + 1) lv (v :: w :: v :: st)) : cw p l e d0 r0 s m args below meth c G A nL Q Pf ph L cl ln iv rv K pc lv (v :: w :: st) := fun u hu kc ks hk => q_dup_x1 C d hv hw (k u hu kc ks hk)
theorem c_acmp_eq (C : Cq p s m args meth c cc y ret G A nL) {rx ry : Option Nat} {off : Int} {tgt : Nat} (d : decode cc pc = .ok (.if_acmp .eq off, 3)) (ht : (pc : Int) + off = (tgt : Int)) (kt : rx = ry → cw p l e d0 r0 s m args below meth c G A nL Q Pf ph L cl ln iv rv K tgt lv st) (kf : ¬ rx = ry → cw p l e d0 r0 s m args below meth c G A nL Q Pf ph L cl ln iv rv K (pc + 3) lv st) : cw p l e d0 r0 s m args below meth c G A nL Q Pf ph L cl ln iv rv K pc lv (va_rf ry :: va_rf rx :: st) := fun u hu kc ks hk => q_acmp_eq C d ht (fun h => kt h u hu kc ks hk) (fun h => kf h u hu kc ks hk)
theorem c_acmp_ne (C : Cq p s m args meth c cc y ret G A nL) {rx ry : Option Nat} {off : Int} {tgt : Nat} (d : decode cc pc = .ok (.if_acmp .ne off, 3)) (ht : (pc : Int) + off = (tgt : Int)) (kt : ¬ rx = ry → cw p l e d0 r0 s m args below meth c G A nL Q Pf ph L cl ln iv rv K tgt lv st) (kf : rx = ry → cw p l e d0 r0 s m args below meth c G A nL Q Pf ph L cl ln iv rv K (pc + 3) lv st) : cw p l e d0 r0 s m args below meth c G A nL Q Pf ph L cl ln iv rv K pc lv (va_rf ry :: va_rf rx :: st) := fun u hu kc ks hk => q_acmp_ne C d ht (fun h => kt h u hu kc ks hk) (fun h => kf h u hu kc ks hk)
theorem c_ifnull (C : Cq p s m args meth c cc y ret G A nL) {r : Option Nat} {off : Int} {tgt : Nat} (d : decode cc pc = .ok (.ifnull off, 3)) (ht : (pc : Int) + off = (tgt : Int)) (kt : r = none → cw p l e d0 r0 s m args below meth c G A nL Q Pf ph L cl ln iv rv K tgt lv st) (kf : ∀ b, r = some b → cw p l e d0 r0 s m args below meth c G A nL Q Pf ph L cl ln iv rv K (pc + 3) lv st) : cw p l e d0 r0 s m args below meth c G A nL Q Pf ph L cl ln iv rv K pc lv (va_rf r :: st) := by
  cases r with
  | none => exact fun u hu kc ks hk => q_ifnullN C d ht (kt rfl u hu kc ks hk)
  | some x => exact fun u hu kc ks hk => q_ifnull C d (kf x rfl u hu kc ks hk)
theorem c_ifnonnull (C : Cq p s m args meth c cc y ret G A nL) {r : Option Nat} {off : Int} {tgt : Nat} (d : decode cc pc = .ok (.ifnonnull off, 3)) (ht : (pc : Int) + off = (tgt : Int)) (kt : ∀ b, r = some b → cw p l e d0 r0 s m args below meth c G A nL Q Pf ph L cl ln iv rv K tgt lv st) (kf : r = none → cw p l e d0 r0 s m args below meth c G A nL Q Pf ph L cl ln iv rv K (pc + 3) lv st) : cw p l e d0 r0 s m args below meth c G A nL Q Pf ph L cl ln iv rv K pc lv (va_rf r :: st) := by
  cases r with
  | none => exact fun u hu kc ks hk => q_ifnonnullN C d (kf rfl u hu kc ks hk)
  | some x => exact fun u hu kc ks hk => q_ifnonnull C d ht (kt x rfl u hu kc ks hk)
theorem c_gets (C : Cq p s m args meth c cc y ret G A nL) {idx : Nat} (d : decode cc pc = .ok (.getstatic idx, 3)) (lk : Cond.fieldLink y.cls idx "java/util/ArrayList" "DEFAULTCAPACITY_EMPTY_ELEMENTDATA" "[Ljava/lang/Object;" ∈ lw_g) (k : cw p l e d0 r0 s m args below meth c G A nL Q Pf ph L cl ln iv rv K (pc + 3) lv (.ref (g0 G) :: st)) : cw p l e d0 r0 s m args below meth c G A nL Q Pf ph L cl ln iv rv K pc lv st := fun u hu kc ks hk => q_gets C d lk (k u hu kc ks hk)
theorem c_tlen (C : Cq p s m args meth c cc y ret G A nL) (d : decode cc pc = .ok (.arraylength, 1)) (k : cw p l e d0 r0 s m args below meth c G A nL Q Pf ph L cl ln iv rv K (pc + 1) lv (.int (iI 0) :: st)) : cw p l e d0 r0 s m args below meth c G A nL Q Pf ph L cl ln iv rv K pc lv (.ref (g0 G) :: st) := fun u hu kc ks hk => q_tlen C d (k u hu kc ks hk)
theorem c_mmax (C : Cq p s m args meth c cc y ret G A nL) {idx : Nat} {x y2 w : Int32} (d : decode cc pc = .ok (.invokestatic idx, 3)) (lk : Cond.methodLink y.cls idx Lib.Math.max.name ∈ lw_g) (h1 : Cond.static Lib.Math.max.name ∈ lw_g) (h2 : Cond.initialized "java/lang/Math" ∈ lw_g) (h3 : Cond.code Lib.Math.max.name Lib.Math.max.code 2 (some .int) ∈ lw_g) (hd : 1 ≤ d0) (hro : Pf ln rv + K ≤ r0 + ph) (hst : (st.map fun v => v.category).sum ≤ 8) (hv : (if x < y2 then y2 else x) = w) (kk : cw p l e d0 r0 s m args below meth c G A nL Q Pf ph L cl ln iv rv K (pc + 3) lv (.int w :: st)) : cw p l e d0 r0 s m args below meth c G A nL Q Pf ph L cl ln iv rv K pc lv (.int y2 :: .int x :: st) := fun u hu kc ks hk => q_mmax C d lk h1 h2 h3 ⟨hd, by show 21 ≤ 64 * d0; omega⟩ (u_wid hk (by omega)) hst hv (kk u hu kc ks hk)
theorem c_mmin (C : Cq p s m args meth c cc y ret G A nL) {idx : Nat} {x y2 w : Int32} (d : decode cc pc = .ok (.invokestatic idx, 3)) (lk : Cond.methodLink y.cls idx Lib.Math.min.name ∈ lw_g) (h1 : Cond.static Lib.Math.min.name ∈ lw_g) (h2 : Cond.initialized "java/lang/Math" ∈ lw_g) (h3 : Cond.code Lib.Math.min.name Lib.Math.min.code 2 (some .int) ∈ lw_g) (hd : 1 ≤ d0) (hro : Pf ln rv + K ≤ r0 + ph) (hst : (st.map fun v => v.category).sum ≤ 8) (hv : (if y2 < x then y2 else x) = w) (kk : cw p l e d0 r0 s m args below meth c G A nL Q Pf ph L cl ln iv rv K (pc + 3) lv (.int w :: st)) : cw p l e d0 r0 s m args below meth c G A nL Q Pf ph L cl ln iv rv K pc lv (.int y2 :: .int x :: st) := fun u hu kc ks hk => q_mmin C d lk h1 h2 h3 ⟨hd, by show 21 ≤ 64 * d0; omega⟩ (u_wid hk (by omega)) hst hv (kk u hu kc ks hk)
theorem c_callS0 (C : Cq p s m args meth c cc y ret G A nL) {y2 : MethodName} {cc2 : ByteArray} {n2 d2 idx k2 : Nat} {ret2 : Option FieldType} {r2 : Value} {As rest : List Value} (M : ∀ (L : List Nat) (E : Nat → va_E), Mq l G y2 cc2 n2 ret2 d2 As L E 0 0 (fun r L2 E2 => r = some r2 ∧ L2 = L ∧ E2 = E)) (d : decode cc pc = .ok (.invokestatic idx, 3)) (hw : Ws y.cls idx y2 cc2 n2 ret2 k2) (hk : As.length = k2) (hst : st = As.reverse ++ rest) (hcat : (rest.map fun v => v.category).sum ≤ 8) (hR : d2 + 1 ≤ d0 ∧ 8 + (n2 + 11) + 64 * d2 ≤ 64 * d0) (hro : Pf ln rv + K ≤ r0 + ph) (kk : cw p l e d0 r0 s m args below meth c G A nL Q Pf ph L cl ln iv rv K (pc + 3) lv (r2 :: rest)) : cw p l e d0 r0 s m args below meth c G A nL Q Pf ph L cl ln iv rv K pc lv st := fun u hu kc ks hh => q_callS C (M L _) d hw hk hst hcat hR (u_wid hh (by omega)) (fun r L2 E2 ⟨h1, h2, h3⟩ => by subst h1; subst h2; subst h3; exact kk u hu kc ks hh)
theorem c_callSN0 (C : Cq p s m args meth c cc y ret G A nL) {y2 : MethodName} {host : String} {cc2 : ByteArray} {n2 d2 idx k2 : Nat} {ret2 : Option FieldType} {r2 : Value} {As rest : List Value} (M : ∀ (L : List Nat) (E : Nat → va_E), Mq l G y2 cc2 n2 ret2 d2 As L E 0 0 (fun r L2 E2 => r = some r2 ∧ L2 = L ∧ E2 = E)) (d : decode cc pc = .ok (.invokestatic idx, 3)) (hw : Wns y.cls idx y2 host cc2 n2 ret2 k2) (hk : As.length = k2) (hst : st = As.reverse ++ rest) (hcat : (rest.map fun v => v.category).sum ≤ 8) (hR : d2 + 1 ≤ d0 ∧ 8 + (n2 + 11) + 64 * d2 ≤ 64 * d0) (hro : Pf ln rv + K ≤ r0 + ph) (kk : cw p l e d0 r0 s m args below meth c G A nL Q Pf ph L cl ln iv rv K (pc + 3) lv (r2 :: rest)) : cw p l e d0 r0 s m args below meth c G A nL Q Pf ph L cl ln iv rv K pc lv st := fun u hu kc ks hh => q_callSN C (M L _) d hw hk hst hcat hR (u_wid hh (by omega)) (fun r L2 E2 ⟨h1, h2, h3⟩ => by subst h1; subst h2; subst h3; exact kk u hu kc ks hh)
theorem c_objInit (C : Cq p s m args meth c cc y ret G A nL) {idx a : Nat} (d : decode cc pc = .ok (.invokespecial idx, 3)) (lk : Cond.methodLink y.cls idx Lib.objectInit ∈ lw_g) (hi : Cond.instanceMethod Lib.objectInit ∈ lw_g) (hc : Cond.code Lib.objectInit ⟨#[0xb1]⟩ 1 none ∈ lw_g) (hd : 1 ≤ d0) (hst : (st.map fun v => v.category).sum ≤ 8) (kk : cw p l e d0 r0 s m args below meth c G A nL Q Pf ph L cl ln iv rv K (pc + 3) lv st) : cw p l e d0 r0 s m args below meth c G A nL Q Pf ph L cl ln iv rv K pc lv (.ref a :: st) := fun u hu kc ks hk => q_objInit C d lk hi hc ⟨hd, by show 20 ≤ 64 * d0; omega⟩ hst (kk u hu kc ks hk)
theorem c_new (C : Cq p s m args meth c cc y ret G A nL) {ci N idx : Nat} {Cn : String} {TT : u_T} {tyy : Nat → FieldType} (ck : Ck ci Cn TT N tyy) (hv : ∀ j, j < N → defaultValue (tyy j) = ofv ci (fun _ => 0) (fun _ => none) j) (hT : kd (200 + ci) = ci ∧ bt (200 + ci) = 200 + ci) (hN : nf ci = N) (h13 : ci < 13) (d : decode cc pc = .ok (.new idx, 3)) (lk : Cond.classLink y.cls idx Cn ∈ lw_g) (hi : Cond.instantiable Cn N ∈ lw_g) (hn : Cond.initialized Cn ∈ lw_g) (hro : Pf ln rv + K + (16 + N) ≤ r0 + ph) (kk : ∀ (q : Nat) (cl2 ln2 : Nat → Nat) (iv2 : Nat → Nat → Int) (rv2 : Nat → Nat → Option Nat), q ∉ L → cl2 = va_up cl q (200 + ci) → ln2 = ln → iv2 = up0 iv q 0 → rv2 = up0 rv q none → ∃ K2 : Nat, Pf ln rv + K + (16 + N) ≤ Pf ln2 rv2 + K2 ∧ cw p l e d0 r0 s m args below meth c G A nL Q Pf ph (L ++ [q]) cl2 ln2 iv2 rv2 K2 (pc + 3) lv (.ref q :: st)) : cw p l e d0 r0 s m args below meth c G A nL Q Pf ph L cl ln iv rv K pc lv st := by
  intro u hu kc ks hh
  refine q_new C ck d lk hi hn ⟨by show kc + 1 ≤ r0 / 16; omega, by show ks + N ≤ r0; omega⟩ (fun q hq => ?_)
  obtain ⟨K2, g1, g2⟩ := kk q _ _ _ _ hq rfl rfl rfl rfl
  have e : va_up (enc G cl ln iv rv) q (ob ci N (fun j => defaultValue (tyy j))) = enc G (va_up cl q (200 + ci)) ln (up0 iv q 0) (up0 rv q none) := by
    refine enc_up (fun b hb => ⟨va_up_ne _ _ hb, rfl, up0_a hb, up0_a hb⟩) ?_
    have h2 : ty (L ++ [q]) (va_up cl q (200 + ci)) q (200 + ci) := ⟨List.mem_append_right _ List.mem_cons_self, by rw [va_up_self]; exact hT.2⟩
    rw [enc_ob h2 hT.1 hN h13]
    refine ob_ext (fun j hj => ?_)
    rw [hv j hj]
    unfold ofv
    rw [up0_s, up0_s]
  rw [e]
  exact g2 (u + (16 + N)) (by omega) _ _ (by omega)
theorem c_newaI (C : Cq p s m args meth c cc y ret G A nL) {z : Int} {N : Nat} (t : Nat)  (d : decode cc pc = .ok (.newarray .int, 2)) (lk : Cond.arrayClass .int ∈ lw_g) (hT : kd (bt t) = 20) (hz : z = (N : Int)) (hb : N ≤ 100000) (hro : Pf ln rv + K + (16 + N) ≤ r0 + ph) (kk : ∀ (q : Nat) (cl2 ln2 : Nat → Nat) (iv2 : Nat → Nat → Int) (rv2 : Nat → Nat → Option Nat), q ∉ L → cl2 = va_up cl q t → ln2 = va_up ln q N → iv2 = up0 iv q 0 → rv2 = up0 rv q none → ∃ K2 : Nat, Pf ln rv + K + (16 + N) ≤ Pf ln2 rv2 + K2 ∧ cw p l e d0 r0 s m args below meth c G A nL Q Pf ph (L ++ [q]) cl2 ln2 iv2 rv2 K2 (pc + 2) lv (.ref q :: st)) : cw p l e d0 r0 s m args below meth c G A nL Q Pf ph L cl ln iv rv K pc lv (.int (iI z) :: st) := by
  intro u hu kc ks hh
  subst hz
  have hr : R32 (N : Int) := ⟨by omega, by omega⟩
  refine q_newaI (N := N) C d lk (by rw [show (0 : Int32) = iI 0 from rfl, iI_lt hr R32_0]; omega) (by rw [iI_cl hr]; omega) hb ⟨by show kc + 1 ≤ r0 / 16; omega, by show ks + N ≤ r0; omega⟩ (fun q hq => ?_)
  obtain ⟨K2, g1, g2⟩ := kk q _ _ _ _ hq rfl rfl rfl rfl
  have e : va_up (enc G cl ln iv rv) q (aI G N (fun _ => 0)) = enc G (va_up cl q t) (va_up ln q N) (up0 iv q 0) (up0 rv q none) := by
    refine enc_up (fun b hb => ⟨va_up_ne _ _ hb, va_up_ne _ _ hb, up0_a hb, up0_a hb⟩) ?_
    have h2 : ty (L ++ [q]) (va_up cl q t) q (bt t) := ⟨List.mem_append_right _ List.mem_cons_self, by rw [va_up_self]⟩
    rw [enc_I h2 hT, va_up_self]
    congr 1
    funext j
    rw [up0_s]; rfl
  rw [e]
  exact g2 (u + (16 + N)) (by omega) _ _ (by omega)
theorem c_newaZ (C : Cq p s m args meth c cc y ret G A nL) {z : Int} {N : Nat} (t : Nat)  (d : decode cc pc = .ok (.newarray .boolean, 2)) (lk : Cond.arrayClass .boolean ∈ lw_g) (hT : kd (bt t) = 21) (hz : z = (N : Int)) (hb : N ≤ 100000) (hro : Pf ln rv + K + (16 + N) ≤ r0 + ph) (kk : ∀ (q : Nat) (cl2 ln2 : Nat → Nat) (iv2 : Nat → Nat → Int) (rv2 : Nat → Nat → Option Nat), q ∉ L → cl2 = va_up cl q t → ln2 = va_up ln q N → iv2 = up0 iv q 0 → rv2 = up0 rv q none → ∃ K2 : Nat, Pf ln rv + K + (16 + N) ≤ Pf ln2 rv2 + K2 ∧ cw p l e d0 r0 s m args below meth c G A nL Q Pf ph (L ++ [q]) cl2 ln2 iv2 rv2 K2 (pc + 2) lv (.ref q :: st)) : cw p l e d0 r0 s m args below meth c G A nL Q Pf ph L cl ln iv rv K pc lv (.int (iI z) :: st) := by
  intro u hu kc ks hh
  subst hz
  have hr : R32 (N : Int) := ⟨by omega, by omega⟩
  refine q_newaZ (N := N) C d lk (by rw [show (0 : Int32) = iI 0 from rfl, iI_lt hr R32_0]; omega) (by rw [iI_cl hr]; omega) hb ⟨by show kc + 1 ≤ r0 / 16; omega, by show ks + N ≤ r0; omega⟩ (fun q hq => ?_)
  obtain ⟨K2, g1, g2⟩ := kk q _ _ _ _ hq rfl rfl rfl rfl
  have e : va_up (enc G cl ln iv rv) q (aZ G N (fun _ => 0)) = enc G (va_up cl q t) (va_up ln q N) (up0 iv q 0) (up0 rv q none) := by
    refine enc_up (fun b hb => ⟨va_up_ne _ _ hb, va_up_ne _ _ hb, up0_a hb, up0_a hb⟩) ?_
    have h2 : ty (L ++ [q]) (va_up cl q t) q (bt t) := ⟨List.mem_append_right _ List.mem_cons_self, by rw [va_up_self]⟩
    rw [enc_Z h2 hT, va_up_self]
    congr 1
    funext j
    rw [up0_s]; rfl
  rw [e]
  exact g2 (u + (16 + N)) (by omega) _ _ (by omega)
theorem c_newaL (C : Cq p s m args meth c cc y ret G A nL) {z : Int} {N : Nat} (t : Nat) {idx : Nat} (d : decode cc pc = .ok (.anewarray idx, 3)) (lk : Cond.classLink y.cls idx RX2 ∈ lw_g) (lo : Cond.arrayOver (.object RX2) ∈ lw_tbl) (hT : kd (bt t) = 22) (hz : z = (N : Int)) (hb : N ≤ 100000) (hro : Pf ln rv + K + (16 + N) ≤ r0 + ph) (kk : ∀ (q : Nat) (cl2 ln2 : Nat → Nat) (iv2 : Nat → Nat → Int) (rv2 : Nat → Nat → Option Nat), q ∉ L → cl2 = va_up cl q t → ln2 = va_up ln q N → iv2 = up0 iv q 0 → rv2 = up0 rv q none → ∃ K2 : Nat, Pf ln rv + K + (16 + N) ≤ Pf ln2 rv2 + K2 ∧ cw p l e d0 r0 s m args below meth c G A nL Q Pf ph (L ++ [q]) cl2 ln2 iv2 rv2 K2 (pc + 3) lv (.ref q :: st)) : cw p l e d0 r0 s m args below meth c G A nL Q Pf ph L cl ln iv rv K pc lv (.int (iI z) :: st) := by
  intro u hu kc ks hh
  subst hz
  have hr : R32 (N : Int) := ⟨by omega, by omega⟩
  refine q_newqL (N := N) C d lk lo (by rw [show (0 : Int32) = iI 0 from rfl, iI_lt hr R32_0]; omega) (by rw [iI_cl hr]; omega) hb ⟨by show kc + 1 ≤ r0 / 16; omega, by show ks + N ≤ r0; omega⟩ (fun q hq => ?_)
  obtain ⟨K2, g1, g2⟩ := kk q _ _ _ _ hq rfl rfl rfl rfl
  have e : va_up (enc G cl ln iv rv) q (aL G N (fun _ => none)) = enc G (va_up cl q t) (va_up ln q N) (up0 iv q 0) (up0 rv q none) := by
    refine enc_up (fun b hb => ⟨va_up_ne _ _ hb, va_up_ne _ _ hb, up0_a hb, up0_a hb⟩) ?_
    have h2 : ty (L ++ [q]) (va_up cl q t) q (bt t) := ⟨List.mem_append_right _ List.mem_cons_self, by rw [va_up_self]⟩
    rw [enc_L h2 hT, va_up_self]
    congr 1
    funext j
    rw [up0_s]
  rw [e]
  exact g2 (u + (16 + N)) (by omega) _ _ (by omega)
theorem c_newaR (C : Cq p s m args meth c cc y ret G A nL) {z : Int} {N : Nat} (t : Nat) {idx : Nat} (d : decode cc pc = .ok (.anewarray idx, 3)) (lk : Cond.classLink y.cls idx RX5 ∈ lw_g) (lo : Cond.arrayOver (.object RX5) ∈ lw_tbl) (hT : kd (bt t) = 23) (hz : z = (N : Int)) (hb : N ≤ 100000) (hro : Pf ln rv + K + (16 + N) ≤ r0 + ph) (kk : ∀ (q : Nat) (cl2 ln2 : Nat → Nat) (iv2 : Nat → Nat → Int) (rv2 : Nat → Nat → Option Nat), q ∉ L → cl2 = va_up cl q t → ln2 = va_up ln q N → iv2 = up0 iv q 0 → rv2 = up0 rv q none → ∃ K2 : Nat, Pf ln rv + K + (16 + N) ≤ Pf ln2 rv2 + K2 ∧ cw p l e d0 r0 s m args below meth c G A nL Q Pf ph (L ++ [q]) cl2 ln2 iv2 rv2 K2 (pc + 3) lv (.ref q :: st)) : cw p l e d0 r0 s m args below meth c G A nL Q Pf ph L cl ln iv rv K pc lv (.int (iI z) :: st) := by
  intro u hu kc ks hh
  subst hz
  have hr : R32 (N : Int) := ⟨by omega, by omega⟩
  refine q_newqR (N := N) C d lk lo (by rw [show (0 : Int32) = iI 0 from rfl, iI_lt hr R32_0]; omega) (by rw [iI_cl hr]; omega) hb ⟨by show kc + 1 ≤ r0 / 16; omega, by show ks + N ≤ r0; omega⟩ (fun q hq => ?_)
  obtain ⟨K2, g1, g2⟩ := kk q _ _ _ _ hq rfl rfl rfl rfl
  have e : va_up (enc G cl ln iv rv) q (aR G N (fun _ => none)) = enc G (va_up cl q t) (va_up ln q N) (up0 iv q 0) (up0 rv q none) := by
    refine enc_up (fun b hb => ⟨va_up_ne _ _ hb, va_up_ne _ _ hb, up0_a hb, up0_a hb⟩) ?_
    have h2 : ty (L ++ [q]) (va_up cl q t) q (bt t) := ⟨List.mem_append_right _ List.mem_cons_self, by rw [va_up_self]⟩
    rw [enc_R h2 hT, va_up_self]
    congr 1
    funext j
    rw [up0_s]
  rw [e]
  exact g2 (u + (16 + N)) (by omega) _ _ (by omega)
theorem c_newaO (C : Cq p s m args meth c cc y ret G A nL) {z : Int} {N : Nat} (t : Nat) {idx : Nat} (d : decode cc pc = .ok (.anewarray idx, 3)) (lk : Cond.classLink y.cls idx "java/lang/Object" ∈ lw_g) (lo : Cond.arrayOver (.object "java/lang/Object") ∈ lw_tbl) (hT : kd (bt t) = 24) (hz : z = (N : Int)) (hb : N ≤ 100000) (hro : Pf ln rv + K + (16 + N) ≤ r0 + ph) (kk : ∀ (q : Nat) (cl2 ln2 : Nat → Nat) (iv2 : Nat → Nat → Int) (rv2 : Nat → Nat → Option Nat), q ∉ L → cl2 = va_up cl q t → ln2 = va_up ln q N → iv2 = up0 iv q 0 → rv2 = up0 rv q none → ∃ K2 : Nat, Pf ln rv + K + (16 + N) ≤ Pf ln2 rv2 + K2 ∧ cw p l e d0 r0 s m args below meth c G A nL Q Pf ph (L ++ [q]) cl2 ln2 iv2 rv2 K2 (pc + 3) lv (.ref q :: st)) : cw p l e d0 r0 s m args below meth c G A nL Q Pf ph L cl ln iv rv K pc lv (.int (iI z) :: st) := by
  intro u hu kc ks hh
  subst hz
  have hr : R32 (N : Int) := ⟨by omega, by omega⟩
  refine q_newqO (N := N) C d lk lo (by rw [show (0 : Int32) = iI 0 from rfl, iI_lt hr R32_0]; omega) (by rw [iI_cl hr]; omega) hb ⟨by show kc + 1 ≤ r0 / 16; omega, by show ks + N ≤ r0; omega⟩ (fun q hq => ?_)
  obtain ⟨K2, g1, g2⟩ := kk q _ _ _ _ hq rfl rfl rfl rfl
  have e : va_up (enc G cl ln iv rv) q (aO G N (fun _ => none)) = enc G (va_up cl q t) (va_up ln q N) (up0 iv q 0) (up0 rv q none) := by
    refine enc_up (fun b hb => ⟨va_up_ne _ _ hb, va_up_ne _ _ hb, up0_a hb, up0_a hb⟩) ?_
    have h2 : ty (L ++ [q]) (va_up cl q t) q (bt t) := ⟨List.mem_append_right _ List.mem_cons_self, by rw [va_up_self]⟩
    rw [enc_O h2 hT, va_up_self]
    congr 1
    funext j
    rw [up0_s]
  rw [e]
  exact g2 (u + (16 + N)) (by omega) _ _ (by omega)
theorem c_callV (C : Cq p s m args meth c cc y ret G A nL) (hM : Mir mi s) {y2 : MethodName} {cc2 : ByteArray} {n2 d2 c2 pm2 idx k2 : Nat} {P2 : PC} {As rest : List Value} {Pf2 : PF} {b ci N T : Nat} {ret2 : Option FieldType} {TT : u_T} {tyy : Nat → FieldType} (M : Mc l G mi Pf2 pm2 y2 cc2 n2 ret2 d2 (.ref b :: As) L cl ln iv rv c2 P2) (d : decode cc pc = .ok (.invokevirtual idx, 3)) (hw : Wv y.cls idx y2 cc2 n2 ret2 k2) (hk : As.length = k2) (hb : ty L cl b T) (hT : kd T = ci) (hN : nf ci = N) (h13 : ci < 13) (ck : Ck ci y2.cls TT N tyy) (hst : st = As.reverse ++ .ref b :: rest) (hcat : (rest.map fun v => v.category).sum ≤ 8) (hR : d2 + 1 ≤ d0 ∧ 8 + (n2 + 11) + 64 * d2 ≤ 64 * d0) (hro : Pf ln rv + K + (pm2 + c2 - Pf2 ln rv) ≤ r0 + ph) (kk : ∀ (v : Option Value) (L2 : List Nat) (cl2 ln2 : Nat → Nat) (iv2 : Nat → Nat → Int) (rv2 : Nat → Nat → Option Nat), P2 v L2 cl2 ln2 iv2 rv2 → ∃ K2 : Nat, (∀ u2 : Nat, u2 + Pf2 ln rv ≤ Pf2 ln2 rv2 + c2 → u2 + Pf ln rv + K ≤ Pf ln2 rv2 + K2) ∧ cw p l e d0 r0 s m args below meth c G A nL Q Pf ph L2 cl2 ln2 iv2 rv2 K2 (pc + 3) lv (v.toList ++ rest)) : cw p l e d0 r0 s m args below meth c G A nL Q Pf ph L cl ln iv rv K pc lv st := fun u hu kc ks hh => u_callV C hM M d hw hk hb.1 (enc_ob hb hT hN h13) ck hst hcat hR (by omega) (fun v L2 E2 u2 ⟨cl2, ln2, iv2, rv2, h1, h2, h3⟩ => by subst h1; obtain ⟨K2, g1, g2⟩ := kk v L2 cl2 ln2 iv2 rv2 h3; have g3 := g1 u2 h2; exact g2 (u + u2) (by omega)) kc ks hh
theorem c_callI (C : Cq p s m args meth c cc y ret G A nL) (hM : Mir mi s) {y2 : MethodName} {cc2 : ByteArray} {n2 d2 c2 pm2 idx k2 : Nat} {P2 : PC} {As rest : List Value} {Pf2 : PF} {b : Nat} (M : Mc l G mi Pf2 pm2 y2 cc2 n2 none d2 (.ref b :: As) L cl ln iv rv c2 P2) (d : decode cc pc = .ok (.invokespecial idx, 3)) (hw : Wi y.cls idx y2 cc2 n2 k2) (hk : As.length = k2) (hst : st = As.reverse ++ .ref b :: rest) (hcat : (rest.map fun v => v.category).sum ≤ 8) (hR : d2 + 1 ≤ d0 ∧ 8 + (n2 + 11) + 64 * d2 ≤ 64 * d0) (hro : Pf ln rv + K + (pm2 + c2 - Pf2 ln rv) ≤ r0 + ph) (kk : ∀ (v : Option Value) (L2 : List Nat) (cl2 ln2 : Nat → Nat) (iv2 : Nat → Nat → Int) (rv2 : Nat → Nat → Option Nat), P2 v L2 cl2 ln2 iv2 rv2 → ∃ K2 : Nat, (∀ u2 : Nat, u2 + Pf2 ln rv ≤ Pf2 ln2 rv2 + c2 → u2 + Pf ln rv + K ≤ Pf ln2 rv2 + K2) ∧ cw p l e d0 r0 s m args below meth c G A nL Q Pf ph L2 cl2 ln2 iv2 rv2 K2 (pc + 3) lv (v.toList ++ rest)) : cw p l e d0 r0 s m args below meth c G A nL Q Pf ph L cl ln iv rv K pc lv st := fun u hu kc ks hh => u_callI C hM M d hw hk hst hcat hR (by omega) (fun v L2 E2 u2 ⟨cl2, ln2, iv2, rv2, h1, h2, h3⟩ => by subst h1; obtain ⟨K2, g1, g2⟩ := kk v L2 cl2 ln2 iv2 rv2 h3; have g3 := g1 u2 h2; exact g2 (u + u2) (by omega)) kc ks hh
theorem c_callIN (C : Cq p s m args meth c cc y ret G A nL) (hM : Mir mi s) {y2 : MethodName} {cc2 : ByteArray} {n2 d2 c2 pm2 idx k2 : Nat} {P2 : PC} {As rest : List Value} {Pf2 : PF} {b : Nat} {host : String} (M : Mc l G mi Pf2 pm2 y2 cc2 n2 none d2 (.ref b :: As) L cl ln iv rv c2 P2) (d : decode cc pc = .ok (.invokespecial idx, 3)) (hw : Wn y.cls idx y2 host cc2 n2 k2) (hk : As.length = k2) (hst : st = As.reverse ++ .ref b :: rest) (hcat : (rest.map fun v => v.category).sum ≤ 8) (hR : d2 + 1 ≤ d0 ∧ 8 + (n2 + 11) + 64 * d2 ≤ 64 * d0) (hro : Pf ln rv + K + (pm2 + c2 - Pf2 ln rv) ≤ r0 + ph) (kk : ∀ (v : Option Value) (L2 : List Nat) (cl2 ln2 : Nat → Nat) (iv2 : Nat → Nat → Int) (rv2 : Nat → Nat → Option Nat), P2 v L2 cl2 ln2 iv2 rv2 → ∃ K2 : Nat, (∀ u2 : Nat, u2 + Pf2 ln rv ≤ Pf2 ln2 rv2 + c2 → u2 + Pf ln rv + K ≤ Pf ln2 rv2 + K2) ∧ cw p l e d0 r0 s m args below meth c G A nL Q Pf ph L2 cl2 ln2 iv2 rv2 K2 (pc + 3) lv (v.toList ++ rest)) : cw p l e d0 r0 s m args below meth c G A nL Q Pf ph L cl ln iv rv K pc lv st := fun u hu kc ks hh => u_callIN C hM M d hw hk hst hcat hR (by omega) (fun v L2 E2 u2 ⟨cl2, ln2, iv2, rv2, h1, h2, h3⟩ => by subst h1; obtain ⟨K2, g1, g2⟩ := kk v L2 cl2 ln2 iv2 rv2 h3; have g3 := g1 u2 h2; exact g2 (u + u2) (by omega)) kc ks hh
theorem c_callS (C : Cq p s m args meth c cc y ret G A nL) (hM : Mir mi s) {y2 : MethodName} {cc2 : ByteArray} {n2 d2 c2 pm2 idx k2 : Nat} {P2 : PC} {As rest : List Value} {Pf2 : PF} {ret2 : Option FieldType} (M : Mc l G mi Pf2 pm2 y2 cc2 n2 ret2 d2 As L cl ln iv rv c2 P2) (d : decode cc pc = .ok (.invokestatic idx, 3)) (hw : Ws y.cls idx y2 cc2 n2 ret2 k2) (hk : As.length = k2) (hst : st = As.reverse ++ rest) (hcat : (rest.map fun v => v.category).sum ≤ 8) (hR : d2 + 1 ≤ d0 ∧ 8 + (n2 + 11) + 64 * d2 ≤ 64 * d0) (hro : Pf ln rv + K + (pm2 + c2 - Pf2 ln rv) ≤ r0 + ph) (kk : ∀ (v : Option Value) (L2 : List Nat) (cl2 ln2 : Nat → Nat) (iv2 : Nat → Nat → Int) (rv2 : Nat → Nat → Option Nat), P2 v L2 cl2 ln2 iv2 rv2 → ∃ K2 : Nat, (∀ u2 : Nat, u2 + Pf2 ln rv ≤ Pf2 ln2 rv2 + c2 → u2 + Pf ln rv + K ≤ Pf ln2 rv2 + K2) ∧ cw p l e d0 r0 s m args below meth c G A nL Q Pf ph L2 cl2 ln2 iv2 rv2 K2 (pc + 3) lv (v.toList ++ rest)) : cw p l e d0 r0 s m args below meth c G A nL Q Pf ph L cl ln iv rv K pc lv st := fun u hu kc ks hh => u_callS C hM M d hw hk hst hcat hR (by omega) (fun v L2 E2 u2 ⟨cl2, ln2, iv2, rv2, h1, h2, h3⟩ => by subst h1; obtain ⟨K2, g1, g2⟩ := kk v L2 cl2 ln2 iv2 rv2 h3; have g3 := g1 u2 h2; exact g2 (u + u2) (by omega)) kc ks hh
theorem c_iret (C : Cq p s m args meth c cc y ret G A nL) {Post : PC} {c0 : Nat} {z : Int} (d : decode cc pc = .ok (.ireturn, 1)) (hr : ret = some .int) (hKc : K ≤ c0) (hro : Pf ln rv + K ≤ r0 + ph) (hp : Post (some (.int (iI z))) L cl ln iv rv) : cw p l e d0 r0 s m args below meth c G A nL (MQ below (Qu G A (Qp G Pf ph c0 Post)) args s (r0 / 16) r0 A) Pf ph L cl ln iv rv K pc lv [.int (iI z)] := fun u hu kc ks hh => u_iret C d hr (by omega) ⟨cl, ln, iv, rv, rfl, by omega, hp⟩ kc ks hh
theorem c_zret (C : Cq p s m args meth c cc y ret G A nL) {Post : PC} {c0 : Nat} {z : Int} (d : decode cc pc = .ok (.ireturn, 1)) (hr : ret = some .boolean) (hz : z = 0 ∨ z = 1) (hKc : K ≤ c0) (hro : Pf ln rv + K ≤ r0 + ph) (hp : Post (some (.int (iI z))) L cl ln iv rv) : cw p l e d0 r0 s m args below meth c G A nL (MQ below (Qu G A (Qp G Pf ph c0 Post)) args s (r0 / 16) r0 A) Pf ph L cl ln iv rv K pc lv [.int (iI z)] := fun u hu kc ks hh => u_zret C d hr (by rcases hz with rfl | rfl <;> decide) (by omega) ⟨cl, ln, iv, rv, rfl, by omega, hp⟩ kc ks hh
theorem c_vret (C : Cq p s m args meth c cc y ret G A nL) {Post : PC} {c0 : Nat} (d : decode cc pc = .ok (.return_, 1)) (hr : ret = none) (hKc : K ≤ c0) (hro : Pf ln rv + K ≤ r0 + ph) (hp : Post none L cl ln iv rv) : cw p l e d0 r0 s m args below meth c G A nL (MQ below (Qu G A (Qp G Pf ph c0 Post)) args s (r0 / 16) r0 A) Pf ph L cl ln iv rv K pc lv [] := fun u hu kc ks hh => u_vret C d hr (by omega) ⟨cl, ln, iv, rv, rfl, by omega, hp⟩ kc ks hh
theorem c_aret (C : Cq p s m args meth c cc y ret G A nL) {Post : PC} {c0 : Nat} {x : Option Nat} {rt : FieldType} (d : decode cc pc = .ok (.areturn, 1)) (hr : ret = some rt) (hrt : (∃ n, rt = .object n) ∨ ∃ t, rt = .array t) (hKc : K ≤ c0) (hro : Pf ln rv + K ≤ r0 + ph) (hp : Post (some (va_rf x)) L cl ln iv rv) : cw p l e d0 r0 s m args below meth c G A nL (MQ below (Qu G A (Qp G Pf ph c0 Post)) args s (r0 / 16) r0 A) Pf ph L cl ln iv rv K pc lv [va_rf x] := fun u hu kc ks hh => u_aret C d hr hrt (by cases x with | none => exact Or.inl rfl | some w => exact Or.inr ⟨w, rfl⟩) (by omega) ⟨cl, ln, iv, rv, rfl, by omega, hp⟩ kc ks hh
theorem Mc.mk {n d c0 pm : Nat} {av : List Value} {Post : PC} (hy : plainName y.cls = true) (hn : (lg_sl av).length ≤ n) (body : ∀ (p : Program) (e : Env) (s : State) (m : MethodId) (args : Array Value) (below : List Frame) (meth : Method) (c : Code) (A : Nat → Prop), Cq p s m args meth c cc y ret G A n → Mir mi s → cw p l e d (pm + c0 - Pf ln rv) s m args below meth c G A n (MQ below (Qu G A (Qp G Pf (Pf ln rv) c0 Post)) args s ((pm + c0 - Pf ln rv) / 16) (pm + c0 - Pf ln rv) A) Pf (Pf ln rv) L cl ln iv rv 0 0 (lv_args 0 av) []) : Mc l G mi Pf pm y cc n ret d av L cl ln iv rv c0 Post := Mu.mk hy hn (fun p e s m args below meth c A C hM => body p e s m args below meth c A C hM 0 (by omega))
theorem c_copyi (C : Cq p s m args meth c cc y ret G A nL) {a b T T2 idx : Nat} {sp dp n : Int} (d : decode cc pc = .ok (.invokestatic idx, 3)) (lk : Cond.methodLink y.cls idx arraycopyName ∈ lw_g) (hn : Cond.native arraycopyName ∈ lw_g) (hs : Cond.static arraycopyName ∈ lw_g) (hi : Cond.initialized "java/lang/System" ∈ lw_g) (ha : ty L cl a T) (hT : kd T = 20) (hb : ty L cl b T2) (hT2 : kd T2 = 20) (h1 : 0 ≤ sp) (h2 : 0 ≤ dp) (h3 : 0 ≤ n) (h4 : sp + n ≤ (ln a : Nat)) (h5 : dp + n ≤ (ln b : Nat)) (hla : ln a ≤ 1000000) (hlb : ln b ≤ 1000000) (hd : 1 ≤ d0) (hst : (st.map fun v => v.category).sum ≤ 8) (kk : ∀ iv2, iv2 = (fun w j => if w = b then (if dp.toNat ≤ j ∧ j < dp.toNat + n.toNat then iv a (sp.toNat + (j - dp.toNat)) else iv b j) else iv w j) → cw p l e d0 r0 s m args below meth c G A nL Q Pf ph L cl ln iv2 rv K (pc + 3) lv st) : cw p l e d0 r0 s m args below meth c G A nL Q Pf ph L cl ln iv rv K pc lv (.int (iI n) :: .int (iI dp) :: .ref b :: .int (iI sp) :: .ref a :: st) := by
  intro u hu kc ks hh
  have r1 : R32 sp := ⟨by omega, by omega⟩
  have r2 : R32 dp := ⟨by omega, by omega⟩
  have r3 : R32 n := ⟨by omega, by omega⟩
  refine q_copyi C d lk hn hs hi ha.1 (enc_I ha hT) hb.1 (enc_I hb hT2) (by rw [show (0 : Int32) = iI 0 from rfl, iI_lt r1 R32_0]; omega) (by rw [show (0 : Int32) = iI 0 from rfl, iI_lt r2 R32_0]; omega) (by rw [show (0 : Int32) = iI 0 from rfl, iI_lt r3 R32_0]; omega) (by rw [iI_cl r1, iI_cl r3]; omega) (by rw [iI_cl r2, iI_cl r3]; omega) ⟨hd, by show 64 ≤ 64 * d0; omega⟩ hst ?_
  rw [iI_cl r1, iI_cl r2, iI_cl r3]
  have e : va_up (enc G cl ln iv rv) b (aI G (ln b) (va_cpy (fun j => iI (iv a j)) (fun j => iI (iv b j)) sp.toNat dp.toNat n.toNat)) = enc G cl ln (fun w j => if w = b then (if dp.toNat ≤ j ∧ j < dp.toNat + n.toNat then iv a (sp.toNat + (j - dp.toNat)) else iv b j) else iv w j) rv := by
    refine enc_up (fun w hw => ⟨rfl, rfl, by funext j; rw [if_neg hw], rfl⟩) ?_
    rw [enc_I hb hT2]
    congr 1
    funext j
    rw [if_pos rfl]
    unfold va_cpy
    split <;> rfl
  rw [e]
  exact kk _ rfl u hu kc ks hh
end CQ3
end
section
def ilo (T k : Nat) : Int := match T with
  | 1 => (match k with | 11 => 1 | 12 => 1 | _ => (-2147483648))
  | 2 => (match k with | 0 => 3000 | 2 => 0 | _ => (-2147483648))
  | 3 => (match k with | 0 => 500 | 2 => 0 | _ => (-2147483648))
  | 4 => (match k with | 0 => 4000 | 2 => 0 | _ => (-2147483648))
  | 5 => (match k with | 0 => 200 | 2 => 0 | _ => (-2147483648))
  | 6 => (match k with | 0 => 6003 | 2 => 0 | _ => (-2147483648))
  | 7 => (match k with | 0 => 6003 | 2 => 0 | _ => (-2147483648))
  | 8 => (match k with | 0 => 40200 | 2 => 0 | _ => (-2147483648))
  | 9 => (match k with | 0 => 40200 | 2 => 0 | _ => (-2147483648))
  | 10 => (match k with | 0 => 4001 | 2 => 0 | _ => (-2147483648))
  | 11 => (match k with | 0 => 40000 | 2 => 0 | _ => (-2147483648))
  | 12 => (match k with | 0 => 200 | 2 => 0 | _ => (-2147483648))
  | 14 => (match k with | 1 => 0 | 2 => 0 | 5 => 0 | 7 => 0 | _ => (-2147483648))
  | 15 => (match k with | 4 => 0 | 5 => 0 | 7 => 0 | 10 => 0 | 11 => 0 | _ => (-2147483648))
  | 17 => (match k with | 5 => 0 | 6 => 0 | 9 => 0 | _ => (-2147483648))
  | 18 => (match k with | 1 => 0 | _ => (-2147483648))
  | 19 => (match k with | 1 => 0 | 2 => 0 | _ => (-2147483648))
  | 20 => (match k with | 3 => 0 | _ => (-2147483648))
  | 21 => (match k with | 3 => 0 | _ => (-2147483648))
  | 22 => (match k with | 2 => 0 | _ => (-2147483648))
  | 23 => (match k with | 2 => 0 | _ => (-2147483648))
  | 24 => (match k with | 2 => 0 | _ => (-2147483648))
  | 25 => (match k with | 2 => 0 | _ => (-2147483648))
  | 26 => (match k with | 2 => 0 | _ => (-2147483648))
  | 52 => 0
  | 56 => 0
  | 58 => 0
  | 59 => 0
  | 100 => (match k with | 7 => 0 | _ => (-2147483648))
  | _ => (-2147483648)
def ihi (T k : Nat) : Int := match T with
  | 1 => (match k with | 11 => 100 | 12 => 50 | _ => 2147483647)
  | 2 => (match k with | 0 => 3000 | 2 => 3000 | _ => 2147483647)
  | 3 => (match k with | 0 => 500 | 2 => 500 | _ => 2147483647)
  | 4 => (match k with | 0 => 4000 | 2 => 4000 | _ => 2147483647)
  | 5 => (match k with | 0 => 200 | 2 => 200 | _ => 2147483647)
  | 6 => (match k with | 0 => 6003 | 2 => 6003 | _ => 2147483647)
  | 7 => (match k with | 0 => 6003 | 2 => 6003 | _ => 2147483647)
  | 8 => (match k with | 0 => 40200 | 2 => 40200 | _ => 2147483647)
  | 9 => (match k with | 0 => 40200 | 2 => 40200 | _ => 2147483647)
  | 10 => (match k with | 0 => 4001 | 2 => 4001 | _ => 2147483647)
  | 11 => (match k with | 0 => 40000 | 2 => 40000 | _ => 2147483647)
  | 12 => (match k with | 0 => 200 | 2 => 200 | _ => 2147483647)
  | 14 => (match k with | 1 => 1 | 2 => 1 | 5 => 126 | 7 => 6 | _ => 2147483647)
  | 15 => (match k with | 4 => 500 | 5 => 1 | 7 => 100000 | 10 => 500 | 11 => 500 | _ => 2147483647)
  | 17 => (match k with | 5 => 50 | 6 => 1 | 9 => 100 | _ => 2147483647)
  | 18 => (match k with | 1 => 200 | _ => 2147483647)
  | 19 => (match k with | 1 => 200 | 2 => 1 | _ => 2147483647)
  | 20 => (match k with | 3 => 5 | _ => 2147483647)
  | 21 => (match k with | 3 => 5 | _ => 2147483647)
  | 22 => (match k with | 2 => 30 | _ => 2147483647)
  | 23 => (match k with | 2 => 512 | _ => 2147483647)
  | 24 => (match k with | 2 => 6003 | _ => 2147483647)
  | 25 => (match k with | 2 => 6003 | _ => 2147483647)
  | 26 => (match k with | 2 => 200 | _ => 2147483647)
  | 52 => 1
  | 56 => 1
  | 58 => 125
  | 59 => 1
  | 100 => (match k with | 7 => 1 | _ => 2147483647)
  | _ => 2147483647
def tgt (T k : Nat) : Nat := match T with
  | 1 => (match k with | 0 => 2 | 1 => 3 | 2 => 4 | 3 => 5 | 4 => 13 | 5 => 14 | 6 => 15 | 7 => 16 | 8 => 17 | 9 => 18 | 10 => 18 | _ => 0)
  | 2 => (match k with | 1 => 32 | _ => 0)
  | 3 => (match k with | 1 => 33 | _ => 0)
  | 4 => (match k with | 1 => 34 | _ => 0)
  | 5 => (match k with | 1 => 35 | _ => 0)
  | 6 => (match k with | 1 => 36 | _ => 0)
  | 7 => (match k with | 1 => 37 | _ => 0)
  | 8 => (match k with | 1 => 38 | _ => 0)
  | 9 => (match k with | 1 => 39 | _ => 0)
  | 10 => (match k with | 1 => 40 | _ => 0)
  | 11 => (match k with | 1 => 41 | _ => 0)
  | 12 => (match k with | 1 => 42 | _ => 0)
  | 13 => (match k with | 0 => 22 | 1 => 23 | _ => 0)
  | 14 => (match k with | 3 => 56 | 4 => 57 | 6 => 58 | _ => 0)
  | 15 => (match k with | 0 => 50 | 1 => 51 | 2 => 52 | 3 => 53 | 6 => 54 | 8 => 55 | _ => 0)
  | 16 => (match k with | 0 => 24 | 1 => 25 | 2 => 6 | 3 => 7 | 4 => 8 | 5 => 9 | 6 => 10 | _ => 0)
  | 17 => (match k with | 0 => 59 | 1 => 60 | 2 => 61 | 3 => 62 | 4 => 11 | 7 => 16 | 8 => 63 | _ => 0)
  | 18 => (match k with | 0 => 67 | _ => 0)
  | 19 => (match k with | 0 => 64 | _ => 0)
  | 20 => (match k with | 1 => 65 | 2 => 66 | _ => 0)
  | 21 => (match k with | 1 => 100 | 2 => 20 | _ => 0)
  | 22 => (match k with | 1 => 1000 | _ => 0)
  | 23 => (match k with | 1 => 1001 | _ => 0)
  | 24 => (match k with | 1 => 1002 | _ => 0)
  | 25 => (match k with | 1 => 1003 | _ => 0)
  | 26 => (match k with | 1 => 1004 | _ => 0)
  | 67 => 19
  | 68 => 20
  | 100 => (match k with | 2 => 100 | 3 => 100 | 4 => 26 | 5 => 12 | 6 => 68 | _ => 0)
  | 1000 => 100
  | 1001 => 21
  | 1002 => 20
  | 1003 => 20
  | 1004 => 20
  | _ => 0
def nul (T k : Nat) : Bool := match T with
  | 1 => !([0, 1, 2, 3, 4, 5, 6, 7, 8, 9, 10] : List Nat).contains k
  | 2 => !([1] : List Nat).contains k
  | 3 => !([1] : List Nat).contains k
  | 4 => !([1] : List Nat).contains k
  | 5 => !([1] : List Nat).contains k
  | 6 => !([1] : List Nat).contains k
  | 7 => !([1] : List Nat).contains k
  | 8 => !([1] : List Nat).contains k
  | 9 => !([1] : List Nat).contains k
  | 10 => !([1] : List Nat).contains k
  | 11 => !([1] : List Nat).contains k
  | 12 => !([1] : List Nat).contains k
  | 13 => !([0, 1] : List Nat).contains k
  | 14 => !([3, 4, 6] : List Nat).contains k
  | 15 => !([0, 1, 2, 3, 6, 8] : List Nat).contains k
  | 16 => !([0, 1, 2, 3, 4, 5, 6] : List Nat).contains k
  | 17 => !([0, 1, 2, 3, 4, 7, 8] : List Nat).contains k
  | 18 => !([0] : List Nat).contains k
  | 19 => !([0] : List Nat).contains k
  | 20 => !([1, 2] : List Nat).contains k
  | 21 => !([1] : List Nat).contains k
  | 22 => !([1] : List Nat).contains k
  | 23 => !([1] : List Nat).contains k
  | 24 => !([1] : List Nat).contains k
  | 25 => !([1] : List Nat).contains k
  | 26 => !([1] : List Nat).contains k
  | 100 => !([4, 5, 6] : List Nat).contains k
  | _ => true
def llo (T : Nat) : Nat := match T with
  | 32 => 16
  | 33 => 16
  | 34 => 16
  | 35 => 16
  | 36 => 16
  | 37 => 16
  | 38 => 16
  | 39 => 16
  | 40 => 16
  | 41 => 16
  | 42 => 16
  | 50 => 500
  | 51 => 500
  | 52 => 500
  | 53 => 500
  | 54 => 200
  | 55 => 5
  | 56 => 126
  | 57 => 126
  | 58 => 6
  | 59 => 404
  | 60 => 101
  | 61 => 101
  | 62 => 50
  | 63 => 100
  | 64 => 200
  | 65 => 0
  | 66 => 1
  | 67 => 200
  | 68 => 4
  | 1000 => 10
  | 1001 => 10
  | 1002 => 10
  | 1003 => 10
  | 1004 => 10
  | _ => 0
def lhi (T : Nat) : Nat := match T with
  | 32 => 6000
  | 33 => 1000
  | 34 => 8000
  | 35 => 400
  | 36 => 12006
  | 37 => 12006
  | 38 => 80400
  | 39 => 80400
  | 40 => 8002
  | 41 => 80000
  | 42 => 400
  | 50 => 500
  | 51 => 500
  | 52 => 500
  | 53 => 500
  | 54 => 200
  | 55 => 5
  | 56 => 126
  | 57 => 126
  | 58 => 6
  | 59 => 404
  | 60 => 101
  | 61 => 101
  | 62 => 50
  | 63 => 100
  | 64 => 200
  | 65 => 8
  | 66 => 4
  | 67 => 200
  | 68 => 4
  | 1000 => 60
  | 1001 => 1200
  | 1002 => 9100
  | 1003 => 9100
  | 1004 => 400
  | _ => 0
def raw (T : Nat) : Bool := decide (200 ≤ T) && decide (T < 1000)
def lst (T : Nat) : Bool := decide (22 ≤ T) && decide (T ≤ 26)
def szd (T : Nat) : Bool := (decide (2 ≤ T) && decide (T ≤ 12)) || lst T
def arr (T : Nat) : Bool := (decide (30 ≤ T) && decide (T < 100)) || decide (1000 ≤ T)
def uq (t : Nat) : Bool := ([1, 2, 3, 4, 5, 6, 7, 8, 9, 10, 11, 13, 14, 15, 16, 17, 18, 28, 22, 23, 24, 25, 67, 69] : List Nat).contains t
def pot (T : Nat) : Bool := ([2, 3, 4, 5, 6, 7, 8, 9, 10, 11, 24, 25, 67] : List Nat).contains T
theorem lst_szd {T : Nat} (h : lst T = true) : szd T = true := by unfold szd; rw [h]; simp
theorem bt_list {a r : Nat} (h : r < 5) : bt (1000 + 5 * a + r) = 1000 + r := by unfold bt; rw [if_neg (by omega), if_neg (by omega), if_neg (by omega)]; omega
theorem tgt_list {T : Nat} (h : lst T = true) : tgt T 1 = 1000 + (T - 22) := by
  unfold lst at h
  simp only [Bool.and_eq_true, decide_eq_true_eq] at h
  have : T = 22 ∨ T = 23 ∨ T = 24 ∨ T = 25 ∨ T = 26 := by omega
  rcases this with rfl | rfl | rfl | rfl | rfl <;> rfl
def rkx (cl : Nat → Nat) (a k b : Nat) : Prop := (bt (cl a) = 100 → k < 4 → cl b < cl a) ∧ (lst (bt (cl a)) = true → k = 1 → cl b = 1000 + 5 * a + (bt (cl a) - 22))
def rok (L : List Nat) (cl : Nat → Nat) (g a k : Nat) (r : Option Nat) : Prop := raw (bt (cl a)) = false → (r = none → nul (bt (cl a)) k = true) ∧ ∀ b, r = some b → (b ∈ L ∧ bt (cl b) = tgt (bt (cl a)) k ∧ rkx cl a k b) ∨ (b = g ∧ lst (bt (cl a)) = true ∧ k = 1)
def WT (g : Nat) (sk : Nat → Nat) (L : List Nat) (cl ln : Nat → Nat) (iv : Nat → Nat → Int) (rv : Nat → Nat → Option Nat) : Prop :=
  (∀ a ∈ L, ∀ k, ilo (bt (cl a)) k ≤ iv a k ∧ iv a k ≤ ihi (bt (cl a)) k) ∧
  (∀ a ∈ L, ∀ k, rok L cl g a k (rv a k)) ∧
  (∀ a ∈ L, arr (bt (cl a)) = true → llo (bt (cl a)) ≤ ln a ∧ ln a ≤ lhi (bt (cl a))) ∧
  (∀ a ∈ L, szd (bt (cl a)) = true → ∀ b, rv a 1 = some b → (b = g ∧ iv a 2 = 0) ∨ (b ∈ L ∧ iv a 2 ≤ ((ln b : Nat) : Int))) ∧
  (∀ a ∈ L, lst (bt (cl a)) = true → ∀ b, rv a 1 = some b → ∀ i : Nat, (i : Int) < iv a 2 → rv b i ≠ none) ∧
  (∀ a ∈ L, uq (cl a) = true → a = sk (cl a)) ∧ g ∉ L
def SKL (sk : Nat → Nat) (L : List Nat) (cl : Nat → Nat) : Prop := ∀ t, uq t = true → sk t ∈ L ∧ cl (sk t) = t
section WTS
variable {g : Nat} {sk : Nat → Nat} {L : List Nat} {cl ln : Nat → Nat} {iv : Nat → Nat → Int} {rv : Nat → Nat → Option Nat} {a b T k : Nat} {z : Int}
theorem WT.int (h : WT g sk L cl ln iv rv) (ha : ty L cl a T) (k : Nat) : ilo T k ≤ iv a k ∧ iv a k ≤ ihi T k := by have q := h.1 a ha.1 k; rw [ha.2] at q; exact q
theorem bx_lo {x v lo : Int} (e : x = v) (h : lo ≤ v) : lo ≤ x := e ▸ h
theorem bx_hi {x v hi : Int} (e : x = v) (h : v ≤ hi) : x ≤ hi := e ▸ h
theorem opt_n {o : Option Nat} {P : Prop} {Q : Nat → Prop} (h : (o = none ∧ P) ∨ ∃ b, o = some b ∧ Q b) : ∃ o2, o = o2 ∧ ∀ b, o2 = some b → Q b := ⟨o, rfl, fun b e => by
  rcases h with ⟨e1, _⟩ | ⟨b2, e1, q⟩
  · rw [e1] at e
    cases e
  · rw [e1] at e
    cases e
    exact q⟩
theorem WT.opt (h : WT g sk L cl ln iv rv) (ha : ty L cl a T) (k : Nat) (hr : raw T = false) (hl : (lst T && k == 1) = false) : (rv a k = none ∧ nul T k = true) ∨ ∃ b, rv a k = some b ∧ ty L cl b (tgt T k) := by
  have q := h.2.1 a ha.1 k (by rw [ha.2]; exact hr)
  rw [ha.2] at q
  cases e : rv a k with
  | none => exact Or.inl ⟨rfl, q.1 e⟩
  | some b =>
    rcases q.2 b e with w | w
    · exact Or.inr ⟨b, rfl, w.1, w.2.1⟩
    · rw [w.2.1, w.2.2] at hl; cases hl
theorem WT.ref (h : WT g sk L cl ln iv rv) (ha : ty L cl a T) (k : Nat) (hr : raw T = false) (hl : (lst T && k == 1) = false) (hn : nul T k = false) : ∃ b, rv a k = some b ∧ ty L cl b (tgt T k) := by
  rcases h.opt ha k hr hl with w | w
  · rw [hn] at w; cases w.2
  · exact w
theorem WT.rank (h : WT g sk L cl ln iv rv) (ha : ty L cl a 100) (hk : k < 4) (hb : rv a k = some b) : cl b < cl a := by
  rcases (h.2.1 a ha.1 k (by rw [ha.2]; rfl)).2 b hb with w | w
  · exact w.2.2.1 ha.2 hk
  · rw [ha.2] at w; cases w.2.1
theorem WT.len (h : WT g sk L cl ln iv rv) (ha : ty L cl a T) (hA : arr T = true) : llo T ≤ ln a ∧ ln a ≤ lhi T := by have q := h.2.2.1 a ha.1 (by rw [ha.2]; exact hA); rw [ha.2] at q; exact q
theorem WT.isz (h : WT g sk L cl ln iv rv) (ha : ty L cl a T) (hs : szd T = true) (hl : lst T = false) (hb : rv a 1 = some b) : iv a 2 ≤ ((ln b : Nat) : Int) := by
  rcases h.2.2.2.1 a ha.1 (by rw [ha.2]; exact hs) b hb with w | w
  · rcases (h.2.1 a ha.1 1 (by rw [ha.2]; unfold szd at hs; rw [hl] at hs; unfold raw; simp at hs ⊢; omega)).2 b hb with q | q
    · exact absurd q.1 (by rw [w.1]; exact h.2.2.2.2.2.2)
    · rw [ha.2, hl] at q; cases q.2.1
  · exact w.2
theorem ne_ty {T2 : Nat} (ha : ty L cl a T) (hb : ty L cl b T2) (h : T ≠ T2) : a ≠ b := fun e => h (by rw [← ha.2, ← hb.2, e])
theorem WT.puti {iv2 : Nat → Nat → Int} (h : WT g sk L cl ln iv rv) (he : iv2 = up2 iv a k z) (ha : ty L cl a T) (hz : ilo T k ≤ z ∧ z ≤ ihi T k) (hx : (szd T && k == 2) = false) : WT g sk L cl ln iv2 rv := by
  subst he
  obtain ⟨h1, h2, h3, h4, h5, h6⟩ := h
  have key : ∀ w, szd (bt (cl w)) = true → up2 iv a k z w 2 = iv w 2 := by
    intro w hw
    by_cases e : w = a
    · subst e
      rw [ha.2] at hw
      rw [hw] at hx
      refine up2_j (fun q => ?_)
      subst q; cases hx
    · exact up2_k e
  refine ⟨fun w hw j => ?_, h2, h3, fun w hw hs => ?_, fun w hw hs => ?_, h6⟩
  · by_cases e : w = a
    · subst e
      by_cases ej : j = k
      · subst ej; rw [up2_s, ha.2]; exact hz
      · rw [up2_j ej]; exact h1 w hw j
    · rw [up2_k e]; exact h1 w hw j
  · rw [key w hs]; exact h4 w hw hs
  · rw [key w (lst_szd hs)]; exact h5 w hw hs
theorem WT.putsz {iv2 : Nat → Nat → Int} (h : WT g sk L cl ln iv rv) (he : iv2 = up2 iv a 2 z) (ha : ty L cl a T) (hz : ilo T 2 ≤ z ∧ z ≤ ihi T 2) (hs : ∀ b, rv a 1 = some b → (b = g ∧ z = 0) ∨ (b ∈ L ∧ z ≤ ((ln b : Nat) : Int))) (hn : lst T = true → ∀ b, rv a 1 = some b → ∀ i : Nat, (i : Int) < z → rv b i ≠ none) : WT g sk L cl ln iv2 rv := by
  subst he
  obtain ⟨h1, h2, h3, h4, h5, h6⟩ := h
  refine ⟨fun w hw j => ?_, h2, h3, fun w hw hq => ?_, fun w hw hq => ?_, h6⟩
  · by_cases e : w = a
    · subst e
      by_cases ej : j = 2
      · subst ej; rw [up2_s, ha.2]; exact hz
      · rw [up2_j ej]; exact h1 w hw j
    · rw [up2_k e]; exact h1 w hw j
  · by_cases e : w = a
    · subst e; rw [up2_s]; exact hs
    · rw [up2_k e]; exact h4 w hw hq
  · by_cases e : w = a
    · subst e; rw [up2_s]; rw [ha.2] at hq; exact hn hq
    · rw [up2_k e]; exact h5 w hw hq
theorem WT.isz_put {iv2 : Nat → Nat → Int} (h : WT g sk L cl ln iv rv) (he : iv2 = up2 iv a 2 z) (ha : ty L cl a T) (hz : ilo T 2 ≤ z ∧ z ≤ ihi T 2) (hl : lst T = false) (hr : raw T = false) (hb : rv a 1 = some b) (hs : z ≤ ((ln b : Nat) : Int)) : WT g sk L cl ln iv2 rv := by
  refine h.putsz he ha hz (fun b2 hb2 => ?_) (fun q => by rw [hl] at q; cases q)
  rw [hb] at hb2; cases hb2
  rcases (h.2.1 a ha.1 1 (by rw [ha.2]; exact hr)).2 b hb with q | q
  · exact Or.inr ⟨q.1, hs⟩
  · rw [ha.2, hl] at q; cases q.2.1
theorem WT.putr {rv2 : Nat → Nat → Option Nat} {x : Option Nat} (h : WT g sk L cl ln iv rv) (he : rv2 = upr rv a k x) (ha : ty L cl a T) (hr : rok L cl g a k x) (hx : (szd T && k == 1) = false) (hT : T < 1000) : WT g sk L cl ln iv rv2 := by
  subst he
  obtain ⟨h1, h2, h3, h4, h5, h6⟩ := h
  have key : ∀ w, szd (bt (cl w)) = true → upr rv a k x w 1 = rv w 1 := by
    intro w hw
    by_cases e : w = a
    · subst e
      rw [ha.2] at hw
      rw [hw] at hx
      refine upr_j (fun q => ?_)
      subst q; cases hx
    · rw [upr_a e]
  refine ⟨h1, fun w hw j => ?_, h3, fun w hw hs => ?_, fun w hw hs b hb i hi => ?_, h6⟩
  · by_cases e : w = a
    · subst e
      by_cases ej : j = k
      · subst ej; rw [upr_s]; exact hr
      · rw [upr_j ej]; exact h2 w hw j
    · rw [upr_a e]; exact h2 w hw j
  · rw [key w hs]; exact h4 w hw hs
  · rw [key w (lst_szd hs)] at hb
    have hba : b ≠ a := by
      intro e
      subst e
      rcases (h2 w hw 1 (by unfold raw; unfold lst at hs; simp at hs ⊢; omega)).2 b hb with q | q
      · rw [ha.2, tgt_list hs] at q; omega
      · exact h6.2 (q.1 ▸ ha.1)
    rw [upr_a hba]
    exact h5 w hw hs b hb i hi
end WTS
def XT (L : List Nat) (cl ln : Nat → Nat) (L2 : List Nat) (cl2 ln2 : Nat → Nat) : Prop := ∀ a ∈ L, a ∈ L2 ∧ cl2 a = cl a ∧ ln2 a = ln a
def fT (ls : List Nat) (L : List Nat) (cl : Nat → Nat) (iv : Nat → Nat → Int) (rv : Nat → Nat → Option Nat) (iv2 : Nat → Nat → Int) (rv2 : Nat → Nat → Option Nat) : Prop := ∀ b ∈ L, ls.contains (bt (cl b)) = false → iv2 b = iv b ∧ rv2 b = rv b
section XTS
variable {ls : List Nat} {g : Nat} {sk : Nat → Nat} {L L2 L3 : List Nat} {cl ln cl2 ln2 cl3 ln3 : Nat → Nat} {iv iv2 iv3 : Nat → Nat → Int} {rv rv2 rv3 : Nat → Nat → Option Nat} {a b T k : Nat} {z : Int}
theorem XT.refl : XT L cl ln L cl ln := fun _ h => ⟨h, rfl, rfl⟩
theorem XT.trans (h1 : XT L cl ln L2 cl2 ln2) (h2 : XT L2 cl2 ln2 L3 cl3 ln3) : XT L cl ln L3 cl3 ln3 := fun a h => ⟨(h2 a (h1 a h).1).1, (h2 a (h1 a h).1).2.1.trans (h1 a h).2.1, (h2 a (h1 a h).1).2.2.trans (h1 a h).2.2⟩
theorem XT.ty (h : XT L cl ln L2 cl2 ln2) (ha : ty L cl a T) : ty L2 cl2 a T := ⟨(h a ha.1).1, by rw [(h a ha.1).2.1]; exact ha.2⟩
theorem XT.skl (h : XT L cl ln L2 cl2 ln2) (hs : SKL sk L cl) : SKL sk L2 cl2 := fun t ht => ⟨(h _ (hs t ht).1).1, ((h _ (hs t ht).1).2.1).trans (hs t ht).2⟩
theorem fT.refl : fT ls L cl iv rv iv rv := fun _ _ _ => ⟨rfl, rfl⟩
theorem fT.puti (h : fT ls L cl iv rv iv2 rv2) (hX : XT L cl ln L2 cl2 ln2) (he : iv3 = up2 iv2 a k z) (ha : ty L2 cl2 a T) (hc : ls.contains T = true) : fT ls L cl iv rv iv3 rv2 := by
  intro b hb hq
  refine ⟨?_, (h b hb hq).2⟩
  rw [he, upi_a (fun e => ?_)]
  · exact (h b hb hq).1
  · subst e; rw [← (hX b hb).2.1, ha.2, hc] at hq; cases hq
theorem fT.putr {x : Option Nat} (h : fT ls L cl iv rv iv2 rv2) (hX : XT L cl ln L2 cl2 ln2) (he : rv3 = upr rv2 a k x) (ha : ty L2 cl2 a T) (hc : ls.contains T = true) : fT ls L cl iv rv iv2 rv3 := by
  intro b hb hq
  refine ⟨(h b hb hq).1, ?_⟩
  rw [he, upr_a (fun e => ?_)]
  · exact (h b hb hq).2
  · subst e; rw [← (hX b hb).2.1, ha.2, hc] at hq; cases hq
theorem fT.call {ls2 : List Nat} (h : fT ls L cl iv rv iv2 rv2) (hX : XT L cl ln L2 cl2 ln2) (h2 : fT ls2 L2 cl2 iv2 rv2 iv3 rv3) (hs : ls2.all (fun j => ls.contains j) = true) : fT ls L cl iv rv iv3 rv3 := by
  intro b hb hq
  have q2 := h2 b (hX b hb).1 (by rw [(hX b hb).2.1]; exact con_sub hs hq)
  exact ⟨q2.1.trans (h b hb hq).1, q2.2.trans (h b hb hq).2⟩
theorem fT.i (h : fT ls L cl iv rv iv2 rv2) (ha : ty L cl a T) (hc : ls.contains T = false) (k : Nat) : iv2 a k = iv a k := congrFun (h a ha.1 (by rw [ha.2]; exact hc)).1 k
theorem fT.r (h : fT ls L cl iv rv iv2 rv2) (ha : ty L cl a T) (hc : ls.contains T = false) (k : Nat) : rv2 a k = rv a k := congrFun (h a ha.1 (by rw [ha.2]; exact hc)).2 k
end XTS
def cap (g : Nat) (ln : Nat → Nat) (rv : Nat → Nat → Option Nat) (a : Nat) : Nat := match rv a 1 with
  | some b => if b = g then 0 else ln b
  | none => 0
def nn (f : Nat → Option Nat) : Nat → Nat
  | 0 => 0
  | n + 1 => nn f n + (if (f n).isSome = true then 1 else 0)
def Phi (g : Nat) (sk : Nat → Nat) : PF := fun ln rv => 3 * (cap g ln rv (sk 2) + cap g ln rv (sk 3) + cap g ln rv (sk 4) + cap g ln rv (sk 5) + cap g ln rv (sk 6) + cap g ln rv (sk 7) + cap g ln rv (sk 8) + cap g ln rv (sk 9) + cap g ln rv (sk 10) + cap g ln rv (sk 11)) + 8 * (cap g ln rv (sk 24) + cap g ln rv (sk 25)) + 240 * (nn (rv (sk 67)) 200 + nn (rv (sk 69)) 200)
abbrev PHM : Nat := 1110000
theorem nn_le (f : Nat → Option Nat) : ∀ n, nn f n ≤ n := by
  intro n
  induction n with
  | zero => exact Nat.le_refl _
  | succ n ih => unfold nn; split <;> omega
theorem cap_le {g : Nat} {sk : Nat → Nat} {L : List Nat} {cl ln : Nat → Nat} {iv : Nat → Nat → Int} {rv : Nat → Nat → Option Nat} {t m : Nat} (h : WT g sk L cl ln iv rv) (hS : SKL sk L cl) (hu : uq t = true) (hb : bt t = t) (hr : raw t = false) (ha : arr (tgt t 1) = true) (hl : lhi (tgt t 1) = m) : cap g ln rv (sk t) ≤ m := by
  obtain ⟨q1, q2⟩ := hS t hu
  unfold cap
  split
  · rename_i b e
    split
    · exact Nat.zero_le _
    · rename_i hg
      have w := (h.2.1 _ q1 1 (by rw [q2, hb]; exact hr)).2 b e
      rw [q2, hb] at w
      rcases w with w | w
      · have l2 := (h.len (T := tgt t 1) ⟨w.1, w.2.1⟩ ha).2
        rw [hl] at l2; exact l2
      · exact absurd w.1 hg
  · exact Nat.zero_le _
theorem Phi.le {g : Nat} {sk : Nat → Nat} {L : List Nat} {cl ln : Nat → Nat} {iv : Nat → Nat → Int} {rv : Nat → Nat → Option Nat} (h : WT g sk L cl ln iv rv) (hS : SKL sk L cl) : Phi g sk ln rv ≤ PHM := by
  refine hv14 (cap_le (t := 2) (m := 6000) h hS rfl rfl rfl rfl rfl) (cap_le (t := 3) (m := 1000) h hS rfl rfl rfl rfl rfl) (cap_le (t := 4) (m := 8000) h hS rfl rfl rfl rfl rfl) (cap_le (t := 5) (m := 400) h hS rfl rfl rfl rfl rfl) (cap_le (t := 6) (m := 12006) h hS rfl rfl rfl rfl rfl) (cap_le (t := 7) (m := 12006) h hS rfl rfl rfl rfl rfl) (cap_le (t := 8) (m := 80400) h hS rfl rfl rfl rfl rfl) (cap_le (t := 9) (m := 80400) h hS rfl rfl rfl rfl rfl) (cap_le (t := 10) (m := 8002) h hS rfl rfl rfl rfl rfl) (cap_le (t := 11) (m := 80000) h hS rfl rfl rfl rfl rfl) (cap_le (t := 24) (m := 9100) h hS rfl rfl rfl rfl rfl) (cap_le (t := 25) (m := 9100) h hS rfl rfl rfl rfl rfl) (nn_le (rv (sk 67)) 200) (nn_le (rv (sk 69)) 200) (fun c2 c3 c4 c5 c6 c7 c8 c9 c10 c11 c24 c25 n1 n2 => ?_)
  unfold Phi
  show _ ≤ 1110000
  omega
theorem Phi.congr {g : Nat} {sk : Nat → Nat} {ln ln2 : Nat → Nat} {rv rv2 : Nat → Nat → Option Nat} (h : ∀ t, uq t = true → pot (bt t) = true → rv2 (sk t) = rv (sk t)) (hl : ∀ t b, uq t = true → pot (bt t) = true → szd t = true → rv (sk t) 1 = some b → b ≠ g → ln2 b = ln b) : Phi g sk ln2 rv2 = Phi g sk ln rv := by
  have hc : ∀ t, uq t = true → pot (bt t) = true → szd t = true → cap g ln2 rv2 (sk t) = cap g ln rv (sk t) := by
    intro t ht hp hs
    unfold cap
    rw [h t ht hp]
    split
    · rename_i b e
      split
      · rfl
      · rename_i hg; exact hl t b ht hp hs e hg
    · rfl
  unfold Phi
  rw [hc 2 rfl rfl rfl, hc 3 rfl rfl rfl, hc 4 rfl rfl rfl, hc 5 rfl rfl rfl, hc 6 rfl rfl rfl, hc 7 rfl rfl rfl, hc 8 rfl rfl rfl, hc 9 rfl rfl rfl, hc 10 rfl rfl rfl, hc 11 rfl rfl rfl, hc 24 rfl rfl rfl, hc 25 rfl rfl rfl, h 67 rfl rfl, h 69 rfl rfl]
theorem Phi.putr {g : Nat} {sk : Nat → Nat} {L : List Nat} {cl ln : Nat → Nat} {rv rv2 : Nat → Nat → Option Nat} {a k T : Nat} {x : Option Nat} (hS : SKL sk L cl) (he : rv2 = upr rv a k x) (ha : ty L cl a T) (hp : pot T = false) : Phi g sk ln rv2 = Phi g sk ln rv := by
  refine Phi.congr (fun t ht hq => ?_) (fun _ _ _ _ _ _ _ => rfl)
  rw [he, upr_a (fun e => ?_)]
  rw [← ha.2, ← e, (hS t ht).2, hq] at hp; cases hp
end
section
section NEWS
variable {g : Nat} {sk : Nat → Nat} {L : List Nat} {cl ln cl2 ln2 : Nat → Nat} {iv iv2 : Nat → Nat → Int} {rv rv2 : Nat → Nat → Option Nat} {a b q t T k : Nat} {z : Int}
theorem rok.mono {L2 : List Nat} {x : Option Nat} (h : rok L cl g a k x) (hL : ∀ w ∈ L, w ∈ L2 ∧ cl2 w = cl w) (ha : cl2 a = cl a) : rok L2 cl2 g a k x := by
  intro hr
  rw [ha] at hr ⊢
  obtain ⟨h1, h2⟩ := h hr
  refine ⟨h1, fun b hb => ?_⟩
  rcases h2 b hb with w | w
  · refine Or.inl ⟨(hL b w.1).1, by rw [(hL b w.1).2]; exact w.2.1, ?_, ?_⟩
    · rw [ha, (hL b w.1).2]; exact w.2.2.1
    · rw [ha, (hL b w.1).2]; exact w.2.2.2
  · exact Or.inr w
theorem WT.ed (h : WT g sk L cl ln iv rv) (ha : a ∈ L) (hs : szd (bt (cl a)) = true) (hb : rv a 1 = some b) : b ∈ L ∨ b = g := by
  rcases (h.2.1 a ha 1 (by unfold raw; unfold szd lst at hs; simp at hs ⊢; omega)).2 b hb with w | w
  · exact Or.inl w.1
  · exact Or.inr w.1
theorem WT.new (h : WT g sk L cl ln iv rv) (hq : q ∉ L) (hg : q ≠ g) (hcl : cl2 = va_up cl q t) (hln : ∀ b, b ≠ q → ln2 b = ln b) (hiv : iv2 = up0 iv q 0) (hrv : rv2 = up0 rv q none) (hb : ∀ k, ilo (bt t) k ≤ 0 ∧ 0 ≤ ihi (bt t) k) (hn : raw (bt t) = true ∨ ∀ k, nul (bt t) k = true) (hlen : arr (bt t) = true → llo (bt t) ≤ ln2 q ∧ ln2 q ≤ lhi (bt t)) (hs : szd (bt t) = false) (hu : uq t = false) : WT g sk (L ++ [q]) cl2 ln2 iv2 rv2 := by
  subst hcl; subst hiv; subst hrv
  have hne : ∀ w, w ∈ L → w ≠ q := fun w hw e => hq (e ▸ hw)
  have hL : ∀ w ∈ L, w ∈ L ++ [q] ∧ va_up cl q t w = cl w := fun w hw => ⟨List.mem_append_left _ hw, va_up_ne _ _ (hne w hw)⟩
  have cas : ∀ w ∈ L ++ [q], w ∈ L ∨ w = q := fun w hw => by
    rcases List.mem_append.mp hw with e | e
    · exact Or.inl e
    · exact Or.inr (List.mem_singleton.mp e)
  obtain ⟨h1, h2, h3, h4, h5, h6, h7⟩ := id h
  refine ⟨fun w hw j => ?_, fun w hw j => ?_, fun w hw => ?_, fun w hw => ?_, fun w hw => ?_, fun w hw => ?_, fun hgm => ?_⟩
  · rcases cas w hw with e | e
    · rw [(hL w e).2, up0_a (hne w e)]; exact h1 w e j
    · subst e; rw [va_up_self, up0_s]; exact hb j
  · rcases cas w hw with e | e
    · rw [up0_a (hne w e)]; exact (h2 w e j).mono hL (hL w e).2
    · subst e
      rw [up0_s]
      intro hr
      rw [va_up_self] at hr ⊢
      refine ⟨fun _ => ?_, fun b hb => by cases hb⟩
      rcases hn with w | w
      · rw [hr] at w; cases w
      · exact w j
  · rcases cas w hw with e | e
    · rw [(hL w e).2, hln w (hne w e)]; exact h3 w e
    · subst e; rw [va_up_self]; exact hlen
  · rcases cas w hw with e | e
    · rw [(hL w e).2, up0_a (hne w e), up0_a (hne w e)]
      intro hz b hb
      rcases h4 w e hz b hb with q1 | q1
      · exact Or.inl q1
      · exact Or.inr ⟨List.mem_append_left _ q1.1, by rw [hln b (hne b q1.1)]; exact q1.2⟩
    · subst e; rw [va_up_self, hs]; intro hz; cases hz
  · rcases cas w hw with e | e
    · rw [(hL w e).2, up0_a (hne w e), up0_a (hne w e)]
      intro hz b hb i hi
      have hbq : b ≠ q := by
        rcases WT.ed h e (lst_szd hz) hb with q1 | q1
        · exact hne b q1
        · rw [q1]; exact hg.symm
      rw [up0_a hbq]
      exact h5 w e hz b hb i hi
    · subst e; rw [va_up_self]; intro hz; rw [lst_szd hz] at hs; cases hs
  · rcases cas w hw with e | e
    · rw [(hL w e).2]; exact h6 w e
    · subst e; rw [va_up_self, hu]; intro hz; cases hz
  · rcases cas g hgm with e | e
    · exact h7 e
    · exact hg e.symm
theorem XT.new (hq : q ∉ L) (hcl : cl2 = va_up cl q t) (hln : ∀ b, b ≠ q → ln2 b = ln b) : XT L cl ln (L ++ [q]) cl2 ln2 := fun a ha => ⟨List.mem_append_left _ ha, by rw [hcl]; exact va_up_ne _ _ (fun e => hq (e ▸ ha)), hln a (fun e => hq (e ▸ ha))⟩
theorem ty_new (hcl : cl2 = va_up cl q t) : ty (L ++ [q]) cl2 q (bt t) := ⟨List.mem_append_right _ List.mem_cons_self, by rw [hcl, va_up_self]⟩
theorem fT.new {ls L0 : List Nat} {cl0 ln0 : Nat → Nat} {iv0 iv3 : Nat → Nat → Int} {rv0 rv3 : Nat → Nat → Option Nat} (h : fT ls L0 cl0 iv0 rv0 iv rv) (hX : XT L0 cl0 ln0 L cl ln) (hq : q ∉ L) (hiv : iv3 = up0 iv q 0) (hrv : rv3 = up0 rv q none) : fT ls L0 cl0 iv0 rv0 iv3 rv3 := by
  intro b hb hl
  have hne : b ≠ q := fun e => hq (e ▸ (hX b hb).1)
  rw [hiv, hrv, up0_a hne, up0_a hne]
  exact h b hb hl
theorem Phi.new (h : WT g sk L cl ln iv rv) (hS : SKL sk L cl) (hq : q ∉ L) (hln : ∀ b, b ≠ q → ln2 b = ln b) (hrv : rv2 = up0 rv q none) : Phi g sk ln2 rv2 = Phi g sk ln rv := by
  have hne : ∀ t, uq t = true → sk t ≠ q := fun t ht e => hq (e ▸ (hS t ht).1)
  refine Phi.congr (fun t ht hp => ?_) (fun t b ht hp hs hb hg => ?_)
  · rw [hrv, up0_a (hne t ht)]
  · refine hln b (fun e => ?_)
    rcases WT.ed h (hS t ht).1 (by
      rw [(hS t ht).2]
      unfold szd lst at hs ⊢
      simp at hs ⊢
      unfold bt
      split <;> (try split) <;> (try split) <;> omega) hb with q1 | q1
    · exact hq (e ▸ q1)
    · exact hg q1
theorem WT.retag (h : WT g sk L cl ln iv rv) (hq : q ∈ L) (hraw : raw (bt (cl q)) = true) (hcl : cl2 = va_up cl q t) (hb : ∀ k, ilo (bt t) k ≤ iv q k ∧ iv q k ≤ ihi (bt t) k) (hr : ∀ k, rok L cl2 g q k (rv q k)) (ha : arr (bt t) = false) (hs : szd (bt t) = true → ∀ b, rv q 1 = some b → (b = g ∧ iv q 2 = 0) ∨ (b ∈ L ∧ iv q 2 ≤ ((ln b : Nat) : Int))) (hl : lst (bt t) = true → ∀ b, rv q 1 = some b → ∀ i : Nat, (i : Int) < iv q 2 → rv b i ≠ none) (hu : uq t = false) : WT g sk L cl2 ln iv rv := by
  subst hcl
  have ho : ∀ w, w ≠ q → va_up cl q t w = cl w := fun w hw => va_up_ne _ _ hw
  obtain ⟨h1, h2, h3, h4, h5, h6, h7⟩ := id h
  have tg0 : ∀ T k, raw (tgt T k) = false := by
    intro T k
    unfold tgt raw
    split <;> (try split) <;> rfl
  refine ⟨fun w hw j => ?_, fun w hw j => ?_, fun w hw => ?_, fun w hw => ?_, fun w hw => ?_, fun w hw => ?_, h7⟩
  · by_cases e : w = q
    · subst e; rw [va_up_self]; exact hb j
    · rw [ho w e]; exact h1 w hw j
  · by_cases e : w = q
    · subst e; exact hr j
    · intro hrw
      rw [ho w e] at hrw ⊢
      obtain ⟨g1, g2⟩ := h2 w hw j hrw
      refine ⟨g1, fun b hb => ?_⟩
      rcases g2 b hb with c1 | c1
      · have hbq : b ≠ q := fun e2 => by rw [← e2, c1.2.1, tg0] at hraw; cases hraw
        refine Or.inl ⟨c1.1, by rw [ho b hbq]; exact c1.2.1, ?_, ?_⟩
        · rw [ho w e, ho b hbq]; exact c1.2.2.1
        · rw [ho w e, ho b hbq]; exact c1.2.2.2
      · exact Or.inr c1
  · by_cases e : w = q
    · subst e; rw [va_up_self, ha]; intro z; cases z
    · rw [ho w e]; exact h3 w hw
  · by_cases e : w = q
    · subst e; rw [va_up_self]; exact hs
    · rw [ho w e]; exact h4 w hw
  · by_cases e : w = q
    · subst e; rw [va_up_self]; exact hl
    · rw [ho w e]; exact h5 w hw
  · by_cases e : w = q
    · subst e; rw [va_up_self, hu]; intro z; cases z
    · rw [ho w e]; exact h6 w hw
theorem WT.putit (h : WT g sk L cl ln iv rv) (he : rv2 = upr rv a 1 (some b)) (ha : ty L cl a T) (hT : szd T = true) (hl : lst T = false) (hb : ty L cl b (tgt T 1)) (hs : iv a 2 ≤ ((ln b : Nat) : Int)) : WT g sk L cl ln iv rv2 := by
  subst he
  obtain ⟨h1, h2, h3, h4, h5, h6, h7⟩ := id h
  refine ⟨h1, fun w hw j => ?_, h3, fun w hw hz => ?_, fun w hw hz c hc i hi => ?_, h6, h7⟩
  · by_cases e : w = a
    · subst e
      by_cases ej : j = 1
      · subst ej
        rw [upr_s]
        intro hr
        refine ⟨(fun q => by cases q), fun c hc => ?_⟩
        cases hc
        refine Or.inl ⟨hb.1, by rw [hb.2, ha.2], ?_, ?_⟩
        · intro q; rw [ha.2] at q; subst q; cases hT
        · intro q; rw [ha.2, hl] at q; cases q
      · rw [upr_j ej]; exact h2 w hw j
    · rw [upr_a e]; exact h2 w hw j
  · by_cases e : w = a
    · subst e
      intro c hc
      rw [upr_s] at hc; cases hc
      exact Or.inr ⟨hb.1, hs⟩
    · rw [upr_a e]; exact h4 w hw hz
  · have e : w ≠ a := fun e => by subst e; rw [ha.2, hl] at hz; cases hz
    rw [upr_a e] at hc
    have hca : c ≠ a := by
      intro e2
      subst e2
      rcases (h2 w hw 1 (by unfold raw; unfold lst at hz; simp at hz ⊢; omega)).2 c hc with q | q
      · rw [ha.2, tgt_list hz] at q; unfold szd lst at hT; simp at hT; omega
      · exact h7 (q.1 ▸ ha.1)
    rw [upr_a hca]
    exact h5 w hw hz c hc i hi
theorem cap_up {x : Nat} (hx : x ≠ a) : cap g ln (upr rv a k (some b)) x = cap g ln rv x := by unfold cap; rw [upr_a hx]
theorem cap_s (hg : b ≠ g) : cap g ln (upr rv a 1 (some b)) a = ln b := by unfold cap; rw [upr_s]; show (if b = g then 0 else ln b) = ln b; rw [if_neg hg]
theorem cap_of (h : rv a 1 = some b) (hg : b ≠ g) : cap g ln rv a = ln b := by unfold cap; rw [h]; show (if b = g then 0 else ln b) = ln b; rw [if_neg hg]
theorem cap_g (h : rv a 1 = some g) : cap g ln rv a = 0 := by unfold cap; rw [h]; show (if g = g then 0 else ln g) = 0; rw [if_pos rfl]
theorem sk_ne (hS : SKL sk L cl) {t u : Nat} (ht : uq t = true) (hu : uq u = true) (h : t ≠ u) : sk t ≠ sk u := fun e => h (by rw [← (hS t ht).2, ← (hS u hu).2, e])
theorem Phi.grow (hS : SKL sk L cl) (he : rv2 = upr rv (sk t) 1 (some b)) (hg : b ≠ g) (ht : (2 ≤ t ∧ t ≤ 11) ∨ t = 24 ∨ t = 25) : Phi g sk ln rv2 + (if t < 20 then 3 else 8) * cap g ln rv (sk t) = Phi g sk ln rv + (if t < 20 then 3 else 8) * ln b := by
  subst he
  have : t = 2 ∨ t = 3 ∨ t = 4 ∨ t = 5 ∨ t = 6 ∨ t = 7 ∨ t = 8 ∨ t = 9 ∨ t = 10 ∨ t = 11 ∨ t = 24 ∨ t = 25 := by omega
  rcases this with rfl | rfl | rfl | rfl | rfl | rfl | rfl | rfl | rfl | rfl | rfl | rfl
  · have e1 := cap_s (g := g) (ln := ln) (rv := rv) (a := sk 2) hg
    refine hv13 (cap_up (g := g) (ln := ln) (rv := rv) (a := sk 2) (k := 1) (b := b) (sk_ne hS (t := 3) (u := 2) rfl rfl (by decide))) (cap_up (g := g) (ln := ln) (rv := rv) (a := sk 2) (k := 1) (b := b) (sk_ne hS (t := 4) (u := 2) rfl rfl (by decide))) (cap_up (g := g) (ln := ln) (rv := rv) (a := sk 2) (k := 1) (b := b) (sk_ne hS (t := 5) (u := 2) rfl rfl (by decide))) (cap_up (g := g) (ln := ln) (rv := rv) (a := sk 2) (k := 1) (b := b) (sk_ne hS (t := 6) (u := 2) rfl rfl (by decide))) (cap_up (g := g) (ln := ln) (rv := rv) (a := sk 2) (k := 1) (b := b) (sk_ne hS (t := 7) (u := 2) rfl rfl (by decide))) (cap_up (g := g) (ln := ln) (rv := rv) (a := sk 2) (k := 1) (b := b) (sk_ne hS (t := 8) (u := 2) rfl rfl (by decide))) (cap_up (g := g) (ln := ln) (rv := rv) (a := sk 2) (k := 1) (b := b) (sk_ne hS (t := 9) (u := 2) rfl rfl (by decide))) (cap_up (g := g) (ln := ln) (rv := rv) (a := sk 2) (k := 1) (b := b) (sk_ne hS (t := 10) (u := 2) rfl rfl (by decide))) (cap_up (g := g) (ln := ln) (rv := rv) (a := sk 2) (k := 1) (b := b) (sk_ne hS (t := 11) (u := 2) rfl rfl (by decide))) (cap_up (g := g) (ln := ln) (rv := rv) (a := sk 2) (k := 1) (b := b) (sk_ne hS (t := 24) (u := 2) rfl rfl (by decide))) (cap_up (g := g) (ln := ln) (rv := rv) (a := sk 2) (k := 1) (b := b) (sk_ne hS (t := 25) (u := 2) rfl rfl (by decide))) (show upr rv (sk 2) 1 (some b) (sk 67) = rv (sk 67) from upr_a (sk_ne hS (t := 67) (u := 2) rfl rfl (by decide))) (show upr rv (sk 2) 1 (some b) (sk 69) = rv (sk 69) from upr_a (sk_ne hS (t := 69) (u := 2) rfl rfl (by decide))) (fun c3 c4 c5 c6 c7 c8 c9 c10 c11 c24 c25 r1 r2 => ?_)
    unfold Phi
    rw [e1, c3, c4, c5, c6, c7, c8, c9, c10, c11, c24, c25, r1, r2]
    show _ + 3 * _ = _ + 3 * _
    omega
  · have e1 := cap_s (g := g) (ln := ln) (rv := rv) (a := sk 3) hg
    refine hv13 (cap_up (g := g) (ln := ln) (rv := rv) (a := sk 3) (k := 1) (b := b) (sk_ne hS (t := 2) (u := 3) rfl rfl (by decide))) (cap_up (g := g) (ln := ln) (rv := rv) (a := sk 3) (k := 1) (b := b) (sk_ne hS (t := 4) (u := 3) rfl rfl (by decide))) (cap_up (g := g) (ln := ln) (rv := rv) (a := sk 3) (k := 1) (b := b) (sk_ne hS (t := 5) (u := 3) rfl rfl (by decide))) (cap_up (g := g) (ln := ln) (rv := rv) (a := sk 3) (k := 1) (b := b) (sk_ne hS (t := 6) (u := 3) rfl rfl (by decide))) (cap_up (g := g) (ln := ln) (rv := rv) (a := sk 3) (k := 1) (b := b) (sk_ne hS (t := 7) (u := 3) rfl rfl (by decide))) (cap_up (g := g) (ln := ln) (rv := rv) (a := sk 3) (k := 1) (b := b) (sk_ne hS (t := 8) (u := 3) rfl rfl (by decide))) (cap_up (g := g) (ln := ln) (rv := rv) (a := sk 3) (k := 1) (b := b) (sk_ne hS (t := 9) (u := 3) rfl rfl (by decide))) (cap_up (g := g) (ln := ln) (rv := rv) (a := sk 3) (k := 1) (b := b) (sk_ne hS (t := 10) (u := 3) rfl rfl (by decide))) (cap_up (g := g) (ln := ln) (rv := rv) (a := sk 3) (k := 1) (b := b) (sk_ne hS (t := 11) (u := 3) rfl rfl (by decide))) (cap_up (g := g) (ln := ln) (rv := rv) (a := sk 3) (k := 1) (b := b) (sk_ne hS (t := 24) (u := 3) rfl rfl (by decide))) (cap_up (g := g) (ln := ln) (rv := rv) (a := sk 3) (k := 1) (b := b) (sk_ne hS (t := 25) (u := 3) rfl rfl (by decide))) (show upr rv (sk 3) 1 (some b) (sk 67) = rv (sk 67) from upr_a (sk_ne hS (t := 67) (u := 3) rfl rfl (by decide))) (show upr rv (sk 3) 1 (some b) (sk 69) = rv (sk 69) from upr_a (sk_ne hS (t := 69) (u := 3) rfl rfl (by decide))) (fun c2 c4 c5 c6 c7 c8 c9 c10 c11 c24 c25 r1 r2 => ?_)
    unfold Phi
    rw [e1, c2, c4, c5, c6, c7, c8, c9, c10, c11, c24, c25, r1, r2]
    show _ + 3 * _ = _ + 3 * _
    omega
  · have e1 := cap_s (g := g) (ln := ln) (rv := rv) (a := sk 4) hg
    refine hv13 (cap_up (g := g) (ln := ln) (rv := rv) (a := sk 4) (k := 1) (b := b) (sk_ne hS (t := 2) (u := 4) rfl rfl (by decide))) (cap_up (g := g) (ln := ln) (rv := rv) (a := sk 4) (k := 1) (b := b) (sk_ne hS (t := 3) (u := 4) rfl rfl (by decide))) (cap_up (g := g) (ln := ln) (rv := rv) (a := sk 4) (k := 1) (b := b) (sk_ne hS (t := 5) (u := 4) rfl rfl (by decide))) (cap_up (g := g) (ln := ln) (rv := rv) (a := sk 4) (k := 1) (b := b) (sk_ne hS (t := 6) (u := 4) rfl rfl (by decide))) (cap_up (g := g) (ln := ln) (rv := rv) (a := sk 4) (k := 1) (b := b) (sk_ne hS (t := 7) (u := 4) rfl rfl (by decide))) (cap_up (g := g) (ln := ln) (rv := rv) (a := sk 4) (k := 1) (b := b) (sk_ne hS (t := 8) (u := 4) rfl rfl (by decide))) (cap_up (g := g) (ln := ln) (rv := rv) (a := sk 4) (k := 1) (b := b) (sk_ne hS (t := 9) (u := 4) rfl rfl (by decide))) (cap_up (g := g) (ln := ln) (rv := rv) (a := sk 4) (k := 1) (b := b) (sk_ne hS (t := 10) (u := 4) rfl rfl (by decide))) (cap_up (g := g) (ln := ln) (rv := rv) (a := sk 4) (k := 1) (b := b) (sk_ne hS (t := 11) (u := 4) rfl rfl (by decide))) (cap_up (g := g) (ln := ln) (rv := rv) (a := sk 4) (k := 1) (b := b) (sk_ne hS (t := 24) (u := 4) rfl rfl (by decide))) (cap_up (g := g) (ln := ln) (rv := rv) (a := sk 4) (k := 1) (b := b) (sk_ne hS (t := 25) (u := 4) rfl rfl (by decide))) (show upr rv (sk 4) 1 (some b) (sk 67) = rv (sk 67) from upr_a (sk_ne hS (t := 67) (u := 4) rfl rfl (by decide))) (show upr rv (sk 4) 1 (some b) (sk 69) = rv (sk 69) from upr_a (sk_ne hS (t := 69) (u := 4) rfl rfl (by decide))) (fun c2 c3 c5 c6 c7 c8 c9 c10 c11 c24 c25 r1 r2 => ?_)
    unfold Phi
    rw [e1, c2, c3, c5, c6, c7, c8, c9, c10, c11, c24, c25, r1, r2]
    show _ + 3 * _ = _ + 3 * _
    omega
  · have e1 := cap_s (g := g) (ln := ln) (rv := rv) (a := sk 5) hg
    refine hv13 (cap_up (g := g) (ln := ln) (rv := rv) (a := sk 5) (k := 1) (b := b) (sk_ne hS (t := 2) (u := 5) rfl rfl (by decide))) (cap_up (g := g) (ln := ln) (rv := rv) (a := sk 5) (k := 1) (b := b) (sk_ne hS (t := 3) (u := 5) rfl rfl (by decide))) (cap_up (g := g) (ln := ln) (rv := rv) (a := sk 5) (k := 1) (b := b) (sk_ne hS (t := 4) (u := 5) rfl rfl (by decide))) (cap_up (g := g) (ln := ln) (rv := rv) (a := sk 5) (k := 1) (b := b) (sk_ne hS (t := 6) (u := 5) rfl rfl (by decide))) (cap_up (g := g) (ln := ln) (rv := rv) (a := sk 5) (k := 1) (b := b) (sk_ne hS (t := 7) (u := 5) rfl rfl (by decide))) (cap_up (g := g) (ln := ln) (rv := rv) (a := sk 5) (k := 1) (b := b) (sk_ne hS (t := 8) (u := 5) rfl rfl (by decide))) (cap_up (g := g) (ln := ln) (rv := rv) (a := sk 5) (k := 1) (b := b) (sk_ne hS (t := 9) (u := 5) rfl rfl (by decide))) (cap_up (g := g) (ln := ln) (rv := rv) (a := sk 5) (k := 1) (b := b) (sk_ne hS (t := 10) (u := 5) rfl rfl (by decide))) (cap_up (g := g) (ln := ln) (rv := rv) (a := sk 5) (k := 1) (b := b) (sk_ne hS (t := 11) (u := 5) rfl rfl (by decide))) (cap_up (g := g) (ln := ln) (rv := rv) (a := sk 5) (k := 1) (b := b) (sk_ne hS (t := 24) (u := 5) rfl rfl (by decide))) (cap_up (g := g) (ln := ln) (rv := rv) (a := sk 5) (k := 1) (b := b) (sk_ne hS (t := 25) (u := 5) rfl rfl (by decide))) (show upr rv (sk 5) 1 (some b) (sk 67) = rv (sk 67) from upr_a (sk_ne hS (t := 67) (u := 5) rfl rfl (by decide))) (show upr rv (sk 5) 1 (some b) (sk 69) = rv (sk 69) from upr_a (sk_ne hS (t := 69) (u := 5) rfl rfl (by decide))) (fun c2 c3 c4 c6 c7 c8 c9 c10 c11 c24 c25 r1 r2 => ?_)
    unfold Phi
    rw [e1, c2, c3, c4, c6, c7, c8, c9, c10, c11, c24, c25, r1, r2]
    show _ + 3 * _ = _ + 3 * _
    omega
  · have e1 := cap_s (g := g) (ln := ln) (rv := rv) (a := sk 6) hg
    refine hv13 (cap_up (g := g) (ln := ln) (rv := rv) (a := sk 6) (k := 1) (b := b) (sk_ne hS (t := 2) (u := 6) rfl rfl (by decide))) (cap_up (g := g) (ln := ln) (rv := rv) (a := sk 6) (k := 1) (b := b) (sk_ne hS (t := 3) (u := 6) rfl rfl (by decide))) (cap_up (g := g) (ln := ln) (rv := rv) (a := sk 6) (k := 1) (b := b) (sk_ne hS (t := 4) (u := 6) rfl rfl (by decide))) (cap_up (g := g) (ln := ln) (rv := rv) (a := sk 6) (k := 1) (b := b) (sk_ne hS (t := 5) (u := 6) rfl rfl (by decide))) (cap_up (g := g) (ln := ln) (rv := rv) (a := sk 6) (k := 1) (b := b) (sk_ne hS (t := 7) (u := 6) rfl rfl (by decide))) (cap_up (g := g) (ln := ln) (rv := rv) (a := sk 6) (k := 1) (b := b) (sk_ne hS (t := 8) (u := 6) rfl rfl (by decide))) (cap_up (g := g) (ln := ln) (rv := rv) (a := sk 6) (k := 1) (b := b) (sk_ne hS (t := 9) (u := 6) rfl rfl (by decide))) (cap_up (g := g) (ln := ln) (rv := rv) (a := sk 6) (k := 1) (b := b) (sk_ne hS (t := 10) (u := 6) rfl rfl (by decide))) (cap_up (g := g) (ln := ln) (rv := rv) (a := sk 6) (k := 1) (b := b) (sk_ne hS (t := 11) (u := 6) rfl rfl (by decide))) (cap_up (g := g) (ln := ln) (rv := rv) (a := sk 6) (k := 1) (b := b) (sk_ne hS (t := 24) (u := 6) rfl rfl (by decide))) (cap_up (g := g) (ln := ln) (rv := rv) (a := sk 6) (k := 1) (b := b) (sk_ne hS (t := 25) (u := 6) rfl rfl (by decide))) (show upr rv (sk 6) 1 (some b) (sk 67) = rv (sk 67) from upr_a (sk_ne hS (t := 67) (u := 6) rfl rfl (by decide))) (show upr rv (sk 6) 1 (some b) (sk 69) = rv (sk 69) from upr_a (sk_ne hS (t := 69) (u := 6) rfl rfl (by decide))) (fun c2 c3 c4 c5 c7 c8 c9 c10 c11 c24 c25 r1 r2 => ?_)
    unfold Phi
    rw [e1, c2, c3, c4, c5, c7, c8, c9, c10, c11, c24, c25, r1, r2]
    show _ + 3 * _ = _ + 3 * _
    omega
  · have e1 := cap_s (g := g) (ln := ln) (rv := rv) (a := sk 7) hg
    refine hv13 (cap_up (g := g) (ln := ln) (rv := rv) (a := sk 7) (k := 1) (b := b) (sk_ne hS (t := 2) (u := 7) rfl rfl (by decide))) (cap_up (g := g) (ln := ln) (rv := rv) (a := sk 7) (k := 1) (b := b) (sk_ne hS (t := 3) (u := 7) rfl rfl (by decide))) (cap_up (g := g) (ln := ln) (rv := rv) (a := sk 7) (k := 1) (b := b) (sk_ne hS (t := 4) (u := 7) rfl rfl (by decide))) (cap_up (g := g) (ln := ln) (rv := rv) (a := sk 7) (k := 1) (b := b) (sk_ne hS (t := 5) (u := 7) rfl rfl (by decide))) (cap_up (g := g) (ln := ln) (rv := rv) (a := sk 7) (k := 1) (b := b) (sk_ne hS (t := 6) (u := 7) rfl rfl (by decide))) (cap_up (g := g) (ln := ln) (rv := rv) (a := sk 7) (k := 1) (b := b) (sk_ne hS (t := 8) (u := 7) rfl rfl (by decide))) (cap_up (g := g) (ln := ln) (rv := rv) (a := sk 7) (k := 1) (b := b) (sk_ne hS (t := 9) (u := 7) rfl rfl (by decide))) (cap_up (g := g) (ln := ln) (rv := rv) (a := sk 7) (k := 1) (b := b) (sk_ne hS (t := 10) (u := 7) rfl rfl (by decide))) (cap_up (g := g) (ln := ln) (rv := rv) (a := sk 7) (k := 1) (b := b) (sk_ne hS (t := 11) (u := 7) rfl rfl (by decide))) (cap_up (g := g) (ln := ln) (rv := rv) (a := sk 7) (k := 1) (b := b) (sk_ne hS (t := 24) (u := 7) rfl rfl (by decide))) (cap_up (g := g) (ln := ln) (rv := rv) (a := sk 7) (k := 1) (b := b) (sk_ne hS (t := 25) (u := 7) rfl rfl (by decide))) (show upr rv (sk 7) 1 (some b) (sk 67) = rv (sk 67) from upr_a (sk_ne hS (t := 67) (u := 7) rfl rfl (by decide))) (show upr rv (sk 7) 1 (some b) (sk 69) = rv (sk 69) from upr_a (sk_ne hS (t := 69) (u := 7) rfl rfl (by decide))) (fun c2 c3 c4 c5 c6 c8 c9 c10 c11 c24 c25 r1 r2 => ?_)
    unfold Phi
    rw [e1, c2, c3, c4, c5, c6, c8, c9, c10, c11, c24, c25, r1, r2]
    show _ + 3 * _ = _ + 3 * _
    omega
  · have e1 := cap_s (g := g) (ln := ln) (rv := rv) (a := sk 8) hg
    refine hv13 (cap_up (g := g) (ln := ln) (rv := rv) (a := sk 8) (k := 1) (b := b) (sk_ne hS (t := 2) (u := 8) rfl rfl (by decide))) (cap_up (g := g) (ln := ln) (rv := rv) (a := sk 8) (k := 1) (b := b) (sk_ne hS (t := 3) (u := 8) rfl rfl (by decide))) (cap_up (g := g) (ln := ln) (rv := rv) (a := sk 8) (k := 1) (b := b) (sk_ne hS (t := 4) (u := 8) rfl rfl (by decide))) (cap_up (g := g) (ln := ln) (rv := rv) (a := sk 8) (k := 1) (b := b) (sk_ne hS (t := 5) (u := 8) rfl rfl (by decide))) (cap_up (g := g) (ln := ln) (rv := rv) (a := sk 8) (k := 1) (b := b) (sk_ne hS (t := 6) (u := 8) rfl rfl (by decide))) (cap_up (g := g) (ln := ln) (rv := rv) (a := sk 8) (k := 1) (b := b) (sk_ne hS (t := 7) (u := 8) rfl rfl (by decide))) (cap_up (g := g) (ln := ln) (rv := rv) (a := sk 8) (k := 1) (b := b) (sk_ne hS (t := 9) (u := 8) rfl rfl (by decide))) (cap_up (g := g) (ln := ln) (rv := rv) (a := sk 8) (k := 1) (b := b) (sk_ne hS (t := 10) (u := 8) rfl rfl (by decide))) (cap_up (g := g) (ln := ln) (rv := rv) (a := sk 8) (k := 1) (b := b) (sk_ne hS (t := 11) (u := 8) rfl rfl (by decide))) (cap_up (g := g) (ln := ln) (rv := rv) (a := sk 8) (k := 1) (b := b) (sk_ne hS (t := 24) (u := 8) rfl rfl (by decide))) (cap_up (g := g) (ln := ln) (rv := rv) (a := sk 8) (k := 1) (b := b) (sk_ne hS (t := 25) (u := 8) rfl rfl (by decide))) (show upr rv (sk 8) 1 (some b) (sk 67) = rv (sk 67) from upr_a (sk_ne hS (t := 67) (u := 8) rfl rfl (by decide))) (show upr rv (sk 8) 1 (some b) (sk 69) = rv (sk 69) from upr_a (sk_ne hS (t := 69) (u := 8) rfl rfl (by decide))) (fun c2 c3 c4 c5 c6 c7 c9 c10 c11 c24 c25 r1 r2 => ?_)
    unfold Phi
    rw [e1, c2, c3, c4, c5, c6, c7, c9, c10, c11, c24, c25, r1, r2]
    show _ + 3 * _ = _ + 3 * _
    omega
  · have e1 := cap_s (g := g) (ln := ln) (rv := rv) (a := sk 9) hg
    refine hv13 (cap_up (g := g) (ln := ln) (rv := rv) (a := sk 9) (k := 1) (b := b) (sk_ne hS (t := 2) (u := 9) rfl rfl (by decide))) (cap_up (g := g) (ln := ln) (rv := rv) (a := sk 9) (k := 1) (b := b) (sk_ne hS (t := 3) (u := 9) rfl rfl (by decide))) (cap_up (g := g) (ln := ln) (rv := rv) (a := sk 9) (k := 1) (b := b) (sk_ne hS (t := 4) (u := 9) rfl rfl (by decide))) (cap_up (g := g) (ln := ln) (rv := rv) (a := sk 9) (k := 1) (b := b) (sk_ne hS (t := 5) (u := 9) rfl rfl (by decide))) (cap_up (g := g) (ln := ln) (rv := rv) (a := sk 9) (k := 1) (b := b) (sk_ne hS (t := 6) (u := 9) rfl rfl (by decide))) (cap_up (g := g) (ln := ln) (rv := rv) (a := sk 9) (k := 1) (b := b) (sk_ne hS (t := 7) (u := 9) rfl rfl (by decide))) (cap_up (g := g) (ln := ln) (rv := rv) (a := sk 9) (k := 1) (b := b) (sk_ne hS (t := 8) (u := 9) rfl rfl (by decide))) (cap_up (g := g) (ln := ln) (rv := rv) (a := sk 9) (k := 1) (b := b) (sk_ne hS (t := 10) (u := 9) rfl rfl (by decide))) (cap_up (g := g) (ln := ln) (rv := rv) (a := sk 9) (k := 1) (b := b) (sk_ne hS (t := 11) (u := 9) rfl rfl (by decide))) (cap_up (g := g) (ln := ln) (rv := rv) (a := sk 9) (k := 1) (b := b) (sk_ne hS (t := 24) (u := 9) rfl rfl (by decide))) (cap_up (g := g) (ln := ln) (rv := rv) (a := sk 9) (k := 1) (b := b) (sk_ne hS (t := 25) (u := 9) rfl rfl (by decide))) (show upr rv (sk 9) 1 (some b) (sk 67) = rv (sk 67) from upr_a (sk_ne hS (t := 67) (u := 9) rfl rfl (by decide))) (show upr rv (sk 9) 1 (some b) (sk 69) = rv (sk 69) from upr_a (sk_ne hS (t := 69) (u := 9) rfl rfl (by decide))) (fun c2 c3 c4 c5 c6 c7 c8 c10 c11 c24 c25 r1 r2 => ?_)
    unfold Phi
    rw [e1, c2, c3, c4, c5, c6, c7, c8, c10, c11, c24, c25, r1, r2]
    show _ + 3 * _ = _ + 3 * _
    omega
  · have e1 := cap_s (g := g) (ln := ln) (rv := rv) (a := sk 10) hg
    refine hv13 (cap_up (g := g) (ln := ln) (rv := rv) (a := sk 10) (k := 1) (b := b) (sk_ne hS (t := 2) (u := 10) rfl rfl (by decide))) (cap_up (g := g) (ln := ln) (rv := rv) (a := sk 10) (k := 1) (b := b) (sk_ne hS (t := 3) (u := 10) rfl rfl (by decide))) (cap_up (g := g) (ln := ln) (rv := rv) (a := sk 10) (k := 1) (b := b) (sk_ne hS (t := 4) (u := 10) rfl rfl (by decide))) (cap_up (g := g) (ln := ln) (rv := rv) (a := sk 10) (k := 1) (b := b) (sk_ne hS (t := 5) (u := 10) rfl rfl (by decide))) (cap_up (g := g) (ln := ln) (rv := rv) (a := sk 10) (k := 1) (b := b) (sk_ne hS (t := 6) (u := 10) rfl rfl (by decide))) (cap_up (g := g) (ln := ln) (rv := rv) (a := sk 10) (k := 1) (b := b) (sk_ne hS (t := 7) (u := 10) rfl rfl (by decide))) (cap_up (g := g) (ln := ln) (rv := rv) (a := sk 10) (k := 1) (b := b) (sk_ne hS (t := 8) (u := 10) rfl rfl (by decide))) (cap_up (g := g) (ln := ln) (rv := rv) (a := sk 10) (k := 1) (b := b) (sk_ne hS (t := 9) (u := 10) rfl rfl (by decide))) (cap_up (g := g) (ln := ln) (rv := rv) (a := sk 10) (k := 1) (b := b) (sk_ne hS (t := 11) (u := 10) rfl rfl (by decide))) (cap_up (g := g) (ln := ln) (rv := rv) (a := sk 10) (k := 1) (b := b) (sk_ne hS (t := 24) (u := 10) rfl rfl (by decide))) (cap_up (g := g) (ln := ln) (rv := rv) (a := sk 10) (k := 1) (b := b) (sk_ne hS (t := 25) (u := 10) rfl rfl (by decide))) (show upr rv (sk 10) 1 (some b) (sk 67) = rv (sk 67) from upr_a (sk_ne hS (t := 67) (u := 10) rfl rfl (by decide))) (show upr rv (sk 10) 1 (some b) (sk 69) = rv (sk 69) from upr_a (sk_ne hS (t := 69) (u := 10) rfl rfl (by decide))) (fun c2 c3 c4 c5 c6 c7 c8 c9 c11 c24 c25 r1 r2 => ?_)
    unfold Phi
    rw [e1, c2, c3, c4, c5, c6, c7, c8, c9, c11, c24, c25, r1, r2]
    show _ + 3 * _ = _ + 3 * _
    omega
  · have e1 := cap_s (g := g) (ln := ln) (rv := rv) (a := sk 11) hg
    refine hv13 (cap_up (g := g) (ln := ln) (rv := rv) (a := sk 11) (k := 1) (b := b) (sk_ne hS (t := 2) (u := 11) rfl rfl (by decide))) (cap_up (g := g) (ln := ln) (rv := rv) (a := sk 11) (k := 1) (b := b) (sk_ne hS (t := 3) (u := 11) rfl rfl (by decide))) (cap_up (g := g) (ln := ln) (rv := rv) (a := sk 11) (k := 1) (b := b) (sk_ne hS (t := 4) (u := 11) rfl rfl (by decide))) (cap_up (g := g) (ln := ln) (rv := rv) (a := sk 11) (k := 1) (b := b) (sk_ne hS (t := 5) (u := 11) rfl rfl (by decide))) (cap_up (g := g) (ln := ln) (rv := rv) (a := sk 11) (k := 1) (b := b) (sk_ne hS (t := 6) (u := 11) rfl rfl (by decide))) (cap_up (g := g) (ln := ln) (rv := rv) (a := sk 11) (k := 1) (b := b) (sk_ne hS (t := 7) (u := 11) rfl rfl (by decide))) (cap_up (g := g) (ln := ln) (rv := rv) (a := sk 11) (k := 1) (b := b) (sk_ne hS (t := 8) (u := 11) rfl rfl (by decide))) (cap_up (g := g) (ln := ln) (rv := rv) (a := sk 11) (k := 1) (b := b) (sk_ne hS (t := 9) (u := 11) rfl rfl (by decide))) (cap_up (g := g) (ln := ln) (rv := rv) (a := sk 11) (k := 1) (b := b) (sk_ne hS (t := 10) (u := 11) rfl rfl (by decide))) (cap_up (g := g) (ln := ln) (rv := rv) (a := sk 11) (k := 1) (b := b) (sk_ne hS (t := 24) (u := 11) rfl rfl (by decide))) (cap_up (g := g) (ln := ln) (rv := rv) (a := sk 11) (k := 1) (b := b) (sk_ne hS (t := 25) (u := 11) rfl rfl (by decide))) (show upr rv (sk 11) 1 (some b) (sk 67) = rv (sk 67) from upr_a (sk_ne hS (t := 67) (u := 11) rfl rfl (by decide))) (show upr rv (sk 11) 1 (some b) (sk 69) = rv (sk 69) from upr_a (sk_ne hS (t := 69) (u := 11) rfl rfl (by decide))) (fun c2 c3 c4 c5 c6 c7 c8 c9 c10 c24 c25 r1 r2 => ?_)
    unfold Phi
    rw [e1, c2, c3, c4, c5, c6, c7, c8, c9, c10, c24, c25, r1, r2]
    show _ + 3 * _ = _ + 3 * _
    omega
  · have e1 := cap_s (g := g) (ln := ln) (rv := rv) (a := sk 24) hg
    refine hv13 (cap_up (g := g) (ln := ln) (rv := rv) (a := sk 24) (k := 1) (b := b) (sk_ne hS (t := 2) (u := 24) rfl rfl (by decide))) (cap_up (g := g) (ln := ln) (rv := rv) (a := sk 24) (k := 1) (b := b) (sk_ne hS (t := 3) (u := 24) rfl rfl (by decide))) (cap_up (g := g) (ln := ln) (rv := rv) (a := sk 24) (k := 1) (b := b) (sk_ne hS (t := 4) (u := 24) rfl rfl (by decide))) (cap_up (g := g) (ln := ln) (rv := rv) (a := sk 24) (k := 1) (b := b) (sk_ne hS (t := 5) (u := 24) rfl rfl (by decide))) (cap_up (g := g) (ln := ln) (rv := rv) (a := sk 24) (k := 1) (b := b) (sk_ne hS (t := 6) (u := 24) rfl rfl (by decide))) (cap_up (g := g) (ln := ln) (rv := rv) (a := sk 24) (k := 1) (b := b) (sk_ne hS (t := 7) (u := 24) rfl rfl (by decide))) (cap_up (g := g) (ln := ln) (rv := rv) (a := sk 24) (k := 1) (b := b) (sk_ne hS (t := 8) (u := 24) rfl rfl (by decide))) (cap_up (g := g) (ln := ln) (rv := rv) (a := sk 24) (k := 1) (b := b) (sk_ne hS (t := 9) (u := 24) rfl rfl (by decide))) (cap_up (g := g) (ln := ln) (rv := rv) (a := sk 24) (k := 1) (b := b) (sk_ne hS (t := 10) (u := 24) rfl rfl (by decide))) (cap_up (g := g) (ln := ln) (rv := rv) (a := sk 24) (k := 1) (b := b) (sk_ne hS (t := 11) (u := 24) rfl rfl (by decide))) (cap_up (g := g) (ln := ln) (rv := rv) (a := sk 24) (k := 1) (b := b) (sk_ne hS (t := 25) (u := 24) rfl rfl (by decide))) (show upr rv (sk 24) 1 (some b) (sk 67) = rv (sk 67) from upr_a (sk_ne hS (t := 67) (u := 24) rfl rfl (by decide))) (show upr rv (sk 24) 1 (some b) (sk 69) = rv (sk 69) from upr_a (sk_ne hS (t := 69) (u := 24) rfl rfl (by decide))) (fun c2 c3 c4 c5 c6 c7 c8 c9 c10 c11 c25 r1 r2 => ?_)
    unfold Phi
    rw [e1, c2, c3, c4, c5, c6, c7, c8, c9, c10, c11, c25, r1, r2]
    show _ + 8 * _ = _ + 8 * _
    omega
  · have e1 := cap_s (g := g) (ln := ln) (rv := rv) (a := sk 25) hg
    refine hv13 (cap_up (g := g) (ln := ln) (rv := rv) (a := sk 25) (k := 1) (b := b) (sk_ne hS (t := 2) (u := 25) rfl rfl (by decide))) (cap_up (g := g) (ln := ln) (rv := rv) (a := sk 25) (k := 1) (b := b) (sk_ne hS (t := 3) (u := 25) rfl rfl (by decide))) (cap_up (g := g) (ln := ln) (rv := rv) (a := sk 25) (k := 1) (b := b) (sk_ne hS (t := 4) (u := 25) rfl rfl (by decide))) (cap_up (g := g) (ln := ln) (rv := rv) (a := sk 25) (k := 1) (b := b) (sk_ne hS (t := 5) (u := 25) rfl rfl (by decide))) (cap_up (g := g) (ln := ln) (rv := rv) (a := sk 25) (k := 1) (b := b) (sk_ne hS (t := 6) (u := 25) rfl rfl (by decide))) (cap_up (g := g) (ln := ln) (rv := rv) (a := sk 25) (k := 1) (b := b) (sk_ne hS (t := 7) (u := 25) rfl rfl (by decide))) (cap_up (g := g) (ln := ln) (rv := rv) (a := sk 25) (k := 1) (b := b) (sk_ne hS (t := 8) (u := 25) rfl rfl (by decide))) (cap_up (g := g) (ln := ln) (rv := rv) (a := sk 25) (k := 1) (b := b) (sk_ne hS (t := 9) (u := 25) rfl rfl (by decide))) (cap_up (g := g) (ln := ln) (rv := rv) (a := sk 25) (k := 1) (b := b) (sk_ne hS (t := 10) (u := 25) rfl rfl (by decide))) (cap_up (g := g) (ln := ln) (rv := rv) (a := sk 25) (k := 1) (b := b) (sk_ne hS (t := 11) (u := 25) rfl rfl (by decide))) (cap_up (g := g) (ln := ln) (rv := rv) (a := sk 25) (k := 1) (b := b) (sk_ne hS (t := 24) (u := 25) rfl rfl (by decide))) (show upr rv (sk 25) 1 (some b) (sk 67) = rv (sk 67) from upr_a (sk_ne hS (t := 67) (u := 25) rfl rfl (by decide))) (show upr rv (sk 25) 1 (some b) (sk 69) = rv (sk 69) from upr_a (sk_ne hS (t := 69) (u := 25) rfl rfl (by decide))) (fun c2 c3 c4 c5 c6 c7 c8 c9 c10 c11 c24 r1 r2 => ?_)
    unfold Phi
    rw [e1, c2, c3, c4, c5, c6, c7, c8, c9, c10, c11, c24, r1, r2]
    show _ + 8 * _ = _ + 8 * _
    omega
end NEWS
theorem rom0 {P K c0 ph pm : Nat} (h1 : ph ≤ pm) (h2 : P ≤ pm) (h3 : K ≤ c0) : P + K ≤ (pm + c0 - ph) + ph := by omega
theorem rom1 {P K c0 c2 ph pm : Nat} (h1 : ph ≤ pm) (h2 : P ≤ pm) (h3 : K + c2 ≤ c0) : P + K + (pm + c2 - P) ≤ (pm + c0 - ph) + ph := by omega
theorem rom2 {P K c0 x ph pm : Nat} (h1 : ph ≤ pm) (h2 : P ≤ pm) (h3 : K + x ≤ c0) : P + K + x ≤ (pm + c0 - ph) + ph := by omega
section DQ
variable {p : Program} {l : Launch} {e : Env} {d0 c0 : Nat} {s : State} {m : MethodId} {args : Array Value} {below : List Frame} {meth : Method} {c : Code} {cc : ByteArray} {y : MethodName} {ret : Option FieldType} {G : GT} {A : Nat → Prop} {nL mi : Nat} {Q : State → Prop} {Pf : PF} {ph pm : Nat} {L : List Nat} {cl ln : Nat → Nat} {iv : Nat → Nat → Int} {rv : Nat → Nat → Option Nat} {K K2 pc : Nat} {lv : List (Nat × Value)} {st : List Value}
theorem c_retag {q t : Nat} (hk : kd (bt t) = kd (bt (cl q))) (k : ∀ cl2, cl2 = va_up cl q t → cw p l e d0 (pm + c0 - ph) s m args below meth c G A nL Q Pf ph L cl2 ln iv rv K pc lv st) : cw p l e d0 (pm + c0 - ph) s m args below meth c G A nL Q Pf ph L cl ln iv rv K pc lv st := by
  have e : enc G (va_up cl q t) ln iv rv = enc G cl ln iv rv := by
    funext b
    by_cases h : b = q
    · subst h; exact enc_ext (by rw [va_up_self, hk]) rfl rfl rfl
    · exact enc_ext (by rw [va_up_ne _ _ h]) rfl rfl rfl
  intro u hu
  have q1 := k _ rfl u hu
  rw [e] at q1
  exact q1
theorem d_callV (C : Cq p s m args meth c cc y ret G A nL) (hM : Mir mi s) {y2 : MethodName} {cc2 : ByteArray} {n2 d2 c2 idx k2 : Nat} {P2 : PC} {As rest : List Value} {b ci N T : Nat} {ret2 : Option FieldType} {TT : u_T} {tyy : Nat → FieldType} (M : Mc l G mi Pf pm y2 cc2 n2 ret2 d2 (.ref b :: As) L cl ln iv rv c2 P2) (d : decode cc pc = .ok (.invokevirtual idx, 3)) (hw : Wv y.cls idx y2 cc2 n2 ret2 k2) (hk : As.length = k2) (hb : ty L cl b T) (hT : kd T = ci) (hN : nf ci = N) (h13 : ci < 13) (ck : Ck ci y2.cls TT N tyy) (hst : st = As.reverse ++ .ref b :: rest) (hcat : (rest.map fun v => v.category).sum ≤ 8) (hR : d2 + 1 ≤ d0 ∧ 8 + (n2 + 11) + 64 * d2 ≤ 64 * d0) (hph : ph ≤ pm) (hp : Pf ln rv ≤ pm) (hK : K + c2 = K2) (hKc : K2 ≤ c0) (kk : ∀ (v : Option Value) (L2 : List Nat) (cl2 ln2 : Nat → Nat) (iv2 : Nat → Nat → Int) (rv2 : Nat → Nat → Option Nat), P2 v L2 cl2 ln2 iv2 rv2 → cw p l e d0 (pm + c0 - ph) s m args below meth c G A nL Q Pf ph L2 cl2 ln2 iv2 rv2 K2 (pc + 3) lv (v.toList ++ rest)) : cw p l e d0 (pm + c0 - ph) s m args below meth c G A nL Q Pf ph L cl ln iv rv K pc lv st := c_callV C hM M d hw hk hb hT hN h13 ck hst hcat hR (rom1 hph hp (by omega)) (fun v L2 cl2 ln2 iv2 rv2 h => ⟨K2, fun u2 q => by omega, kk v L2 cl2 ln2 iv2 rv2 h⟩)
theorem d_callS (C : Cq p s m args meth c cc y ret G A nL) (hM : Mir mi s) {y2 : MethodName} {cc2 : ByteArray} {n2 d2 c2 idx k2 : Nat} {P2 : PC} {As rest : List Value} {ret2 : Option FieldType} (M : Mc l G mi Pf pm y2 cc2 n2 ret2 d2 As L cl ln iv rv c2 P2) (d : decode cc pc = .ok (.invokestatic idx, 3)) (hw : Ws y.cls idx y2 cc2 n2 ret2 k2) (hk : As.length = k2) (hst : st = As.reverse ++ rest) (hcat : (rest.map fun v => v.category).sum ≤ 8) (hR : d2 + 1 ≤ d0 ∧ 8 + (n2 + 11) + 64 * d2 ≤ 64 * d0) (hph : ph ≤ pm) (hp : Pf ln rv ≤ pm) (hK : K + c2 = K2) (hKc : K2 ≤ c0) (kk : ∀ (v : Option Value) (L2 : List Nat) (cl2 ln2 : Nat → Nat) (iv2 : Nat → Nat → Int) (rv2 : Nat → Nat → Option Nat), P2 v L2 cl2 ln2 iv2 rv2 → cw p l e d0 (pm + c0 - ph) s m args below meth c G A nL Q Pf ph L2 cl2 ln2 iv2 rv2 K2 (pc + 3) lv (v.toList ++ rest)) : cw p l e d0 (pm + c0 - ph) s m args below meth c G A nL Q Pf ph L cl ln iv rv K pc lv st := c_callS C hM M d hw hk hst hcat hR (rom1 hph hp (by omega)) (fun v L2 cl2 ln2 iv2 rv2 h => ⟨K2, fun u2 q => by omega, kk v L2 cl2 ln2 iv2 rv2 h⟩)
end DQ
def zPf : PF := fun _ _ => 0
theorem z_in {K x K2 : Nat} {ln ln2 : Nat → Nat} {rv rv2 : Nat → Nat → Option Nat} (h : K + x ≤ K2) : zPf ln rv + K + x ≤ zPf ln2 rv2 + K2 := by unfold zPf; omega
theorem p_in {P P2 K x K2 : Nat} (e : P2 = P) (h : K + x ≤ K2) : P + K + x ≤ P2 + K2 := by omega
theorem zk1 {P P2 K c2 : Nat} {ln ln2 : Nat → Nat} {rv rv2 : Nat → Nat → Option Nat} (e : P2 = P) : ∀ u2 : Nat, u2 + zPf ln rv ≤ zPf ln2 rv2 + c2 → u2 + P + K ≤ P2 + (K + c2) := by unfold zPf; intro u2 h; omega
theorem zk0 {K c2 : Nat} {ln ln2 : Nat → Nat} {rv rv2 : Nat → Nat → Option Nat} : ∀ u2 : Nat, u2 + zPf ln rv ≤ zPf ln2 rv2 + c2 → u2 + zPf ln rv + K ≤ zPf ln2 rv2 + (K + c2) := by unfold zPf; intro u2 h; omega
theorem rz1 {P K c0 c2 ph pm : Nat} {ln : Nat → Nat} {rv : Nat → Nat → Option Nat} (h1 : ph ≤ pm) (h2 : P ≤ pm) (h3 : K + c2 ≤ c0) : P + K + (0 + c2 - zPf ln rv) ≤ (pm + c0 - ph) + ph := by unfold zPf; omega
theorem rz0 {K c0 c2 : Nat} {ln : Nat → Nat} {rv : Nat → Nat → Option Nat} {ln2 : Nat → Nat} {rv2 : Nat → Nat → Option Nat} (h1 : zPf ln2 rv2 ≤ 0) (h3 : K + c2 ≤ c0) : zPf ln rv + K + (0 + c2 - zPf ln rv) ≤ (0 + c0 - zPf ln2 rv2) + zPf ln2 rv2 := by unfold zPf; omega
theorem Phi.fr {g : Nat} {sk : Nat → Nat} {ls L L2 : List Nat} {cl ln cl2 ln2 : Nat → Nat} {iv iv2 : Nat → Nat → Int} {rv rv2 : Nat → Nat → Option Nat} (h : WT g sk L cl ln iv rv) (hS : SKL sk L cl) (hX : XT L cl ln L2 cl2 ln2) (hF : fT ls L cl iv rv iv2 rv2) (hp : ls.all (fun t => !pot t) = true) : Phi g sk ln2 rv2 = Phi g sk ln rv := by
  refine Phi.congr (fun t ht hq => ?_) (fun t b ht hq hs hb hg => ?_)
  · refine (hF _ (hS t ht).1 ?_).2
    rw [(hS t ht).2]
    cases e : ls.contains (bt t) with
    | false => rfl
    | true =>
      have h2 := List.all_eq_true.mp hp _ (List.contains_iff_mem.mp e)
      rw [hq] at h2; cases h2
  · rcases WT.ed h (hS t ht).1 (by
      rw [(hS t ht).2]
      unfold szd lst at hs ⊢
      simp at hs ⊢
      unfold bt
      split <;> (try split) <;> (try split) <;> omega) hb with q1 | q1
    · exact (hX b q1).2.2
    · exact absurd q1 hg
theorem Phi.frn {g : Nat} {sk : Nat → Nat} {ls L : List Nat} {cl ln : Nat → Nat} {iv iv2 : Nat → Nat → Int} {rv rv2 : Nat → Nat → Option Nat} (hS : SKL sk L cl) (hF : fT ls L cl iv rv iv2 rv2) (hp : ls.all (fun t => !pot t) = true) : Phi g sk ln rv2 = Phi g sk ln rv := by
  refine Phi.congr (fun t ht hq => ?_) (fun _ _ _ _ _ _ _ => rfl)
  refine (hF _ (hS t ht).1 ?_).2
  rw [(hS t ht).2]
  cases e : ls.contains (bt t) with
  | false => rfl
  | true =>
    have h2 := List.all_eq_true.mp hp _ (List.contains_iff_mem.mp e)
    rw [hq] at h2; cases h2
theorem bt_id {x t : Nat} (h : bt x = t) (ht : t < 18 ∨ (18 < t ∧ t < 67)) : x = t := by
  unfold bt at h
  split at h
  · split at h
    · omega
    · split at h <;> omega
  · split at h
    · omega
    · split at h <;> omega
theorem WT.sk {g : Nat} {sk : Nat → Nat} {L : List Nat} {cl ln : Nat → Nat} {iv : Nat → Nat → Int} {rv : Nat → Nat → Option Nat} {a t : Nat} (h : WT g sk L cl ln iv rv) (ha : ty L cl a t) (ht : t < 18 ∨ (18 < t ∧ t < 67)) (hu : uq t = true) : a = sk t := by
  have e := bt_id ha.2 ht
  have q := h.2.2.2.2.2.1 a ha.1 (by rw [e]; exact hu)
  rw [e] at q; exact q
def limT (t : Nat) : Nat := match t with
  | 2 => 3000
  | 3 => 500
  | 4 => 4000
  | 5 => 200
  | 6 => 6003
  | 7 => 6003
  | 8 => 40200
  | 9 => 40200
  | 10 => 4001
  | 11 => 40000
  | 12 => 200
  | _ => 0
theorem Phi.slack {g : Nat} {sk : Nat → Nat} {L : List Nat} {cl ln : Nat → Nat} {iv : Nat → Nat → Int} {rv : Nat → Nat → Option Nat} {t n : Nat} (h : WT g sk L cl ln iv rv) (hS : SKL sk L cl) (ht : 2 ≤ t ∧ t ≤ 11) (hn : cap g ln rv (sk t) = n) (hc : n ≤ limT t) : Phi g sk ln rv + 3 * n ≤ PHM := by
  refine hv14 (cap_le (t := 2) (m := 6000) h hS rfl rfl rfl rfl rfl) (cap_le (t := 3) (m := 1000) h hS rfl rfl rfl rfl rfl) (cap_le (t := 4) (m := 8000) h hS rfl rfl rfl rfl rfl) (cap_le (t := 5) (m := 400) h hS rfl rfl rfl rfl rfl) (cap_le (t := 6) (m := 12006) h hS rfl rfl rfl rfl rfl) (cap_le (t := 7) (m := 12006) h hS rfl rfl rfl rfl rfl) (cap_le (t := 8) (m := 80400) h hS rfl rfl rfl rfl rfl) (cap_le (t := 9) (m := 80400) h hS rfl rfl rfl rfl rfl) (cap_le (t := 10) (m := 8002) h hS rfl rfl rfl rfl rfl) (cap_le (t := 11) (m := 80000) h hS rfl rfl rfl rfl rfl) (cap_le (t := 24) (m := 9100) h hS rfl rfl rfl rfl rfl) (cap_le (t := 25) (m := 9100) h hS rfl rfl rfl rfl rfl) (nn_le (rv (sk 67)) 200) (nn_le (rv (sk 69)) 200) (fun c2 c3 c4 c5 c6 c7 c8 c9 c10 c11 c24 c25 n1 n2 => ?_)
  have : t = 2 ∨ t = 3 ∨ t = 4 ∨ t = 5 ∨ t = 6 ∨ t = 7 ∨ t = 8 ∨ t = 9 ∨ t = 10 ∨ t = 11 := by omega
  rcases this with rfl | rfl | rfl | rfl | rfl | rfl | rfl | rfl | rfl | rfl
  · unfold Phi
    show _ ≤ 1110000
    have hc2 : n ≤ 3000 := hc
    omega
  · unfold Phi
    show _ ≤ 1110000
    have hc2 : n ≤ 500 := hc
    omega
  · unfold Phi
    show _ ≤ 1110000
    have hc2 : n ≤ 4000 := hc
    omega
  · unfold Phi
    show _ ≤ 1110000
    have hc2 : n ≤ 200 := hc
    omega
  · unfold Phi
    show _ ≤ 1110000
    have hc2 : n ≤ 6003 := hc
    omega
  · unfold Phi
    show _ ≤ 1110000
    have hc2 : n ≤ 6003 := hc
    omega
  · unfold Phi
    show _ ≤ 1110000
    have hc2 : n ≤ 40200 := hc
    omega
  · unfold Phi
    show _ ≤ 1110000
    have hc2 : n ≤ 40200 := hc
    omega
  · unfold Phi
    show _ ≤ 1110000
    have hc2 : n ≤ 4001 := hc
    omega
  · unfold Phi
    show _ ≤ 1110000
    have hc2 : n ≤ 40000 := hc
    omega
theorem dv_0 : ∀ j, j < 3 → defaultValue (tyJx4a65c j) = ofv 0 (fun _ => 0) (fun _ => none) j := fun j hj => match j, hj with
  | 0, _ => rfl
  | 1, _ => rfl
  | 2, _ => rfl
  | n + 3, h => absurd h (by omega)
theorem dv_1 : ∀ j, j < 4 → defaultValue (tyX0 j) = ofv 1 (fun _ => 0) (fun _ => none) j := fun j hj => match j, hj with
  | 0, _ => rfl
  | 1, _ => rfl
  | 2, _ => rfl
  | 3, _ => rfl
  | n + 4, h => absurd h (by omega)
theorem dv_2 : ∀ j, j < 3 → defaultValue (tyX1 j) = ofv 2 (fun _ => 0) (fun _ => none) j := fun j hj => match j, hj with
  | 0, _ => rfl
  | 1, _ => rfl
  | 2, _ => rfl
  | n + 3, h => absurd h (by omega)
theorem dv_3 : ∀ j, j < 3 → defaultValue (tyX2 j) = ofv 3 (fun _ => 0) (fun _ => none) j := fun j hj => match j, hj with
  | 0, _ => rfl
  | 1, _ => rfl
  | 2, _ => rfl
  | n + 3, h => absurd h (by omega)
theorem dv_4 : ∀ j, j < 8 → defaultValue (tyX3 j) = ofv 4 (fun _ => 0) (fun _ => none) j := fun j hj => match j, hj with
  | 0, _ => rfl
  | 1, _ => rfl
  | 2, _ => rfl
  | 3, _ => rfl
  | 4, _ => rfl
  | 5, _ => rfl
  | 6, _ => rfl
  | 7, _ => rfl
  | n + 8, h => absurd h (by omega)
theorem dv_5 : ∀ j, j < 11 → defaultValue (tyX4 j) = ofv 5 (fun _ => 0) (fun _ => none) j := fun j hj => match j, hj with
  | 0, _ => rfl
  | 1, _ => rfl
  | 2, _ => rfl
  | 3, _ => rfl
  | 4, _ => rfl
  | 5, _ => rfl
  | 6, _ => rfl
  | 7, _ => rfl
  | 8, _ => rfl
  | 9, _ => rfl
  | 10, _ => rfl
  | n + 11, h => absurd h (by omega)
theorem dv_6 : ∀ j, j < 4 → defaultValue (tyX5 j) = ofv 6 (fun _ => 0) (fun _ => none) j := fun j hj => match j, hj with
  | 0, _ => rfl
  | 1, _ => rfl
  | 2, _ => rfl
  | 3, _ => rfl
  | n + 4, h => absurd h (by omega)
theorem dv_7 : ∀ j, j < 12 → defaultValue (tyX6 j) = ofv 7 (fun _ => 0) (fun _ => none) j := fun j hj => match j, hj with
  | 0, _ => rfl
  | 1, _ => rfl
  | 2, _ => rfl
  | 3, _ => rfl
  | 4, _ => rfl
  | 5, _ => rfl
  | 6, _ => rfl
  | 7, _ => rfl
  | 8, _ => rfl
  | 9, _ => rfl
  | 10, _ => rfl
  | 11, _ => rfl
  | n + 12, h => absurd h (by omega)
theorem dv_8 : ∀ j, j < 3 → defaultValue (tyX7 j) = ofv 8 (fun _ => 0) (fun _ => none) j := fun j hj => match j, hj with
  | 0, _ => rfl
  | 1, _ => rfl
  | 2, _ => rfl
  | n + 3, h => absurd h (by omega)
theorem dv_9 : ∀ j, j < 8 → defaultValue (tyX8 j) = ofv 9 (fun _ => 0) (fun _ => none) j := fun j hj => match j, hj with
  | 0, _ => rfl
  | 1, _ => rfl
  | 2, _ => rfl
  | 3, _ => rfl
  | 4, _ => rfl
  | 5, _ => rfl
  | 6, _ => rfl
  | 7, _ => rfl
  | n + 8, h => absurd h (by omega)
theorem dv_10 : ∀ j, j < 8 → defaultValue (tyX9 j) = ofv 10 (fun _ => 0) (fun _ => none) j := fun j hj => match j, hj with
  | 0, _ => rfl
  | 1, _ => rfl
  | 2, _ => rfl
  | 3, _ => rfl
  | 4, _ => rfl
  | 5, _ => rfl
  | 6, _ => rfl
  | 7, _ => rfl
  | n + 8, h => absurd h (by omega)
theorem dv_11 : ∀ j, j < 2 → defaultValue (tyX10 j) = ofv 11 (fun _ => 0) (fun _ => none) j := fun j hj => match j, hj with
  | 0, _ => rfl
  | 1, _ => rfl
  | n + 2, h => absurd h (by omega)
end
section
def sgn (x : Int32) : Int32 := if x < 48 ∨ (57 < x ∧ x < 65) ∨ (90 < x ∧ x < 97) ∨ 122 < x then 1 else 0
theorem sgn_c (x : Int32) : ∃ z : Int, (z = 0 ∨ z = 1) ∧ sgn x = iI z := by
  unfold sgn
  split
  · exact ⟨1, Or.inr rfl, rfl⟩
  · exact ⟨0, Or.inl rfl, rfl⟩
set_option maxHeartbeats 4000000 in
set_option maxRecDepth 100000 in
theorem s11_isDigit {l : Launch} {G : GT} {L : List Nat} {E : Nat → va_E} (x : Int32) : Mq l G yX11_isDigit cX11_isDigit 1 (some .boolean) 0 [.int x] L E 0 0 (fun v L2 E2 => v = some (.int (inn x 48 57)) ∧ L2 = L ∧ E2 = E) := by
  refine Mq.mk (by decide) (Nat.le_of_ble_eq_true rfl) ?_
  intro p e s m args below meth c A C
  refine q_iload_n (j := 0) C dX11_isDigit_0 rfl ?_
  refine q_bipush (v := 48) C dX11_isDigit_1 (by decide) ?_
  refine q_icmp_lt (tgt := 16) C dX11_isDigit_3 (by decide) (fun c1 => ?_) (fun c1 => ?_)
  · refine q_iconst (v := 0) C dX11_isDigit_16 (by decide) ?_
    exact q_zret C dX11_isDigit_17 rfl (by decide) (Nat.le_of_ble_eq_true rfl) (Nat.le_of_ble_eq_true rfl) ⟨(by refine congrArg (fun z => some (Value.int z)) ?_; unfold inn; (try simp only [i32_lt, i32_le, i32_eq, inn_f, Decidable.not_not, tn_m1, tn_0, tn_1, tn_2, tn_3, tn_4, tn_5, tn_6, tn_7, tn_8, tn_10, tn_30, tn_31, tn_32, tn_36, tn_40, tn_50, tn_100, tn_126, tn_200, tn_255, tn_500, tn_512, tn_3000, tn_5000] at c1); split <;> rename_i hz <;> (try simp only [i32_lt, i32_le, i32_eq, inn_f, Decidable.not_not, tn_m1, tn_0, tn_1, tn_2, tn_3, tn_4, tn_5, tn_6, tn_7, tn_8, tn_10, tn_30, tn_31, tn_32, tn_36, tn_40, tn_50, tn_100, tn_126, tn_200, tn_255, tn_500, tn_512, tn_3000, tn_5000] at hz) <;> first | rfl | (exfalso; omega)), rfl, rfl⟩
  · refine q_iload_n (j := 0) C dX11_isDigit_6 rfl ?_
    refine q_bipush (v := 57) C dX11_isDigit_7 (by decide) ?_
    refine q_icmp_gt (tgt := 16) C dX11_isDigit_9 (by decide) (fun c2 => ?_) (fun c2 => ?_)
    · refine q_iconst (v := 0) C dX11_isDigit_16 (by decide) ?_
      exact q_zret C dX11_isDigit_17 rfl (by decide) (Nat.le_of_ble_eq_true rfl) (Nat.le_of_ble_eq_true rfl) ⟨(by refine congrArg (fun z => some (Value.int z)) ?_; unfold inn; (try simp only [i32_lt, i32_le, i32_eq, inn_f, Decidable.not_not, tn_m1, tn_0, tn_1, tn_2, tn_3, tn_4, tn_5, tn_6, tn_7, tn_8, tn_10, tn_30, tn_31, tn_32, tn_36, tn_40, tn_50, tn_100, tn_126, tn_200, tn_255, tn_500, tn_512, tn_3000, tn_5000] at c1); (try simp only [i32_lt, i32_le, i32_eq, inn_f, Decidable.not_not, tn_m1, tn_0, tn_1, tn_2, tn_3, tn_4, tn_5, tn_6, tn_7, tn_8, tn_10, tn_30, tn_31, tn_32, tn_36, tn_40, tn_50, tn_100, tn_126, tn_200, tn_255, tn_500, tn_512, tn_3000, tn_5000] at c2); split <;> rename_i hz <;> (try simp only [i32_lt, i32_le, i32_eq, inn_f, Decidable.not_not, tn_m1, tn_0, tn_1, tn_2, tn_3, tn_4, tn_5, tn_6, tn_7, tn_8, tn_10, tn_30, tn_31, tn_32, tn_36, tn_40, tn_50, tn_100, tn_126, tn_200, tn_255, tn_500, tn_512, tn_3000, tn_5000] at hz) <;> first | rfl | (exfalso; omega)), rfl, rfl⟩
    · refine q_iconst (v := 1) C dX11_isDigit_12 (by decide) ?_
      refine q_goto (tgt := 17) C dX11_isDigit_13 (by decide) ?_
      exact q_zret C dX11_isDigit_17 rfl (by decide) (Nat.le_of_ble_eq_true rfl) (Nat.le_of_ble_eq_true rfl) ⟨(by refine congrArg (fun z => some (Value.int z)) ?_; unfold inn; (try simp only [i32_lt, i32_le, i32_eq, inn_f, Decidable.not_not, tn_m1, tn_0, tn_1, tn_2, tn_3, tn_4, tn_5, tn_6, tn_7, tn_8, tn_10, tn_30, tn_31, tn_32, tn_36, tn_40, tn_50, tn_100, tn_126, tn_200, tn_255, tn_500, tn_512, tn_3000, tn_5000] at c1); (try simp only [i32_lt, i32_le, i32_eq, inn_f, Decidable.not_not, tn_m1, tn_0, tn_1, tn_2, tn_3, tn_4, tn_5, tn_6, tn_7, tn_8, tn_10, tn_30, tn_31, tn_32, tn_36, tn_40, tn_50, tn_100, tn_126, tn_200, tn_255, tn_500, tn_512, tn_3000, tn_5000] at c2); split <;> rename_i hz <;> (try simp only [i32_lt, i32_le, i32_eq, inn_f, Decidable.not_not, tn_m1, tn_0, tn_1, tn_2, tn_3, tn_4, tn_5, tn_6, tn_7, tn_8, tn_10, tn_30, tn_31, tn_32, tn_36, tn_40, tn_50, tn_100, tn_126, tn_200, tn_255, tn_500, tn_512, tn_3000, tn_5000] at hz) <;> first | rfl | (exfalso; omega)), rfl, rfl⟩
set_option maxHeartbeats 4000000 in
set_option maxRecDepth 100000 in
theorem s11_isGreat {l : Launch} {G : GT} {L : List Nat} {E : Nat → va_E} (x : Int32) : Mq l G yX11_isGreat cX11_isGreat 1 (some .boolean) 0 [.int x] L E 0 0 (fun v L2 E2 => v = some (.int (inn x 65 90)) ∧ L2 = L ∧ E2 = E) := by
  refine Mq.mk (by decide) (Nat.le_of_ble_eq_true rfl) ?_
  intro p e s m args below meth c A C
  refine q_iload_n (j := 0) C dX11_isGreat_0 rfl ?_
  refine q_bipush (v := 65) C dX11_isGreat_1 (by decide) ?_
  refine q_icmp_lt (tgt := 16) C dX11_isGreat_3 (by decide) (fun c1 => ?_) (fun c1 => ?_)
  · refine q_iconst (v := 0) C dX11_isGreat_16 (by decide) ?_
    exact q_zret C dX11_isGreat_17 rfl (by decide) (Nat.le_of_ble_eq_true rfl) (Nat.le_of_ble_eq_true rfl) ⟨(by refine congrArg (fun z => some (Value.int z)) ?_; unfold inn; (try simp only [i32_lt, i32_le, i32_eq, inn_f, Decidable.not_not, tn_m1, tn_0, tn_1, tn_2, tn_3, tn_4, tn_5, tn_6, tn_7, tn_8, tn_10, tn_30, tn_31, tn_32, tn_36, tn_40, tn_50, tn_100, tn_126, tn_200, tn_255, tn_500, tn_512, tn_3000, tn_5000] at c1); split <;> rename_i hz <;> (try simp only [i32_lt, i32_le, i32_eq, inn_f, Decidable.not_not, tn_m1, tn_0, tn_1, tn_2, tn_3, tn_4, tn_5, tn_6, tn_7, tn_8, tn_10, tn_30, tn_31, tn_32, tn_36, tn_40, tn_50, tn_100, tn_126, tn_200, tn_255, tn_500, tn_512, tn_3000, tn_5000] at hz) <;> first | rfl | (exfalso; omega)), rfl, rfl⟩
  · refine q_iload_n (j := 0) C dX11_isGreat_6 rfl ?_
    refine q_bipush (v := 90) C dX11_isGreat_7 (by decide) ?_
    refine q_icmp_gt (tgt := 16) C dX11_isGreat_9 (by decide) (fun c2 => ?_) (fun c2 => ?_)
    · refine q_iconst (v := 0) C dX11_isGreat_16 (by decide) ?_
      exact q_zret C dX11_isGreat_17 rfl (by decide) (Nat.le_of_ble_eq_true rfl) (Nat.le_of_ble_eq_true rfl) ⟨(by refine congrArg (fun z => some (Value.int z)) ?_; unfold inn; (try simp only [i32_lt, i32_le, i32_eq, inn_f, Decidable.not_not, tn_m1, tn_0, tn_1, tn_2, tn_3, tn_4, tn_5, tn_6, tn_7, tn_8, tn_10, tn_30, tn_31, tn_32, tn_36, tn_40, tn_50, tn_100, tn_126, tn_200, tn_255, tn_500, tn_512, tn_3000, tn_5000] at c1); (try simp only [i32_lt, i32_le, i32_eq, inn_f, Decidable.not_not, tn_m1, tn_0, tn_1, tn_2, tn_3, tn_4, tn_5, tn_6, tn_7, tn_8, tn_10, tn_30, tn_31, tn_32, tn_36, tn_40, tn_50, tn_100, tn_126, tn_200, tn_255, tn_500, tn_512, tn_3000, tn_5000] at c2); split <;> rename_i hz <;> (try simp only [i32_lt, i32_le, i32_eq, inn_f, Decidable.not_not, tn_m1, tn_0, tn_1, tn_2, tn_3, tn_4, tn_5, tn_6, tn_7, tn_8, tn_10, tn_30, tn_31, tn_32, tn_36, tn_40, tn_50, tn_100, tn_126, tn_200, tn_255, tn_500, tn_512, tn_3000, tn_5000] at hz) <;> first | rfl | (exfalso; omega)), rfl, rfl⟩
    · refine q_iconst (v := 1) C dX11_isGreat_12 (by decide) ?_
      refine q_goto (tgt := 17) C dX11_isGreat_13 (by decide) ?_
      exact q_zret C dX11_isGreat_17 rfl (by decide) (Nat.le_of_ble_eq_true rfl) (Nat.le_of_ble_eq_true rfl) ⟨(by refine congrArg (fun z => some (Value.int z)) ?_; unfold inn; (try simp only [i32_lt, i32_le, i32_eq, inn_f, Decidable.not_not, tn_m1, tn_0, tn_1, tn_2, tn_3, tn_4, tn_5, tn_6, tn_7, tn_8, tn_10, tn_30, tn_31, tn_32, tn_36, tn_40, tn_50, tn_100, tn_126, tn_200, tn_255, tn_500, tn_512, tn_3000, tn_5000] at c1); (try simp only [i32_lt, i32_le, i32_eq, inn_f, Decidable.not_not, tn_m1, tn_0, tn_1, tn_2, tn_3, tn_4, tn_5, tn_6, tn_7, tn_8, tn_10, tn_30, tn_31, tn_32, tn_36, tn_40, tn_50, tn_100, tn_126, tn_200, tn_255, tn_500, tn_512, tn_3000, tn_5000] at c2); split <;> rename_i hz <;> (try simp only [i32_lt, i32_le, i32_eq, inn_f, Decidable.not_not, tn_m1, tn_0, tn_1, tn_2, tn_3, tn_4, tn_5, tn_6, tn_7, tn_8, tn_10, tn_30, tn_31, tn_32, tn_36, tn_40, tn_50, tn_100, tn_126, tn_200, tn_255, tn_500, tn_512, tn_3000, tn_5000] at hz) <;> first | rfl | (exfalso; omega)), rfl, rfl⟩
set_option maxHeartbeats 4000000 in
set_option maxRecDepth 100000 in
theorem s11_isSmall {l : Launch} {G : GT} {L : List Nat} {E : Nat → va_E} (x : Int32) : Mq l G yX11_isSmall cX11_isSmall 1 (some .boolean) 0 [.int x] L E 0 0 (fun v L2 E2 => v = some (.int (inn x 97 122)) ∧ L2 = L ∧ E2 = E) := by
  refine Mq.mk (by decide) (Nat.le_of_ble_eq_true rfl) ?_
  intro p e s m args below meth c A C
  refine q_iload_n (j := 0) C dX11_isSmall_0 rfl ?_
  refine q_bipush (v := 97) C dX11_isSmall_1 (by decide) ?_
  refine q_icmp_lt (tgt := 16) C dX11_isSmall_3 (by decide) (fun c1 => ?_) (fun c1 => ?_)
  · refine q_iconst (v := 0) C dX11_isSmall_16 (by decide) ?_
    exact q_zret C dX11_isSmall_17 rfl (by decide) (Nat.le_of_ble_eq_true rfl) (Nat.le_of_ble_eq_true rfl) ⟨(by refine congrArg (fun z => some (Value.int z)) ?_; unfold inn; (try simp only [i32_lt, i32_le, i32_eq, inn_f, Decidable.not_not, tn_m1, tn_0, tn_1, tn_2, tn_3, tn_4, tn_5, tn_6, tn_7, tn_8, tn_10, tn_30, tn_31, tn_32, tn_36, tn_40, tn_50, tn_100, tn_126, tn_200, tn_255, tn_500, tn_512, tn_3000, tn_5000] at c1); split <;> rename_i hz <;> (try simp only [i32_lt, i32_le, i32_eq, inn_f, Decidable.not_not, tn_m1, tn_0, tn_1, tn_2, tn_3, tn_4, tn_5, tn_6, tn_7, tn_8, tn_10, tn_30, tn_31, tn_32, tn_36, tn_40, tn_50, tn_100, tn_126, tn_200, tn_255, tn_500, tn_512, tn_3000, tn_5000] at hz) <;> first | rfl | (exfalso; omega)), rfl, rfl⟩
  · refine q_iload_n (j := 0) C dX11_isSmall_6 rfl ?_
    refine q_bipush (v := 122) C dX11_isSmall_7 (by decide) ?_
    refine q_icmp_gt (tgt := 16) C dX11_isSmall_9 (by decide) (fun c2 => ?_) (fun c2 => ?_)
    · refine q_iconst (v := 0) C dX11_isSmall_16 (by decide) ?_
      exact q_zret C dX11_isSmall_17 rfl (by decide) (Nat.le_of_ble_eq_true rfl) (Nat.le_of_ble_eq_true rfl) ⟨(by refine congrArg (fun z => some (Value.int z)) ?_; unfold inn; (try simp only [i32_lt, i32_le, i32_eq, inn_f, Decidable.not_not, tn_m1, tn_0, tn_1, tn_2, tn_3, tn_4, tn_5, tn_6, tn_7, tn_8, tn_10, tn_30, tn_31, tn_32, tn_36, tn_40, tn_50, tn_100, tn_126, tn_200, tn_255, tn_500, tn_512, tn_3000, tn_5000] at c1); (try simp only [i32_lt, i32_le, i32_eq, inn_f, Decidable.not_not, tn_m1, tn_0, tn_1, tn_2, tn_3, tn_4, tn_5, tn_6, tn_7, tn_8, tn_10, tn_30, tn_31, tn_32, tn_36, tn_40, tn_50, tn_100, tn_126, tn_200, tn_255, tn_500, tn_512, tn_3000, tn_5000] at c2); split <;> rename_i hz <;> (try simp only [i32_lt, i32_le, i32_eq, inn_f, Decidable.not_not, tn_m1, tn_0, tn_1, tn_2, tn_3, tn_4, tn_5, tn_6, tn_7, tn_8, tn_10, tn_30, tn_31, tn_32, tn_36, tn_40, tn_50, tn_100, tn_126, tn_200, tn_255, tn_500, tn_512, tn_3000, tn_5000] at hz) <;> first | rfl | (exfalso; omega)), rfl, rfl⟩
    · refine q_iconst (v := 1) C dX11_isSmall_12 (by decide) ?_
      refine q_goto (tgt := 17) C dX11_isSmall_13 (by decide) ?_
      exact q_zret C dX11_isSmall_17 rfl (by decide) (Nat.le_of_ble_eq_true rfl) (Nat.le_of_ble_eq_true rfl) ⟨(by refine congrArg (fun z => some (Value.int z)) ?_; unfold inn; (try simp only [i32_lt, i32_le, i32_eq, inn_f, Decidable.not_not, tn_m1, tn_0, tn_1, tn_2, tn_3, tn_4, tn_5, tn_6, tn_7, tn_8, tn_10, tn_30, tn_31, tn_32, tn_36, tn_40, tn_50, tn_100, tn_126, tn_200, tn_255, tn_500, tn_512, tn_3000, tn_5000] at c1); (try simp only [i32_lt, i32_le, i32_eq, inn_f, Decidable.not_not, tn_m1, tn_0, tn_1, tn_2, tn_3, tn_4, tn_5, tn_6, tn_7, tn_8, tn_10, tn_30, tn_31, tn_32, tn_36, tn_40, tn_50, tn_100, tn_126, tn_200, tn_255, tn_500, tn_512, tn_3000, tn_5000] at c2); split <;> rename_i hz <;> (try simp only [i32_lt, i32_le, i32_eq, inn_f, Decidable.not_not, tn_m1, tn_0, tn_1, tn_2, tn_3, tn_4, tn_5, tn_6, tn_7, tn_8, tn_10, tn_30, tn_31, tn_32, tn_36, tn_40, tn_50, tn_100, tn_126, tn_200, tn_255, tn_500, tn_512, tn_3000, tn_5000] at hz) <;> first | rfl | (exfalso; omega)), rfl, rfl⟩
set_option maxHeartbeats 4000000 in
set_option maxRecDepth 100000 in
theorem s11_isCondition {l : Launch} {G : GT} {L : List Nat} {E : Nat → va_E} (x : Int32) : Mq l G yX11_isCondition cX11_isCondition 1 (some .boolean) 0 [.int x] L E 0 0 (fun v L2 E2 => v = some (.int (inn x 0 5)) ∧ L2 = L ∧ E2 = E) := by
  refine Mq.mk (by decide) (Nat.le_of_ble_eq_true rfl) ?_
  intro p e s m args below meth c A C
  refine q_iload_n (j := 0) C dX11_isCondition_0 rfl ?_
  refine q_if_lt (tgt := 13) C dX11_isCondition_1 (by decide) (fun c1 => ?_) (fun c1 => ?_)
  · refine q_iconst (v := 0) C dX11_isCondition_13 (by decide) ?_
    exact q_zret C dX11_isCondition_14 rfl (by decide) (Nat.le_of_ble_eq_true rfl) (Nat.le_of_ble_eq_true rfl) ⟨(by refine congrArg (fun z => some (Value.int z)) ?_; unfold inn; (try simp only [i32_lt, i32_le, i32_eq, inn_f, Decidable.not_not, tn_m1, tn_0, tn_1, tn_2, tn_3, tn_4, tn_5, tn_6, tn_7, tn_8, tn_10, tn_30, tn_31, tn_32, tn_36, tn_40, tn_50, tn_100, tn_126, tn_200, tn_255, tn_500, tn_512, tn_3000, tn_5000] at c1); split <;> rename_i hz <;> (try simp only [i32_lt, i32_le, i32_eq, inn_f, Decidable.not_not, tn_m1, tn_0, tn_1, tn_2, tn_3, tn_4, tn_5, tn_6, tn_7, tn_8, tn_10, tn_30, tn_31, tn_32, tn_36, tn_40, tn_50, tn_100, tn_126, tn_200, tn_255, tn_500, tn_512, tn_3000, tn_5000] at hz) <;> first | rfl | (exfalso; omega)), rfl, rfl⟩
  · refine q_iload_n (j := 0) C dX11_isCondition_4 rfl ?_
    refine q_iconst (v := 5) C dX11_isCondition_5 (by decide) ?_
    refine q_icmp_gt (tgt := 13) C dX11_isCondition_6 (by decide) (fun c2 => ?_) (fun c2 => ?_)
    · refine q_iconst (v := 0) C dX11_isCondition_13 (by decide) ?_
      exact q_zret C dX11_isCondition_14 rfl (by decide) (Nat.le_of_ble_eq_true rfl) (Nat.le_of_ble_eq_true rfl) ⟨(by refine congrArg (fun z => some (Value.int z)) ?_; unfold inn; (try simp only [i32_lt, i32_le, i32_eq, inn_f, Decidable.not_not, tn_m1, tn_0, tn_1, tn_2, tn_3, tn_4, tn_5, tn_6, tn_7, tn_8, tn_10, tn_30, tn_31, tn_32, tn_36, tn_40, tn_50, tn_100, tn_126, tn_200, tn_255, tn_500, tn_512, tn_3000, tn_5000] at c1); (try simp only [i32_lt, i32_le, i32_eq, inn_f, Decidable.not_not, tn_m1, tn_0, tn_1, tn_2, tn_3, tn_4, tn_5, tn_6, tn_7, tn_8, tn_10, tn_30, tn_31, tn_32, tn_36, tn_40, tn_50, tn_100, tn_126, tn_200, tn_255, tn_500, tn_512, tn_3000, tn_5000] at c2); split <;> rename_i hz <;> (try simp only [i32_lt, i32_le, i32_eq, inn_f, Decidable.not_not, tn_m1, tn_0, tn_1, tn_2, tn_3, tn_4, tn_5, tn_6, tn_7, tn_8, tn_10, tn_30, tn_31, tn_32, tn_36, tn_40, tn_50, tn_100, tn_126, tn_200, tn_255, tn_500, tn_512, tn_3000, tn_5000] at hz) <;> first | rfl | (exfalso; omega)), rfl, rfl⟩
    · refine q_iconst (v := 1) C dX11_isCondition_9 (by decide) ?_
      refine q_goto (tgt := 14) C dX11_isCondition_10 (by decide) ?_
      exact q_zret C dX11_isCondition_14 rfl (by decide) (Nat.le_of_ble_eq_true rfl) (Nat.le_of_ble_eq_true rfl) ⟨(by refine congrArg (fun z => some (Value.int z)) ?_; unfold inn; (try simp only [i32_lt, i32_le, i32_eq, inn_f, Decidable.not_not, tn_m1, tn_0, tn_1, tn_2, tn_3, tn_4, tn_5, tn_6, tn_7, tn_8, tn_10, tn_30, tn_31, tn_32, tn_36, tn_40, tn_50, tn_100, tn_126, tn_200, tn_255, tn_500, tn_512, tn_3000, tn_5000] at c1); (try simp only [i32_lt, i32_le, i32_eq, inn_f, Decidable.not_not, tn_m1, tn_0, tn_1, tn_2, tn_3, tn_4, tn_5, tn_6, tn_7, tn_8, tn_10, tn_30, tn_31, tn_32, tn_36, tn_40, tn_50, tn_100, tn_126, tn_200, tn_255, tn_500, tn_512, tn_3000, tn_5000] at c2); split <;> rename_i hz <;> (try simp only [i32_lt, i32_le, i32_eq, inn_f, Decidable.not_not, tn_m1, tn_0, tn_1, tn_2, tn_3, tn_4, tn_5, tn_6, tn_7, tn_8, tn_10, tn_30, tn_31, tn_32, tn_36, tn_40, tn_50, tn_100, tn_126, tn_200, tn_255, tn_500, tn_512, tn_3000, tn_5000] at hz) <;> first | rfl | (exfalso; omega)), rfl, rfl⟩
set_option maxHeartbeats 4000000 in
set_option maxRecDepth 100000 in
theorem s6_isSign {l : Launch} {G : GT} {L : List Nat} {E : Nat → va_E} (x : Int32) : Mq l G yX6_isSign cX6_isSign 1 (some .boolean) 0 [.int x] L E 0 0 (fun v L2 E2 => v = some (.int (sgn x)) ∧ L2 = L ∧ E2 = E) := by
  refine Mq.mk (by decide) (Nat.le_of_ble_eq_true rfl) ?_
  intro p e s m args below meth c A C
  refine q_iload_n (j := 0) C dX6_isSign_0 rfl ?_
  refine q_bipush (v := 48) C dX6_isSign_1 (by decide) ?_
  refine q_icmp_lt (tgt := 36) C dX6_isSign_3 (by decide) (fun c1 => ?_) (fun c1 => ?_)
  · refine q_iconst (v := 1) C dX6_isSign_36 (by decide) ?_
    refine q_goto (tgt := 41) C dX6_isSign_37 (by decide) ?_
    exact q_zret C dX6_isSign_41 rfl (by decide) (Nat.le_of_ble_eq_true rfl) (Nat.le_of_ble_eq_true rfl) ⟨(by refine congrArg (fun z => some (Value.int z)) ?_; unfold sgn; (try simp only [i32_lt, i32_le, i32_eq, inn_f, Decidable.not_not, tn_m1, tn_0, tn_1, tn_2, tn_3, tn_4, tn_5, tn_6, tn_7, tn_8, tn_10, tn_30, tn_31, tn_32, tn_36, tn_40, tn_50, tn_100, tn_126, tn_200, tn_255, tn_500, tn_512, tn_3000, tn_5000] at c1); split <;> rename_i hz <;> (try simp only [i32_lt, i32_le, i32_eq, inn_f, Decidable.not_not, tn_m1, tn_0, tn_1, tn_2, tn_3, tn_4, tn_5, tn_6, tn_7, tn_8, tn_10, tn_30, tn_31, tn_32, tn_36, tn_40, tn_50, tn_100, tn_126, tn_200, tn_255, tn_500, tn_512, tn_3000, tn_5000] at hz) <;> first | rfl | (exfalso; omega)), rfl, rfl⟩
  · refine q_iload_n (j := 0) C dX6_isSign_6 rfl ?_
    refine q_bipush (v := 57) C dX6_isSign_7 (by decide) ?_
    refine q_icmp_le (tgt := 18) C dX6_isSign_9 (by decide) (fun c2 => ?_) (fun c2 => ?_)
    · refine q_iload_n (j := 0) C dX6_isSign_18 rfl ?_
      refine q_bipush (v := 90) C dX6_isSign_19 (by decide) ?_
      refine q_icmp_le (tgt := 30) C dX6_isSign_21 (by decide) (fun c3 => ?_) (fun c3 => ?_)
      · refine q_iload_n (j := 0) C dX6_isSign_30 rfl ?_
        refine q_bipush (v := 122) C dX6_isSign_31 (by decide) ?_
        refine q_icmp_le (tgt := 40) C dX6_isSign_33 (by decide) (fun c4 => ?_) (fun c4 => ?_)
        · refine q_iconst (v := 0) C dX6_isSign_40 (by decide) ?_
          exact q_zret C dX6_isSign_41 rfl (by decide) (Nat.le_of_ble_eq_true rfl) (Nat.le_of_ble_eq_true rfl) ⟨(by refine congrArg (fun z => some (Value.int z)) ?_; unfold sgn; (try simp only [i32_lt, i32_le, i32_eq, inn_f, Decidable.not_not, tn_m1, tn_0, tn_1, tn_2, tn_3, tn_4, tn_5, tn_6, tn_7, tn_8, tn_10, tn_30, tn_31, tn_32, tn_36, tn_40, tn_50, tn_100, tn_126, tn_200, tn_255, tn_500, tn_512, tn_3000, tn_5000] at c1); (try simp only [i32_lt, i32_le, i32_eq, inn_f, Decidable.not_not, tn_m1, tn_0, tn_1, tn_2, tn_3, tn_4, tn_5, tn_6, tn_7, tn_8, tn_10, tn_30, tn_31, tn_32, tn_36, tn_40, tn_50, tn_100, tn_126, tn_200, tn_255, tn_500, tn_512, tn_3000, tn_5000] at c2); (try simp only [i32_lt, i32_le, i32_eq, inn_f, Decidable.not_not, tn_m1, tn_0, tn_1, tn_2, tn_3, tn_4, tn_5, tn_6, tn_7, tn_8, tn_10, tn_30, tn_31, tn_32, tn_36, tn_40, tn_50, tn_100, tn_126, tn_200, tn_255, tn_500, tn_512, tn_3000, tn_5000] at c3); (try simp only [i32_lt, i32_le, i32_eq, inn_f, Decidable.not_not, tn_m1, tn_0, tn_1, tn_2, tn_3, tn_4, tn_5, tn_6, tn_7, tn_8, tn_10, tn_30, tn_31, tn_32, tn_36, tn_40, tn_50, tn_100, tn_126, tn_200, tn_255, tn_500, tn_512, tn_3000, tn_5000] at c4); split <;> rename_i hz <;> (try simp only [i32_lt, i32_le, i32_eq, inn_f, Decidable.not_not, tn_m1, tn_0, tn_1, tn_2, tn_3, tn_4, tn_5, tn_6, tn_7, tn_8, tn_10, tn_30, tn_31, tn_32, tn_36, tn_40, tn_50, tn_100, tn_126, tn_200, tn_255, tn_500, tn_512, tn_3000, tn_5000] at hz) <;> first | rfl | (exfalso; omega)), rfl, rfl⟩
        · refine q_iconst (v := 1) C dX6_isSign_36 (by decide) ?_
          refine q_goto (tgt := 41) C dX6_isSign_37 (by decide) ?_
          exact q_zret C dX6_isSign_41 rfl (by decide) (Nat.le_of_ble_eq_true rfl) (Nat.le_of_ble_eq_true rfl) ⟨(by refine congrArg (fun z => some (Value.int z)) ?_; unfold sgn; (try simp only [i32_lt, i32_le, i32_eq, inn_f, Decidable.not_not, tn_m1, tn_0, tn_1, tn_2, tn_3, tn_4, tn_5, tn_6, tn_7, tn_8, tn_10, tn_30, tn_31, tn_32, tn_36, tn_40, tn_50, tn_100, tn_126, tn_200, tn_255, tn_500, tn_512, tn_3000, tn_5000] at c1); (try simp only [i32_lt, i32_le, i32_eq, inn_f, Decidable.not_not, tn_m1, tn_0, tn_1, tn_2, tn_3, tn_4, tn_5, tn_6, tn_7, tn_8, tn_10, tn_30, tn_31, tn_32, tn_36, tn_40, tn_50, tn_100, tn_126, tn_200, tn_255, tn_500, tn_512, tn_3000, tn_5000] at c2); (try simp only [i32_lt, i32_le, i32_eq, inn_f, Decidable.not_not, tn_m1, tn_0, tn_1, tn_2, tn_3, tn_4, tn_5, tn_6, tn_7, tn_8, tn_10, tn_30, tn_31, tn_32, tn_36, tn_40, tn_50, tn_100, tn_126, tn_200, tn_255, tn_500, tn_512, tn_3000, tn_5000] at c3); (try simp only [i32_lt, i32_le, i32_eq, inn_f, Decidable.not_not, tn_m1, tn_0, tn_1, tn_2, tn_3, tn_4, tn_5, tn_6, tn_7, tn_8, tn_10, tn_30, tn_31, tn_32, tn_36, tn_40, tn_50, tn_100, tn_126, tn_200, tn_255, tn_500, tn_512, tn_3000, tn_5000] at c4); split <;> rename_i hz <;> (try simp only [i32_lt, i32_le, i32_eq, inn_f, Decidable.not_not, tn_m1, tn_0, tn_1, tn_2, tn_3, tn_4, tn_5, tn_6, tn_7, tn_8, tn_10, tn_30, tn_31, tn_32, tn_36, tn_40, tn_50, tn_100, tn_126, tn_200, tn_255, tn_500, tn_512, tn_3000, tn_5000] at hz) <;> first | rfl | (exfalso; omega)), rfl, rfl⟩
      · refine q_iload_n (j := 0) C dX6_isSign_24 rfl ?_
        refine q_bipush (v := 97) C dX6_isSign_25 (by decide) ?_
        refine q_icmp_lt (tgt := 36) C dX6_isSign_27 (by decide) (fun c5 => ?_) (fun c5 => ?_)
        · refine q_iconst (v := 1) C dX6_isSign_36 (by decide) ?_
          refine q_goto (tgt := 41) C dX6_isSign_37 (by decide) ?_
          exact q_zret C dX6_isSign_41 rfl (by decide) (Nat.le_of_ble_eq_true rfl) (Nat.le_of_ble_eq_true rfl) ⟨(by refine congrArg (fun z => some (Value.int z)) ?_; unfold sgn; (try simp only [i32_lt, i32_le, i32_eq, inn_f, Decidable.not_not, tn_m1, tn_0, tn_1, tn_2, tn_3, tn_4, tn_5, tn_6, tn_7, tn_8, tn_10, tn_30, tn_31, tn_32, tn_36, tn_40, tn_50, tn_100, tn_126, tn_200, tn_255, tn_500, tn_512, tn_3000, tn_5000] at c1); (try simp only [i32_lt, i32_le, i32_eq, inn_f, Decidable.not_not, tn_m1, tn_0, tn_1, tn_2, tn_3, tn_4, tn_5, tn_6, tn_7, tn_8, tn_10, tn_30, tn_31, tn_32, tn_36, tn_40, tn_50, tn_100, tn_126, tn_200, tn_255, tn_500, tn_512, tn_3000, tn_5000] at c2); (try simp only [i32_lt, i32_le, i32_eq, inn_f, Decidable.not_not, tn_m1, tn_0, tn_1, tn_2, tn_3, tn_4, tn_5, tn_6, tn_7, tn_8, tn_10, tn_30, tn_31, tn_32, tn_36, tn_40, tn_50, tn_100, tn_126, tn_200, tn_255, tn_500, tn_512, tn_3000, tn_5000] at c3); (try simp only [i32_lt, i32_le, i32_eq, inn_f, Decidable.not_not, tn_m1, tn_0, tn_1, tn_2, tn_3, tn_4, tn_5, tn_6, tn_7, tn_8, tn_10, tn_30, tn_31, tn_32, tn_36, tn_40, tn_50, tn_100, tn_126, tn_200, tn_255, tn_500, tn_512, tn_3000, tn_5000] at c5); split <;> rename_i hz <;> (try simp only [i32_lt, i32_le, i32_eq, inn_f, Decidable.not_not, tn_m1, tn_0, tn_1, tn_2, tn_3, tn_4, tn_5, tn_6, tn_7, tn_8, tn_10, tn_30, tn_31, tn_32, tn_36, tn_40, tn_50, tn_100, tn_126, tn_200, tn_255, tn_500, tn_512, tn_3000, tn_5000] at hz) <;> first | rfl | (exfalso; omega)), rfl, rfl⟩
        · refine q_iload_n (j := 0) C dX6_isSign_30 rfl ?_
          refine q_bipush (v := 122) C dX6_isSign_31 (by decide) ?_
          refine q_icmp_le (tgt := 40) C dX6_isSign_33 (by decide) (fun c6 => ?_) (fun c6 => ?_)
          · refine q_iconst (v := 0) C dX6_isSign_40 (by decide) ?_
            exact q_zret C dX6_isSign_41 rfl (by decide) (Nat.le_of_ble_eq_true rfl) (Nat.le_of_ble_eq_true rfl) ⟨(by refine congrArg (fun z => some (Value.int z)) ?_; unfold sgn; (try simp only [i32_lt, i32_le, i32_eq, inn_f, Decidable.not_not, tn_m1, tn_0, tn_1, tn_2, tn_3, tn_4, tn_5, tn_6, tn_7, tn_8, tn_10, tn_30, tn_31, tn_32, tn_36, tn_40, tn_50, tn_100, tn_126, tn_200, tn_255, tn_500, tn_512, tn_3000, tn_5000] at c1); (try simp only [i32_lt, i32_le, i32_eq, inn_f, Decidable.not_not, tn_m1, tn_0, tn_1, tn_2, tn_3, tn_4, tn_5, tn_6, tn_7, tn_8, tn_10, tn_30, tn_31, tn_32, tn_36, tn_40, tn_50, tn_100, tn_126, tn_200, tn_255, tn_500, tn_512, tn_3000, tn_5000] at c2); (try simp only [i32_lt, i32_le, i32_eq, inn_f, Decidable.not_not, tn_m1, tn_0, tn_1, tn_2, tn_3, tn_4, tn_5, tn_6, tn_7, tn_8, tn_10, tn_30, tn_31, tn_32, tn_36, tn_40, tn_50, tn_100, tn_126, tn_200, tn_255, tn_500, tn_512, tn_3000, tn_5000] at c3); (try simp only [i32_lt, i32_le, i32_eq, inn_f, Decidable.not_not, tn_m1, tn_0, tn_1, tn_2, tn_3, tn_4, tn_5, tn_6, tn_7, tn_8, tn_10, tn_30, tn_31, tn_32, tn_36, tn_40, tn_50, tn_100, tn_126, tn_200, tn_255, tn_500, tn_512, tn_3000, tn_5000] at c5); (try simp only [i32_lt, i32_le, i32_eq, inn_f, Decidable.not_not, tn_m1, tn_0, tn_1, tn_2, tn_3, tn_4, tn_5, tn_6, tn_7, tn_8, tn_10, tn_30, tn_31, tn_32, tn_36, tn_40, tn_50, tn_100, tn_126, tn_200, tn_255, tn_500, tn_512, tn_3000, tn_5000] at c6); split <;> rename_i hz <;> (try simp only [i32_lt, i32_le, i32_eq, inn_f, Decidable.not_not, tn_m1, tn_0, tn_1, tn_2, tn_3, tn_4, tn_5, tn_6, tn_7, tn_8, tn_10, tn_30, tn_31, tn_32, tn_36, tn_40, tn_50, tn_100, tn_126, tn_200, tn_255, tn_500, tn_512, tn_3000, tn_5000] at hz) <;> first | rfl | (exfalso; omega)), rfl, rfl⟩
          · refine q_iconst (v := 1) C dX6_isSign_36 (by decide) ?_
            refine q_goto (tgt := 41) C dX6_isSign_37 (by decide) ?_
            exact q_zret C dX6_isSign_41 rfl (by decide) (Nat.le_of_ble_eq_true rfl) (Nat.le_of_ble_eq_true rfl) ⟨(by refine congrArg (fun z => some (Value.int z)) ?_; unfold sgn; (try simp only [i32_lt, i32_le, i32_eq, inn_f, Decidable.not_not, tn_m1, tn_0, tn_1, tn_2, tn_3, tn_4, tn_5, tn_6, tn_7, tn_8, tn_10, tn_30, tn_31, tn_32, tn_36, tn_40, tn_50, tn_100, tn_126, tn_200, tn_255, tn_500, tn_512, tn_3000, tn_5000] at c1); (try simp only [i32_lt, i32_le, i32_eq, inn_f, Decidable.not_not, tn_m1, tn_0, tn_1, tn_2, tn_3, tn_4, tn_5, tn_6, tn_7, tn_8, tn_10, tn_30, tn_31, tn_32, tn_36, tn_40, tn_50, tn_100, tn_126, tn_200, tn_255, tn_500, tn_512, tn_3000, tn_5000] at c2); (try simp only [i32_lt, i32_le, i32_eq, inn_f, Decidable.not_not, tn_m1, tn_0, tn_1, tn_2, tn_3, tn_4, tn_5, tn_6, tn_7, tn_8, tn_10, tn_30, tn_31, tn_32, tn_36, tn_40, tn_50, tn_100, tn_126, tn_200, tn_255, tn_500, tn_512, tn_3000, tn_5000] at c3); (try simp only [i32_lt, i32_le, i32_eq, inn_f, Decidable.not_not, tn_m1, tn_0, tn_1, tn_2, tn_3, tn_4, tn_5, tn_6, tn_7, tn_8, tn_10, tn_30, tn_31, tn_32, tn_36, tn_40, tn_50, tn_100, tn_126, tn_200, tn_255, tn_500, tn_512, tn_3000, tn_5000] at c5); (try simp only [i32_lt, i32_le, i32_eq, inn_f, Decidable.not_not, tn_m1, tn_0, tn_1, tn_2, tn_3, tn_4, tn_5, tn_6, tn_7, tn_8, tn_10, tn_30, tn_31, tn_32, tn_36, tn_40, tn_50, tn_100, tn_126, tn_200, tn_255, tn_500, tn_512, tn_3000, tn_5000] at c6); split <;> rename_i hz <;> (try simp only [i32_lt, i32_le, i32_eq, inn_f, Decidable.not_not, tn_m1, tn_0, tn_1, tn_2, tn_3, tn_4, tn_5, tn_6, tn_7, tn_8, tn_10, tn_30, tn_31, tn_32, tn_36, tn_40, tn_50, tn_100, tn_126, tn_200, tn_255, tn_500, tn_512, tn_3000, tn_5000] at hz) <;> first | rfl | (exfalso; omega)), rfl, rfl⟩
    · refine q_iload_n (j := 0) C dX6_isSign_12 rfl ?_
      refine q_bipush (v := 65) C dX6_isSign_13 (by decide) ?_
      refine q_icmp_lt (tgt := 36) C dX6_isSign_15 (by decide) (fun c7 => ?_) (fun c7 => ?_)
      · refine q_iconst (v := 1) C dX6_isSign_36 (by decide) ?_
        refine q_goto (tgt := 41) C dX6_isSign_37 (by decide) ?_
        exact q_zret C dX6_isSign_41 rfl (by decide) (Nat.le_of_ble_eq_true rfl) (Nat.le_of_ble_eq_true rfl) ⟨(by refine congrArg (fun z => some (Value.int z)) ?_; unfold sgn; (try simp only [i32_lt, i32_le, i32_eq, inn_f, Decidable.not_not, tn_m1, tn_0, tn_1, tn_2, tn_3, tn_4, tn_5, tn_6, tn_7, tn_8, tn_10, tn_30, tn_31, tn_32, tn_36, tn_40, tn_50, tn_100, tn_126, tn_200, tn_255, tn_500, tn_512, tn_3000, tn_5000] at c1); (try simp only [i32_lt, i32_le, i32_eq, inn_f, Decidable.not_not, tn_m1, tn_0, tn_1, tn_2, tn_3, tn_4, tn_5, tn_6, tn_7, tn_8, tn_10, tn_30, tn_31, tn_32, tn_36, tn_40, tn_50, tn_100, tn_126, tn_200, tn_255, tn_500, tn_512, tn_3000, tn_5000] at c2); (try simp only [i32_lt, i32_le, i32_eq, inn_f, Decidable.not_not, tn_m1, tn_0, tn_1, tn_2, tn_3, tn_4, tn_5, tn_6, tn_7, tn_8, tn_10, tn_30, tn_31, tn_32, tn_36, tn_40, tn_50, tn_100, tn_126, tn_200, tn_255, tn_500, tn_512, tn_3000, tn_5000] at c7); split <;> rename_i hz <;> (try simp only [i32_lt, i32_le, i32_eq, inn_f, Decidable.not_not, tn_m1, tn_0, tn_1, tn_2, tn_3, tn_4, tn_5, tn_6, tn_7, tn_8, tn_10, tn_30, tn_31, tn_32, tn_36, tn_40, tn_50, tn_100, tn_126, tn_200, tn_255, tn_500, tn_512, tn_3000, tn_5000] at hz) <;> first | rfl | (exfalso; omega)), rfl, rfl⟩
      · refine q_iload_n (j := 0) C dX6_isSign_18 rfl ?_
        refine q_bipush (v := 90) C dX6_isSign_19 (by decide) ?_
        refine q_icmp_le (tgt := 30) C dX6_isSign_21 (by decide) (fun c8 => ?_) (fun c8 => ?_)
        · refine q_iload_n (j := 0) C dX6_isSign_30 rfl ?_
          refine q_bipush (v := 122) C dX6_isSign_31 (by decide) ?_
          refine q_icmp_le (tgt := 40) C dX6_isSign_33 (by decide) (fun c9 => ?_) (fun c9 => ?_)
          · refine q_iconst (v := 0) C dX6_isSign_40 (by decide) ?_
            exact q_zret C dX6_isSign_41 rfl (by decide) (Nat.le_of_ble_eq_true rfl) (Nat.le_of_ble_eq_true rfl) ⟨(by refine congrArg (fun z => some (Value.int z)) ?_; unfold sgn; (try simp only [i32_lt, i32_le, i32_eq, inn_f, Decidable.not_not, tn_m1, tn_0, tn_1, tn_2, tn_3, tn_4, tn_5, tn_6, tn_7, tn_8, tn_10, tn_30, tn_31, tn_32, tn_36, tn_40, tn_50, tn_100, tn_126, tn_200, tn_255, tn_500, tn_512, tn_3000, tn_5000] at c1); (try simp only [i32_lt, i32_le, i32_eq, inn_f, Decidable.not_not, tn_m1, tn_0, tn_1, tn_2, tn_3, tn_4, tn_5, tn_6, tn_7, tn_8, tn_10, tn_30, tn_31, tn_32, tn_36, tn_40, tn_50, tn_100, tn_126, tn_200, tn_255, tn_500, tn_512, tn_3000, tn_5000] at c2); (try simp only [i32_lt, i32_le, i32_eq, inn_f, Decidable.not_not, tn_m1, tn_0, tn_1, tn_2, tn_3, tn_4, tn_5, tn_6, tn_7, tn_8, tn_10, tn_30, tn_31, tn_32, tn_36, tn_40, tn_50, tn_100, tn_126, tn_200, tn_255, tn_500, tn_512, tn_3000, tn_5000] at c7); (try simp only [i32_lt, i32_le, i32_eq, inn_f, Decidable.not_not, tn_m1, tn_0, tn_1, tn_2, tn_3, tn_4, tn_5, tn_6, tn_7, tn_8, tn_10, tn_30, tn_31, tn_32, tn_36, tn_40, tn_50, tn_100, tn_126, tn_200, tn_255, tn_500, tn_512, tn_3000, tn_5000] at c8); (try simp only [i32_lt, i32_le, i32_eq, inn_f, Decidable.not_not, tn_m1, tn_0, tn_1, tn_2, tn_3, tn_4, tn_5, tn_6, tn_7, tn_8, tn_10, tn_30, tn_31, tn_32, tn_36, tn_40, tn_50, tn_100, tn_126, tn_200, tn_255, tn_500, tn_512, tn_3000, tn_5000] at c9); split <;> rename_i hz <;> (try simp only [i32_lt, i32_le, i32_eq, inn_f, Decidable.not_not, tn_m1, tn_0, tn_1, tn_2, tn_3, tn_4, tn_5, tn_6, tn_7, tn_8, tn_10, tn_30, tn_31, tn_32, tn_36, tn_40, tn_50, tn_100, tn_126, tn_200, tn_255, tn_500, tn_512, tn_3000, tn_5000] at hz) <;> first | rfl | (exfalso; omega)), rfl, rfl⟩
          · refine q_iconst (v := 1) C dX6_isSign_36 (by decide) ?_
            refine q_goto (tgt := 41) C dX6_isSign_37 (by decide) ?_
            exact q_zret C dX6_isSign_41 rfl (by decide) (Nat.le_of_ble_eq_true rfl) (Nat.le_of_ble_eq_true rfl) ⟨(by refine congrArg (fun z => some (Value.int z)) ?_; unfold sgn; (try simp only [i32_lt, i32_le, i32_eq, inn_f, Decidable.not_not, tn_m1, tn_0, tn_1, tn_2, tn_3, tn_4, tn_5, tn_6, tn_7, tn_8, tn_10, tn_30, tn_31, tn_32, tn_36, tn_40, tn_50, tn_100, tn_126, tn_200, tn_255, tn_500, tn_512, tn_3000, tn_5000] at c1); (try simp only [i32_lt, i32_le, i32_eq, inn_f, Decidable.not_not, tn_m1, tn_0, tn_1, tn_2, tn_3, tn_4, tn_5, tn_6, tn_7, tn_8, tn_10, tn_30, tn_31, tn_32, tn_36, tn_40, tn_50, tn_100, tn_126, tn_200, tn_255, tn_500, tn_512, tn_3000, tn_5000] at c2); (try simp only [i32_lt, i32_le, i32_eq, inn_f, Decidable.not_not, tn_m1, tn_0, tn_1, tn_2, tn_3, tn_4, tn_5, tn_6, tn_7, tn_8, tn_10, tn_30, tn_31, tn_32, tn_36, tn_40, tn_50, tn_100, tn_126, tn_200, tn_255, tn_500, tn_512, tn_3000, tn_5000] at c7); (try simp only [i32_lt, i32_le, i32_eq, inn_f, Decidable.not_not, tn_m1, tn_0, tn_1, tn_2, tn_3, tn_4, tn_5, tn_6, tn_7, tn_8, tn_10, tn_30, tn_31, tn_32, tn_36, tn_40, tn_50, tn_100, tn_126, tn_200, tn_255, tn_500, tn_512, tn_3000, tn_5000] at c8); (try simp only [i32_lt, i32_le, i32_eq, inn_f, Decidable.not_not, tn_m1, tn_0, tn_1, tn_2, tn_3, tn_4, tn_5, tn_6, tn_7, tn_8, tn_10, tn_30, tn_31, tn_32, tn_36, tn_40, tn_50, tn_100, tn_126, tn_200, tn_255, tn_500, tn_512, tn_3000, tn_5000] at c9); split <;> rename_i hz <;> (try simp only [i32_lt, i32_le, i32_eq, inn_f, Decidable.not_not, tn_m1, tn_0, tn_1, tn_2, tn_3, tn_4, tn_5, tn_6, tn_7, tn_8, tn_10, tn_30, tn_31, tn_32, tn_36, tn_40, tn_50, tn_100, tn_126, tn_200, tn_255, tn_500, tn_512, tn_3000, tn_5000] at hz) <;> first | rfl | (exfalso; omega)), rfl, rfl⟩
        · refine q_iload_n (j := 0) C dX6_isSign_24 rfl ?_
          refine q_bipush (v := 97) C dX6_isSign_25 (by decide) ?_
          refine q_icmp_lt (tgt := 36) C dX6_isSign_27 (by decide) (fun c10 => ?_) (fun c10 => ?_)
          · refine q_iconst (v := 1) C dX6_isSign_36 (by decide) ?_
            refine q_goto (tgt := 41) C dX6_isSign_37 (by decide) ?_
            exact q_zret C dX6_isSign_41 rfl (by decide) (Nat.le_of_ble_eq_true rfl) (Nat.le_of_ble_eq_true rfl) ⟨(by refine congrArg (fun z => some (Value.int z)) ?_; unfold sgn; (try simp only [i32_lt, i32_le, i32_eq, inn_f, Decidable.not_not, tn_m1, tn_0, tn_1, tn_2, tn_3, tn_4, tn_5, tn_6, tn_7, tn_8, tn_10, tn_30, tn_31, tn_32, tn_36, tn_40, tn_50, tn_100, tn_126, tn_200, tn_255, tn_500, tn_512, tn_3000, tn_5000] at c1); (try simp only [i32_lt, i32_le, i32_eq, inn_f, Decidable.not_not, tn_m1, tn_0, tn_1, tn_2, tn_3, tn_4, tn_5, tn_6, tn_7, tn_8, tn_10, tn_30, tn_31, tn_32, tn_36, tn_40, tn_50, tn_100, tn_126, tn_200, tn_255, tn_500, tn_512, tn_3000, tn_5000] at c10); (try simp only [i32_lt, i32_le, i32_eq, inn_f, Decidable.not_not, tn_m1, tn_0, tn_1, tn_2, tn_3, tn_4, tn_5, tn_6, tn_7, tn_8, tn_10, tn_30, tn_31, tn_32, tn_36, tn_40, tn_50, tn_100, tn_126, tn_200, tn_255, tn_500, tn_512, tn_3000, tn_5000] at c2); (try simp only [i32_lt, i32_le, i32_eq, inn_f, Decidable.not_not, tn_m1, tn_0, tn_1, tn_2, tn_3, tn_4, tn_5, tn_6, tn_7, tn_8, tn_10, tn_30, tn_31, tn_32, tn_36, tn_40, tn_50, tn_100, tn_126, tn_200, tn_255, tn_500, tn_512, tn_3000, tn_5000] at c7); (try simp only [i32_lt, i32_le, i32_eq, inn_f, Decidable.not_not, tn_m1, tn_0, tn_1, tn_2, tn_3, tn_4, tn_5, tn_6, tn_7, tn_8, tn_10, tn_30, tn_31, tn_32, tn_36, tn_40, tn_50, tn_100, tn_126, tn_200, tn_255, tn_500, tn_512, tn_3000, tn_5000] at c8); split <;> rename_i hz <;> (try simp only [i32_lt, i32_le, i32_eq, inn_f, Decidable.not_not, tn_m1, tn_0, tn_1, tn_2, tn_3, tn_4, tn_5, tn_6, tn_7, tn_8, tn_10, tn_30, tn_31, tn_32, tn_36, tn_40, tn_50, tn_100, tn_126, tn_200, tn_255, tn_500, tn_512, tn_3000, tn_5000] at hz) <;> first | rfl | (exfalso; omega)), rfl, rfl⟩
          · refine q_iload_n (j := 0) C dX6_isSign_30 rfl ?_
            refine q_bipush (v := 122) C dX6_isSign_31 (by decide) ?_
            refine q_icmp_le (tgt := 40) C dX6_isSign_33 (by decide) (fun c11 => ?_) (fun c11 => ?_)
            · refine q_iconst (v := 0) C dX6_isSign_40 (by decide) ?_
              exact q_zret C dX6_isSign_41 rfl (by decide) (Nat.le_of_ble_eq_true rfl) (Nat.le_of_ble_eq_true rfl) ⟨(by refine congrArg (fun z => some (Value.int z)) ?_; unfold sgn; (try simp only [i32_lt, i32_le, i32_eq, inn_f, Decidable.not_not, tn_m1, tn_0, tn_1, tn_2, tn_3, tn_4, tn_5, tn_6, tn_7, tn_8, tn_10, tn_30, tn_31, tn_32, tn_36, tn_40, tn_50, tn_100, tn_126, tn_200, tn_255, tn_500, tn_512, tn_3000, tn_5000] at c1); (try simp only [i32_lt, i32_le, i32_eq, inn_f, Decidable.not_not, tn_m1, tn_0, tn_1, tn_2, tn_3, tn_4, tn_5, tn_6, tn_7, tn_8, tn_10, tn_30, tn_31, tn_32, tn_36, tn_40, tn_50, tn_100, tn_126, tn_200, tn_255, tn_500, tn_512, tn_3000, tn_5000] at c10); (try simp only [i32_lt, i32_le, i32_eq, inn_f, Decidable.not_not, tn_m1, tn_0, tn_1, tn_2, tn_3, tn_4, tn_5, tn_6, tn_7, tn_8, tn_10, tn_30, tn_31, tn_32, tn_36, tn_40, tn_50, tn_100, tn_126, tn_200, tn_255, tn_500, tn_512, tn_3000, tn_5000] at c11); (try simp only [i32_lt, i32_le, i32_eq, inn_f, Decidable.not_not, tn_m1, tn_0, tn_1, tn_2, tn_3, tn_4, tn_5, tn_6, tn_7, tn_8, tn_10, tn_30, tn_31, tn_32, tn_36, tn_40, tn_50, tn_100, tn_126, tn_200, tn_255, tn_500, tn_512, tn_3000, tn_5000] at c2); (try simp only [i32_lt, i32_le, i32_eq, inn_f, Decidable.not_not, tn_m1, tn_0, tn_1, tn_2, tn_3, tn_4, tn_5, tn_6, tn_7, tn_8, tn_10, tn_30, tn_31, tn_32, tn_36, tn_40, tn_50, tn_100, tn_126, tn_200, tn_255, tn_500, tn_512, tn_3000, tn_5000] at c7); (try simp only [i32_lt, i32_le, i32_eq, inn_f, Decidable.not_not, tn_m1, tn_0, tn_1, tn_2, tn_3, tn_4, tn_5, tn_6, tn_7, tn_8, tn_10, tn_30, tn_31, tn_32, tn_36, tn_40, tn_50, tn_100, tn_126, tn_200, tn_255, tn_500, tn_512, tn_3000, tn_5000] at c8); split <;> rename_i hz <;> (try simp only [i32_lt, i32_le, i32_eq, inn_f, Decidable.not_not, tn_m1, tn_0, tn_1, tn_2, tn_3, tn_4, tn_5, tn_6, tn_7, tn_8, tn_10, tn_30, tn_31, tn_32, tn_36, tn_40, tn_50, tn_100, tn_126, tn_200, tn_255, tn_500, tn_512, tn_3000, tn_5000] at hz) <;> first | rfl | (exfalso; omega)), rfl, rfl⟩
            · refine q_iconst (v := 1) C dX6_isSign_36 (by decide) ?_
              refine q_goto (tgt := 41) C dX6_isSign_37 (by decide) ?_
              exact q_zret C dX6_isSign_41 rfl (by decide) (Nat.le_of_ble_eq_true rfl) (Nat.le_of_ble_eq_true rfl) ⟨(by refine congrArg (fun z => some (Value.int z)) ?_; unfold sgn; (try simp only [i32_lt, i32_le, i32_eq, inn_f, Decidable.not_not, tn_m1, tn_0, tn_1, tn_2, tn_3, tn_4, tn_5, tn_6, tn_7, tn_8, tn_10, tn_30, tn_31, tn_32, tn_36, tn_40, tn_50, tn_100, tn_126, tn_200, tn_255, tn_500, tn_512, tn_3000, tn_5000] at c1); (try simp only [i32_lt, i32_le, i32_eq, inn_f, Decidable.not_not, tn_m1, tn_0, tn_1, tn_2, tn_3, tn_4, tn_5, tn_6, tn_7, tn_8, tn_10, tn_30, tn_31, tn_32, tn_36, tn_40, tn_50, tn_100, tn_126, tn_200, tn_255, tn_500, tn_512, tn_3000, tn_5000] at c10); (try simp only [i32_lt, i32_le, i32_eq, inn_f, Decidable.not_not, tn_m1, tn_0, tn_1, tn_2, tn_3, tn_4, tn_5, tn_6, tn_7, tn_8, tn_10, tn_30, tn_31, tn_32, tn_36, tn_40, tn_50, tn_100, tn_126, tn_200, tn_255, tn_500, tn_512, tn_3000, tn_5000] at c11); (try simp only [i32_lt, i32_le, i32_eq, inn_f, Decidable.not_not, tn_m1, tn_0, tn_1, tn_2, tn_3, tn_4, tn_5, tn_6, tn_7, tn_8, tn_10, tn_30, tn_31, tn_32, tn_36, tn_40, tn_50, tn_100, tn_126, tn_200, tn_255, tn_500, tn_512, tn_3000, tn_5000] at c2); (try simp only [i32_lt, i32_le, i32_eq, inn_f, Decidable.not_not, tn_m1, tn_0, tn_1, tn_2, tn_3, tn_4, tn_5, tn_6, tn_7, tn_8, tn_10, tn_30, tn_31, tn_32, tn_36, tn_40, tn_50, tn_100, tn_126, tn_200, tn_255, tn_500, tn_512, tn_3000, tn_5000] at c7); (try simp only [i32_lt, i32_le, i32_eq, inn_f, Decidable.not_not, tn_m1, tn_0, tn_1, tn_2, tn_3, tn_4, tn_5, tn_6, tn_7, tn_8, tn_10, tn_30, tn_31, tn_32, tn_36, tn_40, tn_50, tn_100, tn_126, tn_200, tn_255, tn_500, tn_512, tn_3000, tn_5000] at c8); split <;> rename_i hz <;> (try simp only [i32_lt, i32_le, i32_eq, inn_f, Decidable.not_not, tn_m1, tn_0, tn_1, tn_2, tn_3, tn_4, tn_5, tn_6, tn_7, tn_8, tn_10, tn_30, tn_31, tn_32, tn_36, tn_40, tn_50, tn_100, tn_126, tn_200, tn_255, tn_500, tn_512, tn_3000, tn_5000] at hz) <;> first | rfl | (exfalso; omega)), rfl, rfl⟩
theorem c_lveq {p : Program} {l : Launch} {e : Env} {d0 r0 : Nat} {s : State} {m : MethodId} {args : Array Value} {below : List Frame} {meth : Method} {c : Code} {G : GT} {A : Nat → Prop} {nL : Nat} {Q : State → Prop} {Pf : PF} {ph : Nat} {L : List Nat} {cl ln : Nat → Nat} {iv : Nat → Nat → Int} {rv : Nat → Nat → Option Nat} {K pc : Nat} {lv lv2 : List (Nat × Value)} {st : List Value} (h : lv = lv2) (k : cw p l e d0 r0 s m args below meth c G A nL Q Pf ph L cl ln iv rv K pc lv2 st) : cw p l e d0 r0 s m args below meth c G A nL Q Pf ph L cl ln iv rv K pc lv st := by subst h; exact k
theorem nar2 {z : Int} (h : z = 0 ∨ z = 1) : narrow .boolean (.int (iI z)) = .int (iI z) ∧ fits .boolean (.int (iI z)) = true := by rcases h with rfl | rfl <;> exact ⟨by decide, by decide⟩
theorem WT.copy {g : Nat} {sk : Nat → Nat} {L : List Nat} {cl ln : Nat → Nat} {iv iv2 : Nat → Nat → Int} {rv : Nat → Nat → Option Nat} {a b T T2 : Nat} {P : Nat → Prop} {F : Nat → Nat} [DecidablePred P] (h : WT g sk L cl ln iv rv) (he : iv2 = fun w j => if w = b then (if P j then iv a (F j) else iv b j) else iv w j) (hb : ty L cl b T2) (ha : ty L cl a T) (h1 : ∀ k, ilo T k = -2147483648) (h2 : ∀ k, ihi T k = 2147483647) (h3 : ∀ k, ilo T2 k = -2147483648) (h4 : ∀ k, ihi T2 k = 2147483647) (hs : szd T2 = false) : WT g sk L cl ln iv2 rv := by
  subst he
  obtain ⟨q1, q2, q3, q4, q5, q6⟩ := id h
  have hk : ∀ w, szd (bt (cl w)) = true → (fun j => if w = b then (if P j then iv a (F j) else iv b j) else iv w j) = iv w := by
    intro w hw
    funext j
    rw [if_neg (fun e => by subst e; rw [hb.2, hs] at hw; cases hw)]
  refine ⟨fun w hw k => ?_, q2, q3, fun w hw hz => ?_, fun w hw hz => ?_, q6⟩
  · by_cases e : w = b
    · subst e
      show ilo _ k ≤ (if w = w then (if P k then iv a (F k) else iv w k) else iv w k) ∧ (if w = w then (if P k then iv a (F k) else iv w k) else iv w k) ≤ ihi _ k
      rw [if_pos rfl]
      by_cases hp : P k
      · rw [if_pos hp, hb.2, h3, h4]
        have q := h.int ha (F k)
        rw [h1, h2] at q; exact q
      · rw [if_neg hp]; exact q1 w hw k
    · show ilo _ k ≤ (if w = b then (if P k then iv a (F k) else iv b k) else iv w k) ∧ (if w = b then (if P k then iv a (F k) else iv b k) else iv w k) ≤ ihi _ k
      rw [if_neg e]; exact q1 w hw k
  · have e2 := congrFun (hk w hz) 2
    dsimp only at e2 ⊢
    rw [e2]; exact q4 w hw hz
  · have e2 := congrFun (hk w (lst_szd hz)) 2
    dsimp only at e2 ⊢
    rw [e2]; exact q5 w hw hz
theorem fT.copy {ls : List Nat} {L L2 : List Nat} {cl ln cl2 ln2 : Nat → Nat} {iv iv2 iv3 : Nat → Nat → Int} {rv rv2 : Nat → Nat → Option Nat} {b T : Nat} {X : Nat → Int} (h : fT ls L cl iv rv iv2 rv2) (hX : XT L cl ln L2 cl2 ln2) (he : iv3 = fun w j => if w = b then X j else iv2 w j) (hb : ty L2 cl2 b T) (hc : ls.contains T = true) : fT ls L cl iv rv iv3 rv2 := by
  intro w hw hq
  refine ⟨?_, (h w hw hq).2⟩
  rw [he]
  funext j
  dsimp only
  rw [if_neg (fun e => ?_)]
  · rw [(h w hw hq).1]
  · subst e; rw [← (hX w hw).2.1, hb.2, hc] at hq; cases hq
theorem narr (x : Option Nat) {t : FieldType} (h : (∃ n, t = .object n) ∨ ∃ u, t = .array u) : narrow t (va_rf x) = va_rf x ∧ fits t (va_rf x) = true := by
  rcases h with ⟨n, rfl⟩ | ⟨n, rfl⟩ <;> cases x <;> exact ⟨rfl, rfl⟩
theorem zp2 {K K2 : Nat} {ln ln2 : Nat → Nat} {rv rv2 : Nat → Nat → Option Nat} (h : K ≤ K2) : zPf ln rv + K ≤ zPf ln2 rv2 + K2 := by unfold zPf; omega
theorem rok_some {L : List Nat} {cl : Nat → Nat} {g a k b T T2 : Nat} (ha : ty L cl a T) (hb : ty L cl b T2) (ht : tgt T k = T2) (h1 : T ≠ 100) (h2 : lst T = false) : rok L cl g a k (some b) := by
  intro _
  refine ⟨fun q => (by cases q), fun c hc => ?_⟩
  cases hc
  refine Or.inl ⟨hb.1, by rw [hb.2, ha.2, ht], ?_, ?_⟩
  · intro q; rw [ha.2] at q; exact absurd q h1
  · intro q; rw [ha.2, h2] at q; cases q
end
section
def CT (iv : Nat → Nat → Int) (rv : Nat → Nat → Option Nat) (q : Nat) (ss : Nat → Int) : Prop := ∀ b, rv q 1 = some b → ∀ j : Nat, (j : Int) < iv q 2 → iv b j = ss j
section CTS
variable {g : Nat} {sk : Nat → Nat} {L : List Nat} {cl ln : Nat → Nat} {iv iv2 : Nat → Nat → Int} {rv rv2 : Nat → Nat → Option Nat} {q T : Nat} {ls : List Nat} {ss : Nat → Int}
theorem CT.zero (h : iv q 2 = 0) : CT iv rv q ss := fun _ _ j hj => absurd hj (by omega)
theorem CT.cut (h : CT iv rv q ss) (hW : WT g sk L cl ln iv rv) (tq : ty L cl q T) (hF : fT ls L cl iv rv iv2 rv2) (h2 : ls.contains (tgt T 1) = false) (hr : raw T = false) (hl : (lst T && 1 == 1) = false) (hn : nul T 1 = false) (hv : rv2 q 1 = rv q 1) (hs : iv2 q 2 ≤ iv q 2) : CT iv2 rv2 q ss := by
  obtain ⟨b, hb, tb⟩ := hW.ref tq 1 hr hl hn
  intro b2 hb2 j hj
  rw [hv, hb] at hb2
  cases hb2
  rw [hF.i tb h2 j]
  exact h b hb j (by omega)
theorem CT.fr (h : CT iv rv q ss) (hW : WT g sk L cl ln iv rv) (tq : ty L cl q T) (hF : fT ls L cl iv rv iv2 rv2) (h1 : ls.contains T = false) (h2 : ls.contains (tgt T 1) = false) (hr : raw T = false) (hl : (lst T && 1 == 1) = false) (hn : nul T 1 = false) : CT iv2 rv2 q ss :=
  h.cut hW tq hF h2 hr hl hn (hF.r tq h1 1) (by rw [hF.i tq h1 2]; omega)
theorem CT.frn (h : CT iv rv q ss) (hW : WT g sk L cl ln iv2 rv) (tq : ty L cl q T) (hF : fT ls L cl iv rv iv2 rv) (h1 : ls.contains T = false) (h2 : ls.contains (tgt T 1) = false) (hr : raw T = false) (hl : (lst T && 1 == 1) = false) (hn : nul T 1 = false) : CT iv2 rv q ss := by
  obtain ⟨b, hb, tb⟩ := hW.ref tq 1 hr hl hn
  intro b2 hb2 j hj
  rw [hb] at hb2
  cases hb2
  rw [hF.i tq h1 2] at hj
  rw [hF.i tb h2 j]
  exact h b hb j hj
def APD (iv : Nat → Nat → Int) (rv : Nat → Nat → Option Nat) (q r : Nat) (iv2 : Nat → Nat → Int) (rv2 : Nat → Nat → Option Nat) : Prop := ∀ ss tt, CT iv rv r ss → CT iv rv q tt → iv q 2 + iv r 2 ≤ 500 → CT iv2 rv2 q (apd tt (iv q 2).toNat ss)
theorem APD.zero {r : Nat} : APD iv rv q r iv rv := fun ss tt _ h2 _ b hb j hj => by
  rw [h2 b hb j hj]
  unfold apd
  rw [if_pos (by omega)]
theorem APD.step {r : Nat} {iv1 : Nat → Nat → Int} {rv1 : Nat → Nat → Option Nat} {x k : Int} (h : APD iv rv q r iv1 rv1) (g : ∀ ss, CT iv1 rv1 q ss → iv1 q 2 < 500 → CT iv2 rv2 q (va_up ss (iv1 q 2).toNat x)) (hm : iv1 q 2 = min (iv q 2 + k) 500) (hx : ∀ ss, CT iv rv r ss → x = ss k.toNat) (hk : 0 ≤ k ∧ k < iv r 2) (h0 : 0 ≤ iv q 2) : APD iv rv q r iv2 rv2 := fun ss tt h1 h2 h3 => by
  have w := g _ (h ss tt h1 h2 h3) (by omega)
  have e : va_up (apd tt (iv q 2).toNat ss) (iv1 q 2).toNat x = apd tt (iv q 2).toNat ss := by
    funext j
    unfold va_up
    split
    · rename_i e
      rw [e, hx ss h1]
      unfold apd
      rw [if_neg (by omega)]
      exact congrArg ss (by omega)
    · rfl
  rw [e] at w
  exact w
def byx (x : Int) (i : Nat) : Int := (((iI x).toUInt32 >>> ((iI (24 - 8 * (i : Int))).toUInt32 &&& Int32.toUInt32 31)).toInt32 &&& iI 255).toInt
def fdp (ss : Nat → Int) (n : Nat) (x : Int) : Nat → (Nat → Int)
  | 0 => ss
  | i + 1 => va_up (fdp ss n x i) (n + i) (byx x i)
def fd5 (ss : Nat → Int) (n : Nat) (x1 x2 x3 x4 x5 : Int) : Nat → Int := fdp (fdp (fdp (fdp (fdp ss n x1 4) (n + 4) x2 4) (n + 8) x3 4) (n + 12) x4 4) (n + 16) x5 4
theorem fdp_step {n i i2 m : Nat} {x z : Int} (hq : CT iv rv q (va_up (fdp ss n x i) m z)) (hi : i2 = i + 1) (hm : m = n + i) (hz : z = byx x i) : CT iv rv q (fdp ss n x i2) := by subst hi; subst hm; subst hz; exact hq
theorem byx_of {x k z1 z2 : Int} {i : Nat} (hk : k = 24 - 8 * (i : Int)) (e1 : ((iI x).toUInt32 >>> ((iI k).toUInt32 &&& Int32.toUInt32 31)).toInt32 = iI z1) (e2 : iI z1 &&& iI 255 = iI z2) (h2 : R32 z2) : z2 = byx x i := by
  subst hk; unfold byx; rw [e1, e2, iI_int h2]
end CTS
end
